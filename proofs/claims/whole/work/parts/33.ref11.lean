/-- the loads at first -/
def iniL (s : SG) (x : Nat) (M : LT) (i : Nat) : LT := fun k => if k < i then (if k = x then strS s x else 0) else M k
def finL (s : SG) (np ns x : Nat) : LT := itR (esM s ns) (np - 1) (iniL s x (s.2 14) np)
def chM (s : SG) (L : LT) : Nat → Bool
  | 0 => false
  | i + 1 => chM s L i || (if s.1 13 i = 0 then (decide (rnd (esM s i) L (enB s i) < lessL (rnd (esM s i) L (enA s i)) (capS s i (enB s i))) || decide (rel (enA s i) (enB s i) (capS s i (enB s i)) (rnd (esM s i) L) (enA s i) < lessL (rel (enA s i) (enB s i) (capS s i (enB s i)) (rnd (esM s i) L) (enB s i)) (capS s i (enA s i)))) else false)
theorem iniL_s (s : SG) (x : Nat) (M : LT) (i : Nat) (y : Int64) (h : y = if i = x then strS s x else 0) : sJ (sL s (iniL s x M i)) 14 i y = sL s (iniL s x M (i + 1)) := by
  refine Prod.ext rfl (funext fun k => ?_)
  show u2 (sL s _).2 14 i y k = (sL s _).2 k
  by_cases hk : k = 14
  · subst hk
    rw [u2_row, sL_14, sL_14]
    refine funext fun j => ?_
    simp only [iniL]
    by_cases h2 : j = i
    · subst h2; rw [if_pos rfl, if_pos (by omega), h]
    · have h3 : (j < i + 1) = (j < i) := by simp; omega
      simp only [h2, h3, if_false]
  · rw [u2_rown _ _ _ hk]; simp [sL, hk]
theorem iniL_0 (s : SG) (x : Nat) (M : LT) : iniL s x M 0 = M := funext fun k => by simp [iniL]
theorem esM_lt {s : SG} {np ns : Nat} (h : SV s np ns) (hnp : np ≤ 12) : ∀ i, i ≤ ns → ∀ e ∈ esM s i, e.1 < np ∧ e.2.1 < np := by
  intro i
  induction i with
  | zero => intro _ e he; cases he
  | succ i ih =>
    intro hi e he
    obtain ⟨a, b, ha, hb, e1, e2⟩ := h i (by omega)
    have n1 : enA s i = a := by show nat (s.1 10 i) = a; rw [e1]; exact nat_nI (by omega)
    have n2 : enB s i = b := by show nat (s.1 11 i) = b; rw [e2]; exact nat_nI (by omega)
    rw [esM] at he
    rcases List.mem_append.mp he with q | q
    · exact ih (by omega) e q
    · split at q
      · simp only [List.mem_cons, List.not_mem_nil, or_false] at q
        rcases q with rfl | rfl
        · exact ⟨by rw [n1]; exact ha, by rw [n2]; exact hb⟩
        · exact ⟨by rw [n2]; exact hb, by rw [n1]; exact ha⟩
      · cases q
theorem rnd_s (s : SG) (L : LT) (i : Nat) (h : s.1 13 i = 0) : rnd (esM s (i + 1)) L = rel (enB s i) (enA s i) (capS s i (enA s i)) (rel (enA s i) (enB s i) (capS s i (enB s i)) (rnd (esM s i) L)) := by
  rw [esM, if_pos h, rnd_app]; rfl
theorem rnd_n (s : SG) (L : LT) (i : Nat) (h : ¬ s.1 13 i = 0) : rnd (esM s (i + 1)) L = rnd (esM s i) L := by
  rw [esM, if_neg h, List.append_nil]
/-- nothing changes at the end: no edge can -/
theorem chM_no {s : SG} {L : LT} : ∀ i, (∀ e ∈ esM s i, ¬ L e.2.1 < lessL (L e.1) e.2.2) → chM s L i = false := by
  intro i
  induction i with
  | zero => intro _; rfl
  | succ i ih =>
    intro h
    have h1 : ∀ e ∈ esM s i, ¬ L e.2.1 < lessL (L e.1) e.2.2 := fun e he => h e (by rw [esM]; exact List.mem_append_left _ he)
    rw [chM, ih h1, rnd_fix h1]
    by_cases c : s.1 13 i = 0
    · have q1 := h (enA s i, enB s i, capS s i (enB s i)) (by rw [esM, if_pos c]; exact List.mem_append_right _ List.mem_cons_self)
      have q2 := h (enB s i, enA s i, capS s i (enA s i)) (by rw [esM, if_pos c]; exact List.mem_append_right _ (List.mem_cons_of_mem _ List.mem_cons_self))
      have e1 : rel (enA s i) (enB s i) (capS s i (enB s i)) L = L := by rw [rel, if_neg q1]
      rw [if_pos c, e1, decide_eq_false q1, decide_eq_false q2]
      rfl
    · rw [if_neg c]; rfl
theorem chM_fix {s : SG} {L : LT} : ∀ i, chM s L i = false → rnd (esM s i) L = L := by
  intro i
  induction i with
  | zero => intro _; rfl
  | succ i ih =>
    intro h
    rw [chM, Bool.or_eq_false_iff] at h
    have e := ih h.1
    by_cases c : s.1 13 i = 0
    · have h2 := h.2
      rw [if_pos c, Bool.or_eq_false_iff, e] at h2
      have q1 := of_decide_eq_false h2.1
      have e1 : rel (enA s i) (enB s i) (capS s i (enB s i)) L = L := by rw [rel, if_neg q1]
      have h3 := h2.2
      rw [e1] at h3
      have q2 := of_decide_eq_false h3
      rw [rnd_s s L i c, e, e1, rel, if_neg q2]
    · rw [rnd_n s L i c, e]
set_option maxRecDepth 100000 in
set_option maxHeartbeats 4000000 in
theorem l_X9_bo1 {D : DT} {K : KT} {m : Nat} {ad : AdT} {s : SG} (np ns x : Nat) {p2 : Int32} (h : PV s np) (h2 : SV s np ns) (hnp : np ≤ 12) (hns : ns ≤ 30) (hb : s.1 4 0 = nI np) (hc : s.1 9 0 = nI ns) (hx : x < np) (kk : ∀ (G : GT), MD m ad (sL s (iniL s x (s.2 14) np)) G → V cX9_bearsOf yX9_bearsOf.cls 7 rm_X9_bearsOf D K 36 [some (.ref m), some (.int (nI x)), some (.int p2), some (.int (nI np)), none, none, none] [] G (0, 0)) : ∀ (d i : Nat)  (G : GT), i + d = np → MD m ad (sL s (iniL s x (s.2 14) i)) G → V cX9_bearsOf yX9_bearsOf.cls 7 rm_X9_bearsOf D K 2 [some (.ref m), some (.int (nI x)), some (.int p2), some (.int (nI i)), none, none, none] [] G (0, 0) := by
  intro d
  induction d with
  | zero =>
    intro i  G he0 he1 
    have hG := he1
    refine v_iload_n (pc := 2) dX9_bearsOf_2 rfl rfl ?_
    refine v_aload_n (pc := 3) dX9_bearsOf_3 rfl rfl ?_
    refine vm_getI (pc := 4) (k := 4) hG dX9_bearsOf_4 fl_X9_107 rfl (by decide) (x := nI np) hb ?_
    refine v_icmp_ge (pc := 7) (tgt := 36) dX9_bearsOf_7 (by decide) (fun c7 => ?_) (fun c7 => absurd c7 (not_not_intro (by rw [show i = np by omega]; exact Int32.le_refl _)))
    have e : i = np := by omega
    subst e
    exact kk G he1
  | succ d ih =>
    intro i  G he0 he1 
    have hG := he1
    refine v_iload_n (pc := 2) dX9_bearsOf_2 rfl rfl ?_
    refine v_aload_n (pc := 3) dX9_bearsOf_3 rfl rfl ?_
    refine vm_getI (pc := 4) (k := 4) hG dX9_bearsOf_4 fl_X9_107 rfl (by decide) (x := nI np) hb ?_
    refine v_icmp_ge (pc := 7) (tgt := 36) dX9_bearsOf_7 (by decide) (fun c7 => absurd c7 (nI_ge (by omega) (by omega))) (fun c7 => ?_)
    refine v_aload_n (pc := 10) dX9_bearsOf_10 rfl rfl ?_
    refine vm_getA (pc := 11) (k := 14) hG dX9_bearsOf_11 fl_X9_44 (by decide) ?_
    refine v_iload_n (pc := 14) dX9_bearsOf_14 rfl rfl ?_
    refine v_iload_n (pc := 15) dX9_bearsOf_15 rfl rfl ?_
    refine v_iload_n (pc := 16) dX9_bearsOf_16 rfl rfl ?_
    refine v_icmp_ne (pc := 17) (tgt := 28) dX9_bearsOf_17 (by decide) (fun c17 => ?_) (fun c17 => ?_)
    · have e9 : (0 : Int64) = if i = x then strS s x else 0 := by rw [if_neg (fun e => c17 (by rw [e]))]
      refine v_lconst (pc := 28) (v := 0) dX9_bearsOf_28 (by decide) ?_
      refine vm_last (pc := 29) (k := 14) (j := i) hG dX9_bearsOf_29 rfl rfl (by have h0 : ml 14 = 12 := rfl; omega) (fun G hG => ?_)
      refine v_iinc (pc := 30) dX9_bearsOf_30 rfl (nI_1 i) rfl (by decide) ?_
      refine v_goto (pc := 33) (tgt := 2) dX9_bearsOf_33 (by decide) ?_
      exact ih (i + 1) G (by omega) (by rw [← iniL_s s x (s.2 14) i _ e9]; exact hG)
    · have e9 : strS s x = if i = x then strS s x else 0 := by rw [if_pos (nI_inj (by omega) (by omega) c17)]
      refine v_aload_n (pc := 20) dX9_bearsOf_20 rfl rfl ?_
      refine v_iload_n (pc := 21) dX9_bearsOf_21 rfl rfl ?_
      refine vm_callV1 (pc := 22) (0, 0) hG dX9_bearsOf_22 cw_X9_124 im_yX9_strengthOf se_yX9_strengthOf (c_X9_strengthOf D m ad _ x np h hx hnp) rfl (Nat.le_of_ble_eq_true rfl) ⟨Nat.le_of_ble_eq_true rfl, Nat.le_of_ble_eq_true rfl⟩ ⟨by decide, by decide⟩ rfl (fun v s1 G hp hG => ?_)
      obtain ⟨hv1, hs1⟩ := hp
      subst hv1
      subst s1
      refine v_goto (pc := 25) (tgt := 29) dX9_bearsOf_25 (by decide) ?_
      refine vm_last (pc := 29) (k := 14) (j := i) hG dX9_bearsOf_29 rfl rfl (by have h0 : ml 14 = 12 := rfl; omega) (fun G hG => ?_)
      refine v_iinc (pc := 30) dX9_bearsOf_30 rfl (nI_1 i) rfl (by decide) ?_
      refine v_goto (pc := 33) (tgt := 2) dX9_bearsOf_33 (by decide) ?_
      exact ih (i + 1) G (by omega) (by rw [← iniL_s s x (s.2 14) i _ e9]; exact hG)
theorem b01_or (a b : Bool) : b01 (a || b) = if b01 a = 0 then b01 b else 1 := by cases a <;> cases b <;> rfl
set_option maxRecDepth 100000 in
set_option maxHeartbeats 4000000 in
theorem l_X9_bo2 {D : DT} {K : KT} {m : Nat} {ad : AdT} {s : SG} (np ns : Nat) (L : LT) {p1 p2 : Int32} (h : PV s np) (h2 : SV s np ns) (hnp : np ≤ 12) (hns : ns ≤ 30) (hb : s.1 4 0 = nI np) (hc : s.1 9 0 = nI ns) (kk : ∀ (w5 w6 : Option Value) (G : GT), MD m ad (sL s (rnd (esM s ns) L)) G → V cX9_bearsOf yX9_bearsOf.cls 7 rm_X9_bearsOf D K 136 [some (.ref m), some (.int p1), some (.int p2), some (.int (b01 (chM s L ns))), some (.int (nI ns)), w5, w6] [] G (0, 0)) : ∀ (d i : Nat) (w5 w6 : Option Value) (G : GT), i + d = ns → MD m ad (sL s (rnd (esM s i) L)) G → V cX9_bearsOf yX9_bearsOf.cls 7 rm_X9_bearsOf D K 47 [some (.ref m), some (.int p1), some (.int p2), some (.int (b01 (chM s L i))), some (.int (nI i)), w5, w6] [] G (0, 0) := by
  intro d
  induction d with
  | zero =>
    intro i w5 w6 G he0 he1 
    have hG := he1
    refine v_iload (pc := 47) dX9_bearsOf_47 rfl ?_
    refine v_aload_n (pc := 49) dX9_bearsOf_49 rfl rfl ?_
    refine vm_getI (pc := 50) (k := 9) hG dX9_bearsOf_50 fl_X9_135 rfl (by decide) (x := nI ns) hc ?_
    refine v_icmp_ge (pc := 53) (tgt := 136) dX9_bearsOf_53 (by decide) (fun c53 => ?_) (fun c53 => absurd c53 (not_not_intro (by rw [show i = ns by omega]; exact Int32.le_refl _)))
    have e : i = ns := by omega
    subst e
    exact kk _ _ G he1
  | succ d ih =>
    intro i w5 w6 G he0 he1 
    have hG := he1
    obtain ⟨a, b, ha, hb2, e1, e2⟩ := h2 i (by omega)
    have n1 : enA s i = a := (by show nat (s.1 10 i) = a; rw [e1]; exact nat_nI (by omega))
    have n2 : enB s i = b := (by show nat (s.1 11 i) = b; rw [e2]; exact nat_nI (by omega))
    refine v_iload (pc := 47) dX9_bearsOf_47 rfl ?_
    refine v_aload_n (pc := 49) dX9_bearsOf_49 rfl rfl ?_
    refine vm_getI (pc := 50) (k := 9) hG dX9_bearsOf_50 fl_X9_135 rfl (by decide) (x := nI ns) hc ?_
    refine v_icmp_ge (pc := 53) (tgt := 136) dX9_bearsOf_53 (by decide) (fun c53 => absurd c53 (nI_ge (by omega) (by omega))) (fun c53 => ?_)
    refine v_aload_n (pc := 56) dX9_bearsOf_56 rfl rfl ?_
    refine vm_getA (pc := 57) (k := 13) hG dX9_bearsOf_57 fl_X9_41 (by decide) ?_
    refine v_iload (pc := 60) dX9_bearsOf_60 rfl ?_
    refine vm_zald (pc := 62) (k := 13) (j := i) hG dX9_bearsOf_62 rfl rfl (by have h0 : ml 13 = 30 := rfl; omega) (x := s.1 13 i) rfl ?_
    refine v_if_ne (pc := 63) (tgt := 130) dX9_bearsOf_63 (by decide) (fun c63 => ?_) (fun c63 => ?_)
    · have e7 := rnd_n s L i c63
      have e9 : chM s L (i + 1) = chM s L i := by rw [chM, if_neg c63, Bool.or_false]
      refine v_iinc (pc := 130) dX9_bearsOf_130 rfl (nI_1 i) rfl (by decide) ?_
      refine v_goto (pc := 133) (tgt := 47) dX9_bearsOf_133 (by decide) ?_
      have e8 := fun w5 w6 => ih (i + 1) w5 w6 G (by omega) (by rw [e7]; exact hG)
      simp only [e9] at e8
      exact e8 _ _
    · have e7 := rnd_s s L i c63
      rw [n1, n2] at e7
      refine v_aload_n (pc := 66) dX9_bearsOf_66 rfl rfl ?_
      refine v_aload_n (pc := 67) dX9_bearsOf_67 rfl rfl ?_
      refine vm_getA (pc := 68) (k := 10) hG dX9_bearsOf_68 fl_X9_32 (by decide) ?_
      refine v_iload (pc := 71) dX9_bearsOf_71 rfl ?_
      refine vm_iald (pc := 73) (k := 10) (j := i) hG dX9_bearsOf_73 rfl rfl (by have h0 : ml 10 = 30 := rfl; omega) (x := nI a) e1 ?_
      refine v_aload_n (pc := 74) dX9_bearsOf_74 rfl rfl ?_
      refine vm_getA (pc := 75) (k := 11) hG dX9_bearsOf_75 fl_X9_35 (by decide) ?_
      refine v_iload (pc := 78) dX9_bearsOf_78 rfl ?_
      refine vm_iald (pc := 80) (k := 11) (j := i) hG dX9_bearsOf_80 rfl rfl (by have h0 : ml 11 = 30 := rfl; omega) (x := nI b) e2 ?_
      refine v_iload (pc := 81) dX9_bearsOf_81 rfl ?_
      refine vm_callV3 (pc := 83) (0, 0) hG dX9_bearsOf_83 cw_X9_147 im_yX9_comes se_yX9_comes (c_X9_comes D m ad _ a b i np ns s (rnd (esM s i) L) h h2 ha hb2 (by omega) hnp hns rfl) rfl (Nat.le_of_ble_eq_true rfl) ⟨Nat.le_of_ble_eq_true rfl, Nat.le_of_ble_eq_true rfl⟩ ⟨by decide, by decide⟩ rfl (fun v s1 G hp hG => ?_)
      obtain ⟨hv1, hs1⟩ := hp
      subst hv1
      subst s1
      refine v_istore (pc := 86) dX9_bearsOf_86 rfl (by decide) ?_
      refine v_aload_n (pc := 88) dX9_bearsOf_88 rfl rfl ?_
      refine v_aload_n (pc := 89) dX9_bearsOf_89 rfl rfl ?_
      refine vm_getA (pc := 90) (k := 11) hG dX9_bearsOf_90 fl_X9_35 (by decide) ?_
      refine v_iload (pc := 93) dX9_bearsOf_93 rfl ?_
      refine vm_iald (pc := 95) (k := 11) (j := i) hG dX9_bearsOf_95 rfl rfl (by have h0 : ml 11 = 30 := rfl; omega) (x := nI b) e2 ?_
      refine v_aload_n (pc := 96) dX9_bearsOf_96 rfl rfl ?_
      refine vm_getA (pc := 97) (k := 10) hG dX9_bearsOf_97 fl_X9_32 (by decide) ?_
      refine v_iload (pc := 100) dX9_bearsOf_100 rfl ?_
      refine vm_iald (pc := 102) (k := 10) (j := i) hG dX9_bearsOf_102 rfl rfl (by have h0 : ml 10 = 30 := rfl; omega) (x := nI a) e1 ?_
      refine v_iload (pc := 103) dX9_bearsOf_103 rfl ?_
      refine vm_callV3 (pc := 105) (0, 0) hG dX9_bearsOf_105 cw_X9_147 im_yX9_comes se_yX9_comes (c_X9_comes D m ad _ b a i np ns s (rel a b (capS s i b) (rnd (esM s i) L)) h h2 hb2 ha (by omega) hnp hns rfl) rfl (Nat.le_of_ble_eq_true rfl) ⟨Nat.le_of_ble_eq_true rfl, Nat.le_of_ble_eq_true rfl⟩ ⟨by decide, by decide⟩ rfl (fun v s1 G hp hG => ?_)
      obtain ⟨hv1, hs1⟩ := hp
      subst hv1
      subst s1
      refine v_istore (pc := 108) dX9_bearsOf_108 rfl (by decide) ?_
      refine v_iload_n (pc := 110) dX9_bearsOf_110 rfl rfl ?_
      refine v_if_ne (pc := 111) (tgt := 124) dX9_bearsOf_111 (by decide) (fun c111 => ?_) (fun c111 => ?_)
      · have e9 : b01 (chM s L (i + 1)) = 1 := by rw [chM, b01_or, if_neg c111]
        refine v_iconst (pc := 124) (v := 1) dX9_bearsOf_124 (by decide) ?_
        refine v_goto (pc := 125) (tgt := 129) dX9_bearsOf_125 (by decide) ?_
        refine v_istore_n (pc := 129) dX9_bearsOf_129 rfl rfl (by decide) ?_
        refine v_iinc (pc := 130) dX9_bearsOf_130 rfl (nI_1 i) rfl (by decide) ?_
        refine v_goto (pc := 133) (tgt := 47) dX9_bearsOf_133 (by decide) ?_
        have e8 := fun w5 w6 => ih (i + 1) w5 w6 G (by omega) (by rw [e7]; exact hG)
        simp only [e9] at e8
        exact e8 _ _
      · have z0 : b01 (chM s L i) = 0 := c111
        refine v_iload (pc := 114) dX9_bearsOf_114 rfl ?_
        refine v_if_ne (pc := 116) (tgt := 124) dX9_bearsOf_116 (by decide) (fun c116 => ?_) (fun c116 => ?_)
        · rw [b2i_0, Decidable.not_not] at c116
          have c116 : rnd (esM s i) L b < lessL (rnd (esM s i) L a) (capS s i b) := c116
          have e9 : b01 (chM s L (i + 1)) = 1 := by rw [chM, b01_or, if_pos z0, if_pos c63, n1, n2, decide_eq_true c116]; rfl
          refine v_iconst (pc := 124) (v := 1) dX9_bearsOf_124 (by decide) ?_
          refine v_goto (pc := 125) (tgt := 129) dX9_bearsOf_125 (by decide) ?_
          refine v_istore_n (pc := 129) dX9_bearsOf_129 rfl rfl (by decide) ?_
          refine v_iinc (pc := 130) dX9_bearsOf_130 rfl (nI_1 i) rfl (by decide) ?_
          refine v_goto (pc := 133) (tgt := 47) dX9_bearsOf_133 (by decide) ?_
          have e8 := fun w5 w6 => ih (i + 1) w5 w6 G (by omega) (by rw [e7]; exact hG)
          simp only [e9] at e8
          exact e8 _ _
        · rw [b2i_0] at c116
          have c116 : ¬ rnd (esM s i) L b < lessL (rnd (esM s i) L a) (capS s i b) := c116
          refine v_iload (pc := 119) dX9_bearsOf_119 rfl ?_
          refine v_if_eq (pc := 121) (tgt := 128) dX9_bearsOf_121 (by decide) (fun c121 => ?_) (fun c121 => ?_)
          · rw [b2i_0] at c121
            have c121 : ¬ rel a b (capS s i b) (rnd (esM s i) L) a < lessL (rel a b (capS s i b) (rnd (esM s i) L) b) (capS s i a) := c121
            have e9 : b01 (chM s L (i + 1)) = 0 := by rw [chM, b01_or, if_pos z0, if_pos c63, n1, n2, decide_eq_false c116, decide_eq_false c121]; rfl
            refine v_iconst (pc := 128) (v := 0) dX9_bearsOf_128 (by decide) ?_
            refine v_istore_n (pc := 129) dX9_bearsOf_129 rfl rfl (by decide) ?_
            refine v_iinc (pc := 130) dX9_bearsOf_130 rfl (nI_1 i) rfl (by decide) ?_
            refine v_goto (pc := 133) (tgt := 47) dX9_bearsOf_133 (by decide) ?_
            have e8 := fun w5 w6 => ih (i + 1) w5 w6 G (by omega) (by rw [e7]; exact hG)
            simp only [e9] at e8
            exact e8 _ _
          · rw [b2i_0, Decidable.not_not] at c121
            have c121 : rel a b (capS s i b) (rnd (esM s i) L) a < lessL (rel a b (capS s i b) (rnd (esM s i) L) b) (capS s i a) := c121
            have e9 : b01 (chM s L (i + 1)) = 1 := by rw [chM, b01_or, if_pos z0, if_pos c63, n1, n2, decide_eq_false c116, decide_eq_true c121]; rfl
            refine v_iconst (pc := 124) (v := 1) dX9_bearsOf_124 (by decide) ?_
            refine v_goto (pc := 125) (tgt := 129) dX9_bearsOf_125 (by decide) ?_
            refine v_istore_n (pc := 129) dX9_bearsOf_129 rfl rfl (by decide) ?_
            refine v_iinc (pc := 130) dX9_bearsOf_130 rfl (nI_1 i) rfl (by decide) ?_
            refine v_goto (pc := 133) (tgt := 47) dX9_bearsOf_133 (by decide) ?_
            have e8 := fun w5 w6 => ih (i + 1) w5 w6 G (by omega) (by rw [e7]; exact hG)
            simp only [e9] at e8
            exact e8 _ _
set_option maxRecDepth 100000 in
set_option maxHeartbeats 4000000 in
theorem l_X9_bo3 {D : DT} {K : KT} {m : Nat} {ad : AdT} {s : SG} (np ns x : Nat) (L0 : LT) {p1 p2 : Int32} (h : PV s np) (h2 : SV s np ns) (hnp : np ≤ 12) (hns : ns ≤ 30) (hb : s.1 4 0 = nI np) (hc : s.1 9 0 = nI ns) (hx : x < np) (hz : ∀ v, v < np → (0 : Int64) ≤ L0 v) (hz1 : ∀ v, v < np → v ≠ x → L0 v = 0) (kk : ∀ (w4 w5 w6 : Option Value) (G : GT), MD m ad (sL s (itR (esM s ns) (np - 1) L0)) G → V cX9_bearsOf yX9_bearsOf.cls 7 rm_X9_bearsOf D K 139 [some (.ref m), some (.int p1), some (.int p2), some (.int 0), w4, w5, w6] [] G (0, 0)) : ∀ (d i : Nat) (w4 w5 w6 : Option Value) (G : GT), i + d = np - 1 → MD m ad (sL s (itR (esM s ns) i L0)) G → V cX9_bearsOf yX9_bearsOf.cls 7 rm_X9_bearsOf D K 38 [some (.ref m), some (.int p1), some (.int p2), some (.int 1), w4, w5, w6] [] G (0, 0) := by
  intro d
  induction d with
  | zero =>
    intro i w4 w5 w6 G he0 he1 
    have hG := he1
    refine v_iload_n (pc := 38) dX9_bearsOf_38 rfl rfl ?_
    refine v_if_eq (pc := 39) (tgt := 139) dX9_bearsOf_39 (by decide) (fun c39 => absurd c39 (by decide)) (fun c39 => ?_)
    refine v_iconst (pc := 42) (v := 0) dX9_bearsOf_42 (by decide) ?_
    refine v_istore_n (pc := 43) dX9_bearsOf_43 rfl rfl (by decide) ?_
    refine v_iconst (pc := 44) (v := 0) dX9_bearsOf_44 (by decide) ?_
    refine v_istore (pc := 45) dX9_bearsOf_45 rfl (by decide) ?_
    refine l_X9_bo2 (s := s) np ns (itR (esM s ns) i L0) h h2 hnp hns hb hc (fun w5 w6 G hG => ?_) ns 0 _ _ G (by omega) hG
    have hG : MD m ad (sL s (itR (esM s ns) (i + 1) L0)) G := hG
    have hz9 : chM s (itR (esM s ns) i L0) ns = false := by
      rw [show i = np - 1 by omega]
      exact chM_no ns (bf_fix hx (esM_lt h2 hnp ns (Nat.le_refl ns)) hz hz1)
    rw [hz9, show b01 false = 0 from rfl]
    refine v_goto (pc := 136) (tgt := 38) dX9_bearsOf_136 (by decide) ?_
    refine v_iload_n (pc := 38) dX9_bearsOf_38 rfl rfl ?_
    refine v_if_eq (pc := 39) (tgt := 139) dX9_bearsOf_39 (by decide) (fun c39 => ?_) (fun c39 => absurd c39 (by decide))
    have e9 : itR (esM s ns) (i + 1) L0 = itR (esM s ns) i L0 := chM_fix ns hz9
    rw [e9, show i = np - 1 by omega] at hG
    exact kk _ _ _ G hG
  | succ d ih =>
    intro i w4 w5 w6 G he0 he1 
    have hG := he1
    refine v_iload_n (pc := 38) dX9_bearsOf_38 rfl rfl ?_
    refine v_if_eq (pc := 39) (tgt := 139) dX9_bearsOf_39 (by decide) (fun c39 => absurd c39 (by decide)) (fun c39 => ?_)
    refine v_iconst (pc := 42) (v := 0) dX9_bearsOf_42 (by decide) ?_
    refine v_istore_n (pc := 43) dX9_bearsOf_43 rfl rfl (by decide) ?_
    refine v_iconst (pc := 44) (v := 0) dX9_bearsOf_44 (by decide) ?_
    refine v_istore (pc := 45) dX9_bearsOf_45 rfl (by decide) ?_
    refine l_X9_bo2 (s := s) np ns (itR (esM s ns) i L0) h h2 hnp hns hb hc (fun w5 w6 G hG => ?_) ns 0 _ _ G (by omega) hG
    have hG : MD m ad (sL s (itR (esM s ns) (i + 1) L0)) G := hG
    cases hz9 : chM s (itR (esM s ns) i L0) ns with
    | false =>
      rw [show b01 false = 0 from rfl]
      refine v_goto (pc := 136) (tgt := 38) dX9_bearsOf_136 (by decide) ?_
      refine v_iload_n (pc := 38) dX9_bearsOf_38 rfl rfl ?_
      refine v_if_eq (pc := 39) (tgt := 139) dX9_bearsOf_39 (by decide) (fun c39 => ?_) (fun c39 => absurd c39 (by decide))
      have e9 : itR (esM s ns) (i + 1) L0 = itR (esM s ns) i L0 := chM_fix ns hz9
      have e8 : itR (esM s ns) (np - 1) L0 = itR (esM s ns) i L0 := by
        rw [show np - 1 = (d + 1) + i by omega, itR_add]
        exact itR_fix e9 (d + 1)
      rw [e9, ← e8] at hG
      exact kk _ _ _ G hG
    | true =>
      rw [show b01 true = 1 from rfl]
      refine v_goto (pc := 136) (tgt := 38) dX9_bearsOf_136 (by decide) ?_
      exact ih (i + 1) _ _ _ G (by omega) hG
set_option maxRecDepth 100000 in
set_option maxHeartbeats 4000000 in
theorem c_X9_bearsOf (D : DT) (m : Nat) (ad : AdT) (s : SG) (x y np ns : Nat)  (h : PV s np) (h2 : SV s np ns) (hnp : np ≤ 12) (hns : ns ≤ 30) (hb : s.1 4 0 = nI np) (hc : s.1 9 0 = nI ns) (hx : x < np) (hy : y < np) (hst : (0 : Int64) ≤ strS s x) : MM yX9_bearsOf cX9_bearsOf 7 (Option.some Jvm.ClassFile.FieldType.long) rm_X9_bearsOf D [.ref m, .int (nI x), .int (nI y)] m ad s (fun v s' => v = some (.long (finL s np ns x y)) ∧ s' = sL s (finL s np ns x)) := by
  intro G hG
  refine MC_of (by decide +kernel) (Nat.le_of_ble_eq_true rfl) (fun K sz hR => ?_)
  show V cX9_bearsOf _ 7 _ D K 0 [some (.ref m), some (.int (nI x)), some (.int (nI y)), none, none, none, none] [] G (0, 0)
  refine v_iconst (pc := 0) (v := 0) dX9_bearsOf_0 (by decide) ?_
  refine v_istore_n (pc := 1) dX9_bearsOf_1 rfl rfl (by decide) ?_
  refine l_X9_bo1 (s := s) np ns x h h2 hnp hns hb hc hx (fun G hG => ?_) np 0 G (by omega) (by rw [iniL_0, sL_self]; exact hG)
  refine v_iconst (pc := 36) (v := 1) dX9_bearsOf_36 (by decide) ?_
  refine v_istore_n (pc := 37) dX9_bearsOf_37 rfl rfl (by decide) ?_
  refine l_X9_bo3 (s := s) np ns x (iniL s x (s.2 14) np) h h2 hnp hns hb hc hx (fun v hv => ?_) (fun v hv hvx => ?_) (fun w4 w5 w6 G hG => ?_) (np - 1) 0 _ _ _ G (by omega) hG
  · simp only [iniL, hv, if_true]
    split
    · exact hst
    · exact Int64.le_refl 0
  · simp only [iniL, hv, hvx, if_true, if_false]
  · refine v_aload_n (pc := 139) dX9_bearsOf_139 rfl rfl ?_
    refine vm_getA (pc := 140) (k := 14) hG dX9_bearsOf_140 fl_X9_44 (by decide) ?_
    refine v_iload_n (pc := 143) dX9_bearsOf_143 rfl rfl ?_
    refine vm_lald (pc := 144) (k := 14) (j := y) hG dX9_bearsOf_144 rfl rfl (by have h0 : ml 14 = 12 := rfl; omega) rfl ?_
    refine v_lret (pc := 145) hR dX9_bearsOf_145 ⟨by decide, by decide⟩ ?_
    exact ⟨_, hG, rfl, rfl⟩
def kBe (b : Nat) (p0 p1 : Int32) : Int32 := if btw p0 0 (nI b - 1) ∧ btw p1 0 (nI b - 1) then 0 else 1
theorem esM_thr (s : SG) (x : Int32) : ∀ i, esM (thr s x) i = esM s i := by
  intro i
  induction i with
  | zero => rfl
  | succ i ih => rw [esM, esM, ih]; rfl
theorem finL_thr (s : SG) (k : Int32) (np ns x : Nat) : finL (thr s k) np ns x = finL s np ns x := by
  rw [finL, finL, esM_thr]; rfl
set_option maxRecDepth 100000 in
set_option maxHeartbeats 4000000 in
theorem c_X9_bears (D : DT) (m : Nat) (ad : AdT) (s : SG) (np ns : Nat) (p0 : Int32) (p1 : Int32) (h : PV s np) (h2 : SV s np ns) (hnp : np ≤ 12) (hns : ns ≤ 30) (hb : s.1 4 0 = nI np) (hc : s.1 9 0 = nI ns) (hst : ∀ x, x < np → (0 : Int64) ≤ strS s x) : MM yX9_bears cX9_bears 3 (Option.some Jvm.ClassFile.FieldType.long) rm_X9_bears D [.ref m, .int p0, .int p1] m ad s (fun v s' => v = some (.long (if kBe np p0 p1 = 0 then finL s np ns (nat p0) (nat p1) else 0)) ∧ s' = if kBe np p0 p1 = 0 then sL (thr s 0) (finL s np ns (nat p0)) else thr s (kBe np p0 p1)) := by
  intro G hG
  refine MC_of (by decide +kernel) (Nat.le_of_ble_eq_true rfl) (fun K sz hR => ?_)
  show V cX9_bears _ 3 _ D K 0 [some (.ref m), some (.int p0), some (.int p1)] [] G (0, 0)
  refine v_aload_n (pc := 0) dX9_bears_0 rfl rfl ?_
  refine v_aload_n (pc := 1) dX9_bears_1 rfl rfl ?_
  refine v_iload_n (pc := 2) dX9_bears_2 rfl rfl ?_
  refine vm_callV1 (pc := 3) (0, 0) hG dX9_bears_3 cw_X9_121 im_yX9_isPanel se_yX9_isPanel (c_X9_isPanel D m ad _ _ ) rfl (Nat.le_of_ble_eq_true rfl) ⟨Nat.le_of_ble_eq_true rfl, Nat.le_of_ble_eq_true rfl⟩ ⟨by decide, by decide⟩ rfl (fun v s1 G hp hG => ?_)
  obtain ⟨hv1, hs1⟩ := hp
  subst hv1
  subst s1
  refine v_if_eq (pc := 6) (tgt := 21) dX9_bears_6 (by decide) (fun c6 => ?_) (fun c6 => ?_)
  · rw [b2i_0] at c6
    rw [hb] at c6
    have hk : kBe np p0 p1 = 1 := by rw [kBe, if_neg (fun z => c6 z.1)]
    refine v_iconst (pc := 21) (v := 1) dX9_bears_21 (by decide) ?_
    refine vm_callV1 (pc := 22) (0, 0) hG dX9_bears_22 cw_X9_111 im_yX9_goes se_yX9_goes (c_X9_goes D m ad _ _ ) rfl (Nat.le_of_ble_eq_true rfl) ⟨Nat.le_of_ble_eq_true rfl, Nat.le_of_ble_eq_true rfl⟩ ⟨by decide, by decide⟩ rfl (fun v s1 G hp hG => ?_)
    obtain ⟨hv1, hs1⟩ := hp
    subst hv1
    subst s1
    refine v_if_eq (pc := 25) (tgt := 37) dX9_bears_25 (by decide) (fun c25 => ?_) (fun c25 => absurd c25 (by decide))
    refine v_lconst (pc := 37) (v := 0) dX9_bears_37 (by decide) ?_
    refine v_lret (pc := 38) hR dX9_bears_38 ⟨by decide, by decide⟩ ?_
    first
      | exact ⟨_, hG, by rw [if_pos hk, en, en2]; exact congrArg (fun z => some (Value.long z)) (congrFun (finL_thr s 0 np ns x) y), by rw [if_pos hk, en, ← finL_thr s 0]⟩
      | exact ⟨_, hG, by simp [hk], by simp [hk]⟩
  · rw [b2i_0, Decidable.not_not] at c6
    rw [hb] at c6
    refine v_aload_n (pc := 9) dX9_bears_9 rfl rfl ?_
    refine v_iload_n (pc := 10) dX9_bears_10 rfl rfl ?_
    refine vm_callV1 (pc := 11) (0, 0) hG dX9_bears_11 cw_X9_121 im_yX9_isPanel se_yX9_isPanel (c_X9_isPanel D m ad _ _ ) rfl (Nat.le_of_ble_eq_true rfl) ⟨Nat.le_of_ble_eq_true rfl, Nat.le_of_ble_eq_true rfl⟩ ⟨by decide, by decide⟩ rfl (fun v s1 G hp hG => ?_)
    obtain ⟨hv1, hs1⟩ := hp
    subst hv1
    subst s1
    refine v_if_eq (pc := 14) (tgt := 21) dX9_bears_14 (by decide) (fun c14 => ?_) (fun c14 => ?_)
    · rw [b2i_0] at c14
      rw [hb] at c14
      have hk : kBe np p0 p1 = 1 := by rw [kBe, if_neg (fun z => c14 z.2)]
      refine v_iconst (pc := 21) (v := 1) dX9_bears_21 (by decide) ?_
      refine vm_callV1 (pc := 22) (0, 0) hG dX9_bears_22 cw_X9_111 im_yX9_goes se_yX9_goes (c_X9_goes D m ad _ _ ) rfl (Nat.le_of_ble_eq_true rfl) ⟨Nat.le_of_ble_eq_true rfl, Nat.le_of_ble_eq_true rfl⟩ ⟨by decide, by decide⟩ rfl (fun v s1 G hp hG => ?_)
      obtain ⟨hv1, hs1⟩ := hp
      subst hv1
      subst s1
      refine v_if_eq (pc := 25) (tgt := 37) dX9_bears_25 (by decide) (fun c25 => ?_) (fun c25 => absurd c25 (by decide))
      refine v_lconst (pc := 37) (v := 0) dX9_bears_37 (by decide) ?_
      refine v_lret (pc := 38) hR dX9_bears_38 ⟨by decide, by decide⟩ ?_
      first
        | exact ⟨_, hG, by rw [if_pos hk, en, en2]; exact congrArg (fun z => some (Value.long z)) (congrFun (finL_thr s 0 np ns x) y), by rw [if_pos hk, en, ← finL_thr s 0]⟩
        | exact ⟨_, hG, by simp [hk], by simp [hk]⟩
    · rw [b2i_0, Decidable.not_not] at c14
      rw [hb] at c14
      have hk : kBe np p0 p1 = 0 := by rw [kBe, if_pos ⟨c6, c14⟩]
      obtain ⟨x, hx, rfl⟩ := (btw_ix (a := np) (by omega)).mp c6
      obtain ⟨y, hy, rfl⟩ := (btw_ix (a := np) (by omega)).mp c14
      have en : nat (nI x) = x := nat_nI (by omega)
      have en2 : nat (nI y) = y := nat_nI (by omega)
      refine v_iconst (pc := 17) (v := 0) dX9_bears_17 (by decide) ?_
      refine v_goto (pc := 18) (tgt := 22) dX9_bears_18 (by decide) ?_
      refine vm_callV1 (pc := 22) (0, 0) hG dX9_bears_22 cw_X9_111 im_yX9_goes se_yX9_goes (c_X9_goes D m ad _ _ ) rfl (Nat.le_of_ble_eq_true rfl) ⟨Nat.le_of_ble_eq_true rfl, Nat.le_of_ble_eq_true rfl⟩ ⟨by decide, by decide⟩ rfl (fun v s1 G hp hG => ?_)
      obtain ⟨hv1, hs1⟩ := hp
      subst hv1
      subst s1
      refine v_if_eq (pc := 25) (tgt := 37) dX9_bears_25 (by decide) (fun c25 => absurd c25 (by decide)) (fun c25 => ?_)
      refine v_aload_n (pc := 28) dX9_bears_28 rfl rfl ?_
      refine v_iload_n (pc := 29) dX9_bears_29 rfl rfl ?_
      refine v_iload_n (pc := 30) dX9_bears_30 rfl rfl ?_
      refine vm_callV2 (pc := 31) (0, 0) hG dX9_bears_31 cw_X9_150 im_yX9_bearsOf se_yX9_bearsOf (c_X9_bearsOf D m ad _ x y np ns h h2 hnp hns hb hc hx hy (hst x hx)) rfl (Nat.le_of_ble_eq_true rfl) ⟨Nat.le_of_ble_eq_true rfl, Nat.le_of_ble_eq_true rfl⟩ ⟨by decide, by decide⟩ rfl (fun v s1 G hp hG => ?_)
      obtain ⟨hv1, hs1⟩ := hp
      subst hv1
      subst s1
      refine v_goto (pc := 34) (tgt := 38) dX9_bears_34 (by decide) ?_
      refine v_lret (pc := 38) hR dX9_bears_38 ⟨by decide, by decide⟩ ?_
      first
        | exact ⟨_, hG, by rw [if_pos hk, en, en2]; exact congrArg (fun z => some (Value.long z)) (congrFun (finL_thr s 0 np ns x) y), by rw [if_pos hk, en, ← finL_thr s 0]⟩
        | exact ⟨_, hG, by simp [hk], by simp [hk]⟩
set_option maxRecDepth 100000 in
set_option maxHeartbeats 4000000 in
theorem c_X9_bearsAnew (D : DT) (m : Nat) (ad : AdT) (s : SG) (np ns : Nat) (p0 : Int32) (p1 : Int32) (h : PV s np) (h2 : SV s np ns) (hnp : np ≤ 12) (hns : ns ≤ 30) (hb : s.1 4 0 = nI np) (hc : s.1 9 0 = nI ns) (hst : ∀ x, x < np → (0 : Int64) ≤ strS s x) : MM yX9_bearsAnew cX9_bearsAnew 3 (Option.some Jvm.ClassFile.FieldType.long) rm_X9_bearsAnew D [.ref m, .int p0, .int p1] m ad s (fun v s' => v = some (.long (if kBe np p0 p1 = 0 then finL s np ns (nat p0) (nat p1) else 0)) ∧ s' = if kBe np p0 p1 = 0 then sL (thr s 0) (finL s np ns (nat p0)) else thr s (kBe np p0 p1)) := by
  intro G hG
  refine MC_of (by decide +kernel) (Nat.le_of_ble_eq_true rfl) (fun K sz hR => ?_)
  show V cX9_bearsAnew _ 3 _ D K 0 [some (.ref m), some (.int p0), some (.int p1)] [] G (0, 0)
  refine v_aload_n (pc := 0) dX9_bearsAnew_0 rfl rfl ?_
  refine v_aload_n (pc := 1) dX9_bearsAnew_1 rfl rfl ?_
  refine v_iload_n (pc := 2) dX9_bearsAnew_2 rfl rfl ?_
  refine vm_callV1 (pc := 3) (0, 0) hG dX9_bearsAnew_3 cw_X9_121 im_yX9_isPanel se_yX9_isPanel (c_X9_isPanel D m ad _ _ ) rfl (Nat.le_of_ble_eq_true rfl) ⟨Nat.le_of_ble_eq_true rfl, Nat.le_of_ble_eq_true rfl⟩ ⟨by decide, by decide⟩ rfl (fun v s1 G hp hG => ?_)
  obtain ⟨hv1, hs1⟩ := hp
  subst hv1
  subst s1
  refine v_if_eq (pc := 6) (tgt := 21) dX9_bearsAnew_6 (by decide) (fun c6 => ?_) (fun c6 => ?_)
  · rw [b2i_0] at c6
    rw [hb] at c6
    have hk : kBe np p0 p1 = 1 := by rw [kBe, if_neg (fun z => c6 z.1)]
    refine v_iconst (pc := 21) (v := 1) dX9_bearsAnew_21 (by decide) ?_
    refine vm_callV1 (pc := 22) (0, 0) hG dX9_bearsAnew_22 cw_X9_111 im_yX9_goes se_yX9_goes (c_X9_goes D m ad _ _ ) rfl (Nat.le_of_ble_eq_true rfl) ⟨Nat.le_of_ble_eq_true rfl, Nat.le_of_ble_eq_true rfl⟩ ⟨by decide, by decide⟩ rfl (fun v s1 G hp hG => ?_)
    obtain ⟨hv1, hs1⟩ := hp
    subst hv1
    subst s1
    refine v_if_eq (pc := 25) (tgt := 37) dX9_bearsAnew_25 (by decide) (fun c25 => ?_) (fun c25 => absurd c25 (by decide))
    refine v_lconst (pc := 37) (v := 0) dX9_bearsAnew_37 (by decide) ?_
    refine v_lret (pc := 38) hR dX9_bearsAnew_38 ⟨by decide, by decide⟩ ?_
    first
      | exact ⟨_, hG, by rw [if_pos hk, en, en2]; exact congrArg (fun z => some (Value.long z)) (congrFun (finL_thr s 0 np ns x) y), by rw [if_pos hk, en, ← finL_thr s 0]⟩
      | exact ⟨_, hG, by simp [hk], by simp [hk]⟩
  · rw [b2i_0, Decidable.not_not] at c6
    rw [hb] at c6
    refine v_aload_n (pc := 9) dX9_bearsAnew_9 rfl rfl ?_
    refine v_iload_n (pc := 10) dX9_bearsAnew_10 rfl rfl ?_
    refine vm_callV1 (pc := 11) (0, 0) hG dX9_bearsAnew_11 cw_X9_121 im_yX9_isPanel se_yX9_isPanel (c_X9_isPanel D m ad _ _ ) rfl (Nat.le_of_ble_eq_true rfl) ⟨Nat.le_of_ble_eq_true rfl, Nat.le_of_ble_eq_true rfl⟩ ⟨by decide, by decide⟩ rfl (fun v s1 G hp hG => ?_)
    obtain ⟨hv1, hs1⟩ := hp
    subst hv1
    subst s1
    refine v_if_eq (pc := 14) (tgt := 21) dX9_bearsAnew_14 (by decide) (fun c14 => ?_) (fun c14 => ?_)
    · rw [b2i_0] at c14
      rw [hb] at c14
      have hk : kBe np p0 p1 = 1 := by rw [kBe, if_neg (fun z => c14 z.2)]
      refine v_iconst (pc := 21) (v := 1) dX9_bearsAnew_21 (by decide) ?_
      refine vm_callV1 (pc := 22) (0, 0) hG dX9_bearsAnew_22 cw_X9_111 im_yX9_goes se_yX9_goes (c_X9_goes D m ad _ _ ) rfl (Nat.le_of_ble_eq_true rfl) ⟨Nat.le_of_ble_eq_true rfl, Nat.le_of_ble_eq_true rfl⟩ ⟨by decide, by decide⟩ rfl (fun v s1 G hp hG => ?_)
      obtain ⟨hv1, hs1⟩ := hp
      subst hv1
      subst s1
      refine v_if_eq (pc := 25) (tgt := 37) dX9_bearsAnew_25 (by decide) (fun c25 => ?_) (fun c25 => absurd c25 (by decide))
      refine v_lconst (pc := 37) (v := 0) dX9_bearsAnew_37 (by decide) ?_
      refine v_lret (pc := 38) hR dX9_bearsAnew_38 ⟨by decide, by decide⟩ ?_
      first
        | exact ⟨_, hG, by rw [if_pos hk, en, en2]; exact congrArg (fun z => some (Value.long z)) (congrFun (finL_thr s 0 np ns x) y), by rw [if_pos hk, en, ← finL_thr s 0]⟩
        | exact ⟨_, hG, by simp [hk], by simp [hk]⟩
    · rw [b2i_0, Decidable.not_not] at c14
      rw [hb] at c14
      have hk : kBe np p0 p1 = 0 := by rw [kBe, if_pos ⟨c6, c14⟩]
      obtain ⟨x, hx, rfl⟩ := (btw_ix (a := np) (by omega)).mp c6
      obtain ⟨y, hy, rfl⟩ := (btw_ix (a := np) (by omega)).mp c14
      have en : nat (nI x) = x := nat_nI (by omega)
      have en2 : nat (nI y) = y := nat_nI (by omega)
      refine v_iconst (pc := 17) (v := 0) dX9_bearsAnew_17 (by decide) ?_
      refine v_goto (pc := 18) (tgt := 22) dX9_bearsAnew_18 (by decide) ?_
      refine vm_callV1 (pc := 22) (0, 0) hG dX9_bearsAnew_22 cw_X9_111 im_yX9_goes se_yX9_goes (c_X9_goes D m ad _ _ ) rfl (Nat.le_of_ble_eq_true rfl) ⟨Nat.le_of_ble_eq_true rfl, Nat.le_of_ble_eq_true rfl⟩ ⟨by decide, by decide⟩ rfl (fun v s1 G hp hG => ?_)
      obtain ⟨hv1, hs1⟩ := hp
      subst hv1
      subst s1
      refine v_if_eq (pc := 25) (tgt := 37) dX9_bearsAnew_25 (by decide) (fun c25 => absurd c25 (by decide)) (fun c25 => ?_)
      refine v_aload_n (pc := 28) dX9_bearsAnew_28 rfl rfl ?_
      refine v_iload_n (pc := 29) dX9_bearsAnew_29 rfl rfl ?_
      refine v_iload_n (pc := 30) dX9_bearsAnew_30 rfl rfl ?_
      refine vm_callV2 (pc := 31) (0, 0) hG dX9_bearsAnew_31 cw_X9_150 im_yX9_bearsOf se_yX9_bearsOf (c_X9_bearsOf D m ad _ x y np ns h h2 hnp hns hb hc hx hy (hst x hx)) rfl (Nat.le_of_ble_eq_true rfl) ⟨Nat.le_of_ble_eq_true rfl, Nat.le_of_ble_eq_true rfl⟩ ⟨by decide, by decide⟩ rfl (fun v s1 G hp hG => ?_)
      obtain ⟨hv1, hs1⟩ := hp
      subst hv1
      subst s1
      refine v_goto (pc := 34) (tgt := 38) dX9_bearsAnew_34 (by decide) ?_
      refine v_lret (pc := 38) hR dX9_bearsAnew_38 ⟨by decide, by decide⟩ ?_
      first
        | exact ⟨_, hG, by rw [if_pos hk, en, en2]; exact congrArg (fun z => some (Value.long z)) (congrFun (finL_thr s 0 np ns x) y), by rw [if_pos hk, en, ← finL_thr s 0]⟩
        | exact ⟨_, hG, by simp [hk], by simp [hk]⟩
