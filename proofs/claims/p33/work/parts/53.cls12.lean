def sG (s : SG) (g : Nat → Int32) : SG := (fun k => if k = 43 then g else s.1 k, s.2)
theorem sG_sI (s : SG) (g : Nat → Int32) (b : Nat) (x : Int32) : sI (sG s g) 43 b x = sG s (u1 g b x) := by
  refine Prod.ext (funext fun k => funext fun j => ?_) rfl
  simp only [sI, sG, u2, u1]
  by_cases h : k = 43
  · subst h
    by_cases h2 : j = b <;> simp [h2, u1]
  · simp [h]
theorem sG_self (s : SG) : sG s (s.1 43) = s := Prod.ext (funext fun k => by by_cases h : k = 43 <;> simp [sG, h]) rfl
theorem mvG_s {g : Nat → Int32} {f t : Int32} {i : Nat} (h : g i = f) : u1 (mvG g f t i) i t = mvG g f t (i + 1) := funext fun v => by
  simp only [u1, mvG]
  by_cases e : v = i
  · subst e; simp [h]
  · by_cases e2 : v < i
    · simp [e, e2, show v < i + 1 by omega]
    · simp [e, e2, show ¬ v < i + 1 by omega]
theorem mvG_n {g : Nat → Int32} {f t : Int32} {i : Nat} (h : ¬ g i = f) : mvG g f t i = mvG g f t (i + 1) := funext fun v => by
  simp only [mvG]
  by_cases e : v = i
  · subst e; simp [h]
  · by_cases e2 : v < i
    · simp [e2, show v < i + 1 by omega]
    · simp [e2, show ¬ v < i + 1 by omega]
theorem mvG_0 (g : Nat → Int32) (f t : Int32) : mvG g f t 0 = g := funext fun v => by simp [mvG]
theorem mvG_i (g : Nat → Int32) (f t : Int32) (i : Nat) : mvG g f t i i = g i := by simp [mvG]
theorem LF.l15 {X : XT} {s : SG} {G : GT} (hG : LF X s G) {k : Nat} (h8 : k < 30) (hs : X.2.2.1 3 k = true) : X.2.1 15 k = true :=
  ((hG.1 3 0 (hG.2.2.1 3 (by decide))).2 k (by show k < 30; exact h8)).2.2.2 (15, k) (by show (if X.2.2.1 3 k then some (15, k) else none) = _; rw [if_pos hs])
/-- the strongest so far -/
def stV (X : XT) (r : Option Nat) : Value := match r with
  | some k => .ref (X.1 15 k)
  | none => .null
theorem stV_cat (X : XT) (r : Option Nat) : (stV X r).category = 1 := by cases r <;> rfl
def bst (s : SG) (ns : Nat) (g : Nat → Int32) (i : Nat) (r : Option Nat) : Prop := (r = none ∧ ∀ i', i' < i → ¬ bw s ns g i') ∨ ∃ k, r = some k ∧ bw s ns g k ∧ ∀ i', i' < i → bw s ns g i' → seamS s i' ≤ seamS s k
theorem bst_n {s : SG} {ns i : Nat} {g : Nat → Int32} {r : Option Nat} (h : bst s ns g i r) (hb : ¬ bw s ns g i) : bst s ns g (i + 1) r := by
  rcases h with ⟨e, h⟩ | ⟨k, e, h1, h2⟩
  · refine Or.inl ⟨e, fun i' hi => ?_⟩
    rcases (show i' < i ∨ i' = i by omega) with q | rfl
    · exact h i' q
    · exact hb
  · refine Or.inr ⟨k, e, h1, fun i' hi hw => ?_⟩
    rcases (show i' < i ∨ i' = i by omega) with q | rfl
    · exact h2 i' q hw
    · exact absurd hw hb
theorem bst_0 {s : SG} {ns i : Nat} {g : Nat → Int32} (h : bst s ns g i none) (hb : bw s ns g i) : bst s ns g (i + 1) (some i) := by
  rcases h with ⟨e, h⟩ | ⟨k, e, -, -⟩
  · refine Or.inr ⟨i, rfl, hb, fun i' hi hw => ?_⟩
    rcases (show i' < i ∨ i' = i by omega) with q | rfl
    · exact absurd hw (h i' q)
    · exact Int64.le_refl _
  · cases e
theorem bst_k {s : SG} {ns i k : Nat} {g : Nat → Int32} (h : bst s ns g i (some k)) (hl : seamS s i ≤ seamS s k) : bst s ns g (i + 1) (some k) := by
  rcases h with ⟨e, h⟩ | ⟨k', e, h1, h2⟩
  · cases e
  · cases e
    refine Or.inr ⟨k, rfl, h1, fun i' hi hw => ?_⟩
    rcases (show i' < i ∨ i' = i by omega) with q | rfl
    · exact h2 i' q hw
    · exact hl
theorem bst_g {s : SG} {ns i k : Nat} {g : Nat → Int32} (h : bst s ns g i (some k)) (hb : bw s ns g i) (hl : seamS s k < seamS s i) : bst s ns g (i + 1) (some i) := by
  rcases h with ⟨e, h⟩ | ⟨k', e, h1, h2⟩
  · cases e
  · cases e
    refine Or.inr ⟨i, rfl, hb, fun i' hi hw => ?_⟩
    rcases (show i' < i ∨ i' = i by omega) with q | rfl
    · exact Int64.le_trans (h2 i' q hw) (Int64.le_of_lt hl)
    · exact Int64.le_refl _
theorem bst_lt {s : SG} {ns i k : Nat} {g : Nat → Int32} (h : bst s ns g i (some k)) : bw s ns g k := by
  rcases h with ⟨e, h⟩ | ⟨k', e, h1, h2⟩
  · cases e
  · cases e; exact h1
set_option maxRecDepth 100000 in
set_option maxHeartbeats 400000 in
theorem l_X8_moveGroup {D : DT} {K : KT} {X : XT} {s : SG} (np : Nat) (p0 p1 : Int32) (hnp : np ≤ 12) (hsl2 : ∀ f, f < 12 → X.2.2.1 2 f = decide (f < np)) (kk : ∀ (G : GT), LF X (sG s (mvG (s.1 43) p0 p1 np)) G → V cX8_moveGroup yX8_moveGroup.cls 7 rm_X8_moveGroup D K 51 [some (.ref (X.1 0 0)), some (.int p0), some (.int p1), some (.ref (X.1 2 0)), some (.int 12), some (.int (nI 12)), none] [] G (0, 0)) : ∀ (d i : Nat)  (G : GT), i + d = 12 → LF X (sG s (mvG (s.1 43) p0 p1 (min i np))) G → V cX8_moveGroup yX8_moveGroup.cls 7 rm_X8_moveGroup D K 12 [some (.ref (X.1 0 0)), some (.int p0), some (.int p1), some (.ref (X.1 2 0)), some (.int 12), some (.int (nI i)), none] [] G (0, 0) := by
  intro d
  induction d with
  | zero =>
    intro i  G he0 he1 
    refine v_iload (pc := 12) dX8_moveGroup_12 rfl ?_
    refine v_iload (pc := 14) dX8_moveGroup_14 rfl ?_
    refine v_icmp_ge (pc := 16) (tgt := 51) dX8_moveGroup_16 (by decide) (fun c16 => ?_) (fun c16 => absurd c16 (not_not_intro (by rw [show i = 12 by omega]; decide)))
    have e : i = 12 := by omega
    subst e
    rw [show min 12 np = np by omega] at he1
    exact kk G he1
  | succ d ih =>
    intro i  G he0 he1 
    have hG := he1
    refine v_iload (pc := 12) dX8_moveGroup_12 rfl ?_
    refine v_iload (pc := 14) dX8_moveGroup_14 rfl ?_
    refine v_icmp_ge (pc := 16) (tgt := 51) dX8_moveGroup_16 (by decide) (fun c16 => absurd c16 (nI_ge (b := 12) (by omega) (by decide))) (fun c16 => ?_)
    by_cases c21 : i < np
    · have m0 : min i np = i := by omega
      have m1 : min (i + 1) np = i + 1 := by omega
      rw [m0] at hG
      refine v_aload_n (pc := 19) dX8_moveGroup_19 rfl rfl ?_
      refine v_iload (pc := 20) dX8_moveGroup_20 rfl ?_
      refine vc_aald (pc := 22) (k := 6) (j := i) hG dX8_moveGroup_22 (hG.2.2.1 2 (by decide)) rfl (by decide) rfl rfl (by show _ < 12; omega) (c' := 14) (i' := i) (by show (if X.2.2.1 2 i then some (14, i) else none) = _; rw [hsl2 i (by omega), if_pos (decide_eq_true c21)]) (fun hL22 => ?_)
      refine v_astore (pc := 23) dX8_moveGroup_23 rfl (by decide) ?_
      refine v_aload (pc := 25) dX8_moveGroup_25 rfl ?_
      refine v_ifnull (pc := 27) dX8_moveGroup_27 ?_
      refine v_aload (pc := 30) dX8_moveGroup_30 rfl ?_
      refine vc_getI (pc := 32) (f := 4) hG dX8_moveGroup_32 fl_X8_167 (Or.inl rfl) (by assumption) rfl (by decide) (show iv _ 14 i 4 = s.1 43 i by rw [ivL_14_4]; exact mvG_i _ _ _ _) ?_
      refine v_iload_n (pc := 35) dX8_moveGroup_35 rfl rfl ?_
      refine v_icmp_ne (pc := 36) (tgt := 45) dX8_moveGroup_36 (by decide) (fun c36 => ?_) (fun c36 => ?_)
      · have e9 : LF X (sG s (mvG (s.1 43) p0 p1 (i + 1))) G := by rw [← mvG_n c36]; exact hG
        refine v_iinc (pc := 45) dX8_moveGroup_45 rfl (nI_1 i) rfl (by decide) ?_
        refine v_goto (pc := 48) (tgt := 12) dX8_moveGroup_48 (by decide) ?_
        first
          | exact (by refine v_forget 6 ?_; exact ih (i + 1) G (by omega) (by rw [m1]; exact e9))
          | (rw [sG_sI, mvG_s c36] at hG; refine v_forget 6 ?_; exact ih (i + 1) G (by omega) (by rw [m1]; exact hG))
      · refine v_aload (pc := 39) dX8_moveGroup_39 rfl ?_
        refine v_iload_n (pc := 41) dX8_moveGroup_41 rfl rfl ?_
        refine vc_putI (pc := 42) hG dX8_moveGroup_42 fw_X8_167 rfl (Or.inl rfl) (by assumption) rfl rfl rfl (uI_14_4 _ _ _) (fun G hG => ?_)
        refine v_iinc (pc := 45) dX8_moveGroup_45 rfl (nI_1 i) rfl (by decide) ?_
        refine v_goto (pc := 48) (tgt := 12) dX8_moveGroup_48 (by decide) ?_
        first
          | exact (by refine v_forget 6 ?_; exact ih (i + 1) G (by omega) (by rw [m1]; exact e9))
          | (rw [sG_sI, mvG_s c36] at hG; refine v_forget 6 ?_; exact ih (i + 1) G (by omega) (by rw [m1]; exact hG))
    · have m0 : min i np = np := by omega
      have m1 : min (i + 1) np = np := by omega
      rw [m0] at hG
      refine v_aload_n (pc := 19) dX8_moveGroup_19 rfl rfl ?_
      refine v_iload (pc := 20) dX8_moveGroup_20 rfl ?_
      refine vc_aaldN (pc := 22) (k := 6) (j := i) hG dX8_moveGroup_22 (hG.2.2.1 2 (by decide)) rfl (by decide) rfl rfl (by show _ < 12; omega) (by show (if X.2.2.1 2 i then some (14, i) else none) = _; rw [hsl2 i (by omega), if_neg (by rw [decide_eq_true_eq]; omega)]) ?_
      refine v_astoreN (pc := 23) dX8_moveGroup_23 rfl (by decide) ?_
      refine v_aloadN (pc := 25) dX8_moveGroup_25 rfl ?_
      refine v_ifnullN (pc := 27) (tgt := 45) dX8_moveGroup_27 (by decide) ?_
      refine v_iinc (pc := 45) dX8_moveGroup_45 rfl (nI_1 i) rfl (by decide) ?_
      refine v_goto (pc := 48) (tgt := 12) dX8_moveGroup_48 (by decide) ?_
      refine v_forget 6 ?_
      exact ih (i + 1) G (by omega) (by rw [m1]; exact hG)
set_option maxRecDepth 100000 in
set_option maxHeartbeats 400000 in
theorem c_X8_moveGroup (D : DT) (X : XT) (s : SG) (np : Nat) (p0 : Int32) (p1 : Int32) (hnp : np ≤ 12) (hsl2 : ∀ f, f < 12 → X.2.2.1 2 f = decide (f < np)) : CC yX8_moveGroup cX8_moveGroup 7 (Option.none : Option Jvm.ClassFile.FieldType) rm_X8_moveGroup D [.ref (X.1 0 0), .int p0, .int p1] X s (fun v s' => v = none ∧ s' = sG s (mvG (s.1 43) p0 p1 np)) := by
  intro G hG
  refine MC_of (by decide +kernel) (Nat.le_of_ble_eq_true rfl) (fun K sz hR => ?_)
  show V cX8_moveGroup _ 7 _ D K 0 [some (.ref (X.1 0 0)), some (.int p0), some (.int p1), none, none, none, none] [] G (0, 0)
  refine v_aload_n (pc := 0) dX8_moveGroup_0 rfl rfl ?_
  refine vc_getR (pc := 1) (f := 2) hG dX8_moveGroup_1 fl_X8_17 rfl (hG.2.2.1 0 (by decide)) rfl (by decide) (rvL_0_2 _ _ _) (fun hL1 => ?_)
  refine v_astore_n (pc := 4) dX8_moveGroup_4 rfl rfl (by decide) ?_
  refine v_aload_n (pc := 5) dX8_moveGroup_5 rfl rfl ?_
  refine vc_alen (pc := 6) (k := 6) (x := 12) hG dX8_moveGroup_6 (hG.2.2.1 2 (by decide)) rfl rfl rfl ?_
  refine v_istore (pc := 7) dX8_moveGroup_7 rfl (by decide) ?_
  refine v_iconst (pc := 9) (v := 0) dX8_moveGroup_9 (by decide) ?_
  refine v_istore (pc := 10) dX8_moveGroup_10 rfl (by decide) ?_
  refine l_X8_moveGroup (s := s) np p0 p1 hnp hsl2 (fun G hG => ?_) 12 0 G (by omega) (by rw [Nat.zero_min, mvG_0, sG_self]; exact hG)
  refine v_vret (pc := 51) hR dX8_moveGroup_51 ⟨by decide, by decide⟩ ?_
  exact ⟨_, hG, rfl, rfl⟩
set_option maxRecDepth 100000 in
set_option maxHeartbeats 400000 in
theorem l_X8_strongest {D : DT} {K : KT} {X : XT} {s : SG} (np ns : Nat) (h : PV s np) (hG9 : GOK s np ns) (hsl3 : ∀ f, f < 30 → X.2.2.1 3 f = decide (f < ns ∧ s.1 13 f = 0)) (kk : ∀ (r : Option Nat) (G : GT), bst s ns (s.1 43) 30 r → LF X s G → V cX8_strongestBetweenGroups yX8_strongestBetweenGroups.cls 6 rm_X8_strongestBetweenGroups D K 75 [some (.ref (X.1 0 0)), some (stV X r), some (.ref (X.1 3 0)), some (.int 30), some (.int (nI 30)), none] [] G (0, 0)) : ∀ (d i : Nat) (r : Option Nat) (G : GT), i + d = 30 → bst s ns (s.1 43) i r → LF X s G → V cX8_strongestBetweenGroups yX8_strongestBetweenGroups.cls 6 rm_X8_strongestBetweenGroups D K 13 [some (.ref (X.1 0 0)), some (stV X r), some (.ref (X.1 3 0)), some (.int 30), some (.int (nI i)), none] [] G (0, 0) := by
  intro d
  induction d with
  | zero =>
    intro i r G he0 he1 hG
    refine v_iload (pc := 13) dX8_strongestBetweenGroups_13 rfl ?_
    refine v_iload_n (pc := 15) dX8_strongestBetweenGroups_15 rfl rfl ?_
    refine v_icmp_ge (pc := 16) (tgt := 75) dX8_strongestBetweenGroups_16 (by decide) (fun c16 => ?_) (fun c16 => absurd c16 (not_not_intro (by rw [show i = 30 by omega]; decide)))
    have e : i = 30 := by omega
    subst e
    exact kk r G he1 hG
  | succ d ih =>
    intro i r G he0 he1 hG
    refine v_iload (pc := 13) dX8_strongestBetweenGroups_13 rfl ?_
    refine v_iload_n (pc := 15) dX8_strongestBetweenGroups_15 rfl rfl ?_
    refine v_icmp_ge (pc := 16) (tgt := 75) dX8_strongestBetweenGroups_16 (by decide) (fun c16 => absurd c16 (nI_ge (b := 30) (by omega) (by decide))) (fun c16 => ?_)
    by_cases c21 : i < ns ∧ s.1 13 i = 0
    · obtain ⟨a, b, ha, hb, e1, e2⟩ := hG9.1 i c21.1
      have h12 := hG9.2.1
      have h30 := hG9.2.2.1
      have ea : nat (s.1 10 i) = a := by rw [e1]; exact nat_nI (by omega)
      have eb : nat (s.1 11 i) = b := by rw [e2]; exact nat_nI (by omega)
      refine v_aload_n (pc := 19) dX8_strongestBetweenGroups_19 rfl rfl ?_
      refine v_iload (pc := 20) dX8_strongestBetweenGroups_20 rfl ?_
      refine vc_aald (pc := 22) (k := 7) (j := i) hG dX8_strongestBetweenGroups_22 (hG.2.2.1 3 (by decide)) rfl (by decide) rfl rfl (by show _ < 30; omega) (c' := 15) (i' := i) (by show (if X.2.2.1 3 i then some (15, i) else none) = _; rw [hsl3 i (by omega), if_pos (decide_eq_true c21)]) (fun hL22 => ?_)
      refine v_astore (pc := 23) dX8_strongestBetweenGroups_23 rfl (by decide) ?_
      refine v_aload (pc := 25) dX8_strongestBetweenGroups_25 rfl ?_
      refine v_ifnull (pc := 27) dX8_strongestBetweenGroups_27 ?_
      refine v_aload (pc := 30) dX8_strongestBetweenGroups_30 rfl ?_
      refine vc_getR (pc := 32) (f := 0) hG dX8_strongestBetweenGroups_32 fl_X8_178 rfl (by assumption) rfl (by decide) (c' := 14) (i' := a) (by rw [rvL_15_0, ea]) (fun hL32 => ?_)
      refine vc_getI (pc := 35) (f := 4) hG dX8_strongestBetweenGroups_35 fl_X8_167 (Or.inl rfl) (by assumption) rfl (by decide) (ivL_14_4 _ _) ?_
      refine v_aload (pc := 38) dX8_strongestBetweenGroups_38 rfl ?_
      refine vc_getR (pc := 40) (f := 1) hG dX8_strongestBetweenGroups_40 fl_X8_174 rfl (by assumption) rfl (by decide) (c' := 14) (i' := b) (by rw [rvL_15_1, eb]) (fun hL40 => ?_)
      refine vc_getI (pc := 43) (f := 4) hG dX8_strongestBetweenGroups_43 fl_X8_167 (Or.inl rfl) (by assumption) rfl (by decide) (ivL_14_4 _ _) ?_
      refine v_icmp_eq (pc := 46) (tgt := 69) dX8_strongestBetweenGroups_46 (by decide) (fun c46 => ?_) (fun c46 => ?_)
      · have e9 : bst s ns (s.1 43) (i + 1) r := bst_n he1 (fun z => z.2.2 (by rw [enA, ea, enB, eb]; exact c46))
        refine v_iinc (pc := 69) dX8_strongestBetweenGroups_69 rfl (nI_1 i) rfl (by decide) ?_
        refine v_goto (pc := 72) (tgt := 13) dX8_strongestBetweenGroups_72 (by decide) ?_
        refine v_forget 5 ?_
        exact ih (i + 1) r G (by omega) e9 hG
      · have hbw : bw s ns (s.1 43) i := ⟨c21.1, c21.2, by rw [enA, ea, enB, eb]; exact c46⟩
        rcases r with _ | k
        · refine v_aload_nN (pc := 49) dX8_strongestBetweenGroups_49 rfl rfl ?_
          refine v_ifnullN (pc := 50) (tgt := 66) dX8_strongestBetweenGroups_50 (by decide) ?_
          refine v_aload (pc := 66) dX8_strongestBetweenGroups_66 rfl ?_
          refine v_astore_n (pc := 68) dX8_strongestBetweenGroups_68 rfl rfl (by decide) ?_
          refine v_iinc (pc := 69) dX8_strongestBetweenGroups_69 rfl (nI_1 i) rfl (by decide) ?_
          refine v_goto (pc := 72) (tgt := 13) dX8_strongestBetweenGroups_72 (by decide) ?_
          refine v_forget 5 ?_
          exact ih (i + 1) (some i) G (by omega) (bst_0 he1 hbw) hG
        · have hk := bst_lt he1
          have hk30 := hk.1
          have hLk := hG.l15 (k := k) (by omega) (by rw [hsl3 k (by omega)]; exact decide_eq_true ⟨hk.1, hk.2.1⟩)
          refine v_aload_n (pc := 49) dX8_strongestBetweenGroups_49 rfl rfl ?_
          refine v_ifnull (pc := 50) dX8_strongestBetweenGroups_50 ?_
          refine v_aload (pc := 53) dX8_strongestBetweenGroups_53 rfl ?_
          refine vc_callV0 (pc := 55) (0, 0) hG dX8_strongestBetweenGroups_55 cw_X8_151 im_yX7_strengthNow se_yX7_strengthNow (c_X7_strengthNow D X _ i np ns (by assumption) h hG9.1 c21.1 h12 h30) hL22 rfl rfl (Nat.le_of_ble_eq_true rfl) ⟨Nat.le_of_ble_eq_true rfl, Nat.le_of_ble_eq_true rfl⟩ ⟨by decide, by decide⟩ rfl (fun v s1 G hp hG => ?_)
          obtain ⟨hv1, hs1⟩ := hp
          subst hv1
          subst s1
          refine v_aload_n (pc := 58) dX8_strongestBetweenGroups_58 rfl rfl ?_
          refine vc_callV0 (pc := 59) (0, 0) hG dX8_strongestBetweenGroups_59 cw_X8_151 im_yX7_strengthNow se_yX7_strengthNow (c_X7_strengthNow D X _ k np ns hLk h hG9.1 hk.1 h12 h30) hLk rfl rfl (Nat.le_of_ble_eq_true rfl) ⟨Nat.le_of_ble_eq_true rfl, Nat.le_of_ble_eq_true rfl⟩ ⟨by decide, by decide⟩ rfl (fun v s1 G hp hG => ?_)
          obtain ⟨hv1, hs1⟩ := hp
          subst hv1
          subst s1
          refine v_lcmp (pc := 62) dX8_strongestBetweenGroups_62 ?_
          refine v_if_le (pc := 63) (tgt := 69) dX8_strongestBetweenGroups_63 (by decide) (fun c63 => ?_) (fun c63 => ?_)
          · rw [cmp_le0] at c63
            have e9 : bst s ns (s.1 43) (i + 1) (some k) := bst_k he1 c63
            refine v_iinc (pc := 69) dX8_strongestBetweenGroups_69 rfl (nI_1 i) rfl (by decide) ?_
            refine v_goto (pc := 72) (tgt := 13) dX8_strongestBetweenGroups_72 (by decide) ?_
            refine v_forget 5 ?_
            exact ih (i + 1) (some _) G (by omega) e9 hG
          · rw [cmp_le0, l_nle] at c63
            have e9 : bst s ns (s.1 43) (i + 1) (some i) := bst_g he1 hbw c63
            refine v_aload (pc := 66) dX8_strongestBetweenGroups_66 rfl ?_
            refine v_astore_n (pc := 68) dX8_strongestBetweenGroups_68 rfl rfl (by decide) ?_
            refine v_iinc (pc := 69) dX8_strongestBetweenGroups_69 rfl (nI_1 i) rfl (by decide) ?_
            refine v_goto (pc := 72) (tgt := 13) dX8_strongestBetweenGroups_72 (by decide) ?_
            refine v_forget 5 ?_
            exact ih (i + 1) (some _) G (by omega) e9 hG
    · refine v_aload_n (pc := 19) dX8_strongestBetweenGroups_19 rfl rfl ?_
      refine v_iload (pc := 20) dX8_strongestBetweenGroups_20 rfl ?_
      refine vc_aaldN (pc := 22) (k := 7) (j := i) hG dX8_strongestBetweenGroups_22 (hG.2.2.1 3 (by decide)) rfl (by decide) rfl rfl (by show _ < 30; omega) (by show (if X.2.2.1 3 i then some (15, i) else none) = _; rw [hsl3 i (by omega), if_neg (by rw [decide_eq_true_eq]; exact c21)]) ?_
      refine v_astoreN (pc := 23) dX8_strongestBetweenGroups_23 rfl (by decide) ?_
      refine v_aloadN (pc := 25) dX8_strongestBetweenGroups_25 rfl ?_
      refine v_ifnullN (pc := 27) (tgt := 69) dX8_strongestBetweenGroups_27 (by decide) ?_
      refine v_iinc (pc := 69) dX8_strongestBetweenGroups_69 rfl (nI_1 i) rfl (by decide) ?_
      refine v_goto (pc := 72) (tgt := 13) dX8_strongestBetweenGroups_72 (by decide) ?_
      refine v_forget 5 ?_
      exact ih (i + 1) r G (by omega) (bst_n he1 (fun z => c21 ⟨z.1, z.2.1⟩)) hG
set_option maxRecDepth 100000 in
set_option maxHeartbeats 400000 in
theorem c_X8_strongestBetweenGroups (D : DT) (X : XT) (s : SG) (np ns : Nat)  (h : PV s np) (hG9 : GOK s np ns) (hsl3 : ∀ f, f < 30 → X.2.2.1 3 f = decide (f < ns ∧ s.1 13 f = 0)) : CC yX8_strongestBetweenGroups cX8_strongestBetweenGroups 6 (Option.some (Jvm.ClassFile.FieldType.object "BroadseamLoft$Seam")) rm_X8_strongestBetweenGroups D [.ref (X.1 0 0)] X s (fun v s' => s' = s ∧ ((v = some .null ∧ ∀ i, ¬ bw s ns (s.1 43) i) ∨ ∃ k, v = some (.ref (X.1 15 k)) ∧ X.2.1 15 k = true ∧ bw s ns (s.1 43) k ∧ ∀ i, bw s ns (s.1 43) i → seamS s i ≤ seamS s k)) := by
  intro G hG
  refine MC_of (by decide +kernel) (Nat.le_of_ble_eq_true rfl) (fun K sz hR => ?_)
  show V cX8_strongestBetweenGroups _ 6 _ D K 0 [some (.ref (X.1 0 0)), none, none, none, none, none] [] G (0, 0)
  refine v_null (pc := 0) dX8_strongestBetweenGroups_0 ?_
  refine v_astore_nN (pc := 1) dX8_strongestBetweenGroups_1 rfl rfl (by decide) ?_
  refine v_aload_n (pc := 2) dX8_strongestBetweenGroups_2 rfl rfl ?_
  refine vc_getR (pc := 3) (f := 4) hG dX8_strongestBetweenGroups_3 fl_X8_23 rfl (hG.2.2.1 0 (by decide)) rfl (by decide) (rvL_0_4 _ _ _) (fun hL3 => ?_)
  refine v_astore_n (pc := 6) dX8_strongestBetweenGroups_6 rfl rfl (by decide) ?_
  refine v_aload_n (pc := 7) dX8_strongestBetweenGroups_7 rfl rfl ?_
  refine vc_alen (pc := 8) (k := 7) (x := 30) hG dX8_strongestBetweenGroups_8 (hG.2.2.1 3 (by decide)) rfl rfl rfl ?_
  refine v_istore_n (pc := 9) dX8_strongestBetweenGroups_9 rfl rfl (by decide) ?_
  refine v_iconst (pc := 10) (v := 0) dX8_strongestBetweenGroups_10 (by decide) ?_
  refine v_istore (pc := 11) dX8_strongestBetweenGroups_11 rfl (by decide) ?_
  refine l_X8_strongest (s := s) np ns h hG9 hsl3 (fun r G hr hG => ?_) 30 0 none G (by omega) (Or.inl ⟨rfl, fun i hi => absurd hi (by omega)⟩) hG
  have h30 := hG9.2.2.1
  rcases hr with ⟨er, hr⟩ | ⟨k, er, hr1, hr2⟩
  · subst er
    refine v_aload_nN (pc := 75) dX8_strongestBetweenGroups_75 rfl rfl ?_
    refine v_aret (pc := 76) hR dX8_strongestBetweenGroups_76 (by first | exact Or.inl rfl | exact Or.inr ⟨_, rfl⟩) ⟨by decide, by decide⟩ ?_
    exact ⟨_, hG, rfl, Or.inl ⟨rfl, fun i hi => hr i (by have := hi.1; omega) hi⟩⟩
  · subst er
    have hk30 := hr1.1
    refine v_aload_n (pc := 75) dX8_strongestBetweenGroups_75 rfl rfl ?_
    refine v_aret (pc := 76) hR dX8_strongestBetweenGroups_76 (by first | exact Or.inl rfl | exact Or.inr ⟨_, rfl⟩) ⟨by decide, by decide⟩ ?_
    exact ⟨_, hG, rfl, Or.inr ⟨k, rfl, hG.l15 (k := k) (by omega) (by rw [hsl3 k (by omega)]; exact decide_eq_true ⟨hr1.1, hr1.2.1⟩), hr1, fun i hi => hr2 i (by have := hi.1; omega) hi⟩⟩
def inG (g : Nat → Int32) (i : Nat) : Nat → Int32 := fun v => if v < i then nI v else g v
theorem inG_0 (g : Nat → Int32) : inG g 0 = g := funext fun v => by simp [inG]
theorem inG_s (g : Nat → Int32) (i : Nat) : u1 (inG g i) i (nI i) = inG g (i + 1) := funext fun v => by
  simp only [u1, inG]
  by_cases e : v = i
  · subst e; simp
  · by_cases e2 : v < i
    · simp [e, e2, show v < i + 1 by omega]
    · simp [e, e2, show ¬ v < i + 1 by omega]
theorem sG_sG (s : SG) (g h : Nat → Int32) : sG (sG s g) h = sG s h := Prod.ext (funext fun k => by by_cases e : k = 43 <;> simp [sG, e]) rfl
theorem finL_G (s : SG) (g : Nat → Int32) (np ns x : Nat) : finL (sG s g) np ns x = finL s np ns x := by
  have h : ∀ i, esM (sG s g) i = esM s i := by
    intro i
    induction i with
    | zero => rfl
    | succ i ih => rw [esM, esM, ih]; rfl
  rw [finL, finL, h]
  rfl
set_option maxRecDepth 100000 in
set_option maxHeartbeats 400000 in
theorem l_X8_join1 {D : DT} {K : KT} {X : XT} {s : SG} (np x y : Nat) (hnp : np ≤ 12) (hb : s.1 4 0 = nI np) (hsl2 : ∀ f, f < 12 → X.2.2.1 2 f = decide (f < np)) (kk : ∀ (G : GT), LF X (sG s (inG (s.1 43) np)) G → V cX8_joinUntilTogether yX8_joinUntilTogether.cls 5 rm_X8_joinUntilTogether D K 35 [some (.ref (X.1 0 0)), some (.ref (X.1 14 x)), some (.ref (X.1 14 y)), some (.int (nI np)), none] [] G (0, 0)) : ∀ (d i : Nat)  (G : GT), i + d = np → LF X (sG s (inG (s.1 43) i)) G → V cX8_joinUntilTogether yX8_joinUntilTogether.cls 5 rm_X8_joinUntilTogether D K 2 [some (.ref (X.1 0 0)), some (.ref (X.1 14 x)), some (.ref (X.1 14 y)), some (.int (nI i)), none] [] G (0, 0) := by
  intro d
  induction d with
  | zero =>
    intro i  G he0 he1 
    have hG := he1
    refine v_iload_n (pc := 2) dX8_joinUntilTogether_2 rfl rfl ?_
    refine v_aload_n (pc := 3) dX8_joinUntilTogether_3 rfl rfl ?_
    refine vc_getI (pc := 4) (f := 3) hG dX8_joinUntilTogether_4 fl_X8_114 (Or.inl rfl) (hG.2.2.1 0 (by decide)) rfl (by decide) ((ivL_0_3 _ _).trans hb) ?_
    refine v_icmp_ge (pc := 7) (tgt := 35) dX8_joinUntilTogether_7 (by decide) (fun c7 => ?_) (fun c7 => absurd c7 (not_not_intro (by rw [show i = np by omega]; exact Int32.le_refl _)))
    have e : i = np := by omega
    subst e
    exact kk G hG
  | succ d ih =>
    intro i  G he0 he1 
    have hG := he1
    refine v_iload_n (pc := 2) dX8_joinUntilTogether_2 rfl rfl ?_
    refine v_aload_n (pc := 3) dX8_joinUntilTogether_3 rfl rfl ?_
    refine vc_getI (pc := 4) (f := 3) hG dX8_joinUntilTogether_4 fl_X8_114 (Or.inl rfl) (hG.2.2.1 0 (by decide)) rfl (by decide) ((ivL_0_3 _ _).trans hb) ?_
    refine v_icmp_ge (pc := 7) (tgt := 35) dX8_joinUntilTogether_7 (by decide) (fun c7 => absurd c7 (nI_ge (by omega) (by omega))) (fun c7 => ?_)
    refine v_aload_n (pc := 10) dX8_joinUntilTogether_10 rfl rfl ?_
    refine vc_getR (pc := 11) (f := 2) hG dX8_joinUntilTogether_11 fl_X8_17 rfl (hG.2.2.1 0 (by decide)) rfl (by decide) (rvL_0_2 _ _ _) (fun hL11 => ?_)
    refine v_iload_n (pc := 14) dX8_joinUntilTogether_14 rfl rfl ?_
    refine vc_aald (pc := 15) (k := 6) (j := i) hG dX8_joinUntilTogether_15 (hG.2.2.1 2 (by decide)) rfl (by decide) rfl rfl (by show _ < 12; omega) (c' := 14) (i' := i) (by show (if X.2.2.1 2 i then some (14, i) else none) = _; rw [hsl2 i (by omega), if_pos (decide_eq_true (show i < np by omega))]) (fun hL15 => ?_)
    refine v_astore (pc := 16) dX8_joinUntilTogether_16 rfl (by decide) ?_
    refine v_aload (pc := 18) dX8_joinUntilTogether_18 rfl ?_
    refine v_ifnull (pc := 20) dX8_joinUntilTogether_20 ?_
    refine v_aload (pc := 23) dX8_joinUntilTogether_23 rfl ?_
    refine v_iload_n (pc := 25) dX8_joinUntilTogether_25 rfl rfl ?_
    refine vc_putI (pc := 26) hG dX8_joinUntilTogether_26 fw_X8_167 rfl (Or.inl rfl) (by assumption) rfl rfl rfl (uI_14_4 _ _ _) (fun G hG => ?_)
    refine v_iinc (pc := 29) dX8_joinUntilTogether_29 rfl (nI_1 i) rfl (by decide) ?_
    refine v_goto (pc := 32) (tgt := 2) dX8_joinUntilTogether_32 (by decide) ?_
    rw [sG_sI, inG_s] at hG
    refine v_forget 4 ?_
    exact ih (i + 1) G (by omega) hG
set_option maxRecDepth 100000 in
set_option maxHeartbeats 400000 in
theorem l_X8_join2 {D : DT} {K : KT} {X : XT} {s : SG} (np ns x y : Nat) (h : PV s np) (hG9 : GOK s np ns) (hb : s.1 4 0 = nI np) (hx : x < np) (hy : y < np) (hLx : X.2.1 14 x = true) (hLy : X.2.1 14 y = true) (hsl2 : ∀ f, f < 12 → X.2.2.1 2 f = decide (f < np)) (hsl3 : ∀ f, f < 30 → X.2.2.1 3 f = decide (f < ns ∧ s.1 13 f = 0)) (kz : ∀ (w3 w4 : Option Value) (g : Nat → Int32) (G : GT), finL s np ns x y = 0 → LF X (sG s g) G → V cX8_joinUntilTogether yX8_joinUntilTogether.cls 5 rm_X8_joinUntilTogether D K 56 [some (.ref (X.1 0 0)), some (.ref (X.1 14 x)), some (.ref (X.1 14 y)), w3, w4] [] G (0, 0)) (kr : ∀ (w3 w4 : Option Value) (g : Nat → Int32) (G : GT), LF X (sG s g) G → V cX8_joinUntilTogether yX8_joinUntilTogether.cls 5 rm_X8_joinUntilTogether D K 94 [some (.ref (X.1 0 0)), some (.ref (X.1 14 x)), some (.ref (X.1 14 y)), w3, w4] [.long (finL s np ns x y)] G (0, 0)) (kk : True) : ∀ (d i : Nat) (g : Nat → Int32) (G : GT), i + d = np → JV s np ns x i g → ¬ g x = g y → LF X (sG s g) G → V cX8_joinUntilTogether yX8_joinUntilTogether.cls 5 rm_X8_joinUntilTogether D K 37 [some (.ref (X.1 0 0)), some (.ref (X.1 14 x)), some (.ref (X.1 14 y)), some (.int (nI i)), none] [] G (0, 0) := by
  intro d
  induction d with
  | zero =>
    intro i g G he0 he1 he2 he3 
    have hG := he3
    refine v_iload_n (pc := 37) dX8_joinUntilTogether_37 rfl rfl ?_
    refine v_aload_n (pc := 38) dX8_joinUntilTogether_38 rfl rfl ?_
    refine vc_getI (pc := 39) (f := 3) hG dX8_joinUntilTogether_39 fl_X8_114 (Or.inl rfl) (hG.2.2.1 0 (by decide)) rfl (by decide) ((ivL_0_3 _ _).trans hb) ?_
    refine v_icmp_ge (pc := 42) (tgt := 101) dX8_joinUntilTogether_42 (by decide) (fun c42 => ?_) (fun c42 => absurd c42 (not_not_intro (by rw [show i = np by omega]; exact Int32.le_refl _)))
    have e : i = np := by omega
    subst e
    exact absurd (JV.two hG9.2.1 hx hy he1) he2
  | succ d ih =>
    intro i g G he0 he1 he2 he3 
    have hG := he3
    have h12 := hG9.2.1
    have h30 := hG9.2.2.1
    refine v_iload_n (pc := 37) dX8_joinUntilTogether_37 rfl rfl ?_
    refine v_aload_n (pc := 38) dX8_joinUntilTogether_38 rfl rfl ?_
    refine vc_getI (pc := 39) (f := 3) hG dX8_joinUntilTogether_39 fl_X8_114 (Or.inl rfl) (hG.2.2.1 0 (by decide)) rfl (by decide) ((ivL_0_3 _ _).trans hb) ?_
    refine v_icmp_ge (pc := 42) (tgt := 101) dX8_joinUntilTogether_42 (by decide) (fun c42 => absurd c42 (nI_ge (by omega) (by omega))) (fun c42 => ?_)
    refine v_aload_n (pc := 45) dX8_joinUntilTogether_45 rfl rfl ?_
    refine vc_callV0 (pc := 46) (0, 0) hG dX8_joinUntilTogether_46 cw_X8_170 im_yX8_strongestBetweenGroups se_yX8_strongestBetweenGroups (c_X8_strongestBetweenGroups D X _ np ns h hG9 hsl3) (hG.2.2.1 0 (by decide)) rfl rfl (Nat.le_of_ble_eq_true rfl) ⟨Nat.le_of_ble_eq_true rfl, Nat.le_of_ble_eq_true rfl⟩ ⟨by decide, by decide⟩ rfl (fun v s1 G hp hG => ?_)
    obtain ⟨hs1, hp⟩ := hp
    subst s1
    rcases hp with ⟨hv1, hnone⟩ | ⟨k, hv1, hLk, hbk, hbm⟩
    · subst hv1
      refine v_astoreN (pc := 49) dX8_joinUntilTogether_49 rfl (by decide) ?_
      refine v_aloadN (pc := 51) dX8_joinUntilTogether_51 rfl ?_
      refine v_ifnonnullN (pc := 53) dX8_joinUntilTogether_53 ?_
      exact kz _ _ g G (JV.none hG9 hy he2 hnone) hG
    · subst hv1
      obtain ⟨a, b, ha, hb2, e1, e2⟩ := hG9.1 k hbk.1
      have ea : nat (s.1 10 k) = a := by rw [e1]; exact nat_nI (by omega)
      have eb : nat (s.1 11 k) = b := by rw [e2]; exact nat_nI (by omega)
      have eA : enA s k = a := ea
      have eB : enB s k = b := eb
      refine v_astore (pc := 49) dX8_joinUntilTogether_49 rfl (by decide) ?_
      refine v_aload (pc := 51) dX8_joinUntilTogether_51 rfl ?_
      refine v_ifnonnull (pc := 53) (tgt := 58) dX8_joinUntilTogether_53 (by decide) ?_
      refine v_aload_n (pc := 58) dX8_joinUntilTogether_58 rfl rfl ?_
      refine v_aload (pc := 59) dX8_joinUntilTogether_59 rfl ?_
      refine vc_getR (pc := 61) (f := 1) hG dX8_joinUntilTogether_61 fl_X8_174 rfl hLk rfl (by decide) (c' := 14) (i' := b) (by rw [rvL_15_1]; exact congrArg (fun z => some (14, z)) eb) (fun hL61 => ?_)
      refine vc_getI (pc := 64) (f := 4) hG dX8_joinUntilTogether_64 fl_X8_167 (Or.inl rfl) (by assumption) rfl (by decide) (show iv _ 14 b 4 = g b from rfl) ?_
      refine v_aload (pc := 67) dX8_joinUntilTogether_67 rfl ?_
      refine vc_getR (pc := 69) (f := 0) hG dX8_joinUntilTogether_69 fl_X8_178 rfl hLk rfl (by decide) (c' := 14) (i' := a) (by rw [rvL_15_0]; exact congrArg (fun z => some (14, z)) ea) (fun hL69 => ?_)
      refine vc_getI (pc := 72) (f := 4) hG dX8_joinUntilTogether_72 fl_X8_167 (Or.inl rfl) (by assumption) rfl (by decide) (show iv _ 14 a 4 = g a from rfl) ?_
      refine vc_callV2 (pc := 75) (0, 0) hG dX8_joinUntilTogether_75 cw_X8_181 im_yX8_moveGroup se_yX8_moveGroup (c_X8_moveGroup D X _ np _ _ h12 hsl2) (hG.2.2.1 0 (by decide)) rfl rfl (Nat.le_of_ble_eq_true rfl) ⟨Nat.le_of_ble_eq_true rfl, Nat.le_of_ble_eq_true rfl⟩ ⟨by decide, by decide⟩ rfl (fun v s1 G hp hG => ?_)
      obtain ⟨hv1, hs1⟩ := hp
      subst hv1
      subst s1
      have hG : LF X (sG s (mvG g (g b) (g a) np)) G := by rw [← sG_sG s g]; exact hG
      refine v_aload_n (pc := 78) dX8_joinUntilTogether_78 rfl rfl ?_
      refine vc_getI (pc := 79) (f := 4) hG dX8_joinUntilTogether_79 fl_X8_167 (Or.inl rfl) hLx rfl (by decide) (show iv _ 14 x 4 = mvG g (g b) (g a) np x from rfl) ?_
      refine v_aload_n (pc := 82) dX8_joinUntilTogether_82 rfl rfl ?_
      refine vc_getI (pc := 83) (f := 4) hG dX8_joinUntilTogether_83 fl_X8_167 (Or.inl rfl) hLy rfl (by decide) (show iv _ 14 y 4 = mvG g (g b) (g a) np y from rfl) ?_
      refine v_icmp_ne (pc := 86) (tgt := 95) dX8_joinUntilTogether_86 (by decide) (fun c86 => ?_) (fun c86 => ?_)
      · refine v_iinc (pc := 95) dX8_joinUntilTogether_95 rfl (nI_1 i) rfl (by decide) ?_
        refine v_goto (pc := 98) (tgt := 37) dX8_joinUntilTogether_98 (by decide) ?_
        refine v_forget 4 ?_
        exact ih (i + 1) _ G (by omega) (by have := JV.pick hG9 hx he1 hbk hbm; rw [eA, eB] at this; exact this) c86 hG
      · refine v_aload (pc := 89) dX8_joinUntilTogether_89 rfl ?_
        refine vc_callV0 (pc := 91) (0, 0) hG dX8_joinUntilTogether_91 cw_X8_151 im_yX7_strengthNow se_yX7_strengthNow (c_X7_strengthNow D X _ k np ns hLk h hG9.1 hbk.1 h12 h30) hLk rfl rfl (Nat.le_of_ble_eq_true rfl) ⟨Nat.le_of_ble_eq_true rfl, Nat.le_of_ble_eq_true rfl⟩ ⟨by decide, by decide⟩ rfl (fun v s1 G hp hG => ?_)
        obtain ⟨hv1, hs1⟩ := hp
        subst hv1
        subst s1
        rw [show seamS (sG s _) k = finL s np ns x y from (JV.hit hG9 hx hy he1 he2 hbk hbm (by rw [eA, eB]; exact c86)).symm]
        exact kr _ _ _ G hG
set_option maxRecDepth 100000 in
set_option maxHeartbeats 400000 in
theorem c_X8_joinUntilTogether (D : DT) (X : XT) (s : SG) (np ns x y : Nat)  (h : PV s np) (hG9 : GOK s np ns) (hb : s.1 4 0 = nI np) (hx : x < np) (hy : y < np) (hLx : X.2.1 14 x = true) (hLy : X.2.1 14 y = true) (hxy : ¬ x = y) (hsl2 : ∀ f, f < 12 → X.2.2.1 2 f = decide (f < np)) (hsl3 : ∀ f, f < 30 → X.2.2.1 3 f = decide (f < ns ∧ s.1 13 f = 0)) : CC yX8_joinUntilTogether cX8_joinUntilTogether 5 (Option.some Jvm.ClassFile.FieldType.long) rm_X8_joinUntilTogether D [.ref (X.1 0 0), .ref (X.1 14 x), .ref (X.1 14 y)] X s (fun v s' => v = some (.long (finL s np ns x y)) ∧ ∃ g, s' = sG s g) := by
  intro G hG
  refine MC_of (by decide +kernel) (Nat.le_of_ble_eq_true rfl) (fun K sz hR => ?_)
  show V cX8_joinUntilTogether _ 5 _ D K 0 [some (.ref (X.1 0 0)), some (.ref (X.1 14 x)), some (.ref (X.1 14 y)), none, none] [] G (0, 0)
  refine v_iconst (pc := 0) (v := 0) dX8_joinUntilTogether_0 (by decide) ?_
  refine v_istore_n (pc := 1) dX8_joinUntilTogether_1 rfl rfl (by decide) ?_
  have h12 := hG9.2.1
  refine l_X8_join1 (s := s) np x y h12 hb hsl2 (fun G hG => ?_) np 0 G (by omega) (by rw [inG_0, sG_self]; exact hG)
  refine v_iconst (pc := 35) (v := 1) dX8_joinUntilTogether_35 (by decide) ?_
  refine v_istore_n (pc := 36) dX8_joinUntilTogether_36 rfl rfl (by decide) ?_
  refine l_X8_join2 (s := s) np ns x y h hG9 hb hx hy hLx hLy hsl2 hsl3 (fun w3 w4 g G hz hG => ?_) (fun w3 w4 g G hG => ?_) trivial (np - 1) 1 (inG (s.1 43) np) G (by omega) (JV.ini (fun v hv => by simp [inG, hv]) h12) (by simp only [inG, hx, hy, if_true]; exact fun z => hxy (nI_inj (by omega) (by omega) z)) hG
  · refine v_lconst (pc := 56) (v := 0) dX8_joinUntilTogether_56 (by decide) ?_
    refine v_lret (pc := 57) hR dX8_joinUntilTogether_57 ⟨by decide, by decide⟩ ?_
    exact ⟨_, hG, by rw [hz], ⟨_, rfl⟩⟩
  · refine v_lret (pc := 94) hR dX8_joinUntilTogether_94 ⟨by decide, by decide⟩ ?_
    exact ⟨_, hG, rfl, ⟨_, rfl⟩⟩
set_option maxRecDepth 100000 in
set_option maxHeartbeats 400000 in
theorem c_X8_bearsAnew (D : DT) (X : XT) (s : SG) (np ns : Nat) (p0 : Int32) (p1 : Int32) (h : PV s np) (hG9 : GOK s np ns) (hb : s.1 4 0 = nI np) (hnp : np ≤ 12) (hsl2 : ∀ f, f < 12 → X.2.2.1 2 f = decide (f < np)) (hsl3 : ∀ f, f < 30 → X.2.2.1 3 f = decide (f < ns ∧ s.1 13 f = 0)) : CX yX8_bearsAnew cX8_bearsAnew 5 (Option.some Jvm.ClassFile.FieldType.long) rm_X8_bearsAnew D [.ref (X.1 0 0), .int p0, .int p1] X s (fun v s' => v = some (.long (finL s np ns (nat p0) (nat p1))) ∧ (∃ g, s' = sG s g) ∧ kBe np p0 p1 = 0) (fun e => e = xIO ∧ kBe np p0 p1 = 1) := by
  intro G hG
  refine MX_of (by decide +kernel) (Nat.le_of_ble_eq_true rfl) (fun K sz hR hX => ?_)
  show V cX8_bearsAnew _ 5 _ D K 0 [some (.ref (X.1 0 0)), some (.int p0), some (.int p1), none, none] [] G (0, 0)
  refine v_aload_n (pc := 0) dX8_bearsAnew_0 rfl rfl ?_
  refine v_iload_n (pc := 1) dX8_bearsAnew_1 rfl rfl ?_
  refine vc_callV1 (pc := 2) (0, 0) hG dX8_bearsAnew_2 cw_X8_125 im_yX8_panelAt se_yX8_panelAt (c_X8_panelAt D X _ np _ hb hnp hsl2) (hG.2.2.1 0 (by decide)) rfl rfl (Nat.le_of_ble_eq_true rfl) ⟨Nat.le_of_ble_eq_true rfl, Nat.le_of_ble_eq_true rfl⟩ ⟨by decide, by decide⟩ rfl (fun v s1 G hp hG => ?_)
  obtain ⟨hs1, hp⟩ := hp
  subst s1
  rcases hp with ⟨c2, hv1⟩ | ⟨jA, hjA, hpA, hL2, hv1⟩
  · subst hv1
    refine v_astore_nN (pc := 5) dX8_bearsAnew_5 rfl rfl (by decide) ?_
    refine v_aload_n (pc := 6) dX8_bearsAnew_6 rfl rfl ?_
    refine v_iload_n (pc := 7) dX8_bearsAnew_7 rfl rfl ?_
    refine vc_callV1 (pc := 8) (0, 0) hG dX8_bearsAnew_8 cw_X8_125 im_yX8_panelAt se_yX8_panelAt (c_X8_panelAt D X _ np _ hb hnp hsl2) (hG.2.2.1 0 (by decide)) rfl rfl (Nat.le_of_ble_eq_true rfl) ⟨Nat.le_of_ble_eq_true rfl, Nat.le_of_ble_eq_true rfl⟩ ⟨by decide, by decide⟩ rfl (fun v s1 G hp hG => ?_)
    obtain ⟨hs1, hp⟩ := hp
    subst s1
    rcases hp with ⟨c8, hv1⟩ | ⟨jB, hjB, hpB, hL8, hv1⟩
    · subst hv1
      refine v_astoreN (pc := 11) dX8_bearsAnew_11 rfl (by decide) ?_
      refine v_aload_nN (pc := 13) dX8_bearsAnew_13 rfl rfl ?_
      refine v_ifnullN (pc := 14) (tgt := 22) dX8_bearsAnew_14 (by decide) ?_
      refine v_throw (pc := 22) hX tw_X8_89_129_93 dX8_bearsAnew_22 dX8_bearsAnew_25 dX8_bearsAnew_26 dX8_bearsAnew_28 dX8_bearsAnew_31 (Nat.le_of_ble_eq_true rfl) ⟨by decide, by decide⟩ ⟨by decide, by decide⟩ ?_
      exact ⟨hG, rfl, by rw [kBe, if_neg (fun z => by first | exact c2 z.1 | exact c8 z.2)]⟩
    · subst hpB
      subst hv1
      refine v_astore (pc := 11) dX8_bearsAnew_11 rfl (by decide) ?_
      refine v_aload_nN (pc := 13) dX8_bearsAnew_13 rfl rfl ?_
      refine v_ifnullN (pc := 14) (tgt := 22) dX8_bearsAnew_14 (by decide) ?_
      refine v_throw (pc := 22) hX tw_X8_89_129_93 dX8_bearsAnew_22 dX8_bearsAnew_25 dX8_bearsAnew_26 dX8_bearsAnew_28 dX8_bearsAnew_31 (Nat.le_of_ble_eq_true rfl) ⟨by decide, by decide⟩ ⟨by decide, by decide⟩ ?_
      exact ⟨hG, rfl, by rw [kBe, if_neg (fun z => by first | exact c2 z.1 | exact c8 z.2)]⟩
  · subst hpA
    subst hv1
    refine v_astore_n (pc := 5) dX8_bearsAnew_5 rfl rfl (by decide) ?_
    refine v_aload_n (pc := 6) dX8_bearsAnew_6 rfl rfl ?_
    refine v_iload_n (pc := 7) dX8_bearsAnew_7 rfl rfl ?_
    refine vc_callV1 (pc := 8) (0, 0) hG dX8_bearsAnew_8 cw_X8_125 im_yX8_panelAt se_yX8_panelAt (c_X8_panelAt D X _ np _ hb hnp hsl2) (hG.2.2.1 0 (by decide)) rfl rfl (Nat.le_of_ble_eq_true rfl) ⟨Nat.le_of_ble_eq_true rfl, Nat.le_of_ble_eq_true rfl⟩ ⟨by decide, by decide⟩ rfl (fun v s1 G hp hG => ?_)
    obtain ⟨hs1, hp⟩ := hp
    subst s1
    rcases hp with ⟨c8, hv1⟩ | ⟨jB, hjB, hpB, hL8, hv1⟩
    · subst hv1
      refine v_astoreN (pc := 11) dX8_bearsAnew_11 rfl (by decide) ?_
      refine v_aload_n (pc := 13) dX8_bearsAnew_13 rfl rfl ?_
      refine v_ifnull (pc := 14) dX8_bearsAnew_14 ?_
      refine v_aloadN (pc := 17) dX8_bearsAnew_17 rfl ?_
      refine v_ifnonnullN (pc := 19) dX8_bearsAnew_19 ?_
      refine v_throw (pc := 22) hX tw_X8_89_129_93 dX8_bearsAnew_22 dX8_bearsAnew_25 dX8_bearsAnew_26 dX8_bearsAnew_28 dX8_bearsAnew_31 (Nat.le_of_ble_eq_true rfl) ⟨by decide, by decide⟩ ⟨by decide, by decide⟩ ?_
      exact ⟨hG, rfl, by rw [kBe, if_neg (fun z => by first | exact c2 z.1 | exact c8 z.2)]⟩
    · subst hpB
      subst hv1
      refine v_astore (pc := 11) dX8_bearsAnew_11 rfl (by decide) ?_
      refine v_aload_n (pc := 13) dX8_bearsAnew_13 rfl rfl ?_
      refine v_ifnull (pc := 14) dX8_bearsAnew_14 ?_
      refine v_aload (pc := 17) dX8_bearsAnew_17 rfl ?_
      refine v_ifnonnull (pc := 19) (tgt := 32) dX8_bearsAnew_19 (by decide) ?_
      refine v_iload_n (pc := 32) dX8_bearsAnew_32 rfl rfl ?_
      refine v_iload_n (pc := 33) dX8_bearsAnew_33 rfl rfl ?_
      refine v_icmp_ne (pc := 34) (tgt := 42) dX8_bearsAnew_34 (by decide) (fun c34 => ?_) (fun c34 => ?_)
      · have hxy : ¬ jA = jB := fun z => c34 (by rw [z])
        refine v_aload_n (pc := 42) dX8_bearsAnew_42 rfl rfl ?_
        refine v_aload_n (pc := 43) dX8_bearsAnew_43 rfl rfl ?_
        refine v_aload (pc := 44) dX8_bearsAnew_44 rfl ?_
        refine vc_callV2 (pc := 46) (0, 0) hG dX8_bearsAnew_46 cw_X8_160 im_yX8_joinUntilTogether se_yX8_joinUntilTogether (c_X8_joinUntilTogether D X _ np ns jA jB h hG9 hb hjA hjB hL2 hL8 hxy hsl2 hsl3) (hG.2.2.1 0 (by decide)) rfl rfl (Nat.le_of_ble_eq_true rfl) ⟨Nat.le_of_ble_eq_true rfl, Nat.le_of_ble_eq_true rfl⟩ ⟨by decide, by decide⟩ rfl (fun v s1 G hp hG => ?_)
        obtain ⟨hv1, g9, hs1⟩ := hp
        subst hv1
        subst s1
        refine v_lret (pc := 49) hR dX8_bearsAnew_49 ⟨by decide, by decide⟩ ?_
        exact ⟨_, hG, by rw [nat_nI (by omega), nat_nI (by omega)], ⟨_, rfl⟩, by rw [kBe, if_pos ⟨((btw_ix (a := np) (by omega)).mpr ⟨jA, hjA, rfl⟩), ((btw_ix (a := np) (by omega)).mpr ⟨jB, hjB, rfl⟩)⟩]⟩
      · have hxy : jA = jB := nI_inj (by omega) (by omega) c34
        subst hxy
        refine v_aload_n (pc := 37) dX8_bearsAnew_37 rfl rfl ?_
        refine vc_callV0 (pc := 38) (0, 0) hG dX8_bearsAnew_38 cw_X8_131 im_yX4_strengthNow se_yX4_strengthNow (c_X4_strengthNow D X _ jA np hL2 h hjA hnp) hL2 rfl rfl (Nat.le_of_ble_eq_true rfl) ⟨Nat.le_of_ble_eq_true rfl, Nat.le_of_ble_eq_true rfl⟩ ⟨by decide, by decide⟩ rfl (fun v s1 G hp hG => ?_)
        obtain ⟨hv1, hs1⟩ := hp
        subst hv1
        subst s1
        refine v_lret (pc := 41) hR dX8_bearsAnew_41 ⟨by decide, by decide⟩ ?_
        exact ⟨_, hG, by rw [nat_nI (by omega), fin_x hG9 hjA], ⟨s.1 43, (sG_self s).symm⟩, by rw [kBe, if_pos ⟨((btw_ix (a := np) (by omega)).mpr ⟨jA, hjA, rfl⟩), ((btw_ix (a := np) (by omega)).mpr ⟨jA, hjA, rfl⟩)⟩]⟩
