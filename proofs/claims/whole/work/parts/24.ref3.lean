/-- roll: what stands behind i panels: the sum of the rows behind, where the row's end is, its length -/
def rollF (s : SG) (l : Nat) : Nat → Int32 × Int32 × Int32
  | 0 => (0, 0, 0)
  | i + 1 => if s.1 5 i = nI l then (if (rollF s l i).2.1 + acrS s i ≤ 150 then ((rollF s l i).1, (rollF s l i).2.1 + acrS s i, if lenS s i < (rollF s l i).2.2 then (rollF s l i).2.2 else lenS s i) else ((rollF s l i).1 + (rollF s l i).2.2, acrS s i, lenS s i)) else rollF s l i
def rollS (s : SG) (l b : Nat) : Int32 := (rollF s l b).1 + (rollF s l b).2.2
def kRoll (a : Nat) (p0 : Int32) : Int32 := if btw p0 0 (nI a - 1) then 0 else 1
set_option maxRecDepth 100000 in
set_option maxHeartbeats 4000000 in
theorem l_X9_roll {D : DT} {K : KT} {m : Nat} {ad : AdT} {s : SG} (l b : Nat) (hb : s.1 4 0 = nI b) (hb2 : b ≤ 12) (kk : ∀ (x2 x3 x4 : Int32) (G : GT), rollF s l b = (x2, x3, x4) → MD m ad s G → V cX9_roll yX9_roll.cls 7 rm_X9_roll D K 145 [some (.ref m), some (.int (nI l)), some (.int x2), some (.int x3), some (.int x4), some (.int (nI b)), none] [] G (0, 0)) : ∀ (d i : Nat) (x2 x3 x4 : Int32) (G : GT), i + d = b → rollF s l i = (x2, x3, x4) → MD m ad s G → V cX9_roll yX9_roll.cls 7 rm_X9_roll D K 32 [some (.ref m), some (.int (nI l)), some (.int x2), some (.int x3), some (.int x4), some (.int (nI i)), none] [] G (0, 0) := by
  intro d
  induction d with
  | zero =>
    intro i x2 x3 x4 G he0 he1 hG
    refine v_iload (pc := 32) dX9_roll_32 rfl ?_
    refine v_aload_n (pc := 34) dX9_roll_34 rfl rfl ?_
    refine vm_getI (pc := 35) (k := 4) hG dX9_roll_35 fl_X9_107 rfl (by decide) (x := nI b) hb ?_
    refine v_icmp_ge (pc := 38) (tgt := 145) dX9_roll_38 (by decide) (fun c38 => ?_) (fun c38 => absurd c38 (not_not_intro (by rw [show i = b by omega]; exact Int32.le_refl _)))
    have e : i = b := by omega
    subst e
    exact kk _ _ _ G he1 hG
  | succ d ih =>
    intro i x2 x3 x4 G he0 he1 hG
    refine v_iload (pc := 32) dX9_roll_32 rfl ?_
    refine v_aload_n (pc := 34) dX9_roll_34 rfl rfl ?_
    refine vm_getI (pc := 35) (k := 4) hG dX9_roll_35 fl_X9_107 rfl (by decide) (x := nI b) hb ?_
    refine v_icmp_ge (pc := 38) (tgt := 145) dX9_roll_38 (by decide) (fun c38 => absurd c38 (nI_ge (by omega) (by omega))) (fun c38 => ?_)
    refine v_aload_n (pc := 41) dX9_roll_41 rfl rfl ?_
    refine vm_getA (pc := 42) (k := 5) hG dX9_roll_42 fl_X9_20 (by decide) ?_
    refine v_iload (pc := 45) dX9_roll_45 rfl ?_
    refine vm_iald (pc := 47) (k := 5) (j := i) hG dX9_roll_47 rfl rfl (by have h0 : ml 5 = 12 := rfl; omega) rfl ?_
    refine v_iload_n (pc := 48) dX9_roll_48 rfl rfl ?_
    refine v_icmp_ne (pc := 49) (tgt := 139) dX9_roll_49 (by decide) (fun c49 => ?_) (fun c49 => ?_)
    · have e9 : rollF s l (i + 1) = (x2, x3, x4) := by rw [rollF, if_neg c49, he1]
      refine v_iinc (pc := 139) dX9_roll_139 rfl (nI_1 i) rfl (by decide) ?_
      refine v_goto (pc := 142) (tgt := 32) dX9_roll_142 (by decide) ?_
      refine v_forget 6 ?_
      first
        | exact ih (i + 1) _ _ _ G (by omega) e9 hG
        | exact ih (i + 1) _ _ _ G (by omega) (by rw [rollF, if_pos c49, he1, if_neg c63]) hG
    · refine v_iload_n (pc := 52) dX9_roll_52 rfl rfl ?_
      refine v_aload_n (pc := 53) dX9_roll_53 rfl rfl ?_
      refine v_iload (pc := 54) dX9_roll_54 rfl ?_
      refine vm_callV1 (pc := 56) (0, 0) hG dX9_roll_56 cw_X9_128 im_yX9_across se_yX9_across (c_X9_across D m ad _ i (by omega)) rfl (Nat.le_of_ble_eq_true rfl) ⟨Nat.le_of_ble_eq_true rfl, Nat.le_of_ble_eq_true rfl⟩ ⟨by decide, by decide⟩ rfl (fun v s1 G hp hG => ?_)
      obtain ⟨hv1, hs1⟩ := hp
      subst hv1
      subst s1
      refine v_iadd (pc := 59) dX9_roll_59 ?_
      refine v_sipush (pc := 60) (v := 150) dX9_roll_60 (by decide) ?_
      refine v_icmp_gt (pc := 63) (tgt := 70) dX9_roll_63 (by decide) (fun c63 => ?_) (fun c63 => ?_)
      · have c63 := n_nle.mpr c63
        refine v_iconst (pc := 70) (v := 0) dX9_roll_70 (by decide) ?_
        refine v_istore (pc := 71) dX9_roll_71 rfl (by decide) ?_
        refine v_iload_n (pc := 73) dX9_roll_73 rfl rfl ?_
        refine v_iload (pc := 74) dX9_roll_74 rfl ?_
        refine v_if_eq (pc := 76) (tgt := 83) dX9_roll_76 (by decide) (fun c76 => ?_) (fun c76 => absurd c76 (by decide))
        refine v_iload (pc := 83) dX9_roll_83 rfl ?_
        refine v_iadd (pc := 85) dX9_roll_85 ?_
        refine v_istore_n (pc := 86) dX9_roll_86 rfl rfl (by decide) ?_
        refine v_iload (pc := 87) dX9_roll_87 rfl ?_
        refine v_if_eq (pc := 89) (tgt := 108) dX9_roll_89 (by decide) (fun c89 => ?_) (fun c89 => absurd c89 (by decide))
        refine v_aload_n (pc := 108) dX9_roll_108 rfl rfl ?_
        refine v_iload (pc := 109) dX9_roll_109 rfl ?_
        refine vm_callV1 (pc := 111) (0, 0) hG dX9_roll_111 cw_X9_132 im_yX9_length se_yX9_length (c_X9_length D m ad _ i (by omega)) rfl (Nat.le_of_ble_eq_true rfl) ⟨Nat.le_of_ble_eq_true rfl, Nat.le_of_ble_eq_true rfl⟩ ⟨by decide, by decide⟩ rfl (fun v s1 G hp hG => ?_)
        obtain ⟨hv1, hs1⟩ := hp
        subst hv1
        subst s1
        refine v_istore (pc := 114) dX9_roll_114 rfl (by decide) ?_
        refine v_iload (pc := 116) dX9_roll_116 rfl ?_
        refine v_if_eq (pc := 118) (tgt := 132) dX9_roll_118 (by decide) (fun c118 => ?_) (fun c118 => absurd c118 (by decide))
        refine v_aload_n (pc := 132) dX9_roll_132 rfl rfl ?_
        refine v_iload (pc := 133) dX9_roll_133 rfl ?_
        refine vm_callV1 (pc := 135) (0, 0) hG dX9_roll_135 cw_X9_128 im_yX9_across se_yX9_across (c_X9_across D m ad _ i (by omega)) rfl (Nat.le_of_ble_eq_true rfl) ⟨Nat.le_of_ble_eq_true rfl, Nat.le_of_ble_eq_true rfl⟩ ⟨by decide, by decide⟩ rfl (fun v s1 G hp hG => ?_)
        obtain ⟨hv1, hs1⟩ := hp
        subst hv1
        subst s1
        refine v_istore_n (pc := 138) dX9_roll_138 rfl rfl (by decide) ?_
        refine v_iinc (pc := 139) dX9_roll_139 rfl (nI_1 i) rfl (by decide) ?_
        refine v_goto (pc := 142) (tgt := 32) dX9_roll_142 (by decide) ?_
        refine v_forget 6 ?_
        first
          | exact ih (i + 1) _ _ _ G (by omega) e9 hG
          | exact ih (i + 1) _ _ _ G (by omega) (by rw [rollF, if_pos c49, he1, if_neg c63]) hG
      · rw [n_nlt] at c63
        refine v_iconst (pc := 66) (v := 1) dX9_roll_66 (by decide) ?_
        refine v_goto (pc := 67) (tgt := 71) dX9_roll_67 (by decide) ?_
        refine v_istore (pc := 71) dX9_roll_71 rfl (by decide) ?_
        refine v_iload_n (pc := 73) dX9_roll_73 rfl rfl ?_
        refine v_iload (pc := 74) dX9_roll_74 rfl ?_
        refine v_if_eq (pc := 76) (tgt := 83) dX9_roll_76 (by decide) (fun c76 => absurd c76 (by decide)) (fun c76 => ?_)
        refine v_iconst (pc := 79) (v := 0) dX9_roll_79 (by decide) ?_
        refine v_goto (pc := 80) (tgt := 85) dX9_roll_80 (by decide) ?_
        refine v_iadd (pc := 85) dX9_roll_85 ?_
        refine v_istore_n (pc := 86) dX9_roll_86 rfl rfl (by decide) ?_
        refine v_iload (pc := 87) dX9_roll_87 rfl ?_
        refine v_if_eq (pc := 89) (tgt := 108) dX9_roll_89 (by decide) (fun c89 => absurd c89 (by decide)) (fun c89 => ?_)
        refine v_iload (pc := 92) dX9_roll_92 rfl ?_
        refine v_aload_n (pc := 94) dX9_roll_94 rfl rfl ?_
        refine v_iload (pc := 95) dX9_roll_95 rfl ?_
        refine vm_callV1 (pc := 97) (0, 0) hG dX9_roll_97 cw_X9_132 im_yX9_length se_yX9_length (c_X9_length D m ad _ i (by omega)) rfl (Nat.le_of_ble_eq_true rfl) ⟨Nat.le_of_ble_eq_true rfl, Nat.le_of_ble_eq_true rfl⟩ ⟨by decide, by decide⟩ rfl (fun v s1 G hp hG => ?_)
        obtain ⟨hv1, hs1⟩ := hp
        subst hv1
        subst s1
        refine v_icmp_le (pc := 100) (tgt := 108) dX9_roll_100 (by decide) (fun c100 => ?_) (fun c100 => ?_)
        · have e9 : rollF s l (i + 1) = (x2 + 0, x3 + acrS s i, lenS s i) := by rw [Int32.add_zero, rollF, if_pos c49, he1, if_pos c63, if_neg (n_nlt.mpr c100)]
          refine v_aload_n (pc := 108) dX9_roll_108 rfl rfl ?_
          refine v_iload (pc := 109) dX9_roll_109 rfl ?_
          refine vm_callV1 (pc := 111) (0, 0) hG dX9_roll_111 cw_X9_132 im_yX9_length se_yX9_length (c_X9_length D m ad _ i (by omega)) rfl (Nat.le_of_ble_eq_true rfl) ⟨Nat.le_of_ble_eq_true rfl, Nat.le_of_ble_eq_true rfl⟩ ⟨by decide, by decide⟩ rfl (fun v s1 G hp hG => ?_)
          obtain ⟨hv1, hs1⟩ := hp
          subst hv1
          subst s1
          refine v_istore (pc := 114) dX9_roll_114 rfl (by decide) ?_
          refine v_iload (pc := 116) dX9_roll_116 rfl ?_
          refine v_if_eq (pc := 118) (tgt := 132) dX9_roll_118 (by decide) (fun c118 => absurd c118 (by decide)) (fun c118 => ?_)
          refine v_iload_n (pc := 121) dX9_roll_121 rfl rfl ?_
          refine v_aload_n (pc := 122) dX9_roll_122 rfl rfl ?_
          refine v_iload (pc := 123) dX9_roll_123 rfl ?_
          refine vm_callV1 (pc := 125) (0, 0) hG dX9_roll_125 cw_X9_128 im_yX9_across se_yX9_across (c_X9_across D m ad _ i (by omega)) rfl (Nat.le_of_ble_eq_true rfl) ⟨Nat.le_of_ble_eq_true rfl, Nat.le_of_ble_eq_true rfl⟩ ⟨by decide, by decide⟩ rfl (fun v s1 G hp hG => ?_)
          obtain ⟨hv1, hs1⟩ := hp
          subst hv1
          subst s1
          refine v_iadd (pc := 128) dX9_roll_128 ?_
          refine v_goto (pc := 129) (tgt := 138) dX9_roll_129 (by decide) ?_
          refine v_istore_n (pc := 138) dX9_roll_138 rfl rfl (by decide) ?_
          refine v_iinc (pc := 139) dX9_roll_139 rfl (nI_1 i) rfl (by decide) ?_
          refine v_goto (pc := 142) (tgt := 32) dX9_roll_142 (by decide) ?_
          refine v_forget 6 ?_
          first
            | exact ih (i + 1) _ _ _ G (by omega) e9 hG
            | exact ih (i + 1) _ _ _ G (by omega) (by rw [rollF, if_pos c49, he1, if_neg c63]) hG
        · have e9 : rollF s l (i + 1) = (x2 + 0, x3 + acrS s i, x4) := by rw [Int32.add_zero, rollF, if_pos c49, he1, if_pos c63, if_pos (n_nle.mp c100)]
          refine v_iload (pc := 103) dX9_roll_103 rfl ?_
          refine v_goto (pc := 105) (tgt := 114) dX9_roll_105 (by decide) ?_
          refine v_istore (pc := 114) dX9_roll_114 rfl (by decide) ?_
          refine v_iload (pc := 116) dX9_roll_116 rfl ?_
          refine v_if_eq (pc := 118) (tgt := 132) dX9_roll_118 (by decide) (fun c118 => absurd c118 (by decide)) (fun c118 => ?_)
          refine v_iload_n (pc := 121) dX9_roll_121 rfl rfl ?_
          refine v_aload_n (pc := 122) dX9_roll_122 rfl rfl ?_
          refine v_iload (pc := 123) dX9_roll_123 rfl ?_
          refine vm_callV1 (pc := 125) (0, 0) hG dX9_roll_125 cw_X9_128 im_yX9_across se_yX9_across (c_X9_across D m ad _ i (by omega)) rfl (Nat.le_of_ble_eq_true rfl) ⟨Nat.le_of_ble_eq_true rfl, Nat.le_of_ble_eq_true rfl⟩ ⟨by decide, by decide⟩ rfl (fun v s1 G hp hG => ?_)
          obtain ⟨hv1, hs1⟩ := hp
          subst hv1
          subst s1
          refine v_iadd (pc := 128) dX9_roll_128 ?_
          refine v_goto (pc := 129) (tgt := 138) dX9_roll_129 (by decide) ?_
          refine v_istore_n (pc := 138) dX9_roll_138 rfl rfl (by decide) ?_
          refine v_iinc (pc := 139) dX9_roll_139 rfl (nI_1 i) rfl (by decide) ?_
          refine v_goto (pc := 142) (tgt := 32) dX9_roll_142 (by decide) ?_
          refine v_forget 6 ?_
          first
            | exact ih (i + 1) _ _ _ G (by omega) e9 hG
            | exact ih (i + 1) _ _ _ G (by omega) (by rw [rollF, if_pos c49, he1, if_neg c63]) hG
theorem rollF_thr (s : SG) (x : Int32) (l : Nat) : ∀ i, rollF (thr s x) l i = rollF s l i := by
  intro i
  induction i with
  | zero => rfl
  | succ i ih => rw [rollF, rollF, ih]; rfl
set_option maxRecDepth 100000 in
set_option maxHeartbeats 4000000 in
theorem c_X9_roll (D : DT) (m : Nat) (ad : AdT) (s : SG) (a b : Nat) (p0 : Int32) (hn : s.1 0 0 = nI a) (ha : a ≤ 6) (hb : s.1 4 0 = nI b) (hb2 : b ≤ 12) : MM yX9_roll cX9_roll 7 (Option.some Jvm.ClassFile.FieldType.int) rm_X9_roll D [.ref m, .int p0] m ad s (fun v s' => v = some (.int (if kRoll a p0 = 0 then rollS s (nat p0) b else 0)) ∧ s' = thr s (kRoll a p0)) := by
  intro G hG
  refine MC_of (by decide +kernel) (Nat.le_of_ble_eq_true rfl) (fun K sz hR => ?_)
  show V cX9_roll _ 7 _ D K 0 [some (.ref m), some (.int p0), none, none, none, none, none] [] G (0, 0)
  refine v_aload_n (pc := 0) dX9_roll_0 rfl rfl ?_
  refine v_aload_n (pc := 1) dX9_roll_1 rfl rfl ?_
  refine v_iload_n (pc := 2) dX9_roll_2 rfl rfl ?_
  refine vm_callV1 (pc := 3) (0, 0) hG dX9_roll_3 cw_X9_115 im_yX9_isLot se_yX9_isLot (c_X9_isLot D m ad _ _ ) rfl (Nat.le_of_ble_eq_true rfl) ⟨Nat.le_of_ble_eq_true rfl, Nat.le_of_ble_eq_true rfl⟩ ⟨by decide, by decide⟩ rfl (fun v s1 G hp hG => ?_)
  obtain ⟨hv1, hs1⟩ := hp
  subst hv1
  subst s1
  refine v_if_eq (pc := 6) (tgt := 13) dX9_roll_6 (by decide) (fun c6 => ?_) (fun c6 => ?_)
  · rw [b2i_0] at c6
    rw [hn] at c6
    have hk : kRoll a p0 = 1 := by rw [kRoll, if_neg c6]
    refine v_iconst (pc := 13) (v := 1) dX9_roll_13 (by decide) ?_
    refine vm_callV1 (pc := 14) (0, 0) hG dX9_roll_14 cw_X9_111 im_yX9_goes se_yX9_goes (c_X9_goes D m ad _ _ ) rfl (Nat.le_of_ble_eq_true rfl) ⟨Nat.le_of_ble_eq_true rfl, Nat.le_of_ble_eq_true rfl⟩ ⟨by decide, by decide⟩ rfl (fun v s1 G hp hG => ?_)
    obtain ⟨hv1, hs1⟩ := hp
    subst hv1
    subst s1
    refine v_if_ne (pc := 17) (tgt := 22) dX9_roll_17 (by decide) (fun c17 => absurd c17 (by decide)) (fun c17 => ?_)
    refine v_iconst (pc := 20) (v := 0) dX9_roll_20 (by decide) ?_
    refine v_iret (pc := 21) hR dX9_roll_21 ⟨by decide, by decide⟩ ?_
    exact ⟨_, hG, by simp [hk], by simp [hk]⟩
  · rw [b2i_0, Decidable.not_not] at c6
    rw [hn] at c6
    have hk : kRoll a p0 = 0 := by rw [kRoll, if_pos c6]
    obtain ⟨j, hj, rfl⟩ := (btw_ix (a := a) (by omega)).mp c6
    have en : nat (nI j) = j := nat_nI (by omega)
    refine v_iconst (pc := 9) (v := 0) dX9_roll_9 (by decide) ?_
    refine v_goto (pc := 10) (tgt := 14) dX9_roll_10 (by decide) ?_
    refine vm_callV1 (pc := 14) (0, 0) hG dX9_roll_14 cw_X9_111 im_yX9_goes se_yX9_goes (c_X9_goes D m ad _ _ ) rfl (Nat.le_of_ble_eq_true rfl) ⟨Nat.le_of_ble_eq_true rfl, Nat.le_of_ble_eq_true rfl⟩ ⟨by decide, by decide⟩ rfl (fun v s1 G hp hG => ?_)
    obtain ⟨hv1, hs1⟩ := hp
    subst hv1
    subst s1
    refine v_if_ne (pc := 17) (tgt := 22) dX9_roll_17 (by decide) (fun c17 => ?_) (fun c17 => absurd c17 (by decide))
    refine v_iconst (pc := 22) (v := 0) dX9_roll_22 (by decide) ?_
    refine v_istore_n (pc := 23) dX9_roll_23 rfl rfl (by decide) ?_
    refine v_iconst (pc := 24) (v := 0) dX9_roll_24 (by decide) ?_
    refine v_istore_n (pc := 25) dX9_roll_25 rfl rfl (by decide) ?_
    refine v_iconst (pc := 26) (v := 0) dX9_roll_26 (by decide) ?_
    refine v_istore (pc := 27) dX9_roll_27 rfl (by decide) ?_
    refine v_iconst (pc := 29) (v := 0) dX9_roll_29 (by decide) ?_
    refine v_istore (pc := 30) dX9_roll_30 rfl (by decide) ?_
    refine l_X9_roll (s := thr s 0) j b hb hb2 (fun x2 x3 x4 G he hG => ?_) b 0 0 0 0 G (by omega) rfl hG
    refine v_iload_n (pc := 145) dX9_roll_145 rfl rfl ?_
    refine v_iload (pc := 146) dX9_roll_146 rfl ?_
    refine v_iadd (pc := 148) dX9_roll_148 ?_
    refine v_iret (pc := 149) hR dX9_roll_149 ⟨by decide, by decide⟩ ?_
    exact ⟨_, hG, by rw [if_pos hk, en, rollS, show rollF s j b = rollF (thr s 0) j b from (rollF_thr s 0 j b).symm, he], by rw [hk]⟩
