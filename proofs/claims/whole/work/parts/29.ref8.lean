/-- pegs -/
abbrev oPeg (h : Int64) (q : Int32) : Prop := (0 ≤ h ∧ h ≤ 4000000000000) ∧ btw q 1 100
def kPeg (g : Nat) (h : Int64) (q : Int32) : Int32 := if oPeg h q then (if g = 8 then 2 else 0) else 1
def gPeg (s : SG) (g : Nat) (h : Int64) (q : Int32) : SG := sI (sI (sI (sJ s 20 g h) 21 g q) 22 g 1) 19 0 (nI (g + 1))
set_option maxRecDepth 100000 in
set_option maxHeartbeats 4000000 in
theorem c_X9_peg (D : DT) (m : Nat) (ad : AdT) (s : SG) (g : Nat) (p0 : Int64) (p1 : Int32) (hg : s.1 19 0 = nI g) (hg8 : g ≤ 8) : MM yX9_peg cX9_peg 5 (Option.some Jvm.ClassFile.FieldType.int) rm_X9_peg D [.ref m, .long p0, .int p1] m ad s (fun v s' => v = some (.int (if kPeg g p0 p1 = 0 then nI g else 0)) ∧ s' = if kPeg g p0 p1 = 0 then gPeg (thr s 0) g p0 p1 else thr s (kPeg g p0 p1)) := by
  intro G hG
  refine MC_of (by decide +kernel) (Nat.le_of_ble_eq_true rfl) (fun K sz hR => ?_)
  show V cX9_peg _ 5 _ D K 0 [some (.ref m), some (.long p0), none, some (.int p1), none] [] G (0, 0)
  refine v_lload_n (pc := 0) dX9_peg_0 rfl rfl ?_
  refine v_lconst (pc := 1) (v := 0) dX9_peg_1 (by decide) ?_
  refine v_lcmp (pc := 2) dX9_peg_2 ?_
  refine v_if_lt (pc := 3) (tgt := 28) dX9_peg_3 (by decide) (fun c3 => ?_) (fun c3 => ?_)
  · rw [cmp_lt0, ← l_nle] at c3
    have hk : kPeg g p0 p1 = 1 := by rw [kPeg, if_neg (fun z => c3 z.1.1)]
    refine v_iconst (pc := 28) (v := 0) dX9_peg_28 (by decide) ?_
    refine v_istore (pc := 29) dX9_peg_29 rfl (by decide) ?_
    refine v_aload_n (pc := 31) dX9_peg_31 rfl rfl ?_
    refine v_iload (pc := 32) dX9_peg_32 rfl ?_
    refine v_if_ne (pc := 34) (tgt := 41) dX9_peg_34 (by decide) (fun c34 => absurd c34 (by decide)) (fun c34 => ?_)
    refine v_iconst (pc := 37) (v := 1) dX9_peg_37 (by decide) ?_
    refine v_goto (pc := 38) (tgt := 55) dX9_peg_38 (by decide) ?_
    refine vm_callV1 (pc := 55) (0, 0) hG dX9_peg_55 cw_X9_111 im_yX9_goes se_yX9_goes (c_X9_goes D m ad _ _ ) rfl (Nat.le_of_ble_eq_true rfl) ⟨Nat.le_of_ble_eq_true rfl, Nat.le_of_ble_eq_true rfl⟩ ⟨by decide, by decide⟩ rfl (fun v s1 G hp hG => ?_)
    obtain ⟨hv1, hs1⟩ := hp
    subst hv1
    subst s1
    refine v_if_ne (pc := 58) (tgt := 63) dX9_peg_58 (by decide) (fun c58 => absurd c58 (by decide)) (fun c58 => ?_)
    refine v_iconst (pc := 61) (v := 0) dX9_peg_61 (by decide) ?_
    refine v_iret (pc := 62) hR dX9_peg_62 ⟨by decide, by decide⟩ ?_
    exact ⟨_, hG, by simp [hk], by simp [hk]⟩
  · rw [cmp_lt0, l_nlt] at c3
    refine v_lload_n (pc := 6) dX9_peg_6 rfl rfl ?_
    refine v_ldcL (pc := 7) dX9_peg_7 k_X9_171 ?_
    refine v_lcmp (pc := 10) dX9_peg_10 ?_
    refine v_if_gt (pc := 11) (tgt := 28) dX9_peg_11 (by decide) (fun c11 => ?_) (fun c11 => ?_)
    · rw [cmp_gt0, ← l_nle] at c11
      have hk : kPeg g p0 p1 = 1 := by rw [kPeg, if_neg (fun z => c11 z.1.2)]
      refine v_iconst (pc := 28) (v := 0) dX9_peg_28 (by decide) ?_
      refine v_istore (pc := 29) dX9_peg_29 rfl (by decide) ?_
      refine v_aload_n (pc := 31) dX9_peg_31 rfl rfl ?_
      refine v_iload (pc := 32) dX9_peg_32 rfl ?_
      refine v_if_ne (pc := 34) (tgt := 41) dX9_peg_34 (by decide) (fun c34 => absurd c34 (by decide)) (fun c34 => ?_)
      refine v_iconst (pc := 37) (v := 1) dX9_peg_37 (by decide) ?_
      refine v_goto (pc := 38) (tgt := 55) dX9_peg_38 (by decide) ?_
      refine vm_callV1 (pc := 55) (0, 0) hG dX9_peg_55 cw_X9_111 im_yX9_goes se_yX9_goes (c_X9_goes D m ad _ _ ) rfl (Nat.le_of_ble_eq_true rfl) ⟨Nat.le_of_ble_eq_true rfl, Nat.le_of_ble_eq_true rfl⟩ ⟨by decide, by decide⟩ rfl (fun v s1 G hp hG => ?_)
      obtain ⟨hv1, hs1⟩ := hp
      subst hv1
      subst s1
      refine v_if_ne (pc := 58) (tgt := 63) dX9_peg_58 (by decide) (fun c58 => absurd c58 (by decide)) (fun c58 => ?_)
      refine v_iconst (pc := 61) (v := 0) dX9_peg_61 (by decide) ?_
      refine v_iret (pc := 62) hR dX9_peg_62 ⟨by decide, by decide⟩ ?_
      exact ⟨_, hG, by simp [hk], by simp [hk]⟩
    · rw [cmp_gt0, l_nlt] at c11
      refine v_iload_n (pc := 14) dX9_peg_14 rfl rfl ?_
      refine v_iconst (pc := 15) (v := 1) dX9_peg_15 (by decide) ?_
      refine v_bipush (pc := 16) (v := 100) dX9_peg_16 (by decide) ?_
      refine v_callS3 (pc := 18) (0, 0) dX9_peg_18 cw_X9_103 sm_yX9_isBetween (c_X9_isBetween D _ _ _ _ ) (Nat.le_of_ble_eq_true rfl) ⟨Nat.le_of_ble_eq_true rfl, Nat.le_of_ble_eq_true rfl⟩ ⟨by decide, by decide⟩ rfl (fun v G1 hp => ?_)
      obtain ⟨hv1, hs1⟩ := hp
      subst hv1
      subst G1
      refine v_if_eq (pc := 21) (tgt := 28) dX9_peg_21 (by decide) (fun c21 => ?_) (fun c21 => ?_)
      · rw [b2i_0] at c21
        have hk : kPeg g p0 p1 = 1 := by rw [kPeg, if_neg (fun z => c21 z.2)]
        refine v_iconst (pc := 28) (v := 0) dX9_peg_28 (by decide) ?_
        refine v_istore (pc := 29) dX9_peg_29 rfl (by decide) ?_
        refine v_aload_n (pc := 31) dX9_peg_31 rfl rfl ?_
        refine v_iload (pc := 32) dX9_peg_32 rfl ?_
        refine v_if_ne (pc := 34) (tgt := 41) dX9_peg_34 (by decide) (fun c34 => absurd c34 (by decide)) (fun c34 => ?_)
        refine v_iconst (pc := 37) (v := 1) dX9_peg_37 (by decide) ?_
        refine v_goto (pc := 38) (tgt := 55) dX9_peg_38 (by decide) ?_
        refine vm_callV1 (pc := 55) (0, 0) hG dX9_peg_55 cw_X9_111 im_yX9_goes se_yX9_goes (c_X9_goes D m ad _ _ ) rfl (Nat.le_of_ble_eq_true rfl) ⟨Nat.le_of_ble_eq_true rfl, Nat.le_of_ble_eq_true rfl⟩ ⟨by decide, by decide⟩ rfl (fun v s1 G hp hG => ?_)
        obtain ⟨hv1, hs1⟩ := hp
        subst hv1
        subst s1
        refine v_if_ne (pc := 58) (tgt := 63) dX9_peg_58 (by decide) (fun c58 => absurd c58 (by decide)) (fun c58 => ?_)
        refine v_iconst (pc := 61) (v := 0) dX9_peg_61 (by decide) ?_
        refine v_iret (pc := 62) hR dX9_peg_62 ⟨by decide, by decide⟩ ?_
        exact ⟨_, hG, by simp [hk], by simp [hk]⟩
      · rw [b2i_0, Decidable.not_not] at c21
        refine v_iconst (pc := 24) (v := 1) dX9_peg_24 (by decide) ?_
        refine v_goto (pc := 25) (tgt := 29) dX9_peg_25 (by decide) ?_
        refine v_istore (pc := 29) dX9_peg_29 rfl (by decide) ?_
        refine v_aload_n (pc := 31) dX9_peg_31 rfl rfl ?_
        refine v_iload (pc := 32) dX9_peg_32 rfl ?_
        refine v_if_ne (pc := 34) (tgt := 41) dX9_peg_34 (by decide) (fun c34 => ?_) (fun c34 => absurd c34 (by decide))
        refine v_aload_n (pc := 41) dX9_peg_41 rfl rfl ?_
        refine vm_getI (pc := 42) (k := 19) hG dX9_peg_42 fl_X9_173 rfl (by decide) (x := nI g) hg ?_
        refine v_bipush (pc := 45) (v := 8) dX9_peg_45 (by decide) ?_
        refine v_icmp_ne (pc := 47) (tgt := 54) dX9_peg_47 (by decide) (fun c47 => ?_) (fun c47 => ?_)
        · have h6 : g ≠ 8 := fun e => c47 (by rw [e]; rfl)
          have hk : kPeg g p0 p1 = 0 := by rw [kPeg, if_pos ⟨⟨c3, c11⟩, c21⟩, if_neg h6]
          refine v_iconst (pc := 54) (v := 0) dX9_peg_54 (by decide) ?_
          refine vm_callV1 (pc := 55) (0, 0) hG dX9_peg_55 cw_X9_111 im_yX9_goes se_yX9_goes (c_X9_goes D m ad _ _ ) rfl (Nat.le_of_ble_eq_true rfl) ⟨Nat.le_of_ble_eq_true rfl, Nat.le_of_ble_eq_true rfl⟩ ⟨by decide, by decide⟩ rfl (fun v s1 G hp hG => ?_)
          obtain ⟨hv1, hs1⟩ := hp
          subst hv1
          subst s1
          refine v_if_ne (pc := 58) (tgt := 63) dX9_peg_58 (by decide) (fun c58 => ?_) (fun c58 => absurd c58 (by decide))
          refine v_aload_n (pc := 63) dX9_peg_63 rfl rfl ?_
          refine vm_getA (pc := 64) (k := 20) hG dX9_peg_64 fl_X9_57 (by decide) ?_
          refine v_aload_n (pc := 67) dX9_peg_67 rfl rfl ?_
          refine vm_getI (pc := 68) (k := 19) hG dX9_peg_68 fl_X9_173 rfl (by decide) (x := nI g) hg ?_
          refine v_lload_n (pc := 71) dX9_peg_71 rfl rfl ?_
          refine vm_last (pc := 72) (k := 20) (j := g) hG dX9_peg_72 rfl rfl (by have h0 : ml 20 = 8 := rfl; omega) (fun G hG => ?_)
          refine v_aload_n (pc := 73) dX9_peg_73 rfl rfl ?_
          refine vm_getA (pc := 74) (k := 21) hG dX9_peg_74 fl_X9_60 (by decide) ?_
          refine v_aload_n (pc := 77) dX9_peg_77 rfl rfl ?_
          refine vm_getI (pc := 78) (k := 19) hG dX9_peg_78 fl_X9_173 rfl (by decide) (x := nI g) hg ?_
          refine v_iload_n (pc := 81) dX9_peg_81 rfl rfl ?_
          refine vm_iast (pc := 82) (k := 21) (j := g) hG dX9_peg_82 rfl rfl (by have h0 : ml 21 = 8 := rfl; omega) (fun G hG => ?_)
          refine v_aload_n (pc := 83) dX9_peg_83 rfl rfl ?_
          refine vm_getA (pc := 84) (k := 22) hG dX9_peg_84 fl_X9_63 (by decide) ?_
          refine v_aload_n (pc := 87) dX9_peg_87 rfl rfl ?_
          refine vm_getI (pc := 88) (k := 19) hG dX9_peg_88 fl_X9_173 rfl (by decide) (x := nI g) hg ?_
          refine v_iconst (pc := 91) (v := 1) dX9_peg_91 (by decide) ?_
          refine vm_zast (pc := 92) (k := 22) (j := g) hG dX9_peg_92 rfl rfl (by have h0 : ml 22 = 8 := rfl; omega) (by first | rfl | exact b2i_vnar) (fun G hG => ?_)
          refine v_aload_n (pc := 93) dX9_peg_93 rfl rfl ?_
          refine v_dup (pc := 94) dX9_peg_94 rfl ?_
          refine vm_getI (pc := 95) (k := 19) hG dX9_peg_95 fl_X9_173 rfl (by decide) (x := nI g) hg ?_
          refine v_iconst (pc := 98) (v := 1) dX9_peg_98 (by decide) ?_
          refine v_iadd (pc := 99) dX9_peg_99 ?_
          refine vm_putI (pc := 100) (k := 19) hG dX9_peg_100 fw_X9_173 rfl (by decide) (fun G hG => ?_)
          refine v_aload_n (pc := 103) dX9_peg_103 rfl rfl ?_
          refine vm_getI (pc := 104) (k := 19) hG dX9_peg_104 fl_X9_173 rfl (by decide) (x := nI (g + 1)) (by simp [sI, u2, nI_1]) ?_
          refine v_iconst (pc := 107) (v := 1) dX9_peg_107 (by decide) ?_
          refine v_isub (pc := 108) dX9_peg_108 ?_
          refine v_iret (pc := 109) hR dX9_peg_109 ⟨by decide, by decide⟩ ?_
          exact ⟨_, hG, by rw [if_pos hk, nI_pred], by rw [if_pos hk, gPeg, nI_1]⟩
        · have h6 : g = 8 := (nI_eq (by omega) (by decide)).mp (c47.trans rfl)
          have hk : kPeg g p0 p1 = 2 := by rw [kPeg, if_pos ⟨⟨c3, c11⟩, c21⟩, if_pos h6]
          refine v_iconst (pc := 50) (v := 2) dX9_peg_50 (by decide) ?_
          refine v_goto (pc := 51) (tgt := 55) dX9_peg_51 (by decide) ?_
          refine vm_callV1 (pc := 55) (0, 0) hG dX9_peg_55 cw_X9_111 im_yX9_goes se_yX9_goes (c_X9_goes D m ad _ _ ) rfl (Nat.le_of_ble_eq_true rfl) ⟨Nat.le_of_ble_eq_true rfl, Nat.le_of_ble_eq_true rfl⟩ ⟨by decide, by decide⟩ rfl (fun v s1 G hp hG => ?_)
          obtain ⟨hv1, hs1⟩ := hp
          subst hv1
          subst s1
          refine v_if_ne (pc := 58) (tgt := 63) dX9_peg_58 (by decide) (fun c58 => absurd c58 (by decide)) (fun c58 => ?_)
          refine v_iconst (pc := 61) (v := 0) dX9_peg_61 (by decide) ?_
          refine v_iret (pc := 62) hR dX9_peg_62 ⟨by decide, by decide⟩ ?_
          exact ⟨_, hG, by simp [hk], by simp [hk]⟩
def kPul (g : Nat) (p0 : Int32) : Int32 := if btw p0 0 (nI g - 1) then 0 else 1
set_option maxRecDepth 100000 in
set_option maxHeartbeats 4000000 in
theorem c_X9_pulled (D : DT) (m : Nat) (ad : AdT) (s : SG) (g : Nat) (p0 : Int32) (hg : s.1 19 0 = nI g) (hg8 : g ≤ 8) : MM yX9_pulled cX9_pulled 2 (Option.some Jvm.ClassFile.FieldType.long) rm_X9_pulled D [.ref m, .int p0] m ad s (fun v s' => v = some (.long (if kPul g p0 = 0 then s.2 23 (nat p0) else 0)) ∧ s' = thr s (kPul g p0)) := by
  intro G hG
  refine MC_of (by decide +kernel) (Nat.le_of_ble_eq_true rfl) (fun K sz hR => ?_)
  show V cX9_pulled _ 2 _ D K 0 [some (.ref m), some (.int p0)] [] G (0, 0)
  refine v_aload_n (pc := 0) dX9_pulled_0 rfl rfl ?_
  refine v_iload_n (pc := 1) dX9_pulled_1 rfl rfl ?_
  refine v_iconst (pc := 2) (v := 0) dX9_pulled_2 (by decide) ?_
  refine v_aload_n (pc := 3) dX9_pulled_3 rfl rfl ?_
  refine vm_getI (pc := 4) (k := 19) hG dX9_pulled_4 fl_X9_173 rfl (by decide) hg ?_
  refine v_iconst (pc := 7) (v := 1) dX9_pulled_7 (by decide) ?_
  refine v_isub (pc := 8) dX9_pulled_8 ?_
  refine v_callS3 (pc := 9) (0, 0) dX9_pulled_9 cw_X9_103 sm_yX9_isBetween (c_X9_isBetween D _ _ _ _ ) (Nat.le_of_ble_eq_true rfl) ⟨Nat.le_of_ble_eq_true rfl, Nat.le_of_ble_eq_true rfl⟩ ⟨by decide, by decide⟩ rfl (fun v G1 hp => ?_)
  obtain ⟨hv1, hs1⟩ := hp
  subst hv1
  subst G1
  refine v_if_eq (pc := 12) (tgt := 19) dX9_pulled_12 (by decide) (fun c12 => ?_) (fun c12 => ?_)
  · rw [b2i_0] at c12
    have hk : kPul g p0 = 1 := by rw [kPul, if_neg c12]
    refine v_iconst (pc := 19) (v := 1) dX9_pulled_19 (by decide) ?_
    refine vm_callV1 (pc := 20) (0, 0) hG dX9_pulled_20 cw_X9_111 im_yX9_goes se_yX9_goes (c_X9_goes D m ad _ _ ) rfl (Nat.le_of_ble_eq_true rfl) ⟨Nat.le_of_ble_eq_true rfl, Nat.le_of_ble_eq_true rfl⟩ ⟨by decide, by decide⟩ rfl (fun v s1 G hp hG => ?_)
    obtain ⟨hv1, hs1⟩ := hp
    subst hv1
    subst s1
    refine v_if_eq (pc := 23) (tgt := 35) dX9_pulled_23 (by decide) (fun c23 => ?_) (fun c23 => absurd c23 (by decide))
    refine v_lconst (pc := 35) (v := 0) dX9_pulled_35 (by decide) ?_
    refine v_lret (pc := 36) hR dX9_pulled_36 ⟨by decide, by decide⟩ ?_
    first | exact ⟨_, hG, by rw [if_pos hk, en]; rfl, by rw [hk]⟩ | exact ⟨_, hG, by simp [hk], by rw [hk]⟩
  · rw [b2i_0, Decidable.not_not] at c12
    have hk : kPul g p0 = 0 := by rw [kPul, if_pos c12]
    obtain ⟨j, hj, rfl⟩ := (btw_ix (a := g) (by omega)).mp c12
    have en : nat (nI j) = j := nat_nI (by omega)
    refine v_iconst (pc := 15) (v := 0) dX9_pulled_15 (by decide) ?_
    refine v_goto (pc := 16) (tgt := 20) dX9_pulled_16 (by decide) ?_
    refine vm_callV1 (pc := 20) (0, 0) hG dX9_pulled_20 cw_X9_111 im_yX9_goes se_yX9_goes (c_X9_goes D m ad _ _ ) rfl (Nat.le_of_ble_eq_true rfl) ⟨Nat.le_of_ble_eq_true rfl, Nat.le_of_ble_eq_true rfl⟩ ⟨by decide, by decide⟩ rfl (fun v s1 G hp hG => ?_)
    obtain ⟨hv1, hs1⟩ := hp
    subst hv1
    subst s1
    refine v_if_eq (pc := 23) (tgt := 35) dX9_pulled_23 (by decide) (fun c23 => absurd c23 (by decide)) (fun c23 => ?_)
    refine v_aload_n (pc := 26) dX9_pulled_26 rfl rfl ?_
    refine vm_getA (pc := 27) (k := 23) hG dX9_pulled_27 fl_X9_66 (by decide) ?_
    refine v_iload_n (pc := 30) dX9_pulled_30 rfl rfl ?_
    refine vm_lald (pc := 31) (k := 23) (j := j) hG dX9_pulled_31 rfl rfl (by have h0 : ml 23 = 8 := rfl; omega) rfl ?_
    refine v_goto (pc := 32) (tgt := 36) dX9_pulled_32 (by decide) ?_
    refine v_lret (pc := 36) hR dX9_pulled_36 ⟨by decide, by decide⟩ ?_
    first | exact ⟨_, hG, by rw [if_pos hk, en]; rfl, by rw [hk]⟩ | exact ⟨_, hG, by simp [hk], by rw [hk]⟩
/-- which pegs are in -/
def setF (s : SG) : Nat → Int32
  | 0 => 0
  | i + 1 => setF s i + (if s.1 22 i = 0 then 0 else (1 : Int32) <<< (nI i &&& 31))
set_option maxRecDepth 100000 in
set_option maxHeartbeats 4000000 in
theorem l_X9_pegs {D : DT} {K : KT} {m : Nat} {ad : AdT} {s : SG} (g : Nat) (hg : s.1 19 0 = nI g) (hg8 : g ≤ 8) (kk : ∀ (G : GT), MD m ad s G → V cX9_pegs yX9_pegs.cls 3 rm_X9_pegs D K 42 [some (.ref m), some (.int (setF s g)), some (.int (nI g))] [] G (0, 0)) : ∀ (d i : Nat)  (G : GT), i + d = g → MD m ad s G → V cX9_pegs yX9_pegs.cls 3 rm_X9_pegs D K 9 [some (.ref m), some (.int (setF s i)), some (.int (nI i))] [] G (0, 0) := by
  intro d
  induction d with
  | zero =>
    intro i  G he0 hG
    refine v_iload_n (pc := 9) dX9_pegs_9 rfl rfl ?_
    refine v_aload_n (pc := 10) dX9_pegs_10 rfl rfl ?_
    refine vm_getI (pc := 11) (k := 19) hG dX9_pegs_11 fl_X9_173 rfl (by decide) (x := nI g) hg ?_
    refine v_icmp_ge (pc := 14) (tgt := 42) dX9_pegs_14 (by decide) (fun c14 => ?_) (fun c14 => absurd c14 (not_not_intro (by rw [show i = g by omega]; exact Int32.le_refl _)))
    have e : i = g := by omega
    subst e
    exact kk G hG
  | succ d ih =>
    intro i  G he0 hG
    refine v_iload_n (pc := 9) dX9_pegs_9 rfl rfl ?_
    refine v_aload_n (pc := 10) dX9_pegs_10 rfl rfl ?_
    refine vm_getI (pc := 11) (k := 19) hG dX9_pegs_11 fl_X9_173 rfl (by decide) (x := nI g) hg ?_
    refine v_icmp_ge (pc := 14) (tgt := 42) dX9_pegs_14 (by decide) (fun c14 => absurd c14 (nI_ge (by omega) (by omega))) (fun c14 => ?_)
    refine v_iload_n (pc := 17) dX9_pegs_17 rfl rfl ?_
    refine v_aload_n (pc := 18) dX9_pegs_18 rfl rfl ?_
    refine vm_getA (pc := 19) (k := 22) hG dX9_pegs_19 fl_X9_63 (by decide) ?_
    refine v_iload_n (pc := 22) dX9_pegs_22 rfl rfl ?_
    refine vm_zald (pc := 23) (k := 22) (j := i) hG dX9_pegs_23 rfl rfl (by have h0 : ml 22 = 8 := rfl; omega) rfl ?_
    refine v_if_eq (pc := 24) (tgt := 33) dX9_pegs_24 (by decide) (fun c24 => ?_) (fun c24 => ?_)
    · have e9 : setF s (i + 1) = setF s i + 0 := by rw [setF, if_pos c24]
      refine v_iconst (pc := 33) (v := 0) dX9_pegs_33 (by decide) ?_
      refine v_iadd (pc := 34) dX9_pegs_34 ?_
      refine v_istore_n (pc := 35) dX9_pegs_35 rfl rfl (by decide) ?_
      refine v_iinc (pc := 36) dX9_pegs_36 rfl (nI_1 i) rfl (by decide) ?_
      refine v_goto (pc := 39) (tgt := 9) dX9_pegs_39 (by decide) ?_
      have e8 := ih (i + 1) G (by omega) hG
      rw [e9] at e8
      exact e8
    · have e9 : setF s (i + 1) = setF s i + (1 : Int32) <<< (nI i &&& 31) := by rw [setF, if_neg c24]
      refine v_iconst (pc := 27) (v := 1) dX9_pegs_27 (by decide) ?_
      refine v_iload_n (pc := 28) dX9_pegs_28 rfl rfl ?_
      refine v_ishl (pc := 29) dX9_pegs_29 ?_
      refine v_goto (pc := 30) (tgt := 34) dX9_pegs_30 (by decide) ?_
      refine v_iadd (pc := 34) dX9_pegs_34 ?_
      refine v_istore_n (pc := 35) dX9_pegs_35 rfl rfl (by decide) ?_
      refine v_iinc (pc := 36) dX9_pegs_36 rfl (nI_1 i) rfl (by decide) ?_
      refine v_goto (pc := 39) (tgt := 9) dX9_pegs_39 (by decide) ?_
      have e8 := ih (i + 1) G (by omega) hG
      rw [e9] at e8
      exact e8
theorem setF_thr (s : SG) (x : Int32) : ∀ i, setF (thr s x) i = setF s i := by
  intro i
  induction i with
  | zero => rfl
  | succ i ih => rw [setF, setF, ih]; rfl
set_option maxRecDepth 100000 in
set_option maxHeartbeats 4000000 in
theorem c_X9_pegs (D : DT) (m : Nat) (ad : AdT) (s : SG) (g : Nat)  (hg : s.1 19 0 = nI g) (hg8 : g ≤ 8) : MM yX9_pegs cX9_pegs 3 (Option.some Jvm.ClassFile.FieldType.int) rm_X9_pegs D [.ref m] m ad s (fun v s' => v = some (.int (setF s g)) ∧ s' = thr s 0) := by
  intro G hG
  refine MC_of (by decide +kernel) (Nat.le_of_ble_eq_true rfl) (fun K sz hR => ?_)
  show V cX9_pegs _ 3 _ D K 0 [some (.ref m), none, none] [] G (0, 0)
  refine v_aload_n (pc := 0) dX9_pegs_0 rfl rfl ?_
  refine v_iconst (pc := 1) (v := 0) dX9_pegs_1 (by decide) ?_
  refine vm_putI (pc := 2) (k := 38) hG dX9_pegs_2 fw_X9_96 rfl (by decide) (fun G hG => ?_)
  refine v_iconst (pc := 5) (v := 0) dX9_pegs_5 (by decide) ?_
  refine v_istore_n (pc := 6) dX9_pegs_6 rfl rfl (by decide) ?_
  refine v_iconst (pc := 7) (v := 0) dX9_pegs_7 (by decide) ?_
  refine v_istore_n (pc := 8) dX9_pegs_8 rfl rfl (by decide) ?_
  refine l_X9_pegs (s := thr s 0) g hg hg8 (fun G hG => ?_) g 0 G (by omega) hG
  refine v_iload_n (pc := 42) dX9_pegs_42 rfl rfl ?_
  refine v_iret (pc := 43) hR dX9_pegs_43 ⟨by decide, by decide⟩ ?_
  exact ⟨_, hG, by rw [setF_thr], rfl⟩
/-- a sharing: the stiffnesses of those that are in, together; the lowest; what each gets; what is left over; who comes out -/
def GV (s : SG) (g : Nat) : Prop := ∀ i, i < g → ∃ q, 1 ≤ q ∧ q ≤ 100 ∧ s.1 21 i = nI q
def alF (s : SG) : Nat → Int32
  | 0 => 0
  | i + 1 => alF s i + (if s.1 22 i = 0 then 0 else s.1 21 i)
def lowA (s : SG) : Nat → Option Nat
  | 0 => none
  | i + 1 => match lowA s i with
    | some k => some k
    | none => if s.1 22 i = 0 then none else some i
def lowI (s : SG) (i : Nat) (x : Int32) : Int32 := match lowA s i with
  | some k => nI k
  | none => x
def pulS (s : SG) (f : Int64) (al : Int32) (i : Nat) : Int64 := f * (s.1 21 i).toInt64 / al.toInt64
def shP (s : SG) (f : Int64) (al : Int32) (i : Nat) : SG := (s.1, fun k j => if k = 23 ∧ j < i ∧ ¬ s.1 22 j = 0 then pulS s f al j else s.2 k j)
def lfF (s : SG) (f : Int64) (al : Int32) : Nat → Int64
  | 0 => f
  | i + 1 => if s.1 22 i = 0 then lfF s f al i else lfF s f al i - pulS s f al i
def shO (s : SG) (i : Nat) : SG := (fun k j => if k = 22 ∧ j < i ∧ ¬ s.1 22 j = 0 ∧ s.2 20 j < s.2 23 j then 0 else s.1 k j, s.2)
def otF (s : SG) : Nat → Nat
  | 0 => 0
  | i + 1 => if ¬ s.1 22 i = 0 ∧ s.2 20 i < s.2 23 i then otF s i + 1 else otF s i
def shr2 (s : SG) (f : Int64) (g : Nat) : SG := match lowA s g with
  | none => shP s f (alF s g) g
  | some k => sJ (shP s f (alF s g) g) 23 k ((shP s f (alF s g) g).2 23 k + lfF s f (alF s g) g)
def shr (s : SG) (f : Int64) (g : Nat) : SG := shO (shr2 s f g) g
def shrN (s : SG) (f : Int64) (g : Nat) : Nat := otF (shr2 s f g) g
def sumN (s : SG) : Nat → Nat
  | 0 => 0
  | i + 1 => sumN s i + (if s.1 22 i = 0 then 0 else nat (s.1 21 i))
theorem alF_n {s : SG} {g : Nat} (h : GV s g) (hg : g ≤ 8) : ∀ i, i ≤ g → alF s i = nI (sumN s i) ∧ sumN s i ≤ 100 * i ∧ ∀ j, j < i → ¬ s.1 22 j = 0 → 1 ≤ sumN s i := by
  intro i
  induction i with
  | zero => intro _; exact ⟨rfl, Nat.le_refl _, fun j hj => absurd hj (by omega)⟩
  | succ i ih =>
    intro hi
    obtain ⟨h1, h2, h3⟩ := ih (by omega)
    obtain ⟨q, q1, q2, q3⟩ := h i (by omega)
    have e : nat (s.1 21 i) = q := by rw [q3]; exact nat_nI (by omega)
    by_cases c : s.1 22 i = 0
    · refine ⟨by rw [alF, sumN, if_pos c, if_pos c, h1, Int32.add_zero, Nat.add_zero], by rw [sumN, if_pos c]; omega, fun j hj cj => ?_⟩
      rw [sumN, if_pos c, Nat.add_zero]
      rcases Nat.lt_or_ge j i with z | z
      · exact h3 j z cj
      · have : j = i := by omega
        subst this
        exact absurd c cj
    · refine ⟨by rw [alF, sumN, if_neg c, if_neg c, h1, e, q3, nI_add], by rw [sumN, if_neg c, e]; omega, fun j hj cj => ?_⟩
      rw [sumN, if_neg c, e]
      omega
theorem alF_ne {s : SG} {g i : Nat} (h : GV s g) (hg : g ≤ 8) (hi : i < g) (c : ¬ s.1 22 i = 0) : ¬ (alF s g).toInt64 = 0 := by
  obtain ⟨h1, h2, h3⟩ := alF_n h hg g (Nat.le_refl g)
  have h4 := h3 i hi c
  rw [h1, nI_l (by omega)]
  intro e
  have : sumN s g = 0 := (lN_eq (a := sumN s g) (b := 0) (by omega) (by decide)).mp (e.trans rfl)
  omega
theorem lowI_s (s : SG) (i : Nat) (x : Int32) : lowI s (i + 1) x = lowI s i (if s.1 22 i = 0 then x else nI i) := by
  simp only [lowI, lowA]
  cases lowA s i with
  | some k => rfl
  | none =>
    by_cases c : s.1 22 i = 0 <;> simp [c]
theorem lowA_lt (s : SG) : ∀ i k, lowA s i = some k → k < i ∧ ¬ s.1 22 k = 0 := by
  intro i
  induction i with
  | zero => intro k h; cases h
  | succ i ih =>
    intro k h
    rw [lowA] at h
    cases hl : lowA s i with
    | some k2 => rw [hl] at h; cases h; exact ⟨by have := (ih k hl).1; omega, (ih k hl).2⟩
    | none =>
      rw [hl] at h
      by_cases c : s.1 22 i = 0
      · simp [c] at h
      · simp [c] at h; subst h; exact ⟨by omega, c⟩
theorem shP_s (s : SG) (f : Int64) (al : Int32) (i : Nat) (c : ¬ s.1 22 i = 0) : sJ (shP s f al i) 23 i (pulS s f al i) = shP s f al (i + 1) := by
  refine Prod.ext rfl (funext fun k => funext fun j => ?_)
  simp only [sJ, u2, shP]
  by_cases h1 : k = 23
  · by_cases h2 : j = i
    · subst h2; simp [h1, c]
    · have h3 : (j < i + 1) = (j < i) := by simp; omega
      simp [h1, h2, h3]
  · simp [h1]
theorem shP_n (s : SG) (f : Int64) (al : Int32) (i : Nat) (c : s.1 22 i = 0) : shP s f al i = shP s f al (i + 1) := by
  refine Prod.ext rfl (funext fun k => funext fun j => ?_)
  simp only [shP]
  by_cases h1 : k = 23
  · by_cases h2 : j = i
    · subst h2; simp [c]
    · have h3 : (j < i + 1) = (j < i) := by simp; omega
      simp [h1, h3]
  · simp [h1]
theorem shP_0 (s : SG) (f : Int64) (al : Int32) : shP s f al 0 = s := by
  refine Prod.ext rfl (funext fun k => funext fun j => ?_)
  simp [shP]
theorem shO_s (s : SG) (i : Nat) (c : ¬ s.1 22 i = 0) (c2 : s.2 20 i < s.2 23 i) : sI (shO s i) 22 i 0 = shO s (i + 1) := by
  refine Prod.ext (funext fun k => funext fun j => ?_) rfl
  simp only [sI, u2, shO]
  by_cases h1 : k = 22
  · by_cases h2 : j = i
    · subst h2; simp [h1, c, c2]
    · have h3 : (j < i + 1) = (j < i) := by simp; omega
      simp [h1, h2, h3]
  · simp [h1]
theorem shO_n (s : SG) (i : Nat) (c : ¬ (¬ s.1 22 i = 0 ∧ s.2 20 i < s.2 23 i)) : shO s i = shO s (i + 1) := by
  refine Prod.ext (funext fun k => funext fun j => ?_) rfl
  simp only [shO]
  by_cases h1 : k = 22
  · by_cases h2 : j = i
    · subst h2; simp [c]
    · have h3 : (j < i + 1) = (j < i) := by simp; omega
      simp [h1, h3]
  · simp [h1]
theorem shO_0 (s : SG) : shO s 0 = s := by
  refine Prod.ext (funext fun k => funext fun j => ?_) rfl
  simp [shO]
theorem shO_at (s : SG) {i j : Nat} (h : i ≤ j) : (shO s i).1 22 j = s.1 22 j := by
  have : ¬ j < i := by omega
  simp [shO, this]
set_option maxRecDepth 100000 in
set_option maxHeartbeats 4000000 in
theorem l_X9_sh1 {D : DT} {K : KT} {m : Nat} {ad : AdT} {s : SG} (g : Nat) (f : Int64) (hg8 : g ≤ 8) (kk : ∀ (w5 : Int32) (G : GT), MD m ad s G → V cX9_shares yX9_shares.cls 9 rm_X9_shares D K 67 [some (.ref m), some (.long f), none, some (.int (alF s g)), some (.int (lowI s g (-1))), some (.int w5), none, none, none] [] G (0, 0)) : ∀ (d i : Nat) (x3 x4 : Int32) (G : GT), i = d → i ≤ g → alF s g = x3 + alF s i → lowI s g (-1) = lowI s i x4 → MD m ad s G → V cX9_shares yX9_shares.cls 9 rm_X9_shares D K 13 [some (.ref m), some (.long f), none, some (.int x3), some (.int x4), some (.int (nI i - 1)), none, none, none] [] G (0, 0) := by
  intro d
  induction d with
  | zero =>
    intro i x3 x4 G he0 he1 he2 he3 hG
    subst he0
    refine v_iload (pc := 13) dX9_shares_13 rfl ?_
    refine v_if_lt (pc := 15) (tgt := 67) dX9_shares_15 (by decide) (fun c15 => ?_) (fun c15 => absurd c15 (not_not_intro (by decide)))
    have e8 := kk (nI 0 - 1) G hG
    rw [he2, he3] at e8
    rw [show alF s 0 = 0 from rfl, Int32.add_zero] at e8
    exact e8
  | succ d ih =>
    intro i x3 x4 G he0 he1 he2 he3 hG
    subst he0
    rw [nI_pred]
    refine v_iload (pc := 13) dX9_shares_13 rfl ?_
    refine v_if_lt (pc := 15) (tgt := 67) dX9_shares_15 (by decide) (fun c15 => absurd c15 (nI_pos (by omega))) (fun c15 => ?_)
    refine v_iload_n (pc := 18) dX9_shares_18 rfl rfl ?_
    refine v_aload_n (pc := 19) dX9_shares_19 rfl rfl ?_
    refine vm_getA (pc := 20) (k := 22) hG dX9_shares_20 fl_X9_63 (by decide) ?_
    refine v_iload (pc := 23) dX9_shares_23 rfl ?_
    refine vm_zald (pc := 25) (k := 22) (j := d) hG dX9_shares_25 rfl rfl (by have h0 : ml 22 = 8 := rfl; omega) rfl ?_
    refine v_if_eq (pc := 26) (tgt := 39) dX9_shares_26 (by decide) (fun c26 => ?_) (fun c26 => ?_)
    · have e2 : alF s g = x3 + 0 + alF s d := by rw [he2, alF, if_pos c26, Int32.add_zero, Int32.add_zero]
      have e3 : lowI s g (-1) = lowI s d x4 := by rw [he3, lowI_s, if_pos c26]
      refine v_iconst (pc := 39) (v := 0) dX9_shares_39 (by decide) ?_
      refine v_iadd (pc := 40) dX9_shares_40 ?_
      refine v_istore_n (pc := 41) dX9_shares_41 rfl rfl (by decide) ?_
      refine v_aload_n (pc := 42) dX9_shares_42 rfl rfl ?_
      refine vm_getA (pc := 43) (k := 22) hG dX9_shares_43 fl_X9_63 (by decide) ?_
      refine v_iload (pc := 46) dX9_shares_46 rfl ?_
      refine vm_zald (pc := 48) (k := 22) (j := d) hG dX9_shares_48 rfl rfl (by have h0 : ml 22 = 8 := rfl; omega) rfl ?_
      refine v_if_eq (pc := 49) (tgt := 57) dX9_shares_49 (by decide) (fun c49 => ?_) (fun c49 => ?_)
      · refine v_iload (pc := 57) dX9_shares_57 rfl ?_
        refine v_istore (pc := 59) dX9_shares_59 rfl (by decide) ?_
        refine v_iinc (pc := 61) dX9_shares_61 rfl (v := nI d - 1) (by rw [Int32.sub_eq_add_neg]; rfl) rfl (by decide) ?_
        refine v_goto (pc := 64) (tgt := 13) dX9_shares_64 (by decide) ?_
        first
          | exact absurd c26 c49
          | exact absurd c49 c26
          | exact ih d _ _ G rfl (by omega) e2 e3 hG
      · refine v_iload (pc := 52) dX9_shares_52 rfl ?_
        refine v_goto (pc := 54) (tgt := 59) dX9_shares_54 (by decide) ?_
        refine v_istore (pc := 59) dX9_shares_59 rfl (by decide) ?_
        refine v_iinc (pc := 61) dX9_shares_61 rfl (v := nI d - 1) (by rw [Int32.sub_eq_add_neg]; rfl) rfl (by decide) ?_
        refine v_goto (pc := 64) (tgt := 13) dX9_shares_64 (by decide) ?_
        first
          | exact absurd c26 c49
          | exact absurd c49 c26
          | exact ih d _ _ G rfl (by omega) e2 e3 hG
    · have e2 : alF s g = x3 + s.1 21 d + alF s d := by rw [he2, alF, if_neg c26, Int32.add_comm (alF s d), ← Int32.add_assoc]
      have e3 : lowI s g (-1) = lowI s d (nI d) := by rw [he3, lowI_s, if_neg c26]
      refine v_aload_n (pc := 29) dX9_shares_29 rfl rfl ?_
      refine vm_getA (pc := 30) (k := 21) hG dX9_shares_30 fl_X9_60 (by decide) ?_
      refine v_iload (pc := 33) dX9_shares_33 rfl ?_
      refine vm_iald (pc := 35) (k := 21) (j := d) hG dX9_shares_35 rfl rfl (by have h0 : ml 21 = 8 := rfl; omega) rfl ?_
      refine v_goto (pc := 36) (tgt := 40) dX9_shares_36 (by decide) ?_
      refine v_iadd (pc := 40) dX9_shares_40 ?_
      refine v_istore_n (pc := 41) dX9_shares_41 rfl rfl (by decide) ?_
      refine v_aload_n (pc := 42) dX9_shares_42 rfl rfl ?_
      refine vm_getA (pc := 43) (k := 22) hG dX9_shares_43 fl_X9_63 (by decide) ?_
      refine v_iload (pc := 46) dX9_shares_46 rfl ?_
      refine vm_zald (pc := 48) (k := 22) (j := d) hG dX9_shares_48 rfl rfl (by have h0 : ml 22 = 8 := rfl; omega) rfl ?_
      refine v_if_eq (pc := 49) (tgt := 57) dX9_shares_49 (by decide) (fun c49 => ?_) (fun c49 => ?_)
      · refine v_iload (pc := 57) dX9_shares_57 rfl ?_
        refine v_istore (pc := 59) dX9_shares_59 rfl (by decide) ?_
        refine v_iinc (pc := 61) dX9_shares_61 rfl (v := nI d - 1) (by rw [Int32.sub_eq_add_neg]; rfl) rfl (by decide) ?_
        refine v_goto (pc := 64) (tgt := 13) dX9_shares_64 (by decide) ?_
        first
          | exact absurd c26 c49
          | exact absurd c49 c26
          | exact ih d _ _ G rfl (by omega) e2 e3 hG
      · refine v_iload (pc := 52) dX9_shares_52 rfl ?_
        refine v_goto (pc := 54) (tgt := 59) dX9_shares_54 (by decide) ?_
        refine v_istore (pc := 59) dX9_shares_59 rfl (by decide) ?_
        refine v_iinc (pc := 61) dX9_shares_61 rfl (v := nI d - 1) (by rw [Int32.sub_eq_add_neg]; rfl) rfl (by decide) ?_
        refine v_goto (pc := 64) (tgt := 13) dX9_shares_64 (by decide) ?_
        first
          | exact absurd c26 c49
          | exact absurd c49 c26
          | exact ih d _ _ G rfl (by omega) e2 e3 hG
set_option maxRecDepth 100000 in
set_option maxHeartbeats 4000000 in
theorem l_X9_sh2 {D : DT} {K : KT} {m : Nat} {ad : AdT} {s : SG} (g : Nat) (f : Int64) (x4 : Int32) (hv : GV s g) (hg : s.1 19 0 = nI g) (hg8 : g ≤ 8) (kk : ∀ (G : GT), MD m ad (shP s f (alF s g) g) G → V cX9_shares yX9_shares.cls 9 rm_X9_shares D K 130 [some (.ref m), some (.long f), none, some (.int (alF s g)), some (.int x4), some (.long (lfF s f (alF s g) g)), none, some (.int (nI g)), none] [] G (0, 0)) : ∀ (d i : Nat)  (G : GT), i + d = g → MD m ad (shP s f (alF s g) i) G → V cX9_shares yX9_shares.cls 9 rm_X9_shares D K 73 [some (.ref m), some (.long f), none, some (.int (alF s g)), some (.int x4), some (.long (lfF s f (alF s g) i)), none, some (.int (nI i)), none] [] G (0, 0) := by
  intro d
  induction d with
  | zero =>
    intro i  G he0 he1 
    have hG := he1
    refine v_iload (pc := 73) dX9_shares_73 rfl ?_
    refine v_aload_n (pc := 75) dX9_shares_75 rfl rfl ?_
    refine vm_getI (pc := 76) (k := 19) hG dX9_shares_76 fl_X9_173 rfl (by decide) (x := nI g) hg ?_
    refine v_icmp_ge (pc := 79) (tgt := 130) dX9_shares_79 (by decide) (fun c79 => ?_) (fun c79 => absurd c79 (not_not_intro (by rw [show i = g by omega]; exact Int32.le_refl _)))
    have e : i = g := by omega
    subst e
    exact kk G he1
  | succ d ih =>
    intro i  G he0 he1 
    have hG := he1
    refine v_iload (pc := 73) dX9_shares_73 rfl ?_
    refine v_aload_n (pc := 75) dX9_shares_75 rfl rfl ?_
    refine vm_getI (pc := 76) (k := 19) hG dX9_shares_76 fl_X9_173 rfl (by decide) (x := nI g) hg ?_
    refine v_icmp_ge (pc := 79) (tgt := 130) dX9_shares_79 (by decide) (fun c79 => absurd c79 (nI_ge (by omega) (by omega))) (fun c79 => ?_)
    refine v_aload_n (pc := 82) dX9_shares_82 rfl rfl ?_
    refine vm_getA (pc := 83) (k := 22) hG dX9_shares_83 fl_X9_63 (by decide) ?_
    refine v_iload (pc := 86) dX9_shares_86 rfl ?_
    refine vm_zald (pc := 88) (k := 22) (j := i) hG dX9_shares_88 rfl rfl (by have h0 : ml 22 = 8 := rfl; omega) (x := s.1 22 i) rfl ?_
    refine v_if_eq (pc := 89) (tgt := 124) dX9_shares_89 (by decide) (fun c89 => ?_) (fun c89 => ?_)
    · have e9 : lfF s f (alF s g) (i + 1) = lfF s f (alF s g) i := by rw [lfF, if_pos c89]
      have e7 := shP_n s f (alF s g) i c89
      refine v_iinc (pc := 124) dX9_shares_124 rfl (nI_1 i) rfl (by decide) ?_
      refine v_goto (pc := 127) (tgt := 73) dX9_shares_127 (by decide) ?_
      have e8 := ih (i + 1) G (by omega) (by rw [← e7]; exact hG)
      rw [e9] at e8
      exact e8
    · have e9 : lfF s f (alF s g) (i + 1) = lfF s f (alF s g) i - pulS s f (alF s g) i := by rw [lfF, if_neg c89]
      have e7 := shP_s s f (alF s g) i c89
      refine v_aload_n (pc := 92) dX9_shares_92 rfl rfl ?_
      refine vm_getA (pc := 93) (k := 23) hG dX9_shares_93 fl_X9_66 (by decide) ?_
      refine v_iload (pc := 96) dX9_shares_96 rfl ?_
      refine v_lload_n (pc := 98) dX9_shares_98 rfl rfl ?_
      refine v_aload_n (pc := 99) dX9_shares_99 rfl rfl ?_
      refine vm_getA (pc := 100) (k := 21) hG dX9_shares_100 fl_X9_60 (by decide) ?_
      refine v_iload (pc := 103) dX9_shares_103 rfl ?_
      refine vm_iald (pc := 105) (k := 21) (j := i) hG dX9_shares_105 rfl rfl (by have h0 : ml 21 = 8 := rfl; omega) (x := s.1 21 i) rfl ?_
      refine v_i2l (pc := 106) dX9_shares_106 ?_
      refine v_lmul (pc := 107) dX9_shares_107 ?_
      refine v_iload_n (pc := 108) dX9_shares_108 rfl rfl ?_
      refine v_i2l (pc := 109) dX9_shares_109 ?_
      refine v_ldiv (pc := 110) dX9_shares_110 (alF_ne hv hg8 (by omega) c89) ?_
      refine vm_last (pc := 111) (k := 23) (j := i) hG dX9_shares_111 rfl rfl (by have h0 : ml 23 = 8 := rfl; omega) (fun G hG => ?_)
      refine v_lload (pc := 112) dX9_shares_112 rfl ?_
      refine v_aload_n (pc := 114) dX9_shares_114 rfl rfl ?_
      refine vm_getA (pc := 115) (k := 23) hG dX9_shares_115 fl_X9_66 (by decide) ?_
      refine v_iload (pc := 118) dX9_shares_118 rfl ?_
      refine vm_lald (pc := 120) (k := 23) (j := i) hG dX9_shares_120 rfl rfl (by have h0 : ml 23 = 8 := rfl; omega) (x := pulS s f (alF s g) i) (by simp [sJ, u2, pulS]) ?_
      refine v_lsub (pc := 121) dX9_shares_121 ?_
      refine v_lstore (pc := 122) dX9_shares_122 rfl (by decide) ?_
      refine v_iinc (pc := 124) dX9_shares_124 rfl (nI_1 i) rfl (by decide) ?_
      refine v_goto (pc := 127) (tgt := 73) dX9_shares_127 (by decide) ?_
      have e8 := ih (i + 1) G (by omega) (by rw [← e7]; exact hG)
      rw [e9] at e8
      exact e8
set_option maxRecDepth 100000 in
set_option maxHeartbeats 4000000 in
theorem l_X9_sh3 {D : DT} {K : KT} {m : Nat} {ad : AdT} {s : SG} (g : Nat) {f w5 : Int64} {w3 x4 : Int32} (hg : s.1 19 0 = nI g) (hg8 : g ≤ 8) (kk : ∀ (G : GT), MD m ad (shO s g) G → V cX9_shares yX9_shares.cls 9 rm_X9_shares D K 208 [some (.ref m), some (.long f), none, some (.int w3), some (.int x4), some (.long w5), none, some (.int (nI (otF s g))), some (.int (nI g))] [] G (0, 0)) : ∀ (d i : Nat)  (G : GT), i + d = g → MD m ad (shO s i) G → V cX9_shares yX9_shares.cls 9 rm_X9_shares D K 154 [some (.ref m), some (.long f), none, some (.int w3), some (.int x4), some (.long w5), none, some (.int (nI (otF s i))), some (.int (nI i))] [] G (0, 0) := by
  intro d
  induction d with
  | zero =>
    intro i  G he0 he1 
    have hG := he1
    refine v_iload (pc := 154) dX9_shares_154 rfl ?_
    refine v_aload_n (pc := 156) dX9_shares_156 rfl rfl ?_
    refine vm_getI (pc := 157) (k := 19) hG dX9_shares_157 fl_X9_173 rfl (by decide) (x := nI g) hg ?_
    refine v_icmp_ge (pc := 160) (tgt := 208) dX9_shares_160 (by decide) (fun c160 => ?_) (fun c160 => absurd c160 (not_not_intro (by rw [show i = g by omega]; exact Int32.le_refl _)))
    have e : i = g := by omega
    subst e
    exact kk G he1
  | succ d ih =>
    intro i  G he0 he1 
    have hG := he1
    refine v_iload (pc := 154) dX9_shares_154 rfl ?_
    refine v_aload_n (pc := 156) dX9_shares_156 rfl rfl ?_
    refine vm_getI (pc := 157) (k := 19) hG dX9_shares_157 fl_X9_173 rfl (by decide) (x := nI g) hg ?_
    refine v_icmp_ge (pc := 160) (tgt := 208) dX9_shares_160 (by decide) (fun c160 => absurd c160 (nI_ge (by omega) (by omega))) (fun c160 => ?_)
    refine v_aload_n (pc := 163) dX9_shares_163 rfl rfl ?_
    refine vm_getA (pc := 164) (k := 22) hG dX9_shares_164 fl_X9_63 (by decide) ?_
    refine v_iload (pc := 167) dX9_shares_167 rfl ?_
    refine vm_zald (pc := 169) (k := 22) (j := i) hG dX9_shares_169 rfl rfl (by have h0 : ml 22 = 8 := rfl; omega) (x := s.1 22 i) (shO_at s (Nat.le_refl i)) ?_
    refine v_if_eq (pc := 170) (tgt := 202) dX9_shares_170 (by decide) (fun c170 => ?_) (fun c170 => ?_)
    · have e9 : otF s (i + 1) = otF s i := by rw [otF, if_neg (fun z => z.1 c170)]
      have e7 := shO_n s i (fun z => z.1 c170)
      refine v_iinc (pc := 202) dX9_shares_202 rfl (nI_1 i) rfl (by decide) ?_
      refine v_goto (pc := 205) (tgt := 154) dX9_shares_205 (by decide) ?_
      have e8 := ih (i + 1) G (by omega) (by rw [← e7]; exact hG)
      rw [e9] at e8
      exact e8
    · refine v_aload_n (pc := 173) dX9_shares_173 rfl rfl ?_
      refine vm_getA (pc := 174) (k := 23) hG dX9_shares_174 fl_X9_66 (by decide) ?_
      refine v_iload (pc := 177) dX9_shares_177 rfl ?_
      refine vm_lald (pc := 179) (k := 23) (j := i) hG dX9_shares_179 rfl rfl (by have h0 : ml 23 = 8 := rfl; omega) (x := s.2 23 i) rfl ?_
      refine v_aload_n (pc := 180) dX9_shares_180 rfl rfl ?_
      refine vm_getA (pc := 181) (k := 20) hG dX9_shares_181 fl_X9_57 (by decide) ?_
      refine v_iload (pc := 184) dX9_shares_184 rfl ?_
      refine vm_lald (pc := 186) (k := 20) (j := i) hG dX9_shares_186 rfl rfl (by have h0 : ml 20 = 8 := rfl; omega) (x := s.2 20 i) rfl ?_
      refine v_lcmp (pc := 187) dX9_shares_187 ?_
      refine v_if_le (pc := 188) (tgt := 202) dX9_shares_188 (by decide) (fun c188 => ?_) (fun c188 => ?_)
      · rw [cmp_le0] at c188
        have e9 : otF s (i + 1) = otF s i := by rw [otF, if_neg (fun z => absurd z.2 (l_nlt.mpr c188))]
        have e7 := shO_n s i (fun z => absurd z.2 (l_nlt.mpr c188))
        refine v_iinc (pc := 202) dX9_shares_202 rfl (nI_1 i) rfl (by decide) ?_
        refine v_goto (pc := 205) (tgt := 154) dX9_shares_205 (by decide) ?_
        have e8 := ih (i + 1) G (by omega) (by rw [← e7]; exact hG)
        rw [e9] at e8
        exact e8
      · rw [cmp_le0, l_nle] at c188
        have e9 : otF s (i + 1) = otF s i + 1 := by rw [otF, if_pos ⟨c170, c188⟩]
        have e7 := shO_s s i c170 c188
        refine v_aload_n (pc := 191) dX9_shares_191 rfl rfl ?_
        refine vm_getA (pc := 192) (k := 22) hG dX9_shares_192 fl_X9_63 (by decide) ?_
        refine v_iload (pc := 195) dX9_shares_195 rfl ?_
        refine v_iconst (pc := 197) (v := 0) dX9_shares_197 (by decide) ?_
        refine vm_zast (pc := 198) (k := 22) (j := i) hG dX9_shares_198 rfl rfl (by have h0 : ml 22 = 8 := rfl; omega) (by first | rfl | exact b2i_vnar) (fun G hG => ?_)
        refine v_iinc (pc := 199) dX9_shares_199 rfl (nI_1 _) rfl (by decide) ?_
        refine v_iinc (pc := 202) dX9_shares_202 rfl (nI_1 i) rfl (by decide) ?_
        refine v_goto (pc := 205) (tgt := 154) dX9_shares_205 (by decide) ?_
        have e8 := ih (i + 1) G (by omega) (by rw [← e7]; exact hG)
        rw [e9] at e8
        exact e8
set_option maxRecDepth 100000 in
set_option maxHeartbeats 4000000 in
theorem c_X9_shares (D : DT) (m : Nat) (ad : AdT) (s : SG) (g : Nat) (f : Int64) (hv : GV s g) (hg : s.1 19 0 = nI g) (hg8 : g ≤ 8) : MM yX9_shares cX9_shares 9 (Option.some Jvm.ClassFile.FieldType.int) rm_X9_shares D [.ref m, .long f] m ad s (fun v s' => v = some (.int (nI (shrN s f g))) ∧ s' = shr s f g) := by
  intro G hG
  refine MC_of (by decide +kernel) (Nat.le_of_ble_eq_true rfl) (fun K sz hR => ?_)
  show V cX9_shares _ 9 _ D K 0 [some (.ref m), some (.long f), none, none, none, none, none, none, none] [] G (0, 0)
  refine v_iconst (pc := 0) (v := 0) dX9_shares_0 (by decide) ?_
  refine v_istore_n (pc := 1) dX9_shares_1 rfl rfl (by decide) ?_
  refine v_iconst (pc := 2) (v := (-1)) dX9_shares_2 (by decide) ?_
  refine v_istore (pc := 3) dX9_shares_3 rfl (by decide) ?_
  refine v_aload_n (pc := 5) dX9_shares_5 rfl rfl ?_
  refine vm_getI (pc := 6) (k := 19) hG dX9_shares_6 fl_X9_173 rfl (by decide) (x := nI g) hg ?_
  refine v_iconst (pc := 9) (v := 1) dX9_shares_9 (by decide) ?_
  refine v_isub (pc := 10) dX9_shares_10 ?_
  refine v_istore (pc := 11) dX9_shares_11 rfl (by decide) ?_
  refine l_X9_sh1 (s := s) g f hg8 (fun w5 G hG => ?_) g g 0 (-1) G rfl (Nat.le_refl g) (by rw [Int32.zero_add]) rfl hG
  refine v_lload_n (pc := 67) dX9_shares_67 rfl rfl ?_
  refine v_lstore (pc := 68) dX9_shares_68 rfl (by decide) ?_
  refine v_iconst (pc := 70) (v := 0) dX9_shares_70 (by decide) ?_
  refine v_istore (pc := 71) dX9_shares_71 rfl (by decide) ?_
  refine l_X9_sh2 (s := s) g f _ hv hg hg8 (fun G hG => ?_) g 0 G (by omega) (by rw [shP_0]; exact hG)
  refine v_iload (pc := 130) dX9_shares_130 rfl ?_
  refine v_iconst (pc := 132) (v := (-1)) dX9_shares_132 (by decide) ?_
  refine v_icmp_eq (pc := 133) (tgt := 148) dX9_shares_133 (by decide) (fun c133 => ?_) (fun c133 => ?_)
  · have hl : lowA s g = none := (by cases hl : lowA s g with | none => rfl | some k => exact absurd c133 (by rw [lowI, hl]; have := (lowA_lt s g k hl).1; intro z; have z2 := nI_toInt (n := k) (by omega); rw [show nI k = -1 from z] at z2; exact absurd z2 (by show ¬ (-1 : Int) = _; omega)))
    have e2 : shr2 s f g = shP s f (alF s g) g := by rw [shr2, hl]
    refine v_iconst (pc := 148) (v := 0) dX9_shares_148 (by decide) ?_
    refine v_istore (pc := 149) dX9_shares_149 rfl (by decide) ?_
    refine v_iconst (pc := 151) (v := 0) dX9_shares_151 (by decide) ?_
    refine v_istore (pc := 152) dX9_shares_152 rfl (by decide) ?_
    refine v_forget 6 ?_
    refine l_X9_sh3 (s := shr2 s f g) g (by first | (rw [e2]; exact hg)) hg8 (fun G hG => ?_) g 0 G (by omega) (by rw [shO_0, e2]; exact hG)
    refine v_iload (pc := 208) dX9_shares_208 rfl ?_
    refine v_iret (pc := 210) hR dX9_shares_210 ⟨by decide, by decide⟩ ?_
    exact ⟨_, hG, rfl, rfl⟩
  · obtain ⟨k, hl⟩ : ∃ k, lowA s g = some k := (by cases hl : lowA s g with | none => exact absurd (by rw [lowI, hl]) c133 | some k => exact ⟨k, rfl⟩)
    have hkl := (lowA_lt s g k hl).1
    have e4 : lowI s g (-1) = nI k := by rw [lowI, hl]
    have e2 : shr2 s f g = sJ (shP s f (alF s g) g) 23 k ((shP s f (alF s g) g).2 23 k + lfF s f (alF s g) g) := by rw [shr2, hl]
    refine v_aload_n (pc := 136) dX9_shares_136 rfl rfl ?_
    refine vm_getA (pc := 137) (k := 23) hG dX9_shares_137 fl_X9_66 (by decide) ?_
    refine v_iload (pc := 140) dX9_shares_140 rfl ?_
    refine v_dup2 (pc := 142) dX9_shares_142 rfl rfl ?_
    refine vm_lald (pc := 143) (k := 23) (j := k) hG dX9_shares_143 rfl e4 (by have h0 : ml 23 = 8 := rfl; omega) rfl ?_
    refine v_lload (pc := 144) dX9_shares_144 rfl ?_
    refine v_ladd (pc := 146) dX9_shares_146 ?_
    refine vm_last (pc := 147) (k := 23) (j := k) hG dX9_shares_147 rfl e4 (by have h0 : ml 23 = 8 := rfl; omega) (fun G hG => ?_)
    refine v_iconst (pc := 148) (v := 0) dX9_shares_148 (by decide) ?_
    refine v_istore (pc := 149) dX9_shares_149 rfl (by decide) ?_
    refine v_iconst (pc := 151) (v := 0) dX9_shares_151 (by decide) ?_
    refine v_istore (pc := 152) dX9_shares_152 rfl (by decide) ?_
    refine v_forget 6 ?_
    refine l_X9_sh3 (s := shr2 s f g) g (by first | (rw [e2]; exact hg)) hg8 (fun G hG => ?_) g 0 G (by omega) (by rw [shO_0, e2]; exact hG)
    refine v_iload (pc := 208) dX9_shares_208 rfl ?_
    refine v_iret (pc := 210) hR dX9_shares_210 ⟨by decide, by decide⟩ ?_
    exact ⟨_, hG, rfl, rfl⟩
