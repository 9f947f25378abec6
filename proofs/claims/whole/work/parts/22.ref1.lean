set_option maxRecDepth 100000 in
set_option maxHeartbeats 4000000 in
theorem c_X9_isBetween (D : DT) (G : GT)  (p0 : Int32) (p1 : Int32) (p2 : Int32)  : MC yX9_isBetween cX9_isBetween 3 (Option.some Jvm.ClassFile.FieldType.boolean) rm_X9_isBetween D [.int p0, .int p1, .int p2] G (fun v G' => v = some (.int (b2i (btw p0 p1 p2))) ∧ G' = G) := by
  refine MC_of (by decide +kernel) (Nat.le_of_ble_eq_true rfl) (fun K sz hR => ?_)
  show V cX9_isBetween _ 3 _ D K 0 [some (.int p0), some (.int p1), some (.int p2)] [] G (0, 0)
  refine v_iload_n (pc := 0) dX9_isBetween_0 rfl rfl ?_
  refine v_iload_n (pc := 1) dX9_isBetween_1 rfl rfl ?_
  refine v_icmp_lt (pc := 2) (tgt := 14) dX9_isBetween_2 (by decide) (fun c2 => ?_) (fun c2 => ?_)
  · rw [← n_nle] at c2
    refine v_iconst (pc := 14) (v := 0) dX9_isBetween_14 (by decide) ?_
    refine v_zret (pc := 15) hR dX9_isBetween_15 (by first | rfl | exact b2i_nar) ⟨by decide, by decide⟩ ?_
    simp [b2i, btw, *]
  · rw [n_nlt] at c2
    refine v_iload_n (pc := 5) dX9_isBetween_5 rfl rfl ?_
    refine v_iload_n (pc := 6) dX9_isBetween_6 rfl rfl ?_
    refine v_icmp_gt (pc := 7) (tgt := 14) dX9_isBetween_7 (by decide) (fun c7 => ?_) (fun c7 => ?_)
    · rw [← n_nle] at c7
      refine v_iconst (pc := 14) (v := 0) dX9_isBetween_14 (by decide) ?_
      refine v_zret (pc := 15) hR dX9_isBetween_15 (by first | rfl | exact b2i_nar) ⟨by decide, by decide⟩ ?_
      simp [b2i, btw, *]
    · rw [n_nlt] at c7
      refine v_iconst (pc := 10) (v := 1) dX9_isBetween_10 (by decide) ?_
      refine v_goto (pc := 11) (tgt := 15) dX9_isBetween_11 (by decide) ?_
      refine v_zret (pc := 15) hR dX9_isBetween_15 (by first | rfl | exact b2i_nar) ⟨by decide, by decide⟩ ?_
      simp [b2i, btw, *]
set_option maxRecDepth 100000 in
set_option maxHeartbeats 4000000 in
theorem c_X9_lesser (D : DT) (G : GT)  (p0 : Int64) (p1 : Int64)  : MC yX9_lesser cX9_lesser 4 (Option.some Jvm.ClassFile.FieldType.long) rm_X9_lesser D [.long p0, .long p1] G (fun v G' => v = some (.long (if p0 < p1 then p0 else p1)) ∧ G' = G) := by
  refine MC_of (by decide +kernel) (Nat.le_of_ble_eq_true rfl) (fun K sz hR => ?_)
  show V cX9_lesser _ 4 _ D K 0 [some (.long p0), none, some (.long p1), none] [] G (0, 0)
  refine v_lload_n (pc := 0) dX9_lesser_0 rfl rfl ?_
  refine v_lload_n (pc := 1) dX9_lesser_1 rfl rfl ?_
  refine v_lcmp (pc := 2) dX9_lesser_2 ?_
  refine v_if_ge (pc := 3) (tgt := 10) dX9_lesser_3 (by decide) (fun c3 => ?_) (fun c3 => ?_)
  · rw [cmp_ge0, ← l_nlt] at c3
    refine v_lload_n (pc := 10) dX9_lesser_10 rfl rfl ?_
    refine v_lret (pc := 11) hR dX9_lesser_11 ⟨by decide, by decide⟩ ?_
    simp [c3]
  · rw [cmp_ge0, l_nle] at c3
    refine v_lload_n (pc := 6) dX9_lesser_6 rfl rfl ?_
    refine v_goto (pc := 7) (tgt := 11) dX9_lesser_7 (by decide) ?_
    refine v_lret (pc := 11) hR dX9_lesser_11 ⟨by decide, by decide⟩ ?_
    simp [c3]
set_option maxRecDepth 100000 in
set_option maxHeartbeats 4000000 in
theorem c_X9_goes (D : DT) (m : Nat) (ad : AdT) (s : SG)  (p0 : Int32)  : MM yX9_goes cX9_goes 2 (Option.some Jvm.ClassFile.FieldType.boolean) rm_X9_goes D [.ref m, .int p0] m ad s (fun v s' => v = some (.int (b2i (p0 = 0))) ∧ s' = sI s 38 0 p0) := by
  intro G hG
  refine MC_of (by decide +kernel) (Nat.le_of_ble_eq_true rfl) (fun K sz hR => ?_)
  show V cX9_goes _ 2 _ D K 0 [some (.ref m), some (.int p0)] [] G (0, 0)
  refine v_aload_n (pc := 0) dX9_goes_0 rfl rfl ?_
  refine v_iload_n (pc := 1) dX9_goes_1 rfl rfl ?_
  refine vm_putI (pc := 2) (k := 38) hG dX9_goes_2 fw_X9_96 rfl (by decide) (fun G hG => ?_)
  refine v_iload_n (pc := 5) dX9_goes_5 rfl rfl ?_
  refine v_if_ne (pc := 6) (tgt := 13) dX9_goes_6 (by decide) (fun c6 => ?_) (fun c6 => ?_)
  · refine v_iconst (pc := 13) (v := 0) dX9_goes_13 (by decide) ?_
    refine v_zret (pc := 14) hR dX9_goes_14 (by first | rfl | exact b2i_nar) ⟨by decide, by decide⟩ ?_
    exact ⟨_, hG, by simp [b2i, *], rfl⟩
  · refine v_iconst (pc := 9) (v := 1) dX9_goes_9 (by decide) ?_
    refine v_goto (pc := 10) (tgt := 14) dX9_goes_10 (by decide) ?_
    refine v_zret (pc := 14) hR dX9_goes_14 (by first | rfl | exact b2i_nar) ⟨by decide, by decide⟩ ?_
    exact ⟨_, hG, by simp [b2i, *], rfl⟩
set_option maxRecDepth 100000 in
set_option maxHeartbeats 4000000 in
theorem c_X9_thrown (D : DT) (m : Nat) (ad : AdT) (s : SG)    : MM yX9_thrown cX9_thrown 1 (Option.some Jvm.ClassFile.FieldType.int) rm_X9_thrown D [.ref m] m ad s (fun v s' => v = some (.int (s.1 38 0)) ∧ s' = s) := by
  intro G hG
  refine MC_of (by decide +kernel) (Nat.le_of_ble_eq_true rfl) (fun K sz hR => ?_)
  show V cX9_thrown _ 1 _ D K 0 [some (.ref m)] [] G (0, 0)
  refine v_aload_n (pc := 0) dX9_thrown_0 rfl rfl ?_
  refine vm_getI (pc := 1) (k := 38) hG dX9_thrown_1 fl_X9_96 rfl (by decide) rfl ?_
  refine v_iret (pc := 4) hR dX9_thrown_4 ⟨by decide, by decide⟩ ?_
  exact ⟨_, hG, rfl, rfl⟩
set_option maxRecDepth 100000 in
set_option maxHeartbeats 4000000 in
theorem c_X9_isLot (D : DT) (m : Nat) (ad : AdT) (s : SG)  (p0 : Int32)  : MM yX9_isLot cX9_isLot 2 (Option.some Jvm.ClassFile.FieldType.boolean) rm_X9_isLot D [.ref m, .int p0] m ad s (fun v s' => v = some (.int (b2i (btw p0 0 (s.1 0 0 - 1)))) ∧ s' = s) := by
  intro G hG
  refine MC_of (by decide +kernel) (Nat.le_of_ble_eq_true rfl) (fun K sz hR => ?_)
  show V cX9_isLot _ 2 _ D K 0 [some (.ref m), some (.int p0)] [] G (0, 0)
  refine v_iload_n (pc := 0) dX9_isLot_0 rfl rfl ?_
  refine v_iconst (pc := 1) (v := 0) dX9_isLot_1 (by decide) ?_
  refine v_aload_n (pc := 2) dX9_isLot_2 rfl rfl ?_
  refine vm_getI (pc := 3) (k := 0) hG dX9_isLot_3 fl_X9_100 rfl (by decide) rfl ?_
  refine v_iconst (pc := 6) (v := 1) dX9_isLot_6 (by decide) ?_
  refine v_isub (pc := 7) dX9_isLot_7 ?_
  refine v_callS3 (pc := 8) (0, 0) dX9_isLot_8 cw_X9_103 sm_yX9_isBetween (c_X9_isBetween D _ _ _ _ ) (Nat.le_of_ble_eq_true rfl) ⟨Nat.le_of_ble_eq_true rfl, Nat.le_of_ble_eq_true rfl⟩ ⟨by decide, by decide⟩ rfl (fun v G1 hp => ?_)
  obtain ⟨hv1, hs1⟩ := hp
  subst hv1
  subst G1
  refine v_zret (pc := 11) hR dX9_isLot_11 (by first | rfl | exact b2i_nar) ⟨by decide, by decide⟩ ?_
  exact ⟨_, hG, rfl, rfl⟩
set_option maxRecDepth 100000 in
set_option maxHeartbeats 4000000 in
theorem c_X9_isPanel (D : DT) (m : Nat) (ad : AdT) (s : SG)  (p0 : Int32)  : MM yX9_isPanel cX9_isPanel 2 (Option.some Jvm.ClassFile.FieldType.boolean) rm_X9_isPanel D [.ref m, .int p0] m ad s (fun v s' => v = some (.int (b2i (btw p0 0 (s.1 4 0 - 1)))) ∧ s' = s) := by
  intro G hG
  refine MC_of (by decide +kernel) (Nat.le_of_ble_eq_true rfl) (fun K sz hR => ?_)
  show V cX9_isPanel _ 2 _ D K 0 [some (.ref m), some (.int p0)] [] G (0, 0)
  refine v_iload_n (pc := 0) dX9_isPanel_0 rfl rfl ?_
  refine v_iconst (pc := 1) (v := 0) dX9_isPanel_1 (by decide) ?_
  refine v_aload_n (pc := 2) dX9_isPanel_2 rfl rfl ?_
  refine vm_getI (pc := 3) (k := 4) hG dX9_isPanel_3 fl_X9_107 rfl (by decide) rfl ?_
  refine v_iconst (pc := 6) (v := 1) dX9_isPanel_6 (by decide) ?_
  refine v_isub (pc := 7) dX9_isPanel_7 ?_
  refine v_callS3 (pc := 8) (0, 0) dX9_isPanel_8 cw_X9_103 sm_yX9_isBetween (c_X9_isBetween D _ _ _ _ ) (Nat.le_of_ble_eq_true rfl) ⟨Nat.le_of_ble_eq_true rfl, Nat.le_of_ble_eq_true rfl⟩ ⟨by decide, by decide⟩ rfl (fun v G1 hp => ?_)
  obtain ⟨hv1, hs1⟩ := hp
  subst hv1
  subst G1
  refine v_zret (pc := 11) hR dX9_isPanel_11 (by first | rfl | exact b2i_nar) ⟨by decide, by decide⟩ ?_
  exact ⟨_, hG, rfl, rfl⟩
set_option maxRecDepth 100000 in
set_option maxHeartbeats 4000000 in
theorem c_X9_isCanopy (D : DT) (m : Nat) (ad : AdT) (s : SG)  (p0 : Int32)  : MM yX9_isCanopy cX9_isCanopy 2 (Option.some Jvm.ClassFile.FieldType.boolean) rm_X9_isCanopy D [.ref m, .int p0] m ad s (fun v s' => v = some (.int (b2i (btw p0 0 (s.1 28 0 - 1)))) ∧ s' = s) := by
  intro G hG
  refine MC_of (by decide +kernel) (Nat.le_of_ble_eq_true rfl) (fun K sz hR => ?_)
  show V cX9_isCanopy _ 2 _ D K 0 [some (.ref m), some (.int p0)] [] G (0, 0)
  refine v_iload_n (pc := 0) dX9_isCanopy_0 rfl rfl ?_
  refine v_iconst (pc := 1) (v := 0) dX9_isCanopy_1 (by decide) ?_
  refine v_aload_n (pc := 2) dX9_isCanopy_2 rfl rfl ?_
  refine vm_getI (pc := 3) (k := 28) hG dX9_isCanopy_3 fl_X9_204 rfl (by decide) rfl ?_
  refine v_iconst (pc := 6) (v := 1) dX9_isCanopy_6 (by decide) ?_
  refine v_isub (pc := 7) dX9_isCanopy_7 ?_
  refine v_callS3 (pc := 8) (0, 0) dX9_isCanopy_8 cw_X9_103 sm_yX9_isBetween (c_X9_isBetween D _ _ _ _ ) (Nat.le_of_ble_eq_true rfl) ⟨Nat.le_of_ble_eq_true rfl, Nat.le_of_ble_eq_true rfl⟩ ⟨by decide, by decide⟩ rfl (fun v G1 hp => ?_)
  obtain ⟨hv1, hs1⟩ := hp
  subst hv1
  subst G1
  refine v_zret (pc := 11) hR dX9_isCanopy_11 (by first | rfl | exact b2i_nar) ⟨by decide, by decide⟩ ?_
  exact ⟨_, hG, rfl, rfl⟩
set_option maxRecDepth 100000 in
set_option maxHeartbeats 4000000 in
theorem c_X9_isKnot (D : DT) (G : GT)  (p0 : Int32)  : MC yX9_isKnot cX9_isKnot 1 (Option.some Jvm.ClassFile.FieldType.boolean) rm_X9_isKnot D [.int p0] G (fun v G' => v = some (.int (b2i (btw p0 0 35))) ∧ G' = G) := by
  refine MC_of (by decide +kernel) (Nat.le_of_ble_eq_true rfl) (fun K sz hR => ?_)
  show V cX9_isKnot _ 1 _ D K 0 [some (.int p0)] [] G (0, 0)
  refine v_iload_n (pc := 0) dX9_isKnot_0 rfl rfl ?_
  refine v_iconst (pc := 1) (v := 0) dX9_isKnot_1 (by decide) ?_
  refine v_bipush (pc := 2) (v := 35) dX9_isKnot_2 (by decide) ?_
  refine v_callS3 (pc := 4) (0, 0) dX9_isKnot_4 cw_X9_103 sm_yX9_isBetween (c_X9_isBetween D _ _ _ _ ) (Nat.le_of_ble_eq_true rfl) ⟨Nat.le_of_ble_eq_true rfl, Nat.le_of_ble_eq_true rfl⟩ ⟨by decide, by decide⟩ rfl (fun v G1 hp => ?_)
  obtain ⟨hv1, hs1⟩ := hp
  subst hv1
  subst G1
  refine v_zret (pc := 7) hR dX9_isKnot_7 (by first | rfl | exact b2i_nar) ⟨by decide, by decide⟩ ?_
  exact ⟨rfl, rfl⟩
set_option maxRecDepth 100000 in
set_option maxHeartbeats 4000000 in
theorem c_X9_hasSeal (D : DT) (m : Nat) (ad : AdT) (s : SG)  (p0 : Int32) (j : Nat) (hj : j < 6) (e : p0 = nI j) : MM yX9_hasSeal cX9_hasSeal 2 (Option.some Jvm.ClassFile.FieldType.boolean) rm_X9_hasSeal D [.ref m, .int p0] m ad s (fun v s' => v = some (.int (b2i (¬ s.1 32 j = -1))) ∧ s' = s) := by
  intro G hG
  refine MC_of (by decide +kernel) (Nat.le_of_ble_eq_true rfl) (fun K sz hR => ?_)
  show V cX9_hasSeal _ 2 _ D K 0 [some (.ref m), some (.int p0)] [] G (0, 0)
  refine v_aload_n (pc := 0) dX9_hasSeal_0 rfl rfl ?_
  refine vm_getA (pc := 1) (k := 32) hG dX9_hasSeal_1 fl_X9_78 (by decide) ?_
  refine v_iload_n (pc := 4) dX9_hasSeal_4 rfl rfl ?_
  refine vm_iald (pc := 5) (k := 32) (j := j) hG dX9_hasSeal_5 rfl e (by have h0 : ml 32 = 6 := rfl; omega) rfl ?_
  refine v_iconst (pc := 6) (v := (-1)) dX9_hasSeal_6 (by decide) ?_
  refine v_icmp_eq (pc := 7) (tgt := 14) dX9_hasSeal_7 (by decide) (fun c7 => ?_) (fun c7 => ?_)
  · refine v_iconst (pc := 14) (v := 0) dX9_hasSeal_14 (by decide) ?_
    refine v_zret (pc := 15) hR dX9_hasSeal_15 (by first | rfl | exact b2i_nar) ⟨by decide, by decide⟩ ?_
    exact ⟨_, hG, by simp [b2i, *], rfl⟩
  · refine v_iconst (pc := 10) (v := 1) dX9_hasSeal_10 (by decide) ?_
    refine v_goto (pc := 11) (tgt := 15) dX9_hasSeal_11 (by decide) ?_
    refine v_zret (pc := 15) hR dX9_hasSeal_15 (by first | rfl | exact b2i_nar) ⟨by decide, by decide⟩ ?_
    exact ⟨_, hG, by simp [b2i, *], rfl⟩
/-- the reference's thrown number -/
abbrev thr (s : SG) (k : Int32) : SG := sI s 38 0 k
theorem sI_s (s : SG) (k j : Nat) (x : Int32) : (sI s k j x).1 k j = x := by simp [sI, u2]
theorem sI_n (s : SG) {k k' : Nat} (j j' : Nat) (x : Int32) (h : k' ≠ k) : (sI s k j x).1 k' j' = s.1 k' j' := by simp [sI, u2, h]
theorem sI_j (s : SG) {j j' : Nat} (k : Nat) (x : Int32) (h : j' ≠ j) : (sI s k j x).1 k j' = s.1 k j' := by simp [sI, u2, h]
theorem sI_2 (s : SG) (k j : Nat) (x : Int32) : (sI s k j x).2 = s.2 := rfl
theorem sJ_1 (s : SG) (k j : Nat) (x : Int64) : (sJ s k j x).1 = s.1 := rfl
theorem sJ_s (s : SG) (k j : Nat) (x : Int64) : (sJ s k j x).2 k j = x := by simp [sJ, u2]
theorem sJ_n (s : SG) {k k' : Nat} (j j' : Nat) (x : Int64) (h : k' ≠ k) : (sJ s k j x).2 k' j' = s.2 k' j' := by simp [sJ, u2, h]
theorem sJ_j (s : SG) {j j' : Nat} (k : Nat) (x : Int64) (h : j' ≠ j) : (sJ s k j x).2 k j' = s.2 k j' := by simp [sJ, u2, h]
/-- lot -/
abbrev oLot (p0 p1 p2 : Int32) : Prop := btw p0 1 2000000000 ∧ btw p1 1 2000000000 ∧ btw p2 1 2000000000
def kLot (a : Nat) (p0 p1 p2 : Int32) : Int32 := if oLot p0 p1 p2 then (if a = 6 then 2 else 0) else 1
def gLot (s : SG) (a : Nat) (p0 p1 p2 : Int32) : SG := sI (sI (sI (sI s 1 (3 * a) p0) 1 (3 * a + 1) p1) 1 (3 * a + 2) p2) 0 0 (nI (a + 1))
set_option maxRecDepth 100000 in
set_option maxHeartbeats 4000000 in
theorem c_X9_lot (D : DT) (m : Nat) (ad : AdT) (s : SG) (a : Nat) (p0 : Int32) (p1 : Int32) (p2 : Int32) (hn : s.1 0 0 = nI a) (ha : a ≤ 6) : MM yX9_lot cX9_lot 5 (Option.some Jvm.ClassFile.FieldType.int) rm_X9_lot D [.ref m, .int p0, .int p1, .int p2] m ad s (fun v s' => v = some (.int (if kLot a p0 p1 p2 = 0 then nI a else 0)) ∧ s' = if kLot a p0 p1 p2 = 0 then gLot (thr s 0) a p0 p1 p2 else thr s (kLot a p0 p1 p2)) := by
  intro G hG
  refine MC_of (by decide +kernel) (Nat.le_of_ble_eq_true rfl) (fun K sz hR => ?_)
  show V cX9_lot _ 5 _ D K 0 [some (.ref m), some (.int p0), some (.int p1), some (.int p2), none] [] G (0, 0)
  refine v_iload_n (pc := 0) dX9_lot_0 rfl rfl ?_
  refine v_iconst (pc := 1) (v := 1) dX9_lot_1 (by decide) ?_
  refine v_ldc (pc := 2) dX9_lot_2 k_X9_110 ?_
  refine v_callS3 (pc := 4) (0, 0) dX9_lot_4 cw_X9_103 sm_yX9_isBetween (c_X9_isBetween D _ _ _ _ ) (Nat.le_of_ble_eq_true rfl) ⟨Nat.le_of_ble_eq_true rfl, Nat.le_of_ble_eq_true rfl⟩ ⟨by decide, by decide⟩ rfl (fun v G1 hp => ?_)
  obtain ⟨hv1, hs1⟩ := hp
  subst hv1
  subst G1
  refine v_if_eq (pc := 7) (tgt := 34) dX9_lot_7 (by decide) (fun c7 => ?_) (fun c7 => ?_)
  · rw [b2i_0] at c7
    have hk : kLot a p0 p1 p2 = 1 := by rw [kLot, if_neg (fun h => c7 h.1)]
    refine v_iconst (pc := 34) (v := 0) dX9_lot_34 (by decide) ?_
    refine v_istore (pc := 35) dX9_lot_35 rfl (by decide) ?_
    refine v_aload_n (pc := 37) dX9_lot_37 rfl rfl ?_
    refine v_iload (pc := 38) dX9_lot_38 rfl ?_
    refine v_if_ne (pc := 40) (tgt := 47) dX9_lot_40 (by decide) (fun c40 => absurd c40 (by decide)) (fun c40 => ?_)
    refine v_iconst (pc := 43) (v := 1) dX9_lot_43 (by decide) ?_
    refine v_goto (pc := 44) (tgt := 61) dX9_lot_44 (by decide) ?_
    refine vm_callV1 (pc := 61) (0, 0) hG dX9_lot_61 cw_X9_111 im_yX9_goes se_yX9_goes (c_X9_goes D m ad _ _ ) rfl (Nat.le_of_ble_eq_true rfl) ⟨Nat.le_of_ble_eq_true rfl, Nat.le_of_ble_eq_true rfl⟩ ⟨by decide, by decide⟩ rfl (fun v s1 G hp hG => ?_)
    obtain ⟨hv1, hs1⟩ := hp
    subst hv1
    subst s1
    refine v_if_ne (pc := 64) (tgt := 69) dX9_lot_64 (by decide) (fun c64 => absurd c64 (by decide)) (fun c64 => ?_)
    refine v_iconst (pc := 67) (v := 0) dX9_lot_67 (by decide) ?_
    refine v_iret (pc := 68) hR dX9_lot_68 ⟨by decide, by decide⟩ ?_
    exact ⟨_, hG, by simp [hk], by simp [hk]⟩
  · rw [b2i_0, Decidable.not_not] at c7
    refine v_iload_n (pc := 10) dX9_lot_10 rfl rfl ?_
    refine v_iconst (pc := 11) (v := 1) dX9_lot_11 (by decide) ?_
    refine v_ldc (pc := 12) dX9_lot_12 k_X9_110 ?_
    refine v_callS3 (pc := 14) (0, 0) dX9_lot_14 cw_X9_103 sm_yX9_isBetween (c_X9_isBetween D _ _ _ _ ) (Nat.le_of_ble_eq_true rfl) ⟨Nat.le_of_ble_eq_true rfl, Nat.le_of_ble_eq_true rfl⟩ ⟨by decide, by decide⟩ rfl (fun v G1 hp => ?_)
    obtain ⟨hv1, hs1⟩ := hp
    subst hv1
    subst G1
    refine v_if_eq (pc := 17) (tgt := 34) dX9_lot_17 (by decide) (fun c17 => ?_) (fun c17 => ?_)
    · rw [b2i_0] at c17
      have hk : kLot a p0 p1 p2 = 1 := by rw [kLot, if_neg (fun h => c17 h.2.1)]
      refine v_iconst (pc := 34) (v := 0) dX9_lot_34 (by decide) ?_
      refine v_istore (pc := 35) dX9_lot_35 rfl (by decide) ?_
      refine v_aload_n (pc := 37) dX9_lot_37 rfl rfl ?_
      refine v_iload (pc := 38) dX9_lot_38 rfl ?_
      refine v_if_ne (pc := 40) (tgt := 47) dX9_lot_40 (by decide) (fun c40 => absurd c40 (by decide)) (fun c40 => ?_)
      refine v_iconst (pc := 43) (v := 1) dX9_lot_43 (by decide) ?_
      refine v_goto (pc := 44) (tgt := 61) dX9_lot_44 (by decide) ?_
      refine vm_callV1 (pc := 61) (0, 0) hG dX9_lot_61 cw_X9_111 im_yX9_goes se_yX9_goes (c_X9_goes D m ad _ _ ) rfl (Nat.le_of_ble_eq_true rfl) ⟨Nat.le_of_ble_eq_true rfl, Nat.le_of_ble_eq_true rfl⟩ ⟨by decide, by decide⟩ rfl (fun v s1 G hp hG => ?_)
      obtain ⟨hv1, hs1⟩ := hp
      subst hv1
      subst s1
      refine v_if_ne (pc := 64) (tgt := 69) dX9_lot_64 (by decide) (fun c64 => absurd c64 (by decide)) (fun c64 => ?_)
      refine v_iconst (pc := 67) (v := 0) dX9_lot_67 (by decide) ?_
      refine v_iret (pc := 68) hR dX9_lot_68 ⟨by decide, by decide⟩ ?_
      exact ⟨_, hG, by simp [hk], by simp [hk]⟩
    · rw [b2i_0, Decidable.not_not] at c17
      refine v_iload_n (pc := 20) dX9_lot_20 rfl rfl ?_
      refine v_iconst (pc := 21) (v := 1) dX9_lot_21 (by decide) ?_
      refine v_ldc (pc := 22) dX9_lot_22 k_X9_110 ?_
      refine v_callS3 (pc := 24) (0, 0) dX9_lot_24 cw_X9_103 sm_yX9_isBetween (c_X9_isBetween D _ _ _ _ ) (Nat.le_of_ble_eq_true rfl) ⟨Nat.le_of_ble_eq_true rfl, Nat.le_of_ble_eq_true rfl⟩ ⟨by decide, by decide⟩ rfl (fun v G1 hp => ?_)
      obtain ⟨hv1, hs1⟩ := hp
      subst hv1
      subst G1
      refine v_if_eq (pc := 27) (tgt := 34) dX9_lot_27 (by decide) (fun c27 => ?_) (fun c27 => ?_)
      · rw [b2i_0] at c27
        have hk : kLot a p0 p1 p2 = 1 := by rw [kLot, if_neg (fun h => c27 h.2.2)]
        refine v_iconst (pc := 34) (v := 0) dX9_lot_34 (by decide) ?_
        refine v_istore (pc := 35) dX9_lot_35 rfl (by decide) ?_
        refine v_aload_n (pc := 37) dX9_lot_37 rfl rfl ?_
        refine v_iload (pc := 38) dX9_lot_38 rfl ?_
        refine v_if_ne (pc := 40) (tgt := 47) dX9_lot_40 (by decide) (fun c40 => absurd c40 (by decide)) (fun c40 => ?_)
        refine v_iconst (pc := 43) (v := 1) dX9_lot_43 (by decide) ?_
        refine v_goto (pc := 44) (tgt := 61) dX9_lot_44 (by decide) ?_
        refine vm_callV1 (pc := 61) (0, 0) hG dX9_lot_61 cw_X9_111 im_yX9_goes se_yX9_goes (c_X9_goes D m ad _ _ ) rfl (Nat.le_of_ble_eq_true rfl) ⟨Nat.le_of_ble_eq_true rfl, Nat.le_of_ble_eq_true rfl⟩ ⟨by decide, by decide⟩ rfl (fun v s1 G hp hG => ?_)
        obtain ⟨hv1, hs1⟩ := hp
        subst hv1
        subst s1
        refine v_if_ne (pc := 64) (tgt := 69) dX9_lot_64 (by decide) (fun c64 => absurd c64 (by decide)) (fun c64 => ?_)
        refine v_iconst (pc := 67) (v := 0) dX9_lot_67 (by decide) ?_
        refine v_iret (pc := 68) hR dX9_lot_68 ⟨by decide, by decide⟩ ?_
        exact ⟨_, hG, by simp [hk], by simp [hk]⟩
      · rw [b2i_0, Decidable.not_not] at c27
        refine v_iconst (pc := 30) (v := 1) dX9_lot_30 (by decide) ?_
        refine v_goto (pc := 31) (tgt := 35) dX9_lot_31 (by decide) ?_
        refine v_istore (pc := 35) dX9_lot_35 rfl (by decide) ?_
        refine v_aload_n (pc := 37) dX9_lot_37 rfl rfl ?_
        refine v_iload (pc := 38) dX9_lot_38 rfl ?_
        refine v_if_ne (pc := 40) (tgt := 47) dX9_lot_40 (by decide) (fun c40 => ?_) (fun c40 => absurd c40 (by decide))
        refine v_aload_n (pc := 47) dX9_lot_47 rfl rfl ?_
        refine vm_getI (pc := 48) (k := 0) hG dX9_lot_48 fl_X9_100 rfl (by decide) (x := nI a) (by simp [sI, sJ, u2, hn]) ?_
        refine v_bipush (pc := 51) (v := 6) dX9_lot_51 (by decide) ?_
        refine v_icmp_ne (pc := 53) (tgt := 60) dX9_lot_53 (by decide) (fun c53 => ?_) (fun c53 => ?_)
        · have h6 : a ≠ 6 := fun e => c53 (by rw [e]; rfl)
          have hk : kLot a p0 p1 p2 = 0 := by rw [kLot, if_pos ⟨c7, c17, c27⟩, if_neg h6]
          refine v_iconst (pc := 60) (v := 0) dX9_lot_60 (by decide) ?_
          refine vm_callV1 (pc := 61) (0, 0) hG dX9_lot_61 cw_X9_111 im_yX9_goes se_yX9_goes (c_X9_goes D m ad _ _ ) rfl (Nat.le_of_ble_eq_true rfl) ⟨Nat.le_of_ble_eq_true rfl, Nat.le_of_ble_eq_true rfl⟩ ⟨by decide, by decide⟩ rfl (fun v s1 G hp hG => ?_)
          obtain ⟨hv1, hs1⟩ := hp
          subst hv1
          subst s1
          refine v_if_ne (pc := 64) (tgt := 69) dX9_lot_64 (by decide) (fun c64 => ?_) (fun c64 => absurd c64 (by decide))
          refine v_aload_n (pc := 69) dX9_lot_69 rfl rfl ?_
          refine vm_getA (pc := 70) (k := 1) hG dX9_lot_70 fl_X9_7 (by decide) ?_
          refine v_iconst (pc := 73) (v := 3) dX9_lot_73 (by decide) ?_
          refine v_aload_n (pc := 74) dX9_lot_74 rfl rfl ?_
          refine vm_getI (pc := 75) (k := 0) hG dX9_lot_75 fl_X9_100 rfl (by decide) (x := nI a) (by simp [sI, sJ, u2, hn]) ?_
          refine v_imul (pc := 78) dX9_lot_78 ?_
          refine v_iload_n (pc := 79) dX9_lot_79 rfl rfl ?_
          refine vm_iast (pc := 80) (k := 1) (j := 3 * a) hG dX9_lot_80 rfl (by rw [show (3 : Int32) = nI 3 from rfl, n_mul]) (by have h0 : ml 1 = 18 := rfl; omega) (fun G hG => ?_)
          refine v_aload_n (pc := 81) dX9_lot_81 rfl rfl ?_
          refine vm_getA (pc := 82) (k := 1) hG dX9_lot_82 fl_X9_7 (by decide) ?_
          refine v_iconst (pc := 85) (v := 3) dX9_lot_85 (by decide) ?_
          refine v_aload_n (pc := 86) dX9_lot_86 rfl rfl ?_
          refine vm_getI (pc := 87) (k := 0) hG dX9_lot_87 fl_X9_100 rfl (by decide) (x := nI a) (by simp [sI, sJ, u2, hn]) ?_
          refine v_imul (pc := 90) dX9_lot_90 ?_
          refine v_iconst (pc := 91) (v := 1) dX9_lot_91 (by decide) ?_
          refine v_iadd (pc := 92) dX9_lot_92 ?_
          refine v_iload_n (pc := 93) dX9_lot_93 rfl rfl ?_
          refine vm_iast (pc := 94) (k := 1) (j := 3 * a + 1) hG dX9_lot_94 rfl (by rw [show (3 : Int32) = nI 3 from rfl, n_mul]; exact nI_1 _) (by have h0 : ml 1 = 18 := rfl; omega) (fun G hG => ?_)
          refine v_aload_n (pc := 95) dX9_lot_95 rfl rfl ?_
          refine vm_getA (pc := 96) (k := 1) hG dX9_lot_96 fl_X9_7 (by decide) ?_
          refine v_iconst (pc := 99) (v := 3) dX9_lot_99 (by decide) ?_
          refine v_aload_n (pc := 100) dX9_lot_100 rfl rfl ?_
          refine vm_getI (pc := 101) (k := 0) hG dX9_lot_101 fl_X9_100 rfl (by decide) (x := nI a) (by simp [sI, sJ, u2, hn]) ?_
          refine v_imul (pc := 104) dX9_lot_104 ?_
          refine v_iconst (pc := 105) (v := 2) dX9_lot_105 (by decide) ?_
          refine v_iadd (pc := 106) dX9_lot_106 ?_
          refine v_iload_n (pc := 107) dX9_lot_107 rfl rfl ?_
          refine vm_iast (pc := 108) (k := 1) (j := 3 * a + 2) hG dX9_lot_108 rfl (by rw [show (3 : Int32) = nI 3 from rfl, n_mul, show (2 : Int32) = nI 2 from rfl, nI_add]) (by have h0 : ml 1 = 18 := rfl; omega) (fun G hG => ?_)
          refine v_aload_n (pc := 109) dX9_lot_109 rfl rfl ?_
          refine v_dup (pc := 110) dX9_lot_110 rfl ?_
          refine vm_getI (pc := 111) (k := 0) hG dX9_lot_111 fl_X9_100 rfl (by decide) (x := nI a) (by simp [sI, sJ, u2, hn]) ?_
          refine v_iconst (pc := 114) (v := 1) dX9_lot_114 (by decide) ?_
          refine v_iadd (pc := 115) dX9_lot_115 ?_
          refine vm_putI (pc := 116) (k := 0) hG dX9_lot_116 fw_X9_100 rfl (by decide) (fun G hG => ?_)
          refine v_aload_n (pc := 119) dX9_lot_119 rfl rfl ?_
          refine vm_getI (pc := 120) (k := 0) hG dX9_lot_120 fl_X9_100 rfl (by decide) (x := nI (a + 1)) (by simp [sI, u2, nI_1]) ?_
          refine v_iconst (pc := 123) (v := 1) dX9_lot_123 (by decide) ?_
          refine v_isub (pc := 124) dX9_lot_124 ?_
          refine v_iret (pc := 125) hR dX9_lot_125 ⟨by decide, by decide⟩ ?_
          exact ⟨_, hG, by rw [hk, nI_pred]; rfl, by rw [if_pos hk, gLot, nI_1]⟩
        · have h6 : a = 6 := (nI_eq (by omega) (by decide)).mp (c53.trans rfl)
          have hk : kLot a p0 p1 p2 = 2 := by rw [kLot, if_pos ⟨c7, c17, c27⟩, if_pos h6]
          refine v_iconst (pc := 56) (v := 2) dX9_lot_56 (by decide) ?_
          refine v_goto (pc := 57) (tgt := 61) dX9_lot_57 (by decide) ?_
          refine vm_callV1 (pc := 61) (0, 0) hG dX9_lot_61 cw_X9_111 im_yX9_goes se_yX9_goes (c_X9_goes D m ad _ _ ) rfl (Nat.le_of_ble_eq_true rfl) ⟨Nat.le_of_ble_eq_true rfl, Nat.le_of_ble_eq_true rfl⟩ ⟨by decide, by decide⟩ rfl (fun v s1 G hp hG => ?_)
          obtain ⟨hv1, hs1⟩ := hp
          subst hv1
          subst s1
          refine v_if_ne (pc := 64) (tgt := 69) dX9_lot_64 (by decide) (fun c64 => absurd c64 (by decide)) (fun c64 => ?_)
          refine v_iconst (pc := 67) (v := 0) dX9_lot_67 (by decide) ?_
          refine v_iret (pc := 68) hR dX9_lot_68 ⟨by decide, by decide⟩ ?_
          exact ⟨_, hG, by simp [hk], by simp [hk]⟩
