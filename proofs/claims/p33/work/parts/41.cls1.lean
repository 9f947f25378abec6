/-- outside of a range -/
abbrev outP (v a b : Int64) : Prop := v < a ∨ b < v
theorem w_lt {a b : Int32} : a.toInt64 < b.toInt64 ↔ a < b := by
  rw [Int64.lt_iff_toInt_lt, Int32.toInt_toInt64, Int32.toInt_toInt64, Int32.lt_iff_toInt_lt]
theorem out_n {p a b : Int32} {A B : Int64} (hA : A = a.toInt64) (hB : B = b.toInt64) : ¬ outP p.toInt64 A B ↔ btw p a b := by
  subst hA; subst hB
  unfold outP
  rw [w_lt, w_lt, not_or, n_nlt, n_nlt]
theorem out_y {p a b : Int32} {A B : Int64} (hA : A = a.toInt64) (hB : B = b.toInt64) : outP p.toInt64 A B ↔ ¬ btw p a b := by
  rw [← out_n hA hB, Decidable.not_not]
set_option maxRecDepth 100000 in
set_option maxHeartbeats 4000000 in
theorem c_X8_isOutside (D : DT) (G : GT)  (p0 : Int64) (p1 : Int64) (p2 : Int64)  : MC yX8_isOutside cX8_isOutside 6 (Option.some Jvm.ClassFile.FieldType.boolean) rm_X8_isOutside D [.long p0, .long p1, .long p2] G (fun v G' => v = some (.int (b2i (outP p0 p1 p2))) ∧ G' = G) := by
  refine MC_of (by decide +kernel) (Nat.le_of_ble_eq_true rfl) (fun K sz hR => ?_)
  show V cX8_isOutside _ 6 _ D K 0 [some (.long p0), none, some (.long p1), none, some (.long p2), none] [] G (0, 0)
  refine v_lload_n (pc := 0) dX8_isOutside_0 rfl rfl ?_
  refine v_lload_n (pc := 1) dX8_isOutside_1 rfl rfl ?_
  refine v_lcmp (pc := 2) dX8_isOutside_2 ?_
  refine v_if_lt (pc := 3) (tgt := 13) dX8_isOutside_3 (by decide) (fun c3 => ?_) (fun c3 => ?_)
  · rw [cmp_lt0] at c3
    refine v_iconst (pc := 13) (v := 1) dX8_isOutside_13 (by decide) ?_
    refine v_goto (pc := 14) (tgt := 18) dX8_isOutside_14 (by decide) ?_
    refine v_zret (pc := 18) hR dX8_isOutside_18 (by first | rfl | exact b2i_nar) ⟨by decide, by decide⟩ ?_
    refine ⟨?_, rfl⟩
    first
      | rw [b2i_t (Or.inl c3)]
      | rw [b2i_t (Or.inr c10)]
      | rw [b2i_f (fun z => z.elim c3 (l_nlt.mpr c10))]
  · rw [cmp_lt0] at c3
    refine v_lload_n (pc := 6) dX8_isOutside_6 rfl rfl ?_
    refine v_lload (pc := 7) dX8_isOutside_7 rfl ?_
    refine v_lcmp (pc := 9) dX8_isOutside_9 ?_
    refine v_if_le (pc := 10) (tgt := 17) dX8_isOutside_10 (by decide) (fun c10 => ?_) (fun c10 => ?_)
    · rw [cmp_le0] at c10
      refine v_iconst (pc := 17) (v := 0) dX8_isOutside_17 (by decide) ?_
      refine v_zret (pc := 18) hR dX8_isOutside_18 (by first | rfl | exact b2i_nar) ⟨by decide, by decide⟩ ?_
      refine ⟨?_, rfl⟩
      first
        | rw [b2i_t (Or.inl c3)]
        | rw [b2i_t (Or.inr c10)]
        | rw [b2i_f (fun z => z.elim c3 (l_nlt.mpr c10))]
    · rw [cmp_le0, l_nle] at c10
      refine v_iconst (pc := 13) (v := 1) dX8_isOutside_13 (by decide) ?_
      refine v_goto (pc := 14) (tgt := 18) dX8_isOutside_14 (by decide) ?_
      refine v_zret (pc := 18) hR dX8_isOutside_18 (by first | rfl | exact b2i_nar) ⟨by decide, by decide⟩ ?_
      refine ⟨?_, rfl⟩
      first
        | rw [b2i_t (Or.inl c3)]
        | rw [b2i_t (Or.inr c10)]
        | rw [b2i_f (fun z => z.elim c3 (l_nlt.mpr c10))]
set_option maxRecDepth 100000 in
set_option maxHeartbeats 400000 in
theorem c_X2_rolledLength (D : DT) (X : XT) (s : SG) (l : Nat)  (hL0 : X.2.1 13 l = true)  : CC yX2_rolledLength cX2_rolledLength 1 (Option.some Jvm.ClassFile.FieldType.int) rm_X2_rolledLength D [.ref (X.1 13 l)] X s (fun v s' => v = some (.int (s.1 39 l + s.1 41 l)) ∧ s' = s) := by
  intro G hG
  refine MC_of (by decide +kernel) (Nat.le_of_ble_eq_true rfl) (fun K sz hR => ?_)
  show V cX2_rolledLength _ 1 _ D K 0 [some (.ref (X.1 13 l))] [] G (0, 0)
  refine v_aload_n (pc := 0) dX2_rolledLength_0 rfl rfl ?_
  refine vc_getI (pc := 1) (f := 5) hG dX2_rolledLength_1 fl_X2_35 (Or.inl rfl) (by assumption) rfl (by decide) (ivL_13_5 _ _) ?_
  refine v_aload_n (pc := 4) dX2_rolledLength_4 rfl rfl ?_
  refine vc_getI (pc := 5) (f := 7) hG dX2_rolledLength_5 fl_X2_38 (Or.inl rfl) (by assumption) rfl (by decide) (ivL_13_7 _ _) ?_
  refine v_iadd (pc := 8) dX2_rolledLength_8 ?_
  refine v_iret (pc := 9) hR dX2_rolledLength_9 ⟨by decide, by decide⟩ ?_
  exact ⟨_, hG, rfl, rfl⟩
theorem lM_eq (a b : Int64) : (if b < a then b else a) = lessL a b := by
  unfold lessL
  by_cases h1 : a < b
  · have h2 : ¬ b < a := fun z => by
      rw [Int64.lt_iff_toInt_lt] at h1 z
      omega
    rw [if_pos h1, if_neg h2]
  · by_cases h2 : b < a
    · rw [if_pos h2, if_neg h1]
    · rw [if_neg h1, if_neg h2]
      exact Int64.le_antisymm (l_nlt.mp h2) (l_nlt.mp h1)
theorem lS_eq (s : SG) (l : Nat) : (if 1000 - s.1 2 l < 100 then (100 : Int32) else 1000 - s.1 2 l) = leftS s l := by
  unfold leftS
  by_cases h : 1000 - s.1 2 l < 100
  · rw [if_pos h, if_neg (n_nle.mpr h)]
  · rw [if_neg h, if_pos (n_nlt.mp h)]
set_option maxRecDepth 100000 in
set_option maxHeartbeats 400000 in
theorem c_X2_strengthAlong (D : DT) (X : XT) (s : SG) (l a : Nat)  (hL0 : X.2.1 13 l = true) (ha : a < 3) : CC yX2_strengthAlong cX2_strengthAlong 4 (Option.some Jvm.ClassFile.FieldType.long) rm_X2_strengthAlong D [.ref (X.1 13 l), .int (nI a)] X s (fun v s' => v = some (.long (lotStr s l a)) ∧ s' = s) := by
  intro G hG
  refine MC_of (by decide +kernel) (Nat.le_of_ble_eq_true rfl) (fun K sz hR => ?_)
  show V cX2_strengthAlong _ 4 _ D K 0 [some (.ref (X.1 13 l)), some (.int (nI a)), none, none] [] G (0, 0)
  refine v_iload_n (pc := 0) dX2_strengthAlong_0 rfl rfl ?_
  refine v_if_ne (pc := 1) (tgt := 12) dX2_strengthAlong_1 (by decide) (fun c1 => ?_) (fun c1 => ?_)
  · refine v_iload_n (pc := 12) dX2_strengthAlong_12 rfl rfl ?_
    refine v_iconst (pc := 13) (v := 1) dX2_strengthAlong_13 (by decide) ?_
    refine v_icmp_ne (pc := 14) (tgt := 25) dX2_strengthAlong_14 (by decide) (fun c14 => ?_) (fun c14 => ?_)
    · refine v_aload_n (pc := 25) dX2_strengthAlong_25 rfl rfl ?_
      refine vc_getI (pc := 26) (f := 2) hG dX2_strengthAlong_26 fl_X2_18 (Or.inl rfl) (by assumption) rfl (by decide) (ivL_13_2 _ _) ?_
      refine v_i2l (pc := 29) dX2_strengthAlong_29 ?_
      refine v_lstore_n (pc := 30) dX2_strengthAlong_30 rfl rfl (by decide) ?_
      refine v_lload_n (pc := 31) dX2_strengthAlong_31 rfl rfl ?_
      refine v_sipush (pc := 32) (v := 1000) dX2_strengthAlong_32 (by decide) ?_
      refine v_aload_n (pc := 35) dX2_strengthAlong_35 rfl rfl ?_
      refine vc_getI (pc := 36) (f := 3) hG dX2_strengthAlong_36 fl_X2_21 (Or.inl rfl) (by assumption) rfl (by decide) (ivL_13_3 _ _) ?_
      refine v_isub (pc := 39) dX2_strengthAlong_39 ?_
      refine v_bipush (pc := 40) (v := 100) dX2_strengthAlong_40 (by decide) ?_
      refine v_imax (pc := 42) dX2_strengthAlong_42 ml_X2_24 mc_imax.1 mc_imax.2.1 mc_imax.2.2 (by decide) (Nat.le_of_ble_eq_true rfl) (by decide) ⟨by decide, by decide⟩ ?_
      refine v_i2l (pc := 45) dX2_strengthAlong_45 ?_
      refine v_lmul (pc := 46) dX2_strengthAlong_46 ?_
      refine v_ldcL (pc := 47) dX2_strengthAlong_47 k_X2_30 ?_
      refine v_ldiv (pc := 50) dX2_strengthAlong_50 (by decide) ?_
      refine v_lret (pc := 51) hR dX2_strengthAlong_51 ⟨by decide, by decide⟩ ?_
      refine ⟨_, hG, ?_, rfl⟩
      rcases (show a = 0 ∨ a = 1 ∨ a = 2 by omega) with rfl | rfl | rfl <;> first | exact absurd c1 (by decide) | exact absurd c14 (by decide) | (rw [lotStr, ← lS_eq, Nat.add_zero]) | (rw [lotStr, ← lS_eq])
    · refine v_aload_n (pc := 17) dX2_strengthAlong_17 rfl rfl ?_
      refine vc_getI (pc := 18) (f := 1) hG dX2_strengthAlong_18 fl_X2_15 (Or.inl rfl) (by assumption) rfl (by decide) (ivL_13_1 _ _) ?_
      refine v_i2l (pc := 21) dX2_strengthAlong_21 ?_
      refine v_goto (pc := 22) (tgt := 30) dX2_strengthAlong_22 (by decide) ?_
      refine v_lstore_n (pc := 30) dX2_strengthAlong_30 rfl rfl (by decide) ?_
      refine v_lload_n (pc := 31) dX2_strengthAlong_31 rfl rfl ?_
      refine v_sipush (pc := 32) (v := 1000) dX2_strengthAlong_32 (by decide) ?_
      refine v_aload_n (pc := 35) dX2_strengthAlong_35 rfl rfl ?_
      refine vc_getI (pc := 36) (f := 3) hG dX2_strengthAlong_36 fl_X2_21 (Or.inl rfl) (by assumption) rfl (by decide) (ivL_13_3 _ _) ?_
      refine v_isub (pc := 39) dX2_strengthAlong_39 ?_
      refine v_bipush (pc := 40) (v := 100) dX2_strengthAlong_40 (by decide) ?_
      refine v_imax (pc := 42) dX2_strengthAlong_42 ml_X2_24 mc_imax.1 mc_imax.2.1 mc_imax.2.2 (by decide) (Nat.le_of_ble_eq_true rfl) (by decide) ⟨by decide, by decide⟩ ?_
      refine v_i2l (pc := 45) dX2_strengthAlong_45 ?_
      refine v_lmul (pc := 46) dX2_strengthAlong_46 ?_
      refine v_ldcL (pc := 47) dX2_strengthAlong_47 k_X2_30 ?_
      refine v_ldiv (pc := 50) dX2_strengthAlong_50 (by decide) ?_
      refine v_lret (pc := 51) hR dX2_strengthAlong_51 ⟨by decide, by decide⟩ ?_
      refine ⟨_, hG, ?_, rfl⟩
      rcases (show a = 0 ∨ a = 1 ∨ a = 2 by omega) with rfl | rfl | rfl <;> first | exact absurd c1 (by decide) | exact absurd c14 (by decide) | (rw [lotStr, ← lS_eq, Nat.add_zero]) | (rw [lotStr, ← lS_eq])
  · refine v_aload_n (pc := 4) dX2_strengthAlong_4 rfl rfl ?_
    refine vc_getI (pc := 5) (f := 0) hG dX2_strengthAlong_5 fl_X2_9 (Or.inl rfl) (by assumption) rfl (by decide) (ivL_13_0 _ _) ?_
    refine v_i2l (pc := 8) dX2_strengthAlong_8 ?_
    refine v_goto (pc := 9) (tgt := 30) dX2_strengthAlong_9 (by decide) ?_
    refine v_lstore_n (pc := 30) dX2_strengthAlong_30 rfl rfl (by decide) ?_
    refine v_lload_n (pc := 31) dX2_strengthAlong_31 rfl rfl ?_
    refine v_sipush (pc := 32) (v := 1000) dX2_strengthAlong_32 (by decide) ?_
    refine v_aload_n (pc := 35) dX2_strengthAlong_35 rfl rfl ?_
    refine vc_getI (pc := 36) (f := 3) hG dX2_strengthAlong_36 fl_X2_21 (Or.inl rfl) (by assumption) rfl (by decide) (ivL_13_3 _ _) ?_
    refine v_isub (pc := 39) dX2_strengthAlong_39 ?_
    refine v_bipush (pc := 40) (v := 100) dX2_strengthAlong_40 (by decide) ?_
    refine v_imax (pc := 42) dX2_strengthAlong_42 ml_X2_24 mc_imax.1 mc_imax.2.1 mc_imax.2.2 (by decide) (Nat.le_of_ble_eq_true rfl) (by decide) ⟨by decide, by decide⟩ ?_
    refine v_i2l (pc := 45) dX2_strengthAlong_45 ?_
    refine v_lmul (pc := 46) dX2_strengthAlong_46 ?_
    refine v_ldcL (pc := 47) dX2_strengthAlong_47 k_X2_30 ?_
    refine v_ldiv (pc := 50) dX2_strengthAlong_50 (by decide) ?_
    refine v_lret (pc := 51) hR dX2_strengthAlong_51 ⟨by decide, by decide⟩ ?_
    refine ⟨_, hG, ?_, rfl⟩
    rcases (show a = 0 ∨ a = 1 ∨ a = 2 by omega) with rfl | rfl | rfl <;> first | exact absurd c1 (by decide) | exact absurd c14 (by decide) | (rw [lotStr, ← lS_eq, Nat.add_zero]) | (rw [lotStr, ← lS_eq])
set_option maxRecDepth 100000 in
set_option maxHeartbeats 400000 in
theorem c_X4_strengthNow (D : DT) (X : XT) (s : SG) (j np : Nat)  (hL0 : X.2.1 14 j = true) (h : PV s np) (hj : j < np) (hnp : np ≤ 12) : CC yX4_strengthNow cX4_strengthNow 1 (Option.some Jvm.ClassFile.FieldType.long) rm_X4_strengthNow D [.ref (X.1 14 j)] X s (fun v s' => v = some (.long (strS s j)) ∧ s' = s) := by
  intro G hG
  refine MC_of (by decide +kernel) (Nat.le_of_ble_eq_true rfl) (fun K sz hR => ?_)
  show V cX4_strengthNow _ 1 _ D K 0 [some (.ref (X.1 14 j))] [] G (0, 0)
  obtain ⟨l, a, hl, ha, h1, h2⟩ := h j hj
  refine v_aload_n (pc := 0) dX4_strengthNow_0 rfl rfl ?_
  refine vc_getR (pc := 1) (f := 0) hG dX4_strengthNow_1 fl_X4_7 rfl (by assumption) rfl (by decide) (c' := 13) (i' := l) (by rw [rvL_14_0, h1, nat_nI (by omega)]) (fun hL1 => ?_)
  refine v_aload_n (pc := 4) dX4_strengthNow_4 rfl rfl ?_
  refine vc_getI (pc := 5) (f := 2) hG dX4_strengthNow_5 fl_X4_17 (Or.inl rfl) (by assumption) rfl (by decide) ((ivL_14_2 _ _).trans h2) ?_
  refine vc_callV1 (pc := 8) (0, 0) hG dX4_strengthNow_8 cw_X4_20 im_yX2_strengthAlong se_yX2_strengthAlong (c_X2_strengthAlong D X _ l a (by assumption) ha) (by assumption) rfl rfl (Nat.le_of_ble_eq_true rfl) ⟨Nat.le_of_ble_eq_true rfl, Nat.le_of_ble_eq_true rfl⟩ ⟨by decide, by decide⟩ rfl (fun v s1 G hp hG => ?_)
  obtain ⟨hv1, hs1⟩ := hp
  subst hv1
  subst s1
  refine v_aload_n (pc := 11) dX4_strengthNow_11 rfl rfl ?_
  refine vc_getI (pc := 12) (f := 1) hG dX4_strengthNow_12 fl_X4_13 (Or.inl rfl) (by assumption) rfl (by decide) (ivL_14_1 _ _) ?_
  refine v_i2l (pc := 15) dX4_strengthNow_15 ?_
  refine v_lmul (pc := 16) dX4_strengthNow_16 ?_
  refine v_lret (pc := 17) hR dX4_strengthNow_17 ⟨by decide, by decide⟩ ?_
  exact ⟨_, hG, by rw [strS, h1, h2, nat_nI (by omega), nat_nI (by omega)], rfl⟩
set_option maxRecDepth 100000 in
set_option maxHeartbeats 400000 in
theorem c_X7_strengthNow (D : DT) (X : XT) (s : SG) (i np ns : Nat)  (hL0 : X.2.1 15 i = true) (h : PV s np) (h2 : SV s np ns) (hi : i < ns) (hnp : np ≤ 12) (hns : ns ≤ 30) : CC yX7_strengthNow cX7_strengthNow 1 (Option.some Jvm.ClassFile.FieldType.long) rm_X7_strengthNow D [.ref (X.1 15 i)] X s (fun v s' => v = some (.long (seamS s i)) ∧ s' = s) := by
  intro G hG
  refine MC_of (by decide +kernel) (Nat.le_of_ble_eq_true rfl) (fun K sz hR => ?_)
  show V cX7_strengthNow _ 1 _ D K 0 [some (.ref (X.1 15 i))] [] G (0, 0)
  obtain ⟨a, b, ha, hb, e1, e2⟩ := h2 i hi
  refine v_aload_n (pc := 0) dX7_strengthNow_0 rfl rfl ?_
  refine vc_getR (pc := 1) (f := 0) hG dX7_strengthNow_1 fl_X7_9 rfl (by assumption) rfl (by decide) (c' := 14) (i' := a) (by rw [rvL_15_0, e1, nat_nI (by omega)]) (fun hL1 => ?_)
  refine vc_callV0 (pc := 4) (0, 0) hG dX7_strengthNow_4 cw_X7_22 im_yX4_strengthNow se_yX4_strengthNow (c_X4_strengthNow D X _ a np (by assumption) h ha hnp) (by assumption) rfl rfl (Nat.le_of_ble_eq_true rfl) ⟨Nat.le_of_ble_eq_true rfl, Nat.le_of_ble_eq_true rfl⟩ ⟨by decide, by decide⟩ rfl (fun v s1 G hp hG => ?_)
  obtain ⟨hv1, hs1⟩ := hp
  subst hv1
  subst s1
  refine v_aload_n (pc := 7) dX7_strengthNow_7 rfl rfl ?_
  refine vc_getR (pc := 8) (f := 1) hG dX7_strengthNow_8 fl_X7_15 rfl (by assumption) rfl (by decide) (c' := 14) (i' := b) (by rw [rvL_15_1, e2, nat_nI (by omega)]) (fun hL8 => ?_)
  refine vc_callV0 (pc := 11) (0, 0) hG dX7_strengthNow_11 cw_X7_22 im_yX4_strengthNow se_yX4_strengthNow (c_X4_strengthNow D X _ b np (by assumption) h hb hnp) (by assumption) rfl rfl (Nat.le_of_ble_eq_true rfl) ⟨Nat.le_of_ble_eq_true rfl, Nat.le_of_ble_eq_true rfl⟩ ⟨by decide, by decide⟩ rfl (fun v s1 G hp hG => ?_)
  obtain ⟨hv1, hs1⟩ := hp
  subst hv1
  subst s1
  refine v_lmin (pc := 14) dX7_strengthNow_14 ml_X7_28 mc_lmin.1 mc_lmin.2.1 mc_lmin.2.2 (by decide) (Nat.le_of_ble_eq_true rfl) (by decide) ⟨by decide, by decide⟩ ?_
  refine v_aload_n (pc := 17) dX7_strengthNow_17 rfl rfl ?_
  refine vc_getI (pc := 18) (f := 2) hG dX7_strengthNow_18 fl_X7_18 (Or.inl rfl) (by assumption) rfl (by decide) (ivL_15_2 _ _) ?_
  refine v_i2l (pc := 21) dX7_strengthNow_21 ?_
  refine v_lmul (pc := 22) dX7_strengthNow_22 ?_
  refine v_ldcL (pc := 23) dX7_strengthNow_23 k_X7_34 ?_
  refine v_ldiv (pc := 26) dX7_strengthNow_26 (by decide) ?_
  refine v_lret (pc := 27) hR dX7_strengthNow_27 ⟨by decide, by decide⟩ ?_
  exact ⟨_, hG, by rw [seamS, e1, e2, nat_nI (by omega), nat_nI (by omega), ← lM_eq], rfl⟩
set_option maxRecDepth 100000 in
set_option maxHeartbeats 400000 in
theorem c_X8_lotAt (D : DT) (X : XT) (s : SG) (a : Nat) (p0 : Int32) (hn : s.1 0 0 = nI a) (ha : a ≤ 6) (hsl : ∀ f, f < 6 → X.2.2.1 1 f = decide (f < a)) : CC yX8_lotAt cX8_lotAt 2 (Option.some (Jvm.ClassFile.FieldType.object "BroadseamLoft$Lot")) rm_X8_lotAt D [.ref (X.1 0 0), .int p0] X s (fun v s' => s' = s ∧ ((¬ btw p0 0 (nI a - 1) ∧ v = some .null) ∨ ∃ j, j < a ∧ p0 = nI j ∧ X.2.1 13 j = true ∧ v = some (.ref (X.1 13 j)))) := by
  intro G hG
  refine MC_of (by decide +kernel) (Nat.le_of_ble_eq_true rfl) (fun K sz hR => ?_)
  show V cX8_lotAt _ 2 _ D K 0 [some (.ref (X.1 0 0)), some (.int p0)] [] G (0, 0)
  refine v_iload_n (pc := 0) dX8_lotAt_0 rfl rfl ?_
  refine v_i2l (pc := 1) dX8_lotAt_1 ?_
  refine v_lconst (pc := 2) (v := 0) dX8_lotAt_2 (by decide) ?_
  refine v_aload_n (pc := 3) dX8_lotAt_3 rfl rfl ?_
  refine vc_getI (pc := 4) (f := 1) hG dX8_lotAt_4 fl_X8_73 (Or.inl rfl) (hG.2.2.1 0 (by decide)) rfl (by decide) ((ivL_0_1 _ _).trans hn) ?_
  refine v_iconst (pc := 7) (v := 1) dX8_lotAt_7 (by decide) ?_
  refine v_isub (pc := 8) dX8_lotAt_8 ?_
  refine v_i2l (pc := 9) dX8_lotAt_9 ?_
  refine v_callS3 (pc := 10) (0, 0) dX8_lotAt_10 cw_X8_62 sm_yX8_isOutside (c_X8_isOutside D _ _ _ _ ) (Nat.le_of_ble_eq_true rfl) ⟨Nat.le_of_ble_eq_true rfl, Nat.le_of_ble_eq_true rfl⟩ ⟨by decide, by decide⟩ rfl (fun v G1 hp => ?_)
  obtain ⟨hv1, hs1⟩ := hp
  subst hv1
  subst G1
  refine v_if_eq (pc := 13) (tgt := 20) dX8_lotAt_13 (by decide) (fun c13 => ?_) (fun c13 => ?_)
  · rw [b2i_0] at c13
    have c13 := (out_n (a := 0) (b := nI a - 1) (by decide) rfl).mp c13
    obtain ⟨j, hj, rfl⟩ := (btw_ix (a := a) (by omega)).mp c13
    refine v_aload_n (pc := 20) dX8_lotAt_20 rfl rfl ?_
    refine vc_getR (pc := 21) (f := 0) hG dX8_lotAt_21 fl_X8_11 rfl (hG.2.2.1 0 (by decide)) rfl (by decide) (rvL_0_0 _ _ _) (fun hL21 => ?_)
    refine v_iload_n (pc := 24) dX8_lotAt_24 rfl rfl ?_
    refine vc_aald (pc := 25) (k := 5) (j := j) hG dX8_lotAt_25 (hG.2.2.1 1 (by decide)) rfl (by decide) rfl rfl (by show _ < 6; omega) (c' := 13) (i' := j) (by show (if X.2.2.1 1 j then some (13, j) else none) = _; rw [hsl j (by omega), if_pos (decide_eq_true hj)]) (fun hL25 => ?_)
    refine v_aret (pc := 26) hR dX8_lotAt_26 (by first | exact Or.inl rfl | exact Or.inr ⟨_, rfl⟩) ⟨by decide, by decide⟩ ?_
    first
      | exact ⟨_, hG, rfl, Or.inl ⟨c13, rfl⟩⟩
      | exact ⟨_, hG, rfl, Or.inr ⟨j, hj, rfl, hL25, rfl⟩⟩
  · rw [b2i_0, Decidable.not_not] at c13
    have c13 := (out_y (a := 0) (b := nI a - 1) (by decide) rfl).mp c13
    refine v_null (pc := 16) dX8_lotAt_16 ?_
    refine v_goto (pc := 17) (tgt := 26) dX8_lotAt_17 (by decide) ?_
    refine v_aret (pc := 26) hR dX8_lotAt_26 (by first | exact Or.inl rfl | exact Or.inr ⟨_, rfl⟩) ⟨by decide, by decide⟩ ?_
    first
      | exact ⟨_, hG, rfl, Or.inl ⟨c13, rfl⟩⟩
      | exact ⟨_, hG, rfl, Or.inr ⟨j, hj, rfl, hL25, rfl⟩⟩
set_option maxRecDepth 100000 in
set_option maxHeartbeats 400000 in
theorem c_X8_panelAt (D : DT) (X : XT) (s : SG) (a : Nat) (p0 : Int32) (hn : s.1 4 0 = nI a) (ha : a ≤ 12) (hsl : ∀ f, f < 12 → X.2.2.1 2 f = decide (f < a)) : CC yX8_panelAt cX8_panelAt 2 (Option.some (Jvm.ClassFile.FieldType.object "BroadseamLoft$Panel")) rm_X8_panelAt D [.ref (X.1 0 0), .int p0] X s (fun v s' => s' = s ∧ ((¬ btw p0 0 (nI a - 1) ∧ v = some .null) ∨ ∃ j, j < a ∧ p0 = nI j ∧ X.2.1 14 j = true ∧ v = some (.ref (X.1 14 j)))) := by
  intro G hG
  refine MC_of (by decide +kernel) (Nat.le_of_ble_eq_true rfl) (fun K sz hR => ?_)
  show V cX8_panelAt _ 2 _ D K 0 [some (.ref (X.1 0 0)), some (.int p0)] [] G (0, 0)
  refine v_iload_n (pc := 0) dX8_panelAt_0 rfl rfl ?_
  refine v_i2l (pc := 1) dX8_panelAt_1 ?_
  refine v_lconst (pc := 2) (v := 0) dX8_panelAt_2 (by decide) ?_
  refine v_aload_n (pc := 3) dX8_panelAt_3 rfl rfl ?_
  refine vc_getI (pc := 4) (f := 3) hG dX8_panelAt_4 fl_X8_114 (Or.inl rfl) (hG.2.2.1 0 (by decide)) rfl (by decide) ((ivL_0_3 _ _).trans hn) ?_
  refine v_iconst (pc := 7) (v := 1) dX8_panelAt_7 (by decide) ?_
  refine v_isub (pc := 8) dX8_panelAt_8 ?_
  refine v_i2l (pc := 9) dX8_panelAt_9 ?_
  refine v_callS3 (pc := 10) (0, 0) dX8_panelAt_10 cw_X8_62 sm_yX8_isOutside (c_X8_isOutside D _ _ _ _ ) (Nat.le_of_ble_eq_true rfl) ⟨Nat.le_of_ble_eq_true rfl, Nat.le_of_ble_eq_true rfl⟩ ⟨by decide, by decide⟩ rfl (fun v G1 hp => ?_)
  obtain ⟨hv1, hs1⟩ := hp
  subst hv1
  subst G1
  refine v_if_eq (pc := 13) (tgt := 20) dX8_panelAt_13 (by decide) (fun c13 => ?_) (fun c13 => ?_)
  · rw [b2i_0] at c13
    have c13 := (out_n (a := 0) (b := nI a - 1) (by decide) rfl).mp c13
    obtain ⟨j, hj, rfl⟩ := (btw_ix (a := a) (by omega)).mp c13
    refine v_aload_n (pc := 20) dX8_panelAt_20 rfl rfl ?_
    refine vc_getR (pc := 21) (f := 2) hG dX8_panelAt_21 fl_X8_17 rfl (hG.2.2.1 0 (by decide)) rfl (by decide) (rvL_0_2 _ _ _) (fun hL21 => ?_)
    refine v_iload_n (pc := 24) dX8_panelAt_24 rfl rfl ?_
    refine vc_aald (pc := 25) (k := 6) (j := j) hG dX8_panelAt_25 (hG.2.2.1 2 (by decide)) rfl (by decide) rfl rfl (by show _ < 12; omega) (c' := 14) (i' := j) (by show (if X.2.2.1 2 j then some (14, j) else none) = _; rw [hsl j (by omega), if_pos (decide_eq_true hj)]) (fun hL25 => ?_)
    refine v_aret (pc := 26) hR dX8_panelAt_26 (by first | exact Or.inl rfl | exact Or.inr ⟨_, rfl⟩) ⟨by decide, by decide⟩ ?_
    first
      | exact ⟨_, hG, rfl, Or.inl ⟨c13, rfl⟩⟩
      | exact ⟨_, hG, rfl, Or.inr ⟨j, hj, rfl, hL25, rfl⟩⟩
  · rw [b2i_0, Decidable.not_not] at c13
    have c13 := (out_y (a := 0) (b := nI a - 1) (by decide) rfl).mp c13
    refine v_null (pc := 16) dX8_panelAt_16 ?_
    refine v_goto (pc := 17) (tgt := 26) dX8_panelAt_17 (by decide) ?_
    refine v_aret (pc := 26) hR dX8_panelAt_26 (by first | exact Or.inl rfl | exact Or.inr ⟨_, rfl⟩) ⟨by decide, by decide⟩ ?_
    first
      | exact ⟨_, hG, rfl, Or.inl ⟨c13, rfl⟩⟩
      | exact ⟨_, hG, rfl, Or.inr ⟨j, hj, rfl, hL25, rfl⟩⟩
set_option maxRecDepth 100000 in
set_option maxHeartbeats 400000 in
theorem c_X8_canopyAt (D : DT) (X : XT) (s : SG) (a : Nat) (p0 : Int32) (hn : s.1 28 0 = nI a) (ha : a ≤ 6) (hsl : ∀ f, f < 6 → X.2.2.1 5 f = decide (f < a)) : CC yX8_canopyAt cX8_canopyAt 2 (Option.some (Jvm.ClassFile.FieldType.object "BroadseamLoft$Canopy")) rm_X8_canopyAt D [.ref (X.1 0 0), .int p0] X s (fun v s' => s' = s ∧ ((¬ btw p0 0 (nI a - 1) ∧ v = some .null) ∨ ∃ j, j < a ∧ p0 = nI j ∧ X.2.1 17 j = true ∧ v = some (.ref (X.1 17 j)))) := by
  intro G hG
  refine MC_of (by decide +kernel) (Nat.le_of_ble_eq_true rfl) (fun K sz hR => ?_)
  show V cX8_canopyAt _ 2 _ D K 0 [some (.ref (X.1 0 0)), some (.int p0)] [] G (0, 0)
  refine v_iload_n (pc := 0) dX8_canopyAt_0 rfl rfl ?_
  refine v_i2l (pc := 1) dX8_canopyAt_1 ?_
  refine v_lconst (pc := 2) (v := 0) dX8_canopyAt_2 (by decide) ?_
  refine v_aload_n (pc := 3) dX8_canopyAt_3 rfl rfl ?_
  refine vc_getI (pc := 4) (f := 11) hG dX8_canopyAt_4 fl_X8_294 (Or.inl rfl) (hG.2.2.1 0 (by decide)) rfl (by decide) ((ivL_0_11 _ _).trans hn) ?_
  refine v_iconst (pc := 7) (v := 1) dX8_canopyAt_7 (by decide) ?_
  refine v_isub (pc := 8) dX8_canopyAt_8 ?_
  refine v_i2l (pc := 9) dX8_canopyAt_9 ?_
  refine v_callS3 (pc := 10) (0, 0) dX8_canopyAt_10 cw_X8_62 sm_yX8_isOutside (c_X8_isOutside D _ _ _ _ ) (Nat.le_of_ble_eq_true rfl) ⟨Nat.le_of_ble_eq_true rfl, Nat.le_of_ble_eq_true rfl⟩ ⟨by decide, by decide⟩ rfl (fun v G1 hp => ?_)
  obtain ⟨hv1, hs1⟩ := hp
  subst hv1
  subst G1
  refine v_if_eq (pc := 13) (tgt := 20) dX8_canopyAt_13 (by decide) (fun c13 => ?_) (fun c13 => ?_)
  · rw [b2i_0] at c13
    have c13 := (out_n (a := 0) (b := nI a - 1) (by decide) rfl).mp c13
    obtain ⟨j, hj, rfl⟩ := (btw_ix (a := a) (by omega)).mp c13
    refine v_aload_n (pc := 20) dX8_canopyAt_20 rfl rfl ?_
    refine vc_getR (pc := 21) (f := 10) hG dX8_canopyAt_21 fl_X8_49 rfl (hG.2.2.1 0 (by decide)) rfl (by decide) (rvL_0_10 _ _ _) (fun hL21 => ?_)
    refine v_iload_n (pc := 24) dX8_canopyAt_24 rfl rfl ?_
    refine vc_aald (pc := 25) (k := 9) (j := j) hG dX8_canopyAt_25 (hG.2.2.1 5 (by decide)) rfl (by decide) rfl rfl (by show _ < 6; omega) (c' := 17) (i' := j) (by show (if X.2.2.1 5 j then some (17, j) else none) = _; rw [hsl j (by omega), if_pos (decide_eq_true hj)]) (fun hL25 => ?_)
    refine v_aret (pc := 26) hR dX8_canopyAt_26 (by first | exact Or.inl rfl | exact Or.inr ⟨_, rfl⟩) ⟨by decide, by decide⟩ ?_
    first
      | exact ⟨_, hG, rfl, Or.inl ⟨c13, rfl⟩⟩
      | exact ⟨_, hG, rfl, Or.inr ⟨j, hj, rfl, hL25, rfl⟩⟩
  · rw [b2i_0, Decidable.not_not] at c13
    have c13 := (out_y (a := 0) (b := nI a - 1) (by decide) rfl).mp c13
    refine v_null (pc := 16) dX8_canopyAt_16 ?_
    refine v_goto (pc := 17) (tgt := 26) dX8_canopyAt_17 (by decide) ?_
    refine v_aret (pc := 26) hR dX8_canopyAt_26 (by first | exact Or.inl rfl | exact Or.inr ⟨_, rfl⟩) ⟨by decide, by decide⟩ ?_
    first
      | exact ⟨_, hG, rfl, Or.inl ⟨c13, rfl⟩⟩
      | exact ⟨_, hG, rfl, Or.inr ⟨j, hj, rfl, hL25, rfl⟩⟩
