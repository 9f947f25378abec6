set_option maxRecDepth 100000 in
set_option maxHeartbeats 400000 in
theorem c_X8_knot (D : DT) (X : XT) (s : SG)  (p0 : Int32) (p1 : Int32) (p2 : Int32) (hz : p2 = 0 ∨ p2 = 1) : CX yX8_knot cX8_knot 5 (Option.some Jvm.ClassFile.FieldType.int) rm_X8_knot D [.ref (X.1 0 0), .int p0, .int p1, .int p2] X s (fun v s' => v = some (.int (s.1 15 (nat p0))) ∧ s' = gKnot s (nat p0) p1 p2 ∧ kKnot p0 p1 = 0) (fun e => (e = xIO ∧ kKnot p0 p1 = 1) ∨ (e = xIA ∧ kKnot p0 p1 = 2)) := by
  intro G hG
  refine MX_of (by decide +kernel) (Nat.le_of_ble_eq_true rfl) (fun K sz hR hX => ?_)
  show V cX8_knot _ 5 _ D K 0 [some (.ref (X.1 0 0)), some (.int p0), some (.int p1), some (.int p2), none] [] G (0, 0)
  refine v_iload_n (pc := 0) dX8_knot_0 rfl rfl ?_
  refine v_i2l (pc := 1) dX8_knot_1 ?_
  refine v_lconst (pc := 2) (v := 0) dX8_knot_2 (by decide) ?_
  refine v_ldcL (pc := 3) dX8_knot_3 k_X8_185 ?_
  refine v_callS3 (pc := 6) (0, 0) dX8_knot_6 cw_X8_62 sm_yX8_isOutside (c_X8_isOutside D _ _ _ _ ) (Nat.le_of_ble_eq_true rfl) ⟨Nat.le_of_ble_eq_true rfl, Nat.le_of_ble_eq_true rfl⟩ ⟨by decide, by decide⟩ rfl (fun v G1 hp => ?_)
  obtain ⟨hv1, hs1⟩ := hp
  subst hv1
  subst G1
  refine v_if_eq (pc := 9) (tgt := 22) dX8_knot_9 (by decide) (fun c9 => ?_) (fun c9 => ?_)
  · rw [b2i_0] at c9
    have c9 := (out_n (a := 0) (b := 35) (by decide) (by decide)).mp c9
    refine v_iload_n (pc := 22) dX8_knot_22 rfl rfl ?_
    refine v_i2l (pc := 23) dX8_knot_23 ?_
    refine v_ldcL (pc := 24) dX8_knot_24 k_X8_189 ?_
    refine v_ldcL (pc := 27) dX8_knot_27 k_X8_94 ?_
    refine v_callS3 (pc := 30) (0, 0) dX8_knot_30 cw_X8_62 sm_yX8_isOutside (c_X8_isOutside D _ _ _ _ ) (Nat.le_of_ble_eq_true rfl) ⟨Nat.le_of_ble_eq_true rfl, Nat.le_of_ble_eq_true rfl⟩ ⟨by decide, by decide⟩ rfl (fun v G1 hp => ?_)
    obtain ⟨hv1, hs1⟩ := hp
    subst hv1
    subst G1
    refine v_if_eq (pc := 33) (tgt := 46) dX8_knot_33 (by decide) (fun c33 => ?_) (fun c33 => ?_)
    · rw [b2i_0] at c33
      have c33 := (out_n (a := -10000) (b := 10000) (by decide) (by decide)).mp c33
      obtain ⟨j, hj, rfl⟩ := (btw_lit (M := 35) (N := 35) rfl).mp c9
      refine v_aload_n (pc := 46) dX8_knot_46 rfl rfl ?_
      refine vc_getR (pc := 47) (f := 6) hG dX8_knot_47 fl_X8_30 rfl (hG.2.2.1 0 (by decide)) rfl (by decide) (rvL_0_6 _ _ _) (fun hL47 => ?_)
      refine vc_getR (pc := 50) (f := 0) hG dX8_knot_50 fl_X8_193 rfl (hG.2.2.1 6 (by decide)) rfl (by decide) (rvL_6_0 _ _ _) (fun hL50 => ?_)
      refine v_iload_n (pc := 53) dX8_knot_53 rfl rfl ?_
      refine vc_iald (pc := 54) (j := j) hG dX8_knot_54 (hG.2.2.1 7 (by decide)) rfl rfl (by show _ < 36; omega) (ivL_7_a _ _) ?_
      refine v_istore (pc := 55) dX8_knot_55 rfl (by decide) ?_
      refine v_aload_n (pc := 57) dX8_knot_57 rfl rfl ?_
      refine vc_getR (pc := 58) (f := 6) hG dX8_knot_58 fl_X8_30 rfl (hG.2.2.1 0 (by decide)) rfl (by decide) (rvL_0_6 _ _ _) (fun hL58 => ?_)
      refine vc_getR (pc := 61) (f := 0) hG dX8_knot_61 fl_X8_193 rfl (hG.2.2.1 6 (by decide)) rfl (by decide) (rvL_6_0 _ _ _) (fun hL61 => ?_)
      refine v_iload_n (pc := 64) dX8_knot_64 rfl rfl ?_
      refine v_iload_n (pc := 65) dX8_knot_65 rfl rfl ?_
      refine vc_iast (pc := 66) (j := j) hG dX8_knot_66 (hG.2.2.1 7 (by decide)) rfl rfl (by show _ < 36; omega) (uI_7_a _ _ _) (fun G hG => ?_)
      refine v_aload_n (pc := 67) dX8_knot_67 rfl rfl ?_
      refine vc_getR (pc := 68) (f := 6) hG dX8_knot_68 fl_X8_30 rfl (hG.2.2.1 0 (by decide)) rfl (by decide) (rvL_0_6 _ _ _) (fun hL68 => ?_)
      refine vc_getR (pc := 71) (f := 2) hG dX8_knot_71 fl_X8_197 rfl (hG.2.2.1 6 (by decide)) rfl (by decide) (rvL_6_2 _ _ _) (fun hL71 => ?_)
      refine v_iload_n (pc := 74) dX8_knot_74 rfl rfl ?_
      refine v_iload_n (pc := 75) dX8_knot_75 rfl rfl ?_
      refine vc_zast (pc := 76) (j := j) hG dX8_knot_76 (hG.2.2.1 9 (by decide)) rfl rfl (by show _ < 36; omega) (by rcases hz with rfl | rfl <;> rfl) (uI_9_a _ _ _) (fun G hG => ?_)
      refine v_iload (pc := 77) dX8_knot_77 rfl ?_
      refine v_iret (pc := 79) hR dX8_knot_79 ⟨by decide, by decide⟩ ?_
      exact ⟨_, hG, by rw [nat_nI (by omega)], by rw [nat_nI (by omega), gKnot], by rw [kKnot, if_pos c9, if_pos c33]⟩
    · rw [b2i_0, Decidable.not_not] at c33
      have c33 := (out_y (a := -10000) (b := 10000) (by decide) (by decide)).mp c33
      refine v_throw (pc := 36) hX tw_X8_66_191_70 dX8_knot_36 dX8_knot_39 dX8_knot_40 dX8_knot_42 dX8_knot_45 (Nat.le_of_ble_eq_true rfl) ⟨by decide, by decide⟩ ⟨by decide, by decide⟩ ?_
      exact ⟨hG, Or.inr ⟨rfl, by rw [kKnot, if_pos c9, if_neg c33]⟩⟩
  · rw [b2i_0, Decidable.not_not] at c9
    have c9 := (out_y (a := 0) (b := 35) (by decide) (by decide)).mp c9
    refine v_throw (pc := 12) hX tw_X8_89_187_93 dX8_knot_12 dX8_knot_15 dX8_knot_16 dX8_knot_18 dX8_knot_21 (Nat.le_of_ble_eq_true rfl) ⟨by decide, by decide⟩ ⟨by decide, by decide⟩ ?_
    exact ⟨hG, Or.inl ⟨rfl, by rw [kKnot, if_neg c9]⟩⟩
set_option maxRecDepth 100000 in
set_option maxHeartbeats 400000 in
theorem c_X6_draftWith (D : DT) (X : XT) (s : SG) (h t : Nat)  (hh : h < 101) (ht : t < 101) (hT : s.1 25 0 = nI t) : CC yX6_draftWith cX6_draftWith 2 (Option.some Jvm.ClassFile.FieldType.float) rm_X6_draftWith D [.ref (X.1 10 0), .int (nI h)] X s (fun v s' => v = some (.float (drI h t)) ∧ s' = s) := by
  intro G hG
  refine MC_of (by decide +kernel) (Nat.le_of_ble_eq_true rfl) (fun K sz hR => ?_)
  show V cX6_draftWith _ 2 _ D K 0 [some (.ref (X.1 10 0)), some (.int (nI h))] [] G (0, 0)
  refine v_ldcf (pc := 0) dX6_draftWith_0 k_X6_7 ?_
  refine v_ldcf (pc := 2) dX6_draftWith_2 k_X6_8 ?_
  refine v_iload_n (pc := 4) dX6_draftWith_4 rfl rfl ?_
  refine v_i2f (pc := 5) dX6_draftWith_5 ?_
  refine v_fmul (pc := 6) dX6_draftWith_6 (vf_B (f1 h hh).1) ?_
  refine v_fsub (pc := 7) dX6_draftWith_7 (vf_B (f1 h hh).2.1) ?_
  refine v_ldcf (pc := 8) dX6_draftWith_8 k_X6_9 ?_
  refine v_aload_n (pc := 10) dX6_draftWith_10 rfl rfl ?_
  refine vc_getI (pc := 11) (f := 1) hG dX6_draftWith_11 fl_X6_10 (Or.inl rfl) (hG.2.2.1 10 (by decide)) rfl (by decide) ((ivL_10_1 _ _).trans hT) ?_
  refine v_i2f (pc := 14) dX6_draftWith_14 ?_
  refine v_fmul (pc := 15) dX6_draftWith_15 (vf_B (f1 t ht).2.2) ?_
  refine v_fadd (pc := 16) dX6_draftWith_16 (f4 (r := 0) hh ht (by decide)).1 ?_
  refine v_fret (pc := 17) hR dX6_draftWith_17 ⟨by decide, by decide⟩ ?_
  exact ⟨_, hG, rfl, rfl⟩
set_option maxRecDepth 100000 in
set_option maxHeartbeats 400000 in
theorem c_X6_powerWith (D : DT) (X : XT) (s : SG) (h k t r : Nat)  (hh : h < 101) (hk : k < 101) (ht : t < 101) (hr : r < 4) (hT : s.1 25 0 = nI t) (hr2 : s.1 26 0 = nI r) : CC yX6_powerWith cX6_powerWith 4 (Option.some Jvm.ClassFile.FieldType.float) rm_X6_powerWith D [.ref (X.1 10 0), .int (nI h), .int (nI k)] X s (fun v s' => v = some (.float (pwI h t r k)) ∧ s' = s) := by
  intro G hG
  refine MC_of (by decide +kernel) (Nat.le_of_ble_eq_true rfl) (fun K sz hR => ?_)
  show V cX6_powerWith _ 4 _ D K 0 [some (.ref (X.1 10 0)), some (.int (nI h)), some (.int (nI k)), none] [] G (0, 0)
  refine v_ldcf (pc := 0) dX6_powerWith_0 k_X6_16 ?_
  refine v_fconst1 (pc := 2) dX6_powerWith_2 ?_
  refine v_aload_n (pc := 3) dX6_powerWith_3 rfl rfl ?_
  refine vc_getI (pc := 4) (f := 2) hG dX6_powerWith_4 fl_X6_17 (Or.inl rfl) (hG.2.2.1 10 (by decide)) rfl (by decide) ((ivL_10_2 _ _).trans hr2) ?_
  refine v_i2f (pc := 7) dX6_powerWith_7 ?_
  refine v_fadd (pc := 8) dX6_powerWith_8 (vf_B (f3 r hr).1) ?_
  refine v_fdiv (pc := 9) dX6_powerWith_9 (vf_B (f3 r hr).2) ?_
  refine v_fstore_n (pc := 10) dX6_powerWith_10 rfl rfl (by decide) ?_
  refine v_aload_n (pc := 11) dX6_powerWith_11 rfl rfl ?_
  refine v_iload_n (pc := 12) dX6_powerWith_12 rfl rfl ?_
  refine vc_callV1 (pc := 13) (0, 0) hG dX6_powerWith_13 cw_X6_20 im_yX6_draftWith se_yX6_draftWith (c_X6_draftWith D X _ h t hh ht hT) (hG.2.2.1 10 (by decide)) rfl rfl (Nat.le_of_ble_eq_true rfl) ⟨Nat.le_of_ble_eq_true rfl, Nat.le_of_ble_eq_true rfl⟩ ⟨by decide, by decide⟩ rfl (fun v s1 G hp hG => ?_)
  obtain ⟨hv1, hs1⟩ := hp
  subst hv1
  subst s1
  refine v_fload_n (pc := 16) dX6_powerWith_16 rfl rfl ?_
  refine v_fmul (pc := 17) dX6_powerWith_17 (f4 hh ht hr).2.1 ?_
  refine v_iload_n (pc := 18) dX6_powerWith_18 rfl rfl ?_
  refine v_i2f (pc := 19) dX6_powerWith_19 ?_
  refine v_fmul (pc := 20) dX6_powerWith_20 (f6 hh ht hr hk).1 ?_
  refine v_iload_n (pc := 21) dX6_powerWith_21 rfl rfl ?_
  refine v_i2f (pc := 22) dX6_powerWith_22 ?_
  refine v_fmul (pc := 23) dX6_powerWith_23 (f6 hh ht hr hk).2 ?_
  refine v_fret (pc := 24) hR dX6_powerWith_24 ⟨by decide, by decide⟩ ?_
  exact ⟨_, hG, rfl, rfl⟩
set_option maxRecDepth 100000 in
set_option maxHeartbeats 400000 in
theorem c_X8_power (D : DT) (X : XT) (s : SG) (h t r : Nat) (p0 : Int32) (e1 : s.1 24 0 = nI h) (e2 : s.1 25 0 = nI t) (e3 : s.1 26 0 = nI r) (hh : h < 101) (ht : t < 101) (hr : r < 4) : CX yX8_power cX8_power 2 (Option.some Jvm.ClassFile.FieldType.float) rm_X8_power D [.ref (X.1 0 0), .int p0] X s (fun v s' => v = some (.float (pwI h t r (nat p0))) ∧ s' = s ∧ kPow p0 = 0) (fun e => e = xIA ∧ kPow p0 = 1) := by
  intro G hG
  refine MX_of (by decide +kernel) (Nat.le_of_ble_eq_true rfl) (fun K sz hR hX => ?_)
  show V cX8_power _ 2 _ D K 0 [some (.ref (X.1 0 0)), some (.int p0)] [] G (0, 0)
  refine v_iload_n (pc := 0) dX8_power_0 rfl rfl ?_
  refine v_i2l (pc := 1) dX8_power_1 ?_
  refine v_lconst (pc := 2) (v := 0) dX8_power_2 (by decide) ?_
  refine v_ldcL (pc := 3) dX8_power_3 k_X8_201 ?_
  refine v_callS3 (pc := 6) (0, 0) dX8_power_6 cw_X8_62 sm_yX8_isOutside (c_X8_isOutside D _ _ _ _ ) (Nat.le_of_ble_eq_true rfl) ⟨Nat.le_of_ble_eq_true rfl, Nat.le_of_ble_eq_true rfl⟩ ⟨by decide, by decide⟩ rfl (fun v G1 hp => ?_)
  obtain ⟨hv1, hs1⟩ := hp
  subst hv1
  subst G1
  refine v_if_eq (pc := 9) (tgt := 23) dX8_power_9 (by decide) (fun c9 => ?_) (fun c9 => ?_)
  · rw [b2i_0] at c9
    have c9 := (out_n (a := 0) (b := 100) (by decide) (by decide)).mp c9
    obtain ⟨k, hk1, rfl⟩ := (btw_lit (M := 100) (N := 100) rfl).mp c9
    refine v_aload_n (pc := 23) dX8_power_23 rfl rfl ?_
    refine vc_getR (pc := 24) (f := 9) hG dX8_power_24 fl_X8_43 rfl (hG.2.2.1 0 (by decide)) rfl (by decide) (rvL_0_9 _ _ _) (fun hL24 => ?_)
    refine v_aload_n (pc := 27) dX8_power_27 rfl rfl ?_
    refine vc_getR (pc := 28) (f := 9) hG dX8_power_28 fl_X8_43 rfl (hG.2.2.1 0 (by decide)) rfl (by decide) (rvL_0_9 _ _ _) (fun hL28 => ?_)
    refine vc_getI (pc := 31) (f := 0) hG dX8_power_31 fl_X8_261 (Or.inl rfl) (hG.2.2.1 10 (by decide)) rfl (by decide) ((ivL_10_0 _ _).trans e1) ?_
    refine v_iload_n (pc := 34) dX8_power_34 rfl rfl ?_
    refine vc_callV2 (pc := 35) (0, 0) hG dX8_power_35 cw_X8_276 im_yX6_powerWith se_yX6_powerWith (c_X6_powerWith D X _ h k t r hh (by omega) ht hr e2 e3) (hG.2.2.1 10 (by decide)) rfl rfl (Nat.le_of_ble_eq_true rfl) ⟨Nat.le_of_ble_eq_true rfl, Nat.le_of_ble_eq_true rfl⟩ ⟨by decide, by decide⟩ rfl (fun v s1 G hp hG => ?_)
    obtain ⟨hv1, hs1⟩ := hp
    subst hv1
    subst s1
    refine v_fret (pc := 38) hR dX8_power_38 ⟨by decide, by decide⟩ ?_
    exact ⟨_, hG, by rw [nat_nI (by omega)], rfl, by rw [kPow, if_pos c9]⟩
  · rw [b2i_0, Decidable.not_not] at c9
    have c9 := (out_y (a := 0) (b := 100) (by decide) (by decide)).mp c9
    refine v_throwW (pc := 12) hX tw_X8_66_274_70 dX8_power_12 dX8_power_15 dX8_power_16 dX8_power_19 dX8_power_22 (Nat.le_of_ble_eq_true rfl) ⟨by decide, by decide⟩ ⟨by decide, by decide⟩ ?_
    exact ⟨hG, rfl, by rw [kPow, if_neg c9]⟩
set_option maxRecDepth 100000 in
set_option maxHeartbeats 400000 in
theorem c_X8_trim (D : DT) (X : XT) (s : SG)  (p0 : Int32) (p1 : Int32) (p2 : Int32)  : CX yX8_trim cX8_trim 4 (Option.some Jvm.ClassFile.FieldType.float) rm_X8_trim D [.ref (X.1 0 0), .int p0, .int p1, .int p2] X s (fun v s' => v = some (.float (drI (nat p0) (nat p1))) ∧ s' = gTrim s p0 p1 p2 ∧ kTrim p0 p1 p2 = 0) (fun e => e = xIA ∧ kTrim p0 p1 p2 = 1) := by
  intro G hG
  refine MX_of (by decide +kernel) (Nat.le_of_ble_eq_true rfl) (fun K sz hR hX => ?_)
  show V cX8_trim _ 4 _ D K 0 [some (.ref (X.1 0 0)), some (.int p0), some (.int p1), some (.int p2)] [] G (0, 0)
  refine v_iload_n (pc := 0) dX8_trim_0 rfl rfl ?_
  refine v_i2l (pc := 1) dX8_trim_1 ?_
  refine v_lconst (pc := 2) (v := 0) dX8_trim_2 (by decide) ?_
  refine v_ldcL (pc := 3) dX8_trim_3 k_X8_201 ?_
  refine v_callS3 (pc := 6) (0, 0) dX8_trim_6 cw_X8_62 sm_yX8_isOutside (c_X8_isOutside D _ _ _ _ ) (Nat.le_of_ble_eq_true rfl) ⟨Nat.le_of_ble_eq_true rfl, Nat.le_of_ble_eq_true rfl⟩ ⟨by decide, by decide⟩ rfl (fun v G1 hp => ?_)
  obtain ⟨hv1, hs1⟩ := hp
  subst hv1
  subst G1
  refine v_if_ne (pc := 9) (tgt := 36) dX8_trim_9 (by decide) (fun c9 => ?_) (fun c9 => ?_)
  · rw [b2i_0, Decidable.not_not] at c9
    have c9 := (out_y (a := 0) (b := 100) (by decide) (by decide)).mp c9
    refine v_throwW (pc := 36) hX tw_X8_66_259_70 dX8_trim_36 dX8_trim_39 dX8_trim_40 dX8_trim_43 dX8_trim_46 (Nat.le_of_ble_eq_true rfl) ⟨by decide, by decide⟩ ⟨by decide, by decide⟩ ?_
    exact ⟨hG, rfl, by rw [kTrim, if_neg (by first | exact fun z => c9 z.1 | exact fun z => c21 z.2.1 | exact fun z => c33 z.2.2)]⟩
  · rw [b2i_0] at c9
    have c9 := (out_n (a := 0) (b := 100) (by decide) (by decide)).mp c9
    refine v_iload_n (pc := 12) dX8_trim_12 rfl rfl ?_
    refine v_i2l (pc := 13) dX8_trim_13 ?_
    refine v_lconst (pc := 14) (v := 0) dX8_trim_14 (by decide) ?_
    refine v_ldcL (pc := 15) dX8_trim_15 k_X8_201 ?_
    refine v_callS3 (pc := 18) (0, 0) dX8_trim_18 cw_X8_62 sm_yX8_isOutside (c_X8_isOutside D _ _ _ _ ) (Nat.le_of_ble_eq_true rfl) ⟨Nat.le_of_ble_eq_true rfl, Nat.le_of_ble_eq_true rfl⟩ ⟨by decide, by decide⟩ rfl (fun v G1 hp => ?_)
    obtain ⟨hv1, hs1⟩ := hp
    subst hv1
    subst G1
    refine v_if_ne (pc := 21) (tgt := 36) dX8_trim_21 (by decide) (fun c21 => ?_) (fun c21 => ?_)
    · rw [b2i_0, Decidable.not_not] at c21
      have c21 := (out_y (a := 0) (b := 100) (by decide) (by decide)).mp c21
      refine v_throwW (pc := 36) hX tw_X8_66_259_70 dX8_trim_36 dX8_trim_39 dX8_trim_40 dX8_trim_43 dX8_trim_46 (Nat.le_of_ble_eq_true rfl) ⟨by decide, by decide⟩ ⟨by decide, by decide⟩ ?_
      exact ⟨hG, rfl, by rw [kTrim, if_neg (by first | exact fun z => c9 z.1 | exact fun z => c21 z.2.1 | exact fun z => c33 z.2.2)]⟩
    · rw [b2i_0] at c21
      have c21 := (out_n (a := 0) (b := 100) (by decide) (by decide)).mp c21
      refine v_iload_n (pc := 24) dX8_trim_24 rfl rfl ?_
      refine v_i2l (pc := 25) dX8_trim_25 ?_
      refine v_lconst (pc := 26) (v := 0) dX8_trim_26 (by decide) ?_
      refine v_ldcL (pc := 27) dX8_trim_27 k_X8_257 ?_
      refine v_callS3 (pc := 30) (0, 0) dX8_trim_30 cw_X8_62 sm_yX8_isOutside (c_X8_isOutside D _ _ _ _ ) (Nat.le_of_ble_eq_true rfl) ⟨Nat.le_of_ble_eq_true rfl, Nat.le_of_ble_eq_true rfl⟩ ⟨by decide, by decide⟩ rfl (fun v G1 hp => ?_)
      obtain ⟨hv1, hs1⟩ := hp
      subst hv1
      subst G1
      refine v_if_eq (pc := 33) (tgt := 47) dX8_trim_33 (by decide) (fun c33 => ?_) (fun c33 => ?_)
      · rw [b2i_0] at c33
        have c33 := (out_n (a := 0) (b := 3) (by decide) (by decide)).mp c33
        obtain ⟨h, hh, rfl⟩ := (btw_lit (M := 100) (N := 100) rfl).mp c9
        obtain ⟨t, ht, rfl⟩ := (btw_lit (M := 100) (N := 100) rfl).mp c21
        have en : nat (nI h) = h := nat_nI (by omega)
        have et : nat (nI t) = t := nat_nI (by omega)
        refine v_aload_n (pc := 47) dX8_trim_47 rfl rfl ?_
        refine vc_getR (pc := 48) (f := 9) hG dX8_trim_48 fl_X8_43 rfl (hG.2.2.1 0 (by decide)) rfl (by decide) (rvL_0_9 _ _ _) (fun hL48 => ?_)
        refine v_iload_n (pc := 51) dX8_trim_51 rfl rfl ?_
        refine vc_putI (pc := 52) hG dX8_trim_52 fw_X8_261 rfl (Or.inl rfl) (hG.2.2.1 10 (by decide)) rfl rfl rfl (uI_10_0 _ _) (fun G hG => ?_)
        refine v_aload_n (pc := 55) dX8_trim_55 rfl rfl ?_
        refine vc_getR (pc := 56) (f := 9) hG dX8_trim_56 fl_X8_43 rfl (hG.2.2.1 0 (by decide)) rfl (by decide) (rvL_0_9 _ _ _) (fun hL56 => ?_)
        refine v_iload_n (pc := 59) dX8_trim_59 rfl rfl ?_
        refine vc_putI (pc := 60) hG dX8_trim_60 fw_X8_264 rfl (Or.inl rfl) (hG.2.2.1 10 (by decide)) rfl rfl rfl (uI_10_1 _ _) (fun G hG => ?_)
        refine v_aload_n (pc := 63) dX8_trim_63 rfl rfl ?_
        refine vc_getR (pc := 64) (f := 9) hG dX8_trim_64 fl_X8_43 rfl (hG.2.2.1 0 (by decide)) rfl (by decide) (rvL_0_9 _ _ _) (fun hL64 => ?_)
        refine v_iload_n (pc := 67) dX8_trim_67 rfl rfl ?_
        refine vc_putI (pc := 68) hG dX8_trim_68 fw_X8_267 rfl (Or.inl rfl) (hG.2.2.1 10 (by decide)) rfl rfl rfl (uI_10_2 _ _) (fun G hG => ?_)
        refine v_aload_n (pc := 71) dX8_trim_71 rfl rfl ?_
        refine vc_getR (pc := 72) (f := 9) hG dX8_trim_72 fl_X8_43 rfl (hG.2.2.1 0 (by decide)) rfl (by decide) (rvL_0_9 _ _ _) (fun hL72 => ?_)
        refine v_iload_n (pc := 75) dX8_trim_75 rfl rfl ?_
        refine vc_callV1 (pc := 76) (0, 0) hG dX8_trim_76 cw_X8_270 im_yX6_draftWith se_yX6_draftWith (c_X6_draftWith D X _ h t (by omega) (by omega) (by simp [sI, u2])) (hG.2.2.1 10 (by decide)) rfl rfl (Nat.le_of_ble_eq_true rfl) ⟨Nat.le_of_ble_eq_true rfl, Nat.le_of_ble_eq_true rfl⟩ ⟨by decide, by decide⟩ rfl (fun v s1 G hp hG => ?_)
        obtain ⟨hv1, hs1⟩ := hp
        subst hv1
        subst s1
        refine v_fret (pc := 79) hR dX8_trim_79 ⟨by decide, by decide⟩ ?_
        exact ⟨_, hG, by rw [en, et], by rw [gTrim], by rw [kTrim, if_pos ⟨c9, c21, c33⟩]⟩
      · rw [b2i_0, Decidable.not_not] at c33
        have c33 := (out_y (a := 0) (b := 3) (by decide) (by decide)).mp c33
        refine v_throwW (pc := 36) hX tw_X8_66_259_70 dX8_trim_36 dX8_trim_39 dX8_trim_40 dX8_trim_43 dX8_trim_46 (Nat.le_of_ble_eq_true rfl) ⟨by decide, by decide⟩ ⟨by decide, by decide⟩ ?_
        exact ⟨hG, rfl, by rw [kTrim, if_neg (by first | exact fun z => c9 z.1 | exact fun z => c21 z.2.1 | exact fun z => c33 z.2.2)]⟩
