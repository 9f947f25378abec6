set_option maxRecDepth 100000 in
set_option maxHeartbeats 400000 in
theorem c_X8_strength (D : DT) (X : XT) (s : SG) (b : Nat) (p0 : Int32) (h : PV s b) (hb : s.1 4 0 = nI b) (hb2 : b ≤ 12) (hsl : ∀ f, f < 12 → X.2.2.1 2 f = decide (f < b)) : CX yX8_strength cX8_strength 3 (Option.some Jvm.ClassFile.FieldType.long) rm_X8_strength D [.ref (X.1 0 0), .int p0] X s (fun v s' => v = some (.long (strS s (nat p0))) ∧ s' = s ∧ kPl b p0 = 0) (fun e => e = xIO ∧ kPl b p0 = 1) := by
  intro G hG
  refine MX_of (by decide +kernel) (Nat.le_of_ble_eq_true rfl) (fun K sz hR hX => ?_)
  show V cX8_strength _ 3 _ D K 0 [some (.ref (X.1 0 0)), some (.int p0), none] [] G (0, 0)
  refine v_aload_n (pc := 0) dX8_strength_0 rfl rfl ?_
  refine v_iload_n (pc := 1) dX8_strength_1 rfl rfl ?_
  refine vc_callV1 (pc := 2) (0, 0) hG dX8_strength_2 cw_X8_125 im_yX8_panelAt se_yX8_panelAt (c_X8_panelAt D X _ b _ hb hb2 hsl) (hG.2.2.1 0 (by decide)) rfl rfl (Nat.le_of_ble_eq_true rfl) ⟨Nat.le_of_ble_eq_true rfl, Nat.le_of_ble_eq_true rfl⟩ ⟨by decide, by decide⟩ rfl (fun v s1 G hp hG => ?_)
  obtain ⟨hs1, hp⟩ := hp
  subst s1
  rcases hp with ⟨c2, hv1⟩ | ⟨j, hj, hj1, hL2, hv1⟩
  · subst hv1
    refine v_astore_nN (pc := 5) dX8_strength_5 rfl rfl (by decide) ?_
    refine v_aload_nN (pc := 6) dX8_strength_6 rfl rfl ?_
    refine v_ifnonnullN (pc := 7) dX8_strength_7 ?_
    refine v_throw (pc := 10) hX tw_X8_89_129_93 dX8_strength_10 dX8_strength_13 dX8_strength_14 dX8_strength_16 dX8_strength_19 (Nat.le_of_ble_eq_true rfl) ⟨by decide, by decide⟩ ⟨by decide, by decide⟩ ?_
    exact ⟨hG, rfl, by rw [kPl, if_neg c2]⟩
  · subst hj1
    subst hv1
    refine v_astore_n (pc := 5) dX8_strength_5 rfl rfl (by decide) ?_
    refine v_aload_n (pc := 6) dX8_strength_6 rfl rfl ?_
    refine v_ifnonnull (pc := 7) (tgt := 20) dX8_strength_7 (by decide) ?_
    refine v_aload_n (pc := 20) dX8_strength_20 rfl rfl ?_
    refine vc_callV0 (pc := 21) (0, 0) hG dX8_strength_21 cw_X8_131 im_yX4_strengthNow se_yX4_strengthNow (c_X4_strengthNow D X _ j b (by assumption) h hj hb2) (by assumption) rfl rfl (Nat.le_of_ble_eq_true rfl) ⟨Nat.le_of_ble_eq_true rfl, Nat.le_of_ble_eq_true rfl⟩ ⟨by decide, by decide⟩ rfl (fun v s1 G hp hG => ?_)
    obtain ⟨hv1, hs1⟩ := hp
    subst hv1
    subst s1
    refine v_lret (pc := 24) hR dX8_strength_24 ⟨by decide, by decide⟩ ?_
    exact ⟨_, hG, by rw [nat_nI (by omega)], rfl, by rw [kPl, if_pos ((btw_ix (a := b) (by omega)).mpr ⟨j, hj, rfl⟩)]⟩
set_option maxRecDepth 100000 in
set_option maxHeartbeats 400000 in
theorem c_X8_roll (D : DT) (X : XT) (s : SG) (a : Nat) (p0 : Int32) (hn : s.1 0 0 = nI a) (ha : a ≤ 6) (hsl : ∀ f, f < 6 → X.2.2.1 1 f = decide (f < a)) : CX yX8_roll cX8_roll 3 (Option.some Jvm.ClassFile.FieldType.int) rm_X8_roll D [.ref (X.1 0 0), .int p0] X s (fun v s' => v = some (.int (s.1 39 (nat p0) + s.1 41 (nat p0))) ∧ s' = s ∧ kRoll a p0 = 0) (fun e => e = xIO ∧ kRoll a p0 = 1) := by
  intro G hG
  refine MX_of (by decide +kernel) (Nat.le_of_ble_eq_true rfl) (fun K sz hR hX => ?_)
  show V cX8_roll _ 3 _ D K 0 [some (.ref (X.1 0 0)), some (.int p0), none] [] G (0, 0)
  refine v_aload_n (pc := 0) dX8_roll_0 rfl rfl ?_
  refine v_iload_n (pc := 1) dX8_roll_1 rfl rfl ?_
  refine vc_callV1 (pc := 2) (0, 0) hG dX8_roll_2 cw_X8_85 im_yX8_lotAt se_yX8_lotAt (c_X8_lotAt D X _ a _ hn ha hsl) (hG.2.2.1 0 (by decide)) rfl rfl (Nat.le_of_ble_eq_true rfl) ⟨Nat.le_of_ble_eq_true rfl, Nat.le_of_ble_eq_true rfl⟩ ⟨by decide, by decide⟩ rfl (fun v s1 G hp hG => ?_)
  obtain ⟨hs1, hp⟩ := hp
  subst s1
  rcases hp with ⟨c2, hv1⟩ | ⟨j, hj, hj1, hL2, hv1⟩
  · subst hv1
    refine v_astore_nN (pc := 5) dX8_roll_5 rfl rfl (by decide) ?_
    refine v_aload_nN (pc := 6) dX8_roll_6 rfl rfl ?_
    refine v_ifnonnullN (pc := 7) dX8_roll_7 ?_
    refine v_throw (pc := 10) hX tw_X8_89_91_93 dX8_roll_10 dX8_roll_13 dX8_roll_14 dX8_roll_16 dX8_roll_19 (Nat.le_of_ble_eq_true rfl) ⟨by decide, by decide⟩ ⟨by decide, by decide⟩ ?_
    exact ⟨hG, rfl, by rw [kRoll, if_neg c2]⟩
  · subst hj1
    subst hv1
    refine v_astore_n (pc := 5) dX8_roll_5 rfl rfl (by decide) ?_
    refine v_aload_n (pc := 6) dX8_roll_6 rfl rfl ?_
    refine v_ifnonnull (pc := 7) (tgt := 20) dX8_roll_7 (by decide) ?_
    refine v_aload_n (pc := 20) dX8_roll_20 rfl rfl ?_
    refine vc_callV0 (pc := 21) (0, 0) hG dX8_roll_21 cw_X8_135 im_yX2_rolledLength se_yX2_rolledLength (c_X2_rolledLength D X _ j (by assumption)) (by assumption) rfl rfl (Nat.le_of_ble_eq_true rfl) ⟨Nat.le_of_ble_eq_true rfl, Nat.le_of_ble_eq_true rfl⟩ ⟨by decide, by decide⟩ rfl (fun v s1 G hp hG => ?_)
    obtain ⟨hv1, hs1⟩ := hp
    subst hv1
    subst s1
    refine v_iret (pc := 24) hR dX8_roll_24 ⟨by decide, by decide⟩ ?_
    exact ⟨_, hG, by rw [nat_nI (by omega)], rfl, by rw [kRoll, if_pos ((btw_ix (a := a) (by omega)).mpr ⟨j, hj, rfl⟩)]⟩
theorem hS_eq (h p : Int32) : (if 1000000 < h + p then (1000000 : Int32) else h + p) = hSun h p := by
  unfold hSun
  by_cases c : 1000000 < h + p
  · rw [if_pos c, if_neg (n_nle.mpr c)]
  · rw [if_neg c, if_pos (n_nlt.mp c)]
set_option maxRecDepth 100000 in
set_option maxHeartbeats 400000 in
theorem c_X8_sun (D : DT) (X : XT) (s : SG) (a : Nat) (p0 : Int32) (p1 : Int32) (hn : s.1 0 0 = nI a) (ha : a ≤ 6) (hsl : ∀ f, f < 6 → X.2.2.1 1 f = decide (f < a)) : CX yX8_sun cX8_sun 4 (Option.some Jvm.ClassFile.FieldType.int) rm_X8_sun D [.ref (X.1 0 0), .int p0, .int p1] X s (fun v s' => v = some (.int ((gSun s (nat p0) p1).1 2 (nat p0))) ∧ s' = gSun s (nat p0) p1 ∧ kSun a p0 p1 = 0) (fun e => (e = xIO ∧ kSun a p0 p1 = 1) ∨ (e = xIA ∧ kSun a p0 p1 = 2)) := by
  intro G hG
  refine MX_of (by decide +kernel) (Nat.le_of_ble_eq_true rfl) (fun K sz hR hX => ?_)
  show V cX8_sun _ 4 _ D K 0 [some (.ref (X.1 0 0)), some (.int p0), some (.int p1), none] [] G (0, 0)
  refine v_aload_n (pc := 0) dX8_sun_0 rfl rfl ?_
  refine v_iload_n (pc := 1) dX8_sun_1 rfl rfl ?_
  refine vc_callV1 (pc := 2) (0, 0) hG dX8_sun_2 cw_X8_85 im_yX8_lotAt se_yX8_lotAt (c_X8_lotAt D X _ a _ hn ha hsl) (hG.2.2.1 0 (by decide)) rfl rfl (Nat.le_of_ble_eq_true rfl) ⟨Nat.le_of_ble_eq_true rfl, Nat.le_of_ble_eq_true rfl⟩ ⟨by decide, by decide⟩ rfl (fun v s1 G hp hG => ?_)
  obtain ⟨hs1, hp⟩ := hp
  subst s1
  rcases hp with ⟨c2, hv1⟩ | ⟨j, hj, hj1, hL2, hv1⟩
  · subst hv1
    refine v_astore_nN (pc := 5) dX8_sun_5 rfl rfl (by decide) ?_
    refine v_aload_nN (pc := 6) dX8_sun_6 rfl rfl ?_
    refine v_ifnonnullN (pc := 7) dX8_sun_7 ?_
    refine v_throw (pc := 10) hX tw_X8_89_91_93 dX8_sun_10 dX8_sun_13 dX8_sun_14 dX8_sun_16 dX8_sun_19 (Nat.le_of_ble_eq_true rfl) ⟨by decide, by decide⟩ ⟨by decide, by decide⟩ ?_
    exact ⟨hG, Or.inl ⟨rfl, by rw [kSun, if_neg c2]⟩⟩
  · subst hj1
    subst hv1
    refine v_astore_n (pc := 5) dX8_sun_5 rfl rfl (by decide) ?_
    refine v_aload_n (pc := 6) dX8_sun_6 rfl rfl ?_
    refine v_ifnonnull (pc := 7) (tgt := 20) dX8_sun_7 (by decide) ?_
    refine v_iload_n (pc := 20) dX8_sun_20 rfl rfl ?_
    refine v_i2l (pc := 21) dX8_sun_21 ?_
    refine v_lconst (pc := 22) (v := 1) dX8_sun_22 (by decide) ?_
    refine v_ldcL (pc := 23) dX8_sun_23 k_X8_94 ?_
    refine v_callS3 (pc := 26) (0, 0) dX8_sun_26 cw_X8_62 sm_yX8_isOutside (c_X8_isOutside D _ _ _ _ ) (Nat.le_of_ble_eq_true rfl) ⟨Nat.le_of_ble_eq_true rfl, Nat.le_of_ble_eq_true rfl⟩ ⟨by decide, by decide⟩ rfl (fun v G1 hp => ?_)
    obtain ⟨hv1, hs1⟩ := hp
    subst hv1
    subst G1
    refine v_if_eq (pc := 29) (tgt := 42) dX8_sun_29 (by decide) (fun c29 => ?_) (fun c29 => ?_)
    · rw [b2i_0] at c29
      have c29 := (out_n (a := 1) (b := 10000) (by decide) (by decide)).mp c29
      refine v_aload_n (pc := 42) dX8_sun_42 rfl rfl ?_
      refine v_aload_n (pc := 43) dX8_sun_43 rfl rfl ?_
      refine vc_getI (pc := 44) (f := 3) hG dX8_sun_44 fl_X8_98 (Or.inl rfl) (by assumption) rfl (by decide) (ivL_13_3 _ _) ?_
      refine v_iload_n (pc := 47) dX8_sun_47 rfl rfl ?_
      refine v_iadd (pc := 48) dX8_sun_48 ?_
      refine v_ldc (pc := 49) dX8_sun_49 k_X8_101 ?_
      refine v_imin (pc := 51) dX8_sun_51 ml_X8_102 mc_imin.1 mc_imin.2.1 mc_imin.2.2 (by decide) (Nat.le_of_ble_eq_true rfl) (by decide) ⟨by decide, by decide⟩ ?_
      refine vc_putI (pc := 54) hG dX8_sun_54 fw_X8_98 rfl (Or.inl rfl) (by assumption) rfl rfl rfl (uI_13_3 _ _ _) (fun G hG => ?_)
      refine v_aload_n (pc := 57) dX8_sun_57 rfl rfl ?_
      refine vc_getI (pc := 58) (f := 3) hG dX8_sun_58 fl_X8_98 (Or.inl rfl) (by assumption) rfl (by decide) (ivL_13_3 _ _) ?_
      refine v_iret (pc := 61) hR dX8_sun_61 ⟨by decide, by decide⟩ ?_
      exact ⟨_, hG, by rw [nat_nI (by omega), gSun, hS_eq], by rw [nat_nI (by omega), gSun, hS_eq], by rw [kSun, if_pos ((btw_ix (a := a) (by omega)).mpr ⟨j, hj, rfl⟩), if_pos c29]⟩
    · rw [b2i_0, Decidable.not_not] at c29
      have c29 := (out_y (a := 1) (b := 10000) (by decide) (by decide)).mp c29
      refine v_throw (pc := 32) hX tw_X8_66_96_70 dX8_sun_32 dX8_sun_35 dX8_sun_36 dX8_sun_38 dX8_sun_41 (Nat.le_of_ble_eq_true rfl) ⟨by decide, by decide⟩ ⟨by decide, by decide⟩ ?_
      exact ⟨hG, Or.inr ⟨rfl, by rw [kSun, if_pos ((btw_ix (a := a) (by omega)).mpr ⟨j, hj, rfl⟩), if_neg c29]⟩⟩
set_option maxRecDepth 100000 in
set_option maxHeartbeats 400000 in
theorem c_X8_load (D : DT) (X : XT) (s : SG)  (p0 : Int32)  : CX yX8_load cX8_load 3 (Option.some Jvm.ClassFile.FieldType.int) rm_X8_load D [.ref (X.1 0 0), .int p0] X s (fun v s' => v = some (.int (s.1 18 0)) ∧ s' = sI s 18 0 p0 ∧ kLoad p0 = 0) (fun e => e = xIA ∧ kLoad p0 = 1) := by
  intro G hG
  refine MX_of (by decide +kernel) (Nat.le_of_ble_eq_true rfl) (fun K sz hR hX => ?_)
  show V cX8_load _ 3 _ D K 0 [some (.ref (X.1 0 0)), some (.int p0), none] [] G (0, 0)
  refine v_iload_n (pc := 0) dX8_load_0 rfl rfl ?_
  refine v_i2l (pc := 1) dX8_load_1 ?_
  refine v_lconst (pc := 2) (v := 0) dX8_load_2 (by decide) ?_
  refine v_ldcL (pc := 3) dX8_load_3 k_X8_201 ?_
  refine v_callS3 (pc := 6) (0, 0) dX8_load_6 cw_X8_62 sm_yX8_isOutside (c_X8_isOutside D _ _ _ _ ) (Nat.le_of_ble_eq_true rfl) ⟨Nat.le_of_ble_eq_true rfl, Nat.le_of_ble_eq_true rfl⟩ ⟨by decide, by decide⟩ rfl (fun v G1 hp => ?_)
  obtain ⟨hv1, hs1⟩ := hp
  subst hv1
  subst G1
  refine v_if_eq (pc := 9) (tgt := 22) dX8_load_9 (by decide) (fun c9 => ?_) (fun c9 => ?_)
  · rw [b2i_0] at c9
    have c9 := (out_n (a := 0) (b := 100) (by decide) (by decide)).mp c9
    refine v_aload_n (pc := 22) dX8_load_22 rfl rfl ?_
    refine vc_getR (pc := 23) (f := 6) hG dX8_load_23 fl_X8_30 rfl (hG.2.2.1 0 (by decide)) rfl (by decide) (rvL_0_6 _ _ _) (fun hL23 => ?_)
    refine vc_getI (pc := 26) (f := 3) hG dX8_load_26 fl_X8_205 (Or.inl rfl) (hG.2.2.1 6 (by decide)) rfl (by decide) (ivL_6_3 _ _) ?_
    refine v_istore_n (pc := 29) dX8_load_29 rfl rfl (by decide) ?_
    refine v_aload_n (pc := 30) dX8_load_30 rfl rfl ?_
    refine vc_getR (pc := 31) (f := 6) hG dX8_load_31 fl_X8_30 rfl (hG.2.2.1 0 (by decide)) rfl (by decide) (rvL_0_6 _ _ _) (fun hL31 => ?_)
    refine v_iload_n (pc := 34) dX8_load_34 rfl rfl ?_
    refine vc_putI (pc := 35) hG dX8_load_35 fw_X8_205 rfl (Or.inl rfl) (hG.2.2.1 6 (by decide)) rfl rfl rfl (uI_6_3 _ _) (fun G hG => ?_)
    refine v_iload_n (pc := 38) dX8_load_38 rfl rfl ?_
    refine v_iret (pc := 39) hR dX8_load_39 ⟨by decide, by decide⟩ ?_
    exact ⟨_, hG, rfl, rfl, by rw [kLoad, if_pos c9]⟩
  · rw [b2i_0, Decidable.not_not] at c9
    have c9 := (out_y (a := 0) (b := 100) (by decide) (by decide)).mp c9
    refine v_throw (pc := 12) hX tw_X8_66_203_70 dX8_load_12 dX8_load_15 dX8_load_16 dX8_load_18 dX8_load_21 (Nat.le_of_ble_eq_true rfl) ⟨by decide, by decide⟩ ⟨by decide, by decide⟩ ?_
    exact ⟨hG, rfl, by rw [kLoad, if_neg c9]⟩
set_option maxRecDepth 100000 in
set_option maxHeartbeats 400000 in
theorem c_X8_height (D : DT) (X : XT) (s : SG)  (p0 : Int32)  : CX yX8_height cX8_height 2 (Option.some Jvm.ClassFile.FieldType.int) rm_X8_height D [.ref (X.1 0 0), .int p0] X s (fun v s' => v = some (.int (s.1 15 (nat p0))) ∧ s' = s ∧ kHt p0 = 0) (fun e => e = xIO ∧ kHt p0 = 1) := by
  intro G hG
  refine MX_of (by decide +kernel) (Nat.le_of_ble_eq_true rfl) (fun K sz hR hX => ?_)
  show V cX8_height _ 2 _ D K 0 [some (.ref (X.1 0 0)), some (.int p0)] [] G (0, 0)
  refine v_iload_n (pc := 0) dX8_height_0 rfl rfl ?_
  refine v_i2l (pc := 1) dX8_height_1 ?_
  refine v_lconst (pc := 2) (v := 0) dX8_height_2 (by decide) ?_
  refine v_ldcL (pc := 3) dX8_height_3 k_X8_185 ?_
  refine v_callS3 (pc := 6) (0, 0) dX8_height_6 cw_X8_62 sm_yX8_isOutside (c_X8_isOutside D _ _ _ _ ) (Nat.le_of_ble_eq_true rfl) ⟨Nat.le_of_ble_eq_true rfl, Nat.le_of_ble_eq_true rfl⟩ ⟨by decide, by decide⟩ rfl (fun v G1 hp => ?_)
  obtain ⟨hv1, hs1⟩ := hp
  subst hv1
  subst G1
  refine v_if_eq (pc := 9) (tgt := 22) dX8_height_9 (by decide) (fun c9 => ?_) (fun c9 => ?_)
  · rw [b2i_0] at c9
    have c9 := (out_n (a := 0) (b := 35) (by decide) (by decide)).mp c9
    obtain ⟨j, hj, rfl⟩ := (btw_lit (M := 35) (N := 35) rfl).mp c9
    refine v_aload_n (pc := 22) dX8_height_22 rfl rfl ?_
    refine vc_getR (pc := 23) (f := 6) hG dX8_height_23 fl_X8_30 rfl (hG.2.2.1 0 (by decide)) rfl (by decide) (rvL_0_6 _ _ _) (fun hL23 => ?_)
    refine vc_getR (pc := 26) (f := 0) hG dX8_height_26 fl_X8_193 rfl (hG.2.2.1 6 (by decide)) rfl (by decide) (rvL_6_0 _ _ _) (fun hL26 => ?_)
    refine v_iload_n (pc := 29) dX8_height_29 rfl rfl ?_
    refine vc_iald (pc := 30) (j := j) hG dX8_height_30 (hG.2.2.1 7 (by decide)) rfl rfl (by show _ < 36; omega) (ivL_7_a _ _) ?_
    refine v_iret (pc := 31) hR dX8_height_31 ⟨by decide, by decide⟩ ?_
    exact ⟨_, hG, by rw [nat_nI (by omega)], rfl, by rw [kHt, if_pos c9]⟩
  · rw [b2i_0, Decidable.not_not] at c9
    have c9 := (out_y (a := 0) (b := 35) (by decide) (by decide)).mp c9
    refine v_throw (pc := 12) hX tw_X8_89_187_93 dX8_height_12 dX8_height_15 dX8_height_16 dX8_height_18 dX8_height_21 (Nat.le_of_ble_eq_true rfl) ⟨by decide, by decide⟩ ⟨by decide, by decide⟩ ?_
    exact ⟨hG, rfl, by rw [kHt, if_neg c9]⟩
set_option maxRecDepth 100000 in
set_option maxHeartbeats 400000 in
theorem c_X8_pass (D : DT) (X : XT) (s : SG)  (p0 : Int32)  : CX yX8_pass cX8_pass 2 (Option.some Jvm.ClassFile.FieldType.int) rm_X8_pass D [.ref (X.1 0 0), .int p0] X s (fun v s' => v = some (.int (s.1 27 0 + p0)) ∧ s' = sI s 27 0 (s.1 27 0 + p0) ∧ kPass s p0 = 0) (fun e => (e = xIA ∧ kPass s p0 = 1) ∨ (e = xIS ∧ kPass s p0 = 2)) := by
  intro G hG
  refine MX_of (by decide +kernel) (Nat.le_of_ble_eq_true rfl) (fun K sz hR hX => ?_)
  show V cX8_pass _ 2 _ D K 0 [some (.ref (X.1 0 0)), some (.int p0)] [] G (0, 0)
  refine v_iload_n (pc := 0) dX8_pass_0 rfl rfl ?_
  refine v_i2l (pc := 1) dX8_pass_1 ?_
  refine v_lconst (pc := 2) (v := 1) dX8_pass_2 (by decide) ?_
  refine v_ldcL (pc := 3) dX8_pass_3 k_X8_284 ?_
  refine v_callS3 (pc := 6) (0, 0) dX8_pass_6 cw_X8_62 sm_yX8_isOutside (c_X8_isOutside D _ _ _ _ ) (Nat.le_of_ble_eq_true rfl) ⟨Nat.le_of_ble_eq_true rfl, Nat.le_of_ble_eq_true rfl⟩ ⟨by decide, by decide⟩ rfl (fun v G1 hp => ?_)
  obtain ⟨hv1, hs1⟩ := hp
  subst hv1
  subst G1
  refine v_if_eq (pc := 9) (tgt := 23) dX8_pass_9 (by decide) (fun c9 => ?_) (fun c9 => ?_)
  · rw [b2i_0] at c9
    have c9 := (out_n (a := 1) (b := 400) (by decide) (by decide)).mp c9
    refine v_aload_n (pc := 23) dX8_pass_23 rfl rfl ?_
    refine vc_getI (pc := 24) (f := 13) hG dX8_pass_24 fl_X8_288 (Or.inl rfl) (hG.2.2.1 0 (by decide)) rfl (by decide) (ivL_0_13 _ _) ?_
    refine v_iload_n (pc := 27) dX8_pass_27 rfl rfl ?_
    refine v_iadd (pc := 28) dX8_pass_28 ?_
    refine v_ldcw (pc := 29) dX8_pass_29 k_X8_291 ?_
    refine v_icmp_le (pc := 32) (tgt := 46) dX8_pass_32 (by decide) (fun c32 => ?_) (fun c32 => ?_)
    · refine v_aload_n (pc := 46) dX8_pass_46 rfl rfl ?_
      refine v_dup (pc := 47) dX8_pass_47 rfl ?_
      refine vc_getI (pc := 48) (f := 13) hG dX8_pass_48 fl_X8_288 (Or.inl rfl) (hG.2.2.1 0 (by decide)) rfl (by decide) (ivL_0_13 _ _) ?_
      refine v_iload_n (pc := 51) dX8_pass_51 rfl rfl ?_
      refine v_iadd (pc := 52) dX8_pass_52 ?_
      refine vc_putI (pc := 53) hG dX8_pass_53 fw_X8_288 rfl (Or.inl rfl) (hG.2.2.1 0 (by decide)) rfl rfl rfl (uI_0_13 _ _) (fun G hG => ?_)
      refine v_aload_n (pc := 56) dX8_pass_56 rfl rfl ?_
      refine vc_getI (pc := 57) (f := 13) hG dX8_pass_57 fl_X8_288 (Or.inl rfl) (hG.2.2.1 0 (by decide)) rfl (by decide) (ivL_0_13 _ _) ?_
      refine v_iret (pc := 60) hR dX8_pass_60 ⟨by decide, by decide⟩ ?_
      exact ⟨_, hG, by rw [sI_s], rfl, by rw [kPass, if_pos c9, if_pos c32]⟩
    · refine v_throwW (pc := 35) hX tw_X8_77_292_81 dX8_pass_35 dX8_pass_38 dX8_pass_39 dX8_pass_42 dX8_pass_45 (Nat.le_of_ble_eq_true rfl) ⟨by decide, by decide⟩ ⟨by decide, by decide⟩ ?_
      exact ⟨hG, Or.inr ⟨rfl, by rw [kPass, if_pos c9, if_neg c32]⟩⟩
  · rw [b2i_0, Decidable.not_not] at c9
    have c9 := (out_y (a := 1) (b := 400) (by decide) (by decide)).mp c9
    refine v_throwW (pc := 12) hX tw_X8_66_286_70 dX8_pass_12 dX8_pass_15 dX8_pass_16 dX8_pass_19 dX8_pass_22 (Nat.le_of_ble_eq_true rfl) ⟨by decide, by decide⟩ ⟨by decide, by decide⟩ ?_
    exact ⟨hG, Or.inl ⟨rfl, by rw [kPass, if_neg c9]⟩⟩
