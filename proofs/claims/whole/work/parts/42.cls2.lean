set_option maxRecDepth 100000 in
set_option maxHeartbeats 400000 in
theorem c_X8_strength (D : DT) (X : XT) (s : SG) (b : Nat) (p0 : Int32) (h : PV s b) (hb : s.1 4 0 = nI b) (hb2 : b ≤ 12) (hsl : ∀ f, f < 12 → X.2.2.1 2 f = decide (f < b)) : CX yX8_strength cX8_strength 3 (Option.some Jvm.ClassFile.FieldType.long) rm_X8_strength D [.ref (X.1 0 0), .int p0] X s (fun v s' => v = some (.long (strS s (nat p0))) ∧ s' = s ∧ kPl b p0 = 0) (fun e => e = xIO ∧ kPl b p0 = 1) := by
  intro G hG
  refine MX_of (by decide +kernel) (Nat.le_of_ble_eq_true rfl) (fun K sz hR hX => ?_)
  show V cX8_strength _ 3 _ D K 0 [some (.ref (X.1 0 0)), some (.int p0), none] [] G (0, 0)
  refine v_aload_n (pc := 0) dX8_strength_0 rfl rfl ?_
  refine v_iload_n (pc := 1) dX8_strength_1 rfl rfl ?_
  refine vc_callV1 (pc := 2) (0, 0) hG dX8_strength_2 cw_X8_125 im_yX8_panelAt se_yX8_panelAt (c_X8_panelAt D X _ b _ hb hb2 hsl) (hG.2.2.1 0 (by decide)) rfl rfl (Nat.le_of_ble_eq_true rfl) ⟨Nat.le_of_ble_eq_true rfl, Nat.le_of_ble_eq_true rfl⟩ ⟨by decide, by decide⟩ rfl (fun v s1 G hp hG => ?_)
  obtain ⟨hs1, hp⟩ := hp
  subst s1
  rcases hp with ⟨c2, hv1⟩ | ⟨j, hj, hj1, hL2, hv1⟩
  · subst hv1
    refine v_astore_nN (pc := 5) dX8_strength_5 rfl rfl (by decide) ?_
    refine v_aload_nN (pc := 6) dX8_strength_6 rfl rfl ?_
    refine v_ifnonnullN (pc := 7) dX8_strength_7 ?_
    refine v_throw (pc := 10) hX tw_X8_89_129_93 dX8_strength_10 dX8_strength_13 dX8_strength_14 dX8_strength_16 dX8_strength_19 (Nat.le_of_ble_eq_true rfl) ⟨by decide, by decide⟩ ⟨by decide, by decide⟩ ?_
    exact ⟨hG, rfl, by rw [kPl, if_neg c2]⟩
  · subst hj1
    subst hv1
    refine v_astore_n (pc := 5) dX8_strength_5 rfl rfl (by decide) ?_
    refine v_aload_n (pc := 6) dX8_strength_6 rfl rfl ?_
    refine v_ifnonnull (pc := 7) (tgt := 20) dX8_strength_7 (by decide) ?_
    refine v_aload_n (pc := 20) dX8_strength_20 rfl rfl ?_
    refine vc_callV0 (pc := 21) (0, 0) hG dX8_strength_21 cw_X8_131 im_yX4_strengthNow se_yX4_strengthNow (c_X4_strengthNow D X _ j b (by assumption) h hj hb2) (by assumption) rfl rfl (Nat.le_of_ble_eq_true rfl) ⟨Nat.le_of_ble_eq_true rfl, Nat.le_of_ble_eq_true rfl⟩ ⟨by decide, by decide⟩ rfl (fun v s1 G hp hG => ?_)
    obtain ⟨hv1, hs1⟩ := hp
    subst hv1
    subst s1
    refine v_lret (pc := 24) hR dX8_strength_24 ⟨by decide, by decide⟩ ?_
    exact ⟨_, hG, by rw [nat_nI (by omega)], rfl, by rw [kPl, if_pos ((btw_ix (a := b) (by omega)).mpr ⟨j, hj, rfl⟩)]⟩
set_option maxRecDepth 100000 in
set_option maxHeartbeats 400000 in
theorem c_X8_roll (D : DT) (X : XT) (s : SG) (a : Nat) (p0 : Int32) (hn : s.1 0 0 = nI a) (ha : a ≤ 6) (hsl : ∀ f, f < 6 → X.2.2.1 1 f = decide (f < a)) : CX yX8_roll cX8_roll 3 (Option.some Jvm.ClassFile.FieldType.int) rm_X8_roll D [.ref (X.1 0 0), .int p0] X s (fun v s' => v = some (.int (s.1 39 (nat p0) + s.1 41 (nat p0))) ∧ s' = s ∧ kRoll a p0 = 0) (fun e => e = xIO ∧ kRoll a p0 = 1) := by
  intro G hG
  refine MX_of (by decide +kernel) (Nat.le_of_ble_eq_true rfl) (fun K sz hR hX => ?_)
  show V cX8_roll _ 3 _ D K 0 [some (.ref (X.1 0 0)), some (.int p0), none] [] G (0, 0)
  refine v_aload_n (pc := 0) dX8_roll_0 rfl rfl ?_
  refine v_iload_n (pc := 1) dX8_roll_1 rfl rfl ?_
  refine vc_callV1 (pc := 2) (0, 0) hG dX8_roll_2 cw_X8_85 im_yX8_lotAt se_yX8_lotAt (c_X8_lotAt D X _ a _ hn ha hsl) (hG.2.2.1 0 (by decide)) rfl rfl (Nat.le_of_ble_eq_true rfl) ⟨Nat.le_of_ble_eq_true rfl, Nat.le_of_ble_eq_true rfl⟩ ⟨by decide, by decide⟩ rfl (fun v s1 G hp hG => ?_)
  obtain ⟨hs1, hp⟩ := hp
  subst s1
  rcases hp with ⟨c2, hv1⟩ | ⟨j, hj, hj1, hL2, hv1⟩
  · subst hv1
    refine v_astore_nN (pc := 5) dX8_roll_5 rfl rfl (by decide) ?_
    refine v_aload_nN (pc := 6) dX8_roll_6 rfl rfl ?_
    refine v_ifnonnullN (pc := 7) dX8_roll_7 ?_
    refine v_throw (pc := 10) hX tw_X8_89_91_93 dX8_roll_10 dX8_roll_13 dX8_roll_14 dX8_roll_16 dX8_roll_19 (Nat.le_of_ble_eq_true rfl) ⟨by decide, by decide⟩ ⟨by decide, by decide⟩ ?_
    exact ⟨hG, rfl, by rw [kRoll, if_neg c2]⟩
  · subst hj1
    subst hv1
    refine v_astore_n (pc := 5) dX8_roll_5 rfl rfl (by decide) ?_
    refine v_aload_n (pc := 6) dX8_roll_6 rfl rfl ?_
    refine v_ifnonnull (pc := 7) (tgt := 20) dX8_roll_7 (by decide) ?_
    refine v_aload_n (pc := 20) dX8_roll_20 rfl rfl ?_
    refine vc_callV0 (pc := 21) (0, 0) hG dX8_roll_21 cw_X8_135 im_yX2_rolledLength se_yX2_rolledLength (c_X2_rolledLength D X _ j (by assumption)) (by assumption) rfl rfl (Nat.le_of_ble_eq_true rfl) ⟨Nat.le_of_ble_eq_true rfl, Nat.le_of_ble_eq_true rfl⟩ ⟨by decide, by decide⟩ rfl (fun v s1 G hp hG => ?_)
    obtain ⟨hv1, hs1⟩ := hp
    subst hv1
    subst s1
    refine v_iret (pc := 24) hR dX8_roll_24 ⟨by decide, by decide⟩ ?_
    exact ⟨_, hG, by rw [nat_nI (by omega)], rfl, by rw [kRoll, if_pos ((btw_ix (a := a) (by omega)).mpr ⟨j, hj, rfl⟩)]⟩
