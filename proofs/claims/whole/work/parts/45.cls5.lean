set_option maxRecDepth 100000 in
set_option maxHeartbeats 400000 in
theorem c_X8_pulled (D : DT) (X : XT) (s : SG) (g : Nat) (p0 : Int32) (hg : s.1 19 0 = nI g) (hg8 : g ≤ 8) (hsl : ∀ f, f < 8 → X.2.2.1 4 f = decide (f < g)) : CX yX8_pulled cX8_pulled 3 (Option.some Jvm.ClassFile.FieldType.long) rm_X8_pulled D [.ref (X.1 0 0), .int p0] X s (fun v s' => v = some (.long (s.2 23 (nat p0))) ∧ s' = s ∧ kPul g p0 = 0) (fun e => e = xIO ∧ kPul g p0 = 1) := by
  intro G hG
  refine MX_of (by decide +kernel) (Nat.le_of_ble_eq_true rfl) (fun K sz hR hX => ?_)
  show V cX8_pulled _ 3 _ D K 0 [some (.ref (X.1 0 0)), some (.int p0), none] [] G (0, 0)
  refine v_iload_n (pc := 0) dX8_pulled_0 rfl rfl ?_
  refine v_i2l (pc := 1) dX8_pulled_1 ?_
  refine v_lconst (pc := 2) (v := 0) dX8_pulled_2 (by decide) ?_
  refine v_aload_n (pc := 3) dX8_pulled_3 rfl rfl ?_
  refine vc_getI (pc := 4) (f := 8) hG dX8_pulled_4 fl_X8_220 (Or.inl rfl) (hG.2.2.1 0 (by decide)) rfl (by decide) ((ivL_0_8 _ _).trans hg) ?_
  refine v_iconst (pc := 7) (v := 1) dX8_pulled_7 (by decide) ?_
  refine v_isub (pc := 8) dX8_pulled_8 ?_
  refine v_i2l (pc := 9) dX8_pulled_9 ?_
  refine v_callS3 (pc := 10) (0, 0) dX8_pulled_10 cw_X8_62 sm_yX8_isOutside (c_X8_isOutside D _ _ _ _ ) (Nat.le_of_ble_eq_true rfl) ⟨Nat.le_of_ble_eq_true rfl, Nat.le_of_ble_eq_true rfl⟩ ⟨by decide, by decide⟩ rfl (fun v G1 hp => ?_)
  obtain ⟨hv1, hs1⟩ := hp
  subst hv1
  subst G1
  refine v_if_eq (pc := 13) (tgt := 20) dX8_pulled_13 (by decide) (fun c13 => ?_) (fun c13 => ?_)
  · rw [b2i_0] at c13
    have c13 := (out_n (a := 0) (b := nI g - 1) (by decide) rfl).mp c13
    obtain ⟨j, hj, rfl⟩ := (btw_ix (a := g) (by omega)).mp c13
    refine v_aload_n (pc := 20) dX8_pulled_20 rfl rfl ?_
    refine vc_getR (pc := 21) (f := 7) hG dX8_pulled_21 fl_X8_36 rfl (hG.2.2.1 0 (by decide)) rfl (by decide) (rvL_0_7 _ _ _) (fun hL21 => ?_)
    refine v_iload_n (pc := 24) dX8_pulled_24 rfl rfl ?_
    refine vc_aald (pc := 25) (k := 8) (j := j) hG dX8_pulled_25 (hG.2.2.1 4 (by decide)) rfl (by decide) rfl rfl (by show _ < 8; omega) (c' := 16) (i' := j) (by show (if X.2.2.1 4 j then some (16, j) else none) = _; rw [hsl j (by omega), if_pos (decide_eq_true hj)]) (fun hL25 => ?_)
    refine v_astore_n (pc := 26) dX8_pulled_26 rfl rfl (by decide) ?_
    refine v_aload_n (pc := 27) dX8_pulled_27 rfl rfl ?_
    refine v_ifnonnull (pc := 28) (tgt := 41) dX8_pulled_28 (by decide) ?_
    refine v_aload_n (pc := 41) dX8_pulled_41 rfl rfl ?_
    refine vc_getJ (pc := 42) (f := 3) hG dX8_pulled_42 fl_X8_241 rfl (by assumption) rfl (by decide) (jvL_16_3 _ _) ?_
    refine v_lret (pc := 45) hR dX8_pulled_45 ⟨by decide, by decide⟩ ?_
    exact ⟨_, hG, by rw [nat_nI (by omega)], rfl, by rw [kPul, if_pos c13]⟩
  · rw [b2i_0, Decidable.not_not] at c13
    have c13 := (out_y (a := 0) (b := nI g - 1) (by decide) rfl).mp c13
    refine v_null (pc := 16) dX8_pulled_16 ?_
    refine v_goto (pc := 17) (tgt := 26) dX8_pulled_17 (by decide) ?_
    refine v_astore_nN (pc := 26) dX8_pulled_26 rfl rfl (by decide) ?_
    refine v_aload_nN (pc := 27) dX8_pulled_27 rfl rfl ?_
    refine v_ifnonnullN (pc := 28) dX8_pulled_28 ?_
    refine v_throw (pc := 31) hX tw_X8_89_239_93 dX8_pulled_31 dX8_pulled_34 dX8_pulled_35 dX8_pulled_37 dX8_pulled_40 (Nat.le_of_ble_eq_true rfl) ⟨by decide, by decide⟩ ⟨by decide, by decide⟩ ?_
    exact ⟨hG, rfl, by rw [kPul, if_neg c13]⟩
