set_option maxRecDepth 100000 in
set_option maxHeartbeats 400000 in
theorem c_X8_pulled (D : DT) (X : XT) (s : SG) (g : Nat) (p0 : Int32) (hg : s.1 19 0 = nI g) (hg8 : g ≤ 8) (hsl : ∀ f, f < 8 → X.2.2.1 4 f = decide (f < g)) : CX yX8_pulled cX8_pulled 3 (Option.some Jvm.ClassFile.FieldType.long) rm_X8_pulled D [.ref (X.1 0 0), .int p0] X s (fun v s' => v = some (.long (s.2 23 (nat p0))) ∧ s' = s ∧ kPul g p0 = 0) (fun e => e = xIO ∧ kPul g p0 = 1) := by
  intro G hG
  refine MX_of (by decide +kernel) (Nat.le_of_ble_eq_true rfl) (fun K sz hR hX => ?_)
  show V cX8_pulled _ 3 _ D K 0 [some (.ref (X.1 0 0)), some (.int p0), none] [] G (0, 0)
  refine v_iload_n (pc := 0) dX8_pulled_0 rfl rfl ?_
  refine v_i2l (pc := 1) dX8_pulled_1 ?_
  refine v_lconst (pc := 2) (v := 0) dX8_pulled_2 (by decide) ?_
  refine v_aload_n (pc := 3) dX8_pulled_3 rfl rfl ?_
  refine vc_getI (pc := 4) (f := 8) hG dX8_pulled_4 fl_X8_220 (Or.inl rfl) (hG.2.2.1 0 (by decide)) rfl (by decide) ((ivL_0_8 _ _).trans hg) ?_
  refine v_iconst (pc := 7) (v := 1) dX8_pulled_7 (by decide) ?_
  refine v_isub (pc := 8) dX8_pulled_8 ?_
  refine v_i2l (pc := 9) dX8_pulled_9 ?_
  refine v_callS3 (pc := 10) (0, 0) dX8_pulled_10 cw_X8_62 sm_yX8_isOutside (c_X8_isOutside D _ _ _ _ ) (Nat.le_of_ble_eq_true rfl) ⟨Nat.le_of_ble_eq_true rfl, Nat.le_of_ble_eq_true rfl⟩ ⟨by decide, by decide⟩ rfl (fun v G1 hp => ?_)
  obtain ⟨hv1, hs1⟩ := hp
  subst hv1
  subst G1
  refine v_if_eq (pc := 13) (tgt := 20) dX8_pulled_13 (by decide) (fun c13 => ?_) (fun c13 => ?_)
  · rw [b2i_0] at c13
    have c13 := (out_n (a := 0) (b := nI g - 1) (by decide) rfl).mp c13
    obtain ⟨j, hj, rfl⟩ := (btw_ix (a := g) (by omega)).mp c13
    refine v_aload_n (pc := 20) dX8_pulled_20 rfl rfl ?_
    refine vc_getR (pc := 21) (f := 7) hG dX8_pulled_21 fl_X8_36 rfl (hG.2.2.1 0 (by decide)) rfl (by decide) (rvL_0_7 _ _ _) (fun hL21 => ?_)
    refine v_iload_n (pc := 24) dX8_pulled_24 rfl rfl ?_
    refine vc_aald (pc := 25) (k := 8) (j := j) hG dX8_pulled_25 (hG.2.2.1 4 (by decide)) rfl (by decide) rfl rfl (by show _ < 8; omega) (c' := 16) (i' := j) (by show (if X.2.2.1 4 j then some (16, j) else none) = _; rw [hsl j (by omega), if_pos (decide_eq_true hj)]) (fun hL25 => ?_)
    refine v_astore_n (pc := 26) dX8_pulled_26 rfl rfl (by decide) ?_
    refine v_aload_n (pc := 27) dX8_pulled_27 rfl rfl ?_
    refine v_ifnonnull (pc := 28) (tgt := 41) dX8_pulled_28 (by decide) ?_
    refine v_aload_n (pc := 41) dX8_pulled_41 rfl rfl ?_
    refine vc_getJ (pc := 42) (f := 3) hG dX8_pulled_42 fl_X8_241 rfl (by assumption) rfl (by decide) (jvL_16_3 _ _) ?_
    refine v_lret (pc := 45) hR dX8_pulled_45 ⟨by decide, by decide⟩ ?_
    exact ⟨_, hG, by rw [nat_nI (by omega)], rfl, by rw [kPul, if_pos c13]⟩
  · rw [b2i_0, Decidable.not_not] at c13
    have c13 := (out_y (a := 0) (b := nI g - 1) (by decide) rfl).mp c13
    refine v_null (pc := 16) dX8_pulled_16 ?_
    refine v_goto (pc := 17) (tgt := 26) dX8_pulled_17 (by decide) ?_
    refine v_astore_nN (pc := 26) dX8_pulled_26 rfl rfl (by decide) ?_
    refine v_aload_nN (pc := 27) dX8_pulled_27 rfl rfl ?_
    refine v_ifnonnullN (pc := 28) dX8_pulled_28 ?_
    refine v_throw (pc := 31) hX tw_X8_89_239_93 dX8_pulled_31 dX8_pulled_34 dX8_pulled_35 dX8_pulled_37 dX8_pulled_40 (Nat.le_of_ble_eq_true rfl) ⟨by decide, by decide⟩ ⟨by decide, by decide⟩ ?_
    exact ⟨hG, rfl, by rw [kPul, if_neg c13]⟩
set_option maxRecDepth 100000 in
set_option maxHeartbeats 400000 in
theorem l_X8_pegs {D : DT} {K : KT} {X : XT} {s : SG} (g : Nat) (hg : s.1 19 0 = nI g) (hg8 : g ≤ 8) (hsl : ∀ f, f < 8 → X.2.2.1 4 f = decide (f < g)) (kk : ∀ (G : GT), LF X s G → V cX8_pegs yX8_pegs.cls 4 rm_X8_pegs D K 42 [some (.ref (X.1 0 0)), some (.int (setF s g)), some (.int (nI g)), none] [] G (0, 0)) : ∀ (d i : Nat)  (G : GT), i + d = g → LF X s G → V cX8_pegs yX8_pegs.cls 4 rm_X8_pegs D K 4 [some (.ref (X.1 0 0)), some (.int (setF s i)), some (.int (nI i)), none] [] G (0, 0) := by
  intro d
  induction d with
  | zero =>
    intro i  G he0 hG
    refine v_iload_n (pc := 4) dX8_pegs_4 rfl rfl ?_
    refine v_aload_n (pc := 5) dX8_pegs_5 rfl rfl ?_
    refine vc_getI (pc := 6) (f := 8) hG dX8_pegs_6 fl_X8_220 (Or.inl rfl) (hG.2.2.1 0 (by decide)) rfl (by decide) ((ivL_0_8 _ _).trans hg) ?_
    refine v_icmp_ge (pc := 9) (tgt := 42) dX8_pegs_9 (by decide) (fun c9 => ?_) (fun c9 => absurd c9 (not_not_intro (by rw [show i = g by omega]; exact Int32.le_refl _)))
    have e : i = g := by omega
    subst e
    exact kk G hG
  | succ d ih =>
    intro i  G he0 hG
    refine v_iload_n (pc := 4) dX8_pegs_4 rfl rfl ?_
    refine v_aload_n (pc := 5) dX8_pegs_5 rfl rfl ?_
    refine vc_getI (pc := 6) (f := 8) hG dX8_pegs_6 fl_X8_220 (Or.inl rfl) (hG.2.2.1 0 (by decide)) rfl (by decide) ((ivL_0_8 _ _).trans hg) ?_
    refine v_icmp_ge (pc := 9) (tgt := 42) dX8_pegs_9 (by decide) (fun c9 => absurd c9 (nI_ge (by omega) (by omega))) (fun c9 => ?_)
    refine v_aload_n (pc := 12) dX8_pegs_12 rfl rfl ?_
    refine vc_getR (pc := 13) (f := 7) hG dX8_pegs_13 fl_X8_36 rfl (hG.2.2.1 0 (by decide)) rfl (by decide) (rvL_0_7 _ _ _) (fun hL13 => ?_)
    refine v_iload_n (pc := 16) dX8_pegs_16 rfl rfl ?_
    refine vc_aald (pc := 17) (k := 8) (j := i) hG dX8_pegs_17 (hG.2.2.1 4 (by decide)) rfl (by decide) rfl rfl (by show _ < 8; omega) (c' := 16) (i' := i) (by show (if X.2.2.1 4 i then some (16, i) else none) = _; rw [hsl i (by omega), if_pos (decide_eq_true (by omega))]) (fun hL17 => ?_)
    refine v_astore_n (pc := 18) dX8_pegs_18 rfl rfl (by decide) ?_
    refine v_aload_n (pc := 19) dX8_pegs_19 rfl rfl ?_
    refine v_ifnull (pc := 20) dX8_pegs_20 ?_
    refine v_aload_n (pc := 23) dX8_pegs_23 rfl rfl ?_
    refine vc_getI (pc := 24) (f := 2) hG dX8_pegs_24 fl_X8_244 (Or.inr rfl) (by assumption) rfl (by decide) (ivL_16_2 _ _) ?_
    refine v_if_eq (pc := 27) (tgt := 36) dX8_pegs_27 (by decide) (fun c27 => ?_) (fun c27 => ?_)
    · have e9 : setF s (i + 1) = setF s i := by rw [setF, if_pos c27, Int32.add_zero]
      refine v_iinc (pc := 36) dX8_pegs_36 rfl (nI_1 i) rfl (by decide) ?_
      refine v_goto (pc := 39) (tgt := 4) dX8_pegs_39 (by decide) ?_
      refine v_forget 3 ?_
      have e8 := ih (i + 1) G (by omega) hG
      rw [e9] at e8
      exact e8
    · have e9 : setF s (i + 1) = setF s i + (1 : Int32) <<< (nI i &&& 31) := by rw [setF, if_neg c27]
      refine v_iload_n (pc := 30) dX8_pegs_30 rfl rfl ?_
      refine v_iconst (pc := 31) (v := 1) dX8_pegs_31 (by decide) ?_
      refine v_iload_n (pc := 32) dX8_pegs_32 rfl rfl ?_
      refine v_ishl (pc := 33) dX8_pegs_33 ?_
      refine v_iadd (pc := 34) dX8_pegs_34 ?_
      refine v_istore_n (pc := 35) dX8_pegs_35 rfl rfl (by decide) ?_
      refine v_iinc (pc := 36) dX8_pegs_36 rfl (nI_1 i) rfl (by decide) ?_
      refine v_goto (pc := 39) (tgt := 4) dX8_pegs_39 (by decide) ?_
      refine v_forget 3 ?_
      have e8 := ih (i + 1) G (by omega) hG
      rw [e9] at e8
      exact e8
set_option maxRecDepth 100000 in
set_option maxHeartbeats 400000 in
theorem c_X8_pegs (D : DT) (X : XT) (s : SG) (g : Nat)  (hg : s.1 19 0 = nI g) (hg8 : g ≤ 8) (hsl : ∀ f, f < 8 → X.2.2.1 4 f = decide (f < g)) : CC yX8_pegs cX8_pegs 4 (Option.some Jvm.ClassFile.FieldType.int) rm_X8_pegs D [.ref (X.1 0 0)] X s (fun v s' => v = some (.int (setF s g)) ∧ s' = s) := by
  intro G hG
  refine MC_of (by decide +kernel) (Nat.le_of_ble_eq_true rfl) (fun K sz hR => ?_)
  show V cX8_pegs _ 4 _ D K 0 [some (.ref (X.1 0 0)), none, none, none] [] G (0, 0)
  refine v_iconst (pc := 0) (v := 0) dX8_pegs_0 (by decide) ?_
  refine v_istore_n (pc := 1) dX8_pegs_1 rfl rfl (by decide) ?_
  refine v_iconst (pc := 2) (v := 0) dX8_pegs_2 (by decide) ?_
  refine v_istore_n (pc := 3) dX8_pegs_3 rfl rfl (by decide) ?_
  refine l_X8_pegs (s := s) g hg hg8 hsl (fun G hG => ?_) g 0 G (by omega) hG
  refine v_iload_n (pc := 42) dX8_pegs_42 rfl rfl ?_
  refine v_iret (pc := 43) hR dX8_pegs_43 ⟨by decide, by decide⟩ ?_
  exact ⟨_, hG, rfl, rfl⟩
