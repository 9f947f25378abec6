set_option maxRecDepth 100000 in
set_option maxHeartbeats 400000 in
theorem c_X0_isSealed (D : DT) (X : XT) (s : SG) (j : Nat)  (hL0 : X.2.1 17 j = true)  : CC yX0_isSealed cX0_isSealed 1 (Option.some Jvm.ClassFile.FieldType.boolean) rm_X0_isSealed D [.ref (X.1 17 j)] X s (fun v s' => v = some (.int (b2i (¬ s.1 33 j = -1))) ∧ s' = s) := by
  intro G hG
  refine MC_of (by decide +kernel) (Nat.le_of_ble_eq_true rfl) (fun K sz hR => ?_)
  show V cX0_isSealed _ 1 _ D K 0 [some (.ref (X.1 17 j))] [] G (0, 0)
  refine v_aload_n (pc := 0) dX0_isSealed_0 rfl rfl ?_
  refine vc_getI (pc := 1) (f := 5) hG dX0_isSealed_1 fl_X0_19 (Or.inl rfl) (by assumption) rfl (by decide) (ivL_17_5 _ _) ?_
  refine v_iconst (pc := 4) (v := (-1)) dX0_isSealed_4 (by decide) ?_
  refine v_icmp_eq (pc := 5) (tgt := 12) dX0_isSealed_5 (by decide) (fun c5 => ?_) (fun c5 => ?_)
  · refine v_iconst (pc := 12) (v := 0) dX0_isSealed_12 (by decide) ?_
    refine v_zret (pc := 13) hR dX0_isSealed_13 (by first | rfl | exact b2i_nar) ⟨by decide, by decide⟩ ?_
    exact ⟨_, hG, by simp [b2i, *], rfl⟩
  · refine v_iconst (pc := 8) (v := 1) dX0_isSealed_8 (by decide) ?_
    refine v_goto (pc := 9) (tgt := 13) dX0_isSealed_9 (by decide) ?_
    refine v_zret (pc := 13) hR dX0_isSealed_13 (by first | rfl | exact b2i_nar) ⟨by decide, by decide⟩ ?_
    exact ⟨_, hG, by simp [b2i, *], rfl⟩
set_option maxRecDepth 100000 in
set_option maxHeartbeats 400000 in
theorem c_X0_loseSeal (D : DT) (X : XT) (s : SG) (j : Nat)  (hL0 : X.2.1 17 j = true)  : CC yX0_loseSeal cX0_loseSeal 1 (Option.none : Option Jvm.ClassFile.FieldType) rm_X0_loseSeal D [.ref (X.1 17 j)] X s (fun v s' => v = none ∧ s' = sI (sI s 32 j (-1)) 33 j (-1)) := by
  intro G hG
  refine MC_of (by decide +kernel) (Nat.le_of_ble_eq_true rfl) (fun K sz hR => ?_)
  show V cX0_loseSeal _ 1 _ D K 0 [some (.ref (X.1 17 j))] [] G (0, 0)
  refine v_aload_n (pc := 0) dX0_loseSeal_0 rfl rfl ?_
  refine v_iconst (pc := 1) (v := (-1)) dX0_loseSeal_1 (by decide) ?_
  refine vc_putI (pc := 2) hG dX0_loseSeal_2 fw_X0_15 rfl (Or.inl rfl) (by assumption) rfl rfl rfl (uI_17_4 _ _ _) (fun G hG => ?_)
  refine v_aload_n (pc := 5) dX0_loseSeal_5 rfl rfl ?_
  refine v_iconst (pc := 6) (v := (-1)) dX0_loseSeal_6 (by decide) ?_
  refine vc_putI (pc := 7) hG dX0_loseSeal_7 fw_X0_19 rfl (Or.inl rfl) (by assumption) rfl rfl rfl (uI_17_5 _ _ _) (fun G hG => ?_)
  refine v_vret (pc := 10) hR dX0_loseSeal_10 ⟨by decide, by decide⟩ ?_
  exact ⟨_, hG, rfl, rfl⟩
set_option maxRecDepth 100000 in
set_option maxHeartbeats 400000 in
theorem l_X8_halyard {D : DT} {K : KT} {X : XT} {s : SG} (k t r : Nat) (p z : Int32) (hk : k < 101) (ht : t < 101) (hr : r < 4) (e2 : s.1 25 0 = nI t) (e3 : s.1 26 0 = nI r) (kk2 : ∀ (i : Nat) (G : GT), z = nI i → LF X s G → V cX8_halyard yX8_halyard.cls 4 rm_X8_halyard D K 58 [some (.ref (X.1 0 0)), some (.int (nI k)), some (.int p), some (.int (nI i))] [] G (0, 0)) (kk : ∀ (G : GT), z = -1 → LF X s G → V cX8_halyard yX8_halyard.cls 4 rm_X8_halyard D K 66 [some (.ref (X.1 0 0)), some (.int (nI k)), some (.int p), some (.int (nI 101))] [] G (0, 0)) : ∀ (d i : Nat)  (G : GT), i + d = 101 → halF t r k p d i = z → LF X s G → V cX8_halyard yX8_halyard.cls 4 rm_X8_halyard D K 37 [some (.ref (X.1 0 0)), some (.int (nI k)), some (.int p), some (.int (nI i))] [] G (0, 0) := by
  intro d
  induction d with
  | zero =>
    intro i  G he0 he1 hG
    refine v_iload_n (pc := 37) dX8_halyard_37 rfl rfl ?_
    refine v_bipush (pc := 38) (v := 100) dX8_halyard_38 (by decide) ?_
    refine v_icmp_gt (pc := 40) (tgt := 66) dX8_halyard_40 (by decide) (fun c40 => ?_) (fun c40 => absurd c40 (not_not_intro (by rw [show i = 101 by omega]; decide)))
    have e : i = 101 := by omega
    subst e
    exact kk G he1.symm hG
  | succ d ih =>
    intro i  G he0 he1 hG
    refine v_iload_n (pc := 37) dX8_halyard_37 rfl rfl ?_
    refine v_bipush (pc := 38) (v := 100) dX8_halyard_38 (by decide) ?_
    refine v_icmp_gt (pc := 40) (tgt := 66) dX8_halyard_40 (by decide) (fun c40 => absurd c40 (n100 i (by omega))) (fun c40 => ?_)
    refine v_aload_n (pc := 43) dX8_halyard_43 rfl rfl ?_
    refine vc_getR (pc := 44) (f := 9) hG dX8_halyard_44 fl_X8_43 rfl (hG.2.2.1 0 (by decide)) rfl (by decide) (rvL_0_9 _ _ _) (fun hL44 => ?_)
    refine v_iload_n (pc := 47) dX8_halyard_47 rfl rfl ?_
    refine v_iload_n (pc := 48) dX8_halyard_48 rfl rfl ?_
    refine vc_callV2 (pc := 49) (0, 0) hG dX8_halyard_49 cw_X8_276 im_yX6_powerWith se_yX6_powerWith (c_X6_powerWith D X _ i k t r (by omega) hk ht hr e2 e3) (hG.2.2.1 10 (by decide)) rfl rfl (Nat.le_of_ble_eq_true rfl) ⟨Nat.le_of_ble_eq_true rfl, Nat.le_of_ble_eq_true rfl⟩ ⟨by decide, by decide⟩ rfl (fun v s1 G hp hG => ?_)
    obtain ⟨hv1, hs1⟩ := hp
    subst hv1
    subst s1
    refine v_iload_n (pc := 52) dX8_halyard_52 rfl rfl ?_
    refine v_i2f (pc := 53) dX8_halyard_53 ?_
    refine v_fcmp (pc := 54) dX8_halyard_54 ?_
    refine v_if_gt (pc := 55) (tgt := 60) dX8_halyard_55 (by decide) (fun c55 => ?_) (fun c55 => ?_)
    · refine v_iinc (pc := 60) dX8_halyard_60 rfl (nI_1 i) rfl (by decide) ?_
      refine v_goto (pc := 63) (tgt := 37) dX8_halyard_63 (by decide) ?_
      exact ih (i + 1) G (by omega) (by rw [← he1, halF, if_pos c55]) hG
    · exact kk2 i G (by rw [← he1, halF, if_neg c55]) hG
set_option maxRecDepth 100000 in
set_option maxHeartbeats 400000 in
theorem c_X8_halyard (D : DT) (X : XT) (s : SG) (t r : Nat) (p0 : Int32) (p1 : Int32) (e2 : s.1 25 0 = nI t) (e3 : s.1 26 0 = nI r) (ht : t < 101) (hr : r < 4) : CX yX8_halyard cX8_halyard 4 (Option.some Jvm.ClassFile.FieldType.int) rm_X8_halyard D [.ref (X.1 0 0), .int p0, .int p1] X s (fun v s' => v = some (.int (halF t r (nat p0) p1 101 0)) ∧ s' = s ∧ kHal p0 p1 = 0) (fun e => e = xIA ∧ kHal p0 p1 = 1) := by
  intro G hG
  refine MX_of (by decide +kernel) (Nat.le_of_ble_eq_true rfl) (fun K sz hR hX => ?_)
  show V cX8_halyard _ 4 _ D K 0 [some (.ref (X.1 0 0)), some (.int p0), some (.int p1), none] [] G (0, 0)
  refine v_iload_n (pc := 0) dX8_halyard_0 rfl rfl ?_
  refine v_i2l (pc := 1) dX8_halyard_1 ?_
  refine v_lconst (pc := 2) (v := 0) dX8_halyard_2 (by decide) ?_
  refine v_ldcL (pc := 3) dX8_halyard_3 k_X8_201 ?_
  refine v_callS3 (pc := 6) (0, 0) dX8_halyard_6 cw_X8_62 sm_yX8_isOutside (c_X8_isOutside D _ _ _ _ ) (Nat.le_of_ble_eq_true rfl) ⟨Nat.le_of_ble_eq_true rfl, Nat.le_of_ble_eq_true rfl⟩ ⟨by decide, by decide⟩ rfl (fun v G1 hp => ?_)
  obtain ⟨hv1, hs1⟩ := hp
  subst hv1
  subst G1
  refine v_if_ne (pc := 9) (tgt := 24) dX8_halyard_9 (by decide) (fun c9 => ?_) (fun c9 => ?_)
  · rw [b2i_0, Decidable.not_not] at c9
    have c9 := (out_y (a := 0) (b := 100) (by decide) (by decide)).mp c9
    refine v_throwW (pc := 24) hX tw_X8_66_282_70 dX8_halyard_24 dX8_halyard_27 dX8_halyard_28 dX8_halyard_31 dX8_halyard_34 (Nat.le_of_ble_eq_true rfl) ⟨by decide, by decide⟩ ⟨by decide, by decide⟩ ?_
    exact ⟨hG, rfl, by rw [kHal, if_neg (by first | exact fun z => c9 z.1 | exact fun z => c21 z.2)]⟩
  · rw [b2i_0] at c9
    have c9 := (out_n (a := 0) (b := 100) (by decide) (by decide)).mp c9
    refine v_iload_n (pc := 12) dX8_halyard_12 rfl rfl ?_
    refine v_i2l (pc := 13) dX8_halyard_13 ?_
    refine v_lconst (pc := 14) (v := 0) dX8_halyard_14 (by decide) ?_
    refine v_ldcL (pc := 15) dX8_halyard_15 k_X8_280 ?_
    refine v_callS3 (pc := 18) (0, 0) dX8_halyard_18 cw_X8_62 sm_yX8_isOutside (c_X8_isOutside D _ _ _ _ ) (Nat.le_of_ble_eq_true rfl) ⟨Nat.le_of_ble_eq_true rfl, Nat.le_of_ble_eq_true rfl⟩ ⟨by decide, by decide⟩ rfl (fun v G1 hp => ?_)
    obtain ⟨hv1, hs1⟩ := hp
    subst hv1
    subst G1
    refine v_if_eq (pc := 21) (tgt := 35) dX8_halyard_21 (by decide) (fun c21 => ?_) (fun c21 => ?_)
    · rw [b2i_0] at c21
      have c21 := (out_n (a := 0) (b := 100000) (by decide) (by decide)).mp c21
      obtain ⟨k, hk1, rfl⟩ := (btw_lit (M := 100) (N := 100) rfl).mp c9
      have en : nat (nI k) = k := nat_nI (by omega)
      refine v_iconst (pc := 35) (v := 0) dX8_halyard_35 (by decide) ?_
      refine v_istore_n (pc := 36) dX8_halyard_36 rfl rfl (by decide) ?_
      refine l_X8_halyard (s := s) k t r p1 _ (by omega) ht hr e2 e3 (fun i G hz hG => ?_) (fun G hz hG => ?_) 101 0 G (by omega) rfl hG
      · refine v_iload_n (pc := 58) dX8_halyard_58 rfl rfl ?_
        refine v_iret (pc := 59) hR dX8_halyard_59 ⟨by decide, by decide⟩ ?_
        exact ⟨_, hG, by rw [en, hz], rfl, by rw [kHal, if_pos ⟨c9, c21⟩]⟩
      · refine v_iconst (pc := 66) (v := (-1)) dX8_halyard_66 (by decide) ?_
        refine v_iret (pc := 67) hR dX8_halyard_67 ⟨by decide, by decide⟩ ?_
        exact ⟨_, hG, by rw [en, hz], rfl, by rw [kHal, if_pos ⟨c9, c21⟩]⟩
    · rw [b2i_0, Decidable.not_not] at c21
      have c21 := (out_y (a := 0) (b := 100000) (by decide) (by decide)).mp c21
      refine v_throwW (pc := 24) hX tw_X8_66_282_70 dX8_halyard_24 dX8_halyard_27 dX8_halyard_28 dX8_halyard_31 dX8_halyard_34 (Nat.le_of_ble_eq_true rfl) ⟨by decide, by decide⟩ ⟨by decide, by decide⟩ ?_
      exact ⟨hG, rfl, by rw [kHal, if_neg (by first | exact fun z => c9 z.1 | exact fun z => c21 z.2)]⟩
