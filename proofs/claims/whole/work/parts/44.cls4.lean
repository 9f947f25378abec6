set_option maxRecDepth 100000 in
set_option maxHeartbeats 400000 in
theorem c_X0_isSealed (D : DT) (X : XT) (s : SG) (j : Nat)  (hL0 : X.2.1 17 j = true)  : CC yX0_isSealed cX0_isSealed 1 (Option.some Jvm.ClassFile.FieldType.boolean) rm_X0_isSealed D [.ref (X.1 17 j)] X s (fun v s' => v = some (.int (b2i (¬ s.1 33 j = -1))) ∧ s' = s) := by
  intro G hG
  refine MC_of (by decide +kernel) (Nat.le_of_ble_eq_true rfl) (fun K sz hR => ?_)
  show V cX0_isSealed _ 1 _ D K 0 [some (.ref (X.1 17 j))] [] G (0, 0)
  refine v_aload_n (pc := 0) dX0_isSealed_0 rfl rfl ?_
  refine vc_getI (pc := 1) (f := 5) hG dX0_isSealed_1 fl_X0_19 (Or.inl rfl) (by assumption) rfl (by decide) (ivL_17_5 _ _) ?_
  refine v_iconst (pc := 4) (v := (-1)) dX0_isSealed_4 (by decide) ?_
  refine v_icmp_eq (pc := 5) (tgt := 12) dX0_isSealed_5 (by decide) (fun c5 => ?_) (fun c5 => ?_)
  · refine v_iconst (pc := 12) (v := 0) dX0_isSealed_12 (by decide) ?_
    refine v_zret (pc := 13) hR dX0_isSealed_13 (by first | rfl | exact b2i_nar) ⟨by decide, by decide⟩ ?_
    exact ⟨_, hG, by simp [b2i, *], rfl⟩
  · refine v_iconst (pc := 8) (v := 1) dX0_isSealed_8 (by decide) ?_
    refine v_goto (pc := 9) (tgt := 13) dX0_isSealed_9 (by decide) ?_
    refine v_zret (pc := 13) hR dX0_isSealed_13 (by first | rfl | exact b2i_nar) ⟨by decide, by decide⟩ ?_
    exact ⟨_, hG, by simp [b2i, *], rfl⟩
set_option maxRecDepth 100000 in
set_option maxHeartbeats 400000 in
theorem c_X0_loseSeal (D : DT) (X : XT) (s : SG) (j : Nat)  (hL0 : X.2.1 17 j = true)  : CC yX0_loseSeal cX0_loseSeal 1 (Option.none : Option Jvm.ClassFile.FieldType) rm_X0_loseSeal D [.ref (X.1 17 j)] X s (fun v s' => v = none ∧ s' = sI (sI s 32 j (-1)) 33 j (-1)) := by
  intro G hG
  refine MC_of (by decide +kernel) (Nat.le_of_ble_eq_true rfl) (fun K sz hR => ?_)
  show V cX0_loseSeal _ 1 _ D K 0 [some (.ref (X.1 17 j))] [] G (0, 0)
  refine v_aload_n (pc := 0) dX0_loseSeal_0 rfl rfl ?_
  refine v_iconst (pc := 1) (v := (-1)) dX0_loseSeal_1 (by decide) ?_
  refine vc_putI (pc := 2) hG dX0_loseSeal_2 fw_X0_15 rfl (Or.inl rfl) (by assumption) rfl rfl rfl (uI_17_4 _ _ _) (fun G hG => ?_)
  refine v_aload_n (pc := 5) dX0_loseSeal_5 rfl rfl ?_
  refine v_iconst (pc := 6) (v := (-1)) dX0_loseSeal_6 (by decide) ?_
  refine vc_putI (pc := 7) hG dX0_loseSeal_7 fw_X0_19 rfl (Or.inl rfl) (by assumption) rfl rfl rfl (uI_17_5 _ _ _) (fun G hG => ?_)
  refine v_vret (pc := 10) hR dX0_loseSeal_10 ⟨by decide, by decide⟩ ?_
  exact ⟨_, hG, rfl, rfl⟩
