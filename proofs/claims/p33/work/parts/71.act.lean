theorem kTrim_lt {p0 p1 p2 : Int32} (h : kTrim p0 p1 p2 = 0) : nat p0 < 101 ∧ nat p1 < 101 ∧ nat p2 < 4 := by
  unfold kTrim at h
  by_cases c : oTrim p0 p1 p2
  · obtain ⟨a, ha, rfl⟩ := (btw_lit (M := 100) (N := 100) rfl).mp c.1
    obtain ⟨b, hb, rfl⟩ := (btw_lit (M := 100) (N := 100) rfl).mp c.2.1
    obtain ⟨d, hd, rfl⟩ := (btw_lit (M := 3) (N := 3) rfl).mp c.2.2
    rw [nat_nI (by omega), nat_nI (by omega), nat_nI (by omega)]
    omega
  · rw [if_neg c] at h; exact absurd h (by decide)
theorem kPow_lt {p0 : Int32} (h : kPow p0 = 0) : nat p0 < 101 := by
  unfold kPow at h
  by_cases c : btw p0 0 100
  · obtain ⟨a, ha, rfl⟩ := (btw_lit (M := 100) (N := 100) rfl).mp c
    rw [nat_nI (by omega)]
    omega
  · rw [if_neg c] at h; exact absurd h (by decide)
theorem nan_t {h t : Nat} (hh : h < 101) (ht : t < 101) : vf_n32 (FP.fmul (drI h t) 1148846080) := by
  have h1 : fdat 1148846080 = .fin false 16384000 (-14) := by decide +kernel
  exact mul_w (f4 (r := 0) hh ht (by decide)).1 h1 (by decide)
theorem cl_L_103 : Cond.classLink "BroadseamLoftLaw" 103 xIO ∈ lw_all := (lw_mem 166 (by decide +kernel) rfl)
theorem cl_L_107 : Cond.classLink "BroadseamLoftLaw" 107 xIA ∈ lw_all := (lw_mem 167 (by decide +kernel) rfl)
theorem cl_L_111 : Cond.classLink "BroadseamLoftLaw" 111 xIS ∈ lw_all := (lw_mem 168 (by decide +kernel) rfl)
theorem ca_xIO : Cond.castable xIO xIO ∈ ngW := List.mem_of_getElem? (i := 15) rfl
theorem ca_xIA : Cond.castable xIA xIA ∈ ngW := List.mem_of_getElem? (i := 7) rfl
theorem ca_xIS : Cond.castable xIS xIS ∈ ngW := List.mem_of_getElem? (i := 14) rfl
set_option maxRecDepth 100000 in
theorem wl_act : Cond.codeWith yL_act cL_act 7 (Option.some Jvm.ClassFile.FieldType.long) [(0, 443, 444, 103), (0, 443, 450, 107), (0, 443, 456, 111)] ∈ lw_all := lw_mem 165 rfl rfl
theorem ll_act : Cond.methodLink "BroadseamLoftLaw" 123 yL_act ∈ lw_all ∧ Cond.initialized yL_act.cls ∈ lw_all ∧ Cond.static yL_act ∈ lw_all ∧ (yL_act.cls ≠ "java/lang/invoke/MethodHandle" ∧ yL_act.cls ≠ "java/lang/invoke/VarHandle" ∧ (parseMethodDescriptor yL_act.desc).map (fun d => d.parameters.length) = some 6) := ⟨(lw_mem 163 (by decide +kernel) rfl), (lw_mem 12 (by decide +kernel) rfl), (lw_mem 164 (by decide +kernel) rfl), by decide +kernel, by decide +kernel, by decide +kernel⟩
set_option maxRecDepth 100000 in
theorem wl_pegs : Cond.codeWith yL_pegs cL_pegs 5 (Option.some Jvm.ClassFile.FieldType.long) [(0, 22, 23, 107), (0, 22, 29, 111)] ∈ lw_all := lw_mem 694 rfl rfl
theorem ll_pegs : Cond.methodLink "BroadseamLoftLaw" 155 yL_pegs ∈ lw_all ∧ Cond.initialized yL_pegs.cls ∈ lw_all ∧ Cond.static yL_pegs ∈ lw_all ∧ (yL_pegs.cls ≠ "java/lang/invoke/MethodHandle" ∧ yL_pegs.cls ≠ "java/lang/invoke/VarHandle" ∧ (parseMethodDescriptor yL_pegs.desc).map (fun d => d.parameters.length) = some 3) := ⟨(lw_mem 692 (by decide +kernel) rfl), (lw_mem 12 (by decide +kernel) rfl), (lw_mem 693 (by decide +kernel) rfl), by decide +kernel, by decide +kernel, by decide +kernel⟩
/-- what act leaves: ok: its answer, the state behind it; er: what was thrown, nothing changed -/
def AP (X : XT) (s : SG) (ok : XT → SG → Int64 → Prop) (er : Int64 → Prop) : Option Value → GT → Prop := fun v G' => ∃ X' s' w, v = some (.long w) ∧ LF X' s' G' ∧ X'.2.2.2 = X.2.2.2 ∧ (∀ c, c < 13 → X'.1 c 0 = X.1 c 0) ∧ (ok X' s' w ∨ (er w ∧ s' = s ∧ X' = X))
abbrev rw_act_lot : Room := { frames := 7, cells := 1, slots := 8, locals := 133 }
set_option maxRecDepth 100000 in
set_option maxHeartbeats 400000 in
theorem c_A_lot (D : DT) (G : GT) (X : XT) (s : SG) (a : Nat) (p0 : Int32) (p1 : Int32) (p2 : Int32) (y3 : Int32) (hG : LF X s G) (hn : s.1 0 0 = nI a) (ha : a ≤ 6) (hfr : X.2.1 13 a = false) (z2 : s.1 2 a = 0) (z3 : s.1 3 a = 0) (hxv : XV X) : ML yL_act cL_act 7 (Option.some Jvm.ClassFile.FieldType.long) [(0, 443, 444, 103), (0, 443, 450, 107), (0, 443, 456, 111)] rw_act_lot D [.ref (X.1 0 0), .int 0, .int p0, .int p1, .int p2, .int y3] G (AP X s (fun X' s' w => w = ((nI a)).toInt64 ∧ s' = gLot (ow3 s a) a p0 p1 p2 ∧ X'.2.1 = u2 X.2.1 13 a true ∧ X'.2.2.1 = u2 X.2.2.1 1 a true ∧ kLot a p0 p1 p2 = 0) (fun w => (kLot a p0 p1 p2 = 1 ∧ w = (-1732000000000)) ∨ (kLot a p0 p1 p2 = 2 ∧ w = (-1733000000000)))) := by
  refine ML_of (by decide +kernel) (Nat.le_of_ble_eq_true rfl) (fun K sz hR hX => ?_)
  show V cL_act _ 7 _ D K 0 [some (.ref (X.1 0 0)), some (.int 0), some (.int p0), some (.int p1), some (.int p2), some (.int y3), none] [] G (0, 0)
  refine v_iload_n (pc := 0) dL_act_0 rfl rfl ?_
  refine v_if_ne (pc := 1) (tgt := 16) dL_act_1 (by decide) (fun c1 => absurd c1 (by decide)) (fun c1 => ?_)
  refine v_aload_n (pc := 4) dL_act_4 rfl rfl ?_
  refine v_iload_n (pc := 5) dL_act_5 rfl rfl ?_
  refine v_iload_n (pc := 6) dL_act_6 rfl rfl ?_
  refine v_iload (pc := 7) dL_act_7 rfl ?_
  refine v_try (pc := 9) (As := [.int p0, .int p1, .int p2]) (rest := []) hX dL_act_9 cw_L_9 im_yX8_lot se_yX8_lot ((c_X8_lot D X s a p0 p1 p2 hn ha hfr z2 z3 hxv) G hG) ((hG.1 0 0 (hG.2.2.1 0 (by decide))).1.2.1) rfl rfl rfl (Nat.le_of_ble_eq_true rfl) ⟨Nat.le_of_ble_eq_true rfl, Nat.le_of_ble_eq_true rfl⟩ ⟨by decide, by decide⟩ (fun v G1 hp => ?_) (fun E9 G1 q9 hp => ?_)
  · obtain ⟨X1, s1, hG1, hA1, h01, hv1, hr1⟩ := hp
    subst hv1
    refine v_i2l (pc := 12) dL_act_12 ?_
    refine v_goto (pc := 13) (tgt := 443) dL_act_13 (by decide) ?_
    refine v_lret (pc := 443) hR dL_act_443 ⟨by decide, by decide⟩ ?_
    exact ⟨X1, s1, _, rfl, hG1, hA1, h01, Or.inl ⟨rfl, hr1⟩⟩
  · obtain ⟨hG1, hp⟩ := hp
    rcases hp with ⟨rfl, hk⟩ | ⟨rfl, hk⟩
    · refine ⟨[⟨0, 443, 444, 103⟩], ⟨0, 443, 450, 107⟩, [⟨0, 443, 456, 111⟩], xIA, rfl, (List.forall_mem_cons.mpr ⟨Or.inr ⟨by decide, xIO, cl_L_103, (Or.inl ⟨rfl, rfl⟩)⟩, fun z hz => nomatch hz⟩), by decide, by decide, cl_L_107, ca_xIA, ?_⟩
      refine v_astore (pc := 450) dL_act_450 rfl (by decide) ?_
      refine v_ldcL (pc := 452) dL_act_452 k_L_109 ?_
      refine v_lret (pc := 455) hR dL_act_455 ⟨by decide, by decide⟩ ?_
      exact ⟨X, s, _, rfl, hG1, rfl, fun c _ => rfl, Or.inr ⟨Or.inl ⟨hk, rfl⟩, rfl, rfl⟩⟩
    · refine ⟨[⟨0, 443, 444, 103⟩, ⟨0, 443, 450, 107⟩], ⟨0, 443, 456, 111⟩, [], xIS, rfl, (List.forall_mem_cons.mpr ⟨Or.inr ⟨by decide, xIO, cl_L_103, (Or.inr (Or.inl ⟨rfl, rfl⟩))⟩, List.forall_mem_cons.mpr ⟨Or.inr ⟨by decide, xIA, cl_L_107, (Or.inr (Or.inr ⟨rfl, rfl⟩))⟩, fun z hz => nomatch hz⟩⟩), by decide, by decide, cl_L_111, ca_xIS, ?_⟩
      refine v_astore (pc := 456) dL_act_456 rfl (by decide) ?_
      refine v_ldcL (pc := 458) dL_act_458 k_L_113 ?_
      refine v_lret (pc := 461) hR dL_act_461 ⟨by decide, by decide⟩ ?_
      exact ⟨X, s, _, rfl, hG1, rfl, fun c _ => rfl, Or.inr ⟨Or.inr ⟨hk, rfl⟩, rfl, rfl⟩⟩
abbrev rw_act_sun : Room := { frames := 7, cells := 1, slots := 6, locals := 133 }
set_option maxRecDepth 100000 in
set_option maxHeartbeats 400000 in
theorem c_A_sun (D : DT) (G : GT) (X : XT) (s : SG) (a : Nat) (p0 : Int32) (p1 : Int32) (y2 : Int32) (y3 : Int32) (hG : LF X s G) (hn : s.1 0 0 = nI a) (ha : a ≤ 6) (hsl : ∀ f, f < 6 → X.2.2.1 1 f = decide (f < a)) : ML yL_act cL_act 7 (Option.some Jvm.ClassFile.FieldType.long) [(0, 443, 444, 103), (0, 443, 450, 107), (0, 443, 456, 111)] rw_act_sun D [.ref (X.1 0 0), .int 1, .int p0, .int p1, .int y2, .int y3] G (AP X s (fun X' s' w => w = (((gSun s (nat p0) p1).1 2 (nat p0))).toInt64 ∧ X' = X ∧ s' = gSun s (nat p0) p1 ∧ kSun a p0 p1 = 0) (fun w => (kSun a p0 p1 = 1 ∧ w = (-1731000000000)) ∨ (kSun a p0 p1 = 2 ∧ w = (-1732000000000)))) := by
  refine ML_of (by decide +kernel) (Nat.le_of_ble_eq_true rfl) (fun K sz hR hX => ?_)
  show V cL_act _ 7 _ D K 0 [some (.ref (X.1 0 0)), some (.int 1), some (.int p0), some (.int p1), some (.int y2), some (.int y3), none] [] G (0, 0)
  refine v_iload_n (pc := 0) dL_act_0 rfl rfl ?_
  refine v_if_ne (pc := 1) (tgt := 16) dL_act_1 (by decide) (fun c1 => ?_) (fun c1 => absurd c1 (by decide))
  refine v_iload_n (pc := 16) dL_act_16 rfl rfl ?_
  refine v_iconst (pc := 17) (v := 1) dL_act_17 (by decide) ?_
  refine v_icmp_ne (pc := 18) (tgt := 31) dL_act_18 (by decide) (fun c18 => absurd c18 (by decide)) (fun c18 => ?_)
  refine v_aload_n (pc := 21) dL_act_21 rfl rfl ?_
  refine v_iload_n (pc := 22) dL_act_22 rfl rfl ?_
  refine v_iload_n (pc := 23) dL_act_23 rfl rfl ?_
  refine v_try (pc := 24) (As := [.int p0, .int p1]) (rest := []) hX dL_act_24 cw_L_15 im_yX8_sun se_yX8_sun ((c_X8_sun D X s a p0 p1 hn ha hsl) G hG) ((hG.1 0 0 (hG.2.2.1 0 (by decide))).1.2.1) rfl rfl rfl (Nat.le_of_ble_eq_true rfl) ⟨Nat.le_of_ble_eq_true rfl, Nat.le_of_ble_eq_true rfl⟩ ⟨by decide, by decide⟩ (fun v G1 hp => ?_) (fun E9 G1 q9 hp => ?_)
  · obtain ⟨s1, hG1, hv1, hr1⟩ := hp
    subst hv1
    refine v_i2l (pc := 27) dL_act_27 ?_
    refine v_goto (pc := 28) (tgt := 443) dL_act_28 (by decide) ?_
    refine v_lret (pc := 443) hR dL_act_443 ⟨by decide, by decide⟩ ?_
    exact ⟨X, s1, _, rfl, hG1, rfl, fun c _ => rfl, Or.inl ⟨rfl, rfl, hr1⟩⟩
  · obtain ⟨hG1, hp⟩ := hp
    rcases hp with ⟨rfl, hk⟩ | ⟨rfl, hk⟩
    · refine ⟨[], ⟨0, 443, 444, 103⟩, [⟨0, 443, 450, 107⟩, ⟨0, 443, 456, 111⟩], xIO, rfl, (fun z hz => nomatch hz), by decide, by decide, cl_L_103, ca_xIO, ?_⟩
      refine v_astore (pc := 444) dL_act_444 rfl (by decide) ?_
      refine v_ldcL (pc := 446) dL_act_446 k_L_105 ?_
      refine v_lret (pc := 449) hR dL_act_449 ⟨by decide, by decide⟩ ?_
      exact ⟨X, s, _, rfl, hG1, rfl, fun c _ => rfl, Or.inr ⟨Or.inl ⟨hk, rfl⟩, rfl, rfl⟩⟩
    · refine ⟨[⟨0, 443, 444, 103⟩], ⟨0, 443, 450, 107⟩, [⟨0, 443, 456, 111⟩], xIA, rfl, (List.forall_mem_cons.mpr ⟨Or.inr ⟨by decide, xIO, cl_L_103, (Or.inl ⟨rfl, rfl⟩)⟩, fun z hz => nomatch hz⟩), by decide, by decide, cl_L_107, ca_xIA, ?_⟩
      refine v_astore (pc := 450) dL_act_450 rfl (by decide) ?_
      refine v_ldcL (pc := 452) dL_act_452 k_L_109 ?_
      refine v_lret (pc := 455) hR dL_act_455 ⟨by decide, by decide⟩ ?_
      exact ⟨X, s, _, rfl, hG1, rfl, fun c _ => rfl, Or.inr ⟨Or.inr ⟨hk, rfl⟩, rfl, rfl⟩⟩
abbrev rw_act_panel : Room := { frames := 7, cells := 1, slots := 6, locals := 135 }
set_option maxRecDepth 100000 in
set_option maxHeartbeats 400000 in
theorem c_A_panel (D : DT) (G : GT) (X : XT) (s : SG) (a b : Nat) (p0 : Int32) (p1 : Int32) (p2 : Int32) (p3 : Int32) (hG : LF X s G) (hn : s.1 0 0 = nI a) (ha : a ≤ 6) (hsl : ∀ f, f < 6 → X.2.2.1 1 f = decide (f < a)) (hb : s.1 4 0 = nI b) (hb2 : b ≤ 12) (hfr : X.2.1 14 b = false) (hxv : XV X) : ML yL_act cL_act 7 (Option.some Jvm.ClassFile.FieldType.long) [(0, 443, 444, 103), (0, 443, 450, 107), (0, 443, 456, 111)] rw_act_panel D [.ref (X.1 0 0), .int 2, .int p0, .int p1, .int p2, .int p3] G (AP X s (fun X' s' w => w = ((nI b)).toInt64 ∧ s' = sI (lyS (pan1 s b p0 p1 p2 p3) (nat p0) (acK p1 p2 p3) (lnK p1 p2 p3)) 4 0 (nI (b + 1)) ∧ X'.2.1 = u2 X.2.1 14 b true ∧ X'.2.2.1 = u2 X.2.2.1 2 b true ∧ kPan a b p0 p1 p2 p3 = 0) (fun w => (kPan a b p0 p1 p2 p3 = 1 ∧ w = (-1731000000000)) ∨ (kPan a b p0 p1 p2 p3 = 2 ∧ w = (-1732000000000)) ∨ (kPan a b p0 p1 p2 p3 = 3 ∧ w = (-1733000000000)))) := by
  refine ML_of (by decide +kernel) (Nat.le_of_ble_eq_true rfl) (fun K sz hR hX => ?_)
  show V cL_act _ 7 _ D K 0 [some (.ref (X.1 0 0)), some (.int 2), some (.int p0), some (.int p1), some (.int p2), some (.int p3), none] [] G (0, 0)
  refine v_iload_n (pc := 0) dL_act_0 rfl rfl ?_
  refine v_if_ne (pc := 1) (tgt := 16) dL_act_1 (by decide) (fun c1 => ?_) (fun c1 => absurd c1 (by decide))
  refine v_iload_n (pc := 16) dL_act_16 rfl rfl ?_
  refine v_iconst (pc := 17) (v := 1) dL_act_17 (by decide) ?_
  refine v_icmp_ne (pc := 18) (tgt := 31) dL_act_18 (by decide) (fun c18 => ?_) (fun c18 => absurd c18 (by decide))
  refine v_iload_n (pc := 31) dL_act_31 rfl rfl ?_
  refine v_iconst (pc := 32) (v := 2) dL_act_32 (by decide) ?_
  refine v_icmp_ne (pc := 33) (tgt := 50) dL_act_33 (by decide) (fun c33 => absurd c33 (by decide)) (fun c33 => ?_)
  refine v_aload_n (pc := 36) dL_act_36 rfl rfl ?_
  refine v_iload_n (pc := 37) dL_act_37 rfl rfl ?_
  refine v_iload_n (pc := 38) dL_act_38 rfl rfl ?_
  refine v_iload (pc := 39) dL_act_39 rfl ?_
  refine v_iload (pc := 41) dL_act_41 rfl ?_
  refine v_try (pc := 43) (As := [.int p0, .int p1, .int p2, .int p3]) (rest := []) hX dL_act_43 cw_L_19 im_yX8_panel se_yX8_panel ((c_X8_panel D X s a b p0 p1 p2 p3 hn ha hsl hb hb2 hfr hxv) G hG) ((hG.1 0 0 (hG.2.2.1 0 (by decide))).1.2.1) rfl rfl rfl (Nat.le_of_ble_eq_true rfl) ⟨Nat.le_of_ble_eq_true rfl, Nat.le_of_ble_eq_true rfl⟩ ⟨by decide, by decide⟩ (fun v G1 hp => ?_) (fun E9 G1 q9 hp => ?_)
  · obtain ⟨X1, s1, hG1, hA1, h01, hv1, hr1⟩ := hp
    subst hv1
    refine v_i2l (pc := 46) dL_act_46 ?_
    refine v_goto (pc := 47) (tgt := 443) dL_act_47 (by decide) ?_
    refine v_lret (pc := 443) hR dL_act_443 ⟨by decide, by decide⟩ ?_
    exact ⟨X1, s1, _, rfl, hG1, hA1, h01, Or.inl ⟨rfl, hr1⟩⟩
  · obtain ⟨hG1, hp⟩ := hp
    rcases hp with ⟨rfl, hk⟩ | ⟨rfl, hk⟩ | ⟨rfl, hk⟩
    · refine ⟨[], ⟨0, 443, 444, 103⟩, [⟨0, 443, 450, 107⟩, ⟨0, 443, 456, 111⟩], xIO, rfl, (fun z hz => nomatch hz), by decide, by decide, cl_L_103, ca_xIO, ?_⟩
      refine v_astore (pc := 444) dL_act_444 rfl (by decide) ?_
      refine v_ldcL (pc := 446) dL_act_446 k_L_105 ?_
      refine v_lret (pc := 449) hR dL_act_449 ⟨by decide, by decide⟩ ?_
      exact ⟨X, s, _, rfl, hG1, rfl, fun c _ => rfl, Or.inr ⟨Or.inl ⟨hk, rfl⟩, rfl, rfl⟩⟩
    · refine ⟨[⟨0, 443, 444, 103⟩], ⟨0, 443, 450, 107⟩, [⟨0, 443, 456, 111⟩], xIA, rfl, (List.forall_mem_cons.mpr ⟨Or.inr ⟨by decide, xIO, cl_L_103, (Or.inl ⟨rfl, rfl⟩)⟩, fun z hz => nomatch hz⟩), by decide, by decide, cl_L_107, ca_xIA, ?_⟩
      refine v_astore (pc := 450) dL_act_450 rfl (by decide) ?_
      refine v_ldcL (pc := 452) dL_act_452 k_L_109 ?_
      refine v_lret (pc := 455) hR dL_act_455 ⟨by decide, by decide⟩ ?_
      exact ⟨X, s, _, rfl, hG1, rfl, fun c _ => rfl, Or.inr ⟨Or.inr (Or.inl ⟨hk, rfl⟩), rfl, rfl⟩⟩
    · refine ⟨[⟨0, 443, 444, 103⟩, ⟨0, 443, 450, 107⟩], ⟨0, 443, 456, 111⟩, [], xIS, rfl, (List.forall_mem_cons.mpr ⟨Or.inr ⟨by decide, xIO, cl_L_103, (Or.inr (Or.inl ⟨rfl, rfl⟩))⟩, List.forall_mem_cons.mpr ⟨Or.inr ⟨by decide, xIA, cl_L_107, (Or.inr (Or.inr ⟨rfl, rfl⟩))⟩, fun z hz => nomatch hz⟩⟩), by decide, by decide, cl_L_111, ca_xIS, ?_⟩
      refine v_astore (pc := 456) dL_act_456 rfl (by decide) ?_
      refine v_ldcL (pc := 458) dL_act_458 k_L_113 ?_
      refine v_lret (pc := 461) hR dL_act_461 ⟨by decide, by decide⟩ ?_
      exact ⟨X, s, _, rfl, hG1, rfl, fun c _ => rfl, Or.inr ⟨Or.inr (Or.inr ⟨hk, rfl⟩), rfl, rfl⟩⟩
abbrev rw_act_strength : Room := { frames := 7, cells := 1, slots := 6, locals := 146 }
set_option maxRecDepth 100000 in
set_option maxHeartbeats 400000 in
theorem c_A_strength (D : DT) (G : GT) (X : XT) (s : SG) (b : Nat) (p0 : Int32) (y1 : Int32) (y2 : Int32) (y3 : Int32) (hG : LF X s G) (h : PV s b) (hb : s.1 4 0 = nI b) (hb2 : b ≤ 12) (hsl : ∀ f, f < 12 → X.2.2.1 2 f = decide (f < b)) : ML yL_act cL_act 7 (Option.some Jvm.ClassFile.FieldType.long) [(0, 443, 444, 103), (0, 443, 450, 107), (0, 443, 456, 111)] rw_act_strength D [.ref (X.1 0 0), .int 3, .int p0, .int y1, .int y2, .int y3] G (AP X s (fun X' s' w => w = (strS s (nat p0)) ∧ X' = X ∧ s' = s ∧ kPl b p0 = 0) (fun w => (kPl b p0 = 1 ∧ w = (-1731000000000)))) := by
  refine ML_of (by decide +kernel) (Nat.le_of_ble_eq_true rfl) (fun K sz hR hX => ?_)
  show V cL_act _ 7 _ D K 0 [some (.ref (X.1 0 0)), some (.int 3), some (.int p0), some (.int y1), some (.int y2), some (.int y3), none] [] G (0, 0)
  refine v_iload_n (pc := 0) dL_act_0 rfl rfl ?_
  refine v_if_ne (pc := 1) (tgt := 16) dL_act_1 (by decide) (fun c1 => ?_) (fun c1 => absurd c1 (by decide))
  refine v_iload_n (pc := 16) dL_act_16 rfl rfl ?_
  refine v_iconst (pc := 17) (v := 1) dL_act_17 (by decide) ?_
  refine v_icmp_ne (pc := 18) (tgt := 31) dL_act_18 (by decide) (fun c18 => ?_) (fun c18 => absurd c18 (by decide))
  refine v_iload_n (pc := 31) dL_act_31 rfl rfl ?_
  refine v_iconst (pc := 32) (v := 2) dL_act_32 (by decide) ?_
  refine v_icmp_ne (pc := 33) (tgt := 50) dL_act_33 (by decide) (fun c33 => ?_) (fun c33 => absurd c33 (by decide))
  refine v_iload_n (pc := 50) dL_act_50 rfl rfl ?_
  refine v_iconst (pc := 51) (v := 3) dL_act_51 (by decide) ?_
  refine v_icmp_ne (pc := 52) (tgt := 63) dL_act_52 (by decide) (fun c52 => absurd c52 (by decide)) (fun c52 => ?_)
  refine v_aload_n (pc := 55) dL_act_55 rfl rfl ?_
  refine v_iload_n (pc := 56) dL_act_56 rfl rfl ?_
  refine v_try (pc := 57) (As := [.int p0]) (rest := []) hX dL_act_57 cw_L_23 im_yX8_strength se_yX8_strength ((c_X8_strength D X s b p0 h hb hb2 hsl) G hG) ((hG.1 0 0 (hG.2.2.1 0 (by decide))).1.2.1) rfl rfl rfl (Nat.le_of_ble_eq_true rfl) ⟨Nat.le_of_ble_eq_true rfl, Nat.le_of_ble_eq_true rfl⟩ ⟨by decide, by decide⟩ (fun v G1 hp => ?_) (fun E9 G1 q9 hp => ?_)
  · obtain ⟨s1, hG1, hv1, hr1⟩ := hp
    subst hv1
    refine v_goto (pc := 60) (tgt := 443) dL_act_60 (by decide) ?_
    refine v_lret (pc := 443) hR dL_act_443 ⟨by decide, by decide⟩ ?_
    exact ⟨X, s1, _, rfl, hG1, rfl, fun c _ => rfl, Or.inl ⟨rfl, rfl, hr1⟩⟩
  · obtain ⟨hG1, hp⟩ := hp
    rcases hp with ⟨rfl, hk⟩
    · refine ⟨[], ⟨0, 443, 444, 103⟩, [⟨0, 443, 450, 107⟩, ⟨0, 443, 456, 111⟩], xIO, rfl, (fun z hz => nomatch hz), by decide, by decide, cl_L_103, ca_xIO, ?_⟩
      refine v_astore (pc := 444) dL_act_444 rfl (by decide) ?_
      refine v_ldcL (pc := 446) dL_act_446 k_L_105 ?_
      refine v_lret (pc := 449) hR dL_act_449 ⟨by decide, by decide⟩ ?_
      exact ⟨X, s, _, rfl, hG1, rfl, fun c _ => rfl, Or.inr ⟨⟨hk, rfl⟩, rfl, rfl⟩⟩
abbrev rw_act_roll : Room := { frames := 7, cells := 1, slots := 6, locals := 132 }
set_option maxRecDepth 100000 in
set_option maxHeartbeats 400000 in
theorem c_A_roll (D : DT) (G : GT) (X : XT) (s : SG) (a : Nat) (p0 : Int32) (y1 : Int32) (y2 : Int32) (y3 : Int32) (hG : LF X s G) (hn : s.1 0 0 = nI a) (ha : a ≤ 6) (hsl : ∀ f, f < 6 → X.2.2.1 1 f = decide (f < a)) : ML yL_act cL_act 7 (Option.some Jvm.ClassFile.FieldType.long) [(0, 443, 444, 103), (0, 443, 450, 107), (0, 443, 456, 111)] rw_act_roll D [.ref (X.1 0 0), .int 4, .int p0, .int y1, .int y2, .int y3] G (AP X s (fun X' s' w => w = ((s.1 39 (nat p0) + s.1 41 (nat p0))).toInt64 ∧ X' = X ∧ s' = s ∧ kRoll a p0 = 0) (fun w => (kRoll a p0 = 1 ∧ w = (-1731000000000)))) := by
  refine ML_of (by decide +kernel) (Nat.le_of_ble_eq_true rfl) (fun K sz hR hX => ?_)
  show V cL_act _ 7 _ D K 0 [some (.ref (X.1 0 0)), some (.int 4), some (.int p0), some (.int y1), some (.int y2), some (.int y3), none] [] G (0, 0)
  refine v_iload_n (pc := 0) dL_act_0 rfl rfl ?_
  refine v_if_ne (pc := 1) (tgt := 16) dL_act_1 (by decide) (fun c1 => ?_) (fun c1 => absurd c1 (by decide))
  refine v_iload_n (pc := 16) dL_act_16 rfl rfl ?_
  refine v_iconst (pc := 17) (v := 1) dL_act_17 (by decide) ?_
  refine v_icmp_ne (pc := 18) (tgt := 31) dL_act_18 (by decide) (fun c18 => ?_) (fun c18 => absurd c18 (by decide))
  refine v_iload_n (pc := 31) dL_act_31 rfl rfl ?_
  refine v_iconst (pc := 32) (v := 2) dL_act_32 (by decide) ?_
  refine v_icmp_ne (pc := 33) (tgt := 50) dL_act_33 (by decide) (fun c33 => ?_) (fun c33 => absurd c33 (by decide))
  refine v_iload_n (pc := 50) dL_act_50 rfl rfl ?_
  refine v_iconst (pc := 51) (v := 3) dL_act_51 (by decide) ?_
  refine v_icmp_ne (pc := 52) (tgt := 63) dL_act_52 (by decide) (fun c52 => ?_) (fun c52 => absurd c52 (by decide))
  refine v_iload_n (pc := 63) dL_act_63 rfl rfl ?_
  refine v_iconst (pc := 64) (v := 4) dL_act_64 (by decide) ?_
  refine v_icmp_ne (pc := 65) (tgt := 77) dL_act_65 (by decide) (fun c65 => absurd c65 (by decide)) (fun c65 => ?_)
  refine v_aload_n (pc := 68) dL_act_68 rfl rfl ?_
  refine v_iload_n (pc := 69) dL_act_69 rfl rfl ?_
  refine v_try (pc := 70) (As := [.int p0]) (rest := []) hX dL_act_70 cw_L_27 im_yX8_roll se_yX8_roll ((c_X8_roll D X s a p0 hn ha hsl) G hG) ((hG.1 0 0 (hG.2.2.1 0 (by decide))).1.2.1) rfl rfl rfl (Nat.le_of_ble_eq_true rfl) ⟨Nat.le_of_ble_eq_true rfl, Nat.le_of_ble_eq_true rfl⟩ ⟨by decide, by decide⟩ (fun v G1 hp => ?_) (fun E9 G1 q9 hp => ?_)
  · obtain ⟨s1, hG1, hv1, hr1⟩ := hp
    subst hv1
    refine v_i2l (pc := 73) dL_act_73 ?_
    refine v_goto (pc := 74) (tgt := 443) dL_act_74 (by decide) ?_
    refine v_lret (pc := 443) hR dL_act_443 ⟨by decide, by decide⟩ ?_
    exact ⟨X, s1, _, rfl, hG1, rfl, fun c _ => rfl, Or.inl ⟨rfl, rfl, hr1⟩⟩
  · obtain ⟨hG1, hp⟩ := hp
    rcases hp with ⟨rfl, hk⟩
    · refine ⟨[], ⟨0, 443, 444, 103⟩, [⟨0, 443, 450, 107⟩, ⟨0, 443, 456, 111⟩], xIO, rfl, (fun z hz => nomatch hz), by decide, by decide, cl_L_103, ca_xIO, ?_⟩
      refine v_astore (pc := 444) dL_act_444 rfl (by decide) ?_
      refine v_ldcL (pc := 446) dL_act_446 k_L_105 ?_
      refine v_lret (pc := 449) hR dL_act_449 ⟨by decide, by decide⟩ ?_
      exact ⟨X, s, _, rfl, hG1, rfl, fun c _ => rfl, Or.inr ⟨⟨hk, rfl⟩, rfl, rfl⟩⟩
abbrev rw_act_seam : Room := { frames := 7, cells := 1, slots := 6, locals := 135 }
set_option maxRecDepth 100000 in
set_option maxHeartbeats 400000 in
theorem c_A_seam (D : DT) (G : GT) (X : XT) (s : SG) (np c : Nat) (p0 : Int32) (p1 : Int32) (p2 : Int32) (y3 : Int32) (hG : LF X s G) (hb : s.1 4 0 = nI np) (hnp : np ≤ 12) (hsl2 : ∀ f, f < 12 → X.2.2.1 2 f = decide (f < np)) (hc : s.1 9 0 = nI c) (hc2 : c ≤ 30) (hfr : X.2.1 15 c = false) (hxv : XV X) : ML yL_act cL_act 7 (Option.some Jvm.ClassFile.FieldType.long) [(0, 443, 444, 103), (0, 443, 450, 107), (0, 443, 456, 111)] rw_act_seam D [.ref (X.1 0 0), .int 5, .int p0, .int p1, .int p2, .int y3] G (AP X s (fun X' s' w => w = ((nI c)).toInt64 ∧ s' = gSeam s c p0 p1 p2 ∧ X'.2.1 = u2 X.2.1 15 c true ∧ X'.2.2.1 = u2 X.2.2.1 3 c true ∧ kSeam np c p0 p1 p2 = 0) (fun w => (kSeam np c p0 p1 p2 = 1 ∧ w = (-1731000000000)) ∨ (kSeam np c p0 p1 p2 = 2 ∧ w = (-1732000000000)) ∨ (kSeam np c p0 p1 p2 = 3 ∧ w = (-1733000000000)))) := by
  refine ML_of (by decide +kernel) (Nat.le_of_ble_eq_true rfl) (fun K sz hR hX => ?_)
  show V cL_act _ 7 _ D K 0 [some (.ref (X.1 0 0)), some (.int 5), some (.int p0), some (.int p1), some (.int p2), some (.int y3), none] [] G (0, 0)
  refine v_iload_n (pc := 0) dL_act_0 rfl rfl ?_
  refine v_if_ne (pc := 1) (tgt := 16) dL_act_1 (by decide) (fun c1 => ?_) (fun c1 => absurd c1 (by decide))
  refine v_iload_n (pc := 16) dL_act_16 rfl rfl ?_
  refine v_iconst (pc := 17) (v := 1) dL_act_17 (by decide) ?_
  refine v_icmp_ne (pc := 18) (tgt := 31) dL_act_18 (by decide) (fun c18 => ?_) (fun c18 => absurd c18 (by decide))
  refine v_iload_n (pc := 31) dL_act_31 rfl rfl ?_
  refine v_iconst (pc := 32) (v := 2) dL_act_32 (by decide) ?_
  refine v_icmp_ne (pc := 33) (tgt := 50) dL_act_33 (by decide) (fun c33 => ?_) (fun c33 => absurd c33 (by decide))
  refine v_iload_n (pc := 50) dL_act_50 rfl rfl ?_
  refine v_iconst (pc := 51) (v := 3) dL_act_51 (by decide) ?_
  refine v_icmp_ne (pc := 52) (tgt := 63) dL_act_52 (by decide) (fun c52 => ?_) (fun c52 => absurd c52 (by decide))
  refine v_iload_n (pc := 63) dL_act_63 rfl rfl ?_
  refine v_iconst (pc := 64) (v := 4) dL_act_64 (by decide) ?_
  refine v_icmp_ne (pc := 65) (tgt := 77) dL_act_65 (by decide) (fun c65 => ?_) (fun c65 => absurd c65 (by decide))
  refine v_iload_n (pc := 77) dL_act_77 rfl rfl ?_
  refine v_iconst (pc := 78) (v := 5) dL_act_78 (by decide) ?_
  refine v_icmp_ne (pc := 79) (tgt := 94) dL_act_79 (by decide) (fun c79 => absurd c79 (by decide)) (fun c79 => ?_)
  refine v_aload_n (pc := 82) dL_act_82 rfl rfl ?_
  refine v_iload_n (pc := 83) dL_act_83 rfl rfl ?_
  refine v_iload_n (pc := 84) dL_act_84 rfl rfl ?_
  refine v_iload (pc := 85) dL_act_85 rfl ?_
  refine v_try (pc := 87) (As := [.int p0, .int p1, .int p2]) (rest := []) hX dL_act_87 cw_L_31 im_yX8_seam se_yX8_seam ((c_X8_seam D X s np c p0 p1 p2 hb hnp hsl2 hc hc2 hfr hxv) G hG) ((hG.1 0 0 (hG.2.2.1 0 (by decide))).1.2.1) rfl rfl rfl (Nat.le_of_ble_eq_true rfl) ⟨Nat.le_of_ble_eq_true rfl, Nat.le_of_ble_eq_true rfl⟩ ⟨by decide, by decide⟩ (fun v G1 hp => ?_) (fun E9 G1 q9 hp => ?_)
  · obtain ⟨X1, s1, hG1, hA1, h01, hv1, hr1⟩ := hp
    subst hv1
    refine v_i2l (pc := 90) dL_act_90 ?_
    refine v_goto (pc := 91) (tgt := 443) dL_act_91 (by decide) ?_
    refine v_lret (pc := 443) hR dL_act_443 ⟨by decide, by decide⟩ ?_
    exact ⟨X1, s1, _, rfl, hG1, hA1, h01, Or.inl ⟨rfl, hr1⟩⟩
  · obtain ⟨hG1, hp⟩ := hp
    rcases hp with ⟨rfl, hk⟩ | ⟨rfl, hk⟩ | ⟨rfl, hk⟩
    · refine ⟨[], ⟨0, 443, 444, 103⟩, [⟨0, 443, 450, 107⟩, ⟨0, 443, 456, 111⟩], xIO, rfl, (fun z hz => nomatch hz), by decide, by decide, cl_L_103, ca_xIO, ?_⟩
      refine v_astore (pc := 444) dL_act_444 rfl (by decide) ?_
      refine v_ldcL (pc := 446) dL_act_446 k_L_105 ?_
      refine v_lret (pc := 449) hR dL_act_449 ⟨by decide, by decide⟩ ?_
      exact ⟨X, s, _, rfl, hG1, rfl, fun c _ => rfl, Or.inr ⟨Or.inl ⟨hk, rfl⟩, rfl, rfl⟩⟩
    · refine ⟨[⟨0, 443, 444, 103⟩], ⟨0, 443, 450, 107⟩, [⟨0, 443, 456, 111⟩], xIA, rfl, (List.forall_mem_cons.mpr ⟨Or.inr ⟨by decide, xIO, cl_L_103, (Or.inl ⟨rfl, rfl⟩)⟩, fun z hz => nomatch hz⟩), by decide, by decide, cl_L_107, ca_xIA, ?_⟩
      refine v_astore (pc := 450) dL_act_450 rfl (by decide) ?_
      refine v_ldcL (pc := 452) dL_act_452 k_L_109 ?_
      refine v_lret (pc := 455) hR dL_act_455 ⟨by decide, by decide⟩ ?_
      exact ⟨X, s, _, rfl, hG1, rfl, fun c _ => rfl, Or.inr ⟨Or.inr (Or.inl ⟨hk, rfl⟩), rfl, rfl⟩⟩
    · refine ⟨[⟨0, 443, 444, 103⟩, ⟨0, 443, 450, 107⟩], ⟨0, 443, 456, 111⟩, [], xIS, rfl, (List.forall_mem_cons.mpr ⟨Or.inr ⟨by decide, xIO, cl_L_103, (Or.inr (Or.inl ⟨rfl, rfl⟩))⟩, List.forall_mem_cons.mpr ⟨Or.inr ⟨by decide, xIA, cl_L_107, (Or.inr (Or.inr ⟨rfl, rfl⟩))⟩, fun z hz => nomatch hz⟩⟩), by decide, by decide, cl_L_111, ca_xIS, ?_⟩
      refine v_astore (pc := 456) dL_act_456 rfl (by decide) ?_
      refine v_ldcL (pc := 458) dL_act_458 k_L_113 ?_
      refine v_lret (pc := 461) hR dL_act_461 ⟨by decide, by decide⟩ ?_
      exact ⟨X, s, _, rfl, hG1, rfl, fun c _ => rfl, Or.inr ⟨Or.inr (Or.inr ⟨hk, rfl⟩), rfl, rfl⟩⟩
abbrev rw_act_rip : Room := { frames := 7, cells := 1, slots := 6, locals := 166 }
set_option maxRecDepth 100000 in
set_option maxHeartbeats 400000 in
theorem c_A_rip (D : DT) (G : GT) (X : XT) (s : SG) (np c : Nat) (p0 : Int32) (y1 : Int32) (y2 : Int32) (y3 : Int32) (hG : LF X s G) (h : PV s np) (h2 : SV s np c) (hnp : np ≤ 12) (hc : s.1 9 0 = nI c) (hc2 : c ≤ 30) (hsl3 : ∀ f, f < 30 → X.2.2.1 3 f = decide (f < c ∧ s.1 13 f = 0)) (hxv : XV X) : ML yL_act cL_act 7 (Option.some Jvm.ClassFile.FieldType.long) [(0, 443, 444, 103), (0, 443, 450, 107), (0, 443, 456, 111)] rw_act_rip D [.ref (X.1 0 0), .int 6, .int p0, .int y1, .int y2, .int y3] G (AP X s (fun X' s' w => w = (seamS s (nat p0)) ∧ s' = sI s 13 (nat p0) 1 ∧ X'.2.1 = X.2.1 ∧ X'.2.2.1 = u2 X.2.2.1 3 (nat p0) false ∧ kRip s c p0 = 0) (fun w => (kRip s c p0 = 1 ∧ w = (-1731000000000)))) := by
  refine ML_of (by decide +kernel) (Nat.le_of_ble_eq_true rfl) (fun K sz hR hX => ?_)
  show V cL_act _ 7 _ D K 0 [some (.ref (X.1 0 0)), some (.int 6), some (.int p0), some (.int y1), some (.int y2), some (.int y3), none] [] G (0, 0)
  refine v_iload_n (pc := 0) dL_act_0 rfl rfl ?_
  refine v_if_ne (pc := 1) (tgt := 16) dL_act_1 (by decide) (fun c1 => ?_) (fun c1 => absurd c1 (by decide))
  refine v_iload_n (pc := 16) dL_act_16 rfl rfl ?_
  refine v_iconst (pc := 17) (v := 1) dL_act_17 (by decide) ?_
  refine v_icmp_ne (pc := 18) (tgt := 31) dL_act_18 (by decide) (fun c18 => ?_) (fun c18 => absurd c18 (by decide))
  refine v_iload_n (pc := 31) dL_act_31 rfl rfl ?_
  refine v_iconst (pc := 32) (v := 2) dL_act_32 (by decide) ?_
  refine v_icmp_ne (pc := 33) (tgt := 50) dL_act_33 (by decide) (fun c33 => ?_) (fun c33 => absurd c33 (by decide))
  refine v_iload_n (pc := 50) dL_act_50 rfl rfl ?_
  refine v_iconst (pc := 51) (v := 3) dL_act_51 (by decide) ?_
  refine v_icmp_ne (pc := 52) (tgt := 63) dL_act_52 (by decide) (fun c52 => ?_) (fun c52 => absurd c52 (by decide))
  refine v_iload_n (pc := 63) dL_act_63 rfl rfl ?_
  refine v_iconst (pc := 64) (v := 4) dL_act_64 (by decide) ?_
  refine v_icmp_ne (pc := 65) (tgt := 77) dL_act_65 (by decide) (fun c65 => ?_) (fun c65 => absurd c65 (by decide))
  refine v_iload_n (pc := 77) dL_act_77 rfl rfl ?_
  refine v_iconst (pc := 78) (v := 5) dL_act_78 (by decide) ?_
  refine v_icmp_ne (pc := 79) (tgt := 94) dL_act_79 (by decide) (fun c79 => ?_) (fun c79 => absurd c79 (by decide))
  refine v_iload_n (pc := 94) dL_act_94 rfl rfl ?_
  refine v_bipush (pc := 95) (v := 6) dL_act_95 (by decide) ?_
  refine v_icmp_ne (pc := 97) (tgt := 108) dL_act_97 (by decide) (fun c97 => absurd c97 (by decide)) (fun c97 => ?_)
  refine v_aload_n (pc := 100) dL_act_100 rfl rfl ?_
  refine v_iload_n (pc := 101) dL_act_101 rfl rfl ?_
  refine v_try (pc := 102) (As := [.int p0]) (rest := []) hX dL_act_102 cw_L_34 im_yX8_rip se_yX8_rip ((c_X8_rip D X s np c p0 h h2 hnp hc hc2 hsl3 hxv) G hG) ((hG.1 0 0 (hG.2.2.1 0 (by decide))).1.2.1) rfl rfl rfl (Nat.le_of_ble_eq_true rfl) ⟨Nat.le_of_ble_eq_true rfl, Nat.le_of_ble_eq_true rfl⟩ ⟨by decide, by decide⟩ (fun v G1 hp => ?_) (fun E9 G1 q9 hp => ?_)
  · obtain ⟨X1, s1, hG1, hA1, h01, hv1, hr1⟩ := hp
    subst hv1
    refine v_goto (pc := 105) (tgt := 443) dL_act_105 (by decide) ?_
    refine v_lret (pc := 443) hR dL_act_443 ⟨by decide, by decide⟩ ?_
    exact ⟨X1, s1, _, rfl, hG1, hA1, h01, Or.inl ⟨rfl, hr1⟩⟩
  · obtain ⟨hG1, hp⟩ := hp
    rcases hp with ⟨rfl, hk⟩
    · refine ⟨[], ⟨0, 443, 444, 103⟩, [⟨0, 443, 450, 107⟩, ⟨0, 443, 456, 111⟩], xIO, rfl, (fun z hz => nomatch hz), by decide, by decide, cl_L_103, ca_xIO, ?_⟩
      refine v_astore (pc := 444) dL_act_444 rfl (by decide) ?_
      refine v_ldcL (pc := 446) dL_act_446 k_L_105 ?_
      refine v_lret (pc := 449) hR dL_act_449 ⟨by decide, by decide⟩ ?_
      exact ⟨X, s, _, rfl, hG1, rfl, fun c _ => rfl, Or.inr ⟨⟨hk, rfl⟩, rfl, rfl⟩⟩
abbrev rw_act_bears : Room := { frames := 9, cells := 1, slots := 6, locals := 216 }
set_option maxRecDepth 100000 in
set_option maxHeartbeats 400000 in
theorem c_A_bears (D : DT) (G : GT) (X : XT) (s : SG) (np ns : Nat) (p0 : Int32) (p1 : Int32) (y2 : Int32) (y3 : Int32) (hG : LF X s G) (h : PV s np) (h2 : SV s np ns) (hnp : np ≤ 12) (hns : ns ≤ 30) (hcap : capOK s ns) (hb : s.1 4 0 = nI np) (hsl2 : ∀ f, f < 12 → X.2.2.1 2 f = decide (f < np)) (hsl3 : ∀ f, f < 30 → X.2.2.1 3 f = decide (f < ns ∧ s.1 13 f = 0)) : ML yL_act cL_act 7 (Option.some Jvm.ClassFile.FieldType.long) [(0, 443, 444, 103), (0, 443, 450, 107), (0, 443, 456, 111)] rw_act_bears D [.ref (X.1 0 0), .int 7, .int p0, .int p1, .int y2, .int y3] G (AP X s (fun X' s' w => w = (finL s np ns (nat p0) (nat p1)) ∧ X' = X ∧ (∃ L, s' = sK s L) ∧ kBe np p0 p1 = 0) (fun w => (kBe np p0 p1 = 1 ∧ w = (-1731000000000)))) := by
  refine ML_of (by decide +kernel) (Nat.le_of_ble_eq_true rfl) (fun K sz hR hX => ?_)
  show V cL_act _ 7 _ D K 0 [some (.ref (X.1 0 0)), some (.int 7), some (.int p0), some (.int p1), some (.int y2), some (.int y3), none] [] G (0, 0)
  refine v_iload_n (pc := 0) dL_act_0 rfl rfl ?_
  refine v_if_ne (pc := 1) (tgt := 16) dL_act_1 (by decide) (fun c1 => ?_) (fun c1 => absurd c1 (by decide))
  refine v_iload_n (pc := 16) dL_act_16 rfl rfl ?_
  refine v_iconst (pc := 17) (v := 1) dL_act_17 (by decide) ?_
  refine v_icmp_ne (pc := 18) (tgt := 31) dL_act_18 (by decide) (fun c18 => ?_) (fun c18 => absurd c18 (by decide))
  refine v_iload_n (pc := 31) dL_act_31 rfl rfl ?_
  refine v_iconst (pc := 32) (v := 2) dL_act_32 (by decide) ?_
  refine v_icmp_ne (pc := 33) (tgt := 50) dL_act_33 (by decide) (fun c33 => ?_) (fun c33 => absurd c33 (by decide))
  refine v_iload_n (pc := 50) dL_act_50 rfl rfl ?_
  refine v_iconst (pc := 51) (v := 3) dL_act_51 (by decide) ?_
  refine v_icmp_ne (pc := 52) (tgt := 63) dL_act_52 (by decide) (fun c52 => ?_) (fun c52 => absurd c52 (by decide))
  refine v_iload_n (pc := 63) dL_act_63 rfl rfl ?_
  refine v_iconst (pc := 64) (v := 4) dL_act_64 (by decide) ?_
  refine v_icmp_ne (pc := 65) (tgt := 77) dL_act_65 (by decide) (fun c65 => ?_) (fun c65 => absurd c65 (by decide))
  refine v_iload_n (pc := 77) dL_act_77 rfl rfl ?_
  refine v_iconst (pc := 78) (v := 5) dL_act_78 (by decide) ?_
  refine v_icmp_ne (pc := 79) (tgt := 94) dL_act_79 (by decide) (fun c79 => ?_) (fun c79 => absurd c79 (by decide))
  refine v_iload_n (pc := 94) dL_act_94 rfl rfl ?_
  refine v_bipush (pc := 95) (v := 6) dL_act_95 (by decide) ?_
  refine v_icmp_ne (pc := 97) (tgt := 108) dL_act_97 (by decide) (fun c97 => ?_) (fun c97 => absurd c97 (by decide))
  refine v_iload_n (pc := 108) dL_act_108 rfl rfl ?_
  refine v_bipush (pc := 109) (v := 7) dL_act_109 (by decide) ?_
  refine v_icmp_ne (pc := 111) (tgt := 123) dL_act_111 (by decide) (fun c111 => absurd c111 (by decide)) (fun c111 => ?_)
  refine v_aload_n (pc := 114) dL_act_114 rfl rfl ?_
  refine v_iload_n (pc := 115) dL_act_115 rfl rfl ?_
  refine v_iload_n (pc := 116) dL_act_116 rfl rfl ?_
  refine v_try (pc := 117) (As := [.int p0, .int p1]) (rest := []) hX dL_act_117 cw_L_37 im_yX8_bears se_yX8_bears ((c_X8_bears D X s np ns p0 p1 h h2 hnp hns hcap hb hsl2 hsl3) G hG) ((hG.1 0 0 (hG.2.2.1 0 (by decide))).1.2.1) rfl rfl rfl (Nat.le_of_ble_eq_true rfl) ⟨Nat.le_of_ble_eq_true rfl, Nat.le_of_ble_eq_true rfl⟩ ⟨by decide, by decide⟩ (fun v G1 hp => ?_) (fun E9 G1 q9 hp => ?_)
  · obtain ⟨s1, hG1, hv1, hr1⟩ := hp
    subst hv1
    refine v_goto (pc := 120) (tgt := 443) dL_act_120 (by decide) ?_
    refine v_lret (pc := 443) hR dL_act_443 ⟨by decide, by decide⟩ ?_
    exact ⟨X, s1, _, rfl, hG1, rfl, fun c _ => rfl, Or.inl ⟨rfl, rfl, hr1⟩⟩
  · obtain ⟨hG1, hp⟩ := hp
    rcases hp with ⟨rfl, hk⟩
    · refine ⟨[], ⟨0, 443, 444, 103⟩, [⟨0, 443, 450, 107⟩, ⟨0, 443, 456, 111⟩], xIO, rfl, (fun z hz => nomatch hz), by decide, by decide, cl_L_103, ca_xIO, ?_⟩
      refine v_astore (pc := 444) dL_act_444 rfl (by decide) ?_
      refine v_ldcL (pc := 446) dL_act_446 k_L_105 ?_
      refine v_lret (pc := 449) hR dL_act_449 ⟨by decide, by decide⟩ ?_
      exact ⟨X, s, _, rfl, hG1, rfl, fun c _ => rfl, Or.inr ⟨⟨hk, rfl⟩, rfl, rfl⟩⟩
abbrev rw_act_bearsAnew : Room := { frames := 9, cells := 1, slots := 6, locals := 217 }
set_option maxRecDepth 100000 in
set_option maxHeartbeats 400000 in
theorem c_A_bearsAnew (D : DT) (G : GT) (X : XT) (s : SG) (np ns : Nat) (p0 : Int32) (p1 : Int32) (y2 : Int32) (y3 : Int32) (hG : LF X s G) (h : PV s np) (hG9 : GOK s np ns) (hb : s.1 4 0 = nI np) (hnp : np ≤ 12) (hsl2 : ∀ f, f < 12 → X.2.2.1 2 f = decide (f < np)) (hsl3 : ∀ f, f < 30 → X.2.2.1 3 f = decide (f < ns ∧ s.1 13 f = 0)) : ML yL_act cL_act 7 (Option.some Jvm.ClassFile.FieldType.long) [(0, 443, 444, 103), (0, 443, 450, 107), (0, 443, 456, 111)] rw_act_bearsAnew D [.ref (X.1 0 0), .int 8, .int p0, .int p1, .int y2, .int y3] G (AP X s (fun X' s' w => w = (finL s np ns (nat p0) (nat p1)) ∧ X' = X ∧ (∃ g, s' = sG s g) ∧ kBe np p0 p1 = 0) (fun w => (kBe np p0 p1 = 1 ∧ w = (-1731000000000)))) := by
  refine ML_of (by decide +kernel) (Nat.le_of_ble_eq_true rfl) (fun K sz hR hX => ?_)
  show V cL_act _ 7 _ D K 0 [some (.ref (X.1 0 0)), some (.int 8), some (.int p0), some (.int p1), some (.int y2), some (.int y3), none] [] G (0, 0)
  refine v_iload_n (pc := 0) dL_act_0 rfl rfl ?_
  refine v_if_ne (pc := 1) (tgt := 16) dL_act_1 (by decide) (fun c1 => ?_) (fun c1 => absurd c1 (by decide))
  refine v_iload_n (pc := 16) dL_act_16 rfl rfl ?_
  refine v_iconst (pc := 17) (v := 1) dL_act_17 (by decide) ?_
  refine v_icmp_ne (pc := 18) (tgt := 31) dL_act_18 (by decide) (fun c18 => ?_) (fun c18 => absurd c18 (by decide))
  refine v_iload_n (pc := 31) dL_act_31 rfl rfl ?_
  refine v_iconst (pc := 32) (v := 2) dL_act_32 (by decide) ?_
  refine v_icmp_ne (pc := 33) (tgt := 50) dL_act_33 (by decide) (fun c33 => ?_) (fun c33 => absurd c33 (by decide))
  refine v_iload_n (pc := 50) dL_act_50 rfl rfl ?_
  refine v_iconst (pc := 51) (v := 3) dL_act_51 (by decide) ?_
  refine v_icmp_ne (pc := 52) (tgt := 63) dL_act_52 (by decide) (fun c52 => ?_) (fun c52 => absurd c52 (by decide))
  refine v_iload_n (pc := 63) dL_act_63 rfl rfl ?_
  refine v_iconst (pc := 64) (v := 4) dL_act_64 (by decide) ?_
  refine v_icmp_ne (pc := 65) (tgt := 77) dL_act_65 (by decide) (fun c65 => ?_) (fun c65 => absurd c65 (by decide))
  refine v_iload_n (pc := 77) dL_act_77 rfl rfl ?_
  refine v_iconst (pc := 78) (v := 5) dL_act_78 (by decide) ?_
  refine v_icmp_ne (pc := 79) (tgt := 94) dL_act_79 (by decide) (fun c79 => ?_) (fun c79 => absurd c79 (by decide))
  refine v_iload_n (pc := 94) dL_act_94 rfl rfl ?_
  refine v_bipush (pc := 95) (v := 6) dL_act_95 (by decide) ?_
  refine v_icmp_ne (pc := 97) (tgt := 108) dL_act_97 (by decide) (fun c97 => ?_) (fun c97 => absurd c97 (by decide))
  refine v_iload_n (pc := 108) dL_act_108 rfl rfl ?_
  refine v_bipush (pc := 109) (v := 7) dL_act_109 (by decide) ?_
  refine v_icmp_ne (pc := 111) (tgt := 123) dL_act_111 (by decide) (fun c111 => ?_) (fun c111 => absurd c111 (by decide))
  refine v_iload_n (pc := 123) dL_act_123 rfl rfl ?_
  refine v_bipush (pc := 124) (v := 8) dL_act_124 (by decide) ?_
  refine v_icmp_ne (pc := 126) (tgt := 138) dL_act_126 (by decide) (fun c126 => absurd c126 (by decide)) (fun c126 => ?_)
  refine v_aload_n (pc := 129) dL_act_129 rfl rfl ?_
  refine v_iload_n (pc := 130) dL_act_130 rfl rfl ?_
  refine v_iload_n (pc := 131) dL_act_131 rfl rfl ?_
  refine v_try (pc := 132) (As := [.int p0, .int p1]) (rest := []) hX dL_act_132 cw_L_41 im_yX8_bearsAnew se_yX8_bearsAnew ((c_X8_bearsAnew D X s np ns p0 p1 h hG9 hb hnp hsl2 hsl3) G hG) ((hG.1 0 0 (hG.2.2.1 0 (by decide))).1.2.1) rfl rfl rfl (Nat.le_of_ble_eq_true rfl) ⟨Nat.le_of_ble_eq_true rfl, Nat.le_of_ble_eq_true rfl⟩ ⟨by decide, by decide⟩ (fun v G1 hp => ?_) (fun E9 G1 q9 hp => ?_)
  · obtain ⟨s1, hG1, hv1, hr1⟩ := hp
    subst hv1
    refine v_goto (pc := 135) (tgt := 443) dL_act_135 (by decide) ?_
    refine v_lret (pc := 443) hR dL_act_443 ⟨by decide, by decide⟩ ?_
    exact ⟨X, s1, _, rfl, hG1, rfl, fun c _ => rfl, Or.inl ⟨rfl, rfl, hr1⟩⟩
  · obtain ⟨hG1, hp⟩ := hp
    rcases hp with ⟨rfl, hk⟩
    · refine ⟨[], ⟨0, 443, 444, 103⟩, [⟨0, 443, 450, 107⟩, ⟨0, 443, 456, 111⟩], xIO, rfl, (fun z hz => nomatch hz), by decide, by decide, cl_L_103, ca_xIO, ?_⟩
      refine v_astore (pc := 444) dL_act_444 rfl (by decide) ?_
      refine v_ldcL (pc := 446) dL_act_446 k_L_105 ?_
      refine v_lret (pc := 449) hR dL_act_449 ⟨by decide, by decide⟩ ?_
      exact ⟨X, s, _, rfl, hG1, rfl, fun c _ => rfl, Or.inr ⟨⟨hk, rfl⟩, rfl, rfl⟩⟩
abbrev rw_act_knot0 : Room := { frames := 7, cells := 1, slots := 6, locals := 134 }
set_option maxRecDepth 100000 in
set_option maxHeartbeats 400000 in
theorem c_A_knot0 (D : DT) (G : GT) (X : XT) (s : SG)  (p0 : Int32) (p1 : Int32) (y3 : Int32) (hG : LF X s G)  : ML yL_act cL_act 7 (Option.some Jvm.ClassFile.FieldType.long) [(0, 443, 444, 103), (0, 443, 450, 107), (0, 443, 456, 111)] rw_act_knot0 D [.ref (X.1 0 0), .int 9, .int p0, .int p1, .int 0, .int y3] G (AP X s (fun X' s' w => w = ((s.1 15 (nat p0))).toInt64 ∧ X' = X ∧ s' = gKnot s (nat p0) p1 0 ∧ kKnot p0 p1 = 0) (fun w => (kKnot p0 p1 = 1 ∧ w = (-1731000000000)) ∨ (kKnot p0 p1 = 2 ∧ w = (-1732000000000)))) := by
  refine ML_of (by decide +kernel) (Nat.le_of_ble_eq_true rfl) (fun K sz hR hX => ?_)
  show V cL_act _ 7 _ D K 0 [some (.ref (X.1 0 0)), some (.int 9), some (.int p0), some (.int p1), some (.int 0), some (.int y3), none] [] G (0, 0)
  refine v_iload_n (pc := 0) dL_act_0 rfl rfl ?_
  refine v_if_ne (pc := 1) (tgt := 16) dL_act_1 (by decide) (fun c1 => ?_) (fun c1 => absurd c1 (by decide))
  refine v_iload_n (pc := 16) dL_act_16 rfl rfl ?_
  refine v_iconst (pc := 17) (v := 1) dL_act_17 (by decide) ?_
  refine v_icmp_ne (pc := 18) (tgt := 31) dL_act_18 (by decide) (fun c18 => ?_) (fun c18 => absurd c18 (by decide))
  refine v_iload_n (pc := 31) dL_act_31 rfl rfl ?_
  refine v_iconst (pc := 32) (v := 2) dL_act_32 (by decide) ?_
  refine v_icmp_ne (pc := 33) (tgt := 50) dL_act_33 (by decide) (fun c33 => ?_) (fun c33 => absurd c33 (by decide))
  refine v_iload_n (pc := 50) dL_act_50 rfl rfl ?_
  refine v_iconst (pc := 51) (v := 3) dL_act_51 (by decide) ?_
  refine v_icmp_ne (pc := 52) (tgt := 63) dL_act_52 (by decide) (fun c52 => ?_) (fun c52 => absurd c52 (by decide))
  refine v_iload_n (pc := 63) dL_act_63 rfl rfl ?_
  refine v_iconst (pc := 64) (v := 4) dL_act_64 (by decide) ?_
  refine v_icmp_ne (pc := 65) (tgt := 77) dL_act_65 (by decide) (fun c65 => ?_) (fun c65 => absurd c65 (by decide))
  refine v_iload_n (pc := 77) dL_act_77 rfl rfl ?_
  refine v_iconst (pc := 78) (v := 5) dL_act_78 (by decide) ?_
  refine v_icmp_ne (pc := 79) (tgt := 94) dL_act_79 (by decide) (fun c79 => ?_) (fun c79 => absurd c79 (by decide))
  refine v_iload_n (pc := 94) dL_act_94 rfl rfl ?_
  refine v_bipush (pc := 95) (v := 6) dL_act_95 (by decide) ?_
  refine v_icmp_ne (pc := 97) (tgt := 108) dL_act_97 (by decide) (fun c97 => ?_) (fun c97 => absurd c97 (by decide))
  refine v_iload_n (pc := 108) dL_act_108 rfl rfl ?_
  refine v_bipush (pc := 109) (v := 7) dL_act_109 (by decide) ?_
  refine v_icmp_ne (pc := 111) (tgt := 123) dL_act_111 (by decide) (fun c111 => ?_) (fun c111 => absurd c111 (by decide))
  refine v_iload_n (pc := 123) dL_act_123 rfl rfl ?_
  refine v_bipush (pc := 124) (v := 8) dL_act_124 (by decide) ?_
  refine v_icmp_ne (pc := 126) (tgt := 138) dL_act_126 (by decide) (fun c126 => ?_) (fun c126 => absurd c126 (by decide))
  refine v_iload_n (pc := 138) dL_act_138 rfl rfl ?_
  refine v_bipush (pc := 139) (v := 9) dL_act_139 (by decide) ?_
  refine v_icmp_ne (pc := 141) (tgt := 165) dL_act_141 (by decide) (fun c141 => absurd c141 (by decide)) (fun c141 => ?_)
  refine v_aload_n (pc := 144) dL_act_144 rfl rfl ?_
  refine v_iload_n (pc := 145) dL_act_145 rfl rfl ?_
  refine v_iload_n (pc := 146) dL_act_146 rfl rfl ?_
  refine v_iload (pc := 147) dL_act_147 rfl ?_
  refine v_iconst (pc := 149) (v := 1) dL_act_149 (by decide) ?_
  refine v_icmp_ne (pc := 150) (tgt := 157) dL_act_150 (by decide) (fun c150 => ?_) (fun c150 => absurd c150 (by decide))
  refine v_iconst (pc := 157) (v := 0) dL_act_157 (by decide) ?_
  refine v_try (pc := 158) (As := [.int p0, .int p1, .int 0]) (rest := []) hX dL_act_158 cw_L_44 im_yX8_knot se_yX8_knot ((c_X8_knot D X s p0 p1 0 (Or.inl rfl)) G hG) ((hG.1 0 0 (hG.2.2.1 0 (by decide))).1.2.1) rfl rfl rfl (Nat.le_of_ble_eq_true rfl) ⟨Nat.le_of_ble_eq_true rfl, Nat.le_of_ble_eq_true rfl⟩ ⟨by decide, by decide⟩ (fun v G1 hp => ?_) (fun E9 G1 q9 hp => ?_)
  · obtain ⟨s1, hG1, hv1, hr1⟩ := hp
    subst hv1
    refine v_i2l (pc := 161) dL_act_161 ?_
    refine v_goto (pc := 162) (tgt := 443) dL_act_162 (by decide) ?_
    refine v_lret (pc := 443) hR dL_act_443 ⟨by decide, by decide⟩ ?_
    exact ⟨X, s1, _, rfl, hG1, rfl, fun c _ => rfl, Or.inl ⟨rfl, rfl, hr1⟩⟩
  · obtain ⟨hG1, hp⟩ := hp
    rcases hp with ⟨rfl, hk⟩ | ⟨rfl, hk⟩
    · refine ⟨[], ⟨0, 443, 444, 103⟩, [⟨0, 443, 450, 107⟩, ⟨0, 443, 456, 111⟩], xIO, rfl, (fun z hz => nomatch hz), by decide, by decide, cl_L_103, ca_xIO, ?_⟩
      refine v_astore (pc := 444) dL_act_444 rfl (by decide) ?_
      refine v_ldcL (pc := 446) dL_act_446 k_L_105 ?_
      refine v_lret (pc := 449) hR dL_act_449 ⟨by decide, by decide⟩ ?_
      exact ⟨X, s, _, rfl, hG1, rfl, fun c _ => rfl, Or.inr ⟨Or.inl ⟨hk, rfl⟩, rfl, rfl⟩⟩
    · refine ⟨[⟨0, 443, 444, 103⟩], ⟨0, 443, 450, 107⟩, [⟨0, 443, 456, 111⟩], xIA, rfl, (List.forall_mem_cons.mpr ⟨Or.inr ⟨by decide, xIO, cl_L_103, (Or.inl ⟨rfl, rfl⟩)⟩, fun z hz => nomatch hz⟩), by decide, by decide, cl_L_107, ca_xIA, ?_⟩
      refine v_astore (pc := 450) dL_act_450 rfl (by decide) ?_
      refine v_ldcL (pc := 452) dL_act_452 k_L_109 ?_
      refine v_lret (pc := 455) hR dL_act_455 ⟨by decide, by decide⟩ ?_
      exact ⟨X, s, _, rfl, hG1, rfl, fun c _ => rfl, Or.inr ⟨Or.inr ⟨hk, rfl⟩, rfl, rfl⟩⟩
abbrev rw_act_knot1 : Room := { frames := 7, cells := 1, slots := 6, locals := 134 }
set_option maxRecDepth 100000 in
set_option maxHeartbeats 400000 in
theorem c_A_knot1 (D : DT) (G : GT) (X : XT) (s : SG)  (p0 : Int32) (p1 : Int32) (y3 : Int32) (hG : LF X s G)  : ML yL_act cL_act 7 (Option.some Jvm.ClassFile.FieldType.long) [(0, 443, 444, 103), (0, 443, 450, 107), (0, 443, 456, 111)] rw_act_knot1 D [.ref (X.1 0 0), .int 9, .int p0, .int p1, .int 1, .int y3] G (AP X s (fun X' s' w => w = ((s.1 15 (nat p0))).toInt64 ∧ X' = X ∧ s' = gKnot s (nat p0) p1 1 ∧ kKnot p0 p1 = 0) (fun w => (kKnot p0 p1 = 1 ∧ w = (-1731000000000)) ∨ (kKnot p0 p1 = 2 ∧ w = (-1732000000000)))) := by
  refine ML_of (by decide +kernel) (Nat.le_of_ble_eq_true rfl) (fun K sz hR hX => ?_)
  show V cL_act _ 7 _ D K 0 [some (.ref (X.1 0 0)), some (.int 9), some (.int p0), some (.int p1), some (.int 1), some (.int y3), none] [] G (0, 0)
  refine v_iload_n (pc := 0) dL_act_0 rfl rfl ?_
  refine v_if_ne (pc := 1) (tgt := 16) dL_act_1 (by decide) (fun c1 => ?_) (fun c1 => absurd c1 (by decide))
  refine v_iload_n (pc := 16) dL_act_16 rfl rfl ?_
  refine v_iconst (pc := 17) (v := 1) dL_act_17 (by decide) ?_
  refine v_icmp_ne (pc := 18) (tgt := 31) dL_act_18 (by decide) (fun c18 => ?_) (fun c18 => absurd c18 (by decide))
  refine v_iload_n (pc := 31) dL_act_31 rfl rfl ?_
  refine v_iconst (pc := 32) (v := 2) dL_act_32 (by decide) ?_
  refine v_icmp_ne (pc := 33) (tgt := 50) dL_act_33 (by decide) (fun c33 => ?_) (fun c33 => absurd c33 (by decide))
  refine v_iload_n (pc := 50) dL_act_50 rfl rfl ?_
  refine v_iconst (pc := 51) (v := 3) dL_act_51 (by decide) ?_
  refine v_icmp_ne (pc := 52) (tgt := 63) dL_act_52 (by decide) (fun c52 => ?_) (fun c52 => absurd c52 (by decide))
  refine v_iload_n (pc := 63) dL_act_63 rfl rfl ?_
  refine v_iconst (pc := 64) (v := 4) dL_act_64 (by decide) ?_
  refine v_icmp_ne (pc := 65) (tgt := 77) dL_act_65 (by decide) (fun c65 => ?_) (fun c65 => absurd c65 (by decide))
  refine v_iload_n (pc := 77) dL_act_77 rfl rfl ?_
  refine v_iconst (pc := 78) (v := 5) dL_act_78 (by decide) ?_
  refine v_icmp_ne (pc := 79) (tgt := 94) dL_act_79 (by decide) (fun c79 => ?_) (fun c79 => absurd c79 (by decide))
  refine v_iload_n (pc := 94) dL_act_94 rfl rfl ?_
  refine v_bipush (pc := 95) (v := 6) dL_act_95 (by decide) ?_
  refine v_icmp_ne (pc := 97) (tgt := 108) dL_act_97 (by decide) (fun c97 => ?_) (fun c97 => absurd c97 (by decide))
  refine v_iload_n (pc := 108) dL_act_108 rfl rfl ?_
  refine v_bipush (pc := 109) (v := 7) dL_act_109 (by decide) ?_
  refine v_icmp_ne (pc := 111) (tgt := 123) dL_act_111 (by decide) (fun c111 => ?_) (fun c111 => absurd c111 (by decide))
  refine v_iload_n (pc := 123) dL_act_123 rfl rfl ?_
  refine v_bipush (pc := 124) (v := 8) dL_act_124 (by decide) ?_
  refine v_icmp_ne (pc := 126) (tgt := 138) dL_act_126 (by decide) (fun c126 => ?_) (fun c126 => absurd c126 (by decide))
  refine v_iload_n (pc := 138) dL_act_138 rfl rfl ?_
  refine v_bipush (pc := 139) (v := 9) dL_act_139 (by decide) ?_
  refine v_icmp_ne (pc := 141) (tgt := 165) dL_act_141 (by decide) (fun c141 => absurd c141 (by decide)) (fun c141 => ?_)
  refine v_aload_n (pc := 144) dL_act_144 rfl rfl ?_
  refine v_iload_n (pc := 145) dL_act_145 rfl rfl ?_
  refine v_iload_n (pc := 146) dL_act_146 rfl rfl ?_
  refine v_iload (pc := 147) dL_act_147 rfl ?_
  refine v_iconst (pc := 149) (v := 1) dL_act_149 (by decide) ?_
  refine v_icmp_ne (pc := 150) (tgt := 157) dL_act_150 (by decide) (fun c150 => absurd c150 (by decide)) (fun c150 => ?_)
  refine v_iconst (pc := 153) (v := 1) dL_act_153 (by decide) ?_
  refine v_goto (pc := 154) (tgt := 158) dL_act_154 (by decide) ?_
  refine v_try (pc := 158) (As := [.int p0, .int p1, .int 1]) (rest := []) hX dL_act_158 cw_L_44 im_yX8_knot se_yX8_knot ((c_X8_knot D X s p0 p1 1 (Or.inr rfl)) G hG) ((hG.1 0 0 (hG.2.2.1 0 (by decide))).1.2.1) rfl rfl rfl (Nat.le_of_ble_eq_true rfl) ⟨Nat.le_of_ble_eq_true rfl, Nat.le_of_ble_eq_true rfl⟩ ⟨by decide, by decide⟩ (fun v G1 hp => ?_) (fun E9 G1 q9 hp => ?_)
  · obtain ⟨s1, hG1, hv1, hr1⟩ := hp
    subst hv1
    refine v_i2l (pc := 161) dL_act_161 ?_
    refine v_goto (pc := 162) (tgt := 443) dL_act_162 (by decide) ?_
    refine v_lret (pc := 443) hR dL_act_443 ⟨by decide, by decide⟩ ?_
    exact ⟨X, s1, _, rfl, hG1, rfl, fun c _ => rfl, Or.inl ⟨rfl, rfl, hr1⟩⟩
  · obtain ⟨hG1, hp⟩ := hp
    rcases hp with ⟨rfl, hk⟩ | ⟨rfl, hk⟩
    · refine ⟨[], ⟨0, 443, 444, 103⟩, [⟨0, 443, 450, 107⟩, ⟨0, 443, 456, 111⟩], xIO, rfl, (fun z hz => nomatch hz), by decide, by decide, cl_L_103, ca_xIO, ?_⟩
      refine v_astore (pc := 444) dL_act_444 rfl (by decide) ?_
      refine v_ldcL (pc := 446) dL_act_446 k_L_105 ?_
      refine v_lret (pc := 449) hR dL_act_449 ⟨by decide, by decide⟩ ?_
      exact ⟨X, s, _, rfl, hG1, rfl, fun c _ => rfl, Or.inr ⟨Or.inl ⟨hk, rfl⟩, rfl, rfl⟩⟩
    · refine ⟨[⟨0, 443, 444, 103⟩], ⟨0, 443, 450, 107⟩, [⟨0, 443, 456, 111⟩], xIA, rfl, (List.forall_mem_cons.mpr ⟨Or.inr ⟨by decide, xIO, cl_L_103, (Or.inl ⟨rfl, rfl⟩)⟩, fun z hz => nomatch hz⟩), by decide, by decide, cl_L_107, ca_xIA, ?_⟩
      refine v_astore (pc := 450) dL_act_450 rfl (by decide) ?_
      refine v_ldcL (pc := 452) dL_act_452 k_L_109 ?_
      refine v_lret (pc := 455) hR dL_act_455 ⟨by decide, by decide⟩ ?_
      exact ⟨X, s, _, rfl, hG1, rfl, fun c _ => rfl, Or.inr ⟨Or.inr ⟨hk, rfl⟩, rfl, rfl⟩⟩
abbrev rw_act_load : Room := { frames := 7, cells := 1, slots := 6, locals := 132 }
set_option maxRecDepth 100000 in
set_option maxHeartbeats 400000 in
theorem c_A_load (D : DT) (G : GT) (X : XT) (s : SG)  (p0 : Int32) (y1 : Int32) (y2 : Int32) (y3 : Int32) (hG : LF X s G)  : ML yL_act cL_act 7 (Option.some Jvm.ClassFile.FieldType.long) [(0, 443, 444, 103), (0, 443, 450, 107), (0, 443, 456, 111)] rw_act_load D [.ref (X.1 0 0), .int 10, .int p0, .int y1, .int y2, .int y3] G (AP X s (fun X' s' w => w = ((s.1 18 0)).toInt64 ∧ X' = X ∧ s' = sI s 18 0 p0 ∧ kLoad p0 = 0) (fun w => (kLoad p0 = 1 ∧ w = (-1732000000000)))) := by
  refine ML_of (by decide +kernel) (Nat.le_of_ble_eq_true rfl) (fun K sz hR hX => ?_)
  show V cL_act _ 7 _ D K 0 [some (.ref (X.1 0 0)), some (.int 10), some (.int p0), some (.int y1), some (.int y2), some (.int y3), none] [] G (0, 0)
  refine v_iload_n (pc := 0) dL_act_0 rfl rfl ?_
  refine v_if_ne (pc := 1) (tgt := 16) dL_act_1 (by decide) (fun c1 => ?_) (fun c1 => absurd c1 (by decide))
  refine v_iload_n (pc := 16) dL_act_16 rfl rfl ?_
  refine v_iconst (pc := 17) (v := 1) dL_act_17 (by decide) ?_
  refine v_icmp_ne (pc := 18) (tgt := 31) dL_act_18 (by decide) (fun c18 => ?_) (fun c18 => absurd c18 (by decide))
  refine v_iload_n (pc := 31) dL_act_31 rfl rfl ?_
  refine v_iconst (pc := 32) (v := 2) dL_act_32 (by decide) ?_
  refine v_icmp_ne (pc := 33) (tgt := 50) dL_act_33 (by decide) (fun c33 => ?_) (fun c33 => absurd c33 (by decide))
  refine v_iload_n (pc := 50) dL_act_50 rfl rfl ?_
  refine v_iconst (pc := 51) (v := 3) dL_act_51 (by decide) ?_
  refine v_icmp_ne (pc := 52) (tgt := 63) dL_act_52 (by decide) (fun c52 => ?_) (fun c52 => absurd c52 (by decide))
  refine v_iload_n (pc := 63) dL_act_63 rfl rfl ?_
  refine v_iconst (pc := 64) (v := 4) dL_act_64 (by decide) ?_
  refine v_icmp_ne (pc := 65) (tgt := 77) dL_act_65 (by decide) (fun c65 => ?_) (fun c65 => absurd c65 (by decide))
  refine v_iload_n (pc := 77) dL_act_77 rfl rfl ?_
  refine v_iconst (pc := 78) (v := 5) dL_act_78 (by decide) ?_
  refine v_icmp_ne (pc := 79) (tgt := 94) dL_act_79 (by decide) (fun c79 => ?_) (fun c79 => absurd c79 (by decide))
  refine v_iload_n (pc := 94) dL_act_94 rfl rfl ?_
  refine v_bipush (pc := 95) (v := 6) dL_act_95 (by decide) ?_
  refine v_icmp_ne (pc := 97) (tgt := 108) dL_act_97 (by decide) (fun c97 => ?_) (fun c97 => absurd c97 (by decide))
  refine v_iload_n (pc := 108) dL_act_108 rfl rfl ?_
  refine v_bipush (pc := 109) (v := 7) dL_act_109 (by decide) ?_
  refine v_icmp_ne (pc := 111) (tgt := 123) dL_act_111 (by decide) (fun c111 => ?_) (fun c111 => absurd c111 (by decide))
  refine v_iload_n (pc := 123) dL_act_123 rfl rfl ?_
  refine v_bipush (pc := 124) (v := 8) dL_act_124 (by decide) ?_
  refine v_icmp_ne (pc := 126) (tgt := 138) dL_act_126 (by decide) (fun c126 => ?_) (fun c126 => absurd c126 (by decide))
  refine v_iload_n (pc := 138) dL_act_138 rfl rfl ?_
  refine v_bipush (pc := 139) (v := 9) dL_act_139 (by decide) ?_
  refine v_icmp_ne (pc := 141) (tgt := 165) dL_act_141 (by decide) (fun c141 => ?_) (fun c141 => absurd c141 (by decide))
  refine v_iload_n (pc := 165) dL_act_165 rfl rfl ?_
  refine v_bipush (pc := 166) (v := 10) dL_act_166 (by decide) ?_
  refine v_icmp_ne (pc := 168) (tgt := 180) dL_act_168 (by decide) (fun c168 => absurd c168 (by decide)) (fun c168 => ?_)
  refine v_aload_n (pc := 171) dL_act_171 rfl rfl ?_
  refine v_iload_n (pc := 172) dL_act_172 rfl rfl ?_
  refine v_try (pc := 173) (As := [.int p0]) (rest := []) hX dL_act_173 cw_L_48 im_yX8_load se_yX8_load ((c_X8_load D X s p0) G hG) ((hG.1 0 0 (hG.2.2.1 0 (by decide))).1.2.1) rfl rfl rfl (Nat.le_of_ble_eq_true rfl) ⟨Nat.le_of_ble_eq_true rfl, Nat.le_of_ble_eq_true rfl⟩ ⟨by decide, by decide⟩ (fun v G1 hp => ?_) (fun E9 G1 q9 hp => ?_)
  · obtain ⟨s1, hG1, hv1, hr1⟩ := hp
    subst hv1
    refine v_i2l (pc := 176) dL_act_176 ?_
    refine v_goto (pc := 177) (tgt := 443) dL_act_177 (by decide) ?_
    refine v_lret (pc := 443) hR dL_act_443 ⟨by decide, by decide⟩ ?_
    exact ⟨X, s1, _, rfl, hG1, rfl, fun c _ => rfl, Or.inl ⟨rfl, rfl, hr1⟩⟩
  · obtain ⟨hG1, hp⟩ := hp
    rcases hp with ⟨rfl, hk⟩
    · refine ⟨[⟨0, 443, 444, 103⟩], ⟨0, 443, 450, 107⟩, [⟨0, 443, 456, 111⟩], xIA, rfl, (List.forall_mem_cons.mpr ⟨Or.inr ⟨by decide, xIO, cl_L_103, (Or.inl ⟨rfl, rfl⟩)⟩, fun z hz => nomatch hz⟩), by decide, by decide, cl_L_107, ca_xIA, ?_⟩
      refine v_astore (pc := 450) dL_act_450 rfl (by decide) ?_
      refine v_ldcL (pc := 452) dL_act_452 k_L_109 ?_
      refine v_lret (pc := 455) hR dL_act_455 ⟨by decide, by decide⟩ ?_
      exact ⟨X, s, _, rfl, hG1, rfl, fun c _ => rfl, Or.inr ⟨⟨hk, rfl⟩, rfl, rfl⟩⟩
abbrev rw_act_rest : Room := { frames := 7, cells := 1, slots := 6, locals := 159 }
set_option maxRecDepth 100000 in
set_option maxHeartbeats 400000 in
theorem c_A_rest (D : DT) (G : GT) (X : XT) (s : SG)  (p0 : Int32) (y1 : Int32) (y2 : Int32) (y3 : Int32) (hG : LF X s G)  : ML yL_act cL_act 7 (Option.some Jvm.ClassFile.FieldType.long) [(0, 443, 444, 103), (0, 443, 450, 107), (0, 443, 456, 111)] rw_act_rest D [.ref (X.1 0 0), .int 11, .int p0, .int y1, .int y2, .int y3] G (AP X s (fun X' s' w => w = ((nI (runC s (nat p0)).2)).toInt64 ∧ X' = X ∧ s' = (runC s (nat p0)).1 ∧ kRest p0 = 0) (fun w => (kRest p0 = 1 ∧ w = (-1732000000000)))) := by
  refine ML_of (by decide +kernel) (Nat.le_of_ble_eq_true rfl) (fun K sz hR hX => ?_)
  show V cL_act _ 7 _ D K 0 [some (.ref (X.1 0 0)), some (.int 11), some (.int p0), some (.int y1), some (.int y2), some (.int y3), none] [] G (0, 0)
  refine v_iload_n (pc := 0) dL_act_0 rfl rfl ?_
  refine v_if_ne (pc := 1) (tgt := 16) dL_act_1 (by decide) (fun c1 => ?_) (fun c1 => absurd c1 (by decide))
  refine v_iload_n (pc := 16) dL_act_16 rfl rfl ?_
  refine v_iconst (pc := 17) (v := 1) dL_act_17 (by decide) ?_
  refine v_icmp_ne (pc := 18) (tgt := 31) dL_act_18 (by decide) (fun c18 => ?_) (fun c18 => absurd c18 (by decide))
  refine v_iload_n (pc := 31) dL_act_31 rfl rfl ?_
  refine v_iconst (pc := 32) (v := 2) dL_act_32 (by decide) ?_
  refine v_icmp_ne (pc := 33) (tgt := 50) dL_act_33 (by decide) (fun c33 => ?_) (fun c33 => absurd c33 (by decide))
  refine v_iload_n (pc := 50) dL_act_50 rfl rfl ?_
  refine v_iconst (pc := 51) (v := 3) dL_act_51 (by decide) ?_
  refine v_icmp_ne (pc := 52) (tgt := 63) dL_act_52 (by decide) (fun c52 => ?_) (fun c52 => absurd c52 (by decide))
  refine v_iload_n (pc := 63) dL_act_63 rfl rfl ?_
  refine v_iconst (pc := 64) (v := 4) dL_act_64 (by decide) ?_
  refine v_icmp_ne (pc := 65) (tgt := 77) dL_act_65 (by decide) (fun c65 => ?_) (fun c65 => absurd c65 (by decide))
  refine v_iload_n (pc := 77) dL_act_77 rfl rfl ?_
  refine v_iconst (pc := 78) (v := 5) dL_act_78 (by decide) ?_
  refine v_icmp_ne (pc := 79) (tgt := 94) dL_act_79 (by decide) (fun c79 => ?_) (fun c79 => absurd c79 (by decide))
  refine v_iload_n (pc := 94) dL_act_94 rfl rfl ?_
  refine v_bipush (pc := 95) (v := 6) dL_act_95 (by decide) ?_
  refine v_icmp_ne (pc := 97) (tgt := 108) dL_act_97 (by decide) (fun c97 => ?_) (fun c97 => absurd c97 (by decide))
  refine v_iload_n (pc := 108) dL_act_108 rfl rfl ?_
  refine v_bipush (pc := 109) (v := 7) dL_act_109 (by decide) ?_
  refine v_icmp_ne (pc := 111) (tgt := 123) dL_act_111 (by decide) (fun c111 => ?_) (fun c111 => absurd c111 (by decide))
  refine v_iload_n (pc := 123) dL_act_123 rfl rfl ?_
  refine v_bipush (pc := 124) (v := 8) dL_act_124 (by decide) ?_
  refine v_icmp_ne (pc := 126) (tgt := 138) dL_act_126 (by decide) (fun c126 => ?_) (fun c126 => absurd c126 (by decide))
  refine v_iload_n (pc := 138) dL_act_138 rfl rfl ?_
  refine v_bipush (pc := 139) (v := 9) dL_act_139 (by decide) ?_
  refine v_icmp_ne (pc := 141) (tgt := 165) dL_act_141 (by decide) (fun c141 => ?_) (fun c141 => absurd c141 (by decide))
  refine v_iload_n (pc := 165) dL_act_165 rfl rfl ?_
  refine v_bipush (pc := 166) (v := 10) dL_act_166 (by decide) ?_
  refine v_icmp_ne (pc := 168) (tgt := 180) dL_act_168 (by decide) (fun c168 => ?_) (fun c168 => absurd c168 (by decide))
  refine v_iload_n (pc := 180) dL_act_180 rfl rfl ?_
  refine v_bipush (pc := 181) (v := 11) dL_act_181 (by decide) ?_
  refine v_icmp_ne (pc := 183) (tgt := 195) dL_act_183 (by decide) (fun c183 => absurd c183 (by decide)) (fun c183 => ?_)
  refine v_aload_n (pc := 186) dL_act_186 rfl rfl ?_
  refine v_iload_n (pc := 187) dL_act_187 rfl rfl ?_
  refine v_try (pc := 188) (As := [.int p0]) (rest := []) hX dL_act_188 cw_L_51 im_yX8_rest se_yX8_rest ((c_X8_rest D X s p0) G hG) ((hG.1 0 0 (hG.2.2.1 0 (by decide))).1.2.1) rfl rfl rfl (Nat.le_of_ble_eq_true rfl) ⟨Nat.le_of_ble_eq_true rfl, Nat.le_of_ble_eq_true rfl⟩ ⟨by decide, by decide⟩ (fun v G1 hp => ?_) (fun E9 G1 q9 hp => ?_)
  · obtain ⟨s1, hG1, hv1, hr1⟩ := hp
    subst hv1
    refine v_i2l (pc := 191) dL_act_191 ?_
    refine v_goto (pc := 192) (tgt := 443) dL_act_192 (by decide) ?_
    refine v_lret (pc := 443) hR dL_act_443 ⟨by decide, by decide⟩ ?_
    exact ⟨X, s1, _, rfl, hG1, rfl, fun c _ => rfl, Or.inl ⟨rfl, rfl, hr1⟩⟩
  · obtain ⟨hG1, hp⟩ := hp
    rcases hp with ⟨rfl, hk⟩
    · refine ⟨[⟨0, 443, 444, 103⟩], ⟨0, 443, 450, 107⟩, [⟨0, 443, 456, 111⟩], xIA, rfl, (List.forall_mem_cons.mpr ⟨Or.inr ⟨by decide, xIO, cl_L_103, (Or.inl ⟨rfl, rfl⟩)⟩, fun z hz => nomatch hz⟩), by decide, by decide, cl_L_107, ca_xIA, ?_⟩
      refine v_astore (pc := 450) dL_act_450 rfl (by decide) ?_
      refine v_ldcL (pc := 452) dL_act_452 k_L_109 ?_
      refine v_lret (pc := 455) hR dL_act_455 ⟨by decide, by decide⟩ ?_
      exact ⟨X, s, _, rfl, hG1, rfl, fun c _ => rfl, Or.inr ⟨⟨hk, rfl⟩, rfl, rfl⟩⟩
abbrev rw_act_height : Room := { frames := 7, cells := 1, slots := 6, locals := 131 }
set_option maxRecDepth 100000 in
set_option maxHeartbeats 400000 in
theorem c_A_height (D : DT) (G : GT) (X : XT) (s : SG)  (p0 : Int32) (y1 : Int32) (y2 : Int32) (y3 : Int32) (hG : LF X s G)  : ML yL_act cL_act 7 (Option.some Jvm.ClassFile.FieldType.long) [(0, 443, 444, 103), (0, 443, 450, 107), (0, 443, 456, 111)] rw_act_height D [.ref (X.1 0 0), .int 12, .int p0, .int y1, .int y2, .int y3] G (AP X s (fun X' s' w => w = ((s.1 15 (nat p0))).toInt64 ∧ X' = X ∧ s' = s ∧ kHt p0 = 0) (fun w => (kHt p0 = 1 ∧ w = (-1731000000000)))) := by
  refine ML_of (by decide +kernel) (Nat.le_of_ble_eq_true rfl) (fun K sz hR hX => ?_)
  show V cL_act _ 7 _ D K 0 [some (.ref (X.1 0 0)), some (.int 12), some (.int p0), some (.int y1), some (.int y2), some (.int y3), none] [] G (0, 0)
  refine v_iload_n (pc := 0) dL_act_0 rfl rfl ?_
  refine v_if_ne (pc := 1) (tgt := 16) dL_act_1 (by decide) (fun c1 => ?_) (fun c1 => absurd c1 (by decide))
  refine v_iload_n (pc := 16) dL_act_16 rfl rfl ?_
  refine v_iconst (pc := 17) (v := 1) dL_act_17 (by decide) ?_
  refine v_icmp_ne (pc := 18) (tgt := 31) dL_act_18 (by decide) (fun c18 => ?_) (fun c18 => absurd c18 (by decide))
  refine v_iload_n (pc := 31) dL_act_31 rfl rfl ?_
  refine v_iconst (pc := 32) (v := 2) dL_act_32 (by decide) ?_
  refine v_icmp_ne (pc := 33) (tgt := 50) dL_act_33 (by decide) (fun c33 => ?_) (fun c33 => absurd c33 (by decide))
  refine v_iload_n (pc := 50) dL_act_50 rfl rfl ?_
  refine v_iconst (pc := 51) (v := 3) dL_act_51 (by decide) ?_
  refine v_icmp_ne (pc := 52) (tgt := 63) dL_act_52 (by decide) (fun c52 => ?_) (fun c52 => absurd c52 (by decide))
  refine v_iload_n (pc := 63) dL_act_63 rfl rfl ?_
  refine v_iconst (pc := 64) (v := 4) dL_act_64 (by decide) ?_
  refine v_icmp_ne (pc := 65) (tgt := 77) dL_act_65 (by decide) (fun c65 => ?_) (fun c65 => absurd c65 (by decide))
  refine v_iload_n (pc := 77) dL_act_77 rfl rfl ?_
  refine v_iconst (pc := 78) (v := 5) dL_act_78 (by decide) ?_
  refine v_icmp_ne (pc := 79) (tgt := 94) dL_act_79 (by decide) (fun c79 => ?_) (fun c79 => absurd c79 (by decide))
  refine v_iload_n (pc := 94) dL_act_94 rfl rfl ?_
  refine v_bipush (pc := 95) (v := 6) dL_act_95 (by decide) ?_
  refine v_icmp_ne (pc := 97) (tgt := 108) dL_act_97 (by decide) (fun c97 => ?_) (fun c97 => absurd c97 (by decide))
  refine v_iload_n (pc := 108) dL_act_108 rfl rfl ?_
  refine v_bipush (pc := 109) (v := 7) dL_act_109 (by decide) ?_
  refine v_icmp_ne (pc := 111) (tgt := 123) dL_act_111 (by decide) (fun c111 => ?_) (fun c111 => absurd c111 (by decide))
  refine v_iload_n (pc := 123) dL_act_123 rfl rfl ?_
  refine v_bipush (pc := 124) (v := 8) dL_act_124 (by decide) ?_
  refine v_icmp_ne (pc := 126) (tgt := 138) dL_act_126 (by decide) (fun c126 => ?_) (fun c126 => absurd c126 (by decide))
  refine v_iload_n (pc := 138) dL_act_138 rfl rfl ?_
  refine v_bipush (pc := 139) (v := 9) dL_act_139 (by decide) ?_
  refine v_icmp_ne (pc := 141) (tgt := 165) dL_act_141 (by decide) (fun c141 => ?_) (fun c141 => absurd c141 (by decide))
  refine v_iload_n (pc := 165) dL_act_165 rfl rfl ?_
  refine v_bipush (pc := 166) (v := 10) dL_act_166 (by decide) ?_
  refine v_icmp_ne (pc := 168) (tgt := 180) dL_act_168 (by decide) (fun c168 => ?_) (fun c168 => absurd c168 (by decide))
  refine v_iload_n (pc := 180) dL_act_180 rfl rfl ?_
  refine v_bipush (pc := 181) (v := 11) dL_act_181 (by decide) ?_
  refine v_icmp_ne (pc := 183) (tgt := 195) dL_act_183 (by decide) (fun c183 => ?_) (fun c183 => absurd c183 (by decide))
  refine v_iload_n (pc := 195) dL_act_195 rfl rfl ?_
  refine v_bipush (pc := 196) (v := 12) dL_act_196 (by decide) ?_
  refine v_icmp_ne (pc := 198) (tgt := 210) dL_act_198 (by decide) (fun c198 => absurd c198 (by decide)) (fun c198 => ?_)
  refine v_aload_n (pc := 201) dL_act_201 rfl rfl ?_
  refine v_iload_n (pc := 202) dL_act_202 rfl rfl ?_
  refine v_try (pc := 203) (As := [.int p0]) (rest := []) hX dL_act_203 cw_L_54 im_yX8_height se_yX8_height ((c_X8_height D X s p0) G hG) ((hG.1 0 0 (hG.2.2.1 0 (by decide))).1.2.1) rfl rfl rfl (Nat.le_of_ble_eq_true rfl) ⟨Nat.le_of_ble_eq_true rfl, Nat.le_of_ble_eq_true rfl⟩ ⟨by decide, by decide⟩ (fun v G1 hp => ?_) (fun E9 G1 q9 hp => ?_)
  · obtain ⟨s1, hG1, hv1, hr1⟩ := hp
    subst hv1
    refine v_i2l (pc := 206) dL_act_206 ?_
    refine v_goto (pc := 207) (tgt := 443) dL_act_207 (by decide) ?_
    refine v_lret (pc := 443) hR dL_act_443 ⟨by decide, by decide⟩ ?_
    exact ⟨X, s1, _, rfl, hG1, rfl, fun c _ => rfl, Or.inl ⟨rfl, rfl, hr1⟩⟩
  · obtain ⟨hG1, hp⟩ := hp
    rcases hp with ⟨rfl, hk⟩
    · refine ⟨[], ⟨0, 443, 444, 103⟩, [⟨0, 443, 450, 107⟩, ⟨0, 443, 456, 111⟩], xIO, rfl, (fun z hz => nomatch hz), by decide, by decide, cl_L_103, ca_xIO, ?_⟩
      refine v_astore (pc := 444) dL_act_444 rfl (by decide) ?_
      refine v_ldcL (pc := 446) dL_act_446 k_L_105 ?_
      refine v_lret (pc := 449) hR dL_act_449 ⟨by decide, by decide⟩ ?_
      exact ⟨X, s, _, rfl, hG1, rfl, fun c _ => rfl, Or.inr ⟨⟨hk, rfl⟩, rfl, rfl⟩⟩
abbrev rw_act_pulled : Room := { frames := 7, cells := 1, slots := 6, locals := 132 }
set_option maxRecDepth 100000 in
set_option maxHeartbeats 400000 in
theorem c_A_pulled (D : DT) (G : GT) (X : XT) (s : SG) (g : Nat) (p0 : Int32) (y1 : Int32) (y2 : Int32) (y3 : Int32) (hG : LF X s G) (hg : s.1 19 0 = nI g) (hg8 : g ≤ 8) (hsl : ∀ f, f < 8 → X.2.2.1 4 f = decide (f < g)) : ML yL_act cL_act 7 (Option.some Jvm.ClassFile.FieldType.long) [(0, 443, 444, 103), (0, 443, 450, 107), (0, 443, 456, 111)] rw_act_pulled D [.ref (X.1 0 0), .int 13, .int p0, .int y1, .int y2, .int y3] G (AP X s (fun X' s' w => w = (s.2 23 (nat p0)) ∧ X' = X ∧ s' = s ∧ kPul g p0 = 0) (fun w => (kPul g p0 = 1 ∧ w = (-1731000000000)))) := by
  refine ML_of (by decide +kernel) (Nat.le_of_ble_eq_true rfl) (fun K sz hR hX => ?_)
  show V cL_act _ 7 _ D K 0 [some (.ref (X.1 0 0)), some (.int 13), some (.int p0), some (.int y1), some (.int y2), some (.int y3), none] [] G (0, 0)
  refine v_iload_n (pc := 0) dL_act_0 rfl rfl ?_
  refine v_if_ne (pc := 1) (tgt := 16) dL_act_1 (by decide) (fun c1 => ?_) (fun c1 => absurd c1 (by decide))
  refine v_iload_n (pc := 16) dL_act_16 rfl rfl ?_
  refine v_iconst (pc := 17) (v := 1) dL_act_17 (by decide) ?_
  refine v_icmp_ne (pc := 18) (tgt := 31) dL_act_18 (by decide) (fun c18 => ?_) (fun c18 => absurd c18 (by decide))
  refine v_iload_n (pc := 31) dL_act_31 rfl rfl ?_
  refine v_iconst (pc := 32) (v := 2) dL_act_32 (by decide) ?_
  refine v_icmp_ne (pc := 33) (tgt := 50) dL_act_33 (by decide) (fun c33 => ?_) (fun c33 => absurd c33 (by decide))
  refine v_iload_n (pc := 50) dL_act_50 rfl rfl ?_
  refine v_iconst (pc := 51) (v := 3) dL_act_51 (by decide) ?_
  refine v_icmp_ne (pc := 52) (tgt := 63) dL_act_52 (by decide) (fun c52 => ?_) (fun c52 => absurd c52 (by decide))
  refine v_iload_n (pc := 63) dL_act_63 rfl rfl ?_
  refine v_iconst (pc := 64) (v := 4) dL_act_64 (by decide) ?_
  refine v_icmp_ne (pc := 65) (tgt := 77) dL_act_65 (by decide) (fun c65 => ?_) (fun c65 => absurd c65 (by decide))
  refine v_iload_n (pc := 77) dL_act_77 rfl rfl ?_
  refine v_iconst (pc := 78) (v := 5) dL_act_78 (by decide) ?_
  refine v_icmp_ne (pc := 79) (tgt := 94) dL_act_79 (by decide) (fun c79 => ?_) (fun c79 => absurd c79 (by decide))
  refine v_iload_n (pc := 94) dL_act_94 rfl rfl ?_
  refine v_bipush (pc := 95) (v := 6) dL_act_95 (by decide) ?_
  refine v_icmp_ne (pc := 97) (tgt := 108) dL_act_97 (by decide) (fun c97 => ?_) (fun c97 => absurd c97 (by decide))
  refine v_iload_n (pc := 108) dL_act_108 rfl rfl ?_
  refine v_bipush (pc := 109) (v := 7) dL_act_109 (by decide) ?_
  refine v_icmp_ne (pc := 111) (tgt := 123) dL_act_111 (by decide) (fun c111 => ?_) (fun c111 => absurd c111 (by decide))
  refine v_iload_n (pc := 123) dL_act_123 rfl rfl ?_
  refine v_bipush (pc := 124) (v := 8) dL_act_124 (by decide) ?_
  refine v_icmp_ne (pc := 126) (tgt := 138) dL_act_126 (by decide) (fun c126 => ?_) (fun c126 => absurd c126 (by decide))
  refine v_iload_n (pc := 138) dL_act_138 rfl rfl ?_
  refine v_bipush (pc := 139) (v := 9) dL_act_139 (by decide) ?_
  refine v_icmp_ne (pc := 141) (tgt := 165) dL_act_141 (by decide) (fun c141 => ?_) (fun c141 => absurd c141 (by decide))
  refine v_iload_n (pc := 165) dL_act_165 rfl rfl ?_
  refine v_bipush (pc := 166) (v := 10) dL_act_166 (by decide) ?_
  refine v_icmp_ne (pc := 168) (tgt := 180) dL_act_168 (by decide) (fun c168 => ?_) (fun c168 => absurd c168 (by decide))
  refine v_iload_n (pc := 180) dL_act_180 rfl rfl ?_
  refine v_bipush (pc := 181) (v := 11) dL_act_181 (by decide) ?_
  refine v_icmp_ne (pc := 183) (tgt := 195) dL_act_183 (by decide) (fun c183 => ?_) (fun c183 => absurd c183 (by decide))
  refine v_iload_n (pc := 195) dL_act_195 rfl rfl ?_
  refine v_bipush (pc := 196) (v := 12) dL_act_196 (by decide) ?_
  refine v_icmp_ne (pc := 198) (tgt := 210) dL_act_198 (by decide) (fun c198 => ?_) (fun c198 => absurd c198 (by decide))
  refine v_iload_n (pc := 210) dL_act_210 rfl rfl ?_
  refine v_bipush (pc := 211) (v := 13) dL_act_211 (by decide) ?_
  refine v_icmp_ne (pc := 213) (tgt := 224) dL_act_213 (by decide) (fun c213 => absurd c213 (by decide)) (fun c213 => ?_)
  refine v_aload_n (pc := 216) dL_act_216 rfl rfl ?_
  refine v_iload_n (pc := 217) dL_act_217 rfl rfl ?_
  refine v_try (pc := 218) (As := [.int p0]) (rest := []) hX dL_act_218 cw_L_57 im_yX8_pulled se_yX8_pulled ((c_X8_pulled D X s g p0 hg hg8 hsl) G hG) ((hG.1 0 0 (hG.2.2.1 0 (by decide))).1.2.1) rfl rfl rfl (Nat.le_of_ble_eq_true rfl) ⟨Nat.le_of_ble_eq_true rfl, Nat.le_of_ble_eq_true rfl⟩ ⟨by decide, by decide⟩ (fun v G1 hp => ?_) (fun E9 G1 q9 hp => ?_)
  · obtain ⟨s1, hG1, hv1, hr1⟩ := hp
    subst hv1
    refine v_goto (pc := 221) (tgt := 443) dL_act_221 (by decide) ?_
    refine v_lret (pc := 443) hR dL_act_443 ⟨by decide, by decide⟩ ?_
    exact ⟨X, s1, _, rfl, hG1, rfl, fun c _ => rfl, Or.inl ⟨rfl, rfl, hr1⟩⟩
  · obtain ⟨hG1, hp⟩ := hp
    rcases hp with ⟨rfl, hk⟩
    · refine ⟨[], ⟨0, 443, 444, 103⟩, [⟨0, 443, 450, 107⟩, ⟨0, 443, 456, 111⟩], xIO, rfl, (fun z hz => nomatch hz), by decide, by decide, cl_L_103, ca_xIO, ?_⟩
      refine v_astore (pc := 444) dL_act_444 rfl (by decide) ?_
      refine v_ldcL (pc := 446) dL_act_446 k_L_105 ?_
      refine v_lret (pc := 449) hR dL_act_449 ⟨by decide, by decide⟩ ?_
      exact ⟨X, s, _, rfl, hG1, rfl, fun c _ => rfl, Or.inr ⟨⟨hk, rfl⟩, rfl, rfl⟩⟩
abbrev rw_act_trim : Room := { frames := 7, cells := 1, slots := 6, locals := 133 }
set_option maxRecDepth 100000 in
set_option maxHeartbeats 400000 in
theorem c_A_trim (D : DT) (G : GT) (X : XT) (s : SG)  (p0 : Int32) (p1 : Int32) (p2 : Int32) (y3 : Int32) (hG : LF X s G)  : ML yL_act cL_act 7 (Option.some Jvm.ClassFile.FieldType.long) [(0, 443, 444, 103), (0, 443, 450, 107), (0, 443, 456, 111)] rw_act_trim D [.ref (X.1 0 0), .int 14, .int p0, .int p1, .int p2, .int y3] G (AP X s (fun X' s' w => w = (FP.f2i (FP.fmul ((drI (nat p0) (nat p1))) 1148846080)).toInt64 ∧ X' = X ∧ s' = gTrim s p0 p1 p2 ∧ kTrim p0 p1 p2 = 0) (fun w => (kTrim p0 p1 p2 = 1 ∧ w = (-1732000000000)))) := by
  refine ML_of (by decide +kernel) (Nat.le_of_ble_eq_true rfl) (fun K sz hR hX => ?_)
  show V cL_act _ 7 _ D K 0 [some (.ref (X.1 0 0)), some (.int 14), some (.int p0), some (.int p1), some (.int p2), some (.int y3), none] [] G (0, 0)
  refine v_iload_n (pc := 0) dL_act_0 rfl rfl ?_
  refine v_if_ne (pc := 1) (tgt := 16) dL_act_1 (by decide) (fun c1 => ?_) (fun c1 => absurd c1 (by decide))
  refine v_iload_n (pc := 16) dL_act_16 rfl rfl ?_
  refine v_iconst (pc := 17) (v := 1) dL_act_17 (by decide) ?_
  refine v_icmp_ne (pc := 18) (tgt := 31) dL_act_18 (by decide) (fun c18 => ?_) (fun c18 => absurd c18 (by decide))
  refine v_iload_n (pc := 31) dL_act_31 rfl rfl ?_
  refine v_iconst (pc := 32) (v := 2) dL_act_32 (by decide) ?_
  refine v_icmp_ne (pc := 33) (tgt := 50) dL_act_33 (by decide) (fun c33 => ?_) (fun c33 => absurd c33 (by decide))
  refine v_iload_n (pc := 50) dL_act_50 rfl rfl ?_
  refine v_iconst (pc := 51) (v := 3) dL_act_51 (by decide) ?_
  refine v_icmp_ne (pc := 52) (tgt := 63) dL_act_52 (by decide) (fun c52 => ?_) (fun c52 => absurd c52 (by decide))
  refine v_iload_n (pc := 63) dL_act_63 rfl rfl ?_
  refine v_iconst (pc := 64) (v := 4) dL_act_64 (by decide) ?_
  refine v_icmp_ne (pc := 65) (tgt := 77) dL_act_65 (by decide) (fun c65 => ?_) (fun c65 => absurd c65 (by decide))
  refine v_iload_n (pc := 77) dL_act_77 rfl rfl ?_
  refine v_iconst (pc := 78) (v := 5) dL_act_78 (by decide) ?_
  refine v_icmp_ne (pc := 79) (tgt := 94) dL_act_79 (by decide) (fun c79 => ?_) (fun c79 => absurd c79 (by decide))
  refine v_iload_n (pc := 94) dL_act_94 rfl rfl ?_
  refine v_bipush (pc := 95) (v := 6) dL_act_95 (by decide) ?_
  refine v_icmp_ne (pc := 97) (tgt := 108) dL_act_97 (by decide) (fun c97 => ?_) (fun c97 => absurd c97 (by decide))
  refine v_iload_n (pc := 108) dL_act_108 rfl rfl ?_
  refine v_bipush (pc := 109) (v := 7) dL_act_109 (by decide) ?_
  refine v_icmp_ne (pc := 111) (tgt := 123) dL_act_111 (by decide) (fun c111 => ?_) (fun c111 => absurd c111 (by decide))
  refine v_iload_n (pc := 123) dL_act_123 rfl rfl ?_
  refine v_bipush (pc := 124) (v := 8) dL_act_124 (by decide) ?_
  refine v_icmp_ne (pc := 126) (tgt := 138) dL_act_126 (by decide) (fun c126 => ?_) (fun c126 => absurd c126 (by decide))
  refine v_iload_n (pc := 138) dL_act_138 rfl rfl ?_
  refine v_bipush (pc := 139) (v := 9) dL_act_139 (by decide) ?_
  refine v_icmp_ne (pc := 141) (tgt := 165) dL_act_141 (by decide) (fun c141 => ?_) (fun c141 => absurd c141 (by decide))
  refine v_iload_n (pc := 165) dL_act_165 rfl rfl ?_
  refine v_bipush (pc := 166) (v := 10) dL_act_166 (by decide) ?_
  refine v_icmp_ne (pc := 168) (tgt := 180) dL_act_168 (by decide) (fun c168 => ?_) (fun c168 => absurd c168 (by decide))
  refine v_iload_n (pc := 180) dL_act_180 rfl rfl ?_
  refine v_bipush (pc := 181) (v := 11) dL_act_181 (by decide) ?_
  refine v_icmp_ne (pc := 183) (tgt := 195) dL_act_183 (by decide) (fun c183 => ?_) (fun c183 => absurd c183 (by decide))
  refine v_iload_n (pc := 195) dL_act_195 rfl rfl ?_
  refine v_bipush (pc := 196) (v := 12) dL_act_196 (by decide) ?_
  refine v_icmp_ne (pc := 198) (tgt := 210) dL_act_198 (by decide) (fun c198 => ?_) (fun c198 => absurd c198 (by decide))
  refine v_iload_n (pc := 210) dL_act_210 rfl rfl ?_
  refine v_bipush (pc := 211) (v := 13) dL_act_211 (by decide) ?_
  refine v_icmp_ne (pc := 213) (tgt := 224) dL_act_213 (by decide) (fun c213 => ?_) (fun c213 => absurd c213 (by decide))
  refine v_iload_n (pc := 224) dL_act_224 rfl rfl ?_
  refine v_bipush (pc := 225) (v := 14) dL_act_225 (by decide) ?_
  refine v_icmp_ne (pc := 227) (tgt := 246) dL_act_227 (by decide) (fun c227 => absurd c227 (by decide)) (fun c227 => ?_)
  refine v_aload_n (pc := 230) dL_act_230 rfl rfl ?_
  refine v_iload_n (pc := 231) dL_act_231 rfl rfl ?_
  refine v_iload_n (pc := 232) dL_act_232 rfl rfl ?_
  refine v_iload (pc := 233) dL_act_233 rfl ?_
  refine v_try (pc := 235) (As := [.int p0, .int p1, .int p2]) (rest := []) hX dL_act_235 cw_L_60 im_yX8_trim se_yX8_trim ((c_X8_trim D X s p0 p1 p2) G hG) ((hG.1 0 0 (hG.2.2.1 0 (by decide))).1.2.1) rfl rfl rfl (Nat.le_of_ble_eq_true rfl) ⟨Nat.le_of_ble_eq_true rfl, Nat.le_of_ble_eq_true rfl⟩ ⟨by decide, by decide⟩ (fun v G1 hp => ?_) (fun E9 G1 q9 hp => ?_)
  · obtain ⟨s1, hG1, hv1, hr1⟩ := hp
    subst hv1
    refine v_ldcf (pc := 238) dL_act_238 k_L_64 ?_
    refine v_fmul (pc := 240) dL_act_240 (nan_t (kTrim_lt hr1.2).1 (kTrim_lt hr1.2).2.1) ?_
    refine v_f2i (pc := 241) dL_act_241 ?_
    refine v_i2l (pc := 242) dL_act_242 ?_
    refine v_goto (pc := 243) (tgt := 443) dL_act_243 (by decide) ?_
    refine v_lret (pc := 443) hR dL_act_443 ⟨by decide, by decide⟩ ?_
    exact ⟨X, s1, _, rfl, hG1, rfl, fun c _ => rfl, Or.inl ⟨rfl, rfl, hr1⟩⟩
  · obtain ⟨hG1, hp⟩ := hp
    rcases hp with ⟨rfl, hk⟩
    · refine ⟨[⟨0, 443, 444, 103⟩], ⟨0, 443, 450, 107⟩, [⟨0, 443, 456, 111⟩], xIA, rfl, (List.forall_mem_cons.mpr ⟨Or.inr ⟨by decide, xIO, cl_L_103, (Or.inl ⟨rfl, rfl⟩)⟩, fun z hz => nomatch hz⟩), by decide, by decide, cl_L_107, ca_xIA, ?_⟩
      refine v_astore (pc := 450) dL_act_450 rfl (by decide) ?_
      refine v_ldcL (pc := 452) dL_act_452 k_L_109 ?_
      refine v_lret (pc := 455) hR dL_act_455 ⟨by decide, by decide⟩ ?_
      exact ⟨X, s, _, rfl, hG1, rfl, fun c _ => rfl, Or.inr ⟨⟨hk, rfl⟩, rfl, rfl⟩⟩
abbrev rw_act_power : Room := { frames := 7, cells := 1, slots := 6, locals := 131 }
set_option maxRecDepth 100000 in
set_option maxHeartbeats 400000 in
theorem c_A_power (D : DT) (G : GT) (X : XT) (s : SG) (h t r : Nat) (p0 : Int32) (y1 : Int32) (y2 : Int32) (y3 : Int32) (hG : LF X s G) (e1 : s.1 24 0 = nI h) (e2 : s.1 25 0 = nI t) (e3 : s.1 26 0 = nI r) (hh : h < 101) (ht : t < 101) (hr : r < 4) : ML yL_act cL_act 7 (Option.some Jvm.ClassFile.FieldType.long) [(0, 443, 444, 103), (0, 443, 450, 107), (0, 443, 456, 111)] rw_act_power D [.ref (X.1 0 0), .int 15, .int p0, .int y1, .int y2, .int y3] G (AP X s (fun X' s' w => w = (FP.f2i ((pwI h t r (nat p0)))).toInt64 ∧ X' = X ∧ s' = s ∧ kPow p0 = 0) (fun w => (kPow p0 = 1 ∧ w = (-1732000000000)))) := by
  refine ML_of (by decide +kernel) (Nat.le_of_ble_eq_true rfl) (fun K sz hR hX => ?_)
  show V cL_act _ 7 _ D K 0 [some (.ref (X.1 0 0)), some (.int 15), some (.int p0), some (.int y1), some (.int y2), some (.int y3), none] [] G (0, 0)
  refine v_iload_n (pc := 0) dL_act_0 rfl rfl ?_
  refine v_if_ne (pc := 1) (tgt := 16) dL_act_1 (by decide) (fun c1 => ?_) (fun c1 => absurd c1 (by decide))
  refine v_iload_n (pc := 16) dL_act_16 rfl rfl ?_
  refine v_iconst (pc := 17) (v := 1) dL_act_17 (by decide) ?_
  refine v_icmp_ne (pc := 18) (tgt := 31) dL_act_18 (by decide) (fun c18 => ?_) (fun c18 => absurd c18 (by decide))
  refine v_iload_n (pc := 31) dL_act_31 rfl rfl ?_
  refine v_iconst (pc := 32) (v := 2) dL_act_32 (by decide) ?_
  refine v_icmp_ne (pc := 33) (tgt := 50) dL_act_33 (by decide) (fun c33 => ?_) (fun c33 => absurd c33 (by decide))
  refine v_iload_n (pc := 50) dL_act_50 rfl rfl ?_
  refine v_iconst (pc := 51) (v := 3) dL_act_51 (by decide) ?_
  refine v_icmp_ne (pc := 52) (tgt := 63) dL_act_52 (by decide) (fun c52 => ?_) (fun c52 => absurd c52 (by decide))
  refine v_iload_n (pc := 63) dL_act_63 rfl rfl ?_
  refine v_iconst (pc := 64) (v := 4) dL_act_64 (by decide) ?_
  refine v_icmp_ne (pc := 65) (tgt := 77) dL_act_65 (by decide) (fun c65 => ?_) (fun c65 => absurd c65 (by decide))
  refine v_iload_n (pc := 77) dL_act_77 rfl rfl ?_
  refine v_iconst (pc := 78) (v := 5) dL_act_78 (by decide) ?_
  refine v_icmp_ne (pc := 79) (tgt := 94) dL_act_79 (by decide) (fun c79 => ?_) (fun c79 => absurd c79 (by decide))
  refine v_iload_n (pc := 94) dL_act_94 rfl rfl ?_
  refine v_bipush (pc := 95) (v := 6) dL_act_95 (by decide) ?_
  refine v_icmp_ne (pc := 97) (tgt := 108) dL_act_97 (by decide) (fun c97 => ?_) (fun c97 => absurd c97 (by decide))
  refine v_iload_n (pc := 108) dL_act_108 rfl rfl ?_
  refine v_bipush (pc := 109) (v := 7) dL_act_109 (by decide) ?_
  refine v_icmp_ne (pc := 111) (tgt := 123) dL_act_111 (by decide) (fun c111 => ?_) (fun c111 => absurd c111 (by decide))
  refine v_iload_n (pc := 123) dL_act_123 rfl rfl ?_
  refine v_bipush (pc := 124) (v := 8) dL_act_124 (by decide) ?_
  refine v_icmp_ne (pc := 126) (tgt := 138) dL_act_126 (by decide) (fun c126 => ?_) (fun c126 => absurd c126 (by decide))
  refine v_iload_n (pc := 138) dL_act_138 rfl rfl ?_
  refine v_bipush (pc := 139) (v := 9) dL_act_139 (by decide) ?_
  refine v_icmp_ne (pc := 141) (tgt := 165) dL_act_141 (by decide) (fun c141 => ?_) (fun c141 => absurd c141 (by decide))
  refine v_iload_n (pc := 165) dL_act_165 rfl rfl ?_
  refine v_bipush (pc := 166) (v := 10) dL_act_166 (by decide) ?_
  refine v_icmp_ne (pc := 168) (tgt := 180) dL_act_168 (by decide) (fun c168 => ?_) (fun c168 => absurd c168 (by decide))
  refine v_iload_n (pc := 180) dL_act_180 rfl rfl ?_
  refine v_bipush (pc := 181) (v := 11) dL_act_181 (by decide) ?_
  refine v_icmp_ne (pc := 183) (tgt := 195) dL_act_183 (by decide) (fun c183 => ?_) (fun c183 => absurd c183 (by decide))
  refine v_iload_n (pc := 195) dL_act_195 rfl rfl ?_
  refine v_bipush (pc := 196) (v := 12) dL_act_196 (by decide) ?_
  refine v_icmp_ne (pc := 198) (tgt := 210) dL_act_198 (by decide) (fun c198 => ?_) (fun c198 => absurd c198 (by decide))
  refine v_iload_n (pc := 210) dL_act_210 rfl rfl ?_
  refine v_bipush (pc := 211) (v := 13) dL_act_211 (by decide) ?_
  refine v_icmp_ne (pc := 213) (tgt := 224) dL_act_213 (by decide) (fun c213 => ?_) (fun c213 => absurd c213 (by decide))
  refine v_iload_n (pc := 224) dL_act_224 rfl rfl ?_
  refine v_bipush (pc := 225) (v := 14) dL_act_225 (by decide) ?_
  refine v_icmp_ne (pc := 227) (tgt := 246) dL_act_227 (by decide) (fun c227 => ?_) (fun c227 => absurd c227 (by decide))
  refine v_iload_n (pc := 246) dL_act_246 rfl rfl ?_
  refine v_bipush (pc := 247) (v := 15) dL_act_247 (by decide) ?_
  refine v_icmp_ne (pc := 249) (tgt := 262) dL_act_249 (by decide) (fun c249 => absurd c249 (by decide)) (fun c249 => ?_)
  refine v_aload_n (pc := 252) dL_act_252 rfl rfl ?_
  refine v_iload_n (pc := 253) dL_act_253 rfl rfl ?_
  refine v_try (pc := 254) (As := [.int p0]) (rest := []) hX dL_act_254 cw_L_65 im_yX8_power se_yX8_power ((c_X8_power D X s h t r p0 e1 e2 e3 hh ht hr) G hG) ((hG.1 0 0 (hG.2.2.1 0 (by decide))).1.2.1) rfl rfl rfl (Nat.le_of_ble_eq_true rfl) ⟨Nat.le_of_ble_eq_true rfl, Nat.le_of_ble_eq_true rfl⟩ ⟨by decide, by decide⟩ (fun v G1 hp => ?_) (fun E9 G1 q9 hp => ?_)
  · obtain ⟨s1, hG1, hv1, hr1⟩ := hp
    subst hv1
    refine v_f2i (pc := 257) dL_act_257 ?_
    refine v_i2l (pc := 258) dL_act_258 ?_
    refine v_goto (pc := 259) (tgt := 443) dL_act_259 (by decide) ?_
    refine v_lret (pc := 443) hR dL_act_443 ⟨by decide, by decide⟩ ?_
    exact ⟨X, s1, _, rfl, hG1, rfl, fun c _ => rfl, Or.inl ⟨rfl, rfl, hr1⟩⟩
  · obtain ⟨hG1, hp⟩ := hp
    rcases hp with ⟨rfl, hk⟩
    · refine ⟨[⟨0, 443, 444, 103⟩], ⟨0, 443, 450, 107⟩, [⟨0, 443, 456, 111⟩], xIA, rfl, (List.forall_mem_cons.mpr ⟨Or.inr ⟨by decide, xIO, cl_L_103, (Or.inl ⟨rfl, rfl⟩)⟩, fun z hz => nomatch hz⟩), by decide, by decide, cl_L_107, ca_xIA, ?_⟩
      refine v_astore (pc := 450) dL_act_450 rfl (by decide) ?_
      refine v_ldcL (pc := 452) dL_act_452 k_L_109 ?_
      refine v_lret (pc := 455) hR dL_act_455 ⟨by decide, by decide⟩ ?_
      exact ⟨X, s, _, rfl, hG1, rfl, fun c _ => rfl, Or.inr ⟨⟨hk, rfl⟩, rfl, rfl⟩⟩
abbrev rw_act_halyard : Room := { frames := 7, cells := 1, slots := 6, locals := 133 }
set_option maxRecDepth 100000 in
set_option maxHeartbeats 400000 in
theorem c_A_halyard (D : DT) (G : GT) (X : XT) (s : SG) (t r : Nat) (p0 : Int32) (p1 : Int32) (y2 : Int32) (y3 : Int32) (hG : LF X s G) (e2 : s.1 25 0 = nI t) (e3 : s.1 26 0 = nI r) (ht : t < 101) (hr : r < 4) : ML yL_act cL_act 7 (Option.some Jvm.ClassFile.FieldType.long) [(0, 443, 444, 103), (0, 443, 450, 107), (0, 443, 456, 111)] rw_act_halyard D [.ref (X.1 0 0), .int 16, .int p0, .int p1, .int y2, .int y3] G (AP X s (fun X' s' w => w = ((halF t r (nat p0) p1 101 0)).toInt64 ∧ X' = X ∧ s' = s ∧ kHal p0 p1 = 0) (fun w => (kHal p0 p1 = 1 ∧ w = (-1732000000000)))) := by
  refine ML_of (by decide +kernel) (Nat.le_of_ble_eq_true rfl) (fun K sz hR hX => ?_)
  show V cL_act _ 7 _ D K 0 [some (.ref (X.1 0 0)), some (.int 16), some (.int p0), some (.int p1), some (.int y2), some (.int y3), none] [] G (0, 0)
  refine v_iload_n (pc := 0) dL_act_0 rfl rfl ?_
  refine v_if_ne (pc := 1) (tgt := 16) dL_act_1 (by decide) (fun c1 => ?_) (fun c1 => absurd c1 (by decide))
  refine v_iload_n (pc := 16) dL_act_16 rfl rfl ?_
  refine v_iconst (pc := 17) (v := 1) dL_act_17 (by decide) ?_
  refine v_icmp_ne (pc := 18) (tgt := 31) dL_act_18 (by decide) (fun c18 => ?_) (fun c18 => absurd c18 (by decide))
  refine v_iload_n (pc := 31) dL_act_31 rfl rfl ?_
  refine v_iconst (pc := 32) (v := 2) dL_act_32 (by decide) ?_
  refine v_icmp_ne (pc := 33) (tgt := 50) dL_act_33 (by decide) (fun c33 => ?_) (fun c33 => absurd c33 (by decide))
  refine v_iload_n (pc := 50) dL_act_50 rfl rfl ?_
  refine v_iconst (pc := 51) (v := 3) dL_act_51 (by decide) ?_
  refine v_icmp_ne (pc := 52) (tgt := 63) dL_act_52 (by decide) (fun c52 => ?_) (fun c52 => absurd c52 (by decide))
  refine v_iload_n (pc := 63) dL_act_63 rfl rfl ?_
  refine v_iconst (pc := 64) (v := 4) dL_act_64 (by decide) ?_
  refine v_icmp_ne (pc := 65) (tgt := 77) dL_act_65 (by decide) (fun c65 => ?_) (fun c65 => absurd c65 (by decide))
  refine v_iload_n (pc := 77) dL_act_77 rfl rfl ?_
  refine v_iconst (pc := 78) (v := 5) dL_act_78 (by decide) ?_
  refine v_icmp_ne (pc := 79) (tgt := 94) dL_act_79 (by decide) (fun c79 => ?_) (fun c79 => absurd c79 (by decide))
  refine v_iload_n (pc := 94) dL_act_94 rfl rfl ?_
  refine v_bipush (pc := 95) (v := 6) dL_act_95 (by decide) ?_
  refine v_icmp_ne (pc := 97) (tgt := 108) dL_act_97 (by decide) (fun c97 => ?_) (fun c97 => absurd c97 (by decide))
  refine v_iload_n (pc := 108) dL_act_108 rfl rfl ?_
  refine v_bipush (pc := 109) (v := 7) dL_act_109 (by decide) ?_
  refine v_icmp_ne (pc := 111) (tgt := 123) dL_act_111 (by decide) (fun c111 => ?_) (fun c111 => absurd c111 (by decide))
  refine v_iload_n (pc := 123) dL_act_123 rfl rfl ?_
  refine v_bipush (pc := 124) (v := 8) dL_act_124 (by decide) ?_
  refine v_icmp_ne (pc := 126) (tgt := 138) dL_act_126 (by decide) (fun c126 => ?_) (fun c126 => absurd c126 (by decide))
  refine v_iload_n (pc := 138) dL_act_138 rfl rfl ?_
  refine v_bipush (pc := 139) (v := 9) dL_act_139 (by decide) ?_
  refine v_icmp_ne (pc := 141) (tgt := 165) dL_act_141 (by decide) (fun c141 => ?_) (fun c141 => absurd c141 (by decide))
  refine v_iload_n (pc := 165) dL_act_165 rfl rfl ?_
  refine v_bipush (pc := 166) (v := 10) dL_act_166 (by decide) ?_
  refine v_icmp_ne (pc := 168) (tgt := 180) dL_act_168 (by decide) (fun c168 => ?_) (fun c168 => absurd c168 (by decide))
  refine v_iload_n (pc := 180) dL_act_180 rfl rfl ?_
  refine v_bipush (pc := 181) (v := 11) dL_act_181 (by decide) ?_
  refine v_icmp_ne (pc := 183) (tgt := 195) dL_act_183 (by decide) (fun c183 => ?_) (fun c183 => absurd c183 (by decide))
  refine v_iload_n (pc := 195) dL_act_195 rfl rfl ?_
  refine v_bipush (pc := 196) (v := 12) dL_act_196 (by decide) ?_
  refine v_icmp_ne (pc := 198) (tgt := 210) dL_act_198 (by decide) (fun c198 => ?_) (fun c198 => absurd c198 (by decide))
  refine v_iload_n (pc := 210) dL_act_210 rfl rfl ?_
  refine v_bipush (pc := 211) (v := 13) dL_act_211 (by decide) ?_
  refine v_icmp_ne (pc := 213) (tgt := 224) dL_act_213 (by decide) (fun c213 => ?_) (fun c213 => absurd c213 (by decide))
  refine v_iload_n (pc := 224) dL_act_224 rfl rfl ?_
  refine v_bipush (pc := 225) (v := 14) dL_act_225 (by decide) ?_
  refine v_icmp_ne (pc := 227) (tgt := 246) dL_act_227 (by decide) (fun c227 => ?_) (fun c227 => absurd c227 (by decide))
  refine v_iload_n (pc := 246) dL_act_246 rfl rfl ?_
  refine v_bipush (pc := 247) (v := 15) dL_act_247 (by decide) ?_
  refine v_icmp_ne (pc := 249) (tgt := 262) dL_act_249 (by decide) (fun c249 => ?_) (fun c249 => absurd c249 (by decide))
  refine v_iload_n (pc := 262) dL_act_262 rfl rfl ?_
  refine v_bipush (pc := 263) (v := 16) dL_act_263 (by decide) ?_
  refine v_icmp_ne (pc := 265) (tgt := 278) dL_act_265 (by decide) (fun c265 => absurd c265 (by decide)) (fun c265 => ?_)
  refine v_aload_n (pc := 268) dL_act_268 rfl rfl ?_
  refine v_iload_n (pc := 269) dL_act_269 rfl rfl ?_
  refine v_iload_n (pc := 270) dL_act_270 rfl rfl ?_
  refine v_try (pc := 271) (As := [.int p0, .int p1]) (rest := []) hX dL_act_271 cw_L_69 im_yX8_halyard se_yX8_halyard ((c_X8_halyard D X s t r p0 p1 e2 e3 ht hr) G hG) ((hG.1 0 0 (hG.2.2.1 0 (by decide))).1.2.1) rfl rfl rfl (Nat.le_of_ble_eq_true rfl) ⟨Nat.le_of_ble_eq_true rfl, Nat.le_of_ble_eq_true rfl⟩ ⟨by decide, by decide⟩ (fun v G1 hp => ?_) (fun E9 G1 q9 hp => ?_)
  · obtain ⟨s1, hG1, hv1, hr1⟩ := hp
    subst hv1
    refine v_i2l (pc := 274) dL_act_274 ?_
    refine v_goto (pc := 275) (tgt := 443) dL_act_275 (by decide) ?_
    refine v_lret (pc := 443) hR dL_act_443 ⟨by decide, by decide⟩ ?_
    exact ⟨X, s1, _, rfl, hG1, rfl, fun c _ => rfl, Or.inl ⟨rfl, rfl, hr1⟩⟩
  · obtain ⟨hG1, hp⟩ := hp
    rcases hp with ⟨rfl, hk⟩
    · refine ⟨[⟨0, 443, 444, 103⟩], ⟨0, 443, 450, 107⟩, [⟨0, 443, 456, 111⟩], xIA, rfl, (List.forall_mem_cons.mpr ⟨Or.inr ⟨by decide, xIO, cl_L_103, (Or.inl ⟨rfl, rfl⟩)⟩, fun z hz => nomatch hz⟩), by decide, by decide, cl_L_107, ca_xIA, ?_⟩
      refine v_astore (pc := 450) dL_act_450 rfl (by decide) ?_
      refine v_ldcL (pc := 452) dL_act_452 k_L_109 ?_
      refine v_lret (pc := 455) hR dL_act_455 ⟨by decide, by decide⟩ ?_
      exact ⟨X, s, _, rfl, hG1, rfl, fun c _ => rfl, Or.inr ⟨⟨hk, rfl⟩, rfl, rfl⟩⟩
abbrev rw_act_pass : Room := { frames := 7, cells := 1, slots := 6, locals := 131 }
set_option maxRecDepth 100000 in
set_option maxHeartbeats 400000 in
theorem c_A_pass (D : DT) (G : GT) (X : XT) (s : SG)  (p0 : Int32) (y1 : Int32) (y2 : Int32) (y3 : Int32) (hG : LF X s G)  : ML yL_act cL_act 7 (Option.some Jvm.ClassFile.FieldType.long) [(0, 443, 444, 103), (0, 443, 450, 107), (0, 443, 456, 111)] rw_act_pass D [.ref (X.1 0 0), .int 17, .int p0, .int y1, .int y2, .int y3] G (AP X s (fun X' s' w => w = ((s.1 27 0 + p0)).toInt64 ∧ X' = X ∧ s' = sI s 27 0 (s.1 27 0 + p0) ∧ kPass s p0 = 0) (fun w => (kPass s p0 = 1 ∧ w = (-1732000000000)) ∨ (kPass s p0 = 2 ∧ w = (-1733000000000)))) := by
  refine ML_of (by decide +kernel) (Nat.le_of_ble_eq_true rfl) (fun K sz hR hX => ?_)
  show V cL_act _ 7 _ D K 0 [some (.ref (X.1 0 0)), some (.int 17), some (.int p0), some (.int y1), some (.int y2), some (.int y3), none] [] G (0, 0)
  refine v_iload_n (pc := 0) dL_act_0 rfl rfl ?_
  refine v_if_ne (pc := 1) (tgt := 16) dL_act_1 (by decide) (fun c1 => ?_) (fun c1 => absurd c1 (by decide))
  refine v_iload_n (pc := 16) dL_act_16 rfl rfl ?_
  refine v_iconst (pc := 17) (v := 1) dL_act_17 (by decide) ?_
  refine v_icmp_ne (pc := 18) (tgt := 31) dL_act_18 (by decide) (fun c18 => ?_) (fun c18 => absurd c18 (by decide))
  refine v_iload_n (pc := 31) dL_act_31 rfl rfl ?_
  refine v_iconst (pc := 32) (v := 2) dL_act_32 (by decide) ?_
  refine v_icmp_ne (pc := 33) (tgt := 50) dL_act_33 (by decide) (fun c33 => ?_) (fun c33 => absurd c33 (by decide))
  refine v_iload_n (pc := 50) dL_act_50 rfl rfl ?_
  refine v_iconst (pc := 51) (v := 3) dL_act_51 (by decide) ?_
  refine v_icmp_ne (pc := 52) (tgt := 63) dL_act_52 (by decide) (fun c52 => ?_) (fun c52 => absurd c52 (by decide))
  refine v_iload_n (pc := 63) dL_act_63 rfl rfl ?_
  refine v_iconst (pc := 64) (v := 4) dL_act_64 (by decide) ?_
  refine v_icmp_ne (pc := 65) (tgt := 77) dL_act_65 (by decide) (fun c65 => ?_) (fun c65 => absurd c65 (by decide))
  refine v_iload_n (pc := 77) dL_act_77 rfl rfl ?_
  refine v_iconst (pc := 78) (v := 5) dL_act_78 (by decide) ?_
  refine v_icmp_ne (pc := 79) (tgt := 94) dL_act_79 (by decide) (fun c79 => ?_) (fun c79 => absurd c79 (by decide))
  refine v_iload_n (pc := 94) dL_act_94 rfl rfl ?_
  refine v_bipush (pc := 95) (v := 6) dL_act_95 (by decide) ?_
  refine v_icmp_ne (pc := 97) (tgt := 108) dL_act_97 (by decide) (fun c97 => ?_) (fun c97 => absurd c97 (by decide))
  refine v_iload_n (pc := 108) dL_act_108 rfl rfl ?_
  refine v_bipush (pc := 109) (v := 7) dL_act_109 (by decide) ?_
  refine v_icmp_ne (pc := 111) (tgt := 123) dL_act_111 (by decide) (fun c111 => ?_) (fun c111 => absurd c111 (by decide))
  refine v_iload_n (pc := 123) dL_act_123 rfl rfl ?_
  refine v_bipush (pc := 124) (v := 8) dL_act_124 (by decide) ?_
  refine v_icmp_ne (pc := 126) (tgt := 138) dL_act_126 (by decide) (fun c126 => ?_) (fun c126 => absurd c126 (by decide))
  refine v_iload_n (pc := 138) dL_act_138 rfl rfl ?_
  refine v_bipush (pc := 139) (v := 9) dL_act_139 (by decide) ?_
  refine v_icmp_ne (pc := 141) (tgt := 165) dL_act_141 (by decide) (fun c141 => ?_) (fun c141 => absurd c141 (by decide))
  refine v_iload_n (pc := 165) dL_act_165 rfl rfl ?_
  refine v_bipush (pc := 166) (v := 10) dL_act_166 (by decide) ?_
  refine v_icmp_ne (pc := 168) (tgt := 180) dL_act_168 (by decide) (fun c168 => ?_) (fun c168 => absurd c168 (by decide))
  refine v_iload_n (pc := 180) dL_act_180 rfl rfl ?_
  refine v_bipush (pc := 181) (v := 11) dL_act_181 (by decide) ?_
  refine v_icmp_ne (pc := 183) (tgt := 195) dL_act_183 (by decide) (fun c183 => ?_) (fun c183 => absurd c183 (by decide))
  refine v_iload_n (pc := 195) dL_act_195 rfl rfl ?_
  refine v_bipush (pc := 196) (v := 12) dL_act_196 (by decide) ?_
  refine v_icmp_ne (pc := 198) (tgt := 210) dL_act_198 (by decide) (fun c198 => ?_) (fun c198 => absurd c198 (by decide))
  refine v_iload_n (pc := 210) dL_act_210 rfl rfl ?_
  refine v_bipush (pc := 211) (v := 13) dL_act_211 (by decide) ?_
  refine v_icmp_ne (pc := 213) (tgt := 224) dL_act_213 (by decide) (fun c213 => ?_) (fun c213 => absurd c213 (by decide))
  refine v_iload_n (pc := 224) dL_act_224 rfl rfl ?_
  refine v_bipush (pc := 225) (v := 14) dL_act_225 (by decide) ?_
  refine v_icmp_ne (pc := 227) (tgt := 246) dL_act_227 (by decide) (fun c227 => ?_) (fun c227 => absurd c227 (by decide))
  refine v_iload_n (pc := 246) dL_act_246 rfl rfl ?_
  refine v_bipush (pc := 247) (v := 15) dL_act_247 (by decide) ?_
  refine v_icmp_ne (pc := 249) (tgt := 262) dL_act_249 (by decide) (fun c249 => ?_) (fun c249 => absurd c249 (by decide))
  refine v_iload_n (pc := 262) dL_act_262 rfl rfl ?_
  refine v_bipush (pc := 263) (v := 16) dL_act_263 (by decide) ?_
  refine v_icmp_ne (pc := 265) (tgt := 278) dL_act_265 (by decide) (fun c265 => ?_) (fun c265 => absurd c265 (by decide))
  refine v_iload_n (pc := 278) dL_act_278 rfl rfl ?_
  refine v_bipush (pc := 279) (v := 17) dL_act_279 (by decide) ?_
  refine v_icmp_ne (pc := 281) (tgt := 293) dL_act_281 (by decide) (fun c281 => absurd c281 (by decide)) (fun c281 => ?_)
  refine v_aload_n (pc := 284) dL_act_284 rfl rfl ?_
  refine v_iload_n (pc := 285) dL_act_285 rfl rfl ?_
  refine v_try (pc := 286) (As := [.int p0]) (rest := []) hX dL_act_286 cw_L_72 im_yX8_pass se_yX8_pass ((c_X8_pass D X s p0) G hG) ((hG.1 0 0 (hG.2.2.1 0 (by decide))).1.2.1) rfl rfl rfl (Nat.le_of_ble_eq_true rfl) ⟨Nat.le_of_ble_eq_true rfl, Nat.le_of_ble_eq_true rfl⟩ ⟨by decide, by decide⟩ (fun v G1 hp => ?_) (fun E9 G1 q9 hp => ?_)
  · obtain ⟨s1, hG1, hv1, hr1⟩ := hp
    subst hv1
    refine v_i2l (pc := 289) dL_act_289 ?_
    refine v_goto (pc := 290) (tgt := 443) dL_act_290 (by decide) ?_
    refine v_lret (pc := 443) hR dL_act_443 ⟨by decide, by decide⟩ ?_
    exact ⟨X, s1, _, rfl, hG1, rfl, fun c _ => rfl, Or.inl ⟨rfl, rfl, hr1⟩⟩
  · obtain ⟨hG1, hp⟩ := hp
    rcases hp with ⟨rfl, hk⟩ | ⟨rfl, hk⟩
    · refine ⟨[⟨0, 443, 444, 103⟩], ⟨0, 443, 450, 107⟩, [⟨0, 443, 456, 111⟩], xIA, rfl, (List.forall_mem_cons.mpr ⟨Or.inr ⟨by decide, xIO, cl_L_103, (Or.inl ⟨rfl, rfl⟩)⟩, fun z hz => nomatch hz⟩), by decide, by decide, cl_L_107, ca_xIA, ?_⟩
      refine v_astore (pc := 450) dL_act_450 rfl (by decide) ?_
      refine v_ldcL (pc := 452) dL_act_452 k_L_109 ?_
      refine v_lret (pc := 455) hR dL_act_455 ⟨by decide, by decide⟩ ?_
      exact ⟨X, s, _, rfl, hG1, rfl, fun c _ => rfl, Or.inr ⟨Or.inl ⟨hk, rfl⟩, rfl, rfl⟩⟩
    · refine ⟨[⟨0, 443, 444, 103⟩, ⟨0, 443, 450, 107⟩], ⟨0, 443, 456, 111⟩, [], xIS, rfl, (List.forall_mem_cons.mpr ⟨Or.inr ⟨by decide, xIO, cl_L_103, (Or.inr (Or.inl ⟨rfl, rfl⟩))⟩, List.forall_mem_cons.mpr ⟨Or.inr ⟨by decide, xIA, cl_L_107, (Or.inr (Or.inr ⟨rfl, rfl⟩))⟩, fun z hz => nomatch hz⟩⟩), by decide, by decide, cl_L_111, ca_xIS, ?_⟩
      refine v_astore (pc := 456) dL_act_456 rfl (by decide) ?_
      refine v_ldcL (pc := 458) dL_act_458 k_L_113 ?_
      refine v_lret (pc := 461) hR dL_act_461 ⟨by decide, by decide⟩ ?_
      exact ⟨X, s, _, rfl, hG1, rfl, fun c _ => rfl, Or.inr ⟨Or.inr ⟨hk, rfl⟩, rfl, rfl⟩⟩
abbrev rw_act_canopy : Room := { frames := 7, cells := 2, slots := 18, locals := 132 }
set_option maxRecDepth 100000 in
set_option maxHeartbeats 400000 in
theorem c_A_canopy (D : DT) (G : GT) (X : XT) (s : SG) (a c : Nat) (p0 : Int32) (y1 : Int32) (y2 : Int32) (y3 : Int32) (hG : LF X s G) (hn : s.1 0 0 = nI a) (ha : a ≤ 6) (hsl : ∀ f, f < 6 → X.2.2.1 1 f = decide (f < a)) (hc : s.1 28 0 = nI c) (hc2 : c ≤ 6) (hfr : X.2.1 17 c = false) (hfr2 : X.2.1 18 c = false) (z30 : s.1 30 c = 0) (z34 : s.1 34 c = 0) (z35 : s.1 35 c = 0) (z36 : s.1 36 c = 0) (z37 : s.1 37 c = 0) (z31 : ∀ f, f < 8 → s.1 31 (8 * c + f) = 0) (hxv : XV X) : ML yL_act cL_act 7 (Option.some Jvm.ClassFile.FieldType.long) [(0, 443, 444, 103), (0, 443, 450, 107), (0, 443, 456, 111)] rw_act_canopy D [.ref (X.1 0 0), .int 18, .int p0, .int y1, .int y2, .int y3] G (AP X s (fun X' s' w => w = ((nI c)).toInt64 ∧ s' = gCan s c p0 ∧ X'.2.1 = u2 (u2 X.2.1 18 c true) 17 c true ∧ X'.2.2.1 = u2 X.2.2.1 5 c true ∧ kCan a c p0 = 0) (fun w => (kCan a c p0 = 1 ∧ w = (-1731000000000)) ∨ (kCan a c p0 = 2 ∧ w = (-1733000000000)))) := by
  refine ML_of (by decide +kernel) (Nat.le_of_ble_eq_true rfl) (fun K sz hR hX => ?_)
  show V cL_act _ 7 _ D K 0 [some (.ref (X.1 0 0)), some (.int 18), some (.int p0), some (.int y1), some (.int y2), some (.int y3), none] [] G (0, 0)
  refine v_iload_n (pc := 0) dL_act_0 rfl rfl ?_
  refine v_if_ne (pc := 1) (tgt := 16) dL_act_1 (by decide) (fun c1 => ?_) (fun c1 => absurd c1 (by decide))
  refine v_iload_n (pc := 16) dL_act_16 rfl rfl ?_
  refine v_iconst (pc := 17) (v := 1) dL_act_17 (by decide) ?_
  refine v_icmp_ne (pc := 18) (tgt := 31) dL_act_18 (by decide) (fun c18 => ?_) (fun c18 => absurd c18 (by decide))
  refine v_iload_n (pc := 31) dL_act_31 rfl rfl ?_
  refine v_iconst (pc := 32) (v := 2) dL_act_32 (by decide) ?_
  refine v_icmp_ne (pc := 33) (tgt := 50) dL_act_33 (by decide) (fun c33 => ?_) (fun c33 => absurd c33 (by decide))
  refine v_iload_n (pc := 50) dL_act_50 rfl rfl ?_
  refine v_iconst (pc := 51) (v := 3) dL_act_51 (by decide) ?_
  refine v_icmp_ne (pc := 52) (tgt := 63) dL_act_52 (by decide) (fun c52 => ?_) (fun c52 => absurd c52 (by decide))
  refine v_iload_n (pc := 63) dL_act_63 rfl rfl ?_
  refine v_iconst (pc := 64) (v := 4) dL_act_64 (by decide) ?_
  refine v_icmp_ne (pc := 65) (tgt := 77) dL_act_65 (by decide) (fun c65 => ?_) (fun c65 => absurd c65 (by decide))
  refine v_iload_n (pc := 77) dL_act_77 rfl rfl ?_
  refine v_iconst (pc := 78) (v := 5) dL_act_78 (by decide) ?_
  refine v_icmp_ne (pc := 79) (tgt := 94) dL_act_79 (by decide) (fun c79 => ?_) (fun c79 => absurd c79 (by decide))
  refine v_iload_n (pc := 94) dL_act_94 rfl rfl ?_
  refine v_bipush (pc := 95) (v := 6) dL_act_95 (by decide) ?_
  refine v_icmp_ne (pc := 97) (tgt := 108) dL_act_97 (by decide) (fun c97 => ?_) (fun c97 => absurd c97 (by decide))
  refine v_iload_n (pc := 108) dL_act_108 rfl rfl ?_
  refine v_bipush (pc := 109) (v := 7) dL_act_109 (by decide) ?_
  refine v_icmp_ne (pc := 111) (tgt := 123) dL_act_111 (by decide) (fun c111 => ?_) (fun c111 => absurd c111 (by decide))
  refine v_iload_n (pc := 123) dL_act_123 rfl rfl ?_
  refine v_bipush (pc := 124) (v := 8) dL_act_124 (by decide) ?_
  refine v_icmp_ne (pc := 126) (tgt := 138) dL_act_126 (by decide) (fun c126 => ?_) (fun c126 => absurd c126 (by decide))
  refine v_iload_n (pc := 138) dL_act_138 rfl rfl ?_
  refine v_bipush (pc := 139) (v := 9) dL_act_139 (by decide) ?_
  refine v_icmp_ne (pc := 141) (tgt := 165) dL_act_141 (by decide) (fun c141 => ?_) (fun c141 => absurd c141 (by decide))
  refine v_iload_n (pc := 165) dL_act_165 rfl rfl ?_
  refine v_bipush (pc := 166) (v := 10) dL_act_166 (by decide) ?_
  refine v_icmp_ne (pc := 168) (tgt := 180) dL_act_168 (by decide) (fun c168 => ?_) (fun c168 => absurd c168 (by decide))
  refine v_iload_n (pc := 180) dL_act_180 rfl rfl ?_
  refine v_bipush (pc := 181) (v := 11) dL_act_181 (by decide) ?_
  refine v_icmp_ne (pc := 183) (tgt := 195) dL_act_183 (by decide) (fun c183 => ?_) (fun c183 => absurd c183 (by decide))
  refine v_iload_n (pc := 195) dL_act_195 rfl rfl ?_
  refine v_bipush (pc := 196) (v := 12) dL_act_196 (by decide) ?_
  refine v_icmp_ne (pc := 198) (tgt := 210) dL_act_198 (by decide) (fun c198 => ?_) (fun c198 => absurd c198 (by decide))
  refine v_iload_n (pc := 210) dL_act_210 rfl rfl ?_
  refine v_bipush (pc := 211) (v := 13) dL_act_211 (by decide) ?_
  refine v_icmp_ne (pc := 213) (tgt := 224) dL_act_213 (by decide) (fun c213 => ?_) (fun c213 => absurd c213 (by decide))
  refine v_iload_n (pc := 224) dL_act_224 rfl rfl ?_
  refine v_bipush (pc := 225) (v := 14) dL_act_225 (by decide) ?_
  refine v_icmp_ne (pc := 227) (tgt := 246) dL_act_227 (by decide) (fun c227 => ?_) (fun c227 => absurd c227 (by decide))
  refine v_iload_n (pc := 246) dL_act_246 rfl rfl ?_
  refine v_bipush (pc := 247) (v := 15) dL_act_247 (by decide) ?_
  refine v_icmp_ne (pc := 249) (tgt := 262) dL_act_249 (by decide) (fun c249 => ?_) (fun c249 => absurd c249 (by decide))
  refine v_iload_n (pc := 262) dL_act_262 rfl rfl ?_
  refine v_bipush (pc := 263) (v := 16) dL_act_263 (by decide) ?_
  refine v_icmp_ne (pc := 265) (tgt := 278) dL_act_265 (by decide) (fun c265 => ?_) (fun c265 => absurd c265 (by decide))
  refine v_iload_n (pc := 278) dL_act_278 rfl rfl ?_
  refine v_bipush (pc := 279) (v := 17) dL_act_279 (by decide) ?_
  refine v_icmp_ne (pc := 281) (tgt := 293) dL_act_281 (by decide) (fun c281 => ?_) (fun c281 => absurd c281 (by decide))
  refine v_iload_n (pc := 293) dL_act_293 rfl rfl ?_
  refine v_bipush (pc := 294) (v := 18) dL_act_294 (by decide) ?_
  refine v_icmp_ne (pc := 296) (tgt := 308) dL_act_296 (by decide) (fun c296 => absurd c296 (by decide)) (fun c296 => ?_)
  refine v_aload_n (pc := 299) dL_act_299 rfl rfl ?_
  refine v_iload_n (pc := 300) dL_act_300 rfl rfl ?_
  refine v_try (pc := 301) (As := [.int p0]) (rest := []) hX dL_act_301 cw_L_75 im_yX8_canopy se_yX8_canopy ((c_X8_canopy D X s a c p0 hn ha hsl hc hc2 hfr hfr2 z30 z34 z35 z36 z37 z31 hxv) G hG) ((hG.1 0 0 (hG.2.2.1 0 (by decide))).1.2.1) rfl rfl rfl (Nat.le_of_ble_eq_true rfl) ⟨Nat.le_of_ble_eq_true rfl, Nat.le_of_ble_eq_true rfl⟩ ⟨by decide, by decide⟩ (fun v G1 hp => ?_) (fun E9 G1 q9 hp => ?_)
  · obtain ⟨X1, s1, hG1, hA1, h01, hv1, hr1⟩ := hp
    subst hv1
    refine v_i2l (pc := 304) dL_act_304 ?_
    refine v_goto (pc := 305) (tgt := 443) dL_act_305 (by decide) ?_
    refine v_lret (pc := 443) hR dL_act_443 ⟨by decide, by decide⟩ ?_
    exact ⟨X1, s1, _, rfl, hG1, hA1, h01, Or.inl ⟨rfl, hr1⟩⟩
  · obtain ⟨hG1, hp⟩ := hp
    rcases hp with ⟨rfl, hk⟩ | ⟨rfl, hk⟩
    · refine ⟨[], ⟨0, 443, 444, 103⟩, [⟨0, 443, 450, 107⟩, ⟨0, 443, 456, 111⟩], xIO, rfl, (fun z hz => nomatch hz), by decide, by decide, cl_L_103, ca_xIO, ?_⟩
      refine v_astore (pc := 444) dL_act_444 rfl (by decide) ?_
      refine v_ldcL (pc := 446) dL_act_446 k_L_105 ?_
      refine v_lret (pc := 449) hR dL_act_449 ⟨by decide, by decide⟩ ?_
      exact ⟨X, s, _, rfl, hG1, rfl, fun c _ => rfl, Or.inr ⟨Or.inl ⟨hk, rfl⟩, rfl, rfl⟩⟩
    · refine ⟨[⟨0, 443, 444, 103⟩, ⟨0, 443, 450, 107⟩], ⟨0, 443, 456, 111⟩, [], xIS, rfl, (List.forall_mem_cons.mpr ⟨Or.inr ⟨by decide, xIO, cl_L_103, (Or.inr (Or.inl ⟨rfl, rfl⟩))⟩, List.forall_mem_cons.mpr ⟨Or.inr ⟨by decide, xIA, cl_L_107, (Or.inr (Or.inr ⟨rfl, rfl⟩))⟩, fun z hz => nomatch hz⟩⟩), by decide, by decide, cl_L_111, ca_xIS, ?_⟩
      refine v_astore (pc := 456) dL_act_456 rfl (by decide) ?_
      refine v_ldcL (pc := 458) dL_act_458 k_L_113 ?_
      refine v_lret (pc := 461) hR dL_act_461 ⟨by decide, by decide⟩ ?_
      exact ⟨X, s, _, rfl, hG1, rfl, fun c _ => rfl, Or.inr ⟨Or.inr ⟨hk, rfl⟩, rfl, rfl⟩⟩
abbrev rw_act_part : Room := { frames := 7, cells := 1, slots := 6, locals := 133 }
set_option maxRecDepth 100000 in
set_option maxHeartbeats 400000 in
theorem c_A_part (D : DT) (G : GT) (X : XT) (s : SG) (c : Nat) (p0 : Int32) (p1 : Int32) (y2 : Int32) (y3 : Int32) (hG : LF X s G) (h : CV s c) (h33 : ∀ j, j < c → (s.1 32 j = -1 ↔ s.1 33 j = -1)) (hc : s.1 28 0 = nI c) (hc2 : c ≤ 6) (hsl : ∀ f, f < 6 → X.2.2.1 5 f = decide (f < c)) : ML yL_act cL_act 7 (Option.some Jvm.ClassFile.FieldType.long) [(0, 443, 444, 103), (0, 443, 450, 107), (0, 443, 456, 111)] rw_act_part D [.ref (X.1 0 0), .int 19, .int p0, .int p1, .int y2, .int y3] G (AP X s (fun X' s' w => w = ((s.1 30 (nat p0))).toInt64 ∧ X' = X ∧ s' = gPart s (nat p0) (nat (s.1 30 (nat p0))) p1 ∧ kPart s c p0 p1 = 0) (fun w => (kPart s c p0 p1 = 1 ∧ w = (-1731000000000)) ∨ (kPart s c p0 p1 = 2 ∧ w = (-1732000000000)) ∨ (kPart s c p0 p1 = 3 ∧ w = (-1733000000000)))) := by
  refine ML_of (by decide +kernel) (Nat.le_of_ble_eq_true rfl) (fun K sz hR hX => ?_)
  show V cL_act _ 7 _ D K 0 [some (.ref (X.1 0 0)), some (.int 19), some (.int p0), some (.int p1), some (.int y2), some (.int y3), none] [] G (0, 0)
  refine v_iload_n (pc := 0) dL_act_0 rfl rfl ?_
  refine v_if_ne (pc := 1) (tgt := 16) dL_act_1 (by decide) (fun c1 => ?_) (fun c1 => absurd c1 (by decide))
  refine v_iload_n (pc := 16) dL_act_16 rfl rfl ?_
  refine v_iconst (pc := 17) (v := 1) dL_act_17 (by decide) ?_
  refine v_icmp_ne (pc := 18) (tgt := 31) dL_act_18 (by decide) (fun c18 => ?_) (fun c18 => absurd c18 (by decide))
  refine v_iload_n (pc := 31) dL_act_31 rfl rfl ?_
  refine v_iconst (pc := 32) (v := 2) dL_act_32 (by decide) ?_
  refine v_icmp_ne (pc := 33) (tgt := 50) dL_act_33 (by decide) (fun c33 => ?_) (fun c33 => absurd c33 (by decide))
  refine v_iload_n (pc := 50) dL_act_50 rfl rfl ?_
  refine v_iconst (pc := 51) (v := 3) dL_act_51 (by decide) ?_
  refine v_icmp_ne (pc := 52) (tgt := 63) dL_act_52 (by decide) (fun c52 => ?_) (fun c52 => absurd c52 (by decide))
  refine v_iload_n (pc := 63) dL_act_63 rfl rfl ?_
  refine v_iconst (pc := 64) (v := 4) dL_act_64 (by decide) ?_
  refine v_icmp_ne (pc := 65) (tgt := 77) dL_act_65 (by decide) (fun c65 => ?_) (fun c65 => absurd c65 (by decide))
  refine v_iload_n (pc := 77) dL_act_77 rfl rfl ?_
  refine v_iconst (pc := 78) (v := 5) dL_act_78 (by decide) ?_
  refine v_icmp_ne (pc := 79) (tgt := 94) dL_act_79 (by decide) (fun c79 => ?_) (fun c79 => absurd c79 (by decide))
  refine v_iload_n (pc := 94) dL_act_94 rfl rfl ?_
  refine v_bipush (pc := 95) (v := 6) dL_act_95 (by decide) ?_
  refine v_icmp_ne (pc := 97) (tgt := 108) dL_act_97 (by decide) (fun c97 => ?_) (fun c97 => absurd c97 (by decide))
  refine v_iload_n (pc := 108) dL_act_108 rfl rfl ?_
  refine v_bipush (pc := 109) (v := 7) dL_act_109 (by decide) ?_
  refine v_icmp_ne (pc := 111) (tgt := 123) dL_act_111 (by decide) (fun c111 => ?_) (fun c111 => absurd c111 (by decide))
  refine v_iload_n (pc := 123) dL_act_123 rfl rfl ?_
  refine v_bipush (pc := 124) (v := 8) dL_act_124 (by decide) ?_
  refine v_icmp_ne (pc := 126) (tgt := 138) dL_act_126 (by decide) (fun c126 => ?_) (fun c126 => absurd c126 (by decide))
  refine v_iload_n (pc := 138) dL_act_138 rfl rfl ?_
  refine v_bipush (pc := 139) (v := 9) dL_act_139 (by decide) ?_
  refine v_icmp_ne (pc := 141) (tgt := 165) dL_act_141 (by decide) (fun c141 => ?_) (fun c141 => absurd c141 (by decide))
  refine v_iload_n (pc := 165) dL_act_165 rfl rfl ?_
  refine v_bipush (pc := 166) (v := 10) dL_act_166 (by decide) ?_
  refine v_icmp_ne (pc := 168) (tgt := 180) dL_act_168 (by decide) (fun c168 => ?_) (fun c168 => absurd c168 (by decide))
  refine v_iload_n (pc := 180) dL_act_180 rfl rfl ?_
  refine v_bipush (pc := 181) (v := 11) dL_act_181 (by decide) ?_
  refine v_icmp_ne (pc := 183) (tgt := 195) dL_act_183 (by decide) (fun c183 => ?_) (fun c183 => absurd c183 (by decide))
  refine v_iload_n (pc := 195) dL_act_195 rfl rfl ?_
  refine v_bipush (pc := 196) (v := 12) dL_act_196 (by decide) ?_
  refine v_icmp_ne (pc := 198) (tgt := 210) dL_act_198 (by decide) (fun c198 => ?_) (fun c198 => absurd c198 (by decide))
  refine v_iload_n (pc := 210) dL_act_210 rfl rfl ?_
  refine v_bipush (pc := 211) (v := 13) dL_act_211 (by decide) ?_
  refine v_icmp_ne (pc := 213) (tgt := 224) dL_act_213 (by decide) (fun c213 => ?_) (fun c213 => absurd c213 (by decide))
  refine v_iload_n (pc := 224) dL_act_224 rfl rfl ?_
  refine v_bipush (pc := 225) (v := 14) dL_act_225 (by decide) ?_
  refine v_icmp_ne (pc := 227) (tgt := 246) dL_act_227 (by decide) (fun c227 => ?_) (fun c227 => absurd c227 (by decide))
  refine v_iload_n (pc := 246) dL_act_246 rfl rfl ?_
  refine v_bipush (pc := 247) (v := 15) dL_act_247 (by decide) ?_
  refine v_icmp_ne (pc := 249) (tgt := 262) dL_act_249 (by decide) (fun c249 => ?_) (fun c249 => absurd c249 (by decide))
  refine v_iload_n (pc := 262) dL_act_262 rfl rfl ?_
  refine v_bipush (pc := 263) (v := 16) dL_act_263 (by decide) ?_
  refine v_icmp_ne (pc := 265) (tgt := 278) dL_act_265 (by decide) (fun c265 => ?_) (fun c265 => absurd c265 (by decide))
  refine v_iload_n (pc := 278) dL_act_278 rfl rfl ?_
  refine v_bipush (pc := 279) (v := 17) dL_act_279 (by decide) ?_
  refine v_icmp_ne (pc := 281) (tgt := 293) dL_act_281 (by decide) (fun c281 => ?_) (fun c281 => absurd c281 (by decide))
  refine v_iload_n (pc := 293) dL_act_293 rfl rfl ?_
  refine v_bipush (pc := 294) (v := 18) dL_act_294 (by decide) ?_
  refine v_icmp_ne (pc := 296) (tgt := 308) dL_act_296 (by decide) (fun c296 => ?_) (fun c296 => absurd c296 (by decide))
  refine v_iload_n (pc := 308) dL_act_308 rfl rfl ?_
  refine v_bipush (pc := 309) (v := 19) dL_act_309 (by decide) ?_
  refine v_icmp_ne (pc := 311) (tgt := 324) dL_act_311 (by decide) (fun c311 => absurd c311 (by decide)) (fun c311 => ?_)
  refine v_aload_n (pc := 314) dL_act_314 rfl rfl ?_
  refine v_iload_n (pc := 315) dL_act_315 rfl rfl ?_
  refine v_iload_n (pc := 316) dL_act_316 rfl rfl ?_
  refine v_try (pc := 317) (As := [.int p0, .int p1]) (rest := []) hX dL_act_317 cw_L_78 im_yX8_part se_yX8_part ((c_X8_part D X s c p0 p1 h h33 hc hc2 hsl) G hG) ((hG.1 0 0 (hG.2.2.1 0 (by decide))).1.2.1) rfl rfl rfl (Nat.le_of_ble_eq_true rfl) ⟨Nat.le_of_ble_eq_true rfl, Nat.le_of_ble_eq_true rfl⟩ ⟨by decide, by decide⟩ (fun v G1 hp => ?_) (fun E9 G1 q9 hp => ?_)
  · obtain ⟨s1, hG1, hv1, hr1⟩ := hp
    subst hv1
    refine v_i2l (pc := 320) dL_act_320 ?_
    refine v_goto (pc := 321) (tgt := 443) dL_act_321 (by decide) ?_
    refine v_lret (pc := 443) hR dL_act_443 ⟨by decide, by decide⟩ ?_
    exact ⟨X, s1, _, rfl, hG1, rfl, fun c _ => rfl, Or.inl ⟨rfl, rfl, hr1⟩⟩
  · obtain ⟨hG1, hp⟩ := hp
    rcases hp with ⟨rfl, hk⟩ | ⟨rfl, hk⟩ | ⟨rfl, hk⟩
    · refine ⟨[], ⟨0, 443, 444, 103⟩, [⟨0, 443, 450, 107⟩, ⟨0, 443, 456, 111⟩], xIO, rfl, (fun z hz => nomatch hz), by decide, by decide, cl_L_103, ca_xIO, ?_⟩
      refine v_astore (pc := 444) dL_act_444 rfl (by decide) ?_
      refine v_ldcL (pc := 446) dL_act_446 k_L_105 ?_
      refine v_lret (pc := 449) hR dL_act_449 ⟨by decide, by decide⟩ ?_
      exact ⟨X, s, _, rfl, hG1, rfl, fun c _ => rfl, Or.inr ⟨Or.inl ⟨hk, rfl⟩, rfl, rfl⟩⟩
    · refine ⟨[⟨0, 443, 444, 103⟩], ⟨0, 443, 450, 107⟩, [⟨0, 443, 456, 111⟩], xIA, rfl, (List.forall_mem_cons.mpr ⟨Or.inr ⟨by decide, xIO, cl_L_103, (Or.inl ⟨rfl, rfl⟩)⟩, fun z hz => nomatch hz⟩), by decide, by decide, cl_L_107, ca_xIA, ?_⟩
      refine v_astore (pc := 450) dL_act_450 rfl (by decide) ?_
      refine v_ldcL (pc := 452) dL_act_452 k_L_109 ?_
      refine v_lret (pc := 455) hR dL_act_455 ⟨by decide, by decide⟩ ?_
      exact ⟨X, s, _, rfl, hG1, rfl, fun c _ => rfl, Or.inr ⟨Or.inr (Or.inl ⟨hk, rfl⟩), rfl, rfl⟩⟩
    · refine ⟨[⟨0, 443, 444, 103⟩, ⟨0, 443, 450, 107⟩], ⟨0, 443, 456, 111⟩, [], xIS, rfl, (List.forall_mem_cons.mpr ⟨Or.inr ⟨by decide, xIO, cl_L_103, (Or.inr (Or.inl ⟨rfl, rfl⟩))⟩, List.forall_mem_cons.mpr ⟨Or.inr ⟨by decide, xIA, cl_L_107, (Or.inr (Or.inr ⟨rfl, rfl⟩))⟩, fun z hz => nomatch hz⟩⟩), by decide, by decide, cl_L_111, ca_xIS, ?_⟩
      refine v_astore (pc := 456) dL_act_456 rfl (by decide) ?_
      refine v_ldcL (pc := 458) dL_act_458 k_L_113 ?_
      refine v_lret (pc := 461) hR dL_act_461 ⟨by decide, by decide⟩ ?_
      exact ⟨X, s, _, rfl, hG1, rfl, fun c _ => rfl, Or.inr ⟨Or.inr (Or.inr ⟨hk, rfl⟩), rfl, rfl⟩⟩
abbrev rw_act_opens : Room := { frames := 7, cells := 1, slots := 6, locals := 132 }
set_option maxRecDepth 100000 in
set_option maxHeartbeats 400000 in
theorem c_A_opens (D : DT) (G : GT) (X : XT) (s : SG) (c : Nat) (p0 : Int32) (y1 : Int32) (y2 : Int32) (y3 : Int32) (hG : LF X s G) (h : CV s c) (hc : s.1 28 0 = nI c) (hc2 : c ≤ 6) (hsl : ∀ f, f < 6 → X.2.2.1 5 f = decide (f < c)) : ML yL_act cL_act 7 (Option.some Jvm.ClassFile.FieldType.long) [(0, 443, 444, 103), (0, 443, 450, 107), (0, 443, 456, 111)] rw_act_opens D [.ref (X.1 0 0), .int 20, .int p0, .int y1, .int y2, .int y3] G (AP X s (fun X' s' w => w = ((opS s (nat p0))).toInt64 ∧ X' = X ∧ s' = s ∧ kOp c p0 = 0) (fun w => (kOp c p0 = 1 ∧ w = (-1731000000000)))) := by
  refine ML_of (by decide +kernel) (Nat.le_of_ble_eq_true rfl) (fun K sz hR hX => ?_)
  show V cL_act _ 7 _ D K 0 [some (.ref (X.1 0 0)), some (.int 20), some (.int p0), some (.int y1), some (.int y2), some (.int y3), none] [] G (0, 0)
  refine v_iload_n (pc := 0) dL_act_0 rfl rfl ?_
  refine v_if_ne (pc := 1) (tgt := 16) dL_act_1 (by decide) (fun c1 => ?_) (fun c1 => absurd c1 (by decide))
  refine v_iload_n (pc := 16) dL_act_16 rfl rfl ?_
  refine v_iconst (pc := 17) (v := 1) dL_act_17 (by decide) ?_
  refine v_icmp_ne (pc := 18) (tgt := 31) dL_act_18 (by decide) (fun c18 => ?_) (fun c18 => absurd c18 (by decide))
  refine v_iload_n (pc := 31) dL_act_31 rfl rfl ?_
  refine v_iconst (pc := 32) (v := 2) dL_act_32 (by decide) ?_
  refine v_icmp_ne (pc := 33) (tgt := 50) dL_act_33 (by decide) (fun c33 => ?_) (fun c33 => absurd c33 (by decide))
  refine v_iload_n (pc := 50) dL_act_50 rfl rfl ?_
  refine v_iconst (pc := 51) (v := 3) dL_act_51 (by decide) ?_
  refine v_icmp_ne (pc := 52) (tgt := 63) dL_act_52 (by decide) (fun c52 => ?_) (fun c52 => absurd c52 (by decide))
  refine v_iload_n (pc := 63) dL_act_63 rfl rfl ?_
  refine v_iconst (pc := 64) (v := 4) dL_act_64 (by decide) ?_
  refine v_icmp_ne (pc := 65) (tgt := 77) dL_act_65 (by decide) (fun c65 => ?_) (fun c65 => absurd c65 (by decide))
  refine v_iload_n (pc := 77) dL_act_77 rfl rfl ?_
  refine v_iconst (pc := 78) (v := 5) dL_act_78 (by decide) ?_
  refine v_icmp_ne (pc := 79) (tgt := 94) dL_act_79 (by decide) (fun c79 => ?_) (fun c79 => absurd c79 (by decide))
  refine v_iload_n (pc := 94) dL_act_94 rfl rfl ?_
  refine v_bipush (pc := 95) (v := 6) dL_act_95 (by decide) ?_
  refine v_icmp_ne (pc := 97) (tgt := 108) dL_act_97 (by decide) (fun c97 => ?_) (fun c97 => absurd c97 (by decide))
  refine v_iload_n (pc := 108) dL_act_108 rfl rfl ?_
  refine v_bipush (pc := 109) (v := 7) dL_act_109 (by decide) ?_
  refine v_icmp_ne (pc := 111) (tgt := 123) dL_act_111 (by decide) (fun c111 => ?_) (fun c111 => absurd c111 (by decide))
  refine v_iload_n (pc := 123) dL_act_123 rfl rfl ?_
  refine v_bipush (pc := 124) (v := 8) dL_act_124 (by decide) ?_
  refine v_icmp_ne (pc := 126) (tgt := 138) dL_act_126 (by decide) (fun c126 => ?_) (fun c126 => absurd c126 (by decide))
  refine v_iload_n (pc := 138) dL_act_138 rfl rfl ?_
  refine v_bipush (pc := 139) (v := 9) dL_act_139 (by decide) ?_
  refine v_icmp_ne (pc := 141) (tgt := 165) dL_act_141 (by decide) (fun c141 => ?_) (fun c141 => absurd c141 (by decide))
  refine v_iload_n (pc := 165) dL_act_165 rfl rfl ?_
  refine v_bipush (pc := 166) (v := 10) dL_act_166 (by decide) ?_
  refine v_icmp_ne (pc := 168) (tgt := 180) dL_act_168 (by decide) (fun c168 => ?_) (fun c168 => absurd c168 (by decide))
  refine v_iload_n (pc := 180) dL_act_180 rfl rfl ?_
  refine v_bipush (pc := 181) (v := 11) dL_act_181 (by decide) ?_
  refine v_icmp_ne (pc := 183) (tgt := 195) dL_act_183 (by decide) (fun c183 => ?_) (fun c183 => absurd c183 (by decide))
  refine v_iload_n (pc := 195) dL_act_195 rfl rfl ?_
  refine v_bipush (pc := 196) (v := 12) dL_act_196 (by decide) ?_
  refine v_icmp_ne (pc := 198) (tgt := 210) dL_act_198 (by decide) (fun c198 => ?_) (fun c198 => absurd c198 (by decide))
  refine v_iload_n (pc := 210) dL_act_210 rfl rfl ?_
  refine v_bipush (pc := 211) (v := 13) dL_act_211 (by decide) ?_
  refine v_icmp_ne (pc := 213) (tgt := 224) dL_act_213 (by decide) (fun c213 => ?_) (fun c213 => absurd c213 (by decide))
  refine v_iload_n (pc := 224) dL_act_224 rfl rfl ?_
  refine v_bipush (pc := 225) (v := 14) dL_act_225 (by decide) ?_
  refine v_icmp_ne (pc := 227) (tgt := 246) dL_act_227 (by decide) (fun c227 => ?_) (fun c227 => absurd c227 (by decide))
  refine v_iload_n (pc := 246) dL_act_246 rfl rfl ?_
  refine v_bipush (pc := 247) (v := 15) dL_act_247 (by decide) ?_
  refine v_icmp_ne (pc := 249) (tgt := 262) dL_act_249 (by decide) (fun c249 => ?_) (fun c249 => absurd c249 (by decide))
  refine v_iload_n (pc := 262) dL_act_262 rfl rfl ?_
  refine v_bipush (pc := 263) (v := 16) dL_act_263 (by decide) ?_
  refine v_icmp_ne (pc := 265) (tgt := 278) dL_act_265 (by decide) (fun c265 => ?_) (fun c265 => absurd c265 (by decide))
  refine v_iload_n (pc := 278) dL_act_278 rfl rfl ?_
  refine v_bipush (pc := 279) (v := 17) dL_act_279 (by decide) ?_
  refine v_icmp_ne (pc := 281) (tgt := 293) dL_act_281 (by decide) (fun c281 => ?_) (fun c281 => absurd c281 (by decide))
  refine v_iload_n (pc := 293) dL_act_293 rfl rfl ?_
  refine v_bipush (pc := 294) (v := 18) dL_act_294 (by decide) ?_
  refine v_icmp_ne (pc := 296) (tgt := 308) dL_act_296 (by decide) (fun c296 => ?_) (fun c296 => absurd c296 (by decide))
  refine v_iload_n (pc := 308) dL_act_308 rfl rfl ?_
  refine v_bipush (pc := 309) (v := 19) dL_act_309 (by decide) ?_
  refine v_icmp_ne (pc := 311) (tgt := 324) dL_act_311 (by decide) (fun c311 => ?_) (fun c311 => absurd c311 (by decide))
  refine v_iload_n (pc := 324) dL_act_324 rfl rfl ?_
  refine v_bipush (pc := 325) (v := 20) dL_act_325 (by decide) ?_
  refine v_icmp_ne (pc := 327) (tgt := 339) dL_act_327 (by decide) (fun c327 => absurd c327 (by decide)) (fun c327 => ?_)
  refine v_aload_n (pc := 330) dL_act_330 rfl rfl ?_
  refine v_iload_n (pc := 331) dL_act_331 rfl rfl ?_
  refine v_try (pc := 332) (As := [.int p0]) (rest := []) hX dL_act_332 cw_L_81 im_yX8_opens se_yX8_opens ((c_X8_opens D X s c p0 h hc hc2 hsl) G hG) ((hG.1 0 0 (hG.2.2.1 0 (by decide))).1.2.1) rfl rfl rfl (Nat.le_of_ble_eq_true rfl) ⟨Nat.le_of_ble_eq_true rfl, Nat.le_of_ble_eq_true rfl⟩ ⟨by decide, by decide⟩ (fun v G1 hp => ?_) (fun E9 G1 q9 hp => ?_)
  · obtain ⟨s1, hG1, hv1, hr1⟩ := hp
    subst hv1
    refine v_i2l (pc := 335) dL_act_335 ?_
    refine v_goto (pc := 336) (tgt := 443) dL_act_336 (by decide) ?_
    refine v_lret (pc := 443) hR dL_act_443 ⟨by decide, by decide⟩ ?_
    exact ⟨X, s1, _, rfl, hG1, rfl, fun c _ => rfl, Or.inl ⟨rfl, rfl, hr1⟩⟩
  · obtain ⟨hG1, hp⟩ := hp
    rcases hp with ⟨rfl, hk⟩
    · refine ⟨[], ⟨0, 443, 444, 103⟩, [⟨0, 443, 450, 107⟩, ⟨0, 443, 456, 111⟩], xIO, rfl, (fun z hz => nomatch hz), by decide, by decide, cl_L_103, ca_xIO, ?_⟩
      refine v_astore (pc := 444) dL_act_444 rfl (by decide) ?_
      refine v_ldcL (pc := 446) dL_act_446 k_L_105 ?_
      refine v_lret (pc := 449) hR dL_act_449 ⟨by decide, by decide⟩ ?_
      exact ⟨X, s, _, rfl, hG1, rfl, fun c _ => rfl, Or.inr ⟨⟨hk, rfl⟩, rfl, rfl⟩⟩
abbrev rw_act_seal : Room := { frames := 7, cells := 1, slots := 6, locals := 148 }
set_option maxRecDepth 100000 in
set_option maxHeartbeats 400000 in
theorem c_A_seal (D : DT) (G : GT) (X : XT) (s : SG) (c n : Nat) (p0 : Int32) (p1 : Int32) (y2 : Int32) (y3 : Int32) (hG : LF X s G) (h : CV s c) (h33 : ∀ j, j < c → (s.1 32 j = -1 ↔ s.1 33 j = -1)) (hn : s.1 45 0 = nI n) (hn5 : n < 512) (hc : s.1 28 0 = nI c) (hc2 : c ≤ 6) (hsl : ∀ f, f < 6 → X.2.2.1 5 f = decide (f < c)) : ML yL_act cL_act 7 (Option.some Jvm.ClassFile.FieldType.long) [(0, 443, 444, 103), (0, 443, 450, 107), (0, 443, 456, 111)] rw_act_seal D [.ref (X.1 0 0), .int 21, .int p0, .int p1, .int y2, .int y3] G (AP X s (fun X' s' w => w = ((s.1 34 (nat p0) + 1)).toInt64 ∧ X' = X ∧ s' = noteS (gSeal s (nat p0) p1) (nat p0) 3 n ∧ kSeal s c p0 p1 = 0) (fun w => (kSeal s c p0 p1 = 1 ∧ w = (-1731000000000)) ∨ (kSeal s c p0 p1 = 2 ∧ w = (-1733000000000)))) := by
  refine ML_of (by decide +kernel) (Nat.le_of_ble_eq_true rfl) (fun K sz hR hX => ?_)
  show V cL_act _ 7 _ D K 0 [some (.ref (X.1 0 0)), some (.int 21), some (.int p0), some (.int p1), some (.int y2), some (.int y3), none] [] G (0, 0)
  refine v_iload_n (pc := 0) dL_act_0 rfl rfl ?_
  refine v_if_ne (pc := 1) (tgt := 16) dL_act_1 (by decide) (fun c1 => ?_) (fun c1 => absurd c1 (by decide))
  refine v_iload_n (pc := 16) dL_act_16 rfl rfl ?_
  refine v_iconst (pc := 17) (v := 1) dL_act_17 (by decide) ?_
  refine v_icmp_ne (pc := 18) (tgt := 31) dL_act_18 (by decide) (fun c18 => ?_) (fun c18 => absurd c18 (by decide))
  refine v_iload_n (pc := 31) dL_act_31 rfl rfl ?_
  refine v_iconst (pc := 32) (v := 2) dL_act_32 (by decide) ?_
  refine v_icmp_ne (pc := 33) (tgt := 50) dL_act_33 (by decide) (fun c33 => ?_) (fun c33 => absurd c33 (by decide))
  refine v_iload_n (pc := 50) dL_act_50 rfl rfl ?_
  refine v_iconst (pc := 51) (v := 3) dL_act_51 (by decide) ?_
  refine v_icmp_ne (pc := 52) (tgt := 63) dL_act_52 (by decide) (fun c52 => ?_) (fun c52 => absurd c52 (by decide))
  refine v_iload_n (pc := 63) dL_act_63 rfl rfl ?_
  refine v_iconst (pc := 64) (v := 4) dL_act_64 (by decide) ?_
  refine v_icmp_ne (pc := 65) (tgt := 77) dL_act_65 (by decide) (fun c65 => ?_) (fun c65 => absurd c65 (by decide))
  refine v_iload_n (pc := 77) dL_act_77 rfl rfl ?_
  refine v_iconst (pc := 78) (v := 5) dL_act_78 (by decide) ?_
  refine v_icmp_ne (pc := 79) (tgt := 94) dL_act_79 (by decide) (fun c79 => ?_) (fun c79 => absurd c79 (by decide))
  refine v_iload_n (pc := 94) dL_act_94 rfl rfl ?_
  refine v_bipush (pc := 95) (v := 6) dL_act_95 (by decide) ?_
  refine v_icmp_ne (pc := 97) (tgt := 108) dL_act_97 (by decide) (fun c97 => ?_) (fun c97 => absurd c97 (by decide))
  refine v_iload_n (pc := 108) dL_act_108 rfl rfl ?_
  refine v_bipush (pc := 109) (v := 7) dL_act_109 (by decide) ?_
  refine v_icmp_ne (pc := 111) (tgt := 123) dL_act_111 (by decide) (fun c111 => ?_) (fun c111 => absurd c111 (by decide))
  refine v_iload_n (pc := 123) dL_act_123 rfl rfl ?_
  refine v_bipush (pc := 124) (v := 8) dL_act_124 (by decide) ?_
  refine v_icmp_ne (pc := 126) (tgt := 138) dL_act_126 (by decide) (fun c126 => ?_) (fun c126 => absurd c126 (by decide))
  refine v_iload_n (pc := 138) dL_act_138 rfl rfl ?_
  refine v_bipush (pc := 139) (v := 9) dL_act_139 (by decide) ?_
  refine v_icmp_ne (pc := 141) (tgt := 165) dL_act_141 (by decide) (fun c141 => ?_) (fun c141 => absurd c141 (by decide))
  refine v_iload_n (pc := 165) dL_act_165 rfl rfl ?_
  refine v_bipush (pc := 166) (v := 10) dL_act_166 (by decide) ?_
  refine v_icmp_ne (pc := 168) (tgt := 180) dL_act_168 (by decide) (fun c168 => ?_) (fun c168 => absurd c168 (by decide))
  refine v_iload_n (pc := 180) dL_act_180 rfl rfl ?_
  refine v_bipush (pc := 181) (v := 11) dL_act_181 (by decide) ?_
  refine v_icmp_ne (pc := 183) (tgt := 195) dL_act_183 (by decide) (fun c183 => ?_) (fun c183 => absurd c183 (by decide))
  refine v_iload_n (pc := 195) dL_act_195 rfl rfl ?_
  refine v_bipush (pc := 196) (v := 12) dL_act_196 (by decide) ?_
  refine v_icmp_ne (pc := 198) (tgt := 210) dL_act_198 (by decide) (fun c198 => ?_) (fun c198 => absurd c198 (by decide))
  refine v_iload_n (pc := 210) dL_act_210 rfl rfl ?_
  refine v_bipush (pc := 211) (v := 13) dL_act_211 (by decide) ?_
  refine v_icmp_ne (pc := 213) (tgt := 224) dL_act_213 (by decide) (fun c213 => ?_) (fun c213 => absurd c213 (by decide))
  refine v_iload_n (pc := 224) dL_act_224 rfl rfl ?_
  refine v_bipush (pc := 225) (v := 14) dL_act_225 (by decide) ?_
  refine v_icmp_ne (pc := 227) (tgt := 246) dL_act_227 (by decide) (fun c227 => ?_) (fun c227 => absurd c227 (by decide))
  refine v_iload_n (pc := 246) dL_act_246 rfl rfl ?_
  refine v_bipush (pc := 247) (v := 15) dL_act_247 (by decide) ?_
  refine v_icmp_ne (pc := 249) (tgt := 262) dL_act_249 (by decide) (fun c249 => ?_) (fun c249 => absurd c249 (by decide))
  refine v_iload_n (pc := 262) dL_act_262 rfl rfl ?_
  refine v_bipush (pc := 263) (v := 16) dL_act_263 (by decide) ?_
  refine v_icmp_ne (pc := 265) (tgt := 278) dL_act_265 (by decide) (fun c265 => ?_) (fun c265 => absurd c265 (by decide))
  refine v_iload_n (pc := 278) dL_act_278 rfl rfl ?_
  refine v_bipush (pc := 279) (v := 17) dL_act_279 (by decide) ?_
  refine v_icmp_ne (pc := 281) (tgt := 293) dL_act_281 (by decide) (fun c281 => ?_) (fun c281 => absurd c281 (by decide))
  refine v_iload_n (pc := 293) dL_act_293 rfl rfl ?_
  refine v_bipush (pc := 294) (v := 18) dL_act_294 (by decide) ?_
  refine v_icmp_ne (pc := 296) (tgt := 308) dL_act_296 (by decide) (fun c296 => ?_) (fun c296 => absurd c296 (by decide))
  refine v_iload_n (pc := 308) dL_act_308 rfl rfl ?_
  refine v_bipush (pc := 309) (v := 19) dL_act_309 (by decide) ?_
  refine v_icmp_ne (pc := 311) (tgt := 324) dL_act_311 (by decide) (fun c311 => ?_) (fun c311 => absurd c311 (by decide))
  refine v_iload_n (pc := 324) dL_act_324 rfl rfl ?_
  refine v_bipush (pc := 325) (v := 20) dL_act_325 (by decide) ?_
  refine v_icmp_ne (pc := 327) (tgt := 339) dL_act_327 (by decide) (fun c327 => ?_) (fun c327 => absurd c327 (by decide))
  refine v_iload_n (pc := 339) dL_act_339 rfl rfl ?_
  refine v_bipush (pc := 340) (v := 21) dL_act_340 (by decide) ?_
  refine v_icmp_ne (pc := 342) (tgt := 355) dL_act_342 (by decide) (fun c342 => absurd c342 (by decide)) (fun c342 => ?_)
  refine v_aload_n (pc := 345) dL_act_345 rfl rfl ?_
  refine v_iload_n (pc := 346) dL_act_346 rfl rfl ?_
  refine v_iload_n (pc := 347) dL_act_347 rfl rfl ?_
  refine v_try (pc := 348) (As := [.int p0, .int p1]) (rest := []) hX dL_act_348 cw_L_84 im_yX8_seal se_yX8_seal ((c_X8_seal D X s c n p0 p1 h h33 hn hn5 hc hc2 hsl) G hG) ((hG.1 0 0 (hG.2.2.1 0 (by decide))).1.2.1) rfl rfl rfl (Nat.le_of_ble_eq_true rfl) ⟨Nat.le_of_ble_eq_true rfl, Nat.le_of_ble_eq_true rfl⟩ ⟨by decide, by decide⟩ (fun v G1 hp => ?_) (fun E9 G1 q9 hp => ?_)
  · obtain ⟨s1, hG1, hv1, hr1⟩ := hp
    subst hv1
    refine v_i2l (pc := 351) dL_act_351 ?_
    refine v_goto (pc := 352) (tgt := 443) dL_act_352 (by decide) ?_
    refine v_lret (pc := 443) hR dL_act_443 ⟨by decide, by decide⟩ ?_
    exact ⟨X, s1, _, rfl, hG1, rfl, fun c _ => rfl, Or.inl ⟨rfl, rfl, hr1⟩⟩
  · obtain ⟨hG1, hp⟩ := hp
    rcases hp with ⟨rfl, hk⟩ | ⟨rfl, hk⟩
    · refine ⟨[], ⟨0, 443, 444, 103⟩, [⟨0, 443, 450, 107⟩, ⟨0, 443, 456, 111⟩], xIO, rfl, (fun z hz => nomatch hz), by decide, by decide, cl_L_103, ca_xIO, ?_⟩
      refine v_astore (pc := 444) dL_act_444 rfl (by decide) ?_
      refine v_ldcL (pc := 446) dL_act_446 k_L_105 ?_
      refine v_lret (pc := 449) hR dL_act_449 ⟨by decide, by decide⟩ ?_
      exact ⟨X, s, _, rfl, hG1, rfl, fun c _ => rfl, Or.inr ⟨Or.inl ⟨hk, rfl⟩, rfl, rfl⟩⟩
    · refine ⟨[⟨0, 443, 444, 103⟩, ⟨0, 443, 450, 107⟩], ⟨0, 443, 456, 111⟩, [], xIS, rfl, (List.forall_mem_cons.mpr ⟨Or.inr ⟨by decide, xIO, cl_L_103, (Or.inr (Or.inl ⟨rfl, rfl⟩))⟩, List.forall_mem_cons.mpr ⟨Or.inr ⟨by decide, xIA, cl_L_107, (Or.inr (Or.inr ⟨rfl, rfl⟩))⟩, fun z hz => nomatch hz⟩⟩), by decide, by decide, cl_L_111, ca_xIS, ?_⟩
      refine v_astore (pc := 456) dL_act_456 rfl (by decide) ?_
      refine v_ldcL (pc := 458) dL_act_458 k_L_113 ?_
      refine v_lret (pc := 461) hR dL_act_461 ⟨by decide, by decide⟩ ?_
      exact ⟨X, s, _, rfl, hG1, rfl, fun c _ => rfl, Or.inr ⟨Or.inr ⟨hk, rfl⟩, rfl, rfl⟩⟩
abbrev rw_act_use : Room := { frames := 7, cells := 1, slots := 6, locals := 133 }
set_option maxRecDepth 100000 in
set_option maxHeartbeats 400000 in
theorem c_A_use (D : DT) (G : GT) (X : XT) (s : SG) (c n : Nat) (p0 : Int32) (y1 : Int32) (y2 : Int32) (y3 : Int32) (hG : LF X s G) (h : CV s c) (h33 : ∀ j, j < c → (s.1 32 j = -1 ↔ s.1 33 j = -1)) (hn : s.1 45 0 = nI n) (hn5 : n < 512) (hc : s.1 28 0 = nI c) (hc2 : c ≤ 6) (hsl : ∀ f, f < 6 → X.2.2.1 5 f = decide (f < c)) : ML yL_act cL_act 7 (Option.some Jvm.ClassFile.FieldType.long) [(0, 443, 444, 103), (0, 443, 450, 107), (0, 443, 456, 111)] rw_act_use D [.ref (X.1 0 0), .int 22, .int p0, .int y1, .int y2, .int y3] G (AP X s (fun X' s' w => w = ((s.1 32 (nat p0))).toInt64 ∧ X' = X ∧ s' = noteS (gUse s (nat p0)) (nat p0) 4 n ∧ kUse s c p0 = 0) (fun w => (kUse s c p0 = 1 ∧ w = (-1731000000000)) ∨ (kUse s c p0 = 2 ∧ w = (-1733000000000)))) := by
  refine ML_of (by decide +kernel) (Nat.le_of_ble_eq_true rfl) (fun K sz hR hX => ?_)
  show V cL_act _ 7 _ D K 0 [some (.ref (X.1 0 0)), some (.int 22), some (.int p0), some (.int y1), some (.int y2), some (.int y3), none] [] G (0, 0)
  refine v_iload_n (pc := 0) dL_act_0 rfl rfl ?_
  refine v_if_ne (pc := 1) (tgt := 16) dL_act_1 (by decide) (fun c1 => ?_) (fun c1 => absurd c1 (by decide))
  refine v_iload_n (pc := 16) dL_act_16 rfl rfl ?_
  refine v_iconst (pc := 17) (v := 1) dL_act_17 (by decide) ?_
  refine v_icmp_ne (pc := 18) (tgt := 31) dL_act_18 (by decide) (fun c18 => ?_) (fun c18 => absurd c18 (by decide))
  refine v_iload_n (pc := 31) dL_act_31 rfl rfl ?_
  refine v_iconst (pc := 32) (v := 2) dL_act_32 (by decide) ?_
  refine v_icmp_ne (pc := 33) (tgt := 50) dL_act_33 (by decide) (fun c33 => ?_) (fun c33 => absurd c33 (by decide))
  refine v_iload_n (pc := 50) dL_act_50 rfl rfl ?_
  refine v_iconst (pc := 51) (v := 3) dL_act_51 (by decide) ?_
  refine v_icmp_ne (pc := 52) (tgt := 63) dL_act_52 (by decide) (fun c52 => ?_) (fun c52 => absurd c52 (by decide))
  refine v_iload_n (pc := 63) dL_act_63 rfl rfl ?_
  refine v_iconst (pc := 64) (v := 4) dL_act_64 (by decide) ?_
  refine v_icmp_ne (pc := 65) (tgt := 77) dL_act_65 (by decide) (fun c65 => ?_) (fun c65 => absurd c65 (by decide))
  refine v_iload_n (pc := 77) dL_act_77 rfl rfl ?_
  refine v_iconst (pc := 78) (v := 5) dL_act_78 (by decide) ?_
  refine v_icmp_ne (pc := 79) (tgt := 94) dL_act_79 (by decide) (fun c79 => ?_) (fun c79 => absurd c79 (by decide))
  refine v_iload_n (pc := 94) dL_act_94 rfl rfl ?_
  refine v_bipush (pc := 95) (v := 6) dL_act_95 (by decide) ?_
  refine v_icmp_ne (pc := 97) (tgt := 108) dL_act_97 (by decide) (fun c97 => ?_) (fun c97 => absurd c97 (by decide))
  refine v_iload_n (pc := 108) dL_act_108 rfl rfl ?_
  refine v_bipush (pc := 109) (v := 7) dL_act_109 (by decide) ?_
  refine v_icmp_ne (pc := 111) (tgt := 123) dL_act_111 (by decide) (fun c111 => ?_) (fun c111 => absurd c111 (by decide))
  refine v_iload_n (pc := 123) dL_act_123 rfl rfl ?_
  refine v_bipush (pc := 124) (v := 8) dL_act_124 (by decide) ?_
  refine v_icmp_ne (pc := 126) (tgt := 138) dL_act_126 (by decide) (fun c126 => ?_) (fun c126 => absurd c126 (by decide))
  refine v_iload_n (pc := 138) dL_act_138 rfl rfl ?_
  refine v_bipush (pc := 139) (v := 9) dL_act_139 (by decide) ?_
  refine v_icmp_ne (pc := 141) (tgt := 165) dL_act_141 (by decide) (fun c141 => ?_) (fun c141 => absurd c141 (by decide))
  refine v_iload_n (pc := 165) dL_act_165 rfl rfl ?_
  refine v_bipush (pc := 166) (v := 10) dL_act_166 (by decide) ?_
  refine v_icmp_ne (pc := 168) (tgt := 180) dL_act_168 (by decide) (fun c168 => ?_) (fun c168 => absurd c168 (by decide))
  refine v_iload_n (pc := 180) dL_act_180 rfl rfl ?_
  refine v_bipush (pc := 181) (v := 11) dL_act_181 (by decide) ?_
  refine v_icmp_ne (pc := 183) (tgt := 195) dL_act_183 (by decide) (fun c183 => ?_) (fun c183 => absurd c183 (by decide))
  refine v_iload_n (pc := 195) dL_act_195 rfl rfl ?_
  refine v_bipush (pc := 196) (v := 12) dL_act_196 (by decide) ?_
  refine v_icmp_ne (pc := 198) (tgt := 210) dL_act_198 (by decide) (fun c198 => ?_) (fun c198 => absurd c198 (by decide))
  refine v_iload_n (pc := 210) dL_act_210 rfl rfl ?_
  refine v_bipush (pc := 211) (v := 13) dL_act_211 (by decide) ?_
  refine v_icmp_ne (pc := 213) (tgt := 224) dL_act_213 (by decide) (fun c213 => ?_) (fun c213 => absurd c213 (by decide))
  refine v_iload_n (pc := 224) dL_act_224 rfl rfl ?_
  refine v_bipush (pc := 225) (v := 14) dL_act_225 (by decide) ?_
  refine v_icmp_ne (pc := 227) (tgt := 246) dL_act_227 (by decide) (fun c227 => ?_) (fun c227 => absurd c227 (by decide))
  refine v_iload_n (pc := 246) dL_act_246 rfl rfl ?_
  refine v_bipush (pc := 247) (v := 15) dL_act_247 (by decide) ?_
  refine v_icmp_ne (pc := 249) (tgt := 262) dL_act_249 (by decide) (fun c249 => ?_) (fun c249 => absurd c249 (by decide))
  refine v_iload_n (pc := 262) dL_act_262 rfl rfl ?_
  refine v_bipush (pc := 263) (v := 16) dL_act_263 (by decide) ?_
  refine v_icmp_ne (pc := 265) (tgt := 278) dL_act_265 (by decide) (fun c265 => ?_) (fun c265 => absurd c265 (by decide))
  refine v_iload_n (pc := 278) dL_act_278 rfl rfl ?_
  refine v_bipush (pc := 279) (v := 17) dL_act_279 (by decide) ?_
  refine v_icmp_ne (pc := 281) (tgt := 293) dL_act_281 (by decide) (fun c281 => ?_) (fun c281 => absurd c281 (by decide))
  refine v_iload_n (pc := 293) dL_act_293 rfl rfl ?_
  refine v_bipush (pc := 294) (v := 18) dL_act_294 (by decide) ?_
  refine v_icmp_ne (pc := 296) (tgt := 308) dL_act_296 (by decide) (fun c296 => ?_) (fun c296 => absurd c296 (by decide))
  refine v_iload_n (pc := 308) dL_act_308 rfl rfl ?_
  refine v_bipush (pc := 309) (v := 19) dL_act_309 (by decide) ?_
  refine v_icmp_ne (pc := 311) (tgt := 324) dL_act_311 (by decide) (fun c311 => ?_) (fun c311 => absurd c311 (by decide))
  refine v_iload_n (pc := 324) dL_act_324 rfl rfl ?_
  refine v_bipush (pc := 325) (v := 20) dL_act_325 (by decide) ?_
  refine v_icmp_ne (pc := 327) (tgt := 339) dL_act_327 (by decide) (fun c327 => ?_) (fun c327 => absurd c327 (by decide))
  refine v_iload_n (pc := 339) dL_act_339 rfl rfl ?_
  refine v_bipush (pc := 340) (v := 21) dL_act_340 (by decide) ?_
  refine v_icmp_ne (pc := 342) (tgt := 355) dL_act_342 (by decide) (fun c342 => ?_) (fun c342 => absurd c342 (by decide))
  refine v_iload_n (pc := 355) dL_act_355 rfl rfl ?_
  refine v_bipush (pc := 356) (v := 22) dL_act_356 (by decide) ?_
  refine v_icmp_ne (pc := 358) (tgt := 370) dL_act_358 (by decide) (fun c358 => absurd c358 (by decide)) (fun c358 => ?_)
  refine v_aload_n (pc := 361) dL_act_361 rfl rfl ?_
  refine v_iload_n (pc := 362) dL_act_362 rfl rfl ?_
  refine v_try (pc := 363) (As := [.int p0]) (rest := []) hX dL_act_363 cw_L_87 im_yX8_use se_yX8_use ((c_X8_use D X s c n p0 h h33 hn hn5 hc hc2 hsl) G hG) ((hG.1 0 0 (hG.2.2.1 0 (by decide))).1.2.1) rfl rfl rfl (Nat.le_of_ble_eq_true rfl) ⟨Nat.le_of_ble_eq_true rfl, Nat.le_of_ble_eq_true rfl⟩ ⟨by decide, by decide⟩ (fun v G1 hp => ?_) (fun E9 G1 q9 hp => ?_)
  · obtain ⟨s1, hG1, hv1, hr1⟩ := hp
    subst hv1
    refine v_i2l (pc := 366) dL_act_366 ?_
    refine v_goto (pc := 367) (tgt := 443) dL_act_367 (by decide) ?_
    refine v_lret (pc := 443) hR dL_act_443 ⟨by decide, by decide⟩ ?_
    exact ⟨X, s1, _, rfl, hG1, rfl, fun c _ => rfl, Or.inl ⟨rfl, rfl, hr1⟩⟩
  · obtain ⟨hG1, hp⟩ := hp
    rcases hp with ⟨rfl, hk⟩ | ⟨rfl, hk⟩
    · refine ⟨[], ⟨0, 443, 444, 103⟩, [⟨0, 443, 450, 107⟩, ⟨0, 443, 456, 111⟩], xIO, rfl, (fun z hz => nomatch hz), by decide, by decide, cl_L_103, ca_xIO, ?_⟩
      refine v_astore (pc := 444) dL_act_444 rfl (by decide) ?_
      refine v_ldcL (pc := 446) dL_act_446 k_L_105 ?_
      refine v_lret (pc := 449) hR dL_act_449 ⟨by decide, by decide⟩ ?_
      exact ⟨X, s, _, rfl, hG1, rfl, fun c _ => rfl, Or.inr ⟨Or.inl ⟨hk, rfl⟩, rfl, rfl⟩⟩
    · refine ⟨[⟨0, 443, 444, 103⟩, ⟨0, 443, 450, 107⟩], ⟨0, 443, 456, 111⟩, [], xIS, rfl, (List.forall_mem_cons.mpr ⟨Or.inr ⟨by decide, xIO, cl_L_103, (Or.inr (Or.inl ⟨rfl, rfl⟩))⟩, List.forall_mem_cons.mpr ⟨Or.inr ⟨by decide, xIA, cl_L_107, (Or.inr (Or.inr ⟨rfl, rfl⟩))⟩, fun z hz => nomatch hz⟩⟩), by decide, by decide, cl_L_111, ca_xIS, ?_⟩
      refine v_astore (pc := 456) dL_act_456 rfl (by decide) ?_
      refine v_ldcL (pc := 458) dL_act_458 k_L_113 ?_
      refine v_lret (pc := 461) hR dL_act_461 ⟨by decide, by decide⟩ ?_
      exact ⟨X, s, _, rfl, hG1, rfl, fun c _ => rfl, Or.inr ⟨Or.inr ⟨hk, rfl⟩, rfl, rfl⟩⟩
abbrev rw_act_wet0 : Room := { frames := 7, cells := 1, slots := 6, locals := 133 }
set_option maxRecDepth 100000 in
set_option maxHeartbeats 400000 in
theorem c_A_wet0 (D : DT) (G : GT) (X : XT) (s : SG) (c n : Nat) (p0 : Int32) (y2 : Int32) (y3 : Int32) (hG : LF X s G) (h : CV s c) (h33 : ∀ j, j < c → (s.1 32 j = -1 ↔ s.1 33 j = -1)) (hn : s.1 45 0 = nI n) (hn5 : n < 512) (hc : s.1 28 0 = nI c) (hc2 : c ≤ 6) (hsl : ∀ f, f < 6 → X.2.2.1 5 f = decide (f < c)) : ML yL_act cL_act 7 (Option.some Jvm.ClassFile.FieldType.long) [(0, 443, 444, 103), (0, 443, 450, 107), (0, 443, 456, 111)] rw_act_wet0 D [.ref (X.1 0 0), .int 23, .int p0, .int 0, .int y2, .int y3] G (AP X s (fun X' s' w => w = (((gWet s (nat p0) 0).1 37 (nat p0))).toInt64 ∧ X' = X ∧ s' = (if 0 = 0 then noteS (gWet s (nat p0) 0) (nat p0) 5 n else sI s 37 (nat p0) 0) ∧ kWet s c p0 = 0) (fun w => (kWet s c p0 = 1 ∧ w = (-1731000000000)) ∨ (kWet s c p0 = 2 ∧ w = (-1733000000000)))) := by
  refine ML_of (by decide +kernel) (Nat.le_of_ble_eq_true rfl) (fun K sz hR hX => ?_)
  show V cL_act _ 7 _ D K 0 [some (.ref (X.1 0 0)), some (.int 23), some (.int p0), some (.int 0), some (.int y2), some (.int y3), none] [] G (0, 0)
  refine v_iload_n (pc := 0) dL_act_0 rfl rfl ?_
  refine v_if_ne (pc := 1) (tgt := 16) dL_act_1 (by decide) (fun c1 => ?_) (fun c1 => absurd c1 (by decide))
  refine v_iload_n (pc := 16) dL_act_16 rfl rfl ?_
  refine v_iconst (pc := 17) (v := 1) dL_act_17 (by decide) ?_
  refine v_icmp_ne (pc := 18) (tgt := 31) dL_act_18 (by decide) (fun c18 => ?_) (fun c18 => absurd c18 (by decide))
  refine v_iload_n (pc := 31) dL_act_31 rfl rfl ?_
  refine v_iconst (pc := 32) (v := 2) dL_act_32 (by decide) ?_
  refine v_icmp_ne (pc := 33) (tgt := 50) dL_act_33 (by decide) (fun c33 => ?_) (fun c33 => absurd c33 (by decide))
  refine v_iload_n (pc := 50) dL_act_50 rfl rfl ?_
  refine v_iconst (pc := 51) (v := 3) dL_act_51 (by decide) ?_
  refine v_icmp_ne (pc := 52) (tgt := 63) dL_act_52 (by decide) (fun c52 => ?_) (fun c52 => absurd c52 (by decide))
  refine v_iload_n (pc := 63) dL_act_63 rfl rfl ?_
  refine v_iconst (pc := 64) (v := 4) dL_act_64 (by decide) ?_
  refine v_icmp_ne (pc := 65) (tgt := 77) dL_act_65 (by decide) (fun c65 => ?_) (fun c65 => absurd c65 (by decide))
  refine v_iload_n (pc := 77) dL_act_77 rfl rfl ?_
  refine v_iconst (pc := 78) (v := 5) dL_act_78 (by decide) ?_
  refine v_icmp_ne (pc := 79) (tgt := 94) dL_act_79 (by decide) (fun c79 => ?_) (fun c79 => absurd c79 (by decide))
  refine v_iload_n (pc := 94) dL_act_94 rfl rfl ?_
  refine v_bipush (pc := 95) (v := 6) dL_act_95 (by decide) ?_
  refine v_icmp_ne (pc := 97) (tgt := 108) dL_act_97 (by decide) (fun c97 => ?_) (fun c97 => absurd c97 (by decide))
  refine v_iload_n (pc := 108) dL_act_108 rfl rfl ?_
  refine v_bipush (pc := 109) (v := 7) dL_act_109 (by decide) ?_
  refine v_icmp_ne (pc := 111) (tgt := 123) dL_act_111 (by decide) (fun c111 => ?_) (fun c111 => absurd c111 (by decide))
  refine v_iload_n (pc := 123) dL_act_123 rfl rfl ?_
  refine v_bipush (pc := 124) (v := 8) dL_act_124 (by decide) ?_
  refine v_icmp_ne (pc := 126) (tgt := 138) dL_act_126 (by decide) (fun c126 => ?_) (fun c126 => absurd c126 (by decide))
  refine v_iload_n (pc := 138) dL_act_138 rfl rfl ?_
  refine v_bipush (pc := 139) (v := 9) dL_act_139 (by decide) ?_
  refine v_icmp_ne (pc := 141) (tgt := 165) dL_act_141 (by decide) (fun c141 => ?_) (fun c141 => absurd c141 (by decide))
  refine v_iload_n (pc := 165) dL_act_165 rfl rfl ?_
  refine v_bipush (pc := 166) (v := 10) dL_act_166 (by decide) ?_
  refine v_icmp_ne (pc := 168) (tgt := 180) dL_act_168 (by decide) (fun c168 => ?_) (fun c168 => absurd c168 (by decide))
  refine v_iload_n (pc := 180) dL_act_180 rfl rfl ?_
  refine v_bipush (pc := 181) (v := 11) dL_act_181 (by decide) ?_
  refine v_icmp_ne (pc := 183) (tgt := 195) dL_act_183 (by decide) (fun c183 => ?_) (fun c183 => absurd c183 (by decide))
  refine v_iload_n (pc := 195) dL_act_195 rfl rfl ?_
  refine v_bipush (pc := 196) (v := 12) dL_act_196 (by decide) ?_
  refine v_icmp_ne (pc := 198) (tgt := 210) dL_act_198 (by decide) (fun c198 => ?_) (fun c198 => absurd c198 (by decide))
  refine v_iload_n (pc := 210) dL_act_210 rfl rfl ?_
  refine v_bipush (pc := 211) (v := 13) dL_act_211 (by decide) ?_
  refine v_icmp_ne (pc := 213) (tgt := 224) dL_act_213 (by decide) (fun c213 => ?_) (fun c213 => absurd c213 (by decide))
  refine v_iload_n (pc := 224) dL_act_224 rfl rfl ?_
  refine v_bipush (pc := 225) (v := 14) dL_act_225 (by decide) ?_
  refine v_icmp_ne (pc := 227) (tgt := 246) dL_act_227 (by decide) (fun c227 => ?_) (fun c227 => absurd c227 (by decide))
  refine v_iload_n (pc := 246) dL_act_246 rfl rfl ?_
  refine v_bipush (pc := 247) (v := 15) dL_act_247 (by decide) ?_
  refine v_icmp_ne (pc := 249) (tgt := 262) dL_act_249 (by decide) (fun c249 => ?_) (fun c249 => absurd c249 (by decide))
  refine v_iload_n (pc := 262) dL_act_262 rfl rfl ?_
  refine v_bipush (pc := 263) (v := 16) dL_act_263 (by decide) ?_
  refine v_icmp_ne (pc := 265) (tgt := 278) dL_act_265 (by decide) (fun c265 => ?_) (fun c265 => absurd c265 (by decide))
  refine v_iload_n (pc := 278) dL_act_278 rfl rfl ?_
  refine v_bipush (pc := 279) (v := 17) dL_act_279 (by decide) ?_
  refine v_icmp_ne (pc := 281) (tgt := 293) dL_act_281 (by decide) (fun c281 => ?_) (fun c281 => absurd c281 (by decide))
  refine v_iload_n (pc := 293) dL_act_293 rfl rfl ?_
  refine v_bipush (pc := 294) (v := 18) dL_act_294 (by decide) ?_
  refine v_icmp_ne (pc := 296) (tgt := 308) dL_act_296 (by decide) (fun c296 => ?_) (fun c296 => absurd c296 (by decide))
  refine v_iload_n (pc := 308) dL_act_308 rfl rfl ?_
  refine v_bipush (pc := 309) (v := 19) dL_act_309 (by decide) ?_
  refine v_icmp_ne (pc := 311) (tgt := 324) dL_act_311 (by decide) (fun c311 => ?_) (fun c311 => absurd c311 (by decide))
  refine v_iload_n (pc := 324) dL_act_324 rfl rfl ?_
  refine v_bipush (pc := 325) (v := 20) dL_act_325 (by decide) ?_
  refine v_icmp_ne (pc := 327) (tgt := 339) dL_act_327 (by decide) (fun c327 => ?_) (fun c327 => absurd c327 (by decide))
  refine v_iload_n (pc := 339) dL_act_339 rfl rfl ?_
  refine v_bipush (pc := 340) (v := 21) dL_act_340 (by decide) ?_
  refine v_icmp_ne (pc := 342) (tgt := 355) dL_act_342 (by decide) (fun c342 => ?_) (fun c342 => absurd c342 (by decide))
  refine v_iload_n (pc := 355) dL_act_355 rfl rfl ?_
  refine v_bipush (pc := 356) (v := 22) dL_act_356 (by decide) ?_
  refine v_icmp_ne (pc := 358) (tgt := 370) dL_act_358 (by decide) (fun c358 => ?_) (fun c358 => absurd c358 (by decide))
  refine v_iload_n (pc := 370) dL_act_370 rfl rfl ?_
  refine v_bipush (pc := 371) (v := 23) dL_act_371 (by decide) ?_
  refine v_icmp_ne (pc := 373) (tgt := 395) dL_act_373 (by decide) (fun c373 => absurd c373 (by decide)) (fun c373 => ?_)
  refine v_aload_n (pc := 376) dL_act_376 rfl rfl ?_
  refine v_iload_n (pc := 377) dL_act_377 rfl rfl ?_
  refine v_iload_n (pc := 378) dL_act_378 rfl rfl ?_
  refine v_iconst (pc := 379) (v := 1) dL_act_379 (by decide) ?_
  refine v_icmp_ne (pc := 380) (tgt := 387) dL_act_380 (by decide) (fun c380 => ?_) (fun c380 => absurd c380 (by decide))
  refine v_iconst (pc := 387) (v := 0) dL_act_387 (by decide) ?_
  refine v_try (pc := 388) (As := [.int p0, .int 0]) (rest := []) hX dL_act_388 cw_L_90 im_yX8_wet se_yX8_wet ((c_X8_wet D X s c n p0 0 h h33 hn hn5 hc hc2 hsl) G hG) ((hG.1 0 0 (hG.2.2.1 0 (by decide))).1.2.1) rfl rfl rfl (Nat.le_of_ble_eq_true rfl) ⟨Nat.le_of_ble_eq_true rfl, Nat.le_of_ble_eq_true rfl⟩ ⟨by decide, by decide⟩ (fun v G1 hp => ?_) (fun E9 G1 q9 hp => ?_)
  · obtain ⟨s1, hG1, hv1, hr1⟩ := hp
    subst hv1
    refine v_i2l (pc := 391) dL_act_391 ?_
    refine v_goto (pc := 392) (tgt := 443) dL_act_392 (by decide) ?_
    refine v_lret (pc := 443) hR dL_act_443 ⟨by decide, by decide⟩ ?_
    exact ⟨X, s1, _, rfl, hG1, rfl, fun c _ => rfl, Or.inl ⟨rfl, rfl, hr1⟩⟩
  · obtain ⟨hG1, hp⟩ := hp
    rcases hp with ⟨rfl, hk⟩ | ⟨rfl, hk⟩
    · refine ⟨[], ⟨0, 443, 444, 103⟩, [⟨0, 443, 450, 107⟩, ⟨0, 443, 456, 111⟩], xIO, rfl, (fun z hz => nomatch hz), by decide, by decide, cl_L_103, ca_xIO, ?_⟩
      refine v_astore (pc := 444) dL_act_444 rfl (by decide) ?_
      refine v_ldcL (pc := 446) dL_act_446 k_L_105 ?_
      refine v_lret (pc := 449) hR dL_act_449 ⟨by decide, by decide⟩ ?_
      exact ⟨X, s, _, rfl, hG1, rfl, fun c _ => rfl, Or.inr ⟨Or.inl ⟨hk, rfl⟩, rfl, rfl⟩⟩
    · refine ⟨[⟨0, 443, 444, 103⟩, ⟨0, 443, 450, 107⟩], ⟨0, 443, 456, 111⟩, [], xIS, rfl, (List.forall_mem_cons.mpr ⟨Or.inr ⟨by decide, xIO, cl_L_103, (Or.inr (Or.inl ⟨rfl, rfl⟩))⟩, List.forall_mem_cons.mpr ⟨Or.inr ⟨by decide, xIA, cl_L_107, (Or.inr (Or.inr ⟨rfl, rfl⟩))⟩, fun z hz => nomatch hz⟩⟩), by decide, by decide, cl_L_111, ca_xIS, ?_⟩
      refine v_astore (pc := 456) dL_act_456 rfl (by decide) ?_
      refine v_ldcL (pc := 458) dL_act_458 k_L_113 ?_
      refine v_lret (pc := 461) hR dL_act_461 ⟨by decide, by decide⟩ ?_
      exact ⟨X, s, _, rfl, hG1, rfl, fun c _ => rfl, Or.inr ⟨Or.inr ⟨hk, rfl⟩, rfl, rfl⟩⟩
abbrev rw_act_wet1 : Room := { frames := 7, cells := 1, slots := 6, locals := 133 }
set_option maxRecDepth 100000 in
set_option maxHeartbeats 400000 in
theorem c_A_wet1 (D : DT) (G : GT) (X : XT) (s : SG) (c n : Nat) (p0 : Int32) (y2 : Int32) (y3 : Int32) (hG : LF X s G) (h : CV s c) (h33 : ∀ j, j < c → (s.1 32 j = -1 ↔ s.1 33 j = -1)) (hn : s.1 45 0 = nI n) (hn5 : n < 512) (hc : s.1 28 0 = nI c) (hc2 : c ≤ 6) (hsl : ∀ f, f < 6 → X.2.2.1 5 f = decide (f < c)) : ML yL_act cL_act 7 (Option.some Jvm.ClassFile.FieldType.long) [(0, 443, 444, 103), (0, 443, 450, 107), (0, 443, 456, 111)] rw_act_wet1 D [.ref (X.1 0 0), .int 23, .int p0, .int 1, .int y2, .int y3] G (AP X s (fun X' s' w => w = (((gWet s (nat p0) 1).1 37 (nat p0))).toInt64 ∧ X' = X ∧ s' = (if 1 = 0 then noteS (gWet s (nat p0) 1) (nat p0) 5 n else sI s 37 (nat p0) 0) ∧ kWet s c p0 = 0) (fun w => (kWet s c p0 = 1 ∧ w = (-1731000000000)) ∨ (kWet s c p0 = 2 ∧ w = (-1733000000000)))) := by
  refine ML_of (by decide +kernel) (Nat.le_of_ble_eq_true rfl) (fun K sz hR hX => ?_)
  show V cL_act _ 7 _ D K 0 [some (.ref (X.1 0 0)), some (.int 23), some (.int p0), some (.int 1), some (.int y2), some (.int y3), none] [] G (0, 0)
  refine v_iload_n (pc := 0) dL_act_0 rfl rfl ?_
  refine v_if_ne (pc := 1) (tgt := 16) dL_act_1 (by decide) (fun c1 => ?_) (fun c1 => absurd c1 (by decide))
  refine v_iload_n (pc := 16) dL_act_16 rfl rfl ?_
  refine v_iconst (pc := 17) (v := 1) dL_act_17 (by decide) ?_
  refine v_icmp_ne (pc := 18) (tgt := 31) dL_act_18 (by decide) (fun c18 => ?_) (fun c18 => absurd c18 (by decide))
  refine v_iload_n (pc := 31) dL_act_31 rfl rfl ?_
  refine v_iconst (pc := 32) (v := 2) dL_act_32 (by decide) ?_
  refine v_icmp_ne (pc := 33) (tgt := 50) dL_act_33 (by decide) (fun c33 => ?_) (fun c33 => absurd c33 (by decide))
  refine v_iload_n (pc := 50) dL_act_50 rfl rfl ?_
  refine v_iconst (pc := 51) (v := 3) dL_act_51 (by decide) ?_
  refine v_icmp_ne (pc := 52) (tgt := 63) dL_act_52 (by decide) (fun c52 => ?_) (fun c52 => absurd c52 (by decide))
  refine v_iload_n (pc := 63) dL_act_63 rfl rfl ?_
  refine v_iconst (pc := 64) (v := 4) dL_act_64 (by decide) ?_
  refine v_icmp_ne (pc := 65) (tgt := 77) dL_act_65 (by decide) (fun c65 => ?_) (fun c65 => absurd c65 (by decide))
  refine v_iload_n (pc := 77) dL_act_77 rfl rfl ?_
  refine v_iconst (pc := 78) (v := 5) dL_act_78 (by decide) ?_
  refine v_icmp_ne (pc := 79) (tgt := 94) dL_act_79 (by decide) (fun c79 => ?_) (fun c79 => absurd c79 (by decide))
  refine v_iload_n (pc := 94) dL_act_94 rfl rfl ?_
  refine v_bipush (pc := 95) (v := 6) dL_act_95 (by decide) ?_
  refine v_icmp_ne (pc := 97) (tgt := 108) dL_act_97 (by decide) (fun c97 => ?_) (fun c97 => absurd c97 (by decide))
  refine v_iload_n (pc := 108) dL_act_108 rfl rfl ?_
  refine v_bipush (pc := 109) (v := 7) dL_act_109 (by decide) ?_
  refine v_icmp_ne (pc := 111) (tgt := 123) dL_act_111 (by decide) (fun c111 => ?_) (fun c111 => absurd c111 (by decide))
  refine v_iload_n (pc := 123) dL_act_123 rfl rfl ?_
  refine v_bipush (pc := 124) (v := 8) dL_act_124 (by decide) ?_
  refine v_icmp_ne (pc := 126) (tgt := 138) dL_act_126 (by decide) (fun c126 => ?_) (fun c126 => absurd c126 (by decide))
  refine v_iload_n (pc := 138) dL_act_138 rfl rfl ?_
  refine v_bipush (pc := 139) (v := 9) dL_act_139 (by decide) ?_
  refine v_icmp_ne (pc := 141) (tgt := 165) dL_act_141 (by decide) (fun c141 => ?_) (fun c141 => absurd c141 (by decide))
  refine v_iload_n (pc := 165) dL_act_165 rfl rfl ?_
  refine v_bipush (pc := 166) (v := 10) dL_act_166 (by decide) ?_
  refine v_icmp_ne (pc := 168) (tgt := 180) dL_act_168 (by decide) (fun c168 => ?_) (fun c168 => absurd c168 (by decide))
  refine v_iload_n (pc := 180) dL_act_180 rfl rfl ?_
  refine v_bipush (pc := 181) (v := 11) dL_act_181 (by decide) ?_
  refine v_icmp_ne (pc := 183) (tgt := 195) dL_act_183 (by decide) (fun c183 => ?_) (fun c183 => absurd c183 (by decide))
  refine v_iload_n (pc := 195) dL_act_195 rfl rfl ?_
  refine v_bipush (pc := 196) (v := 12) dL_act_196 (by decide) ?_
  refine v_icmp_ne (pc := 198) (tgt := 210) dL_act_198 (by decide) (fun c198 => ?_) (fun c198 => absurd c198 (by decide))
  refine v_iload_n (pc := 210) dL_act_210 rfl rfl ?_
  refine v_bipush (pc := 211) (v := 13) dL_act_211 (by decide) ?_
  refine v_icmp_ne (pc := 213) (tgt := 224) dL_act_213 (by decide) (fun c213 => ?_) (fun c213 => absurd c213 (by decide))
  refine v_iload_n (pc := 224) dL_act_224 rfl rfl ?_
  refine v_bipush (pc := 225) (v := 14) dL_act_225 (by decide) ?_
  refine v_icmp_ne (pc := 227) (tgt := 246) dL_act_227 (by decide) (fun c227 => ?_) (fun c227 => absurd c227 (by decide))
  refine v_iload_n (pc := 246) dL_act_246 rfl rfl ?_
  refine v_bipush (pc := 247) (v := 15) dL_act_247 (by decide) ?_
  refine v_icmp_ne (pc := 249) (tgt := 262) dL_act_249 (by decide) (fun c249 => ?_) (fun c249 => absurd c249 (by decide))
  refine v_iload_n (pc := 262) dL_act_262 rfl rfl ?_
  refine v_bipush (pc := 263) (v := 16) dL_act_263 (by decide) ?_
  refine v_icmp_ne (pc := 265) (tgt := 278) dL_act_265 (by decide) (fun c265 => ?_) (fun c265 => absurd c265 (by decide))
  refine v_iload_n (pc := 278) dL_act_278 rfl rfl ?_
  refine v_bipush (pc := 279) (v := 17) dL_act_279 (by decide) ?_
  refine v_icmp_ne (pc := 281) (tgt := 293) dL_act_281 (by decide) (fun c281 => ?_) (fun c281 => absurd c281 (by decide))
  refine v_iload_n (pc := 293) dL_act_293 rfl rfl ?_
  refine v_bipush (pc := 294) (v := 18) dL_act_294 (by decide) ?_
  refine v_icmp_ne (pc := 296) (tgt := 308) dL_act_296 (by decide) (fun c296 => ?_) (fun c296 => absurd c296 (by decide))
  refine v_iload_n (pc := 308) dL_act_308 rfl rfl ?_
  refine v_bipush (pc := 309) (v := 19) dL_act_309 (by decide) ?_
  refine v_icmp_ne (pc := 311) (tgt := 324) dL_act_311 (by decide) (fun c311 => ?_) (fun c311 => absurd c311 (by decide))
  refine v_iload_n (pc := 324) dL_act_324 rfl rfl ?_
  refine v_bipush (pc := 325) (v := 20) dL_act_325 (by decide) ?_
  refine v_icmp_ne (pc := 327) (tgt := 339) dL_act_327 (by decide) (fun c327 => ?_) (fun c327 => absurd c327 (by decide))
  refine v_iload_n (pc := 339) dL_act_339 rfl rfl ?_
  refine v_bipush (pc := 340) (v := 21) dL_act_340 (by decide) ?_
  refine v_icmp_ne (pc := 342) (tgt := 355) dL_act_342 (by decide) (fun c342 => ?_) (fun c342 => absurd c342 (by decide))
  refine v_iload_n (pc := 355) dL_act_355 rfl rfl ?_
  refine v_bipush (pc := 356) (v := 22) dL_act_356 (by decide) ?_
  refine v_icmp_ne (pc := 358) (tgt := 370) dL_act_358 (by decide) (fun c358 => ?_) (fun c358 => absurd c358 (by decide))
  refine v_iload_n (pc := 370) dL_act_370 rfl rfl ?_
  refine v_bipush (pc := 371) (v := 23) dL_act_371 (by decide) ?_
  refine v_icmp_ne (pc := 373) (tgt := 395) dL_act_373 (by decide) (fun c373 => absurd c373 (by decide)) (fun c373 => ?_)
  refine v_aload_n (pc := 376) dL_act_376 rfl rfl ?_
  refine v_iload_n (pc := 377) dL_act_377 rfl rfl ?_
  refine v_iload_n (pc := 378) dL_act_378 rfl rfl ?_
  refine v_iconst (pc := 379) (v := 1) dL_act_379 (by decide) ?_
  refine v_icmp_ne (pc := 380) (tgt := 387) dL_act_380 (by decide) (fun c380 => absurd c380 (by decide)) (fun c380 => ?_)
  refine v_iconst (pc := 383) (v := 1) dL_act_383 (by decide) ?_
  refine v_goto (pc := 384) (tgt := 388) dL_act_384 (by decide) ?_
  refine v_try (pc := 388) (As := [.int p0, .int 1]) (rest := []) hX dL_act_388 cw_L_90 im_yX8_wet se_yX8_wet ((c_X8_wet D X s c n p0 1 h h33 hn hn5 hc hc2 hsl) G hG) ((hG.1 0 0 (hG.2.2.1 0 (by decide))).1.2.1) rfl rfl rfl (Nat.le_of_ble_eq_true rfl) ⟨Nat.le_of_ble_eq_true rfl, Nat.le_of_ble_eq_true rfl⟩ ⟨by decide, by decide⟩ (fun v G1 hp => ?_) (fun E9 G1 q9 hp => ?_)
  · obtain ⟨s1, hG1, hv1, hr1⟩ := hp
    subst hv1
    refine v_i2l (pc := 391) dL_act_391 ?_
    refine v_goto (pc := 392) (tgt := 443) dL_act_392 (by decide) ?_
    refine v_lret (pc := 443) hR dL_act_443 ⟨by decide, by decide⟩ ?_
    exact ⟨X, s1, _, rfl, hG1, rfl, fun c _ => rfl, Or.inl ⟨rfl, rfl, hr1⟩⟩
  · obtain ⟨hG1, hp⟩ := hp
    rcases hp with ⟨rfl, hk⟩ | ⟨rfl, hk⟩
    · refine ⟨[], ⟨0, 443, 444, 103⟩, [⟨0, 443, 450, 107⟩, ⟨0, 443, 456, 111⟩], xIO, rfl, (fun z hz => nomatch hz), by decide, by decide, cl_L_103, ca_xIO, ?_⟩
      refine v_astore (pc := 444) dL_act_444 rfl (by decide) ?_
      refine v_ldcL (pc := 446) dL_act_446 k_L_105 ?_
      refine v_lret (pc := 449) hR dL_act_449 ⟨by decide, by decide⟩ ?_
      exact ⟨X, s, _, rfl, hG1, rfl, fun c _ => rfl, Or.inr ⟨Or.inl ⟨hk, rfl⟩, rfl, rfl⟩⟩
    · refine ⟨[⟨0, 443, 444, 103⟩, ⟨0, 443, 450, 107⟩], ⟨0, 443, 456, 111⟩, [], xIS, rfl, (List.forall_mem_cons.mpr ⟨Or.inr ⟨by decide, xIO, cl_L_103, (Or.inr (Or.inl ⟨rfl, rfl⟩))⟩, List.forall_mem_cons.mpr ⟨Or.inr ⟨by decide, xIA, cl_L_107, (Or.inr (Or.inr ⟨rfl, rfl⟩))⟩, fun z hz => nomatch hz⟩⟩), by decide, by decide, cl_L_111, ca_xIS, ?_⟩
      refine v_astore (pc := 456) dL_act_456 rfl (by decide) ?_
      refine v_ldcL (pc := 458) dL_act_458 k_L_113 ?_
      refine v_lret (pc := 461) hR dL_act_461 ⟨by decide, by decide⟩ ?_
      exact ⟨X, s, _, rfl, hG1, rfl, fun c _ => rfl, Or.inr ⟨Or.inr ⟨hk, rfl⟩, rfl, rfl⟩⟩
abbrev rw_act_find0 : Room := { frames := 7, cells := 1, slots := 6, locals := 133 }
set_option maxRecDepth 100000 in
set_option maxHeartbeats 400000 in
theorem c_A_find0 (D : DT) (G : GT) (X : XT) (s : SG) (a c : Nat) (p0 : Int32) (y2 : Int32) (y3 : Int32) (hG : LF X s G) (h33 : ∀ j, j < c → (s.1 32 j = -1 ↔ s.1 33 j = -1)) (hn0 : s.1 0 0 = nI a) (ha : a ≤ 6) (hsl0 : ∀ f, f < 6 → X.2.2.1 1 f = decide (f < a)) (hc2 : c ≤ 6) (hsl : ∀ f, f < 6 → X.2.2.1 5 f = decide (f < c)) : ML yL_act cL_act 7 (Option.some Jvm.ClassFile.FieldType.long) [(0, 443, 444, 103), (0, 443, 450, 107), (0, 443, 456, 111)] rw_act_find0 D [.ref (X.1 0 0), .int 24, .int p0, .int 0, .int y2, .int y3] G (AP X s (fun X' s' w => w = ((nI (gFind s c (nat p0) 0).2)).toInt64 ∧ X' = X ∧ s' = (gFind s c (nat p0) 0).1 ∧ kFind s a p0 0 = 0) (fun w => (kFind s a p0 0 = 1 ∧ w = (-1731000000000)) ∨ (kFind s a p0 0 = 2 ∧ w = (-1733000000000)))) := by
  refine ML_of (by decide +kernel) (Nat.le_of_ble_eq_true rfl) (fun K sz hR hX => ?_)
  show V cL_act _ 7 _ D K 0 [some (.ref (X.1 0 0)), some (.int 24), some (.int p0), some (.int 0), some (.int y2), some (.int y3), none] [] G (0, 0)
  refine v_iload_n (pc := 0) dL_act_0 rfl rfl ?_
  refine v_if_ne (pc := 1) (tgt := 16) dL_act_1 (by decide) (fun c1 => ?_) (fun c1 => absurd c1 (by decide))
  refine v_iload_n (pc := 16) dL_act_16 rfl rfl ?_
  refine v_iconst (pc := 17) (v := 1) dL_act_17 (by decide) ?_
  refine v_icmp_ne (pc := 18) (tgt := 31) dL_act_18 (by decide) (fun c18 => ?_) (fun c18 => absurd c18 (by decide))
  refine v_iload_n (pc := 31) dL_act_31 rfl rfl ?_
  refine v_iconst (pc := 32) (v := 2) dL_act_32 (by decide) ?_
  refine v_icmp_ne (pc := 33) (tgt := 50) dL_act_33 (by decide) (fun c33 => ?_) (fun c33 => absurd c33 (by decide))
  refine v_iload_n (pc := 50) dL_act_50 rfl rfl ?_
  refine v_iconst (pc := 51) (v := 3) dL_act_51 (by decide) ?_
  refine v_icmp_ne (pc := 52) (tgt := 63) dL_act_52 (by decide) (fun c52 => ?_) (fun c52 => absurd c52 (by decide))
  refine v_iload_n (pc := 63) dL_act_63 rfl rfl ?_
  refine v_iconst (pc := 64) (v := 4) dL_act_64 (by decide) ?_
  refine v_icmp_ne (pc := 65) (tgt := 77) dL_act_65 (by decide) (fun c65 => ?_) (fun c65 => absurd c65 (by decide))
  refine v_iload_n (pc := 77) dL_act_77 rfl rfl ?_
  refine v_iconst (pc := 78) (v := 5) dL_act_78 (by decide) ?_
  refine v_icmp_ne (pc := 79) (tgt := 94) dL_act_79 (by decide) (fun c79 => ?_) (fun c79 => absurd c79 (by decide))
  refine v_iload_n (pc := 94) dL_act_94 rfl rfl ?_
  refine v_bipush (pc := 95) (v := 6) dL_act_95 (by decide) ?_
  refine v_icmp_ne (pc := 97) (tgt := 108) dL_act_97 (by decide) (fun c97 => ?_) (fun c97 => absurd c97 (by decide))
  refine v_iload_n (pc := 108) dL_act_108 rfl rfl ?_
  refine v_bipush (pc := 109) (v := 7) dL_act_109 (by decide) ?_
  refine v_icmp_ne (pc := 111) (tgt := 123) dL_act_111 (by decide) (fun c111 => ?_) (fun c111 => absurd c111 (by decide))
  refine v_iload_n (pc := 123) dL_act_123 rfl rfl ?_
  refine v_bipush (pc := 124) (v := 8) dL_act_124 (by decide) ?_
  refine v_icmp_ne (pc := 126) (tgt := 138) dL_act_126 (by decide) (fun c126 => ?_) (fun c126 => absurd c126 (by decide))
  refine v_iload_n (pc := 138) dL_act_138 rfl rfl ?_
  refine v_bipush (pc := 139) (v := 9) dL_act_139 (by decide) ?_
  refine v_icmp_ne (pc := 141) (tgt := 165) dL_act_141 (by decide) (fun c141 => ?_) (fun c141 => absurd c141 (by decide))
  refine v_iload_n (pc := 165) dL_act_165 rfl rfl ?_
  refine v_bipush (pc := 166) (v := 10) dL_act_166 (by decide) ?_
  refine v_icmp_ne (pc := 168) (tgt := 180) dL_act_168 (by decide) (fun c168 => ?_) (fun c168 => absurd c168 (by decide))
  refine v_iload_n (pc := 180) dL_act_180 rfl rfl ?_
  refine v_bipush (pc := 181) (v := 11) dL_act_181 (by decide) ?_
  refine v_icmp_ne (pc := 183) (tgt := 195) dL_act_183 (by decide) (fun c183 => ?_) (fun c183 => absurd c183 (by decide))
  refine v_iload_n (pc := 195) dL_act_195 rfl rfl ?_
  refine v_bipush (pc := 196) (v := 12) dL_act_196 (by decide) ?_
  refine v_icmp_ne (pc := 198) (tgt := 210) dL_act_198 (by decide) (fun c198 => ?_) (fun c198 => absurd c198 (by decide))
  refine v_iload_n (pc := 210) dL_act_210 rfl rfl ?_
  refine v_bipush (pc := 211) (v := 13) dL_act_211 (by decide) ?_
  refine v_icmp_ne (pc := 213) (tgt := 224) dL_act_213 (by decide) (fun c213 => ?_) (fun c213 => absurd c213 (by decide))
  refine v_iload_n (pc := 224) dL_act_224 rfl rfl ?_
  refine v_bipush (pc := 225) (v := 14) dL_act_225 (by decide) ?_
  refine v_icmp_ne (pc := 227) (tgt := 246) dL_act_227 (by decide) (fun c227 => ?_) (fun c227 => absurd c227 (by decide))
  refine v_iload_n (pc := 246) dL_act_246 rfl rfl ?_
  refine v_bipush (pc := 247) (v := 15) dL_act_247 (by decide) ?_
  refine v_icmp_ne (pc := 249) (tgt := 262) dL_act_249 (by decide) (fun c249 => ?_) (fun c249 => absurd c249 (by decide))
  refine v_iload_n (pc := 262) dL_act_262 rfl rfl ?_
  refine v_bipush (pc := 263) (v := 16) dL_act_263 (by decide) ?_
  refine v_icmp_ne (pc := 265) (tgt := 278) dL_act_265 (by decide) (fun c265 => ?_) (fun c265 => absurd c265 (by decide))
  refine v_iload_n (pc := 278) dL_act_278 rfl rfl ?_
  refine v_bipush (pc := 279) (v := 17) dL_act_279 (by decide) ?_
  refine v_icmp_ne (pc := 281) (tgt := 293) dL_act_281 (by decide) (fun c281 => ?_) (fun c281 => absurd c281 (by decide))
  refine v_iload_n (pc := 293) dL_act_293 rfl rfl ?_
  refine v_bipush (pc := 294) (v := 18) dL_act_294 (by decide) ?_
  refine v_icmp_ne (pc := 296) (tgt := 308) dL_act_296 (by decide) (fun c296 => ?_) (fun c296 => absurd c296 (by decide))
  refine v_iload_n (pc := 308) dL_act_308 rfl rfl ?_
  refine v_bipush (pc := 309) (v := 19) dL_act_309 (by decide) ?_
  refine v_icmp_ne (pc := 311) (tgt := 324) dL_act_311 (by decide) (fun c311 => ?_) (fun c311 => absurd c311 (by decide))
  refine v_iload_n (pc := 324) dL_act_324 rfl rfl ?_
  refine v_bipush (pc := 325) (v := 20) dL_act_325 (by decide) ?_
  refine v_icmp_ne (pc := 327) (tgt := 339) dL_act_327 (by decide) (fun c327 => ?_) (fun c327 => absurd c327 (by decide))
  refine v_iload_n (pc := 339) dL_act_339 rfl rfl ?_
  refine v_bipush (pc := 340) (v := 21) dL_act_340 (by decide) ?_
  refine v_icmp_ne (pc := 342) (tgt := 355) dL_act_342 (by decide) (fun c342 => ?_) (fun c342 => absurd c342 (by decide))
  refine v_iload_n (pc := 355) dL_act_355 rfl rfl ?_
  refine v_bipush (pc := 356) (v := 22) dL_act_356 (by decide) ?_
  refine v_icmp_ne (pc := 358) (tgt := 370) dL_act_358 (by decide) (fun c358 => ?_) (fun c358 => absurd c358 (by decide))
  refine v_iload_n (pc := 370) dL_act_370 rfl rfl ?_
  refine v_bipush (pc := 371) (v := 23) dL_act_371 (by decide) ?_
  refine v_icmp_ne (pc := 373) (tgt := 395) dL_act_373 (by decide) (fun c373 => ?_) (fun c373 => absurd c373 (by decide))
  refine v_iload_n (pc := 395) dL_act_395 rfl rfl ?_
  refine v_bipush (pc := 396) (v := 24) dL_act_396 (by decide) ?_
  refine v_icmp_ne (pc := 398) (tgt := 420) dL_act_398 (by decide) (fun c398 => absurd c398 (by decide)) (fun c398 => ?_)
  refine v_aload_n (pc := 401) dL_act_401 rfl rfl ?_
  refine v_iload_n (pc := 402) dL_act_402 rfl rfl ?_
  refine v_iload_n (pc := 403) dL_act_403 rfl rfl ?_
  refine v_iconst (pc := 404) (v := 1) dL_act_404 (by decide) ?_
  refine v_icmp_ne (pc := 405) (tgt := 412) dL_act_405 (by decide) (fun c405 => ?_) (fun c405 => absurd c405 (by decide))
  refine v_iconst (pc := 412) (v := 0) dL_act_412 (by decide) ?_
  refine v_try (pc := 413) (As := [.int p0, .int 0]) (rest := []) hX dL_act_413 cw_L_94 im_yX8_find se_yX8_find ((c_X8_find D X s a c p0 0 (Or.inl rfl) h33 hn0 ha hsl0 hc2 hsl) G hG) ((hG.1 0 0 (hG.2.2.1 0 (by decide))).1.2.1) rfl rfl rfl (Nat.le_of_ble_eq_true rfl) ⟨Nat.le_of_ble_eq_true rfl, Nat.le_of_ble_eq_true rfl⟩ ⟨by decide, by decide⟩ (fun v G1 hp => ?_) (fun E9 G1 q9 hp => ?_)
  · obtain ⟨s1, hG1, hv1, hr1⟩ := hp
    subst hv1
    refine v_i2l (pc := 416) dL_act_416 ?_
    refine v_goto (pc := 417) (tgt := 443) dL_act_417 (by decide) ?_
    refine v_lret (pc := 443) hR dL_act_443 ⟨by decide, by decide⟩ ?_
    exact ⟨X, s1, _, rfl, hG1, rfl, fun c _ => rfl, Or.inl ⟨rfl, rfl, hr1⟩⟩
  · obtain ⟨hG1, hp⟩ := hp
    rcases hp with ⟨rfl, hk⟩ | ⟨rfl, hk⟩
    · refine ⟨[], ⟨0, 443, 444, 103⟩, [⟨0, 443, 450, 107⟩, ⟨0, 443, 456, 111⟩], xIO, rfl, (fun z hz => nomatch hz), by decide, by decide, cl_L_103, ca_xIO, ?_⟩
      refine v_astore (pc := 444) dL_act_444 rfl (by decide) ?_
      refine v_ldcL (pc := 446) dL_act_446 k_L_105 ?_
      refine v_lret (pc := 449) hR dL_act_449 ⟨by decide, by decide⟩ ?_
      exact ⟨X, s, _, rfl, hG1, rfl, fun c _ => rfl, Or.inr ⟨Or.inl ⟨hk, rfl⟩, rfl, rfl⟩⟩
    · refine ⟨[⟨0, 443, 444, 103⟩, ⟨0, 443, 450, 107⟩], ⟨0, 443, 456, 111⟩, [], xIS, rfl, (List.forall_mem_cons.mpr ⟨Or.inr ⟨by decide, xIO, cl_L_103, (Or.inr (Or.inl ⟨rfl, rfl⟩))⟩, List.forall_mem_cons.mpr ⟨Or.inr ⟨by decide, xIA, cl_L_107, (Or.inr (Or.inr ⟨rfl, rfl⟩))⟩, fun z hz => nomatch hz⟩⟩), by decide, by decide, cl_L_111, ca_xIS, ?_⟩
      refine v_astore (pc := 456) dL_act_456 rfl (by decide) ?_
      refine v_ldcL (pc := 458) dL_act_458 k_L_113 ?_
      refine v_lret (pc := 461) hR dL_act_461 ⟨by decide, by decide⟩ ?_
      exact ⟨X, s, _, rfl, hG1, rfl, fun c _ => rfl, Or.inr ⟨Or.inr ⟨hk, rfl⟩, rfl, rfl⟩⟩
abbrev rw_act_find1 : Room := { frames := 7, cells := 1, slots := 6, locals := 133 }
set_option maxRecDepth 100000 in
set_option maxHeartbeats 400000 in
theorem c_A_find1 (D : DT) (G : GT) (X : XT) (s : SG) (a c : Nat) (p0 : Int32) (y2 : Int32) (y3 : Int32) (hG : LF X s G) (h33 : ∀ j, j < c → (s.1 32 j = -1 ↔ s.1 33 j = -1)) (hn0 : s.1 0 0 = nI a) (ha : a ≤ 6) (hsl0 : ∀ f, f < 6 → X.2.2.1 1 f = decide (f < a)) (hc2 : c ≤ 6) (hsl : ∀ f, f < 6 → X.2.2.1 5 f = decide (f < c)) : ML yL_act cL_act 7 (Option.some Jvm.ClassFile.FieldType.long) [(0, 443, 444, 103), (0, 443, 450, 107), (0, 443, 456, 111)] rw_act_find1 D [.ref (X.1 0 0), .int 24, .int p0, .int 1, .int y2, .int y3] G (AP X s (fun X' s' w => w = ((nI (gFind s c (nat p0) 1).2)).toInt64 ∧ X' = X ∧ s' = (gFind s c (nat p0) 1).1 ∧ kFind s a p0 1 = 0) (fun w => (kFind s a p0 1 = 1 ∧ w = (-1731000000000)) ∨ (kFind s a p0 1 = 2 ∧ w = (-1733000000000)))) := by
  refine ML_of (by decide +kernel) (Nat.le_of_ble_eq_true rfl) (fun K sz hR hX => ?_)
  show V cL_act _ 7 _ D K 0 [some (.ref (X.1 0 0)), some (.int 24), some (.int p0), some (.int 1), some (.int y2), some (.int y3), none] [] G (0, 0)
  refine v_iload_n (pc := 0) dL_act_0 rfl rfl ?_
  refine v_if_ne (pc := 1) (tgt := 16) dL_act_1 (by decide) (fun c1 => ?_) (fun c1 => absurd c1 (by decide))
  refine v_iload_n (pc := 16) dL_act_16 rfl rfl ?_
  refine v_iconst (pc := 17) (v := 1) dL_act_17 (by decide) ?_
  refine v_icmp_ne (pc := 18) (tgt := 31) dL_act_18 (by decide) (fun c18 => ?_) (fun c18 => absurd c18 (by decide))
  refine v_iload_n (pc := 31) dL_act_31 rfl rfl ?_
  refine v_iconst (pc := 32) (v := 2) dL_act_32 (by decide) ?_
  refine v_icmp_ne (pc := 33) (tgt := 50) dL_act_33 (by decide) (fun c33 => ?_) (fun c33 => absurd c33 (by decide))
  refine v_iload_n (pc := 50) dL_act_50 rfl rfl ?_
  refine v_iconst (pc := 51) (v := 3) dL_act_51 (by decide) ?_
  refine v_icmp_ne (pc := 52) (tgt := 63) dL_act_52 (by decide) (fun c52 => ?_) (fun c52 => absurd c52 (by decide))
  refine v_iload_n (pc := 63) dL_act_63 rfl rfl ?_
  refine v_iconst (pc := 64) (v := 4) dL_act_64 (by decide) ?_
  refine v_icmp_ne (pc := 65) (tgt := 77) dL_act_65 (by decide) (fun c65 => ?_) (fun c65 => absurd c65 (by decide))
  refine v_iload_n (pc := 77) dL_act_77 rfl rfl ?_
  refine v_iconst (pc := 78) (v := 5) dL_act_78 (by decide) ?_
  refine v_icmp_ne (pc := 79) (tgt := 94) dL_act_79 (by decide) (fun c79 => ?_) (fun c79 => absurd c79 (by decide))
  refine v_iload_n (pc := 94) dL_act_94 rfl rfl ?_
  refine v_bipush (pc := 95) (v := 6) dL_act_95 (by decide) ?_
  refine v_icmp_ne (pc := 97) (tgt := 108) dL_act_97 (by decide) (fun c97 => ?_) (fun c97 => absurd c97 (by decide))
  refine v_iload_n (pc := 108) dL_act_108 rfl rfl ?_
  refine v_bipush (pc := 109) (v := 7) dL_act_109 (by decide) ?_
  refine v_icmp_ne (pc := 111) (tgt := 123) dL_act_111 (by decide) (fun c111 => ?_) (fun c111 => absurd c111 (by decide))
  refine v_iload_n (pc := 123) dL_act_123 rfl rfl ?_
  refine v_bipush (pc := 124) (v := 8) dL_act_124 (by decide) ?_
  refine v_icmp_ne (pc := 126) (tgt := 138) dL_act_126 (by decide) (fun c126 => ?_) (fun c126 => absurd c126 (by decide))
  refine v_iload_n (pc := 138) dL_act_138 rfl rfl ?_
  refine v_bipush (pc := 139) (v := 9) dL_act_139 (by decide) ?_
  refine v_icmp_ne (pc := 141) (tgt := 165) dL_act_141 (by decide) (fun c141 => ?_) (fun c141 => absurd c141 (by decide))
  refine v_iload_n (pc := 165) dL_act_165 rfl rfl ?_
  refine v_bipush (pc := 166) (v := 10) dL_act_166 (by decide) ?_
  refine v_icmp_ne (pc := 168) (tgt := 180) dL_act_168 (by decide) (fun c168 => ?_) (fun c168 => absurd c168 (by decide))
  refine v_iload_n (pc := 180) dL_act_180 rfl rfl ?_
  refine v_bipush (pc := 181) (v := 11) dL_act_181 (by decide) ?_
  refine v_icmp_ne (pc := 183) (tgt := 195) dL_act_183 (by decide) (fun c183 => ?_) (fun c183 => absurd c183 (by decide))
  refine v_iload_n (pc := 195) dL_act_195 rfl rfl ?_
  refine v_bipush (pc := 196) (v := 12) dL_act_196 (by decide) ?_
  refine v_icmp_ne (pc := 198) (tgt := 210) dL_act_198 (by decide) (fun c198 => ?_) (fun c198 => absurd c198 (by decide))
  refine v_iload_n (pc := 210) dL_act_210 rfl rfl ?_
  refine v_bipush (pc := 211) (v := 13) dL_act_211 (by decide) ?_
  refine v_icmp_ne (pc := 213) (tgt := 224) dL_act_213 (by decide) (fun c213 => ?_) (fun c213 => absurd c213 (by decide))
  refine v_iload_n (pc := 224) dL_act_224 rfl rfl ?_
  refine v_bipush (pc := 225) (v := 14) dL_act_225 (by decide) ?_
  refine v_icmp_ne (pc := 227) (tgt := 246) dL_act_227 (by decide) (fun c227 => ?_) (fun c227 => absurd c227 (by decide))
  refine v_iload_n (pc := 246) dL_act_246 rfl rfl ?_
  refine v_bipush (pc := 247) (v := 15) dL_act_247 (by decide) ?_
  refine v_icmp_ne (pc := 249) (tgt := 262) dL_act_249 (by decide) (fun c249 => ?_) (fun c249 => absurd c249 (by decide))
  refine v_iload_n (pc := 262) dL_act_262 rfl rfl ?_
  refine v_bipush (pc := 263) (v := 16) dL_act_263 (by decide) ?_
  refine v_icmp_ne (pc := 265) (tgt := 278) dL_act_265 (by decide) (fun c265 => ?_) (fun c265 => absurd c265 (by decide))
  refine v_iload_n (pc := 278) dL_act_278 rfl rfl ?_
  refine v_bipush (pc := 279) (v := 17) dL_act_279 (by decide) ?_
  refine v_icmp_ne (pc := 281) (tgt := 293) dL_act_281 (by decide) (fun c281 => ?_) (fun c281 => absurd c281 (by decide))
  refine v_iload_n (pc := 293) dL_act_293 rfl rfl ?_
  refine v_bipush (pc := 294) (v := 18) dL_act_294 (by decide) ?_
  refine v_icmp_ne (pc := 296) (tgt := 308) dL_act_296 (by decide) (fun c296 => ?_) (fun c296 => absurd c296 (by decide))
  refine v_iload_n (pc := 308) dL_act_308 rfl rfl ?_
  refine v_bipush (pc := 309) (v := 19) dL_act_309 (by decide) ?_
  refine v_icmp_ne (pc := 311) (tgt := 324) dL_act_311 (by decide) (fun c311 => ?_) (fun c311 => absurd c311 (by decide))
  refine v_iload_n (pc := 324) dL_act_324 rfl rfl ?_
  refine v_bipush (pc := 325) (v := 20) dL_act_325 (by decide) ?_
  refine v_icmp_ne (pc := 327) (tgt := 339) dL_act_327 (by decide) (fun c327 => ?_) (fun c327 => absurd c327 (by decide))
  refine v_iload_n (pc := 339) dL_act_339 rfl rfl ?_
  refine v_bipush (pc := 340) (v := 21) dL_act_340 (by decide) ?_
  refine v_icmp_ne (pc := 342) (tgt := 355) dL_act_342 (by decide) (fun c342 => ?_) (fun c342 => absurd c342 (by decide))
  refine v_iload_n (pc := 355) dL_act_355 rfl rfl ?_
  refine v_bipush (pc := 356) (v := 22) dL_act_356 (by decide) ?_
  refine v_icmp_ne (pc := 358) (tgt := 370) dL_act_358 (by decide) (fun c358 => ?_) (fun c358 => absurd c358 (by decide))
  refine v_iload_n (pc := 370) dL_act_370 rfl rfl ?_
  refine v_bipush (pc := 371) (v := 23) dL_act_371 (by decide) ?_
  refine v_icmp_ne (pc := 373) (tgt := 395) dL_act_373 (by decide) (fun c373 => ?_) (fun c373 => absurd c373 (by decide))
  refine v_iload_n (pc := 395) dL_act_395 rfl rfl ?_
  refine v_bipush (pc := 396) (v := 24) dL_act_396 (by decide) ?_
  refine v_icmp_ne (pc := 398) (tgt := 420) dL_act_398 (by decide) (fun c398 => absurd c398 (by decide)) (fun c398 => ?_)
  refine v_aload_n (pc := 401) dL_act_401 rfl rfl ?_
  refine v_iload_n (pc := 402) dL_act_402 rfl rfl ?_
  refine v_iload_n (pc := 403) dL_act_403 rfl rfl ?_
  refine v_iconst (pc := 404) (v := 1) dL_act_404 (by decide) ?_
  refine v_icmp_ne (pc := 405) (tgt := 412) dL_act_405 (by decide) (fun c405 => absurd c405 (by decide)) (fun c405 => ?_)
  refine v_iconst (pc := 408) (v := 1) dL_act_408 (by decide) ?_
  refine v_goto (pc := 409) (tgt := 413) dL_act_409 (by decide) ?_
  refine v_try (pc := 413) (As := [.int p0, .int 1]) (rest := []) hX dL_act_413 cw_L_94 im_yX8_find se_yX8_find ((c_X8_find D X s a c p0 1 (Or.inr rfl) h33 hn0 ha hsl0 hc2 hsl) G hG) ((hG.1 0 0 (hG.2.2.1 0 (by decide))).1.2.1) rfl rfl rfl (Nat.le_of_ble_eq_true rfl) ⟨Nat.le_of_ble_eq_true rfl, Nat.le_of_ble_eq_true rfl⟩ ⟨by decide, by decide⟩ (fun v G1 hp => ?_) (fun E9 G1 q9 hp => ?_)
  · obtain ⟨s1, hG1, hv1, hr1⟩ := hp
    subst hv1
    refine v_i2l (pc := 416) dL_act_416 ?_
    refine v_goto (pc := 417) (tgt := 443) dL_act_417 (by decide) ?_
    refine v_lret (pc := 443) hR dL_act_443 ⟨by decide, by decide⟩ ?_
    exact ⟨X, s1, _, rfl, hG1, rfl, fun c _ => rfl, Or.inl ⟨rfl, rfl, hr1⟩⟩
  · obtain ⟨hG1, hp⟩ := hp
    rcases hp with ⟨rfl, hk⟩ | ⟨rfl, hk⟩
    · refine ⟨[], ⟨0, 443, 444, 103⟩, [⟨0, 443, 450, 107⟩, ⟨0, 443, 456, 111⟩], xIO, rfl, (fun z hz => nomatch hz), by decide, by decide, cl_L_103, ca_xIO, ?_⟩
      refine v_astore (pc := 444) dL_act_444 rfl (by decide) ?_
      refine v_ldcL (pc := 446) dL_act_446 k_L_105 ?_
      refine v_lret (pc := 449) hR dL_act_449 ⟨by decide, by decide⟩ ?_
      exact ⟨X, s, _, rfl, hG1, rfl, fun c _ => rfl, Or.inr ⟨Or.inl ⟨hk, rfl⟩, rfl, rfl⟩⟩
    · refine ⟨[⟨0, 443, 444, 103⟩, ⟨0, 443, 450, 107⟩], ⟨0, 443, 456, 111⟩, [], xIS, rfl, (List.forall_mem_cons.mpr ⟨Or.inr ⟨by decide, xIO, cl_L_103, (Or.inr (Or.inl ⟨rfl, rfl⟩))⟩, List.forall_mem_cons.mpr ⟨Or.inr ⟨by decide, xIA, cl_L_107, (Or.inr (Or.inr ⟨rfl, rfl⟩))⟩, fun z hz => nomatch hz⟩⟩), by decide, by decide, cl_L_111, ca_xIS, ?_⟩
      refine v_astore (pc := 456) dL_act_456 rfl (by decide) ?_
      refine v_ldcL (pc := 458) dL_act_458 k_L_113 ?_
      refine v_lret (pc := 461) hR dL_act_461 ⟨by decide, by decide⟩ ?_
      exact ⟨X, s, _, rfl, hG1, rfl, fun c _ => rfl, Or.inr ⟨Or.inr ⟨hk, rfl⟩, rfl, rfl⟩⟩
abbrev rw_act_ofCanopy : Room := { frames := 7, cells := 1, slots := 6, locals := 133 }
set_option maxRecDepth 100000 in
set_option maxHeartbeats 400000 in
theorem c_A_ofCanopy (D : DT) (G : GT) (X : XT) (s : SG) (c : Nat) (p0 : Int32) (p1 : Int32) (y2 : Int32) (y3 : Int32) (hG : LF X s G) (h : CV s c) (hc : s.1 28 0 = nI c) (hc2 : c ≤ 6) (hsl : ∀ f, f < 6 → X.2.2.1 5 f = decide (f < c)) : ML yL_act cL_act 7 (Option.some Jvm.ClassFile.FieldType.long) [(0, 443, 444, 103), (0, 443, 450, 107), (0, 443, 456, 111)] rw_act_ofCanopy D [.ref (X.1 0 0), .int 25, .int p0, .int p1, .int y2, .int y3] G (AP X s (fun X' s' w => w = ((ofS s (nat p0) p1)).toInt64 ∧ X' = X ∧ s' = s ∧ kOf c p0 p1 0 5 = 0) (fun w => (kOf c p0 p1 0 5 = 1 ∧ w = (-1731000000000)) ∨ (kOf c p0 p1 0 5 = 2 ∧ w = (-1732000000000)))) := by
  refine ML_of (by decide +kernel) (Nat.le_of_ble_eq_true rfl) (fun K sz hR hX => ?_)
  show V cL_act _ 7 _ D K 0 [some (.ref (X.1 0 0)), some (.int 25), some (.int p0), some (.int p1), some (.int y2), some (.int y3), none] [] G (0, 0)
  refine v_iload_n (pc := 0) dL_act_0 rfl rfl ?_
  refine v_if_ne (pc := 1) (tgt := 16) dL_act_1 (by decide) (fun c1 => ?_) (fun c1 => absurd c1 (by decide))
  refine v_iload_n (pc := 16) dL_act_16 rfl rfl ?_
  refine v_iconst (pc := 17) (v := 1) dL_act_17 (by decide) ?_
  refine v_icmp_ne (pc := 18) (tgt := 31) dL_act_18 (by decide) (fun c18 => ?_) (fun c18 => absurd c18 (by decide))
  refine v_iload_n (pc := 31) dL_act_31 rfl rfl ?_
  refine v_iconst (pc := 32) (v := 2) dL_act_32 (by decide) ?_
  refine v_icmp_ne (pc := 33) (tgt := 50) dL_act_33 (by decide) (fun c33 => ?_) (fun c33 => absurd c33 (by decide))
  refine v_iload_n (pc := 50) dL_act_50 rfl rfl ?_
  refine v_iconst (pc := 51) (v := 3) dL_act_51 (by decide) ?_
  refine v_icmp_ne (pc := 52) (tgt := 63) dL_act_52 (by decide) (fun c52 => ?_) (fun c52 => absurd c52 (by decide))
  refine v_iload_n (pc := 63) dL_act_63 rfl rfl ?_
  refine v_iconst (pc := 64) (v := 4) dL_act_64 (by decide) ?_
  refine v_icmp_ne (pc := 65) (tgt := 77) dL_act_65 (by decide) (fun c65 => ?_) (fun c65 => absurd c65 (by decide))
  refine v_iload_n (pc := 77) dL_act_77 rfl rfl ?_
  refine v_iconst (pc := 78) (v := 5) dL_act_78 (by decide) ?_
  refine v_icmp_ne (pc := 79) (tgt := 94) dL_act_79 (by decide) (fun c79 => ?_) (fun c79 => absurd c79 (by decide))
  refine v_iload_n (pc := 94) dL_act_94 rfl rfl ?_
  refine v_bipush (pc := 95) (v := 6) dL_act_95 (by decide) ?_
  refine v_icmp_ne (pc := 97) (tgt := 108) dL_act_97 (by decide) (fun c97 => ?_) (fun c97 => absurd c97 (by decide))
  refine v_iload_n (pc := 108) dL_act_108 rfl rfl ?_
  refine v_bipush (pc := 109) (v := 7) dL_act_109 (by decide) ?_
  refine v_icmp_ne (pc := 111) (tgt := 123) dL_act_111 (by decide) (fun c111 => ?_) (fun c111 => absurd c111 (by decide))
  refine v_iload_n (pc := 123) dL_act_123 rfl rfl ?_
  refine v_bipush (pc := 124) (v := 8) dL_act_124 (by decide) ?_
  refine v_icmp_ne (pc := 126) (tgt := 138) dL_act_126 (by decide) (fun c126 => ?_) (fun c126 => absurd c126 (by decide))
  refine v_iload_n (pc := 138) dL_act_138 rfl rfl ?_
  refine v_bipush (pc := 139) (v := 9) dL_act_139 (by decide) ?_
  refine v_icmp_ne (pc := 141) (tgt := 165) dL_act_141 (by decide) (fun c141 => ?_) (fun c141 => absurd c141 (by decide))
  refine v_iload_n (pc := 165) dL_act_165 rfl rfl ?_
  refine v_bipush (pc := 166) (v := 10) dL_act_166 (by decide) ?_
  refine v_icmp_ne (pc := 168) (tgt := 180) dL_act_168 (by decide) (fun c168 => ?_) (fun c168 => absurd c168 (by decide))
  refine v_iload_n (pc := 180) dL_act_180 rfl rfl ?_
  refine v_bipush (pc := 181) (v := 11) dL_act_181 (by decide) ?_
  refine v_icmp_ne (pc := 183) (tgt := 195) dL_act_183 (by decide) (fun c183 => ?_) (fun c183 => absurd c183 (by decide))
  refine v_iload_n (pc := 195) dL_act_195 rfl rfl ?_
  refine v_bipush (pc := 196) (v := 12) dL_act_196 (by decide) ?_
  refine v_icmp_ne (pc := 198) (tgt := 210) dL_act_198 (by decide) (fun c198 => ?_) (fun c198 => absurd c198 (by decide))
  refine v_iload_n (pc := 210) dL_act_210 rfl rfl ?_
  refine v_bipush (pc := 211) (v := 13) dL_act_211 (by decide) ?_
  refine v_icmp_ne (pc := 213) (tgt := 224) dL_act_213 (by decide) (fun c213 => ?_) (fun c213 => absurd c213 (by decide))
  refine v_iload_n (pc := 224) dL_act_224 rfl rfl ?_
  refine v_bipush (pc := 225) (v := 14) dL_act_225 (by decide) ?_
  refine v_icmp_ne (pc := 227) (tgt := 246) dL_act_227 (by decide) (fun c227 => ?_) (fun c227 => absurd c227 (by decide))
  refine v_iload_n (pc := 246) dL_act_246 rfl rfl ?_
  refine v_bipush (pc := 247) (v := 15) dL_act_247 (by decide) ?_
  refine v_icmp_ne (pc := 249) (tgt := 262) dL_act_249 (by decide) (fun c249 => ?_) (fun c249 => absurd c249 (by decide))
  refine v_iload_n (pc := 262) dL_act_262 rfl rfl ?_
  refine v_bipush (pc := 263) (v := 16) dL_act_263 (by decide) ?_
  refine v_icmp_ne (pc := 265) (tgt := 278) dL_act_265 (by decide) (fun c265 => ?_) (fun c265 => absurd c265 (by decide))
  refine v_iload_n (pc := 278) dL_act_278 rfl rfl ?_
  refine v_bipush (pc := 279) (v := 17) dL_act_279 (by decide) ?_
  refine v_icmp_ne (pc := 281) (tgt := 293) dL_act_281 (by decide) (fun c281 => ?_) (fun c281 => absurd c281 (by decide))
  refine v_iload_n (pc := 293) dL_act_293 rfl rfl ?_
  refine v_bipush (pc := 294) (v := 18) dL_act_294 (by decide) ?_
  refine v_icmp_ne (pc := 296) (tgt := 308) dL_act_296 (by decide) (fun c296 => ?_) (fun c296 => absurd c296 (by decide))
  refine v_iload_n (pc := 308) dL_act_308 rfl rfl ?_
  refine v_bipush (pc := 309) (v := 19) dL_act_309 (by decide) ?_
  refine v_icmp_ne (pc := 311) (tgt := 324) dL_act_311 (by decide) (fun c311 => ?_) (fun c311 => absurd c311 (by decide))
  refine v_iload_n (pc := 324) dL_act_324 rfl rfl ?_
  refine v_bipush (pc := 325) (v := 20) dL_act_325 (by decide) ?_
  refine v_icmp_ne (pc := 327) (tgt := 339) dL_act_327 (by decide) (fun c327 => ?_) (fun c327 => absurd c327 (by decide))
  refine v_iload_n (pc := 339) dL_act_339 rfl rfl ?_
  refine v_bipush (pc := 340) (v := 21) dL_act_340 (by decide) ?_
  refine v_icmp_ne (pc := 342) (tgt := 355) dL_act_342 (by decide) (fun c342 => ?_) (fun c342 => absurd c342 (by decide))
  refine v_iload_n (pc := 355) dL_act_355 rfl rfl ?_
  refine v_bipush (pc := 356) (v := 22) dL_act_356 (by decide) ?_
  refine v_icmp_ne (pc := 358) (tgt := 370) dL_act_358 (by decide) (fun c358 => ?_) (fun c358 => absurd c358 (by decide))
  refine v_iload_n (pc := 370) dL_act_370 rfl rfl ?_
  refine v_bipush (pc := 371) (v := 23) dL_act_371 (by decide) ?_
  refine v_icmp_ne (pc := 373) (tgt := 395) dL_act_373 (by decide) (fun c373 => ?_) (fun c373 => absurd c373 (by decide))
  refine v_iload_n (pc := 395) dL_act_395 rfl rfl ?_
  refine v_bipush (pc := 396) (v := 24) dL_act_396 (by decide) ?_
  refine v_icmp_ne (pc := 398) (tgt := 420) dL_act_398 (by decide) (fun c398 => ?_) (fun c398 => absurd c398 (by decide))
  refine v_iload_n (pc := 420) dL_act_420 rfl rfl ?_
  refine v_bipush (pc := 421) (v := 25) dL_act_421 (by decide) ?_
  refine v_icmp_ne (pc := 423) (tgt := 436) dL_act_423 (by decide) (fun c423 => absurd c423 (by decide)) (fun c423 => ?_)
  refine v_aload_n (pc := 426) dL_act_426 rfl rfl ?_
  refine v_iload_n (pc := 427) dL_act_427 rfl rfl ?_
  refine v_iload_n (pc := 428) dL_act_428 rfl rfl ?_
  refine v_try (pc := 429) (As := [.int p0, .int p1]) (rest := []) hX dL_act_429 cw_L_97 im_yX8_ofCanopy se_yX8_ofCanopy ((c_X8_ofCanopy D X s c p0 p1 h hc hc2 hsl) G hG) ((hG.1 0 0 (hG.2.2.1 0 (by decide))).1.2.1) rfl rfl rfl (Nat.le_of_ble_eq_true rfl) ⟨Nat.le_of_ble_eq_true rfl, Nat.le_of_ble_eq_true rfl⟩ ⟨by decide, by decide⟩ (fun v G1 hp => ?_) (fun E9 G1 q9 hp => ?_)
  · obtain ⟨s1, hG1, hv1, hr1⟩ := hp
    subst hv1
    refine v_i2l (pc := 432) dL_act_432 ?_
    refine v_goto (pc := 433) (tgt := 443) dL_act_433 (by decide) ?_
    refine v_lret (pc := 443) hR dL_act_443 ⟨by decide, by decide⟩ ?_
    exact ⟨X, s1, _, rfl, hG1, rfl, fun c _ => rfl, Or.inl ⟨rfl, rfl, hr1⟩⟩
  · obtain ⟨hG1, hp⟩ := hp
    rcases hp with ⟨rfl, hk⟩ | ⟨rfl, hk⟩
    · refine ⟨[], ⟨0, 443, 444, 103⟩, [⟨0, 443, 450, 107⟩, ⟨0, 443, 456, 111⟩], xIO, rfl, (fun z hz => nomatch hz), by decide, by decide, cl_L_103, ca_xIO, ?_⟩
      refine v_astore (pc := 444) dL_act_444 rfl (by decide) ?_
      refine v_ldcL (pc := 446) dL_act_446 k_L_105 ?_
      refine v_lret (pc := 449) hR dL_act_449 ⟨by decide, by decide⟩ ?_
      exact ⟨X, s, _, rfl, hG1, rfl, fun c _ => rfl, Or.inr ⟨Or.inl ⟨hk, rfl⟩, rfl, rfl⟩⟩
    · refine ⟨[⟨0, 443, 444, 103⟩], ⟨0, 443, 450, 107⟩, [⟨0, 443, 456, 111⟩], xIA, rfl, (List.forall_mem_cons.mpr ⟨Or.inr ⟨by decide, xIO, cl_L_103, (Or.inl ⟨rfl, rfl⟩)⟩, fun z hz => nomatch hz⟩), by decide, by decide, cl_L_107, ca_xIA, ?_⟩
      refine v_astore (pc := 450) dL_act_450 rfl (by decide) ?_
      refine v_ldcL (pc := 452) dL_act_452 k_L_109 ?_
      refine v_lret (pc := 455) hR dL_act_455 ⟨by decide, by decide⟩ ?_
      exact ⟨X, s, _, rfl, hG1, rfl, fun c _ => rfl, Or.inr ⟨Or.inr ⟨hk, rfl⟩, rfl, rfl⟩⟩
abbrev rw_act_lifeAnew : Room := { frames := 7, cells := 1, slots := 6, locals := 132 }
set_option maxRecDepth 100000 in
set_option maxHeartbeats 400000 in
theorem c_A_lifeAnew (D : DT) (G : GT) (X : XT) (s : SG) (c n : Nat) (p0 : Int32) (p1 : Int32) (y2 : Int32) (y3 : Int32) (hG : LF X s G) (h : CV s c) (hg : LG s c n) (hn : s.1 45 0 = nI n) (hn5 : n ≤ 512) (hc : s.1 28 0 = nI c) (hc2 : c ≤ 6) (hsl : ∀ f, f < 6 → X.2.2.1 5 f = decide (f < c)) : ML yL_act cL_act 7 (Option.some Jvm.ClassFile.FieldType.long) [(0, 443, 444, 103), (0, 443, 450, 107), (0, 443, 456, 111)] rw_act_lifeAnew D [.ref (X.1 0 0), .int 26, .int p0, .int p1, .int y2, .int y3] G (AP X s (fun X' s' w => w = ((lifeS s (nat p0) p1)).toInt64 ∧ X' = X ∧ s' = s ∧ kOf c p0 p1 3 5 = 0) (fun w => (kOf c p0 p1 3 5 = 1 ∧ w = (-1731000000000)) ∨ (kOf c p0 p1 3 5 = 2 ∧ w = (-1732000000000)))) := by
  refine ML_of (by decide +kernel) (Nat.le_of_ble_eq_true rfl) (fun K sz hR hX => ?_)
  show V cL_act _ 7 _ D K 0 [some (.ref (X.1 0 0)), some (.int 26), some (.int p0), some (.int p1), some (.int y2), some (.int y3), none] [] G (0, 0)
  refine v_iload_n (pc := 0) dL_act_0 rfl rfl ?_
  refine v_if_ne (pc := 1) (tgt := 16) dL_act_1 (by decide) (fun c1 => ?_) (fun c1 => absurd c1 (by decide))
  refine v_iload_n (pc := 16) dL_act_16 rfl rfl ?_
  refine v_iconst (pc := 17) (v := 1) dL_act_17 (by decide) ?_
  refine v_icmp_ne (pc := 18) (tgt := 31) dL_act_18 (by decide) (fun c18 => ?_) (fun c18 => absurd c18 (by decide))
  refine v_iload_n (pc := 31) dL_act_31 rfl rfl ?_
  refine v_iconst (pc := 32) (v := 2) dL_act_32 (by decide) ?_
  refine v_icmp_ne (pc := 33) (tgt := 50) dL_act_33 (by decide) (fun c33 => ?_) (fun c33 => absurd c33 (by decide))
  refine v_iload_n (pc := 50) dL_act_50 rfl rfl ?_
  refine v_iconst (pc := 51) (v := 3) dL_act_51 (by decide) ?_
  refine v_icmp_ne (pc := 52) (tgt := 63) dL_act_52 (by decide) (fun c52 => ?_) (fun c52 => absurd c52 (by decide))
  refine v_iload_n (pc := 63) dL_act_63 rfl rfl ?_
  refine v_iconst (pc := 64) (v := 4) dL_act_64 (by decide) ?_
  refine v_icmp_ne (pc := 65) (tgt := 77) dL_act_65 (by decide) (fun c65 => ?_) (fun c65 => absurd c65 (by decide))
  refine v_iload_n (pc := 77) dL_act_77 rfl rfl ?_
  refine v_iconst (pc := 78) (v := 5) dL_act_78 (by decide) ?_
  refine v_icmp_ne (pc := 79) (tgt := 94) dL_act_79 (by decide) (fun c79 => ?_) (fun c79 => absurd c79 (by decide))
  refine v_iload_n (pc := 94) dL_act_94 rfl rfl ?_
  refine v_bipush (pc := 95) (v := 6) dL_act_95 (by decide) ?_
  refine v_icmp_ne (pc := 97) (tgt := 108) dL_act_97 (by decide) (fun c97 => ?_) (fun c97 => absurd c97 (by decide))
  refine v_iload_n (pc := 108) dL_act_108 rfl rfl ?_
  refine v_bipush (pc := 109) (v := 7) dL_act_109 (by decide) ?_
  refine v_icmp_ne (pc := 111) (tgt := 123) dL_act_111 (by decide) (fun c111 => ?_) (fun c111 => absurd c111 (by decide))
  refine v_iload_n (pc := 123) dL_act_123 rfl rfl ?_
  refine v_bipush (pc := 124) (v := 8) dL_act_124 (by decide) ?_
  refine v_icmp_ne (pc := 126) (tgt := 138) dL_act_126 (by decide) (fun c126 => ?_) (fun c126 => absurd c126 (by decide))
  refine v_iload_n (pc := 138) dL_act_138 rfl rfl ?_
  refine v_bipush (pc := 139) (v := 9) dL_act_139 (by decide) ?_
  refine v_icmp_ne (pc := 141) (tgt := 165) dL_act_141 (by decide) (fun c141 => ?_) (fun c141 => absurd c141 (by decide))
  refine v_iload_n (pc := 165) dL_act_165 rfl rfl ?_
  refine v_bipush (pc := 166) (v := 10) dL_act_166 (by decide) ?_
  refine v_icmp_ne (pc := 168) (tgt := 180) dL_act_168 (by decide) (fun c168 => ?_) (fun c168 => absurd c168 (by decide))
  refine v_iload_n (pc := 180) dL_act_180 rfl rfl ?_
  refine v_bipush (pc := 181) (v := 11) dL_act_181 (by decide) ?_
  refine v_icmp_ne (pc := 183) (tgt := 195) dL_act_183 (by decide) (fun c183 => ?_) (fun c183 => absurd c183 (by decide))
  refine v_iload_n (pc := 195) dL_act_195 rfl rfl ?_
  refine v_bipush (pc := 196) (v := 12) dL_act_196 (by decide) ?_
  refine v_icmp_ne (pc := 198) (tgt := 210) dL_act_198 (by decide) (fun c198 => ?_) (fun c198 => absurd c198 (by decide))
  refine v_iload_n (pc := 210) dL_act_210 rfl rfl ?_
  refine v_bipush (pc := 211) (v := 13) dL_act_211 (by decide) ?_
  refine v_icmp_ne (pc := 213) (tgt := 224) dL_act_213 (by decide) (fun c213 => ?_) (fun c213 => absurd c213 (by decide))
  refine v_iload_n (pc := 224) dL_act_224 rfl rfl ?_
  refine v_bipush (pc := 225) (v := 14) dL_act_225 (by decide) ?_
  refine v_icmp_ne (pc := 227) (tgt := 246) dL_act_227 (by decide) (fun c227 => ?_) (fun c227 => absurd c227 (by decide))
  refine v_iload_n (pc := 246) dL_act_246 rfl rfl ?_
  refine v_bipush (pc := 247) (v := 15) dL_act_247 (by decide) ?_
  refine v_icmp_ne (pc := 249) (tgt := 262) dL_act_249 (by decide) (fun c249 => ?_) (fun c249 => absurd c249 (by decide))
  refine v_iload_n (pc := 262) dL_act_262 rfl rfl ?_
  refine v_bipush (pc := 263) (v := 16) dL_act_263 (by decide) ?_
  refine v_icmp_ne (pc := 265) (tgt := 278) dL_act_265 (by decide) (fun c265 => ?_) (fun c265 => absurd c265 (by decide))
  refine v_iload_n (pc := 278) dL_act_278 rfl rfl ?_
  refine v_bipush (pc := 279) (v := 17) dL_act_279 (by decide) ?_
  refine v_icmp_ne (pc := 281) (tgt := 293) dL_act_281 (by decide) (fun c281 => ?_) (fun c281 => absurd c281 (by decide))
  refine v_iload_n (pc := 293) dL_act_293 rfl rfl ?_
  refine v_bipush (pc := 294) (v := 18) dL_act_294 (by decide) ?_
  refine v_icmp_ne (pc := 296) (tgt := 308) dL_act_296 (by decide) (fun c296 => ?_) (fun c296 => absurd c296 (by decide))
  refine v_iload_n (pc := 308) dL_act_308 rfl rfl ?_
  refine v_bipush (pc := 309) (v := 19) dL_act_309 (by decide) ?_
  refine v_icmp_ne (pc := 311) (tgt := 324) dL_act_311 (by decide) (fun c311 => ?_) (fun c311 => absurd c311 (by decide))
  refine v_iload_n (pc := 324) dL_act_324 rfl rfl ?_
  refine v_bipush (pc := 325) (v := 20) dL_act_325 (by decide) ?_
  refine v_icmp_ne (pc := 327) (tgt := 339) dL_act_327 (by decide) (fun c327 => ?_) (fun c327 => absurd c327 (by decide))
  refine v_iload_n (pc := 339) dL_act_339 rfl rfl ?_
  refine v_bipush (pc := 340) (v := 21) dL_act_340 (by decide) ?_
  refine v_icmp_ne (pc := 342) (tgt := 355) dL_act_342 (by decide) (fun c342 => ?_) (fun c342 => absurd c342 (by decide))
  refine v_iload_n (pc := 355) dL_act_355 rfl rfl ?_
  refine v_bipush (pc := 356) (v := 22) dL_act_356 (by decide) ?_
  refine v_icmp_ne (pc := 358) (tgt := 370) dL_act_358 (by decide) (fun c358 => ?_) (fun c358 => absurd c358 (by decide))
  refine v_iload_n (pc := 370) dL_act_370 rfl rfl ?_
  refine v_bipush (pc := 371) (v := 23) dL_act_371 (by decide) ?_
  refine v_icmp_ne (pc := 373) (tgt := 395) dL_act_373 (by decide) (fun c373 => ?_) (fun c373 => absurd c373 (by decide))
  refine v_iload_n (pc := 395) dL_act_395 rfl rfl ?_
  refine v_bipush (pc := 396) (v := 24) dL_act_396 (by decide) ?_
  refine v_icmp_ne (pc := 398) (tgt := 420) dL_act_398 (by decide) (fun c398 => ?_) (fun c398 => absurd c398 (by decide))
  refine v_iload_n (pc := 420) dL_act_420 rfl rfl ?_
  refine v_bipush (pc := 421) (v := 25) dL_act_421 (by decide) ?_
  refine v_icmp_ne (pc := 423) (tgt := 436) dL_act_423 (by decide) (fun c423 => ?_) (fun c423 => absurd c423 (by decide))
  refine v_aload_n (pc := 436) dL_act_436 rfl rfl ?_
  refine v_iload_n (pc := 437) dL_act_437 rfl rfl ?_
  refine v_iload_n (pc := 438) dL_act_438 rfl rfl ?_
  refine v_try (pc := 439) (As := [.int p0, .int p1]) (rest := []) hX dL_act_439 cw_L_100 im_yX8_lifeAnew se_yX8_lifeAnew ((c_X8_lifeAnew D X s c n p0 p1 h hg hn hn5 hc hc2 hsl) G hG) ((hG.1 0 0 (hG.2.2.1 0 (by decide))).1.2.1) rfl rfl rfl (Nat.le_of_ble_eq_true rfl) ⟨Nat.le_of_ble_eq_true rfl, Nat.le_of_ble_eq_true rfl⟩ ⟨by decide, by decide⟩ (fun v G1 hp => ?_) (fun E9 G1 q9 hp => ?_)
  · obtain ⟨s1, hG1, hv1, hr1⟩ := hp
    subst hv1
    refine v_i2l (pc := 442) dL_act_442 ?_
    refine v_lret (pc := 443) hR dL_act_443 ⟨by decide, by decide⟩ ?_
    exact ⟨X, s1, _, rfl, hG1, rfl, fun c _ => rfl, Or.inl ⟨rfl, rfl, hr1⟩⟩
  · obtain ⟨hG1, hp⟩ := hp
    rcases hp with ⟨rfl, hk⟩ | ⟨rfl, hk⟩
    · refine ⟨[], ⟨0, 443, 444, 103⟩, [⟨0, 443, 450, 107⟩, ⟨0, 443, 456, 111⟩], xIO, rfl, (fun z hz => nomatch hz), by decide, by decide, cl_L_103, ca_xIO, ?_⟩
      refine v_astore (pc := 444) dL_act_444 rfl (by decide) ?_
      refine v_ldcL (pc := 446) dL_act_446 k_L_105 ?_
      refine v_lret (pc := 449) hR dL_act_449 ⟨by decide, by decide⟩ ?_
      exact ⟨X, s, _, rfl, hG1, rfl, fun c _ => rfl, Or.inr ⟨Or.inl ⟨hk, rfl⟩, rfl, rfl⟩⟩
    · refine ⟨[⟨0, 443, 444, 103⟩], ⟨0, 443, 450, 107⟩, [⟨0, 443, 456, 111⟩], xIA, rfl, (List.forall_mem_cons.mpr ⟨Or.inr ⟨by decide, xIO, cl_L_103, (Or.inl ⟨rfl, rfl⟩)⟩, fun z hz => nomatch hz⟩), by decide, by decide, cl_L_107, ca_xIA, ?_⟩
      refine v_astore (pc := 450) dL_act_450 rfl (by decide) ?_
      refine v_ldcL (pc := 452) dL_act_452 k_L_109 ?_
      refine v_lret (pc := 455) hR dL_act_455 ⟨by decide, by decide⟩ ?_
      exact ⟨X, s, _, rfl, hG1, rfl, fun c _ => rfl, Or.inr ⟨Or.inr ⟨hk, rfl⟩, rfl, rfl⟩⟩
abbrev rw_pegs_gust : Room := { frames := 7, cells := 1, slots := 6, locals := 142 }
set_option maxRecDepth 100000 in
set_option maxHeartbeats 400000 in
theorem c_A_gust (D : DT) (G : GT) (X : XT) (s : SG) (g : Nat) (p0 : Int64) (hG : LF X s G) (hv : GV s g) (hg8 : g ≤ 8) (hsl : ∀ f, f < 8 → X.2.2.1 4 f = decide (f < g)) : ML yL_pegs cL_pegs 5 (Option.some Jvm.ClassFile.FieldType.long) [(0, 22, 23, 107), (0, 22, 29, 111)] rw_pegs_gust D [.ref (X.1 0 0), .int (-9), .long p0] G (AP X s (fun X' s' w => w = ((nI (gusF s p0 g 9).2)).toInt64 ∧ X' = X ∧ s' = (gusF s p0 g 9).1 ∧ kGust p0 = 0) (fun w => (kGust p0 = 1 ∧ w = (-1732000000000)))) := by
  refine ML_of (by decide +kernel) (Nat.le_of_ble_eq_true rfl) (fun K sz hR hX => ?_)
  show V cL_pegs _ 5 _ D K 0 [some (.ref (X.1 0 0)), some (.int (-9)), some (.long p0), none, none] [] G (0, 0)
  refine v_iload_n (pc := 0) dL_pegs_0 rfl rfl ?_
  refine v_bipush (pc := 1) (v := (-9)) dL_pegs_1 (by decide) ?_
  refine v_icmp_ne (pc := 3) (tgt := 15) dL_pegs_3 (by decide) (fun c3 => absurd c3 (by decide)) (fun c3 => ?_)
  refine v_aload_n (pc := 6) dL_pegs_6 rfl rfl ?_
  refine v_lload_n (pc := 7) dL_pegs_7 rfl rfl ?_
  refine v_try (pc := 8) (As := [.long p0]) (rest := []) hX dL_pegs_8 cw_L_115 im_yX8_gust se_yX8_gust ((c_X8_gust D X s g p0 hv hg8 hsl) G hG) ((hG.1 0 0 (hG.2.2.1 0 (by decide))).1.2.1) rfl rfl rfl (Nat.le_of_ble_eq_true rfl) ⟨Nat.le_of_ble_eq_true rfl, Nat.le_of_ble_eq_true rfl⟩ ⟨by decide, by decide⟩ (fun v G1 hp => ?_) (fun E9 G1 q9 hp => ?_)
  · obtain ⟨s1, hG1, hv1, hr1⟩ := hp
    subst hv1
    refine v_i2l (pc := 11) dL_pegs_11 ?_
    refine v_goto (pc := 12) (tgt := 22) dL_pegs_12 (by decide) ?_
    refine v_lret (pc := 22) hR dL_pegs_22 ⟨by decide, by decide⟩ ?_
    exact ⟨X, s1, _, rfl, hG1, rfl, fun c _ => rfl, Or.inl ⟨rfl, rfl, hr1⟩⟩
  · obtain ⟨hG1, hp⟩ := hp
    rcases hp with ⟨rfl, hk⟩
    · refine ⟨[], ⟨0, 22, 23, 107⟩, [⟨0, 22, 29, 111⟩], xIA, rfl, (fun z hz => nomatch hz), by decide, by decide, cl_L_107, ca_xIA, ?_⟩
      refine v_astore (pc := 23) dL_pegs_23 rfl (by decide) ?_
      refine v_ldcL (pc := 25) dL_pegs_25 k_L_109 ?_
      refine v_lret (pc := 28) hR dL_pegs_28 ⟨by decide, by decide⟩ ?_
      exact ⟨X, s, _, rfl, hG1, rfl, fun c _ => rfl, Or.inr ⟨⟨hk, rfl⟩, rfl, rfl⟩⟩
abbrev rw_pegs_peg : Room := { frames := 7, cells := 1, slots := 6, locals := 133 }
set_option maxRecDepth 100000 in
set_option maxHeartbeats 400000 in
theorem c_A_peg (D : DT) (G : GT) (X : XT) (s : SG) (g : Nat) (p0 : Int64) (p1 : Int32) (hG : LF X s G) (hg : s.1 19 0 = nI g) (hg8 : g ≤ 8) (hfr : X.2.1 16 g = false) (z23 : s.2 23 g = 0) (hxv : XV X) (h9 : ¬ p1 = -9) : ML yL_pegs cL_pegs 5 (Option.some Jvm.ClassFile.FieldType.long) [(0, 22, 23, 107), (0, 22, 29, 111)] rw_pegs_peg D [.ref (X.1 0 0), .int p1, .long p0] G (AP X s (fun X' s' w => w = ((nI g)).toInt64 ∧ s' = gPeg s g p0 p1 ∧ X'.2.1 = u2 X.2.1 16 g true ∧ X'.2.2.1 = u2 X.2.2.1 4 g true ∧ kPeg g p0 p1 = 0) (fun w => (kPeg g p0 p1 = 1 ∧ w = (-1732000000000)) ∨ (kPeg g p0 p1 = 2 ∧ w = (-1733000000000)))) := by
  refine ML_of (by decide +kernel) (Nat.le_of_ble_eq_true rfl) (fun K sz hR hX => ?_)
  show V cL_pegs _ 5 _ D K 0 [some (.ref (X.1 0 0)), some (.int p1), some (.long p0), none, none] [] G (0, 0)
  refine v_iload_n (pc := 0) dL_pegs_0 rfl rfl ?_
  refine v_bipush (pc := 1) (v := (-9)) dL_pegs_1 (by decide) ?_
  refine v_icmp_ne (pc := 3) (tgt := 15) dL_pegs_3 (by decide) (fun c3 => ?_) (fun c3 => absurd c3 h9)
  refine v_aload_n (pc := 15) dL_pegs_15 rfl rfl ?_
  refine v_lload_n (pc := 16) dL_pegs_16 rfl rfl ?_
  refine v_iload_n (pc := 17) dL_pegs_17 rfl rfl ?_
  refine v_try (pc := 18) (As := [.long p0, .int p1]) (rest := []) hX dL_pegs_18 cw_L_119 im_yX8_peg se_yX8_peg ((c_X8_peg D X s g p0 p1 hg hg8 hfr z23 hxv) G hG) ((hG.1 0 0 (hG.2.2.1 0 (by decide))).1.2.1) rfl rfl rfl (Nat.le_of_ble_eq_true rfl) ⟨Nat.le_of_ble_eq_true rfl, Nat.le_of_ble_eq_true rfl⟩ ⟨by decide, by decide⟩ (fun v G1 hp => ?_) (fun E9 G1 q9 hp => ?_)
  · obtain ⟨X1, s1, hG1, hA1, h01, hv1, hr1⟩ := hp
    subst hv1
    refine v_i2l (pc := 21) dL_pegs_21 ?_
    refine v_lret (pc := 22) hR dL_pegs_22 ⟨by decide, by decide⟩ ?_
    exact ⟨X1, s1, _, rfl, hG1, hA1, h01, Or.inl ⟨rfl, hr1⟩⟩
  · obtain ⟨hG1, hp⟩ := hp
    rcases hp with ⟨rfl, hk⟩ | ⟨rfl, hk⟩
    · refine ⟨[], ⟨0, 22, 23, 107⟩, [⟨0, 22, 29, 111⟩], xIA, rfl, (fun z hz => nomatch hz), by decide, by decide, cl_L_107, ca_xIA, ?_⟩
      refine v_astore (pc := 23) dL_pegs_23 rfl (by decide) ?_
      refine v_ldcL (pc := 25) dL_pegs_25 k_L_109 ?_
      refine v_lret (pc := 28) hR dL_pegs_28 ⟨by decide, by decide⟩ ?_
      exact ⟨X, s, _, rfl, hG1, rfl, fun c _ => rfl, Or.inr ⟨Or.inl ⟨hk, rfl⟩, rfl, rfl⟩⟩
    · refine ⟨[⟨0, 22, 23, 107⟩], ⟨0, 22, 29, 111⟩, [], xIS, rfl, (List.forall_mem_cons.mpr ⟨Or.inr ⟨by decide, xIA, cl_L_107, (Or.inr (Or.inr ⟨rfl, rfl⟩))⟩, fun z hz => nomatch hz⟩), by decide, by decide, cl_L_111, ca_xIS, ?_⟩
      refine v_astore (pc := 29) dL_pegs_29 rfl (by decide) ?_
      refine v_ldcL (pc := 31) dL_pegs_31 k_L_113 ?_
      refine v_lret (pc := 34) hR dL_pegs_34 ⟨by decide, by decide⟩ ?_
      exact ⟨X, s, _, rfl, hG1, rfl, fun c _ => rfl, Or.inr ⟨Or.inr ⟨hk, rfl⟩, rfl, rfl⟩⟩
