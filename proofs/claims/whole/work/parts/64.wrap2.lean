theorem LF.re {X : XT} {s : SG} {G : GT} (h : LF X s G) {A : Nat → Prop} (hA : ∀ p, A p → (∀ c i, X.2.1 c i = true → p ≠ X.1 c i) ∧ G.1 p ≠ 0) : LF (X.1, X.2.1, X.2.2.1, A, G) s G :=
  ⟨h.1, h.2.1, h.2.2.1, fun p hp => ⟨(hA p hp).1, (hA p hp).2, rfl, rfl, rfl, rfl, rfl, rfl⟩⟩
theorem LF.out {X : XT} {s : SG} {G G2 G0 : GT} {A : Nat → Prop} {o : Nat} (h : LF X s G) (hA : X.2.2.2 = (A, G0)) (ho : A o) (hO : ∀ p, p ≠ o → same6 G2 G p) (hT : G2.1 o ≠ 0) : LF (X.1, X.2.1, X.2.2.1, A, G2) s G2 := by
  have ha : ∀ p, A p → (∀ c i, X.2.1 c i = true → p ≠ X.1 c i) ∧ G.1 p ≠ 0 := fun p hp => by
    have := h.2.2.2 p (by rw [show X.2.2.2.1 = A from congrArg (fun z => z.1) hA]; exact hp)
    exact ⟨this.1, by rw [this.2.2.1]; exact this.2.1⟩
  have h1 : LF0 (X.1, X.2.1, X.2.2.1, (fun p => A p ∧ p ≠ o), G) s G2 := (h.re (A := fun p => A p ∧ p ≠ o) (fun p hp => ha p hp.1)).to0.ext (q := o) (fun c i hl e => (ha o ho).1 c i hl e.symm) (fun p hp => hp.2) (fun p _ hp => hO p hp)
  have h2 : LF (X.1, X.2.1, X.2.2.1, (fun p => A p ∧ p ≠ o), G) s G2 := h1.to h.2.2.1
  refine h2.re (A := A) (fun p hp => ⟨(ha p hp).1, ?_⟩)
  by_cases e : p = o
  · rw [e]; exact hT
  · rw [(hO p e).1]; exact (ha p hp).2
/-- what a wrapper leaves: its answer in the row o of kind kd; what stands aside (A) is as it was -/
def WP (A : Nat → Prop) (o kd : Nat) (X : XT) (s : SG) (G : GT) (okv : GT → XT → SG → Prop) (err : Int32 → Prop) : Option Value → GT → Prop := fun v G' => ∃ X' s', LF X' s' G' ∧ X'.2.2.2 = (A, G') ∧ (∀ c, c < 13 → X'.1 c 0 = X.1 c 0) ∧ (∀ p, A p → p ≠ o → same6 G' G p) ∧ (G'.1 o = kd ∧ G'.2.1 o = 1) ∧ ∃ k, v = some (.int k) ∧ ((k = 0 ∧ okv G' X' s') ∨ (¬ k = 0 ∧ err k ∧ s' = s ∧ X'.2.1 = X.2.1 ∧ X'.2.2.1 = X.2.2.1))
theorem WP.ok {A : Nat → Prop} {o kd : Nat} {X : XT} {s : SG} {G : GT} {okv : GT → XT → SG → Prop} {err : Int32 → Prop} {X1 : XT} {s1 : SG} {G1 G2 : GT} (h : LF X1 s1 G1) (hA : X.2.2.2 = (A, G)) (hA1 : X1.2.2.2 = X.2.2.2) (h0 : ∀ c, c < 13 → X1.1 c 0 = X.1 c 0) (ho : A o) (hO : ∀ p, p ≠ o → same6 G2 G1 p) (hk : G2.1 o = kd ∧ G2.2.1 o = 1) (hkd : kd ≠ 0) (hok : okv G2 (X1.1, X1.2.1, X1.2.2.1, A, G2) s1) : WP A o kd X s G okv err (some (.int 0)) G2 :=
  ⟨_, s1, h.out (hA1.trans hA) ho hO (by rw [hk.1]; exact hkd), rfl, h0, fun p hp hne => (hO p hne).tr (by
    have := (h.2.2.2 p (by rw [show X1.2.2.2.1 = A from congrArg (fun z => z.1) (hA1.trans hA)]; exact hp)).2.2
    rw [show X1.2.2.2.2 = G from congrArg (fun z => z.2) (hA1.trans hA)] at this
    exact this), hk, 0, rfl, Or.inl ⟨rfl, hok⟩⟩
theorem WP.err {A : Nat → Prop} {o kd : Nat} {X : XT} {s : SG} {G : GT} {okv : GT → XT → SG → Prop} {err : Int32 → Prop} {G1 : GT} {k : Int32} (h : LF X s G1) (hA : X.2.2.2 = (A, G)) (ho : A o) (hk : G.1 o = kd ∧ G.2.1 o = 1) (hkd : kd ≠ 0) (h0 : ¬ k = 0) (he : err k) : WP A o kd X s G okv err (some (.int k)) G1 := by
  have ha : ∀ p, A p → same6 G1 G p := fun p hp => by
    have := (h.2.2.2 p (by rw [show X.2.2.2.1 = A from congrArg (fun z => z.1) hA]; exact hp)).2.2
    rw [show X.2.2.2.2 = G from congrArg (fun z => z.2) hA] at this
    exact this
  have hk1 : G1.1 o = kd ∧ G1.2.1 o = 1 := ⟨(ha o ho).1.trans hk.1, (ha o ho).2.1.trans hk.2⟩
  exact ⟨_, s, h.out hA ho (fun p _ => ⟨rfl, rfl, rfl, rfl, rfl, rfl⟩) (by rw [hk1.1]; exact hkd), rfl, fun c _ => rfl, fun p hp _ => ha p hp, hk1, k, rfl, Or.inr ⟨h0, he, rfl, rfl, rfl⟩⟩
theorem kTrim_lt {p0 p1 p2 : Int32} (h : kTrim p0 p1 p2 = 0) : nat p0 < 101 ∧ nat p1 < 101 ∧ nat p2 < 4 := by
  unfold kTrim at h
  by_cases c : oTrim p0 p1 p2
  · obtain ⟨a, ha, rfl⟩ := (btw_lit (M := 100) (N := 100) rfl).mp c.1
    obtain ⟨b, hb, rfl⟩ := (btw_lit (M := 100) (N := 100) rfl).mp c.2.1
    obtain ⟨d, hd, rfl⟩ := (btw_lit (M := 3) (N := 3) rfl).mp c.2.2
    rw [nat_nI (by omega), nat_nI (by omega), nat_nI (by omega)]
    omega
  · rw [if_neg c] at h; exact absurd h (by decide)
theorem kPow_lt {p0 : Int32} (h : kPow p0 = 0) : nat p0 < 101 := by
  unfold kPow at h
  by_cases c : btw p0 0 100
  · obtain ⟨a, ha, rfl⟩ := (btw_lit (M := 100) (N := 100) rfl).mp c
    rw [nat_nI (by omega)]
    omega
  · rw [if_neg c] at h; exact absurd h (by decide)
theorem cl_L_13 : Cond.classLink "BroadseamLoftLaw" 13 xIA ∈ lw_all := (lw_mem 175 (by decide +kernel) rfl)
theorem cl_L_15 : Cond.classLink "BroadseamLoftLaw" 15 xIS ∈ lw_all := (lw_mem 176 (by decide +kernel) rfl)
theorem cl_L_21 : Cond.classLink "BroadseamLoftLaw" 21 xIO ∈ lw_all := (lw_mem 303 (by decide +kernel) rfl)
theorem ca_xIO : Cond.castable xIO xIO ∈ ngW := List.mem_of_getElem? (i := 15) rfl
theorem ca_xIA : Cond.castable xIA xIA ∈ ngW := List.mem_of_getElem? (i := 7) rfl
theorem ca_xIS : Cond.castable xIS xIS ∈ ngW := List.mem_of_getElem? (i := 14) rfl
abbrev rw_L_lot : Room := { frames := 7, cells := 1, slots := 8, locals := 133 }
theorem wl_lot : Cond.codeWith yL_lot cL_lot 6 (Option.some Jvm.ClassFile.FieldType.int) [(0, 12, 15, 13), (0, 12, 19, 15)] ∈ lw_all := (lw_mem 174 (by decide +kernel) rfl)
set_option maxRecDepth 100000 in
set_option maxHeartbeats 400000 in
theorem c_L_lot (D : DT) (G : GT) (X : XT) (s : SG) (A : Nat → Prop) (o : Nat) (a : Nat) (p0 : Int32) (p1 : Int32) (p2 : Int32) (hG : LF X s G) (hA : X.2.2.2 = (A, G)) (ho : A o) (hTo : G.1 o = 12 ∧ G.2.1 o = 1) (hn : s.1 0 0 = nI a) (ha : a ≤ 6) (hfr : X.2.1 13 a = false) (z2 : s.1 2 a = 0) (z3 : s.1 3 a = 0) (hxv : XV X) : ML yL_lot cL_lot 6 (Option.some Jvm.ClassFile.FieldType.int) [(0, 12, 15, 13), (0, 12, 19, 15)] rw_L_lot D [.ref (X.1 0 0), .int p0, .int p1, .int p2, .ref o] G (WP A o 12 X s G (fun G' X' s' => G'.2.2.2.1 o 0 = ((nI a)).toInt64 ∧ s' = gLot (ow3 s a) a p0 p1 p2 ∧ X'.2.1 = u2 X.2.1 13 a true ∧ X'.2.2.1 = u2 X.2.2.1 1 a true ∧ kLot a p0 p1 p2 = 0) (fun k => kLot a p0 p1 p2 = k)) := by
  refine ML_of (by decide +kernel) (Nat.le_of_ble_eq_true rfl) (fun K sz hR hX => ?_)
  show V cL_lot _ 6 _ D K 0 [some (.ref (X.1 0 0)), some (.int p0), some (.int p1), some (.int p2), some (.ref o), none] [] G (0, 0)
  have hAo : ∀ G1 : GT, ∀ X1 s1, LF X1 s1 G1 → X1.2.2.2 = X.2.2.2 → G1.1 o = 12 ∧ G1.2.1 o = 1 := fun G1 X1 s1 h1 e1 => by
    have := (h1.2.2.2 o (by rw [show X1.2.2.2.1 = A from congrArg (fun z => z.1) (e1.trans hA)]; exact ho)).2.2
    rw [show X1.2.2.2.2 = G from congrArg (fun z => z.2) (e1.trans hA)] at this
    exact ⟨this.1.trans hTo.1, this.2.1.trans hTo.2⟩
  refine v_aload (pc := 0) dL_lot_0 rfl ?_
  refine v_iconst (pc := 2) (v := 0) dL_lot_2 (by decide) ?_
  refine v_aload_n (pc := 3) dL_lot_3 rfl rfl ?_
  refine v_iload_n (pc := 4) dL_lot_4 rfl rfl ?_
  refine v_iload_n (pc := 5) dL_lot_5 rfl rfl ?_
  refine v_iload_n (pc := 6) dL_lot_6 rfl rfl ?_
  refine v_try (pc := 7) (As := [.int p0, .int p1, .int p2]) (rest := [.int 0, .ref o]) hX dL_lot_7 cw_L_7 im_yX8_lot se_yX8_lot ((c_X8_lot D X s a p0 p1 p2 hn ha hfr z2 z3 hxv) G hG) ((hG.1 0 0 (hG.2.2.1 0 (by decide))).1.2.1) rfl rfl rfl (Nat.le_of_ble_eq_true rfl) ⟨Nat.le_of_ble_eq_true rfl, Nat.le_of_ble_eq_true rfl⟩ ⟨by decide, by decide⟩ (fun v G1 hp => ?_) (fun E9 G1 q9 hp => ?_)
  · obtain ⟨X1, s1, hG1, hA1, h01, hv1, hr1⟩ := hp
    subst hv1
    have hT1 := hAo _ _ _ hG1 hA1
    obtain ⟨T, N, I, J, E, Rf⟩ := G1
    refine v_i2l (pc := 10) dL_lot_10 ?_
    refine v_last (pc := 11) (j := 0) dL_lot_11 hT1.1 hT1.2 rfl (by decide) (by decide) ?_
    refine v_goto (pc := 12) (tgt := 23) dL_lot_12 (by decide) ?_
    refine v_iconst (pc := 23) (v := 0) dL_lot_23 (by decide) ?_
    refine v_iret (pc := 24) hR dL_lot_24 ⟨by decide, by decide⟩ ?_
    exact WP.ok hG1 hA hA1 h01 ho (fun p hp => ⟨rfl, rfl, rfl, funext fun j => by simp [u2, hp], rfl, rfl⟩) hT1 (by decide) ⟨u2_s _ _ _ _, hr1⟩
  · obtain ⟨hG1, hp⟩ := hp
    rcases hp with ⟨rfl, hk⟩ | ⟨rfl, hk⟩
    · refine ⟨[], ⟨0, 12, 15, 13⟩, [⟨0, 12, 19, 15⟩], xIA, rfl, (fun z hz => nomatch hz), by decide, by decide, cl_L_13, ca_xIA, ?_⟩
      refine v_astore (pc := 15) dL_lot_15 rfl (by decide) ?_
      refine v_iconst (pc := 17) (v := 1) dL_lot_17 (by decide) ?_
      refine v_iret (pc := 18) hR dL_lot_18 ⟨by decide, by decide⟩ ?_
      exact WP.err hG1 hA ho hTo (by decide) (by decide) hk
    · refine ⟨[⟨0, 12, 15, 13⟩], ⟨0, 12, 19, 15⟩, [], xIS, rfl, (List.forall_mem_cons.mpr ⟨Or.inr ⟨by decide, xIA, cl_L_13, (Or.inr (Or.inr ⟨rfl, rfl⟩))⟩, fun z hz => nomatch hz⟩), by decide, by decide, cl_L_15, ca_xIS, ?_⟩
      refine v_astore (pc := 19) dL_lot_19 rfl (by decide) ?_
      refine v_iconst (pc := 21) (v := 2) dL_lot_21 (by decide) ?_
      refine v_iret (pc := 22) hR dL_lot_22 ⟨by decide, by decide⟩ ?_
      exact WP.err hG1 hA ho hTo (by decide) (by decide) hk
abbrev rw_L_sun : Room := { frames := 7, cells := 1, slots := 6, locals := 133 }
theorem wl_sun : Cond.codeWith yL_sun cL_sun 5 (Option.some Jvm.ClassFile.FieldType.int) [(0, 10, 13, 21), (0, 10, 17, 13)] ∈ lw_all := (lw_mem 302 (by decide +kernel) rfl)
set_option maxRecDepth 100000 in
set_option maxHeartbeats 400000 in
theorem c_L_sun (D : DT) (G : GT) (X : XT) (s : SG) (A : Nat → Prop) (o : Nat) (a : Nat) (p0 : Int32) (p1 : Int32) (hG : LF X s G) (hA : X.2.2.2 = (A, G)) (ho : A o) (hTo : G.1 o = 12 ∧ G.2.1 o = 1) (hn : s.1 0 0 = nI a) (ha : a ≤ 6) (hsl : ∀ f, f < 6 → X.2.2.1 1 f = decide (f < a)) : ML yL_sun cL_sun 5 (Option.some Jvm.ClassFile.FieldType.int) [(0, 10, 13, 21), (0, 10, 17, 13)] rw_L_sun D [.ref (X.1 0 0), .int p0, .int p1, .ref o] G (WP A o 12 X s G (fun G' X' s' => G'.2.2.2.1 o 0 = (((gSun s (nat p0) p1).1 2 (nat p0))).toInt64 ∧ X'.2.1 = X.2.1 ∧ X'.2.2.1 = X.2.2.1 ∧ s' = gSun s (nat p0) p1 ∧ kSun a p0 p1 = 0) (fun k => kSun a p0 p1 = k)) := by
  refine ML_of (by decide +kernel) (Nat.le_of_ble_eq_true rfl) (fun K sz hR hX => ?_)
  show V cL_sun _ 5 _ D K 0 [some (.ref (X.1 0 0)), some (.int p0), some (.int p1), some (.ref o), none] [] G (0, 0)
  have hAo : ∀ G1 : GT, ∀ X1 s1, LF X1 s1 G1 → X1.2.2.2 = X.2.2.2 → G1.1 o = 12 ∧ G1.2.1 o = 1 := fun G1 X1 s1 h1 e1 => by
    have := (h1.2.2.2 o (by rw [show X1.2.2.2.1 = A from congrArg (fun z => z.1) (e1.trans hA)]; exact ho)).2.2
    rw [show X1.2.2.2.2 = G from congrArg (fun z => z.2) (e1.trans hA)] at this
    exact ⟨this.1.trans hTo.1, this.2.1.trans hTo.2⟩
  refine v_aload_n (pc := 0) dL_sun_0 rfl rfl ?_
  refine v_iconst (pc := 1) (v := 0) dL_sun_1 (by decide) ?_
  refine v_aload_n (pc := 2) dL_sun_2 rfl rfl ?_
  refine v_iload_n (pc := 3) dL_sun_3 rfl rfl ?_
  refine v_iload_n (pc := 4) dL_sun_4 rfl rfl ?_
  refine v_try (pc := 5) (As := [.int p0, .int p1]) (rest := [.int 0, .ref o]) hX dL_sun_5 cw_L_17 im_yX8_sun se_yX8_sun ((c_X8_sun D X s a p0 p1 hn ha hsl) G hG) ((hG.1 0 0 (hG.2.2.1 0 (by decide))).1.2.1) rfl rfl rfl (Nat.le_of_ble_eq_true rfl) ⟨Nat.le_of_ble_eq_true rfl, Nat.le_of_ble_eq_true rfl⟩ ⟨by decide, by decide⟩ (fun v G1 hp => ?_) (fun E9 G1 q9 hp => ?_)
  · obtain ⟨s1, hG1, hv1, hr1⟩ := hp
    subst hv1
    have hT1 := hAo _ _ _ hG1 rfl
    obtain ⟨T, N, I, J, E, Rf⟩ := G1
    refine v_i2l (pc := 8) dL_sun_8 ?_
    refine v_last (pc := 9) (j := 0) dL_sun_9 hT1.1 hT1.2 rfl (by decide) (by decide) ?_
    refine v_goto (pc := 10) (tgt := 21) dL_sun_10 (by decide) ?_
    refine v_iconst (pc := 21) (v := 0) dL_sun_21 (by decide) ?_
    refine v_iret (pc := 22) hR dL_sun_22 ⟨by decide, by decide⟩ ?_
    exact WP.ok hG1 hA rfl (fun c _ => rfl) ho (fun p hp => ⟨rfl, rfl, rfl, funext fun j => by simp [u2, hp], rfl, rfl⟩) hT1 (by decide) ⟨u2_s _ _ _ _, rfl, rfl, hr1⟩
  · obtain ⟨hG1, hp⟩ := hp
    rcases hp with ⟨rfl, hk⟩ | ⟨rfl, hk⟩
    · refine ⟨[], ⟨0, 10, 13, 21⟩, [⟨0, 10, 17, 13⟩], xIO, rfl, (fun z hz => nomatch hz), by decide, by decide, cl_L_21, ca_xIO, ?_⟩
      refine v_astore (pc := 13) dL_sun_13 rfl (by decide) ?_
      refine v_iconst (pc := 15) (v := 1) dL_sun_15 (by decide) ?_
      refine v_iret (pc := 16) hR dL_sun_16 ⟨by decide, by decide⟩ ?_
      exact WP.err hG1 hA ho hTo (by decide) (by decide) hk
    · refine ⟨[⟨0, 10, 13, 21⟩], ⟨0, 10, 17, 13⟩, [], xIA, rfl, (List.forall_mem_cons.mpr ⟨Or.inr ⟨by decide, xIO, cl_L_21, (Or.inl ⟨rfl, rfl⟩)⟩, fun z hz => nomatch hz⟩), by decide, by decide, cl_L_13, ca_xIA, ?_⟩
      refine v_astore (pc := 17) dL_sun_17 rfl (by decide) ?_
      refine v_iconst (pc := 19) (v := 2) dL_sun_19 (by decide) ?_
      refine v_iret (pc := 20) hR dL_sun_20 ⟨by decide, by decide⟩ ?_
      exact WP.err hG1 hA ho hTo (by decide) (by decide) hk
abbrev rw_L_panel : Room := { frames := 7, cells := 1, slots := 6, locals := 135 }
theorem wl_panel : Cond.codeWith yL_panel cL_panel 7 (Option.some Jvm.ClassFile.FieldType.int) [(0, 14, 17, 21), (0, 14, 21, 13), (0, 14, 25, 15)] ∈ lw_all := (lw_mem 336 (by decide +kernel) rfl)
set_option maxRecDepth 100000 in
set_option maxHeartbeats 400000 in
theorem c_L_panel (D : DT) (G : GT) (X : XT) (s : SG) (A : Nat → Prop) (o : Nat) (a b : Nat) (p0 : Int32) (p1 : Int32) (p2 : Int32) (p3 : Int32) (hG : LF X s G) (hA : X.2.2.2 = (A, G)) (ho : A o) (hTo : G.1 o = 12 ∧ G.2.1 o = 1) (hn : s.1 0 0 = nI a) (ha : a ≤ 6) (hsl : ∀ f, f < 6 → X.2.2.1 1 f = decide (f < a)) (hb : s.1 4 0 = nI b) (hb2 : b ≤ 12) (hfr : X.2.1 14 b = false) (hxv : XV X) : ML yL_panel cL_panel 7 (Option.some Jvm.ClassFile.FieldType.int) [(0, 14, 17, 21), (0, 14, 21, 13), (0, 14, 25, 15)] rw_L_panel D [.ref (X.1 0 0), .int p0, .int p1, .int p2, .int p3, .ref o] G (WP A o 12 X s G (fun G' X' s' => G'.2.2.2.1 o 0 = ((nI b)).toInt64 ∧ s' = sI (lyS (pan1 s b p0 p1 p2 p3) (nat p0) (acK p1 p2 p3) (lnK p1 p2 p3)) 4 0 (nI (b + 1)) ∧ X'.2.1 = u2 X.2.1 14 b true ∧ X'.2.2.1 = u2 X.2.2.1 2 b true ∧ kPan a b p0 p1 p2 p3 = 0) (fun k => kPan a b p0 p1 p2 p3 = k)) := by
  refine ML_of (by decide +kernel) (Nat.le_of_ble_eq_true rfl) (fun K sz hR hX => ?_)
  show V cL_panel _ 7 _ D K 0 [some (.ref (X.1 0 0)), some (.int p0), some (.int p1), some (.int p2), some (.int p3), some (.ref o), none] [] G (0, 0)
  have hAo : ∀ G1 : GT, ∀ X1 s1, LF X1 s1 G1 → X1.2.2.2 = X.2.2.2 → G1.1 o = 12 ∧ G1.2.1 o = 1 := fun G1 X1 s1 h1 e1 => by
    have := (h1.2.2.2 o (by rw [show X1.2.2.2.1 = A from congrArg (fun z => z.1) (e1.trans hA)]; exact ho)).2.2
    rw [show X1.2.2.2.2 = G from congrArg (fun z => z.2) (e1.trans hA)] at this
    exact ⟨this.1.trans hTo.1, this.2.1.trans hTo.2⟩
  refine v_aload (pc := 0) dL_panel_0 rfl ?_
  refine v_iconst (pc := 2) (v := 0) dL_panel_2 (by decide) ?_
  refine v_aload_n (pc := 3) dL_panel_3 rfl rfl ?_
  refine v_iload_n (pc := 4) dL_panel_4 rfl rfl ?_
  refine v_iload_n (pc := 5) dL_panel_5 rfl rfl ?_
  refine v_iload_n (pc := 6) dL_panel_6 rfl rfl ?_
  refine v_iload (pc := 7) dL_panel_7 rfl ?_
  refine v_try (pc := 9) (As := [.int p0, .int p1, .int p2, .int p3]) (rest := [.int 0, .ref o]) hX dL_panel_9 cw_L_23 im_yX8_panel se_yX8_panel ((c_X8_panel D X s a b p0 p1 p2 p3 hn ha hsl hb hb2 hfr hxv) G hG) ((hG.1 0 0 (hG.2.2.1 0 (by decide))).1.2.1) rfl rfl rfl (Nat.le_of_ble_eq_true rfl) ⟨Nat.le_of_ble_eq_true rfl, Nat.le_of_ble_eq_true rfl⟩ ⟨by decide, by decide⟩ (fun v G1 hp => ?_) (fun E9 G1 q9 hp => ?_)
  · obtain ⟨X1, s1, hG1, hA1, h01, hv1, hr1⟩ := hp
    subst hv1
    have hT1 := hAo _ _ _ hG1 hA1
    obtain ⟨T, N, I, J, E, Rf⟩ := G1
    refine v_i2l (pc := 12) dL_panel_12 ?_
    refine v_last (pc := 13) (j := 0) dL_panel_13 hT1.1 hT1.2 rfl (by decide) (by decide) ?_
    refine v_goto (pc := 14) (tgt := 29) dL_panel_14 (by decide) ?_
    refine v_iconst (pc := 29) (v := 0) dL_panel_29 (by decide) ?_
    refine v_iret (pc := 30) hR dL_panel_30 ⟨by decide, by decide⟩ ?_
    exact WP.ok hG1 hA hA1 h01 ho (fun p hp => ⟨rfl, rfl, rfl, funext fun j => by simp [u2, hp], rfl, rfl⟩) hT1 (by decide) ⟨u2_s _ _ _ _, hr1⟩
  · obtain ⟨hG1, hp⟩ := hp
    rcases hp with ⟨rfl, hk⟩ | ⟨rfl, hk⟩ | ⟨rfl, hk⟩
    · refine ⟨[], ⟨0, 14, 17, 21⟩, [⟨0, 14, 21, 13⟩, ⟨0, 14, 25, 15⟩], xIO, rfl, (fun z hz => nomatch hz), by decide, by decide, cl_L_21, ca_xIO, ?_⟩
      refine v_astore (pc := 17) dL_panel_17 rfl (by decide) ?_
      refine v_iconst (pc := 19) (v := 1) dL_panel_19 (by decide) ?_
      refine v_iret (pc := 20) hR dL_panel_20 ⟨by decide, by decide⟩ ?_
      exact WP.err hG1 hA ho hTo (by decide) (by decide) hk
    · refine ⟨[⟨0, 14, 17, 21⟩], ⟨0, 14, 21, 13⟩, [⟨0, 14, 25, 15⟩], xIA, rfl, (List.forall_mem_cons.mpr ⟨Or.inr ⟨by decide, xIO, cl_L_21, (Or.inl ⟨rfl, rfl⟩)⟩, fun z hz => nomatch hz⟩), by decide, by decide, cl_L_13, ca_xIA, ?_⟩
      refine v_astore (pc := 21) dL_panel_21 rfl (by decide) ?_
      refine v_iconst (pc := 23) (v := 2) dL_panel_23 (by decide) ?_
      refine v_iret (pc := 24) hR dL_panel_24 ⟨by decide, by decide⟩ ?_
      exact WP.err hG1 hA ho hTo (by decide) (by decide) hk
    · refine ⟨[⟨0, 14, 17, 21⟩, ⟨0, 14, 21, 13⟩], ⟨0, 14, 25, 15⟩, [], xIS, rfl, (List.forall_mem_cons.mpr ⟨Or.inr ⟨by decide, xIO, cl_L_21, (Or.inr (Or.inl ⟨rfl, rfl⟩))⟩, List.forall_mem_cons.mpr ⟨Or.inr ⟨by decide, xIA, cl_L_13, (Or.inr (Or.inr ⟨rfl, rfl⟩))⟩, fun z hz => nomatch hz⟩⟩), by decide, by decide, cl_L_15, ca_xIS, ?_⟩
      refine v_astore (pc := 25) dL_panel_25 rfl (by decide) ?_
      refine v_iconst (pc := 27) (v := 3) dL_panel_27 (by decide) ?_
      refine v_iret (pc := 28) hR dL_panel_28 ⟨by decide, by decide⟩ ?_
      exact WP.err hG1 hA ho hTo (by decide) (by decide) hk
abbrev rw_L_strength : Room := { frames := 7, cells := 1, slots := 6, locals := 146 }
theorem wl_strength : Cond.codeWith yL_strength cL_strength 4 (Option.some Jvm.ClassFile.FieldType.int) [(0, 8, 11, 21)] ∈ lw_all := (lw_mem 376 (by decide +kernel) rfl)
set_option maxRecDepth 100000 in
set_option maxHeartbeats 400000 in
theorem c_L_strength (D : DT) (G : GT) (X : XT) (s : SG) (A : Nat → Prop) (o : Nat) (b : Nat) (p0 : Int32) (hG : LF X s G) (hA : X.2.2.2 = (A, G)) (ho : A o) (hTo : G.1 o = 12 ∧ G.2.1 o = 1) (h : PV s b) (hb : s.1 4 0 = nI b) (hb2 : b ≤ 12) (hsl : ∀ f, f < 12 → X.2.2.1 2 f = decide (f < b)) : ML yL_strength cL_strength 4 (Option.some Jvm.ClassFile.FieldType.int) [(0, 8, 11, 21)] rw_L_strength D [.ref (X.1 0 0), .int p0, .ref o] G (WP A o 12 X s G (fun G' X' s' => G'.2.2.2.1 o 0 = (strS s (nat p0)) ∧ X'.2.1 = X.2.1 ∧ X'.2.2.1 = X.2.2.1 ∧ s' = s ∧ kPl b p0 = 0) (fun k => kPl b p0 = k)) := by
  refine ML_of (by decide +kernel) (Nat.le_of_ble_eq_true rfl) (fun K sz hR hX => ?_)
  show V cL_strength _ 4 _ D K 0 [some (.ref (X.1 0 0)), some (.int p0), some (.ref o), none] [] G (0, 0)
  have hAo : ∀ G1 : GT, ∀ X1 s1, LF X1 s1 G1 → X1.2.2.2 = X.2.2.2 → G1.1 o = 12 ∧ G1.2.1 o = 1 := fun G1 X1 s1 h1 e1 => by
    have := (h1.2.2.2 o (by rw [show X1.2.2.2.1 = A from congrArg (fun z => z.1) (e1.trans hA)]; exact ho)).2.2
    rw [show X1.2.2.2.2 = G from congrArg (fun z => z.2) (e1.trans hA)] at this
    exact ⟨this.1.trans hTo.1, this.2.1.trans hTo.2⟩
  refine v_aload_n (pc := 0) dL_strength_0 rfl rfl ?_
  refine v_iconst (pc := 1) (v := 0) dL_strength_1 (by decide) ?_
  refine v_aload_n (pc := 2) dL_strength_2 rfl rfl ?_
  refine v_iload_n (pc := 3) dL_strength_3 rfl rfl ?_
  refine v_try (pc := 4) (As := [.int p0]) (rest := [.int 0, .ref o]) hX dL_strength_4 cw_L_27 im_yX8_strength se_yX8_strength ((c_X8_strength D X s b p0 h hb hb2 hsl) G hG) ((hG.1 0 0 (hG.2.2.1 0 (by decide))).1.2.1) rfl rfl rfl (Nat.le_of_ble_eq_true rfl) ⟨Nat.le_of_ble_eq_true rfl, Nat.le_of_ble_eq_true rfl⟩ ⟨by decide, by decide⟩ (fun v G1 hp => ?_) (fun E9 G1 q9 hp => ?_)
  · obtain ⟨s1, hG1, hv1, hr1⟩ := hp
    subst hv1
    have hT1 := hAo _ _ _ hG1 rfl
    obtain ⟨T, N, I, J, E, Rf⟩ := G1
    refine v_last (pc := 7) (j := 0) dL_strength_7 hT1.1 hT1.2 rfl (by decide) (by decide) ?_
    refine v_goto (pc := 8) (tgt := 14) dL_strength_8 (by decide) ?_
    refine v_iconst (pc := 14) (v := 0) dL_strength_14 (by decide) ?_
    refine v_iret (pc := 15) hR dL_strength_15 ⟨by decide, by decide⟩ ?_
    exact WP.ok hG1 hA rfl (fun c _ => rfl) ho (fun p hp => ⟨rfl, rfl, rfl, funext fun j => by simp [u2, hp], rfl, rfl⟩) hT1 (by decide) ⟨u2_s _ _ _ _, rfl, rfl, hr1⟩
  · obtain ⟨hG1, hp⟩ := hp
    rcases hp with ⟨rfl, hk⟩
    · refine ⟨[], ⟨0, 8, 11, 21⟩, [], xIO, rfl, (fun z hz => nomatch hz), by decide, by decide, cl_L_21, ca_xIO, ?_⟩
      refine v_astore_n (pc := 11) dL_strength_11 rfl rfl (by decide) ?_
      refine v_iconst (pc := 12) (v := 1) dL_strength_12 (by decide) ?_
      refine v_iret (pc := 13) hR dL_strength_13 ⟨by decide, by decide⟩ ?_
      exact WP.err hG1 hA ho hTo (by decide) (by decide) hk
abbrev rw_L_roll : Room := { frames := 7, cells := 1, slots := 6, locals := 132 }
theorem wl_roll : Cond.codeWith yL_roll cL_roll 4 (Option.some Jvm.ClassFile.FieldType.int) [(0, 9, 12, 21)] ∈ lw_all := (lw_mem 397 (by decide +kernel) rfl)
set_option maxRecDepth 100000 in
set_option maxHeartbeats 400000 in
theorem c_L_roll (D : DT) (G : GT) (X : XT) (s : SG) (A : Nat → Prop) (o : Nat) (a : Nat) (p0 : Int32) (hG : LF X s G) (hA : X.2.2.2 = (A, G)) (ho : A o) (hTo : G.1 o = 12 ∧ G.2.1 o = 1) (hn : s.1 0 0 = nI a) (ha : a ≤ 6) (hsl : ∀ f, f < 6 → X.2.2.1 1 f = decide (f < a)) : ML yL_roll cL_roll 4 (Option.some Jvm.ClassFile.FieldType.int) [(0, 9, 12, 21)] rw_L_roll D [.ref (X.1 0 0), .int p0, .ref o] G (WP A o 12 X s G (fun G' X' s' => G'.2.2.2.1 o 0 = ((s.1 39 (nat p0) + s.1 41 (nat p0))).toInt64 ∧ X'.2.1 = X.2.1 ∧ X'.2.2.1 = X.2.2.1 ∧ s' = s ∧ kRoll a p0 = 0) (fun k => kRoll a p0 = k)) := by
  refine ML_of (by decide +kernel) (Nat.le_of_ble_eq_true rfl) (fun K sz hR hX => ?_)
  show V cL_roll _ 4 _ D K 0 [some (.ref (X.1 0 0)), some (.int p0), some (.ref o), none] [] G (0, 0)
  have hAo : ∀ G1 : GT, ∀ X1 s1, LF X1 s1 G1 → X1.2.2.2 = X.2.2.2 → G1.1 o = 12 ∧ G1.2.1 o = 1 := fun G1 X1 s1 h1 e1 => by
    have := (h1.2.2.2 o (by rw [show X1.2.2.2.1 = A from congrArg (fun z => z.1) (e1.trans hA)]; exact ho)).2.2
    rw [show X1.2.2.2.2 = G from congrArg (fun z => z.2) (e1.trans hA)] at this
    exact ⟨this.1.trans hTo.1, this.2.1.trans hTo.2⟩
  refine v_aload_n (pc := 0) dL_roll_0 rfl rfl ?_
  refine v_iconst (pc := 1) (v := 0) dL_roll_1 (by decide) ?_
  refine v_aload_n (pc := 2) dL_roll_2 rfl rfl ?_
  refine v_iload_n (pc := 3) dL_roll_3 rfl rfl ?_
  refine v_try (pc := 4) (As := [.int p0]) (rest := [.int 0, .ref o]) hX dL_roll_4 cw_L_31 im_yX8_roll se_yX8_roll ((c_X8_roll D X s a p0 hn ha hsl) G hG) ((hG.1 0 0 (hG.2.2.1 0 (by decide))).1.2.1) rfl rfl rfl (Nat.le_of_ble_eq_true rfl) ⟨Nat.le_of_ble_eq_true rfl, Nat.le_of_ble_eq_true rfl⟩ ⟨by decide, by decide⟩ (fun v G1 hp => ?_) (fun E9 G1 q9 hp => ?_)
  · obtain ⟨s1, hG1, hv1, hr1⟩ := hp
    subst hv1
    have hT1 := hAo _ _ _ hG1 rfl
    obtain ⟨T, N, I, J, E, Rf⟩ := G1
    refine v_i2l (pc := 7) dL_roll_7 ?_
    refine v_last (pc := 8) (j := 0) dL_roll_8 hT1.1 hT1.2 rfl (by decide) (by decide) ?_
    refine v_goto (pc := 9) (tgt := 15) dL_roll_9 (by decide) ?_
    refine v_iconst (pc := 15) (v := 0) dL_roll_15 (by decide) ?_
    refine v_iret (pc := 16) hR dL_roll_16 ⟨by decide, by decide⟩ ?_
    exact WP.ok hG1 hA rfl (fun c _ => rfl) ho (fun p hp => ⟨rfl, rfl, rfl, funext fun j => by simp [u2, hp], rfl, rfl⟩) hT1 (by decide) ⟨u2_s _ _ _ _, rfl, rfl, hr1⟩
  · obtain ⟨hG1, hp⟩ := hp
    rcases hp with ⟨rfl, hk⟩
    · refine ⟨[], ⟨0, 9, 12, 21⟩, [], xIO, rfl, (fun z hz => nomatch hz), by decide, by decide, cl_L_21, ca_xIO, ?_⟩
      refine v_astore_n (pc := 12) dL_roll_12 rfl rfl (by decide) ?_
      refine v_iconst (pc := 13) (v := 1) dL_roll_13 (by decide) ?_
      refine v_iret (pc := 14) hR dL_roll_14 ⟨by decide, by decide⟩ ?_
      exact WP.err hG1 hA ho hTo (by decide) (by decide) hk
abbrev rw_L_seam : Room := { frames := 7, cells := 1, slots := 6, locals := 135 }
theorem wl_seam : Cond.codeWith yL_seam cL_seam 6 (Option.some Jvm.ClassFile.FieldType.int) [(0, 12, 15, 21), (0, 12, 19, 13), (0, 12, 23, 15)] ∈ lw_all := (lw_mem 408 (by decide +kernel) rfl)
set_option maxRecDepth 100000 in
set_option maxHeartbeats 400000 in
theorem c_L_seam (D : DT) (G : GT) (X : XT) (s : SG) (A : Nat → Prop) (o : Nat) (np c : Nat) (p0 : Int32) (p1 : Int32) (p2 : Int32) (hG : LF X s G) (hA : X.2.2.2 = (A, G)) (ho : A o) (hTo : G.1 o = 12 ∧ G.2.1 o = 1) (hb : s.1 4 0 = nI np) (hnp : np ≤ 12) (hsl2 : ∀ f, f < 12 → X.2.2.1 2 f = decide (f < np)) (hc : s.1 9 0 = nI c) (hc2 : c ≤ 30) (hfr : X.2.1 15 c = false) (hxv : XV X) : ML yL_seam cL_seam 6 (Option.some Jvm.ClassFile.FieldType.int) [(0, 12, 15, 21), (0, 12, 19, 13), (0, 12, 23, 15)] rw_L_seam D [.ref (X.1 0 0), .int p0, .int p1, .int p2, .ref o] G (WP A o 12 X s G (fun G' X' s' => G'.2.2.2.1 o 0 = ((nI c)).toInt64 ∧ s' = gSeam s c p0 p1 p2 ∧ X'.2.1 = u2 X.2.1 15 c true ∧ X'.2.2.1 = u2 X.2.2.1 3 c true ∧ kSeam np c p0 p1 p2 = 0) (fun k => kSeam np c p0 p1 p2 = k)) := by
  refine ML_of (by decide +kernel) (Nat.le_of_ble_eq_true rfl) (fun K sz hR hX => ?_)
  show V cL_seam _ 6 _ D K 0 [some (.ref (X.1 0 0)), some (.int p0), some (.int p1), some (.int p2), some (.ref o), none] [] G (0, 0)
  have hAo : ∀ G1 : GT, ∀ X1 s1, LF X1 s1 G1 → X1.2.2.2 = X.2.2.2 → G1.1 o = 12 ∧ G1.2.1 o = 1 := fun G1 X1 s1 h1 e1 => by
    have := (h1.2.2.2 o (by rw [show X1.2.2.2.1 = A from congrArg (fun z => z.1) (e1.trans hA)]; exact ho)).2.2
    rw [show X1.2.2.2.2 = G from congrArg (fun z => z.2) (e1.trans hA)] at this
    exact ⟨this.1.trans hTo.1, this.2.1.trans hTo.2⟩
  refine v_aload (pc := 0) dL_seam_0 rfl ?_
  refine v_iconst (pc := 2) (v := 0) dL_seam_2 (by decide) ?_
  refine v_aload_n (pc := 3) dL_seam_3 rfl rfl ?_
  refine v_iload_n (pc := 4) dL_seam_4 rfl rfl ?_
  refine v_iload_n (pc := 5) dL_seam_5 rfl rfl ?_
  refine v_iload_n (pc := 6) dL_seam_6 rfl rfl ?_
  refine v_try (pc := 7) (As := [.int p0, .int p1, .int p2]) (rest := [.int 0, .ref o]) hX dL_seam_7 cw_L_35 im_yX8_seam se_yX8_seam ((c_X8_seam D X s np c p0 p1 p2 hb hnp hsl2 hc hc2 hfr hxv) G hG) ((hG.1 0 0 (hG.2.2.1 0 (by decide))).1.2.1) rfl rfl rfl (Nat.le_of_ble_eq_true rfl) ⟨Nat.le_of_ble_eq_true rfl, Nat.le_of_ble_eq_true rfl⟩ ⟨by decide, by decide⟩ (fun v G1 hp => ?_) (fun E9 G1 q9 hp => ?_)
  · obtain ⟨X1, s1, hG1, hA1, h01, hv1, hr1⟩ := hp
    subst hv1
    have hT1 := hAo _ _ _ hG1 hA1
    obtain ⟨T, N, I, J, E, Rf⟩ := G1
    refine v_i2l (pc := 10) dL_seam_10 ?_
    refine v_last (pc := 11) (j := 0) dL_seam_11 hT1.1 hT1.2 rfl (by decide) (by decide) ?_
    refine v_goto (pc := 12) (tgt := 27) dL_seam_12 (by decide) ?_
    refine v_iconst (pc := 27) (v := 0) dL_seam_27 (by decide) ?_
    refine v_iret (pc := 28) hR dL_seam_28 ⟨by decide, by decide⟩ ?_
    exact WP.ok hG1 hA hA1 h01 ho (fun p hp => ⟨rfl, rfl, rfl, funext fun j => by simp [u2, hp], rfl, rfl⟩) hT1 (by decide) ⟨u2_s _ _ _ _, hr1⟩
  · obtain ⟨hG1, hp⟩ := hp
    rcases hp with ⟨rfl, hk⟩ | ⟨rfl, hk⟩ | ⟨rfl, hk⟩
    · refine ⟨[], ⟨0, 12, 15, 21⟩, [⟨0, 12, 19, 13⟩, ⟨0, 12, 23, 15⟩], xIO, rfl, (fun z hz => nomatch hz), by decide, by decide, cl_L_21, ca_xIO, ?_⟩
      refine v_astore (pc := 15) dL_seam_15 rfl (by decide) ?_
      refine v_iconst (pc := 17) (v := 1) dL_seam_17 (by decide) ?_
      refine v_iret (pc := 18) hR dL_seam_18 ⟨by decide, by decide⟩ ?_
      exact WP.err hG1 hA ho hTo (by decide) (by decide) hk
    · refine ⟨[⟨0, 12, 15, 21⟩], ⟨0, 12, 19, 13⟩, [⟨0, 12, 23, 15⟩], xIA, rfl, (List.forall_mem_cons.mpr ⟨Or.inr ⟨by decide, xIO, cl_L_21, (Or.inl ⟨rfl, rfl⟩)⟩, fun z hz => nomatch hz⟩), by decide, by decide, cl_L_13, ca_xIA, ?_⟩
      refine v_astore (pc := 19) dL_seam_19 rfl (by decide) ?_
      refine v_iconst (pc := 21) (v := 2) dL_seam_21 (by decide) ?_
      refine v_iret (pc := 22) hR dL_seam_22 ⟨by decide, by decide⟩ ?_
      exact WP.err hG1 hA ho hTo (by decide) (by decide) hk
    · refine ⟨[⟨0, 12, 15, 21⟩, ⟨0, 12, 19, 13⟩], ⟨0, 12, 23, 15⟩, [], xIS, rfl, (List.forall_mem_cons.mpr ⟨Or.inr ⟨by decide, xIO, cl_L_21, (Or.inr (Or.inl ⟨rfl, rfl⟩))⟩, List.forall_mem_cons.mpr ⟨Or.inr ⟨by decide, xIA, cl_L_13, (Or.inr (Or.inr ⟨rfl, rfl⟩))⟩, fun z hz => nomatch hz⟩⟩), by decide, by decide, cl_L_15, ca_xIS, ?_⟩
      refine v_astore (pc := 23) dL_seam_23 rfl (by decide) ?_
      refine v_iconst (pc := 25) (v := 3) dL_seam_25 (by decide) ?_
      refine v_iret (pc := 26) hR dL_seam_26 ⟨by decide, by decide⟩ ?_
      exact WP.err hG1 hA ho hTo (by decide) (by decide) hk
abbrev rw_L_rip : Room := { frames := 7, cells := 1, slots := 6, locals := 166 }
theorem wl_rip : Cond.codeWith yL_rip cL_rip 4 (Option.some Jvm.ClassFile.FieldType.int) [(0, 8, 11, 21)] ∈ lw_all := (lw_mem 434 (by decide +kernel) rfl)
set_option maxRecDepth 100000 in
set_option maxHeartbeats 400000 in
theorem c_L_rip (D : DT) (G : GT) (X : XT) (s : SG) (A : Nat → Prop) (o : Nat) (np c : Nat) (p0 : Int32) (hG : LF X s G) (hA : X.2.2.2 = (A, G)) (ho : A o) (hTo : G.1 o = 12 ∧ G.2.1 o = 1) (h : PV s np) (h2 : SV s np c) (hnp : np ≤ 12) (hc : s.1 9 0 = nI c) (hc2 : c ≤ 30) (hsl3 : ∀ f, f < 30 → X.2.2.1 3 f = decide (f < c ∧ s.1 13 f = 0)) (hxv : XV X) : ML yL_rip cL_rip 4 (Option.some Jvm.ClassFile.FieldType.int) [(0, 8, 11, 21)] rw_L_rip D [.ref (X.1 0 0), .int p0, .ref o] G (WP A o 12 X s G (fun G' X' s' => G'.2.2.2.1 o 0 = (seamS s (nat p0)) ∧ s' = sI s 13 (nat p0) 1 ∧ X'.2.1 = X.2.1 ∧ X'.2.2.1 = u2 X.2.2.1 3 (nat p0) false ∧ kRip s c p0 = 0) (fun k => kRip s c p0 = k)) := by
  refine ML_of (by decide +kernel) (Nat.le_of_ble_eq_true rfl) (fun K sz hR hX => ?_)
  show V cL_rip _ 4 _ D K 0 [some (.ref (X.1 0 0)), some (.int p0), some (.ref o), none] [] G (0, 0)
  have hAo : ∀ G1 : GT, ∀ X1 s1, LF X1 s1 G1 → X1.2.2.2 = X.2.2.2 → G1.1 o = 12 ∧ G1.2.1 o = 1 := fun G1 X1 s1 h1 e1 => by
    have := (h1.2.2.2 o (by rw [show X1.2.2.2.1 = A from congrArg (fun z => z.1) (e1.trans hA)]; exact ho)).2.2
    rw [show X1.2.2.2.2 = G from congrArg (fun z => z.2) (e1.trans hA)] at this
    exact ⟨this.1.trans hTo.1, this.2.1.trans hTo.2⟩
  refine v_aload_n (pc := 0) dL_rip_0 rfl rfl ?_
  refine v_iconst (pc := 1) (v := 0) dL_rip_1 (by decide) ?_
  refine v_aload_n (pc := 2) dL_rip_2 rfl rfl ?_
  refine v_iload_n (pc := 3) dL_rip_3 rfl rfl ?_
  refine v_try (pc := 4) (As := [.int p0]) (rest := [.int 0, .ref o]) hX dL_rip_4 cw_L_38 im_yX8_rip se_yX8_rip ((c_X8_rip D X s np c p0 h h2 hnp hc hc2 hsl3 hxv) G hG) ((hG.1 0 0 (hG.2.2.1 0 (by decide))).1.2.1) rfl rfl rfl (Nat.le_of_ble_eq_true rfl) ⟨Nat.le_of_ble_eq_true rfl, Nat.le_of_ble_eq_true rfl⟩ ⟨by decide, by decide⟩ (fun v G1 hp => ?_) (fun E9 G1 q9 hp => ?_)
  · obtain ⟨X1, s1, hG1, hA1, h01, hv1, hr1⟩ := hp
    subst hv1
    have hT1 := hAo _ _ _ hG1 hA1
    obtain ⟨T, N, I, J, E, Rf⟩ := G1
    refine v_last (pc := 7) (j := 0) dL_rip_7 hT1.1 hT1.2 rfl (by decide) (by decide) ?_
    refine v_goto (pc := 8) (tgt := 14) dL_rip_8 (by decide) ?_
    refine v_iconst (pc := 14) (v := 0) dL_rip_14 (by decide) ?_
    refine v_iret (pc := 15) hR dL_rip_15 ⟨by decide, by decide⟩ ?_
    exact WP.ok hG1 hA hA1 h01 ho (fun p hp => ⟨rfl, rfl, rfl, funext fun j => by simp [u2, hp], rfl, rfl⟩) hT1 (by decide) ⟨u2_s _ _ _ _, hr1⟩
  · obtain ⟨hG1, hp⟩ := hp
    rcases hp with ⟨rfl, hk⟩
    · refine ⟨[], ⟨0, 8, 11, 21⟩, [], xIO, rfl, (fun z hz => nomatch hz), by decide, by decide, cl_L_21, ca_xIO, ?_⟩
      refine v_astore_n (pc := 11) dL_rip_11 rfl rfl (by decide) ?_
      refine v_iconst (pc := 12) (v := 1) dL_rip_12 (by decide) ?_
      refine v_iret (pc := 13) hR dL_rip_13 ⟨by decide, by decide⟩ ?_
      exact WP.err hG1 hA ho hTo (by decide) (by decide) hk
abbrev rw_L_bears : Room := { frames := 9, cells := 1, slots := 6, locals := 216 }
theorem wl_bears : Cond.codeWith yL_bears cL_bears 5 (Option.some Jvm.ClassFile.FieldType.int) [(0, 9, 12, 21)] ∈ lw_all := (lw_mem 451 (by decide +kernel) rfl)
set_option maxRecDepth 100000 in
set_option maxHeartbeats 400000 in
theorem c_L_bears (D : DT) (G : GT) (X : XT) (s : SG) (A : Nat → Prop) (o : Nat) (np ns : Nat) (p0 : Int32) (p1 : Int32) (hG : LF X s G) (hA : X.2.2.2 = (A, G)) (ho : A o) (hTo : G.1 o = 12 ∧ G.2.1 o = 1) (h : PV s np) (h2 : SV s np ns) (hnp : np ≤ 12) (hns : ns ≤ 30) (hcap : capOK s ns) (hb : s.1 4 0 = nI np) (hsl2 : ∀ f, f < 12 → X.2.2.1 2 f = decide (f < np)) (hsl3 : ∀ f, f < 30 → X.2.2.1 3 f = decide (f < ns ∧ s.1 13 f = 0)) : ML yL_bears cL_bears 5 (Option.some Jvm.ClassFile.FieldType.int) [(0, 9, 12, 21)] rw_L_bears D [.ref (X.1 0 0), .int p0, .int p1, .ref o] G (WP A o 12 X s G (fun G' X' s' => G'.2.2.2.1 o 0 = (finL s np ns (nat p0) (nat p1)) ∧ X'.2.1 = X.2.1 ∧ X'.2.2.1 = X.2.2.1 ∧ (∃ L, s' = sK s L) ∧ kBe np p0 p1 = 0) (fun k => kBe np p0 p1 = k)) := by
  refine ML_of (by decide +kernel) (Nat.le_of_ble_eq_true rfl) (fun K sz hR hX => ?_)
  show V cL_bears _ 5 _ D K 0 [some (.ref (X.1 0 0)), some (.int p0), some (.int p1), some (.ref o), none] [] G (0, 0)
  have hAo : ∀ G1 : GT, ∀ X1 s1, LF X1 s1 G1 → X1.2.2.2 = X.2.2.2 → G1.1 o = 12 ∧ G1.2.1 o = 1 := fun G1 X1 s1 h1 e1 => by
    have := (h1.2.2.2 o (by rw [show X1.2.2.2.1 = A from congrArg (fun z => z.1) (e1.trans hA)]; exact ho)).2.2
    rw [show X1.2.2.2.2 = G from congrArg (fun z => z.2) (e1.trans hA)] at this
    exact ⟨this.1.trans hTo.1, this.2.1.trans hTo.2⟩
  refine v_aload_n (pc := 0) dL_bears_0 rfl rfl ?_
  refine v_iconst (pc := 1) (v := 0) dL_bears_1 (by decide) ?_
  refine v_aload_n (pc := 2) dL_bears_2 rfl rfl ?_
  refine v_iload_n (pc := 3) dL_bears_3 rfl rfl ?_
  refine v_iload_n (pc := 4) dL_bears_4 rfl rfl ?_
  refine v_try (pc := 5) (As := [.int p0, .int p1]) (rest := [.int 0, .ref o]) hX dL_bears_5 cw_L_41 im_yX8_bears se_yX8_bears ((c_X8_bears D X s np ns p0 p1 h h2 hnp hns hcap hb hsl2 hsl3) G hG) ((hG.1 0 0 (hG.2.2.1 0 (by decide))).1.2.1) rfl rfl rfl (Nat.le_of_ble_eq_true rfl) ⟨Nat.le_of_ble_eq_true rfl, Nat.le_of_ble_eq_true rfl⟩ ⟨by decide, by decide⟩ (fun v G1 hp => ?_) (fun E9 G1 q9 hp => ?_)
  · obtain ⟨s1, hG1, hv1, hr1⟩ := hp
    subst hv1
    have hT1 := hAo _ _ _ hG1 rfl
    obtain ⟨T, N, I, J, E, Rf⟩ := G1
    refine v_last (pc := 8) (j := 0) dL_bears_8 hT1.1 hT1.2 rfl (by decide) (by decide) ?_
    refine v_goto (pc := 9) (tgt := 16) dL_bears_9 (by decide) ?_
    refine v_iconst (pc := 16) (v := 0) dL_bears_16 (by decide) ?_
    refine v_iret (pc := 17) hR dL_bears_17 ⟨by decide, by decide⟩ ?_
    exact WP.ok hG1 hA rfl (fun c _ => rfl) ho (fun p hp => ⟨rfl, rfl, rfl, funext fun j => by simp [u2, hp], rfl, rfl⟩) hT1 (by decide) ⟨u2_s _ _ _ _, rfl, rfl, hr1⟩
  · obtain ⟨hG1, hp⟩ := hp
    rcases hp with ⟨rfl, hk⟩
    · refine ⟨[], ⟨0, 9, 12, 21⟩, [], xIO, rfl, (fun z hz => nomatch hz), by decide, by decide, cl_L_21, ca_xIO, ?_⟩
      refine v_astore (pc := 12) dL_bears_12 rfl (by decide) ?_
      refine v_iconst (pc := 14) (v := 1) dL_bears_14 (by decide) ?_
      refine v_iret (pc := 15) hR dL_bears_15 ⟨by decide, by decide⟩ ?_
      exact WP.err hG1 hA ho hTo (by decide) (by decide) hk
abbrev rw_L_bearsAnew : Room := { frames := 9, cells := 1, slots := 6, locals := 217 }
theorem wl_bearsAnew : Cond.codeWith yL_bearsAnew cL_bearsAnew 5 (Option.some Jvm.ClassFile.FieldType.int) [(0, 9, 12, 21)] ∈ lw_all := (lw_mem 470 (by decide +kernel) rfl)
set_option maxRecDepth 100000 in
set_option maxHeartbeats 400000 in
theorem c_L_bearsAnew (D : DT) (G : GT) (X : XT) (s : SG) (A : Nat → Prop) (o : Nat) (np ns : Nat) (p0 : Int32) (p1 : Int32) (hG : LF X s G) (hA : X.2.2.2 = (A, G)) (ho : A o) (hTo : G.1 o = 12 ∧ G.2.1 o = 1) (h : PV s np) (hG9 : GOK s np ns) (hb : s.1 4 0 = nI np) (hnp : np ≤ 12) (hsl2 : ∀ f, f < 12 → X.2.2.1 2 f = decide (f < np)) (hsl3 : ∀ f, f < 30 → X.2.2.1 3 f = decide (f < ns ∧ s.1 13 f = 0)) : ML yL_bearsAnew cL_bearsAnew 5 (Option.some Jvm.ClassFile.FieldType.int) [(0, 9, 12, 21)] rw_L_bearsAnew D [.ref (X.1 0 0), .int p0, .int p1, .ref o] G (WP A o 12 X s G (fun G' X' s' => G'.2.2.2.1 o 0 = (finL s np ns (nat p0) (nat p1)) ∧ X'.2.1 = X.2.1 ∧ X'.2.2.1 = X.2.2.1 ∧ (∃ g, s' = sG s g) ∧ kBe np p0 p1 = 0) (fun k => kBe np p0 p1 = k)) := by
  refine ML_of (by decide +kernel) (Nat.le_of_ble_eq_true rfl) (fun K sz hR hX => ?_)
  show V cL_bearsAnew _ 5 _ D K 0 [some (.ref (X.1 0 0)), some (.int p0), some (.int p1), some (.ref o), none] [] G (0, 0)
  have hAo : ∀ G1 : GT, ∀ X1 s1, LF X1 s1 G1 → X1.2.2.2 = X.2.2.2 → G1.1 o = 12 ∧ G1.2.1 o = 1 := fun G1 X1 s1 h1 e1 => by
    have := (h1.2.2.2 o (by rw [show X1.2.2.2.1 = A from congrArg (fun z => z.1) (e1.trans hA)]; exact ho)).2.2
    rw [show X1.2.2.2.2 = G from congrArg (fun z => z.2) (e1.trans hA)] at this
    exact ⟨this.1.trans hTo.1, this.2.1.trans hTo.2⟩
  refine v_aload_n (pc := 0) dL_bearsAnew_0 rfl rfl ?_
  refine v_iconst (pc := 1) (v := 0) dL_bearsAnew_1 (by decide) ?_
  refine v_aload_n (pc := 2) dL_bearsAnew_2 rfl rfl ?_
  refine v_iload_n (pc := 3) dL_bearsAnew_3 rfl rfl ?_
  refine v_iload_n (pc := 4) dL_bearsAnew_4 rfl rfl ?_
  refine v_try (pc := 5) (As := [.int p0, .int p1]) (rest := [.int 0, .ref o]) hX dL_bearsAnew_5 cw_L_45 im_yX8_bearsAnew se_yX8_bearsAnew ((c_X8_bearsAnew D X s np ns p0 p1 h hG9 hb hnp hsl2 hsl3) G hG) ((hG.1 0 0 (hG.2.2.1 0 (by decide))).1.2.1) rfl rfl rfl (Nat.le_of_ble_eq_true rfl) ⟨Nat.le_of_ble_eq_true rfl, Nat.le_of_ble_eq_true rfl⟩ ⟨by decide, by decide⟩ (fun v G1 hp => ?_) (fun E9 G1 q9 hp => ?_)
  · obtain ⟨s1, hG1, hv1, hr1⟩ := hp
    subst hv1
    have hT1 := hAo _ _ _ hG1 rfl
    obtain ⟨T, N, I, J, E, Rf⟩ := G1
    refine v_last (pc := 8) (j := 0) dL_bearsAnew_8 hT1.1 hT1.2 rfl (by decide) (by decide) ?_
    refine v_goto (pc := 9) (tgt := 16) dL_bearsAnew_9 (by decide) ?_
    refine v_iconst (pc := 16) (v := 0) dL_bearsAnew_16 (by decide) ?_
    refine v_iret (pc := 17) hR dL_bearsAnew_17 ⟨by decide, by decide⟩ ?_
    exact WP.ok hG1 hA rfl (fun c _ => rfl) ho (fun p hp => ⟨rfl, rfl, rfl, funext fun j => by simp [u2, hp], rfl, rfl⟩) hT1 (by decide) ⟨u2_s _ _ _ _, rfl, rfl, hr1⟩
  · obtain ⟨hG1, hp⟩ := hp
    rcases hp with ⟨rfl, hk⟩
    · refine ⟨[], ⟨0, 9, 12, 21⟩, [], xIO, rfl, (fun z hz => nomatch hz), by decide, by decide, cl_L_21, ca_xIO, ?_⟩
      refine v_astore (pc := 12) dL_bearsAnew_12 rfl (by decide) ?_
      refine v_iconst (pc := 14) (v := 1) dL_bearsAnew_14 (by decide) ?_
      refine v_iret (pc := 15) hR dL_bearsAnew_15 ⟨by decide, by decide⟩ ?_
      exact WP.err hG1 hA ho hTo (by decide) (by decide) hk
abbrev rw_L_knot : Room := { frames := 7, cells := 1, slots := 6, locals := 134 }
theorem wl_knot : Cond.codeWith yL_knot cL_knot 6 (Option.some Jvm.ClassFile.FieldType.int) [(0, 12, 15, 21), (0, 12, 19, 13)] ∈ lw_all := (lw_mem 489 (by decide +kernel) rfl)
set_option maxRecDepth 100000 in
set_option maxHeartbeats 400000 in
theorem c_L_knot (D : DT) (G : GT) (X : XT) (s : SG) (A : Nat → Prop) (o : Nat)  (p0 : Int32) (p1 : Int32) (p2 : Int32) (hG : LF X s G) (hA : X.2.2.2 = (A, G)) (ho : A o) (hTo : G.1 o = 12 ∧ G.2.1 o = 1) (hz : p2 = 0 ∨ p2 = 1) : ML yL_knot cL_knot 6 (Option.some Jvm.ClassFile.FieldType.int) [(0, 12, 15, 21), (0, 12, 19, 13)] rw_L_knot D [.ref (X.1 0 0), .int p0, .int p1, .int p2, .ref o] G (WP A o 12 X s G (fun G' X' s' => G'.2.2.2.1 o 0 = ((s.1 15 (nat p0))).toInt64 ∧ X'.2.1 = X.2.1 ∧ X'.2.2.1 = X.2.2.1 ∧ s' = gKnot s (nat p0) p1 p2 ∧ kKnot p0 p1 = 0) (fun k => kKnot p0 p1 = k)) := by
  refine ML_of (by decide +kernel) (Nat.le_of_ble_eq_true rfl) (fun K sz hR hX => ?_)
  show V cL_knot _ 6 _ D K 0 [some (.ref (X.1 0 0)), some (.int p0), some (.int p1), some (.int p2), some (.ref o), none] [] G (0, 0)
  have hAo : ∀ G1 : GT, ∀ X1 s1, LF X1 s1 G1 → X1.2.2.2 = X.2.2.2 → G1.1 o = 12 ∧ G1.2.1 o = 1 := fun G1 X1 s1 h1 e1 => by
    have := (h1.2.2.2 o (by rw [show X1.2.2.2.1 = A from congrArg (fun z => z.1) (e1.trans hA)]; exact ho)).2.2
    rw [show X1.2.2.2.2 = G from congrArg (fun z => z.2) (e1.trans hA)] at this
    exact ⟨this.1.trans hTo.1, this.2.1.trans hTo.2⟩
  refine v_aload (pc := 0) dL_knot_0 rfl ?_
  refine v_iconst (pc := 2) (v := 0) dL_knot_2 (by decide) ?_
  refine v_aload_n (pc := 3) dL_knot_3 rfl rfl ?_
  refine v_iload_n (pc := 4) dL_knot_4 rfl rfl ?_
  refine v_iload_n (pc := 5) dL_knot_5 rfl rfl ?_
  refine v_iload_n (pc := 6) dL_knot_6 rfl rfl ?_
  refine v_try (pc := 7) (As := [.int p0, .int p1, .int p2]) (rest := [.int 0, .ref o]) hX dL_knot_7 cw_L_48 im_yX8_knot se_yX8_knot ((c_X8_knot D X s p0 p1 p2 hz) G hG) ((hG.1 0 0 (hG.2.2.1 0 (by decide))).1.2.1) rfl rfl rfl (Nat.le_of_ble_eq_true rfl) ⟨Nat.le_of_ble_eq_true rfl, Nat.le_of_ble_eq_true rfl⟩ ⟨by decide, by decide⟩ (fun v G1 hp => ?_) (fun E9 G1 q9 hp => ?_)
  · obtain ⟨s1, hG1, hv1, hr1⟩ := hp
    subst hv1
    have hT1 := hAo _ _ _ hG1 rfl
    obtain ⟨T, N, I, J, E, Rf⟩ := G1
    refine v_i2l (pc := 10) dL_knot_10 ?_
    refine v_last (pc := 11) (j := 0) dL_knot_11 hT1.1 hT1.2 rfl (by decide) (by decide) ?_
    refine v_goto (pc := 12) (tgt := 23) dL_knot_12 (by decide) ?_
    refine v_iconst (pc := 23) (v := 0) dL_knot_23 (by decide) ?_
    refine v_iret (pc := 24) hR dL_knot_24 ⟨by decide, by decide⟩ ?_
    exact WP.ok hG1 hA rfl (fun c _ => rfl) ho (fun p hp => ⟨rfl, rfl, rfl, funext fun j => by simp [u2, hp], rfl, rfl⟩) hT1 (by decide) ⟨u2_s _ _ _ _, rfl, rfl, hr1⟩
  · obtain ⟨hG1, hp⟩ := hp
    rcases hp with ⟨rfl, hk⟩ | ⟨rfl, hk⟩
    · refine ⟨[], ⟨0, 12, 15, 21⟩, [⟨0, 12, 19, 13⟩], xIO, rfl, (fun z hz => nomatch hz), by decide, by decide, cl_L_21, ca_xIO, ?_⟩
      refine v_astore (pc := 15) dL_knot_15 rfl (by decide) ?_
      refine v_iconst (pc := 17) (v := 1) dL_knot_17 (by decide) ?_
      refine v_iret (pc := 18) hR dL_knot_18 ⟨by decide, by decide⟩ ?_
      exact WP.err hG1 hA ho hTo (by decide) (by decide) hk
    · refine ⟨[⟨0, 12, 15, 21⟩], ⟨0, 12, 19, 13⟩, [], xIA, rfl, (List.forall_mem_cons.mpr ⟨Or.inr ⟨by decide, xIO, cl_L_21, (Or.inl ⟨rfl, rfl⟩)⟩, fun z hz => nomatch hz⟩), by decide, by decide, cl_L_13, ca_xIA, ?_⟩
      refine v_astore (pc := 19) dL_knot_19 rfl (by decide) ?_
      refine v_iconst (pc := 21) (v := 2) dL_knot_21 (by decide) ?_
      refine v_iret (pc := 22) hR dL_knot_22 ⟨by decide, by decide⟩ ?_
      exact WP.err hG1 hA ho hTo (by decide) (by decide) hk
abbrev rw_L_load : Room := { frames := 7, cells := 1, slots := 6, locals := 132 }
theorem wl_load : Cond.codeWith yL_load cL_load 4 (Option.some Jvm.ClassFile.FieldType.int) [(0, 9, 12, 13)] ∈ lw_all := (lw_mem 500 (by decide +kernel) rfl)
set_option maxRecDepth 100000 in
set_option maxHeartbeats 400000 in
theorem c_L_load (D : DT) (G : GT) (X : XT) (s : SG) (A : Nat → Prop) (o : Nat)  (p0 : Int32) (hG : LF X s G) (hA : X.2.2.2 = (A, G)) (ho : A o) (hTo : G.1 o = 12 ∧ G.2.1 o = 1)  : ML yL_load cL_load 4 (Option.some Jvm.ClassFile.FieldType.int) [(0, 9, 12, 13)] rw_L_load D [.ref (X.1 0 0), .int p0, .ref o] G (WP A o 12 X s G (fun G' X' s' => G'.2.2.2.1 o 0 = ((s.1 18 0)).toInt64 ∧ X'.2.1 = X.2.1 ∧ X'.2.2.1 = X.2.2.1 ∧ s' = sI s 18 0 p0 ∧ kLoad p0 = 0) (fun k => kLoad p0 = k)) := by
  refine ML_of (by decide +kernel) (Nat.le_of_ble_eq_true rfl) (fun K sz hR hX => ?_)
  show V cL_load _ 4 _ D K 0 [some (.ref (X.1 0 0)), some (.int p0), some (.ref o), none] [] G (0, 0)
  have hAo : ∀ G1 : GT, ∀ X1 s1, LF X1 s1 G1 → X1.2.2.2 = X.2.2.2 → G1.1 o = 12 ∧ G1.2.1 o = 1 := fun G1 X1 s1 h1 e1 => by
    have := (h1.2.2.2 o (by rw [show X1.2.2.2.1 = A from congrArg (fun z => z.1) (e1.trans hA)]; exact ho)).2.2
    rw [show X1.2.2.2.2 = G from congrArg (fun z => z.2) (e1.trans hA)] at this
    exact ⟨this.1.trans hTo.1, this.2.1.trans hTo.2⟩
  refine v_aload_n (pc := 0) dL_load_0 rfl rfl ?_
  refine v_iconst (pc := 1) (v := 0) dL_load_1 (by decide) ?_
  refine v_aload_n (pc := 2) dL_load_2 rfl rfl ?_
  refine v_iload_n (pc := 3) dL_load_3 rfl rfl ?_
  refine v_try (pc := 4) (As := [.int p0]) (rest := [.int 0, .ref o]) hX dL_load_4 cw_L_52 im_yX8_load se_yX8_load ((c_X8_load D X s p0) G hG) ((hG.1 0 0 (hG.2.2.1 0 (by decide))).1.2.1) rfl rfl rfl (Nat.le_of_ble_eq_true rfl) ⟨Nat.le_of_ble_eq_true rfl, Nat.le_of_ble_eq_true rfl⟩ ⟨by decide, by decide⟩ (fun v G1 hp => ?_) (fun E9 G1 q9 hp => ?_)
  · obtain ⟨s1, hG1, hv1, hr1⟩ := hp
    subst hv1
    have hT1 := hAo _ _ _ hG1 rfl
    obtain ⟨T, N, I, J, E, Rf⟩ := G1
    refine v_i2l (pc := 7) dL_load_7 ?_
    refine v_last (pc := 8) (j := 0) dL_load_8 hT1.1 hT1.2 rfl (by decide) (by decide) ?_
    refine v_goto (pc := 9) (tgt := 15) dL_load_9 (by decide) ?_
    refine v_iconst (pc := 15) (v := 0) dL_load_15 (by decide) ?_
    refine v_iret (pc := 16) hR dL_load_16 ⟨by decide, by decide⟩ ?_
    exact WP.ok hG1 hA rfl (fun c _ => rfl) ho (fun p hp => ⟨rfl, rfl, rfl, funext fun j => by simp [u2, hp], rfl, rfl⟩) hT1 (by decide) ⟨u2_s _ _ _ _, rfl, rfl, hr1⟩
  · obtain ⟨hG1, hp⟩ := hp
    rcases hp with ⟨rfl, hk⟩
    · refine ⟨[], ⟨0, 9, 12, 13⟩, [], xIA, rfl, (fun z hz => nomatch hz), by decide, by decide, cl_L_13, ca_xIA, ?_⟩
      refine v_astore_n (pc := 12) dL_load_12 rfl rfl (by decide) ?_
      refine v_iconst (pc := 13) (v := 1) dL_load_13 (by decide) ?_
      refine v_iret (pc := 14) hR dL_load_14 ⟨by decide, by decide⟩ ?_
      exact WP.err hG1 hA ho hTo (by decide) (by decide) hk
abbrev rw_L_rest : Room := { frames := 7, cells := 1, slots := 6, locals := 159 }
theorem wl_rest : Cond.codeWith yL_rest cL_rest 4 (Option.some Jvm.ClassFile.FieldType.int) [(0, 9, 12, 13)] ∈ lw_all := (lw_mem 509 (by decide +kernel) rfl)
set_option maxRecDepth 100000 in
set_option maxHeartbeats 400000 in
theorem c_L_rest (D : DT) (G : GT) (X : XT) (s : SG) (A : Nat → Prop) (o : Nat)  (p0 : Int32) (hG : LF X s G) (hA : X.2.2.2 = (A, G)) (ho : A o) (hTo : G.1 o = 12 ∧ G.2.1 o = 1)  : ML yL_rest cL_rest 4 (Option.some Jvm.ClassFile.FieldType.int) [(0, 9, 12, 13)] rw_L_rest D [.ref (X.1 0 0), .int p0, .ref o] G (WP A o 12 X s G (fun G' X' s' => G'.2.2.2.1 o 0 = ((nI (runC s (nat p0)).2)).toInt64 ∧ X'.2.1 = X.2.1 ∧ X'.2.2.1 = X.2.2.1 ∧ s' = (runC s (nat p0)).1 ∧ kRest p0 = 0) (fun k => kRest p0 = k)) := by
  refine ML_of (by decide +kernel) (Nat.le_of_ble_eq_true rfl) (fun K sz hR hX => ?_)
  show V cL_rest _ 4 _ D K 0 [some (.ref (X.1 0 0)), some (.int p0), some (.ref o), none] [] G (0, 0)
  have hAo : ∀ G1 : GT, ∀ X1 s1, LF X1 s1 G1 → X1.2.2.2 = X.2.2.2 → G1.1 o = 12 ∧ G1.2.1 o = 1 := fun G1 X1 s1 h1 e1 => by
    have := (h1.2.2.2 o (by rw [show X1.2.2.2.1 = A from congrArg (fun z => z.1) (e1.trans hA)]; exact ho)).2.2
    rw [show X1.2.2.2.2 = G from congrArg (fun z => z.2) (e1.trans hA)] at this
    exact ⟨this.1.trans hTo.1, this.2.1.trans hTo.2⟩
  refine v_aload_n (pc := 0) dL_rest_0 rfl rfl ?_
  refine v_iconst (pc := 1) (v := 0) dL_rest_1 (by decide) ?_
  refine v_aload_n (pc := 2) dL_rest_2 rfl rfl ?_
  refine v_iload_n (pc := 3) dL_rest_3 rfl rfl ?_
  refine v_try (pc := 4) (As := [.int p0]) (rest := [.int 0, .ref o]) hX dL_rest_4 cw_L_55 im_yX8_rest se_yX8_rest ((c_X8_rest D X s p0) G hG) ((hG.1 0 0 (hG.2.2.1 0 (by decide))).1.2.1) rfl rfl rfl (Nat.le_of_ble_eq_true rfl) ⟨Nat.le_of_ble_eq_true rfl, Nat.le_of_ble_eq_true rfl⟩ ⟨by decide, by decide⟩ (fun v G1 hp => ?_) (fun E9 G1 q9 hp => ?_)
  · obtain ⟨s1, hG1, hv1, hr1⟩ := hp
    subst hv1
    have hT1 := hAo _ _ _ hG1 rfl
    obtain ⟨T, N, I, J, E, Rf⟩ := G1
    refine v_i2l (pc := 7) dL_rest_7 ?_
    refine v_last (pc := 8) (j := 0) dL_rest_8 hT1.1 hT1.2 rfl (by decide) (by decide) ?_
    refine v_goto (pc := 9) (tgt := 15) dL_rest_9 (by decide) ?_
    refine v_iconst (pc := 15) (v := 0) dL_rest_15 (by decide) ?_
    refine v_iret (pc := 16) hR dL_rest_16 ⟨by decide, by decide⟩ ?_
    exact WP.ok hG1 hA rfl (fun c _ => rfl) ho (fun p hp => ⟨rfl, rfl, rfl, funext fun j => by simp [u2, hp], rfl, rfl⟩) hT1 (by decide) ⟨u2_s _ _ _ _, rfl, rfl, hr1⟩
  · obtain ⟨hG1, hp⟩ := hp
    rcases hp with ⟨rfl, hk⟩
    · refine ⟨[], ⟨0, 9, 12, 13⟩, [], xIA, rfl, (fun z hz => nomatch hz), by decide, by decide, cl_L_13, ca_xIA, ?_⟩
      refine v_astore_n (pc := 12) dL_rest_12 rfl rfl (by decide) ?_
      refine v_iconst (pc := 13) (v := 1) dL_rest_13 (by decide) ?_
      refine v_iret (pc := 14) hR dL_rest_14 ⟨by decide, by decide⟩ ?_
      exact WP.err hG1 hA ho hTo (by decide) (by decide) hk
abbrev rw_L_height : Room := { frames := 7, cells := 1, slots := 6, locals := 131 }
theorem wl_height : Cond.codeWith yL_height cL_height 4 (Option.some Jvm.ClassFile.FieldType.int) [(0, 9, 12, 21)] ∈ lw_all := (lw_mem 536 (by decide +kernel) rfl)
set_option maxRecDepth 100000 in
set_option maxHeartbeats 400000 in
theorem c_L_height (D : DT) (G : GT) (X : XT) (s : SG) (A : Nat → Prop) (o : Nat)  (p0 : Int32) (hG : LF X s G) (hA : X.2.2.2 = (A, G)) (ho : A o) (hTo : G.1 o = 12 ∧ G.2.1 o = 1)  : ML yL_height cL_height 4 (Option.some Jvm.ClassFile.FieldType.int) [(0, 9, 12, 21)] rw_L_height D [.ref (X.1 0 0), .int p0, .ref o] G (WP A o 12 X s G (fun G' X' s' => G'.2.2.2.1 o 0 = ((s.1 15 (nat p0))).toInt64 ∧ X'.2.1 = X.2.1 ∧ X'.2.2.1 = X.2.2.1 ∧ s' = s ∧ kHt p0 = 0) (fun k => kHt p0 = k)) := by
  refine ML_of (by decide +kernel) (Nat.le_of_ble_eq_true rfl) (fun K sz hR hX => ?_)
  show V cL_height _ 4 _ D K 0 [some (.ref (X.1 0 0)), some (.int p0), some (.ref o), none] [] G (0, 0)
  have hAo : ∀ G1 : GT, ∀ X1 s1, LF X1 s1 G1 → X1.2.2.2 = X.2.2.2 → G1.1 o = 12 ∧ G1.2.1 o = 1 := fun G1 X1 s1 h1 e1 => by
    have := (h1.2.2.2 o (by rw [show X1.2.2.2.1 = A from congrArg (fun z => z.1) (e1.trans hA)]; exact ho)).2.2
    rw [show X1.2.2.2.2 = G from congrArg (fun z => z.2) (e1.trans hA)] at this
    exact ⟨this.1.trans hTo.1, this.2.1.trans hTo.2⟩
  refine v_aload_n (pc := 0) dL_height_0 rfl rfl ?_
  refine v_iconst (pc := 1) (v := 0) dL_height_1 (by decide) ?_
  refine v_aload_n (pc := 2) dL_height_2 rfl rfl ?_
  refine v_iload_n (pc := 3) dL_height_3 rfl rfl ?_
  refine v_try (pc := 4) (As := [.int p0]) (rest := [.int 0, .ref o]) hX dL_height_4 cw_L_58 im_yX8_height se_yX8_height ((c_X8_height D X s p0) G hG) ((hG.1 0 0 (hG.2.2.1 0 (by decide))).1.2.1) rfl rfl rfl (Nat.le_of_ble_eq_true rfl) ⟨Nat.le_of_ble_eq_true rfl, Nat.le_of_ble_eq_true rfl⟩ ⟨by decide, by decide⟩ (fun v G1 hp => ?_) (fun E9 G1 q9 hp => ?_)
  · obtain ⟨s1, hG1, hv1, hr1⟩ := hp
    subst hv1
    have hT1 := hAo _ _ _ hG1 rfl
    obtain ⟨T, N, I, J, E, Rf⟩ := G1
    refine v_i2l (pc := 7) dL_height_7 ?_
    refine v_last (pc := 8) (j := 0) dL_height_8 hT1.1 hT1.2 rfl (by decide) (by decide) ?_
    refine v_goto (pc := 9) (tgt := 15) dL_height_9 (by decide) ?_
    refine v_iconst (pc := 15) (v := 0) dL_height_15 (by decide) ?_
    refine v_iret (pc := 16) hR dL_height_16 ⟨by decide, by decide⟩ ?_
    exact WP.ok hG1 hA rfl (fun c _ => rfl) ho (fun p hp => ⟨rfl, rfl, rfl, funext fun j => by simp [u2, hp], rfl, rfl⟩) hT1 (by decide) ⟨u2_s _ _ _ _, rfl, rfl, hr1⟩
  · obtain ⟨hG1, hp⟩ := hp
    rcases hp with ⟨rfl, hk⟩
    · refine ⟨[], ⟨0, 9, 12, 21⟩, [], xIO, rfl, (fun z hz => nomatch hz), by decide, by decide, cl_L_21, ca_xIO, ?_⟩
      refine v_astore_n (pc := 12) dL_height_12 rfl rfl (by decide) ?_
      refine v_iconst (pc := 13) (v := 1) dL_height_13 (by decide) ?_
      refine v_iret (pc := 14) hR dL_height_14 ⟨by decide, by decide⟩ ?_
      exact WP.err hG1 hA ho hTo (by decide) (by decide) hk
abbrev rw_L_peg : Room := { frames := 7, cells := 1, slots := 6, locals := 133 }
theorem wl_peg : Cond.codeWith yL_peg cL_peg 6 (Option.some Jvm.ClassFile.FieldType.int) [(0, 11, 14, 13), (0, 11, 18, 15)] ∈ lw_all := (lw_mem 543 (by decide +kernel) rfl)
set_option maxRecDepth 100000 in
set_option maxHeartbeats 400000 in
theorem c_L_peg (D : DT) (G : GT) (X : XT) (s : SG) (A : Nat → Prop) (o : Nat) (g : Nat) (p0 : Int64) (p1 : Int32) (hG : LF X s G) (hA : X.2.2.2 = (A, G)) (ho : A o) (hTo : G.1 o = 12 ∧ G.2.1 o = 1) (hg : s.1 19 0 = nI g) (hg8 : g ≤ 8) (hfr : X.2.1 16 g = false) (z23 : s.2 23 g = 0) (hxv : XV X) : ML yL_peg cL_peg 6 (Option.some Jvm.ClassFile.FieldType.int) [(0, 11, 14, 13), (0, 11, 18, 15)] rw_L_peg D [.ref (X.1 0 0), .long p0, .int p1, .ref o] G (WP A o 12 X s G (fun G' X' s' => G'.2.2.2.1 o 0 = ((nI g)).toInt64 ∧ s' = gPeg s g p0 p1 ∧ X'.2.1 = u2 X.2.1 16 g true ∧ X'.2.2.1 = u2 X.2.2.1 4 g true ∧ kPeg g p0 p1 = 0) (fun k => kPeg g p0 p1 = k)) := by
  refine ML_of (by decide +kernel) (Nat.le_of_ble_eq_true rfl) (fun K sz hR hX => ?_)
  show V cL_peg _ 6 _ D K 0 [some (.ref (X.1 0 0)), some (.long p0), none, some (.int p1), some (.ref o), none] [] G (0, 0)
  have hAo : ∀ G1 : GT, ∀ X1 s1, LF X1 s1 G1 → X1.2.2.2 = X.2.2.2 → G1.1 o = 12 ∧ G1.2.1 o = 1 := fun G1 X1 s1 h1 e1 => by
    have := (h1.2.2.2 o (by rw [show X1.2.2.2.1 = A from congrArg (fun z => z.1) (e1.trans hA)]; exact ho)).2.2
    rw [show X1.2.2.2.2 = G from congrArg (fun z => z.2) (e1.trans hA)] at this
    exact ⟨this.1.trans hTo.1, this.2.1.trans hTo.2⟩
  refine v_aload (pc := 0) dL_peg_0 rfl ?_
  refine v_iconst (pc := 2) (v := 0) dL_peg_2 (by decide) ?_
  refine v_aload_n (pc := 3) dL_peg_3 rfl rfl ?_
  refine v_lload_n (pc := 4) dL_peg_4 rfl rfl ?_
  refine v_iload_n (pc := 5) dL_peg_5 rfl rfl ?_
  refine v_try (pc := 6) (As := [.long p0, .int p1]) (rest := [.int 0, .ref o]) hX dL_peg_6 cw_L_61 im_yX8_peg se_yX8_peg ((c_X8_peg D X s g p0 p1 hg hg8 hfr z23 hxv) G hG) ((hG.1 0 0 (hG.2.2.1 0 (by decide))).1.2.1) rfl rfl rfl (Nat.le_of_ble_eq_true rfl) ⟨Nat.le_of_ble_eq_true rfl, Nat.le_of_ble_eq_true rfl⟩ ⟨by decide, by decide⟩ (fun v G1 hp => ?_) (fun E9 G1 q9 hp => ?_)
  · obtain ⟨X1, s1, hG1, hA1, h01, hv1, hr1⟩ := hp
    subst hv1
    have hT1 := hAo _ _ _ hG1 hA1
    obtain ⟨T, N, I, J, E, Rf⟩ := G1
    refine v_i2l (pc := 9) dL_peg_9 ?_
    refine v_last (pc := 10) (j := 0) dL_peg_10 hT1.1 hT1.2 rfl (by decide) (by decide) ?_
    refine v_goto (pc := 11) (tgt := 22) dL_peg_11 (by decide) ?_
    refine v_iconst (pc := 22) (v := 0) dL_peg_22 (by decide) ?_
    refine v_iret (pc := 23) hR dL_peg_23 ⟨by decide, by decide⟩ ?_
    exact WP.ok hG1 hA hA1 h01 ho (fun p hp => ⟨rfl, rfl, rfl, funext fun j => by simp [u2, hp], rfl, rfl⟩) hT1 (by decide) ⟨u2_s _ _ _ _, hr1⟩
  · obtain ⟨hG1, hp⟩ := hp
    rcases hp with ⟨rfl, hk⟩ | ⟨rfl, hk⟩
    · refine ⟨[], ⟨0, 11, 14, 13⟩, [⟨0, 11, 18, 15⟩], xIA, rfl, (fun z hz => nomatch hz), by decide, by decide, cl_L_13, ca_xIA, ?_⟩
      refine v_astore (pc := 14) dL_peg_14 rfl (by decide) ?_
      refine v_iconst (pc := 16) (v := 1) dL_peg_16 (by decide) ?_
      refine v_iret (pc := 17) hR dL_peg_17 ⟨by decide, by decide⟩ ?_
      exact WP.err hG1 hA ho hTo (by decide) (by decide) hk
    · refine ⟨[⟨0, 11, 14, 13⟩], ⟨0, 11, 18, 15⟩, [], xIS, rfl, (List.forall_mem_cons.mpr ⟨Or.inr ⟨by decide, xIA, cl_L_13, (Or.inr (Or.inr ⟨rfl, rfl⟩))⟩, fun z hz => nomatch hz⟩), by decide, by decide, cl_L_15, ca_xIS, ?_⟩
      refine v_astore (pc := 18) dL_peg_18 rfl (by decide) ?_
      refine v_iconst (pc := 20) (v := 2) dL_peg_20 (by decide) ?_
      refine v_iret (pc := 21) hR dL_peg_21 ⟨by decide, by decide⟩ ?_
      exact WP.err hG1 hA ho hTo (by decide) (by decide) hk
abbrev rw_L_gust : Room := { frames := 7, cells := 1, slots := 6, locals := 142 }
theorem wl_gust : Cond.codeWith yL_gust cL_gust 5 (Option.some Jvm.ClassFile.FieldType.int) [(0, 9, 12, 13)] ∈ lw_all := (lw_mem 574 (by decide +kernel) rfl)
set_option maxRecDepth 100000 in
set_option maxHeartbeats 400000 in
theorem c_L_gust (D : DT) (G : GT) (X : XT) (s : SG) (A : Nat → Prop) (o : Nat) (g : Nat) (p0 : Int64) (hG : LF X s G) (hA : X.2.2.2 = (A, G)) (ho : A o) (hTo : G.1 o = 12 ∧ G.2.1 o = 1) (hv : GV s g) (hg8 : g ≤ 8) (hsl : ∀ f, f < 8 → X.2.2.1 4 f = decide (f < g)) : ML yL_gust cL_gust 5 (Option.some Jvm.ClassFile.FieldType.int) [(0, 9, 12, 13)] rw_L_gust D [.ref (X.1 0 0), .long p0, .ref o] G (WP A o 12 X s G (fun G' X' s' => G'.2.2.2.1 o 0 = ((nI (gusF s p0 g 9).2)).toInt64 ∧ X'.2.1 = X.2.1 ∧ X'.2.2.1 = X.2.2.1 ∧ s' = (gusF s p0 g 9).1 ∧ kGust p0 = 0) (fun k => kGust p0 = k)) := by
  refine ML_of (by decide +kernel) (Nat.le_of_ble_eq_true rfl) (fun K sz hR hX => ?_)
  show V cL_gust _ 5 _ D K 0 [some (.ref (X.1 0 0)), some (.long p0), none, some (.ref o), none] [] G (0, 0)
  have hAo : ∀ G1 : GT, ∀ X1 s1, LF X1 s1 G1 → X1.2.2.2 = X.2.2.2 → G1.1 o = 12 ∧ G1.2.1 o = 1 := fun G1 X1 s1 h1 e1 => by
    have := (h1.2.2.2 o (by rw [show X1.2.2.2.1 = A from congrArg (fun z => z.1) (e1.trans hA)]; exact ho)).2.2
    rw [show X1.2.2.2.2 = G from congrArg (fun z => z.2) (e1.trans hA)] at this
    exact ⟨this.1.trans hTo.1, this.2.1.trans hTo.2⟩
  refine v_aload_n (pc := 0) dL_gust_0 rfl rfl ?_
  refine v_iconst (pc := 1) (v := 0) dL_gust_1 (by decide) ?_
  refine v_aload_n (pc := 2) dL_gust_2 rfl rfl ?_
  refine v_lload_n (pc := 3) dL_gust_3 rfl rfl ?_
  refine v_try (pc := 4) (As := [.long p0]) (rest := [.int 0, .ref o]) hX dL_gust_4 cw_L_65 im_yX8_gust se_yX8_gust ((c_X8_gust D X s g p0 hv hg8 hsl) G hG) ((hG.1 0 0 (hG.2.2.1 0 (by decide))).1.2.1) rfl rfl rfl (Nat.le_of_ble_eq_true rfl) ⟨Nat.le_of_ble_eq_true rfl, Nat.le_of_ble_eq_true rfl⟩ ⟨by decide, by decide⟩ (fun v G1 hp => ?_) (fun E9 G1 q9 hp => ?_)
  · obtain ⟨s1, hG1, hv1, hr1⟩ := hp
    subst hv1
    have hT1 := hAo _ _ _ hG1 rfl
    obtain ⟨T, N, I, J, E, Rf⟩ := G1
    refine v_i2l (pc := 7) dL_gust_7 ?_
    refine v_last (pc := 8) (j := 0) dL_gust_8 hT1.1 hT1.2 rfl (by decide) (by decide) ?_
    refine v_goto (pc := 9) (tgt := 16) dL_gust_9 (by decide) ?_
    refine v_iconst (pc := 16) (v := 0) dL_gust_16 (by decide) ?_
    refine v_iret (pc := 17) hR dL_gust_17 ⟨by decide, by decide⟩ ?_
    exact WP.ok hG1 hA rfl (fun c _ => rfl) ho (fun p hp => ⟨rfl, rfl, rfl, funext fun j => by simp [u2, hp], rfl, rfl⟩) hT1 (by decide) ⟨u2_s _ _ _ _, rfl, rfl, hr1⟩
  · obtain ⟨hG1, hp⟩ := hp
    rcases hp with ⟨rfl, hk⟩
    · refine ⟨[], ⟨0, 9, 12, 13⟩, [], xIA, rfl, (fun z hz => nomatch hz), by decide, by decide, cl_L_13, ca_xIA, ?_⟩
      refine v_astore (pc := 12) dL_gust_12 rfl (by decide) ?_
      refine v_iconst (pc := 14) (v := 1) dL_gust_14 (by decide) ?_
      refine v_iret (pc := 15) hR dL_gust_15 ⟨by decide, by decide⟩ ?_
      exact WP.err hG1 hA ho hTo (by decide) (by decide) hk
abbrev rw_L_pulled : Room := { frames := 7, cells := 1, slots := 6, locals := 132 }
theorem wl_pulled : Cond.codeWith yL_pulled cL_pulled 4 (Option.some Jvm.ClassFile.FieldType.int) [(0, 8, 11, 21)] ∈ lw_all := (lw_mem 595 (by decide +kernel) rfl)
set_option maxRecDepth 100000 in
set_option maxHeartbeats 400000 in
theorem c_L_pulled (D : DT) (G : GT) (X : XT) (s : SG) (A : Nat → Prop) (o : Nat) (g : Nat) (p0 : Int32) (hG : LF X s G) (hA : X.2.2.2 = (A, G)) (ho : A o) (hTo : G.1 o = 12 ∧ G.2.1 o = 1) (hg : s.1 19 0 = nI g) (hg8 : g ≤ 8) (hsl : ∀ f, f < 8 → X.2.2.1 4 f = decide (f < g)) : ML yL_pulled cL_pulled 4 (Option.some Jvm.ClassFile.FieldType.int) [(0, 8, 11, 21)] rw_L_pulled D [.ref (X.1 0 0), .int p0, .ref o] G (WP A o 12 X s G (fun G' X' s' => G'.2.2.2.1 o 0 = (s.2 23 (nat p0)) ∧ X'.2.1 = X.2.1 ∧ X'.2.2.1 = X.2.2.1 ∧ s' = s ∧ kPul g p0 = 0) (fun k => kPul g p0 = k)) := by
  refine ML_of (by decide +kernel) (Nat.le_of_ble_eq_true rfl) (fun K sz hR hX => ?_)
  show V cL_pulled _ 4 _ D K 0 [some (.ref (X.1 0 0)), some (.int p0), some (.ref o), none] [] G (0, 0)
  have hAo : ∀ G1 : GT, ∀ X1 s1, LF X1 s1 G1 → X1.2.2.2 = X.2.2.2 → G1.1 o = 12 ∧ G1.2.1 o = 1 := fun G1 X1 s1 h1 e1 => by
    have := (h1.2.2.2 o (by rw [show X1.2.2.2.1 = A from congrArg (fun z => z.1) (e1.trans hA)]; exact ho)).2.2
    rw [show X1.2.2.2.2 = G from congrArg (fun z => z.2) (e1.trans hA)] at this
    exact ⟨this.1.trans hTo.1, this.2.1.trans hTo.2⟩
  refine v_aload_n (pc := 0) dL_pulled_0 rfl rfl ?_
  refine v_iconst (pc := 1) (v := 0) dL_pulled_1 (by decide) ?_
  refine v_aload_n (pc := 2) dL_pulled_2 rfl rfl ?_
  refine v_iload_n (pc := 3) dL_pulled_3 rfl rfl ?_
  refine v_try (pc := 4) (As := [.int p0]) (rest := [.int 0, .ref o]) hX dL_pulled_4 cw_L_69 im_yX8_pulled se_yX8_pulled ((c_X8_pulled D X s g p0 hg hg8 hsl) G hG) ((hG.1 0 0 (hG.2.2.1 0 (by decide))).1.2.1) rfl rfl rfl (Nat.le_of_ble_eq_true rfl) ⟨Nat.le_of_ble_eq_true rfl, Nat.le_of_ble_eq_true rfl⟩ ⟨by decide, by decide⟩ (fun v G1 hp => ?_) (fun E9 G1 q9 hp => ?_)
  · obtain ⟨s1, hG1, hv1, hr1⟩ := hp
    subst hv1
    have hT1 := hAo _ _ _ hG1 rfl
    obtain ⟨T, N, I, J, E, Rf⟩ := G1
    refine v_last (pc := 7) (j := 0) dL_pulled_7 hT1.1 hT1.2 rfl (by decide) (by decide) ?_
    refine v_goto (pc := 8) (tgt := 14) dL_pulled_8 (by decide) ?_
    refine v_iconst (pc := 14) (v := 0) dL_pulled_14 (by decide) ?_
    refine v_iret (pc := 15) hR dL_pulled_15 ⟨by decide, by decide⟩ ?_
    exact WP.ok hG1 hA rfl (fun c _ => rfl) ho (fun p hp => ⟨rfl, rfl, rfl, funext fun j => by simp [u2, hp], rfl, rfl⟩) hT1 (by decide) ⟨u2_s _ _ _ _, rfl, rfl, hr1⟩
  · obtain ⟨hG1, hp⟩ := hp
    rcases hp with ⟨rfl, hk⟩
    · refine ⟨[], ⟨0, 8, 11, 21⟩, [], xIO, rfl, (fun z hz => nomatch hz), by decide, by decide, cl_L_21, ca_xIO, ?_⟩
      refine v_astore_n (pc := 11) dL_pulled_11 rfl rfl (by decide) ?_
      refine v_iconst (pc := 12) (v := 1) dL_pulled_12 (by decide) ?_
      refine v_iret (pc := 13) hR dL_pulled_13 ⟨by decide, by decide⟩ ?_
      exact WP.err hG1 hA ho hTo (by decide) (by decide) hk
abbrev rw_L_trim : Room := { frames := 7, cells := 1, slots := 6, locals := 133 }
theorem wl_trim : Cond.codeWith yL_trim cL_trim 6 (Option.some Jvm.ClassFile.FieldType.int) [(0, 12, 15, 13)] ∈ lw_all := (lw_mem 603 (by decide +kernel) rfl)
set_option maxRecDepth 100000 in
set_option maxHeartbeats 400000 in
theorem c_L_trim (D : DT) (G : GT) (X : XT) (s : SG) (A : Nat → Prop) (o : Nat)  (p0 : Int32) (p1 : Int32) (p2 : Int32) (hG : LF X s G) (hA : X.2.2.2 = (A, G)) (ho : A o) (hTo : G.1 o = 15 ∧ G.2.1 o = 1)  : ML yL_trim cL_trim 6 (Option.some Jvm.ClassFile.FieldType.int) [(0, 12, 15, 13)] rw_L_trim D [.ref (X.1 0 0), .int p0, .int p1, .int p2, .ref o] G (WP A o 15 X s G (fun G' X' s' => G'.2.2.2.2.1 o 0 = FP.f2d ((drI (nat p0) (nat p1))) ∧ X'.2.1 = X.2.1 ∧ X'.2.2.1 = X.2.2.1 ∧ s' = gTrim s p0 p1 p2 ∧ kTrim p0 p1 p2 = 0) (fun k => kTrim p0 p1 p2 = k)) := by
  refine ML_of (by decide +kernel) (Nat.le_of_ble_eq_true rfl) (fun K sz hR hX => ?_)
  show V cL_trim _ 6 _ D K 0 [some (.ref (X.1 0 0)), some (.int p0), some (.int p1), some (.int p2), some (.ref o), none] [] G (0, 0)
  have hAo : ∀ G1 : GT, ∀ X1 s1, LF X1 s1 G1 → X1.2.2.2 = X.2.2.2 → G1.1 o = 15 ∧ G1.2.1 o = 1 := fun G1 X1 s1 h1 e1 => by
    have := (h1.2.2.2 o (by rw [show X1.2.2.2.1 = A from congrArg (fun z => z.1) (e1.trans hA)]; exact ho)).2.2
    rw [show X1.2.2.2.2 = G from congrArg (fun z => z.2) (e1.trans hA)] at this
    exact ⟨this.1.trans hTo.1, this.2.1.trans hTo.2⟩
  refine v_aload (pc := 0) dL_trim_0 rfl ?_
  refine v_iconst (pc := 2) (v := 0) dL_trim_2 (by decide) ?_
  refine v_aload_n (pc := 3) dL_trim_3 rfl rfl ?_
  refine v_iload_n (pc := 4) dL_trim_4 rfl rfl ?_
  refine v_iload_n (pc := 5) dL_trim_5 rfl rfl ?_
  refine v_iload_n (pc := 6) dL_trim_6 rfl rfl ?_
  refine v_try (pc := 7) (As := [.int p0, .int p1, .int p2]) (rest := [.int 0, .ref o]) hX dL_trim_7 cw_L_72 im_yX8_trim se_yX8_trim ((c_X8_trim D X s p0 p1 p2) G hG) ((hG.1 0 0 (hG.2.2.1 0 (by decide))).1.2.1) rfl rfl rfl (Nat.le_of_ble_eq_true rfl) ⟨Nat.le_of_ble_eq_true rfl, Nat.le_of_ble_eq_true rfl⟩ ⟨by decide, by decide⟩ (fun v G1 hp => ?_) (fun E9 G1 q9 hp => ?_)
  · obtain ⟨s1, hG1, hv1, hr1⟩ := hp
    subst hv1
    have hT1 := hAo _ _ _ hG1 rfl
    obtain ⟨T, N, I, J, E, Rf⟩ := G1
    refine v_f2d (pc := 10) dL_trim_10 (f2d_nn (f4 (r := 0) (kTrim_lt hr1.2).1 (kTrim_lt hr1.2).2.1 (by decide)).1) ?_
    refine v_dast (pc := 11) (j := 0) dL_trim_11 hT1.1 hT1.2 rfl (by decide) (by decide) ?_
    refine v_goto (pc := 12) (tgt := 19) dL_trim_12 (by decide) ?_
    refine v_iconst (pc := 19) (v := 0) dL_trim_19 (by decide) ?_
    refine v_iret (pc := 20) hR dL_trim_20 ⟨by decide, by decide⟩ ?_
    exact WP.ok hG1 hA rfl (fun c _ => rfl) ho (fun p hp => ⟨rfl, rfl, rfl, rfl, funext fun j => by simp [u2, hp], rfl⟩) hT1 (by decide) ⟨u2_s _ _ _ _, rfl, rfl, hr1⟩
  · obtain ⟨hG1, hp⟩ := hp
    rcases hp with ⟨rfl, hk⟩
    · refine ⟨[], ⟨0, 12, 15, 13⟩, [], xIA, rfl, (fun z hz => nomatch hz), by decide, by decide, cl_L_13, ca_xIA, ?_⟩
      refine v_astore (pc := 15) dL_trim_15 rfl (by decide) ?_
      refine v_iconst (pc := 17) (v := 1) dL_trim_17 (by decide) ?_
      refine v_iret (pc := 18) hR dL_trim_18 ⟨by decide, by decide⟩ ?_
      exact WP.err hG1 hA ho hTo (by decide) (by decide) hk
abbrev rw_L_power : Room := { frames := 7, cells := 1, slots := 6, locals := 131 }
theorem wl_power : Cond.codeWith yL_power cL_power 4 (Option.some Jvm.ClassFile.FieldType.int) [(0, 9, 12, 13)] ∈ lw_all := (lw_mem 619 (by decide +kernel) rfl)
set_option maxRecDepth 100000 in
set_option maxHeartbeats 400000 in
theorem c_L_power (D : DT) (G : GT) (X : XT) (s : SG) (A : Nat → Prop) (o : Nat) (h t r : Nat) (p0 : Int32) (hG : LF X s G) (hA : X.2.2.2 = (A, G)) (ho : A o) (hTo : G.1 o = 15 ∧ G.2.1 o = 1) (e1 : s.1 24 0 = nI h) (e2 : s.1 25 0 = nI t) (e3 : s.1 26 0 = nI r) (hh : h < 101) (ht : t < 101) (hr : r < 4) : ML yL_power cL_power 4 (Option.some Jvm.ClassFile.FieldType.int) [(0, 9, 12, 13)] rw_L_power D [.ref (X.1 0 0), .int p0, .ref o] G (WP A o 15 X s G (fun G' X' s' => G'.2.2.2.2.1 o 0 = FP.f2d ((pwI h t r (nat p0))) ∧ X'.2.1 = X.2.1 ∧ X'.2.2.1 = X.2.2.1 ∧ s' = s ∧ kPow p0 = 0) (fun k => kPow p0 = k)) := by
  refine ML_of (by decide +kernel) (Nat.le_of_ble_eq_true rfl) (fun K sz hR hX => ?_)
  show V cL_power _ 4 _ D K 0 [some (.ref (X.1 0 0)), some (.int p0), some (.ref o), none] [] G (0, 0)
  have hAo : ∀ G1 : GT, ∀ X1 s1, LF X1 s1 G1 → X1.2.2.2 = X.2.2.2 → G1.1 o = 15 ∧ G1.2.1 o = 1 := fun G1 X1 s1 h1 e1 => by
    have := (h1.2.2.2 o (by rw [show X1.2.2.2.1 = A from congrArg (fun z => z.1) (e1.trans hA)]; exact ho)).2.2
    rw [show X1.2.2.2.2 = G from congrArg (fun z => z.2) (e1.trans hA)] at this
    exact ⟨this.1.trans hTo.1, this.2.1.trans hTo.2⟩
  refine v_aload_n (pc := 0) dL_power_0 rfl rfl ?_
  refine v_iconst (pc := 1) (v := 0) dL_power_1 (by decide) ?_
  refine v_aload_n (pc := 2) dL_power_2 rfl rfl ?_
  refine v_iload_n (pc := 3) dL_power_3 rfl rfl ?_
  refine v_try (pc := 4) (As := [.int p0]) (rest := [.int 0, .ref o]) hX dL_power_4 cw_L_76 im_yX8_power se_yX8_power ((c_X8_power D X s h t r p0 e1 e2 e3 hh ht hr) G hG) ((hG.1 0 0 (hG.2.2.1 0 (by decide))).1.2.1) rfl rfl rfl (Nat.le_of_ble_eq_true rfl) ⟨Nat.le_of_ble_eq_true rfl, Nat.le_of_ble_eq_true rfl⟩ ⟨by decide, by decide⟩ (fun v G1 hp => ?_) (fun E9 G1 q9 hp => ?_)
  · obtain ⟨s1, hG1, hv1, hr1⟩ := hp
    subst hv1
    have hT1 := hAo _ _ _ hG1 rfl
    obtain ⟨T, N, I, J, E, Rf⟩ := G1
    refine v_f2d (pc := 7) dL_power_7 (f2d_nn (f6 hh ht hr (kPow_lt hr1.2)).2) ?_
    refine v_dast (pc := 8) (j := 0) dL_power_8 hT1.1 hT1.2 rfl (by decide) (by decide) ?_
    refine v_goto (pc := 9) (tgt := 15) dL_power_9 (by decide) ?_
    refine v_iconst (pc := 15) (v := 0) dL_power_15 (by decide) ?_
    refine v_iret (pc := 16) hR dL_power_16 ⟨by decide, by decide⟩ ?_
    exact WP.ok hG1 hA rfl (fun c _ => rfl) ho (fun p hp => ⟨rfl, rfl, rfl, rfl, funext fun j => by simp [u2, hp], rfl⟩) hT1 (by decide) ⟨u2_s _ _ _ _, rfl, rfl, hr1⟩
  · obtain ⟨hG1, hp⟩ := hp
    rcases hp with ⟨rfl, hk⟩
    · refine ⟨[], ⟨0, 9, 12, 13⟩, [], xIA, rfl, (fun z hz => nomatch hz), by decide, by decide, cl_L_13, ca_xIA, ?_⟩
      refine v_astore_n (pc := 12) dL_power_12 rfl rfl (by decide) ?_
      refine v_iconst (pc := 13) (v := 1) dL_power_13 (by decide) ?_
      refine v_iret (pc := 14) hR dL_power_14 ⟨by decide, by decide⟩ ?_
      exact WP.err hG1 hA ho hTo (by decide) (by decide) hk
abbrev rw_L_halyard : Room := { frames := 7, cells := 1, slots := 6, locals := 133 }
theorem wl_halyard : Cond.codeWith yL_halyard cL_halyard 5 (Option.some Jvm.ClassFile.FieldType.int) [(0, 10, 13, 13)] ∈ lw_all := (lw_mem 633 (by decide +kernel) rfl)
set_option maxRecDepth 100000 in
set_option maxHeartbeats 400000 in
theorem c_L_halyard (D : DT) (G : GT) (X : XT) (s : SG) (A : Nat → Prop) (o : Nat) (t r : Nat) (p0 : Int32) (p1 : Int32) (hG : LF X s G) (hA : X.2.2.2 = (A, G)) (ho : A o) (hTo : G.1 o = 12 ∧ G.2.1 o = 1) (e2 : s.1 25 0 = nI t) (e3 : s.1 26 0 = nI r) (ht : t < 101) (hr : r < 4) : ML yL_halyard cL_halyard 5 (Option.some Jvm.ClassFile.FieldType.int) [(0, 10, 13, 13)] rw_L_halyard D [.ref (X.1 0 0), .int p0, .int p1, .ref o] G (WP A o 12 X s G (fun G' X' s' => G'.2.2.2.1 o 0 = ((halF t r (nat p0) p1 101 0)).toInt64 ∧ X'.2.1 = X.2.1 ∧ X'.2.2.1 = X.2.2.1 ∧ s' = s ∧ kHal p0 p1 = 0) (fun k => kHal p0 p1 = k)) := by
  refine ML_of (by decide +kernel) (Nat.le_of_ble_eq_true rfl) (fun K sz hR hX => ?_)
  show V cL_halyard _ 5 _ D K 0 [some (.ref (X.1 0 0)), some (.int p0), some (.int p1), some (.ref o), none] [] G (0, 0)
  have hAo : ∀ G1 : GT, ∀ X1 s1, LF X1 s1 G1 → X1.2.2.2 = X.2.2.2 → G1.1 o = 12 ∧ G1.2.1 o = 1 := fun G1 X1 s1 h1 e1 => by
    have := (h1.2.2.2 o (by rw [show X1.2.2.2.1 = A from congrArg (fun z => z.1) (e1.trans hA)]; exact ho)).2.2
    rw [show X1.2.2.2.2 = G from congrArg (fun z => z.2) (e1.trans hA)] at this
    exact ⟨this.1.trans hTo.1, this.2.1.trans hTo.2⟩
  refine v_aload_n (pc := 0) dL_halyard_0 rfl rfl ?_
  refine v_iconst (pc := 1) (v := 0) dL_halyard_1 (by decide) ?_
  refine v_aload_n (pc := 2) dL_halyard_2 rfl rfl ?_
  refine v_iload_n (pc := 3) dL_halyard_3 rfl rfl ?_
  refine v_iload_n (pc := 4) dL_halyard_4 rfl rfl ?_
  refine v_try (pc := 5) (As := [.int p0, .int p1]) (rest := [.int 0, .ref o]) hX dL_halyard_5 cw_L_80 im_yX8_halyard se_yX8_halyard ((c_X8_halyard D X s t r p0 p1 e2 e3 ht hr) G hG) ((hG.1 0 0 (hG.2.2.1 0 (by decide))).1.2.1) rfl rfl rfl (Nat.le_of_ble_eq_true rfl) ⟨Nat.le_of_ble_eq_true rfl, Nat.le_of_ble_eq_true rfl⟩ ⟨by decide, by decide⟩ (fun v G1 hp => ?_) (fun E9 G1 q9 hp => ?_)
  · obtain ⟨s1, hG1, hv1, hr1⟩ := hp
    subst hv1
    have hT1 := hAo _ _ _ hG1 rfl
    obtain ⟨T, N, I, J, E, Rf⟩ := G1
    refine v_i2l (pc := 8) dL_halyard_8 ?_
    refine v_last (pc := 9) (j := 0) dL_halyard_9 hT1.1 hT1.2 rfl (by decide) (by decide) ?_
    refine v_goto (pc := 10) (tgt := 17) dL_halyard_10 (by decide) ?_
    refine v_iconst (pc := 17) (v := 0) dL_halyard_17 (by decide) ?_
    refine v_iret (pc := 18) hR dL_halyard_18 ⟨by decide, by decide⟩ ?_
    exact WP.ok hG1 hA rfl (fun c _ => rfl) ho (fun p hp => ⟨rfl, rfl, rfl, funext fun j => by simp [u2, hp], rfl, rfl⟩) hT1 (by decide) ⟨u2_s _ _ _ _, rfl, rfl, hr1⟩
  · obtain ⟨hG1, hp⟩ := hp
    rcases hp with ⟨rfl, hk⟩
    · refine ⟨[], ⟨0, 10, 13, 13⟩, [], xIA, rfl, (fun z hz => nomatch hz), by decide, by decide, cl_L_13, ca_xIA, ?_⟩
      refine v_astore (pc := 13) dL_halyard_13 rfl (by decide) ?_
      refine v_iconst (pc := 15) (v := 1) dL_halyard_15 (by decide) ?_
      refine v_iret (pc := 16) hR dL_halyard_16 ⟨by decide, by decide⟩ ?_
      exact WP.err hG1 hA ho hTo (by decide) (by decide) hk
abbrev rw_L_pass : Room := { frames := 7, cells := 1, slots := 6, locals := 131 }
theorem wl_pass : Cond.codeWith yL_pass cL_pass 4 (Option.some Jvm.ClassFile.FieldType.int) [(0, 9, 12, 13), (0, 9, 15, 15)] ∈ lw_all := (lw_mem 642 (by decide +kernel) rfl)
set_option maxRecDepth 100000 in
set_option maxHeartbeats 400000 in
theorem c_L_pass (D : DT) (G : GT) (X : XT) (s : SG) (A : Nat → Prop) (o : Nat)  (p0 : Int32) (hG : LF X s G) (hA : X.2.2.2 = (A, G)) (ho : A o) (hTo : G.1 o = 12 ∧ G.2.1 o = 1)  : ML yL_pass cL_pass 4 (Option.some Jvm.ClassFile.FieldType.int) [(0, 9, 12, 13), (0, 9, 15, 15)] rw_L_pass D [.ref (X.1 0 0), .int p0, .ref o] G (WP A o 12 X s G (fun G' X' s' => G'.2.2.2.1 o 0 = ((s.1 27 0 + p0)).toInt64 ∧ X'.2.1 = X.2.1 ∧ X'.2.2.1 = X.2.2.1 ∧ s' = sI s 27 0 (s.1 27 0 + p0) ∧ kPass s p0 = 0) (fun k => kPass s p0 = k)) := by
  refine ML_of (by decide +kernel) (Nat.le_of_ble_eq_true rfl) (fun K sz hR hX => ?_)
  show V cL_pass _ 4 _ D K 0 [some (.ref (X.1 0 0)), some (.int p0), some (.ref o), none] [] G (0, 0)
  have hAo : ∀ G1 : GT, ∀ X1 s1, LF X1 s1 G1 → X1.2.2.2 = X.2.2.2 → G1.1 o = 12 ∧ G1.2.1 o = 1 := fun G1 X1 s1 h1 e1 => by
    have := (h1.2.2.2 o (by rw [show X1.2.2.2.1 = A from congrArg (fun z => z.1) (e1.trans hA)]; exact ho)).2.2
    rw [show X1.2.2.2.2 = G from congrArg (fun z => z.2) (e1.trans hA)] at this
    exact ⟨this.1.trans hTo.1, this.2.1.trans hTo.2⟩
  refine v_aload_n (pc := 0) dL_pass_0 rfl rfl ?_
  refine v_iconst (pc := 1) (v := 0) dL_pass_1 (by decide) ?_
  refine v_aload_n (pc := 2) dL_pass_2 rfl rfl ?_
  refine v_iload_n (pc := 3) dL_pass_3 rfl rfl ?_
  refine v_try (pc := 4) (As := [.int p0]) (rest := [.int 0, .ref o]) hX dL_pass_4 cw_L_83 im_yX8_pass se_yX8_pass ((c_X8_pass D X s p0) G hG) ((hG.1 0 0 (hG.2.2.1 0 (by decide))).1.2.1) rfl rfl rfl (Nat.le_of_ble_eq_true rfl) ⟨Nat.le_of_ble_eq_true rfl, Nat.le_of_ble_eq_true rfl⟩ ⟨by decide, by decide⟩ (fun v G1 hp => ?_) (fun E9 G1 q9 hp => ?_)
  · obtain ⟨s1, hG1, hv1, hr1⟩ := hp
    subst hv1
    have hT1 := hAo _ _ _ hG1 rfl
    obtain ⟨T, N, I, J, E, Rf⟩ := G1
    refine v_i2l (pc := 7) dL_pass_7 ?_
    refine v_last (pc := 8) (j := 0) dL_pass_8 hT1.1 hT1.2 rfl (by decide) (by decide) ?_
    refine v_goto (pc := 9) (tgt := 18) dL_pass_9 (by decide) ?_
    refine v_iconst (pc := 18) (v := 0) dL_pass_18 (by decide) ?_
    refine v_iret (pc := 19) hR dL_pass_19 ⟨by decide, by decide⟩ ?_
    exact WP.ok hG1 hA rfl (fun c _ => rfl) ho (fun p hp => ⟨rfl, rfl, rfl, funext fun j => by simp [u2, hp], rfl, rfl⟩) hT1 (by decide) ⟨u2_s _ _ _ _, rfl, rfl, hr1⟩
  · obtain ⟨hG1, hp⟩ := hp
    rcases hp with ⟨rfl, hk⟩ | ⟨rfl, hk⟩
    · refine ⟨[], ⟨0, 9, 12, 13⟩, [⟨0, 9, 15, 15⟩], xIA, rfl, (fun z hz => nomatch hz), by decide, by decide, cl_L_13, ca_xIA, ?_⟩
      refine v_astore_n (pc := 12) dL_pass_12 rfl rfl (by decide) ?_
      refine v_iconst (pc := 13) (v := 1) dL_pass_13 (by decide) ?_
      refine v_iret (pc := 14) hR dL_pass_14 ⟨by decide, by decide⟩ ?_
      exact WP.err hG1 hA ho hTo (by decide) (by decide) hk
    · refine ⟨[⟨0, 9, 12, 13⟩], ⟨0, 9, 15, 15⟩, [], xIS, rfl, (List.forall_mem_cons.mpr ⟨Or.inr ⟨by decide, xIA, cl_L_13, (Or.inr (Or.inr ⟨rfl, rfl⟩))⟩, fun z hz => nomatch hz⟩), by decide, by decide, cl_L_15, ca_xIS, ?_⟩
      refine v_astore_n (pc := 15) dL_pass_15 rfl rfl (by decide) ?_
      refine v_iconst (pc := 16) (v := 2) dL_pass_16 (by decide) ?_
      refine v_iret (pc := 17) hR dL_pass_17 ⟨by decide, by decide⟩ ?_
      exact WP.err hG1 hA ho hTo (by decide) (by decide) hk
abbrev rw_L_canopy : Room := { frames := 7, cells := 2, slots := 18, locals := 132 }
theorem wl_canopy : Cond.codeWith yL_canopy cL_canopy 4 (Option.some Jvm.ClassFile.FieldType.int) [(0, 9, 12, 21), (0, 9, 15, 15)] ∈ lw_all := (lw_mem 653 (by decide +kernel) rfl)
set_option maxRecDepth 100000 in
set_option maxHeartbeats 400000 in
theorem c_L_canopy (D : DT) (G : GT) (X : XT) (s : SG) (A : Nat → Prop) (o : Nat) (a c : Nat) (p0 : Int32) (hG : LF X s G) (hA : X.2.2.2 = (A, G)) (ho : A o) (hTo : G.1 o = 12 ∧ G.2.1 o = 1) (hn : s.1 0 0 = nI a) (ha : a ≤ 6) (hsl : ∀ f, f < 6 → X.2.2.1 1 f = decide (f < a)) (hc : s.1 28 0 = nI c) (hc2 : c ≤ 6) (hfr : X.2.1 17 c = false) (hfr2 : X.2.1 18 c = false) (z30 : s.1 30 c = 0) (z34 : s.1 34 c = 0) (z35 : s.1 35 c = 0) (z36 : s.1 36 c = 0) (z37 : s.1 37 c = 0) (z31 : ∀ f, f < 8 → s.1 31 (8 * c + f) = 0) (hxv : XV X) : ML yL_canopy cL_canopy 4 (Option.some Jvm.ClassFile.FieldType.int) [(0, 9, 12, 21), (0, 9, 15, 15)] rw_L_canopy D [.ref (X.1 0 0), .int p0, .ref o] G (WP A o 12 X s G (fun G' X' s' => G'.2.2.2.1 o 0 = ((nI c)).toInt64 ∧ s' = gCan s c p0 ∧ X'.2.1 = u2 (u2 X.2.1 18 c true) 17 c true ∧ X'.2.2.1 = u2 X.2.2.1 5 c true ∧ kCan a c p0 = 0) (fun k => kCan a c p0 = k)) := by
  refine ML_of (by decide +kernel) (Nat.le_of_ble_eq_true rfl) (fun K sz hR hX => ?_)
  show V cL_canopy _ 4 _ D K 0 [some (.ref (X.1 0 0)), some (.int p0), some (.ref o), none] [] G (0, 0)
  have hAo : ∀ G1 : GT, ∀ X1 s1, LF X1 s1 G1 → X1.2.2.2 = X.2.2.2 → G1.1 o = 12 ∧ G1.2.1 o = 1 := fun G1 X1 s1 h1 e1 => by
    have := (h1.2.2.2 o (by rw [show X1.2.2.2.1 = A from congrArg (fun z => z.1) (e1.trans hA)]; exact ho)).2.2
    rw [show X1.2.2.2.2 = G from congrArg (fun z => z.2) (e1.trans hA)] at this
    exact ⟨this.1.trans hTo.1, this.2.1.trans hTo.2⟩
  refine v_aload_n (pc := 0) dL_canopy_0 rfl rfl ?_
  refine v_iconst (pc := 1) (v := 0) dL_canopy_1 (by decide) ?_
  refine v_aload_n (pc := 2) dL_canopy_2 rfl rfl ?_
  refine v_iload_n (pc := 3) dL_canopy_3 rfl rfl ?_
  refine v_try (pc := 4) (As := [.int p0]) (rest := [.int 0, .ref o]) hX dL_canopy_4 cw_L_86 im_yX8_canopy se_yX8_canopy ((c_X8_canopy D X s a c p0 hn ha hsl hc hc2 hfr hfr2 z30 z34 z35 z36 z37 z31 hxv) G hG) ((hG.1 0 0 (hG.2.2.1 0 (by decide))).1.2.1) rfl rfl rfl (Nat.le_of_ble_eq_true rfl) ⟨Nat.le_of_ble_eq_true rfl, Nat.le_of_ble_eq_true rfl⟩ ⟨by decide, by decide⟩ (fun v G1 hp => ?_) (fun E9 G1 q9 hp => ?_)
  · obtain ⟨X1, s1, hG1, hA1, h01, hv1, hr1⟩ := hp
    subst hv1
    have hT1 := hAo _ _ _ hG1 hA1
    obtain ⟨T, N, I, J, E, Rf⟩ := G1
    refine v_i2l (pc := 7) dL_canopy_7 ?_
    refine v_last (pc := 8) (j := 0) dL_canopy_8 hT1.1 hT1.2 rfl (by decide) (by decide) ?_
    refine v_goto (pc := 9) (tgt := 18) dL_canopy_9 (by decide) ?_
    refine v_iconst (pc := 18) (v := 0) dL_canopy_18 (by decide) ?_
    refine v_iret (pc := 19) hR dL_canopy_19 ⟨by decide, by decide⟩ ?_
    exact WP.ok hG1 hA hA1 h01 ho (fun p hp => ⟨rfl, rfl, rfl, funext fun j => by simp [u2, hp], rfl, rfl⟩) hT1 (by decide) ⟨u2_s _ _ _ _, hr1⟩
  · obtain ⟨hG1, hp⟩ := hp
    rcases hp with ⟨rfl, hk⟩ | ⟨rfl, hk⟩
    · refine ⟨[], ⟨0, 9, 12, 21⟩, [⟨0, 9, 15, 15⟩], xIO, rfl, (fun z hz => nomatch hz), by decide, by decide, cl_L_21, ca_xIO, ?_⟩
      refine v_astore_n (pc := 12) dL_canopy_12 rfl rfl (by decide) ?_
      refine v_iconst (pc := 13) (v := 1) dL_canopy_13 (by decide) ?_
      refine v_iret (pc := 14) hR dL_canopy_14 ⟨by decide, by decide⟩ ?_
      exact WP.err hG1 hA ho hTo (by decide) (by decide) hk
    · refine ⟨[⟨0, 9, 12, 21⟩], ⟨0, 9, 15, 15⟩, [], xIS, rfl, (List.forall_mem_cons.mpr ⟨Or.inr ⟨by decide, xIO, cl_L_21, (Or.inr (Or.inl ⟨rfl, rfl⟩))⟩, fun z hz => nomatch hz⟩), by decide, by decide, cl_L_15, ca_xIS, ?_⟩
      refine v_astore_n (pc := 15) dL_canopy_15 rfl rfl (by decide) ?_
      refine v_iconst (pc := 16) (v := 2) dL_canopy_16 (by decide) ?_
      refine v_iret (pc := 17) hR dL_canopy_17 ⟨by decide, by decide⟩ ?_
      exact WP.err hG1 hA ho hTo (by decide) (by decide) hk
abbrev rw_L_part : Room := { frames := 7, cells := 1, slots := 6, locals := 133 }
theorem wl_part : Cond.codeWith yL_part cL_part 5 (Option.some Jvm.ClassFile.FieldType.int) [(0, 10, 13, 21), (0, 10, 17, 13), (0, 10, 21, 15)] ∈ lw_all := (lw_mem 707 (by decide +kernel) rfl)
set_option maxRecDepth 100000 in
set_option maxHeartbeats 400000 in
theorem c_L_part (D : DT) (G : GT) (X : XT) (s : SG) (A : Nat → Prop) (o : Nat) (c : Nat) (p0 : Int32) (p1 : Int32) (hG : LF X s G) (hA : X.2.2.2 = (A, G)) (ho : A o) (hTo : G.1 o = 12 ∧ G.2.1 o = 1) (h : CV s c) (h33 : ∀ j, j < c → (s.1 32 j = -1 ↔ s.1 33 j = -1)) (hc : s.1 28 0 = nI c) (hc2 : c ≤ 6) (hsl : ∀ f, f < 6 → X.2.2.1 5 f = decide (f < c)) : ML yL_part cL_part 5 (Option.some Jvm.ClassFile.FieldType.int) [(0, 10, 13, 21), (0, 10, 17, 13), (0, 10, 21, 15)] rw_L_part D [.ref (X.1 0 0), .int p0, .int p1, .ref o] G (WP A o 12 X s G (fun G' X' s' => G'.2.2.2.1 o 0 = ((s.1 30 (nat p0))).toInt64 ∧ X'.2.1 = X.2.1 ∧ X'.2.2.1 = X.2.2.1 ∧ s' = gPart s (nat p0) (nat (s.1 30 (nat p0))) p1 ∧ kPart s c p0 p1 = 0) (fun k => kPart s c p0 p1 = k)) := by
  refine ML_of (by decide +kernel) (Nat.le_of_ble_eq_true rfl) (fun K sz hR hX => ?_)
  show V cL_part _ 5 _ D K 0 [some (.ref (X.1 0 0)), some (.int p0), some (.int p1), some (.ref o), none] [] G (0, 0)
  have hAo : ∀ G1 : GT, ∀ X1 s1, LF X1 s1 G1 → X1.2.2.2 = X.2.2.2 → G1.1 o = 12 ∧ G1.2.1 o = 1 := fun G1 X1 s1 h1 e1 => by
    have := (h1.2.2.2 o (by rw [show X1.2.2.2.1 = A from congrArg (fun z => z.1) (e1.trans hA)]; exact ho)).2.2
    rw [show X1.2.2.2.2 = G from congrArg (fun z => z.2) (e1.trans hA)] at this
    exact ⟨this.1.trans hTo.1, this.2.1.trans hTo.2⟩
  refine v_aload_n (pc := 0) dL_part_0 rfl rfl ?_
  refine v_iconst (pc := 1) (v := 0) dL_part_1 (by decide) ?_
  refine v_aload_n (pc := 2) dL_part_2 rfl rfl ?_
  refine v_iload_n (pc := 3) dL_part_3 rfl rfl ?_
  refine v_iload_n (pc := 4) dL_part_4 rfl rfl ?_
  refine v_try (pc := 5) (As := [.int p0, .int p1]) (rest := [.int 0, .ref o]) hX dL_part_5 cw_L_89 im_yX8_part se_yX8_part ((c_X8_part D X s c p0 p1 h h33 hc hc2 hsl) G hG) ((hG.1 0 0 (hG.2.2.1 0 (by decide))).1.2.1) rfl rfl rfl (Nat.le_of_ble_eq_true rfl) ⟨Nat.le_of_ble_eq_true rfl, Nat.le_of_ble_eq_true rfl⟩ ⟨by decide, by decide⟩ (fun v G1 hp => ?_) (fun E9 G1 q9 hp => ?_)
  · obtain ⟨s1, hG1, hv1, hr1⟩ := hp
    subst hv1
    have hT1 := hAo _ _ _ hG1 rfl
    obtain ⟨T, N, I, J, E, Rf⟩ := G1
    refine v_i2l (pc := 8) dL_part_8 ?_
    refine v_last (pc := 9) (j := 0) dL_part_9 hT1.1 hT1.2 rfl (by decide) (by decide) ?_
    refine v_goto (pc := 10) (tgt := 25) dL_part_10 (by decide) ?_
    refine v_iconst (pc := 25) (v := 0) dL_part_25 (by decide) ?_
    refine v_iret (pc := 26) hR dL_part_26 ⟨by decide, by decide⟩ ?_
    exact WP.ok hG1 hA rfl (fun c _ => rfl) ho (fun p hp => ⟨rfl, rfl, rfl, funext fun j => by simp [u2, hp], rfl, rfl⟩) hT1 (by decide) ⟨u2_s _ _ _ _, rfl, rfl, hr1⟩
  · obtain ⟨hG1, hp⟩ := hp
    rcases hp with ⟨rfl, hk⟩ | ⟨rfl, hk⟩ | ⟨rfl, hk⟩
    · refine ⟨[], ⟨0, 10, 13, 21⟩, [⟨0, 10, 17, 13⟩, ⟨0, 10, 21, 15⟩], xIO, rfl, (fun z hz => nomatch hz), by decide, by decide, cl_L_21, ca_xIO, ?_⟩
      refine v_astore (pc := 13) dL_part_13 rfl (by decide) ?_
      refine v_iconst (pc := 15) (v := 1) dL_part_15 (by decide) ?_
      refine v_iret (pc := 16) hR dL_part_16 ⟨by decide, by decide⟩ ?_
      exact WP.err hG1 hA ho hTo (by decide) (by decide) hk
    · refine ⟨[⟨0, 10, 13, 21⟩], ⟨0, 10, 17, 13⟩, [⟨0, 10, 21, 15⟩], xIA, rfl, (List.forall_mem_cons.mpr ⟨Or.inr ⟨by decide, xIO, cl_L_21, (Or.inl ⟨rfl, rfl⟩)⟩, fun z hz => nomatch hz⟩), by decide, by decide, cl_L_13, ca_xIA, ?_⟩
      refine v_astore (pc := 17) dL_part_17 rfl (by decide) ?_
      refine v_iconst (pc := 19) (v := 2) dL_part_19 (by decide) ?_
      refine v_iret (pc := 20) hR dL_part_20 ⟨by decide, by decide⟩ ?_
      exact WP.err hG1 hA ho hTo (by decide) (by decide) hk
    · refine ⟨[⟨0, 10, 13, 21⟩, ⟨0, 10, 17, 13⟩], ⟨0, 10, 21, 15⟩, [], xIS, rfl, (List.forall_mem_cons.mpr ⟨Or.inr ⟨by decide, xIO, cl_L_21, (Or.inr (Or.inl ⟨rfl, rfl⟩))⟩, List.forall_mem_cons.mpr ⟨Or.inr ⟨by decide, xIA, cl_L_13, (Or.inr (Or.inr ⟨rfl, rfl⟩))⟩, fun z hz => nomatch hz⟩⟩), by decide, by decide, cl_L_15, ca_xIS, ?_⟩
      refine v_astore (pc := 21) dL_part_21 rfl (by decide) ?_
      refine v_iconst (pc := 23) (v := 3) dL_part_23 (by decide) ?_
      refine v_iret (pc := 24) hR dL_part_24 ⟨by decide, by decide⟩ ?_
      exact WP.err hG1 hA ho hTo (by decide) (by decide) hk
abbrev rw_L_opens : Room := { frames := 7, cells := 1, slots := 6, locals := 132 }
theorem wl_opens : Cond.codeWith yL_opens cL_opens 4 (Option.some Jvm.ClassFile.FieldType.int) [(0, 9, 12, 21)] ∈ lw_all := (lw_mem 726 (by decide +kernel) rfl)
set_option maxRecDepth 100000 in
set_option maxHeartbeats 400000 in
theorem c_L_opens (D : DT) (G : GT) (X : XT) (s : SG) (A : Nat → Prop) (o : Nat) (c : Nat) (p0 : Int32) (hG : LF X s G) (hA : X.2.2.2 = (A, G)) (ho : A o) (hTo : G.1 o = 12 ∧ G.2.1 o = 1) (h : CV s c) (hc : s.1 28 0 = nI c) (hc2 : c ≤ 6) (hsl : ∀ f, f < 6 → X.2.2.1 5 f = decide (f < c)) : ML yL_opens cL_opens 4 (Option.some Jvm.ClassFile.FieldType.int) [(0, 9, 12, 21)] rw_L_opens D [.ref (X.1 0 0), .int p0, .ref o] G (WP A o 12 X s G (fun G' X' s' => G'.2.2.2.1 o 0 = ((opS s (nat p0))).toInt64 ∧ X'.2.1 = X.2.1 ∧ X'.2.2.1 = X.2.2.1 ∧ s' = s ∧ kOp c p0 = 0) (fun k => kOp c p0 = k)) := by
  refine ML_of (by decide +kernel) (Nat.le_of_ble_eq_true rfl) (fun K sz hR hX => ?_)
  show V cL_opens _ 4 _ D K 0 [some (.ref (X.1 0 0)), some (.int p0), some (.ref o), none] [] G (0, 0)
  have hAo : ∀ G1 : GT, ∀ X1 s1, LF X1 s1 G1 → X1.2.2.2 = X.2.2.2 → G1.1 o = 12 ∧ G1.2.1 o = 1 := fun G1 X1 s1 h1 e1 => by
    have := (h1.2.2.2 o (by rw [show X1.2.2.2.1 = A from congrArg (fun z => z.1) (e1.trans hA)]; exact ho)).2.2
    rw [show X1.2.2.2.2 = G from congrArg (fun z => z.2) (e1.trans hA)] at this
    exact ⟨this.1.trans hTo.1, this.2.1.trans hTo.2⟩
  refine v_aload_n (pc := 0) dL_opens_0 rfl rfl ?_
  refine v_iconst (pc := 1) (v := 0) dL_opens_1 (by decide) ?_
  refine v_aload_n (pc := 2) dL_opens_2 rfl rfl ?_
  refine v_iload_n (pc := 3) dL_opens_3 rfl rfl ?_
  refine v_try (pc := 4) (As := [.int p0]) (rest := [.int 0, .ref o]) hX dL_opens_4 cw_L_92 im_yX8_opens se_yX8_opens ((c_X8_opens D X s c p0 h hc hc2 hsl) G hG) ((hG.1 0 0 (hG.2.2.1 0 (by decide))).1.2.1) rfl rfl rfl (Nat.le_of_ble_eq_true rfl) ⟨Nat.le_of_ble_eq_true rfl, Nat.le_of_ble_eq_true rfl⟩ ⟨by decide, by decide⟩ (fun v G1 hp => ?_) (fun E9 G1 q9 hp => ?_)
  · obtain ⟨s1, hG1, hv1, hr1⟩ := hp
    subst hv1
    have hT1 := hAo _ _ _ hG1 rfl
    obtain ⟨T, N, I, J, E, Rf⟩ := G1
    refine v_i2l (pc := 7) dL_opens_7 ?_
    refine v_last (pc := 8) (j := 0) dL_opens_8 hT1.1 hT1.2 rfl (by decide) (by decide) ?_
    refine v_goto (pc := 9) (tgt := 15) dL_opens_9 (by decide) ?_
    refine v_iconst (pc := 15) (v := 0) dL_opens_15 (by decide) ?_
    refine v_iret (pc := 16) hR dL_opens_16 ⟨by decide, by decide⟩ ?_
    exact WP.ok hG1 hA rfl (fun c _ => rfl) ho (fun p hp => ⟨rfl, rfl, rfl, funext fun j => by simp [u2, hp], rfl, rfl⟩) hT1 (by decide) ⟨u2_s _ _ _ _, rfl, rfl, hr1⟩
  · obtain ⟨hG1, hp⟩ := hp
    rcases hp with ⟨rfl, hk⟩
    · refine ⟨[], ⟨0, 9, 12, 21⟩, [], xIO, rfl, (fun z hz => nomatch hz), by decide, by decide, cl_L_21, ca_xIO, ?_⟩
      refine v_astore_n (pc := 12) dL_opens_12 rfl rfl (by decide) ?_
      refine v_iconst (pc := 13) (v := 1) dL_opens_13 (by decide) ?_
      refine v_iret (pc := 14) hR dL_opens_14 ⟨by decide, by decide⟩ ?_
      exact WP.err hG1 hA ho hTo (by decide) (by decide) hk
abbrev rw_L_seal : Room := { frames := 7, cells := 1, slots := 6, locals := 148 }
theorem wl_seal : Cond.codeWith yL_seal cL_seal 5 (Option.some Jvm.ClassFile.FieldType.int) [(0, 10, 13, 21), (0, 10, 17, 15)] ∈ lw_all := (lw_mem 741 (by decide +kernel) rfl)
set_option maxRecDepth 100000 in
set_option maxHeartbeats 400000 in
theorem c_L_seal (D : DT) (G : GT) (X : XT) (s : SG) (A : Nat → Prop) (o : Nat) (c n : Nat) (p0 : Int32) (p1 : Int32) (hG : LF X s G) (hA : X.2.2.2 = (A, G)) (ho : A o) (hTo : G.1 o = 12 ∧ G.2.1 o = 1) (h : CV s c) (h33 : ∀ j, j < c → (s.1 32 j = -1 ↔ s.1 33 j = -1)) (hn : s.1 45 0 = nI n) (hn5 : n < 512) (hc : s.1 28 0 = nI c) (hc2 : c ≤ 6) (hsl : ∀ f, f < 6 → X.2.2.1 5 f = decide (f < c)) : ML yL_seal cL_seal 5 (Option.some Jvm.ClassFile.FieldType.int) [(0, 10, 13, 21), (0, 10, 17, 15)] rw_L_seal D [.ref (X.1 0 0), .int p0, .int p1, .ref o] G (WP A o 12 X s G (fun G' X' s' => G'.2.2.2.1 o 0 = ((s.1 34 (nat p0) + 1)).toInt64 ∧ X'.2.1 = X.2.1 ∧ X'.2.2.1 = X.2.2.1 ∧ s' = noteS (gSeal s (nat p0) p1) (nat p0) 3 n ∧ kSeal s c p0 p1 = 0) (fun k => kSeal s c p0 p1 = k)) := by
  refine ML_of (by decide +kernel) (Nat.le_of_ble_eq_true rfl) (fun K sz hR hX => ?_)
  show V cL_seal _ 5 _ D K 0 [some (.ref (X.1 0 0)), some (.int p0), some (.int p1), some (.ref o), none] [] G (0, 0)
  have hAo : ∀ G1 : GT, ∀ X1 s1, LF X1 s1 G1 → X1.2.2.2 = X.2.2.2 → G1.1 o = 12 ∧ G1.2.1 o = 1 := fun G1 X1 s1 h1 e1 => by
    have := (h1.2.2.2 o (by rw [show X1.2.2.2.1 = A from congrArg (fun z => z.1) (e1.trans hA)]; exact ho)).2.2
    rw [show X1.2.2.2.2 = G from congrArg (fun z => z.2) (e1.trans hA)] at this
    exact ⟨this.1.trans hTo.1, this.2.1.trans hTo.2⟩
  refine v_aload_n (pc := 0) dL_seal_0 rfl rfl ?_
  refine v_iconst (pc := 1) (v := 0) dL_seal_1 (by decide) ?_
  refine v_aload_n (pc := 2) dL_seal_2 rfl rfl ?_
  refine v_iload_n (pc := 3) dL_seal_3 rfl rfl ?_
  refine v_iload_n (pc := 4) dL_seal_4 rfl rfl ?_
  refine v_try (pc := 5) (As := [.int p0, .int p1]) (rest := [.int 0, .ref o]) hX dL_seal_5 cw_L_95 im_yX8_seal se_yX8_seal ((c_X8_seal D X s c n p0 p1 h h33 hn hn5 hc hc2 hsl) G hG) ((hG.1 0 0 (hG.2.2.1 0 (by decide))).1.2.1) rfl rfl rfl (Nat.le_of_ble_eq_true rfl) ⟨Nat.le_of_ble_eq_true rfl, Nat.le_of_ble_eq_true rfl⟩ ⟨by decide, by decide⟩ (fun v G1 hp => ?_) (fun E9 G1 q9 hp => ?_)
  · obtain ⟨s1, hG1, hv1, hr1⟩ := hp
    subst hv1
    have hT1 := hAo _ _ _ hG1 rfl
    obtain ⟨T, N, I, J, E, Rf⟩ := G1
    refine v_i2l (pc := 8) dL_seal_8 ?_
    refine v_last (pc := 9) (j := 0) dL_seal_9 hT1.1 hT1.2 rfl (by decide) (by decide) ?_
    refine v_goto (pc := 10) (tgt := 21) dL_seal_10 (by decide) ?_
    refine v_iconst (pc := 21) (v := 0) dL_seal_21 (by decide) ?_
    refine v_iret (pc := 22) hR dL_seal_22 ⟨by decide, by decide⟩ ?_
    exact WP.ok hG1 hA rfl (fun c _ => rfl) ho (fun p hp => ⟨rfl, rfl, rfl, funext fun j => by simp [u2, hp], rfl, rfl⟩) hT1 (by decide) ⟨u2_s _ _ _ _, rfl, rfl, hr1⟩
  · obtain ⟨hG1, hp⟩ := hp
    rcases hp with ⟨rfl, hk⟩ | ⟨rfl, hk⟩
    · refine ⟨[], ⟨0, 10, 13, 21⟩, [⟨0, 10, 17, 15⟩], xIO, rfl, (fun z hz => nomatch hz), by decide, by decide, cl_L_21, ca_xIO, ?_⟩
      refine v_astore (pc := 13) dL_seal_13 rfl (by decide) ?_
      refine v_iconst (pc := 15) (v := 1) dL_seal_15 (by decide) ?_
      refine v_iret (pc := 16) hR dL_seal_16 ⟨by decide, by decide⟩ ?_
      exact WP.err hG1 hA ho hTo (by decide) (by decide) hk
    · refine ⟨[⟨0, 10, 13, 21⟩], ⟨0, 10, 17, 15⟩, [], xIS, rfl, (List.forall_mem_cons.mpr ⟨Or.inr ⟨by decide, xIO, cl_L_21, (Or.inr (Or.inl ⟨rfl, rfl⟩))⟩, fun z hz => nomatch hz⟩), by decide, by decide, cl_L_15, ca_xIS, ?_⟩
      refine v_astore (pc := 17) dL_seal_17 rfl (by decide) ?_
      refine v_iconst (pc := 19) (v := 2) dL_seal_19 (by decide) ?_
      refine v_iret (pc := 20) hR dL_seal_20 ⟨by decide, by decide⟩ ?_
      exact WP.err hG1 hA ho hTo (by decide) (by decide) hk
abbrev rw_L_use : Room := { frames := 7, cells := 1, slots := 6, locals := 133 }
theorem wl_use : Cond.codeWith yL_use cL_use 4 (Option.some Jvm.ClassFile.FieldType.int) [(0, 9, 12, 21), (0, 9, 15, 15)] ∈ lw_all := (lw_mem 761 (by decide +kernel) rfl)
set_option maxRecDepth 100000 in
set_option maxHeartbeats 400000 in
theorem c_L_use (D : DT) (G : GT) (X : XT) (s : SG) (A : Nat → Prop) (o : Nat) (c n : Nat) (p0 : Int32) (hG : LF X s G) (hA : X.2.2.2 = (A, G)) (ho : A o) (hTo : G.1 o = 12 ∧ G.2.1 o = 1) (h : CV s c) (h33 : ∀ j, j < c → (s.1 32 j = -1 ↔ s.1 33 j = -1)) (hn : s.1 45 0 = nI n) (hn5 : n < 512) (hc : s.1 28 0 = nI c) (hc2 : c ≤ 6) (hsl : ∀ f, f < 6 → X.2.2.1 5 f = decide (f < c)) : ML yL_use cL_use 4 (Option.some Jvm.ClassFile.FieldType.int) [(0, 9, 12, 21), (0, 9, 15, 15)] rw_L_use D [.ref (X.1 0 0), .int p0, .ref o] G (WP A o 12 X s G (fun G' X' s' => G'.2.2.2.1 o 0 = ((s.1 32 (nat p0))).toInt64 ∧ X'.2.1 = X.2.1 ∧ X'.2.2.1 = X.2.2.1 ∧ s' = noteS (gUse s (nat p0)) (nat p0) 4 n ∧ kUse s c p0 = 0) (fun k => kUse s c p0 = k)) := by
  refine ML_of (by decide +kernel) (Nat.le_of_ble_eq_true rfl) (fun K sz hR hX => ?_)
  show V cL_use _ 4 _ D K 0 [some (.ref (X.1 0 0)), some (.int p0), some (.ref o), none] [] G (0, 0)
  have hAo : ∀ G1 : GT, ∀ X1 s1, LF X1 s1 G1 → X1.2.2.2 = X.2.2.2 → G1.1 o = 12 ∧ G1.2.1 o = 1 := fun G1 X1 s1 h1 e1 => by
    have := (h1.2.2.2 o (by rw [show X1.2.2.2.1 = A from congrArg (fun z => z.1) (e1.trans hA)]; exact ho)).2.2
    rw [show X1.2.2.2.2 = G from congrArg (fun z => z.2) (e1.trans hA)] at this
    exact ⟨this.1.trans hTo.1, this.2.1.trans hTo.2⟩
  refine v_aload_n (pc := 0) dL_use_0 rfl rfl ?_
  refine v_iconst (pc := 1) (v := 0) dL_use_1 (by decide) ?_
  refine v_aload_n (pc := 2) dL_use_2 rfl rfl ?_
  refine v_iload_n (pc := 3) dL_use_3 rfl rfl ?_
  refine v_try (pc := 4) (As := [.int p0]) (rest := [.int 0, .ref o]) hX dL_use_4 cw_L_98 im_yX8_use se_yX8_use ((c_X8_use D X s c n p0 h h33 hn hn5 hc hc2 hsl) G hG) ((hG.1 0 0 (hG.2.2.1 0 (by decide))).1.2.1) rfl rfl rfl (Nat.le_of_ble_eq_true rfl) ⟨Nat.le_of_ble_eq_true rfl, Nat.le_of_ble_eq_true rfl⟩ ⟨by decide, by decide⟩ (fun v G1 hp => ?_) (fun E9 G1 q9 hp => ?_)
  · obtain ⟨s1, hG1, hv1, hr1⟩ := hp
    subst hv1
    have hT1 := hAo _ _ _ hG1 rfl
    obtain ⟨T, N, I, J, E, Rf⟩ := G1
    refine v_i2l (pc := 7) dL_use_7 ?_
    refine v_last (pc := 8) (j := 0) dL_use_8 hT1.1 hT1.2 rfl (by decide) (by decide) ?_
    refine v_goto (pc := 9) (tgt := 18) dL_use_9 (by decide) ?_
    refine v_iconst (pc := 18) (v := 0) dL_use_18 (by decide) ?_
    refine v_iret (pc := 19) hR dL_use_19 ⟨by decide, by decide⟩ ?_
    exact WP.ok hG1 hA rfl (fun c _ => rfl) ho (fun p hp => ⟨rfl, rfl, rfl, funext fun j => by simp [u2, hp], rfl, rfl⟩) hT1 (by decide) ⟨u2_s _ _ _ _, rfl, rfl, hr1⟩
  · obtain ⟨hG1, hp⟩ := hp
    rcases hp with ⟨rfl, hk⟩ | ⟨rfl, hk⟩
    · refine ⟨[], ⟨0, 9, 12, 21⟩, [⟨0, 9, 15, 15⟩], xIO, rfl, (fun z hz => nomatch hz), by decide, by decide, cl_L_21, ca_xIO, ?_⟩
      refine v_astore_n (pc := 12) dL_use_12 rfl rfl (by decide) ?_
      refine v_iconst (pc := 13) (v := 1) dL_use_13 (by decide) ?_
      refine v_iret (pc := 14) hR dL_use_14 ⟨by decide, by decide⟩ ?_
      exact WP.err hG1 hA ho hTo (by decide) (by decide) hk
    · refine ⟨[⟨0, 9, 12, 21⟩], ⟨0, 9, 15, 15⟩, [], xIS, rfl, (List.forall_mem_cons.mpr ⟨Or.inr ⟨by decide, xIO, cl_L_21, (Or.inr (Or.inl ⟨rfl, rfl⟩))⟩, fun z hz => nomatch hz⟩), by decide, by decide, cl_L_15, ca_xIS, ?_⟩
      refine v_astore_n (pc := 15) dL_use_15 rfl rfl (by decide) ?_
      refine v_iconst (pc := 16) (v := 2) dL_use_16 (by decide) ?_
      refine v_iret (pc := 17) hR dL_use_17 ⟨by decide, by decide⟩ ?_
      exact WP.err hG1 hA ho hTo (by decide) (by decide) hk
abbrev rw_L_wet : Room := { frames := 7, cells := 1, slots := 6, locals := 133 }
theorem wl_wet : Cond.codeWith yL_wet cL_wet 5 (Option.some Jvm.ClassFile.FieldType.int) [(0, 10, 13, 21), (0, 10, 17, 15)] ∈ lw_all := (lw_mem 773 (by decide +kernel) rfl)
set_option maxRecDepth 100000 in
set_option maxHeartbeats 400000 in
theorem c_L_wet (D : DT) (G : GT) (X : XT) (s : SG) (A : Nat → Prop) (o : Nat) (c n : Nat) (p0 : Int32) (p1 : Int32) (hG : LF X s G) (hA : X.2.2.2 = (A, G)) (ho : A o) (hTo : G.1 o = 12 ∧ G.2.1 o = 1) (h : CV s c) (h33 : ∀ j, j < c → (s.1 32 j = -1 ↔ s.1 33 j = -1)) (hn : s.1 45 0 = nI n) (hn5 : n < 512) (hc : s.1 28 0 = nI c) (hc2 : c ≤ 6) (hsl : ∀ f, f < 6 → X.2.2.1 5 f = decide (f < c)) : ML yL_wet cL_wet 5 (Option.some Jvm.ClassFile.FieldType.int) [(0, 10, 13, 21), (0, 10, 17, 15)] rw_L_wet D [.ref (X.1 0 0), .int p0, .int p1, .ref o] G (WP A o 12 X s G (fun G' X' s' => G'.2.2.2.1 o 0 = (((gWet s (nat p0) p1).1 37 (nat p0))).toInt64 ∧ X'.2.1 = X.2.1 ∧ X'.2.2.1 = X.2.2.1 ∧ s' = (if p1 = 0 then noteS (gWet s (nat p0) p1) (nat p0) 5 n else sI s 37 (nat p0) 0) ∧ kWet s c p0 = 0) (fun k => kWet s c p0 = k)) := by
  refine ML_of (by decide +kernel) (Nat.le_of_ble_eq_true rfl) (fun K sz hR hX => ?_)
  show V cL_wet _ 5 _ D K 0 [some (.ref (X.1 0 0)), some (.int p0), some (.int p1), some (.ref o), none] [] G (0, 0)
  have hAo : ∀ G1 : GT, ∀ X1 s1, LF X1 s1 G1 → X1.2.2.2 = X.2.2.2 → G1.1 o = 12 ∧ G1.2.1 o = 1 := fun G1 X1 s1 h1 e1 => by
    have := (h1.2.2.2 o (by rw [show X1.2.2.2.1 = A from congrArg (fun z => z.1) (e1.trans hA)]; exact ho)).2.2
    rw [show X1.2.2.2.2 = G from congrArg (fun z => z.2) (e1.trans hA)] at this
    exact ⟨this.1.trans hTo.1, this.2.1.trans hTo.2⟩
  refine v_aload_n (pc := 0) dL_wet_0 rfl rfl ?_
  refine v_iconst (pc := 1) (v := 0) dL_wet_1 (by decide) ?_
  refine v_aload_n (pc := 2) dL_wet_2 rfl rfl ?_
  refine v_iload_n (pc := 3) dL_wet_3 rfl rfl ?_
  refine v_iload_n (pc := 4) dL_wet_4 rfl rfl ?_
  refine v_try (pc := 5) (As := [.int p0, .int p1]) (rest := [.int 0, .ref o]) hX dL_wet_5 cw_L_101 im_yX8_wet se_yX8_wet ((c_X8_wet D X s c n p0 p1 h h33 hn hn5 hc hc2 hsl) G hG) ((hG.1 0 0 (hG.2.2.1 0 (by decide))).1.2.1) rfl rfl rfl (Nat.le_of_ble_eq_true rfl) ⟨Nat.le_of_ble_eq_true rfl, Nat.le_of_ble_eq_true rfl⟩ ⟨by decide, by decide⟩ (fun v G1 hp => ?_) (fun E9 G1 q9 hp => ?_)
  · obtain ⟨s1, hG1, hv1, hr1⟩ := hp
    subst hv1
    have hT1 := hAo _ _ _ hG1 rfl
    obtain ⟨T, N, I, J, E, Rf⟩ := G1
    refine v_i2l (pc := 8) dL_wet_8 ?_
    refine v_last (pc := 9) (j := 0) dL_wet_9 hT1.1 hT1.2 rfl (by decide) (by decide) ?_
    refine v_goto (pc := 10) (tgt := 21) dL_wet_10 (by decide) ?_
    refine v_iconst (pc := 21) (v := 0) dL_wet_21 (by decide) ?_
    refine v_iret (pc := 22) hR dL_wet_22 ⟨by decide, by decide⟩ ?_
    exact WP.ok hG1 hA rfl (fun c _ => rfl) ho (fun p hp => ⟨rfl, rfl, rfl, funext fun j => by simp [u2, hp], rfl, rfl⟩) hT1 (by decide) ⟨u2_s _ _ _ _, rfl, rfl, hr1⟩
  · obtain ⟨hG1, hp⟩ := hp
    rcases hp with ⟨rfl, hk⟩ | ⟨rfl, hk⟩
    · refine ⟨[], ⟨0, 10, 13, 21⟩, [⟨0, 10, 17, 15⟩], xIO, rfl, (fun z hz => nomatch hz), by decide, by decide, cl_L_21, ca_xIO, ?_⟩
      refine v_astore (pc := 13) dL_wet_13 rfl (by decide) ?_
      refine v_iconst (pc := 15) (v := 1) dL_wet_15 (by decide) ?_
      refine v_iret (pc := 16) hR dL_wet_16 ⟨by decide, by decide⟩ ?_
      exact WP.err hG1 hA ho hTo (by decide) (by decide) hk
    · refine ⟨[⟨0, 10, 13, 21⟩], ⟨0, 10, 17, 15⟩, [], xIS, rfl, (List.forall_mem_cons.mpr ⟨Or.inr ⟨by decide, xIO, cl_L_21, (Or.inr (Or.inl ⟨rfl, rfl⟩))⟩, fun z hz => nomatch hz⟩), by decide, by decide, cl_L_15, ca_xIS, ?_⟩
      refine v_astore (pc := 17) dL_wet_17 rfl (by decide) ?_
      refine v_iconst (pc := 19) (v := 2) dL_wet_19 (by decide) ?_
      refine v_iret (pc := 20) hR dL_wet_20 ⟨by decide, by decide⟩ ?_
      exact WP.err hG1 hA ho hTo (by decide) (by decide) hk
abbrev rw_L_find : Room := { frames := 7, cells := 1, slots := 6, locals := 133 }
theorem wl_find : Cond.codeWith yL_find cL_find 5 (Option.some Jvm.ClassFile.FieldType.int) [(0, 10, 13, 21), (0, 10, 17, 15)] ∈ lw_all := (lw_mem 781 (by decide +kernel) rfl)
set_option maxRecDepth 100000 in
set_option maxHeartbeats 400000 in
theorem c_L_find (D : DT) (G : GT) (X : XT) (s : SG) (A : Nat → Prop) (o : Nat) (a c : Nat) (p0 : Int32) (p1 : Int32) (hG : LF X s G) (hA : X.2.2.2 = (A, G)) (ho : A o) (hTo : G.1 o = 12 ∧ G.2.1 o = 1) (hz : p1 = 0 ∨ p1 = 1) (h33 : ∀ j, j < c → (s.1 32 j = -1 ↔ s.1 33 j = -1)) (hn0 : s.1 0 0 = nI a) (ha : a ≤ 6) (hsl0 : ∀ f, f < 6 → X.2.2.1 1 f = decide (f < a)) (hc2 : c ≤ 6) (hsl : ∀ f, f < 6 → X.2.2.1 5 f = decide (f < c)) : ML yL_find cL_find 5 (Option.some Jvm.ClassFile.FieldType.int) [(0, 10, 13, 21), (0, 10, 17, 15)] rw_L_find D [.ref (X.1 0 0), .int p0, .int p1, .ref o] G (WP A o 12 X s G (fun G' X' s' => G'.2.2.2.1 o 0 = ((nI (gFind s c (nat p0) p1).2)).toInt64 ∧ X'.2.1 = X.2.1 ∧ X'.2.2.1 = X.2.2.1 ∧ s' = (gFind s c (nat p0) p1).1 ∧ kFind s a p0 p1 = 0) (fun k => kFind s a p0 p1 = k)) := by
  refine ML_of (by decide +kernel) (Nat.le_of_ble_eq_true rfl) (fun K sz hR hX => ?_)
  show V cL_find _ 5 _ D K 0 [some (.ref (X.1 0 0)), some (.int p0), some (.int p1), some (.ref o), none] [] G (0, 0)
  have hAo : ∀ G1 : GT, ∀ X1 s1, LF X1 s1 G1 → X1.2.2.2 = X.2.2.2 → G1.1 o = 12 ∧ G1.2.1 o = 1 := fun G1 X1 s1 h1 e1 => by
    have := (h1.2.2.2 o (by rw [show X1.2.2.2.1 = A from congrArg (fun z => z.1) (e1.trans hA)]; exact ho)).2.2
    rw [show X1.2.2.2.2 = G from congrArg (fun z => z.2) (e1.trans hA)] at this
    exact ⟨this.1.trans hTo.1, this.2.1.trans hTo.2⟩
  refine v_aload_n (pc := 0) dL_find_0 rfl rfl ?_
  refine v_iconst (pc := 1) (v := 0) dL_find_1 (by decide) ?_
  refine v_aload_n (pc := 2) dL_find_2 rfl rfl ?_
  refine v_iload_n (pc := 3) dL_find_3 rfl rfl ?_
  refine v_iload_n (pc := 4) dL_find_4 rfl rfl ?_
  refine v_try (pc := 5) (As := [.int p0, .int p1]) (rest := [.int 0, .ref o]) hX dL_find_5 cw_L_105 im_yX8_find se_yX8_find ((c_X8_find D X s a c p0 p1 hz h33 hn0 ha hsl0 hc2 hsl) G hG) ((hG.1 0 0 (hG.2.2.1 0 (by decide))).1.2.1) rfl rfl rfl (Nat.le_of_ble_eq_true rfl) ⟨Nat.le_of_ble_eq_true rfl, Nat.le_of_ble_eq_true rfl⟩ ⟨by decide, by decide⟩ (fun v G1 hp => ?_) (fun E9 G1 q9 hp => ?_)
  · obtain ⟨s1, hG1, hv1, hr1⟩ := hp
    subst hv1
    have hT1 := hAo _ _ _ hG1 rfl
    obtain ⟨T, N, I, J, E, Rf⟩ := G1
    refine v_i2l (pc := 8) dL_find_8 ?_
    refine v_last (pc := 9) (j := 0) dL_find_9 hT1.1 hT1.2 rfl (by decide) (by decide) ?_
    refine v_goto (pc := 10) (tgt := 21) dL_find_10 (by decide) ?_
    refine v_iconst (pc := 21) (v := 0) dL_find_21 (by decide) ?_
    refine v_iret (pc := 22) hR dL_find_22 ⟨by decide, by decide⟩ ?_
    exact WP.ok hG1 hA rfl (fun c _ => rfl) ho (fun p hp => ⟨rfl, rfl, rfl, funext fun j => by simp [u2, hp], rfl, rfl⟩) hT1 (by decide) ⟨u2_s _ _ _ _, rfl, rfl, hr1⟩
  · obtain ⟨hG1, hp⟩ := hp
    rcases hp with ⟨rfl, hk⟩ | ⟨rfl, hk⟩
    · refine ⟨[], ⟨0, 10, 13, 21⟩, [⟨0, 10, 17, 15⟩], xIO, rfl, (fun z hz => nomatch hz), by decide, by decide, cl_L_21, ca_xIO, ?_⟩
      refine v_astore (pc := 13) dL_find_13 rfl (by decide) ?_
      refine v_iconst (pc := 15) (v := 1) dL_find_15 (by decide) ?_
      refine v_iret (pc := 16) hR dL_find_16 ⟨by decide, by decide⟩ ?_
      exact WP.err hG1 hA ho hTo (by decide) (by decide) hk
    · refine ⟨[⟨0, 10, 13, 21⟩], ⟨0, 10, 17, 15⟩, [], xIS, rfl, (List.forall_mem_cons.mpr ⟨Or.inr ⟨by decide, xIO, cl_L_21, (Or.inr (Or.inl ⟨rfl, rfl⟩))⟩, fun z hz => nomatch hz⟩), by decide, by decide, cl_L_15, ca_xIS, ?_⟩
      refine v_astore (pc := 17) dL_find_17 rfl (by decide) ?_
      refine v_iconst (pc := 19) (v := 2) dL_find_19 (by decide) ?_
      refine v_iret (pc := 20) hR dL_find_20 ⟨by decide, by decide⟩ ?_
      exact WP.err hG1 hA ho hTo (by decide) (by decide) hk
abbrev rw_L_ofCanopy : Room := { frames := 7, cells := 1, slots := 6, locals := 133 }
theorem wl_ofCanopy : Cond.codeWith yL_ofCanopy cL_ofCanopy 5 (Option.some Jvm.ClassFile.FieldType.int) [(0, 10, 13, 21), (0, 10, 17, 13)] ∈ lw_all := (lw_mem 793 (by decide +kernel) rfl)
set_option maxRecDepth 100000 in
set_option maxHeartbeats 400000 in
theorem c_L_ofCanopy (D : DT) (G : GT) (X : XT) (s : SG) (A : Nat → Prop) (o : Nat) (c : Nat) (p0 : Int32) (p1 : Int32) (hG : LF X s G) (hA : X.2.2.2 = (A, G)) (ho : A o) (hTo : G.1 o = 12 ∧ G.2.1 o = 1) (h : CV s c) (hc : s.1 28 0 = nI c) (hc2 : c ≤ 6) (hsl : ∀ f, f < 6 → X.2.2.1 5 f = decide (f < c)) : ML yL_ofCanopy cL_ofCanopy 5 (Option.some Jvm.ClassFile.FieldType.int) [(0, 10, 13, 21), (0, 10, 17, 13)] rw_L_ofCanopy D [.ref (X.1 0 0), .int p0, .int p1, .ref o] G (WP A o 12 X s G (fun G' X' s' => G'.2.2.2.1 o 0 = ((ofS s (nat p0) p1)).toInt64 ∧ X'.2.1 = X.2.1 ∧ X'.2.2.1 = X.2.2.1 ∧ s' = s ∧ kOf c p0 p1 0 5 = 0) (fun k => kOf c p0 p1 0 5 = k)) := by
  refine ML_of (by decide +kernel) (Nat.le_of_ble_eq_true rfl) (fun K sz hR hX => ?_)
  show V cL_ofCanopy _ 5 _ D K 0 [some (.ref (X.1 0 0)), some (.int p0), some (.int p1), some (.ref o), none] [] G (0, 0)
  have hAo : ∀ G1 : GT, ∀ X1 s1, LF X1 s1 G1 → X1.2.2.2 = X.2.2.2 → G1.1 o = 12 ∧ G1.2.1 o = 1 := fun G1 X1 s1 h1 e1 => by
    have := (h1.2.2.2 o (by rw [show X1.2.2.2.1 = A from congrArg (fun z => z.1) (e1.trans hA)]; exact ho)).2.2
    rw [show X1.2.2.2.2 = G from congrArg (fun z => z.2) (e1.trans hA)] at this
    exact ⟨this.1.trans hTo.1, this.2.1.trans hTo.2⟩
  refine v_aload_n (pc := 0) dL_ofCanopy_0 rfl rfl ?_
  refine v_iconst (pc := 1) (v := 0) dL_ofCanopy_1 (by decide) ?_
  refine v_aload_n (pc := 2) dL_ofCanopy_2 rfl rfl ?_
  refine v_iload_n (pc := 3) dL_ofCanopy_3 rfl rfl ?_
  refine v_iload_n (pc := 4) dL_ofCanopy_4 rfl rfl ?_
  refine v_try (pc := 5) (As := [.int p0, .int p1]) (rest := [.int 0, .ref o]) hX dL_ofCanopy_5 cw_L_108 im_yX8_ofCanopy se_yX8_ofCanopy ((c_X8_ofCanopy D X s c p0 p1 h hc hc2 hsl) G hG) ((hG.1 0 0 (hG.2.2.1 0 (by decide))).1.2.1) rfl rfl rfl (Nat.le_of_ble_eq_true rfl) ⟨Nat.le_of_ble_eq_true rfl, Nat.le_of_ble_eq_true rfl⟩ ⟨by decide, by decide⟩ (fun v G1 hp => ?_) (fun E9 G1 q9 hp => ?_)
  · obtain ⟨s1, hG1, hv1, hr1⟩ := hp
    subst hv1
    have hT1 := hAo _ _ _ hG1 rfl
    obtain ⟨T, N, I, J, E, Rf⟩ := G1
    refine v_i2l (pc := 8) dL_ofCanopy_8 ?_
    refine v_last (pc := 9) (j := 0) dL_ofCanopy_9 hT1.1 hT1.2 rfl (by decide) (by decide) ?_
    refine v_goto (pc := 10) (tgt := 21) dL_ofCanopy_10 (by decide) ?_
    refine v_iconst (pc := 21) (v := 0) dL_ofCanopy_21 (by decide) ?_
    refine v_iret (pc := 22) hR dL_ofCanopy_22 ⟨by decide, by decide⟩ ?_
    exact WP.ok hG1 hA rfl (fun c _ => rfl) ho (fun p hp => ⟨rfl, rfl, rfl, funext fun j => by simp [u2, hp], rfl, rfl⟩) hT1 (by decide) ⟨u2_s _ _ _ _, rfl, rfl, hr1⟩
  · obtain ⟨hG1, hp⟩ := hp
    rcases hp with ⟨rfl, hk⟩ | ⟨rfl, hk⟩
    · refine ⟨[], ⟨0, 10, 13, 21⟩, [⟨0, 10, 17, 13⟩], xIO, rfl, (fun z hz => nomatch hz), by decide, by decide, cl_L_21, ca_xIO, ?_⟩
      refine v_astore (pc := 13) dL_ofCanopy_13 rfl (by decide) ?_
      refine v_iconst (pc := 15) (v := 1) dL_ofCanopy_15 (by decide) ?_
      refine v_iret (pc := 16) hR dL_ofCanopy_16 ⟨by decide, by decide⟩ ?_
      exact WP.err hG1 hA ho hTo (by decide) (by decide) hk
    · refine ⟨[⟨0, 10, 13, 21⟩], ⟨0, 10, 17, 13⟩, [], xIA, rfl, (List.forall_mem_cons.mpr ⟨Or.inr ⟨by decide, xIO, cl_L_21, (Or.inl ⟨rfl, rfl⟩)⟩, fun z hz => nomatch hz⟩), by decide, by decide, cl_L_13, ca_xIA, ?_⟩
      refine v_astore (pc := 17) dL_ofCanopy_17 rfl (by decide) ?_
      refine v_iconst (pc := 19) (v := 2) dL_ofCanopy_19 (by decide) ?_
      refine v_iret (pc := 20) hR dL_ofCanopy_20 ⟨by decide, by decide⟩ ?_
      exact WP.err hG1 hA ho hTo (by decide) (by decide) hk
abbrev rw_L_lifeAnew : Room := { frames := 7, cells := 1, slots := 6, locals := 132 }
theorem wl_lifeAnew : Cond.codeWith yL_lifeAnew cL_lifeAnew 5 (Option.some Jvm.ClassFile.FieldType.int) [(0, 10, 13, 21), (0, 10, 17, 13)] ∈ lw_all := (lw_mem 806 (by decide +kernel) rfl)
set_option maxRecDepth 100000 in
set_option maxHeartbeats 400000 in
theorem c_L_lifeAnew (D : DT) (G : GT) (X : XT) (s : SG) (A : Nat → Prop) (o : Nat) (c n : Nat) (p0 : Int32) (p1 : Int32) (hG : LF X s G) (hA : X.2.2.2 = (A, G)) (ho : A o) (hTo : G.1 o = 12 ∧ G.2.1 o = 1) (h : CV s c) (hg : LG s c n) (hn : s.1 45 0 = nI n) (hn5 : n ≤ 512) (hc : s.1 28 0 = nI c) (hc2 : c ≤ 6) (hsl : ∀ f, f < 6 → X.2.2.1 5 f = decide (f < c)) : ML yL_lifeAnew cL_lifeAnew 5 (Option.some Jvm.ClassFile.FieldType.int) [(0, 10, 13, 21), (0, 10, 17, 13)] rw_L_lifeAnew D [.ref (X.1 0 0), .int p0, .int p1, .ref o] G (WP A o 12 X s G (fun G' X' s' => G'.2.2.2.1 o 0 = ((lifeS s (nat p0) p1)).toInt64 ∧ X'.2.1 = X.2.1 ∧ X'.2.2.1 = X.2.2.1 ∧ s' = s ∧ kOf c p0 p1 3 5 = 0) (fun k => kOf c p0 p1 3 5 = k)) := by
  refine ML_of (by decide +kernel) (Nat.le_of_ble_eq_true rfl) (fun K sz hR hX => ?_)
  show V cL_lifeAnew _ 5 _ D K 0 [some (.ref (X.1 0 0)), some (.int p0), some (.int p1), some (.ref o), none] [] G (0, 0)
  have hAo : ∀ G1 : GT, ∀ X1 s1, LF X1 s1 G1 → X1.2.2.2 = X.2.2.2 → G1.1 o = 12 ∧ G1.2.1 o = 1 := fun G1 X1 s1 h1 e1 => by
    have := (h1.2.2.2 o (by rw [show X1.2.2.2.1 = A from congrArg (fun z => z.1) (e1.trans hA)]; exact ho)).2.2
    rw [show X1.2.2.2.2 = G from congrArg (fun z => z.2) (e1.trans hA)] at this
    exact ⟨this.1.trans hTo.1, this.2.1.trans hTo.2⟩
  refine v_aload_n (pc := 0) dL_lifeAnew_0 rfl rfl ?_
  refine v_iconst (pc := 1) (v := 0) dL_lifeAnew_1 (by decide) ?_
  refine v_aload_n (pc := 2) dL_lifeAnew_2 rfl rfl ?_
  refine v_iload_n (pc := 3) dL_lifeAnew_3 rfl rfl ?_
  refine v_iload_n (pc := 4) dL_lifeAnew_4 rfl rfl ?_
  refine v_try (pc := 5) (As := [.int p0, .int p1]) (rest := [.int 0, .ref o]) hX dL_lifeAnew_5 cw_L_111 im_yX8_lifeAnew se_yX8_lifeAnew ((c_X8_lifeAnew D X s c n p0 p1 h hg hn hn5 hc hc2 hsl) G hG) ((hG.1 0 0 (hG.2.2.1 0 (by decide))).1.2.1) rfl rfl rfl (Nat.le_of_ble_eq_true rfl) ⟨Nat.le_of_ble_eq_true rfl, Nat.le_of_ble_eq_true rfl⟩ ⟨by decide, by decide⟩ (fun v G1 hp => ?_) (fun E9 G1 q9 hp => ?_)
  · obtain ⟨s1, hG1, hv1, hr1⟩ := hp
    subst hv1
    have hT1 := hAo _ _ _ hG1 rfl
    obtain ⟨T, N, I, J, E, Rf⟩ := G1
    refine v_i2l (pc := 8) dL_lifeAnew_8 ?_
    refine v_last (pc := 9) (j := 0) dL_lifeAnew_9 hT1.1 hT1.2 rfl (by decide) (by decide) ?_
    refine v_goto (pc := 10) (tgt := 21) dL_lifeAnew_10 (by decide) ?_
    refine v_iconst (pc := 21) (v := 0) dL_lifeAnew_21 (by decide) ?_
    refine v_iret (pc := 22) hR dL_lifeAnew_22 ⟨by decide, by decide⟩ ?_
    exact WP.ok hG1 hA rfl (fun c _ => rfl) ho (fun p hp => ⟨rfl, rfl, rfl, funext fun j => by simp [u2, hp], rfl, rfl⟩) hT1 (by decide) ⟨u2_s _ _ _ _, rfl, rfl, hr1⟩
  · obtain ⟨hG1, hp⟩ := hp
    rcases hp with ⟨rfl, hk⟩ | ⟨rfl, hk⟩
    · refine ⟨[], ⟨0, 10, 13, 21⟩, [⟨0, 10, 17, 13⟩], xIO, rfl, (fun z hz => nomatch hz), by decide, by decide, cl_L_21, ca_xIO, ?_⟩
      refine v_astore (pc := 13) dL_lifeAnew_13 rfl (by decide) ?_
      refine v_iconst (pc := 15) (v := 1) dL_lifeAnew_15 (by decide) ?_
      refine v_iret (pc := 16) hR dL_lifeAnew_16 ⟨by decide, by decide⟩ ?_
      exact WP.err hG1 hA ho hTo (by decide) (by decide) hk
    · refine ⟨[⟨0, 10, 13, 21⟩], ⟨0, 10, 17, 13⟩, [], xIA, rfl, (List.forall_mem_cons.mpr ⟨Or.inr ⟨by decide, xIO, cl_L_21, (Or.inl ⟨rfl, rfl⟩)⟩, fun z hz => nomatch hz⟩), by decide, by decide, cl_L_13, ca_xIA, ?_⟩
      refine v_astore (pc := 17) dL_lifeAnew_17 rfl (by decide) ?_
      refine v_iconst (pc := 19) (v := 2) dL_lifeAnew_19 (by decide) ?_
      refine v_iret (pc := 20) hR dL_lifeAnew_20 ⟨by decide, by decide⟩ ?_
      exact WP.err hG1 hA ho hTo (by decide) (by decide) hk
