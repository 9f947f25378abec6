theorem it_0 : Cond.instantiable RX0 10 ∈ lw_all := (lw_mem 545 (by decide +kernel) rfl)
theorem it_1 : Cond.instantiable RX1 2 ∈ lw_all := (lw_mem 91 (by decide +kernel) rfl)
theorem it_2 : Cond.instantiable RX2 8 ∈ lw_all := (lw_mem 260 (by decide +kernel) rfl)
theorem it_3 : Cond.instantiable RX3 4 ∈ lw_all := (lw_mem 45 (by decide +kernel) rfl)
theorem it_4 : Cond.instantiable RX4 5 ∈ lw_all := (lw_mem 330 (by decide +kernel) rfl)
theorem it_5 : Cond.instantiable RX5 4 ∈ lw_all := (lw_mem 720 (by decide +kernel) rfl)
theorem it_6 : Cond.instantiable RX6 3 ∈ lw_all := (lw_mem 71 (by decide +kernel) rfl)
theorem it_7 : Cond.instantiable RX7 3 ∈ lw_all := (lw_mem 391 (by decide +kernel) rfl)
theorem it_8 : Cond.instantiable RX8 14 ∈ lw_all := (lw_mem 31 (by decide +kernel) rfl)
theorem ngW_in : ∀ w ∈ ngW, w ∈ lw_tbl := by decide +kernel
theorem ngS_in : ∀ q ∈ ngS, Cond.stringRef q.1 q.2.1 q.2.2 ∈ lw_tbl := by decide +kernel
theorem ng_of {w : Cond} (hw : w ∈ ngW) {A : Array Value} {U : State} (h : w.before A U = true) : va_Nw w U := by
  have hAO : ∀ C : String, (Cond.arrayOver (.object C)).before A U = true → va_Nw (.arrayOver (.object C)) U := fun C h => h
  simp only [ngW, List.mem_cons, List.not_mem_nil, or_false] at hw
  rcases hw with rfl | rfl | rfl | rfl | rfl | rfl | rfl | rfl | rfl | rfl | rfl | rfl | rfl | rfl | rfl | rfl | rfl
  · exact hAO _ h
  · exact hAO _ h
  · exact hAO _ h
  · exact hAO _ h
  · exact va_Nw.of rfl h
  · exact hAO _ h
  · exact va_Nw.of rfl h
  · exact va_Nw.of rfl h
  · exact va_Nw.of rfl h
  · exact va_Nw.of rfl h
  · exact va_Nw.of rfl h
  · exact va_Nw.of rfl h
  · exact va_Nw.of rfl h
  · exact va_Nw.of rfl h
  · exact va_Nw.of rfl h
  · exact va_Nw.of rfl h
  · exact va_Nw.of rfl h
theorem en_Nw {A : Array Value} {s : State} (hts : ∀ w ∈ lw_tbl, w.before A s = true) : ∀ w ∈ ngW, va_Nw w s := fun w hw => ng_of hw (hts w (ngW_in w hw))
theorem en_S {A : Array Value} {s : State} {cur : ClassId} (hts : ∀ w ∈ lw_tbl, w.before A s = true) (hcur : s.vm.findClass "BroadseamLoft" = some cur) : ∀ q ∈ ngS, ∃ sa, vk_R q.1 q.2.1 q.2.2 sa s := fun q hq => by
  have hc : q.1 = "BroadseamLoft" := by
    have h : ∀ q ∈ ngS, q.1 = "BroadseamLoft" := by decide
    exact h q hq
  have h1 := hts _ (ngS_in q hq)
  obtain ⟨k, cf, i, a, -, -, -, -, -, hev⟩ := Cond.stringRef_spec (cur := cur) (by rw [hc]; exact hcur) h1
  exact ⟨a, vk_R.of h1 hev⟩
theorem en_arr {A : Array Value} {s : State} (ty : FieldType) (hty : ∀ C, ty ≠ .object C) (h : (Cond.arrayClass ty).before A s = true) : ∃ cA, ArrOfT s cA ty ∧ va_RA s cA ty := by
  obtain ⟨c, k, comp, h1, h2, h3⟩ := Cond.arrayClass_spec h
  refine ⟨c, fun n z => ⟨fun k h => (by cases h), k, h2, comp, h3⟩, ?_⟩
  cases ty with
  | object C => exact absurd rfl (hty C)
  | _ => exact h1
theorem en_arq {A : Array Value} {s : State} (C : String) (h : (Cond.arrayOver (.object C)).before A s = true) : ∃ cA, ArrOfT s cA (.object C) ∧ va_RA s cA (.object C) := by
  obtain ⟨comp, c, k, h1, -, h2, h3, h4⟩ := Cond.arrayOver_spec h
  exact ⟨c, fun n z => ⟨fun k h => (by cases h), k, h2, comp, h3⟩, k, comp, h2, h3, h1, h4⟩
/-- the classes and the arrays, out of the words -/
theorem en_K {A : Array Value} {s : State} (hts : ∀ w ∈ lw_tbl, w.before A s = true) : ∃ D : DT, va_K D.1 cls (tysL D.2) s := by
  have hta : ∀ w ∈ lw_all, w.before A s = true := fun w hw => hts w (List.mem_filter.mp hw).1
  obtain ⟨c0, i0, h0⟩ := u_known hta inA0 (hta _ it_0)
  obtain ⟨c1, i1, h1⟩ := u_known hta inA1 (hta _ it_1)
  obtain ⟨c2, i2, h2⟩ := u_known hta inA2 (hta _ it_2)
  obtain ⟨c3, i3, h3⟩ := u_known hta inA3 (hta _ it_3)
  obtain ⟨c4, i4, h4⟩ := u_known hta inA4 (hta _ it_4)
  obtain ⟨c5, i5, h5⟩ := u_known hta inA5 (hta _ it_5)
  obtain ⟨c6, i6, h6⟩ := u_known hta inA6 (hta _ it_6)
  obtain ⟨c7, i7, h7⟩ := u_known hta inA7 (hta _ it_7)
  obtain ⟨c8, i8, h8⟩ := u_known hta inA8 (hta _ it_8)
  obtain ⟨a11, r11⟩ := en_arr .int (fun C h => by cases h) (hta _ aw_int)
  obtain ⟨a12, r12⟩ := en_arr .long (fun C h => by cases h) (hta _ aw_long)
  obtain ⟨a13, r13⟩ := en_arr .boolean (fun C h => by cases h) (hta _ aw_boolean)
  obtain ⟨a14, r14⟩ := en_arr .byte (fun C h => by cases h) (hta _ aw_byte)
  obtain ⟨a15, r15⟩ := en_arr .int (fun C h => by cases h) (hta _ aw_int)
  obtain ⟨a16, r16⟩ := en_arq RX2 (hts _ (ngW_in _ (by decide +kernel)))
  obtain ⟨a17, r17⟩ := en_arq RX4 (hts _ (ngW_in _ (by decide +kernel)))
  obtain ⟨a18, r18⟩ := en_arq RX7 (hts _ (ngW_in _ (by decide +kernel)))
  obtain ⟨a19, r19⟩ := en_arq RX5 (hts _ (ngW_in _ (by decide +kernel)))
  obtain ⟨a20, r20⟩ := en_arq RX0 (hts _ (ngW_in _ (by decide +kernel)))
  refine ⟨((fun c => match c with | 0 => c0 | 1 => c1 | 2 => c2 | 3 => c3 | 4 => c4 | 5 => c5 | 6 => c6 | 7 => c7 | _ => c8, fun c => match c with | 0 => i0 | 1 => i1 | 2 => i2 | 3 => i3 | 4 => i4 | 5 => i5 | 6 => i6 | 7 => i7 | _ => i8), fun k => match k with | 11 => a11 | 12 => a12 | 13 => a13 | 14 => a14 | 15 => a15 | 16 => a16 | 17 => a17 | 18 => a18 | 19 => a19 | _ => a20), fun c q hq => ?_, fun k q hq => ?_⟩
  · match c, hq with
    | 0, hq => cases hq; exact h0
    | 1, hq => cases hq; exact h1
    | 2, hq => cases hq; exact h2
    | 3, hq => cases hq; exact h3
    | 4, hq => cases hq; exact h4
    | 5, hq => cases hq; exact h5
    | 6, hq => cases hq; exact h6
    | 7, hq => cases hq; exact h7
    | 8, hq => cases hq; exact h8
    | n + 9, hq => cases hq
  · match k, hq with
    | 0, hq => cases hq; exact r11
    | 1, hq => cases hq; exact r12
    | 2, hq => cases hq; exact r13
    | 3, hq => cases hq; exact r14
    | 4, hq => cases hq; exact r15
    | 5, hq => cases hq; exact r16
    | 6, hq => cases hq; exact r17
    | 7, hq => cases hq; exact r18
    | 8, hq => cases hq; exact r19
    | 9, hq => cases hq; exact r20
    | n + 10, hq => cases hq
theorem s6_new {G : GT} {q k z p : Nat} (h : p ≠ q) : same6 (Gnew G q k z) G p := by
  refine ⟨u1_n _ _ h, u1_n _ _ h, ?_, ?_, ?_, ?_⟩ <;> exact funext fun j => c2_n _ j _ h
theorem inv_0 {X : XT} (h2 : X.2.2.1 = fun _ _ => false) (hl : ∀ c i, X.2.1 c i = true → c < 13 ∧ i = 0) : INV X s0R 0 := by
  have hf : ∀ c i, 13 ≤ c → X.2.1 c i = false := fun c i hc => by
    cases h : X.2.1 c i with
    | false => rfl
    | true => exact absurd (hl c i h).1 (by omega)
  have r : ∀ k j, k ≠ 17 → s0R.1 k j = 0 := fun k j hk => if_neg (fun z => hk z.1)
  have sl : ∀ c f, X.2.2.1 c f = decide (f < 0) := fun c f => by rw [h2]; simp
  refine ⟨0, 0, 0, 0, 0, 0, ?_, ?_, ?_, ?_, ?_, ?_, ?_, ?_, fun c i _ h => (hl c i h).2⟩
  · exact ⟨r 0 0 (by decide), by decide, fun f _ => sl 1 f, fun i _ => ⟨hf _ _ (by decide), r 2 i (by decide), r 3 i (by decide)⟩, fun i hi => absurd hi (Nat.not_lt_zero _), fun i hi => absurd hi (Nat.not_lt_zero _)⟩
  · exact ⟨r 4 0 (by decide), by decide, fun f _ => sl 2 f, fun i _ => hf _ _ (by decide), fun i hi => absurd hi (Nat.not_lt_zero _), fun i hi => absurd hi (Nat.not_lt_zero _)⟩
  · refine ⟨r 9 0 (by decide), by decide, fun f _ => ?_, fun i _ => ⟨hf _ _ (by decide), r 13 i (by decide)⟩, fun i hi => absurd hi (Nat.not_lt_zero _)⟩
    rw [h2]; simp
  · exact ⟨r 19 0 (by decide), by decide, fun f _ => sl 4 f, fun i _ => ⟨hf _ _ (by decide), rfl⟩, fun i hi => absurd hi (Nat.not_lt_zero _)⟩
  · exact ⟨r 28 0 (by decide), by decide, fun f _ => sl 5 f, fun i _ => ⟨hf _ _ (by decide), hf _ _ (by decide), r 30 i (by decide), r 34 i (by decide), r 35 i (by decide), r 36 i (by decide), r 37 i (by decide), fun f _ => r 31 _ (by decide)⟩, fun i hi => absurd hi (Nat.not_lt_zero _), fun i hi => absurd hi (Nat.not_lt_zero _)⟩
  · exact ⟨r 45 0 (by decide), by decide, fun j hj => absurd hj (Nat.not_lt_zero _), fun i hi => absurd hi (Nat.not_lt_zero _)⟩
  · exact ⟨0, 0, 0, r 24 0 (by decide), r 25 0 (by decide), r 26 0 (by decide), by decide, by decide, by decide⟩
  · rw [r 27 0 (by decide)]; exact ⟨by decide, by decide⟩
set_option maxRecDepth 100000 in
set_option maxHeartbeats 1000000 in
theorem lw_V2 {D : DT} {K : KT} {b L : Nat} {xs : Nat → Int32} (hS : SC K b L xs) (hNC : NC3 K.2.2.2.1) (hL : L ≤ 260) (hend : ∀ (X : XT) (M : MT) (G : GT), V cL_law RL 10 room_1 D K 280 [some (.ref b), some (.ref (X.1 0 0)), some (.ref M.1.1), some (.ref M.1.2.1), some (.ref M.1.2.2), some (.int 1), some (.int (nI 130)), none, none, none] [] G (nu 300000)) (X : XT) (M : MT) (G : GT) (hW : WD X s0R M G) (hLI : LI X s0R M 0) : V cL_law RL 10 room_1 D K 24 [some (.ref b), some (.ref (X.1 0 0)), some (.ref M.1.1), some (.ref M.1.2.1), some (.ref M.1.2.2), none, none, none, none, none] [] G (nu 50) := by
  refine v_aload_n (pc := 24) dL_law_24 rfl rfl ?_
  refine v_aload_n (pc := 25) dL_law_25 rfl rfl ?_
  refine v_iconst (pc := 26) (v := nI 0) dL_law_26 (by decide) ?_
  refine vqM (pc := 27) (u := 50) (j := 1200) (U := 300052) (As := [.ref (X.1 0 0), .ref M.1.1, .int _]) hNC dL_law_27 cw_L_186 sm_yL_isRefused (c_L_isRefused D X s0R M G 0 0 (by decide) hW hLI (by decide)) rfl rfl (Nat.le_of_ble_eq_true rfl) ⟨Nat.le_of_ble_eq_true rfl, Nat.le_of_ble_eq_true rfl⟩ ⟨Nat.le_of_ble_eq_true rfl, Nat.le_of_ble_eq_true rfl⟩ ⟨Nat.le_of_ble_eq_true rfl, Nat.le_of_ble_eq_true rfl⟩ (by omega) (fun v G hp => ?_)
  obtain ⟨rfl, hW⟩ := hp
  refine v_if_eq (pc := 30) (tgt := 46) dL_law_30 (by decide) (fun c30 => absurd c30 (by decide)) (fun c30 => ?_)
  refine v_aload_n (pc := 33) dL_law_33 rfl rfl ?_
  refine v_aload_n (pc := 34) dL_law_34 rfl rfl ?_
  refine v_iconst (pc := 35) (v := nI 1) dL_law_35 (by decide) ?_
  refine vqM (pc := 36) (u := 50 + 1200) (j := 1200) (U := 300052) (As := [.ref (X.1 0 0), .ref M.1.1, .int _]) hNC dL_law_36 cw_L_186 sm_yL_isRefused (c_L_isRefused D X s0R M G 0 1 (by decide) hW hLI (by decide)) rfl rfl (Nat.le_of_ble_eq_true rfl) ⟨Nat.le_of_ble_eq_true rfl, Nat.le_of_ble_eq_true rfl⟩ ⟨Nat.le_of_ble_eq_true rfl, Nat.le_of_ble_eq_true rfl⟩ ⟨Nat.le_of_ble_eq_true rfl, Nat.le_of_ble_eq_true rfl⟩ (by omega) (fun v G hp => ?_)
  obtain ⟨rfl, hW⟩ := hp
  refine v_if_eq (pc := 39) (tgt := 46) dL_law_39 (by decide) (fun c39 => absurd c39 (by decide)) (fun c39 => ?_)
  refine v_iconst (pc := 42) (v := 1) dL_law_42 (by decide) ?_
  refine v_goto (pc := 43) (tgt := 47) dL_law_43 (by decide) ?_
  refine v_istore (pc := 47) dL_law_47 rfl (by decide) ?_
  refine v_iconst (pc := 49) (v := nI 0) dL_law_49 (by decide) ?_
  refine v_istore (pc := 50) dL_law_50 rfl (by decide) ?_
  refine vq_u (u' := 3000 + 1700 * 0) (by decide) ?_
  exact lw_loop hS hNC hL hend 130 0 X s0R M G rfl hW hLI (fun z => absurd z (by decide))
set_option maxRecDepth 100000 in
set_option maxHeartbeats 4000000 in
/-- the law's walk from its entry -/
theorem lw_V {D : DT} {K : KT} {b L : Nat} {xs : Nat → Int32} (hS : SC K b L xs) (hNC : NC3 K.2.2.2.1) (hL : L ≤ 260) (hend : ∀ (X : XT) (M : MT) (G : GT), V cL_law RL 10 room_1 D K 280 [some (.ref b), some (.ref (X.1 0 0)), some (.ref M.1.1), some (.ref M.1.2.1), some (.ref M.1.2.2), some (.int 1), some (.int (nI 130)), none, none, none] [] G (nu 300000)) : V cL_law RL 10 room_1 D K 0 [some (.ref b), none, none, none, none, none, none, none, none, none] [] G0 (0, 0) := by
  refine v_new (pc := 0) dL_law_0 nw_L_10 ⟨by decide, by decide⟩ (fun q0 hq0 => ?_)
  refine v_dup (pc := 3) dL_law_3 rfl ?_
  refine v_callI (pc := 4) (As := []) (rest := [.ref q0]) dL_law_4 cw_L_185 im_yX8_init rfl (c_X8_init D q0 _ ⟨u1_s _ _ _, u1_s _ _ _⟩ (fun f => ⟨c2_s _ _ _ _, c2_s _ _ _ _, c2_s _ _ _ _⟩) (fun _ => False, G0) (fun p hp => hp.elim)) rfl rfl (Nat.le_of_ble_eq_true rfl) ⟨Nat.le_of_ble_eq_true rfl, Nat.le_of_ble_eq_true rfl⟩ ⟨by decide, by decide⟩ (fun v G1 hp => ?_)
  obtain ⟨hv, X, hLF, hX0, hX2, hXl⟩ := hp
  subst hv
  refine (?_ : V cL_law RL 10 room_1 D K 7 [some (.ref b), none, none, none, none, none, none, none, none, none] [.ref q0] G1 (13, 705))
  refine v_astore_n (pc := 7) dL_law_7 rfl rfl (by decide) ?_
  refine v_bipush (pc := 8) (v := 9) dL_law_8 (by decide) ?_
  refine v_newI (pc := 10) (atype := .int) (ty := .int) (k := 0) (z := 9) dL_law_10 (Or.inl rfl) rfl rfl aw_int (fun _ => rfl) (by decide) rfl (by decide) ⟨by decide, by decide⟩ (fun m hm => ?_)
  refine v_astore_n (pc := 12) dL_law_12 rfl rfl (by decide) ?_
  refine v_bipush (pc := 13) (v := 36) dL_law_13 (by decide) ?_
  refine v_newI (pc := 15) (atype := .int) (ty := .int) (k := 0) (z := 36) dL_law_15 (Or.inl rfl) rfl rfl aw_int (fun _ => rfl) (by decide) rfl (by decide) ⟨by decide, by decide⟩ (fun p hp => ?_)
  refine v_astore_n (pc := 17) dL_law_17 rfl rfl (by decide) ?_
  refine v_bipush (pc := 18) (v := 8) dL_law_18 (by decide) ?_
  refine v_newJ (pc := 20) (atype := .long) (ty := .long) (k := 1) (z := 8) dL_law_20 rfl rfl rfl aw_long (fun _ => rfl) (by decide) rfl (by decide) ⟨by decide, by decide⟩ (fun h hh => ?_)
  refine v_astore (pc := 22) dL_law_22 rfl (by decide) ?_
  have hx0 : X.1 0 0 = q0 := hX0
  subst hx0
  have hm' : G1.1 m = 0 := hm
  have hpm : p ≠ m := fun z => by
    have h1 : (Gnew G1 m (0 + 11) 9).1 p = 0 := hp
    rw [z, show (Gnew G1 m (0 + 11) 9).1 m = 11 from u1_s _ _ _] at h1
    cases h1
  have hp' : G1.1 p = 0 := by
    have h1 : (Gnew G1 m (0 + 11) 9).1 p = 0 := hp
    rw [show (Gnew G1 m (0 + 11) 9).1 p = G1.1 p from u1_n _ _ hpm] at h1
    exact h1
  have hhp : h ≠ p := fun z => by
    have h1 : (Gnew (Gnew G1 m (0 + 11) 9) p (0 + 11) 36).1 h = 0 := hh
    rw [z, show (Gnew (Gnew G1 m (0 + 11) 9) p (0 + 11) 36).1 p = 11 from u1_s _ _ _] at h1
    cases h1
  have hhm : h ≠ m := fun z => by
    have h1 : (Gnew (Gnew G1 m (0 + 11) 9) p (0 + 11) 36).1 h = 0 := hh
    rw [show (Gnew (Gnew G1 m (0 + 11) 9) p (0 + 11) 36).1 h = (Gnew G1 m (0 + 11) 9).1 h from u1_n _ _ hhp, z, show (Gnew G1 m (0 + 11) 9).1 m = 11 from u1_s _ _ _] at h1
    cases h1
  have hh' : G1.1 h = 0 := by
    have h1 : (Gnew (Gnew G1 m (0 + 11) 9) p (0 + 11) 36).1 h = 0 := hh
    rw [show (Gnew (Gnew G1 m (0 + 11) 9) p (0 + 11) 36).1 h = (Gnew G1 m (0 + 11) 9).1 h from u1_n _ _ hhp, show (Gnew G1 m (0 + 11) 9).1 h = G1.1 h from u1_n _ _ hhm] at h1
    exact h1
  have hne : ∀ c i, X.2.1 c i = true → G1.1 (X.1 c i) ≠ 0 := fun c i h => by
    obtain ⟨⟨g1, g2, g3⟩, -⟩ := hLF.1 c i h
    rw [g2]; omega
  have h41 : ∀ a, G1.1 a ≠ 0 → same6 (Gnew (Gnew (Gnew G1 m (0 + 11) 9) p (0 + 11) 36) h (1 + 11) 8) G1 a := fun a ha => ((s6_new (fun z => ha (by rw [z]; exact hh'))).tr (s6_new (fun z => ha (by rw [z]; exact hp')))).tr (s6_new (fun z => ha (by rw [z]; exact hm')))
  have hLF4 := hLF.ext (G2 := (Gnew (Gnew (Gnew G1 m (0 + 11) 9) p (0 + 11) 36) h (1 + 11) 8)) (fun c i hc => h41 _ (hne c i hc))
  have sh : same6 (Gnew (Gnew (Gnew G1 m (0 + 11) 9) p (0 + 11) 36) h (1 + 11) 8) (Gnew (Gnew G1 m (0 + 11) 9) p (0 + 11) 36) p := s6_new (fun z => hhp z.symm)
  have sm1 : same6 (Gnew (Gnew (Gnew G1 m (0 + 11) 9) p (0 + 11) 36) h (1 + 11) 8) (Gnew (Gnew G1 m (0 + 11) 9) p (0 + 11) 36) m := s6_new (fun z => hhm z.symm)
  have sm2 : same6 (Gnew (Gnew G1 m (0 + 11) 9) p (0 + 11) 36) (Gnew G1 m (0 + 11) 9) m := s6_new (fun z => hpm z.symm)
  have smm := sm1.tr sm2
  have hAR : ARR ((m, p, h), fun _ => 0, fun _ => 0, fun _ => 0) (Gnew (Gnew (Gnew G1 m (0 + 11) 9) p (0 + 11) 36) h (1 + 11) 8) := by
    refine ⟨⟨smm.1.trans (u1_s _ _ _), smm.2.1.trans (u1_s _ _ _), smm.2.2.1.trans (funext fun j => c2_s _ _ j _)⟩, ⟨sh.1.trans (u1_s _ _ _), sh.2.1.trans (u1_s _ _ _), sh.2.2.1.trans (funext fun j => c2_s _ _ j _)⟩, ⟨u1_s _ _ _, u1_s _ _ _, funext fun j => c2_s _ _ j _⟩, fun z => hpm z.symm⟩
  have hW : WD (X.1, X.2.1, X.2.2.1, (fun _ => False), (Gnew (Gnew (Gnew G1 m (0 + 11) 9) p (0 + 11) 36) h (1 + 11) 8)) s0R ((m, p, h), fun _ => 0, fun _ => 0, fun _ => 0) (Gnew (Gnew (Gnew G1 m (0 + 11) 9) p (0 + 11) 36) h (1 + 11) 8) := by
    refine ⟨⟨s0R, EQ.rf _, ?_⟩, hAR⟩
    refine LF.re hLF4 (fun a ha => ⟨fun c i hc z => ?_, ?_⟩)
    · have hg := hne c i hc
      rcases ha with rfl | rfl | rfl
      · exact hg (by rw [← z]; exact hm')
      · exact hg (by rw [← z]; exact hp')
      · exact hg (by rw [← z]; exact hh')
    · rcases ha with rfl | rfl | rfl
      · rw [hAR.1.1]; decide
      · rw [hAR.2.1.1]; decide
      · rw [hAR.2.2.1.1]; decide
  have r0 : ∀ k j, k ≠ 17 → s0R.1 k j = 0 := fun k j hk => if_neg (fun z => hk z.1)
  have hLI : LI (X.1, X.2.1, X.2.2.1, (fun _ => False), (Gnew (Gnew (Gnew G1 m (0 + 11) 9) p (0 + 11) 36) h (1 + 11) 8)) s0R ((m, p, h), fun _ => 0, fun _ => 0, fun _ => 0) 0 := by
    have zA : nA s0R = 0 := by unfold nA; rw [r0 0 0 (by decide)]; rfl
    have zB : nB s0R = 0 := by unfold nB; rw [r0 4 0 (by decide)]; rfl
    have zC : nC s0R = 0 := by unfold nC; rw [r0 28 0 (by decide)]; rfl
    have zG : nG s0R = 0 := by unfold nG; rw [r0 19 0 (by decide)]; rfl
    refine ⟨inv_0 (by show X.2.2.1 = _; rw [hX2]) hXl, ⟨fun k _ => by rw [r0 15 k (by decide)]; decide, by rw [r0 18 0 (by decide)]; decide⟩, fun i hi => ?_, ⟨fun l hl => ?_, fun i hi => ?_⟩, by rw [r0 27 0 (by decide)]; decide, ⟨(r0 0 0 (by decide)).symm, (r0 4 0 (by decide)).symm, (r0 9 0 (by decide)).symm, (r0 19 0 (by decide)).symm, (r0 28 0 (by decide)).symm, (r0 27 0 (by decide)).symm⟩, fun i hi => ?_, fun i hi => ?_⟩
    · rw [zG] at hi; omega
    · rw [zA] at hl; omega
    · rw [zC] at hi; omega
    · rw [zB] at hi; omega
    · rw [zG] at hi; omega
  generalize (Gnew (Gnew (Gnew G1 m (0 + 11) 9) p (0 + 11) 36) h (1 + 11) 8) = G at hW hLI
  refine v_widen (nu 50) (by decide) (by decide) ?_
  obtain ⟨Y, hYe⟩ : ∃ Y : XT, Y = (X.1, X.2.1, X.2.2.1, (fun _ => False), G) := ⟨_, rfl⟩
  rw [← hYe] at hW hLI
  have hY : Y.1 0 0 = X.1 0 0 := by rw [hYe]
  rw [← hY]
  refine (?_ : V cL_law RL 10 room_1 D K 24 [some (.ref b), some (.ref (Y.1 0 0)), some (.ref m), some (.ref p), some (.ref h), none, none, none, none, none] [] G (nu 50))
  obtain ⟨M, hMe⟩ : ∃ M : MT, M = ((m, p, h), fun _ => 0, fun _ => 0, fun _ => 0) := ⟨_, rfl⟩
  rw [← hMe] at hW hLI
  have e1 : m = M.1.1 := by rw [hMe]
  have e2 : p = M.1.2.1 := by rw [hMe]
  have e3 : h = M.1.2.2 := by rw [hMe]
  refine (?_ : V cL_law RL 10 room_1 D K 24 [some (.ref b), some (.ref (Y.1 0 0)), some (.ref m), some (.ref p), some (.ref h), none, none, none, none, none] [] G (nu 50))
  rw [e1, e2, e3]
  exact lw_V2 hS hNC hL hend Y M G hW hLI
set_option maxRecDepth 100000 in
set_option maxHeartbeats 4000000 in
theorem whole_start {p : Program} {e : Env} {s : State} {m : MethodId} {below : List Frame} {meth : Method} {c : Code} (l : Launch) (hflags : l.flags = flags0) {b L : Nat} {xs : Nat → Int32} (hL : L ≤ 260) (C0 : lw_At p s m meth c b L xs) : W p l e room_1 s m #[Value.ref b] below meth c s.heap [] 0 0 (lw_Z below #[Value.ref b] s) (entryFrame m ([Value.ref b] : List Value).toArray 10) := by
  obtain ⟨O1, O2, O3, O4, O5, O6, O7, O8, O9, O10⟩ := C0
  have hq := flat_of_before _ O10
  obtain ⟨D, hK⟩ := en_K O6
  have hcL : ∃ cur, s.vm.findClass "BroadseamLoft" = some cur := ⟨_, (hK.1 8 _ rfl).2.1⟩
  obtain ⟨cur, hcur⟩ := hcL
  have hts : ∀ w ∈ lw_all, w.before #[Value.ref b] s = true := fun w hw => O6 w (List.mem_filter.mp hw).1
  have hnA : ∀ a : Nat, a < s.heap.size → ¬ (s.heap.size ≤ a) := fun a h => by omega
  have hES : ES (fun q => s.heap.size ≤ q) s s.heap := ⟨vx_Zqof (O6 _ (by decide +kernel)) (O6 _ (by decide +kernel)) (hq _ (by decide +kernel)) hnA, vx_Zqof (O6 _ (by decide +kernel)) (O6 _ (by decide +kernel)) (hq _ (by decide +kernel)) hnA, en_Nw O6, en_S O6 hcur⟩
  have hNC : NC3 s := ⟨va_Nc.of (hq _ (by decide +kernel)), va_Nc.of (hq _ (by decide +kernel)), va_Nc.of (hq _ (by decide +kernel))⟩
  have hfl : l.stackTraces = false := by
    unfold Launch.stackTraces
    rw [hflags]
    decide
  have hlv := lv_entry [Value.ref b] (n := 10) (Nat.le_of_ble_eq_true rfl)
  rw [lg_entry_eq]
  have hV := @lw_V D (p, l, e, s, m, #[Value.ref b], below, meth, c, (fun q => s.heap.size ≤ q), lw_Z below #[Value.ref b] s) b L xs ⟨O7, O8, hnA b O8⟩ hNC hL (fun X M G => by
    refine v_iload (pc := 280) dL_law_280 rfl ?_
    intro O H locs ls g1 g2 g3 g4
    refine va_forget (fun l hl => g3.2.2 l hl) ?_
    refine W.widen (k := 600104) (n := 7301314) (by decide) (by decide) ?_
    exact lw_ret (d0 := s.drawn) (Drawn.sameBut.refl s.drawn lw_cs) O1 O2 O3 O9 (pc := 282) dL_law_282)
  exact hV ⟨O1, O2, O4, O5, hts, hK, fun q h => h, O9, hES, hfl⟩ s.heap [] _ (wd_0 D s.heap) (fun q h => absurd rfl h) va_S.rf ⟨hlv.1, hlv.2.1, fun i v hg => hlv.2.2 (i, v) (by have hg9 : lget (lpad (lent [Value.ref b]) 10) i = some v := hg; have := lent_args [Value.ref b] 0 i v (lget_pad hg9); simpa using this)⟩
