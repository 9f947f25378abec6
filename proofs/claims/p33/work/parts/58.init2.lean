theorem vs_arr {cc : ByteArray} {own : String} {nL : Nat} {R : Room} {D : DT} {K : KT} {pc : Nat} {lv : LV} {st : List Value} {G : GT} {n : Nat × Nat} {X : XT} {q0 f ca z k idx idx2 : Nat} {L : Nat → Option Nat} {F : (Nat → Prop) × GT} {C : String} {ty : FieldType} {x : Int32} (hS : ST X q0 L F G) (hin : K.2.2.2.2.2.2.2.1.name = "<init>") (hd : decode cc pc = .ok (.anewarray idx, 3)) (hd2 : decode cc (pc + 3) = .ok (.putfield idx2, 3)) (hF : FW own idx2 8 f ty true) (hlay : (lay 8)[f]? = some 2) (hnr : ∀ q, narrow ty (.ref q) = .ref q) (hft : ∀ q, fits ty (.ref q) = true) (h1 : 1 ≤ ca) (h5 : ca ≤ 5) (hfr : X.2.1 ca 0 = false) (hk : kc ca = k + 11) (hz : lc ca = z) (hk5 : 5 ≤ k) (ht : (tysL D.2)[k]? = some (D.2 (k + 11), .object C)) (hw : Cond.classLink own idx C ∈ lw_all) (hov : Cond.arrayOver (.object C) ∈ ngW) (hx : ¬ x < 0) (hzx : x.toNatClampNeg = z) (hb : z * 4 ≤ 536870912) (hc : n.1 + 1 ≤ R.cells ∧ n.2 + z ≤ R.slots) (kk : ∀ (q : Nat) (G' : GT), ST (xadd X ca 0 q) q0 (u1 L f (some q)) F G' → V cc own nL R D K (pc + 6) lv st G' (n.1 + 1, n.2 + z)) : V cc own nL R D K pc lv (.int x :: .ref q0 :: st) G n := by
  refine v_newQ hd hk5 ht hw hov hx hzx hb hc (fun q hq => ?_)
  obtain ⟨T, N, I, J, E, Rf⟩ := G
  have hq : T q = 0 := hq
  have hqq := (hS.nq hq).1
  refine v_putRF (pc := pc + 3) (T := u1 T q (k + 11)) (N := u1 N q z) (I := c2 I q 0) (J := c2 J q 0) (E := c2 E q 0) (Rf := c2 Rf q none) hd2 hF hin hlay rfl (by rw [u1_n _ _ hqq]; exact hS.2.1.1) (hnr q) (hft q) ?_
  exact kk _ _ (hS.arr hq h1 h5 hfr hk hz)
set_option maxRecDepth 100000 in
set_option maxHeartbeats 4000000 in
theorem c_X8_init (D : DT) (q0 : Nat) (G : GT) (hT : G.1 q0 = 9 ∧ G.2.1 q0 = 0) (hI : ∀ f, G.2.2.1 q0 f = 0 ∧ G.2.2.2.1 q0 f = 0 ∧ G.2.2.2.2.2 q0 f = none) (F : (Nat → Prop) × GT) (hF : ∀ p, F.1 p → p ≠ q0 ∧ F.2.1 p ≠ 0 ∧ same6 G F.2 p) : MC yX8_init cX8_init 1 (Option.none : Option Jvm.ClassFile.FieldType) rm_X8_init D [.ref q0] G (fun v G' => v = none ∧ ∃ X, LF X s0R G' ∧ X.1 0 0 = q0 ∧ X.2.2 = (fun _ _ => false, F) ∧ ∀ c i, X.2.1 c i = true → c < 13 ∧ i = 0) := by
  refine MC_of (by decide +kernel) (Nat.le_of_ble_eq_true rfl) (fun K sz hR => ?_)
  have hN : K.2.2.2.2.2.2.2.1.name = "<init>" := Rt_name hR
  obtain ⟨X0, hX0⟩ : ∃ X0 : XT, X0 = (fun _ _ => 0, fun _ _ => false, fun _ _ => false, F) := ⟨_, rfl⟩
  have hl0 : X0.2.1 = fun _ _ => false := by rw [hX0]
  have hS : ST (fun _ _ => 0, fun _ _ => false, fun _ _ => false, F) q0 (fun _ => none) F G := ⟨⟨fun c i h => (by cases h), fun c i c' i' h => (by cases h), fun p hp => ⟨fun c i h => (by cases h), (hF p hp).2⟩⟩, hT, fun c i h => (by cases h), hI, rfl, fun p hp => (hF p hp).1⟩
  show V cX8_init _ 1 _ D K 0 [some (.ref q0)] [] G (0, 0)
  refine v_aload_n (pc := 0) dX8_init_0 rfl rfl ?_
  refine v_objInit (pc := 1) dX8_init_1 oi_X8_1 oi_all.1 oi_all.2 (Nat.le_of_ble_eq_true rfl) ⟨by decide, by decide⟩ ?_
  refine v_aload_n (pc := 4) dX8_init_4 rfl rfl ?_
  refine v_bipush (pc := 5) (v := 6) dX8_init_5 (by decide) ?_
  refine vs_arr (pc := 7) (ca := 1) (k := 5) (z := 6) (f := 0) hS hN dX8_init_7 dX8_init_10 fw_X8_11 rfl (fun _ => rfl) (fun _ => rfl) (by decide) (by decide) rfl rfl rfl (by decide) rfl cl_X8_9 (List.mem_of_getElem? (i := 0) rfl) (by decide) rfl (by decide) ⟨by decide, by decide⟩ (fun a1 G hS => ?_)
  show V cX8_init yX8_init.cls 1 rm_X8_init D K 13 [some (.ref q0)] [] G (1, 6)
  refine v_aload_n (pc := 13) dX8_init_13 rfl rfl ?_
  refine v_bipush (pc := 14) (v := 12) dX8_init_14 (by decide) ?_
  refine vs_arr (pc := 16) (ca := 2) (k := 6) (z := 12) (f := 2) hS hN dX8_init_16 dX8_init_19 fw_X8_17 rfl (fun _ => rfl) (fun _ => rfl) (by decide) (by decide) rfl rfl rfl (by decide) rfl cl_X8_15 (List.mem_of_getElem? (i := 1) rfl) (by decide) rfl (by decide) ⟨by decide, by decide⟩ (fun a2 G hS => ?_)
  show V cX8_init yX8_init.cls 1 rm_X8_init D K 22 [some (.ref q0)] [] G (2, 18)
  refine v_aload_n (pc := 22) dX8_init_22 rfl rfl ?_
  refine v_bipush (pc := 23) (v := 30) dX8_init_23 (by decide) ?_
  refine vs_arr (pc := 25) (ca := 3) (k := 7) (z := 30) (f := 4) hS hN dX8_init_25 dX8_init_28 fw_X8_23 rfl (fun _ => rfl) (fun _ => rfl) (by decide) (by decide) rfl rfl rfl (by decide) rfl cl_X8_21 (List.mem_of_getElem? (i := 2) rfl) (by decide) rfl (by decide) ⟨by decide, by decide⟩ (fun a3 G hS => ?_)
  show V cX8_init yX8_init.cls 1 rm_X8_init D K 31 [some (.ref q0)] [] G (3, 48)
  refine v_aload_n (pc := 31) dX8_init_31 rfl rfl ?_
  refine v_new (pc := 32) dX8_init_32 nw_X8_27 ⟨by decide, by decide⟩ (fun a6 hq => ?_)
  refine v_dup (pc := 35) dX8_init_35 rfl ?_
  obtain ⟨T, N, I, J, E, Rf⟩ := G
  have hq : T a6 = 0 := hq
  refine v_callI (pc := 36) (As := []) (rest := [.ref a6, .ref q0]) dX8_init_36 cw_X8_29 im_yX3_init rfl (c_X3_init D _ a6 (u1_s _ _ _)) rfl rfl (Nat.le_of_ble_eq_true rfl) ⟨Nat.le_of_ble_eq_true rfl, Nat.le_of_ble_eq_true rfl⟩ ⟨by decide, by decide⟩ (fun v G1 hp => ?_)
  obtain ⟨hv1, b1, b2, b3, e1, e2, e3, n1, n2, n3, n12, n13, n23, hG1⟩ := hp
  subst hv1
  have hS := hS.net hq e1 e2 e3 n1 n2 n3 n12 n13 n23 rfl rfl rfl rfl hG1
  refine (fun (G : GT) (hS : ST (xadd (xadd (xadd (xadd (xadd (xadd (xadd ((fun _ _ => 0, fun _ _ => false, fun _ _ => false, F) : XT) 1 0 a1) 2 0 a2) 3 0 a3) 7 0 b1) 8 0 b2) 9 0 b3) 6 0 a6) q0 _ F G) => (?_ : V cX8_init yX8_init.cls 1 rm_X8_init D K 39 [some (.ref q0)] [.ref a6, .ref q0] G (7, 160))) _ hS
  obtain ⟨T, N, I, J, E, Rf⟩ := G
  refine v_putRF (pc := 39) dX8_init_39 fw_X8_30 hN rfl rfl hS.2.1.1 rfl rfl ?_
  have hS := hS.put (f := 6) (q := a6)
  refine (fun (G : GT) (hS : ST (xadd (xadd (xadd (xadd (xadd (xadd (xadd ((fun _ _ => 0, fun _ _ => false, fun _ _ => false, F) : XT) 1 0 a1) 2 0 a2) 3 0 a3) 7 0 b1) 8 0 b2) 9 0 b3) 6 0 a6) q0 _ F G) => (?_ : V cX8_init yX8_init.cls 1 rm_X8_init D K 42 [some (.ref q0)] [] G (7, 160))) _ hS
  refine v_aload_n (pc := 42) dX8_init_42 rfl rfl ?_
  refine v_bipush (pc := 43) (v := 8) dX8_init_43 (by decide) ?_
  refine vs_arr (pc := 45) (ca := 4) (k := 8) (z := 8) (f := 7) hS hN dX8_init_45 dX8_init_48 fw_X8_36 rfl (fun _ => rfl) (fun _ => rfl) (by decide) (by decide) rfl rfl rfl (by decide) rfl cl_X8_34 (List.mem_of_getElem? (i := 3) rfl) (by decide) rfl (by decide) ⟨by decide, by decide⟩ (fun a4 G hS => ?_)
  show V cX8_init yX8_init.cls 1 rm_X8_init D K 51 [some (.ref q0)] [] G (8, 168)
  refine v_aload_n (pc := 51) dX8_init_51 rfl rfl ?_
  refine v_new (pc := 52) dX8_init_52 nw_X8_40 ⟨by decide, by decide⟩ (fun a10 hq => ?_)
  refine v_dup (pc := 55) dX8_init_55 rfl ?_
  obtain ⟨T, N, I, J, E, Rf⟩ := G
  have hq : T a10 = 0 := hq
  refine v_callIN (pc := 56) (As := []) (rest := [.ref a10, .ref q0]) dX8_init_56 cn_X8_42 cm_yX6_init.1 cm_yX6_init.2.1 cm_yX6_init.2.2 im_yX6_init rfl (c_X6_init D _ a10 (u1_s _ _ _)) rfl rfl (Nat.le_of_ble_eq_true rfl) ⟨Nat.le_of_ble_eq_true rfl, Nat.le_of_ble_eq_true rfl⟩ ⟨by decide, by decide⟩ (fun v G1 hp => ?_)
  obtain ⟨hv1, hG1⟩ := hp
  subst hv1
  subst hG1
  have hS := hS.sail hq rfl
  refine (fun (G : GT) (hS : ST (xadd (xadd (xadd (xadd (xadd (xadd (xadd (xadd (xadd ((fun _ _ => 0, fun _ _ => false, fun _ _ => false, F) : XT) 1 0 a1) 2 0 a2) 3 0 a3) 7 0 b1) 8 0 b2) 9 0 b3) 6 0 a6) 4 0 a4) 10 0 a10) q0 _ F G) => (?_ : V cX8_init yX8_init.cls 1 rm_X8_init D K 59 [some (.ref q0)] [.ref a10, .ref q0] G (9, 171))) _ hS
  obtain ⟨T, N, I, J, E, Rf⟩ := G
  refine v_putRF (pc := 59) dX8_init_59 fw_X8_43 hN rfl rfl hS.2.1.1 rfl rfl ?_
  have hS := hS.put (f := 9) (q := a10)
  refine (fun (G : GT) (hS : ST (xadd (xadd (xadd (xadd (xadd (xadd (xadd (xadd (xadd ((fun _ _ => 0, fun _ _ => false, fun _ _ => false, F) : XT) 1 0 a1) 2 0 a2) 3 0 a3) 7 0 b1) 8 0 b2) 9 0 b3) 6 0 a6) 4 0 a4) 10 0 a10) q0 _ F G) => (?_ : V cX8_init yX8_init.cls 1 rm_X8_init D K 62 [some (.ref q0)] [] G (9, 171))) _ hS
  refine v_aload_n (pc := 62) dX8_init_62 rfl rfl ?_
  refine v_bipush (pc := 63) (v := 6) dX8_init_63 (by decide) ?_
  refine vs_arr (pc := 65) (ca := 5) (k := 9) (z := 6) (f := 10) hS hN dX8_init_65 dX8_init_68 fw_X8_49 rfl (fun _ => rfl) (fun _ => rfl) (by decide) (by decide) rfl rfl rfl (by decide) rfl cl_X8_47 (List.mem_of_getElem? (i := 5) rfl) (by decide) rfl (by decide) ⟨by decide, by decide⟩ (fun a5 G hS => ?_)
  show V cX8_init yX8_init.cls 1 rm_X8_init D K 71 [some (.ref q0)] [] G (10, 177)
  refine v_aload_n (pc := 71) dX8_init_71 rfl rfl ?_
  refine v_new (pc := 72) dX8_init_72 nw_X8_53 ⟨by decide, by decide⟩ (fun a11 hq => ?_)
  refine v_dup (pc := 75) dX8_init_75 rfl ?_
  obtain ⟨T, N, I, J, E, Rf⟩ := G
  have hq : T a11 = 0 := hq
  refine v_callIN (pc := 76) (As := []) (rest := [.ref a11, .ref q0]) dX8_init_76 cn_X8_55 cm_yX1_init.1 cm_yX1_init.2.1 cm_yX1_init.2.2 im_yX1_init rfl (c_X1_init D _ a11 (u1_s _ _ _)) rfl rfl (Nat.le_of_ble_eq_true rfl) ⟨Nat.le_of_ble_eq_true rfl, Nat.le_of_ble_eq_true rfl⟩ ⟨by decide, by decide⟩ (fun v G1 hp => ?_)
  obtain ⟨hv1, b12, e1, n1, hG1⟩ := hp
  subst hv1
  have hS := hS.log hq e1 n1 rfl rfl hG1
  refine (fun (G : GT) (hS : ST (xadd (xadd (xadd (xadd (xadd (xadd (xadd (xadd (xadd (xadd (xadd (xadd ((fun _ _ => 0, fun _ _ => false, fun _ _ => false, F) : XT) 1 0 a1) 2 0 a2) 3 0 a3) 7 0 b1) 8 0 b2) 9 0 b3) 6 0 a6) 4 0 a4) 10 0 a10) 5 0 a5) 12 0 b12) 11 0 a11) q0 _ F G) => (?_ : V cX8_init yX8_init.cls 1 rm_X8_init D K 79 [some (.ref q0)] [.ref a11, .ref q0] G (12, 691))) _ hS
  obtain ⟨T, N, I, J, E, Rf⟩ := G
  refine v_putRF (pc := 79) dX8_init_79 fw_X8_56 hN rfl rfl hS.2.1.1 rfl rfl ?_
  have hS := hS.put (f := 12) (q := a11)
  refine (fun (G : GT) (hS : ST (xadd (xadd (xadd (xadd (xadd (xadd (xadd (xadd (xadd (xadd (xadd (xadd ((fun _ _ => 0, fun _ _ => false, fun _ _ => false, F) : XT) 1 0 a1) 2 0 a2) 3 0 a3) 7 0 b1) 8 0 b2) 9 0 b3) 6 0 a6) 4 0 a4) 10 0 a10) 5 0 a5) 12 0 b12) 11 0 a11) q0 _ F G) => (?_ : V cX8_init yX8_init.cls 1 rm_X8_init D K 82 [some (.ref q0)] [] G (12, 691))) _ hS
  refine v_vret (pc := 82) hR dX8_init_82 ⟨by decide, by decide⟩ ?_
  obtain ⟨h1, h2, h3, h4, h5, h6⟩ := hS
  have hx := h1.obj (cn := 0) (a := 0) (q := q0) (G2 := G) rfl h3 (fun p hp => h6 p hp) (fun _ _ _ => ⟨rfl, rfl, rfl, rfl, rfl, rfl⟩) ⟨by decide, h2.1, h2.2⟩ (fun f hf => ?_)
  · refine ⟨rfl, _, hx.to (fun c hc => ?_), rfl, rfl, fun c i hl => ?_⟩
    · rcases (show c = 0 ∨ c = 1 ∨ c = 2 ∨ c = 3 ∨ c = 4 ∨ c = 5 ∨ c = 6 ∨ c = 7 ∨ c = 8 ∨ c = 9 ∨ c = 10 ∨ c = 11 ∨ c = 12 by omega) with rfl | rfl | rfl | rfl | rfl | rfl | rfl | rfl | rfl | rfl | rfl | rfl | rfl <;> rfl
    · refine Classical.byContradiction fun z => ?_
      have hl : u2 (u2 (u2 (u2 (u2 (u2 (u2 (u2 (u2 (u2 (u2 (u2 (u2 (fun _ _ => false) 1 0 true) 2 0 true) 3 0 true) 7 0 true) 8 0 true) 9 0 true) 6 0 true) 4 0 true) 10 0 true) 5 0 true) 12 0 true) 11 0 true) 0 0 true c i = true := hl
      simp only [u2] at hl
      repeat rw [if_neg (by omega)] at hl
      cases hl
  · have hf14 : f < 14 := hf
    obtain ⟨g1, g2, g3⟩ := h4 f
    rw [g1, g2, g3]
    refine ⟨?_, ?_, ?_, ?_⟩
    · rcases (show f = 0 ∨ f = 1 ∨ f = 2 ∨ f = 3 ∨ f = 4 ∨ f = 5 ∨ f = 6 ∨ f = 7 ∨ f = 8 ∨ f = 9 ∨ f = 10 ∨ f = 11 ∨ f = 12 ∨ f = 13 by omega) with rfl | rfl | rfl | rfl | rfl | rfl | rfl | rfl | rfl | rfl | rfl | rfl | rfl | rfl <;> rfl
    · rcases (show f = 0 ∨ f = 1 ∨ f = 2 ∨ f = 3 ∨ f = 4 ∨ f = 5 ∨ f = 6 ∨ f = 7 ∨ f = 8 ∨ f = 9 ∨ f = 10 ∨ f = 11 ∨ f = 12 ∨ f = 13 by omega) with rfl | rfl | rfl | rfl | rfl | rfl | rfl | rfl | rfl | rfl | rfl | rfl | rfl | rfl <;> rfl
    · rcases (show f = 0 ∨ f = 1 ∨ f = 2 ∨ f = 3 ∨ f = 4 ∨ f = 5 ∨ f = 6 ∨ f = 7 ∨ f = 8 ∨ f = 9 ∨ f = 10 ∨ f = 11 ∨ f = 12 ∨ f = 13 by omega) with rfl | rfl | rfl | rfl | rfl | rfl | rfl | rfl | rfl | rfl | rfl | rfl | rfl | rfl <;> simp [u1, rv, xadd, u2]
    · intro o ho
      rcases (show f = 0 ∨ f = 1 ∨ f = 2 ∨ f = 3 ∨ f = 4 ∨ f = 5 ∨ f = 6 ∨ f = 7 ∨ f = 8 ∨ f = 9 ∨ f = 10 ∨ f = 11 ∨ f = 12 ∨ f = 13 by omega) with rfl | rfl | rfl | rfl | rfl | rfl | rfl | rfl | rfl | rfl | rfl | rfl | rfl | rfl <;> first | (have ho : none = some o := ho; cases ho) | (simp only [rv, Option.some.injEq] at ho; subst ho; rfl)
