abbrev rm_areSound : Room := { frames := 10, cells := 2 * 250, slots := 18 * 250, locals := 300 }
set_option maxRecDepth 100000 in
set_option maxHeartbeats 400000 in
theorem l_s1i {D : DT} {K : KT} {X : XT} {s : SG} {M : MT} {q xx : Nat} {u k : Nat} (hI : INV X s q) (hq : q < 512) (hM : MV s M) (hQ : QV s M) (kk : ∀ (G : GT), WD X s M G → V cL_areSound yL_areSound.cls 15 rm_areSound D K 100 [some (.ref (X.1 0 0)), some (.ref M.1.1), some (.ref M.1.2.1), some (.ref M.1.2.2), some (.int (nI xx)), some (.int 1), some (.int (nI k)), some (.int (moF s k (nB s))), some (.int (suF s k (nB s))), some (.int (nI (nB s))), none, none, none, none, none] [] G (nu u)) : ∀ (d i : Nat) (G : GT), i + d = nB s → WD X s M G → V cL_areSound yL_areSound.cls 15 rm_areSound D K 28 [some (.ref (X.1 0 0)), some (.ref M.1.1), some (.ref M.1.2.1), some (.ref M.1.2.2), some (.int (nI xx)), some (.int 1), some (.int (nI k)), some (.int (moF s k i)), some (.int (suF s k i)), some (.int (nI i)), none, none, none, none, none] [] G (nu u) := by
  obtain ⟨b1, b2, b3, b4, b5, n1, n2, n3, n4, n5⟩ := hI.six hq
  intro d
  induction d with
  | zero =>
    intro i G he hW
    obtain rfl : i = nB s := by omega
    refine v_iload (pc := 28) dL_areSound_28 rfl ?_
    refine v_aload_n (pc := 30) dL_areSound_30 rfl rfl ?_
    refine v_iconst (pc := 31) (v := 1) dL_areSound_31 (by decide) ?_
    refine vw_m (pc := 32) (j := 1) hW dL_areSound_32 rfl (by decide) (x := nI (nB s)) (hM.2.1.trans n2) ?_
    refine v_icmp_ge (pc := 33) (tgt := 100) dL_areSound_33 (by decide) (fun c33 => ?_) (fun c33 => absurd c33 (fun z => z (Int32.le_refl _)))
    exact kk G hW
  | succ d ih =>
    intro i G he hW
    have hi : i < nB s := by omega
    refine v_iload (pc := 28) dL_areSound_28 rfl ?_
    refine v_aload_n (pc := 30) dL_areSound_30 rfl rfl ?_
    refine v_iconst (pc := 31) (v := 1) dL_areSound_31 (by decide) ?_
    refine vw_m (pc := 32) (j := 1) hW dL_areSound_32 rfl (by decide) (x := nI (nB s)) (hM.2.1.trans n2) ?_
    refine v_icmp_ge (pc := 33) (tgt := 100) dL_areSound_33 (by decide) (fun c33 => absurd c33 (nI_ge (by omega) (by omega))) (fun c33 => ?_)
    refine v_iload (pc := 36) dL_areSound_36 rfl ?_
    refine v_aload_n (pc := 38) dL_areSound_38 rfl rfl ?_
    refine v_iconst (pc := 39) (v := 3) dL_areSound_39 (by decide) ?_
    refine v_iload (pc := 40) dL_areSound_40 rfl ?_
    refine v_imul (pc := 42) dL_areSound_42 ?_
    refine vw_p (pc := 43) (j := 3 * i) hW dL_areSound_43 (by rw [show (3 : Int32) = nI 3 from rfl, n_mul]) (by omega) (x := s.1 5 i) (hQ.1 i hi).1 ?_
    refine v_iload (pc := 44) dL_areSound_44 rfl ?_
    refine v_icmp_ne (pc := 46) (tgt := 69) dL_areSound_46 (by decide) (fun c46 => ?_) (fun c46 => ?_)
    · have em : moF s k (i + 1) = moF s k i + 0 := by rw [moF, if_neg c46]
      have es : suF s k (i + 1) = suF s k i + 0 := by rw [suF, if_neg c46]
      refine v_iconst (pc := 69) (v := 0) dL_areSound_69 (by decide) ?_
      refine v_iadd (pc := 70) dL_areSound_70 ?_
      refine v_istore (pc := 71) dL_areSound_71 rfl (by decide) ?_
      refine v_iload (pc := 73) dL_areSound_73 rfl ?_
      refine v_aload_n (pc := 75) dL_areSound_75 rfl rfl ?_
      refine v_iconst (pc := 76) (v := 3) dL_areSound_76 (by decide) ?_
      refine v_iload (pc := 77) dL_areSound_77 rfl ?_
      refine v_imul (pc := 79) dL_areSound_79 ?_
      refine vw_p (pc := 80) (j := 3 * i) hW dL_areSound_80 (by rw [show (3 : Int32) = nI 3 from rfl, n_mul]) (by omega) (x := s.1 5 i) (hQ.1 i hi).1 ?_
      refine v_iload (pc := 81) dL_areSound_81 rfl ?_
      refine v_icmp_ne (pc := 83) (tgt := 90) dL_areSound_83 (by decide) (fun c83 => ?_) (fun c83 => absurd c83 c46)
      refine v_iconst (pc := 90) (v := 0) dL_areSound_90 (by decide) ?_
      refine v_iadd (pc := 91) dL_areSound_91 ?_
      refine v_istore (pc := 92) dL_areSound_92 rfl (by decide) ?_
      refine v_iinc (pc := 94) dL_areSound_94 rfl (nI_1 _) rfl (by decide) ?_
      refine v_goto (pc := 97) (tgt := 28) dL_areSound_97 (by decide) ?_
      rw [← em, ← es]
      exact ih (i + 1) G (by omega) hW
    · have em : moF s k (i + 1) = moF s k i + (s.1 6 i + s.1 7 i) := by rw [moF, if_pos c46]
      have es : suF s k (i + 1) = suF s k i + 1 := by rw [suF, if_pos c46]
      refine v_aload_n (pc := 49) dL_areSound_49 rfl rfl ?_
      refine v_iconst (pc := 50) (v := 3) dL_areSound_50 (by decide) ?_
      refine v_iload (pc := 51) dL_areSound_51 rfl ?_
      refine v_imul (pc := 53) dL_areSound_53 ?_
      refine v_iconst (pc := 54) (v := 1) dL_areSound_54 (by decide) ?_
      refine v_iadd (pc := 55) dL_areSound_55 ?_
      refine vw_p (pc := 56) (j := 3 * i + 1) hW dL_areSound_56 (by rw [show (3 : Int32) = nI 3 from rfl, n_mul]; exact nI_1 _) (by omega) (x := s.1 6 i) (hQ.1 i hi).2.1 ?_
      refine v_aload_n (pc := 57) dL_areSound_57 rfl rfl ?_
      refine v_iconst (pc := 58) (v := 3) dL_areSound_58 (by decide) ?_
      refine v_iload (pc := 59) dL_areSound_59 rfl ?_
      refine v_imul (pc := 61) dL_areSound_61 ?_
      refine v_iconst (pc := 62) (v := 2) dL_areSound_62 (by decide) ?_
      refine v_iadd (pc := 63) dL_areSound_63 ?_
      refine vw_p (pc := 64) (j := 3 * i + 2) hW dL_areSound_64 (by rw [show (3 : Int32) = nI 3 from rfl, n_mul, show (2 : Int32) = nI 2 from rfl, nI_add]) (by omega) (x := s.1 7 i) (hQ.1 i hi).2.2 ?_
      refine v_iadd (pc := 65) dL_areSound_65 ?_
      refine v_goto (pc := 66) (tgt := 70) dL_areSound_66 (by decide) ?_
      refine v_iadd (pc := 70) dL_areSound_70 ?_
      refine v_istore (pc := 71) dL_areSound_71 rfl (by decide) ?_
      refine v_iload (pc := 73) dL_areSound_73 rfl ?_
      refine v_aload_n (pc := 75) dL_areSound_75 rfl rfl ?_
      refine v_iconst (pc := 76) (v := 3) dL_areSound_76 (by decide) ?_
      refine v_iload (pc := 77) dL_areSound_77 rfl ?_
      refine v_imul (pc := 79) dL_areSound_79 ?_
      refine vw_p (pc := 80) (j := 3 * i) hW dL_areSound_80 (by rw [show (3 : Int32) = nI 3 from rfl, n_mul]) (by omega) (x := s.1 5 i) (hQ.1 i hi).1 ?_
      refine v_iload (pc := 81) dL_areSound_81 rfl ?_
      refine v_icmp_ne (pc := 83) (tgt := 90) dL_areSound_83 (by decide) (fun c83 => absurd c83 (not_not_intro c46)) (fun c83 => ?_)
      refine v_iconst (pc := 86) (v := 1) dL_areSound_86 (by decide) ?_
      refine v_goto (pc := 87) (tgt := 91) dL_areSound_87 (by decide) ?_
      refine v_iadd (pc := 91) dL_areSound_91 ?_
      refine v_istore (pc := 92) dL_areSound_92 rfl (by decide) ?_
      refine v_iinc (pc := 94) dL_areSound_94 rfl (nI_1 _) rfl (by decide) ?_
      refine v_goto (pc := 97) (tgt := 28) dL_areSound_97 (by decide) ?_
      rw [← em, ← es]
      exact ih (i + 1) G (by omega) hW
set_option maxRecDepth 100000 in
set_option maxHeartbeats 400000 in
theorem l_s1 {D : DT} {K : KT} {X : XT} {s : SG} {M : MT} {q xx : Nat} (hI : INV X s q) (hq : q < 512) (hM : MV s M) (hQ : QV s M) (kk : ∀ (w7 w8 w9 : Option Value) (G : GT), WD X s M G → V cL_areSound yL_areSound.cls 15 rm_areSound D K 143 [some (.ref (X.1 0 0)), some (.ref M.1.1), some (.ref M.1.2.1), some (.ref M.1.2.2), some (.int (nI xx)), some (.int 1), some (.int (nI (nA s))), w7, w8, w9, none, none, none, none, none] [] G (nu (nA s))) : ∀ (d i : Nat) (w7 w8 w9 : Option Value) (G : GT), i + d = nA s → WD X s M G → V cL_areSound yL_areSound.cls 15 rm_areSound D K 6 [some (.ref (X.1 0 0)), some (.ref M.1.1), some (.ref M.1.2.1), some (.ref M.1.2.2), some (.int (nI xx)), some (.int 1), some (.int (nI i)), w7, w8, w9, none, none, none, none, none] [] G (nu i) := by
  obtain ⟨b1, b2, b3, b4, b5, n1, n2, n3, n4, n5⟩ := hI.six hq
  obtain ⟨i1, i2, -⟩ := INV.num (by omega) hI
  intro d
  induction d with
  | zero =>
    intro i w7 w8 w9 G he hW
    obtain rfl : i = nA s := by omega
    refine v_iload (pc := 6) dL_areSound_6 rfl ?_
    refine v_aload_n (pc := 8) dL_areSound_8 rfl rfl ?_
    refine v_iconst (pc := 9) (v := 0) dL_areSound_9 (by decide) ?_
    refine vw_m (pc := 10) (j := 0) hW dL_areSound_10 rfl (by decide) (x := nI (nA s)) (hM.1.trans n1) ?_
    refine v_icmp_ge (pc := 11) (tgt := 143) dL_areSound_11 (by decide) (fun c11 => ?_) (fun c11 => absurd c11 (fun z => z (Int32.le_refl _)))
    exact kk _ _ _ G hW
  | succ d ih =>
    intro i w7 w8 w9 G he hW
    have hi : i < nA s := by omega
    obtain ⟨r1, r2, r3⟩ := roll_ok i2 hi
    refine v_iload (pc := 6) dL_areSound_6 rfl ?_
    refine v_aload_n (pc := 8) dL_areSound_8 rfl rfl ?_
    refine v_iconst (pc := 9) (v := 0) dL_areSound_9 (by decide) ?_
    refine vw_m (pc := 10) (j := 0) hW dL_areSound_10 rfl (by decide) (x := nI (nA s)) (hM.1.trans n1) ?_
    refine v_icmp_ge (pc := 11) (tgt := 143) dL_areSound_11 (by decide) (fun c11 => absurd c11 (nI_ge (by omega) (by omega))) (fun c11 => ?_)
    refine v_iload (pc := 14) dL_areSound_14 rfl ?_
    refine v_if_eq (pc := 16) (tgt := 143) dL_areSound_16 (by decide) (fun c16 => absurd c16 (by decide)) (fun c16 => ?_)
    refine v_iconst (pc := 19) (v := nI 0) dL_areSound_19 (by decide) ?_
    refine v_istore (pc := 20) dL_areSound_20 rfl (by decide) ?_
    refine v_iconst (pc := 22) (v := nI 0) dL_areSound_22 (by decide) ?_
    refine v_istore (pc := 23) dL_areSound_23 rfl (by decide) ?_
    refine v_iconst (pc := 25) (v := nI 0) dL_areSound_25 (by decide) ?_
    refine v_istore (pc := 26) dL_areSound_26 rfl (by decide) ?_
    refine l_s1i hI hq hM hQ (k := i) (u := i) (fun G hW => ?_) (nB s) 0 G (by omega) hW
    refine v_aload_n (pc := 100) dL_areSound_100 rfl rfl ?_
    refine v_iload (pc := 101) dL_areSound_101 rfl ?_
    refine vqV (pc := 103) (u := i) (j := 1) (U := 250) (As := [.int _]) hW dL_areSound_103 cw_L_27 im_yX8_roll se_yX8_roll rfl (q_roll _ hW hI hq (by unfold kRoll; exact if_pos (btw_n (by omega) (by omega)))) rfl rfl (Nat.le_of_ble_eq_true rfl) ⟨Nat.le_of_ble_eq_true rfl, Nat.le_of_ble_eq_true rfl⟩ ⟨by decide, by decide⟩ ⟨rfl, rfl⟩ (by omega) (fun v G hp => ?_)
    obtain ⟨rfl, hW⟩ := hp
    rw [nat_nI (show i < 2147483648 by omega)]
    refine v_istore (pc := 106) dL_areSound_106 rfl (by decide) ?_
    refine v_iload (pc := 108) dL_areSound_108 rfl ?_
    refine v_iload (pc := 110) dL_areSound_110 rfl ?_
    refine v_if_le (pc := 112) (tgt := 119) dL_areSound_112 (by decide) (fun c112 => ?_) (fun c112 => ?_)
    · refine v_iconst (pc := 119) (v := 0) dL_areSound_119 (by decide) ?_
      refine v_icmp_lt (pc := 120) (tgt := 134) dL_areSound_120 (by decide) (fun c120 => absurd c120 (fun z => by rw [Int32.lt_iff_toInt_lt] at z; have : (0 : Int32).toInt = 0 := rfl; omega)) (fun c120 => ?_)
      refine v_iload (pc := 123) dL_areSound_123 rfl ?_
      refine v_iload (pc := 125) dL_areSound_125 rfl ?_
      refine v_icmp_gt (pc := 127) (tgt := 134) dL_areSound_127 (by decide) (fun c127 => absurd c127 (fun z => by rw [Int32.lt_iff_toInt_lt] at z; omega)) (fun c127 => ?_)
      refine v_iconst (pc := 130) (v := 1) dL_areSound_130 (by decide) ?_
      refine v_goto (pc := 131) (tgt := 135) dL_areSound_131 (by decide) ?_
      refine v_istore (pc := 135) dL_areSound_135 rfl (by decide) ?_
      refine v_iinc (pc := 137) dL_areSound_137 rfl (nI_1 _) rfl (by decide) ?_
      refine v_goto (pc := 140) (tgt := 6) dL_areSound_140 (by decide) ?_
      exact ih (i + 1) _ _ _ G (by omega) hW
    · refine v_iconst (pc := 115) (v := 1) dL_areSound_115 (by decide) ?_
      refine v_goto (pc := 116) (tgt := 120) dL_areSound_116 (by decide) ?_
      refine v_icmp_lt (pc := 120) (tgt := 134) dL_areSound_120 (by decide) (fun c120 => absurd c120 (fun z => by rw [Int32.lt_iff_toInt_lt] at z; rw [Int32.le_iff_toInt_le] at c112; have h0 : (0 : Int32).toInt = 0 := rfl; have h1 : (1 : Int32).toInt = 1 := rfl; have := r3 (by omega); omega)) (fun c120 => ?_)
      refine v_iload (pc := 123) dL_areSound_123 rfl ?_
      refine v_iload (pc := 125) dL_areSound_125 rfl ?_
      refine v_icmp_gt (pc := 127) (tgt := 134) dL_areSound_127 (by decide) (fun c127 => absurd c127 (fun z => by rw [Int32.lt_iff_toInt_lt] at z; omega)) (fun c127 => ?_)
      refine v_iconst (pc := 130) (v := 1) dL_areSound_130 (by decide) ?_
      refine v_goto (pc := 131) (tgt := 135) dL_areSound_131 (by decide) ?_
      refine v_istore (pc := 135) dL_areSound_135 rfl (by decide) ?_
      refine v_iinc (pc := 137) dL_areSound_137 rfl (nI_1 _) rfl (by decide) ?_
      refine v_goto (pc := 140) (tgt := 6) dL_areSound_140 (by decide) ?_
      exact ih (i + 1) _ _ _ G (by omega) hW
set_option maxRecDepth 100000 in
set_option maxHeartbeats 400000 in
theorem l_s3 {D : DT} {K : KT} {X : XT} {s : SG} {M : MT} {q xx : Nat} {u0 n : Nat} {w10 w11 w12 w13 w14 : Option Value} (hI : INV X s q) (hq : q < 512) (hM : MV s M) (hQ : QV s M) (hP : PB s) (hn : n < 256) (hb : ∀ k, k < nG s → n.testBit k = decide (¬ s.1 22 k = 0)) (hU : u0 + 2 * nG s ≤ 250) (kk : ∀ (wl : Int64) (G : GT), WD X s M G → V cL_areSound yL_areSound.cls 15 rm_areSound D K 403 [some (.ref (X.1 0 0)), some (.ref M.1.1), some (.ref M.1.2.1), some (.ref M.1.2.2), some (.int (nI xx)), some (.int 1), some (.long wl), none, some (.int (nI n)), some (.int (nI (nG s))), w10, w11, w12, w13, w14] [] G (nu (u0 + 2 * nG s))) : ∀ (d i : Nat) (wl : Int64) (G : GT), i + d = nG s → WD X s M G → V cL_areSound yL_areSound.cls 15 rm_areSound D K 329 [some (.ref (X.1 0 0)), some (.ref M.1.1), some (.ref M.1.2.1), some (.ref M.1.2.2), some (.int (nI xx)), some (.int 1), some (.long wl), none, some (.int (nI n)), some (.int (nI i)), w10, w11, w12, w13, w14] [] G (nu (u0 + 2 * i)) := by
  obtain ⟨b1, b2, b3, b4, b5, n1, n2, n3, n4, n5⟩ := hI.six hq
  intro d
  induction d with
  | zero =>
    intro i wl G he hW
    obtain rfl : i = nG s := by omega
    refine v_iload (pc := 329) dL_areSound_329 rfl ?_
    refine v_aload_n (pc := 331) dL_areSound_331 rfl rfl ?_
    refine v_iconst (pc := 332) (v := 3) dL_areSound_332 (by decide) ?_
    refine vw_m (pc := 333) (j := 3) hW dL_areSound_333 rfl (by decide) (x := nI (nG s)) (hM.2.2.2.1.trans n4) ?_
    refine v_icmp_ge (pc := 334) (tgt := 403) dL_areSound_334 (by decide) (fun c334 => ?_) (fun c334 => absurd c334 (fun z => z (Int32.le_refl _)))
    exact kk wl G hW
  | succ d ih =>
    intro i wl G he hW
    have hi : i < nG s := by omega
    obtain ⟨p1, p2, p3⟩ := hP i hi
    have hbit := bit_k n hn i (by omega)
    rw [hb i hi] at hbit
    refine v_iload (pc := 329) dL_areSound_329 rfl ?_
    refine v_aload_n (pc := 331) dL_areSound_331 rfl rfl ?_
    refine v_iconst (pc := 332) (v := 3) dL_areSound_332 (by decide) ?_
    refine vw_m (pc := 333) (j := 3) hW dL_areSound_333 rfl (by decide) (x := nI (nG s)) (hM.2.2.2.1.trans n4) ?_
    refine v_icmp_ge (pc := 334) (tgt := 403) dL_areSound_334 (by decide) (fun c334 => absurd c334 (nI_ge (by omega) (by omega))) (fun c334 => ?_)
    refine v_iload (pc := 337) dL_areSound_337 rfl ?_
    refine v_if_eq (pc := 339) (tgt := 403) dL_areSound_339 (by decide) (fun c339 => absurd c339 (by decide)) (fun c339 => ?_)
    refine v_aload_n (pc := 342) dL_areSound_342 rfl rfl ?_
    refine v_iload (pc := 343) dL_areSound_343 rfl ?_
    refine vqV (pc := 345) (u := u0 + 2 * i) (j := 1) (U := 250) (As := [.int _]) hW dL_areSound_345 cw_L_57 im_yX8_pulled se_yX8_pulled rfl (q_pulled _ hW hI hq (by unfold kPul; exact if_pos (btw_n (by omega) (by omega)))) rfl rfl (Nat.le_of_ble_eq_true rfl) ⟨Nat.le_of_ble_eq_true rfl, Nat.le_of_ble_eq_true rfl⟩ ⟨by decide, by decide⟩ ⟨rfl, rfl⟩ (by omega) (fun v G hp => ?_)
    obtain ⟨rfl, hW⟩ := hp
    rw [nat_nI (show i < 2147483648 by omega)]
    refine v_lconst (pc := 348) (v := 0) dL_areSound_348 (by decide) ?_
    refine v_lcmp (pc := 349) dL_areSound_349 ?_
    refine v_if_lt (pc := 350) (tgt := 381) dL_areSound_350 (by decide) (fun c350 => absurd c350 (d_lt p2)) (fun c350 => ?_)
    refine v_iload (pc := 353) dL_areSound_353 rfl ?_
    refine v_iload (pc := 355) dL_areSound_355 rfl ?_
    refine v_ishr (pc := 357) dL_areSound_357 ?_
    refine v_iconst (pc := 358) (v := 1) dL_areSound_358 (by decide) ?_
    refine v_iand (pc := 359) dL_areSound_359 ?_
    refine v_if_eq (pc := 360) (tgt := 377) dL_areSound_360 (by decide) (fun c360 => ?_) (fun c360 => ?_)
    · refine v_iconst (pc := 377) (v := 1) dL_areSound_377 (by decide) ?_
      refine v_goto (pc := 378) (tgt := 382) dL_areSound_378 (by decide) ?_
      refine v_istore (pc := 382) dL_areSound_382 rfl (by decide) ?_
      refine v_lload (pc := 384) dL_areSound_384 rfl ?_
      refine v_iload (pc := 386) dL_areSound_386 rfl ?_
      refine v_iload (pc := 388) dL_areSound_388 rfl ?_
      refine v_ishr (pc := 390) dL_areSound_390 ?_
      refine v_iconst (pc := 391) (v := 1) dL_areSound_391 (by decide) ?_
      refine v_iand (pc := 392) dL_areSound_392 ?_
      refine v_i2l (pc := 393) dL_areSound_393 ?_
      refine v_ladd (pc := 394) dL_areSound_394 ?_
      refine v_lstore (pc := 395) dL_areSound_395 rfl (by decide) ?_
      refine v_iinc (pc := 397) dL_areSound_397 rfl (nI_1 _) rfl (by decide) ?_
      refine v_goto (pc := 400) (tgt := 329) dL_areSound_400 (by decide) ?_
      refine vq_u (u' := u0 + 2 * (i + 1)) (by omega) ?_
      exact ih (i + 1) _ G (by omega) hW
    · have h22 : s.1 22 i = 1 := p1.elim (fun z => absurd (by rw [hbit, if_neg (by simp [z])]) c360) (fun z => z)
      refine v_aload_n (pc := 363) dL_areSound_363 rfl rfl ?_
      refine v_iload (pc := 364) dL_areSound_364 rfl ?_
      refine vqV (pc := 366) (u := u0 + 2 * i + 1) (j := 1) (U := 250) (As := [.int _]) hW dL_areSound_366 cw_L_57 im_yX8_pulled se_yX8_pulled rfl (q_pulled _ hW hI hq (by unfold kPul; exact if_pos (btw_n (by omega) (by omega)))) rfl rfl (Nat.le_of_ble_eq_true rfl) ⟨Nat.le_of_ble_eq_true rfl, Nat.le_of_ble_eq_true rfl⟩ ⟨by decide, by decide⟩ ⟨rfl, rfl⟩ (by omega) (fun v G hp => ?_)
      obtain ⟨rfl, hW⟩ := hp
      rw [nat_nI (show i < 2147483648 by omega)]
      refine v_aload_n (pc := 369) dL_areSound_369 rfl rfl ?_
      refine v_iload (pc := 370) dL_areSound_370 rfl ?_
      refine vw_h (pc := 372) (j := i) hW dL_areSound_372 rfl (by omega) (x := s.2 20 i) (hQ.2 i hi) ?_
      refine v_lcmp (pc := 373) dL_areSound_373 ?_
      refine v_if_gt (pc := 374) (tgt := 381) dL_areSound_374 (by decide) (fun c374 => absurd c374 (d_gt (p3 h22))) (fun c374 => ?_)
      refine v_iconst (pc := 377) (v := 1) dL_areSound_377 (by decide) ?_
      refine v_goto (pc := 378) (tgt := 382) dL_areSound_378 (by decide) ?_
      refine v_istore (pc := 382) dL_areSound_382 rfl (by decide) ?_
      refine v_lload (pc := 384) dL_areSound_384 rfl ?_
      refine v_iload (pc := 386) dL_areSound_386 rfl ?_
      refine v_iload (pc := 388) dL_areSound_388 rfl ?_
      refine v_ishr (pc := 390) dL_areSound_390 ?_
      refine v_iconst (pc := 391) (v := 1) dL_areSound_391 (by decide) ?_
      refine v_iand (pc := 392) dL_areSound_392 ?_
      refine v_i2l (pc := 393) dL_areSound_393 ?_
      refine v_ladd (pc := 394) dL_areSound_394 ?_
      refine v_lstore (pc := 395) dL_areSound_395 rfl (by decide) ?_
      refine v_iinc (pc := 397) dL_areSound_397 rfl (nI_1 _) rfl (by decide) ?_
      refine v_goto (pc := 400) (tgt := 329) dL_areSound_400 (by decide) ?_
      refine vq_u (u' := u0 + 2 * (i + 1)) (by omega) ?_
      exact ih (i + 1) _ G (by omega) hW
set_option maxRecDepth 100000 in
set_option maxHeartbeats 400000 in
theorem l_s4 {D : DT} {K : KT} {X : XT} {s : SG} {M : MT} {q xx : Nat} {u0 : Nat} {wl : Int64} {inn : Int32} {w12 w13 w14 : Option Value} (hI : INV X s q) (hq : q < 512) (hM : MV s M) (hQ : QV s M) (hC : CB s) (hU : u0 + 16 * nC s ≤ 250) (kk : ∀ (w10 w11 : Option Value) (G : GT), WD X s M G → V cL_areSound yL_areSound.cls 15 rm_areSound D K 631 [some (.ref (X.1 0 0)), some (.ref M.1.1), some (.ref M.1.2.1), some (.ref M.1.2.2), some (.int (nI xx)), some (.int 1), some (.long wl), none, some (.int inn), some (.int (nI (nC s))), w10, w11, w12, w13, w14] [] G (nu (u0 + 16 * nC s))) : ∀ (d i : Nat) (w10 w11 : Option Value) (G : GT), i + d = nC s → WD X s M G → V cL_areSound yL_areSound.cls 15 rm_areSound D K 433 [some (.ref (X.1 0 0)), some (.ref M.1.1), some (.ref M.1.2.1), some (.ref M.1.2.2), some (.int (nI xx)), some (.int 1), some (.long wl), none, some (.int inn), some (.int (nI i)), w10, w11, w12, w13, w14] [] G (nu (u0 + 16 * i)) := by
  obtain ⟨b1, b2, b3, b4, b5, n1, n2, n3, n4, n5⟩ := hI.six hq
  intro d
  induction d with
  | zero =>
    intro i w10 w11 G he hW
    obtain rfl : i = nC s := by omega
    refine v_iload (pc := 433) dL_areSound_433 rfl ?_
    refine v_aload_n (pc := 435) dL_areSound_435 rfl rfl ?_
    refine v_iconst (pc := 436) (v := 4) dL_areSound_436 (by decide) ?_
    refine vw_m (pc := 437) (j := 4) hW dL_areSound_437 rfl (by decide) (x := nI (nC s)) (hM.2.2.2.2.1.trans n3) ?_
    refine v_icmp_ge (pc := 438) (tgt := 631) dL_areSound_438 (by decide) (fun c438 => ?_) (fun c438 => absurd c438 (fun z => z (Int32.le_refl _)))
    exact kk _ _ G hW
  | succ d ih =>
    intro i w10 w11 G he hW
    have hi : i < nC s := by omega
    obtain ⟨⟨q1, q2⟩, q3, q4, q5, q6, q7, q8⟩ := cq_of hI hq hC hi
    have hik : btw (nI i) 0 (nI (nC s) - 1) := btw_n (by omega) (by omega)
    refine v_iload (pc := 433) dL_areSound_433 rfl ?_
    refine v_aload_n (pc := 435) dL_areSound_435 rfl rfl ?_
    refine v_iconst (pc := 436) (v := 4) dL_areSound_436 (by decide) ?_
    refine vw_m (pc := 437) (j := 4) hW dL_areSound_437 rfl (by decide) (x := nI (nC s)) (hM.2.2.2.2.1.trans n3) ?_
    refine v_icmp_ge (pc := 438) (tgt := 631) dL_areSound_438 (by decide) (fun c438 => absurd c438 (nI_ge (by omega) (by omega))) (fun c438 => ?_)
    refine v_iload (pc := 441) dL_areSound_441 rfl ?_
    refine v_if_eq (pc := 443) (tgt := 631) dL_areSound_443 (by decide) (fun c443 => absurd c443 (by decide)) (fun c443 => ?_)
    refine v_aload_n (pc := 446) dL_areSound_446 rfl rfl ?_
    refine v_iload (pc := 447) dL_areSound_447 rfl ?_
    refine vqV (pc := 449) (u := u0 + 16 * i) (j := 1) (U := 250) (As := [.int _]) hW dL_areSound_449 cw_L_81 im_yX8_opens se_yX8_opens rfl (q_opens _ hW hI hq (by unfold kOp; exact if_pos hik)) rfl rfl (Nat.le_of_ble_eq_true rfl) ⟨Nat.le_of_ble_eq_true rfl, Nat.le_of_ble_eq_true rfl⟩ ⟨by decide, by decide⟩ ⟨rfl, rfl⟩ (by omega) (fun v G hp => ?_)
    obtain ⟨rfl, hW⟩ := hp
    rw [nat_nI (show i < 2147483648 by omega)]
    refine v_istore (pc := 452) dL_areSound_452 rfl (by decide) ?_
    refine v_aload_n (pc := 454) dL_areSound_454 rfl rfl ?_
    refine v_iload (pc := 455) dL_areSound_455 rfl ?_
    refine v_iconst (pc := 457) (v := 1) dL_areSound_457 (by decide) ?_
    refine vqV (pc := 458) (u := u0 + 16 * i + 1) (j := 1) (U := 250) (As := [.int _, .int _]) hW dL_areSound_458 cw_L_97 im_yX8_ofCanopy se_yX8_ofCanopy rfl (q_ofCanopy _ 1 hW hI hq (by unfold kOf; rw [if_pos hik, if_pos (by decide)])) rfl rfl (Nat.le_of_ble_eq_true rfl) ⟨Nat.le_of_ble_eq_true rfl, Nat.le_of_ble_eq_true rfl⟩ ⟨by decide, by decide⟩ ⟨rfl, rfl⟩ (by omega) (fun v G hp => ?_)
    obtain ⟨rfl, hW⟩ := hp
    rw [nat_nI (show i < 2147483648 by omega), show ofS s i 1 = s.1 32 i from rfl]
    refine v_if_lt (pc := 461) (tgt := 468) dL_areSound_461 (by decide) (fun c461 => ?_) (fun c461 => ?_)
    · refine v_iconst (pc := 468) (v := 0) dL_areSound_468 (by decide) ?_
      refine v_istore (pc := 469) dL_areSound_469 rfl (by decide) ?_
      refine v_iload (pc := 471) dL_areSound_471 rfl ?_
      refine v_iconst (pc := 473) (v := (-1)) dL_areSound_473 (by decide) ?_
      refine v_icmp_lt (pc := 474) (tgt := 622) dL_areSound_474 (by decide) (fun c474 => absurd c474 q1) (fun c474 => ?_)
      refine v_iload (pc := 477) dL_areSound_477 rfl ?_
      refine v_bipush (pc := 479) (v := 9) dL_areSound_479 (by decide) ?_
      refine v_icmp_ge (pc := 481) (tgt := 622) dL_areSound_481 (by decide) (fun c481 => absurd c481 q2) (fun c481 => ?_)
      refine v_iload (pc := 484) dL_areSound_484 rfl ?_
      refine v_aload_n (pc := 486) dL_areSound_486 rfl rfl ?_
      refine v_iload (pc := 487) dL_areSound_487 rfl ?_
      refine v_iconst (pc := 489) (v := 2) dL_areSound_489 (by decide) ?_
      refine vqV (pc := 490) (u := u0 + 16 * i + 1 + 1) (j := 1) (U := 250) (As := [.int _, .int _]) hW dL_areSound_490 cw_L_97 im_yX8_ofCanopy se_yX8_ofCanopy rfl (q_ofCanopy _ 2 hW hI hq (by unfold kOf; rw [if_pos hik, if_pos (by decide)])) rfl rfl (Nat.le_of_ble_eq_true rfl) ⟨Nat.le_of_ble_eq_true rfl, Nat.le_of_ble_eq_true rfl⟩ ⟨by decide, by decide⟩ ⟨rfl, rfl⟩ (by omega) (fun v G hp => ?_)
      obtain ⟨rfl, hW⟩ := hp
      rw [nat_nI (show i < 2147483648 by omega), show ofS s i 2 = s.1 33 i from rfl]
      refine v_if_lt (pc := 493) (tgt := 500) dL_areSound_493 (by decide) (fun c493 => ?_) (fun c493 => absurd c493 (fun z => z (q3.mp c461)))
      refine v_iconst (pc := 500) (v := 0) dL_areSound_500 (by decide) ?_
      refine v_icmp_ne (pc := 501) (tgt := 622) dL_areSound_501 (by decide) (fun c501 => absurd c501 (by decide)) (fun c501 => ?_)
      refine v_aload_n (pc := 504) dL_areSound_504 rfl rfl ?_
      refine v_iload (pc := 505) dL_areSound_505 rfl ?_
      refine v_iconst (pc := 507) (v := 2) dL_areSound_507 (by decide) ?_
      refine vqV (pc := 508) (u := u0 + 16 * i + 1 + 1 + 1) (j := 1) (U := 250) (As := [.int _, .int _]) hW dL_areSound_508 cw_L_97 im_yX8_ofCanopy se_yX8_ofCanopy rfl (q_ofCanopy _ 2 hW hI hq (by unfold kOf; rw [if_pos hik, if_pos (by decide)])) rfl rfl (Nat.le_of_ble_eq_true rfl) ⟨Nat.le_of_ble_eq_true rfl, Nat.le_of_ble_eq_true rfl⟩ ⟨by decide, by decide⟩ ⟨rfl, rfl⟩ (by omega) (fun v G hp => ?_)
      obtain ⟨rfl, hW⟩ := hp
      rw [nat_nI (show i < 2147483648 by omega), show ofS s i 2 = s.1 33 i from rfl]
      refine v_aload_n (pc := 511) dL_areSound_511 rfl rfl ?_
      refine v_iconst (pc := 512) (v := 5) dL_areSound_512 (by decide) ?_
      refine vw_m (pc := 513) (j := 5) hW dL_areSound_513 rfl (by decide) (x := s.1 27 0) hM.2.2.2.2.2 ?_
      refine v_icmp_gt (pc := 514) (tgt := 622) dL_areSound_514 (by decide) (fun c514 => absurd c514 q4) (fun c514 => ?_)
      refine v_aload_n (pc := 517) dL_areSound_517 rfl rfl ?_
      refine v_iload (pc := 518) dL_areSound_518 rfl ?_
      refine v_iconst (pc := 520) (v := 4) dL_areSound_520 (by decide) ?_
      refine vqV (pc := 521) (u := u0 + 16 * i + 1 + 1 + 1 + 1) (j := 1) (U := 250) (As := [.int _, .int _]) hW dL_areSound_521 cw_L_97 im_yX8_ofCanopy se_yX8_ofCanopy rfl (q_ofCanopy _ 4 hW hI hq (by unfold kOf; rw [if_pos hik, if_pos (by decide)])) rfl rfl (Nat.le_of_ble_eq_true rfl) ⟨Nat.le_of_ble_eq_true rfl, Nat.le_of_ble_eq_true rfl⟩ ⟨by decide, by decide⟩ ⟨rfl, rfl⟩ (by omega) (fun v G hp => ?_)
      obtain ⟨rfl, hW⟩ := hp
      rw [nat_nI (show i < 2147483648 by omega), show ofS s i 4 = s.1 35 i from rfl]
      refine v_aload_n (pc := 524) dL_areSound_524 rfl rfl ?_
      refine v_iload (pc := 525) dL_areSound_525 rfl ?_
      refine v_iconst (pc := 527) (v := 3) dL_areSound_527 (by decide) ?_
      refine vqV (pc := 528) (u := u0 + 16 * i + 1 + 1 + 1 + 1 + 1) (j := 1) (U := 250) (As := [.int _, .int _]) hW dL_areSound_528 cw_L_97 im_yX8_ofCanopy se_yX8_ofCanopy rfl (q_ofCanopy _ 3 hW hI hq (by unfold kOf; rw [if_pos hik, if_pos (by decide)])) rfl rfl (Nat.le_of_ble_eq_true rfl) ⟨Nat.le_of_ble_eq_true rfl, Nat.le_of_ble_eq_true rfl⟩ ⟨by decide, by decide⟩ ⟨rfl, rfl⟩ (by omega) (fun v G hp => ?_)
      obtain ⟨rfl, hW⟩ := hp
      rw [nat_nI (show i < 2147483648 by omega), show ofS s i 3 = s.1 34 i from rfl]
      refine v_icmp_gt (pc := 531) (tgt := 622) dL_areSound_531 (by decide) (fun c531 => absurd c531 q5) (fun c531 => ?_)
      refine v_iload (pc := 534) dL_areSound_534 rfl ?_
      refine v_if_eq (pc := 536) (tgt := 544) dL_areSound_536 (by decide) (fun c536 => ?_) (fun c536 => absurd c536 (by decide))
      refine v_aload_n (pc := 544) dL_areSound_544 rfl rfl ?_
      refine v_iload (pc := 545) dL_areSound_545 rfl ?_
      refine v_iconst (pc := 547) (v := 3) dL_areSound_547 (by decide) ?_
      refine vqV (pc := 548) (u := u0 + 16 * i + 1 + 1 + 1 + 1 + 1 + 1) (j := 1) (U := 250) (As := [.int _, .int _]) hW dL_areSound_548 cw_L_100 im_yX8_lifeAnew se_yX8_lifeAnew rfl (q_lifeAnew _ 3 hW hI hq (by unfold kOf; rw [if_pos hik, if_pos (by decide)])) rfl rfl (Nat.le_of_ble_eq_true rfl) ⟨Nat.le_of_ble_eq_true rfl, Nat.le_of_ble_eq_true rfl⟩ ⟨by decide, by decide⟩ ⟨rfl, rfl⟩ (by omega) (fun v G hp => ?_)
      obtain ⟨rfl, hW⟩ := hp
      rw [nat_nI (show i < 2147483648 by omega), show lifeS s i 3 = s.1 34 i from rfl]
      refine v_aload_n (pc := 551) dL_areSound_551 rfl rfl ?_
      refine v_iload (pc := 552) dL_areSound_552 rfl ?_
      refine v_iconst (pc := 554) (v := 3) dL_areSound_554 (by decide) ?_
      refine vqV (pc := 555) (u := u0 + 16 * i + 1 + 1 + 1 + 1 + 1 + 1 + 1) (j := 1) (U := 250) (As := [.int _, .int _]) hW dL_areSound_555 cw_L_97 im_yX8_ofCanopy se_yX8_ofCanopy rfl (q_ofCanopy _ 3 hW hI hq (by unfold kOf; rw [if_pos hik, if_pos (by decide)])) rfl rfl (Nat.le_of_ble_eq_true rfl) ⟨Nat.le_of_ble_eq_true rfl, Nat.le_of_ble_eq_true rfl⟩ ⟨by decide, by decide⟩ ⟨rfl, rfl⟩ (by omega) (fun v G hp => ?_)
      obtain ⟨rfl, hW⟩ := hp
      rw [nat_nI (show i < 2147483648 by omega), show ofS s i 3 = s.1 34 i from rfl]
      refine v_icmp_ne (pc := 558) (tgt := 622) dL_areSound_558 (by decide) (fun c558 => absurd c558 (fun z => z rfl)) (fun c558 => ?_)
      refine v_aload_n (pc := 561) dL_areSound_561 rfl rfl ?_
      refine v_iload (pc := 562) dL_areSound_562 rfl ?_
      refine v_iconst (pc := 564) (v := 4) dL_areSound_564 (by decide) ?_
      refine vqV (pc := 565) (u := u0 + 16 * i + 1 + 1 + 1 + 1 + 1 + 1 + 1 + 1) (j := 1) (U := 250) (As := [.int _, .int _]) hW dL_areSound_565 cw_L_100 im_yX8_lifeAnew se_yX8_lifeAnew rfl (q_lifeAnew _ 4 hW hI hq (by unfold kOf; rw [if_pos hik, if_pos (by decide)])) rfl rfl (Nat.le_of_ble_eq_true rfl) ⟨Nat.le_of_ble_eq_true rfl, Nat.le_of_ble_eq_true rfl⟩ ⟨by decide, by decide⟩ ⟨rfl, rfl⟩ (by omega) (fun v G hp => ?_)
      obtain ⟨rfl, hW⟩ := hp
      rw [nat_nI (show i < 2147483648 by omega), show lifeS s i 4 = s.1 35 i from rfl]
      refine v_aload_n (pc := 568) dL_areSound_568 rfl rfl ?_
      refine v_iload (pc := 569) dL_areSound_569 rfl ?_
      refine v_iconst (pc := 571) (v := 4) dL_areSound_571 (by decide) ?_
      refine vqV (pc := 572) (u := u0 + 16 * i + 1 + 1 + 1 + 1 + 1 + 1 + 1 + 1 + 1) (j := 1) (U := 250) (As := [.int _, .int _]) hW dL_areSound_572 cw_L_97 im_yX8_ofCanopy se_yX8_ofCanopy rfl (q_ofCanopy _ 4 hW hI hq (by unfold kOf; rw [if_pos hik, if_pos (by decide)])) rfl rfl (Nat.le_of_ble_eq_true rfl) ⟨Nat.le_of_ble_eq_true rfl, Nat.le_of_ble_eq_true rfl⟩ ⟨by decide, by decide⟩ ⟨rfl, rfl⟩ (by omega) (fun v G hp => ?_)
      obtain ⟨rfl, hW⟩ := hp
      rw [nat_nI (show i < 2147483648 by omega), show ofS s i 4 = s.1 35 i from rfl]
      refine v_icmp_ne (pc := 575) (tgt := 622) dL_areSound_575 (by decide) (fun c575 => absurd c575 (fun z => z rfl)) (fun c575 => ?_)
      refine v_aload_n (pc := 578) dL_areSound_578 rfl rfl ?_
      refine v_iload (pc := 579) dL_areSound_579 rfl ?_
      refine v_iconst (pc := 581) (v := 5) dL_areSound_581 (by decide) ?_
      refine vqV (pc := 582) (u := u0 + 16 * i + 1 + 1 + 1 + 1 + 1 + 1 + 1 + 1 + 1 + 1) (j := 1) (U := 250) (As := [.int _, .int _]) hW dL_areSound_582 cw_L_100 im_yX8_lifeAnew se_yX8_lifeAnew rfl (q_lifeAnew _ 5 hW hI hq (by unfold kOf; rw [if_pos hik, if_pos (by decide)])) rfl rfl (Nat.le_of_ble_eq_true rfl) ⟨Nat.le_of_ble_eq_true rfl, Nat.le_of_ble_eq_true rfl⟩ ⟨by decide, by decide⟩ ⟨rfl, rfl⟩ (by omega) (fun v G hp => ?_)
      obtain ⟨rfl, hW⟩ := hp
      rw [nat_nI (show i < 2147483648 by omega), show lifeS s i 5 = s.1 36 i from rfl]
      refine v_aload_n (pc := 585) dL_areSound_585 rfl rfl ?_
      refine v_iload (pc := 586) dL_areSound_586 rfl ?_
      refine v_iconst (pc := 588) (v := 5) dL_areSound_588 (by decide) ?_
      refine vqV (pc := 589) (u := u0 + 16 * i + 1 + 1 + 1 + 1 + 1 + 1 + 1 + 1 + 1 + 1 + 1) (j := 1) (U := 250) (As := [.int _, .int _]) hW dL_areSound_589 cw_L_97 im_yX8_ofCanopy se_yX8_ofCanopy rfl (q_ofCanopy _ 5 hW hI hq (by unfold kOf; rw [if_pos hik, if_pos (by decide)])) rfl rfl (Nat.le_of_ble_eq_true rfl) ⟨Nat.le_of_ble_eq_true rfl, Nat.le_of_ble_eq_true rfl⟩ ⟨by decide, by decide⟩ ⟨rfl, rfl⟩ (by omega) (fun v G hp => ?_)
      obtain ⟨rfl, hW⟩ := hp
      rw [nat_nI (show i < 2147483648 by omega), show ofS s i 5 = s.1 36 i from rfl]
      refine v_icmp_ne (pc := 592) (tgt := 622) dL_areSound_592 (by decide) (fun c592 => absurd c592 (fun z => z rfl)) (fun c592 => ?_)
      refine v_aload_n (pc := 595) dL_areSound_595 rfl rfl ?_
      refine v_iload (pc := 596) dL_areSound_596 rfl ?_
      refine v_iconst (pc := 598) (v := 0) dL_areSound_598 (by decide) ?_
      refine vqV (pc := 599) (u := u0 + 16 * i + 1 + 1 + 1 + 1 + 1 + 1 + 1 + 1 + 1 + 1 + 1 + 1) (j := 1) (U := 250) (As := [.int _, .int _]) hW dL_areSound_599 cw_L_97 im_yX8_ofCanopy se_yX8_ofCanopy rfl (q_ofCanopy _ 0 hW hI hq (by unfold kOf; rw [if_pos hik, if_pos (by decide)])) rfl rfl (Nat.le_of_ble_eq_true rfl) ⟨Nat.le_of_ble_eq_true rfl, Nat.le_of_ble_eq_true rfl⟩ ⟨by decide, by decide⟩ ⟨rfl, rfl⟩ (by omega) (fun v G hp => ?_)
      obtain ⟨rfl, hW⟩ := hp
      rw [nat_nI (show i < 2147483648 by omega), show ofS s i 0 = s.1 29 i from rfl]
      refine v_if_lt (pc := 602) (tgt := 622) dL_areSound_602 (by decide) (fun c602 => absurd c602 q7) (fun c602 => ?_)
      refine v_aload_n (pc := 605) dL_areSound_605 rfl rfl ?_
      refine v_iload (pc := 606) dL_areSound_606 rfl ?_
      refine v_iconst (pc := 608) (v := 0) dL_areSound_608 (by decide) ?_
      refine vqV (pc := 609) (u := u0 + 16 * i + 1 + 1 + 1 + 1 + 1 + 1 + 1 + 1 + 1 + 1 + 1 + 1 + 1) (j := 1) (U := 250) (As := [.int _, .int _]) hW dL_areSound_609 cw_L_97 im_yX8_ofCanopy se_yX8_ofCanopy rfl (q_ofCanopy _ 0 hW hI hq (by unfold kOf; rw [if_pos hik, if_pos (by decide)])) rfl rfl (Nat.le_of_ble_eq_true rfl) ⟨Nat.le_of_ble_eq_true rfl, Nat.le_of_ble_eq_true rfl⟩ ⟨by decide, by decide⟩ ⟨rfl, rfl⟩ (by omega) (fun v G hp => ?_)
      obtain ⟨rfl, hW⟩ := hp
      rw [nat_nI (show i < 2147483648 by omega), show ofS s i 0 = s.1 29 i from rfl]
      refine v_aload_n (pc := 612) dL_areSound_612 rfl rfl ?_
      refine v_iconst (pc := 613) (v := 0) dL_areSound_613 (by decide) ?_
      refine vw_m (pc := 614) (j := 0) hW dL_areSound_614 rfl (by decide) (x := nI (nA s)) (hM.1.trans n1) ?_
      refine v_icmp_ge (pc := 615) (tgt := 622) dL_areSound_615 (by decide) (fun c615 => absurd c615 q8) (fun c615 => ?_)
      refine v_iconst (pc := 618) (v := 1) dL_areSound_618 (by decide) ?_
      refine v_goto (pc := 619) (tgt := 623) dL_areSound_619 (by decide) ?_
      refine v_istore (pc := 623) dL_areSound_623 rfl (by decide) ?_
      refine v_iinc (pc := 625) dL_areSound_625 rfl (nI_1 _) rfl (by decide) ?_
      refine v_goto (pc := 628) (tgt := 433) dL_areSound_628 (by decide) ?_
      refine vq_u (u' := u0 + 16 * (i + 1)) (by omega) ?_
      exact ih (i + 1) _ _ G (by omega) hW
    · refine v_iconst (pc := 464) (v := 1) dL_areSound_464 (by decide) ?_
      refine v_goto (pc := 465) (tgt := 469) dL_areSound_465 (by decide) ?_
      refine v_istore (pc := 469) dL_areSound_469 rfl (by decide) ?_
      refine v_iload (pc := 471) dL_areSound_471 rfl ?_
      refine v_iconst (pc := 473) (v := (-1)) dL_areSound_473 (by decide) ?_
      refine v_icmp_lt (pc := 474) (tgt := 622) dL_areSound_474 (by decide) (fun c474 => absurd c474 q1) (fun c474 => ?_)
      refine v_iload (pc := 477) dL_areSound_477 rfl ?_
      refine v_bipush (pc := 479) (v := 9) dL_areSound_479 (by decide) ?_
      refine v_icmp_ge (pc := 481) (tgt := 622) dL_areSound_481 (by decide) (fun c481 => absurd c481 q2) (fun c481 => ?_)
      refine v_iload (pc := 484) dL_areSound_484 rfl ?_
      refine v_aload_n (pc := 486) dL_areSound_486 rfl rfl ?_
      refine v_iload (pc := 487) dL_areSound_487 rfl ?_
      refine v_iconst (pc := 489) (v := 2) dL_areSound_489 (by decide) ?_
      refine vqV (pc := 490) (u := u0 + 16 * i + 1 + 1) (j := 1) (U := 250) (As := [.int _, .int _]) hW dL_areSound_490 cw_L_97 im_yX8_ofCanopy se_yX8_ofCanopy rfl (q_ofCanopy _ 2 hW hI hq (by unfold kOf; rw [if_pos hik, if_pos (by decide)])) rfl rfl (Nat.le_of_ble_eq_true rfl) ⟨Nat.le_of_ble_eq_true rfl, Nat.le_of_ble_eq_true rfl⟩ ⟨by decide, by decide⟩ ⟨rfl, rfl⟩ (by omega) (fun v G hp => ?_)
      obtain ⟨rfl, hW⟩ := hp
      rw [nat_nI (show i < 2147483648 by omega), show ofS s i 2 = s.1 33 i from rfl]
      refine v_if_lt (pc := 493) (tgt := 500) dL_areSound_493 (by decide) (fun c493 => absurd c493 (fun z => c461 (q3.mpr z))) (fun c493 => ?_)
      refine v_iconst (pc := 496) (v := 1) dL_areSound_496 (by decide) ?_
      refine v_goto (pc := 497) (tgt := 501) dL_areSound_497 (by decide) ?_
      refine v_icmp_ne (pc := 501) (tgt := 622) dL_areSound_501 (by decide) (fun c501 => absurd c501 (by decide)) (fun c501 => ?_)
      refine v_aload_n (pc := 504) dL_areSound_504 rfl rfl ?_
      refine v_iload (pc := 505) dL_areSound_505 rfl ?_
      refine v_iconst (pc := 507) (v := 2) dL_areSound_507 (by decide) ?_
      refine vqV (pc := 508) (u := u0 + 16 * i + 1 + 1 + 1) (j := 1) (U := 250) (As := [.int _, .int _]) hW dL_areSound_508 cw_L_97 im_yX8_ofCanopy se_yX8_ofCanopy rfl (q_ofCanopy _ 2 hW hI hq (by unfold kOf; rw [if_pos hik, if_pos (by decide)])) rfl rfl (Nat.le_of_ble_eq_true rfl) ⟨Nat.le_of_ble_eq_true rfl, Nat.le_of_ble_eq_true rfl⟩ ⟨by decide, by decide⟩ ⟨rfl, rfl⟩ (by omega) (fun v G hp => ?_)
      obtain ⟨rfl, hW⟩ := hp
      rw [nat_nI (show i < 2147483648 by omega), show ofS s i 2 = s.1 33 i from rfl]
      refine v_aload_n (pc := 511) dL_areSound_511 rfl rfl ?_
      refine v_iconst (pc := 512) (v := 5) dL_areSound_512 (by decide) ?_
      refine vw_m (pc := 513) (j := 5) hW dL_areSound_513 rfl (by decide) (x := s.1 27 0) hM.2.2.2.2.2 ?_
      refine v_icmp_gt (pc := 514) (tgt := 622) dL_areSound_514 (by decide) (fun c514 => absurd c514 q4) (fun c514 => ?_)
      refine v_aload_n (pc := 517) dL_areSound_517 rfl rfl ?_
      refine v_iload (pc := 518) dL_areSound_518 rfl ?_
      refine v_iconst (pc := 520) (v := 4) dL_areSound_520 (by decide) ?_
      refine vqV (pc := 521) (u := u0 + 16 * i + 1 + 1 + 1 + 1) (j := 1) (U := 250) (As := [.int _, .int _]) hW dL_areSound_521 cw_L_97 im_yX8_ofCanopy se_yX8_ofCanopy rfl (q_ofCanopy _ 4 hW hI hq (by unfold kOf; rw [if_pos hik, if_pos (by decide)])) rfl rfl (Nat.le_of_ble_eq_true rfl) ⟨Nat.le_of_ble_eq_true rfl, Nat.le_of_ble_eq_true rfl⟩ ⟨by decide, by decide⟩ ⟨rfl, rfl⟩ (by omega) (fun v G hp => ?_)
      obtain ⟨rfl, hW⟩ := hp
      rw [nat_nI (show i < 2147483648 by omega), show ofS s i 4 = s.1 35 i from rfl]
      refine v_aload_n (pc := 524) dL_areSound_524 rfl rfl ?_
      refine v_iload (pc := 525) dL_areSound_525 rfl ?_
      refine v_iconst (pc := 527) (v := 3) dL_areSound_527 (by decide) ?_
      refine vqV (pc := 528) (u := u0 + 16 * i + 1 + 1 + 1 + 1 + 1) (j := 1) (U := 250) (As := [.int _, .int _]) hW dL_areSound_528 cw_L_97 im_yX8_ofCanopy se_yX8_ofCanopy rfl (q_ofCanopy _ 3 hW hI hq (by unfold kOf; rw [if_pos hik, if_pos (by decide)])) rfl rfl (Nat.le_of_ble_eq_true rfl) ⟨Nat.le_of_ble_eq_true rfl, Nat.le_of_ble_eq_true rfl⟩ ⟨by decide, by decide⟩ ⟨rfl, rfl⟩ (by omega) (fun v G hp => ?_)
      obtain ⟨rfl, hW⟩ := hp
      rw [nat_nI (show i < 2147483648 by omega), show ofS s i 3 = s.1 34 i from rfl]
      refine v_icmp_gt (pc := 531) (tgt := 622) dL_areSound_531 (by decide) (fun c531 => absurd c531 q5) (fun c531 => ?_)
      refine v_iload (pc := 534) dL_areSound_534 rfl ?_
      refine v_if_eq (pc := 536) (tgt := 544) dL_areSound_536 (by decide) (fun c536 => absurd c536 (by decide)) (fun c536 => ?_)
      refine v_iload (pc := 539) dL_areSound_539 rfl ?_
      refine v_if_le (pc := 541) (tgt := 622) dL_areSound_541 (by decide) (fun c541 => absurd c541 (q6 c461)) (fun c541 => ?_)
      refine v_aload_n (pc := 544) dL_areSound_544 rfl rfl ?_
      refine v_iload (pc := 545) dL_areSound_545 rfl ?_
      refine v_iconst (pc := 547) (v := 3) dL_areSound_547 (by decide) ?_
      refine vqV (pc := 548) (u := u0 + 16 * i + 1 + 1 + 1 + 1 + 1 + 1) (j := 1) (U := 250) (As := [.int _, .int _]) hW dL_areSound_548 cw_L_100 im_yX8_lifeAnew se_yX8_lifeAnew rfl (q_lifeAnew _ 3 hW hI hq (by unfold kOf; rw [if_pos hik, if_pos (by decide)])) rfl rfl (Nat.le_of_ble_eq_true rfl) ⟨Nat.le_of_ble_eq_true rfl, Nat.le_of_ble_eq_true rfl⟩ ⟨by decide, by decide⟩ ⟨rfl, rfl⟩ (by omega) (fun v G hp => ?_)
      obtain ⟨rfl, hW⟩ := hp
      rw [nat_nI (show i < 2147483648 by omega), show lifeS s i 3 = s.1 34 i from rfl]
      refine v_aload_n (pc := 551) dL_areSound_551 rfl rfl ?_
      refine v_iload (pc := 552) dL_areSound_552 rfl ?_
      refine v_iconst (pc := 554) (v := 3) dL_areSound_554 (by decide) ?_
      refine vqV (pc := 555) (u := u0 + 16 * i + 1 + 1 + 1 + 1 + 1 + 1 + 1) (j := 1) (U := 250) (As := [.int _, .int _]) hW dL_areSound_555 cw_L_97 im_yX8_ofCanopy se_yX8_ofCanopy rfl (q_ofCanopy _ 3 hW hI hq (by unfold kOf; rw [if_pos hik, if_pos (by decide)])) rfl rfl (Nat.le_of_ble_eq_true rfl) ⟨Nat.le_of_ble_eq_true rfl, Nat.le_of_ble_eq_true rfl⟩ ⟨by decide, by decide⟩ ⟨rfl, rfl⟩ (by omega) (fun v G hp => ?_)
      obtain ⟨rfl, hW⟩ := hp
      rw [nat_nI (show i < 2147483648 by omega), show ofS s i 3 = s.1 34 i from rfl]
      refine v_icmp_ne (pc := 558) (tgt := 622) dL_areSound_558 (by decide) (fun c558 => absurd c558 (fun z => z rfl)) (fun c558 => ?_)
      refine v_aload_n (pc := 561) dL_areSound_561 rfl rfl ?_
      refine v_iload (pc := 562) dL_areSound_562 rfl ?_
      refine v_iconst (pc := 564) (v := 4) dL_areSound_564 (by decide) ?_
      refine vqV (pc := 565) (u := u0 + 16 * i + 1 + 1 + 1 + 1 + 1 + 1 + 1 + 1) (j := 1) (U := 250) (As := [.int _, .int _]) hW dL_areSound_565 cw_L_100 im_yX8_lifeAnew se_yX8_lifeAnew rfl (q_lifeAnew _ 4 hW hI hq (by unfold kOf; rw [if_pos hik, if_pos (by decide)])) rfl rfl (Nat.le_of_ble_eq_true rfl) ⟨Nat.le_of_ble_eq_true rfl, Nat.le_of_ble_eq_true rfl⟩ ⟨by decide, by decide⟩ ⟨rfl, rfl⟩ (by omega) (fun v G hp => ?_)
      obtain ⟨rfl, hW⟩ := hp
      rw [nat_nI (show i < 2147483648 by omega), show lifeS s i 4 = s.1 35 i from rfl]
      refine v_aload_n (pc := 568) dL_areSound_568 rfl rfl ?_
      refine v_iload (pc := 569) dL_areSound_569 rfl ?_
      refine v_iconst (pc := 571) (v := 4) dL_areSound_571 (by decide) ?_
      refine vqV (pc := 572) (u := u0 + 16 * i + 1 + 1 + 1 + 1 + 1 + 1 + 1 + 1 + 1) (j := 1) (U := 250) (As := [.int _, .int _]) hW dL_areSound_572 cw_L_97 im_yX8_ofCanopy se_yX8_ofCanopy rfl (q_ofCanopy _ 4 hW hI hq (by unfold kOf; rw [if_pos hik, if_pos (by decide)])) rfl rfl (Nat.le_of_ble_eq_true rfl) ⟨Nat.le_of_ble_eq_true rfl, Nat.le_of_ble_eq_true rfl⟩ ⟨by decide, by decide⟩ ⟨rfl, rfl⟩ (by omega) (fun v G hp => ?_)
      obtain ⟨rfl, hW⟩ := hp
      rw [nat_nI (show i < 2147483648 by omega), show ofS s i 4 = s.1 35 i from rfl]
      refine v_icmp_ne (pc := 575) (tgt := 622) dL_areSound_575 (by decide) (fun c575 => absurd c575 (fun z => z rfl)) (fun c575 => ?_)
      refine v_aload_n (pc := 578) dL_areSound_578 rfl rfl ?_
      refine v_iload (pc := 579) dL_areSound_579 rfl ?_
      refine v_iconst (pc := 581) (v := 5) dL_areSound_581 (by decide) ?_
      refine vqV (pc := 582) (u := u0 + 16 * i + 1 + 1 + 1 + 1 + 1 + 1 + 1 + 1 + 1 + 1) (j := 1) (U := 250) (As := [.int _, .int _]) hW dL_areSound_582 cw_L_100 im_yX8_lifeAnew se_yX8_lifeAnew rfl (q_lifeAnew _ 5 hW hI hq (by unfold kOf; rw [if_pos hik, if_pos (by decide)])) rfl rfl (Nat.le_of_ble_eq_true rfl) ⟨Nat.le_of_ble_eq_true rfl, Nat.le_of_ble_eq_true rfl⟩ ⟨by decide, by decide⟩ ⟨rfl, rfl⟩ (by omega) (fun v G hp => ?_)
      obtain ⟨rfl, hW⟩ := hp
      rw [nat_nI (show i < 2147483648 by omega), show lifeS s i 5 = s.1 36 i from rfl]
      refine v_aload_n (pc := 585) dL_areSound_585 rfl rfl ?_
      refine v_iload (pc := 586) dL_areSound_586 rfl ?_
      refine v_iconst (pc := 588) (v := 5) dL_areSound_588 (by decide) ?_
      refine vqV (pc := 589) (u := u0 + 16 * i + 1 + 1 + 1 + 1 + 1 + 1 + 1 + 1 + 1 + 1 + 1) (j := 1) (U := 250) (As := [.int _, .int _]) hW dL_areSound_589 cw_L_97 im_yX8_ofCanopy se_yX8_ofCanopy rfl (q_ofCanopy _ 5 hW hI hq (by unfold kOf; rw [if_pos hik, if_pos (by decide)])) rfl rfl (Nat.le_of_ble_eq_true rfl) ⟨Nat.le_of_ble_eq_true rfl, Nat.le_of_ble_eq_true rfl⟩ ⟨by decide, by decide⟩ ⟨rfl, rfl⟩ (by omega) (fun v G hp => ?_)
      obtain ⟨rfl, hW⟩ := hp
      rw [nat_nI (show i < 2147483648 by omega), show ofS s i 5 = s.1 36 i from rfl]
      refine v_icmp_ne (pc := 592) (tgt := 622) dL_areSound_592 (by decide) (fun c592 => absurd c592 (fun z => z rfl)) (fun c592 => ?_)
      refine v_aload_n (pc := 595) dL_areSound_595 rfl rfl ?_
      refine v_iload (pc := 596) dL_areSound_596 rfl ?_
      refine v_iconst (pc := 598) (v := 0) dL_areSound_598 (by decide) ?_
      refine vqV (pc := 599) (u := u0 + 16 * i + 1 + 1 + 1 + 1 + 1 + 1 + 1 + 1 + 1 + 1 + 1 + 1) (j := 1) (U := 250) (As := [.int _, .int _]) hW dL_areSound_599 cw_L_97 im_yX8_ofCanopy se_yX8_ofCanopy rfl (q_ofCanopy _ 0 hW hI hq (by unfold kOf; rw [if_pos hik, if_pos (by decide)])) rfl rfl (Nat.le_of_ble_eq_true rfl) ⟨Nat.le_of_ble_eq_true rfl, Nat.le_of_ble_eq_true rfl⟩ ⟨by decide, by decide⟩ ⟨rfl, rfl⟩ (by omega) (fun v G hp => ?_)
      obtain ⟨rfl, hW⟩ := hp
      rw [nat_nI (show i < 2147483648 by omega), show ofS s i 0 = s.1 29 i from rfl]
      refine v_if_lt (pc := 602) (tgt := 622) dL_areSound_602 (by decide) (fun c602 => absurd c602 q7) (fun c602 => ?_)
      refine v_aload_n (pc := 605) dL_areSound_605 rfl rfl ?_
      refine v_iload (pc := 606) dL_areSound_606 rfl ?_
      refine v_iconst (pc := 608) (v := 0) dL_areSound_608 (by decide) ?_
      refine vqV (pc := 609) (u := u0 + 16 * i + 1 + 1 + 1 + 1 + 1 + 1 + 1 + 1 + 1 + 1 + 1 + 1 + 1) (j := 1) (U := 250) (As := [.int _, .int _]) hW dL_areSound_609 cw_L_97 im_yX8_ofCanopy se_yX8_ofCanopy rfl (q_ofCanopy _ 0 hW hI hq (by unfold kOf; rw [if_pos hik, if_pos (by decide)])) rfl rfl (Nat.le_of_ble_eq_true rfl) ⟨Nat.le_of_ble_eq_true rfl, Nat.le_of_ble_eq_true rfl⟩ ⟨by decide, by decide⟩ ⟨rfl, rfl⟩ (by omega) (fun v G hp => ?_)
      obtain ⟨rfl, hW⟩ := hp
      rw [nat_nI (show i < 2147483648 by omega), show ofS s i 0 = s.1 29 i from rfl]
      refine v_aload_n (pc := 612) dL_areSound_612 rfl rfl ?_
      refine v_iconst (pc := 613) (v := 0) dL_areSound_613 (by decide) ?_
      refine vw_m (pc := 614) (j := 0) hW dL_areSound_614 rfl (by decide) (x := nI (nA s)) (hM.1.trans n1) ?_
      refine v_icmp_ge (pc := 615) (tgt := 622) dL_areSound_615 (by decide) (fun c615 => absurd c615 q8) (fun c615 => ?_)
      refine v_iconst (pc := 618) (v := 1) dL_areSound_618 (by decide) ?_
      refine v_goto (pc := 619) (tgt := 623) dL_areSound_619 (by decide) ?_
      refine v_istore (pc := 623) dL_areSound_623 rfl (by decide) ?_
      refine v_iinc (pc := 625) dL_areSound_625 rfl (nI_1 _) rfl (by decide) ?_
      refine v_goto (pc := 628) (tgt := 433) dL_areSound_628 (by decide) ?_
      refine vq_u (u' := u0 + 16 * (i + 1)) (by omega) ?_
      exact ih (i + 1) _ _ G (by omega) hW
set_option maxRecDepth 100000 in
set_option maxHeartbeats 400000 in
theorem t_s {D : DT} {K : KT} {X : XT} {s : SG} {M : MT} {q xx : Nat} {sz : Nat} {G0 : GT} {w6 w7 w8 w9 w10 w11 w12 w13 w14 : Option Value} (hI : INV X s q) (hq : q < 512) (hM : MV s M) (hQ : QV s M) (hP : PB s) (hC : CB s) (h5 : lokb [some (.ref (X.1 0 0)), some (.ref M.1.1), some (.ref M.1.2.1), some (.ref M.1.2.2), some (.int (nI xx)), some (.int 1), w6, w7, w8, w9, w10, w11, w12, w13, w14] 6 = true) (hR : Rt rm_areSound D K (some .boolean) yL_areSound.name sz G0 (fun v G' => v = some (.int 1) ∧ WD X s M G')) (G : GT) (hW : WD X s M G) : V cL_areSound yL_areSound.cls 15 rm_areSound D K 317 [some (.ref (X.1 0 0)), some (.ref M.1.1), some (.ref M.1.2.1), some (.ref M.1.2.2), some (.int (nI xx)), some (.int 1), w6, w7, w8, w9, w10, w11, w12, w13, w14] [] G (nu 40) := by
  obtain ⟨b1, b2, b3, b4, b5, n1, n2, n3, n4, n5⟩ := hI.six hq
  obtain ⟨n, hn, hs, hb⟩ := set_b (s := s) (nG s) b4
  have hn8 := p28 b4 hn
  refine v_lconst (pc := 317) (v := 0) dL_areSound_317 (by decide) ?_
  refine v_lstore (pc := 318) dL_areSound_318 h5 (by decide) ?_
  refine v_aload_n (pc := 320) dL_areSound_320 rfl rfl ?_
  refine vqV (pc := 321) (u := 40) (j := 1) (U := 250) (As := []) hW dL_areSound_321 cw_L_129 im_yX8_pegs se_yX8_pegs rfl (q_pegs hW hI hq) rfl rfl (Nat.le_of_ble_eq_true rfl) ⟨Nat.le_of_ble_eq_true rfl, Nat.le_of_ble_eq_true rfl⟩ ⟨by decide, by decide⟩ ⟨rfl, rfl⟩ (by omega) (fun v G hp => ?_)
  obtain ⟨rfl, hW⟩ := hp
  rw [hs]
  refine v_istore (pc := 324) dL_areSound_324 rfl (by decide) ?_
  refine v_iconst (pc := 326) (v := nI 0) dL_areSound_326 (by decide) ?_
  refine v_istore (pc := 327) dL_areSound_327 rfl (by decide) ?_
  refine l_s3 hI hq hM hQ hP hn8 hb (u0 := 41) (by omega) (fun wl G hW => ?_) (nG s) 0 _ G (by omega) hW
  refine v_iload (pc := 403) dL_areSound_403 rfl ?_
  refine v_if_eq (pc := 405) (tgt := 427) dL_areSound_405 (by decide) (fun c405 => absurd c405 (by decide)) (fun c405 => ?_)
  refine v_iload (pc := 408) dL_areSound_408 rfl ?_
  refine v_if_lt (pc := 410) (tgt := 427) dL_areSound_410 (by decide) (fun c410 => absurd c410 (nI_pos (by omega))) (fun c410 => ?_)
  refine v_iload (pc := 413) dL_areSound_413 rfl ?_
  refine v_iconst (pc := 415) (v := 1) dL_areSound_415 (by decide) ?_
  refine v_aload_n (pc := 416) dL_areSound_416 rfl rfl ?_
  refine v_iconst (pc := 417) (v := 3) dL_areSound_417 (by decide) ?_
  refine vw_m (pc := 418) (j := 3) hW dL_areSound_418 rfl (by decide) (x := nI (nG s)) (hM.2.2.2.1.trans n4) ?_
  refine v_ishl (pc := 419) dL_areSound_419 ?_
  rw [sh1 (nG s) (by omega)]
  refine v_icmp_ge (pc := 420) (tgt := 427) dL_areSound_420 (by decide) (fun c420 => absurd c420 (nI_ge hn (Nat.lt_of_le_of_lt (Nat.pow_le_pow_right (by decide) b4 : 2 ^ nG s ≤ 2 ^ 8) (by decide)))) (fun c420 => ?_)
  refine v_iconst (pc := 423) (v := 1) dL_areSound_423 (by decide) ?_
  refine v_goto (pc := 424) (tgt := 428) dL_areSound_424 (by decide) ?_
  refine v_istore (pc := 428) dL_areSound_428 rfl (by decide) ?_
  refine v_iconst (pc := 430) (v := nI 0) dL_areSound_430 (by decide) ?_
  refine v_istore (pc := 431) dL_areSound_431 rfl (by decide) ?_
  refine l_s4 hI hq hM hQ hC (u0 := 41 + 2 * nG s) (by omega) (fun w10 w11 G hW => ?_) (nC s) 0 _ _ G (by omega) hW
  refine v_iload (pc := 631) dL_areSound_631 rfl ?_
  refine vq_zret (pc := 633) (U := 250) hR dL_areSound_633 rfl ⟨rfl, rfl⟩ (by omega) ?_
  exact ⟨rfl, hW⟩
set_option maxRecDepth 100000 in
set_option maxHeartbeats 400000 in
theorem c_L_areSound (D : DT) (X : XT) (s : SG) (M : MT) (G : GT) (t xx : Nat) (hxx : xx < 2147483648) (hW : WD X s M G) (hL : LI X s M t) (ht : t ≤ 200) : MN yL_areSound cL_areSound 15 (Option.some Jvm.ClassFile.FieldType.boolean) rm_areSound D [.ref (X.1 0 0), .ref M.1.1, .ref M.1.2.1, .ref M.1.2.2, .int (nI xx)] G (fun v G' => v = some (.int 1) ∧ WD X s M G') := by
  obtain ⟨hI, hHB, hP, hC, hdy, hM, hQ⟩ := hL
  have hq : 2 * t < 512 := by omega
  obtain ⟨b1, b2, b3, b4, b5, n1, n2, n3, n4, n5⟩ := hI.six hq
  obtain ⟨i1, i2, i3, i4, i5, i6, i7, i8, i9⟩ := INV.num (by omega) hI
  have g := inv_gok i1 i2 i3
  refine MN_of (by decide +kernel) (Nat.le_of_ble_eq_true rfl) (fun K sz hR hNC => ?_)
  show V cL_areSound _ 15 _ D K 0 [some (.ref (X.1 0 0)), some (.ref M.1.1), some (.ref M.1.2.1), some (.ref M.1.2.2), some (.int (nI xx)), none, none, none, none, none, none, none, none, none, none] [] G (nu 0)
  refine v_iconst (pc := 0) (v := 1) dL_areSound_0 (by decide) ?_
  refine v_istore (pc := 1) dL_areSound_1 rfl (by decide) ?_
  refine v_iconst (pc := 3) (v := nI 0) dL_areSound_3 (by decide) ?_
  refine v_istore (pc := 4) dL_areSound_4 rfl (by decide) ?_
  refine l_s1 hI hq hM hQ (fun w7 w8 w9 G hW => ?_) (nA s) 0 _ _ _ G (by omega) hW
  refine vq_u (u' := 10) (by omega) ?_
  refine v_iload (pc := 143) dL_areSound_143 rfl ?_
  refine v_if_eq (pc := 145) (tgt := 317) dL_areSound_145 (by decide) (fun c145 => absurd c145 (by decide)) (fun c145 => ?_)
  refine v_aload_n (pc := 148) dL_areSound_148 rfl rfl ?_
  refine v_iconst (pc := 149) (v := 1) dL_areSound_149 (by decide) ?_
  refine vw_m (pc := 150) (j := 1) hW dL_areSound_150 rfl (by decide) (x := nI (nB s)) (hM.2.1.trans n2) ?_
  refine v_if_le (pc := 151) (tgt := 317) dL_areSound_151 (by decide) (fun c151 => ?_) (fun c151 => ?_)
  · refine vq_u (u' := 40) (by omega) ?_
    exact t_s hI hq hM hQ hP hC (by first | rfl | (cases w7 <;> rfl)) hR G hW
  · have hb0 : 0 < nB s := by
      refine Nat.pos_of_ne_zero (fun z => c151 ?_)
      rw [z]; decide
    have hA : xx % nB s < nB s := Nat.mod_lt _ hb0
    have hB : xx / 12 % nB s < nB s := Nat.mod_lt _ hb0
    have hCc : xx / 144 % nB s < nB s := Nat.mod_lt _ hb0
    refine v_iload (pc := 154) dL_areSound_154 rfl ?_
    refine v_aload_n (pc := 156) dL_areSound_156 rfl rfl ?_
    refine v_iconst (pc := 157) (v := 1) dL_areSound_157 (by decide) ?_
    refine vw_m (pc := 158) (j := 1) hW dL_areSound_158 rfl (by decide) (x := nI (nB s)) (hM.2.1.trans n2) ?_
    refine v_nrem (pc := 159) (xx) (nB s) dL_areSound_159 (by omega) (by omega) rfl rfl ?_
    refine v_istore (pc := 160) dL_areSound_160 rfl (by decide) ?_
    refine v_iload (pc := 162) dL_areSound_162 rfl ?_
    refine v_bipush (pc := 164) (v := 12) dL_areSound_164 (by decide) ?_
    refine v_ndiv (pc := 166) xx 12 dL_areSound_166 (by omega) (by decide) rfl rfl ?_
    refine v_aload_n (pc := 167) dL_areSound_167 rfl rfl ?_
    refine v_iconst (pc := 168) (v := 1) dL_areSound_168 (by decide) ?_
    refine vw_m (pc := 169) (j := 1) hW dL_areSound_169 rfl (by decide) (x := nI (nB s)) (hM.2.1.trans n2) ?_
    refine v_nrem (pc := 170) (xx / 12) (nB s) dL_areSound_170 (by omega) (by omega) rfl rfl ?_
    refine v_istore (pc := 171) dL_areSound_171 rfl (by decide) ?_
    refine v_iload (pc := 173) dL_areSound_173 rfl ?_
    refine v_sipush (pc := 175) (v := 144) dL_areSound_175 (by decide) ?_
    refine v_ndiv (pc := 178) xx 144 dL_areSound_178 (by omega) (by decide) rfl rfl ?_
    refine v_aload_n (pc := 179) dL_areSound_179 rfl rfl ?_
    refine v_iconst (pc := 180) (v := 1) dL_areSound_180 (by decide) ?_
    refine vw_m (pc := 181) (j := 1) hW dL_areSound_181 rfl (by decide) (x := nI (nB s)) (hM.2.1.trans n2) ?_
    refine v_nrem (pc := 182) (xx / 144) (nB s) dL_areSound_182 (by omega) (by omega) rfl rfl ?_
    refine v_istore (pc := 183) dL_areSound_183 rfl (by decide) ?_
    refine v_aload_n (pc := 185) dL_areSound_185 rfl rfl ?_
    refine v_iload (pc := 186) dL_areSound_186 rfl ?_
    refine v_iload (pc := 188) dL_areSound_188 rfl ?_
    refine vqV (pc := 190) (u := 10) (j := 1) (U := 250) (As := [.int _, .int _]) hW dL_areSound_190 cw_L_37 im_yX8_bears se_yX8_bears rfl (q_bears _ _ hW hI hq (by unfold kBe; exact if_pos ⟨btw_n (by omega) (by omega), btw_n (by omega) (by omega)⟩)) rfl rfl (Nat.le_of_ble_eq_true rfl) ⟨Nat.le_of_ble_eq_true rfl, Nat.le_of_ble_eq_true rfl⟩ ⟨by decide, by decide⟩ ⟨rfl, rfl⟩ (by omega) (fun v G hp => ?_)
    obtain ⟨rfl, hW⟩ := hp
    rw [nat_nI (show xx % nB s < 2147483648 by omega), nat_nI (show xx / 12 % nB s < 2147483648 by omega)]
    refine v_lstore (pc := 193) dL_areSound_193 rfl (by decide) ?_
    refine v_aload_n (pc := 195) dL_areSound_195 rfl rfl ?_
    refine v_iload (pc := 196) dL_areSound_196 rfl ?_
    refine v_iload (pc := 198) dL_areSound_198 rfl ?_
    refine vqV (pc := 200) (u := 10 + 1) (j := 1) (U := 250) (As := [.int _, .int _]) hW dL_areSound_200 cw_L_37 im_yX8_bears se_yX8_bears rfl (q_bears _ _ hW hI hq (by unfold kBe; exact if_pos ⟨btw_n (by omega) (by omega), btw_n (by omega) (by omega)⟩)) rfl rfl (Nat.le_of_ble_eq_true rfl) ⟨Nat.le_of_ble_eq_true rfl, Nat.le_of_ble_eq_true rfl⟩ ⟨by decide, by decide⟩ ⟨rfl, rfl⟩ (by omega) (fun v G hp => ?_)
    obtain ⟨rfl, hW⟩ := hp
    rw [nat_nI (show xx / 12 % nB s < 2147483648 by omega), nat_nI (show xx / 144 % nB s < 2147483648 by omega)]
    refine v_lstore (pc := 203) dL_areSound_203 rfl (by decide) ?_
    refine v_aload_n (pc := 205) dL_areSound_205 rfl rfl ?_
    refine v_iload (pc := 206) dL_areSound_206 rfl ?_
    refine v_iload (pc := 208) dL_areSound_208 rfl ?_
    refine vqV (pc := 210) (u := 10 + 1 + 1) (j := 1) (U := 250) (As := [.int _, .int _]) hW dL_areSound_210 cw_L_37 im_yX8_bears se_yX8_bears rfl (q_bears _ _ hW hI hq (by unfold kBe; exact if_pos ⟨btw_n (by omega) (by omega), btw_n (by omega) (by omega)⟩)) rfl rfl (Nat.le_of_ble_eq_true rfl) ⟨Nat.le_of_ble_eq_true rfl, Nat.le_of_ble_eq_true rfl⟩ ⟨by decide, by decide⟩ ⟨rfl, rfl⟩ (by omega) (fun v G hp => ?_)
    obtain ⟨rfl, hW⟩ := hp
    rw [nat_nI (show xx % nB s < 2147483648 by omega), nat_nI (show xx / 144 % nB s < 2147483648 by omega)]
    refine v_lstore (pc := 213) dL_areSound_213 rfl (by decide) ?_
    refine v_lload (pc := 215) dL_areSound_215 rfl ?_
    refine v_aload_n (pc := 217) dL_areSound_217 rfl rfl ?_
    refine v_iload (pc := 218) dL_areSound_218 rfl ?_
    refine v_iload (pc := 220) dL_areSound_220 rfl ?_
    refine vqV (pc := 222) (u := 10 + 1 + 1 + 1) (j := 1) (U := 250) (As := [.int _, .int _]) hW dL_areSound_222 cw_L_41 im_yX8_bearsAnew se_yX8_bearsAnew rfl (q_bearsAnew _ _ hW hI hq (by unfold kBe; exact if_pos ⟨btw_n (by omega) (by omega), btw_n (by omega) (by omega)⟩)) rfl rfl (Nat.le_of_ble_eq_true rfl) ⟨Nat.le_of_ble_eq_true rfl, Nat.le_of_ble_eq_true rfl⟩ ⟨by decide, by decide⟩ ⟨rfl, rfl⟩ (by omega) (fun v G hp => ?_)
    obtain ⟨rfl, hW⟩ := hp
    rw [nat_nI (show xx / 12 % nB s < 2147483648 by omega), nat_nI (show xx % nB s < 2147483648 by omega)]
    refine v_lcmp (pc := 225) dL_areSound_225 ?_
    refine v_if_ne (pc := 226) (tgt := 314) dL_areSound_226 (by decide) (fun c226 => absurd c226 (d_ne (fin_sym g hA hB))) (fun c226 => ?_)
    refine v_lload (pc := 229) dL_areSound_229 rfl ?_
    refine v_aload_n (pc := 231) dL_areSound_231 rfl rfl ?_
    refine v_iload (pc := 232) dL_areSound_232 rfl ?_
    refine vqV (pc := 234) (u := 10 + 1 + 1 + 1 + 1) (j := 1) (U := 250) (As := [.int _]) hW dL_areSound_234 cw_L_23 im_yX8_strength se_yX8_strength rfl (q_strength _ hW hI hq (by unfold kPl; exact if_pos (btw_n (by omega) (by omega)))) rfl rfl (Nat.le_of_ble_eq_true rfl) ⟨Nat.le_of_ble_eq_true rfl, Nat.le_of_ble_eq_true rfl⟩ ⟨by decide, by decide⟩ ⟨rfl, rfl⟩ (by omega) (fun v G hp => ?_)
    obtain ⟨rfl, hW⟩ := hp
    rw [nat_nI (show xx % nB s < 2147483648 by omega)]
    refine v_lcmp (pc := 237) dL_areSound_237 ?_
    refine v_if_gt (pc := 238) (tgt := 314) dL_areSound_238 (by decide) (fun c238 => absurd c238 (d_gt (fin_lex g hA hB))) (fun c238 => ?_)
    refine v_lload (pc := 241) dL_areSound_241 rfl ?_
    refine v_aload_n (pc := 243) dL_areSound_243 rfl rfl ?_
    refine v_iload (pc := 244) dL_areSound_244 rfl ?_
    refine vqV (pc := 246) (u := 10 + 1 + 1 + 1 + 1 + 1) (j := 1) (U := 250) (As := [.int _]) hW dL_areSound_246 cw_L_23 im_yX8_strength se_yX8_strength rfl (q_strength _ hW hI hq (by unfold kPl; exact if_pos (btw_n (by omega) (by omega)))) rfl rfl (Nat.le_of_ble_eq_true rfl) ⟨Nat.le_of_ble_eq_true rfl, Nat.le_of_ble_eq_true rfl⟩ ⟨by decide, by decide⟩ ⟨rfl, rfl⟩ (by omega) (fun v G hp => ?_)
    obtain ⟨rfl, hW⟩ := hp
    rw [nat_nI (show xx / 12 % nB s < 2147483648 by omega)]
    refine v_lcmp (pc := 249) dL_areSound_249 ?_
    refine v_if_gt (pc := 250) (tgt := 314) dL_areSound_250 (by decide) (fun c250 => absurd c250 (d_gt (fin_le g _ hB))) (fun c250 => ?_)
    refine v_lload (pc := 253) dL_areSound_253 rfl ?_
    refine v_lload (pc := 255) dL_areSound_255 rfl ?_
    refine v_lload (pc := 257) dL_areSound_257 rfl ?_
    refine v_lcmp (pc := 259) dL_areSound_259 ?_
    refine v_if_ge (pc := 260) (tgt := 268) dL_areSound_260 (by decide) (fun c260 => ?_) (fun c260 => ?_)
    · have tri_x : finL s (nB s) (nS s) (xx / 12 % nB s) (xx / 144 % nB s) ≤ finL s (nB s) (nS s) (xx % nB s) (xx / 144 % nB s) := fin_tri g hA hB hCc (cmp_ge0.mp c260) (Int64.le_refl _)
      refine v_lload (pc := 268) dL_areSound_268 rfl ?_
      refine v_lcmp (pc := 270) dL_areSound_270 ?_
      refine v_if_lt (pc := 271) (tgt := 314) dL_areSound_271 (by decide) (fun c271 => absurd c271 (d_lt (tri_x))) (fun c271 => ?_)
      refine v_aload_n (pc := 274) dL_areSound_274 rfl rfl ?_
      refine v_iload (pc := 275) dL_areSound_275 rfl ?_
      refine v_iload (pc := 277) dL_areSound_277 rfl ?_
      refine vqV (pc := 279) (u := 10 + 1 + 1 + 1 + 1 + 1 + 1) (j := 1) (U := 250) (As := [.int _, .int _]) hW dL_areSound_279 cw_L_37 im_yX8_bears se_yX8_bears rfl (q_bears _ _ hW hI hq (by unfold kBe; exact if_pos ⟨btw_n (by omega) (by omega), btw_n (by omega) (by omega)⟩)) rfl rfl (Nat.le_of_ble_eq_true rfl) ⟨Nat.le_of_ble_eq_true rfl, Nat.le_of_ble_eq_true rfl⟩ ⟨by decide, by decide⟩ ⟨rfl, rfl⟩ (by omega) (fun v G hp => ?_)
      obtain ⟨rfl, hW⟩ := hp
      rw [nat_nI (show xx % nB s < 2147483648 by omega)]
      refine v_aload_n (pc := 282) dL_areSound_282 rfl rfl ?_
      refine v_iload (pc := 283) dL_areSound_283 rfl ?_
      refine vqV (pc := 285) (u := 10 + 1 + 1 + 1 + 1 + 1 + 1 + 1) (j := 1) (U := 250) (As := [.int _]) hW dL_areSound_285 cw_L_23 im_yX8_strength se_yX8_strength rfl (q_strength _ hW hI hq (by unfold kPl; exact if_pos (btw_n (by omega) (by omega)))) rfl rfl (Nat.le_of_ble_eq_true rfl) ⟨Nat.le_of_ble_eq_true rfl, Nat.le_of_ble_eq_true rfl⟩ ⟨by decide, by decide⟩ ⟨rfl, rfl⟩ (by omega) (fun v G hp => ?_)
      obtain ⟨rfl, hW⟩ := hp
      rw [nat_nI (show xx % nB s < 2147483648 by omega)]
      refine v_lcmp (pc := 288) dL_areSound_288 ?_
      refine v_if_ne (pc := 289) (tgt := 314) dL_areSound_289 (by decide) (fun c289 => absurd c289 (d_ne (fin_x g hA))) (fun c289 => ?_)
      refine v_lload (pc := 292) dL_areSound_292 rfl ?_
      refine v_lconst (pc := 294) (v := 0) dL_areSound_294 (by decide) ?_
      refine v_lcmp (pc := 295) dL_areSound_295 ?_
      refine v_if_lt (pc := 296) (tgt := 314) dL_areSound_296 (by decide) (fun c296 => absurd c296 (d_lt (fin_0 g hB))) (fun c296 => ?_)
      refine v_aload_n (pc := 299) dL_areSound_299 rfl rfl ?_
      refine v_iload (pc := 300) dL_areSound_300 rfl ?_
      refine vqV (pc := 302) (u := 10 + 1 + 1 + 1 + 1 + 1 + 1 + 1 + 1) (j := 1) (U := 250) (As := [.int _]) hW dL_areSound_302 cw_L_23 im_yX8_strength se_yX8_strength rfl (q_strength _ hW hI hq (by unfold kPl; exact if_pos (btw_n (by omega) (by omega)))) rfl rfl (Nat.le_of_ble_eq_true rfl) ⟨Nat.le_of_ble_eq_true rfl, Nat.le_of_ble_eq_true rfl⟩ ⟨by decide, by decide⟩ ⟨rfl, rfl⟩ (by omega) (fun v G hp => ?_)
      obtain ⟨rfl, hW⟩ := hp
      rw [nat_nI (show xx % nB s < 2147483648 by omega)]
      refine v_lconst (pc := 305) (v := 0) dL_areSound_305 (by decide) ?_
      refine v_lcmp (pc := 306) dL_areSound_306 ?_
      refine v_if_lt (pc := 307) (tgt := 314) dL_areSound_307 (by decide) (fun c307 => absurd c307 (d_lt (g.2.2.2.2.1 _ hA))) (fun c307 => ?_)
      refine v_iconst (pc := 310) (v := 1) dL_areSound_310 (by decide) ?_
      refine v_goto (pc := 311) (tgt := 315) dL_areSound_311 (by decide) ?_
      refine v_istore (pc := 315) dL_areSound_315 rfl (by decide) ?_
      refine vq_u (u' := 40) (by omega) ?_
      exact t_s hI hq hM hQ hP hC (by first | rfl | (cases w7 <;> rfl)) hR G hW
    · have tri_x : finL s (nB s) (nS s) (xx % nB s) (xx / 12 % nB s) ≤ finL s (nB s) (nS s) (xx % nB s) (xx / 144 % nB s) := fin_tri g hA hB hCc (Int64.le_refl _) (Int64.le_of_lt (l_nle.mp (fun z => c260 (cmp_ge0.mpr z))))
      refine v_lload (pc := 263) dL_areSound_263 rfl ?_
      refine v_goto (pc := 265) (tgt := 270) dL_areSound_265 (by decide) ?_
      refine v_lcmp (pc := 270) dL_areSound_270 ?_
      refine v_if_lt (pc := 271) (tgt := 314) dL_areSound_271 (by decide) (fun c271 => absurd c271 (d_lt (tri_x))) (fun c271 => ?_)
      refine v_aload_n (pc := 274) dL_areSound_274 rfl rfl ?_
      refine v_iload (pc := 275) dL_areSound_275 rfl ?_
      refine v_iload (pc := 277) dL_areSound_277 rfl ?_
      refine vqV (pc := 279) (u := 10 + 1 + 1 + 1 + 1 + 1 + 1) (j := 1) (U := 250) (As := [.int _, .int _]) hW dL_areSound_279 cw_L_37 im_yX8_bears se_yX8_bears rfl (q_bears _ _ hW hI hq (by unfold kBe; exact if_pos ⟨btw_n (by omega) (by omega), btw_n (by omega) (by omega)⟩)) rfl rfl (Nat.le_of_ble_eq_true rfl) ⟨Nat.le_of_ble_eq_true rfl, Nat.le_of_ble_eq_true rfl⟩ ⟨by decide, by decide⟩ ⟨rfl, rfl⟩ (by omega) (fun v G hp => ?_)
      obtain ⟨rfl, hW⟩ := hp
      rw [nat_nI (show xx % nB s < 2147483648 by omega)]
      refine v_aload_n (pc := 282) dL_areSound_282 rfl rfl ?_
      refine v_iload (pc := 283) dL_areSound_283 rfl ?_
      refine vqV (pc := 285) (u := 10 + 1 + 1 + 1 + 1 + 1 + 1 + 1) (j := 1) (U := 250) (As := [.int _]) hW dL_areSound_285 cw_L_23 im_yX8_strength se_yX8_strength rfl (q_strength _ hW hI hq (by unfold kPl; exact if_pos (btw_n (by omega) (by omega)))) rfl rfl (Nat.le_of_ble_eq_true rfl) ⟨Nat.le_of_ble_eq_true rfl, Nat.le_of_ble_eq_true rfl⟩ ⟨by decide, by decide⟩ ⟨rfl, rfl⟩ (by omega) (fun v G hp => ?_)
      obtain ⟨rfl, hW⟩ := hp
      rw [nat_nI (show xx % nB s < 2147483648 by omega)]
      refine v_lcmp (pc := 288) dL_areSound_288 ?_
      refine v_if_ne (pc := 289) (tgt := 314) dL_areSound_289 (by decide) (fun c289 => absurd c289 (d_ne (fin_x g hA))) (fun c289 => ?_)
      refine v_lload (pc := 292) dL_areSound_292 rfl ?_
      refine v_lconst (pc := 294) (v := 0) dL_areSound_294 (by decide) ?_
      refine v_lcmp (pc := 295) dL_areSound_295 ?_
      refine v_if_lt (pc := 296) (tgt := 314) dL_areSound_296 (by decide) (fun c296 => absurd c296 (d_lt (fin_0 g hB))) (fun c296 => ?_)
      refine v_aload_n (pc := 299) dL_areSound_299 rfl rfl ?_
      refine v_iload (pc := 300) dL_areSound_300 rfl ?_
      refine vqV (pc := 302) (u := 10 + 1 + 1 + 1 + 1 + 1 + 1 + 1 + 1) (j := 1) (U := 250) (As := [.int _]) hW dL_areSound_302 cw_L_23 im_yX8_strength se_yX8_strength rfl (q_strength _ hW hI hq (by unfold kPl; exact if_pos (btw_n (by omega) (by omega)))) rfl rfl (Nat.le_of_ble_eq_true rfl) ⟨Nat.le_of_ble_eq_true rfl, Nat.le_of_ble_eq_true rfl⟩ ⟨by decide, by decide⟩ ⟨rfl, rfl⟩ (by omega) (fun v G hp => ?_)
      obtain ⟨rfl, hW⟩ := hp
      rw [nat_nI (show xx % nB s < 2147483648 by omega)]
      refine v_lconst (pc := 305) (v := 0) dL_areSound_305 (by decide) ?_
      refine v_lcmp (pc := 306) dL_areSound_306 ?_
      refine v_if_lt (pc := 307) (tgt := 314) dL_areSound_307 (by decide) (fun c307 => absurd c307 (d_lt (g.2.2.2.2.1 _ hA))) (fun c307 => ?_)
      refine v_iconst (pc := 310) (v := 1) dL_areSound_310 (by decide) ?_
      refine v_goto (pc := 311) (tgt := 315) dL_areSound_311 (by decide) ?_
      refine v_istore (pc := 315) dL_areSound_315 rfl (by decide) ?_
      refine vq_u (u' := 40) (by omega) ?_
      exact t_s hI hq hM hQ hP hC (by first | rfl | (cases w7 <;> rfl)) hR G hW
