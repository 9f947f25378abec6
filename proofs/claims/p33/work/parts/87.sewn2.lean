def LSq (X : XT) (M : MT) (t : Nat) : Option Value → GT → Prop := fun v G' => v = some (.int 1) ∧ ∃ X' s' M', X'.1 0 0 = X.1 0 0 ∧ M'.1 = M.1 ∧ WD X' s' M' G' ∧ LI X' s' M' t ∧ ¬ M'.2.1 0 = 0
abbrev rm_isSewn : Room := { frames := 10, cells := 2 * 100, slots := 18 * 100, locals := 320 }
theorem nI_ps {n : Nat} (h : n < 2147483648) : 0 ≤ nI n := nI_pos' h
theorem bt_n {j a b : Nat} (h : a ≤ j ∧ j ≤ b) (hb : b < 2147483648) : btw (nI j) (nI a) (nI b) := ⟨(nI_leI (by omega) (by omega)).mpr h.1, (nI_leI (by omega) hb).mpr h.2⟩
theorem hSun_1 {h : Int32} {m : Nat} (h1 : btw h 0 1000000) (hm : 1 ≤ m ∧ m ≤ 300) : (0 : Int64) < (hSun h (nI m)).toInt64 ∧ (hSun h (nI m)).toInt64 ≤ 1000000 := by
  have hb := hSun_b (p := nI m) h1 ⟨(nI_leI (a := 1) (by decide) (by omega)).mpr hm.1, (nI_leI (b := 10000) (by omega) (by decide)).mpr (by omega)⟩
  obtain ⟨c1, c2⟩ := bt_i (k := 0) (l := 1000000) h1 rfl rfl
  refine ⟨?_, w_le hb.2⟩
  have ea : (h + nI m).toInt = h.toInt + m := by
    rw [Int32.toInt_add, nI_toInt (by omega)]
    exact Int.bmod_eq_of_le (by omega) (by omega)
  rw [Int64.lt_iff_toInt_lt, Int32.toInt_toInt64]
  have z : (0 : Int64).toInt = 0 := rfl
  rw [z]
  unfold hSun
  split
  · omega
  · have : (1000000 : Int32).toInt = 1000000 := rfl
    omega
theorem mod_ne {a r n : Nat} (ha : a < n) (hr : r + 1 < n) : (a + 1 + r) % n < n ∧ ¬ a = (a + 1 + r) % n := by
  refine ⟨Nat.mod_lt _ (by omega), ?_⟩
  by_cases c : a + 1 + r < n
  · rw [Nat.mod_eq_of_lt c]; omega
  · have : (a + 1 + r) % n = a + 1 + r - n := by
      rw [Nat.mod_eq_sub_mod (by omega), Nat.mod_eq_of_lt (by omega)]
    rw [this]; omega
theorem seam_e {s : SG} {i : Nat} {w p : Int64} (hw : w = lessL (strS s (nat (s.1 10 i))) (strS s (nat (s.1 11 i)))) (hp : p = (pctS s i).toInt64) : w * p / 100 = seamS s i := by rw [hw, hp]; rfl
theorem mS_at (M : MT) (j : Nat) (x : Int32) : (mS M j x).2.1 j = x := u1_e _ _ _
theorem ne_io {x : Int64} (h : (0 : Int64) ≤ x) : ¬ x = -1731000000000 := fun z => by rw [z] at h; exact absurd h (by decide)
theorem rip_ok {s s1 : SG} {np n x y r : Nat} (e : EQ s s1) (g : GOK s np n) (g2 : GOK (sI s1 13 r 1) np n) (hx : x < np) (hy : y < np) : finL (sI s1 13 r 1) np n x y ≤ finL s np n x y := by
  have hr : ∀ j, j ≠ 13 → j ≠ 43 → j ≠ 46 → (sI s1 13 r 1).1 j = s.1 j := fun j a b c => by rw [sI_r _ _ _ a, e.1 j b c]
  have hs : ∀ v, strS (sI s1 13 r 1) v = strS s v := fun v => by
    unfold strS lotStr leftS
    rw [hr 1 (by decide) (by decide) (by decide), hr 2 (by decide) (by decide) (by decide), hr 5 (by decide) (by decide) (by decide), hr 6 (by decide) (by decide) (by decide), hr 8 (by decide) (by decide) (by decide)]
  refine fin_rip g g2 hx hy hs (fun i => ⟨?_, ?_, ?_⟩) (fun i h => ?_)
  · unfold seamS pctS; rw [hs, hs, hr 10 (by decide) (by decide) (by decide), hr 11 (by decide) (by decide) (by decide), hr 12 (by decide) (by decide) (by decide)]
  · unfold enA; rw [hr 10 (by decide) (by decide) (by decide)]
  · unfold enB; rw [hr 11 (by decide) (by decide) (by decide)]
  · rw [sI_if] at h
    split at h
    · cases h
    · rw [← e.1 13 (by decide) (by decide)]; exact h
theorem pct_g (s : SG) (n : Nat) (a b k : Int32) : pctS (gSeam s n a b k) n = if k = 0 then 60 else if k = 1 then 80 else 40 := by
  unfold pctS
  have e : (gSeam s n a b k).1 12 n = k := by
    unfold gSeam
    rw [sI_r _ _ _ (by decide), sI_at]
  rw [e]
theorem seam_en1 (s : SG) (n : Nat) (a b k : Int32) : (gSeam s n a b k).1 10 n = a := by
  unfold gSeam
  rw [sI_r _ _ _ (by decide), sI_r _ _ _ (by decide), sI_r _ _ _ (by decide), sI_at]
theorem seam_en2 (s : SG) (n : Nat) (a b k : Int32) : (gSeam s n a b k).1 11 n = b := by
  unfold gSeam
  rw [sI_r _ _ _ (by decide), sI_r _ _ _ (by decide), sI_at]
theorem sewn_ok {s s1 : SG} {np n x y : Nat} {k : Int32} (e : EQ s s1) (g : GOK s np n) (g2 : GOK (gSeam s1 n (nI x) (nI y) k) np (n + 1)) (hx : x < np) (hy : y < np) (h13 : s.1 13 n = 0) : finL (gSeam s1 n (nI x) (nI y) k) np (n + 1) x y = if finL s np n x y > seamS (gSeam s1 n (nI x) (nI y) k) n then finL s np n x y else seamS (gSeam s1 n (nI x) (nI y) k) n := by
  have h12 := g.2.1
  have hr : ∀ j, (j < 9 ∨ j = 13) → (gSeam s1 n (nI x) (nI y) k).1 j = s.1 j := fun j a => by
    unfold gSeam
    rw [sI_r _ _ _ (by omega), sI_r _ _ _ (by omega), sI_r _ _ _ (by omega), sI_r _ _ _ (by omega), e.1 j (by omega) (by omega)]
  have hs : ∀ v, strS (gSeam s1 n (nI x) (nI y) k) v = strS s v := fun v => by
    unfold strS lotStr leftS
    rw [hr 1 (by decide), hr 2 (by decide), hr 5 (by decide), hr 6 (by decide), hr 8 (by decide)]
  have ho : ∀ i, i < n → (gSeam s1 n (nI x) (nI y) k).1 10 i = s.1 10 i ∧ (gSeam s1 n (nI x) (nI y) k).1 11 i = s.1 11 i ∧ (gSeam s1 n (nI x) (nI y) k).1 12 i = s.1 12 i := fun i hi => by
    have c : i ≠ n := by omega
    unfold gSeam
    refine ⟨?_, ?_, ?_⟩
    · rw [sI_r _ _ _ (by decide), sI_r _ _ _ (by decide), sI_r _ _ _ (by decide), sI_of _ _ _ c, e.1 10 (by decide) (by decide)]
    · rw [sI_r _ _ _ (by decide), sI_r _ _ _ (by decide), sI_of _ _ _ c, sI_r _ _ _ (by decide), e.1 11 (by decide) (by decide)]
    · rw [sI_r _ _ _ (by decide), sI_of _ _ _ c, sI_r _ _ _ (by decide), sI_r _ _ _ (by decide), e.1 12 (by decide) (by decide)]
  refine fin_sewn g g2 hx hy hs (fun i hi => ?_) ?_ ?_ ?_
  · obtain ⟨o1, o2, o3⟩ := ho i hi
    refine ⟨?_, ?_, ?_, ?_⟩
    · unfold seamS pctS; rw [hs, hs, o1, o2, o3]
    · unfold enA; rw [o1]
    · unfold enB; rw [o2]
    · rw [hr 13 (by decide)]
  · rw [hr 13 (by decide)]; exact h13
  · unfold enA; rw [seam_en1]; exact nat_nI (by omega)
  · unfold enB; rw [seam_en2]; exact nat_nI (by omega)
set_option maxRecDepth 100000 in
set_option maxHeartbeats 400000 in
theorem e_lot {D : DT} {K : KT} {X : XT} {s : SG} {M : MT} {t how xx sz : Nat} {G0 : GT} (hR : Rt rm_isSewn D K (some .boolean) yL_isSewn.name sz G0 (LSq X M (t + 1))) (hNC : NC3 K.2.2.2.1) (hxx : xx < 2147483648) (hhow : how < 100) (hL : LI X s M t) (ht : t < 200) (G : GT) (hW : WD X s M G) : V cL_isSewn yL_isSewn.cls 19 rm_isSewn D K 10 [some (.ref (X.1 0 0)), some (.ref M.1.1), some (.ref M.1.2.1), some (.int (nI how)), some (.int (nI xx)), none, none, none, none, none, none, none, none, none, none, none, none, none, none] [] G (nu 0) := by
  have hI := hL.1
  have hM := hL.2.2.2.2.2.1
  have hq : 2 * t < 512 := by omega
  obtain ⟨b1, b2, b3, b4, b5, n1, n2, n3, n4, n5⟩ := hI.six hq
  obtain ⟨i1, i2, i3, i4, i5, i6, i7, i8, i9⟩ := INV.num (by omega) hI
  have hol : oLot (nI (1 + xx % 5000)) (nI (1 + xx / 3 % 5000)) (nI (1 + xx / 7 % 5000)) := ⟨bt_n (a := 1) (b := 2000000000) (by omega) (by decide), bt_n (a := 1) (b := 2000000000) (by omega) (by decide), bt_n (a := 1) (b := 2000000000) (by omega) (by decide)⟩
  by_cases h6 : nA s = 6
  · refine v_aload_n (pc := 10) dL_isSewn_10 rfl rfl ?_
    refine v_iconst (pc := 11) (v := 0) dL_isSewn_11 (by decide) ?_
    refine v_iconst (pc := 12) (v := 1) dL_isSewn_12 (by decide) ?_
    refine v_iload (pc := 13) dL_isSewn_13 rfl ?_
    refine v_sipush (pc := 15) (v := 5000) dL_isSewn_15 (by decide) ?_
    refine v_nrem (pc := 18) (xx) (5000) dL_isSewn_18 (by omega) (by decide) rfl rfl ?_
    refine v_iadd (pc := 19) dL_isSewn_19 ?_
    rw [show (1) + nI (xx % 5000) = nI (1 + xx % 5000) from nI_add 1 (xx % 5000)]
    refine v_iconst (pc := 20) (v := 1) dL_isSewn_20 (by decide) ?_
    refine v_iload (pc := 21) dL_isSewn_21 rfl ?_
    refine v_iconst (pc := 23) (v := 3) dL_isSewn_23 (by decide) ?_
    refine v_ndiv (pc := 24) (xx) 3 dL_isSewn_24 (by omega) (by decide) rfl rfl ?_
    refine v_sipush (pc := 25) (v := 5000) dL_isSewn_25 (by decide) ?_
    refine v_nrem (pc := 28) (xx / 3) (5000) dL_isSewn_28 (by omega) (by decide) rfl rfl ?_
    refine v_iadd (pc := 29) dL_isSewn_29 ?_
    rw [show (1) + nI (xx / 3 % 5000) = nI (1 + xx / 3 % 5000) from nI_add 1 (xx / 3 % 5000)]
    refine v_iconst (pc := 30) (v := 1) dL_isSewn_30 (by decide) ?_
    refine v_iload (pc := 31) dL_isSewn_31 rfl ?_
    refine v_bipush (pc := 33) (v := 7) dL_isSewn_33 (by decide) ?_
    refine v_ndiv (pc := 35) (xx) 7 dL_isSewn_35 (by omega) (by decide) rfl rfl ?_
    refine v_sipush (pc := 36) (v := 5000) dL_isSewn_36 (by decide) ?_
    refine v_nrem (pc := 39) (xx / 7) (5000) dL_isSewn_39 (by omega) (by decide) rfl rfl ?_
    refine v_iadd (pc := 40) dL_isSewn_40 ?_
    rw [show (1) + nI (xx / 7 % 5000) = nI (1 + xx / 7 % 5000) from nI_add 1 (xx / 7 % 5000)]
    refine v_iconst (pc := 41) (v := 0) dL_isSewn_41 (by decide) ?_
    refine vqL (pc := 42) (u := 0) (j := 1) (U := 100) (As := [.ref (X.1 0 0), .int _, .int _, .int _, .int _, .int _]) hNC dL_isSewn_42 ll_act.1 ll_act.2.1 wl_act ll_act.2.2.2 ll_act.2.2.1 (xIS_lot _ _ _ 0 hW hI hq (by unfold kLot; rw [if_pos hol, if_pos h6])) rfl rfl (Nat.le_of_ble_eq_true rfl) ⟨Nat.le_of_ble_eq_true rfl, Nat.le_of_ble_eq_true rfl⟩ ⟨by decide, by decide⟩ ⟨rfl, rfl⟩ (by omega) (fun v G hp => ?_)
    obtain ⟨rfl, hW⟩ := hp
    refine v_lstore (pc := 45) dL_isSewn_45 rfl (by decide) ?_
    refine v_lload (pc := 47) dL_isSewn_47 rfl ?_
    refine v_aload_n (pc := 49) dL_isSewn_49 rfl rfl ?_
    refine v_iconst (pc := 50) (v := 0) dL_isSewn_50 (by decide) ?_
    refine vw_m (pc := 51) (j := 0) hW dL_isSewn_51 rfl (by decide) (x := nI (nA s)) (hM.1.trans n1) ?_
    refine v_bipush (pc := 52) (v := 6) dL_isSewn_52 (by decide) ?_
    refine v_icmp_ne (pc := 54) (tgt := 63) dL_isSewn_54 (by decide) (fun c54 => absurd c54 (fun z => z (by rw [h6]; rfl))) (fun c54 => ?_)
    refine v_ldcL (pc := 57) dL_isSewn_57 k_L_113 ?_
    refine v_goto (pc := 60) (tgt := 67) dL_isSewn_60 (by decide) ?_
    refine v_lcmp (pc := 67) dL_isSewn_67 ?_
    refine v_if_ne (pc := 68) (tgt := 75) dL_isSewn_68 (by decide) (fun c68 => absurd c68 (d_ne rfl)) (fun c68 => ?_)
    refine v_iconst (pc := 71) (v := 1) dL_isSewn_71 (by decide) ?_
    refine v_goto (pc := 72) (tgt := 76) dL_isSewn_72 (by decide) ?_
    refine v_istore (pc := 76) dL_isSewn_76 rfl (by decide) ?_
    refine v_aload_n (pc := 78) dL_isSewn_78 rfl rfl ?_
    refine v_iconst (pc := 79) (v := 0) dL_isSewn_79 (by decide) ?_
    refine v_dup2 (pc := 80) dL_isSewn_80 rfl rfl ?_
    refine vw_m (pc := 81) (j := 0) hW dL_isSewn_81 rfl (by decide) (x := nI (nA s)) (hM.1.trans n1) ?_
    refine v_lload (pc := 82) dL_isSewn_82 rfl ?_
    refine v_lconst (pc := 84) (v := 0) dL_isSewn_84 (by decide) ?_
    refine v_lcmp (pc := 85) dL_isSewn_85 ?_
    refine v_if_lt (pc := 86) (tgt := 93) dL_isSewn_86 (by decide) (fun c86 => ?_) (fun c86 => absurd c86 (by decide))
    refine v_iconst (pc := 93) (v := 0) dL_isSewn_93 (by decide) ?_
    refine v_iadd (pc := 94) dL_isSewn_94 ?_
    refine vw_mS (pc := 95) (j := 0) hW dL_isSewn_95 rfl (by decide) (fun G hW => ?_)
    refine v_iload (pc := 96) dL_isSewn_96 rfl ?_
    refine vq_zret (pc := 98) (U := 100) hR dL_isSewn_98 rfl ⟨rfl, rfl⟩ (by omega) ?_
    exact ⟨rfl, X, s, mS M 0 (nI (nA s) + 0), rfl, rfl, hW, by rw [mS_self ((hM.1.trans n1).trans (Int32.add_zero _).symm)]; exact hL.up (EQ.rf s) rfl rfl, by rw [mS_at, h6]; decide⟩
  · have hk : kLot (nA s) (nI (1 + xx % 5000)) (nI (1 + xx / 3 % 5000)) (nI (1 + xx / 7 % 5000)) = 0 := by unfold kLot; rw [if_pos hol, if_neg h6]
    refine v_aload_n (pc := 10) dL_isSewn_10 rfl rfl ?_
    refine v_iconst (pc := 11) (v := 0) dL_isSewn_11 (by decide) ?_
    refine v_iconst (pc := 12) (v := 1) dL_isSewn_12 (by decide) ?_
    refine v_iload (pc := 13) dL_isSewn_13 rfl ?_
    refine v_sipush (pc := 15) (v := 5000) dL_isSewn_15 (by decide) ?_
    refine v_nrem (pc := 18) (xx) (5000) dL_isSewn_18 (by omega) (by decide) rfl rfl ?_
    refine v_iadd (pc := 19) dL_isSewn_19 ?_
    rw [show (1) + nI (xx % 5000) = nI (1 + xx % 5000) from nI_add 1 (xx % 5000)]
    refine v_iconst (pc := 20) (v := 1) dL_isSewn_20 (by decide) ?_
    refine v_iload (pc := 21) dL_isSewn_21 rfl ?_
    refine v_iconst (pc := 23) (v := 3) dL_isSewn_23 (by decide) ?_
    refine v_ndiv (pc := 24) (xx) 3 dL_isSewn_24 (by omega) (by decide) rfl rfl ?_
    refine v_sipush (pc := 25) (v := 5000) dL_isSewn_25 (by decide) ?_
    refine v_nrem (pc := 28) (xx / 3) (5000) dL_isSewn_28 (by omega) (by decide) rfl rfl ?_
    refine v_iadd (pc := 29) dL_isSewn_29 ?_
    rw [show (1) + nI (xx / 3 % 5000) = nI (1 + xx / 3 % 5000) from nI_add 1 (xx / 3 % 5000)]
    refine v_iconst (pc := 30) (v := 1) dL_isSewn_30 (by decide) ?_
    refine v_iload (pc := 31) dL_isSewn_31 rfl ?_
    refine v_bipush (pc := 33) (v := 7) dL_isSewn_33 (by decide) ?_
    refine v_ndiv (pc := 35) (xx) 7 dL_isSewn_35 (by omega) (by decide) rfl rfl ?_
    refine v_sipush (pc := 36) (v := 5000) dL_isSewn_36 (by decide) ?_
    refine v_nrem (pc := 39) (xx / 7) (5000) dL_isSewn_39 (by omega) (by decide) rfl rfl ?_
    refine v_iadd (pc := 40) dL_isSewn_40 ?_
    rw [show (1) + nI (xx / 7 % 5000) = nI (1 + xx / 7 % 5000) from nI_add 1 (xx / 7 % 5000)]
    refine v_iconst (pc := 41) (v := 0) dL_isSewn_41 (by decide) ?_
    refine vqL (pc := 42) (u := 0) (j := 1) (U := 100) (As := [.ref (X.1 0 0), .int _, .int _, .int _, .int _, .int _]) hNC dL_isSewn_42 ll_act.1 ll_act.2.1 wl_act ll_act.2.2.2 ll_act.2.2.1 (sw_lot _ _ _ 0 hW hI hq hk) rfl rfl (Nat.le_of_ble_eq_true rfl) ⟨Nat.le_of_ble_eq_true rfl, Nat.le_of_ble_eq_true rfl⟩ ⟨by decide, by decide⟩ ⟨rfl, rfl⟩ (by omega) (fun v G hp => ?_)
    obtain ⟨s1, X, s', e, rfl, hW, h0x, rfl, x1, x2⟩ := hp
    rw [← h0x]
    have hL1 := hL.eq e G
    have eg : nA s1 = nA s := e.nA
    have hL2 := hL1.lot (X1 := X) ht (by rw [eg]; exact hk) x1 x2
    rw [eg] at hW hL2 ⊢
    refine v_lstore (pc := 45) dL_isSewn_45 rfl (by decide) ?_
    refine v_lload (pc := 47) dL_isSewn_47 rfl ?_
    refine v_aload_n (pc := 49) dL_isSewn_49 rfl rfl ?_
    refine v_iconst (pc := 50) (v := 0) dL_isSewn_50 (by decide) ?_
    refine vw_m (pc := 51) (j := 0) hW dL_isSewn_51 rfl (by decide) (x := nI (nA s)) (hM.1.trans n1) ?_
    refine v_bipush (pc := 52) (v := 6) dL_isSewn_52 (by decide) ?_
    refine v_icmp_ne (pc := 54) (tgt := 63) dL_isSewn_54 (by decide) (fun c54 => ?_) (fun c54 => absurd c54 (fun z => h6 ((nI_eq (by omega) (by decide)).mp z)))
    refine v_aload_n (pc := 63) dL_isSewn_63 rfl rfl ?_
    refine v_iconst (pc := 64) (v := 0) dL_isSewn_64 (by decide) ?_
    refine vw_m (pc := 65) (j := 0) hW dL_isSewn_65 rfl (by decide) (x := nI (nA s)) (hM.1.trans n1) ?_
    refine v_i2l (pc := 66) dL_isSewn_66 ?_
    refine v_lcmp (pc := 67) dL_isSewn_67 ?_
    refine v_if_ne (pc := 68) (tgt := 75) dL_isSewn_68 (by decide) (fun c68 => absurd c68 (d_ne rfl)) (fun c68 => ?_)
    refine v_iconst (pc := 71) (v := 1) dL_isSewn_71 (by decide) ?_
    refine v_goto (pc := 72) (tgt := 76) dL_isSewn_72 (by decide) ?_
    refine v_istore (pc := 76) dL_isSewn_76 rfl (by decide) ?_
    refine v_aload_n (pc := 78) dL_isSewn_78 rfl rfl ?_
    refine v_iconst (pc := 79) (v := 0) dL_isSewn_79 (by decide) ?_
    refine v_dup2 (pc := 80) dL_isSewn_80 rfl rfl ?_
    refine vw_m (pc := 81) (j := 0) hW dL_isSewn_81 rfl (by decide) (x := nI (nA s)) (hM.1.trans n1) ?_
    refine v_lload (pc := 82) dL_isSewn_82 rfl ?_
    refine v_lconst (pc := 84) (v := 0) dL_isSewn_84 (by decide) ?_
    refine v_lcmp (pc := 85) dL_isSewn_85 ?_
    refine v_if_lt (pc := 86) (tgt := 93) dL_isSewn_86 (by decide) (fun c86 => absurd c86 (d_lt (w_ge0 (nI_ps (by omega))))) (fun c86 => ?_)
    refine v_iconst (pc := 89) (v := 1) dL_isSewn_89 (by decide) ?_
    refine v_goto (pc := 90) (tgt := 94) dL_isSewn_90 (by decide) ?_
    refine v_iadd (pc := 94) dL_isSewn_94 ?_
    rw [nI_1]
    refine vw_mS (pc := 95) (j := 0) hW dL_isSewn_95 rfl (by decide) (fun G hW => ?_)
    refine v_iload (pc := 96) dL_isSewn_96 rfl ?_
    refine vq_zret (pc := 98) (U := 100) hR dL_isSewn_98 rfl ⟨rfl, rfl⟩ (by omega) ?_
    exact ⟨rfl, X, _, mS M 0 (nI (nA s + 1)), h0x, rfl, hW, hL2, by rw [mS_at]; exact nI_ne0 (by omega) (by omega)⟩
set_option maxRecDepth 100000 in
set_option maxHeartbeats 400000 in
theorem e_sun {D : DT} {K : KT} {X : XT} {s : SG} {M : MT} {t how xx sz : Nat} {G0 : GT} (hR : Rt rm_isSewn D K (some .boolean) yL_isSewn.name sz G0 (LSq X M (t + 1))) (hNC : NC3 K.2.2.2.1) (hxx : xx < 2147483648) (hhow : how < 100) (hL : LI X s M t) (ht : t < 200) (hA : 0 < nA s) (G : GT) (hW : WD X s M G) : V cL_isSewn yL_isSewn.cls 19 rm_isSewn D K 119 [some (.ref (X.1 0 0)), some (.ref M.1.1), some (.ref M.1.2.1), some (.int (nI how)), some (.int (nI xx)), some (.int (nI (xx % nA s))), some (.int (nI (xx / 6))), none, none, none, none, none, none, none, none, none, none, none, none] [] G (nu 0) := by
  have hI := hL.1
  have hM := hL.2.2.2.2.2.1
  have hq : 2 * t < 512 := by omega
  obtain ⟨b1, b2, b3, b4, b5, n1, n2, n3, n4, n5⟩ := hI.six hq
  obtain ⟨i1, i2, i3, i4, i5, i6, i7, i8, i9⟩ := INV.num (by omega) hI
  have hlt : xx % nA s < nA s := Nat.mod_lt _ hA
  have hA0 : ¬ M.2.1 0 = 0 := by rw [hM.1, n1]; exact nI_ne0 hA (by omega)
  have hk : kSun (nA s) (nI (xx % nA s)) (nI (1 + xx / 6 % 300)) = 0 := by
    unfold kSun
    rw [if_pos (btw_n hlt (by omega)), if_pos (show btw (nI (1 + xx / 6 % 300)) 1 10000 from bt_n (a := 1) (b := 10000) (by omega) (by decide))]
  by_cases hB : nB s = 0
  · refine v_aload_n (pc := 119) dL_isSewn_119 rfl rfl ?_
    refine v_iconst (pc := 120) (v := 1) dL_isSewn_120 (by decide) ?_
    refine vw_m (pc := 121) (j := 1) hW dL_isSewn_121 rfl (by decide) (x := nI (nB s)) (hM.2.1.trans n2) ?_
    refine v_if_ne (pc := 122) (tgt := 129) dL_isSewn_122 (by decide) (fun c122 => absurd c122 (fun z => z (by rw [hB]; rfl))) (fun c122 => ?_)
    refine v_lconst (pc := 125) (v := 0) dL_isSewn_125 (by decide) ?_
    refine v_goto (pc := 126) (tgt := 139) dL_isSewn_126 (by decide) ?_
    refine v_lstore (pc := 139) dL_isSewn_139 rfl (by decide) ?_
    refine v_aload_n (pc := 141) dL_isSewn_141 rfl rfl ?_
    refine v_iconst (pc := 142) (v := 1) dL_isSewn_142 (by decide) ?_
    refine v_iload (pc := 143) dL_isSewn_143 rfl ?_
    refine v_iconst (pc := 145) (v := 1) dL_isSewn_145 (by decide) ?_
    refine v_iload (pc := 146) dL_isSewn_146 rfl ?_
    refine v_sipush (pc := 148) (v := 300) dL_isSewn_148 (by decide) ?_
    refine v_nrem (pc := 151) (xx / 6) (300) dL_isSewn_151 (by omega) (by decide) rfl rfl ?_
    refine v_iadd (pc := 152) dL_isSewn_152 ?_
    rw [show (1) + nI (xx / 6 % 300) = nI (1 + xx / 6 % 300) from nI_add 1 (xx / 6 % 300)]
    refine v_iconst (pc := 153) (v := 0) dL_isSewn_153 (by decide) ?_
    refine v_iconst (pc := 154) (v := 0) dL_isSewn_154 (by decide) ?_
    refine vqL (pc := 155) (u := 0) (j := 1) (U := 100) (As := [.ref (X.1 0 0), .int _, .int _, .int _, .int _, .int _]) hNC dL_isSewn_155 ll_act.1 ll_act.2.1 wl_act ll_act.2.2.2 ll_act.2.2.1 (sw_sun _ _ 0 0 hW hI hq hk) rfl rfl (Nat.le_of_ble_eq_true rfl) ⟨Nat.le_of_ble_eq_true rfl, Nat.le_of_ble_eq_true rfl⟩ ⟨by decide, by decide⟩ ⟨rfl, rfl⟩ (by omega) (fun v G hp => ?_)
    obtain ⟨s1, s', e, rfl, hW, rfl⟩ := hp
    have hL1 := hL.eq e G
    have hL2 := hL1.sun (X1 := X) ht (by rw [e.nA]; exact hk) rfl rfl
    rw [nat_nI (show xx % nA s < 2147483648 by omega)] at hW hL2 ⊢
    obtain ⟨v1, v2⟩ := hSun_1 (h := s1.1 2 (xx % nA s)) (m := 1 + xx / 6 % 300) (by rw [e.1 2 (by decide) (by decide)]; exact i1.2.2.2.2.2 _ hlt) (by omega)
    rw [show (gSun s1 (xx % nA s) (nI (1 + xx / 6 % 300))).1 2 (xx % nA s) = hSun (s1.1 2 (xx % nA s)) (nI (1 + xx / 6 % 300)) from sI_at _ _ _ _]
    refine v_lstore (pc := 158) dL_isSewn_158 rfl (by decide) ?_
    refine v_lload (pc := 160) dL_isSewn_160 rfl ?_
    refine v_lconst (pc := 162) (v := 0) dL_isSewn_162 (by decide) ?_
    refine v_lcmp (pc := 163) dL_isSewn_163 ?_
    refine v_if_le (pc := 164) (tgt := 226) dL_isSewn_164 (by decide) (fun c164 => absurd c164 (d_le v1)) (fun c164 => ?_)
    refine v_lload (pc := 167) dL_isSewn_167 rfl ?_
    refine v_ldcL (pc := 169) dL_isSewn_169 k_L_162 ?_
    refine v_lcmp (pc := 172) dL_isSewn_172 ?_
    refine v_if_gt (pc := 173) (tgt := 226) dL_isSewn_173 (by decide) (fun c173 => absurd c173 (d_gt v2)) (fun c173 => ?_)
    refine v_aload_n (pc := 176) dL_isSewn_176 rfl rfl ?_
    refine v_iconst (pc := 177) (v := 1) dL_isSewn_177 (by decide) ?_
    refine vw_m (pc := 178) (j := 1) hW dL_isSewn_178 rfl (by decide) (x := nI (nB s)) (hM.2.1.trans n2) ?_
    refine v_if_eq (pc := 179) (tgt := 222) dL_isSewn_179 (by decide) (fun c179 => ?_) (fun c179 => absurd c179 (fun z => z (by rw [hB]; rfl)))
    refine v_iconst (pc := 222) (v := 1) dL_isSewn_222 (by decide) ?_
    refine v_goto (pc := 223) (tgt := 227) dL_isSewn_223 (by decide) ?_
    refine vq_zret (pc := 227) (U := 100) hR dL_isSewn_227 rfl ⟨rfl, rfl⟩ (by omega) ?_
    exact ⟨rfl, X, _, M, rfl, rfl, hW, hL2, hA0⟩
  · have hjb : xx / 6 % nB s < nB s := Nat.mod_lt _ (by omega)
    have ne0 : ¬ nI (nB s) = 0 := nI_ne0 (by omega) (by omega)
    refine v_aload_n (pc := 119) dL_isSewn_119 rfl rfl ?_
    refine v_iconst (pc := 120) (v := 1) dL_isSewn_120 (by decide) ?_
    refine vw_m (pc := 121) (j := 1) hW dL_isSewn_121 rfl (by decide) (x := nI (nB s)) (hM.2.1.trans n2) ?_
    refine v_if_ne (pc := 122) (tgt := 129) dL_isSewn_122 (by decide) (fun c122 => ?_) (fun c122 => absurd c122 ne0)
    refine v_aload_n (pc := 129) dL_isSewn_129 rfl rfl ?_
    refine v_iload (pc := 130) dL_isSewn_130 rfl ?_
    refine v_aload_n (pc := 132) dL_isSewn_132 rfl rfl ?_
    refine v_iconst (pc := 133) (v := 1) dL_isSewn_133 (by decide) ?_
    refine vw_m (pc := 134) (j := 1) hW dL_isSewn_134 rfl (by decide) (x := nI (nB s)) (hM.2.1.trans n2) ?_
    refine v_nrem (pc := 135) (xx / 6) (nB s) dL_isSewn_135 (by omega) (by omega) rfl rfl ?_
    refine vqV (pc := 136) (u := 0) (j := 1) (U := 100) (As := [.int _]) hW dL_isSewn_136 cw_L_23 im_yX8_strength se_yX8_strength rfl (q_strength _ hW hI hq (by unfold kPl; exact if_pos (btw_n hjb (by omega)))) rfl rfl (Nat.le_of_ble_eq_true rfl) ⟨Nat.le_of_ble_eq_true rfl, Nat.le_of_ble_eq_true rfl⟩ ⟨by decide, by decide⟩ ⟨rfl, rfl⟩ (by omega) (fun v G hp => ?_)
    obtain ⟨rfl, hW⟩ := hp
    rw [nat_nI (show xx / 6 % nB s < 2147483648 by omega)]
    refine v_lstore (pc := 139) dL_isSewn_139 rfl (by decide) ?_
    refine v_aload_n (pc := 141) dL_isSewn_141 rfl rfl ?_
    refine v_iconst (pc := 142) (v := 1) dL_isSewn_142 (by decide) ?_
    refine v_iload (pc := 143) dL_isSewn_143 rfl ?_
    refine v_iconst (pc := 145) (v := 1) dL_isSewn_145 (by decide) ?_
    refine v_iload (pc := 146) dL_isSewn_146 rfl ?_
    refine v_sipush (pc := 148) (v := 300) dL_isSewn_148 (by decide) ?_
    refine v_nrem (pc := 151) (xx / 6) (300) dL_isSewn_151 (by omega) (by decide) rfl rfl ?_
    refine v_iadd (pc := 152) dL_isSewn_152 ?_
    rw [show (1) + nI (xx / 6 % 300) = nI (1 + xx / 6 % 300) from nI_add 1 (xx / 6 % 300)]
    refine v_iconst (pc := 153) (v := 0) dL_isSewn_153 (by decide) ?_
    refine v_iconst (pc := 154) (v := 0) dL_isSewn_154 (by decide) ?_
    refine vqL (pc := 155) (u := 0 + 1) (j := 1) (U := 100) (As := [.ref (X.1 0 0), .int _, .int _, .int _, .int _, .int _]) hNC dL_isSewn_155 ll_act.1 ll_act.2.1 wl_act ll_act.2.2.2 ll_act.2.2.1 (sw_sun _ _ 0 0 hW hI hq hk) rfl rfl (Nat.le_of_ble_eq_true rfl) ⟨Nat.le_of_ble_eq_true rfl, Nat.le_of_ble_eq_true rfl⟩ ⟨by decide, by decide⟩ ⟨rfl, rfl⟩ (by omega) (fun v G hp => ?_)
    obtain ⟨s1, s', e, rfl, hW, rfl⟩ := hp
    have hL1 := hL.eq e G
    have hL2 := hL1.sun (X1 := X) ht (by rw [e.nA]; exact hk) rfl rfl
    rw [nat_nI (show xx % nA s < 2147483648 by omega)] at hW hL2 ⊢
    obtain ⟨v1, v2⟩ := hSun_1 (h := s1.1 2 (xx % nA s)) (m := 1 + xx / 6 % 300) (by rw [e.1 2 (by decide) (by decide)]; exact i1.2.2.2.2.2 _ hlt) (by omega)
    rw [show (gSun s1 (xx % nA s) (nI (1 + xx / 6 % 300))).1 2 (xx % nA s) = hSun (s1.1 2 (xx % nA s)) (nI (1 + xx / 6 % 300)) from sI_at _ _ _ _]
    obtain ⟨w1, w2⟩ := sun_ok hL1 ht (l0 := xx % nA s) (m := 1 + xx / 6 % 300) (j := xx / 6 % nB s) (by rw [e.nA]; exact hlt) (by omega) (by rw [e.nB]; exact hjb)
    rw [e.str] at w1 w2
    refine v_lstore (pc := 158) dL_isSewn_158 rfl (by decide) ?_
    refine v_lload (pc := 160) dL_isSewn_160 rfl ?_
    refine v_lconst (pc := 162) (v := 0) dL_isSewn_162 (by decide) ?_
    refine v_lcmp (pc := 163) dL_isSewn_163 ?_
    refine v_if_le (pc := 164) (tgt := 226) dL_isSewn_164 (by decide) (fun c164 => absurd c164 (d_le v1)) (fun c164 => ?_)
    refine v_lload (pc := 167) dL_isSewn_167 rfl ?_
    refine v_ldcL (pc := 169) dL_isSewn_169 k_L_162 ?_
    refine v_lcmp (pc := 172) dL_isSewn_172 ?_
    refine v_if_gt (pc := 173) (tgt := 226) dL_isSewn_173 (by decide) (fun c173 => absurd c173 (d_gt v2)) (fun c173 => ?_)
    refine v_aload_n (pc := 176) dL_isSewn_176 rfl rfl ?_
    refine v_iconst (pc := 177) (v := 1) dL_isSewn_177 (by decide) ?_
    refine vw_m (pc := 178) (j := 1) hW dL_isSewn_178 rfl (by decide) (x := nI (nB s)) (hM.2.1.trans n2) ?_
    refine v_if_eq (pc := 179) (tgt := 222) dL_isSewn_179 (by decide) (fun c179 => absurd c179 ne0) (fun c179 => ?_)
    refine v_aload_n (pc := 182) dL_isSewn_182 rfl rfl ?_
    refine v_iload (pc := 183) dL_isSewn_183 rfl ?_
    refine v_aload_n (pc := 185) dL_isSewn_185 rfl rfl ?_
    refine v_iconst (pc := 186) (v := 1) dL_isSewn_186 (by decide) ?_
    refine vw_m (pc := 187) (j := 1) hW dL_isSewn_187 rfl (by decide) (x := nI (nB s)) (hM.2.1.trans n2) ?_
    refine v_nrem (pc := 188) (xx / 6) (nB s) dL_isSewn_188 (by omega) (by omega) rfl rfl ?_
    refine vqV (pc := 189) (u := 0 + 1 + 1) (j := 1) (U := 100) (As := [.int _]) hW dL_isSewn_189 cw_L_23 im_yX8_strength se_yX8_strength rfl (q_strength _ hW hL2.1 (by omega) (by unfold kPl; rw [show nB (gSun s1 (xx % nA s) (nI (1 + xx / 6 % 300))) = nB s from (congrArg nat (congrFun (sI_r _ _ _ (by decide)) 0)).trans e.nB]; exact if_pos (btw_n hjb (by omega)))) rfl rfl (Nat.le_of_ble_eq_true rfl) ⟨Nat.le_of_ble_eq_true rfl, Nat.le_of_ble_eq_true rfl⟩ ⟨by decide, by decide⟩ ⟨rfl, rfl⟩ (by omega) (fun v G hp => ?_)
    obtain ⟨rfl, hW⟩ := hp
    rw [nat_nI (show xx / 6 % nB s < 2147483648 by omega)]
    refine v_lload (pc := 192) dL_isSewn_192 rfl ?_
    refine v_lcmp (pc := 194) dL_isSewn_194 ?_
    refine v_if_gt (pc := 195) (tgt := 226) dL_isSewn_195 (by decide) (fun c195 => absurd c195 (d_gt w1)) (fun c195 => ?_)
    refine v_aload_n (pc := 198) dL_isSewn_198 rfl rfl ?_
    refine v_iload (pc := 199) dL_isSewn_199 rfl ?_
    refine v_aload_n (pc := 201) dL_isSewn_201 rfl rfl ?_
    refine v_iconst (pc := 202) (v := 1) dL_isSewn_202 (by decide) ?_
    refine vw_m (pc := 203) (j := 1) hW dL_isSewn_203 rfl (by decide) (x := nI (nB s)) (hM.2.1.trans n2) ?_
    refine v_nrem (pc := 204) (xx / 6) (nB s) dL_isSewn_204 (by omega) (by omega) rfl rfl ?_
    refine vqV (pc := 205) (u := 0 + 1 + 1 + 1) (j := 1) (U := 100) (As := [.int _]) hW dL_isSewn_205 cw_L_23 im_yX8_strength se_yX8_strength rfl (q_strength _ hW hL2.1 (by omega) (by unfold kPl; rw [show nB (gSun s1 (xx % nA s) (nI (1 + xx / 6 % 300))) = nB s from (congrArg nat (congrFun (sI_r _ _ _ (by decide)) 0)).trans e.nB]; exact if_pos (btw_n hjb (by omega)))) rfl rfl (Nat.le_of_ble_eq_true rfl) ⟨Nat.le_of_ble_eq_true rfl, Nat.le_of_ble_eq_true rfl⟩ ⟨by decide, by decide⟩ ⟨rfl, rfl⟩ (by omega) (fun v G hp => ?_)
    obtain ⟨rfl, hW⟩ := hp
    rw [nat_nI (show xx / 6 % nB s < 2147483648 by omega)]
    refine v_ldcL (pc := 208) dL_isSewn_208 k_L_164 ?_
    refine v_lmul (pc := 211) dL_isSewn_211 ?_
    refine v_ldcL (pc := 212) dL_isSewn_212 k_L_166 ?_
    refine v_ladd (pc := 215) dL_isSewn_215 ?_
    refine v_lload (pc := 216) dL_isSewn_216 rfl ?_
    refine v_lcmp (pc := 218) dL_isSewn_218 ?_
    refine v_if_lt (pc := 219) (tgt := 226) dL_isSewn_219 (by decide) (fun c219 => absurd c219 (d_lt w2)) (fun c219 => ?_)
    refine v_iconst (pc := 222) (v := 1) dL_isSewn_222 (by decide) ?_
    refine v_goto (pc := 223) (tgt := 227) dL_isSewn_223 (by decide) ?_
    refine vq_zret (pc := 227) (U := 100) hR dL_isSewn_227 rfl ⟨rfl, rfl⟩ (by omega) ?_
    exact ⟨rfl, X, _, M, rfl, rfl, hW, hL2, hA0⟩
set_option maxRecDepth 100000 in
set_option maxHeartbeats 400000 in
theorem e_panel {D : DT} {K : KT} {X : XT} {s : SG} {M : MT} {t how xx sz : Nat} {G0 : GT} (hR : Rt rm_isSewn D K (some .boolean) yL_isSewn.name sz G0 (LSq X M (t + 1))) (hNC : NC3 K.2.2.2.1) (hxx : xx < 2147483648) (hhow : how < 100) (hL : LI X s M t) (ht : t < 200) (hA : 0 < nA s) (G : GT) (hW : WD X s M G) : V cL_isSewn yL_isSewn.cls 19 rm_isSewn D K 240 [some (.ref (X.1 0 0)), some (.ref M.1.1), some (.ref M.1.2.1), some (.int (nI how)), some (.int (nI xx)), some (.int (nI (xx % nA s))), some (.int (nI (xx / 6))), none, none, none, none, none, none, none, none, none, none, none, none] [] G (nu 0) := by
  have hI := hL.1
  have hM := hL.2.2.2.2.2.1
  have hq : 2 * t < 512 := by omega
  obtain ⟨b1, b2, b3, b4, b5, n1, n2, n3, n4, n5⟩ := hI.six hq
  obtain ⟨i1, i2, i3, i4, i5, i6, i7, i8, i9⟩ := INV.num (by omega) hI
  have hlt : xx % nA s < nA s := Nat.mod_lt _ hA
  have hA0 : ¬ M.2.1 0 = 0 := by rw [hM.1, n1]; exact nI_ne0 hA (by omega)
  have hop : oPan (nI (1 + xx / 6 / 3 % 75)) (nI (1 + xx / 6 / 225 % 75)) (nI (xx / 6 % 3)) := by
    refine ⟨⟨bt_n (a := 1) (b := 150) (by omega) (by decide), bt_n (a := 1) (b := 150) (by omega) (by decide), bt_n (a := 0) (b := 2) (by omega) (by decide)⟩, fun z => z.2 ?_⟩
    rw [nI_add]
    exact (nI_leI (b := 150) (by omega) (by decide)).mpr (by omega)
  have hkr : kRoll (nA s) (nI (xx % nA s)) = 0 := by unfold kRoll; exact if_pos (btw_n hlt (by omega))
  by_cases h12 : nB s = 12
  · refine v_iload (pc := 240) dL_isSewn_240 rfl ?_
    refine v_iconst (pc := 242) (v := 3) dL_isSewn_242 (by decide) ?_
    refine v_nrem (pc := 243) (xx / 6) (3) dL_isSewn_243 (by omega) (by decide) rfl rfl ?_
    refine v_istore (pc := 244) dL_isSewn_244 rfl (by decide) ?_
    refine v_iconst (pc := 246) (v := 1) dL_isSewn_246 (by decide) ?_
    refine v_iload (pc := 247) dL_isSewn_247 rfl ?_
    refine v_iconst (pc := 249) (v := 3) dL_isSewn_249 (by decide) ?_
    refine v_ndiv (pc := 250) (xx / 6) 3 dL_isSewn_250 (by omega) (by decide) rfl rfl ?_
    refine v_bipush (pc := 251) (v := 75) dL_isSewn_251 (by decide) ?_
    refine v_nrem (pc := 253) (xx / 6 / 3) (75) dL_isSewn_253 (by omega) (by decide) rfl rfl ?_
    refine v_iadd (pc := 254) dL_isSewn_254 ?_
    rw [show (1) + nI (xx / 6 / 3 % 75) = nI (1 + xx / 6 / 3 % 75) from nI_add 1 (xx / 6 / 3 % 75)]
    refine v_istore (pc := 255) dL_isSewn_255 rfl (by decide) ?_
    refine v_iconst (pc := 257) (v := 1) dL_isSewn_257 (by decide) ?_
    refine v_iload (pc := 258) dL_isSewn_258 rfl ?_
    refine v_sipush (pc := 260) (v := 225) dL_isSewn_260 (by decide) ?_
    refine v_ndiv (pc := 263) (xx / 6) 225 dL_isSewn_263 (by omega) (by decide) rfl rfl ?_
    refine v_bipush (pc := 264) (v := 75) dL_isSewn_264 (by decide) ?_
    refine v_nrem (pc := 266) (xx / 6 / 225) (75) dL_isSewn_266 (by omega) (by decide) rfl rfl ?_
    refine v_iadd (pc := 267) dL_isSewn_267 ?_
    rw [show (1) + nI (xx / 6 / 225 % 75) = nI (1 + xx / 6 / 225 % 75) from nI_add 1 (xx / 6 / 225 % 75)]
    refine v_istore (pc := 268) dL_isSewn_268 rfl (by decide) ?_
    refine v_aload_n (pc := 270) dL_isSewn_270 rfl rfl ?_
    refine v_iconst (pc := 271) (v := 4) dL_isSewn_271 (by decide) ?_
    refine v_iload (pc := 272) dL_isSewn_272 rfl ?_
    refine v_iconst (pc := 274) (v := 0) dL_isSewn_274 (by decide) ?_
    refine v_iconst (pc := 275) (v := 0) dL_isSewn_275 (by decide) ?_
    refine v_iconst (pc := 276) (v := 0) dL_isSewn_276 (by decide) ?_
    refine vqL (pc := 277) (u := 0) (j := 1) (U := 100) (As := [.ref (X.1 0 0), .int _, .int _, .int _, .int _, .int _]) hNC dL_isSewn_277 ll_act.1 ll_act.2.1 wl_act ll_act.2.2.2 ll_act.2.2.1 (sw_roll _ 0 0 0 hW hI hq hkr) rfl rfl (Nat.le_of_ble_eq_true rfl) ⟨Nat.le_of_ble_eq_true rfl, Nat.le_of_ble_eq_true rfl⟩ ⟨by decide, by decide⟩ ⟨rfl, rfl⟩ (by omega) (fun v G hp => ?_)
    obtain ⟨s0, s', e0, rfl, hW', rfl⟩ := hp
    have hW := hW'.eq e0
    rw [nat_nI (show xx % nA s < 2147483648 by omega), e0.1 39 (by decide) (by decide), e0.1 41 (by decide) (by decide)]
    refine v_lstore (pc := 280) dL_isSewn_280 rfl (by decide) ?_
    refine v_aload_n (pc := 282) dL_isSewn_282 rfl rfl ?_
    refine v_iconst (pc := 283) (v := 2) dL_isSewn_283 (by decide) ?_
    refine v_iload (pc := 284) dL_isSewn_284 rfl ?_
    refine v_iload (pc := 286) dL_isSewn_286 rfl ?_
    refine v_iload (pc := 288) dL_isSewn_288 rfl ?_
    refine v_iload (pc := 290) dL_isSewn_290 rfl ?_
    refine vqL (pc := 292) (u := 0 + 1) (j := 1) (U := 100) (As := [.ref (X.1 0 0), .int _, .int _, .int _, .int _, .int _]) hNC dL_isSewn_292 ll_act.1 ll_act.2.1 wl_act ll_act.2.2.2 ll_act.2.2.1 (xIS_panel _ _ _ _ hW hI hq (by unfold kPan; rw [if_pos (btw_n hlt (by omega)), if_pos hop, if_pos h12])) rfl rfl (Nat.le_of_ble_eq_true rfl) ⟨Nat.le_of_ble_eq_true rfl, Nat.le_of_ble_eq_true rfl⟩ ⟨by decide, by decide⟩ ⟨rfl, rfl⟩ (by omega) (fun v G hp => ?_)
    obtain ⟨rfl, hW⟩ := hp
    refine v_lstore (pc := 295) dL_isSewn_295 rfl (by decide) ?_
    refine v_lload (pc := 297) dL_isSewn_297 rfl ?_
    refine v_lconst (pc := 299) (v := 0) dL_isSewn_299 (by decide) ?_
    refine v_lcmp (pc := 300) dL_isSewn_300 ?_
    refine v_if_lt (pc := 301) (tgt := 342) dL_isSewn_301 (by decide) (fun c301 => ?_) (fun c301 => absurd c301 (by decide))
    refine v_lload (pc := 342) dL_isSewn_342 rfl ?_
    refine v_aload_n (pc := 344) dL_isSewn_344 rfl rfl ?_
    refine v_iconst (pc := 345) (v := 1) dL_isSewn_345 (by decide) ?_
    refine vw_m (pc := 346) (j := 1) hW dL_isSewn_346 rfl (by decide) (x := nI (nB s)) (hM.2.1.trans n2) ?_
    refine v_bipush (pc := 347) (v := 12) dL_isSewn_347 (by decide) ?_
    refine v_icmp_ne (pc := 349) (tgt := 365) dL_isSewn_349 (by decide) (fun c349 => absurd c349 (fun z => z (by rw [h12]; rfl))) (fun c349 => ?_)
    refine v_lload (pc := 352) dL_isSewn_352 rfl ?_
    refine v_lconst (pc := 354) (v := 0) dL_isSewn_354 (by decide) ?_
    refine v_lcmp (pc := 355) dL_isSewn_355 ?_
    refine v_if_ge (pc := 356) (tgt := 365) dL_isSewn_356 (by decide) (fun c356 => absurd c356 (by decide)) (fun c356 => ?_)
    refine v_ldcL (pc := 359) dL_isSewn_359 k_L_113 ?_
    refine v_goto (pc := 362) (tgt := 371) dL_isSewn_362 (by decide) ?_
    refine v_lcmp (pc := 371) dL_isSewn_371 ?_
    refine v_if_ne (pc := 372) (tgt := 395) dL_isSewn_372 (by decide) (fun c372 => absurd c372 (d_ne rfl)) (fun c372 => ?_)
    refine v_aload_n (pc := 375) dL_isSewn_375 rfl rfl ?_
    refine v_iconst (pc := 376) (v := 4) dL_isSewn_376 (by decide) ?_
    refine v_iload (pc := 377) dL_isSewn_377 rfl ?_
    refine v_iconst (pc := 379) (v := 0) dL_isSewn_379 (by decide) ?_
    refine v_iconst (pc := 380) (v := 0) dL_isSewn_380 (by decide) ?_
    refine v_iconst (pc := 381) (v := 0) dL_isSewn_381 (by decide) ?_
    refine vqL (pc := 382) (u := 0 + 1 + 1) (j := 1) (U := 100) (As := [.ref (X.1 0 0), .int _, .int _, .int _, .int _, .int _]) hNC dL_isSewn_382 ll_act.1 ll_act.2.1 wl_act ll_act.2.2.2 ll_act.2.2.1 (sw_roll _ 0 0 0 hW hI hq hkr) rfl rfl (Nat.le_of_ble_eq_true rfl) ⟨Nat.le_of_ble_eq_true rfl, Nat.le_of_ble_eq_true rfl⟩ ⟨by decide, by decide⟩ ⟨rfl, rfl⟩ (by omega) (fun v G hp => ?_)
    obtain ⟨s2, s', e2, rfl, hW', rfl⟩ := hp
    have hW := hW'.eq e2
    rw [nat_nI (show xx % nA s < 2147483648 by omega), e2.1 39 (by decide) (by decide), e2.1 41 (by decide) (by decide)]
    refine v_lload (pc := 385) dL_isSewn_385 rfl ?_
    refine v_lcmp (pc := 387) dL_isSewn_387 ?_
    refine v_if_lt (pc := 388) (tgt := 395) dL_isSewn_388 (by decide) (fun c388 => absurd c388 (d_lt (Int64.le_refl _))) (fun c388 => ?_)
    refine v_iconst (pc := 391) (v := 1) dL_isSewn_391 (by decide) ?_
    refine v_goto (pc := 392) (tgt := 396) dL_isSewn_392 (by decide) ?_
    refine vq_zret (pc := 396) (U := 100) hR dL_isSewn_396 rfl ⟨rfl, rfl⟩ (by omega) ?_
    exact ⟨rfl, X, s, M, rfl, rfl, hW, hL.up (EQ.rf s) rfl rfl, hA0⟩
  · have hk : kPan (nA s) (nB s) (nI (xx % nA s)) (nI (1 + xx / 6 / 3 % 75)) (nI (1 + xx / 6 / 225 % 75)) (nI (xx / 6 % 3)) = 0 := by
      unfold kPan
      rw [if_pos (btw_n hlt (by omega)), if_pos hop, if_neg h12]
    refine v_iload (pc := 240) dL_isSewn_240 rfl ?_
    refine v_iconst (pc := 242) (v := 3) dL_isSewn_242 (by decide) ?_
    refine v_nrem (pc := 243) (xx / 6) (3) dL_isSewn_243 (by omega) (by decide) rfl rfl ?_
    refine v_istore (pc := 244) dL_isSewn_244 rfl (by decide) ?_
    refine v_iconst (pc := 246) (v := 1) dL_isSewn_246 (by decide) ?_
    refine v_iload (pc := 247) dL_isSewn_247 rfl ?_
    refine v_iconst (pc := 249) (v := 3) dL_isSewn_249 (by decide) ?_
    refine v_ndiv (pc := 250) (xx / 6) 3 dL_isSewn_250 (by omega) (by decide) rfl rfl ?_
    refine v_bipush (pc := 251) (v := 75) dL_isSewn_251 (by decide) ?_
    refine v_nrem (pc := 253) (xx / 6 / 3) (75) dL_isSewn_253 (by omega) (by decide) rfl rfl ?_
    refine v_iadd (pc := 254) dL_isSewn_254 ?_
    rw [show (1) + nI (xx / 6 / 3 % 75) = nI (1 + xx / 6 / 3 % 75) from nI_add 1 (xx / 6 / 3 % 75)]
    refine v_istore (pc := 255) dL_isSewn_255 rfl (by decide) ?_
    refine v_iconst (pc := 257) (v := 1) dL_isSewn_257 (by decide) ?_
    refine v_iload (pc := 258) dL_isSewn_258 rfl ?_
    refine v_sipush (pc := 260) (v := 225) dL_isSewn_260 (by decide) ?_
    refine v_ndiv (pc := 263) (xx / 6) 225 dL_isSewn_263 (by omega) (by decide) rfl rfl ?_
    refine v_bipush (pc := 264) (v := 75) dL_isSewn_264 (by decide) ?_
    refine v_nrem (pc := 266) (xx / 6 / 225) (75) dL_isSewn_266 (by omega) (by decide) rfl rfl ?_
    refine v_iadd (pc := 267) dL_isSewn_267 ?_
    rw [show (1) + nI (xx / 6 / 225 % 75) = nI (1 + xx / 6 / 225 % 75) from nI_add 1 (xx / 6 / 225 % 75)]
    refine v_istore (pc := 268) dL_isSewn_268 rfl (by decide) ?_
    refine v_aload_n (pc := 270) dL_isSewn_270 rfl rfl ?_
    refine v_iconst (pc := 271) (v := 4) dL_isSewn_271 (by decide) ?_
    refine v_iload (pc := 272) dL_isSewn_272 rfl ?_
    refine v_iconst (pc := 274) (v := 0) dL_isSewn_274 (by decide) ?_
    refine v_iconst (pc := 275) (v := 0) dL_isSewn_275 (by decide) ?_
    refine v_iconst (pc := 276) (v := 0) dL_isSewn_276 (by decide) ?_
    refine vqL (pc := 277) (u := 0) (j := 1) (U := 100) (As := [.ref (X.1 0 0), .int _, .int _, .int _, .int _, .int _]) hNC dL_isSewn_277 ll_act.1 ll_act.2.1 wl_act ll_act.2.2.2 ll_act.2.2.1 (sw_roll _ 0 0 0 hW hI hq hkr) rfl rfl (Nat.le_of_ble_eq_true rfl) ⟨Nat.le_of_ble_eq_true rfl, Nat.le_of_ble_eq_true rfl⟩ ⟨by decide, by decide⟩ ⟨rfl, rfl⟩ (by omega) (fun v G hp => ?_)
    obtain ⟨s0, s', e0, rfl, hW', rfl⟩ := hp
    have hW := hW'.eq e0
    rw [nat_nI (show xx % nA s < 2147483648 by omega), e0.1 39 (by decide) (by decide), e0.1 41 (by decide) (by decide)]
    refine v_lstore (pc := 280) dL_isSewn_280 rfl (by decide) ?_
    refine v_aload_n (pc := 282) dL_isSewn_282 rfl rfl ?_
    refine v_iconst (pc := 283) (v := 2) dL_isSewn_283 (by decide) ?_
    refine v_iload (pc := 284) dL_isSewn_284 rfl ?_
    refine v_iload (pc := 286) dL_isSewn_286 rfl ?_
    refine v_iload (pc := 288) dL_isSewn_288 rfl ?_
    refine v_iload (pc := 290) dL_isSewn_290 rfl ?_
    refine vqL (pc := 292) (u := 0 + 1) (j := 1) (U := 100) (As := [.ref (X.1 0 0), .int _, .int _, .int _, .int _, .int _]) hNC dL_isSewn_292 ll_act.1 ll_act.2.1 wl_act ll_act.2.2.2 ll_act.2.2.1 (sw_panel _ _ _ _ hW hI hq hk) rfl rfl (Nat.le_of_ble_eq_true rfl) ⟨Nat.le_of_ble_eq_true rfl, Nat.le_of_ble_eq_true rfl⟩ ⟨by decide, by decide⟩ ⟨rfl, rfl⟩ (by omega) (fun v G hp => ?_)
    obtain ⟨s1, X, s', e, rfl, hW, h0x, rfl, x1, x2⟩ := hp
    rw [← h0x]
    have hL1 := hL.eq e G
    have eg : nB s1 = nB s := e.nB
    have hk1 : kPan (nA s1) (nB s1) (nI (xx % nA s)) (nI (1 + xx / 6 / 3 % 75)) (nI (1 + xx / 6 / 225 % 75)) (nI (xx / 6 % 3)) = 0 := by rw [eg, e.nA]; exact hk
    obtain ⟨hL2, eB⟩ := hL1.panel (X1 := X) ht hk1 x1 x2
    have hup := roll_up (l := xx % nA s) hL1 ht hk1 hL2 eB (by rw [e.nA]; exact hlt)
    rw [e.1 39 (by decide) (by decide), e.1 41 (by decide) (by decide)] at hup
    have hWp : WD X (gPn s1 (nI (xx % nA s)) (nI (1 + xx / 6 / 3 % 75)) (nI (1 + xx / 6 / 225 % 75)) (nI (xx / 6 % 3))) M G := hW
    clear hW
    have eA2 : nA (gPn s1 (nI (xx % nA s)) (nI (1 + xx / 6 / 3 % 75)) (nI (1 + xx / 6 / 225 % 75)) (nI (xx / 6 % 3))) = nA s := by
      have h0 : (gPn s1 (nI (xx % nA s)) (nI (1 + xx / 6 / 3 % 75)) (nI (1 + xx / 6 / 225 % 75)) (nI (xx / 6 % 3))).1 0 = s1.1 0 := by unfold gPn; rw [sI_r _ _ _ (by decide), ly_k (by decide), pn_k (by decide)]
      show nat ((gPn s1 (nI (xx % nA s)) (nI (1 + xx / 6 / 3 % 75)) (nI (1 + xx / 6 / 225 % 75)) (nI (xx / 6 % 3))).1 0 0) = _
      rw [h0]; exact e.nA
    have hW := hWp
    rw [eg] at hL2 eB ⊢
    refine v_lstore (pc := 295) dL_isSewn_295 rfl (by decide) ?_
    refine v_lload (pc := 297) dL_isSewn_297 rfl ?_
    refine v_lconst (pc := 299) (v := 0) dL_isSewn_299 (by decide) ?_
    refine v_lcmp (pc := 300) dL_isSewn_300 ?_
    refine v_if_lt (pc := 301) (tgt := 342) dL_isSewn_301 (by decide) (fun c301 => absurd c301 (d_lt (w_ge0 (nI_ps (by omega))))) (fun c301 => ?_)
    refine v_aload_n (pc := 304) dL_isSewn_304 rfl rfl ?_
    refine v_iconst (pc := 305) (v := 3) dL_isSewn_305 (by decide) ?_
    refine v_aload_n (pc := 306) dL_isSewn_306 rfl rfl ?_
    refine v_iconst (pc := 307) (v := 1) dL_isSewn_307 (by decide) ?_
    refine vw_m (pc := 308) (j := 1) hW dL_isSewn_308 rfl (by decide) (x := nI (nB s)) (hM.2.1.trans n2) ?_
    refine v_imul (pc := 309) dL_isSewn_309 ?_
    refine v_iload (pc := 310) dL_isSewn_310 rfl ?_
    refine vw_pS (pc := 312) (j := 3 * nB s) hW dL_isSewn_312 (by rw [show (3 : Int32) = nI 3 from rfl, n_mul]) (by omega) (fun G hW => ?_)
    refine v_aload_n (pc := 313) dL_isSewn_313 rfl rfl ?_
    refine v_iconst (pc := 314) (v := 3) dL_isSewn_314 (by decide) ?_
    refine v_aload_n (pc := 315) dL_isSewn_315 rfl rfl ?_
    refine v_iconst (pc := 316) (v := 1) dL_isSewn_316 (by decide) ?_
    refine vw_m (pc := 317) (M := (pS M (3 * nB s) (nI (xx % nA s)))) (j := 1) hW dL_isSewn_317 rfl (by decide) (x := nI (nB s)) (hM.2.1.trans n2) ?_
    refine v_imul (pc := 318) dL_isSewn_318 ?_
    refine v_iconst (pc := 319) (v := 1) dL_isSewn_319 (by decide) ?_
    refine v_iadd (pc := 320) dL_isSewn_320 ?_
    refine v_iload (pc := 321) dL_isSewn_321 rfl ?_
    refine vw_pS (pc := 323) (M := (pS M (3 * nB s) (nI (xx % nA s)))) (j := 3 * nB s + 1) hW dL_isSewn_323 (by rw [show (3 : Int32) = nI 3 from rfl, n_mul]; exact nI_1 _) (by omega) (fun G hW => ?_)
    refine v_aload_n (pc := 324) dL_isSewn_324 rfl rfl ?_
    refine v_iconst (pc := 325) (v := 3) dL_isSewn_325 (by decide) ?_
    refine v_aload_n (pc := 326) dL_isSewn_326 rfl rfl ?_
    refine v_iconst (pc := 327) (v := 1) dL_isSewn_327 (by decide) ?_
    refine vw_m (pc := 328) (M := (pS (pS M (3 * nB s) (nI (xx % nA s))) (3 * nB s + 1) (nI (1 + xx / 6 / 3 % 75)))) (j := 1) hW dL_isSewn_328 rfl (by decide) (x := nI (nB s)) (hM.2.1.trans n2) ?_
    refine v_imul (pc := 329) dL_isSewn_329 ?_
    refine v_iconst (pc := 330) (v := 2) dL_isSewn_330 (by decide) ?_
    refine v_iadd (pc := 331) dL_isSewn_331 ?_
    refine v_iload (pc := 332) dL_isSewn_332 rfl ?_
    refine vw_pS (pc := 334) (M := (pS (pS M (3 * nB s) (nI (xx % nA s))) (3 * nB s + 1) (nI (1 + xx / 6 / 3 % 75)))) (j := 3 * nB s + 2) hW dL_isSewn_334 (by rw [show (3 : Int32) = nI 3 from rfl, n_mul, show (2 : Int32) = nI 2 from rfl, nI_add]) (by omega) (fun G hW => ?_)
    refine v_aload_n (pc := 335) dL_isSewn_335 rfl rfl ?_
    refine v_iconst (pc := 336) (v := 1) dL_isSewn_336 (by decide) ?_
    refine v_dup2 (pc := 337) dL_isSewn_337 rfl rfl ?_
    refine vw_m (pc := 338) (M := (pS (pS (pS M (3 * nB s) (nI (xx % nA s))) (3 * nB s + 1) (nI (1 + xx / 6 / 3 % 75))) (3 * nB s + 2) (nI (1 + xx / 6 / 225 % 75)))) (j := 1) hW dL_isSewn_338 rfl (by decide) (x := nI (nB s)) (hM.2.1.trans n2) ?_
    refine v_iconst (pc := 339) (v := 1) dL_isSewn_339 (by decide) ?_
    refine v_iadd (pc := 340) dL_isSewn_340 ?_
    rw [nI_1]
    refine vw_mS (pc := 341) (M := (pS (pS (pS M (3 * nB s) (nI (xx % nA s))) (3 * nB s + 1) (nI (1 + xx / 6 / 3 % 75))) (3 * nB s + 2) (nI (1 + xx / 6 / 225 % 75)))) (j := 1) hW dL_isSewn_341 rfl (by decide) (fun G hW => ?_)
    refine v_lload (pc := 342) dL_isSewn_342 rfl ?_
    refine v_aload_n (pc := 344) dL_isSewn_344 rfl rfl ?_
    refine v_iconst (pc := 345) (v := 1) dL_isSewn_345 (by decide) ?_
    refine vw_m (pc := 346) (M := (mS (pS (pS (pS M (3 * nB s) (nI (xx % nA s))) (3 * nB s + 1) (nI (1 + xx / 6 / 3 % 75))) (3 * nB s + 2) (nI (1 + xx / 6 / 225 % 75))) 1 (nI (nB s + 1)))) (j := 1) hW dL_isSewn_346 rfl (by decide) (x := nI (nB s + 1)) (mS_at _ _ _) ?_
    refine v_bipush (pc := 347) (v := 12) dL_isSewn_347 (by decide) ?_
    refine v_icmp_ne (pc := 349) (tgt := 365) dL_isSewn_349 (by decide) (fun c349 => ?_) (fun c349 => ?_)
    · refine v_aload_n (pc := 365) dL_isSewn_365 rfl rfl ?_
      refine v_iconst (pc := 366) (v := 1) dL_isSewn_366 (by decide) ?_
      refine vw_m (pc := 367) (M := (mS (pS (pS (pS M (3 * nB s) (nI (xx % nA s))) (3 * nB s + 1) (nI (1 + xx / 6 / 3 % 75))) (3 * nB s + 2) (nI (1 + xx / 6 / 225 % 75))) 1 (nI (nB s + 1)))) (j := 1) hW dL_isSewn_367 rfl (by decide) (x := nI (nB s + 1)) (mS_at _ _ _) ?_
      refine v_iconst (pc := 368) (v := 1) dL_isSewn_368 (by decide) ?_
      refine v_isub (pc := 369) dL_isSewn_369 ?_
      refine v_i2l (pc := 370) dL_isSewn_370 ?_
      refine v_lcmp (pc := 371) dL_isSewn_371 ?_
      refine v_if_ne (pc := 372) (tgt := 395) dL_isSewn_372 (by decide) (fun c372 => absurd c372 (d_ne (by rw [nI_pred]))) (fun c372 => ?_)
      refine v_aload_n (pc := 375) dL_isSewn_375 rfl rfl ?_
      refine v_iconst (pc := 376) (v := 4) dL_isSewn_376 (by decide) ?_
      refine v_iload (pc := 377) dL_isSewn_377 rfl ?_
      refine v_iconst (pc := 379) (v := 0) dL_isSewn_379 (by decide) ?_
      refine v_iconst (pc := 380) (v := 0) dL_isSewn_380 (by decide) ?_
      refine v_iconst (pc := 381) (v := 0) dL_isSewn_381 (by decide) ?_
      refine vqL (pc := 382) (u := 0 + 1 + 1) (j := 1) (U := 100) (As := [.ref (X.1 0 0), .int _, .int _, .int _, .int _, .int _]) hNC dL_isSewn_382 ll_act.1 ll_act.2.1 wl_act ll_act.2.2.2 ll_act.2.2.1 (sw_roll _ 0 0 0 hW hL2.1 (by omega) (by unfold kRoll; rw [eA2]; exact if_pos (btw_n hlt (by omega)))) rfl rfl (Nat.le_of_ble_eq_true rfl) ⟨Nat.le_of_ble_eq_true rfl, Nat.le_of_ble_eq_true rfl⟩ ⟨by decide, by decide⟩ ⟨rfl, rfl⟩ (by omega) (fun v G hp => ?_)
      obtain ⟨s2, s', e2, rfl, hW', rfl⟩ := hp
      have hW := hW'.eq e2
      rw [nat_nI (show xx % nA s < 2147483648 by omega), e2.1 39 (by decide) (by decide), e2.1 41 (by decide) (by decide)]
      refine v_lload (pc := 385) dL_isSewn_385 rfl ?_
      refine v_lcmp (pc := 387) dL_isSewn_387 ?_
      refine v_if_lt (pc := 388) (tgt := 395) dL_isSewn_388 (by decide) (fun c388 => absurd c388 (d_lt (w_le (by rw [Int32.le_iff_toInt_le]; exact hup)))) (fun c388 => ?_)
      refine v_iconst (pc := 391) (v := 1) dL_isSewn_391 (by decide) ?_
      refine v_goto (pc := 392) (tgt := 396) dL_isSewn_392 (by decide) ?_
      refine vq_zret (pc := 396) (U := 100) hR dL_isSewn_396 rfl ⟨rfl, rfl⟩ (by omega) ?_
      exact ⟨rfl, X, _, (mS (pS (pS (pS M (3 * nB s) (nI (xx % nA s))) (3 * nB s + 1) (nI (1 + xx / 6 / 3 % 75))) (3 * nB s + 2) (nI (1 + xx / 6 / 225 % 75))) 1 (nI (nB s + 1))), h0x, rfl, hW, hL2, hA0⟩
    · refine v_lload (pc := 352) dL_isSewn_352 rfl ?_
      refine v_lconst (pc := 354) (v := 0) dL_isSewn_354 (by decide) ?_
      refine v_lcmp (pc := 355) dL_isSewn_355 ?_
      refine v_if_ge (pc := 356) (tgt := 365) dL_isSewn_356 (by decide) (fun c356 => ?_) (fun c356 => absurd c356 (not_not_intro (cmp_ge0.mpr (w_ge0 (nI_ps (by omega))))))
      refine v_aload_n (pc := 365) dL_isSewn_365 rfl rfl ?_
      refine v_iconst (pc := 366) (v := 1) dL_isSewn_366 (by decide) ?_
      refine vw_m (pc := 367) (M := (mS (pS (pS (pS M (3 * nB s) (nI (xx % nA s))) (3 * nB s + 1) (nI (1 + xx / 6 / 3 % 75))) (3 * nB s + 2) (nI (1 + xx / 6 / 225 % 75))) 1 (nI (nB s + 1)))) (j := 1) hW dL_isSewn_367 rfl (by decide) (x := nI (nB s + 1)) (mS_at _ _ _) ?_
      refine v_iconst (pc := 368) (v := 1) dL_isSewn_368 (by decide) ?_
      refine v_isub (pc := 369) dL_isSewn_369 ?_
      refine v_i2l (pc := 370) dL_isSewn_370 ?_
      refine v_lcmp (pc := 371) dL_isSewn_371 ?_
      refine v_if_ne (pc := 372) (tgt := 395) dL_isSewn_372 (by decide) (fun c372 => absurd c372 (d_ne (by rw [nI_pred]))) (fun c372 => ?_)
      refine v_aload_n (pc := 375) dL_isSewn_375 rfl rfl ?_
      refine v_iconst (pc := 376) (v := 4) dL_isSewn_376 (by decide) ?_
      refine v_iload (pc := 377) dL_isSewn_377 rfl ?_
      refine v_iconst (pc := 379) (v := 0) dL_isSewn_379 (by decide) ?_
      refine v_iconst (pc := 380) (v := 0) dL_isSewn_380 (by decide) ?_
      refine v_iconst (pc := 381) (v := 0) dL_isSewn_381 (by decide) ?_
      refine vqL (pc := 382) (u := 0 + 1 + 1) (j := 1) (U := 100) (As := [.ref (X.1 0 0), .int _, .int _, .int _, .int _, .int _]) hNC dL_isSewn_382 ll_act.1 ll_act.2.1 wl_act ll_act.2.2.2 ll_act.2.2.1 (sw_roll _ 0 0 0 hW hL2.1 (by omega) (by unfold kRoll; rw [eA2]; exact if_pos (btw_n hlt (by omega)))) rfl rfl (Nat.le_of_ble_eq_true rfl) ⟨Nat.le_of_ble_eq_true rfl, Nat.le_of_ble_eq_true rfl⟩ ⟨by decide, by decide⟩ ⟨rfl, rfl⟩ (by omega) (fun v G hp => ?_)
      obtain ⟨s2, s', e2, rfl, hW', rfl⟩ := hp
      have hW := hW'.eq e2
      rw [nat_nI (show xx % nA s < 2147483648 by omega), e2.1 39 (by decide) (by decide), e2.1 41 (by decide) (by decide)]
      refine v_lload (pc := 385) dL_isSewn_385 rfl ?_
      refine v_lcmp (pc := 387) dL_isSewn_387 ?_
      refine v_if_lt (pc := 388) (tgt := 395) dL_isSewn_388 (by decide) (fun c388 => absurd c388 (d_lt (w_le (by rw [Int32.le_iff_toInt_le]; exact hup)))) (fun c388 => ?_)
      refine v_iconst (pc := 391) (v := 1) dL_isSewn_391 (by decide) ?_
      refine v_goto (pc := 392) (tgt := 396) dL_isSewn_392 (by decide) ?_
      refine vq_zret (pc := 396) (U := 100) hR dL_isSewn_396 rfl ⟨rfl, rfl⟩ (by omega) ?_
      exact ⟨rfl, X, _, (mS (pS (pS (pS M (3 * nB s) (nI (xx % nA s))) (3 * nB s + 1) (nI (1 + xx / 6 / 3 % 75))) (3 * nB s + 2) (nI (1 + xx / 6 / 225 % 75))) 1 (nI (nB s + 1))), h0x, rfl, hW, hL2, hA0⟩
set_option maxRecDepth 100000 in
set_option maxHeartbeats 4000000 in
theorem e_seam {D : DT} {K : KT} {X : XT} {s : SG} {M : MT} {t how xx sz : Nat} {G0 : GT} (hR : Rt rm_isSewn D K (some .boolean) yL_isSewn.name sz G0 (LSq X M (t + 1))) (hNC : NC3 K.2.2.2.1) (hxx : xx < 2147483648) (hhow : how < 100) (hL : LI X s M t) (ht : t < 200) (hA : 0 < nA s) (h2B : 2 ≤ nB s) (G : GT) (hW : WD X s M G) : V cL_isSewn yL_isSewn.cls 19 rm_isSewn D K 443 [some (.ref (X.1 0 0)), some (.ref M.1.1), some (.ref M.1.2.1), some (.int (nI how)), some (.int (nI xx)), some (.int (nI (xx % nA s))), some (.int (nI (xx / 6))), some (.int (nI (xx / 6 % nB s))), some (.int (nI ((xx / 6 % nB s + 1 + xx / 6 / 12 % (nB s - 1)) % nB s))), some (.long (finL s (nB s) (nS s) (xx / 6 % nB s) ((xx / 6 % nB s + 1 + xx / 6 / 12 % (nB s - 1)) % nB s))), none, none, none, none, none, none, none, none, none] [] G (nu 1) := by
  have hI := hL.1
  have hM := hL.2.2.2.2.2.1
  have hq : 2 * t < 512 := by omega
  obtain ⟨b1, b2, b3, b4, b5, n1, n2, n3, n4, n5⟩ := hI.six hq
  obtain ⟨i1, i2, i3, i4, i5, i6, i7, i8, i9⟩ := INV.num (by omega) hI
  have g := inv_gok i1 i2 i3
  have hA0 : ¬ M.2.1 0 = 0 := by rw [hM.1, n1]; exact nI_ne0 hA (by omega)
  have hA' : xx / 6 % nB s < nB s := Nat.mod_lt _ (by omega)
  obtain ⟨hB', hAB⟩ := mod_ne (a := xx / 6 % nB s) (r := xx / 6 / 12 % (nB s - 1)) (n := nB s) hA' (by have := Nat.mod_lt (xx / 6 / 12) (show 0 < nB s - 1 by omega); omega)
  have hke : ¬ nI (xx / 6 % nB s) = nI ((xx / 6 % nB s + 1 + xx / 6 / 12 % (nB s - 1)) % nB s) := fun z => hAB ((nI_eq (by omega) (by omega)).mp z)
  have hcd : (btw (nI (xx / 6 % nB s)) 0 (nI (nB s) - 1) ∧ btw (nI ((xx / 6 % nB s + 1 + xx / 6 / 12 % (nB s - 1)) % nB s)) 0 (nI (nB s) - 1)) := ⟨btw_n hA' (by omega), btw_n hB' (by omega)⟩
  have hkd : nI (xx / 6 % nB s) ≠ nI ((xx / 6 % nB s + 1 + xx / 6 / 12 % (nB s - 1)) % nB s) ∧ btw (nI (xx / 6 / 144 % 3)) 0 2 := ⟨hke, bt_n (a := 0) (b := 2) (by omega) (by decide)⟩
  by_cases h30 : nS s = 30
  · refine v_iload (pc := 443) dL_isSewn_443 rfl ?_
    refine v_sipush (pc := 445) (v := 144) dL_isSewn_445 (by decide) ?_
    refine v_ndiv (pc := 448) (xx / 6) 144 dL_isSewn_448 (by omega) (by decide) rfl rfl ?_
    refine v_iconst (pc := 449) (v := 3) dL_isSewn_449 (by decide) ?_
    refine v_nrem (pc := 450) (xx / 6 / 144) (3) dL_isSewn_450 (by omega) (by decide) rfl rfl ?_
    refine v_istore (pc := 451) dL_isSewn_451 rfl (by decide) ?_
    refine v_aload_n (pc := 453) dL_isSewn_453 rfl rfl ?_
    refine v_iconst (pc := 454) (v := 5) dL_isSewn_454 (by decide) ?_
    refine v_iload (pc := 455) dL_isSewn_455 rfl ?_
    refine v_iload (pc := 457) dL_isSewn_457 rfl ?_
    refine v_iload (pc := 459) dL_isSewn_459 rfl ?_
    refine v_iconst (pc := 461) (v := 0) dL_isSewn_461 (by decide) ?_
    refine vqL (pc := 462) (u := 1) (j := 1) (U := 100) (As := [.ref (X.1 0 0), .int _, .int _, .int _, .int _, .int _]) hNC dL_isSewn_462 ll_act.1 ll_act.2.1 wl_act ll_act.2.2.2 ll_act.2.2.1 (xIS_seam _ _ _ 0 hW hI hq (by unfold kSeam; rw [if_pos hcd, if_pos hkd, if_pos h30])) rfl rfl (Nat.le_of_ble_eq_true rfl) ⟨Nat.le_of_ble_eq_true rfl, Nat.le_of_ble_eq_true rfl⟩ ⟨by decide, by decide⟩ ⟨rfl, rfl⟩ (by omega) (fun v G hp => ?_)
    obtain ⟨rfl, hW⟩ := hp
    refine v_lstore (pc := 465) dL_isSewn_465 rfl (by decide) ?_
    refine v_lload (pc := 467) dL_isSewn_467 rfl ?_
    refine v_aload_n (pc := 469) dL_isSewn_469 rfl rfl ?_
    refine v_iconst (pc := 470) (v := 2) dL_isSewn_470 (by decide) ?_
    refine vw_m (pc := 471) (j := 2) hW dL_isSewn_471 rfl (by decide) (x := nI (nS s)) (hM.2.2.1.trans n5) ?_
    refine v_bipush (pc := 472) (v := 30) dL_isSewn_472 (by decide) ?_
    refine v_icmp_ne (pc := 474) (tgt := 483) dL_isSewn_474 (by decide) (fun c474 => absurd c474 (fun z => z (by rw [h30]; rfl))) (fun c474 => ?_)
    refine v_ldcL (pc := 477) dL_isSewn_477 k_L_113 ?_
    refine v_goto (pc := 480) (tgt := 487) dL_isSewn_480 (by decide) ?_
    refine v_lcmp (pc := 487) dL_isSewn_487 ?_
    refine v_if_ne (pc := 488) (tgt := 495) dL_isSewn_488 (by decide) (fun c488 => absurd c488 (d_ne rfl)) (fun c488 => ?_)
    refine v_iconst (pc := 491) (v := 1) dL_isSewn_491 (by decide) ?_
    refine v_goto (pc := 492) (tgt := 496) dL_isSewn_492 (by decide) ?_
    refine v_istore (pc := 496) dL_isSewn_496 rfl (by decide) ?_
    refine v_aload_n (pc := 498) dL_isSewn_498 rfl rfl ?_
    refine v_iconst (pc := 499) (v := 2) dL_isSewn_499 (by decide) ?_
    refine v_dup2 (pc := 500) dL_isSewn_500 rfl rfl ?_
    refine vw_m (pc := 501) (j := 2) hW dL_isSewn_501 rfl (by decide) (x := nI (nS s)) (hM.2.2.1.trans n5) ?_
    refine v_lload (pc := 502) dL_isSewn_502 rfl ?_
    refine v_lconst (pc := 504) (v := 0) dL_isSewn_504 (by decide) ?_
    refine v_lcmp (pc := 505) dL_isSewn_505 ?_
    refine v_if_lt (pc := 506) (tgt := 513) dL_isSewn_506 (by decide) (fun c506 => ?_) (fun c506 => absurd c506 (by decide))
    refine v_iconst (pc := 513) (v := 0) dL_isSewn_513 (by decide) ?_
    refine v_iadd (pc := 514) dL_isSewn_514 ?_
    refine vw_mS (pc := 515) (j := 2) hW dL_isSewn_515 rfl (by decide) (fun G hW => ?_)
    have hW : WD X s M G := by
      have hm : mS M 2 (nI (nS s) + 0) = M := mS_self ((hM.2.2.1.trans n5).trans (Int32.add_zero _).symm)
      rw [hm] at hW
      exact hW
    refine v_aload_n (pc := 516) dL_isSewn_516 rfl rfl ?_
    refine v_iload (pc := 517) dL_isSewn_517 rfl ?_
    refine vqV (pc := 519) (u := 1 + 1) (j := 1) (U := 100) (As := [.int _]) hW dL_isSewn_519 cw_L_23 im_yX8_strength se_yX8_strength rfl (q_strength _ hW hI hq (by unfold kPl; exact if_pos (btw_n hA' (by omega)))) rfl rfl (Nat.le_of_ble_eq_true rfl) ⟨Nat.le_of_ble_eq_true rfl, Nat.le_of_ble_eq_true rfl⟩ ⟨by decide, by decide⟩ ⟨rfl, rfl⟩ (by omega) (fun v G hp => ?_)
    obtain ⟨rfl, hW⟩ := hp
    rw [nat_nI (show xx / 6 % nB s < 2147483648 by omega)]
    refine v_aload_n (pc := 522) dL_isSewn_522 rfl rfl ?_
    refine v_iload (pc := 523) dL_isSewn_523 rfl ?_
    refine vqV (pc := 525) (u := 1 + 1 + 1) (j := 1) (U := 100) (As := [.int _]) hW dL_isSewn_525 cw_L_23 im_yX8_strength se_yX8_strength rfl (q_strength _ hW hI hq (by unfold kPl; exact if_pos (btw_n hB' (by omega)))) rfl rfl (Nat.le_of_ble_eq_true rfl) ⟨Nat.le_of_ble_eq_true rfl, Nat.le_of_ble_eq_true rfl⟩ ⟨by decide, by decide⟩ ⟨rfl, rfl⟩ (by omega) (fun v G hp => ?_)
    obtain ⟨rfl, hW⟩ := hp
    rw [nat_nI (show (xx / 6 % nB s + 1 + xx / 6 / 12 % (nB s - 1)) % nB s < 2147483648 by omega)]
    refine v_lcmp (pc := 528) dL_isSewn_528 ?_
    refine v_if_ge (pc := 529) (tgt := 541) dL_isSewn_529 (by decide) (fun c529 => ?_) (fun c529 => ?_)
    · refine v_aload_n (pc := 541) dL_isSewn_541 rfl rfl ?_
      refine v_iload (pc := 542) dL_isSewn_542 rfl ?_
      refine vqV (pc := 544) (u := 1 + 1 + 1 + 1) (j := 1) (U := 100) (As := [.int _]) hW dL_isSewn_544 cw_L_23 im_yX8_strength se_yX8_strength rfl (q_strength _ hW hI hq (by unfold kPl; exact if_pos (btw_n hB' (by omega)))) rfl rfl (Nat.le_of_ble_eq_true rfl) ⟨Nat.le_of_ble_eq_true rfl, Nat.le_of_ble_eq_true rfl⟩ ⟨by decide, by decide⟩ ⟨rfl, rfl⟩ (by omega) (fun v G hp => ?_)
      obtain ⟨rfl, hW⟩ := hp
      rw [nat_nI (show (xx / 6 % nB s + 1 + xx / 6 / 12 % (nB s - 1)) % nB s < 2147483648 by omega)]
      refine v_lstore (pc := 547) dL_isSewn_547 rfl (by decide) ?_
      refine v_lload (pc := 549) dL_isSewn_549 rfl ?_
      refine v_iload (pc := 551) dL_isSewn_551 rfl ?_
      refine v_if_ne (pc := 553) (tgt := 562) dL_isSewn_553 (by decide) (fun c553 => ?_) (fun c553 => ?_)
      · refine v_iload (pc := 562) dL_isSewn_562 rfl ?_
        refine v_iconst (pc := 564) (v := 1) dL_isSewn_564 (by decide) ?_
        refine v_icmp_ne (pc := 565) (tgt := 574) dL_isSewn_565 (by decide) (fun c565 => ?_) (fun c565 => ?_)
        · refine v_ldcL (pc := 574) dL_isSewn_574 k_L_172 ?_
          refine v_lmul (pc := 577) dL_isSewn_577 ?_
          refine v_ldcL (pc := 578) dL_isSewn_578 k_L_174 ?_
          refine v_ldiv (pc := 581) dL_isSewn_581 (by decide) ?_
          refine v_lstore (pc := 582) dL_isSewn_582 rfl (by decide) ?_
          refine v_iload (pc := 584) dL_isSewn_584 rfl ?_
          refine v_if_eq (pc := 586) (tgt := 644) dL_isSewn_586 (by decide) (fun c586 => absurd c586 (by decide)) (fun c586 => ?_)
          refine v_lload (pc := 589) dL_isSewn_589 rfl ?_
          refine v_lconst (pc := 591) (v := 0) dL_isSewn_591 (by decide) ?_
          refine v_lcmp (pc := 592) dL_isSewn_592 ?_
          refine v_if_ge (pc := 593) (tgt := 613) dL_isSewn_593 (by decide) (fun c593 => absurd c593 (by decide)) (fun c593 => ?_)
          refine v_aload_n (pc := 596) dL_isSewn_596 rfl rfl ?_
          refine v_iload (pc := 597) dL_isSewn_597 rfl ?_
          refine v_iload (pc := 599) dL_isSewn_599 rfl ?_
          refine vqV (pc := 601) (u := 1 + 1 + 1 + 1 + 1) (j := 1) (U := 100) (As := [.int _, .int _]) hW dL_isSewn_601 cw_L_37 im_yX8_bears se_yX8_bears rfl (q_bears _ _ hW hI hq (by unfold kBe; exact if_pos ⟨btw_n hA' (by omega), btw_n hB' (by omega)⟩)) rfl rfl (Nat.le_of_ble_eq_true rfl) ⟨Nat.le_of_ble_eq_true rfl, Nat.le_of_ble_eq_true rfl⟩ ⟨by decide, by decide⟩ ⟨rfl, rfl⟩ (by omega) (fun v G hp => ?_)
          obtain ⟨rfl, hW⟩ := hp
          rw [nat_nI (show xx / 6 % nB s < 2147483648 by omega), nat_nI (show (xx / 6 % nB s + 1 + xx / 6 / 12 % (nB s - 1)) % nB s < 2147483648 by omega)]
          refine v_lload (pc := 604) dL_isSewn_604 rfl ?_
          refine v_lcmp (pc := 606) dL_isSewn_606 ?_
          refine v_if_ne (pc := 607) (tgt := 644) dL_isSewn_607 (by decide) (fun c607 => absurd c607 (d_ne rfl)) (fun c607 => ?_)
          refine v_goto (pc := 610) (tgt := 640) dL_isSewn_610 (by decide) ?_
          refine v_iconst (pc := 640) (v := 1) dL_isSewn_640 (by decide) ?_
          refine v_goto (pc := 641) (tgt := 645) dL_isSewn_641 (by decide) ?_
          refine vq_zret (pc := 645) (U := 100) hR dL_isSewn_645 rfl ⟨rfl, rfl⟩ (by omega) ?_
          exact ⟨rfl, X, s, M, rfl, rfl, hW, hL.up (EQ.rf s) rfl rfl, hA0⟩
        · refine v_ldcL (pc := 568) dL_isSewn_568 k_L_170 ?_
          refine v_goto (pc := 571) (tgt := 577) dL_isSewn_571 (by decide) ?_
          refine v_lmul (pc := 577) dL_isSewn_577 ?_
          refine v_ldcL (pc := 578) dL_isSewn_578 k_L_174 ?_
          refine v_ldiv (pc := 581) dL_isSewn_581 (by decide) ?_
          refine v_lstore (pc := 582) dL_isSewn_582 rfl (by decide) ?_
          refine v_iload (pc := 584) dL_isSewn_584 rfl ?_
          refine v_if_eq (pc := 586) (tgt := 644) dL_isSewn_586 (by decide) (fun c586 => absurd c586 (by decide)) (fun c586 => ?_)
          refine v_lload (pc := 589) dL_isSewn_589 rfl ?_
          refine v_lconst (pc := 591) (v := 0) dL_isSewn_591 (by decide) ?_
          refine v_lcmp (pc := 592) dL_isSewn_592 ?_
          refine v_if_ge (pc := 593) (tgt := 613) dL_isSewn_593 (by decide) (fun c593 => absurd c593 (by decide)) (fun c593 => ?_)
          refine v_aload_n (pc := 596) dL_isSewn_596 rfl rfl ?_
          refine v_iload (pc := 597) dL_isSewn_597 rfl ?_
          refine v_iload (pc := 599) dL_isSewn_599 rfl ?_
          refine vqV (pc := 601) (u := 1 + 1 + 1 + 1 + 1) (j := 1) (U := 100) (As := [.int _, .int _]) hW dL_isSewn_601 cw_L_37 im_yX8_bears se_yX8_bears rfl (q_bears _ _ hW hI hq (by unfold kBe; exact if_pos ⟨btw_n hA' (by omega), btw_n hB' (by omega)⟩)) rfl rfl (Nat.le_of_ble_eq_true rfl) ⟨Nat.le_of_ble_eq_true rfl, Nat.le_of_ble_eq_true rfl⟩ ⟨by decide, by decide⟩ ⟨rfl, rfl⟩ (by omega) (fun v G hp => ?_)
          obtain ⟨rfl, hW⟩ := hp
          rw [nat_nI (show xx / 6 % nB s < 2147483648 by omega), nat_nI (show (xx / 6 % nB s + 1 + xx / 6 / 12 % (nB s - 1)) % nB s < 2147483648 by omega)]
          refine v_lload (pc := 604) dL_isSewn_604 rfl ?_
          refine v_lcmp (pc := 606) dL_isSewn_606 ?_
          refine v_if_ne (pc := 607) (tgt := 644) dL_isSewn_607 (by decide) (fun c607 => absurd c607 (d_ne rfl)) (fun c607 => ?_)
          refine v_goto (pc := 610) (tgt := 640) dL_isSewn_610 (by decide) ?_
          refine v_iconst (pc := 640) (v := 1) dL_isSewn_640 (by decide) ?_
          refine v_goto (pc := 641) (tgt := 645) dL_isSewn_641 (by decide) ?_
          refine vq_zret (pc := 645) (U := 100) hR dL_isSewn_645 rfl ⟨rfl, rfl⟩ (by omega) ?_
          exact ⟨rfl, X, s, M, rfl, rfl, hW, hL.up (EQ.rf s) rfl rfl, hA0⟩
      · refine v_ldcL (pc := 556) dL_isSewn_556 k_L_168 ?_
        refine v_goto (pc := 559) (tgt := 577) dL_isSewn_559 (by decide) ?_
        refine v_lmul (pc := 577) dL_isSewn_577 ?_
        refine v_ldcL (pc := 578) dL_isSewn_578 k_L_174 ?_
        refine v_ldiv (pc := 581) dL_isSewn_581 (by decide) ?_
        refine v_lstore (pc := 582) dL_isSewn_582 rfl (by decide) ?_
        refine v_iload (pc := 584) dL_isSewn_584 rfl ?_
        refine v_if_eq (pc := 586) (tgt := 644) dL_isSewn_586 (by decide) (fun c586 => absurd c586 (by decide)) (fun c586 => ?_)
        refine v_lload (pc := 589) dL_isSewn_589 rfl ?_
        refine v_lconst (pc := 591) (v := 0) dL_isSewn_591 (by decide) ?_
        refine v_lcmp (pc := 592) dL_isSewn_592 ?_
        refine v_if_ge (pc := 593) (tgt := 613) dL_isSewn_593 (by decide) (fun c593 => absurd c593 (by decide)) (fun c593 => ?_)
        refine v_aload_n (pc := 596) dL_isSewn_596 rfl rfl ?_
        refine v_iload (pc := 597) dL_isSewn_597 rfl ?_
        refine v_iload (pc := 599) dL_isSewn_599 rfl ?_
        refine vqV (pc := 601) (u := 1 + 1 + 1 + 1 + 1) (j := 1) (U := 100) (As := [.int _, .int _]) hW dL_isSewn_601 cw_L_37 im_yX8_bears se_yX8_bears rfl (q_bears _ _ hW hI hq (by unfold kBe; exact if_pos ⟨btw_n hA' (by omega), btw_n hB' (by omega)⟩)) rfl rfl (Nat.le_of_ble_eq_true rfl) ⟨Nat.le_of_ble_eq_true rfl, Nat.le_of_ble_eq_true rfl⟩ ⟨by decide, by decide⟩ ⟨rfl, rfl⟩ (by omega) (fun v G hp => ?_)
        obtain ⟨rfl, hW⟩ := hp
        rw [nat_nI (show xx / 6 % nB s < 2147483648 by omega), nat_nI (show (xx / 6 % nB s + 1 + xx / 6 / 12 % (nB s - 1)) % nB s < 2147483648 by omega)]
        refine v_lload (pc := 604) dL_isSewn_604 rfl ?_
        refine v_lcmp (pc := 606) dL_isSewn_606 ?_
        refine v_if_ne (pc := 607) (tgt := 644) dL_isSewn_607 (by decide) (fun c607 => absurd c607 (d_ne rfl)) (fun c607 => ?_)
        refine v_goto (pc := 610) (tgt := 640) dL_isSewn_610 (by decide) ?_
        refine v_iconst (pc := 640) (v := 1) dL_isSewn_640 (by decide) ?_
        refine v_goto (pc := 641) (tgt := 645) dL_isSewn_641 (by decide) ?_
        refine vq_zret (pc := 645) (U := 100) hR dL_isSewn_645 rfl ⟨rfl, rfl⟩ (by omega) ?_
        exact ⟨rfl, X, s, M, rfl, rfl, hW, hL.up (EQ.rf s) rfl rfl, hA0⟩
    · refine v_aload_n (pc := 532) dL_isSewn_532 rfl rfl ?_
      refine v_iload (pc := 533) dL_isSewn_533 rfl ?_
      refine vqV (pc := 535) (u := 1 + 1 + 1 + 1) (j := 1) (U := 100) (As := [.int _]) hW dL_isSewn_535 cw_L_23 im_yX8_strength se_yX8_strength rfl (q_strength _ hW hI hq (by unfold kPl; exact if_pos (btw_n hA' (by omega)))) rfl rfl (Nat.le_of_ble_eq_true rfl) ⟨Nat.le_of_ble_eq_true rfl, Nat.le_of_ble_eq_true rfl⟩ ⟨by decide, by decide⟩ ⟨rfl, rfl⟩ (by omega) (fun v G hp => ?_)
      obtain ⟨rfl, hW⟩ := hp
      rw [nat_nI (show xx / 6 % nB s < 2147483648 by omega)]
      refine v_goto (pc := 538) (tgt := 547) dL_isSewn_538 (by decide) ?_
      refine v_lstore (pc := 547) dL_isSewn_547 rfl (by decide) ?_
      refine v_lload (pc := 549) dL_isSewn_549 rfl ?_
      refine v_iload (pc := 551) dL_isSewn_551 rfl ?_
      refine v_if_ne (pc := 553) (tgt := 562) dL_isSewn_553 (by decide) (fun c553 => ?_) (fun c553 => ?_)
      · refine v_iload (pc := 562) dL_isSewn_562 rfl ?_
        refine v_iconst (pc := 564) (v := 1) dL_isSewn_564 (by decide) ?_
        refine v_icmp_ne (pc := 565) (tgt := 574) dL_isSewn_565 (by decide) (fun c565 => ?_) (fun c565 => ?_)
        · refine v_ldcL (pc := 574) dL_isSewn_574 k_L_172 ?_
          refine v_lmul (pc := 577) dL_isSewn_577 ?_
          refine v_ldcL (pc := 578) dL_isSewn_578 k_L_174 ?_
          refine v_ldiv (pc := 581) dL_isSewn_581 (by decide) ?_
          refine v_lstore (pc := 582) dL_isSewn_582 rfl (by decide) ?_
          refine v_iload (pc := 584) dL_isSewn_584 rfl ?_
          refine v_if_eq (pc := 586) (tgt := 644) dL_isSewn_586 (by decide) (fun c586 => absurd c586 (by decide)) (fun c586 => ?_)
          refine v_lload (pc := 589) dL_isSewn_589 rfl ?_
          refine v_lconst (pc := 591) (v := 0) dL_isSewn_591 (by decide) ?_
          refine v_lcmp (pc := 592) dL_isSewn_592 ?_
          refine v_if_ge (pc := 593) (tgt := 613) dL_isSewn_593 (by decide) (fun c593 => absurd c593 (by decide)) (fun c593 => ?_)
          refine v_aload_n (pc := 596) dL_isSewn_596 rfl rfl ?_
          refine v_iload (pc := 597) dL_isSewn_597 rfl ?_
          refine v_iload (pc := 599) dL_isSewn_599 rfl ?_
          refine vqV (pc := 601) (u := 1 + 1 + 1 + 1 + 1) (j := 1) (U := 100) (As := [.int _, .int _]) hW dL_isSewn_601 cw_L_37 im_yX8_bears se_yX8_bears rfl (q_bears _ _ hW hI hq (by unfold kBe; exact if_pos ⟨btw_n hA' (by omega), btw_n hB' (by omega)⟩)) rfl rfl (Nat.le_of_ble_eq_true rfl) ⟨Nat.le_of_ble_eq_true rfl, Nat.le_of_ble_eq_true rfl⟩ ⟨by decide, by decide⟩ ⟨rfl, rfl⟩ (by omega) (fun v G hp => ?_)
          obtain ⟨rfl, hW⟩ := hp
          rw [nat_nI (show xx / 6 % nB s < 2147483648 by omega), nat_nI (show (xx / 6 % nB s + 1 + xx / 6 / 12 % (nB s - 1)) % nB s < 2147483648 by omega)]
          refine v_lload (pc := 604) dL_isSewn_604 rfl ?_
          refine v_lcmp (pc := 606) dL_isSewn_606 ?_
          refine v_if_ne (pc := 607) (tgt := 644) dL_isSewn_607 (by decide) (fun c607 => absurd c607 (d_ne rfl)) (fun c607 => ?_)
          refine v_goto (pc := 610) (tgt := 640) dL_isSewn_610 (by decide) ?_
          refine v_iconst (pc := 640) (v := 1) dL_isSewn_640 (by decide) ?_
          refine v_goto (pc := 641) (tgt := 645) dL_isSewn_641 (by decide) ?_
          refine vq_zret (pc := 645) (U := 100) hR dL_isSewn_645 rfl ⟨rfl, rfl⟩ (by omega) ?_
          exact ⟨rfl, X, s, M, rfl, rfl, hW, hL.up (EQ.rf s) rfl rfl, hA0⟩
        · refine v_ldcL (pc := 568) dL_isSewn_568 k_L_170 ?_
          refine v_goto (pc := 571) (tgt := 577) dL_isSewn_571 (by decide) ?_
          refine v_lmul (pc := 577) dL_isSewn_577 ?_
          refine v_ldcL (pc := 578) dL_isSewn_578 k_L_174 ?_
          refine v_ldiv (pc := 581) dL_isSewn_581 (by decide) ?_
          refine v_lstore (pc := 582) dL_isSewn_582 rfl (by decide) ?_
          refine v_iload (pc := 584) dL_isSewn_584 rfl ?_
          refine v_if_eq (pc := 586) (tgt := 644) dL_isSewn_586 (by decide) (fun c586 => absurd c586 (by decide)) (fun c586 => ?_)
          refine v_lload (pc := 589) dL_isSewn_589 rfl ?_
          refine v_lconst (pc := 591) (v := 0) dL_isSewn_591 (by decide) ?_
          refine v_lcmp (pc := 592) dL_isSewn_592 ?_
          refine v_if_ge (pc := 593) (tgt := 613) dL_isSewn_593 (by decide) (fun c593 => absurd c593 (by decide)) (fun c593 => ?_)
          refine v_aload_n (pc := 596) dL_isSewn_596 rfl rfl ?_
          refine v_iload (pc := 597) dL_isSewn_597 rfl ?_
          refine v_iload (pc := 599) dL_isSewn_599 rfl ?_
          refine vqV (pc := 601) (u := 1 + 1 + 1 + 1 + 1) (j := 1) (U := 100) (As := [.int _, .int _]) hW dL_isSewn_601 cw_L_37 im_yX8_bears se_yX8_bears rfl (q_bears _ _ hW hI hq (by unfold kBe; exact if_pos ⟨btw_n hA' (by omega), btw_n hB' (by omega)⟩)) rfl rfl (Nat.le_of_ble_eq_true rfl) ⟨Nat.le_of_ble_eq_true rfl, Nat.le_of_ble_eq_true rfl⟩ ⟨by decide, by decide⟩ ⟨rfl, rfl⟩ (by omega) (fun v G hp => ?_)
          obtain ⟨rfl, hW⟩ := hp
          rw [nat_nI (show xx / 6 % nB s < 2147483648 by omega), nat_nI (show (xx / 6 % nB s + 1 + xx / 6 / 12 % (nB s - 1)) % nB s < 2147483648 by omega)]
          refine v_lload (pc := 604) dL_isSewn_604 rfl ?_
          refine v_lcmp (pc := 606) dL_isSewn_606 ?_
          refine v_if_ne (pc := 607) (tgt := 644) dL_isSewn_607 (by decide) (fun c607 => absurd c607 (d_ne rfl)) (fun c607 => ?_)
          refine v_goto (pc := 610) (tgt := 640) dL_isSewn_610 (by decide) ?_
          refine v_iconst (pc := 640) (v := 1) dL_isSewn_640 (by decide) ?_
          refine v_goto (pc := 641) (tgt := 645) dL_isSewn_641 (by decide) ?_
          refine vq_zret (pc := 645) (U := 100) hR dL_isSewn_645 rfl ⟨rfl, rfl⟩ (by omega) ?_
          exact ⟨rfl, X, s, M, rfl, rfl, hW, hL.up (EQ.rf s) rfl rfl, hA0⟩
      · refine v_ldcL (pc := 556) dL_isSewn_556 k_L_168 ?_
        refine v_goto (pc := 559) (tgt := 577) dL_isSewn_559 (by decide) ?_
        refine v_lmul (pc := 577) dL_isSewn_577 ?_
        refine v_ldcL (pc := 578) dL_isSewn_578 k_L_174 ?_
        refine v_ldiv (pc := 581) dL_isSewn_581 (by decide) ?_
        refine v_lstore (pc := 582) dL_isSewn_582 rfl (by decide) ?_
        refine v_iload (pc := 584) dL_isSewn_584 rfl ?_
        refine v_if_eq (pc := 586) (tgt := 644) dL_isSewn_586 (by decide) (fun c586 => absurd c586 (by decide)) (fun c586 => ?_)
        refine v_lload (pc := 589) dL_isSewn_589 rfl ?_
        refine v_lconst (pc := 591) (v := 0) dL_isSewn_591 (by decide) ?_
        refine v_lcmp (pc := 592) dL_isSewn_592 ?_
        refine v_if_ge (pc := 593) (tgt := 613) dL_isSewn_593 (by decide) (fun c593 => absurd c593 (by decide)) (fun c593 => ?_)
        refine v_aload_n (pc := 596) dL_isSewn_596 rfl rfl ?_
        refine v_iload (pc := 597) dL_isSewn_597 rfl ?_
        refine v_iload (pc := 599) dL_isSewn_599 rfl ?_
        refine vqV (pc := 601) (u := 1 + 1 + 1 + 1 + 1) (j := 1) (U := 100) (As := [.int _, .int _]) hW dL_isSewn_601 cw_L_37 im_yX8_bears se_yX8_bears rfl (q_bears _ _ hW hI hq (by unfold kBe; exact if_pos ⟨btw_n hA' (by omega), btw_n hB' (by omega)⟩)) rfl rfl (Nat.le_of_ble_eq_true rfl) ⟨Nat.le_of_ble_eq_true rfl, Nat.le_of_ble_eq_true rfl⟩ ⟨by decide, by decide⟩ ⟨rfl, rfl⟩ (by omega) (fun v G hp => ?_)
        obtain ⟨rfl, hW⟩ := hp
        rw [nat_nI (show xx / 6 % nB s < 2147483648 by omega), nat_nI (show (xx / 6 % nB s + 1 + xx / 6 / 12 % (nB s - 1)) % nB s < 2147483648 by omega)]
        refine v_lload (pc := 604) dL_isSewn_604 rfl ?_
        refine v_lcmp (pc := 606) dL_isSewn_606 ?_
        refine v_if_ne (pc := 607) (tgt := 644) dL_isSewn_607 (by decide) (fun c607 => absurd c607 (d_ne rfl)) (fun c607 => ?_)
        refine v_goto (pc := 610) (tgt := 640) dL_isSewn_610 (by decide) ?_
        refine v_iconst (pc := 640) (v := 1) dL_isSewn_640 (by decide) ?_
        refine v_goto (pc := 641) (tgt := 645) dL_isSewn_641 (by decide) ?_
        refine vq_zret (pc := 645) (U := 100) hR dL_isSewn_645 rfl ⟨rfl, rfl⟩ (by omega) ?_
        exact ⟨rfl, X, s, M, rfl, rfl, hW, hL.up (EQ.rf s) rfl rfl, hA0⟩
  · have hk : kSeam (nB s) (nS s) (nI (xx / 6 % nB s)) (nI ((xx / 6 % nB s + 1 + xx / 6 / 12 % (nB s - 1)) % nB s)) (nI (xx / 6 / 144 % 3)) = 0 := by unfold kSeam; rw [if_pos hcd, if_pos hkd, if_neg h30]
    refine v_iload (pc := 443) dL_isSewn_443 rfl ?_
    refine v_sipush (pc := 445) (v := 144) dL_isSewn_445 (by decide) ?_
    refine v_ndiv (pc := 448) (xx / 6) 144 dL_isSewn_448 (by omega) (by decide) rfl rfl ?_
    refine v_iconst (pc := 449) (v := 3) dL_isSewn_449 (by decide) ?_
    refine v_nrem (pc := 450) (xx / 6 / 144) (3) dL_isSewn_450 (by omega) (by decide) rfl rfl ?_
    refine v_istore (pc := 451) dL_isSewn_451 rfl (by decide) ?_
    refine v_aload_n (pc := 453) dL_isSewn_453 rfl rfl ?_
    refine v_iconst (pc := 454) (v := 5) dL_isSewn_454 (by decide) ?_
    refine v_iload (pc := 455) dL_isSewn_455 rfl ?_
    refine v_iload (pc := 457) dL_isSewn_457 rfl ?_
    refine v_iload (pc := 459) dL_isSewn_459 rfl ?_
    refine v_iconst (pc := 461) (v := 0) dL_isSewn_461 (by decide) ?_
    refine vqL (pc := 462) (u := 1) (j := 1) (U := 100) (As := [.ref (X.1 0 0), .int _, .int _, .int _, .int _, .int _]) hNC dL_isSewn_462 ll_act.1 ll_act.2.1 wl_act ll_act.2.2.2 ll_act.2.2.1 (sw_seam _ _ _ 0 hW hI hq hk) rfl rfl (Nat.le_of_ble_eq_true rfl) ⟨Nat.le_of_ble_eq_true rfl, Nat.le_of_ble_eq_true rfl⟩ ⟨by decide, by decide⟩ ⟨rfl, rfl⟩ (by omega) (fun v G hp => ?_)
    obtain ⟨s1, X, s', e, rfl, hW, h0x, rfl, x1, x2⟩ := hp
    rw [← h0x]
    have hL1 := hL.eq e G
    have eg : nS s1 = nS s := e.nS
    have hL2 := hL1.seam (X1 := X) ht (by rw [eg, e.nB]; exact hk) x1 x2
    rw [eg] at hW hL2 ⊢
    have eB2 : nB (gSeam s1 (nS s) (nI (xx / 6 % nB s)) (nI ((xx / 6 % nB s + 1 + xx / 6 / 12 % (nB s - 1)) % nB s)) (nI (xx / 6 / 144 % 3))) = nB s := by
      have h0 : (gSeam s1 (nS s) (nI (xx / 6 % nB s)) (nI ((xx / 6 % nB s + 1 + xx / 6 / 12 % (nB s - 1)) % nB s)) (nI (xx / 6 / 144 % 3))).1 4 = s1.1 4 := by unfold gSeam; rw [sI_r _ _ _ (by decide), sI_r _ _ _ (by decide), sI_r _ _ _ (by decide), sI_r _ _ _ (by decide)]
      show nat ((gSeam s1 (nS s) (nI (xx / 6 % nB s)) (nI ((xx / 6 % nB s + 1 + xx / 6 / 12 % (nB s - 1)) % nB s)) (nI (xx / 6 / 144 % 3))).1 4 0) = _
      rw [h0]; exact e.nB
    have eS2 : nS (gSeam s1 (nS s) (nI (xx / 6 % nB s)) (nI ((xx / 6 % nB s + 1 + xx / 6 / 12 % (nB s - 1)) % nB s)) (nI (xx / 6 / 144 % 3))) = nS s + 1 := by
      show nat ((gSeam s1 (nS s) (nI (xx / 6 % nB s)) (nI ((xx / 6 % nB s + 1 + xx / 6 / 12 % (nB s - 1)) % nB s)) (nI (xx / 6 / 144 % 3))).1 9 0) = _
      rw [show (gSeam s1 (nS s) (nI (xx / 6 % nB s)) (nI ((xx / 6 % nB s + 1 + xx / 6 / 12 % (nB s - 1)) % nB s)) (nI (xx / 6 / 144 % 3))).1 9 0 = nI (nS s + 1) from sI_at _ _ _ _]; exact nat_nI (by omega)
    obtain ⟨j1, j2, j3, -⟩ := INV.num (by omega) hL2.1
    have g2 := inv_gok j1 j2 j3
    rw [eB2, eS2] at g2
    have hfin := sewn_ok e g g2 hA' hB' (i3.2.2.2.1 _ (Nat.le_refl _)).2
    refine v_lstore (pc := 465) dL_isSewn_465 rfl (by decide) ?_
    refine v_lload (pc := 467) dL_isSewn_467 rfl ?_
    refine v_aload_n (pc := 469) dL_isSewn_469 rfl rfl ?_
    refine v_iconst (pc := 470) (v := 2) dL_isSewn_470 (by decide) ?_
    refine vw_m (pc := 471) (j := 2) hW dL_isSewn_471 rfl (by decide) (x := nI (nS s)) (hM.2.2.1.trans n5) ?_
    refine v_bipush (pc := 472) (v := 30) dL_isSewn_472 (by decide) ?_
    refine v_icmp_ne (pc := 474) (tgt := 483) dL_isSewn_474 (by decide) (fun c474 => ?_) (fun c474 => absurd c474 (fun z => h30 ((nI_eq (by omega) (by decide)).mp z)))
    refine v_aload_n (pc := 483) dL_isSewn_483 rfl rfl ?_
    refine v_iconst (pc := 484) (v := 2) dL_isSewn_484 (by decide) ?_
    refine vw_m (pc := 485) (j := 2) hW dL_isSewn_485 rfl (by decide) (x := nI (nS s)) (hM.2.2.1.trans n5) ?_
    refine v_i2l (pc := 486) dL_isSewn_486 ?_
    refine v_lcmp (pc := 487) dL_isSewn_487 ?_
    refine v_if_ne (pc := 488) (tgt := 495) dL_isSewn_488 (by decide) (fun c488 => absurd c488 (d_ne rfl)) (fun c488 => ?_)
    refine v_iconst (pc := 491) (v := 1) dL_isSewn_491 (by decide) ?_
    refine v_goto (pc := 492) (tgt := 496) dL_isSewn_492 (by decide) ?_
    refine v_istore (pc := 496) dL_isSewn_496 rfl (by decide) ?_
    refine v_aload_n (pc := 498) dL_isSewn_498 rfl rfl ?_
    refine v_iconst (pc := 499) (v := 2) dL_isSewn_499 (by decide) ?_
    refine v_dup2 (pc := 500) dL_isSewn_500 rfl rfl ?_
    refine vw_m (pc := 501) (j := 2) hW dL_isSewn_501 rfl (by decide) (x := nI (nS s)) (hM.2.2.1.trans n5) ?_
    refine v_lload (pc := 502) dL_isSewn_502 rfl ?_
    refine v_lconst (pc := 504) (v := 0) dL_isSewn_504 (by decide) ?_
    refine v_lcmp (pc := 505) dL_isSewn_505 ?_
    refine v_if_lt (pc := 506) (tgt := 513) dL_isSewn_506 (by decide) (fun c506 => absurd c506 (d_lt (w_ge0 (nI_ps (by omega))))) (fun c506 => ?_)
    refine v_iconst (pc := 509) (v := 1) dL_isSewn_509 (by decide) ?_
    refine v_goto (pc := 510) (tgt := 514) dL_isSewn_510 (by decide) ?_
    refine v_iadd (pc := 514) dL_isSewn_514 ?_
    rw [nI_1]
    refine vw_mS (pc := 515) (j := 2) hW dL_isSewn_515 rfl (by decide) (fun G hW => ?_)
    refine v_aload_n (pc := 516) dL_isSewn_516 rfl rfl ?_
    refine v_iload (pc := 517) dL_isSewn_517 rfl ?_
    refine vqV (pc := 519) (u := 1 + 1) (j := 1) (U := 100) (As := [.int _]) hW dL_isSewn_519 cw_L_23 im_yX8_strength se_yX8_strength rfl (q_strength _ hW hL2.1 (by omega) (by unfold kPl; rw [eB2]; exact if_pos (btw_n hA' (by omega)))) rfl rfl (Nat.le_of_ble_eq_true rfl) ⟨Nat.le_of_ble_eq_true rfl, Nat.le_of_ble_eq_true rfl⟩ ⟨by decide, by decide⟩ ⟨rfl, rfl⟩ (by omega) (fun v G hp => ?_)
    obtain ⟨rfl, hW⟩ := hp
    rw [nat_nI (show xx / 6 % nB s < 2147483648 by omega)]
    refine v_aload_n (pc := 522) dL_isSewn_522 rfl rfl ?_
    refine v_iload (pc := 523) dL_isSewn_523 rfl ?_
    refine vqV (pc := 525) (u := 1 + 1 + 1) (j := 1) (U := 100) (As := [.int _]) hW dL_isSewn_525 cw_L_23 im_yX8_strength se_yX8_strength rfl (q_strength _ hW hL2.1 (by omega) (by unfold kPl; rw [eB2]; exact if_pos (btw_n hB' (by omega)))) rfl rfl (Nat.le_of_ble_eq_true rfl) ⟨Nat.le_of_ble_eq_true rfl, Nat.le_of_ble_eq_true rfl⟩ ⟨by decide, by decide⟩ ⟨rfl, rfl⟩ (by omega) (fun v G hp => ?_)
    obtain ⟨rfl, hW⟩ := hp
    rw [nat_nI (show (xx / 6 % nB s + 1 + xx / 6 / 12 % (nB s - 1)) % nB s < 2147483648 by omega)]
    refine v_lcmp (pc := 528) dL_isSewn_528 ?_
    refine v_if_ge (pc := 529) (tgt := 541) dL_isSewn_529 (by decide) (fun c529 => ?_) (fun c529 => ?_)
    · have hwk : strS (gSeam s1 (nS s) (nI (xx / 6 % nB s)) (nI ((xx / 6 % nB s + 1 + xx / 6 / 12 % (nB s - 1)) % nB s)) (nI (xx / 6 / 144 % 3))) ((xx / 6 % nB s + 1 + xx / 6 / 12 % (nB s - 1)) % nB s) = lessL (strS (gSeam s1 (nS s) (nI (xx / 6 % nB s)) (nI ((xx / 6 % nB s + 1 + xx / 6 / 12 % (nB s - 1)) % nB s)) (nI (xx / 6 / 144 % 3))) (xx / 6 % nB s)) (strS (gSeam s1 (nS s) (nI (xx / 6 % nB s)) (nI ((xx / 6 % nB s + 1 + xx / 6 / 12 % (nB s - 1)) % nB s)) (nI (xx / 6 / 144 % 3))) ((xx / 6 % nB s + 1 + xx / 6 / 12 % (nB s - 1)) % nB s)) := (if_neg (l_nlt.mpr (cmp_ge0.mp c529))).symm
      refine v_aload_n (pc := 541) dL_isSewn_541 rfl rfl ?_
      refine v_iload (pc := 542) dL_isSewn_542 rfl ?_
      refine vqV (pc := 544) (u := 1 + 1 + 1 + 1) (j := 1) (U := 100) (As := [.int _]) hW dL_isSewn_544 cw_L_23 im_yX8_strength se_yX8_strength rfl (q_strength _ hW hL2.1 (by omega) (by unfold kPl; rw [eB2]; exact if_pos (btw_n hB' (by omega)))) rfl rfl (Nat.le_of_ble_eq_true rfl) ⟨Nat.le_of_ble_eq_true rfl, Nat.le_of_ble_eq_true rfl⟩ ⟨by decide, by decide⟩ ⟨rfl, rfl⟩ (by omega) (fun v G hp => ?_)
      obtain ⟨rfl, hW⟩ := hp
      rw [nat_nI (show (xx / 6 % nB s + 1 + xx / 6 / 12 % (nB s - 1)) % nB s < 2147483648 by omega)]
      refine v_lstore (pc := 547) dL_isSewn_547 rfl (by decide) ?_
      refine v_lload (pc := 549) dL_isSewn_549 rfl ?_
      refine v_iload (pc := 551) dL_isSewn_551 rfl ?_
      refine v_if_ne (pc := 553) (tgt := 562) dL_isSewn_553 (by decide) (fun c553 => ?_) (fun c553 => ?_)
      · refine v_iload (pc := 562) dL_isSewn_562 rfl ?_
        refine v_iconst (pc := 564) (v := 1) dL_isSewn_564 (by decide) ?_
        refine v_icmp_ne (pc := 565) (tgt := 574) dL_isSewn_565 (by decide) (fun c565 => ?_) (fun c565 => ?_)
        · have hpk : (40 : Int64) = (pctS (gSeam s1 (nS s) (nI (xx / 6 % nB s)) (nI ((xx / 6 % nB s + 1 + xx / 6 / 12 % (nB s - 1)) % nB s)) (nI (xx / 6 / 144 % 3))) (nS s)).toInt64 := by rw [pct_g, if_neg c553, if_neg c565]; rfl
          refine v_ldcL (pc := 574) dL_isSewn_574 k_L_172 ?_
          refine v_lmul (pc := 577) dL_isSewn_577 ?_
          refine v_ldcL (pc := 578) dL_isSewn_578 k_L_174 ?_
          refine v_ldiv (pc := 581) dL_isSewn_581 (by decide) ?_
          rw [seam_e (s := (gSeam s1 (nS s) (nI (xx / 6 % nB s)) (nI ((xx / 6 % nB s + 1 + xx / 6 / 12 % (nB s - 1)) % nB s)) (nI (xx / 6 / 144 % 3)))) (i := nS s) (by rw [seam_en1, seam_en2, nat_nI (show xx / 6 % nB s < 2147483648 by omega), nat_nI (show (xx / 6 % nB s + 1 + xx / 6 / 12 % (nB s - 1)) % nB s < 2147483648 by omega)]; exact hwk) hpk]
          refine v_lstore (pc := 582) dL_isSewn_582 rfl (by decide) ?_
          refine v_iload (pc := 584) dL_isSewn_584 rfl ?_
          refine v_if_eq (pc := 586) (tgt := 644) dL_isSewn_586 (by decide) (fun c586 => absurd c586 (by decide)) (fun c586 => ?_)
          refine v_lload (pc := 589) dL_isSewn_589 rfl ?_
          refine v_lconst (pc := 591) (v := 0) dL_isSewn_591 (by decide) ?_
          refine v_lcmp (pc := 592) dL_isSewn_592 ?_
          refine v_if_ge (pc := 593) (tgt := 613) dL_isSewn_593 (by decide) (fun c593 => ?_) (fun c593 => absurd c593 (not_not_intro (cmp_ge0.mpr (w_ge0 (nI_ps (by omega))))))
          refine v_aload_n (pc := 613) dL_isSewn_613 rfl rfl ?_
          refine v_iload (pc := 614) dL_isSewn_614 rfl ?_
          refine v_iload (pc := 616) dL_isSewn_616 rfl ?_
          refine vqV (pc := 618) (u := 1 + 1 + 1 + 1 + 1) (j := 1) (U := 100) (As := [.int _, .int _]) hW dL_isSewn_618 cw_L_37 im_yX8_bears se_yX8_bears rfl (q_bears _ _ hW hL2.1 (by omega) (by unfold kBe; rw [eB2]; exact if_pos ⟨btw_n hA' (by omega), btw_n hB' (by omega)⟩)) rfl rfl (Nat.le_of_ble_eq_true rfl) ⟨Nat.le_of_ble_eq_true rfl, Nat.le_of_ble_eq_true rfl⟩ ⟨by decide, by decide⟩ ⟨rfl, rfl⟩ (by omega) (fun v G hp => ?_)
          obtain ⟨rfl, hW⟩ := hp
          rw [nat_nI (show xx / 6 % nB s < 2147483648 by omega), nat_nI (show (xx / 6 % nB s + 1 + xx / 6 / 12 % (nB s - 1)) % nB s < 2147483648 by omega)]
          rw [eB2, eS2, hfin]
          refine v_lload (pc := 621) dL_isSewn_621 rfl ?_
          refine v_lload (pc := 623) dL_isSewn_623 rfl ?_
          refine v_lcmp (pc := 625) dL_isSewn_625 ?_
          refine v_if_le (pc := 626) (tgt := 634) dL_isSewn_626 (by decide) (fun c626 => ?_) (fun c626 => ?_)
          · have hend : (if finL s (nB s) (nS s) (xx / 6 % nB s) ((xx / 6 % nB s + 1 + xx / 6 / 12 % (nB s - 1)) % nB s) > seamS (gSeam s1 (nS s) (nI (xx / 6 % nB s)) (nI ((xx / 6 % nB s + 1 + xx / 6 / 12 % (nB s - 1)) % nB s)) (nI (xx / 6 / 144 % 3))) (nS s) then finL s (nB s) (nS s) (xx / 6 % nB s) ((xx / 6 % nB s + 1 + xx / 6 / 12 % (nB s - 1)) % nB s) else seamS (gSeam s1 (nS s) (nI (xx / 6 % nB s)) (nI ((xx / 6 % nB s + 1 + xx / 6 / 12 % (nB s - 1)) % nB s)) (nI (xx / 6 / 144 % 3))) (nS s)) = seamS (gSeam s1 (nS s) (nI (xx / 6 % nB s)) (nI ((xx / 6 % nB s + 1 + xx / 6 / 12 % (nB s - 1)) % nB s)) (nI (xx / 6 / 144 % 3))) (nS s) := if_neg (l_nlt.mpr (cmp_le0.mp c626))
            refine v_lload (pc := 634) dL_isSewn_634 rfl ?_
            refine v_lcmp (pc := 636) dL_isSewn_636 ?_
            refine v_if_ne (pc := 637) (tgt := 644) dL_isSewn_637 (by decide) (fun c637 => absurd c637 (d_ne hend)) (fun c637 => ?_)
            refine v_iconst (pc := 640) (v := 1) dL_isSewn_640 (by decide) ?_
            refine v_goto (pc := 641) (tgt := 645) dL_isSewn_641 (by decide) ?_
            refine vq_zret (pc := 645) (U := 100) hR dL_isSewn_645 rfl ⟨rfl, rfl⟩ (by omega) ?_
            exact ⟨rfl, X, _, mS M 2 (nI (nS s + 1)), h0x, rfl, hW, hL2, hA0⟩
          · have hend : (if finL s (nB s) (nS s) (xx / 6 % nB s) ((xx / 6 % nB s + 1 + xx / 6 / 12 % (nB s - 1)) % nB s) > seamS (gSeam s1 (nS s) (nI (xx / 6 % nB s)) (nI ((xx / 6 % nB s + 1 + xx / 6 / 12 % (nB s - 1)) % nB s)) (nI (xx / 6 / 144 % 3))) (nS s) then finL s (nB s) (nS s) (xx / 6 % nB s) ((xx / 6 % nB s + 1 + xx / 6 / 12 % (nB s - 1)) % nB s) else seamS (gSeam s1 (nS s) (nI (xx / 6 % nB s)) (nI ((xx / 6 % nB s + 1 + xx / 6 / 12 % (nB s - 1)) % nB s)) (nI (xx / 6 / 144 % 3))) (nS s)) = finL s (nB s) (nS s) (xx / 6 % nB s) ((xx / 6 % nB s + 1 + xx / 6 / 12 % (nB s - 1)) % nB s) := if_pos (l_nle.mp (fun z => c626 (cmp_le0.mpr z)))
            refine v_lload (pc := 629) dL_isSewn_629 rfl ?_
            refine v_goto (pc := 631) (tgt := 636) dL_isSewn_631 (by decide) ?_
            refine v_lcmp (pc := 636) dL_isSewn_636 ?_
            refine v_if_ne (pc := 637) (tgt := 644) dL_isSewn_637 (by decide) (fun c637 => absurd c637 (d_ne hend)) (fun c637 => ?_)
            refine v_iconst (pc := 640) (v := 1) dL_isSewn_640 (by decide) ?_
            refine v_goto (pc := 641) (tgt := 645) dL_isSewn_641 (by decide) ?_
            refine vq_zret (pc := 645) (U := 100) hR dL_isSewn_645 rfl ⟨rfl, rfl⟩ (by omega) ?_
            exact ⟨rfl, X, _, mS M 2 (nI (nS s + 1)), h0x, rfl, hW, hL2, hA0⟩
        · have hpk : (80 : Int64) = (pctS (gSeam s1 (nS s) (nI (xx / 6 % nB s)) (nI ((xx / 6 % nB s + 1 + xx / 6 / 12 % (nB s - 1)) % nB s)) (nI (xx / 6 / 144 % 3))) (nS s)).toInt64 := by rw [pct_g, if_neg c553, if_pos c565]; rfl
          refine v_ldcL (pc := 568) dL_isSewn_568 k_L_170 ?_
          refine v_goto (pc := 571) (tgt := 577) dL_isSewn_571 (by decide) ?_
          refine v_lmul (pc := 577) dL_isSewn_577 ?_
          refine v_ldcL (pc := 578) dL_isSewn_578 k_L_174 ?_
          refine v_ldiv (pc := 581) dL_isSewn_581 (by decide) ?_
          rw [seam_e (s := (gSeam s1 (nS s) (nI (xx / 6 % nB s)) (nI ((xx / 6 % nB s + 1 + xx / 6 / 12 % (nB s - 1)) % nB s)) (nI (xx / 6 / 144 % 3)))) (i := nS s) (by rw [seam_en1, seam_en2, nat_nI (show xx / 6 % nB s < 2147483648 by omega), nat_nI (show (xx / 6 % nB s + 1 + xx / 6 / 12 % (nB s - 1)) % nB s < 2147483648 by omega)]; exact hwk) hpk]
          refine v_lstore (pc := 582) dL_isSewn_582 rfl (by decide) ?_
          refine v_iload (pc := 584) dL_isSewn_584 rfl ?_
          refine v_if_eq (pc := 586) (tgt := 644) dL_isSewn_586 (by decide) (fun c586 => absurd c586 (by decide)) (fun c586 => ?_)
          refine v_lload (pc := 589) dL_isSewn_589 rfl ?_
          refine v_lconst (pc := 591) (v := 0) dL_isSewn_591 (by decide) ?_
          refine v_lcmp (pc := 592) dL_isSewn_592 ?_
          refine v_if_ge (pc := 593) (tgt := 613) dL_isSewn_593 (by decide) (fun c593 => ?_) (fun c593 => absurd c593 (not_not_intro (cmp_ge0.mpr (w_ge0 (nI_ps (by omega))))))
          refine v_aload_n (pc := 613) dL_isSewn_613 rfl rfl ?_
          refine v_iload (pc := 614) dL_isSewn_614 rfl ?_
          refine v_iload (pc := 616) dL_isSewn_616 rfl ?_
          refine vqV (pc := 618) (u := 1 + 1 + 1 + 1 + 1) (j := 1) (U := 100) (As := [.int _, .int _]) hW dL_isSewn_618 cw_L_37 im_yX8_bears se_yX8_bears rfl (q_bears _ _ hW hL2.1 (by omega) (by unfold kBe; rw [eB2]; exact if_pos ⟨btw_n hA' (by omega), btw_n hB' (by omega)⟩)) rfl rfl (Nat.le_of_ble_eq_true rfl) ⟨Nat.le_of_ble_eq_true rfl, Nat.le_of_ble_eq_true rfl⟩ ⟨by decide, by decide⟩ ⟨rfl, rfl⟩ (by omega) (fun v G hp => ?_)
          obtain ⟨rfl, hW⟩ := hp
          rw [nat_nI (show xx / 6 % nB s < 2147483648 by omega), nat_nI (show (xx / 6 % nB s + 1 + xx / 6 / 12 % (nB s - 1)) % nB s < 2147483648 by omega)]
          rw [eB2, eS2, hfin]
          refine v_lload (pc := 621) dL_isSewn_621 rfl ?_
          refine v_lload (pc := 623) dL_isSewn_623 rfl ?_
          refine v_lcmp (pc := 625) dL_isSewn_625 ?_
          refine v_if_le (pc := 626) (tgt := 634) dL_isSewn_626 (by decide) (fun c626 => ?_) (fun c626 => ?_)
          · have hend : (if finL s (nB s) (nS s) (xx / 6 % nB s) ((xx / 6 % nB s + 1 + xx / 6 / 12 % (nB s - 1)) % nB s) > seamS (gSeam s1 (nS s) (nI (xx / 6 % nB s)) (nI ((xx / 6 % nB s + 1 + xx / 6 / 12 % (nB s - 1)) % nB s)) (nI (xx / 6 / 144 % 3))) (nS s) then finL s (nB s) (nS s) (xx / 6 % nB s) ((xx / 6 % nB s + 1 + xx / 6 / 12 % (nB s - 1)) % nB s) else seamS (gSeam s1 (nS s) (nI (xx / 6 % nB s)) (nI ((xx / 6 % nB s + 1 + xx / 6 / 12 % (nB s - 1)) % nB s)) (nI (xx / 6 / 144 % 3))) (nS s)) = seamS (gSeam s1 (nS s) (nI (xx / 6 % nB s)) (nI ((xx / 6 % nB s + 1 + xx / 6 / 12 % (nB s - 1)) % nB s)) (nI (xx / 6 / 144 % 3))) (nS s) := if_neg (l_nlt.mpr (cmp_le0.mp c626))
            refine v_lload (pc := 634) dL_isSewn_634 rfl ?_
            refine v_lcmp (pc := 636) dL_isSewn_636 ?_
            refine v_if_ne (pc := 637) (tgt := 644) dL_isSewn_637 (by decide) (fun c637 => absurd c637 (d_ne hend)) (fun c637 => ?_)
            refine v_iconst (pc := 640) (v := 1) dL_isSewn_640 (by decide) ?_
            refine v_goto (pc := 641) (tgt := 645) dL_isSewn_641 (by decide) ?_
            refine vq_zret (pc := 645) (U := 100) hR dL_isSewn_645 rfl ⟨rfl, rfl⟩ (by omega) ?_
            exact ⟨rfl, X, _, mS M 2 (nI (nS s + 1)), h0x, rfl, hW, hL2, hA0⟩
          · have hend : (if finL s (nB s) (nS s) (xx / 6 % nB s) ((xx / 6 % nB s + 1 + xx / 6 / 12 % (nB s - 1)) % nB s) > seamS (gSeam s1 (nS s) (nI (xx / 6 % nB s)) (nI ((xx / 6 % nB s + 1 + xx / 6 / 12 % (nB s - 1)) % nB s)) (nI (xx / 6 / 144 % 3))) (nS s) then finL s (nB s) (nS s) (xx / 6 % nB s) ((xx / 6 % nB s + 1 + xx / 6 / 12 % (nB s - 1)) % nB s) else seamS (gSeam s1 (nS s) (nI (xx / 6 % nB s)) (nI ((xx / 6 % nB s + 1 + xx / 6 / 12 % (nB s - 1)) % nB s)) (nI (xx / 6 / 144 % 3))) (nS s)) = finL s (nB s) (nS s) (xx / 6 % nB s) ((xx / 6 % nB s + 1 + xx / 6 / 12 % (nB s - 1)) % nB s) := if_pos (l_nle.mp (fun z => c626 (cmp_le0.mpr z)))
            refine v_lload (pc := 629) dL_isSewn_629 rfl ?_
            refine v_goto (pc := 631) (tgt := 636) dL_isSewn_631 (by decide) ?_
            refine v_lcmp (pc := 636) dL_isSewn_636 ?_
            refine v_if_ne (pc := 637) (tgt := 644) dL_isSewn_637 (by decide) (fun c637 => absurd c637 (d_ne hend)) (fun c637 => ?_)
            refine v_iconst (pc := 640) (v := 1) dL_isSewn_640 (by decide) ?_
            refine v_goto (pc := 641) (tgt := 645) dL_isSewn_641 (by decide) ?_
            refine vq_zret (pc := 645) (U := 100) hR dL_isSewn_645 rfl ⟨rfl, rfl⟩ (by omega) ?_
            exact ⟨rfl, X, _, mS M 2 (nI (nS s + 1)), h0x, rfl, hW, hL2, hA0⟩
      · have hpk : (60 : Int64) = (pctS (gSeam s1 (nS s) (nI (xx / 6 % nB s)) (nI ((xx / 6 % nB s + 1 + xx / 6 / 12 % (nB s - 1)) % nB s)) (nI (xx / 6 / 144 % 3))) (nS s)).toInt64 := by rw [pct_g, if_pos c553]; rfl
        refine v_ldcL (pc := 556) dL_isSewn_556 k_L_168 ?_
        refine v_goto (pc := 559) (tgt := 577) dL_isSewn_559 (by decide) ?_
        refine v_lmul (pc := 577) dL_isSewn_577 ?_
        refine v_ldcL (pc := 578) dL_isSewn_578 k_L_174 ?_
        refine v_ldiv (pc := 581) dL_isSewn_581 (by decide) ?_
        rw [seam_e (s := (gSeam s1 (nS s) (nI (xx / 6 % nB s)) (nI ((xx / 6 % nB s + 1 + xx / 6 / 12 % (nB s - 1)) % nB s)) (nI (xx / 6 / 144 % 3)))) (i := nS s) (by rw [seam_en1, seam_en2, nat_nI (show xx / 6 % nB s < 2147483648 by omega), nat_nI (show (xx / 6 % nB s + 1 + xx / 6 / 12 % (nB s - 1)) % nB s < 2147483648 by omega)]; exact hwk) hpk]
        refine v_lstore (pc := 582) dL_isSewn_582 rfl (by decide) ?_
        refine v_iload (pc := 584) dL_isSewn_584 rfl ?_
        refine v_if_eq (pc := 586) (tgt := 644) dL_isSewn_586 (by decide) (fun c586 => absurd c586 (by decide)) (fun c586 => ?_)
        refine v_lload (pc := 589) dL_isSewn_589 rfl ?_
        refine v_lconst (pc := 591) (v := 0) dL_isSewn_591 (by decide) ?_
        refine v_lcmp (pc := 592) dL_isSewn_592 ?_
        refine v_if_ge (pc := 593) (tgt := 613) dL_isSewn_593 (by decide) (fun c593 => ?_) (fun c593 => absurd c593 (not_not_intro (cmp_ge0.mpr (w_ge0 (nI_ps (by omega))))))
        refine v_aload_n (pc := 613) dL_isSewn_613 rfl rfl ?_
        refine v_iload (pc := 614) dL_isSewn_614 rfl ?_
        refine v_iload (pc := 616) dL_isSewn_616 rfl ?_
        refine vqV (pc := 618) (u := 1 + 1 + 1 + 1 + 1) (j := 1) (U := 100) (As := [.int _, .int _]) hW dL_isSewn_618 cw_L_37 im_yX8_bears se_yX8_bears rfl (q_bears _ _ hW hL2.1 (by omega) (by unfold kBe; rw [eB2]; exact if_pos ⟨btw_n hA' (by omega), btw_n hB' (by omega)⟩)) rfl rfl (Nat.le_of_ble_eq_true rfl) ⟨Nat.le_of_ble_eq_true rfl, Nat.le_of_ble_eq_true rfl⟩ ⟨by decide, by decide⟩ ⟨rfl, rfl⟩ (by omega) (fun v G hp => ?_)
        obtain ⟨rfl, hW⟩ := hp
        rw [nat_nI (show xx / 6 % nB s < 2147483648 by omega), nat_nI (show (xx / 6 % nB s + 1 + xx / 6 / 12 % (nB s - 1)) % nB s < 2147483648 by omega)]
        rw [eB2, eS2, hfin]
        refine v_lload (pc := 621) dL_isSewn_621 rfl ?_
        refine v_lload (pc := 623) dL_isSewn_623 rfl ?_
        refine v_lcmp (pc := 625) dL_isSewn_625 ?_
        refine v_if_le (pc := 626) (tgt := 634) dL_isSewn_626 (by decide) (fun c626 => ?_) (fun c626 => ?_)
        · have hend : (if finL s (nB s) (nS s) (xx / 6 % nB s) ((xx / 6 % nB s + 1 + xx / 6 / 12 % (nB s - 1)) % nB s) > seamS (gSeam s1 (nS s) (nI (xx / 6 % nB s)) (nI ((xx / 6 % nB s + 1 + xx / 6 / 12 % (nB s - 1)) % nB s)) (nI (xx / 6 / 144 % 3))) (nS s) then finL s (nB s) (nS s) (xx / 6 % nB s) ((xx / 6 % nB s + 1 + xx / 6 / 12 % (nB s - 1)) % nB s) else seamS (gSeam s1 (nS s) (nI (xx / 6 % nB s)) (nI ((xx / 6 % nB s + 1 + xx / 6 / 12 % (nB s - 1)) % nB s)) (nI (xx / 6 / 144 % 3))) (nS s)) = seamS (gSeam s1 (nS s) (nI (xx / 6 % nB s)) (nI ((xx / 6 % nB s + 1 + xx / 6 / 12 % (nB s - 1)) % nB s)) (nI (xx / 6 / 144 % 3))) (nS s) := if_neg (l_nlt.mpr (cmp_le0.mp c626))
          refine v_lload (pc := 634) dL_isSewn_634 rfl ?_
          refine v_lcmp (pc := 636) dL_isSewn_636 ?_
          refine v_if_ne (pc := 637) (tgt := 644) dL_isSewn_637 (by decide) (fun c637 => absurd c637 (d_ne hend)) (fun c637 => ?_)
          refine v_iconst (pc := 640) (v := 1) dL_isSewn_640 (by decide) ?_
          refine v_goto (pc := 641) (tgt := 645) dL_isSewn_641 (by decide) ?_
          refine vq_zret (pc := 645) (U := 100) hR dL_isSewn_645 rfl ⟨rfl, rfl⟩ (by omega) ?_
          exact ⟨rfl, X, _, mS M 2 (nI (nS s + 1)), h0x, rfl, hW, hL2, hA0⟩
        · have hend : (if finL s (nB s) (nS s) (xx / 6 % nB s) ((xx / 6 % nB s + 1 + xx / 6 / 12 % (nB s - 1)) % nB s) > seamS (gSeam s1 (nS s) (nI (xx / 6 % nB s)) (nI ((xx / 6 % nB s + 1 + xx / 6 / 12 % (nB s - 1)) % nB s)) (nI (xx / 6 / 144 % 3))) (nS s) then finL s (nB s) (nS s) (xx / 6 % nB s) ((xx / 6 % nB s + 1 + xx / 6 / 12 % (nB s - 1)) % nB s) else seamS (gSeam s1 (nS s) (nI (xx / 6 % nB s)) (nI ((xx / 6 % nB s + 1 + xx / 6 / 12 % (nB s - 1)) % nB s)) (nI (xx / 6 / 144 % 3))) (nS s)) = finL s (nB s) (nS s) (xx / 6 % nB s) ((xx / 6 % nB s + 1 + xx / 6 / 12 % (nB s - 1)) % nB s) := if_pos (l_nle.mp (fun z => c626 (cmp_le0.mpr z)))
          refine v_lload (pc := 629) dL_isSewn_629 rfl ?_
          refine v_goto (pc := 631) (tgt := 636) dL_isSewn_631 (by decide) ?_
          refine v_lcmp (pc := 636) dL_isSewn_636 ?_
          refine v_if_ne (pc := 637) (tgt := 644) dL_isSewn_637 (by decide) (fun c637 => absurd c637 (d_ne hend)) (fun c637 => ?_)
          refine v_iconst (pc := 640) (v := 1) dL_isSewn_640 (by decide) ?_
          refine v_goto (pc := 641) (tgt := 645) dL_isSewn_641 (by decide) ?_
          refine vq_zret (pc := 645) (U := 100) hR dL_isSewn_645 rfl ⟨rfl, rfl⟩ (by omega) ?_
          exact ⟨rfl, X, _, mS M 2 (nI (nS s + 1)), h0x, rfl, hW, hL2, hA0⟩
    · have hwk : strS (gSeam s1 (nS s) (nI (xx / 6 % nB s)) (nI ((xx / 6 % nB s + 1 + xx / 6 / 12 % (nB s - 1)) % nB s)) (nI (xx / 6 / 144 % 3))) (xx / 6 % nB s) = lessL (strS (gSeam s1 (nS s) (nI (xx / 6 % nB s)) (nI ((xx / 6 % nB s + 1 + xx / 6 / 12 % (nB s - 1)) % nB s)) (nI (xx / 6 / 144 % 3))) (xx / 6 % nB s)) (strS (gSeam s1 (nS s) (nI (xx / 6 % nB s)) (nI ((xx / 6 % nB s + 1 + xx / 6 / 12 % (nB s - 1)) % nB s)) (nI (xx / 6 / 144 % 3))) ((xx / 6 % nB s + 1 + xx / 6 / 12 % (nB s - 1)) % nB s)) := (if_pos (l_nle.mp (fun z => c529 (cmp_ge0.mpr z)))).symm
      refine v_aload_n (pc := 532) dL_isSewn_532 rfl rfl ?_
      refine v_iload (pc := 533) dL_isSewn_533 rfl ?_
      refine vqV (pc := 535) (u := 1 + 1 + 1 + 1) (j := 1) (U := 100) (As := [.int _]) hW dL_isSewn_535 cw_L_23 im_yX8_strength se_yX8_strength rfl (q_strength _ hW hL2.1 (by omega) (by unfold kPl; rw [eB2]; exact if_pos (btw_n hA' (by omega)))) rfl rfl (Nat.le_of_ble_eq_true rfl) ⟨Nat.le_of_ble_eq_true rfl, Nat.le_of_ble_eq_true rfl⟩ ⟨by decide, by decide⟩ ⟨rfl, rfl⟩ (by omega) (fun v G hp => ?_)
      obtain ⟨rfl, hW⟩ := hp
      rw [nat_nI (show xx / 6 % nB s < 2147483648 by omega)]
      refine v_goto (pc := 538) (tgt := 547) dL_isSewn_538 (by decide) ?_
      refine v_lstore (pc := 547) dL_isSewn_547 rfl (by decide) ?_
      refine v_lload (pc := 549) dL_isSewn_549 rfl ?_
      refine v_iload (pc := 551) dL_isSewn_551 rfl ?_
      refine v_if_ne (pc := 553) (tgt := 562) dL_isSewn_553 (by decide) (fun c553 => ?_) (fun c553 => ?_)
      · refine v_iload (pc := 562) dL_isSewn_562 rfl ?_
        refine v_iconst (pc := 564) (v := 1) dL_isSewn_564 (by decide) ?_
        refine v_icmp_ne (pc := 565) (tgt := 574) dL_isSewn_565 (by decide) (fun c565 => ?_) (fun c565 => ?_)
        · have hpk : (40 : Int64) = (pctS (gSeam s1 (nS s) (nI (xx / 6 % nB s)) (nI ((xx / 6 % nB s + 1 + xx / 6 / 12 % (nB s - 1)) % nB s)) (nI (xx / 6 / 144 % 3))) (nS s)).toInt64 := by rw [pct_g, if_neg c553, if_neg c565]; rfl
          refine v_ldcL (pc := 574) dL_isSewn_574 k_L_172 ?_
          refine v_lmul (pc := 577) dL_isSewn_577 ?_
          refine v_ldcL (pc := 578) dL_isSewn_578 k_L_174 ?_
          refine v_ldiv (pc := 581) dL_isSewn_581 (by decide) ?_
          rw [seam_e (s := (gSeam s1 (nS s) (nI (xx / 6 % nB s)) (nI ((xx / 6 % nB s + 1 + xx / 6 / 12 % (nB s - 1)) % nB s)) (nI (xx / 6 / 144 % 3)))) (i := nS s) (by rw [seam_en1, seam_en2, nat_nI (show xx / 6 % nB s < 2147483648 by omega), nat_nI (show (xx / 6 % nB s + 1 + xx / 6 / 12 % (nB s - 1)) % nB s < 2147483648 by omega)]; exact hwk) hpk]
          refine v_lstore (pc := 582) dL_isSewn_582 rfl (by decide) ?_
          refine v_iload (pc := 584) dL_isSewn_584 rfl ?_
          refine v_if_eq (pc := 586) (tgt := 644) dL_isSewn_586 (by decide) (fun c586 => absurd c586 (by decide)) (fun c586 => ?_)
          refine v_lload (pc := 589) dL_isSewn_589 rfl ?_
          refine v_lconst (pc := 591) (v := 0) dL_isSewn_591 (by decide) ?_
          refine v_lcmp (pc := 592) dL_isSewn_592 ?_
          refine v_if_ge (pc := 593) (tgt := 613) dL_isSewn_593 (by decide) (fun c593 => ?_) (fun c593 => absurd c593 (not_not_intro (cmp_ge0.mpr (w_ge0 (nI_ps (by omega))))))
          refine v_aload_n (pc := 613) dL_isSewn_613 rfl rfl ?_
          refine v_iload (pc := 614) dL_isSewn_614 rfl ?_
          refine v_iload (pc := 616) dL_isSewn_616 rfl ?_
          refine vqV (pc := 618) (u := 1 + 1 + 1 + 1 + 1) (j := 1) (U := 100) (As := [.int _, .int _]) hW dL_isSewn_618 cw_L_37 im_yX8_bears se_yX8_bears rfl (q_bears _ _ hW hL2.1 (by omega) (by unfold kBe; rw [eB2]; exact if_pos ⟨btw_n hA' (by omega), btw_n hB' (by omega)⟩)) rfl rfl (Nat.le_of_ble_eq_true rfl) ⟨Nat.le_of_ble_eq_true rfl, Nat.le_of_ble_eq_true rfl⟩ ⟨by decide, by decide⟩ ⟨rfl, rfl⟩ (by omega) (fun v G hp => ?_)
          obtain ⟨rfl, hW⟩ := hp
          rw [nat_nI (show xx / 6 % nB s < 2147483648 by omega), nat_nI (show (xx / 6 % nB s + 1 + xx / 6 / 12 % (nB s - 1)) % nB s < 2147483648 by omega)]
          rw [eB2, eS2, hfin]
          refine v_lload (pc := 621) dL_isSewn_621 rfl ?_
          refine v_lload (pc := 623) dL_isSewn_623 rfl ?_
          refine v_lcmp (pc := 625) dL_isSewn_625 ?_
          refine v_if_le (pc := 626) (tgt := 634) dL_isSewn_626 (by decide) (fun c626 => ?_) (fun c626 => ?_)
          · have hend : (if finL s (nB s) (nS s) (xx / 6 % nB s) ((xx / 6 % nB s + 1 + xx / 6 / 12 % (nB s - 1)) % nB s) > seamS (gSeam s1 (nS s) (nI (xx / 6 % nB s)) (nI ((xx / 6 % nB s + 1 + xx / 6 / 12 % (nB s - 1)) % nB s)) (nI (xx / 6 / 144 % 3))) (nS s) then finL s (nB s) (nS s) (xx / 6 % nB s) ((xx / 6 % nB s + 1 + xx / 6 / 12 % (nB s - 1)) % nB s) else seamS (gSeam s1 (nS s) (nI (xx / 6 % nB s)) (nI ((xx / 6 % nB s + 1 + xx / 6 / 12 % (nB s - 1)) % nB s)) (nI (xx / 6 / 144 % 3))) (nS s)) = seamS (gSeam s1 (nS s) (nI (xx / 6 % nB s)) (nI ((xx / 6 % nB s + 1 + xx / 6 / 12 % (nB s - 1)) % nB s)) (nI (xx / 6 / 144 % 3))) (nS s) := if_neg (l_nlt.mpr (cmp_le0.mp c626))
            refine v_lload (pc := 634) dL_isSewn_634 rfl ?_
            refine v_lcmp (pc := 636) dL_isSewn_636 ?_
            refine v_if_ne (pc := 637) (tgt := 644) dL_isSewn_637 (by decide) (fun c637 => absurd c637 (d_ne hend)) (fun c637 => ?_)
            refine v_iconst (pc := 640) (v := 1) dL_isSewn_640 (by decide) ?_
            refine v_goto (pc := 641) (tgt := 645) dL_isSewn_641 (by decide) ?_
            refine vq_zret (pc := 645) (U := 100) hR dL_isSewn_645 rfl ⟨rfl, rfl⟩ (by omega) ?_
            exact ⟨rfl, X, _, mS M 2 (nI (nS s + 1)), h0x, rfl, hW, hL2, hA0⟩
          · have hend : (if finL s (nB s) (nS s) (xx / 6 % nB s) ((xx / 6 % nB s + 1 + xx / 6 / 12 % (nB s - 1)) % nB s) > seamS (gSeam s1 (nS s) (nI (xx / 6 % nB s)) (nI ((xx / 6 % nB s + 1 + xx / 6 / 12 % (nB s - 1)) % nB s)) (nI (xx / 6 / 144 % 3))) (nS s) then finL s (nB s) (nS s) (xx / 6 % nB s) ((xx / 6 % nB s + 1 + xx / 6 / 12 % (nB s - 1)) % nB s) else seamS (gSeam s1 (nS s) (nI (xx / 6 % nB s)) (nI ((xx / 6 % nB s + 1 + xx / 6 / 12 % (nB s - 1)) % nB s)) (nI (xx / 6 / 144 % 3))) (nS s)) = finL s (nB s) (nS s) (xx / 6 % nB s) ((xx / 6 % nB s + 1 + xx / 6 / 12 % (nB s - 1)) % nB s) := if_pos (l_nle.mp (fun z => c626 (cmp_le0.mpr z)))
            refine v_lload (pc := 629) dL_isSewn_629 rfl ?_
            refine v_goto (pc := 631) (tgt := 636) dL_isSewn_631 (by decide) ?_
            refine v_lcmp (pc := 636) dL_isSewn_636 ?_
            refine v_if_ne (pc := 637) (tgt := 644) dL_isSewn_637 (by decide) (fun c637 => absurd c637 (d_ne hend)) (fun c637 => ?_)
            refine v_iconst (pc := 640) (v := 1) dL_isSewn_640 (by decide) ?_
            refine v_goto (pc := 641) (tgt := 645) dL_isSewn_641 (by decide) ?_
            refine vq_zret (pc := 645) (U := 100) hR dL_isSewn_645 rfl ⟨rfl, rfl⟩ (by omega) ?_
            exact ⟨rfl, X, _, mS M 2 (nI (nS s + 1)), h0x, rfl, hW, hL2, hA0⟩
        · have hpk : (80 : Int64) = (pctS (gSeam s1 (nS s) (nI (xx / 6 % nB s)) (nI ((xx / 6 % nB s + 1 + xx / 6 / 12 % (nB s - 1)) % nB s)) (nI (xx / 6 / 144 % 3))) (nS s)).toInt64 := by rw [pct_g, if_neg c553, if_pos c565]; rfl
          refine v_ldcL (pc := 568) dL_isSewn_568 k_L_170 ?_
          refine v_goto (pc := 571) (tgt := 577) dL_isSewn_571 (by decide) ?_
          refine v_lmul (pc := 577) dL_isSewn_577 ?_
          refine v_ldcL (pc := 578) dL_isSewn_578 k_L_174 ?_
          refine v_ldiv (pc := 581) dL_isSewn_581 (by decide) ?_
          rw [seam_e (s := (gSeam s1 (nS s) (nI (xx / 6 % nB s)) (nI ((xx / 6 % nB s + 1 + xx / 6 / 12 % (nB s - 1)) % nB s)) (nI (xx / 6 / 144 % 3)))) (i := nS s) (by rw [seam_en1, seam_en2, nat_nI (show xx / 6 % nB s < 2147483648 by omega), nat_nI (show (xx / 6 % nB s + 1 + xx / 6 / 12 % (nB s - 1)) % nB s < 2147483648 by omega)]; exact hwk) hpk]
          refine v_lstore (pc := 582) dL_isSewn_582 rfl (by decide) ?_
          refine v_iload (pc := 584) dL_isSewn_584 rfl ?_
          refine v_if_eq (pc := 586) (tgt := 644) dL_isSewn_586 (by decide) (fun c586 => absurd c586 (by decide)) (fun c586 => ?_)
          refine v_lload (pc := 589) dL_isSewn_589 rfl ?_
          refine v_lconst (pc := 591) (v := 0) dL_isSewn_591 (by decide) ?_
          refine v_lcmp (pc := 592) dL_isSewn_592 ?_
          refine v_if_ge (pc := 593) (tgt := 613) dL_isSewn_593 (by decide) (fun c593 => ?_) (fun c593 => absurd c593 (not_not_intro (cmp_ge0.mpr (w_ge0 (nI_ps (by omega))))))
          refine v_aload_n (pc := 613) dL_isSewn_613 rfl rfl ?_
          refine v_iload (pc := 614) dL_isSewn_614 rfl ?_
          refine v_iload (pc := 616) dL_isSewn_616 rfl ?_
          refine vqV (pc := 618) (u := 1 + 1 + 1 + 1 + 1) (j := 1) (U := 100) (As := [.int _, .int _]) hW dL_isSewn_618 cw_L_37 im_yX8_bears se_yX8_bears rfl (q_bears _ _ hW hL2.1 (by omega) (by unfold kBe; rw [eB2]; exact if_pos ⟨btw_n hA' (by omega), btw_n hB' (by omega)⟩)) rfl rfl (Nat.le_of_ble_eq_true rfl) ⟨Nat.le_of_ble_eq_true rfl, Nat.le_of_ble_eq_true rfl⟩ ⟨by decide, by decide⟩ ⟨rfl, rfl⟩ (by omega) (fun v G hp => ?_)
          obtain ⟨rfl, hW⟩ := hp
          rw [nat_nI (show xx / 6 % nB s < 2147483648 by omega), nat_nI (show (xx / 6 % nB s + 1 + xx / 6 / 12 % (nB s - 1)) % nB s < 2147483648 by omega)]
          rw [eB2, eS2, hfin]
          refine v_lload (pc := 621) dL_isSewn_621 rfl ?_
          refine v_lload (pc := 623) dL_isSewn_623 rfl ?_
          refine v_lcmp (pc := 625) dL_isSewn_625 ?_
          refine v_if_le (pc := 626) (tgt := 634) dL_isSewn_626 (by decide) (fun c626 => ?_) (fun c626 => ?_)
          · have hend : (if finL s (nB s) (nS s) (xx / 6 % nB s) ((xx / 6 % nB s + 1 + xx / 6 / 12 % (nB s - 1)) % nB s) > seamS (gSeam s1 (nS s) (nI (xx / 6 % nB s)) (nI ((xx / 6 % nB s + 1 + xx / 6 / 12 % (nB s - 1)) % nB s)) (nI (xx / 6 / 144 % 3))) (nS s) then finL s (nB s) (nS s) (xx / 6 % nB s) ((xx / 6 % nB s + 1 + xx / 6 / 12 % (nB s - 1)) % nB s) else seamS (gSeam s1 (nS s) (nI (xx / 6 % nB s)) (nI ((xx / 6 % nB s + 1 + xx / 6 / 12 % (nB s - 1)) % nB s)) (nI (xx / 6 / 144 % 3))) (nS s)) = seamS (gSeam s1 (nS s) (nI (xx / 6 % nB s)) (nI ((xx / 6 % nB s + 1 + xx / 6 / 12 % (nB s - 1)) % nB s)) (nI (xx / 6 / 144 % 3))) (nS s) := if_neg (l_nlt.mpr (cmp_le0.mp c626))
            refine v_lload (pc := 634) dL_isSewn_634 rfl ?_
            refine v_lcmp (pc := 636) dL_isSewn_636 ?_
            refine v_if_ne (pc := 637) (tgt := 644) dL_isSewn_637 (by decide) (fun c637 => absurd c637 (d_ne hend)) (fun c637 => ?_)
            refine v_iconst (pc := 640) (v := 1) dL_isSewn_640 (by decide) ?_
            refine v_goto (pc := 641) (tgt := 645) dL_isSewn_641 (by decide) ?_
            refine vq_zret (pc := 645) (U := 100) hR dL_isSewn_645 rfl ⟨rfl, rfl⟩ (by omega) ?_
            exact ⟨rfl, X, _, mS M 2 (nI (nS s + 1)), h0x, rfl, hW, hL2, hA0⟩
          · have hend : (if finL s (nB s) (nS s) (xx / 6 % nB s) ((xx / 6 % nB s + 1 + xx / 6 / 12 % (nB s - 1)) % nB s) > seamS (gSeam s1 (nS s) (nI (xx / 6 % nB s)) (nI ((xx / 6 % nB s + 1 + xx / 6 / 12 % (nB s - 1)) % nB s)) (nI (xx / 6 / 144 % 3))) (nS s) then finL s (nB s) (nS s) (xx / 6 % nB s) ((xx / 6 % nB s + 1 + xx / 6 / 12 % (nB s - 1)) % nB s) else seamS (gSeam s1 (nS s) (nI (xx / 6 % nB s)) (nI ((xx / 6 % nB s + 1 + xx / 6 / 12 % (nB s - 1)) % nB s)) (nI (xx / 6 / 144 % 3))) (nS s)) = finL s (nB s) (nS s) (xx / 6 % nB s) ((xx / 6 % nB s + 1 + xx / 6 / 12 % (nB s - 1)) % nB s) := if_pos (l_nle.mp (fun z => c626 (cmp_le0.mpr z)))
            refine v_lload (pc := 629) dL_isSewn_629 rfl ?_
            refine v_goto (pc := 631) (tgt := 636) dL_isSewn_631 (by decide) ?_
            refine v_lcmp (pc := 636) dL_isSewn_636 ?_
            refine v_if_ne (pc := 637) (tgt := 644) dL_isSewn_637 (by decide) (fun c637 => absurd c637 (d_ne hend)) (fun c637 => ?_)
            refine v_iconst (pc := 640) (v := 1) dL_isSewn_640 (by decide) ?_
            refine v_goto (pc := 641) (tgt := 645) dL_isSewn_641 (by decide) ?_
            refine vq_zret (pc := 645) (U := 100) hR dL_isSewn_645 rfl ⟨rfl, rfl⟩ (by omega) ?_
            exact ⟨rfl, X, _, mS M 2 (nI (nS s + 1)), h0x, rfl, hW, hL2, hA0⟩
      · have hpk : (60 : Int64) = (pctS (gSeam s1 (nS s) (nI (xx / 6 % nB s)) (nI ((xx / 6 % nB s + 1 + xx / 6 / 12 % (nB s - 1)) % nB s)) (nI (xx / 6 / 144 % 3))) (nS s)).toInt64 := by rw [pct_g, if_pos c553]; rfl
        refine v_ldcL (pc := 556) dL_isSewn_556 k_L_168 ?_
        refine v_goto (pc := 559) (tgt := 577) dL_isSewn_559 (by decide) ?_
        refine v_lmul (pc := 577) dL_isSewn_577 ?_
        refine v_ldcL (pc := 578) dL_isSewn_578 k_L_174 ?_
        refine v_ldiv (pc := 581) dL_isSewn_581 (by decide) ?_
        rw [seam_e (s := (gSeam s1 (nS s) (nI (xx / 6 % nB s)) (nI ((xx / 6 % nB s + 1 + xx / 6 / 12 % (nB s - 1)) % nB s)) (nI (xx / 6 / 144 % 3)))) (i := nS s) (by rw [seam_en1, seam_en2, nat_nI (show xx / 6 % nB s < 2147483648 by omega), nat_nI (show (xx / 6 % nB s + 1 + xx / 6 / 12 % (nB s - 1)) % nB s < 2147483648 by omega)]; exact hwk) hpk]
        refine v_lstore (pc := 582) dL_isSewn_582 rfl (by decide) ?_
        refine v_iload (pc := 584) dL_isSewn_584 rfl ?_
        refine v_if_eq (pc := 586) (tgt := 644) dL_isSewn_586 (by decide) (fun c586 => absurd c586 (by decide)) (fun c586 => ?_)
        refine v_lload (pc := 589) dL_isSewn_589 rfl ?_
        refine v_lconst (pc := 591) (v := 0) dL_isSewn_591 (by decide) ?_
        refine v_lcmp (pc := 592) dL_isSewn_592 ?_
        refine v_if_ge (pc := 593) (tgt := 613) dL_isSewn_593 (by decide) (fun c593 => ?_) (fun c593 => absurd c593 (not_not_intro (cmp_ge0.mpr (w_ge0 (nI_ps (by omega))))))
        refine v_aload_n (pc := 613) dL_isSewn_613 rfl rfl ?_
        refine v_iload (pc := 614) dL_isSewn_614 rfl ?_
        refine v_iload (pc := 616) dL_isSewn_616 rfl ?_
        refine vqV (pc := 618) (u := 1 + 1 + 1 + 1 + 1) (j := 1) (U := 100) (As := [.int _, .int _]) hW dL_isSewn_618 cw_L_37 im_yX8_bears se_yX8_bears rfl (q_bears _ _ hW hL2.1 (by omega) (by unfold kBe; rw [eB2]; exact if_pos ⟨btw_n hA' (by omega), btw_n hB' (by omega)⟩)) rfl rfl (Nat.le_of_ble_eq_true rfl) ⟨Nat.le_of_ble_eq_true rfl, Nat.le_of_ble_eq_true rfl⟩ ⟨by decide, by decide⟩ ⟨rfl, rfl⟩ (by omega) (fun v G hp => ?_)
        obtain ⟨rfl, hW⟩ := hp
        rw [nat_nI (show xx / 6 % nB s < 2147483648 by omega), nat_nI (show (xx / 6 % nB s + 1 + xx / 6 / 12 % (nB s - 1)) % nB s < 2147483648 by omega)]
        rw [eB2, eS2, hfin]
        refine v_lload (pc := 621) dL_isSewn_621 rfl ?_
        refine v_lload (pc := 623) dL_isSewn_623 rfl ?_
        refine v_lcmp (pc := 625) dL_isSewn_625 ?_
        refine v_if_le (pc := 626) (tgt := 634) dL_isSewn_626 (by decide) (fun c626 => ?_) (fun c626 => ?_)
        · have hend : (if finL s (nB s) (nS s) (xx / 6 % nB s) ((xx / 6 % nB s + 1 + xx / 6 / 12 % (nB s - 1)) % nB s) > seamS (gSeam s1 (nS s) (nI (xx / 6 % nB s)) (nI ((xx / 6 % nB s + 1 + xx / 6 / 12 % (nB s - 1)) % nB s)) (nI (xx / 6 / 144 % 3))) (nS s) then finL s (nB s) (nS s) (xx / 6 % nB s) ((xx / 6 % nB s + 1 + xx / 6 / 12 % (nB s - 1)) % nB s) else seamS (gSeam s1 (nS s) (nI (xx / 6 % nB s)) (nI ((xx / 6 % nB s + 1 + xx / 6 / 12 % (nB s - 1)) % nB s)) (nI (xx / 6 / 144 % 3))) (nS s)) = seamS (gSeam s1 (nS s) (nI (xx / 6 % nB s)) (nI ((xx / 6 % nB s + 1 + xx / 6 / 12 % (nB s - 1)) % nB s)) (nI (xx / 6 / 144 % 3))) (nS s) := if_neg (l_nlt.mpr (cmp_le0.mp c626))
          refine v_lload (pc := 634) dL_isSewn_634 rfl ?_
          refine v_lcmp (pc := 636) dL_isSewn_636 ?_
          refine v_if_ne (pc := 637) (tgt := 644) dL_isSewn_637 (by decide) (fun c637 => absurd c637 (d_ne hend)) (fun c637 => ?_)
          refine v_iconst (pc := 640) (v := 1) dL_isSewn_640 (by decide) ?_
          refine v_goto (pc := 641) (tgt := 645) dL_isSewn_641 (by decide) ?_
          refine vq_zret (pc := 645) (U := 100) hR dL_isSewn_645 rfl ⟨rfl, rfl⟩ (by omega) ?_
          exact ⟨rfl, X, _, mS M 2 (nI (nS s + 1)), h0x, rfl, hW, hL2, hA0⟩
        · have hend : (if finL s (nB s) (nS s) (xx / 6 % nB s) ((xx / 6 % nB s + 1 + xx / 6 / 12 % (nB s - 1)) % nB s) > seamS (gSeam s1 (nS s) (nI (xx / 6 % nB s)) (nI ((xx / 6 % nB s + 1 + xx / 6 / 12 % (nB s - 1)) % nB s)) (nI (xx / 6 / 144 % 3))) (nS s) then finL s (nB s) (nS s) (xx / 6 % nB s) ((xx / 6 % nB s + 1 + xx / 6 / 12 % (nB s - 1)) % nB s) else seamS (gSeam s1 (nS s) (nI (xx / 6 % nB s)) (nI ((xx / 6 % nB s + 1 + xx / 6 / 12 % (nB s - 1)) % nB s)) (nI (xx / 6 / 144 % 3))) (nS s)) = finL s (nB s) (nS s) (xx / 6 % nB s) ((xx / 6 % nB s + 1 + xx / 6 / 12 % (nB s - 1)) % nB s) := if_pos (l_nle.mp (fun z => c626 (cmp_le0.mpr z)))
          refine v_lload (pc := 629) dL_isSewn_629 rfl ?_
          refine v_goto (pc := 631) (tgt := 636) dL_isSewn_631 (by decide) ?_
          refine v_lcmp (pc := 636) dL_isSewn_636 ?_
          refine v_if_ne (pc := 637) (tgt := 644) dL_isSewn_637 (by decide) (fun c637 => absurd c637 (d_ne hend)) (fun c637 => ?_)
          refine v_iconst (pc := 640) (v := 1) dL_isSewn_640 (by decide) ?_
          refine v_goto (pc := 641) (tgt := 645) dL_isSewn_641 (by decide) ?_
          refine vq_zret (pc := 645) (U := 100) hR dL_isSewn_645 rfl ⟨rfl, rfl⟩ (by omega) ?_
          exact ⟨rfl, X, _, mS M 2 (nI (nS s + 1)), h0x, rfl, hW, hL2, hA0⟩
set_option maxRecDepth 100000 in
set_option maxHeartbeats 400000 in
theorem e_rip {D : DT} {K : KT} {X : XT} {s : SG} {M : MT} {t how xx sz : Nat} {G0 : GT} (hR : Rt rm_isSewn D K (some .boolean) yL_isSewn.name sz G0 (LSq X M (t + 1))) (hNC : NC3 K.2.2.2.1) (hxx : xx < 2147483648) (hhow : how < 100) (hL : LI X s M t) (ht : t < 200) (hA : 0 < nA s) (h2B : 2 ≤ nB s) (G : GT) (hW : WD X s M G) : V cL_isSewn yL_isSewn.cls 19 rm_isSewn D K 646 [some (.ref (X.1 0 0)), some (.ref M.1.1), some (.ref M.1.2.1), some (.int (nI how)), some (.int (nI xx)), some (.int (nI (xx % nA s))), some (.int (nI (xx / 6))), some (.int (nI (xx / 6 % nB s))), some (.int (nI ((xx / 6 % nB s + 1 + xx / 6 / 12 % (nB s - 1)) % nB s))), some (.long (finL s (nB s) (nS s) (xx / 6 % nB s) ((xx / 6 % nB s + 1 + xx / 6 / 12 % (nB s - 1)) % nB s))), none, none, none, none, none, none, none, none, none] [] G (nu 1) := by
  have hI := hL.1
  have hM := hL.2.2.2.2.2.1
  have hq : 2 * t < 512 := by omega
  obtain ⟨b1, b2, b3, b4, b5, n1, n2, n3, n4, n5⟩ := hI.six hq
  obtain ⟨i1, i2, i3, i4, i5, i6, i7, i8, i9⟩ := INV.num (by omega) hI
  have g := inv_gok i1 i2 i3
  have hA0 : ¬ M.2.1 0 = 0 := by rw [hM.1, n1]; exact nI_ne0 hA (by omega)
  have hA' : xx / 6 % nB s < nB s := Nat.mod_lt _ (by omega)
  obtain ⟨hB', hAB⟩ := mod_ne (a := xx / 6 % nB s) (r := xx / 6 / 12 % (nB s - 1)) (n := nB s) hA' (by have := Nat.mod_lt (xx / 6 / 12) (show 0 < nB s - 1 by omega); omega)
  by_cases h0S : nS s = 0
  · refine v_aload_n (pc := 646) dL_isSewn_646 rfl rfl ?_
    refine v_iconst (pc := 647) (v := 2) dL_isSewn_647 (by decide) ?_
    refine vw_m (pc := 648) (j := 2) hW dL_isSewn_648 rfl (by decide) (x := nI (nS s)) (hM.2.2.1.trans n5) ?_
    refine v_if_ne (pc := 649) (tgt := 654) dL_isSewn_649 (by decide) (fun c649 => absurd c649 (fun z => z (by rw [h0S]; rfl))) (fun c649 => ?_)
    refine v_iconst (pc := 652) (v := 1) dL_isSewn_652 (by decide) ?_
    refine vq_zret (pc := 653) (U := 100) hR dL_isSewn_653 rfl ⟨rfl, rfl⟩ (by omega) ?_
    exact ⟨rfl, X, s, M, rfl, rfl, hW, hL.up (EQ.rf s) rfl rfl, hA0⟩
  · have hRp : xx / 6 / 5 % nS s < nS s := Nat.mod_lt _ (by omega)
    have ne0 : ¬ nI (nS s) = 0 := nI_ne0 (by omega) (by omega)
    have hbt : btw (nI (xx / 6 / 5 % nS s)) 0 (nI (nS s) - 1) := btw_n hRp (by omega)
    have hnR : nat (nI (xx / 6 / 5 % nS s)) = xx / 6 / 5 % nS s := nat_nI (by omega)
    by_cases h13 : s.1 13 (xx / 6 / 5 % nS s) = 0
    · have hk : kRip s (nS s) (nI (xx / 6 / 5 % nS s)) = 0 := by unfold kRip; rw [if_pos ⟨hbt, by rw [hnR]; exact h13⟩]
      refine v_aload_n (pc := 646) dL_isSewn_646 rfl rfl ?_
      refine v_iconst (pc := 647) (v := 2) dL_isSewn_647 (by decide) ?_
      refine vw_m (pc := 648) (j := 2) hW dL_isSewn_648 rfl (by decide) (x := nI (nS s)) (hM.2.2.1.trans n5) ?_
      refine v_if_ne (pc := 649) (tgt := 654) dL_isSewn_649 (by decide) (fun c649 => ?_) (fun c649 => absurd c649 ne0)
      refine v_aload_n (pc := 654) dL_isSewn_654 rfl rfl ?_
      refine v_bipush (pc := 655) (v := 6) dL_isSewn_655 (by decide) ?_
      refine v_iload (pc := 657) dL_isSewn_657 rfl ?_
      refine v_iconst (pc := 659) (v := 5) dL_isSewn_659 (by decide) ?_
      refine v_ndiv (pc := 660) (xx / 6) 5 dL_isSewn_660 (by omega) (by decide) rfl rfl ?_
      refine v_aload_n (pc := 661) dL_isSewn_661 rfl rfl ?_
      refine v_iconst (pc := 662) (v := 2) dL_isSewn_662 (by decide) ?_
      refine vw_m (pc := 663) (j := 2) hW dL_isSewn_663 rfl (by decide) (x := nI (nS s)) (hM.2.2.1.trans n5) ?_
      refine v_nrem (pc := 664) (xx / 6 / 5) (nS s) dL_isSewn_664 (by omega) (by omega) rfl rfl ?_
      refine v_iconst (pc := 665) (v := 0) dL_isSewn_665 (by decide) ?_
      refine v_iconst (pc := 666) (v := 0) dL_isSewn_666 (by decide) ?_
      refine v_iconst (pc := 667) (v := 0) dL_isSewn_667 (by decide) ?_
      refine vqL (pc := 668) (u := 1) (j := 1) (U := 100) (As := [.ref (X.1 0 0), .int _, .int _, .int _, .int _, .int _]) hNC dL_isSewn_668 ll_act.1 ll_act.2.1 wl_act ll_act.2.2.2 ll_act.2.2.1 (sw_rip _ 0 0 0 hW hI hq hk) rfl rfl (Nat.le_of_ble_eq_true rfl) ⟨Nat.le_of_ble_eq_true rfl, Nat.le_of_ble_eq_true rfl⟩ ⟨by decide, by decide⟩ ⟨rfl, rfl⟩ (by omega) (fun v G hp => ?_)
      obtain ⟨s1, X, s', e, rfl, hW, h0x, rfl, x1, x2⟩ := hp
      rw [← h0x]
      have hL1 := hL.eq e G
      have hL2 := hL1.rip (X1 := X) ht (by rw [e.nS, e.kRip_]; exact hk) x1 x2
      rw [hnR] at hW hL2 ⊢
      have hse : seamS s1 (xx / 6 / 5 % nS s) = seamS s (xx / 6 / 5 % nS s) := e.seam _
      have h0se : (0 : Int64) ≤ seamS s (xx / 6 / 5 % nS s) := g.2.2.2.2.2 _ hRp
      rw [hse]
      have eB2 : nB (sI s1 13 (xx / 6 / 5 % nS s) 1) = nB s := (congrArg nat (congrFun (sI_r _ _ _ (by decide)) 0)).trans e.nB
      have eS2 : nS (sI s1 13 (xx / 6 / 5 % nS s) 1) = nS s := (congrArg nat (congrFun (sI_r _ _ _ (by decide)) 0)).trans e.nS
      obtain ⟨j1, j2, j3, -⟩ := INV.num (by omega) hL2.1
      have g2 := inv_gok j1 j2 j3
      rw [eB2, eS2] at g2
      have hle := rip_ok e g g2 hA' hB'
      refine v_lstore (pc := 671) dL_isSewn_671 rfl (by decide) ?_
      refine v_lload (pc := 673) dL_isSewn_673 rfl ?_
      refine v_ldcL (pc := 675) dL_isSewn_675 k_L_105 ?_
      refine v_lcmp (pc := 678) dL_isSewn_678 ?_
      refine v_if_ne (pc := 679) (tgt := 704) dL_isSewn_679 (by decide) (fun c679 => ?_) (fun c679 => absurd c679 (d_eq (ne_io h0se)))
      refine v_lload (pc := 704) dL_isSewn_704 rfl ?_
      refine v_lconst (pc := 706) (v := 0) dL_isSewn_706 (by decide) ?_
      refine v_lcmp (pc := 707) dL_isSewn_707 ?_
      refine v_if_lt (pc := 708) (tgt := 753) dL_isSewn_708 (by decide) (fun c708 => absurd c708 (d_lt h0se)) (fun c708 => ?_)
      refine v_aload_n (pc := 711) dL_isSewn_711 rfl rfl ?_
      refine v_iload (pc := 712) dL_isSewn_712 rfl ?_
      refine v_iload (pc := 714) dL_isSewn_714 rfl ?_
      refine vqV (pc := 716) (u := 1 + 1) (j := 1) (U := 100) (As := [.int _, .int _]) hW dL_isSewn_716 cw_L_37 im_yX8_bears se_yX8_bears rfl (q_bears _ _ hW hL2.1 (by omega) (by unfold kBe; rw [eB2]; exact if_pos ⟨btw_n hA' (by omega), btw_n hB' (by omega)⟩)) rfl rfl (Nat.le_of_ble_eq_true rfl) ⟨Nat.le_of_ble_eq_true rfl, Nat.le_of_ble_eq_true rfl⟩ ⟨by decide, by decide⟩ ⟨rfl, rfl⟩ (by omega) (fun v G hp => ?_)
      obtain ⟨rfl, hW⟩ := hp
      rw [nat_nI (show xx / 6 % nB s < 2147483648 by omega), nat_nI (show (xx / 6 % nB s + 1 + xx / 6 / 12 % (nB s - 1)) % nB s < 2147483648 by omega)]
      rw [eB2, eS2]
      refine v_lload (pc := 719) dL_isSewn_719 rfl ?_
      refine v_lcmp (pc := 721) dL_isSewn_721 ?_
      refine v_if_gt (pc := 722) (tgt := 753) dL_isSewn_722 (by decide) (fun c722 => absurd c722 (d_gt hle)) (fun c722 => ?_)
      refine v_aload_n (pc := 725) dL_isSewn_725 rfl rfl ?_
      refine v_bipush (pc := 726) (v := 6) dL_isSewn_726 (by decide) ?_
      refine v_iload (pc := 728) dL_isSewn_728 rfl ?_
      refine v_iconst (pc := 730) (v := 5) dL_isSewn_730 (by decide) ?_
      refine v_ndiv (pc := 731) (xx / 6) 5 dL_isSewn_731 (by omega) (by decide) rfl rfl ?_
      refine v_aload_n (pc := 732) dL_isSewn_732 rfl rfl ?_
      refine v_iconst (pc := 733) (v := 2) dL_isSewn_733 (by decide) ?_
      refine vw_m (pc := 734) (j := 2) hW dL_isSewn_734 rfl (by decide) (x := nI (nS s)) (hM.2.2.1.trans n5) ?_
      refine v_nrem (pc := 735) (xx / 6 / 5) (nS s) dL_isSewn_735 (by omega) (by omega) rfl rfl ?_
      refine v_iconst (pc := 736) (v := 0) dL_isSewn_736 (by decide) ?_
      refine v_iconst (pc := 737) (v := 0) dL_isSewn_737 (by decide) ?_
      refine v_iconst (pc := 738) (v := 0) dL_isSewn_738 (by decide) ?_
      refine vqL (pc := 739) (u := 1 + 1 + 1) (j := 1) (U := 100) (As := [.ref (X.1 0 0), .int _, .int _, .int _, .int _, .int _]) hNC dL_isSewn_739 ll_act.1 ll_act.2.1 wl_act ll_act.2.2.2 ll_act.2.2.1 (xIO_rip _ 0 0 0 hW hL2.1 (by omega) (by unfold kRip; rw [if_neg (fun z => absurd (z.2.symm.trans ((congrArg _ hnR).trans (sI_at _ _ _ _))) (by decide))])) rfl rfl (Nat.le_of_ble_eq_true rfl) ⟨Nat.le_of_ble_eq_true rfl, Nat.le_of_ble_eq_true rfl⟩ ⟨by decide, by decide⟩ ⟨rfl, rfl⟩ (by omega) (fun v G hp => ?_)
      obtain ⟨rfl, hW⟩ := hp
      refine v_ldcL (pc := 742) dL_isSewn_742 k_L_105 ?_
      refine v_lcmp (pc := 745) dL_isSewn_745 ?_
      refine v_if_ne (pc := 746) (tgt := 753) dL_isSewn_746 (by decide) (fun c746 => absurd c746 (d_ne rfl)) (fun c746 => ?_)
      refine v_iconst (pc := 749) (v := 1) dL_isSewn_749 (by decide) ?_
      refine v_goto (pc := 750) (tgt := 754) dL_isSewn_750 (by decide) ?_
      refine vq_zret (pc := 754) (U := 100) hR dL_isSewn_754 rfl ⟨rfl, rfl⟩ (by omega) ?_
      exact ⟨rfl, X, _, M, h0x, rfl, hW, hL2, hA0⟩
    · have hk : kRip s (nS s) (nI (xx / 6 / 5 % nS s)) = 1 := by unfold kRip; rw [if_neg (fun z => h13 (by rw [← hnR]; exact z.2))]
      refine v_aload_n (pc := 646) dL_isSewn_646 rfl rfl ?_
      refine v_iconst (pc := 647) (v := 2) dL_isSewn_647 (by decide) ?_
      refine vw_m (pc := 648) (j := 2) hW dL_isSewn_648 rfl (by decide) (x := nI (nS s)) (hM.2.2.1.trans n5) ?_
      refine v_if_ne (pc := 649) (tgt := 654) dL_isSewn_649 (by decide) (fun c649 => ?_) (fun c649 => absurd c649 ne0)
      refine v_aload_n (pc := 654) dL_isSewn_654 rfl rfl ?_
      refine v_bipush (pc := 655) (v := 6) dL_isSewn_655 (by decide) ?_
      refine v_iload (pc := 657) dL_isSewn_657 rfl ?_
      refine v_iconst (pc := 659) (v := 5) dL_isSewn_659 (by decide) ?_
      refine v_ndiv (pc := 660) (xx / 6) 5 dL_isSewn_660 (by omega) (by decide) rfl rfl ?_
      refine v_aload_n (pc := 661) dL_isSewn_661 rfl rfl ?_
      refine v_iconst (pc := 662) (v := 2) dL_isSewn_662 (by decide) ?_
      refine vw_m (pc := 663) (j := 2) hW dL_isSewn_663 rfl (by decide) (x := nI (nS s)) (hM.2.2.1.trans n5) ?_
      refine v_nrem (pc := 664) (xx / 6 / 5) (nS s) dL_isSewn_664 (by omega) (by omega) rfl rfl ?_
      refine v_iconst (pc := 665) (v := 0) dL_isSewn_665 (by decide) ?_
      refine v_iconst (pc := 666) (v := 0) dL_isSewn_666 (by decide) ?_
      refine v_iconst (pc := 667) (v := 0) dL_isSewn_667 (by decide) ?_
      refine vqL (pc := 668) (u := 1) (j := 1) (U := 100) (As := [.ref (X.1 0 0), .int _, .int _, .int _, .int _, .int _]) hNC dL_isSewn_668 ll_act.1 ll_act.2.1 wl_act ll_act.2.2.2 ll_act.2.2.1 (xIO_rip _ 0 0 0 hW hI hq hk) rfl rfl (Nat.le_of_ble_eq_true rfl) ⟨Nat.le_of_ble_eq_true rfl, Nat.le_of_ble_eq_true rfl⟩ ⟨by decide, by decide⟩ ⟨rfl, rfl⟩ (by omega) (fun v G hp => ?_)
      obtain ⟨rfl, hW⟩ := hp
      refine v_lstore (pc := 671) dL_isSewn_671 rfl (by decide) ?_
      refine v_lload (pc := 673) dL_isSewn_673 rfl ?_
      refine v_ldcL (pc := 675) dL_isSewn_675 k_L_105 ?_
      refine v_lcmp (pc := 678) dL_isSewn_678 ?_
      refine v_if_ne (pc := 679) (tgt := 704) dL_isSewn_679 (by decide) (fun c679 => absurd c679 (d_ne rfl)) (fun c679 => ?_)
      refine v_aload_n (pc := 682) dL_isSewn_682 rfl rfl ?_
      refine v_iload (pc := 683) dL_isSewn_683 rfl ?_
      refine v_iload (pc := 685) dL_isSewn_685 rfl ?_
      refine vqV (pc := 687) (u := 1 + 1) (j := 1) (U := 100) (As := [.int _, .int _]) hW dL_isSewn_687 cw_L_37 im_yX8_bears se_yX8_bears rfl (q_bears _ _ hW hI hq (by unfold kBe; exact if_pos ⟨btw_n hA' (by omega), btw_n hB' (by omega)⟩)) rfl rfl (Nat.le_of_ble_eq_true rfl) ⟨Nat.le_of_ble_eq_true rfl, Nat.le_of_ble_eq_true rfl⟩ ⟨by decide, by decide⟩ ⟨rfl, rfl⟩ (by omega) (fun v G hp => ?_)
      obtain ⟨rfl, hW⟩ := hp
      rw [nat_nI (show xx / 6 % nB s < 2147483648 by omega), nat_nI (show (xx / 6 % nB s + 1 + xx / 6 / 12 % (nB s - 1)) % nB s < 2147483648 by omega)]
      refine v_lload (pc := 690) dL_isSewn_690 rfl ?_
      refine v_lcmp (pc := 692) dL_isSewn_692 ?_
      refine v_if_ne (pc := 693) (tgt := 700) dL_isSewn_693 (by decide) (fun c693 => absurd c693 (d_ne rfl)) (fun c693 => ?_)
      refine v_iconst (pc := 696) (v := 1) dL_isSewn_696 (by decide) ?_
      refine v_goto (pc := 697) (tgt := 754) dL_isSewn_697 (by decide) ?_
      refine vq_zret (pc := 754) (U := 100) hR dL_isSewn_754 rfl ⟨rfl, rfl⟩ (by omega) ?_
      exact ⟨rfl, X, s, M, rfl, rfl, hW, hL.up (EQ.rf s) rfl rfl, hA0⟩
set_option maxRecDepth 100000 in
set_option maxHeartbeats 400000 in
theorem c_L_isSewn (D : DT) (X : XT) (s : SG) (M : MT) (G : GT) (t how xx : Nat) (hhow : how < 100) (hxx : xx < 2147483648) (hW : WD X s M G) (hL : LI X s M t) (ht : t < 200) : MN yL_isSewn cL_isSewn 19 (Option.some Jvm.ClassFile.FieldType.boolean) rm_isSewn D [.ref (X.1 0 0), .ref M.1.1, .ref M.1.2.1, .int (nI how), .int (nI xx)] G (LSq X M (t + 1)) := by
  have hI := hL.1
  have hM := hL.2.2.2.2.2.1
  have hq : 2 * t < 512 := by omega
  obtain ⟨b1, b2, b3, b4, b5, n1, n2, n3, n4, n5⟩ := hI.six hq
  obtain ⟨i1, i2, i3, i4, i5, i6, i7, i8, i9⟩ := INV.num (by omega) hI
  refine MN_of (by decide +kernel) (Nat.le_of_ble_eq_true rfl) (fun K sz hR hNC => ?_)
  show V cL_isSewn _ 19 _ D K 0 [some (.ref (X.1 0 0)), some (.ref M.1.1), some (.ref M.1.2.1), some (.int (nI how)), some (.int (nI xx)), none, none, none, none, none, none, none, none, none, none, none, none, none, none] [] G (nu 0)
  refine v_iload_n (pc := 0) dL_isSewn_0 rfl rfl ?_
  refine v_if_eq (pc := 1) (tgt := 10) dL_isSewn_1 (by decide) (fun c1 => ?_) (fun c1 => ?_)
  · exact e_lot hR hNC hxx hhow hL ht G hW
  · refine v_aload_n (pc := 4) dL_isSewn_4 rfl rfl ?_
    refine v_iconst (pc := 5) (v := 0) dL_isSewn_5 (by decide) ?_
    refine vw_m (pc := 6) (j := 0) hW dL_isSewn_6 rfl (by decide) (x := nI (nA s)) (hM.1.trans n1) ?_
    refine v_if_ne (pc := 7) (tgt := 99) dL_isSewn_7 (by decide) (fun c7 => ?_) (fun c7 => ?_)
    · have hA : 0 < nA s := Nat.pos_of_ne_zero (fun z => c7 (by rw [z]; rfl))
      refine v_iload (pc := 99) dL_isSewn_99 rfl ?_
      refine v_aload_n (pc := 101) dL_isSewn_101 rfl rfl ?_
      refine v_iconst (pc := 102) (v := 0) dL_isSewn_102 (by decide) ?_
      refine vw_m (pc := 103) (j := 0) hW dL_isSewn_103 rfl (by decide) (x := nI (nA s)) (hM.1.trans n1) ?_
      refine v_nrem (pc := 104) (xx) (nA s) dL_isSewn_104 (by omega) (by omega) rfl rfl ?_
      refine v_istore (pc := 105) dL_isSewn_105 rfl (by decide) ?_
      refine v_iload (pc := 107) dL_isSewn_107 rfl ?_
      refine v_bipush (pc := 109) (v := 6) dL_isSewn_109 (by decide) ?_
      refine v_ndiv (pc := 111) (xx) 6 dL_isSewn_111 (by omega) (by decide) rfl rfl ?_
      refine v_istore (pc := 112) dL_isSewn_112 rfl (by decide) ?_
      refine v_iload_n (pc := 114) dL_isSewn_114 rfl rfl ?_
      refine v_iconst (pc := 115) (v := 1) dL_isSewn_115 (by decide) ?_
      refine v_icmp_ne (pc := 116) (tgt := 228) dL_isSewn_116 (by decide) (fun c116 => ?_) (fun c116 => ?_)
      · refine v_iload_n (pc := 228) dL_isSewn_228 rfl rfl ?_
        refine v_iconst (pc := 229) (v := 4) dL_isSewn_229 (by decide) ?_
        refine v_icmp_lt (pc := 230) (tgt := 240) dL_isSewn_230 (by decide) (fun c230 => ?_) (fun c230 => ?_)
        · exact e_panel hR hNC hxx hhow hL ht hA G hW
        · refine v_aload_n (pc := 233) dL_isSewn_233 rfl rfl ?_
          refine v_iconst (pc := 234) (v := 1) dL_isSewn_234 (by decide) ?_
          refine vw_m (pc := 235) (j := 1) hW dL_isSewn_235 rfl (by decide) (x := nI (nB s)) (hM.2.1.trans n2) ?_
          refine v_iconst (pc := 236) (v := 2) dL_isSewn_236 (by decide) ?_
          refine v_icmp_ge (pc := 237) (tgt := 397) dL_isSewn_237 (by decide) (fun c237 => ?_) (fun c237 => ?_)
          · have h2B : 2 ≤ nB s := (nI_leI (a := 2) (by decide) (by omega)).mp c237
            have hA' : xx / 6 % nB s < nB s := Nat.mod_lt _ (by omega)
            have hRr := Nat.mod_lt (xx / 6 / 12) (show 0 < nB s - 1 by omega)
            obtain ⟨hB', hAB⟩ := mod_ne (a := xx / 6 % nB s) (r := xx / 6 / 12 % (nB s - 1)) (n := nB s) hA' (by have := Nat.mod_lt (xx / 6 / 12) (show 0 < nB s - 1 by omega); omega)
            refine v_iload (pc := 397) dL_isSewn_397 rfl ?_
            refine v_aload_n (pc := 399) dL_isSewn_399 rfl rfl ?_
            refine v_iconst (pc := 400) (v := 1) dL_isSewn_400 (by decide) ?_
            refine vw_m (pc := 401) (j := 1) hW dL_isSewn_401 rfl (by decide) (x := nI (nB s)) (hM.2.1.trans n2) ?_
            refine v_nrem (pc := 402) (xx / 6) (nB s) dL_isSewn_402 (by omega) (by omega) rfl rfl ?_
            refine v_istore (pc := 403) dL_isSewn_403 rfl (by decide) ?_
            refine v_iload (pc := 405) dL_isSewn_405 rfl ?_
            refine v_iconst (pc := 407) (v := 1) dL_isSewn_407 (by decide) ?_
            refine v_iadd (pc := 408) dL_isSewn_408 ?_
            rw [nI_1]
            refine v_iload (pc := 409) dL_isSewn_409 rfl ?_
            refine v_bipush (pc := 411) (v := 12) dL_isSewn_411 (by decide) ?_
            refine v_ndiv (pc := 413) (xx / 6) 12 dL_isSewn_413 (by omega) (by decide) rfl rfl ?_
            refine v_aload_n (pc := 414) dL_isSewn_414 rfl rfl ?_
            refine v_iconst (pc := 415) (v := 1) dL_isSewn_415 (by decide) ?_
            refine vw_m (pc := 416) (j := 1) hW dL_isSewn_416 rfl (by decide) (x := nI (nB s)) (hM.2.1.trans n2) ?_
            refine v_iconst (pc := 417) (v := 1) dL_isSewn_417 (by decide) ?_
            refine v_isub (pc := 418) dL_isSewn_418 ?_
            refine v_nrem (pc := 419) (xx / 6 / 12) (nB s - 1) dL_isSewn_419 (by omega) (by omega) rfl (n_m1 (by omega)) ?_
            refine v_iadd (pc := 420) dL_isSewn_420 ?_
            rw [nI_add]
            refine v_aload_n (pc := 421) dL_isSewn_421 rfl rfl ?_
            refine v_iconst (pc := 422) (v := 1) dL_isSewn_422 (by decide) ?_
            refine vw_m (pc := 423) (j := 1) hW dL_isSewn_423 rfl (by decide) (x := nI (nB s)) (hM.2.1.trans n2) ?_
            refine v_nrem (pc := 424) (xx / 6 % nB s + 1 + xx / 6 / 12 % (nB s - 1)) (nB s) dL_isSewn_424 (by omega) (by omega) rfl rfl ?_
            refine v_istore (pc := 425) dL_isSewn_425 rfl (by decide) ?_
            refine v_aload_n (pc := 427) dL_isSewn_427 rfl rfl ?_
            refine v_iload (pc := 428) dL_isSewn_428 rfl ?_
            refine v_iload (pc := 430) dL_isSewn_430 rfl ?_
            refine vqV (pc := 432) (u := 0) (j := 1) (U := 100) (As := [.int _, .int _]) hW dL_isSewn_432 cw_L_37 im_yX8_bears se_yX8_bears rfl (q_bears _ _ hW hI hq (by unfold kBe; exact if_pos ⟨btw_n hA' (by omega), btw_n hB' (by omega)⟩)) rfl rfl (Nat.le_of_ble_eq_true rfl) ⟨Nat.le_of_ble_eq_true rfl, Nat.le_of_ble_eq_true rfl⟩ ⟨by decide, by decide⟩ ⟨rfl, rfl⟩ (by omega) (fun v G hp => ?_)
            obtain ⟨rfl, hW⟩ := hp
            rw [nat_nI (show xx / 6 % nB s < 2147483648 by omega), nat_nI (show (xx / 6 % nB s + 1 + xx / 6 / 12 % (nB s - 1)) % nB s < 2147483648 by omega)]
            refine v_lstore (pc := 435) dL_isSewn_435 rfl (by decide) ?_
            refine v_iload_n (pc := 437) dL_isSewn_437 rfl rfl ?_
            refine v_bipush (pc := 438) (v := 7) dL_isSewn_438 (by decide) ?_
            refine v_icmp_ge (pc := 440) (tgt := 646) dL_isSewn_440 (by decide) (fun c440 => ?_) (fun c440 => ?_)
            · exact e_rip hR hNC hxx hhow hL ht hA h2B G hW
            · exact e_seam hR hNC hxx hhow hL ht hA h2B G hW
          · exact e_panel hR hNC hxx hhow hL ht hA G hW
      · exact e_sun hR hNC hxx hhow hL ht hA G hW
    · exact e_lot hR hNC hxx hhow hL ht G hW
