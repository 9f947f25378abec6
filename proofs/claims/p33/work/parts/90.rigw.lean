abbrev rm_isRigged : Room := { frames := 10, cells := 2 * 100, slots := 18 * 100, locals := 320 }
theorem sl_n (s : SG) (l : Nat) : ∀ n, slF s l n ≤ n := by
  intro n
  induction n with
  | zero => exact Nat.le_refl _
  | succ n ih => rw [slF]; split <;> omega
theorem n_181 {a : Int32} (h : a ≤ 180) : ¬ 181 ≤ a := fun z => absurd (Int32.le_trans z h) (by decide)
theorem nI_n1 {n : Nat} (h : n < 1000000) : ¬ nI n = -1 := fun z => by
  have := congrArg Int32.toInt z
  rw [nI_toInt (by omega)] at this
  have : (-1 : Int32).toInt = -1 := rfl
  omega
theorem ne_is {x : Int64} (h : (0 : Int64) ≤ x) : ¬ x = -1733000000000 := fun z => by rw [z] at h; exact absurd h (by decide)
theorem w_lt8 {p : Nat} (h : p < 8) : (nI p).toInt64 < 8 := by
  rw [Int64.lt_iff_toInt_lt, Int32.toInt_toInt64, nI_toInt (by omega)]
  have : (8 : Int64).toInt = 8 := rfl
  omega
set_option maxRecDepth 100000 in
set_option maxHeartbeats 400000 in
theorem f_pass {D : DT} {K : KT} {X : XT} {s : SG} {M : MT} {t how xx sz : Nat} {G0 : GT} (hR : Rt rm_isRigged D K (some .boolean) yL_isRigged.name sz G0 (LPq X M (t + 1))) (hNC : NC3 K.2.2.2.1) (hxx : xx < 2147483648) (hhow : how < 100) (hL : LI X s M t) (ht : t < 200) (hA : 0 < nA s) (G : GT) (hW : WD X s M G) : V cL_isRigged yL_isRigged.cls 14 rm_isRigged D K 4 [some (.ref (X.1 0 0)), some (.ref M.1.1), some (.int (nI how)), some (.int (nI xx)), none, none, none, none, none, none, none, none, none, none] [] G (nu 0) := by
  have hI := hL.1
  have hM := hL.2.2.2.2.2.1
  have hC := hL.2.2.2.1
  have hq : 2 * t < 512 := by omega
  obtain ⟨b1, b2, b3, b4, b5, n1, n2, n3, n4, n5⟩ := hI.six hq
  obtain ⟨i1, i2, i3, i4, i5, i6, i7, i8, i9⟩ := INV.num (by omega) hI
  have hkp : kPass s (nI (1 + xx % 90)) = 0 := by
    unfold kPass
    rw [if_pos (show btw (nI (1 + xx % 90)) 1 400 from bt_n (a := 1) (b := 400) (by omega) (by decide)), if_pos]
    have h27 := hL.2.2.2.2.1
    have h0 := i8.1
    rw [Int32.le_iff_toInt_le] at h0
    have : (0 : Int32).toInt = 0 := rfl
    rw [Int32.le_iff_toInt_le, Int32.toInt_add, nI_toInt (by omega)]
    have : (100000 : Int32).toInt = 100000 := rfl
    rw [Int.bmod_eq_of_le (by omega) (by omega)]
    omega
  refine v_iconst (pc := 4) (v := 1) dL_isRigged_4 (by decide) ?_
  refine v_iload_n (pc := 5) dL_isRigged_5 rfl rfl ?_
  refine v_bipush (pc := 6) (v := 90) dL_isRigged_6 (by decide) ?_
  refine v_nrem (pc := 8) (xx) (90) dL_isRigged_8 (by omega) (by decide) rfl rfl ?_
  refine v_iadd (pc := 9) dL_isRigged_9 ?_
  rw [show (1 : Int32) + nI (xx % 90) = nI (1 + xx % 90) from nI_add 1 (xx % 90)]
  refine v_istore (pc := 10) dL_isRigged_10 rfl (by decide) ?_
  refine v_aload_n (pc := 12) dL_isRigged_12 rfl rfl ?_
  refine v_iconst (pc := 13) (v := 5) dL_isRigged_13 (by decide) ?_
  refine v_dup2 (pc := 14) dL_isRigged_14 rfl rfl ?_
  refine vw_m (pc := 15) (j := 5) hW dL_isRigged_15 rfl (by decide) (x := s.1 27 0) hM.2.2.2.2.2 ?_
  refine v_iload (pc := 16) dL_isRigged_16 rfl ?_
  refine v_iadd (pc := 18) dL_isRigged_18 ?_
  refine vw_mS (pc := 19) (j := 5) hW dL_isRigged_19 rfl (by decide) (fun G hW => ?_)
  refine v_aload_n (pc := 20) dL_isRigged_20 rfl rfl ?_
  refine v_bipush (pc := 21) (v := 17) dL_isRigged_21 (by decide) ?_
  refine v_iload (pc := 23) dL_isRigged_23 rfl ?_
  refine v_iconst (pc := 25) (v := 0) dL_isRigged_25 (by decide) ?_
  refine v_iconst (pc := 26) (v := 0) dL_isRigged_26 (by decide) ?_
  refine v_iconst (pc := 27) (v := 0) dL_isRigged_27 (by decide) ?_
  refine vqL (pc := 28) (u := 0) (j := 1) (U := 100) (As := [.ref (X.1 0 0), .int _, .int _, .int _, .int _, .int _]) hNC dL_isRigged_28 ll_act.1 ll_act.2.1 wl_act ll_act.2.2.2 ll_act.2.2.1 (sw_pass _ 0 0 0 hW hI hq hkp) rfl rfl (Nat.le_of_ble_eq_true rfl) ⟨Nat.le_of_ble_eq_true rfl, Nat.le_of_ble_eq_true rfl⟩ ⟨by decide, by decide⟩ ⟨rfl, rfl⟩ (by omega) (fun v G hp => ?_)
  obtain ⟨s1, s', e, rfl, hW, rfl⟩ := hp
  have hL2 := r_pass (d := 1 + xx % 90) hL ht (by omega) e G
  rw [e.1 27 (by decide) (by decide)]
  refine v_aload_n (pc := 31) dL_isRigged_31 rfl rfl ?_
  refine v_iconst (pc := 32) (v := 5) dL_isRigged_32 (by decide) ?_
  refine vw_m (pc := 33) (M := (mS M 5 (s.1 27 0 + nI (1 + xx % 90)))) (j := 5) hW dL_isRigged_33 rfl (by decide) (x := s.1 27 0 + nI (1 + xx % 90)) (mS_at _ _ _) ?_
  refine v_i2l (pc := 34) dL_isRigged_34 ?_
  refine v_lcmp (pc := 35) dL_isRigged_35 ?_
  refine v_if_ne (pc := 36) (tgt := 43) dL_isRigged_36 (by decide) (fun c36 => absurd c36 (d_ne rfl)) (fun c36 => ?_)
  refine v_iconst (pc := 39) (v := 1) dL_isRigged_39 (by decide) ?_
  refine v_goto (pc := 40) (tgt := 44) dL_isRigged_40 (by decide) ?_
  refine vq_zret (pc := 44) (U := 100) hR dL_isRigged_44 rfl ⟨rfl, rfl⟩ (by omega) ?_
  exact ⟨rfl, X, _, (mS M 5 (s.1 27 0 + nI (1 + xx % 90))), rfl, rfl, hW, hL2, fun z => z⟩
set_option maxRecDepth 100000 in
set_option maxHeartbeats 400000 in
theorem f_can {D : DT} {K : KT} {X : XT} {s : SG} {M : MT} {t how xx sz : Nat} {G0 : GT} (hR : Rt rm_isRigged D K (some .boolean) yL_isRigged.name sz G0 (LPq X M (t + 1))) (hNC : NC3 K.2.2.2.1) (hxx : xx < 2147483648) (hhow : how < 100) (hL : LI X s M t) (ht : t < 200) (hA : 0 < nA s) (G : GT) (hW : WD X s M G) : V cL_isRigged yL_isRigged.cls 14 rm_isRigged D K 63 [some (.ref (X.1 0 0)), some (.ref M.1.1), some (.int (nI how)), some (.int (nI xx)), some (.int (nI (xx % nA s))), none, none, none, none, none, none, none, none, none] [] G (nu 0) := by
  have hI := hL.1
  have hM := hL.2.2.2.2.2.1
  have hC := hL.2.2.2.1
  have hq : 2 * t < 512 := by omega
  obtain ⟨b1, b2, b3, b4, b5, n1, n2, n3, n4, n5⟩ := hI.six hq
  obtain ⟨i1, i2, i3, i4, i5, i6, i7, i8, i9⟩ := INV.num (by omega) hI
  have hlt : xx % nA s < nA s := Nat.mod_lt _ hA
  have hA0 : ¬ M.2.1 0 = 0 := by rw [hM.1, n1]; exact nI_ne0 hA (by omega)
  by_cases h6 : nC s = 6
  · refine v_aload_n (pc := 63) dL_isRigged_63 rfl rfl ?_
    refine v_bipush (pc := 64) (v := 18) dL_isRigged_64 (by decide) ?_
    refine v_iload (pc := 66) dL_isRigged_66 rfl ?_
    refine v_iconst (pc := 68) (v := 0) dL_isRigged_68 (by decide) ?_
    refine v_iconst (pc := 69) (v := 0) dL_isRigged_69 (by decide) ?_
    refine v_iconst (pc := 70) (v := 0) dL_isRigged_70 (by decide) ?_
    refine vqL (pc := 71) (u := 0) (j := 1) (U := 100) (As := [.ref (X.1 0 0), .int _, .int _, .int _, .int _, .int _]) hNC dL_isRigged_71 ll_act.1 ll_act.2.1 wl_act ll_act.2.2.2 ll_act.2.2.1 (xIS_canopy _ 0 0 0 hW hI hq (by unfold kCan; rw [if_pos (btw_n hlt (by omega)), if_pos h6])) rfl rfl (Nat.le_of_ble_eq_true rfl) ⟨Nat.le_of_ble_eq_true rfl, Nat.le_of_ble_eq_true rfl⟩ ⟨by decide, by decide⟩ ⟨rfl, rfl⟩ (by omega) (fun v G hp => ?_)
    obtain ⟨rfl, hW⟩ := hp
    refine v_lstore (pc := 74) dL_isRigged_74 rfl (by decide) ?_
    refine v_lload (pc := 76) dL_isRigged_76 rfl ?_
    refine v_aload_n (pc := 78) dL_isRigged_78 rfl rfl ?_
    refine v_iconst (pc := 79) (v := 4) dL_isRigged_79 (by decide) ?_
    refine vw_m (pc := 80) (j := 4) hW dL_isRigged_80 rfl (by decide) (x := nI (nC s)) (hM.2.2.2.2.1.trans n3) ?_
    refine v_bipush (pc := 81) (v := 6) dL_isRigged_81 (by decide) ?_
    refine v_icmp_ne (pc := 83) (tgt := 92) dL_isRigged_83 (by decide) (fun c83 => absurd c83 (fun z => z (by rw [h6]; rfl))) (fun c83 => ?_)
    refine v_ldcL (pc := 86) dL_isRigged_86 k_L_113 ?_
    refine v_goto (pc := 89) (tgt := 96) dL_isRigged_89 (by decide) ?_
    refine v_lcmp (pc := 96) dL_isRigged_96 ?_
    refine v_if_ne (pc := 97) (tgt := 104) dL_isRigged_97 (by decide) (fun c97 => absurd c97 (d_ne rfl)) (fun c97 => ?_)
    refine v_iconst (pc := 100) (v := 1) dL_isRigged_100 (by decide) ?_
    refine v_goto (pc := 101) (tgt := 105) dL_isRigged_101 (by decide) ?_
    refine v_istore (pc := 105) dL_isRigged_105 rfl (by decide) ?_
    refine v_aload_n (pc := 107) dL_isRigged_107 rfl rfl ?_
    refine v_iconst (pc := 108) (v := 4) dL_isRigged_108 (by decide) ?_
    refine v_dup2 (pc := 109) dL_isRigged_109 rfl rfl ?_
    refine vw_m (pc := 110) (j := 4) hW dL_isRigged_110 rfl (by decide) (x := nI (nC s)) (hM.2.2.2.2.1.trans n3) ?_
    refine v_lload (pc := 111) dL_isRigged_111 rfl ?_
    refine v_lconst (pc := 113) (v := 0) dL_isRigged_113 (by decide) ?_
    refine v_lcmp (pc := 114) dL_isRigged_114 ?_
    refine v_if_lt (pc := 115) (tgt := 122) dL_isRigged_115 (by decide) (fun c115 => ?_) (fun c115 => absurd c115 (by decide))
    refine v_iconst (pc := 122) (v := 0) dL_isRigged_122 (by decide) ?_
    refine v_iadd (pc := 123) dL_isRigged_123 ?_
    refine vw_mS (pc := 124) (j := 4) hW dL_isRigged_124 rfl (by decide) (fun G hW => ?_)
    refine v_iload (pc := 125) dL_isRigged_125 rfl ?_
    refine v_if_eq (pc := 127) (tgt := 164) dL_isRigged_127 (by decide) (fun c127 => absurd c127 (by decide)) (fun c127 => ?_)
    refine v_lload (pc := 130) dL_isRigged_130 rfl ?_
    refine v_lconst (pc := 132) (v := 0) dL_isRigged_132 (by decide) ?_
    refine v_lcmp (pc := 133) dL_isRigged_133 ?_
    refine v_if_lt (pc := 134) (tgt := 160) dL_isRigged_134 (by decide) (fun c134 => ?_) (fun c134 => absurd c134 (by decide))
    refine v_iconst (pc := 160) (v := 1) dL_isRigged_160 (by decide) ?_
    refine v_goto (pc := 161) (tgt := 165) dL_isRigged_161 (by decide) ?_
    refine vq_zret (pc := 165) (U := 100) hR dL_isRigged_165 rfl ⟨rfl, rfl⟩ (by omega) ?_
    exact ⟨rfl, X, s, mS M 4 (nI (nC s) + 0), rfl, rfl, hW, by rw [mS_self ((hM.2.2.2.2.1.trans n3).trans (Int32.add_zero _).symm)]; exact hL.up (EQ.rf s) rfl rfl, fun z => z⟩
  · have hk : kCan (nA s) (nC s) (nI (xx % nA s)) = 0 := by unfold kCan; rw [if_pos (btw_n hlt (by omega)), if_neg h6]
    have hnc : nat (nI (nC s)) = nC s := nat_nI (by omega)
    refine v_aload_n (pc := 63) dL_isRigged_63 rfl rfl ?_
    refine v_bipush (pc := 64) (v := 18) dL_isRigged_64 (by decide) ?_
    refine v_iload (pc := 66) dL_isRigged_66 rfl ?_
    refine v_iconst (pc := 68) (v := 0) dL_isRigged_68 (by decide) ?_
    refine v_iconst (pc := 69) (v := 0) dL_isRigged_69 (by decide) ?_
    refine v_iconst (pc := 70) (v := 0) dL_isRigged_70 (by decide) ?_
    refine vqL (pc := 71) (u := 0) (j := 1) (U := 100) (As := [.ref (X.1 0 0), .int _, .int _, .int _, .int _, .int _]) hNC dL_isRigged_71 ll_act.1 ll_act.2.1 wl_act ll_act.2.2.2 ll_act.2.2.1 (sw_canopy _ 0 0 0 hW hI hq hk) rfl rfl (Nat.le_of_ble_eq_true rfl) ⟨Nat.le_of_ble_eq_true rfl, Nat.le_of_ble_eq_true rfl⟩ ⟨by decide, by decide⟩ ⟨rfl, rfl⟩ (by omega) (fun v G hp => ?_)
    obtain ⟨s1, X, s', e, rfl, hW, h0x, rfl, x1, x2⟩ := hp
    rw [← h0x]
    obtain ⟨hL2, eC2, ho2, e29⟩ := r_can (l := xx % nA s) hL ht hlt h6 e G x1 x2
    generalize gCan s1 (nC s1) (nI (xx % nA s)) = S2 at *
    rw [e.nC]
    refine v_lstore (pc := 74) dL_isRigged_74 rfl (by decide) ?_
    refine v_lload (pc := 76) dL_isRigged_76 rfl ?_
    refine v_aload_n (pc := 78) dL_isRigged_78 rfl rfl ?_
    refine v_iconst (pc := 79) (v := 4) dL_isRigged_79 (by decide) ?_
    refine vw_m (pc := 80) (j := 4) hW dL_isRigged_80 rfl (by decide) (x := nI (nC s)) (hM.2.2.2.2.1.trans n3) ?_
    refine v_bipush (pc := 81) (v := 6) dL_isRigged_81 (by decide) ?_
    refine v_icmp_ne (pc := 83) (tgt := 92) dL_isRigged_83 (by decide) (fun c83 => ?_) (fun c83 => absurd c83 (fun z => h6 ((nI_eq (by omega) (by decide)).mp z)))
    refine v_aload_n (pc := 92) dL_isRigged_92 rfl rfl ?_
    refine v_iconst (pc := 93) (v := 4) dL_isRigged_93 (by decide) ?_
    refine vw_m (pc := 94) (j := 4) hW dL_isRigged_94 rfl (by decide) (x := nI (nC s)) (hM.2.2.2.2.1.trans n3) ?_
    refine v_i2l (pc := 95) dL_isRigged_95 ?_
    refine v_lcmp (pc := 96) dL_isRigged_96 ?_
    refine v_if_ne (pc := 97) (tgt := 104) dL_isRigged_97 (by decide) (fun c97 => absurd c97 (d_ne rfl)) (fun c97 => ?_)
    refine v_iconst (pc := 100) (v := 1) dL_isRigged_100 (by decide) ?_
    refine v_goto (pc := 101) (tgt := 105) dL_isRigged_101 (by decide) ?_
    refine v_istore (pc := 105) dL_isRigged_105 rfl (by decide) ?_
    refine v_aload_n (pc := 107) dL_isRigged_107 rfl rfl ?_
    refine v_iconst (pc := 108) (v := 4) dL_isRigged_108 (by decide) ?_
    refine v_dup2 (pc := 109) dL_isRigged_109 rfl rfl ?_
    refine vw_m (pc := 110) (j := 4) hW dL_isRigged_110 rfl (by decide) (x := nI (nC s)) (hM.2.2.2.2.1.trans n3) ?_
    refine v_lload (pc := 111) dL_isRigged_111 rfl ?_
    refine v_lconst (pc := 113) (v := 0) dL_isRigged_113 (by decide) ?_
    refine v_lcmp (pc := 114) dL_isRigged_114 ?_
    refine v_if_lt (pc := 115) (tgt := 122) dL_isRigged_115 (by decide) (fun c115 => absurd c115 (d_lt (w_ge0 (nI_ps (by omega))))) (fun c115 => ?_)
    refine v_iconst (pc := 118) (v := 1) dL_isRigged_118 (by decide) ?_
    refine v_goto (pc := 119) (tgt := 123) dL_isRigged_119 (by decide) ?_
    refine v_iadd (pc := 123) dL_isRigged_123 ?_
    rw [nI_1]
    refine vw_mS (pc := 124) (j := 4) hW dL_isRigged_124 rfl (by decide) (fun G hW => ?_)
    refine v_iload (pc := 125) dL_isRigged_125 rfl ?_
    refine v_if_eq (pc := 127) (tgt := 164) dL_isRigged_127 (by decide) (fun c127 => absurd c127 (by decide)) (fun c127 => ?_)
    refine v_lload (pc := 130) dL_isRigged_130 rfl ?_
    refine v_lconst (pc := 132) (v := 0) dL_isRigged_132 (by decide) ?_
    refine v_lcmp (pc := 133) dL_isRigged_133 ?_
    refine v_if_lt (pc := 134) (tgt := 160) dL_isRigged_134 (by decide) (fun c134 => absurd c134 (d_lt (w_ge0 (nI_ps (by omega))))) (fun c134 => ?_)
    refine v_aload_n (pc := 137) dL_isRigged_137 rfl rfl ?_
    refine v_lload (pc := 138) dL_isRigged_138 rfl ?_
    refine v_l2i (pc := 140) dL_isRigged_140 ?_
    refine vqV (pc := 141) (u := 0 + 1) (j := 1) (U := 100) (As := [.int _]) hW dL_isRigged_141 cw_L_81 im_yX8_opens se_yX8_opens rfl (q_opens _ hW hL2.1 (by omega) (by rw [l2i_n]; exact kop (by omega) (by omega))) rfl rfl (Nat.le_of_ble_eq_true rfl) ⟨Nat.le_of_ble_eq_true rfl, Nat.le_of_ble_eq_true rfl⟩ ⟨by decide, by decide⟩ ⟨rfl, rfl⟩ (by omega) (fun v G hp => ?_)
    obtain ⟨rfl, hW⟩ := hp
    rw [l2i_n, hnc, ho2]
    refine v_if_ne (pc := 144) (tgt := 164) dL_isRigged_144 (by decide) (fun c144 => absurd c144 (by decide)) (fun c144 => ?_)
    refine v_aload_n (pc := 147) dL_isRigged_147 rfl rfl ?_
    refine v_lload (pc := 148) dL_isRigged_148 rfl ?_
    refine v_l2i (pc := 150) dL_isRigged_150 ?_
    refine v_iconst (pc := 151) (v := 0) dL_isRigged_151 (by decide) ?_
    refine vqV (pc := 152) (u := 0 + 1 + 1) (j := 1) (U := 100) (As := [.int _, .int _]) hW dL_isRigged_152 cw_L_97 im_yX8_ofCanopy se_yX8_ofCanopy rfl (q_ofCanopy _ _ hW hL2.1 (by omega) (by rw [l2i_n]; exact kof (by omega) (by omega) (by decide))) rfl rfl (Nat.le_of_ble_eq_true rfl) ⟨Nat.le_of_ble_eq_true rfl, Nat.le_of_ble_eq_true rfl⟩ ⟨by decide, by decide⟩ ⟨rfl, rfl⟩ (by omega) (fun v G hp => ?_)
    obtain ⟨rfl, hW⟩ := hp
    rw [l2i_n, hnc, of_0, e29]
    refine v_iload (pc := 155) dL_isRigged_155 rfl ?_
    refine v_icmp_ne (pc := 157) (tgt := 164) dL_isRigged_157 (by decide) (fun c157 => absurd c157 (fun z => z rfl)) (fun c157 => ?_)
    refine v_iconst (pc := 160) (v := 1) dL_isRigged_160 (by decide) ?_
    refine v_goto (pc := 161) (tgt := 165) dL_isRigged_161 (by decide) ?_
    refine vq_zret (pc := 165) (U := 100) hR dL_isRigged_165 rfl ⟨rfl, rfl⟩ (by omega) ?_
    exact ⟨rfl, X, _, (mS M 4 (nI (nC s + 1))), h0x, rfl, hW, hL2, fun z => z⟩
set_option maxRecDepth 100000 in
set_option maxHeartbeats 1000000 in
theorem f_part {D : DT} {K : KT} {X : XT} {s : SG} {M : MT} {t how xx sz : Nat} {G0 : GT} {hv : Int32} (hR : Rt rm_isRigged D K (some .boolean) yL_isRigged.name sz G0 (LPq X M (t + 1))) (hNC : NC3 K.2.2.2.1) (hxx : xx < 2147483648) (hhow : how < 100) (hL : LI X s M t) (ht : t < 200) (hA : 0 < nA s) (hC0 : 0 < nC s) (hh : s.1 32 (xx / 6 % nC s) = -1 ∧ hv = 0 ∨ ¬ s.1 32 (xx / 6 % nC s) = -1 ∧ hv = 1) (G : GT) (hW : WD X s M G) : V cL_isRigged yL_isRigged.cls 14 rm_isRigged D K 212 [some (.ref (X.1 0 0)), some (.ref M.1.1), some (.int (nI how)), some (.int (nI xx)), some (.int (nI (xx % nA s))), some (.int (nI (xx / 6 % nC s))), some (.int (nI (xx / 36))), some (.int hv), some (.int (opS s (xx / 6 % nC s))), none, none, none, none, none] [] G (nu 3) := by
  have hI := hL.1
  have hM := hL.2.2.2.2.2.1
  have hC := hL.2.2.2.1
  have hq : 2 * t < 512 := by omega
  obtain ⟨b1, b2, b3, b4, b5, n1, n2, n3, n4, n5⟩ := hI.six hq
  obtain ⟨i1, i2, i3, i4, i5, i6, i7, i8, i9⟩ := INV.num (by omega) hI
  have hk : xx / 6 % nC s < nC s := Nat.mod_lt _ (by omega)
  obtain ⟨c1, c2, c3, c4, c5⟩ := hC.2 _ hk
  have hnk : nat (nI (xx / 6 % nC s)) = xx / 6 % nC s := nat_nI (by omega)
  have hbk : btw (nI (xx / 6 % nC s)) 0 (nI (nC s) - 1) := btw_n hk (by omega)
  by_cases h0 : s.1 30 (xx / 6 % nC s) = 8 ∨ ¬ s.1 32 (xx / 6 % nC s) = -1
  · refine v_aload_n (pc := 212) dL_isRigged_212 rfl rfl ?_
    refine v_bipush (pc := 213) (v := 19) dL_isRigged_213 (by decide) ?_
    refine v_iload (pc := 215) dL_isRigged_215 rfl ?_
    refine v_iload (pc := 217) dL_isRigged_217 rfl ?_
    refine v_iconst (pc := 219) (v := 3) dL_isRigged_219 (by decide) ?_
    refine v_nrem (pc := 220) (xx / 36) (3) dL_isRigged_220 (by omega) (by decide) rfl rfl ?_
    refine v_if_ne (pc := 221) (tgt := 228) dL_isRigged_221 (by decide) (fun c221 => ?_) (fun c221 => ?_)
    · refine v_iload (pc := 228) dL_isRigged_228 rfl ?_
      refine v_iconst (pc := 230) (v := 3) dL_isRigged_230 (by decide) ?_
      refine v_ndiv (pc := 231) (xx / 36) 3 dL_isRigged_231 (by omega) (by decide) rfl rfl ?_
      refine v_bipush (pc := 232) (v := 16) dL_isRigged_232 (by decide) ?_
      refine v_nrem (pc := 234) (xx / 36 / 3) (16) dL_isRigged_234 (by omega) (by decide) rfl rfl ?_
      refine v_iconst (pc := 235) (v := 0) dL_isRigged_235 (by decide) ?_
      refine v_iconst (pc := 236) (v := 0) dL_isRigged_236 (by decide) ?_
      refine vqL (pc := 237) (u := 3) (j := 1) (U := 100) (As := [.ref (X.1 0 0), .int _, .int _, .int _, .int _, .int _]) hNC dL_isRigged_237 ll_act.1 ll_act.2.1 wl_act ll_act.2.2.2 ll_act.2.2.1 (xIS_part _ _ 0 0 hW hI hq (by unfold kPart; rw [if_pos hbk, if_pos (show btw (nI (xx / 36 / 3 % 16)) 0 255 from bt_n (a := 0) (b := 255) (by omega) (by decide)), hnk, if_pos h0])) rfl rfl (Nat.le_of_ble_eq_true rfl) ⟨Nat.le_of_ble_eq_true rfl, Nat.le_of_ble_eq_true rfl⟩ ⟨by decide, by decide⟩ ⟨rfl, rfl⟩ (by omega) (fun v G hp => ?_)
      obtain ⟨rfl, hW⟩ := hp
      refine v_lstore (pc := 240) dL_isRigged_240 rfl (by decide) ?_
      refine v_lload (pc := 242) dL_isRigged_242 rfl ?_
      refine v_ldcL (pc := 244) dL_isRigged_244 k_L_113 ?_
      refine v_lcmp (pc := 247) dL_isRigged_247 ?_
      refine v_if_ne (pc := 248) (tgt := 270) dL_isRigged_248 (by decide) (fun c248 => absurd c248 (d_ne rfl)) (fun c248 => ?_)
      refine v_aload_n (pc := 251) dL_isRigged_251 rfl rfl ?_
      refine v_iload (pc := 252) dL_isRigged_252 rfl ?_
      refine vqV (pc := 254) (u := 3 + 1) (j := 1) (U := 100) (As := [.int _]) hW dL_isRigged_254 cw_L_81 im_yX8_opens se_yX8_opens rfl (q_opens _ hW hI hq (kop hk (by omega))) rfl rfl (Nat.le_of_ble_eq_true rfl) ⟨Nat.le_of_ble_eq_true rfl, Nat.le_of_ble_eq_true rfl⟩ ⟨by decide, by decide⟩ ⟨rfl, rfl⟩ (by omega) (fun v G hp => ?_)
      obtain ⟨rfl, hW⟩ := hp
      rw [hnk]
      refine v_iload (pc := 257) dL_isRigged_257 rfl ?_
      refine v_icmp_ne (pc := 259) (tgt := 266) dL_isRigged_259 (by decide) (fun c259 => absurd c259 (fun z => z rfl)) (fun c259 => ?_)
      refine v_iconst (pc := 262) (v := 1) dL_isRigged_262 (by decide) ?_
      refine v_goto (pc := 263) (tgt := 312) dL_isRigged_263 (by decide) ?_
      refine vq_zret (pc := 312) (U := 100) hR dL_isRigged_312 rfl ⟨rfl, rfl⟩ (by omega) ?_
      exact ⟨rfl, X, s, M, rfl, rfl, hW, hL.up (EQ.rf s) rfl rfl, fun z => z⟩
    · refine v_iconst (pc := 224) (v := 0) dL_isRigged_224 (by decide) ?_
      refine v_goto (pc := 225) (tgt := 235) dL_isRigged_225 (by decide) ?_
      refine v_iconst (pc := 235) (v := 0) dL_isRigged_235 (by decide) ?_
      refine v_iconst (pc := 236) (v := 0) dL_isRigged_236 (by decide) ?_
      refine vqL (pc := 237) (u := 3) (j := 1) (U := 100) (As := [.ref (X.1 0 0), .int _, .int _, .int _, .int _, .int _]) hNC dL_isRigged_237 ll_act.1 ll_act.2.1 wl_act ll_act.2.2.2 ll_act.2.2.1 (xIS_part _ _ 0 0 hW hI hq (by unfold kPart; rw [if_pos hbk, if_pos (show btw 0 0 255 by decide), hnk, if_pos h0])) rfl rfl (Nat.le_of_ble_eq_true rfl) ⟨Nat.le_of_ble_eq_true rfl, Nat.le_of_ble_eq_true rfl⟩ ⟨by decide, by decide⟩ ⟨rfl, rfl⟩ (by omega) (fun v G hp => ?_)
      obtain ⟨rfl, hW⟩ := hp
      refine v_lstore (pc := 240) dL_isRigged_240 rfl (by decide) ?_
      refine v_lload (pc := 242) dL_isRigged_242 rfl ?_
      refine v_ldcL (pc := 244) dL_isRigged_244 k_L_113 ?_
      refine v_lcmp (pc := 247) dL_isRigged_247 ?_
      refine v_if_ne (pc := 248) (tgt := 270) dL_isRigged_248 (by decide) (fun c248 => absurd c248 (d_ne rfl)) (fun c248 => ?_)
      refine v_aload_n (pc := 251) dL_isRigged_251 rfl rfl ?_
      refine v_iload (pc := 252) dL_isRigged_252 rfl ?_
      refine vqV (pc := 254) (u := 3 + 1) (j := 1) (U := 100) (As := [.int _]) hW dL_isRigged_254 cw_L_81 im_yX8_opens se_yX8_opens rfl (q_opens _ hW hI hq (kop hk (by omega))) rfl rfl (Nat.le_of_ble_eq_true rfl) ⟨Nat.le_of_ble_eq_true rfl, Nat.le_of_ble_eq_true rfl⟩ ⟨by decide, by decide⟩ ⟨rfl, rfl⟩ (by omega) (fun v G hp => ?_)
      obtain ⟨rfl, hW⟩ := hp
      rw [hnk]
      refine v_iload (pc := 257) dL_isRigged_257 rfl ?_
      refine v_icmp_ne (pc := 259) (tgt := 266) dL_isRigged_259 (by decide) (fun c259 => absurd c259 (fun z => z rfl)) (fun c259 => ?_)
      refine v_iconst (pc := 262) (v := 1) dL_isRigged_262 (by decide) ?_
      refine v_goto (pc := 263) (tgt := 312) dL_isRigged_263 (by decide) ?_
      refine vq_zret (pc := 312) (U := 100) hR dL_isRigged_312 rfl ⟨rfl, rfl⟩ (by omega) ?_
      exact ⟨rfl, X, s, M, rfl, rfl, hW, hL.up (EQ.rf s) rfl rfl, fun z => z⟩
  · have h32 : s.1 32 (xx / 6 % nC s) = -1 := Classical.byContradiction (fun z => h0 (Or.inr z))
    have hv0 : hv = 0 := by
      rcases hh with ⟨-, z⟩ | ⟨z, -⟩
      · exact z
      · exact absurd h32 z
    subst hv0
    refine v_aload_n (pc := 212) dL_isRigged_212 rfl rfl ?_
    refine v_bipush (pc := 213) (v := 19) dL_isRigged_213 (by decide) ?_
    refine v_iload (pc := 215) dL_isRigged_215 rfl ?_
    refine v_iload (pc := 217) dL_isRigged_217 rfl ?_
    refine v_iconst (pc := 219) (v := 3) dL_isRigged_219 (by decide) ?_
    refine v_nrem (pc := 220) (xx / 36) (3) dL_isRigged_220 (by omega) (by decide) rfl rfl ?_
    refine v_if_ne (pc := 221) (tgt := 228) dL_isRigged_221 (by decide) (fun c221 => ?_) (fun c221 => ?_)
    · refine v_iload (pc := 228) dL_isRigged_228 rfl ?_
      refine v_iconst (pc := 230) (v := 3) dL_isRigged_230 (by decide) ?_
      refine v_ndiv (pc := 231) (xx / 36) 3 dL_isRigged_231 (by omega) (by decide) rfl rfl ?_
      refine v_bipush (pc := 232) (v := 16) dL_isRigged_232 (by decide) ?_
      refine v_nrem (pc := 234) (xx / 36 / 3) (16) dL_isRigged_234 (by omega) (by decide) rfl rfl ?_
      refine v_iconst (pc := 235) (v := 0) dL_isRigged_235 (by decide) ?_
      refine v_iconst (pc := 236) (v := 0) dL_isRigged_236 (by decide) ?_
      refine vqL (pc := 237) (u := 3) (j := 1) (U := 100) (As := [.ref (X.1 0 0), .int _, .int _, .int _, .int _, .int _]) hNC dL_isRigged_237 ll_act.1 ll_act.2.1 wl_act ll_act.2.2.2 ll_act.2.2.1 (sw_part _ _ 0 0 hW hI hq (by unfold kPart; rw [if_pos hbk, if_pos (show btw (nI (xx / 36 / 3 % 16)) 0 255 from bt_n (a := 0) (b := 255) (by omega) (by decide)), hnk, if_neg h0])) rfl rfl (Nat.le_of_ble_eq_true rfl) ⟨Nat.le_of_ble_eq_true rfl, Nat.le_of_ble_eq_true rfl⟩ ⟨by decide, by decide⟩ ⟨rfl, rfl⟩ (by omega) (fun v G hp => ?_)
      obtain ⟨s1, s', e, rfl, hW, rfl⟩ := hp
      rw [hnk] at hW
      rw [hnk]
      obtain ⟨hL2, eC2, ho2, p, hp8, e30⟩ := r_part hL ht hk (show btw (nI (xx / 36 / 3 % 16)) 0 255 from bt_n (a := 0) (b := 255) (by omega) (by decide)) h0 e G
      generalize gPart s1 _ _ _ = S2 at *
      rw [e30]
      refine v_lstore (pc := 240) dL_isRigged_240 rfl (by decide) ?_
      refine v_lload (pc := 242) dL_isRigged_242 rfl ?_
      refine v_ldcL (pc := 244) dL_isRigged_244 k_L_113 ?_
      refine v_lcmp (pc := 247) dL_isRigged_247 ?_
      refine v_if_ne (pc := 248) (tgt := 270) dL_isRigged_248 (by decide) (fun c248 => ?_) (fun c248 => absurd c248 (d_eq (ne_is (w_ge0 (nI_ps (by omega))))))
      refine v_lload (pc := 270) dL_isRigged_270 rfl ?_
      refine v_lconst (pc := 272) (v := 0) dL_isRigged_272 (by decide) ?_
      refine v_lcmp (pc := 273) dL_isRigged_273 ?_
      refine v_if_lt (pc := 274) (tgt := 311) dL_isRigged_274 (by decide) (fun c274 => absurd c274 (d_lt (w_ge0 (nI_ps (by omega))))) (fun c274 => ?_)
      refine v_lload (pc := 277) dL_isRigged_277 rfl ?_
      refine v_ldcL (pc := 279) dL_isRigged_279 k_L_183 ?_
      refine v_lcmp (pc := 282) dL_isRigged_282 ?_
      refine v_if_ge (pc := 283) (tgt := 311) dL_isRigged_283 (by decide) (fun c283 => absurd c283 (d_ge (w_lt8 hp8))) (fun c283 => ?_)
      refine v_iload (pc := 286) dL_isRigged_286 rfl ?_
      refine v_if_ne (pc := 288) (tgt := 311) dL_isRigged_288 (by decide) (fun c288 => absurd c288 (by decide)) (fun c288 => ?_)
      refine v_iload (pc := 291) dL_isRigged_291 rfl ?_
      refine v_iconst (pc := 293) (v := (-1)) dL_isRigged_293 (by decide) ?_
      refine v_icmp_ne (pc := 294) (tgt := 307) dL_isRigged_294 (by decide) (fun c294 => ?_) (fun c294 => ?_)
      · refine v_iconst (pc := 307) (v := 1) dL_isRigged_307 (by decide) ?_
        refine v_goto (pc := 308) (tgt := 312) dL_isRigged_308 (by decide) ?_
        refine vq_zret (pc := 312) (U := 100) hR dL_isRigged_312 rfl ⟨rfl, rfl⟩ (by omega) ?_
        exact ⟨rfl, X, _, M, rfl, rfl, hW, hL2, fun z => z⟩
      · refine v_aload_n (pc := 297) dL_isRigged_297 rfl rfl ?_
        refine v_iload (pc := 298) dL_isRigged_298 rfl ?_
        refine vqV (pc := 300) (u := 3 + 1) (j := 1) (U := 100) (As := [.int _]) hW dL_isRigged_300 cw_L_81 im_yX8_opens se_yX8_opens rfl (q_opens _ hW hL2.1 (by omega) (kop (by omega) (by omega))) rfl rfl (Nat.le_of_ble_eq_true rfl) ⟨Nat.le_of_ble_eq_true rfl, Nat.le_of_ble_eq_true rfl⟩ ⟨by decide, by decide⟩ ⟨rfl, rfl⟩ (by omega) (fun v G hp => ?_)
        obtain ⟨rfl, hW⟩ := hp
        rw [hnk, ho2 c294]
        refine v_iconst (pc := 303) (v := (-1)) dL_isRigged_303 (by decide) ?_
        refine v_icmp_ne (pc := 304) (tgt := 311) dL_isRigged_304 (by decide) (fun c304 => absurd c304 (by decide)) (fun c304 => ?_)
        refine v_iconst (pc := 307) (v := 1) dL_isRigged_307 (by decide) ?_
        refine v_goto (pc := 308) (tgt := 312) dL_isRigged_308 (by decide) ?_
        refine vq_zret (pc := 312) (U := 100) hR dL_isRigged_312 rfl ⟨rfl, rfl⟩ (by omega) ?_
        exact ⟨rfl, X, _, M, rfl, rfl, hW, hL2, fun z => z⟩
    · refine v_iconst (pc := 224) (v := 0) dL_isRigged_224 (by decide) ?_
      refine v_goto (pc := 225) (tgt := 235) dL_isRigged_225 (by decide) ?_
      refine v_iconst (pc := 235) (v := 0) dL_isRigged_235 (by decide) ?_
      refine v_iconst (pc := 236) (v := 0) dL_isRigged_236 (by decide) ?_
      refine vqL (pc := 237) (u := 3) (j := 1) (U := 100) (As := [.ref (X.1 0 0), .int _, .int _, .int _, .int _, .int _]) hNC dL_isRigged_237 ll_act.1 ll_act.2.1 wl_act ll_act.2.2.2 ll_act.2.2.1 (sw_part _ _ 0 0 hW hI hq (by unfold kPart; rw [if_pos hbk, if_pos (show btw 0 0 255 by decide), hnk, if_neg h0])) rfl rfl (Nat.le_of_ble_eq_true rfl) ⟨Nat.le_of_ble_eq_true rfl, Nat.le_of_ble_eq_true rfl⟩ ⟨by decide, by decide⟩ ⟨rfl, rfl⟩ (by omega) (fun v G hp => ?_)
      obtain ⟨s1, s', e, rfl, hW, rfl⟩ := hp
      rw [hnk] at hW
      rw [hnk]
      obtain ⟨hL2, eC2, ho2, p, hp8, e30⟩ := r_part hL ht hk (show btw 0 0 255 by decide) h0 e G
      generalize gPart s1 _ _ _ = S2 at *
      rw [e30]
      refine v_lstore (pc := 240) dL_isRigged_240 rfl (by decide) ?_
      refine v_lload (pc := 242) dL_isRigged_242 rfl ?_
      refine v_ldcL (pc := 244) dL_isRigged_244 k_L_113 ?_
      refine v_lcmp (pc := 247) dL_isRigged_247 ?_
      refine v_if_ne (pc := 248) (tgt := 270) dL_isRigged_248 (by decide) (fun c248 => ?_) (fun c248 => absurd c248 (d_eq (ne_is (w_ge0 (nI_ps (by omega))))))
      refine v_lload (pc := 270) dL_isRigged_270 rfl ?_
      refine v_lconst (pc := 272) (v := 0) dL_isRigged_272 (by decide) ?_
      refine v_lcmp (pc := 273) dL_isRigged_273 ?_
      refine v_if_lt (pc := 274) (tgt := 311) dL_isRigged_274 (by decide) (fun c274 => absurd c274 (d_lt (w_ge0 (nI_ps (by omega))))) (fun c274 => ?_)
      refine v_lload (pc := 277) dL_isRigged_277 rfl ?_
      refine v_ldcL (pc := 279) dL_isRigged_279 k_L_183 ?_
      refine v_lcmp (pc := 282) dL_isRigged_282 ?_
      refine v_if_ge (pc := 283) (tgt := 311) dL_isRigged_283 (by decide) (fun c283 => absurd c283 (d_ge (w_lt8 hp8))) (fun c283 => ?_)
      refine v_iload (pc := 286) dL_isRigged_286 rfl ?_
      refine v_if_ne (pc := 288) (tgt := 311) dL_isRigged_288 (by decide) (fun c288 => absurd c288 (by decide)) (fun c288 => ?_)
      refine v_iload (pc := 291) dL_isRigged_291 rfl ?_
      refine v_iconst (pc := 293) (v := (-1)) dL_isRigged_293 (by decide) ?_
      refine v_icmp_ne (pc := 294) (tgt := 307) dL_isRigged_294 (by decide) (fun c294 => ?_) (fun c294 => ?_)
      · refine v_iconst (pc := 307) (v := 1) dL_isRigged_307 (by decide) ?_
        refine v_goto (pc := 308) (tgt := 312) dL_isRigged_308 (by decide) ?_
        refine vq_zret (pc := 312) (U := 100) hR dL_isRigged_312 rfl ⟨rfl, rfl⟩ (by omega) ?_
        exact ⟨rfl, X, _, M, rfl, rfl, hW, hL2, fun z => z⟩
      · refine v_aload_n (pc := 297) dL_isRigged_297 rfl rfl ?_
        refine v_iload (pc := 298) dL_isRigged_298 rfl ?_
        refine vqV (pc := 300) (u := 3 + 1) (j := 1) (U := 100) (As := [.int _]) hW dL_isRigged_300 cw_L_81 im_yX8_opens se_yX8_opens rfl (q_opens _ hW hL2.1 (by omega) (kop (by omega) (by omega))) rfl rfl (Nat.le_of_ble_eq_true rfl) ⟨Nat.le_of_ble_eq_true rfl, Nat.le_of_ble_eq_true rfl⟩ ⟨by decide, by decide⟩ ⟨rfl, rfl⟩ (by omega) (fun v G hp => ?_)
        obtain ⟨rfl, hW⟩ := hp
        rw [hnk, ho2 c294]
        refine v_iconst (pc := 303) (v := (-1)) dL_isRigged_303 (by decide) ?_
        refine v_icmp_ne (pc := 304) (tgt := 311) dL_isRigged_304 (by decide) (fun c304 => absurd c304 (by decide)) (fun c304 => ?_)
        refine v_iconst (pc := 307) (v := 1) dL_isRigged_307 (by decide) ?_
        refine v_goto (pc := 308) (tgt := 312) dL_isRigged_308 (by decide) ?_
        refine vq_zret (pc := 312) (U := 100) hR dL_isRigged_312 rfl ⟨rfl, rfl⟩ (by omega) ?_
        exact ⟨rfl, X, _, M, rfl, rfl, hW, hL2, fun z => z⟩
set_option maxRecDepth 100000 in
set_option maxHeartbeats 1000000 in
theorem f_seal {D : DT} {K : KT} {X : XT} {s : SG} {M : MT} {t how xx sz : Nat} {G0 : GT} {hv : Int32} (hR : Rt rm_isRigged D K (some .boolean) yL_isRigged.name sz G0 (LPq X M (t + 1))) (hNC : NC3 K.2.2.2.1) (hxx : xx < 2147483648) (hhow : how < 100) (hL : LI X s M t) (ht : t < 200) (hA : 0 < nA s) (hC0 : 0 < nC s) (hh : s.1 32 (xx / 6 % nC s) = -1 ∧ hv = 0 ∨ ¬ s.1 32 (xx / 6 % nC s) = -1 ∧ hv = 1) (G : GT) (hW : WD X s M G) : V cL_isRigged yL_isRigged.cls 14 rm_isRigged D K 319 [some (.ref (X.1 0 0)), some (.ref M.1.1), some (.int (nI how)), some (.int (nI xx)), some (.int (nI (xx % nA s))), some (.int (nI (xx / 6 % nC s))), some (.int (nI (xx / 36))), some (.int hv), some (.int (opS s (xx / 6 % nC s))), none, none, none, none, none] [] G (nu 3) := by
  have hI := hL.1
  have hM := hL.2.2.2.2.2.1
  have hC := hL.2.2.2.1
  have hq : 2 * t < 512 := by omega
  obtain ⟨b1, b2, b3, b4, b5, n1, n2, n3, n4, n5⟩ := hI.six hq
  obtain ⟨i1, i2, i3, i4, i5, i6, i7, i8, i9⟩ := INV.num (by omega) hI
  have hk : xx / 6 % nC s < nC s := Nat.mod_lt _ (by omega)
  obtain ⟨c1, c2, c3, c4, c5⟩ := hC.2 _ hk
  have hnk : nat (nI (xx / 6 % nC s)) = xx / 6 % nC s := nat_nI (by omega)
  have hbk : btw (nI (xx / 6 % nC s)) 0 (nI (nC s) - 1) := btw_n hk (by omega)
  have hp4 : btw (nI (xx / 36 % 5)) 0 4 := bt_n (a := 0) (b := 4) (by omega) (by decide)
  by_cases h0 : oSeal s (xx / 6 % nC s)
  · have hv0 : hv = 0 := by
      rcases hh with ⟨-, z⟩ | ⟨z, -⟩
      · exact z
      · exact absurd h0.1 z
    subst hv0
    obtain ⟨p, l, q1, q2, q3, q4⟩ := i5.2.2.2.2.1 _ hk
    have hpo : 0 < opS s (xx / 6 % nC s) := by
      have z := h0.2.2.1
      rw [q2] at z
      exact op_pos q2 ⟨(nI_ltI (a := 0) (by decide) (by omega)).mp z, q1⟩ h0.2.2.2.1
    have h34 : 0 ≤ s.1 34 (xx / 6 % nC s) + 1 := by
      obtain ⟨z, u, w, v, z1, z2, z3, z4, z5, z6, z7, z8⟩ := c3
      rw [z1, nI_1]; exact nI_ps (by omega)
    refine v_aload_n (pc := 319) dL_isRigged_319 rfl rfl ?_
    refine v_iload (pc := 320) dL_isRigged_320 rfl ?_
    refine v_iconst (pc := 322) (v := 3) dL_isRigged_322 (by decide) ?_
    refine vqV (pc := 323) (u := 3) (j := 1) (U := 100) (As := [.int _, .int _]) hW dL_isRigged_323 cw_L_97 im_yX8_ofCanopy se_yX8_ofCanopy rfl (q_ofCanopy _ _ hW hI hq (kof hk (by omega) (by decide))) rfl rfl (Nat.le_of_ble_eq_true rfl) ⟨Nat.le_of_ble_eq_true rfl, Nat.le_of_ble_eq_true rfl⟩ ⟨by decide, by decide⟩ ⟨rfl, rfl⟩ (by omega) (fun v G hp => ?_)
    obtain ⟨rfl, hW⟩ := hp
    rw [hnk, of_3]
    refine v_istore (pc := 326) dL_isRigged_326 rfl (by decide) ?_
    refine v_aload_n (pc := 328) dL_isRigged_328 rfl rfl ?_
    refine v_bipush (pc := 329) (v := 21) dL_isRigged_329 (by decide) ?_
    refine v_iload (pc := 331) dL_isRigged_331 rfl ?_
    refine v_iload (pc := 333) dL_isRigged_333 rfl ?_
    refine v_iconst (pc := 335) (v := 5) dL_isRigged_335 (by decide) ?_
    refine v_nrem (pc := 336) (xx / 36) (5) dL_isRigged_336 (by omega) (by decide) rfl rfl ?_
    refine v_iconst (pc := 337) (v := 0) dL_isRigged_337 (by decide) ?_
    refine v_iconst (pc := 338) (v := 0) dL_isRigged_338 (by decide) ?_
    refine vqL (pc := 339) (u := 3 + 1) (j := 1) (U := 100) (As := [.ref (X.1 0 0), .int _, .int _, .int _, .int _, .int _]) hNC dL_isRigged_339 ll_act.1 ll_act.2.1 wl_act ll_act.2.2.2 ll_act.2.2.1 (sw_seal _ _ 0 0 hW hI hq (by unfold kSeal; rw [if_pos ⟨hbk, hp4⟩, hnk, if_pos h0])) rfl rfl (Nat.le_of_ble_eq_true rfl) ⟨Nat.le_of_ble_eq_true rfl, Nat.le_of_ble_eq_true rfl⟩ ⟨by decide, by decide⟩ ⟨rfl, rfl⟩ (by omega) (fun v G hp => ?_)
    obtain ⟨s1, s', e, rfl, hW, rfl⟩ := hp
    rw [hnk] at hW
    rw [hnk, e.1 34 (by decide) (by decide)]
    obtain ⟨hI2, hC2, f2, s32, s33, s3⟩ := r_seal hL ht hk hp4 h0 e G
    generalize noteS _ _ 3 _ = S2 at *
    have eC2 := f2.nC
    have e27 : S2.1 27 0 = s.1 27 0 := by rw [f2.1 27 (by decide) (by decide)]
    refine v_lstore (pc := 342) dL_isRigged_342 rfl (by decide) ?_
    refine v_lload (pc := 344) dL_isRigged_344 rfl ?_
    refine v_ldcL (pc := 346) dL_isRigged_346 k_L_113 ?_
    refine v_lcmp (pc := 349) dL_isRigged_349 ?_
    refine v_if_ne (pc := 350) (tgt := 373) dL_isRigged_350 (by decide) (fun c350 => ?_) (fun c350 => absurd c350 (d_eq (ne_is (w_ge0 h34))))
    refine v_lload (pc := 373) dL_isRigged_373 rfl ?_
    refine v_iload (pc := 375) dL_isRigged_375 rfl ?_
    refine v_iconst (pc := 377) (v := 1) dL_isRigged_377 (by decide) ?_
    refine v_iadd (pc := 378) dL_isRigged_378 ?_
    refine v_i2l (pc := 379) dL_isRigged_379 ?_
    refine v_lcmp (pc := 380) dL_isRigged_380 ?_
    refine v_if_ne (pc := 381) (tgt := 452) dL_isRigged_381 (by decide) (fun c381 => absurd c381 (d_ne rfl)) (fun c381 => ?_)
    refine v_iload (pc := 384) dL_isRigged_384 rfl ?_
    refine v_if_ne (pc := 386) (tgt := 452) dL_isRigged_386 (by decide) (fun c386 => absurd c386 (by decide)) (fun c386 => ?_)
    refine v_iload (pc := 389) dL_isRigged_389 rfl ?_
    refine v_if_le (pc := 391) (tgt := 452) dL_isRigged_391 (by decide) (fun c391 => absurd c391 (n_nle.mpr hpo)) (fun c391 => ?_)
    refine v_aload_n (pc := 394) dL_isRigged_394 rfl rfl ?_
    refine v_iload (pc := 395) dL_isRigged_395 rfl ?_
    refine v_iconst (pc := 397) (v := 1) dL_isRigged_397 (by decide) ?_
    refine vqV (pc := 398) (u := 3 + 1 + 1) (j := 1) (U := 100) (As := [.int _, .int _]) hW dL_isRigged_398 cw_L_97 im_yX8_ofCanopy se_yX8_ofCanopy rfl (q_ofCanopy _ _ hW hI2 (by omega) (kof (by rw [eC2]; exact hk) (by omega) (by decide))) rfl rfl (Nat.le_of_ble_eq_true rfl) ⟨Nat.le_of_ble_eq_true rfl, Nat.le_of_ble_eq_true rfl⟩ ⟨by decide, by decide⟩ ⟨rfl, rfl⟩ (by omega) (fun v G hp => ?_)
    obtain ⟨rfl, hW⟩ := hp
    rw [hnk, of_1, s32]
    refine v_iload (pc := 401) dL_isRigged_401 rfl ?_
    refine v_iconst (pc := 403) (v := 5) dL_isRigged_403 (by decide) ?_
    refine v_nrem (pc := 404) (xx / 36) (5) dL_isRigged_404 (by omega) (by decide) rfl rfl ?_
    refine v_icmp_ne (pc := 405) (tgt := 452) dL_isRigged_405 (by decide) (fun c405 => absurd c405 (fun z => z rfl)) (fun c405 => ?_)
    refine v_aload_n (pc := 408) dL_isRigged_408 rfl rfl ?_
    refine v_iload (pc := 409) dL_isRigged_409 rfl ?_
    refine v_iconst (pc := 411) (v := 2) dL_isRigged_411 (by decide) ?_
    refine vqV (pc := 412) (u := 3 + 1 + 1 + 1) (j := 1) (U := 100) (As := [.int _, .int _]) hW dL_isRigged_412 cw_L_97 im_yX8_ofCanopy se_yX8_ofCanopy rfl (q_ofCanopy _ _ hW hI2 (by omega) (kof (by rw [eC2]; exact hk) (by omega) (by decide))) rfl rfl (Nat.le_of_ble_eq_true rfl) ⟨Nat.le_of_ble_eq_true rfl, Nat.le_of_ble_eq_true rfl⟩ ⟨by decide, by decide⟩ ⟨rfl, rfl⟩ (by omega) (fun v G hp => ?_)
    obtain ⟨rfl, hW⟩ := hp
    rw [hnk, of_2, s33]
    refine v_aload_n (pc := 415) dL_isRigged_415 rfl rfl ?_
    refine v_iconst (pc := 416) (v := 5) dL_isRigged_416 (by decide) ?_
    refine vw_m (pc := 417) (j := 5) hW dL_isRigged_417 rfl (by decide) (x := s.1 27 0) hM.2.2.2.2.2 ?_
    refine v_icmp_ne (pc := 418) (tgt := 452) dL_isRigged_418 (by decide) (fun c418 => absurd c418 (fun z => z rfl)) (fun c418 => ?_)
    refine v_iload (pc := 421) dL_isRigged_421 rfl ?_
    refine v_iconst (pc := 423) (v := 2) dL_isRigged_423 (by decide) ?_
    refine v_nrem (pc := 424) (xx / 36) (2) dL_isRigged_424 (by omega) (by decide) rfl rfl ?_
    refine v_if_eq (pc := 425) (tgt := 448) dL_isRigged_425 (by decide) (fun c425 => ?_) (fun c425 => ?_)
    · refine v_iconst (pc := 448) (v := 1) dL_isRigged_448 (by decide) ?_
      refine v_goto (pc := 449) (tgt := 453) dL_isRigged_449 (by decide) ?_
      refine vq_zret (pc := 453) (U := 100) hR dL_isRigged_453 rfl ⟨rfl, rfl⟩ (by omega) ?_
      first | exact ⟨rfl, X, _, M, rfl, rfl, hW, hL.fr (hI3.up (by omega)) hC3 (f2.tr f3), fun z => z⟩ | exact ⟨rfl, X, _, M, rfl, rfl, hW, hL.fr (hI2.up (by omega)) hC2 f2, fun z => z⟩
    · refine v_aload_n (pc := 428) dL_isRigged_428 rfl rfl ?_
      refine v_bipush (pc := 429) (v := 22) dL_isRigged_429 (by decide) ?_
      refine v_iload (pc := 431) dL_isRigged_431 rfl ?_
      refine v_iconst (pc := 433) (v := 0) dL_isRigged_433 (by decide) ?_
      refine v_iconst (pc := 434) (v := 0) dL_isRigged_434 (by decide) ?_
      refine v_iconst (pc := 435) (v := 0) dL_isRigged_435 (by decide) ?_
      refine vqL (pc := 436) (u := 3 + 1 + 1 + 1 + 1) (j := 1) (U := 100) (As := [.ref (X.1 0 0), .int _, .int _, .int _, .int _, .int _]) hNC dL_isRigged_436 ll_act.1 ll_act.2.1 wl_act ll_act.2.2.2 ll_act.2.2.1 (sw_use _ 0 0 0 hW hI2 (by omega) (by unfold kUse; rw [hnk, eC2, if_pos hbk, if_pos ⟨by rw [s32]; exact nI_n1 (by omega), by rw [s33, e27, Int32.sub_self]; decide, s3⟩])) rfl rfl (Nat.le_of_ble_eq_true rfl) ⟨Nat.le_of_ble_eq_true rfl, Nat.le_of_ble_eq_true rfl⟩ ⟨by decide, by decide⟩ ⟨rfl, rfl⟩ (by omega) (fun v G hp => ?_)
      obtain ⟨s2, s', e2, rfl, hW, rfl⟩ := hp
      rw [hnk] at hW
      rw [hnk, e2.1 32 (by decide) (by decide), s32]
      obtain ⟨hI3, hC3, f3, -, -⟩ := r_use hI2 (by omega) hC2 (by rw [eC2]; exact hk) (by rw [s32]; exact nI_n1 (by omega)) e2 M G
      generalize noteS _ _ 4 _ = S3 at *
      refine v_iload (pc := 439) dL_isRigged_439 rfl ?_
      refine v_iconst (pc := 441) (v := 5) dL_isRigged_441 (by decide) ?_
      refine v_nrem (pc := 442) (xx / 36) (5) dL_isRigged_442 (by omega) (by decide) rfl rfl ?_
      refine v_i2l (pc := 443) dL_isRigged_443 ?_
      refine v_lcmp (pc := 444) dL_isRigged_444 ?_
      refine v_if_ne (pc := 445) (tgt := 452) dL_isRigged_445 (by decide) (fun c445 => absurd c445 (d_ne rfl)) (fun c445 => ?_)
      refine v_iconst (pc := 448) (v := 1) dL_isRigged_448 (by decide) ?_
      refine v_goto (pc := 449) (tgt := 453) dL_isRigged_449 (by decide) ?_
      refine vq_zret (pc := 453) (U := 100) hR dL_isRigged_453 rfl ⟨rfl, rfl⟩ (by omega) ?_
      first | exact ⟨rfl, X, _, M, rfl, rfl, hW, hL.fr (hI3.up (by omega)) hC3 (f2.tr f3), fun z => z⟩ | exact ⟨rfl, X, _, M, rfl, rfl, hW, hL.fr (hI2.up (by omega)) hC2 f2, fun z => z⟩
  · refine v_aload_n (pc := 319) dL_isRigged_319 rfl rfl ?_
    refine v_iload (pc := 320) dL_isRigged_320 rfl ?_
    refine v_iconst (pc := 322) (v := 3) dL_isRigged_322 (by decide) ?_
    refine vqV (pc := 323) (u := 3) (j := 1) (U := 100) (As := [.int _, .int _]) hW dL_isRigged_323 cw_L_97 im_yX8_ofCanopy se_yX8_ofCanopy rfl (q_ofCanopy _ _ hW hI hq (kof hk (by omega) (by decide))) rfl rfl (Nat.le_of_ble_eq_true rfl) ⟨Nat.le_of_ble_eq_true rfl, Nat.le_of_ble_eq_true rfl⟩ ⟨by decide, by decide⟩ ⟨rfl, rfl⟩ (by omega) (fun v G hp => ?_)
    obtain ⟨rfl, hW⟩ := hp
    rw [hnk, of_3]
    refine v_istore (pc := 326) dL_isRigged_326 rfl (by decide) ?_
    refine v_aload_n (pc := 328) dL_isRigged_328 rfl rfl ?_
    refine v_bipush (pc := 329) (v := 21) dL_isRigged_329 (by decide) ?_
    refine v_iload (pc := 331) dL_isRigged_331 rfl ?_
    refine v_iload (pc := 333) dL_isRigged_333 rfl ?_
    refine v_iconst (pc := 335) (v := 5) dL_isRigged_335 (by decide) ?_
    refine v_nrem (pc := 336) (xx / 36) (5) dL_isRigged_336 (by omega) (by decide) rfl rfl ?_
    refine v_iconst (pc := 337) (v := 0) dL_isRigged_337 (by decide) ?_
    refine v_iconst (pc := 338) (v := 0) dL_isRigged_338 (by decide) ?_
    refine vqL (pc := 339) (u := 3 + 1) (j := 1) (U := 100) (As := [.ref (X.1 0 0), .int _, .int _, .int _, .int _, .int _]) hNC dL_isRigged_339 ll_act.1 ll_act.2.1 wl_act ll_act.2.2.2 ll_act.2.2.1 (xIS_seal _ _ 0 0 hW hI hq (by unfold kSeal; rw [if_pos ⟨hbk, hp4⟩, hnk, if_neg h0])) rfl rfl (Nat.le_of_ble_eq_true rfl) ⟨Nat.le_of_ble_eq_true rfl, Nat.le_of_ble_eq_true rfl⟩ ⟨by decide, by decide⟩ ⟨rfl, rfl⟩ (by omega) (fun v G hp => ?_)
    obtain ⟨rfl, hW⟩ := hp
    refine v_lstore (pc := 342) dL_isRigged_342 rfl (by decide) ?_
    refine v_lload (pc := 344) dL_isRigged_344 rfl ?_
    refine v_ldcL (pc := 346) dL_isRigged_346 k_L_113 ?_
    refine v_lcmp (pc := 349) dL_isRigged_349 ?_
    refine v_if_ne (pc := 350) (tgt := 373) dL_isRigged_350 (by decide) (fun c350 => absurd c350 (d_ne rfl)) (fun c350 => ?_)
    refine v_aload_n (pc := 353) dL_isRigged_353 rfl rfl ?_
    refine v_iload (pc := 354) dL_isRigged_354 rfl ?_
    refine v_iconst (pc := 356) (v := 3) dL_isRigged_356 (by decide) ?_
    refine vqV (pc := 357) (u := 3 + 1 + 1) (j := 1) (U := 100) (As := [.int _, .int _]) hW dL_isRigged_357 cw_L_97 im_yX8_ofCanopy se_yX8_ofCanopy rfl (q_ofCanopy _ _ hW hI hq (kof hk (by omega) (by decide))) rfl rfl (Nat.le_of_ble_eq_true rfl) ⟨Nat.le_of_ble_eq_true rfl, Nat.le_of_ble_eq_true rfl⟩ ⟨by decide, by decide⟩ ⟨rfl, rfl⟩ (by omega) (fun v G hp => ?_)
    obtain ⟨rfl, hW⟩ := hp
    rw [hnk, of_3]
    refine v_iload (pc := 360) dL_isRigged_360 rfl ?_
    refine v_icmp_ne (pc := 362) (tgt := 369) dL_isRigged_362 (by decide) (fun c362 => absurd c362 (fun z => z rfl)) (fun c362 => ?_)
    refine v_iconst (pc := 365) (v := 1) dL_isRigged_365 (by decide) ?_
    refine v_goto (pc := 366) (tgt := 453) dL_isRigged_366 (by decide) ?_
    refine vq_zret (pc := 453) (U := 100) hR dL_isRigged_453 rfl ⟨rfl, rfl⟩ (by omega) ?_
    exact ⟨rfl, X, s, M, rfl, rfl, hW, hL.up (EQ.rf s) rfl rfl, fun z => z⟩
set_option maxRecDepth 100000 in
set_option maxHeartbeats 1000000 in
theorem f_use {D : DT} {K : KT} {X : XT} {s : SG} {M : MT} {t how xx sz : Nat} {G0 : GT} {hv : Int32} (hR : Rt rm_isRigged D K (some .boolean) yL_isRigged.name sz G0 (LPq X M (t + 1))) (hNC : NC3 K.2.2.2.1) (hxx : xx < 2147483648) (hhow : how < 100) (hL : LI X s M t) (ht : t < 200) (hA : 0 < nA s) (hC0 : 0 < nC s) (hh : s.1 32 (xx / 6 % nC s) = -1 ∧ hv = 0 ∨ ¬ s.1 32 (xx / 6 % nC s) = -1 ∧ hv = 1) (G : GT) (hW : WD X s M G) : V cL_isRigged yL_isRigged.cls 14 rm_isRigged D K 460 [some (.ref (X.1 0 0)), some (.ref M.1.1), some (.int (nI how)), some (.int (nI xx)), some (.int (nI (xx % nA s))), some (.int (nI (xx / 6 % nC s))), some (.int (nI (xx / 36))), some (.int hv), some (.int (opS s (xx / 6 % nC s))), none, none, none, none, none] [] G (nu 3) := by
  have hI := hL.1
  have hM := hL.2.2.2.2.2.1
  have hC := hL.2.2.2.1
  have hq : 2 * t < 512 := by omega
  obtain ⟨b1, b2, b3, b4, b5, n1, n2, n3, n4, n5⟩ := hI.six hq
  obtain ⟨i1, i2, i3, i4, i5, i6, i7, i8, i9⟩ := INV.num (by omega) hI
  have hk : xx / 6 % nC s < nC s := Nat.mod_lt _ (by omega)
  obtain ⟨c1, c2, c3, c4, c5⟩ := hC.2 _ hk
  have hnk : nat (nI (xx / 6 % nC s)) = xx / 6 % nC s := nat_nI (by omega)
  have hbk : btw (nI (xx / 6 % nC s)) 0 (nI (nC s) - 1) := btw_n hk (by omega)
  by_cases h0 : oUse s (xx / 6 % nC s)
  · have hv1 : hv = 1 := by
      rcases hh with ⟨z, -⟩ | ⟨-, z⟩
      · exact absurd z h0.1
      · exact z
    subst hv1
    have h32 : 0 ≤ s.1 32 (xx / 6 % nC s) := by
      rcases c1 with z | z
      · exact absurd z h0.1
      · exact z.1
    refine v_aload_n (pc := 460) dL_isRigged_460 rfl rfl ?_
    refine v_iload (pc := 461) dL_isRigged_461 rfl ?_
    refine v_iconst (pc := 463) (v := 1) dL_isRigged_463 (by decide) ?_
    refine vqV (pc := 464) (u := 3) (j := 1) (U := 100) (As := [.int _, .int _]) hW dL_isRigged_464 cw_L_97 im_yX8_ofCanopy se_yX8_ofCanopy rfl (q_ofCanopy _ _ hW hI hq (kof hk (by omega) (by decide))) rfl rfl (Nat.le_of_ble_eq_true rfl) ⟨Nat.le_of_ble_eq_true rfl, Nat.le_of_ble_eq_true rfl⟩ ⟨by decide, by decide⟩ ⟨rfl, rfl⟩ (by omega) (fun v G hp => ?_)
    obtain ⟨rfl, hW⟩ := hp
    rw [hnk, of_1]
    refine v_istore (pc := 467) dL_isRigged_467 rfl (by decide) ?_
    refine v_aload_n (pc := 469) dL_isRigged_469 rfl rfl ?_
    refine v_iconst (pc := 470) (v := 5) dL_isRigged_470 (by decide) ?_
    refine vw_m (pc := 471) (j := 5) hW dL_isRigged_471 rfl (by decide) (x := s.1 27 0) hM.2.2.2.2.2 ?_
    refine v_aload_n (pc := 472) dL_isRigged_472 rfl rfl ?_
    refine v_iload (pc := 473) dL_isRigged_473 rfl ?_
    refine v_iconst (pc := 475) (v := 2) dL_isRigged_475 (by decide) ?_
    refine vqV (pc := 476) (u := 3 + 1) (j := 1) (U := 100) (As := [.int _, .int _]) hW dL_isRigged_476 cw_L_97 im_yX8_ofCanopy se_yX8_ofCanopy rfl (q_ofCanopy _ _ hW hI hq (kof hk (by omega) (by decide))) rfl rfl (Nat.le_of_ble_eq_true rfl) ⟨Nat.le_of_ble_eq_true rfl, Nat.le_of_ble_eq_true rfl⟩ ⟨by decide, by decide⟩ ⟨rfl, rfl⟩ (by omega) (fun v G hp => ?_)
    obtain ⟨rfl, hW⟩ := hp
    rw [hnk, of_2]
    refine v_isub (pc := 479) dL_isRigged_479 ?_
    refine v_istore (pc := 480) dL_isRigged_480 rfl (by decide) ?_
    refine v_aload_n (pc := 482) dL_isRigged_482 rfl rfl ?_
    refine v_iload (pc := 483) dL_isRigged_483 rfl ?_
    refine v_iconst (pc := 485) (v := 4) dL_isRigged_485 (by decide) ?_
    refine vqV (pc := 486) (u := 3 + 1 + 1) (j := 1) (U := 100) (As := [.int _, .int _]) hW dL_isRigged_486 cw_L_97 im_yX8_ofCanopy se_yX8_ofCanopy rfl (q_ofCanopy _ _ hW hI hq (kof hk (by omega) (by decide))) rfl rfl (Nat.le_of_ble_eq_true rfl) ⟨Nat.le_of_ble_eq_true rfl, Nat.le_of_ble_eq_true rfl⟩ ⟨by decide, by decide⟩ ⟨rfl, rfl⟩ (by omega) (fun v G hp => ?_)
    obtain ⟨rfl, hW⟩ := hp
    rw [hnk, of_4]
    refine v_istore (pc := 489) dL_isRigged_489 rfl (by decide) ?_
    refine v_aload_n (pc := 491) dL_isRigged_491 rfl rfl ?_
    refine v_bipush (pc := 492) (v := 22) dL_isRigged_492 (by decide) ?_
    refine v_iload (pc := 494) dL_isRigged_494 rfl ?_
    refine v_iconst (pc := 496) (v := 0) dL_isRigged_496 (by decide) ?_
    refine v_iconst (pc := 497) (v := 0) dL_isRigged_497 (by decide) ?_
    refine v_iconst (pc := 498) (v := 0) dL_isRigged_498 (by decide) ?_
    refine vqL (pc := 499) (u := 3 + 1 + 1 + 1) (j := 1) (U := 100) (As := [.ref (X.1 0 0), .int _, .int _, .int _, .int _, .int _]) hNC dL_isRigged_499 ll_act.1 ll_act.2.1 wl_act ll_act.2.2.2 ll_act.2.2.1 (sw_use _ 0 0 0 hW hI hq (by unfold kUse; rw [if_pos hbk, hnk, if_pos h0])) rfl rfl (Nat.le_of_ble_eq_true rfl) ⟨Nat.le_of_ble_eq_true rfl, Nat.le_of_ble_eq_true rfl⟩ ⟨by decide, by decide⟩ ⟨rfl, rfl⟩ (by omega) (fun v G hp => ?_)
    obtain ⟨s1, s', e, rfl, hW, rfl⟩ := hp
    rw [hnk] at hW
    rw [hnk, e.1 32 (by decide) (by decide)]
    obtain ⟨hI2, hC2, f2, s32, s35⟩ := r_use hI hq hC hk h0.1 e M G
    generalize noteS _ _ 4 _ = S2 at *
    have eC2 := f2.nC
    refine v_lstore (pc := 502) dL_isRigged_502 rfl (by decide) ?_
    refine v_lload (pc := 504) dL_isRigged_504 rfl ?_
    refine v_ldcL (pc := 506) dL_isRigged_506 k_L_113 ?_
    refine v_lcmp (pc := 509) dL_isRigged_509 ?_
    refine v_if_ne (pc := 510) (tgt := 534) dL_isRigged_510 (by decide) (fun c510 => ?_) (fun c510 => absurd c510 (d_eq (ne_is (w_ge0 h32))))
    refine v_iload (pc := 534) dL_isRigged_534 rfl ?_
    refine v_if_eq (pc := 536) (tgt := 585) dL_isRigged_536 (by decide) (fun c536 => absurd c536 (by decide)) (fun c536 => ?_)
    refine v_iload (pc := 539) dL_isRigged_539 rfl ?_
    refine v_sipush (pc := 541) (v := 181) dL_isRigged_541 (by decide) ?_
    refine v_icmp_ge (pc := 544) (tgt := 585) dL_isRigged_544 (by decide) (fun c544 => absurd c544 (n_181 h0.2.1)) (fun c544 => ?_)
    refine v_lload (pc := 547) dL_isRigged_547 rfl ?_
    refine v_iload (pc := 549) dL_isRigged_549 rfl ?_
    refine v_i2l (pc := 551) dL_isRigged_551 ?_
    refine v_lcmp (pc := 552) dL_isRigged_552 ?_
    refine v_if_ne (pc := 553) (tgt := 585) dL_isRigged_553 (by decide) (fun c553 => absurd c553 (d_ne rfl)) (fun c553 => ?_)
    refine v_aload_n (pc := 556) dL_isRigged_556 rfl rfl ?_
    refine v_iload (pc := 557) dL_isRigged_557 rfl ?_
    refine v_iconst (pc := 559) (v := 1) dL_isRigged_559 (by decide) ?_
    refine vqV (pc := 560) (u := 3 + 1 + 1 + 1 + 1) (j := 1) (U := 100) (As := [.int _, .int _]) hW dL_isRigged_560 cw_L_97 im_yX8_ofCanopy se_yX8_ofCanopy rfl (q_ofCanopy _ _ hW hI2 (by omega) (kof (by rw [eC2]; exact hk) (by omega) (by decide))) rfl rfl (Nat.le_of_ble_eq_true rfl) ⟨Nat.le_of_ble_eq_true rfl, Nat.le_of_ble_eq_true rfl⟩ ⟨by decide, by decide⟩ ⟨rfl, rfl⟩ (by omega) (fun v G hp => ?_)
    obtain ⟨rfl, hW⟩ := hp
    rw [hnk, of_1, s32]
    refine v_iconst (pc := 563) (v := (-1)) dL_isRigged_563 (by decide) ?_
    refine v_icmp_ne (pc := 564) (tgt := 585) dL_isRigged_564 (by decide) (fun c564 => absurd c564 (fun z => z rfl)) (fun c564 => ?_)
    refine v_aload_n (pc := 567) dL_isRigged_567 rfl rfl ?_
    refine v_iload (pc := 568) dL_isRigged_568 rfl ?_
    refine v_iconst (pc := 570) (v := 4) dL_isRigged_570 (by decide) ?_
    refine vqV (pc := 571) (u := 3 + 1 + 1 + 1 + 1 + 1) (j := 1) (U := 100) (As := [.int _, .int _]) hW dL_isRigged_571 cw_L_97 im_yX8_ofCanopy se_yX8_ofCanopy rfl (q_ofCanopy _ _ hW hI2 (by omega) (kof (by rw [eC2]; exact hk) (by omega) (by decide))) rfl rfl (Nat.le_of_ble_eq_true rfl) ⟨Nat.le_of_ble_eq_true rfl, Nat.le_of_ble_eq_true rfl⟩ ⟨by decide, by decide⟩ ⟨rfl, rfl⟩ (by omega) (fun v G hp => ?_)
    obtain ⟨rfl, hW⟩ := hp
    rw [hnk, of_4, s35]
    refine v_iload (pc := 574) dL_isRigged_574 rfl ?_
    refine v_iconst (pc := 576) (v := 1) dL_isRigged_576 (by decide) ?_
    refine v_iadd (pc := 577) dL_isRigged_577 ?_
    refine v_icmp_ne (pc := 578) (tgt := 585) dL_isRigged_578 (by decide) (fun c578 => absurd c578 (fun z => z rfl)) (fun c578 => ?_)
    refine v_iconst (pc := 581) (v := 1) dL_isRigged_581 (by decide) ?_
    refine v_goto (pc := 582) (tgt := 586) dL_isRigged_582 (by decide) ?_
    refine vq_zret (pc := 586) (U := 100) hR dL_isRigged_586 rfl ⟨rfl, rfl⟩ (by omega) ?_
    exact ⟨rfl, X, _, M, rfl, rfl, hW, hL.fr (hI2.up (by omega)) hC2 f2, fun z => z⟩
  · rcases hh with ⟨h32, rfl⟩ | ⟨h32, rfl⟩
    · refine v_aload_n (pc := 460) dL_isRigged_460 rfl rfl ?_
      refine v_iload (pc := 461) dL_isRigged_461 rfl ?_
      refine v_iconst (pc := 463) (v := 1) dL_isRigged_463 (by decide) ?_
      refine vqV (pc := 464) (u := 3) (j := 1) (U := 100) (As := [.int _, .int _]) hW dL_isRigged_464 cw_L_97 im_yX8_ofCanopy se_yX8_ofCanopy rfl (q_ofCanopy _ _ hW hI hq (kof hk (by omega) (by decide))) rfl rfl (Nat.le_of_ble_eq_true rfl) ⟨Nat.le_of_ble_eq_true rfl, Nat.le_of_ble_eq_true rfl⟩ ⟨by decide, by decide⟩ ⟨rfl, rfl⟩ (by omega) (fun v G hp => ?_)
      obtain ⟨rfl, hW⟩ := hp
      rw [hnk, of_1]
      refine v_istore (pc := 467) dL_isRigged_467 rfl (by decide) ?_
      refine v_aload_n (pc := 469) dL_isRigged_469 rfl rfl ?_
      refine v_iconst (pc := 470) (v := 5) dL_isRigged_470 (by decide) ?_
      refine vw_m (pc := 471) (j := 5) hW dL_isRigged_471 rfl (by decide) (x := s.1 27 0) hM.2.2.2.2.2 ?_
      refine v_aload_n (pc := 472) dL_isRigged_472 rfl rfl ?_
      refine v_iload (pc := 473) dL_isRigged_473 rfl ?_
      refine v_iconst (pc := 475) (v := 2) dL_isRigged_475 (by decide) ?_
      refine vqV (pc := 476) (u := 3 + 1) (j := 1) (U := 100) (As := [.int _, .int _]) hW dL_isRigged_476 cw_L_97 im_yX8_ofCanopy se_yX8_ofCanopy rfl (q_ofCanopy _ _ hW hI hq (kof hk (by omega) (by decide))) rfl rfl (Nat.le_of_ble_eq_true rfl) ⟨Nat.le_of_ble_eq_true rfl, Nat.le_of_ble_eq_true rfl⟩ ⟨by decide, by decide⟩ ⟨rfl, rfl⟩ (by omega) (fun v G hp => ?_)
      obtain ⟨rfl, hW⟩ := hp
      rw [hnk, of_2]
      refine v_isub (pc := 479) dL_isRigged_479 ?_
      refine v_istore (pc := 480) dL_isRigged_480 rfl (by decide) ?_
      refine v_aload_n (pc := 482) dL_isRigged_482 rfl rfl ?_
      refine v_iload (pc := 483) dL_isRigged_483 rfl ?_
      refine v_iconst (pc := 485) (v := 4) dL_isRigged_485 (by decide) ?_
      refine vqV (pc := 486) (u := 3 + 1 + 1) (j := 1) (U := 100) (As := [.int _, .int _]) hW dL_isRigged_486 cw_L_97 im_yX8_ofCanopy se_yX8_ofCanopy rfl (q_ofCanopy _ _ hW hI hq (kof hk (by omega) (by decide))) rfl rfl (Nat.le_of_ble_eq_true rfl) ⟨Nat.le_of_ble_eq_true rfl, Nat.le_of_ble_eq_true rfl⟩ ⟨by decide, by decide⟩ ⟨rfl, rfl⟩ (by omega) (fun v G hp => ?_)
      obtain ⟨rfl, hW⟩ := hp
      rw [hnk, of_4]
      refine v_istore (pc := 489) dL_isRigged_489 rfl (by decide) ?_
      refine v_aload_n (pc := 491) dL_isRigged_491 rfl rfl ?_
      refine v_bipush (pc := 492) (v := 22) dL_isRigged_492 (by decide) ?_
      refine v_iload (pc := 494) dL_isRigged_494 rfl ?_
      refine v_iconst (pc := 496) (v := 0) dL_isRigged_496 (by decide) ?_
      refine v_iconst (pc := 497) (v := 0) dL_isRigged_497 (by decide) ?_
      refine v_iconst (pc := 498) (v := 0) dL_isRigged_498 (by decide) ?_
      refine vqL (pc := 499) (u := 3 + 1 + 1 + 1) (j := 1) (U := 100) (As := [.ref (X.1 0 0), .int _, .int _, .int _, .int _, .int _]) hNC dL_isRigged_499 ll_act.1 ll_act.2.1 wl_act ll_act.2.2.2 ll_act.2.2.1 (xIS_use _ 0 0 0 hW hI hq (by unfold kUse; rw [if_pos hbk, hnk, if_neg h0])) rfl rfl (Nat.le_of_ble_eq_true rfl) ⟨Nat.le_of_ble_eq_true rfl, Nat.le_of_ble_eq_true rfl⟩ ⟨by decide, by decide⟩ ⟨rfl, rfl⟩ (by omega) (fun v G hp => ?_)
      obtain ⟨rfl, hW⟩ := hp
      refine v_lstore (pc := 502) dL_isRigged_502 rfl (by decide) ?_
      refine v_lload (pc := 504) dL_isRigged_504 rfl ?_
      refine v_ldcL (pc := 506) dL_isRigged_506 k_L_113 ?_
      refine v_lcmp (pc := 509) dL_isRigged_509 ?_
      refine v_if_ne (pc := 510) (tgt := 534) dL_isRigged_510 (by decide) (fun c510 => absurd c510 (d_ne rfl)) (fun c510 => ?_)
      refine v_iload (pc := 513) dL_isRigged_513 rfl ?_
      refine v_if_eq (pc := 515) (tgt := 526) dL_isRigged_515 (by decide) (fun c515 => ?_) (fun c515 => absurd c515 (by decide))
      refine v_iconst (pc := 526) (v := 1) dL_isRigged_526 (by decide) ?_
      refine v_goto (pc := 527) (tgt := 586) dL_isRigged_527 (by decide) ?_
      refine vq_zret (pc := 586) (U := 100) hR dL_isRigged_586 rfl ⟨rfl, rfl⟩ (by omega) ?_
      exact ⟨rfl, X, s, M, rfl, rfl, hW, hL.up (EQ.rf s) rfl rfl, fun z => z⟩
    · have h33 : ¬ s.1 27 0 - s.1 33 (xx / 6 % nC s) ≤ 180 := fun z => by
        have z33 : ¬ s.1 33 (xx / 6 % nC s) = -1 := fun y => h32 ((i5.2.2.2.2.2 _ hk).mpr y)
        exact h0 ⟨h32, z, Classical.byContradiction (fun y => z33 (c5 y))⟩
      refine v_aload_n (pc := 460) dL_isRigged_460 rfl rfl ?_
      refine v_iload (pc := 461) dL_isRigged_461 rfl ?_
      refine v_iconst (pc := 463) (v := 1) dL_isRigged_463 (by decide) ?_
      refine vqV (pc := 464) (u := 3) (j := 1) (U := 100) (As := [.int _, .int _]) hW dL_isRigged_464 cw_L_97 im_yX8_ofCanopy se_yX8_ofCanopy rfl (q_ofCanopy _ _ hW hI hq (kof hk (by omega) (by decide))) rfl rfl (Nat.le_of_ble_eq_true rfl) ⟨Nat.le_of_ble_eq_true rfl, Nat.le_of_ble_eq_true rfl⟩ ⟨by decide, by decide⟩ ⟨rfl, rfl⟩ (by omega) (fun v G hp => ?_)
      obtain ⟨rfl, hW⟩ := hp
      rw [hnk, of_1]
      refine v_istore (pc := 467) dL_isRigged_467 rfl (by decide) ?_
      refine v_aload_n (pc := 469) dL_isRigged_469 rfl rfl ?_
      refine v_iconst (pc := 470) (v := 5) dL_isRigged_470 (by decide) ?_
      refine vw_m (pc := 471) (j := 5) hW dL_isRigged_471 rfl (by decide) (x := s.1 27 0) hM.2.2.2.2.2 ?_
      refine v_aload_n (pc := 472) dL_isRigged_472 rfl rfl ?_
      refine v_iload (pc := 473) dL_isRigged_473 rfl ?_
      refine v_iconst (pc := 475) (v := 2) dL_isRigged_475 (by decide) ?_
      refine vqV (pc := 476) (u := 3 + 1) (j := 1) (U := 100) (As := [.int _, .int _]) hW dL_isRigged_476 cw_L_97 im_yX8_ofCanopy se_yX8_ofCanopy rfl (q_ofCanopy _ _ hW hI hq (kof hk (by omega) (by decide))) rfl rfl (Nat.le_of_ble_eq_true rfl) ⟨Nat.le_of_ble_eq_true rfl, Nat.le_of_ble_eq_true rfl⟩ ⟨by decide, by decide⟩ ⟨rfl, rfl⟩ (by omega) (fun v G hp => ?_)
      obtain ⟨rfl, hW⟩ := hp
      rw [hnk, of_2]
      refine v_isub (pc := 479) dL_isRigged_479 ?_
      refine v_istore (pc := 480) dL_isRigged_480 rfl (by decide) ?_
      refine v_aload_n (pc := 482) dL_isRigged_482 rfl rfl ?_
      refine v_iload (pc := 483) dL_isRigged_483 rfl ?_
      refine v_iconst (pc := 485) (v := 4) dL_isRigged_485 (by decide) ?_
      refine vqV (pc := 486) (u := 3 + 1 + 1) (j := 1) (U := 100) (As := [.int _, .int _]) hW dL_isRigged_486 cw_L_97 im_yX8_ofCanopy se_yX8_ofCanopy rfl (q_ofCanopy _ _ hW hI hq (kof hk (by omega) (by decide))) rfl rfl (Nat.le_of_ble_eq_true rfl) ⟨Nat.le_of_ble_eq_true rfl, Nat.le_of_ble_eq_true rfl⟩ ⟨by decide, by decide⟩ ⟨rfl, rfl⟩ (by omega) (fun v G hp => ?_)
      obtain ⟨rfl, hW⟩ := hp
      rw [hnk, of_4]
      refine v_istore (pc := 489) dL_isRigged_489 rfl (by decide) ?_
      refine v_aload_n (pc := 491) dL_isRigged_491 rfl rfl ?_
      refine v_bipush (pc := 492) (v := 22) dL_isRigged_492 (by decide) ?_
      refine v_iload (pc := 494) dL_isRigged_494 rfl ?_
      refine v_iconst (pc := 496) (v := 0) dL_isRigged_496 (by decide) ?_
      refine v_iconst (pc := 497) (v := 0) dL_isRigged_497 (by decide) ?_
      refine v_iconst (pc := 498) (v := 0) dL_isRigged_498 (by decide) ?_
      refine vqL (pc := 499) (u := 3 + 1 + 1 + 1) (j := 1) (U := 100) (As := [.ref (X.1 0 0), .int _, .int _, .int _, .int _, .int _]) hNC dL_isRigged_499 ll_act.1 ll_act.2.1 wl_act ll_act.2.2.2 ll_act.2.2.1 (xIS_use _ 0 0 0 hW hI hq (by unfold kUse; rw [if_pos hbk, hnk, if_neg h0])) rfl rfl (Nat.le_of_ble_eq_true rfl) ⟨Nat.le_of_ble_eq_true rfl, Nat.le_of_ble_eq_true rfl⟩ ⟨by decide, by decide⟩ ⟨rfl, rfl⟩ (by omega) (fun v G hp => ?_)
      obtain ⟨rfl, hW⟩ := hp
      refine v_lstore (pc := 502) dL_isRigged_502 rfl (by decide) ?_
      refine v_lload (pc := 504) dL_isRigged_504 rfl ?_
      refine v_ldcL (pc := 506) dL_isRigged_506 k_L_113 ?_
      refine v_lcmp (pc := 509) dL_isRigged_509 ?_
      refine v_if_ne (pc := 510) (tgt := 534) dL_isRigged_510 (by decide) (fun c510 => absurd c510 (d_ne rfl)) (fun c510 => ?_)
      refine v_iload (pc := 513) dL_isRigged_513 rfl ?_
      refine v_if_eq (pc := 515) (tgt := 526) dL_isRigged_515 (by decide) (fun c515 => absurd c515 (by decide)) (fun c515 => ?_)
      refine v_iload (pc := 518) dL_isRigged_518 rfl ?_
      refine v_sipush (pc := 520) (v := 180) dL_isRigged_520 (by decide) ?_
      refine v_icmp_le (pc := 523) (tgt := 530) dL_isRigged_523 (by decide) (fun c523 => absurd c523 h33) (fun c523 => ?_)
      refine v_iconst (pc := 526) (v := 1) dL_isRigged_526 (by decide) ?_
      refine v_goto (pc := 527) (tgt := 586) dL_isRigged_527 (by decide) ?_
      refine vq_zret (pc := 586) (U := 100) hR dL_isRigged_586 rfl ⟨rfl, rfl⟩ (by omega) ?_
      exact ⟨rfl, X, s, M, rfl, rfl, hW, hL.up (EQ.rf s) rfl rfl, fun z => z⟩
set_option maxRecDepth 100000 in
set_option maxHeartbeats 1000000 in
theorem f_wet {D : DT} {K : KT} {X : XT} {s : SG} {M : MT} {t how xx sz : Nat} {G0 : GT} {hv : Int32} (hR : Rt rm_isRigged D K (some .boolean) yL_isRigged.name sz G0 (LPq X M (t + 1))) (hNC : NC3 K.2.2.2.1) (hxx : xx < 2147483648) (hhow : how < 100) (hL : LI X s M t) (ht : t < 200) (hA : 0 < nA s) (hC0 : 0 < nC s) (hh : s.1 32 (xx / 6 % nC s) = -1 ∧ hv = 0 ∨ ¬ s.1 32 (xx / 6 % nC s) = -1 ∧ hv = 1) (G : GT) (hW : WD X s M G) : V cL_isRigged yL_isRigged.cls 14 rm_isRigged D K 593 [some (.ref (X.1 0 0)), some (.ref M.1.1), some (.int (nI how)), some (.int (nI xx)), some (.int (nI (xx % nA s))), some (.int (nI (xx / 6 % nC s))), some (.int (nI (xx / 36))), some (.int hv), some (.int (opS s (xx / 6 % nC s))), none, none, none, none, none] [] G (nu 3) := by
  have hI := hL.1
  have hM := hL.2.2.2.2.2.1
  have hC := hL.2.2.2.1
  have hq : 2 * t < 512 := by omega
  obtain ⟨b1, b2, b3, b4, b5, n1, n2, n3, n4, n5⟩ := hI.six hq
  obtain ⟨i1, i2, i3, i4, i5, i6, i7, i8, i9⟩ := INV.num (by omega) hI
  have hk : xx / 6 % nC s < nC s := Nat.mod_lt _ (by omega)
  obtain ⟨c1, c2, c3, c4, c5⟩ := hC.2 _ hk
  have hnk : nat (nI (xx / 6 % nC s)) = xx / 6 % nC s := nat_nI (by omega)
  have hbk : btw (nI (xx / 6 % nC s)) 0 (nI (nC s) - 1) := btw_n hk (by omega)
  by_cases hy : xx / 36 % 2 = 0
  · have ey : nI (xx / 36 % 2) = 0 := by rw [hy]; rfl
    rcases hh with ⟨h32, rfl⟩ | ⟨h32, rfl⟩
    · refine v_aload_n (pc := 593) dL_isRigged_593 rfl rfl ?_
      refine v_iload (pc := 594) dL_isRigged_594 rfl ?_
      refine v_iconst (pc := 596) (v := 5) dL_isRigged_596 (by decide) ?_
      refine vqV (pc := 597) (u := 3) (j := 1) (U := 100) (As := [.int _, .int _]) hW dL_isRigged_597 cw_L_97 im_yX8_ofCanopy se_yX8_ofCanopy rfl (q_ofCanopy _ _ hW hI hq (kof hk (by omega) (by decide))) rfl rfl (Nat.le_of_ble_eq_true rfl) ⟨Nat.le_of_ble_eq_true rfl, Nat.le_of_ble_eq_true rfl⟩ ⟨by decide, by decide⟩ ⟨rfl, rfl⟩ (by omega) (fun v G hp => ?_)
      obtain ⟨rfl, hW⟩ := hp
      rw [hnk, of_5]
      refine v_istore (pc := 600) dL_isRigged_600 rfl (by decide) ?_
      refine v_aload_n (pc := 602) dL_isRigged_602 rfl rfl ?_
      refine v_bipush (pc := 603) (v := 23) dL_isRigged_603 (by decide) ?_
      refine v_iload (pc := 605) dL_isRigged_605 rfl ?_
      refine v_iload (pc := 607) dL_isRigged_607 rfl ?_
      refine v_iconst (pc := 609) (v := 2) dL_isRigged_609 (by decide) ?_
      refine v_nrem (pc := 610) (xx / 36) 2 dL_isRigged_610 (by omega) (by decide) rfl rfl ?_
      rw [ey]
      refine v_iconst (pc := 611) (v := 0) dL_isRigged_611 (by decide) ?_
      refine v_iconst (pc := 612) (v := 0) dL_isRigged_612 (by decide) ?_
      refine vqL (pc := 613) (u := 3 + 1) (j := 1) (U := 100) (As := [.ref (X.1 0 0), .int _, .int _, .int _, .int _, .int _]) hNC dL_isRigged_613 ll_act.1 ll_act.2.1 wl_act ll_act.2.2.2 ll_act.2.2.1 (sw_wet0 _ 0 0 hW hI hq (by unfold kWet; rw [if_pos hbk, hnk, if_pos h32])) rfl rfl (Nat.le_of_ble_eq_true rfl) ⟨Nat.le_of_ble_eq_true rfl, Nat.le_of_ble_eq_true rfl⟩ ⟨by decide, by decide⟩ ⟨rfl, rfl⟩ (by omega) (fun v G hp => ?_)
      obtain ⟨s1, s', e, rfl, hW, rfl⟩ := hp
      rw [if_pos rfl, hnk] at hW
      rw [hnk]
      obtain ⟨hL2, eC2, e36, w1, w2⟩ := r_wet hL ht hk e G
      generalize noteS _ _ 5 _ = S2 at *
      refine v_lstore (pc := 616) dL_isRigged_616 rfl (by decide) ?_
      refine v_iload (pc := 618) dL_isRigged_618 rfl ?_
      refine v_if_eq (pc := 620) (tgt := 640) dL_isRigged_620 (by decide) (fun c620 => ?_) (fun c620 => absurd c620 (by decide))
      refine v_iload (pc := 640) dL_isRigged_640 rfl ?_
      refine v_iconst (pc := 642) (v := 2) dL_isRigged_642 (by decide) ?_
      refine v_nrem (pc := 643) (xx / 36) 2 dL_isRigged_643 (by omega) (by decide) rfl rfl ?_
      rw [ey]
      refine v_iconst (pc := 644) (v := 1) dL_isRigged_644 (by decide) ?_
      refine v_icmp_ne (pc := 645) (tgt := 675) dL_isRigged_645 (by decide) (fun c645 => ?_) (fun c645 => absurd c645 (by decide))
      refine v_lload (pc := 675) dL_isRigged_675 rfl ?_
      refine v_lconst (pc := 677) (v := 0) dL_isRigged_677 (by decide) ?_
      refine v_lcmp (pc := 678) dL_isRigged_678 ?_
      refine v_if_le (pc := 679) (tgt := 711) dL_isRigged_679 (by decide) (fun c679 => absurd c679 (d_le w1)) (fun c679 => ?_)
      refine v_lload (pc := 682) dL_isRigged_682 rfl ?_
      refine v_iload (pc := 684) dL_isRigged_684 rfl ?_
      refine v_iconst (pc := 686) (v := 1) dL_isRigged_686 (by decide) ?_
      refine v_iadd (pc := 687) dL_isRigged_687 ?_
      refine v_i2l (pc := 688) dL_isRigged_688 ?_
      refine v_lcmp (pc := 689) dL_isRigged_689 ?_
      refine v_if_gt (pc := 690) (tgt := 711) dL_isRigged_690 (by decide) (fun c690 => absurd c690 (d_gt w2)) (fun c690 => ?_)
      refine v_aload_n (pc := 693) dL_isRigged_693 rfl rfl ?_
      refine v_iload (pc := 694) dL_isRigged_694 rfl ?_
      refine v_iconst (pc := 696) (v := 5) dL_isRigged_696 (by decide) ?_
      refine vqV (pc := 697) (u := 3 + 1 + 1) (j := 1) (U := 100) (As := [.int _, .int _]) hW dL_isRigged_697 cw_L_97 im_yX8_ofCanopy se_yX8_ofCanopy rfl (q_ofCanopy _ _ hW hL2.1 (by omega) (kof (by rw [eC2]; exact hk) (by omega) (by decide))) rfl rfl (Nat.le_of_ble_eq_true rfl) ⟨Nat.le_of_ble_eq_true rfl, Nat.le_of_ble_eq_true rfl⟩ ⟨by decide, by decide⟩ ⟨rfl, rfl⟩ (by omega) (fun v G hp => ?_)
      obtain ⟨rfl, hW⟩ := hp
      rw [hnk, of_5, e36]
      refine v_iload (pc := 700) dL_isRigged_700 rfl ?_
      refine v_iconst (pc := 702) (v := 1) dL_isRigged_702 (by decide) ?_
      refine v_iadd (pc := 703) dL_isRigged_703 ?_
      refine v_icmp_ne (pc := 704) (tgt := 711) dL_isRigged_704 (by decide) (fun c704 => absurd c704 (fun z => z rfl)) (fun c704 => ?_)
      refine v_iconst (pc := 707) (v := 1) dL_isRigged_707 (by decide) ?_
      refine v_goto (pc := 708) (tgt := 712) dL_isRigged_708 (by decide) ?_
      refine vq_zret (pc := 712) (U := 100) hR dL_isRigged_712 rfl ⟨rfl, rfl⟩ (by omega) ?_
      exact ⟨rfl, X, _, M, rfl, rfl, hW, hL2, fun z => z⟩
    · refine v_aload_n (pc := 593) dL_isRigged_593 rfl rfl ?_
      refine v_iload (pc := 594) dL_isRigged_594 rfl ?_
      refine v_iconst (pc := 596) (v := 5) dL_isRigged_596 (by decide) ?_
      refine vqV (pc := 597) (u := 3) (j := 1) (U := 100) (As := [.int _, .int _]) hW dL_isRigged_597 cw_L_97 im_yX8_ofCanopy se_yX8_ofCanopy rfl (q_ofCanopy _ _ hW hI hq (kof hk (by omega) (by decide))) rfl rfl (Nat.le_of_ble_eq_true rfl) ⟨Nat.le_of_ble_eq_true rfl, Nat.le_of_ble_eq_true rfl⟩ ⟨by decide, by decide⟩ ⟨rfl, rfl⟩ (by omega) (fun v G hp => ?_)
      obtain ⟨rfl, hW⟩ := hp
      rw [hnk, of_5]
      refine v_istore (pc := 600) dL_isRigged_600 rfl (by decide) ?_
      refine v_aload_n (pc := 602) dL_isRigged_602 rfl rfl ?_
      refine v_bipush (pc := 603) (v := 23) dL_isRigged_603 (by decide) ?_
      refine v_iload (pc := 605) dL_isRigged_605 rfl ?_
      refine v_iload (pc := 607) dL_isRigged_607 rfl ?_
      refine v_iconst (pc := 609) (v := 2) dL_isRigged_609 (by decide) ?_
      refine v_nrem (pc := 610) (xx / 36) 2 dL_isRigged_610 (by omega) (by decide) rfl rfl ?_
      rw [ey]
      refine v_iconst (pc := 611) (v := 0) dL_isRigged_611 (by decide) ?_
      refine v_iconst (pc := 612) (v := 0) dL_isRigged_612 (by decide) ?_
      refine vqL (pc := 613) (u := 3 + 1) (j := 1) (U := 100) (As := [.ref (X.1 0 0), .int _, .int _, .int _, .int _, .int _]) hNC dL_isRigged_613 ll_act.1 ll_act.2.1 wl_act ll_act.2.2.2 ll_act.2.2.1 (xIS_wet0 _ 0 0 hW hI hq (by unfold kWet; rw [if_pos hbk, hnk, if_neg h32])) rfl rfl (Nat.le_of_ble_eq_true rfl) ⟨Nat.le_of_ble_eq_true rfl, Nat.le_of_ble_eq_true rfl⟩ ⟨by decide, by decide⟩ ⟨rfl, rfl⟩ (by omega) (fun v G hp => ?_)
      obtain ⟨rfl, hW⟩ := hp
      refine v_lstore (pc := 616) dL_isRigged_616 rfl (by decide) ?_
      refine v_iload (pc := 618) dL_isRigged_618 rfl ?_
      refine v_if_eq (pc := 620) (tgt := 640) dL_isRigged_620 (by decide) (fun c620 => absurd c620 (by decide)) (fun c620 => ?_)
      refine v_lload (pc := 623) dL_isRigged_623 rfl ?_
      refine v_ldcL (pc := 625) dL_isRigged_625 k_L_113 ?_
      refine v_lcmp (pc := 628) dL_isRigged_628 ?_
      refine v_if_ne (pc := 629) (tgt := 636) dL_isRigged_629 (by decide) (fun c629 => absurd c629 (d_ne rfl)) (fun c629 => ?_)
      refine v_iconst (pc := 632) (v := 1) dL_isRigged_632 (by decide) ?_
      refine v_goto (pc := 633) (tgt := 712) dL_isRigged_633 (by decide) ?_
      refine vq_zret (pc := 712) (U := 100) hR dL_isRigged_712 rfl ⟨rfl, rfl⟩ (by omega) ?_
      exact ⟨rfl, X, s, M, rfl, rfl, hW, hL.up (EQ.rf s) rfl rfl, fun z => z⟩
  · have ey : nI (xx / 36 % 2) = 1 := by rw [show xx / 36 % 2 = 1 by omega]; rfl
    rcases hh with ⟨h32, rfl⟩ | ⟨h32, rfl⟩
    · refine v_aload_n (pc := 593) dL_isRigged_593 rfl rfl ?_
      refine v_iload (pc := 594) dL_isRigged_594 rfl ?_
      refine v_iconst (pc := 596) (v := 5) dL_isRigged_596 (by decide) ?_
      refine vqV (pc := 597) (u := 3) (j := 1) (U := 100) (As := [.int _, .int _]) hW dL_isRigged_597 cw_L_97 im_yX8_ofCanopy se_yX8_ofCanopy rfl (q_ofCanopy _ _ hW hI hq (kof hk (by omega) (by decide))) rfl rfl (Nat.le_of_ble_eq_true rfl) ⟨Nat.le_of_ble_eq_true rfl, Nat.le_of_ble_eq_true rfl⟩ ⟨by decide, by decide⟩ ⟨rfl, rfl⟩ (by omega) (fun v G hp => ?_)
      obtain ⟨rfl, hW⟩ := hp
      rw [hnk, of_5]
      refine v_istore (pc := 600) dL_isRigged_600 rfl (by decide) ?_
      refine v_aload_n (pc := 602) dL_isRigged_602 rfl rfl ?_
      refine v_bipush (pc := 603) (v := 23) dL_isRigged_603 (by decide) ?_
      refine v_iload (pc := 605) dL_isRigged_605 rfl ?_
      refine v_iload (pc := 607) dL_isRigged_607 rfl ?_
      refine v_iconst (pc := 609) (v := 2) dL_isRigged_609 (by decide) ?_
      refine v_nrem (pc := 610) (xx / 36) 2 dL_isRigged_610 (by omega) (by decide) rfl rfl ?_
      rw [ey]
      refine v_iconst (pc := 611) (v := 0) dL_isRigged_611 (by decide) ?_
      refine v_iconst (pc := 612) (v := 0) dL_isRigged_612 (by decide) ?_
      refine vqL (pc := 613) (u := 3 + 1) (j := 1) (U := 100) (As := [.ref (X.1 0 0), .int _, .int _, .int _, .int _, .int _]) hNC dL_isRigged_613 ll_act.1 ll_act.2.1 wl_act ll_act.2.2.2 ll_act.2.2.1 (sw_wet1 _ 0 0 hW hI hq (by unfold kWet; rw [if_pos hbk, hnk, if_pos h32])) rfl rfl (Nat.le_of_ble_eq_true rfl) ⟨Nat.le_of_ble_eq_true rfl, Nat.le_of_ble_eq_true rfl⟩ ⟨by decide, by decide⟩ ⟨rfl, rfl⟩ (by omega) (fun v G hp => ?_)
      obtain ⟨s1, s', e, rfl, hW, rfl⟩ := hp
      rw [if_neg (by decide), hnk] at hW
      rw [hnk]
      obtain ⟨hL2, eC2, e36, e37⟩ := r_air hL ht hk e G
      rw [e37]
      generalize sI _ 37 _ 0 = S2 at *
      refine v_lstore (pc := 616) dL_isRigged_616 rfl (by decide) ?_
      refine v_iload (pc := 618) dL_isRigged_618 rfl ?_
      refine v_if_eq (pc := 620) (tgt := 640) dL_isRigged_620 (by decide) (fun c620 => ?_) (fun c620 => absurd c620 (by decide))
      refine v_iload (pc := 640) dL_isRigged_640 rfl ?_
      refine v_iconst (pc := 642) (v := 2) dL_isRigged_642 (by decide) ?_
      refine v_nrem (pc := 643) (xx / 36) 2 dL_isRigged_643 (by omega) (by decide) rfl rfl ?_
      rw [ey]
      refine v_iconst (pc := 644) (v := 1) dL_isRigged_644 (by decide) ?_
      refine v_icmp_ne (pc := 645) (tgt := 675) dL_isRigged_645 (by decide) (fun c645 => absurd c645 (by decide)) (fun c645 => ?_)
      refine v_lload (pc := 648) dL_isRigged_648 rfl ?_
      refine v_lconst (pc := 650) (v := 0) dL_isRigged_650 (by decide) ?_
      refine v_lcmp (pc := 651) dL_isRigged_651 ?_
      refine v_if_ne (pc := 652) (tgt := 671) dL_isRigged_652 (by decide) (fun c652 => absurd c652 (d_ne rfl)) (fun c652 => ?_)
      refine v_aload_n (pc := 655) dL_isRigged_655 rfl rfl ?_
      refine v_iload (pc := 656) dL_isRigged_656 rfl ?_
      refine v_iconst (pc := 658) (v := 5) dL_isRigged_658 (by decide) ?_
      refine vqV (pc := 659) (u := 3 + 1 + 1) (j := 1) (U := 100) (As := [.int _, .int _]) hW dL_isRigged_659 cw_L_97 im_yX8_ofCanopy se_yX8_ofCanopy rfl (q_ofCanopy _ _ hW hL2.1 (by omega) (kof (by rw [eC2]; exact hk) (by omega) (by decide))) rfl rfl (Nat.le_of_ble_eq_true rfl) ⟨Nat.le_of_ble_eq_true rfl, Nat.le_of_ble_eq_true rfl⟩ ⟨by decide, by decide⟩ ⟨rfl, rfl⟩ (by omega) (fun v G hp => ?_)
      obtain ⟨rfl, hW⟩ := hp
      rw [hnk, of_5, e36]
      refine v_iload (pc := 662) dL_isRigged_662 rfl ?_
      refine v_icmp_ne (pc := 664) (tgt := 671) dL_isRigged_664 (by decide) (fun c664 => absurd c664 (fun z => z rfl)) (fun c664 => ?_)
      refine v_iconst (pc := 667) (v := 1) dL_isRigged_667 (by decide) ?_
      refine v_goto (pc := 668) (tgt := 712) dL_isRigged_668 (by decide) ?_
      refine vq_zret (pc := 712) (U := 100) hR dL_isRigged_712 rfl ⟨rfl, rfl⟩ (by omega) ?_
      exact ⟨rfl, X, _, M, rfl, rfl, hW, hL2, fun z => z⟩
    · refine v_aload_n (pc := 593) dL_isRigged_593 rfl rfl ?_
      refine v_iload (pc := 594) dL_isRigged_594 rfl ?_
      refine v_iconst (pc := 596) (v := 5) dL_isRigged_596 (by decide) ?_
      refine vqV (pc := 597) (u := 3) (j := 1) (U := 100) (As := [.int _, .int _]) hW dL_isRigged_597 cw_L_97 im_yX8_ofCanopy se_yX8_ofCanopy rfl (q_ofCanopy _ _ hW hI hq (kof hk (by omega) (by decide))) rfl rfl (Nat.le_of_ble_eq_true rfl) ⟨Nat.le_of_ble_eq_true rfl, Nat.le_of_ble_eq_true rfl⟩ ⟨by decide, by decide⟩ ⟨rfl, rfl⟩ (by omega) (fun v G hp => ?_)
      obtain ⟨rfl, hW⟩ := hp
      rw [hnk, of_5]
      refine v_istore (pc := 600) dL_isRigged_600 rfl (by decide) ?_
      refine v_aload_n (pc := 602) dL_isRigged_602 rfl rfl ?_
      refine v_bipush (pc := 603) (v := 23) dL_isRigged_603 (by decide) ?_
      refine v_iload (pc := 605) dL_isRigged_605 rfl ?_
      refine v_iload (pc := 607) dL_isRigged_607 rfl ?_
      refine v_iconst (pc := 609) (v := 2) dL_isRigged_609 (by decide) ?_
      refine v_nrem (pc := 610) (xx / 36) 2 dL_isRigged_610 (by omega) (by decide) rfl rfl ?_
      rw [ey]
      refine v_iconst (pc := 611) (v := 0) dL_isRigged_611 (by decide) ?_
      refine v_iconst (pc := 612) (v := 0) dL_isRigged_612 (by decide) ?_
      refine vqL (pc := 613) (u := 3 + 1) (j := 1) (U := 100) (As := [.ref (X.1 0 0), .int _, .int _, .int _, .int _, .int _]) hNC dL_isRigged_613 ll_act.1 ll_act.2.1 wl_act ll_act.2.2.2 ll_act.2.2.1 (xIS_wet1 _ 0 0 hW hI hq (by unfold kWet; rw [if_pos hbk, hnk, if_neg h32])) rfl rfl (Nat.le_of_ble_eq_true rfl) ⟨Nat.le_of_ble_eq_true rfl, Nat.le_of_ble_eq_true rfl⟩ ⟨by decide, by decide⟩ ⟨rfl, rfl⟩ (by omega) (fun v G hp => ?_)
      obtain ⟨rfl, hW⟩ := hp
      refine v_lstore (pc := 616) dL_isRigged_616 rfl (by decide) ?_
      refine v_iload (pc := 618) dL_isRigged_618 rfl ?_
      refine v_if_eq (pc := 620) (tgt := 640) dL_isRigged_620 (by decide) (fun c620 => absurd c620 (by decide)) (fun c620 => ?_)
      refine v_lload (pc := 623) dL_isRigged_623 rfl ?_
      refine v_ldcL (pc := 625) dL_isRigged_625 k_L_113 ?_
      refine v_lcmp (pc := 628) dL_isRigged_628 ?_
      refine v_if_ne (pc := 629) (tgt := 636) dL_isRigged_629 (by decide) (fun c629 => absurd c629 (d_ne rfl)) (fun c629 => ?_)
      refine v_iconst (pc := 632) (v := 1) dL_isRigged_632 (by decide) ?_
      refine v_goto (pc := 633) (tgt := 712) dL_isRigged_633 (by decide) ?_
      refine vq_zret (pc := 712) (U := 100) hR dL_isRigged_712 rfl ⟨rfl, rfl⟩ (by omega) ?_
      exact ⟨rfl, X, s, M, rfl, rfl, hW, hL.up (EQ.rf s) rfl rfl, fun z => z⟩
set_option maxRecDepth 100000 in
set_option maxHeartbeats 1000000 in
theorem l_find1 {D : DT} {K : KT} {X : XT} {s : SG} {M : MT} {t how xx sz : Nat} {G0 : GT} {hv : Int32} (hR : Rt rm_isRigged D K (some .boolean) yL_isRigged.name sz G0 (LPq X M (t + 1))) (hNC : NC3 K.2.2.2.1) (hxx : xx < 2147483648) (hhow : how < 100) (hL : LI X s M t) (ht : t < 200) (hA : 0 < nA s) (kk : ∀ (G : GT), WD X s M G → V cL_isRigged yL_isRigged.cls 14 rm_isRigged D K 765 [some (.ref (X.1 0 0)), some (.ref M.1.1), some (.int (nI how)), some (.int (nI xx)), some (.int (nI (xx % nA s))), some (.int (nI (xx / 6 % nC s))), some (.int (nI (xx / 36))), some (.int hv), some (.int (opS s (xx / 6 % nC s))), some (.int (nI (slF s (xx % nA s) (nC s)))), some (.int (nI (nC s))), none, none, none] [] G (nu 15)) : ∀ (d i : Nat) (G : GT), i + d = nC s → WD X s M G → V cL_isRigged yL_isRigged.cls 14 rm_isRigged D K 719 [some (.ref (X.1 0 0)), some (.ref M.1.1), some (.int (nI how)), some (.int (nI xx)), some (.int (nI (xx % nA s))), some (.int (nI (xx / 6 % nC s))), some (.int (nI (xx / 36))), some (.int hv), some (.int (opS s (xx / 6 % nC s))), some (.int (nI (slF s (xx % nA s) i))), some (.int (nI i)), none, none, none] [] G (nu (3 + 2 * i)) := by
  have hI := hL.1
  have hM := hL.2.2.2.2.2.1
  have hC := hL.2.2.2.1
  have hq : 2 * t < 512 := by omega
  obtain ⟨b1, b2, b3, b4, b5, n1, n2, n3, n4, n5⟩ := hI.six hq
  obtain ⟨i1, i2, i3, i4, i5, i6, i7, i8, i9⟩ := INV.num (by omega) hI
  intro d
  induction d with
  | zero =>
    intro i G he hW
    obtain rfl : i = nC s := by omega
    refine v_iload (pc := 719) dL_isRigged_719 rfl ?_
    refine v_aload_n (pc := 721) dL_isRigged_721 rfl rfl ?_
    refine v_iconst (pc := 722) (v := 4) dL_isRigged_722 (by decide) ?_
    refine vw_m (pc := 723) (j := 4) hW dL_isRigged_723 rfl (by decide) (x := nI (nC s)) (hM.2.2.2.2.1.trans n3) ?_
    refine v_icmp_ge (pc := 724) (tgt := 765) dL_isRigged_724 (by decide) (fun c724 => ?_) (fun c724 => absurd c724 (not_not_intro (Int32.le_refl _)))
    refine vq_u (u' := 15) (by omega) ?_
    exact kk G hW
  | succ d ih =>
    intro i G he hW
    have hi : i < nC s := by omega
    have hlt : xx % nA s < nA s := Nat.mod_lt _ hA
    obtain ⟨c1, c2, c3, c4, c5⟩ := hC.2 _ hi
    have hnk : nat (nI i) = i := nat_nI (by omega)
    refine v_iload (pc := 719) dL_isRigged_719 rfl ?_
    refine v_aload_n (pc := 721) dL_isRigged_721 rfl rfl ?_
    refine v_iconst (pc := 722) (v := 4) dL_isRigged_722 (by decide) ?_
    refine vw_m (pc := 723) (j := 4) hW dL_isRigged_723 rfl (by decide) (x := nI (nC s)) (hM.2.2.2.2.1.trans n3) ?_
    refine v_icmp_ge (pc := 724) (tgt := 765) dL_isRigged_724 (by decide) (fun c724 => absurd c724 (nI_ge (by omega) (by omega))) (fun c724 => ?_)
    refine v_iload (pc := 727) dL_isRigged_727 rfl ?_
    refine v_aload_n (pc := 729) dL_isRigged_729 rfl rfl ?_
    refine v_iload (pc := 730) dL_isRigged_730 rfl ?_
    refine v_iconst (pc := 732) (v := 0) dL_isRigged_732 (by decide) ?_
    refine vqV (pc := 733) (u := 3 + 2 * i) (j := 1) (U := 100) (As := [.int _, .int _]) hW dL_isRigged_733 cw_L_97 im_yX8_ofCanopy se_yX8_ofCanopy rfl (q_ofCanopy _ _ hW hI hq (kof hi (by omega) (by decide))) rfl rfl (Nat.le_of_ble_eq_true rfl) ⟨Nat.le_of_ble_eq_true rfl, Nat.le_of_ble_eq_true rfl⟩ ⟨by decide, by decide⟩ ⟨rfl, rfl⟩ (by omega) (fun v G hp => ?_)
    obtain ⟨rfl, hW⟩ := hp
    rw [hnk, of_0]
    refine v_iload (pc := 736) dL_isRigged_736 rfl ?_
    refine v_icmp_ne (pc := 738) (tgt := 755) dL_isRigged_738 (by decide) (fun c738 => ?_) (fun c738 => ?_)
    · have hz : (if s.1 29 i = nI (xx % nA s) ∧ ¬ s.1 32 i = -1 then 1 else 0) = 0 := if_neg (fun z => c738 z.1)
      refine v_iconst (pc := 755) (v := 0) dL_isRigged_755 (by decide) ?_
      refine v_iadd (pc := 756) dL_isRigged_756 ?_
      refine v_istore (pc := 757) dL_isRigged_757 rfl (by decide) ?_
      refine v_iinc (pc := 759) dL_isRigged_759 rfl (nI_1 _) rfl (by decide) ?_
      refine v_goto (pc := 762) (tgt := 719) dL_isRigged_762 (by decide) ?_
      refine vq_u (u' := 3 + 2 * (i + 1)) (by omega) ?_
      have es : nI (slF s (xx % nA s) (i + 1)) = nI (slF s (xx % nA s) i) + 0 := by
        rw [slF, hz]
        exact (Int32.add_zero _).symm
      rw [← es]
      exact ih (i + 1) G (by omega) hW
    · refine v_aload_n (pc := 741) dL_isRigged_741 rfl rfl ?_
      refine v_iload (pc := 742) dL_isRigged_742 rfl ?_
      refine v_iconst (pc := 744) (v := 1) dL_isRigged_744 (by decide) ?_
      refine vqV (pc := 745) (u := 3 + 2 * i + 1) (j := 1) (U := 100) (As := [.int _, .int _]) hW dL_isRigged_745 cw_L_97 im_yX8_ofCanopy se_yX8_ofCanopy rfl (q_ofCanopy _ _ hW hI hq (kof hi (by omega) (by decide))) rfl rfl (Nat.le_of_ble_eq_true rfl) ⟨Nat.le_of_ble_eq_true rfl, Nat.le_of_ble_eq_true rfl⟩ ⟨by decide, by decide⟩ ⟨rfl, rfl⟩ (by omega) (fun v G hp => ?_)
      obtain ⟨rfl, hW⟩ := hp
      rw [hnk, of_1]
      refine v_if_lt (pc := 748) (tgt := 755) dL_isRigged_748 (by decide) (fun c748 => ?_) (fun c748 => ?_)
      · have hz : (if s.1 29 i = nI (xx % nA s) ∧ ¬ s.1 32 i = -1 then 1 else 0) = 0 := if_neg (fun z => z.2 (by
          rcases c1 with y | y
          · exact y
          · exact absurd c748 (n_nlt.mpr y.1)))
        refine v_iconst (pc := 755) (v := 0) dL_isRigged_755 (by decide) ?_
        refine v_iadd (pc := 756) dL_isRigged_756 ?_
        refine v_istore (pc := 757) dL_isRigged_757 rfl (by decide) ?_
        refine v_iinc (pc := 759) dL_isRigged_759 rfl (nI_1 _) rfl (by decide) ?_
        refine v_goto (pc := 762) (tgt := 719) dL_isRigged_762 (by decide) ?_
        refine vq_u (u' := 3 + 2 * (i + 1)) (by omega) ?_
        have es : nI (slF s (xx % nA s) (i + 1)) = nI (slF s (xx % nA s) i) + 0 := by
          rw [slF, hz]
          exact (Int32.add_zero _).symm
        rw [← es]
        exact ih (i + 1) G (by omega) hW
      · refine v_iconst (pc := 751) (v := 1) dL_isRigged_751 (by decide) ?_
        refine v_goto (pc := 752) (tgt := 756) dL_isRigged_752 (by decide) ?_
        refine v_iadd (pc := 756) dL_isRigged_756 ?_
        refine v_istore (pc := 757) dL_isRigged_757 rfl (by decide) ?_
        refine v_iinc (pc := 759) dL_isRigged_759 rfl (nI_1 _) rfl (by decide) ?_
        refine v_goto (pc := 762) (tgt := 719) dL_isRigged_762 (by decide) ?_
        refine vq_u (u' := 3 + 2 * (i + 1)) (by omega) ?_
        have es : nI (slF s (xx % nA s) (i + 1)) = nI (slF s (xx % nA s) i) + 1 := by
          rw [slF, if_pos ⟨c738, fun z => absurd (z ▸ c748) (by decide)⟩]
          exact (nI_1 _).symm
        rw [← es]
        exact ih (i + 1) G (by omega) hW
set_option maxRecDepth 100000 in
set_option maxHeartbeats 1000000 in
theorem e_find {D : DT} {K : KT} {X : XT} {s : SG} {M : MT} {t how xx sz : Nat} {G0 : GT} {hv : Int32} (hR : Rt rm_isRigged D K (some .boolean) yL_isRigged.name sz G0 (LPq X M (t + 1))) (hNC : NC3 K.2.2.2.1) (hxx : xx < 2147483648) (hhow : how < 100) (hL : LI X s M t) (ht : t < 200) (hA : 0 < nA s) {tl : Int64} {cn : Int32} {S : SG} (hI2 : INV X S (2 * t + 1)) (hC2 : CB S) (f2 : FR s S) (h29 : ∀ i, i < nC s → S.1 29 i = nI (xx % nA s) → S.1 32 i = -1) (h3 : S.1 3 (xx % nA s) = 1) (G : GT) (hW : WD X S M G) : V cL_isRigged yL_isRigged.cls 14 rm_isRigged D K 886 [some (.ref (X.1 0 0)), some (.ref M.1.1), some (.int (nI how)), some (.int (nI xx)), some (.int (nI (xx % nA s))), some (.int (nI (xx / 6 % nC s))), some (.int (nI (xx / 36))), some (.int hv), some (.int (opS s (xx / 6 % nC s))), some (.int cn), some (.long tl), none, some (.int 1), some (.int (nI (nC s)))] [] G (nu 45) := by
  have hI := hL.1
  have hM := hL.2.2.2.2.2.1
  have hC := hL.2.2.2.1
  have hq : 2 * t < 512 := by omega
  obtain ⟨b1, b2, b3, b4, b5, n1, n2, n3, n4, n5⟩ := hI.six hq
  obtain ⟨i1, i2, i3, i4, i5, i6, i7, i8, i9⟩ := INV.num (by omega) hI
  have hlt : xx % nA s < nA s := Nat.mod_lt _ hA
  have eA2 := f2.nA
  have hbl : btw (nI (xx % nA s)) 0 (nI (nA S) - 1) := btw_n (by rw [eA2]; exact hlt) (by omega)
  have hnl : nat (nI (xx % nA s)) = xx % nA s := nat_nI (by omega)
  refine v_iload (pc := 886) dL_isRigged_886 rfl ?_
  refine v_if_eq (pc := 888) (tgt := 954) dL_isRigged_888 (by decide) (fun c888 => absurd c888 (by decide)) (fun c888 => ?_)
  refine v_aload_n (pc := 891) dL_isRigged_891 rfl rfl ?_
  refine v_bipush (pc := 892) (v := 24) dL_isRigged_892 (by decide) ?_
  refine v_iload (pc := 894) dL_isRigged_894 rfl ?_
  refine v_iconst (pc := 896) (v := 1) dL_isRigged_896 (by decide) ?_
  refine v_iconst (pc := 897) (v := 0) dL_isRigged_897 (by decide) ?_
  refine v_iconst (pc := 898) (v := 0) dL_isRigged_898 (by decide) ?_
  refine vqL (pc := 899) (u := 45) (j := 1) (U := 100) (As := [.ref (X.1 0 0), .int _, .int _, .int _, .int _, .int _]) hNC dL_isRigged_899 ll_act.1 ll_act.2.1 wl_act ll_act.2.2.2 ll_act.2.2.1 (xIS_find1 _ 0 0 hW hI2 (by omega) (by unfold kFind; rw [if_pos hbl, hnl, if_pos h3])) rfl rfl (Nat.le_of_ble_eq_true rfl) ⟨Nat.le_of_ble_eq_true rfl, Nat.le_of_ble_eq_true rfl⟩ ⟨by decide, by decide⟩ ⟨rfl, rfl⟩ (by omega) (fun v G hp => ?_)
  obtain ⟨rfl, hW⟩ := hp
  refine v_ldcL (pc := 902) dL_isRigged_902 k_L_113 ?_
  refine v_lcmp (pc := 905) dL_isRigged_905 ?_
  refine v_if_ne (pc := 906) (tgt := 954) dL_isRigged_906 (by decide) (fun c906 => absurd c906 (d_ne rfl)) (fun c906 => ?_)
  refine v_iload (pc := 909) dL_isRigged_909 rfl ?_
  refine v_iconst (pc := 911) (v := 3) dL_isRigged_911 (by decide) ?_
  refine v_nrem (pc := 912) (xx / 36) (3) dL_isRigged_912 (by omega) (by decide) rfl rfl ?_
  refine v_if_eq (pc := 913) (tgt := 950) dL_isRigged_913 (by decide) (fun c913 => ?_) (fun c913 => ?_)
  · refine v_iconst (pc := 950) (v := 1) dL_isRigged_950 (by decide) ?_
    refine v_goto (pc := 951) (tgt := 955) dL_isRigged_951 (by decide) ?_
    refine vq_zret (pc := 955) (U := 100) hR dL_isRigged_955 rfl ⟨rfl, rfl⟩ (by omega) ?_
    first | exact ⟨rfl, X, _, M, rfl, rfl, hW, hL.fr (hI3.up (by omega)) hC3 (f2.tr f3), fun z => z⟩ | exact ⟨rfl, X, _, M, rfl, rfl, hW, hL.fr (hI2.up (by omega)) hC2 f2, fun z => z⟩
  · refine v_aload_n (pc := 916) dL_isRigged_916 rfl rfl ?_
    refine v_bipush (pc := 917) (v := 24) dL_isRigged_917 (by decide) ?_
    refine v_iload (pc := 919) dL_isRigged_919 rfl ?_
    refine v_iconst (pc := 921) (v := 0) dL_isRigged_921 (by decide) ?_
    refine v_iconst (pc := 922) (v := 0) dL_isRigged_922 (by decide) ?_
    refine v_iconst (pc := 923) (v := 0) dL_isRigged_923 (by decide) ?_
    refine vqL (pc := 924) (u := 45 + 1) (j := 1) (U := 100) (As := [.ref (X.1 0 0), .int _, .int _, .int _, .int _, .int _]) hNC dL_isRigged_924 ll_act.1 ll_act.2.1 wl_act ll_act.2.2.2 ll_act.2.2.1 (sw_find0 _ 0 0 hW hI2 (by omega) (by unfold kFind; rw [if_pos hbl, hnl, if_neg (by rw [h3]; decide)])) rfl rfl (Nat.le_of_ble_eq_true rfl) ⟨Nat.le_of_ble_eq_true rfl, Nat.le_of_ble_eq_true rfl⟩ ⟨by decide, by decide⟩ ⟨rfl, rfl⟩ (by omega) (fun v G hp => ?_)
    obtain ⟨s2, s', e2, rfl, hW, rfl⟩ := hp
    rw [hnl] at hW
    rw [hnl]
    obtain ⟨hI3, hC3, f3, h30, e20⟩ := r_find0 hI2 (by omega) hC2 (by rw [eA2]; exact hlt) h3 e2 M G
    rw [e20]
    generalize (gFind s2 (nC s2) (xx % nA s) 0).1 = S3 at *
    refine v_lconst (pc := 927) (v := 0) dL_isRigged_927 (by decide) ?_
    refine v_lcmp (pc := 928) dL_isRigged_928 ?_
    refine v_if_ne (pc := 929) (tgt := 954) dL_isRigged_929 (by decide) (fun c929 => absurd c929 (d_ne rfl)) (fun c929 => ?_)
    refine v_aload_n (pc := 932) dL_isRigged_932 rfl rfl ?_
    refine v_bipush (pc := 933) (v := 24) dL_isRigged_933 (by decide) ?_
    refine v_iload (pc := 935) dL_isRigged_935 rfl ?_
    refine v_iconst (pc := 937) (v := 0) dL_isRigged_937 (by decide) ?_
    refine v_iconst (pc := 938) (v := 0) dL_isRigged_938 (by decide) ?_
    refine v_iconst (pc := 939) (v := 0) dL_isRigged_939 (by decide) ?_
    refine vqL (pc := 940) (u := 45 + 1 + 1) (j := 1) (U := 100) (As := [.ref (X.1 0 0), .int _, .int _, .int _, .int _, .int _]) hNC dL_isRigged_940 ll_act.1 ll_act.2.1 wl_act ll_act.2.2.2 ll_act.2.2.1 (xIS_find0 _ 0 0 hW hI3 (by omega) (by unfold kFind; rw [if_pos (btw_n (by rw [f3.nA, eA2]; exact hlt) (by rw [f3.nA]; omega)), hnl, if_pos h30])) rfl rfl (Nat.le_of_ble_eq_true rfl) ⟨Nat.le_of_ble_eq_true rfl, Nat.le_of_ble_eq_true rfl⟩ ⟨by decide, by decide⟩ ⟨rfl, rfl⟩ (by omega) (fun v G hp => ?_)
    obtain ⟨rfl, hW⟩ := hp
    refine v_ldcL (pc := 943) dL_isRigged_943 k_L_113 ?_
    refine v_lcmp (pc := 946) dL_isRigged_946 ?_
    refine v_if_ne (pc := 947) (tgt := 954) dL_isRigged_947 (by decide) (fun c947 => absurd c947 (d_ne rfl)) (fun c947 => ?_)
    refine v_iconst (pc := 950) (v := 1) dL_isRigged_950 (by decide) ?_
    refine v_goto (pc := 951) (tgt := 955) dL_isRigged_951 (by decide) ?_
    refine vq_zret (pc := 955) (U := 100) hR dL_isRigged_955 rfl ⟨rfl, rfl⟩ (by omega) ?_
    first | exact ⟨rfl, X, _, M, rfl, rfl, hW, hL.fr (hI3.up (by omega)) hC3 (f2.tr f3), fun z => z⟩ | exact ⟨rfl, X, _, M, rfl, rfl, hW, hL.fr (hI2.up (by omega)) hC2 f2, fun z => z⟩
set_option maxRecDepth 100000 in
set_option maxHeartbeats 1000000 in
theorem l_find2 {D : DT} {K : KT} {X : XT} {s : SG} {M : MT} {t how xx sz : Nat} {G0 : GT} {hv : Int32} (hR : Rt rm_isRigged D K (some .boolean) yL_isRigged.name sz G0 (LPq X M (t + 1))) (hNC : NC3 K.2.2.2.1) (hxx : xx < 2147483648) (hhow : how < 100) (hL : LI X s M t) (ht : t < 200) (hA : 0 < nA s) {tl : Int64} {cn : Int32} {S : SG} (hI2 : INV X S (2 * t + 1)) (hC2 : CB S) (f2 : FR s S) (h29 : ∀ i, i < nC s → S.1 29 i = nI (xx % nA s) → S.1 32 i = -1) (h3 : S.1 3 (xx % nA s) = 1) : ∀ (d i : Nat) (G : GT), i + d = nC s → WD X S M G → V cL_isRigged yL_isRigged.cls 14 rm_isRigged D K 819 [some (.ref (X.1 0 0)), some (.ref M.1.1), some (.int (nI how)), some (.int (nI xx)), some (.int (nI (xx % nA s))), some (.int (nI (xx / 6 % nC s))), some (.int (nI (xx / 36))), some (.int hv), some (.int (opS s (xx / 6 % nC s))), some (.int cn), some (.long tl), none, some (.int 1), some (.int (nI i))] [] G (nu (20 + 3 * i)) := by
  have hI := hL.1
  have hM := hL.2.2.2.2.2.1
  have hC := hL.2.2.2.1
  have hq : 2 * t < 512 := by omega
  obtain ⟨b1, b2, b3, b4, b5, n1, n2, n3, n4, n5⟩ := hI.six hq
  obtain ⟨i1, i2, i3, i4, i5, i6, i7, i8, i9⟩ := INV.num (by omega) hI
  have hlt : xx % nA s < nA s := Nat.mod_lt _ hA
  have eC2 := f2.nC
  intro d
  induction d with
  | zero =>
    intro i G he hW
    obtain rfl : i = nC s := by omega
    refine v_iload (pc := 819) dL_isRigged_819 rfl ?_
    refine v_aload_n (pc := 821) dL_isRigged_821 rfl rfl ?_
    refine v_iconst (pc := 822) (v := 4) dL_isRigged_822 (by decide) ?_
    refine vw_m (pc := 823) (j := 4) hW dL_isRigged_823 rfl (by decide) (x := nI (nC s)) (hM.2.2.2.2.1.trans n3) ?_
    refine v_icmp_ge (pc := 824) (tgt := 886) dL_isRigged_824 (by decide) (fun c824 => ?_) (fun c824 => absurd c824 (not_not_intro (Int32.le_refl _)))
    refine vq_u (u' := 45) (by omega) ?_
    exact e_find hR hNC hxx hhow hL ht hA hI2 hC2 f2 h29 h3 G hW
  | succ d ih =>
    intro i G he hW
    have hi : i < nC s := by omega
    have hnk : nat (nI i) = i := nat_nI (by omega)
    have hbk : btw (nI i) 0 (nI (nC S) - 1) := btw_n (by rw [eC2]; exact hi) (by omega)
    have hkq : kOf (nC S) (nI i) 0 0 5 = 0 := kof (by rw [eC2]; exact hi) (by omega) (by decide)
    have hkq1 : kOf (nC S) (nI i) 1 0 5 = 0 := kof (by rw [eC2]; exact hi) (by omega) (by decide)
    refine v_iload (pc := 819) dL_isRigged_819 rfl ?_
    refine v_aload_n (pc := 821) dL_isRigged_821 rfl rfl ?_
    refine v_iconst (pc := 822) (v := 4) dL_isRigged_822 (by decide) ?_
    refine vw_m (pc := 823) (j := 4) hW dL_isRigged_823 rfl (by decide) (x := nI (nC s)) (hM.2.2.2.2.1.trans n3) ?_
    refine v_icmp_ge (pc := 824) (tgt := 886) dL_isRigged_824 (by decide) (fun c824 => absurd c824 (nI_ge (by omega) (by omega))) (fun c824 => ?_)
    refine v_iload (pc := 827) dL_isRigged_827 rfl ?_
    refine v_if_eq (pc := 829) (tgt := 886) dL_isRigged_829 (by decide) (fun c829 => absurd c829 (by decide)) (fun c829 => ?_)
    refine v_aload_n (pc := 832) dL_isRigged_832 rfl rfl ?_
    refine v_iload (pc := 833) dL_isRigged_833 rfl ?_
    refine v_iconst (pc := 835) (v := 0) dL_isRigged_835 (by decide) ?_
    refine vqV (pc := 836) (u := 20 + 3 * i) (j := 1) (U := 100) (As := [.int _, .int _]) hW dL_isRigged_836 cw_L_97 im_yX8_ofCanopy se_yX8_ofCanopy rfl (q_ofCanopy _ _ hW hI2 (by omega) hkq) rfl rfl (Nat.le_of_ble_eq_true rfl) ⟨Nat.le_of_ble_eq_true rfl, Nat.le_of_ble_eq_true rfl⟩ ⟨by decide, by decide⟩ ⟨rfl, rfl⟩ (by omega) (fun v G hp => ?_)
    obtain ⟨rfl, hW⟩ := hp
    rw [hnk, of_0]
    refine v_iload (pc := 839) dL_isRigged_839 rfl ?_
    refine v_icmp_ne (pc := 841) (tgt := 873) dL_isRigged_841 (by decide) (fun c841 => ?_) (fun c841 => ?_)
    · refine v_iconst (pc := 873) (v := 1) dL_isRigged_873 (by decide) ?_
      refine v_goto (pc := 874) (tgt := 878) dL_isRigged_874 (by decide) ?_
      refine v_istore (pc := 878) dL_isRigged_878 rfl (by decide) ?_
      refine v_iinc (pc := 880) dL_isRigged_880 rfl (nI_1 _) rfl (by decide) ?_
      refine v_goto (pc := 883) (tgt := 819) dL_isRigged_883 (by decide) ?_
      refine vq_u (u' := 20 + 3 * (i + 1)) (by omega) ?_
      exact ih (i + 1) G (by omega) hW
    · refine v_aload_n (pc := 844) dL_isRigged_844 rfl rfl ?_
      refine v_iload (pc := 845) dL_isRigged_845 rfl ?_
      refine v_iconst (pc := 847) (v := 1) dL_isRigged_847 (by decide) ?_
      refine vqV (pc := 848) (u := 20 + 3 * i + 1) (j := 1) (U := 100) (As := [.int _, .int _]) hW dL_isRigged_848 cw_L_97 im_yX8_ofCanopy se_yX8_ofCanopy rfl (q_ofCanopy _ _ hW hI2 (by omega) hkq1) rfl rfl (Nat.le_of_ble_eq_true rfl) ⟨Nat.le_of_ble_eq_true rfl, Nat.le_of_ble_eq_true rfl⟩ ⟨by decide, by decide⟩ ⟨rfl, rfl⟩ (by omega) (fun v G hp => ?_)
      obtain ⟨rfl, hW⟩ := hp
      rw [hnk, of_1, h29 i hi c841]
      refine v_iconst (pc := 851) (v := (-1)) dL_isRigged_851 (by decide) ?_
      refine v_icmp_ne (pc := 852) (tgt := 877) dL_isRigged_852 (by decide) (fun c852 => absurd c852 (by decide)) (fun c852 => ?_)
      refine v_aload_n (pc := 855) dL_isRigged_855 rfl rfl ?_
      refine v_bipush (pc := 856) (v := 21) dL_isRigged_856 (by decide) ?_
      refine v_iload (pc := 858) dL_isRigged_858 rfl ?_
      refine v_iconst (pc := 860) (v := 0) dL_isRigged_860 (by decide) ?_
      refine v_iconst (pc := 861) (v := 0) dL_isRigged_861 (by decide) ?_
      refine v_iconst (pc := 862) (v := 0) dL_isRigged_862 (by decide) ?_
      refine vqL (pc := 863) (u := 20 + 3 * i + 1 + 1) (j := 1) (U := 100) (As := [.ref (X.1 0 0), .int _, .int _, .int _, .int _, .int _]) hNC dL_isRigged_863 ll_act.1 ll_act.2.1 wl_act ll_act.2.2.2 ll_act.2.2.1 (xIS_seal _ _ 0 0 hW hI2 (by omega) (by unfold kSeal; rw [if_pos ⟨hbk, by decide⟩, hnk, if_neg (fun z => absurd z.2.1 (by rw [c841, nat_nI (show xx % nA s < 2147483648 by omega), h3]; decide))])) rfl rfl (Nat.le_of_ble_eq_true rfl) ⟨Nat.le_of_ble_eq_true rfl, Nat.le_of_ble_eq_true rfl⟩ ⟨by decide, by decide⟩ ⟨rfl, rfl⟩ (by omega) (fun v G hp => ?_)
      obtain ⟨rfl, hW⟩ := hp
      refine v_ldcL (pc := 866) dL_isRigged_866 k_L_113 ?_
      refine v_lcmp (pc := 869) dL_isRigged_869 ?_
      refine v_if_ne (pc := 870) (tgt := 877) dL_isRigged_870 (by decide) (fun c870 => absurd c870 (d_ne rfl)) (fun c870 => ?_)
      refine v_iconst (pc := 873) (v := 1) dL_isRigged_873 (by decide) ?_
      refine v_goto (pc := 874) (tgt := 878) dL_isRigged_874 (by decide) ?_
      refine v_istore (pc := 878) dL_isRigged_878 rfl (by decide) ?_
      refine v_iinc (pc := 880) dL_isRigged_880 rfl (nI_1 _) rfl (by decide) ?_
      refine v_goto (pc := 883) (tgt := 819) dL_isRigged_883 (by decide) ?_
      refine vq_u (u' := 20 + 3 * (i + 1)) (by omega) ?_
      exact ih (i + 1) G (by omega) hW
set_option maxRecDepth 100000 in
set_option maxHeartbeats 1000000 in
theorem f_find {D : DT} {K : KT} {X : XT} {s : SG} {M : MT} {t how xx sz : Nat} {G0 : GT} {hv : Int32} (hR : Rt rm_isRigged D K (some .boolean) yL_isRigged.name sz G0 (LPq X M (t + 1))) (hNC : NC3 K.2.2.2.1) (hxx : xx < 2147483648) (hhow : how < 100) (hL : LI X s M t) (ht : t < 200) (hA : 0 < nA s) (G : GT) (hW : WD X s M G) : V cL_isRigged yL_isRigged.cls 14 rm_isRigged D K 713 [some (.ref (X.1 0 0)), some (.ref M.1.1), some (.int (nI how)), some (.int (nI xx)), some (.int (nI (xx % nA s))), some (.int (nI (xx / 6 % nC s))), some (.int (nI (xx / 36))), some (.int hv), some (.int (opS s (xx / 6 % nC s))), none, none, none, none, none] [] G (nu 3) := by
  have hI := hL.1
  have hM := hL.2.2.2.2.2.1
  have hC := hL.2.2.2.1
  have hq : 2 * t < 512 := by omega
  obtain ⟨b1, b2, b3, b4, b5, n1, n2, n3, n4, n5⟩ := hI.six hq
  obtain ⟨i1, i2, i3, i4, i5, i6, i7, i8, i9⟩ := INV.num (by omega) hI
  have hlt : xx % nA s < nA s := Nat.mod_lt _ hA
  have hbl : btw (nI (xx % nA s)) 0 (nI (nA s) - 1) := btw_n hlt (by omega)
  have hnl : nat (nI (xx % nA s)) = xx % nA s := nat_nI (by omega)
  refine v_iconst (pc := 713) (v := nI 0) dL_isRigged_713 (by decide) ?_
  refine v_istore (pc := 714) dL_isRigged_714 rfl (by decide) ?_
  refine v_iconst (pc := 716) (v := nI 0) dL_isRigged_716 (by decide) ?_
  refine v_istore (pc := 717) dL_isRigged_717 rfl (by decide) ?_
  refine l_find1 hR hNC hxx hhow hL ht hA (fun G hW => ?_) (nC s) 0 G (Nat.zero_add _) hW
  by_cases h3 : s.1 3 (xx % nA s) = 1
  · have hz := sl_0 hI hq hC hlt h3 (nC s) (Nat.le_refl _)
    refine v_aload_n (pc := 765) dL_isRigged_765 rfl rfl ?_
    refine v_bipush (pc := 766) (v := 24) dL_isRigged_766 (by decide) ?_
    refine v_iload (pc := 768) dL_isRigged_768 rfl ?_
    refine v_iconst (pc := 770) (v := 1) dL_isRigged_770 (by decide) ?_
    refine v_iconst (pc := 771) (v := 0) dL_isRigged_771 (by decide) ?_
    refine v_iconst (pc := 772) (v := 0) dL_isRigged_772 (by decide) ?_
    refine vqL (pc := 773) (u := 15) (j := 1) (U := 100) (As := [.ref (X.1 0 0), .int _, .int _, .int _, .int _, .int _]) hNC dL_isRigged_773 ll_act.1 ll_act.2.1 wl_act ll_act.2.2.2 ll_act.2.2.1 (xIS_find1 _ 0 0 hW hI hq (by unfold kFind; rw [if_pos hbl, hnl, if_pos h3])) rfl rfl (Nat.le_of_ble_eq_true rfl) ⟨Nat.le_of_ble_eq_true rfl, Nat.le_of_ble_eq_true rfl⟩ ⟨by decide, by decide⟩ ⟨rfl, rfl⟩ (by omega) (fun v G hp => ?_)
    obtain ⟨rfl, hW⟩ := hp
    refine v_lstore (pc := 776) dL_isRigged_776 rfl (by decide) ?_
    refine v_lload (pc := 778) dL_isRigged_778 rfl ?_
    refine v_ldcL (pc := 780) dL_isRigged_780 k_L_113 ?_
    refine v_lcmp (pc := 783) dL_isRigged_783 ?_
    refine v_if_ne (pc := 784) (tgt := 800) dL_isRigged_784 (by decide) (fun c784 => absurd c784 (d_ne rfl)) (fun c784 => ?_)
    refine v_iload (pc := 787) dL_isRigged_787 rfl ?_
    refine v_if_ne (pc := 789) (tgt := 796) dL_isRigged_789 (by decide) (fun c789 => absurd c789 (fun z => z (by rw [hz]; rfl))) (fun c789 => ?_)
    refine v_iconst (pc := 792) (v := 1) dL_isRigged_792 (by decide) ?_
    refine v_goto (pc := 793) (tgt := 814) dL_isRigged_793 (by decide) ?_
    refine v_istore (pc := 814) dL_isRigged_814 rfl (by decide) ?_
    refine v_iconst (pc := 816) (v := nI 0) dL_isRigged_816 (by decide) ?_
    refine v_istore (pc := 817) dL_isRigged_817 rfl (by decide) ?_
    refine vq_u (u' := 20) (by omega) ?_
    exact l_find2 hR hNC hxx hhow hL ht hA (hI.up (by omega)) hC (FR.rf s) (r_held hI hq hC hlt h3) h3 (nC s) 0 G (Nat.zero_add _) hW
  · refine v_aload_n (pc := 765) dL_isRigged_765 rfl rfl ?_
    refine v_bipush (pc := 766) (v := 24) dL_isRigged_766 (by decide) ?_
    refine v_iload (pc := 768) dL_isRigged_768 rfl ?_
    refine v_iconst (pc := 770) (v := 1) dL_isRigged_770 (by decide) ?_
    refine v_iconst (pc := 771) (v := 0) dL_isRigged_771 (by decide) ?_
    refine v_iconst (pc := 772) (v := 0) dL_isRigged_772 (by decide) ?_
    refine vqL (pc := 773) (u := 15) (j := 1) (U := 100) (As := [.ref (X.1 0 0), .int _, .int _, .int _, .int _, .int _]) hNC dL_isRigged_773 ll_act.1 ll_act.2.1 wl_act ll_act.2.2.2 ll_act.2.2.1 (sw_find1 _ 0 0 hW hI hq (by unfold kFind; rw [if_pos hbl, hnl, if_neg h3])) rfl rfl (Nat.le_of_ble_eq_true rfl) ⟨Nat.le_of_ble_eq_true rfl, Nat.le_of_ble_eq_true rfl⟩ ⟨by decide, by decide⟩ ⟨rfl, rfl⟩ (by omega) (fun v G hp => ?_)
    obtain ⟨s1, s', e, rfl, hW, rfl⟩ := hp
    rw [hnl] at hW
    rw [hnl]
    obtain ⟨hI2, hC2, f2, e29, h29, h31, ecn⟩ := r_find1 hL ht hlt h3 e G
    rw [ecn]
    generalize (gFind s1 (nC s1) (xx % nA s) 1).1 = S2 at *
    refine v_lstore (pc := 776) dL_isRigged_776 rfl (by decide) ?_
    refine v_lload (pc := 778) dL_isRigged_778 rfl ?_
    refine v_ldcL (pc := 780) dL_isRigged_780 k_L_113 ?_
    refine v_lcmp (pc := 783) dL_isRigged_783 ?_
    refine v_if_ne (pc := 784) (tgt := 800) dL_isRigged_784 (by decide) (fun c784 => ?_) (fun c784 => absurd c784 (d_eq (ne_is (w_ge0 (nI_ps (by have := sl_n s (xx % nA s) (nC s); omega))))))
    refine v_lload (pc := 800) dL_isRigged_800 rfl ?_
    refine v_iload (pc := 802) dL_isRigged_802 rfl ?_
    refine v_i2l (pc := 804) dL_isRigged_804 ?_
    refine v_lcmp (pc := 805) dL_isRigged_805 ?_
    refine v_if_ne (pc := 806) (tgt := 813) dL_isRigged_806 (by decide) (fun c806 => absurd c806 (d_ne rfl)) (fun c806 => ?_)
    refine v_iconst (pc := 809) (v := 1) dL_isRigged_809 (by decide) ?_
    refine v_goto (pc := 810) (tgt := 814) dL_isRigged_810 (by decide) ?_
    refine v_istore (pc := 814) dL_isRigged_814 rfl (by decide) ?_
    refine v_iconst (pc := 816) (v := nI 0) dL_isRigged_816 (by decide) ?_
    refine v_istore (pc := 817) dL_isRigged_817 rfl (by decide) ?_
    refine vq_u (u' := 20) (by omega) ?_
    exact l_find2 hR hNC hxx hhow hL ht hA hI2 hC2 f2 h29 h31 (nC s) 0 G (Nat.zero_add _) hW
set_option maxRecDepth 100000 in
set_option maxHeartbeats 1000000 in
theorem c_L_isRigged (D : DT) (X : XT) (s : SG) (M : MT) (G : GT) (t how xx : Nat) (hhow : how < 100) (hxx : xx < 2147483648) (hW : WD X s M G) (hL : LI X s M t) (ht : t < 200) (hA : 0 < nA s) : MN yL_isRigged cL_isRigged 14 (Option.some Jvm.ClassFile.FieldType.boolean) rm_isRigged D [.ref (X.1 0 0), .ref M.1.1, .int (nI how), .int (nI xx)] G (LPq X M (t + 1)) := by
  have hI := hL.1
  have hM := hL.2.2.2.2.2.1
  have hC := hL.2.2.2.1
  have hq : 2 * t < 512 := by omega
  obtain ⟨b1, b2, b3, b4, b5, n1, n2, n3, n4, n5⟩ := hI.six hq
  obtain ⟨i1, i2, i3, i4, i5, i6, i7, i8, i9⟩ := INV.num (by omega) hI
  refine MN_of (by decide +kernel) (Nat.le_of_ble_eq_true rfl) (fun K sz hR hNC => ?_)
  show V cL_isRigged _ 14 _ D K 0 [some (.ref (X.1 0 0)), some (.ref M.1.1), some (.int (nI how)), some (.int (nI xx)), none, none, none, none, none, none, none, none, none, none] [] G (nu 0)
  refine v_iload_n (pc := 0) dL_isRigged_0 rfl rfl ?_
  refine v_if_ne (pc := 1) (tgt := 45) dL_isRigged_1 (by decide) (fun c1 => ?_) (fun c1 => ?_)
  · refine v_iload_n (pc := 45) dL_isRigged_45 rfl rfl ?_
    refine v_aload_n (pc := 46) dL_isRigged_46 rfl rfl ?_
    refine v_iconst (pc := 47) (v := 0) dL_isRigged_47 (by decide) ?_
    refine vw_m (pc := 48) (j := 0) hW dL_isRigged_48 rfl (by decide) (x := nI (nA s)) (hM.1.trans n1) ?_
    refine v_nrem (pc := 49) (xx) (nA s) dL_isRigged_49 (by omega) (by omega) rfl rfl ?_
    refine v_istore (pc := 50) dL_isRigged_50 rfl (by decide) ?_
    refine v_iload_n (pc := 52) dL_isRigged_52 rfl rfl ?_
    refine v_iconst (pc := 53) (v := 1) dL_isRigged_53 (by decide) ?_
    refine v_icmp_eq (pc := 54) (tgt := 63) dL_isRigged_54 (by decide) (fun c54 => ?_) (fun c54 => ?_)
    · exact f_can hR hNC hxx hhow hL ht hA G hW
    · refine v_aload_n (pc := 57) dL_isRigged_57 rfl rfl ?_
      refine v_iconst (pc := 58) (v := 4) dL_isRigged_58 (by decide) ?_
      refine vw_m (pc := 59) (j := 4) hW dL_isRigged_59 rfl (by decide) (x := nI (nC s)) (hM.2.2.2.2.1.trans n3) ?_
      refine v_if_ne (pc := 60) (tgt := 166) dL_isRigged_60 (by decide) (fun c60 => ?_) (fun c60 => ?_)
      · have hC0 : 0 < nC s := Nat.pos_of_ne_zero (fun z => c60 (by rw [z]; rfl))
        have hk : xx / 6 % nC s < nC s := Nat.mod_lt _ hC0
        have hnk : nat (nI (xx / 6 % nC s)) = xx / 6 % nC s := nat_nI (by omega)
        refine v_iload_n (pc := 166) dL_isRigged_166 rfl rfl ?_
        refine v_bipush (pc := 167) (v := 6) dL_isRigged_167 (by decide) ?_
        refine v_ndiv (pc := 169) (xx) 6 dL_isRigged_169 (by omega) (by decide) rfl rfl ?_
        refine v_aload_n (pc := 170) dL_isRigged_170 rfl rfl ?_
        refine v_iconst (pc := 171) (v := 4) dL_isRigged_171 (by decide) ?_
        refine vw_m (pc := 172) (j := 4) hW dL_isRigged_172 rfl (by decide) (x := nI (nC s)) (hM.2.2.2.2.1.trans n3) ?_
        refine v_nrem (pc := 173) (xx / 6) (nC s) dL_isRigged_173 (by omega) (by omega) rfl rfl ?_
        refine v_istore (pc := 174) dL_isRigged_174 rfl (by decide) ?_
        refine v_iload_n (pc := 176) dL_isRigged_176 rfl rfl ?_
        refine v_bipush (pc := 177) (v := 36) dL_isRigged_177 (by decide) ?_
        refine v_ndiv (pc := 179) (xx) 36 dL_isRigged_179 (by omega) (by decide) rfl rfl ?_
        refine v_istore (pc := 180) dL_isRigged_180 rfl (by decide) ?_
        refine v_aload_n (pc := 182) dL_isRigged_182 rfl rfl ?_
        refine v_iload (pc := 183) dL_isRigged_183 rfl ?_
        refine v_iconst (pc := 185) (v := 1) dL_isRigged_185 (by decide) ?_
        refine vqV (pc := 186) (u := 0) (j := 1) (U := 100) (As := [.int _, .int _]) hW dL_isRigged_186 cw_L_97 im_yX8_ofCanopy se_yX8_ofCanopy rfl (q_ofCanopy _ _ hW hI hq (kof hk (by omega) (by decide))) rfl rfl (Nat.le_of_ble_eq_true rfl) ⟨Nat.le_of_ble_eq_true rfl, Nat.le_of_ble_eq_true rfl⟩ ⟨by decide, by decide⟩ ⟨rfl, rfl⟩ (by omega) (fun v G hp => ?_)
        obtain ⟨rfl, hW⟩ := hp
        rw [hnk, of_1]
        refine v_if_lt (pc := 189) (tgt := 196) dL_isRigged_189 (by decide) (fun c189 => ?_) (fun c189 => ?_)
        · have hh : s.1 32 (xx / 6 % nC s) = -1 ∧ (0 : Int32) = 0 ∨ ¬ s.1 32 (xx / 6 % nC s) = -1 ∧ (0 : Int32) = 1 := by
            refine Or.inl ⟨?_, rfl⟩
            rcases (hC.2 _ hk).1 with y | y
            · exact y
            · exact absurd c189 (n_nlt.mpr y.1)
          refine v_iconst (pc := 196) (v := 0) dL_isRigged_196 (by decide) ?_
          refine v_istore (pc := 197) dL_isRigged_197 rfl (by decide) ?_
          refine v_aload_n (pc := 199) dL_isRigged_199 rfl rfl ?_
          refine v_iload (pc := 200) dL_isRigged_200 rfl ?_
          refine vqV (pc := 202) (u := 0 + 1) (j := 1) (U := 100) (As := [.int _]) hW dL_isRigged_202 cw_L_81 im_yX8_opens se_yX8_opens rfl (q_opens _ hW hI hq (kop hk (by omega))) rfl rfl (Nat.le_of_ble_eq_true rfl) ⟨Nat.le_of_ble_eq_true rfl, Nat.le_of_ble_eq_true rfl⟩ ⟨by decide, by decide⟩ ⟨rfl, rfl⟩ (by omega) (fun v G hp => ?_)
          obtain ⟨rfl, hW⟩ := hp
          rw [hnk]
          refine v_istore (pc := 205) dL_isRigged_205 rfl (by decide) ?_
          refine v_iload_n (pc := 207) dL_isRigged_207 rfl rfl ?_
          refine v_iconst (pc := 208) (v := 5) dL_isRigged_208 (by decide) ?_
          refine v_icmp_ge (pc := 209) (tgt := 313) dL_isRigged_209 (by decide) (fun c209 => ?_) (fun c209 => ?_)
          · refine v_iload_n (pc := 313) dL_isRigged_313 rfl rfl ?_
            refine v_bipush (pc := 314) (v := 8) dL_isRigged_314 (by decide) ?_
            refine v_icmp_ge (pc := 316) (tgt := 454) dL_isRigged_316 (by decide) (fun c316 => ?_) (fun c316 => ?_)
            · refine v_iload_n (pc := 454) dL_isRigged_454 rfl rfl ?_
              refine v_bipush (pc := 455) (v := 10) dL_isRigged_455 (by decide) ?_
              refine v_icmp_ge (pc := 457) (tgt := 587) dL_isRigged_457 (by decide) (fun c457 => ?_) (fun c457 => ?_)
              · refine v_iload_n (pc := 587) dL_isRigged_587 rfl rfl ?_
                refine v_bipush (pc := 588) (v := 12) dL_isRigged_588 (by decide) ?_
                refine v_icmp_ge (pc := 590) (tgt := 713) dL_isRigged_590 (by decide) (fun c590 => ?_) (fun c590 => ?_)
                · refine vq_u (u' := 3) (by omega) ?_
                  exact f_find hR hNC hxx hhow hL ht hA G hW
                · refine vq_u (u' := 3) (by omega) ?_
                  exact f_wet hR hNC hxx hhow hL ht hA hC0 hh G hW
              · refine vq_u (u' := 3) (by omega) ?_
                exact f_use hR hNC hxx hhow hL ht hA hC0 hh G hW
            · refine vq_u (u' := 3) (by omega) ?_
              exact f_seal hR hNC hxx hhow hL ht hA hC0 hh G hW
          · refine vq_u (u' := 3) (by omega) ?_
            exact f_part hR hNC hxx hhow hL ht hA hC0 hh G hW
        · have hh : s.1 32 (xx / 6 % nC s) = -1 ∧ (1 : Int32) = 0 ∨ ¬ s.1 32 (xx / 6 % nC s) = -1 ∧ (1 : Int32) = 1 := Or.inr ⟨fun z => c189 (z ▸ by decide), rfl⟩
          refine v_iconst (pc := 192) (v := 1) dL_isRigged_192 (by decide) ?_
          refine v_goto (pc := 193) (tgt := 197) dL_isRigged_193 (by decide) ?_
          refine v_istore (pc := 197) dL_isRigged_197 rfl (by decide) ?_
          refine v_aload_n (pc := 199) dL_isRigged_199 rfl rfl ?_
          refine v_iload (pc := 200) dL_isRigged_200 rfl ?_
          refine vqV (pc := 202) (u := 0 + 1) (j := 1) (U := 100) (As := [.int _]) hW dL_isRigged_202 cw_L_81 im_yX8_opens se_yX8_opens rfl (q_opens _ hW hI hq (kop hk (by omega))) rfl rfl (Nat.le_of_ble_eq_true rfl) ⟨Nat.le_of_ble_eq_true rfl, Nat.le_of_ble_eq_true rfl⟩ ⟨by decide, by decide⟩ ⟨rfl, rfl⟩ (by omega) (fun v G hp => ?_)
          obtain ⟨rfl, hW⟩ := hp
          rw [hnk]
          refine v_istore (pc := 205) dL_isRigged_205 rfl (by decide) ?_
          refine v_iload_n (pc := 207) dL_isRigged_207 rfl rfl ?_
          refine v_iconst (pc := 208) (v := 5) dL_isRigged_208 (by decide) ?_
          refine v_icmp_ge (pc := 209) (tgt := 313) dL_isRigged_209 (by decide) (fun c209 => ?_) (fun c209 => ?_)
          · refine v_iload_n (pc := 313) dL_isRigged_313 rfl rfl ?_
            refine v_bipush (pc := 314) (v := 8) dL_isRigged_314 (by decide) ?_
            refine v_icmp_ge (pc := 316) (tgt := 454) dL_isRigged_316 (by decide) (fun c316 => ?_) (fun c316 => ?_)
            · refine v_iload_n (pc := 454) dL_isRigged_454 rfl rfl ?_
              refine v_bipush (pc := 455) (v := 10) dL_isRigged_455 (by decide) ?_
              refine v_icmp_ge (pc := 457) (tgt := 587) dL_isRigged_457 (by decide) (fun c457 => ?_) (fun c457 => ?_)
              · refine v_iload_n (pc := 587) dL_isRigged_587 rfl rfl ?_
                refine v_bipush (pc := 588) (v := 12) dL_isRigged_588 (by decide) ?_
                refine v_icmp_ge (pc := 590) (tgt := 713) dL_isRigged_590 (by decide) (fun c590 => ?_) (fun c590 => ?_)
                · refine vq_u (u' := 3) (by omega) ?_
                  exact f_find hR hNC hxx hhow hL ht hA G hW
                · refine vq_u (u' := 3) (by omega) ?_
                  exact f_wet hR hNC hxx hhow hL ht hA hC0 hh G hW
              · refine vq_u (u' := 3) (by omega) ?_
                exact f_use hR hNC hxx hhow hL ht hA hC0 hh G hW
            · refine vq_u (u' := 3) (by omega) ?_
              exact f_seal hR hNC hxx hhow hL ht hA hC0 hh G hW
          · refine vq_u (u' := 3) (by omega) ?_
            exact f_part hR hNC hxx hhow hL ht hA hC0 hh G hW
      · exact f_can hR hNC hxx hhow hL ht hA G hW
  · exact f_pass hR hNC hxx hhow hL ht hA G hW
