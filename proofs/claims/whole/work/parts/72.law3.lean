set_option maxRecDepth 100000 in
set_option maxHeartbeats 1000000 in
theorem k_pegs {D : DT} {K : KT} {b L : Nat} {xs : Nat → Int32} (hS : SC K b L xs) (hNC : NC3 K.2.2.2.1) (hL : L ≤ 2560) {m o oD x0 : Nat} {ad : Nat → Nat} (q : Nat) (hq : 5 * q + 5 ≤ L) {X : XT} {s : SG} {G : GT} {n : Nat × Nat} (hW : HW X s m ad o oD x0 q G) (hn : n.1 ≤ 60 + 2 * q ∧ n.2 ≤ 2000 + 20 * q) (kk : ∀ (X' : XT) (s' : SG) (G' : GT) (n' : Nat × Nat), HW X' s' m ad o oD x0 (q + 1) G' → (n'.1 ≤ 60 + 2 * (q + 1) ∧ n'.2 ≤ 2000 + 20 * (q + 1)) → V cL_law RL 9 room_1 D K 2232 [some (.ref b), some (.ref x0), some (.ref m), some (.ref o), some (.ref oD), some (.int (nI (5 * q))), none, none, none] [] G' n') : V cL_law RL 9 room_1 D K 1307 [some (.ref b), some (.ref x0), some (.ref m), some (.ref o), some (.ref oD), some (.int (nI (5 * q))), none, none, none] [] G n := by
  obtain ⟨hM, hI⟩ := hW
  have hI0 := hI
  obtain ⟨a, b1, c, g, ns, nl, i1, i2, i3, i4, i5, i6, i7, i8, i9⟩ := hI
  have hx0 : X.1 0 0 = x0 := hM.2.2.2.2.2.2
  subst hx0
  obtain ⟨n1, n2⟩ := n
  have hn1 : n1 ≤ 60 + 2 * q := hn.1
  have hn2 : n2 ≤ 2000 + 20 * q := hn.2
  have hn511 : nl < 512 := by have := i6.2.1; omega
  have hn512 : nl ≤ 512 := by omega
  refine v_aload_n (pc := 1307) dL_law_1307 rfl rfl ?_
  refine vc_callV0 (pc := 1308) (c := 0) (i := 0) (ci := 8) (T0 := TX8) (N0 := 14) (X := (X.1, X.2.1, X.2.2.1, RESTP m ad o oD, G)) (n1 + 0, n2 + 0) hM.re dL_law_1308 cw_L_181 im_yX8_pegs se_yX8_pegs (c_X8_pegs D (X.1, X.2.1, X.2.2.1, RESTP m ad o oD, G) s g i4.1 i4.2.1 i4.2.2.1) (hM.1.2.2.1 0 (by decide)) rfl rfl (Nat.le_of_ble_eq_true rfl) ⟨Nat.le_of_ble_eq_true rfl, Nat.le_of_ble_eq_true rfl⟩ ⟨by show n1 + 0 ≤ 601024; omega, by show n2 + 0 ≤ 7293034; omega⟩ rfl (fun v s1 G1 hp hG => ?_)
  obtain ⟨hv1, hs1⟩ := hp
  subst hv1
  rw [hs1] at hG
  have hs6 : ∀ p, RESTP m ad o oD p → same6 G1 G p := fun p hp => (hG.2.2.2 p hp).2.2
  have ho6 := hs6 o (Or.inr (Or.inr (Or.inl rfl)))
  have hL1 := hG.re (A := RESTP m ad o oD) (fun p hp => ⟨(hG.2.2.2 p hp).1, by rw [(hs6 p hp).1]; exact hM.kd p hp⟩)
  have hM1 := hM.mid (Or.inl ⟨rfl, rfl⟩) hL1 rfl rfl (fun p hp _ => hs6 p hp) ⟨ho6.1.trans hM.2.2.1.1, ho6.2.1.trans hM.2.2.1.2⟩
  refine v_aload_n (pc := 1311) dL_law_1311 rfl rfl ?_
  refine vm_callV0 (pc := 1312) (n1 + 0, n2 + 0) hM1.md dL_law_1312 cw_L_184 im_yX9_pegs se_yX9_pegs (c_X9_pegs D m _ s g i4.1 i4.2.1) rfl (Nat.le_of_ble_eq_true rfl) ⟨Nat.le_of_ble_eq_true rfl, Nat.le_of_ble_eq_true rfl⟩ ⟨by show n1 + 0 + 0 ≤ 601024; omega, by show n2 + 0 + 0 ≤ 7293034; omega⟩ rfl (fun v s2 G2 hp hG2 => ?_)
  obtain ⟨hv1, hs2⟩ := hp
  subst hv1
  have hAG : AG s s2 := by rw [hs2]; exact AG_thr s 0
  have hIN : INV (X.1, X.2.1, X.2.2.1, RESTP m ad o oD, G1) s (q + 1) := INV.q1 (Nat.le_succ q) hI0 (fun _ _ _ _ _ _ _ _ => rfl) rfl rfl rfl
  have hfin := hM1.fin hG2 hAG hIN
  refine v_icmp_eq (pc := 1315) (tgt := 2232) dL_law_1315 (by decide) (fun c => ?_) (fun c => absurd rfl c)
  exact kk _ _ _ _ hfin ⟨by show n1 + 0 ≤ 60 + 2 * (q + 1); omega, by show n2 + 0 ≤ 2000 + 20 * (q + 1); omega⟩
theorem and31 (x : Int32) : ∃ r : Nat, r < 32 ∧ x &&& 31 = nI r := by
  refine ⟨x.toBitVec.toNat % 32, Nat.mod_lt _ (by decide), ?_⟩
  refine Int32.toBitVec_inj.mp (BitVec.eq_of_toNat_eq ?_)
  rw [Int32.toBitVec_and, BitVec.toNat_and]
  have h1 : (31 : Int32).toBitVec.toNat = 31 := rfl
  have h2 : (nI (x.toBitVec.toNat % 32)).toBitVec.toNat = x.toBitVec.toNat % 32 := by
    have h := Nat.mod_lt x.toBitVec.toNat (show 0 < 32 by decide)
    have e : (nI (x.toBitVec.toNat % 32)).toBitVec = BitVec.ofNat 32 (x.toBitVec.toNat % 32) := rfl
    rw [e, BitVec.toNat_ofNat, Nat.mod_eq_of_lt (by omega)]
  rw [h1, h2]
  exact Nat.and_two_pow_sub_one_eq_mod x.toBitVec.toNat 5
theorem gt_end {L q : Nat} (hL : L ≤ 2560) (hq : q ≤ 512) : (nI L - 5 < nI (5 * q)) ↔ ¬ 5 * q + 5 ≤ L := by
  rw [Int32.lt_iff_toInt_lt]
  have e0 : (nI L - 5).toInt = (L : Int) - 5 := by
    rw [Int32.toInt_sub, nI_toInt (by omega), show (5 : Int32).toInt = 5 from rfl]
    exact Int.bmod_eq_of_le (by omega) (by omega)
  rw [e0, nI_toInt (by omega)]
  omega
set_option maxRecDepth 100000 in
set_option maxHeartbeats 4000000 in
theorem lw_loop {D : DT} {K : KT} {b L : Nat} {xs : Nat → Int32} (hS : SC K b L xs) (hNC : NC3 K.2.2.2.1) (hL : L ≤ 2560) {m o oD x0 : Nat} {ad : Nat → Nat} (hend : ∀ (q : Nat) (G : GT) (n : Nat × Nat), n.1 ≤ 2000 → n.2 ≤ 20000 → V cL_law RL 9 room_1 D K 2238 [some (.ref b), some (.ref x0), some (.ref m), some (.ref o), some (.ref oD), some (.int (nI (5 * q))), none, none, none] [] G n) : ∀ k q : Nat, k + q = 512 → ∀ (X : XT) (s : SG) (G : GT) (n : Nat × Nat), HW X s m ad o oD x0 q G → (n.1 ≤ 60 + 2 * q ∧ n.2 ≤ 2000 + 20 * q) → V cL_law RL 9 room_1 D K 28 [some (.ref b), some (.ref x0), some (.ref m), some (.ref o), some (.ref oD), some (.int (nI (5 * q))), none, none, none] [] G n := by
  intro k
  induction k with
  | zero =>
    intro q hk X s G n hW hn
    refine v_iload (pc := 28) dL_law_28 rfl ?_
    refine v_aload_n (pc := 30) dL_law_30 rfl rfl ?_
    refine v_slen (pc := 31) hS dL_law_31 ?_
    refine v_iconst (pc := 32) (v := 5) dL_law_32 (by decide) ?_
    refine v_isub (pc := 33) dL_law_33 ?_
    refine v_icmp_gt (pc := 34) (tgt := 2238) dL_law_34 (by decide) (fun c => ?_) (fun c => absurd ((gt_end hL (by omega)).mpr (by omega)) c)
    exact hend q G n (by omega) (by omega)
  | succ k ih =>
    intro q hk X s G n hW hn
    refine v_iload (pc := 28) dL_law_28 rfl ?_
    refine v_aload_n (pc := 30) dL_law_30 rfl rfl ?_
    refine v_slen (pc := 31) hS dL_law_31 ?_
    refine v_iconst (pc := 32) (v := 5) dL_law_32 (by decide) ?_
    refine v_isub (pc := 33) dL_law_33 ?_
    refine v_icmp_gt (pc := 34) (tgt := 2238) dL_law_34 (by decide) (fun c => ?_) (fun c => ?_)
    · exact hend q G n (by omega) (by omega)
    · have hq5 : 5 * q + 5 ≤ L := Classical.byContradiction fun z => c ((gt_end hL (by omega)).mpr z)
      refine v_aload_n (pc := 37) dL_law_37 rfl rfl ?_
      refine v_iload (pc := 38) dL_law_38 rfl ?_
      refine v_sld (pc := 40) (j := 5 * q) hS dL_law_40 rfl (by omega) hL ?_
      refine v_bipush (pc := 41) (v := 31) dL_law_41 (by decide) ?_
      refine v_iand (pc := 43) dL_law_43 ?_
      have hK : ∀ (X' : XT) (s' : SG) (G' : GT) (n' : Nat × Nat), HW X' s' m ad o oD x0 (q + 1) G' → (n'.1 ≤ 60 + 2 * (q + 1) ∧ n'.2 ≤ 2000 + 20 * (q + 1)) → V cL_law RL 9 room_1 D K 2232 [some (.ref b), some (.ref x0), some (.ref m), some (.ref o), some (.ref oD), some (.int (nI (5 * q))), none, none, none] [] G' n' := fun X' s' G' n' hW' hn' => by
        refine v_iinc (pc := 2232) (v := nI (5 * (q + 1))) dL_law_2232 rfl (by rw [show (Int32.ofInt 5 : Int32) = nI 5 from rfl, nI_add, Nat.mul_succ]) rfl (by decide) ?_
        refine v_goto (pc := 2235) (tgt := 28) dL_law_2235 (by decide) ?_
        exact ih (q + 1) (by omega) X' s' G' n' hW' hn'
      have hD : V cL_law RL 9 room_1 D K 2232 [some (.ref b), some (.ref x0), some (.ref m), some (.ref o), some (.ref oD), some (.int (nI (5 * q))), none, none, none] [] G n := hK _ _ _ _ ⟨hW.1, INV.q1 (Nat.le_succ q) hW.2 (fun _ _ _ _ _ _ _ _ => rfl) rfl rfl rfl⟩ ⟨by omega, by omega⟩
      obtain ⟨r, hr, er⟩ := and31 (xs (5 * q))
      rw [er]
      match r, hr with
      | 0, _ => exact v_tin (pc := 44) (off := 136) (tgt := 180) dL_law_44 (by decide) (by decide) rfl (by decide) (k_lot hS hNC hL q hq5 hW hn hK)
      | 1, _ => exact v_tin (pc := 44) (off := 216) (tgt := 260) dL_law_44 (by decide) (by decide) rfl (by decide) (k_sun hS hNC hL q hq5 hW hn hK)
      | 2, _ => exact v_tin (pc := 44) (off := 284) (tgt := 328) dL_law_44 (by decide) (by decide) rfl (by decide) (k_panel hS hNC hL q hq5 hW hn hK)
      | 3, _ => exact v_tin (pc := 44) (off := 376) (tgt := 420) dL_law_44 (by decide) (by decide) rfl (by decide) (k_strength hS hNC hL q hq5 hW hn hK)
      | 4, _ => exact v_tin (pc := 44) (off := 431) (tgt := 475) dL_law_44 (by decide) (by decide) rfl (by decide) (k_roll hS hNC hL q hq5 hW hn hK)
      | 5, _ => exact v_tin (pc := 44) (off := 487) (tgt := 531) dL_law_44 (by decide) (by decide) rfl (by decide) (k_seam hS hNC hL q hq5 hW hn hK)
      | 6, _ => exact v_tin (pc := 44) (off := 567) (tgt := 611) dL_law_44 (by decide) (by decide) rfl (by decide) (k_rip hS hNC hL q hq5 hW hn hK)
      | 7, _ => exact v_tin (pc := 44) (off := 622) (tgt := 666) dL_law_44 (by decide) (by decide) rfl (by decide) (k_bears hS hNC hL q hq5 hW hn hK)
      | 8, _ => exact v_tin (pc := 44) (off := 689) (tgt := 733) dL_law_44 (by decide) (by decide) rfl (by decide) (k_bearsAnew hS hNC hL q hq5 hW hn hK)
      | 9, _ => exact v_tin (pc := 44) (off := 756) (tgt := 800) dL_law_44 (by decide) (by decide) rfl (by decide) (k_knot hS hNC hL q hq5 hW hn hK)
      | 10, _ => exact v_tin (pc := 44) (off := 852) (tgt := 896) dL_law_44 (by decide) (by decide) rfl (by decide) (k_load hS hNC hL q hq5 hW hn hK)
      | 11, _ => exact v_tin (pc := 44) (off := 908) (tgt := 952) dL_law_44 (by decide) (by decide) rfl (by decide) (k_rest hS hNC hL q hq5 hW hn hK)
      | 12, _ => exact v_tin (pc := 44) (off := 964) (tgt := 1008) dL_law_44 (by decide) (by decide) rfl (by decide) (k_height hS hNC hL q hq5 hW hn hK)
      | 13, _ => exact v_tin (pc := 44) (off := 1020) (tgt := 1064) dL_law_44 (by decide) (by decide) rfl (by decide) (k_peg hS hNC hL q hq5 hW hn hK)
      | 14, _ => exact v_tin (pc := 44) (off := 1120) (tgt := 1164) dL_law_44 (by decide) (by decide) rfl (by decide) (k_gust hS hNC hL q hq5 hW hn hK)
      | 15, _ => exact v_tin (pc := 44) (off := 1208) (tgt := 1252) dL_law_44 (by decide) (by decide) rfl (by decide) (k_pulled hS hNC hL q hq5 hW hn hK)
      | 16, _ => exact v_tin (pc := 44) (off := 1263) (tgt := 1307) dL_law_44 (by decide) (by decide) rfl (by decide) (k_pegs hS hNC hL q hq5 hW hn hK)
      | 17, _ => exact v_tin (pc := 44) (off := 1276) (tgt := 1320) dL_law_44 (by decide) (by decide) rfl (by decide) (k_trim hS hNC hL q hq5 hW hn hK)
      | 18, _ => exact v_tin (pc := 44) (off := 1378) (tgt := 1422) dL_law_44 (by decide) (by decide) rfl (by decide) (k_power hS hNC hL q hq5 hW hn hK)
      | 19, _ => exact v_tin (pc := 44) (off := 1456) (tgt := 1500) dL_law_44 (by decide) (by decide) rfl (by decide) (k_halyard hS hNC hL q hq5 hW hn hK)
      | 20, _ => exact v_tin (pc := 44) (off := 1524) (tgt := 1568) dL_law_44 (by decide) (by decide) rfl (by decide) (k_pass hS hNC hL q hq5 hW hn hK)
      | 21, _ => exact v_tin (pc := 44) (off := 1580) (tgt := 1624) dL_law_44 (by decide) (by decide) rfl (by decide) (k_canopy hS hNC hL q hq5 hW hn hK)
      | 22, _ => exact v_tin (pc := 44) (off := 1636) (tgt := 1680) dL_law_44 (by decide) (by decide) rfl (by decide) (k_part hS hNC hL q hq5 hW hn hK)
      | 23, _ => exact v_tin (pc := 44) (off := 1704) (tgt := 1748) dL_law_44 (by decide) (by decide) rfl (by decide) (k_opens hS hNC hL q hq5 hW hn hK)
      | 24, _ => exact v_tin (pc := 44) (off := 1760) (tgt := 1804) dL_law_44 (by decide) (by decide) rfl (by decide) (k_seal hS hNC hL q hq5 hW hn hK)
      | 25, _ => exact v_tin (pc := 44) (off := 1828) (tgt := 1872) dL_law_44 (by decide) (by decide) rfl (by decide) (k_use hS hNC hL q hq5 hW hn hK)
      | 26, _ => exact v_tin (pc := 44) (off := 1884) (tgt := 1928) dL_law_44 (by decide) (by decide) rfl (by decide) (k_wet hS hNC hL q hq5 hW hn hK)
      | 27, _ => exact v_tin (pc := 44) (off := 1968) (tgt := 2012) dL_law_44 (by decide) (by decide) rfl (by decide) (k_find hS hNC hL q hq5 hW hn hK)
      | 28, _ => exact v_tin (pc := 44) (off := 2052) (tgt := 2096) dL_law_44 (by decide) (by decide) rfl (by decide) (k_ofCanopy hS hNC hL q hq5 hW hn hK)
      | 29, _ => exact v_tin (pc := 44) (off := 2120) (tgt := 2164) dL_law_44 (by decide) (by decide) rfl (by decide) (k_lifeAnew hS hNC hL q hq5 hW hn hK)
      | 30, _ => exact v_tout (pc := 44) (tgt := 2232) dL_law_44 (by decide) (by decide) hD
      | 31, _ => exact v_tout (pc := 44) (tgt := 2232) dL_law_44 (by decide) (by decide) hD
      | n + 32, h => omega
