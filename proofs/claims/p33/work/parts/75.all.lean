theorem d_ne {x y : Int64} (h : x = y) : ¬ ¬ lg_cmp x y = 0 := fun z => z (cmp_eq0.mpr h)
theorem d_eq {x y : Int64} (h : ¬ x = y) : ¬ lg_cmp x y = 0 := fun z => h (cmp_eq0.mp z)
theorem d_lt {x y : Int64} (h : y ≤ x) : ¬ lg_cmp x y < 0 := fun z => l_nlt.mpr h (cmp_lt0.mp z)
theorem d_gt {x y : Int64} (h : x ≤ y) : ¬ 0 < lg_cmp x y := fun z => l_nlt.mpr h (cmp_gt0.mp z)
theorem d_le {x y : Int64} (h : y < x) : ¬ lg_cmp x y ≤ 0 := fun z => l_nle.mpr h (cmp_le0.mp z)
theorem d_ge {x y : Int64} (h : x < y) : ¬ 0 ≤ lg_cmp x y := fun z => l_nle.mpr h (cmp_ge0.mp z)
theorem nI_nat {x : Int32} (h : 0 ≤ x) : nI (nat x) = x := by
  rw [Int32.le_iff_toInt_le] at h
  have h0 : (0 : Int32).toInt = 0 := rfl
  have hlt : nat x < 2147483648 := by
    have := Int32.toInt_lt x
    show x.toInt.toNat < _
    omega
  apply Int32.toInt_inj.mp
  rw [nI_toInt hlt]
  show ((x.toInt.toNat : Nat) : Int) = x.toInt
  omega
theorem nat_lt (x : Int32) : nat x < 2147483648 := by
  have := Int32.toInt_lt x
  show x.toInt.toNat < _
  omega
theorem and31 (w : Int32) : ∃ x : Nat, x < 2147483648 ∧ w &&& 2147483647 = nI x := by
  have h : 0 ≤ w &&& 2147483647 := by
    rw [Int32.le_iff_toInt_le]
    show (0 : Int) ≤ (w &&& 2147483647).toBitVec.toInt
    rw [BitVec.toInt_eq_msb_cond, if_neg]
    · omega
    · rw [Int32.toBitVec_and, BitVec.msb_and, show (2147483647 : Int32).toBitVec.msb = false from by decide, Bool.and_false]
      exact Bool.false_ne_true
  exact ⟨nat (w &&& 2147483647), nat_lt _, (nI_nat h).symm⟩
abbrev rm_roll : Room := { frames := 2, cells := 0, slots := 0, locals := 60 }
theorem c_L_roll (D : DT) (b L : Nat) (xs : Nat → Int32) (k : Nat) (hL : L ≤ 260) (hk : k < 1000) : MR yL_roll cL_roll 2 (Option.some Jvm.ClassFile.FieldType.int) rm_roll D [.ref b, .int (nI k)] b L xs (fun v => ∃ x : Nat, x < 2147483648 ∧ v = some (.int (nI x))) := by
  refine MR_of (by decide +kernel) (Nat.le_of_ble_eq_true rfl) (fun K sz hR hS => ?_)
  show V cL_roll _ 2 _ D K 0 [some (.ref b), some (.int (nI k))] [] G0 (0, 0)
  refine v_iload_n (pc := 0) dL_roll_0 rfl rfl ?_
  refine v_aload_n (pc := 1) dL_roll_1 rfl rfl ?_
  refine v_slen (pc := 2) hS dL_roll_2 ?_
  have tail : ∀ w : Int32, V cL_roll yL_roll.cls 2 rm_roll D K 32 [some (.ref b), some (.int (nI k))] [.int w] G0 (0, 0) := by
    intro w
    refine v_ldc (pc := 32) dL_roll_32 k_L_8 ?_
    refine v_iand (pc := 34) dL_roll_34 ?_
    refine v_iret (pc := 35) hR dL_roll_35 ⟨by decide, by decide⟩ ?_
    obtain ⟨x, hx, e⟩ := and31 w
    exact ⟨x, hx, by rw [e]⟩
  refine v_icmp_ge (pc := 3) (tgt := 12) dL_roll_3 (by decide) (fun c => ?_) (fun c => ?_)
  · refine v_ldc (pc := 12) dL_roll_12 k_L_7 ?_
    refine v_iload_n (pc := 14) dL_roll_14 rfl rfl ?_
    refine v_sipush (pc := 15) (v := 659) dL_roll_15 (by decide) ?_
    refine v_iadd (pc := 18) dL_roll_18 ?_
    refine v_imul (pc := 19) dL_roll_19 ?_
    refine v_sipush (pc := 20) (v := 975) dL_roll_20 (by decide) ?_
    refine v_iload_n (pc := 23) dL_roll_23 rfl rfl ?_
    refine v_imul (pc := 24) dL_roll_24 ?_
    refine v_iload_n (pc := 25) dL_roll_25 rfl rfl ?_
    refine v_imul (pc := 26) dL_roll_26 ?_
    refine v_iadd (pc := 27) dL_roll_27 ?_
    refine v_sipush (pc := 28) (v := 521) dL_roll_28 (by decide) ?_
    refine v_iadd (pc := 31) dL_roll_31 ?_
    exact tail _
  · have hj : k < L := by
      refine Classical.byContradiction fun q => c ((nI_leI (by omega) (by omega)).mpr (by omega))
    refine v_aload_n (pc := 6) dL_roll_6 rfl rfl ?_
    refine v_iload_n (pc := 7) dL_roll_7 rfl rfl ?_
    refine v_sld (pc := 8) (j := k) hS dL_roll_8 rfl hj (by omega) ?_
    refine v_goto (pc := 9) (tgt := 32) dL_roll_9 (by decide) ?_
    exact tail _
abbrev rm_all : Room := { frames := 10, cells := 2 * 400, slots := 18 * 400, locals := 300 }
/-! what all tells -/
def all1 (s : SG) : Nat → Int64 → Int64
  | 0, x => x
  | i + 1, x => 31 * all1 s i x + (s.1 15 i).toInt64
def all2 (s : SG) : Nat → Int64 → Int64
  | 0, x => x
  | i + 1, x => 31 * all2 s i x + strS s i + 7 * finL s (nB s) (nS s) i 0
def all3 (s : SG) : Nat → Int64 → Int64
  | 0, x => x
  | i + 1, x => 31 * all3 s i x + (s.1 39 i + s.1 41 i).toInt64
def all4 (s : SG) : Nat → Int64 → Int64
  | 0, x => x
  | i + 1, x => 31 * all4 s i x + s.2 23 i
def all5 (s : SG) : Nat → Int64 → Int64
  | 0, x => x
  | i + 1, x => 31 * all5 s i x + (ofS s (i / 6) (nI (i % 6))).toInt64 + 7 * (opS s (i / 6)).toInt64
def allV (s : SG) (h t r : Nat) : Int64 := all5 s (6 * nC s) (all4 s (nG s) (all3 s (nA s) (all2 s (nB s) (all1 s 36 ((setF s (nG s)).toInt64 + (FP.f2i (pwI h t r 77)).toInt64)))))
theorem btw_n {j n : Nat} (h : j < n) (hn : n < 1000) : btw (nI j) 0 (nI n - 1) := (btw_ix (by omega)).mpr ⟨j, h, rfl⟩
theorem INV.six {X : XT} {s : SG} {q : Nat} (hI : INV X s q) (hq : q < 512) : nA s ≤ 6 ∧ nB s ≤ 12 ∧ nC s ≤ 6 ∧ nG s ≤ 8 ∧ nS s ≤ 30 ∧ s.1 0 0 = nI (nA s) ∧ s.1 4 0 = nI (nB s) ∧ s.1 28 0 = nI (nC s) ∧ s.1 19 0 = nI (nG s) ∧ s.1 9 0 = nI (nS s) := by
  obtain ⟨i1, i2, i3, i4, i5, i6, i7, i8, i9⟩ := INV.num (by omega) hI
  exact ⟨i1.2.1, i2.2.1, i5.2.1, i4.2.1, i3.2.1, i1.1, i2.1, i5.1, i4.1, i3.1⟩
set_option maxRecDepth 100000 in
set_option maxHeartbeats 400000 in
theorem l_all1 {D : DT} {K : KT} {X : XT} {s : SG} {M : MT} {q u0 : Nat} {x0 : Int64} (hI : INV X s q) (hq : q < 512)  (hU : u0 + 1 * (36) ≤ 400) (kk : ∀ (G : GT), WD X s M G → V cL_all yL_all.cls 5 rm_all D K 48 [some (.ref (X.1 0 0)), some (.ref M.1.1), some (.long (all1 s (36) x0)), none, some (.int (nI (36)))] [] G (nu (u0 + 1 * (36)))) : ∀ (d i : Nat) (G : GT), i + d = 36 → WD X s M G → V cL_all yL_all.cls 5 rm_all D K 21 [some (.ref (X.1 0 0)), some (.ref M.1.1), some (.long (all1 s i x0)), none, some (.int (nI i))] [] G (nu (u0 + 1 * i)) := by
  obtain ⟨b1, b2, b3, b4, b5, n1, n2, n3, n4, n5⟩ := hI.six hq
  intro d
  induction d with
  | zero =>
    intro i G he hW
    obtain rfl : i = 36 := by omega
    refine v_iload (pc := 21) dL_all_21 rfl ?_
    refine v_bipush (pc := 23) (v := 36) dL_all_23 (by decide) ?_
    refine v_icmp_ge (pc := 25) (tgt := 48) dL_all_25 (by decide) (fun c25 => ?_) (fun c25 => absurd c25 (by decide))
    exact kk G hW
  | succ d ih =>
    intro i G he hW
    have hi : i < 36 := by omega
    refine v_iload (pc := 21) dL_all_21 rfl ?_
    refine v_bipush (pc := 23) (v := 36) dL_all_23 (by decide) ?_
    refine v_icmp_ge (pc := 25) (tgt := 48) dL_all_25 (by decide) (fun c25 => absurd c25 (nI_ge (by omega) (by decide))) (fun c25 => ?_)
    refine v_ldcL (pc := 28) dL_all_28 k_L_133 ?_
    refine v_lload_n (pc := 31) dL_all_31 rfl rfl ?_
    refine v_lmul (pc := 32) dL_all_32 ?_
    refine v_aload_n (pc := 33) dL_all_33 rfl rfl ?_
    refine v_iload (pc := 34) dL_all_34 rfl ?_
    refine vqV (pc := 36) (u := u0 + 1 * i) (j := 1) (U := 400) (As := [.int _]) hW dL_all_36 cw_L_54 im_yX8_height se_yX8_height rfl (q_height _ hW hI hq (by unfold kHt; exact if_pos (btw_n (n := 36) (by omega) (by decide)))) rfl rfl (Nat.le_of_ble_eq_true rfl) ⟨Nat.le_of_ble_eq_true rfl, Nat.le_of_ble_eq_true rfl⟩ ⟨by decide, by decide⟩ ⟨rfl, rfl⟩ (by omega) (fun v G hp => ?_)
    obtain ⟨rfl, hW⟩ := hp
    rw [nat_nI (show i < 2147483648 by omega)]
    refine v_i2l (pc := 39) dL_all_39 ?_
    refine v_ladd (pc := 40) dL_all_40 ?_
    refine v_lstore_n (pc := 41) dL_all_41 rfl rfl (by decide) ?_
    refine v_iinc (pc := 42) dL_all_42 rfl (nI_1 _) rfl (by decide) ?_
    refine v_goto (pc := 45) (tgt := 21) dL_all_45 (by decide) ?_
    refine vq_u (u' := u0 + 1 * (i + 1)) (by omega) ?_
    exact ih (i + 1) G (by omega) hW
set_option maxRecDepth 100000 in
set_option maxHeartbeats 400000 in
theorem l_all2 {D : DT} {K : KT} {X : XT} {s : SG} {M : MT} {q u0 : Nat} {x0 : Int64} (hI : INV X s q) (hq : q < 512) (hM1 : M.2.1 1 = s.1 4 0) (hU : u0 + 2 * (nB s) ≤ 400) (kk : ∀ (G : GT), WD X s M G → V cL_all yL_all.cls 5 rm_all D K 90 [some (.ref (X.1 0 0)), some (.ref M.1.1), some (.long (all2 s (nB s) x0)), none, some (.int (nI (nB s)))] [] G (nu (u0 + 2 * (nB s)))) : ∀ (d i : Nat) (G : GT), i + d = nB s → WD X s M G → V cL_all yL_all.cls 5 rm_all D K 51 [some (.ref (X.1 0 0)), some (.ref M.1.1), some (.long (all2 s i x0)), none, some (.int (nI i))] [] G (nu (u0 + 2 * i)) := by
  obtain ⟨b1, b2, b3, b4, b5, n1, n2, n3, n4, n5⟩ := hI.six hq
  intro d
  induction d with
  | zero =>
    intro i G he hW
    obtain rfl : i = nB s := by omega
    refine v_iload (pc := 51) dL_all_51 rfl ?_
    refine v_aload_n (pc := 53) dL_all_53 rfl rfl ?_
    refine v_iconst (pc := 54) (v := 1) dL_all_54 (by decide) ?_
    refine vw_m (pc := 55) (j := 1) hW dL_all_55 rfl (by decide) (x := nI (nB s)) (hM1.trans n2) ?_
    refine v_icmp_ge (pc := 56) (tgt := 90) dL_all_56 (by decide) (fun c56 => ?_) (fun c56 => absurd c56 (fun z => z (Int32.le_refl _)))
    exact kk G hW
  | succ d ih =>
    intro i G he hW
    have hi : i < nB s := by omega
    refine v_iload (pc := 51) dL_all_51 rfl ?_
    refine v_aload_n (pc := 53) dL_all_53 rfl rfl ?_
    refine v_iconst (pc := 54) (v := 1) dL_all_54 (by decide) ?_
    refine vw_m (pc := 55) (j := 1) hW dL_all_55 rfl (by decide) (x := nI (nB s)) (hM1.trans n2) ?_
    refine v_icmp_ge (pc := 56) (tgt := 90) dL_all_56 (by decide) (fun c56 => absurd c56 (nI_ge (by omega) (by omega))) (fun c56 => ?_)
    refine v_ldcL (pc := 59) dL_all_59 k_L_133 ?_
    refine v_lload_n (pc := 62) dL_all_62 rfl rfl ?_
    refine v_lmul (pc := 63) dL_all_63 ?_
    refine v_aload_n (pc := 64) dL_all_64 rfl rfl ?_
    refine v_iload (pc := 65) dL_all_65 rfl ?_
    refine vqV (pc := 67) (u := u0 + 2 * i) (j := 1) (U := 400) (As := [.int _]) hW dL_all_67 cw_L_23 im_yX8_strength se_yX8_strength rfl (q_strength _ hW hI hq (by unfold kPl; exact if_pos (btw_n (by omega) (by omega)))) rfl rfl (Nat.le_of_ble_eq_true rfl) ⟨Nat.le_of_ble_eq_true rfl, Nat.le_of_ble_eq_true rfl⟩ ⟨by decide, by decide⟩ ⟨rfl, rfl⟩ (by omega) (fun v G hp => ?_)
    obtain ⟨rfl, hW⟩ := hp
    rw [nat_nI (show i < 2147483648 by omega)]
    refine v_ladd (pc := 70) dL_all_70 ?_
    refine v_ldcL (pc := 71) dL_all_71 k_L_135 ?_
    refine v_aload_n (pc := 74) dL_all_74 rfl rfl ?_
    refine v_iload (pc := 75) dL_all_75 rfl ?_
    refine v_iconst (pc := 77) (v := 0) dL_all_77 (by decide) ?_
    refine vqV (pc := 78) (u := u0 + 2 * i + 1) (j := 1) (U := 400) (As := [.int _, .int _]) hW dL_all_78 cw_L_37 im_yX8_bears se_yX8_bears rfl (q_bears _ 0 hW hI hq (by unfold kBe; exact if_pos ⟨btw_n (by omega) (by omega), btw_n (j := 0) (by omega) (by omega)⟩)) rfl rfl (Nat.le_of_ble_eq_true rfl) ⟨Nat.le_of_ble_eq_true rfl, Nat.le_of_ble_eq_true rfl⟩ ⟨by decide, by decide⟩ ⟨rfl, rfl⟩ (by omega) (fun v G hp => ?_)
    obtain ⟨rfl, hW⟩ := hp
    rw [nat_nI (show i < 2147483648 by omega), show nat 0 = 0 from rfl]
    refine v_lmul (pc := 81) dL_all_81 ?_
    refine v_ladd (pc := 82) dL_all_82 ?_
    refine v_lstore_n (pc := 83) dL_all_83 rfl rfl (by decide) ?_
    refine v_iinc (pc := 84) dL_all_84 rfl (nI_1 _) rfl (by decide) ?_
    refine v_goto (pc := 87) (tgt := 51) dL_all_87 (by decide) ?_
    refine vq_u (u' := u0 + 2 * (i + 1)) (by omega) ?_
    exact ih (i + 1) G (by omega) hW
set_option maxRecDepth 100000 in
set_option maxHeartbeats 400000 in
theorem l_all3 {D : DT} {K : KT} {X : XT} {s : SG} {M : MT} {q u0 : Nat} {x0 : Int64} (hI : INV X s q) (hq : q < 512) (hM0 : M.2.1 0 = s.1 0 0) (hU : u0 + 1 * (nA s) ≤ 400) (kk : ∀ (G : GT), WD X s M G → V cL_all yL_all.cls 5 rm_all D K 121 [some (.ref (X.1 0 0)), some (.ref M.1.1), some (.long (all3 s (nA s) x0)), none, some (.int (nI (nA s)))] [] G (nu (u0 + 1 * (nA s)))) : ∀ (d i : Nat) (G : GT), i + d = nA s → WD X s M G → V cL_all yL_all.cls 5 rm_all D K 93 [some (.ref (X.1 0 0)), some (.ref M.1.1), some (.long (all3 s i x0)), none, some (.int (nI i))] [] G (nu (u0 + 1 * i)) := by
  obtain ⟨b1, b2, b3, b4, b5, n1, n2, n3, n4, n5⟩ := hI.six hq
  intro d
  induction d with
  | zero =>
    intro i G he hW
    obtain rfl : i = nA s := by omega
    refine v_iload (pc := 93) dL_all_93 rfl ?_
    refine v_aload_n (pc := 95) dL_all_95 rfl rfl ?_
    refine v_iconst (pc := 96) (v := 0) dL_all_96 (by decide) ?_
    refine vw_m (pc := 97) (j := 0) hW dL_all_97 rfl (by decide) (x := nI (nA s)) (hM0.trans n1) ?_
    refine v_icmp_ge (pc := 98) (tgt := 121) dL_all_98 (by decide) (fun c98 => ?_) (fun c98 => absurd c98 (fun z => z (Int32.le_refl _)))
    exact kk G hW
  | succ d ih =>
    intro i G he hW
    have hi : i < nA s := by omega
    refine v_iload (pc := 93) dL_all_93 rfl ?_
    refine v_aload_n (pc := 95) dL_all_95 rfl rfl ?_
    refine v_iconst (pc := 96) (v := 0) dL_all_96 (by decide) ?_
    refine vw_m (pc := 97) (j := 0) hW dL_all_97 rfl (by decide) (x := nI (nA s)) (hM0.trans n1) ?_
    refine v_icmp_ge (pc := 98) (tgt := 121) dL_all_98 (by decide) (fun c98 => absurd c98 (nI_ge (by omega) (by omega))) (fun c98 => ?_)
    refine v_ldcL (pc := 101) dL_all_101 k_L_133 ?_
    refine v_lload_n (pc := 104) dL_all_104 rfl rfl ?_
    refine v_lmul (pc := 105) dL_all_105 ?_
    refine v_aload_n (pc := 106) dL_all_106 rfl rfl ?_
    refine v_iload (pc := 107) dL_all_107 rfl ?_
    refine vqV (pc := 109) (u := u0 + 1 * i) (j := 1) (U := 400) (As := [.int _]) hW dL_all_109 cw_L_27 im_yX8_roll se_yX8_roll rfl (q_roll _ hW hI hq (by unfold kRoll; exact if_pos (btw_n (by omega) (by omega)))) rfl rfl (Nat.le_of_ble_eq_true rfl) ⟨Nat.le_of_ble_eq_true rfl, Nat.le_of_ble_eq_true rfl⟩ ⟨by decide, by decide⟩ ⟨rfl, rfl⟩ (by omega) (fun v G hp => ?_)
    obtain ⟨rfl, hW⟩ := hp
    rw [nat_nI (show i < 2147483648 by omega)]
    refine v_i2l (pc := 112) dL_all_112 ?_
    refine v_ladd (pc := 113) dL_all_113 ?_
    refine v_lstore_n (pc := 114) dL_all_114 rfl rfl (by decide) ?_
    refine v_iinc (pc := 115) dL_all_115 rfl (nI_1 _) rfl (by decide) ?_
    refine v_goto (pc := 118) (tgt := 93) dL_all_118 (by decide) ?_
    refine vq_u (u' := u0 + 1 * (i + 1)) (by omega) ?_
    exact ih (i + 1) G (by omega) hW
set_option maxRecDepth 100000 in
set_option maxHeartbeats 400000 in
theorem l_all4 {D : DT} {K : KT} {X : XT} {s : SG} {M : MT} {q u0 : Nat} {x0 : Int64} (hI : INV X s q) (hq : q < 512) (hM3 : M.2.1 3 = s.1 19 0) (hU : u0 + 1 * (nG s) ≤ 400) (kk : ∀ (G : GT), WD X s M G → V cL_all yL_all.cls 5 rm_all D K 151 [some (.ref (X.1 0 0)), some (.ref M.1.1), some (.long (all4 s (nG s) x0)), none, some (.int (nI (nG s)))] [] G (nu (u0 + 1 * (nG s)))) : ∀ (d i : Nat) (G : GT), i + d = nG s → WD X s M G → V cL_all yL_all.cls 5 rm_all D K 124 [some (.ref (X.1 0 0)), some (.ref M.1.1), some (.long (all4 s i x0)), none, some (.int (nI i))] [] G (nu (u0 + 1 * i)) := by
  obtain ⟨b1, b2, b3, b4, b5, n1, n2, n3, n4, n5⟩ := hI.six hq
  intro d
  induction d with
  | zero =>
    intro i G he hW
    obtain rfl : i = nG s := by omega
    refine v_iload (pc := 124) dL_all_124 rfl ?_
    refine v_aload_n (pc := 126) dL_all_126 rfl rfl ?_
    refine v_iconst (pc := 127) (v := 3) dL_all_127 (by decide) ?_
    refine vw_m (pc := 128) (j := 3) hW dL_all_128 rfl (by decide) (x := nI (nG s)) (hM3.trans n4) ?_
    refine v_icmp_ge (pc := 129) (tgt := 151) dL_all_129 (by decide) (fun c129 => ?_) (fun c129 => absurd c129 (fun z => z (Int32.le_refl _)))
    exact kk G hW
  | succ d ih =>
    intro i G he hW
    have hi : i < nG s := by omega
    refine v_iload (pc := 124) dL_all_124 rfl ?_
    refine v_aload_n (pc := 126) dL_all_126 rfl rfl ?_
    refine v_iconst (pc := 127) (v := 3) dL_all_127 (by decide) ?_
    refine vw_m (pc := 128) (j := 3) hW dL_all_128 rfl (by decide) (x := nI (nG s)) (hM3.trans n4) ?_
    refine v_icmp_ge (pc := 129) (tgt := 151) dL_all_129 (by decide) (fun c129 => absurd c129 (nI_ge (by omega) (by omega))) (fun c129 => ?_)
    refine v_ldcL (pc := 132) dL_all_132 k_L_133 ?_
    refine v_lload_n (pc := 135) dL_all_135 rfl rfl ?_
    refine v_lmul (pc := 136) dL_all_136 ?_
    refine v_aload_n (pc := 137) dL_all_137 rfl rfl ?_
    refine v_iload (pc := 138) dL_all_138 rfl ?_
    refine vqV (pc := 140) (u := u0 + 1 * i) (j := 1) (U := 400) (As := [.int _]) hW dL_all_140 cw_L_57 im_yX8_pulled se_yX8_pulled rfl (q_pulled _ hW hI hq (by unfold kPul; exact if_pos (btw_n (by omega) (by omega)))) rfl rfl (Nat.le_of_ble_eq_true rfl) ⟨Nat.le_of_ble_eq_true rfl, Nat.le_of_ble_eq_true rfl⟩ ⟨by decide, by decide⟩ ⟨rfl, rfl⟩ (by omega) (fun v G hp => ?_)
    obtain ⟨rfl, hW⟩ := hp
    rw [nat_nI (show i < 2147483648 by omega)]
    refine v_ladd (pc := 143) dL_all_143 ?_
    refine v_lstore_n (pc := 144) dL_all_144 rfl rfl (by decide) ?_
    refine v_iinc (pc := 145) dL_all_145 rfl (nI_1 _) rfl (by decide) ?_
    refine v_goto (pc := 148) (tgt := 124) dL_all_148 (by decide) ?_
    refine vq_u (u' := u0 + 1 * (i + 1)) (by omega) ?_
    exact ih (i + 1) G (by omega) hW
set_option maxRecDepth 100000 in
set_option maxHeartbeats 400000 in
theorem l_all5 {D : DT} {K : KT} {X : XT} {s : SG} {M : MT} {q u0 : Nat} {x0 : Int64} (hI : INV X s q) (hq : q < 512) (hM4 : M.2.1 4 = s.1 28 0) (hU : u0 + 2 * (6 * nC s) ≤ 400) (kk : ∀ (G : GT), WD X s M G → V cL_all yL_all.cls 5 rm_all D K 208 [some (.ref (X.1 0 0)), some (.ref M.1.1), some (.long (all5 s (6 * nC s) x0)), none, some (.int (nI (6 * nC s)))] [] G (nu (u0 + 2 * (6 * nC s)))) : ∀ (d i : Nat) (G : GT), i + d = 6 * nC s → WD X s M G → V cL_all yL_all.cls 5 rm_all D K 154 [some (.ref (X.1 0 0)), some (.ref M.1.1), some (.long (all5 s i x0)), none, some (.int (nI i))] [] G (nu (u0 + 2 * i)) := by
  obtain ⟨b1, b2, b3, b4, b5, n1, n2, n3, n4, n5⟩ := hI.six hq
  intro d
  induction d with
  | zero =>
    intro i G he hW
    obtain rfl : i = 6 * nC s := by omega
    refine v_iload (pc := 154) dL_all_154 rfl ?_
    refine v_bipush (pc := 156) (v := 6) dL_all_156 (by decide) ?_
    refine v_aload_n (pc := 158) dL_all_158 rfl rfl ?_
    refine v_iconst (pc := 159) (v := 4) dL_all_159 (by decide) ?_
    refine vw_m (pc := 160) (j := 4) hW dL_all_160 rfl (by decide) (x := nI (nC s)) (hM4.trans n3) ?_
    refine v_imul (pc := 161) dL_all_161 ?_
    rw [show (6 : Int32) = nI 6 from rfl, n_mul]
    refine v_icmp_ge (pc := 162) (tgt := 208) dL_all_162 (by decide) (fun c162 => ?_) (fun c162 => absurd c162 (fun z => z (Int32.le_refl _)))
    exact kk G hW
  | succ d ih =>
    intro i G he hW
    have hi : i < 6 * nC s := by omega
    refine v_iload (pc := 154) dL_all_154 rfl ?_
    refine v_bipush (pc := 156) (v := 6) dL_all_156 (by decide) ?_
    refine v_aload_n (pc := 158) dL_all_158 rfl rfl ?_
    refine v_iconst (pc := 159) (v := 4) dL_all_159 (by decide) ?_
    refine vw_m (pc := 160) (j := 4) hW dL_all_160 rfl (by decide) (x := nI (nC s)) (hM4.trans n3) ?_
    refine v_imul (pc := 161) dL_all_161 ?_
    rw [show (6 : Int32) = nI 6 from rfl, n_mul]
    refine v_icmp_ge (pc := 162) (tgt := 208) dL_all_162 (by decide) (fun c162 => absurd c162 (nI_ge (by omega) (by omega))) (fun c162 => ?_)
    refine v_ldcL (pc := 165) dL_all_165 k_L_133 ?_
    refine v_lload_n (pc := 168) dL_all_168 rfl rfl ?_
    refine v_lmul (pc := 169) dL_all_169 ?_
    refine v_aload_n (pc := 170) dL_all_170 rfl rfl ?_
    refine v_iload (pc := 171) dL_all_171 rfl ?_
    refine v_bipush (pc := 173) (v := 6) dL_all_173 (by decide) ?_
    refine v_idiv (pc := 175) dL_all_175 (by decide) ?_
    rw [show (6 : Int32) = nI 6 from rfl, n_div (by omega) (by decide)]
    refine v_iload (pc := 176) dL_all_176 rfl ?_
    refine v_bipush (pc := 178) (v := 6) dL_all_178 (by decide) ?_
    refine v_irem (pc := 180) dL_all_180 (by decide) ?_
    rw [show (6 : Int32) = nI 6 from rfl, n_rem (by omega) (by decide)]
    have h6 : btw (nI (i % 6)) 0 5 := (btw_lit (M := 5) (N := 5) rfl).mpr ⟨i % 6, by omega, rfl⟩
    refine vqV (pc := 181) (u := u0 + 2 * i) (j := 1) (U := 400) (As := [.int _, .int _]) hW dL_all_181 cw_L_97 im_yX8_ofCanopy se_yX8_ofCanopy rfl (q_ofCanopy _ _ hW hI hq (by unfold kOf; rw [if_pos (btw_n (by omega) (by omega)), if_pos h6])) rfl rfl (Nat.le_of_ble_eq_true rfl) ⟨Nat.le_of_ble_eq_true rfl, Nat.le_of_ble_eq_true rfl⟩ ⟨by decide, by decide⟩ ⟨rfl, rfl⟩ (by omega) (fun v G hp => ?_)
    obtain ⟨rfl, hW⟩ := hp
    rw [nat_nI (show i / 6 < 2147483648 by omega)]
    refine v_i2l (pc := 184) dL_all_184 ?_
    refine v_ladd (pc := 185) dL_all_185 ?_
    refine v_ldcL (pc := 186) dL_all_186 k_L_135 ?_
    refine v_aload_n (pc := 189) dL_all_189 rfl rfl ?_
    refine v_iload (pc := 190) dL_all_190 rfl ?_
    refine v_bipush (pc := 192) (v := 6) dL_all_192 (by decide) ?_
    refine v_idiv (pc := 194) dL_all_194 (by decide) ?_
    rw [show (6 : Int32) = nI 6 from rfl, n_div (by omega) (by decide)]
    refine vqV (pc := 195) (u := u0 + 2 * i + 1) (j := 1) (U := 400) (As := [.int _]) hW dL_all_195 cw_L_81 im_yX8_opens se_yX8_opens rfl (q_opens _ hW hI hq (by unfold kOp; exact if_pos (btw_n (by omega) (by omega)))) rfl rfl (Nat.le_of_ble_eq_true rfl) ⟨Nat.le_of_ble_eq_true rfl, Nat.le_of_ble_eq_true rfl⟩ ⟨by decide, by decide⟩ ⟨rfl, rfl⟩ (by omega) (fun v G hp => ?_)
    obtain ⟨rfl, hW⟩ := hp
    rw [nat_nI (show i / 6 < 2147483648 by omega)]
    refine v_i2l (pc := 198) dL_all_198 ?_
    refine v_lmul (pc := 199) dL_all_199 ?_
    refine v_ladd (pc := 200) dL_all_200 ?_
    refine v_lstore_n (pc := 201) dL_all_201 rfl rfl (by decide) ?_
    refine v_iinc (pc := 202) dL_all_202 rfl (nI_1 _) rfl (by decide) ?_
    refine v_goto (pc := 205) (tgt := 154) dL_all_205 (by decide) ?_
    refine vq_u (u' := u0 + 2 * (i + 1)) (by omega) ?_
    exact ih (i + 1) G (by omega) hW
set_option maxRecDepth 100000 in
set_option maxHeartbeats 400000 in
theorem c_L_all (D : DT) (X : XT) (s : SG) (M : MT) (G : GT) (q h t r : Nat) (hW : WD X s M G) (hI : INV X s q) (hq : q < 512) (hM : MV s M) (e1 : s.1 24 0 = nI h) (e2 : s.1 25 0 = nI t) (e3 : s.1 26 0 = nI r) (hh : h < 101) (ht : t < 101) (hr : r < 4) : MN yL_all cL_all 5 (Option.some Jvm.ClassFile.FieldType.long) rm_all D [.ref (X.1 0 0), .ref M.1.1] G (fun v G' => v = some (.long (allV s h t r)) ∧ WD X s M G') := by
  obtain ⟨b1, b2, b3, b4, b5, -⟩ := hI.six hq
  obtain ⟨hM0, hM1, hM2, hM3, hM4, -⟩ := hM
  refine MN_of (by decide +kernel) (Nat.le_of_ble_eq_true rfl) (fun K sz hR hNC => ?_)
  show V cL_all _ 5 _ D K 0 [some (.ref (X.1 0 0)), some (.ref M.1.1), none, none, none] [] G (nu 0)
  refine v_aload_n (pc := 0) dL_all_0 rfl rfl ?_
  refine vqV (pc := 1) (u := 0) (j := 1) (U := 400) (As := []) hW dL_all_1 cw_L_129 im_yX8_pegs se_yX8_pegs rfl (q_pegs hW hI hq) rfl rfl (Nat.le_of_ble_eq_true rfl) ⟨Nat.le_of_ble_eq_true rfl, Nat.le_of_ble_eq_true rfl⟩ ⟨by decide, by decide⟩ ⟨rfl, rfl⟩ (by omega) (fun v G hp => ?_)
  obtain ⟨rfl, hW⟩ := hp
  refine v_i2l (pc := 4) dL_all_4 ?_
  refine v_aload_n (pc := 5) dL_all_5 rfl rfl ?_
  refine v_bipush (pc := 6) (v := 15) dL_all_6 (by decide) ?_
  refine v_bipush (pc := 8) (v := 77) dL_all_8 (by decide) ?_
  refine v_iconst (pc := 10) (v := 0) dL_all_10 (by decide) ?_
  refine v_iconst (pc := 11) (v := 0) dL_all_11 (by decide) ?_
  refine v_iconst (pc := 12) (v := 0) dL_all_12 (by decide) ?_
  refine vqL (pc := 13) (u := 0 + 1) (j := 1) (U := 400) (As := [.ref (X.1 0 0), .int _, .int _, .int _, .int _, .int _]) hNC dL_all_13 ll_act.1 ll_act.2.1 wl_act ll_act.2.2.2 ll_act.2.2.1 (sw_power 77 0 0 0 e1 e2 e3 hh ht hr hW hI hq rfl) rfl rfl (Nat.le_of_ble_eq_true rfl) ⟨Nat.le_of_ble_eq_true rfl, Nat.le_of_ble_eq_true rfl⟩ ⟨by decide, by decide⟩ ⟨rfl, rfl⟩ (by omega) (fun v G hp => ?_)
  obtain ⟨s1, s', e, rfl, hW', rfl⟩ := hp
  have hW := hW'.eq e
  refine v_ladd (pc := 16) dL_all_16 ?_
  refine v_lstore_n (pc := 17) dL_all_17 rfl rfl (by decide) ?_
  refine v_iconst (pc := 18) (v := nI 0) dL_all_18 (by decide) ?_
  refine v_istore (pc := 19) dL_all_19 rfl (by decide) ?_
  refine l_all1 hI hq  (u0 := 2) (x0 := ((setF s (nG s)).toInt64 + (FP.f2i (pwI h t r 77)).toInt64)) (by omega) (fun G hW => ?_) 36 0 G (by omega) hW
  refine v_iconst (pc := 48) (v := nI 0) dL_all_48 (by decide) ?_
  refine v_istore (pc := 49) dL_all_49 rfl (by decide) ?_
  refine l_all2 hI hq hM1 (u0 := 2 + 1 * 36) (x0 := (all1 s 36 ((setF s (nG s)).toInt64 + (FP.f2i (pwI h t r 77)).toInt64))) (by omega) (fun G hW => ?_) (nB s) 0 G (by omega) hW
  refine v_iconst (pc := 90) (v := nI 0) dL_all_90 (by decide) ?_
  refine v_istore (pc := 91) dL_all_91 rfl (by decide) ?_
  refine l_all3 hI hq hM0 (u0 := 2 + 1 * 36 + 2 * nB s) (x0 := (all2 s (nB s) (all1 s 36 ((setF s (nG s)).toInt64 + (FP.f2i (pwI h t r 77)).toInt64)))) (by omega) (fun G hW => ?_) (nA s) 0 G (by omega) hW
  refine v_iconst (pc := 121) (v := nI 0) dL_all_121 (by decide) ?_
  refine v_istore (pc := 122) dL_all_122 rfl (by decide) ?_
  refine l_all4 hI hq hM3 (u0 := 2 + 1 * 36 + 2 * nB s + 1 * nA s) (x0 := (all3 s (nA s) (all2 s (nB s) (all1 s 36 ((setF s (nG s)).toInt64 + (FP.f2i (pwI h t r 77)).toInt64))))) (by omega) (fun G hW => ?_) (nG s) 0 G (by omega) hW
  refine v_iconst (pc := 151) (v := nI 0) dL_all_151 (by decide) ?_
  refine v_istore (pc := 152) dL_all_152 rfl (by decide) ?_
  refine l_all5 hI hq hM4 (u0 := 2 + 1 * 36 + 2 * nB s + 1 * nA s + 1 * nG s) (x0 := (all4 s (nG s) (all3 s (nA s) (all2 s (nB s) (all1 s 36 ((setF s (nG s)).toInt64 + (FP.f2i (pwI h t r 77)).toInt64)))))) (by omega) (fun G hW => ?_) (6 * nC s) 0 G (by omega) hW
  refine v_lload_n (pc := 208) dL_all_208 rfl rfl ?_
  refine vq_lret (pc := 209) (U := 400) hR dL_all_209 ⟨rfl, rfl⟩ (by omega) ?_
  exact ⟨rfl, hW⟩
