/-! trims: what they tell and leave -/
theorem tc : ∀ h, h < 101 → fBl.all (fun b => fC2 (fAl.getD h 0) b) = true
  | 0, _ => tc_0
  | 1, _ => tc_1
  | 2, _ => tc_2
  | 3, _ => tc_3
  | 4, _ => tc_4
  | 5, _ => tc_5
  | 6, _ => tc_6
  | 7, _ => tc_7
  | 8, _ => tc_8
  | 9, _ => tc_9
  | 10, _ => tc_10
  | 11, _ => tc_11
  | 12, _ => tc_12
  | 13, _ => tc_13
  | 14, _ => tc_14
  | 15, _ => tc_15
  | 16, _ => tc_16
  | 17, _ => tc_17
  | 18, _ => tc_18
  | 19, _ => tc_19
  | 20, _ => tc_20
  | 21, _ => tc_21
  | 22, _ => tc_22
  | 23, _ => tc_23
  | 24, _ => tc_24
  | 25, _ => tc_25
  | 26, _ => tc_26
  | 27, _ => tc_27
  | 28, _ => tc_28
  | 29, _ => tc_29
  | 30, _ => tc_30
  | 31, _ => tc_31
  | 32, _ => tc_32
  | 33, _ => tc_33
  | 34, _ => tc_34
  | 35, _ => tc_35
  | 36, _ => tc_36
  | 37, _ => tc_37
  | 38, _ => tc_38
  | 39, _ => tc_39
  | 40, _ => tc_40
  | 41, _ => tc_41
  | 42, _ => tc_42
  | 43, _ => tc_43
  | 44, _ => tc_44
  | 45, _ => tc_45
  | 46, _ => tc_46
  | 47, _ => tc_47
  | 48, _ => tc_48
  | 49, _ => tc_49
  | 50, _ => tc_50
  | 51, _ => tc_51
  | 52, _ => tc_52
  | 53, _ => tc_53
  | 54, _ => tc_54
  | 55, _ => tc_55
  | 56, _ => tc_56
  | 57, _ => tc_57
  | 58, _ => tc_58
  | 59, _ => tc_59
  | 60, _ => tc_60
  | 61, _ => tc_61
  | 62, _ => tc_62
  | 63, _ => tc_63
  | 64, _ => tc_64
  | 65, _ => tc_65
  | 66, _ => tc_66
  | 67, _ => tc_67
  | 68, _ => tc_68
  | 69, _ => tc_69
  | 70, _ => tc_70
  | 71, _ => tc_71
  | 72, _ => tc_72
  | 73, _ => tc_73
  | 74, _ => tc_74
  | 75, _ => tc_75
  | 76, _ => tc_76
  | 77, _ => tc_77
  | 78, _ => tc_78
  | 79, _ => tc_79
  | 80, _ => tc_80
  | 81, _ => tc_81
  | 82, _ => tc_82
  | 83, _ => tc_83
  | 84, _ => tc_84
  | 85, _ => tc_85
  | 86, _ => tc_86
  | 87, _ => tc_87
  | 88, _ => tc_88
  | 89, _ => tc_89
  | 90, _ => tc_90
  | 91, _ => tc_91
  | 92, _ => tc_92
  | 93, _ => tc_93
  | 94, _ => tc_94
  | 95, _ => tc_95
  | 96, _ => tc_96
  | 97, _ => tc_97
  | 98, _ => tc_98
  | 99, _ => tc_99
  | 100, _ => tc_100
  | n + 101, h => absurd h (by omega)
theorem tr_ok {h t r : Nat} (hh : h < 101) (ht : t < 101) (hr : r < 4) : (49 : Int64) ≤ (FP.f2i (FP.fmul (drI h t) 1148846080)).toInt64 ∧ ∃ v, FV (FP.fmul (drI h t) (arI r)) v ∧ 2 ^ 180 ≤ v ∧ v < 2 ^ 210 := by
  have h1 := List.all_eq_true.mp (tc h hh) (fBl.getD t 0) (by
    have hl : t < fBl.length := ht
    rw [List.getD_eq_getElem?_getD, List.getElem?_eq_getElem hl]
    exact List.getElem_mem hl)
  rw [fC2, fForce_eq, fForce_eq, Bool.and_eq_true] at h1
  have hd : (drI h t).toNat = FP.Core.add FP.Core.b32 (fAl.getD h 0) (fBl.getD t 0) := by
    have e1 : drI h t = UInt32.ofNat (FP.Core.add FP.Core.b32 (FP.fsub 1041865114 (FP.fmul 981668463 (FP.i2f (nI h)))).toNat (FP.fmul 973279855 (FP.i2f (nI t))).toNat) := rfl
    rw [e1, fA_eq h hh, fB_eq t ht]
    exact UInt32.toNat_ofNat_of_lt' (enc_lt _)
  have hy := List.all_eq_true.mp h1.2 (fAr.getD r 0) (by
    have hl : r < fAr.length := hr
    rw [List.getD_eq_getElem?_getD, List.getElem?_eq_getElem hl]
    exact List.getElem_mem hl)
  rw [fForce_eq, Bool.and_eq_true] at hy
  have hm : (FP.fmul (drI h t) (arI r)).toNat = fMulN (FP.Core.add FP.Core.b32 (fAl.getD h 0) (fBl.getD t 0)) (fAr.getD r 0) := by
    have e1 : FP.fmul (drI h t) (arI r) = UInt32.ofNat (FP.Core.mul FP.Core.b32 (drI h t).toNat (arI r).toNat) := rfl
    rw [e1, hd, fAr_eq r hr]
    exact UInt32.toNat_ofNat_of_lt' (enc_lt _)
  have hw : (FP.fmul (drI h t) 1148846080).toNat = fMulN (FP.Core.add FP.Core.b32 (fAl.getD h 0) (fBl.getD t 0)) 1148846080 := by
    have e1 : FP.fmul (drI h t) 1148846080 = UInt32.ofNat (FP.Core.mul FP.Core.b32 (drI h t).toNat 1148846080) := rfl
    rw [e1, hd]
    exact UInt32.toNat_ofNat_of_lt' (enc_lt _)
  refine ⟨?_, FV.rng (by rw [hm]; exact Nat.le_of_ble_eq_true hy.1) (by rw [hm]; exact Nat.lt_of_lt_of_le (Nat.le_of_ble_eq_true hy.2) (Nat.le_refl _))⟩
  have g1 : 49 ≤ FP.Core.toInt (-2147483648) 2147483647 (FP.Core.decode FP.Core.b32 (FP.fmul (drI h t) 1148846080).toNat) := by rw [hw]; exact of_decide_eq_true h1.1
  have g2 : FP.f2i (FP.fmul (drI h t) 1148846080) = Int32.ofInt (FP.Core.toInt (-2147483648) 2147483647 (FP.Core.decode FP.Core.b32 (FP.fmul (drI h t) 1148846080).toNat)) := rfl
  have g3 : ∀ d : FP.Core.Datum, FP.Core.toInt (-2147483648) 2147483647 d ≤ 2147483647 := by
    intro d
    cases d with
    | nan => decide
    | inf s => cases s <;> decide
    | fin s c q => simp only [FP.Core.toInt]; omega
  have g4 := g3 (FP.Core.decode FP.Core.b32 (FP.fmul (drI h t) 1148846080).toNat)
  rw [g2]
  generalize FP.Core.toInt (-2147483648) 2147483647 (FP.Core.decode FP.Core.b32 (FP.fmul (drI h t) 1148846080).toNat) = i at g1 g4
  rw [Int64.le_iff_toInt_le, Int32.toInt_toInt64, Int32.toInt_ofInt]
  have e49 : (49 : Int64).toInt = 49 := rfl
  have esz : Int32.size = 4294967296 := rfl
  rw [e49, esz, Int.bmod_eq_of_le (by omega) (by omega)]
  exact g1
theorem pw_mono {h t r k : Nat} (hh : h < 101) (ht : t < 101) (hr : r < 4) (hk : k + 1 < 101) : (FP.f2i (pwI h t r k)).toInt64 ≤ (FP.f2i (pwI h t r (k + 1))).toInt64 := by
  obtain ⟨-, v, hv, h1, h2⟩ := tr_ok hh ht hr
  exact w_le (pw_up hv h1 h2 hk)
theorem i2f_n (x : Int32) : vf_n32 (FP.i2f x) := by
  have := enc_ok (rnd_ok (d := FP.Core.ofInt x.toInt) (fun z => by unfold FP.Core.ofInt at z; cases z))
  exact vf_of this.1 this.2
theorem cmp_lg {x y : UInt32} (hx : vf_n32 x) (hy : vf_n32 y) : Op.cmpValue (FP.fcmp x y) .l = Op.cmpValue (FP.fcmp x y) .g := by
  have h1 := dat_nn hx
  have h2 := dat_nn hy
  have e : FP.fcmp x y = FP.Core.order (fdat x) (fdat y) := rfl
  rw [e]
  cases ex : fdat x with
  | nan => exact absurd ex h1
  | inf s =>
    cases ey : fdat y with
    | nan => exact absurd ey h2
    | inf t => simp only [FP.Core.order]; cases compare (FP.Core.signed s 1) (FP.Core.signed t 1) <;> rfl
    | fin t d r => simp only [FP.Core.order]; cases compare (FP.Core.signed s 1) 0 <;> rfl
  | fin s c q =>
    cases ey : fdat y with
    | nan => exact absurd ey h2
    | inf t => simp only [FP.Core.order]; cases compare 0 (FP.Core.signed t 1) <;> rfl
    | fin t d r => simp only [FP.Core.order]; cases compare (FP.Core.signed s (FP.Core.inUnits c q (min q r))) (FP.Core.signed t (FP.Core.inUnits d r (min q r))) <;> rfl
theorem hal_c {t r k : Nat} {p : Int32} : ∀ d i, (halF t r k p d i = -1 ∧ ∀ j, i ≤ j → j < i + d → halP t r k p j) ∨ ∃ h, i ≤ h ∧ h < i + d ∧ halF t r k p d i = nI h ∧ ¬ halP t r k p h ∧ ∀ j, i ≤ j → j < h → halP t r k p j := by
  intro d
  induction d with
  | zero => intro i; exact Or.inl ⟨rfl, fun j a b => by omega⟩
  | succ d ih =>
    intro i
    rw [halF]
    by_cases c : halP t r k p i
    · rw [if_pos c]
      rcases ih (i + 1) with ⟨g1, g2⟩ | ⟨h, g1, g2, g3, g4, g5⟩
      · refine Or.inl ⟨g1, fun j a b => ?_⟩
        by_cases z : j = i
        · subst z; exact c
        · exact g2 j (by omega) (by omega)
      · refine Or.inr ⟨h, by omega, by omega, g3, g4, fun j a b => ?_⟩
        by_cases z : j = i
        · subst z; exact c
        · exact g5 j (by omega) b
    · rw [if_neg c]
      exact Or.inr ⟨i, Nat.le_refl _, by omega, rfl, c, fun j a b => by omega⟩
theorem kTrim_n {a b c : Nat} (ha : a < 101) (hb : b < 101) (hc : c < 4) : kTrim (nI a) (nI b) (nI c) = 0 := by
  unfold kTrim
  exact if_pos ⟨(btw_lit (M := 100) (N := 100) rfl).mpr ⟨a, by omega, rfl⟩, (btw_lit (M := 100) (N := 100) rfl).mpr ⟨b, by omega, rfl⟩, (btw_lit (M := 3) (N := 3) rfl).mpr ⟨c, by omega, rfl⟩⟩
theorem kPow_n {a : Nat} (ha : a < 101) : kPow (nI a) = 0 := by
  unfold kPow
  exact if_pos ((btw_lit (M := 100) (N := 100) rfl).mpr ⟨a, by omega, rfl⟩)
theorem inv_tr {X X1 : XT} {s : SG} {q : Nat} {p0 p1 p2 : Int32} (h : INV X s q) (hq : q < 512) (hk : kTrim p0 p1 p2 = 0) (e1 : X1.2.1 = X.2.1) (e2 : X1.2.2.1 = X.2.2.1) : INV X1 (gTrim s p0 p1 p2) q := by
  obtain ⟨j1, j2, j3, j4, j5, j6, j7, j8, j9⟩ := INV.num (by omega) h
  obtain ⟨i1, i2, i3, i4, i5, i6, i7, i8, i9⟩ := INV.num (by omega) (inv_trim h hk e1 e2)
  have en : nN (gTrim s p0 p1 p2) = nN s := by
    unfold nN gTrim
    rw [sI_r _ _ _ (by decide), sI_r _ _ _ (by decide), sI_r _ _ _ (by decide)]
  exact ⟨_, _, _, _, _, _, i1, i2, i3, i4, i5, ⟨i6.1, by rw [en]; exact j6.2.1, i6.2.2⟩, i7, i8, i9⟩
theorem LI.m67 {X : XT} {s : SG} {M : MT} {t : Nat} {a b : Int32} (h : LI X s M t) : LI X s (mS (mS M 6 a) 7 b) t := h
theorem LI.trim {X : XT} {s s1 : SG} {M : MT} {t a b c : Nat} (hL : LI X s M t) (ht : t < 200) (e : EQ s s1) (G : GT) (ha : a < 101) (hb : b < 101) (hc : c < 4) : LI X (gTrim s1 (nI a) (nI b) (nI c)) M t ∧ (gTrim s1 (nI a) (nI b) (nI c)).1 24 0 = nI a ∧ (gTrim s1 (nI a) (nI b) (nI c)).1 25 0 = nI b ∧ (gTrim s1 (nI a) (nI b) (nI c)).1 26 0 = nI c := by
  have hL1 := hL.eq e G
  obtain ⟨h1, h2, h3, h4, h5, hM, h7⟩ := hL1
  have hr : ∀ k, k ≠ 24 → k ≠ 25 → k ≠ 26 → (gTrim s1 (nI a) (nI b) (nI c)).1 k = s1.1 k := fun k x y z => by
    unfold gTrim
    rw [sI_r _ _ _ z, sI_r _ _ _ y, sI_r _ _ _ x]
  refine ⟨⟨inv_tr (X1 := X) h1 (by omega) (kTrim_n ha hb hc) rfl rfl, ⟨fun k hk => by rw [hr 15 (by decide) (by decide) (by decide)]; exact h2.1 k hk, by rw [hr 18 (by decide) (by decide) (by decide)]; exact h2.2⟩, h3.rows (fun k hk => hr k (by omega) (by omega) (by omega)) (fun k hk => rfl), h4.rows (fun k hk => hr k (by omega) (by omega) (by omega)), by rw [hr 27 (by decide) (by decide) (by decide)]; exact h5, hM.rows (fun k hk => hr k (by omega) (by omega) (by omega)), h7.rows (fun k hk => hr k (by omega) (by omega) (by omega)) rfl⟩, ?_, ?_, ?_⟩
  · unfold gTrim
    rw [sI_r _ _ _ (by decide), sI_r _ _ _ (by decide), sI_at]
  · unfold gTrim
    rw [sI_r _ _ _ (by decide), sI_at]
  · unfold gTrim
    rw [sI_at]
theorem LI.asks {X X1 : XT} {s s1 : SG} {M : MT} {t : Nat} (hL : LI X s M t) (e : EQ s s1) (G : GT) (x1 : X1.2.1 = X.2.1) (x2 : X1.2.2.1 = X.2.2.1) : LI X1 s1 M t := by
  obtain ⟨h1, h2, h3, h4, h5, hM, h7⟩ := hL.eq e G
  exact ⟨INV.q1 (Nat.le_refl _) h1 (fun _ _ _ _ _ _ _ _ => rfl) rfl x1 x2, h2, h3, h4, h5, hM, h7⟩
