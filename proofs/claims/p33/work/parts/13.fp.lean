/-! floats: no NaN comes out of the sail's reckonings -/
abbrev fdat (x : UInt32) : FP.Core.Datum := FP.Core.decode FP.Core.b32 x.toNat
theorem vf_of {n : Nat} (h : n < 4294967296) (h2 : n % 2147483648 ≤ 2139095040) : vf_n32 (UInt32.ofNat n) := by
  unfold vf_n32
  rw [UInt32.le_iff_toNat_le, UInt32.toNat_and, UInt32.toNat_ofNat_of_lt' h]
  show n &&& 2147483647 ≤ 2139095040
  rw [show (2147483647 : Nat) = 2 ^ 31 - 1 from rfl, Nat.and_two_pow_sub_one_eq_mod]
  exact h2
theorem vf_to {x : UInt32} (h : vf_n32 x) : x.toNat % 2147483648 ≤ 2139095040 := by
  unfold vf_n32 at h
  rw [UInt32.le_iff_toNat_le, UInt32.toNat_and] at h
  have h1 : x.toNat &&& 2147483647 ≤ 2139095040 := h
  rw [show (2147483647 : Nat) = 2 ^ 31 - 1 from rfl, Nat.and_two_pow_sub_one_eq_mod] at h1
  exact h1
/-- a datum that is written: no NaN's bits -/
def okD (d : FP.Core.Datum) : Prop := match d with
  | .nan => False
  | .inf _ => True
  | .fin _ c q => c < 16777216 ∧ q ≤ 104
theorem b32_tails : FP.Core.Fmt.tails FP.Core.b32 = 8388608 := by decide
theorem b32_exps : FP.Core.Fmt.exps FP.Core.b32 = 256 := by decide
theorem b32_qmin : FP.Core.Fmt.qmin FP.Core.b32 = -149 := by decide
theorem b32_qmax : FP.Core.Fmt.qmax FP.Core.b32 = 104 := by decide
theorem asm_ok (s : Bool) {e t : Nat} (he : e ≤ 255) (ht : t < 8388608) (h : e = 255 → t = 0) : FP.Core.assemble FP.Core.b32 s e t < 4294967296 ∧ FP.Core.assemble FP.Core.b32 s e t % 2147483648 ≤ 2139095040 := by
  unfold FP.Core.assemble
  rw [b32_tails, b32_exps]
  have hs : s.toNat ≤ 1 := by cases s <;> decide
  constructor
  · omega
  · rcases (show s.toNat = 0 ∨ s.toNat = 1 by omega) with z | z <;> rw [z] <;> omega
theorem enc_ok {d : FP.Core.Datum} (h : okD d) : FP.Core.encode FP.Core.b32 d < 4294967296 ∧ FP.Core.encode FP.Core.b32 d % 2147483648 ≤ 2139095040 := by
  cases d with
  | nan => exact h.elim
  | inf s =>
    show FP.Core.assemble FP.Core.b32 s (FP.Core.Fmt.exps FP.Core.b32 - 1) 0 < _ ∧ _
    rw [b32_exps]
    exact asm_ok s (by decide) (by decide) (fun _ => rfl)
  | fin s c q =>
    obtain ⟨h1, h2⟩ := h
    simp only [FP.Core.encode]
    rw [b32_tails, b32_qmin]
    split
    · next hc => exact asm_ok s (by decide) hc (fun z => absurd z (by decide))
    · next hc => exact asm_ok s (by omega) (by omega) (fun z => absurd z (by omega))
theorem rnd_ok {d : FP.Core.Datum} (h : d ≠ .nan) : okD (FP.Core.round FP.Core.b32 d) := by
  cases d with
  | nan => exact absurd rfl h
  | inf s => trivial
  | fin s c q =>
    simp only [FP.Core.round, FP.Core.roundRatio]
    split
    · exact ⟨by decide, by rw [b32_qmin]; decide⟩
    · simp only [FP.Core.roundAt, FP.Core.settle, FP.Core.bound]
      rw [b32_qmax, b32_tails]
      split
      · next hc =>
        split
        · next hq => exact ⟨hc, hq⟩
        · trivial
      · split
        · next hq => exact ⟨by decide, hq⟩
        · trivial
theorem enc_lt (d : FP.Core.Datum) : FP.Core.encode FP.Core.b32 (FP.Core.round FP.Core.b32 d) < 4294967296 := by
  cases d with
  | nan => decide +kernel
  | inf s => exact (enc_ok (rnd_ok (d := .inf s) (fun z => nomatch z))).1
  | fin s c q => exact (enc_ok (rnd_ok (d := .fin s c q) (fun z => nomatch z))).1
theorem mul_nn {x y : UInt32} (h : FP.Core.exactProduct (fdat x) (fdat y) ≠ .nan) : vf_n32 (FP.fmul x y) := by
  have := enc_ok (rnd_ok h)
  exact vf_of this.1 this.2
theorem dat_nn {x : UInt32} (h : vf_n32 x) : fdat x ≠ .nan := by
  have h1 := vf_to h
  simp only [fdat, FP.Core.decode, FP.Core.fieldE, FP.Core.fieldT, b32_tails, b32_exps]
  split
  · next he =>
    rw [if_pos (by omega)]
    intro z; cases z
  · split <;> (intro z; cases z)
theorem mul_w {x y : UInt32} (hx : vf_n32 x) {t : Bool} {d : Nat} {r : Int} (hy : fdat y = .fin t d r) (hd : d ≠ 0) : vf_n32 (FP.fmul x y) := by
  refine mul_nn ?_
  rw [hy]
  have := dat_nn hx
  cases e : fdat x with
  | nan => exact absurd e this
  | inf s => simp [FP.Core.exactProduct, hd]
  | fin s c q => simp [FP.Core.exactProduct]
def finB (n : Nat) : Bool := n / 8388608 % 256 != 255
theorem dat_fin {x : UInt32} (h : finB x.toNat = true) : ∃ s c q, fdat x = .fin s c q := by
  simp only [fdat, FP.Core.decode, FP.Core.fieldE, FP.Core.fieldT, b32_tails, b32_exps]
  have h1 : ¬ x.toNat / 8388608 % 256 = 256 - 1 := by simpa [finB] using h
  rw [if_neg h1]
  split
  · exact ⟨_, _, _, rfl⟩
  · exact ⟨_, _, _, rfl⟩
theorem mul_0 {x : UInt32} {s : Bool} {c : Nat} {q : Int} (h : fdat x = .fin s c q) : FP.fmul x 0 = 0 ∨ FP.fmul x 0 = 2147483648 := by
  show UInt32.ofNat (FP.Core.encode FP.Core.b32 (FP.Core.round FP.Core.b32 (FP.Core.exactProduct (fdat x) (fdat 0)))) = 0 ∨ UInt32.ofNat (FP.Core.encode FP.Core.b32 (FP.Core.round FP.Core.b32 (FP.Core.exactProduct (fdat x) (fdat 0)))) = 2147483648
  have h0 : fdat 0 = .fin false 0 (-149) := by decide +kernel
  rw [h, h0]
  simp only [FP.Core.exactProduct, Nat.mul_zero, FP.Core.round, FP.Core.roundRatio, if_true]
  cases s
  · left; decide +kernel
  · right; decide +kernel
/-- the sail -/
def drI (h t : Nat) : UInt32 := FP.fadd (FP.fsub 1041865114 (FP.fmul 981668463 (FP.i2f (nI h)))) (FP.fmul 973279855 (FP.i2f (nI t)))
def arI (r : Nat) : UInt32 := FP.fdiv 1109393408 (FP.fadd FP.fconst1 (FP.i2f (nI r)))
def pwI (h t r k : Nat) : UInt32 := FP.fmul (FP.fmul (FP.fmul (drI h t) (arI r)) (FP.i2f (nI k))) (FP.i2f (nI k))
def vfB (x : UInt32) : Bool := decide (x &&& 0x7fffffff ≤ 0x7f800000)
theorem vf_B {x : UInt32} (h : vfB x = true) : vf_n32 x := by
  unfold vfB at h
  unfold vf_n32
  exact of_decide_eq_true h
theorem f1 : ∀ h, h < 101 → vfB (FP.fmul 981668463 (FP.i2f (nI h))) = true ∧ vfB (FP.fsub 1041865114 (FP.fmul 981668463 (FP.i2f (nI h)))) = true ∧ vfB (FP.fmul 973279855 (FP.i2f (nI h))) = true := by decide +kernel
/-- a number made first, then looked at -/
def fForce (n : Nat) (P : Nat → Bool) : Bool := match n with
  | 0 => P 0
  | k + 1 => P (k + 1)
theorem fForce_eq (n : Nat) (P : Nat → Bool) : fForce n P = P n := by cases n <;> rfl
def fGood (n : Nat) : Bool := decide (n % 2147483648 ≤ 2139095040)
def fMulN (x y : Nat) : Nat := FP.Core.mul FP.Core.b32 x y
def fAr : List Nat := [1109393408, 1101004800, 1096111445, 1092616192]
def fChk (a b : Nat) : Bool := fForce (FP.Core.add FP.Core.b32 a b) (fun d => fGood d && fAr.all (fun y => fForce (fMulN d y) (fun z => fGood z && finB z)))
def fAl : List Nat := [1041865114, 1041798005, 1041730896, 1041663787, 1041596679, 1041529570, 1041462461, 1041395352, 1041328243, 1041261134, 1041194025, 1041126916, 1041059808, 1040992699, 1040925590, 1040858481, 1040791372, 1040724263, 1040657154, 1040590046, 1040522937, 1040455828, 1040388719, 1040321610, 1040254501, 1040187392, 1040053175, 1039918957, 1039784740, 1039650522, 1039516304, 1039382086, 1039247868, 1039113651, 1038979433, 1038845216, 1038710998, 1038576780, 1038442562, 1038308344, 1038174126, 1038039909, 1037905691, 1037771474, 1037637256, 1037503038, 1037368820, 1037234602, 1037100385, 1036966167, 1036831950, 1036697732, 1036563514, 1036429296, 1036295078, 1036160860, 1036026643, 1035892425, 1035758208, 1035623990, 1035489772, 1035355554, 1035221336, 1035087119, 1034952901, 1034818683, 1034684466, 1034550248, 1034416030, 1034281812, 1034147595, 1034013377, 1033879159, 1033744941, 1033610724, 1033476506, 1033342288, 1033208070, 1033073853, 1032939635, 1032805417, 1032671200, 1032536982, 1032402764, 1032268546, 1032134329, 1032000111, 1031865893, 1031664566, 1031396132, 1031127696, 1030859260, 1030590824, 1030322390, 1030053954, 1029785518, 1029517084, 1029248648, 1028980212, 1028711776, 1028443342]
def fBl : List Nat := [0, 973279855, 981668463, 985963430, 990057071, 992204555, 994352038, 996499522, 998445679, 999519421, 1000593163, 1001666905, 1002740646, 1003814388, 1004888130, 1005961872, 1006834287, 1007371158, 1007908029, 1008444900, 1008981771, 1009518642, 1010055513, 1010592384, 1011129254, 1011666125, 1012202996, 1012739867, 1013276738, 1013813609, 1014350480, 1014887351, 1015222895, 1015491330, 1015759766, 1016028201, 1016296637, 1016565072, 1016833508, 1017101943, 1017370379, 1017638814, 1017907250, 1018175685, 1018444121, 1018712556, 1018980992, 1019249427, 1019517862, 1019786298, 1020054733, 1020323169, 1020591604, 1020860040, 1021128475, 1021396911, 1021665346, 1021933782, 1022202217, 1022470653, 1022739088, 1023007524, 1023275959, 1023477285, 1023611503, 1023745721, 1023879938, 1024014156, 1024148374, 1024282592, 1024416809, 1024551027, 1024685245, 1024819463, 1024953680, 1025087898, 1025222116, 1025356334, 1025490551, 1025624769, 1025758987, 1025893204, 1026027422, 1026161640, 1026295858, 1026430075, 1026564293, 1026698511, 1026832729, 1026966946, 1027101164, 1027235382, 1027369600, 1027503817, 1027638035, 1027772253, 1027906470, 1028040688, 1028174906, 1028309124, 1028443341]
theorem fA_eq : ∀ h, h < 101 → (FP.fsub 1041865114 (FP.fmul 981668463 (FP.i2f (nI h)))).toNat = fAl.getD h 0 := by decide +kernel
theorem fB_eq : ∀ t, t < 101 → (FP.fmul 973279855 (FP.i2f (nI t))).toNat = fBl.getD t 0 := by decide +kernel
theorem fAr_eq : ∀ r, r < 4 → (arI r).toNat = fAr.getD r 0 := by decide +kernel
theorem f4_0 : fBl.all (fun b => fChk 1041865114 b) = true := by decide +kernel
theorem f4_1 : fBl.all (fun b => fChk 1041798005 b) = true := by decide +kernel
theorem f4_2 : fBl.all (fun b => fChk 1041730896 b) = true := by decide +kernel
theorem f4_3 : fBl.all (fun b => fChk 1041663787 b) = true := by decide +kernel
theorem f4_4 : fBl.all (fun b => fChk 1041596679 b) = true := by decide +kernel
theorem f4_5 : fBl.all (fun b => fChk 1041529570 b) = true := by decide +kernel
theorem f4_6 : fBl.all (fun b => fChk 1041462461 b) = true := by decide +kernel
theorem f4_7 : fBl.all (fun b => fChk 1041395352 b) = true := by decide +kernel
theorem f4_8 : fBl.all (fun b => fChk 1041328243 b) = true := by decide +kernel
theorem f4_9 : fBl.all (fun b => fChk 1041261134 b) = true := by decide +kernel
theorem f4_10 : fBl.all (fun b => fChk 1041194025 b) = true := by decide +kernel
theorem f4_11 : fBl.all (fun b => fChk 1041126916 b) = true := by decide +kernel
theorem f4_12 : fBl.all (fun b => fChk 1041059808 b) = true := by decide +kernel
theorem f4_13 : fBl.all (fun b => fChk 1040992699 b) = true := by decide +kernel
theorem f4_14 : fBl.all (fun b => fChk 1040925590 b) = true := by decide +kernel
theorem f4_15 : fBl.all (fun b => fChk 1040858481 b) = true := by decide +kernel
theorem f4_16 : fBl.all (fun b => fChk 1040791372 b) = true := by decide +kernel
theorem f4_17 : fBl.all (fun b => fChk 1040724263 b) = true := by decide +kernel
theorem f4_18 : fBl.all (fun b => fChk 1040657154 b) = true := by decide +kernel
theorem f4_19 : fBl.all (fun b => fChk 1040590046 b) = true := by decide +kernel
theorem f4_20 : fBl.all (fun b => fChk 1040522937 b) = true := by decide +kernel
theorem f4_21 : fBl.all (fun b => fChk 1040455828 b) = true := by decide +kernel
theorem f4_22 : fBl.all (fun b => fChk 1040388719 b) = true := by decide +kernel
theorem f4_23 : fBl.all (fun b => fChk 1040321610 b) = true := by decide +kernel
theorem f4_24 : fBl.all (fun b => fChk 1040254501 b) = true := by decide +kernel
theorem f4_25 : fBl.all (fun b => fChk 1040187392 b) = true := by decide +kernel
theorem f4_26 : fBl.all (fun b => fChk 1040053175 b) = true := by decide +kernel
theorem f4_27 : fBl.all (fun b => fChk 1039918957 b) = true := by decide +kernel
theorem f4_28 : fBl.all (fun b => fChk 1039784740 b) = true := by decide +kernel
theorem f4_29 : fBl.all (fun b => fChk 1039650522 b) = true := by decide +kernel
theorem f4_30 : fBl.all (fun b => fChk 1039516304 b) = true := by decide +kernel
theorem f4_31 : fBl.all (fun b => fChk 1039382086 b) = true := by decide +kernel
theorem f4_32 : fBl.all (fun b => fChk 1039247868 b) = true := by decide +kernel
theorem f4_33 : fBl.all (fun b => fChk 1039113651 b) = true := by decide +kernel
theorem f4_34 : fBl.all (fun b => fChk 1038979433 b) = true := by decide +kernel
theorem f4_35 : fBl.all (fun b => fChk 1038845216 b) = true := by decide +kernel
theorem f4_36 : fBl.all (fun b => fChk 1038710998 b) = true := by decide +kernel
theorem f4_37 : fBl.all (fun b => fChk 1038576780 b) = true := by decide +kernel
theorem f4_38 : fBl.all (fun b => fChk 1038442562 b) = true := by decide +kernel
theorem f4_39 : fBl.all (fun b => fChk 1038308344 b) = true := by decide +kernel
theorem f4_40 : fBl.all (fun b => fChk 1038174126 b) = true := by decide +kernel
theorem f4_41 : fBl.all (fun b => fChk 1038039909 b) = true := by decide +kernel
theorem f4_42 : fBl.all (fun b => fChk 1037905691 b) = true := by decide +kernel
theorem f4_43 : fBl.all (fun b => fChk 1037771474 b) = true := by decide +kernel
theorem f4_44 : fBl.all (fun b => fChk 1037637256 b) = true := by decide +kernel
theorem f4_45 : fBl.all (fun b => fChk 1037503038 b) = true := by decide +kernel
theorem f4_46 : fBl.all (fun b => fChk 1037368820 b) = true := by decide +kernel
theorem f4_47 : fBl.all (fun b => fChk 1037234602 b) = true := by decide +kernel
theorem f4_48 : fBl.all (fun b => fChk 1037100385 b) = true := by decide +kernel
theorem f4_49 : fBl.all (fun b => fChk 1036966167 b) = true := by decide +kernel
theorem f4_50 : fBl.all (fun b => fChk 1036831950 b) = true := by decide +kernel
theorem f4_51 : fBl.all (fun b => fChk 1036697732 b) = true := by decide +kernel
theorem f4_52 : fBl.all (fun b => fChk 1036563514 b) = true := by decide +kernel
theorem f4_53 : fBl.all (fun b => fChk 1036429296 b) = true := by decide +kernel
theorem f4_54 : fBl.all (fun b => fChk 1036295078 b) = true := by decide +kernel
theorem f4_55 : fBl.all (fun b => fChk 1036160860 b) = true := by decide +kernel
theorem f4_56 : fBl.all (fun b => fChk 1036026643 b) = true := by decide +kernel
theorem f4_57 : fBl.all (fun b => fChk 1035892425 b) = true := by decide +kernel
theorem f4_58 : fBl.all (fun b => fChk 1035758208 b) = true := by decide +kernel
theorem f4_59 : fBl.all (fun b => fChk 1035623990 b) = true := by decide +kernel
theorem f4_60 : fBl.all (fun b => fChk 1035489772 b) = true := by decide +kernel
theorem f4_61 : fBl.all (fun b => fChk 1035355554 b) = true := by decide +kernel
theorem f4_62 : fBl.all (fun b => fChk 1035221336 b) = true := by decide +kernel
theorem f4_63 : fBl.all (fun b => fChk 1035087119 b) = true := by decide +kernel
theorem f4_64 : fBl.all (fun b => fChk 1034952901 b) = true := by decide +kernel
theorem f4_65 : fBl.all (fun b => fChk 1034818683 b) = true := by decide +kernel
theorem f4_66 : fBl.all (fun b => fChk 1034684466 b) = true := by decide +kernel
theorem f4_67 : fBl.all (fun b => fChk 1034550248 b) = true := by decide +kernel
theorem f4_68 : fBl.all (fun b => fChk 1034416030 b) = true := by decide +kernel
theorem f4_69 : fBl.all (fun b => fChk 1034281812 b) = true := by decide +kernel
theorem f4_70 : fBl.all (fun b => fChk 1034147595 b) = true := by decide +kernel
theorem f4_71 : fBl.all (fun b => fChk 1034013377 b) = true := by decide +kernel
theorem f4_72 : fBl.all (fun b => fChk 1033879159 b) = true := by decide +kernel
theorem f4_73 : fBl.all (fun b => fChk 1033744941 b) = true := by decide +kernel
theorem f4_74 : fBl.all (fun b => fChk 1033610724 b) = true := by decide +kernel
theorem f4_75 : fBl.all (fun b => fChk 1033476506 b) = true := by decide +kernel
theorem f4_76 : fBl.all (fun b => fChk 1033342288 b) = true := by decide +kernel
theorem f4_77 : fBl.all (fun b => fChk 1033208070 b) = true := by decide +kernel
theorem f4_78 : fBl.all (fun b => fChk 1033073853 b) = true := by decide +kernel
theorem f4_79 : fBl.all (fun b => fChk 1032939635 b) = true := by decide +kernel
theorem f4_80 : fBl.all (fun b => fChk 1032805417 b) = true := by decide +kernel
theorem f4_81 : fBl.all (fun b => fChk 1032671200 b) = true := by decide +kernel
theorem f4_82 : fBl.all (fun b => fChk 1032536982 b) = true := by decide +kernel
theorem f4_83 : fBl.all (fun b => fChk 1032402764 b) = true := by decide +kernel
theorem f4_84 : fBl.all (fun b => fChk 1032268546 b) = true := by decide +kernel
theorem f4_85 : fBl.all (fun b => fChk 1032134329 b) = true := by decide +kernel
theorem f4_86 : fBl.all (fun b => fChk 1032000111 b) = true := by decide +kernel
theorem f4_87 : fBl.all (fun b => fChk 1031865893 b) = true := by decide +kernel
theorem f4_88 : fBl.all (fun b => fChk 1031664566 b) = true := by decide +kernel
theorem f4_89 : fBl.all (fun b => fChk 1031396132 b) = true := by decide +kernel
theorem f4_90 : fBl.all (fun b => fChk 1031127696 b) = true := by decide +kernel
theorem f4_91 : fBl.all (fun b => fChk 1030859260 b) = true := by decide +kernel
theorem f4_92 : fBl.all (fun b => fChk 1030590824 b) = true := by decide +kernel
theorem f4_93 : fBl.all (fun b => fChk 1030322390 b) = true := by decide +kernel
theorem f4_94 : fBl.all (fun b => fChk 1030053954 b) = true := by decide +kernel
theorem f4_95 : fBl.all (fun b => fChk 1029785518 b) = true := by decide +kernel
theorem f4_96 : fBl.all (fun b => fChk 1029517084 b) = true := by decide +kernel
theorem f4_97 : fBl.all (fun b => fChk 1029248648 b) = true := by decide +kernel
theorem f4_98 : fBl.all (fun b => fChk 1028980212 b) = true := by decide +kernel
theorem f4_99 : fBl.all (fun b => fChk 1028711776 b) = true := by decide +kernel
theorem f4_100 : fBl.all (fun b => fChk 1028443342 b) = true := by decide +kernel
theorem f4a : ∀ h, h < 101 → fBl.all (fun b => fChk (fAl.getD h 0) b) = true
  | 0, _ => f4_0
  | 1, _ => f4_1
  | 2, _ => f4_2
  | 3, _ => f4_3
  | 4, _ => f4_4
  | 5, _ => f4_5
  | 6, _ => f4_6
  | 7, _ => f4_7
  | 8, _ => f4_8
  | 9, _ => f4_9
  | 10, _ => f4_10
  | 11, _ => f4_11
  | 12, _ => f4_12
  | 13, _ => f4_13
  | 14, _ => f4_14
  | 15, _ => f4_15
  | 16, _ => f4_16
  | 17, _ => f4_17
  | 18, _ => f4_18
  | 19, _ => f4_19
  | 20, _ => f4_20
  | 21, _ => f4_21
  | 22, _ => f4_22
  | 23, _ => f4_23
  | 24, _ => f4_24
  | 25, _ => f4_25
  | 26, _ => f4_26
  | 27, _ => f4_27
  | 28, _ => f4_28
  | 29, _ => f4_29
  | 30, _ => f4_30
  | 31, _ => f4_31
  | 32, _ => f4_32
  | 33, _ => f4_33
  | 34, _ => f4_34
  | 35, _ => f4_35
  | 36, _ => f4_36
  | 37, _ => f4_37
  | 38, _ => f4_38
  | 39, _ => f4_39
  | 40, _ => f4_40
  | 41, _ => f4_41
  | 42, _ => f4_42
  | 43, _ => f4_43
  | 44, _ => f4_44
  | 45, _ => f4_45
  | 46, _ => f4_46
  | 47, _ => f4_47
  | 48, _ => f4_48
  | 49, _ => f4_49
  | 50, _ => f4_50
  | 51, _ => f4_51
  | 52, _ => f4_52
  | 53, _ => f4_53
  | 54, _ => f4_54
  | 55, _ => f4_55
  | 56, _ => f4_56
  | 57, _ => f4_57
  | 58, _ => f4_58
  | 59, _ => f4_59
  | 60, _ => f4_60
  | 61, _ => f4_61
  | 62, _ => f4_62
  | 63, _ => f4_63
  | 64, _ => f4_64
  | 65, _ => f4_65
  | 66, _ => f4_66
  | 67, _ => f4_67
  | 68, _ => f4_68
  | 69, _ => f4_69
  | 70, _ => f4_70
  | 71, _ => f4_71
  | 72, _ => f4_72
  | 73, _ => f4_73
  | 74, _ => f4_74
  | 75, _ => f4_75
  | 76, _ => f4_76
  | 77, _ => f4_77
  | 78, _ => f4_78
  | 79, _ => f4_79
  | 80, _ => f4_80
  | 81, _ => f4_81
  | 82, _ => f4_82
  | 83, _ => f4_83
  | 84, _ => f4_84
  | 85, _ => f4_85
  | 86, _ => f4_86
  | 87, _ => f4_87
  | 88, _ => f4_88
  | 89, _ => f4_89
  | 90, _ => f4_90
  | 91, _ => f4_91
  | 92, _ => f4_92
  | 93, _ => f4_93
  | 94, _ => f4_94
  | 95, _ => f4_95
  | 96, _ => f4_96
  | 97, _ => f4_97
  | 98, _ => f4_98
  | 99, _ => f4_99
  | 100, _ => f4_100
  | n + 101, h => absurd h (by omega)
theorem f3 : ∀ r, r < 4 → vfB (FP.fadd FP.fconst1 (FP.i2f (nI r))) = true ∧ vfB (arI r) = true := by decide +kernel
theorem vf_n {x : UInt32} (h : fGood x.toNat = true) : vf_n32 x := by
  have h1 : x.toNat % 2147483648 ≤ 2139095040 := of_decide_eq_true h
  have := vf_of (n := x.toNat) x.toNat_lt h1
  rwa [UInt32.ofNat_toNat] at this
theorem f4 {h t r : Nat} (hh : h < 101) (ht : t < 101) (hr : r < 4) : vf_n32 (drI h t) ∧ vf_n32 (FP.fmul (drI h t) (arI r)) ∧ finB (FP.fmul (drI h t) (arI r)).toNat = true := by
  have h1 := List.all_eq_true.mp (f4a h hh) (fBl.getD t 0) (by
    have hl : t < fBl.length := ht
    rw [List.getD_eq_getElem?_getD, List.getElem?_eq_getElem hl]
    exact List.getElem_mem hl)
  rw [fChk, fForce_eq, Bool.and_eq_true] at h1
  have hd : (drI h t).toNat = FP.Core.add FP.Core.b32 (fAl.getD h 0) (fBl.getD t 0) := by
    have e1 : drI h t = UInt32.ofNat (FP.Core.add FP.Core.b32 (FP.fsub 1041865114 (FP.fmul 981668463 (FP.i2f (nI h)))).toNat (FP.fmul 973279855 (FP.i2f (nI t))).toNat) := rfl
    rw [e1, fA_eq h hh, fB_eq t ht]
    exact UInt32.toNat_ofNat_of_lt' (enc_lt _)
  have hy := List.all_eq_true.mp h1.2 (fAr.getD r 0) (by
    have hl : r < fAr.length := hr
    rw [List.getD_eq_getElem?_getD, List.getElem?_eq_getElem hl]
    exact List.getElem_mem hl)
  rw [fForce_eq, Bool.and_eq_true] at hy
  have hm : (FP.fmul (drI h t) (arI r)).toNat = fMulN (FP.Core.add FP.Core.b32 (fAl.getD h 0) (fBl.getD t 0)) (fAr.getD r 0) := by
    have e1 : FP.fmul (drI h t) (arI r) = UInt32.ofNat (FP.Core.mul FP.Core.b32 (drI h t).toNat (arI r).toNat) := rfl
    rw [e1, hd, fAr_eq r hr]
    exact UInt32.toNat_ofNat_of_lt' (enc_lt _)
  exact ⟨vf_n (by rw [hd]; exact h1.1), vf_n (by rw [hm]; exact hy.1), by rw [hm]; exact hy.2⟩
theorem f5 : ∀ k, k < 101 → 0 < k → (match fdat (FP.i2f (nI k)) with | .fin _ d _ => d != 0 | _ => false) = true := by decide +kernel
theorem f6 {h t r : Nat} (hh : h < 101) (ht : t < 101) (hr : r < 4) {k : Nat} (hk : k < 101) : vf_n32 (FP.fmul (FP.fmul (drI h t) (arI r)) (FP.i2f (nI k))) ∧ vf_n32 (pwI h t r k) := by
  have h4 := (f4 hh ht hr).2
  have hv := h4.1
  rcases Nat.eq_zero_or_pos k with rfl | hp
  · obtain ⟨s, c, q, e⟩ := dat_fin h4.2
    have e0 : FP.i2f (nI 0) = 0 := by decide +kernel
    rw [pwI, e0]
    rcases mul_0 e with z | z <;> rw [z]
    · exact ⟨vf_B (by decide +kernel), vf_B (by decide +kernel)⟩
    · exact ⟨vf_B (by decide +kernel), vf_B (by decide +kernel)⟩
  · have h5 := f5 k hk hp
    cases e : fdat (FP.i2f (nI k)) with
    | nan => rw [e] at h5; cases h5
    | inf s => rw [e] at h5; cases h5
    | fin s d q =>
      rw [e] at h5
      have hd : d ≠ 0 := by simpa using h5
      have g1 := mul_w hv e hd
      exact ⟨g1, mul_w g1 e hd⟩
