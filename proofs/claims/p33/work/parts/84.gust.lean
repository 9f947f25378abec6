/-! a gust: what is shared, who comes out -/
def shF (s : SG) : Nat → Int64
  | 0 => 0
  | i + 1 => shF s i + (if s.1 22 i = 0 then 0 else s.2 23 i)
def pnN (s : SG) (F A i : Nat) : Nat := F * nat (s.1 21 i) / A
def snN (s : SG) (F A : Nat) : Nat → Nat
  | 0 => 0
  | i + 1 => snN s F A i + (if s.1 22 i = 0 then 0 else pnN s F A i)
theorem l_toInt {x y : Int64} (h : ¬ x < y) : y ≤ x := l_nlt.mp h
theorem pul_n {s : SG} {g i F : Nat} {f : Int64} (h : GV s g) (hg : g ≤ 8) (hi : i < g) (hf : f.toInt = (F : Int)) (hF : F ≤ 40000000000000) : (pulS s f (alF s g) i).toInt = ((pnN s F (sumN s g) i : Nat) : Int) := by
  obtain ⟨h1, h2, -⟩ := alF_n h hg g (Nat.le_refl g)
  obtain ⟨q, q1, q2, q3⟩ := h i hi
  have e : nat (s.1 21 i) = q := by rw [q3]; exact nat_nI (by omega)
  have e1 : (s.1 21 i).toInt64.toInt = (q : Int) := by rw [q3, Int32.toInt_toInt64]; exact nI_toInt (by omega)
  have e2 : (alF s g).toInt64.toInt = ((sumN s g : Nat) : Int) := by rw [h1, Int32.toInt_toInt64]; exact nI_toInt (by omega)
  have k1 : F * q ≤ 40000000000000 * 100 := Nat.mul_le_mul hF q2
  have e3 := m64 hf e1 (by omega)
  have e4 := d64 e3 e2 (by omega)
  unfold pulS pnN
  rw [e, e4]
theorem sn_le {s : SG} {F A : Nat} : ∀ i, snN s F A i * A ≤ F * sumN s i := by
  intro i
  induction i with
  | zero => simp [snN, sumN]
  | succ i ih =>
    simp only [snN, sumN]
    split
    · simpa using ih
    · rw [Nat.add_mul, Nat.mul_add]
      exact Nat.add_le_add ih (Nat.div_mul_le_self _ _)
theorem sn_mono {s : SG} {F A : Nat} : ∀ g i, i ≤ g → snN s F A i ≤ snN s F A g := by
  intro g
  induction g with
  | zero => intro i hi; have : i = 0 := by omega
            subst this; exact Nat.le_refl _
  | succ g ih =>
    intro i hi
    by_cases e : i = g + 1
    · subst e; exact Nat.le_refl _
    · have := ih i (by omega)
      rw [snN]
      omega
theorem sn_F {s : SG} {F g : Nat} (hA : 0 < sumN s g) : snN s F (sumN s g) g ≤ F := by
  have := sn_le (s := s) (F := F) (A := sumN s g) g
  exact Nat.le_of_mul_le_mul_right this hA
theorem lf_n {s : SG} {g F : Nat} {f : Int64} (h : GV s g) (hg : g ≤ 8) (hf : f.toInt = (F : Int)) (hF : F ≤ 40000000000000) (hA : 0 < sumN s g) : ∀ i, i ≤ g → (lfF s f (alF s g) i).toInt = (F : Int) - ((snN s F (sumN s g) i : Nat) : Int) := by
  intro i
  induction i with
  | zero => intro _; simp only [lfF, snN]; rw [hf]; omega
  | succ i ih =>
    intro hi
    have e := ih (by omega)
    have m := sn_mono (s := s) (F := F) (A := sumN s g) g (i + 1) hi
    have m2 := sn_F (F := F) hA
    rw [lfF]
    rw [snN] at m ⊢
    split
    · next c => rw [if_pos c] at m; rw [e]; omega
    · next c =>
      rw [if_neg c] at m
      rw [Int64.toInt_sub, e, pul_n h hg (by omega) hf hF]
      exact (Int.bmod_eq_of_le (by omega) (by omega)).trans (by omega)
theorem lowA_no (s : SG) : ∀ i, lowA s i = none → ∀ j, j < i → s.1 22 j = 0 := by
  intro i
  induction i with
  | zero => intro _ j hj; omega
  | succ i ih =>
    intro h j hj
    rw [lowA] at h
    cases hl : lowA s i with
    | some k2 => rw [hl] at h; cases h
    | none =>
      rw [hl] at h
      by_cases c : s.1 22 i = 0
      · by_cases e : j = i
        · subst e; exact c
        · exact ih hl j (by omega)
      · simp [c] at h
theorem shP_23 (s : SG) (f : Int64) (al : Int32) {g i : Nat} (hi : i < g) : (shP s f al g).2 23 i = if s.1 22 i = 0 then s.2 23 i else pulS s f al i := by
  show (if 23 = 23 ∧ i < g ∧ ¬ s.1 22 i = 0 then pulS s f al i else s.2 23 i) = _
  by_cases c : s.1 22 i = 0
  · rw [if_neg (fun z => z.2.2 c), if_pos c]
  · rw [if_pos ⟨rfl, hi, c⟩, if_neg c]
theorem shF_P (s : SG) (f : Int64) (al : Int32) (g : Nat) : ∀ i, i ≤ g → shF (shP s f al g) i = f - lfF s f al i := by
  intro i
  induction i with
  | zero => intro _; show (0 : Int64) = f - f; exact (Int64.sub_self f).symm
  | succ i ih =>
    intro hi
    rw [shF, ih (by omega), lfF, shP_23 s f al (by omega)]
    show f - lfF s f al i + (if s.1 22 i = 0 then 0 else _) = _
    by_cases c : s.1 22 i = 0
    · rw [if_pos c, if_pos c, Int64.add_zero]
    · rw [if_neg c, if_neg c, if_neg c]
      grind
theorem shF_set {s s1 : SG} {k : Nat} {x : Int64} (h22 : s1.1 22 = s.1 22) (hk : ¬ s.1 22 k = 0) (h : ∀ j, s1.2 23 j = if j = k then s.2 23 j + x else s.2 23 j) : ∀ i, shF s1 i = if k < i then shF s i + x else shF s i := by
  intro i
  induction i with
  | zero => rfl
  | succ i ih =>
    rw [shF, ih, shF, h22, h i]
    by_cases e : i = k
    · subst e
      rw [if_neg (Nat.lt_irrefl i), if_pos (Nat.lt_succ_self i), if_neg hk, if_pos rfl, if_neg hk]
      grind
    · rw [if_neg e]
      by_cases c : k < i
      · rw [if_pos c, if_pos (show k < i + 1 by omega)]
        grind
      · rw [if_neg c, if_neg (show ¬ k < i + 1 by omega)]
theorem sh2_23 {s : SG} {f : Int64} {g k : Nat} (hl : lowA s g = some k) (j : Nat) : (shr2 s f g).2 23 j = if j = k then (shP s f (alF s g) g).2 23 j + lfF s f (alF s g) g else (shP s f (alF s g) g).2 23 j := by
  unfold shr2
  rw [hl]
  show u2 (shP s f (alF s g) g).2 23 k _ 23 j = _
  by_cases e : j = k
  · subst e; rw [u2_s, if_pos rfl]
  · rw [u2_k _ _ e, if_neg e]
theorem sh2_sum {s : SG} {f : Int64} {g k : Nat} (hl : lowA s g = some k) : shF (shr2 s f g) g = f := by
  obtain ⟨k1, k2⟩ := lowA_lt s g k hl
  have e := shF_set (s := shP s f (alF s g) g) (s1 := shr2 s f g) (k := k) (x := lfF s f (alF s g) g) (congrFun (shr2_1 s f g) 22) k2 (sh2_23 hl) g
  rw [e, if_pos k1, shF_P s f (alF s g) g g (Nat.le_refl g)]
  grind
theorem sh2_ge {s : SG} {f : Int64} {g F : Nat} (h : GV s g) (hg : g ≤ 8) (hf : f.toInt = (F : Int)) (hF : F ≤ 40000000000000) (h0 : ∀ i, i < g → (0 : Int64) ≤ s.2 23 i) : ∀ i, i < g → (0 : Int64) ≤ (shr2 s f g).2 23 i := by
  intro i hi
  have z : (0 : Int64).toInt = 0 := rfl
  cases hl : lowA s g with
  | none =>
    have c := lowA_no s g hl i hi
    have e : (shr2 s f g).2 23 i = (shP s f (alF s g) g).2 23 i := by unfold shr2; rw [hl]
    rw [e, shP_23 s f _ hi, if_pos c]
    exact h0 i hi
  | some k =>
    obtain ⟨k1, k2⟩ := lowA_lt s g k hl
    have hA : 0 < sumN s g := (alF_n h hg g (Nat.le_refl g)).2.2 k k1 k2
    rw [sh2_23 hl, shP_23 s f _ hi]
    by_cases c : s.1 22 i = 0
    · rw [if_pos c, if_neg (fun e : i = k => k2 (by rw [← e]; exact c))]
      exact h0 i hi
    · rw [if_neg c]
      have e1 := pul_n h hg hi hf hF
      have e2 := lf_n h hg hf hF hA g (Nat.le_refl g)
      have e3 := sn_F (F := F) hA
      have e4 : pnN s F (sumN s g) i ≤ F := by
        have m := sn_mono (s := s) (F := F) (A := sumN s g) g (i + 1) (by omega)
        rw [snN, if_neg c] at m
        omega
      split
      · rw [Int64.le_iff_toInt_le, z, Int64.toInt_add, e1, e2, Int.bmod_eq_of_le (by omega) (by omega)]
        omega
      · rw [Int64.le_iff_toInt_le, z, e1]
        omega
theorem ot_0 {s : SG} : ∀ i, otF s i = 0 → ∀ j, j < i → ¬ s.1 22 j = 0 → s.2 23 j ≤ s.2 20 j := by
  intro i
  induction i with
  | zero => intro _ j hj; omega
  | succ i ih =>
    intro h j hj c
    rw [otF] at h
    split at h
    · omega
    · next q =>
      by_cases e : j = i
      · subst e; exact l_nlt.mp (fun z => q ⟨c, z⟩)
      · exact ih h j (by omega) c
theorem inN_z {s : SG} : ∀ i, inN s i = 0 → ∀ j, j < i → s.1 22 j = 0 := by
  intro i
  induction i with
  | zero => intro _ j hj; omega
  | succ i ih =>
    intro h j hj
    rw [inN] at h
    by_cases c : s.1 22 i = 0
    · rw [if_pos c] at h
      by_cases e : j = i
      · subst e; exact c
      · exact ih (by omega) j (by omega)
    · rw [if_neg c] at h; omega
theorem shF_eq {s s1 : SG} (h : s1.1 22 = s.1 22) (h2 : s1.2 = s.2) : ∀ i, shF s1 i = shF s i := by
  intro i
  induction i with
  | zero => rfl
  | succ i ih => rw [shF, shF, ih, h, h2]
theorem shO_22 (s : SG) {g j : Nat} (hj : j < g) : (shO s g).1 22 j = if ¬ s.1 22 j = 0 ∧ s.2 20 j < s.2 23 j then 0 else s.1 22 j := by
  show (if 22 = 22 ∧ j < g ∧ ¬ s.1 22 j = 0 ∧ s.2 20 j < s.2 23 j then (0 : Int32) else s.1 22 j) = _
  by_cases c : ¬ s.1 22 j = 0 ∧ s.2 20 j < s.2 23 j
  · rw [if_pos c, if_pos ⟨rfl, hj, c⟩]
  · rw [if_neg c, if_neg (fun z => c z.2.2)]
def GQ (s s1 : SG) (g out : Nat) (f : Int64) : Prop := (∀ i, i < g → s1.1 22 i = 0 ∨ s1.1 22 i = 1) ∧ (∀ i, i < g → (0 : Int64) ≤ s1.2 23 i) ∧ (∀ i, i < g → ¬ s1.1 22 i = 0 → s1.2 23 i ≤ s1.2 20 i) ∧ (∀ i, i < g → ¬ s1.1 22 i = 0 → ¬ s.1 22 i = 0) ∧ out + inN s1 g = inN s g ∧ (inN s1 g = 0 ∨ shF s1 g = f)
theorem gus_ok {f : Int64} {g F : Nat} (hg : g ≤ 8) (hf : f.toInt = (F : Int)) (hF : F ≤ 40000000000000) : ∀ n (s : SG), GV s g → (∀ i, i < g → s.1 22 i = 0 ∨ s.1 22 i = 1) → (∀ i, i < g → (0 : Int64) ≤ s.2 23 i) → inN s g < n → GQ s (gusF s f g n).1 g (gusF s f g n).2 f := by
  intro n
  induction n with
  | zero => intro s _ _ _ h; omega
  | succ n ih =>
    intro s h h01 h0 hn
    have hge := sh2_ge h hg hf hF h0
    have h1 : (shr2 s f g).1 = s.1 := shr2_1 s f g
    have hin := inN_shr s f g
    have hr01 : ∀ i, i < g → (shr s f g).1 22 i = 0 ∨ (shr s f g).1 22 i = 1 := fun i hi => by
      show (shO (shr2 s f g) g).1 22 i = 0 ∨ (shO (shr2 s f g) g).1 22 i = 1
      rw [shO_22 _ hi]
      split
      · exact Or.inl rfl
      · rw [h1]; exact h01 i hi
    have hsub : ∀ i, i < g → ¬ (shr s f g).1 22 i = 0 → ¬ s.1 22 i = 0 := fun i hi c => by
      have c2 : ¬ (shO (shr2 s f g) g).1 22 i = 0 := c
      rw [shO_22 _ hi] at c2
      split at c2
      · exact absurd rfl c2
      · rw [h1] at c2; exact c2
    rw [gusF]
    split
    · next hz =>
      have hot : otF (shr2 s f g) g = 0 := hz
      have e22 : (shr s f g).1 22 = (shr2 s f g).1 22 := funext fun j => by
        show (if 22 = 22 ∧ j < g ∧ ¬ (shr2 s f g).1 22 j = 0 ∧ (shr2 s f g).2 20 j < (shr2 s f g).2 23 j then (0 : Int32) else (shr2 s f g).1 22 j) = _
        rw [if_neg (fun z => l_nlt.mpr (ot_0 g hot j z.2.1 z.2.2.1) z.2.2.2)]
      refine ⟨hr01, hge, fun i hi c => ?_, hsub, by show 0 + inN (shr s f g) g = _; omega, ?_⟩
      · rw [e22] at c
        exact ot_0 g hot i hi c
      · cases hl : lowA s g with
        | none =>
          left
          have : ∀ i, i ≤ g → inN (shr s f g) i = 0 := by
            intro i
            induction i with
            | zero => intro _; rfl
            | succ i ih2 =>
              intro hi
              rw [inN, ih2 (by omega), e22, h1, lowA_no s g hl i (by omega)]
              rfl
          exact this g (Nat.le_refl g)
        | some k =>
          right
          exact (shF_eq (s := shr2 s f g) (s1 := shr s f g) e22 rfl g).trans (sh2_sum hl)
    · next hz =>
      obtain ⟨a1, a2, a3, a4, a5, a6⟩ := ih (shr s f g) (GV_shr f h) hr01 hge (by omega)
      exact ⟨a1, a2, a3, fun i hi c => hsub i hi (a4 i hi c), by show (gusF (shr s f g) f g n).2 + shrN s f g + inN (gusF (shr s f g) f g n).1 g = inN s g; omega, a6⟩
/-! bits of which are in -/
theorem sub_bits : ∀ a, a < 256 → ∀ b, b < 256 → a &&& b = a → nI a &&& (nI b ^^^ -1) = 0 := by decide +kernel
theorem and_self_of {a b g : Nat} (ha : a < 2 ^ g) (h : ∀ k, k < g → a.testBit k = true → b.testBit k = true) : a &&& b = a := by
  apply Nat.eq_of_testBit_eq
  intro k
  rw [Nat.testBit_and]
  by_cases hk : k < g
  · cases e : a.testBit k with
    | false => rfl
    | true => rw [h k hk e]; rfl
  · have : a.testBit k = false := Nat.testBit_lt_two_pow (Nat.lt_of_lt_of_le ha (Nat.pow_le_pow_right (by decide) (by omega)))
    rw [this]; rfl
def goF (s s1 : SG) : Nat → Int32
  | 0 => 0
  | i + 1 => goF s s1 i + ((if s.1 22 i = 0 then 0 else 1) - (if s1.1 22 i = 0 then 0 else 1))
theorem go_n {s s1 : SG} {g : Nat} (hg : g ≤ 8) (h : ∀ i, i < g → ¬ s1.1 22 i = 0 → ¬ s.1 22 i = 0) : ∀ i, i ≤ g → inN s1 i ≤ inN s i ∧ goF s s1 i = nI (inN s i - inN s1 i) := by
  intro i
  induction i with
  | zero => intro _; exact ⟨Nat.le_refl _, rfl⟩
  | succ i ih =>
    intro hi
    obtain ⟨h1, h2⟩ := ih (by omega)
    rw [inN, inN, goF, h2]
    by_cases c : s.1 22 i = 0
    · have c1 : s1.1 22 i = 0 := Classical.byContradiction fun q => h i (by omega) q c
      rw [if_pos c, if_pos c1, if_pos c, if_pos c1]
      exact ⟨by omega, by rw [Int32.sub_self, Int32.add_zero]; rfl⟩
    · by_cases c1 : s1.1 22 i = 0
      · rw [if_neg c, if_pos c1, if_neg c, if_pos c1]
        refine ⟨by omega, ?_⟩
        rw [show (1 : Int32) - 0 = 1 from rfl, nI_1]
        congr 1
        omega
      · rw [if_neg c, if_neg c1, if_neg c, if_neg c1]
        refine ⟨by omega, ?_⟩
        rw [show (1 : Int32) - 1 = 0 from rfl, Int32.add_zero]
        congr 1
        omega
theorem zero_of {a g : Nat} (ha : a < 2 ^ g) (h : ∀ k, k < g → a.testBit k = false) : a = 0 := by
  apply Nat.eq_of_testBit_eq
  intro k
  rw [Nat.zero_testBit]
  by_cases hk : k < g
  · exact h k hk
  · exact Nat.testBit_lt_two_pow (Nat.lt_of_lt_of_le ha (Nat.pow_le_pow_right (by decide) (by omega)))
