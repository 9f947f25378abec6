/-- which parts open, of those that are shut (bits of k), among the first i -/
def opN (s : SG) (j k : Nat) : Nat → Nat
  | 0 => 0
  | i + 1 => opN s j k i ||| (if k.testBit i = true ∧ s.1 31 (8 * j + i) &&& nI k = 0 then 2 ^ i else 0)
def nxK (s : SG) (j p k : Nat) : Nat := k &&& (255 - opN s j k p)
/-- rounds, with f turns at most; -1: it jams -/
def rndF (s : SG) (j p : Nat) : Nat → Nat → Int32
  | 0, _ => -1
  | f + 1, k => if k = 0 then 0 else if opN s j k p = 0 then -1 else if rndF s j p f (nxK s j p k) = -1 then -1 else rndF s j p f (nxK s j p k) + 1
def rndS (s : SG) (j p : Nat) : Int32 := rndF s j p 256 (2 ^ p - 1)
theorem opN_in (s : SG) (j : Nat) {k : Nat} (hk : k < 256) : ∀ i, i ≤ 8 → opN s j k i < 256 ∧ opN s j k i &&& k = opN s j k i := by
  intro i
  induction i with
  | zero => intro _; exact ⟨(show 0 < 256 by decide), by simp [opN]⟩
  | succ i ih =>
    intro hi
    obtain ⟨h1, h2⟩ := ih (by omega)
    simp only [opN]
    have hp : 2 ^ i < 256 := Nat.pow_lt_pow_right (by decide) (show i < 8 by omega)
    split
    · next h =>
      refine ⟨Nat.or_lt_two_pow (n := 8) h1 hp, ?_⟩
      rw [Nat.and_or_distrib_right, h2, bt_p2 k hk i (by omega) h.1]
    · rw [Nat.or_zero]
      exact ⟨h1, h2⟩
theorem rnd_done (s : SG) (j p f a : Nat) : (if rndF s j p (f + 1) 0 = -1 then (-1 : Int32) else nI a + rndF s j p (f + 1) 0) = nI a := by
  simp [rndF]
theorem rnd_jam {s : SG} {j p f k : Nat} (a : Nat) (hk : ¬ k = 0) (h : opN s j k p = 0) : (if rndF s j p (f + 1) k = -1 then (-1 : Int32) else nI a + rndF s j p (f + 1) k) = -1 := by
  simp [rndF, hk, h]
theorem rnd_go {s : SG} {j p f k : Nat} (a : Nat) (hk : ¬ k = 0) (h : ¬ opN s j k p = 0) (hn : ¬ rndF s j p f (nxK s j p k) + 1 = -1) : (if rndF s j p (f + 1) k = -1 then (-1 : Int32) else nI a + rndF s j p (f + 1) k) = (if rndF s j p f (nxK s j p k) = -1 then (-1 : Int32) else nI (a + 1) + rndF s j p f (nxK s j p k)) := by
  by_cases h1 : rndF s j p f (nxK s j p k) = -1
  · simp [rndF, hk, h, h1]
  · rw [if_neg h1, rndF, if_neg hk, if_neg h, if_neg h1, if_neg hn, ← nI_1, Int32.add_assoc, Int32.add_comm 1]
theorem rndF_nn (s : SG) (j p : Nat) : ∀ f k, f ≤ 300 → rndF s j p f k = -1 ∨ ∃ r, r ≤ f ∧ rndF s j p f k = nI r := by
  intro f
  induction f with
  | zero => intro k _; exact Or.inl rfl
  | succ f ih =>
    intro k hf
    simp only [rndF]
    split
    · exact Or.inr ⟨0, by omega, rfl⟩
    · split
      · exact Or.inl rfl
      · split
        · exact Or.inl rfl
        · next h =>
          rcases ih (nxK s j p k) (by omega) with e | ⟨r, hr, e⟩
          · exact absurd e h
          · exact Or.inr ⟨r + 1, by omega, by rw [e, nI_1]⟩
theorem rndF_n1 (s : SG) (j p f k : Nat) (hf : f ≤ 300) : ¬ rndF s j p f k + 1 = -1 := by
  rcases rndF_nn s j p f k hf with e | ⟨r, hr, e⟩
  · rw [e]; decide
  · rw [e, nI_1]
    intro z
    have : (nI (r + 1)).toInt = -1 := by rw [z]; rfl
    rw [nI_toInt (by omega)] at this
    omega
def kOp (c : Nat) (p0 : Int32) : Int32 := if btw p0 0 (nI c - 1) then 0 else 1
def opS (s : SG) (j : Nat) : Int32 := rndS s j (nat (s.1 30 j))
