/-- pegs -/
abbrev oPeg (h : Int64) (q : Int32) : Prop := (0 ≤ h ∧ h ≤ 4000000000000) ∧ btw q 1 100
def kPeg (g : Nat) (h : Int64) (q : Int32) : Int32 := if oPeg h q then (if g = 8 then 2 else 0) else 1
def gPeg (s : SG) (g : Nat) (h : Int64) (q : Int32) : SG := sI (sI (sI (sJ s 20 g h) 21 g q) 22 g 1) 19 0 (nI (g + 1))
def kPul (g : Nat) (p0 : Int32) : Int32 := if btw p0 0 (nI g - 1) then 0 else 1
/-- which pegs are in -/
def setF (s : SG) : Nat → Int32
  | 0 => 0
  | i + 1 => setF s i + (if s.1 22 i = 0 then 0 else (1 : Int32) <<< (nI i &&& 31))
/-- a sharing: the stiffnesses of those that are in, together; the lowest; what each gets; what is left over; who comes out -/
def GV (s : SG) (g : Nat) : Prop := ∀ i, i < g → ∃ q, 1 ≤ q ∧ q ≤ 100 ∧ s.1 21 i = nI q
def alF (s : SG) : Nat → Int32
  | 0 => 0
  | i + 1 => alF s i + (if s.1 22 i = 0 then 0 else s.1 21 i)
def lowA (s : SG) : Nat → Option Nat
  | 0 => none
  | i + 1 => match lowA s i with
    | some k => some k
    | none => if s.1 22 i = 0 then none else some i
def pulS (s : SG) (f : Int64) (al : Int32) (i : Nat) : Int64 := f * (s.1 21 i).toInt64 / al.toInt64
def shP (s : SG) (f : Int64) (al : Int32) (i : Nat) : SG := (s.1, fun k j => if k = 23 ∧ j < i ∧ ¬ s.1 22 j = 0 then pulS s f al j else s.2 k j)
def lfF (s : SG) (f : Int64) (al : Int32) : Nat → Int64
  | 0 => f
  | i + 1 => if s.1 22 i = 0 then lfF s f al i else lfF s f al i - pulS s f al i
def shO (s : SG) (i : Nat) : SG := (fun k j => if k = 22 ∧ j < i ∧ ¬ s.1 22 j = 0 ∧ s.2 20 j < s.2 23 j then 0 else s.1 k j, s.2)
def otF (s : SG) : Nat → Nat
  | 0 => 0
  | i + 1 => if ¬ s.1 22 i = 0 ∧ s.2 20 i < s.2 23 i then otF s i + 1 else otF s i
def shr2 (s : SG) (f : Int64) (g : Nat) : SG := match lowA s g with
  | none => shP s f (alF s g) g
  | some k => sJ (shP s f (alF s g) g) 23 k ((shP s f (alF s g) g).2 23 k + lfF s f (alF s g) g)
def shr (s : SG) (f : Int64) (g : Nat) : SG := shO (shr2 s f g) g
def shrN (s : SG) (f : Int64) (g : Nat) : Nat := otF (shr2 s f g) g
def sumN (s : SG) : Nat → Nat
  | 0 => 0
  | i + 1 => sumN s i + (if s.1 22 i = 0 then 0 else nat (s.1 21 i))
theorem alF_n {s : SG} {g : Nat} (h : GV s g) (hg : g ≤ 8) : ∀ i, i ≤ g → alF s i = nI (sumN s i) ∧ sumN s i ≤ 100 * i ∧ ∀ j, j < i → ¬ s.1 22 j = 0 → 1 ≤ sumN s i := by
  intro i
  induction i with
  | zero => intro _; exact ⟨rfl, Nat.le_refl _, fun j hj => absurd hj (by omega)⟩
  | succ i ih =>
    intro hi
    obtain ⟨h1, h2, h3⟩ := ih (by omega)
    obtain ⟨q, q1, q2, q3⟩ := h i (by omega)
    have e : nat (s.1 21 i) = q := by rw [q3]; exact nat_nI (by omega)
    by_cases c : s.1 22 i = 0
    · refine ⟨by rw [alF, sumN, if_pos c, if_pos c, h1, Int32.add_zero, Nat.add_zero], by rw [sumN, if_pos c]; omega, fun j hj cj => ?_⟩
      rw [sumN, if_pos c, Nat.add_zero]
      rcases Nat.lt_or_ge j i with z | z
      · exact h3 j z cj
      · have : j = i := by omega
        subst this
        exact absurd c cj
    · refine ⟨by rw [alF, sumN, if_neg c, if_neg c, h1, e, q3, nI_add], by rw [sumN, if_neg c, e]; omega, fun j hj cj => ?_⟩
      rw [sumN, if_neg c, e]
      omega
theorem alF_ne {s : SG} {g i : Nat} (h : GV s g) (hg : g ≤ 8) (hi : i < g) (c : ¬ s.1 22 i = 0) : ¬ (alF s g).toInt64 = 0 := by
  obtain ⟨h1, h2, h3⟩ := alF_n h hg g (Nat.le_refl g)
  have h4 := h3 i hi c
  rw [h1, nI_l (by omega)]
  intro e
  have : sumN s g = 0 := (lN_eq (a := sumN s g) (b := 0) (by omega) (by decide)).mp (e.trans rfl)
  omega
theorem lowA_lt (s : SG) : ∀ i k, lowA s i = some k → k < i ∧ ¬ s.1 22 k = 0 := by
  intro i
  induction i with
  | zero => intro k h; cases h
  | succ i ih =>
    intro k h
    rw [lowA] at h
    cases hl : lowA s i with
    | some k2 => rw [hl] at h; cases h; exact ⟨by have := (ih k hl).1; omega, (ih k hl).2⟩
    | none =>
      rw [hl] at h
      by_cases c : s.1 22 i = 0
      · simp [c] at h
      · simp [c] at h; subst h; exact ⟨by omega, c⟩
theorem shP_s (s : SG) (f : Int64) (al : Int32) (i : Nat) (c : ¬ s.1 22 i = 0) : sJ (shP s f al i) 23 i (pulS s f al i) = shP s f al (i + 1) := by
  refine Prod.ext rfl (funext fun k => funext fun j => ?_)
  simp only [sJ, u2, shP]
  by_cases h1 : k = 23
  · by_cases h2 : j = i
    · subst h2; simp [h1, c]
    · have h3 : (j < i + 1) = (j < i) := by simp; omega
      simp [h1, h2, h3]
  · simp [h1]
theorem shP_n (s : SG) (f : Int64) (al : Int32) (i : Nat) (c : s.1 22 i = 0) : shP s f al i = shP s f al (i + 1) := by
  refine Prod.ext rfl (funext fun k => funext fun j => ?_)
  simp only [shP]
  by_cases h1 : k = 23
  · by_cases h2 : j = i
    · subst h2; simp [c]
    · have h3 : (j < i + 1) = (j < i) := by simp; omega
      simp [h1, h3]
  · simp [h1]
theorem shP_0 (s : SG) (f : Int64) (al : Int32) : shP s f al 0 = s := by
  refine Prod.ext rfl (funext fun k => funext fun j => ?_)
  simp [shP]
theorem shO_s (s : SG) (i : Nat) (c : ¬ s.1 22 i = 0) (c2 : s.2 20 i < s.2 23 i) : sI (shO s i) 22 i 0 = shO s (i + 1) := by
  refine Prod.ext (funext fun k => funext fun j => ?_) rfl
  simp only [sI, u2, shO]
  by_cases h1 : k = 22
  · by_cases h2 : j = i
    · subst h2; simp [h1, c, c2]
    · have h3 : (j < i + 1) = (j < i) := by simp; omega
      simp [h1, h2, h3]
  · simp [h1]
theorem shO_n (s : SG) (i : Nat) (c : ¬ (¬ s.1 22 i = 0 ∧ s.2 20 i < s.2 23 i)) : shO s i = shO s (i + 1) := by
  refine Prod.ext (funext fun k => funext fun j => ?_) rfl
  simp only [shO]
  by_cases h1 : k = 22
  · by_cases h2 : j = i
    · subst h2; simp [c]
    · have h3 : (j < i + 1) = (j < i) := by simp; omega
      simp [h1, h3]
  · simp [h1]
theorem shO_0 (s : SG) : shO s 0 = s := by
  refine Prod.ext (funext fun k => funext fun j => ?_) rfl
  simp [shO]
theorem shO_at (s : SG) {i j : Nat} (h : i ≤ j) : (shO s i).1 22 j = s.1 22 j := by
  have : ¬ j < i := by omega
  simp [shO, this]
