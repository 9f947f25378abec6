/-- a gust: sharings, n at most -/
def gusF (s : SG) (f : Int64) (g : Nat) : Nat → SG × Nat
  | 0 => (s, 0)
  | n + 1 => if shrN s f g = 0 then (shr s f g, 0) else ((gusF (shr s f g) f g n).1, (gusF (shr s f g) f g n).2 + shrN s f g)
def inN (s : SG) : Nat → Nat
  | 0 => 0
  | i + 1 => inN s i + (if s.1 22 i = 0 then 0 else 1)
theorem inN_le (s : SG) : ∀ i, inN s i ≤ i := by
  intro i
  induction i with
  | zero => exact Nat.le_refl 0
  | succ i ih => rw [inN]; split <;> omega
theorem otF_le (s : SG) : ∀ i, otF s i ≤ i := by
  intro i
  induction i with
  | zero => exact Nat.le_refl 0
  | succ i ih => rw [otF]; split <;> omega
theorem shr2_1 (s : SG) (f : Int64) (g : Nat) : (shr2 s f g).1 = s.1 := by
  unfold shr2
  cases lowA s g <;> rfl
theorem inN_shO (t : SG) (g : Nat) : ∀ i, i ≤ g → inN (shO t g) i + otF t i = inN t i := by
  intro i
  induction i with
  | zero => intro _; rfl
  | succ i ih =>
    intro hi
    have h := ih (by omega)
    have hg : i < g := by omega
    by_cases c : ¬ t.1 22 i = 0 ∧ t.2 20 i < t.2 23 i
    · have e : (shO t g).1 22 i = 0 := by simp [shO, hg, c]
      rw [inN, inN, otF, if_pos e, if_pos c, if_neg c.1]
      omega
    · have e : (shO t g).1 22 i = t.1 22 i := by
        show (if 22 = 22 ∧ i < g ∧ ¬ t.1 22 i = 0 ∧ t.2 20 i < t.2 23 i then (0 : Int32) else t.1 22 i) = t.1 22 i
        rw [if_neg (fun z => c ⟨z.2.2.1, z.2.2.2⟩)]
      rw [inN, inN, otF, e, if_neg c]
      omega
theorem inN_eq {s s' : SG} (h : s'.1 22 = s.1 22) : ∀ i, inN s' i = inN s i := by
  intro i
  induction i with
  | zero => rfl
  | succ i ih => rw [inN, inN, ih, h]
theorem inN_shr (s : SG) (f : Int64) (g : Nat) : inN (shr s f g) g + shrN s f g = inN s g := by
  rw [shr, shrN, inN_shO _ g g (Nat.le_refl g)]
  exact inN_eq (by rw [shr2_1]) g
theorem shr_k (s : SG) (f : Int64) (g : Nat) {k : Nat} (hk : k ≠ 22) : (shr s f g).1 k = s.1 k := by
  have e : (shr s f g).1 k = (shr2 s f g).1 k := by
    funext j
    show (if k = 22 ∧ _ then (0 : Int32) else (shr2 s f g).1 k j) = _
    rw [if_neg (fun z => hk z.1)]
  rw [e, shr2_1]
theorem GV_shr {s : SG} {g : Nat} (f : Int64) (h : GV s g) : GV (shr s f g) g := by
  intro i hi
  rw [shr_k s f g (by decide)]
  exact h i hi
def kGust (f : Int64) : Int32 := if 0 ≤ f ∧ f ≤ 40000000000000 then 0 else 1
