abbrev oSeal (s : SG) (j : Nat) : Prop := s.1 32 j = -1 ∧ s.1 3 (nat (s.1 29 j)) = 0 ∧ 0 < s.1 30 j ∧ ¬ opS s j = -1 ∧ s.1 37 j < 3
def kSeal (s : SG) (c : Nat) (p0 p1 : Int32) : Int32 := if btw p0 0 (nI c - 1) ∧ btw p1 0 4 then (if oSeal s (nat p0) then 0 else 2) else 1
def gSeal (s : SG) (j : Nat) (p1 : Int32) : SG := sI (sI (sI s 32 j p1) 33 j (s.1 27 0)) 34 j (s.1 34 j + 1)
abbrev oUse (s : SG) (j : Nat) : Prop := ¬ s.1 32 j = -1 ∧ s.1 27 0 - s.1 33 j ≤ 180 ∧ s.1 3 (nat (s.1 29 j)) = 0
def kUse (s : SG) (c : Nat) (p0 : Int32) : Int32 := if btw p0 0 (nI c - 1) then (if oUse s (nat p0) then 0 else 2) else 1
def gUse (s : SG) (j : Nat) : SG := sI (sI (sI s 32 j (-1)) 33 j (-1)) 35 j (s.1 35 j + 1)
/-- find: canopies below i of the lot l lose their seals -/
def losF (s : SG) (l : Nat) : Nat → SG × Nat
  | 0 => (s, 0)
  | i + 1 => if s.1 29 i = nI l ∧ ¬ s.1 32 i = -1 then (sI (sI (losF s l i).1 32 i (-1)) 33 i (-1), (losF s l i).2 + 1) else losF s l i
theorem losF_n (s : SG) (l : Nat) : ∀ i k j, (k = 32 ∨ k = 33 → i ≤ j) → (losF s l i).1.1 k j = s.1 k j := by
  intro i
  induction i with
  | zero => intro k j _; rfl
  | succ i ih =>
    intro k j h
    rw [losF]
    split
    · show u2 (u2 (losF s l i).1.1 32 i (-1)) 33 i (-1) k j = _
      have h1 : ¬ (k = 33 ∧ j = i) := fun z => by have := h (Or.inr z.1); omega
      have h2 : ¬ (k = 32 ∧ j = i) := fun z => by have := h (Or.inl z.1); omega
      rw [u2, if_neg h1, u2, if_neg h2]
      exact ih k j (fun z => by have := h z; omega)
    · exact ih k j (fun z => by have := h z; omega)
def kFind (s : SG) (a : Nat) (p0 p1 : Int32) : Int32 := if btw p0 0 (nI a - 1) then (if s.1 3 (nat p0) = p1 then 2 else 0) else 1
def gFind (s : SG) (c j : Nat) (p1 : Int32) : SG × Nat := if p1 = 0 then (sI s 3 j p1, 0) else losF (sI s 3 j p1) j c
