/-- the knot beside one: above, below, to the left, to the right -/
def nb (k w : Nat) : Option Nat := if w = 0 then (if k < 6 then none else some (k - 6)) else if w = 1 then (if 30 ≤ k then none else some (k + 6)) else if w = 2 then (if k % 6 = 0 then none else some (k - 1)) else (if k % 6 = 5 then none else some (k + 1))
/-- the heights beside a knot: their sum, how many, the highest -/
def cmF (s : SG) (k : Nat) : Nat → Int32 × Int32 × Int32
  | 0 => (0, 0, 0)
  | w + 1 => match nb k w with
    | none => cmF s k w
    | some q => ((cmF s k w).1 + s.1 15 q, (cmF s k w).2.1 + 1, if (cmF s k w).2.1 = 0 ∨ (cmF s k w).2.2 < s.1 15 q then s.1 15 q else (cmF s k w).2.2)
def cmN (k : Nat) : Nat → Nat
  | 0 => 0
  | w + 1 => match nb k w with
    | none => cmN k w
    | some _ => cmN k w + 1
theorem cmF_n (s : SG) (k : Nat) : ∀ w, (cmF s k w).2.1 = nI (cmN k w) := by
  intro w
  induction w with
  | zero => rfl
  | succ w ih =>
    simp only [cmF, cmN]
    cases nb k w with
    | none => exact ih
    | some q => show (cmF s k w).2.1 + 1 = _; rw [ih, nI_1]
theorem cmN_4 : ∀ k, k < 36 → ¬ nI (cmN k 4) = 0 := by decide +kernel
def mean (x y : Int32) : Int32 := if x < 0 ∧ ¬ x - x / y * y = 0 then x / y - 1 else x / y
def cmS (s : SG) (k : Nat) : Int32 := if mean (cmF s k 4).1 (cmF s k 4).2.1 - s.1 18 0 ≤ (cmF s k 4).2.2 then mean (cmF s k 4).1 (cmF s k 4).2.1 - s.1 18 0 else (cmF s k 4).2.2
theorem cmF_eq {s s' : SG} (h : s'.1 15 = s.1 15) (k : Nat) : ∀ w, cmF s' k w = cmF s k w := by
  intro w
  induction w with
  | zero => rfl
  | succ w ih =>
    simp only [cmF]
    cases nb k w with
    | none => exact ih
    | some q => show _ = _; rw [ih, h]
theorem cmS_eq {s s' : SG} (h : s'.1 15 = s.1 15) (h2 : s'.1 18 0 = s.1 18 0) (k : Nat) : cmS s' k = cmS s k := by
  simp only [cmS, cmF_eq h, h2]
/-- a step of the net -/
def nxS (s : SG) (k : Nat) : Int32 := if s.1 17 k = 0 then cmS s k else s.1 15 k
def mvF (s : SG) : Nat → Bool
  | 0 => false
  | i + 1 => mvF s i || decide (¬ nxS s i = s.1 15 i)
def b01 (b : Bool) : Int32 := if b then 1 else 0
theorem b01_nar (b : Bool) : narrow .boolean (.int (b01 b)) = .int (b01 b) := by cases b <;> rfl
