def kRest (p0 : Int32) : Int32 := if btw p0 1 50 then 0 else 1
theorem b01_n0 {b : Bool} (h : ¬ b01 b = 0) : b = true := by cases b <;> simp [b01] at h ⊢
def kPass (s : SG) (p0 : Int32) : Int32 := if btw p0 1 400 then (if s.1 27 0 + p0 ≤ 100000 then 0 else 2) else 1
def kCan (a c : Nat) (p0 : Int32) : Int32 := if btw p0 0 (nI a - 1) then (if c = 6 then 2 else 0) else 1
def gCan (s : SG) (c : Nat) (p0 : Int32) : SG := sI (sI (sI (sI s 29 c p0) 32 c (-1)) 33 c (-1)) 28 0 (nI (c + 1))
/-- how many parts every canopy has -/
def CV (s : SG) (nc : Nat) : Prop := ∀ i, i < nc → ∃ p l, p ≤ 8 ∧ s.1 30 i = nI p ∧ l < 6 ∧ s.1 29 i = nI l
def kPart (s : SG) (c : Nat) (p0 p1 : Int32) : Int32 := if btw p0 0 (nI c - 1) then (if btw p1 0 255 then (if s.1 30 (nat p0) = 8 ∨ ¬ s.1 32 (nat p0) = -1 then 3 else 0) else 2) else 1
def gPart (s : SG) (j p : Nat) (p1 : Int32) : SG := sI (sI s 31 (8 * j + p) p1) 30 j (nI (p + 1))
def lifeS (s : SG) (j : Nat) (p1 : Int32) : Int32 := if p1 = 3 then s.1 34 j else if p1 = 4 then s.1 35 j else s.1 36 j
def kOf (c : Nat) (p0 p1 a b : Int32) : Int32 := if btw p0 0 (nI c - 1) then (if btw p1 a b then 0 else 2) else 1
def ofS (s : SG) (j : Nat) (p1 : Int32) : Int32 := if p1 = 0 then s.1 29 j else if p1 = 1 then s.1 32 j else if p1 = 2 then s.1 33 j else lifeS s j p1
def kWet (s : SG) (c : Nat) (p0 : Int32) : Int32 := if btw p0 0 (nI c - 1) then (if s.1 32 (nat p0) = -1 then 0 else 2) else 1
def gWet (s : SG) (j : Nat) (p1 : Int32) : SG := sI (sI s 36 j (s.1 36 j + if p1 = 0 then 1 else 0)) 37 j (if p1 = 0 then s.1 37 j + 1 else 0)
