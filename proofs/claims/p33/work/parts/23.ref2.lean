/-- what every panel's place holds: a lot's number, a direction -/
def PV (s : SG) (np : Nat) : Prop := ∀ i, i < np → ∃ l a, l < 6 ∧ a < 3 ∧ s.1 5 i = nI l ∧ s.1 8 i = nI a
def SV (s : SG) (np ns : Nat) : Prop := ∀ i, i < ns → ∃ a b, a < np ∧ b < np ∧ s.1 10 i = nI a ∧ s.1 11 i = nI b
abbrev nat (x : Int32) : Nat := x.toNatClampNeg
def leftS (s : SG) (l : Nat) : Int32 := if 100 ≤ 1000 - s.1 2 l then 1000 - s.1 2 l else 100
def lotStr (s : SG) (l a : Nat) : Int64 := (s.1 1 (3 * l + a)).toInt64 * (leftS s l).toInt64 / 1000
def strS (s : SG) (j : Nat) : Int64 := lotStr s (nat (s.1 5 j)) (nat (s.1 8 j)) * (s.1 6 j).toInt64
def acrS (s : SG) (j : Nat) : Int32 := if s.1 8 j = 0 then s.1 6 j else if s.1 8 j = 1 then s.1 7 j else s.1 6 j + s.1 7 j
def lenS (s : SG) (j : Nat) : Int32 := if s.1 8 j = 0 then s.1 7 j else if s.1 8 j = 1 then s.1 6 j else s.1 6 j + s.1 7 j
def lessL (a b : Int64) : Int64 := if a < b then a else b
def pctS (s : SG) (i : Nat) : Int32 := if s.1 12 i = 0 then 60 else if s.1 12 i = 1 then 80 else 40
def seamS (s : SG) (i : Nat) : Int64 := lessL (strS s (nat (s.1 10 i))) (strS s (nat (s.1 11 i))) * (pctS s i).toInt64 / 100
theorem nat_nI {j : Nat} (h : j < 2147483648) : nat (nI j) = j := nI_clamp h
/-- sun -/
def kSun (a : Nat) (p0 p1 : Int32) : Int32 := if btw p0 0 (nI a - 1) then (if btw p1 1 10000 then 0 else 2) else 1
def hSun (h p : Int32) : Int32 := if h + p ≤ 1000000 then h + p else 1000000
def gSun (s : SG) (j : Nat) (p1 : Int32) : SG := sI s 2 j (hSun (s.1 2 j) p1)
/-- panel -/
abbrev oPan (w h al : Int32) : Prop := (btw w 1 150 ∧ btw h 1 150 ∧ btw al 0 2) ∧ ¬ (al = 2 ∧ ¬ w + h ≤ 150)
def kPan (a b : Nat) (p0 w h al : Int32) : Int32 := if btw p0 0 (nI a - 1) then (if oPan w h al then (if b = 12 then 3 else 0) else 2) else 1
def kPl (b : Nat) (p0 : Int32) : Int32 := if btw p0 0 (nI b - 1) then 0 else 1
/-- seam -/
def kSeam (b c : Nat) (p0 p1 p2 : Int32) : Int32 := if btw p0 0 (nI b - 1) ∧ btw p1 0 (nI b - 1) then (if p0 ≠ p1 ∧ btw p2 0 2 then (if c = 30 then 3 else 0) else 2) else 1
def gSeam (s : SG) (c : Nat) (p0 p1 p2 : Int32) : SG := sI (sI (sI (sI s 10 c p0) 11 c p1) 12 c p2) 9 0 (nI (c + 1))
/-- rip -/
def kRip (s : SG) (c : Nat) (p0 : Int32) : Int32 := if btw p0 0 (nI c - 1) ∧ s.1 13 (nat p0) = 0 then 0 else 1
/-- knots -/
def kKnot (p0 p1 : Int32) : Int32 := if btw p0 0 35 then (if btw p1 (-10000) 10000 then 0 else 2) else 1
def gKnot (s : SG) (j : Nat) (p1 p2 : Int32) : SG := sI (sI s 15 j p1) 17 j p2
def kHt (p0 : Int32) : Int32 := if btw p0 0 35 then 0 else 1
def kLoad (p0 : Int32) : Int32 := if btw p0 0 100 then 0 else 1
