/-- roll: what stands behind i panels: the sum of the rows behind, where the row's end is, its length -/
def rollF (s : SG) (l : Nat) : Nat → Int32 × Int32 × Int32
  | 0 => (0, 0, 0)
  | i + 1 => if s.1 5 i = nI l then (if (rollF s l i).2.1 + acrS s i ≤ 150 then ((rollF s l i).1, (rollF s l i).2.1 + acrS s i, if lenS s i < (rollF s l i).2.2 then (rollF s l i).2.2 else lenS s i) else ((rollF s l i).1 + (rollF s l i).2.2, acrS s i, lenS s i)) else rollF s l i
def kRoll (a : Nat) (p0 : Int32) : Int32 := if btw p0 0 (nI a - 1) then 0 else 1
