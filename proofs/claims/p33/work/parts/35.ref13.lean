/-- the sail -/
theorem n100 : ∀ i, i < 101 → ¬ (100 : Int32) < nI i := by decide +kernel
abbrev oTrim (p0 p1 p2 : Int32) : Prop := btw p0 0 100 ∧ btw p1 0 100 ∧ btw p2 0 3
def kTrim (p0 p1 p2 : Int32) : Int32 := if oTrim p0 p1 p2 then 0 else 1
def gTrim (s : SG) (p0 p1 p2 : Int32) : SG := sI (sI (sI s 24 0 p0) 25 0 p1) 26 0 p2
def kPow (p0 : Int32) : Int32 := if btw p0 0 100 then 0 else 1
def kHal (p0 p1 : Int32) : Int32 := if btw p0 0 100 ∧ btw p1 0 100000 then 0 else 1
/-- the first halyard with which the sail pulls no more than so much -/
abbrev halP (t r k : Nat) (p : Int32) (i : Nat) : Prop := 0 < Op.cmpValue (FP.fcmp (pwI i t r k) (FP.i2f p)) .g
def halF (t r k : Nat) (p : Int32) : Nat → Nat → Int32
  | 0, _ => -1
  | d + 1, i => if halP t r k p i then halF t r k p d (i + 1) else nI i
