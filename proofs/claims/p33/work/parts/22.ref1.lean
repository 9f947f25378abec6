theorem sI_s (s : SG) (k j : Nat) (x : Int32) : (sI s k j x).1 k j = x := by simp [sI, u2]
theorem sI_n (s : SG) {k k' : Nat} (j j' : Nat) (x : Int32) (h : k' ≠ k) : (sI s k j x).1 k' j' = s.1 k' j' := by simp [sI, u2, h]
theorem sI_j (s : SG) {j j' : Nat} (k : Nat) (x : Int32) (h : j' ≠ j) : (sI s k j x).1 k j' = s.1 k j' := by simp [sI, u2, h]
theorem sI_2 (s : SG) (k j : Nat) (x : Int32) : (sI s k j x).2 = s.2 := rfl
theorem sJ_s (s : SG) (k j : Nat) (x : Int64) : (sJ s k j x).2 k j = x := by simp [sJ, u2]
/-- lot -/
abbrev oLot (p0 p1 p2 : Int32) : Prop := btw p0 1 2000000000 ∧ btw p1 1 2000000000 ∧ btw p2 1 2000000000
def kLot (a : Nat) (p0 p1 p2 : Int32) : Int32 := if oLot p0 p1 p2 then (if a = 6 then 2 else 0) else 1
def gLot (s : SG) (a : Nat) (p0 p1 p2 : Int32) : SG := sI (sI (sI (sI s 1 (3 * a) p0) 1 (3 * a + 1) p1) 1 (3 * a + 2) p2) 0 0 (nI (a + 1))
