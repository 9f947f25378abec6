/-- the loads at first -/
def iniL (s : SG) (x : Nat) (M : LT) (i : Nat) : LT := fun k => if k < i then (if k = x then strS s x else 0) else M k
def finL (s : SG) (np ns x : Nat) : LT := itR (esM s ns) (np - 1) (iniL s x (s.2 14) np)
theorem esM_lt {s : SG} {np ns : Nat} (h : SV s np ns) (hnp : np ≤ 12) : ∀ i, i ≤ ns → ∀ e ∈ esM s i, e.1 < np ∧ e.2.1 < np := by
  intro i
  induction i with
  | zero => intro _ e he; cases he
  | succ i ih =>
    intro hi e he
    obtain ⟨a, b, ha, hb, e1, e2⟩ := h i (by omega)
    have n1 : enA s i = a := by show nat (s.1 10 i) = a; rw [e1]; exact nat_nI (by omega)
    have n2 : enB s i = b := by show nat (s.1 11 i) = b; rw [e2]; exact nat_nI (by omega)
    rw [esM] at he
    rcases List.mem_append.mp he with q | q
    · exact ih (by omega) e q
    · split at q
      · simp only [List.mem_cons, List.not_mem_nil, or_false] at q
        rcases q with rfl | rfl
        · exact ⟨by rw [n1]; exact ha, by rw [n2]; exact hb⟩
        · exact ⟨by rw [n2]; exact hb, by rw [n1]; exact ha⟩
      · cases q
theorem rnd_s (s : SG) (L : LT) (i : Nat) (h : s.1 13 i = 0) : rnd (esM s (i + 1)) L = rel (enB s i) (enA s i) (capS s i (enA s i)) (rel (enA s i) (enB s i) (capS s i (enB s i)) (rnd (esM s i) L)) := by
  rw [esM, if_pos h, rnd_app]; rfl
theorem rnd_n (s : SG) (L : LT) (i : Nat) (h : ¬ s.1 13 i = 0) : rnd (esM s (i + 1)) L = rnd (esM s i) L := by
  rw [esM, if_neg h, List.append_nil]
def kBe (b : Nat) (p0 p1 : Int32) : Int32 := if btw p0 0 (nI b - 1) ∧ btw p1 0 (nI b - 1) then 0 else 1
