/-! numbers: comparisons, as the walks meet them -/
theorem n_nle {a b : Int32} : ¬ a ≤ b ↔ b < a := Int32.not_le
theorem n_nlt {a b : Int32} : ¬ a < b ↔ b ≤ a := Int32.not_lt
theorem l_nle {a b : Int64} : ¬ a ≤ b ↔ b < a := Int64.not_le
theorem l_nlt {a b : Int64} : ¬ a < b ↔ b ≤ a := Int64.not_lt
theorem cmp_lt0 {x y : Int64} : lg_cmp x y < 0 ↔ x < y := lg_cmp_lt x y
theorem cmp_ge0 {x y : Int64} : 0 ≤ lg_cmp x y ↔ y ≤ x := lg_cmp_ge x y
theorem cmp_gt0 {x y : Int64} : 0 < lg_cmp x y ↔ y < x := lg_cmp_gt x y
theorem cmp_le0 {x y : Int64} : lg_cmp x y ≤ 0 ↔ x ≤ y := lg_cmp_le x y
theorem cmp_eq0 {x y : Int64} : lg_cmp x y = 0 ↔ x = y := lg_cmp_eq x y
theorem n_mul (k a : Nat) : nI k * nI a = nI (k * a) := pk_mul k a
theorem n_lit (n : Nat) : (OfNat.ofNat n : Int32) = nI n := by
  first | rfl | (apply Int32.toInt_inj.mp; simp [nI])
theorem n_m1 {a : Nat} (h : 0 < a) : nI a - 1 = nI (a - 1) := by
  obtain ⟨b, rfl⟩ : ∃ b, a = b + 1 := ⟨a - 1, by omega⟩
  rw [nI_pred, Nat.add_sub_cancel]
/-- a number told as an index: between 0 and a count less 1 -/
theorem btw_ix {p : Int32} {a : Nat} (ha : a < 1073741824) : (0 ≤ p ∧ p ≤ nI a - 1) ↔ ∃ j, j < a ∧ p = nI j := by
  constructor
  · intro h
    obtain ⟨j, hj, rfl⟩ := nI_of (x := p) (by rw [n_nlt]; exact h.1)
    refine ⟨j, ?_, rfl⟩
    have h2 := h.2
    rw [Int32.le_iff_toInt_le, nI_toInt hj] at h2
    rcases Nat.eq_zero_or_pos a with h0 | h0
    · subst h0
      have : (nI 0 - 1).toInt = -1 := by decide
      omega
    · rw [n_m1 h0, nI_toInt (by omega)] at h2
      omega
  · rintro ⟨j, hj, rfl⟩
    refine ⟨nI_pos' (by omega), ?_⟩
    rw [n_m1 (by omega)]
    exact nI_le (by omega) (by omega)
/-- a number between 0 and a literal -/
theorem btw_lit {p M : Int32} {N : Nat} (hM : M.toInt = N) : (0 ≤ p ∧ p ≤ M) ↔ ∃ j, j ≤ N ∧ p = nI j := by
  constructor
  · intro h
    obtain ⟨j, hj, rfl⟩ := nI_of2 hM (by rw [n_nlt]; exact h.1) h.2
    exact ⟨j, hj, rfl⟩
  · rintro ⟨j, hj, rfl⟩
    have hb := M.toInt_lt
    have h31 : j < 2 ^ 31 := by
      have := hb
      omega
    refine ⟨nI_pos' h31, ?_⟩
    rw [Int32.le_iff_toInt_le, nI_toInt h31, hM]
    omega
theorem v_forget {cc : ByteArray} {own : String} {nL : Nat} {R : Room} {D : DT} {K : KT} {pc : Nat} {lv : LV} {st : List Value} {G : GT} {n : Nat × Nat} (j : Nat) (k : V cc own nL R D K pc (lv.set j none) st G n) : V cc own nL R D K pc lv st G n := by
  obtain ⟨p, l, e, s, m, args, below, meth, c, A, Q⟩ := K
  intro O H locs ls h1 h2 h3 h4
  refine k O H locs ls h1 h2 h3 ⟨h4.1, h4.2.1, fun i v hg => ?_⟩
  rcases lget_set hg with ⟨_, z⟩ | ⟨_, z⟩
  · cases z
  · exact h4.2.2 i v z
theorem nI_inj {a b : Nat} (ha : a < 2147483648) (hb : b < 2147483648) (h : nI a = nI b) : a = b := (nI_eq ha hb).mp h
