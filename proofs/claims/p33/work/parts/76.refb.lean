theorem v_nrem {cc : ByteArray} {own : String} {nL : Nat} {R : Room} {D : DT} {K : KT} {pc : Nat} {lv : LV} {st : List Value} {G : GT} {n : Nat × Nat} {x y : Int32} (a b : Nat) (hd : decode cc pc = .ok (.irem, 1)) (ha : a < 2147483648) (hb : 0 < b ∧ b < 2147483648) (hx : x = nI a) (hy : y = nI b) (k : V cc own nL R D K (pc + 1) lv (.int (nI (a % b)) :: st) G n) : V cc own nL R D K pc lv (.int y :: .int x :: st) G n := by
  subst hx; subst hy
  refine v_irem hd (nI_ne0 hb.1 hb.2) ?_
  rw [n_rem ha hb.2]
  exact k
theorem v_ndiv {cc : ByteArray} {own : String} {nL : Nat} {R : Room} {D : DT} {K : KT} {pc : Nat} {lv : LV} {st : List Value} {G : GT} {n : Nat × Nat} {x y : Int32} (a b : Nat) (hd : decode cc pc = .ok (.idiv, 1)) (ha : a < 2147483648) (hb : 0 < b ∧ b < 2147483648) (hx : x = nI a) (hy : y = nI b) (k : V cc own nL R D K (pc + 1) lv (.int (nI (a / b)) :: st) G n) : V cc own nL R D K pc lv (.int y :: .int x :: st) G n := by
  subst hx; subst hy
  refine v_idiv hd (nI_ne0 hb.1 hb.2) ?_
  rw [n_div ha hb.2]
  exact k
theorem sub_ti {k : Int} {x : Int32} (hx : x.toInt = k) {j : Nat} (hj : j < 1000) (hk : -100000 ≤ k ∧ k ≤ 100000) : (x - nI j).toInt = k - j := by
  rw [Int32.toInt_sub, hx, nI_toInt (by omega)]
  exact Int.bmod_eq_of_le (by omega) (by omega)
theorem add_ti {k : Int} {x : Int32} (hx : x.toInt = k) {j : Nat} (hj : j < 1000) (hk : 0 ≤ k ∧ k ≤ 2100000000) : (x + nI j).toInt = k + j := by
  rw [Int32.toInt_add, hx, nI_toInt (by omega)]
  exact Int.bmod_eq_of_le (by omega) (by omega)
theorem nb_lo {x a b : Int32} {k l : Int} (hx : x.toInt = k) (ha : a.toInt = l) (h : k < l) : ¬ btw x a b := fun z => by
  have := z.1
  rw [Int32.le_iff_toInt_le, hx, ha] at this
  omega
theorem nb_hi {x a b : Int32} {k l : Int} (hx : x.toInt = k) (hb : b.toInt = l) (h : l < k) : ¬ btw x a b := fun z => by
  have := z.2
  rw [Int32.le_iff_toInt_le, hx, hb] at this
  omega
theorem nm1_ti {n : Nat} (hn : n < 1000) : (nI n - 1).toInt = (n : Int) - 1 := by
  have := sub_ti (k := n) (x := nI n) (nI_toInt (by omega)) (j := 1) (by decide) (by omega)
  exact this
theorem nb_n {n j : Nat} (hn : n < 1000) (hj : j < 1000) : ¬ btw (nI n + nI j) 0 (nI n - 1) := by
  rw [nI_add]
  exact nb_hi (nI_toInt (by omega)) (nm1_ti hn) (by omega)
/-- what the refused calls are told -/
def RF9 (s : SG) (lotv panv canv bigv hunv knv : Int32) : Prop := (¬ btw lotv 0 (nI (nA s) - 1)) ∧ (¬ btw panv 0 (nI (nB s) - 1)) ∧ (¬ btw canv 0 (nI (nC s) - 1)) ∧ (¬ btw bigv 1 2000000000) ∧ (¬ btw hunv 0 100) ∧ ¬ btw knv 0 35
abbrev rm_isRefused : Room := { frames := 11, cells := 2 * 1200, slots := 18 * 1200, locals := 330 }
theorem l_lo (j : Nat) (hj : j < 1000) : ¬ (0 : Int64) ≤ -1 - (nI j).toInt64 := by
  rw [Int64.le_iff_toInt_le]
  have e : ((-1 : Int64) - (nI j).toInt64).toInt = -1 - (j : Int) := by
    rw [Int64.toInt_sub, Int32.toInt_toInt64, nI_toInt (by omega)]
    show Int.bmod (-1 - (j : Int)) _ = _
    exact Int.bmod_eq_of_le (by omega) (by omega)
  rw [e]
  have : (0 : Int64).toInt = 0 := rfl
  omega
theorem st_hi (j : Nat) (hj : j < 1000) : ¬ (101 : Int32) + nI j = -9 := fun z => by
  have h1 := add_ti (k := 101) (x := 101) rfl hj (by decide)
  rw [z] at h1
  have : (-9 : Int32).toInt = -9 := rfl
  omega
theorem p_wide (j : Nat) (hj : j < 1000) : ¬ (76 : Int32) + nI j + 75 ≤ 150 := by
  rw [show (76 : Int32) = nI 76 from rfl, show (75 : Int32) = nI 75 from rfl, show (150 : Int32) = nI 150 from rfl, nI_add, nI_add, nI_leI (by omega) (by decide)]
  omega
