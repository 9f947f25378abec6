/-! the numbers of strengths -/
theorem m64 {x y : Int64} {n : Nat} (h : x.toInt = (n : Int)) {k : Nat} (h2 : y.toInt = (k : Int)) (hb : n * k < 9223372036854775808) : (x * y).toInt = ((n * k : Nat) : Int) := by
  rw [Int64.toInt_mul, h, h2]
  have e : ((n : Int) * (k : Int)) = ((n * k : Nat) : Int) := by simp
  rw [e]
  exact Int.bmod_eq_of_le (by omega) (by omega)
theorem d64 {x y : Int64} {n : Nat} (h : x.toInt = (n : Int)) {k : Nat} (h2 : y.toInt = (k : Int)) (hb : n < 9223372036854775808) : (x / y).toInt = ((n / k : Nat) : Int) := by
  rw [Int64.toInt_div, h, h2]
  have e : ((n : Int).tdiv (k : Int)) = ((n / k : Nat) : Int) := by
    rw [Int.tdiv_eq_ediv_of_nonneg (by omega)]
    simp
  rw [e]
  have h3 : n / k ≤ n := Nat.div_le_self n k
  generalize n / k = t at h3 ⊢
  exact Int.bmod_eq_of_le (by omega) (by omega)
theorem i64n {x : Int32} {lo hi : Int32} {h : Nat} (hh : hi.toInt = (h : Int)) (hl : (0 : Int) ≤ lo.toInt) (hb : btw x lo hi) : ∃ n : Nat, n ≤ h ∧ x.toInt64.toInt = (n : Int) ∧ lo.toInt ≤ n := by
  obtain ⟨h1, h2⟩ := hb
  rw [Int32.le_iff_toInt_le] at h1 h2
  refine ⟨x.toInt.toNat, by omega, ?_, by omega⟩
  rw [Int32.toInt_toInt64]
  omega
theorem left_b {s : SG} {l : Nat} (h : btw (s.1 2 l) 0 1000000) : btw (leftS s l) 0 1000 := by
  unfold leftS
  obtain ⟨h1, h2⟩ := h
  rw [Int32.le_iff_toInt_le] at h1 h2
  have e0 : (0 : Int32).toInt = 0 := rfl
  have e1 : (1000000 : Int32).toInt = 1000000 := rfl
  have e2 : (1000 : Int32).toInt = 1000 := rfl
  rw [e0] at h1
  rw [e1] at h2
  have e3 : (1000 - s.1 2 l).toInt = 1000 - (s.1 2 l).toInt := by
    rw [Int32.toInt_sub, e2]
    exact Int.bmod_eq_of_le (by omega) (by omega)
  split
  · next c =>
    refine ⟨Int32.le_trans (by decide) c, ?_⟩
    rw [Int32.le_iff_toInt_le, e3, e2]
    omega
  · exact ⟨by decide, by decide⟩
/-- a panel's strength is a number up to so much -/
theorem str_b {s : SG} {l k : Nat} {j : Nat} (h5 : s.1 5 j = nI l) (h8 : s.1 8 j = nI k) (hl : l < 6) (hk : k < 3) (h1 : btw (s.1 1 (3 * l + k)) 1 2000000000) (h2 : btw (s.1 2 l) 0 1000000) (h6 : btw (s.1 6 j) 1 150) : ∃ n : Nat, n ≤ 300000000000 ∧ (strS s j).toInt = (n : Int) := by
  obtain ⟨n1, a1, a2, -⟩ := i64n (h := 2000000000) rfl (by decide) h1
  obtain ⟨n2, b1, b2, -⟩ := i64n (h := 1000) rfl (by decide) (left_b h2)
  obtain ⟨n3, c1, c2, -⟩ := i64n (h := 150) rfl (by decide) h6
  have k1 : n1 * n2 ≤ 2000000000 * 1000 := Nat.mul_le_mul a1 b1
  have e1 := m64 a2 b2 (by omega)
  have e2 : (lotStr s l k).toInt = ((n1 * n2 / 1000 : Nat) : Int) := d64 e1 (k := 1000) rfl (by omega)
  have k2 : n1 * n2 / 1000 ≤ 2000000000 := by omega
  have k3 : n1 * n2 / 1000 * n3 ≤ 2000000000 * 150 := Nat.mul_le_mul k2 c1
  refine ⟨n1 * n2 / 1000 * n3, by omega, ?_⟩
  rw [strS, h5, h8, nat_nI (by omega), nat_nI (by omega)]
  exact m64 e2 c2 (by omega)
theorem less_n {a b : Int64} {n m : Nat} (ha : a.toInt = (n : Int)) (hb : b.toInt = (m : Int)) : (lessL a b).toInt = ((min n m : Nat) : Int) := by
  unfold lessL
  by_cases c : a < b
  · rw [if_pos c, ha]; rw [Int64.lt_iff_toInt_lt, ha, hb] at c; omega
  · rw [if_neg c, hb]; rw [Int64.lt_iff_toInt_lt, ha, hb] at c; omega
theorem pct_b (s : SG) (i : Nat) : ∃ p : Nat, p ≤ 80 ∧ (pctS s i).toInt64.toInt = (p : Int) := by
  unfold pctS
  split
  · exact ⟨60, by decide, rfl⟩
  · split
    · exact ⟨80, by decide, rfl⟩
    · exact ⟨40, by decide, rfl⟩
theorem seam_b {s : SG} {i n m : Nat} (ha : (strS s (enA s i)).toInt = (n : Int)) (hb : (strS s (enB s i)).toInt = (m : Int)) (hn : n ≤ 300000000000) (hm : m ≤ 300000000000) : (0 : Int64) ≤ seamS s i ∧ seamS s i ≤ strS s (enA s i) ∧ seamS s i ≤ strS s (enB s i) := by
  obtain ⟨p, hp, ep⟩ := pct_b s i
  have e1 := less_n ha hb
  have k1 : min n m * p ≤ 300000000000 * 80 := Nat.mul_le_mul (by omega) hp
  have e2 := m64 e1 ep (by omega)
  have e3 : (seamS s i).toInt = ((min n m * p / 100 : Nat) : Int) := d64 e2 (k := 100) rfl (by omega)
  have k2 : min n m * p ≤ min n m * 100 := Nat.mul_le_mul (Nat.le_refl _) (by omega)
  have k3 : min n m * p / 100 ≤ min n m := by omega
  refine ⟨?_, ?_, ?_⟩
  · rw [Int64.le_iff_toInt_le, e3]; have : (0 : Int64).toInt = 0 := rfl; omega
  · rw [Int64.le_iff_toInt_le, e3, ha]; omega
  · rw [Int64.le_iff_toInt_le, e3, hb]; omega
/-! what holds of the state: by its rows -/
def iLot (r0 r1 r2 r3 : Nat → Int32) (sl lv : Nat → Bool) (a : Nat) : Prop := r0 0 = nI a ∧ a ≤ 6 ∧ (∀ f, f < 6 → sl f = decide (f < a)) ∧ (∀ i, a ≤ i → lv i = false ∧ r2 i = 0 ∧ r3 i = 0) ∧ (∀ i, i < a → ∀ k, k < 3 → btw (r1 (3 * i + k)) 1 2000000000) ∧ ∀ i, i < a → btw (r2 i) 0 1000000
def RS (r5 r6 r7 r8 : Nat → Int32) : SG := (fun k => if k = 5 then r5 else if k = 6 then r6 else if k = 7 then r7 else if k = 8 then r8 else fun _ => 0, fun _ _ => 0)
theorem roll_RS (s : SG) (l : Nat) : ∀ b, rollF s l b = rollF (RS (s.1 5) (s.1 6) (s.1 7) (s.1 8)) l b := by
  intro b
  induction b with
  | zero => rfl
  | succ b ih => simp only [rollF, ih]; rfl
def iPan (r4 r5 r6 r7 r8 r39 r40 r41 : Nat → Int32) (sl lv : Nat → Bool) (a b : Nat) : Prop := r4 0 = nI b ∧ b ≤ 12 ∧ (∀ f, f < 12 → sl f = decide (f < b)) ∧ (∀ i, b ≤ i → lv i = false) ∧ (∀ i, i < b → ∃ l k, l < a ∧ k < 3 ∧ r5 i = nI l ∧ r8 i = nI k ∧ btw (r6 i) 1 150 ∧ btw (r7 i) 1 150 ∧ (k = 2 → r6 i + r7 i ≤ 150)) ∧ ∀ l, l < a → rollF (RS r5 r6 r7 r8) l b = (r39 l, r40 l, r41 l)
def iSea (r9 r10 r11 r13 : Nat → Int32) (sl lv : Nat → Bool) (b ns : Nat) : Prop := r9 0 = nI ns ∧ ns ≤ 30 ∧ (∀ f, f < 30 → sl f = decide (f < ns ∧ r13 f = 0)) ∧ (∀ i, ns ≤ i → lv i = false ∧ r13 i = 0) ∧ ∀ i, i < ns → ∃ x y, x < b ∧ y < b ∧ r10 i = nI x ∧ r11 i = nI y
def iPeg (r19 r21 : Nat → Int32) (j23 : Nat → Int64) (sl lv : Nat → Bool) (g : Nat) : Prop := r19 0 = nI g ∧ g ≤ 8 ∧ (∀ f, f < 8 → sl f = decide (f < g)) ∧ (∀ i, g ≤ i → lv i = false ∧ j23 i = 0) ∧ ∀ i, i < g → ∃ q, 1 ≤ q ∧ q ≤ 100 ∧ r21 i = nI q
def iCan (r28 r29 r30 r31 r32 r33 r34 r35 r36 r37 : Nat → Int32) (sl lv lv2 : Nat → Bool) (a c : Nat) : Prop := r28 0 = nI c ∧ c ≤ 6 ∧ (∀ f, f < 6 → sl f = decide (f < c)) ∧ (∀ i, c ≤ i → lv i = false ∧ lv2 i = false ∧ r30 i = 0 ∧ r34 i = 0 ∧ r35 i = 0 ∧ r36 i = 0 ∧ r37 i = 0 ∧ ∀ f, f < 8 → r31 (8 * i + f) = 0) ∧ (∀ i, i < c → ∃ p l, p ≤ 8 ∧ r30 i = nI p ∧ l < a ∧ r29 i = nI l) ∧ ∀ i, i < c → (r32 i = -1 ↔ r33 i = -1)
def lgG (r : Nat → Int32) (v : Int32) : Nat → Nat
  | 0 => 0
  | i + 1 => lgG r v i + (if r i = v then 1 else 0)
theorem lg_G (s : SG) (v : Int32) : ∀ n, lgF s v n = lgG (s.1 44) v n := by
  intro n
  induction n with
  | zero => rfl
  | succ n ih => rw [lgF, lgG, ih]
def iLog (r34 r35 r36 r44 r45 : Nat → Int32) (c n q : Nat) : Prop := r45 0 = nI n ∧ n ≤ q ∧ (∀ j, j < c → r34 j = nI (lgG r44 (nI (8 * j + 3)) n) ∧ r35 j = nI (lgG r44 (nI (8 * j + 4)) n) ∧ r36 j = nI (lgG r44 (nI (8 * j + 5)) n)) ∧ ∀ k, k < n → ∃ j e, j < c ∧ e < 8 ∧ r44 k = nI (8 * j + e)
def iSail (r24 r25 r26 : Nat → Int32) : Prop := ∃ h t r, r24 0 = nI h ∧ r25 0 = nI t ∧ r26 0 = nI r ∧ h < 101 ∧ t < 101 ∧ r < 4
def INV (X : XT) (s : SG) (q : Nat) : Prop := ∃ a b c g ns n : Nat, iLot (s.1 0) (s.1 1) (s.1 2) (s.1 3) (X.2.2.1 1) (X.2.1 13) a ∧ iPan (s.1 4) (s.1 5) (s.1 6) (s.1 7) (s.1 8) (s.1 39) (s.1 40) (s.1 41) (X.2.2.1 2) (X.2.1 14) a b ∧ iSea (s.1 9) (s.1 10) (s.1 11) (s.1 13) (X.2.2.1 3) (X.2.1 15) b ns ∧ iPeg (s.1 19) (s.1 21) (s.2 23) (X.2.2.1 4) (X.2.1 16) g ∧ iCan (s.1 28) (s.1 29) (s.1 30) (s.1 31) (s.1 32) (s.1 33) (s.1 34) (s.1 35) (s.1 36) (s.1 37) (X.2.2.1 5) (X.2.1 17) (X.2.1 18) a c ∧ iLog (s.1 34) (s.1 35) (s.1 36) (s.1 44) (s.1 45) c n q ∧ iSail (s.1 24) (s.1 25) (s.1 26) ∧ btw (s.1 27 0) 0 100000 ∧ XV X
theorem INV.q1 {X X1 : XT} {s s' : SG} {q q' : Nat} (hq : q ≤ q') (h : INV X s q) (hr : ∀ k, k ≠ 16 → k ≠ 38 → k ≠ 15 → k ≠ 17 → k ≠ 18 → k ≠ 43 → k ≠ 46 → s'.1 k = s.1 k) (h23 : s'.2 23 = s.2 23) (h1 : X1.2.1 = X.2.1) (h2 : X1.2.2.1 = X.2.2.1) : INV X1 s' q' := by
  obtain ⟨a, b, c, g, ns, n, i1, i2, i3, i4, i5, i6, i7, i8, i9⟩ := h
  refine ⟨a, b, c, g, ns, n, ?_, ?_, ?_, ?_, ?_, ?_, ?_, ?_, ?_⟩
  · rw [hr 0 (by decide) (by decide) (by decide) (by decide) (by decide) (by decide) (by decide), hr 1 (by decide) (by decide) (by decide) (by decide) (by decide) (by decide) (by decide), hr 2 (by decide) (by decide) (by decide) (by decide) (by decide) (by decide) (by decide), hr 3 (by decide) (by decide) (by decide) (by decide) (by decide) (by decide) (by decide), h1, h2]; exact i1
  · rw [hr 4 (by decide) (by decide) (by decide) (by decide) (by decide) (by decide) (by decide), hr 5 (by decide) (by decide) (by decide) (by decide) (by decide) (by decide) (by decide), hr 6 (by decide) (by decide) (by decide) (by decide) (by decide) (by decide) (by decide), hr 7 (by decide) (by decide) (by decide) (by decide) (by decide) (by decide) (by decide), hr 8 (by decide) (by decide) (by decide) (by decide) (by decide) (by decide) (by decide), hr 39 (by decide) (by decide) (by decide) (by decide) (by decide) (by decide) (by decide), hr 40 (by decide) (by decide) (by decide) (by decide) (by decide) (by decide) (by decide), hr 41 (by decide) (by decide) (by decide) (by decide) (by decide) (by decide) (by decide), h1, h2]; exact i2
  · rw [hr 9 (by decide) (by decide) (by decide) (by decide) (by decide) (by decide) (by decide), hr 10 (by decide) (by decide) (by decide) (by decide) (by decide) (by decide) (by decide), hr 11 (by decide) (by decide) (by decide) (by decide) (by decide) (by decide) (by decide), hr 13 (by decide) (by decide) (by decide) (by decide) (by decide) (by decide) (by decide), h1, h2]; exact i3
  · rw [hr 19 (by decide) (by decide) (by decide) (by decide) (by decide) (by decide) (by decide), hr 21 (by decide) (by decide) (by decide) (by decide) (by decide) (by decide) (by decide), h23, h1, h2]; exact i4
  · rw [hr 28 (by decide) (by decide) (by decide) (by decide) (by decide) (by decide) (by decide), hr 29 (by decide) (by decide) (by decide) (by decide) (by decide) (by decide) (by decide), hr 30 (by decide) (by decide) (by decide) (by decide) (by decide) (by decide) (by decide), hr 31 (by decide) (by decide) (by decide) (by decide) (by decide) (by decide) (by decide), hr 32 (by decide) (by decide) (by decide) (by decide) (by decide) (by decide) (by decide), hr 33 (by decide) (by decide) (by decide) (by decide) (by decide) (by decide) (by decide), hr 34 (by decide) (by decide) (by decide) (by decide) (by decide) (by decide) (by decide), hr 35 (by decide) (by decide) (by decide) (by decide) (by decide) (by decide) (by decide), hr 36 (by decide) (by decide) (by decide) (by decide) (by decide) (by decide) (by decide), hr 37 (by decide) (by decide) (by decide) (by decide) (by decide) (by decide) (by decide), h1, h2]; exact i5
  · rw [hr 34 (by decide) (by decide) (by decide) (by decide) (by decide) (by decide) (by decide), hr 35 (by decide) (by decide) (by decide) (by decide) (by decide) (by decide) (by decide), hr 36 (by decide) (by decide) (by decide) (by decide) (by decide) (by decide) (by decide), hr 44 (by decide) (by decide) (by decide) (by decide) (by decide) (by decide) (by decide), hr 45 (by decide) (by decide) (by decide) (by decide) (by decide) (by decide) (by decide)]; exact ⟨i6.1, by have := i6.2.1; omega, i6.2.2⟩
  · rw [hr 24 (by decide) (by decide) (by decide) (by decide) (by decide) (by decide) (by decide), hr 25 (by decide) (by decide) (by decide) (by decide) (by decide) (by decide) (by decide), hr 26 (by decide) (by decide) (by decide) (by decide) (by decide) (by decide) (by decide)]; exact i7
  · rw [hr 27 (by decide) (by decide) (by decide) (by decide) (by decide) (by decide) (by decide)]; exact i8
  · intro c i hc hl; rw [h1] at hl; exact i9 c i hc hl
/-- what the calls ask of the panels and seams -/
theorem iPan.PV {r4 r5 r6 r7 r8 r39 r40 r41 : Nat → Int32} {sl lv : Nat → Bool} {a b : Nat} {s : SG} (h : iPan (s.1 4) (s.1 5) (s.1 6) (s.1 7) (s.1 8) r39 r40 r41 sl lv a b) (ha : a ≤ 6) : PV s b := fun i hi => by
  obtain ⟨l, k, h1, h2, h3, h4, -⟩ := h.2.2.2.2.1 i hi
  exact ⟨l, k, by omega, h2, h3, h4⟩
theorem iSea.SV {s : SG} {sl lv : Nat → Bool} {b ns : Nat} (h : iSea (s.1 9) (s.1 10) (s.1 11) (s.1 13) sl lv b ns) : SV s b ns := h.2.2.2.2
theorem iCan.CV {s : SG} {r31 r32 r33 r34 r35 r36 r37 : Nat → Int32} {sl lv lv2 : Nat → Bool} {a c : Nat} (h : iCan (s.1 28) (s.1 29) (s.1 30) r31 r32 r33 r34 r35 r36 r37 sl lv lv2 a c) (ha : a ≤ 6) : CV s c := fun i hi => by
  obtain ⟨p, l, h1, h2, h3, h4⟩ := h.2.2.2.2.1 i hi
  exact ⟨p, l, h1, h2, by omega, h4⟩
theorem iLog.LG {s : SG} {c n q : Nat} (h : iLog (s.1 34) (s.1 35) (s.1 36) (s.1 44) (s.1 45) c n q) : LG s c n := fun j hj => by
  rw [lg_G, lg_G, lg_G]
  exact h.2.2.1 j hj
theorem inv_str {s : SG} {sl lv sl2 lv2 : Nat → Bool} {a b : Nat} {r39 r40 r41 : Nat → Int32} (h : iLot (s.1 0) (s.1 1) (s.1 2) (s.1 3) sl lv a) (h2 : iPan (s.1 4) (s.1 5) (s.1 6) (s.1 7) (s.1 8) r39 r40 r41 sl2 lv2 a b) : ∀ j, j < b → ∃ n : Nat, n ≤ 300000000000 ∧ (strS s j).toInt = (n : Int) := fun j hj => by
  obtain ⟨l, k, g1, g2, g3, g4, g5, -⟩ := h2.2.2.2.2.1 j hj
  have ha := h.2.1
  exact str_b g3 g4 (by omega) g2 (h.2.2.2.2.1 l g1 k g2) (h.2.2.2.2.2 l g1) g5
theorem inv_st0 {s : SG} {sl lv sl2 lv2 : Nat → Bool} {a b : Nat} {r39 r40 r41 : Nat → Int32} (h : iLot (s.1 0) (s.1 1) (s.1 2) (s.1 3) sl lv a) (h2 : iPan (s.1 4) (s.1 5) (s.1 6) (s.1 7) (s.1 8) r39 r40 r41 sl2 lv2 a b) : ∀ j, j < b → (0 : Int64) ≤ strS s j := fun j hj => by
  obtain ⟨n, -, e⟩ := inv_str h h2 j hj
  rw [Int64.le_iff_toInt_le, e]
  have : (0 : Int64).toInt = 0 := rfl
  omega
theorem inv_gok {s : SG} {sl lv sl2 lv2 sl3 lv3 : Nat → Bool} {a b ns : Nat} {r39 r40 r41 : Nat → Int32} (h : iLot (s.1 0) (s.1 1) (s.1 2) (s.1 3) sl lv a) (h2 : iPan (s.1 4) (s.1 5) (s.1 6) (s.1 7) (s.1 8) r39 r40 r41 sl2 lv2 a b) (h3 : iSea (s.1 9) (s.1 10) (s.1 11) (s.1 13) sl3 lv3 b ns) : GOK s b ns := by
  have h12 := h2.2.1
  have key : ∀ i, i < ns → (0 : Int64) ≤ seamS s i ∧ seamS s i ≤ strS s (enA s i) ∧ seamS s i ≤ strS s (enB s i) := fun i hi => by
    obtain ⟨x, y, hx, hy, e1, e2⟩ := h3.2.2.2.2 i hi
    have ea : enA s i = x := by rw [enA, e1]; exact nat_nI (by omega)
    have eb : enB s i = y := by rw [enB, e2]; exact nat_nI (by omega)
    obtain ⟨n, n1, n2⟩ := inv_str h h2 x hx
    obtain ⟨m, m1, m2⟩ := inv_str h h2 y hy
    exact seam_b (by rw [ea]; exact n2) (by rw [eb]; exact m2) n1 m1
  exact ⟨h3.SV, h12, h3.2.1, fun i hi => (key i hi).2, inv_st0 h h2, fun i hi => (key i hi).1⟩
