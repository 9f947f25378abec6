/-! what areSound asks: rolls, pegs, canopies -/
def moF (s : SG) (l : Nat) : Nat → Int32
  | 0 => 0
  | i + 1 => moF s l i + (if s.1 5 i = nI l then s.1 6 i + s.1 7 i else 0)
def suF (s : SG) (l : Nat) : Nat → Int32
  | 0 => 0
  | i + 1 => suF s l i + (if s.1 5 i = nI l then 1 else 0)
theorem add_s {x y : Int32} (h1 : -1000000000 ≤ x.toInt ∧ x.toInt ≤ 1000000000) (h2 : -1000000000 ≤ y.toInt ∧ y.toInt ≤ 1000000000) : (x + y).toInt = x.toInt + y.toInt := by
  rw [Int32.toInt_add]
  exact Int.bmod_eq_of_le (by omega) (by omega)
def PN (s : SG) (b : Nat) : Prop := ∀ i, i < b → ∃ k, k < 3 ∧ s.1 8 i = nI k ∧ btw (s.1 6 i) 1 150 ∧ btw (s.1 7 i) 1 150
theorem bt_i {x a b : Int32} {k l : Int} (h : btw x a b) (ha : a.toInt = k) (hb : b.toInt = l) : k ≤ x.toInt ∧ x.toInt ≤ l := by
  obtain ⟨h1, h2⟩ := h
  rw [Int32.le_iff_toInt_le] at h1 h2
  rw [ha] at h1
  rw [hb] at h2
  exact ⟨h1, h2⟩
theorem len_b {s : SG} {b i : Nat} (h : PN s b) (hi : i < b) : 1 ≤ (lenS s i).toInt ∧ (lenS s i).toInt ≤ (s.1 6 i + s.1 7 i).toInt ∧ (s.1 6 i + s.1 7 i).toInt ≤ 300 := by
  obtain ⟨k, hk, e, h6, h7⟩ := h i hi
  obtain ⟨a1, a2⟩ := bt_i (k := 1) (l := 150) h6 rfl rfl
  obtain ⟨c1, c2⟩ := bt_i (k := 1) (l := 150) h7 rfl rfl
  have es := add_s (x := s.1 6 i) (y := s.1 7 i) (by omega) (by omega)
  rw [es]
  unfold lenS
  split
  · omega
  · split
    · omega
    · rw [es]; omega
theorem roll_b {s : SG} {b l : Nat} (h : PN s b) (hb : b ≤ 12) : ∀ i, i ≤ b → 0 ≤ (rollF s l i).1.toInt ∧ 0 ≤ (rollF s l i).2.2.toInt ∧ (rollF s l i).1.toInt + (rollF s l i).2.2.toInt ≤ (moF s l i).toInt ∧ (moF s l i).toInt ≤ 300 * i ∧ 0 ≤ (suF s l i).toInt ∧ (suF s l i).toInt ≤ i ∧ (0 < (suF s l i).toInt → 1 ≤ (rollF s l i).2.2.toInt) := by
  intro i
  induction i with
  | zero =>
    intro _
    have z : (0 : Int32).toInt = 0 := rfl
    simp only [rollF, moF, suF, z]
    omega
  | succ i ih =>
    intro hi
    obtain ⟨a1, a2, a3, a4, a5, a6, a7⟩ := ih (by omega)
    obtain ⟨l1, l2, l3⟩ := len_b h (show i < b by omega)
    have z : (0 : Int32).toInt = 0 := rfl
    have z1 : (1 : Int32).toInt = 1 := rfl
    simp only [moF, suF, rollF]
    by_cases c : s.1 5 i = nI l
    · rw [if_pos c, if_pos c, if_pos c]
      have e1 := add_s (x := moF s l i) (y := s.1 6 i + s.1 7 i) (by omega) (by omega)
      have e2 := add_s (x := suF s l i) (y := 1) (by omega) (by omega)
      rw [e1, e2]
      split
      · dsimp only
        split
        · next q => rw [Int32.lt_iff_toInt_lt] at q; omega
        · next q => rw [Int32.lt_iff_toInt_lt] at q; omega
      · dsimp only
        have e3 := add_s (x := (rollF s l i).1) (y := (rollF s l i).2.2) (by omega) (by omega)
        rw [e3]
        omega
    · rw [if_neg c, if_neg c, if_neg c]
      have e1 := add_s (x := moF s l i) (y := 0) (by omega) (by omega)
      have e2 := add_s (x := suF s l i) (y := 0) (by omega) (by omega)
      rw [e1, e2]
      omega
theorem roll_ok {s : SG} {sl lv : Nat → Bool} {a b l : Nat} (h : iPan (s.1 4) (s.1 5) (s.1 6) (s.1 7) (s.1 8) (s.1 39) (s.1 40) (s.1 41) sl lv a b) (hl : l < a) : (s.1 39 l + s.1 41 l).toInt ≤ (moF s l b).toInt ∧ 0 ≤ (s.1 39 l + s.1 41 l).toInt ∧ (0 < (suF s l b).toInt → 1 ≤ (s.1 39 l + s.1 41 l).toInt) := by
  have hb := h.2.1
  have hP : PN s b := fun i hi => by
    obtain ⟨l, k, g1, g2, g3, g4, g5, g6, -⟩ := h.2.2.2.2.1 i hi
    exact ⟨k, g2, g4, g5, g6⟩
  have e := h.2.2.2.2.2 l hl
  rw [← roll_RS] at e
  obtain ⟨a1, a2, a3, a4, a5, a6, a7⟩ := roll_b (l := l) hP hb b (Nat.le_refl _)
  have e39 : s.1 39 l = (rollF s l b).1 := by rw [e]
  have e41 : s.1 41 l = (rollF s l b).2.2 := by rw [e]
  rw [e39, e41]
  have es := add_s (x := (rollF s l b).1) (y := (rollF s l b).2.2) (by omega) (by omega)
  rw [es]
  exact ⟨by omega, by omega, fun q => by have := a7 q; omega⟩
/-! pegs: bits -/
theorem sh1 : ∀ i, i < 9 → (1 : Int32) <<< (nI i &&& 31) = nI (2 ^ i) := by decide +kernel
theorem bit_k : ∀ n, n < 256 → ∀ k, k < 8 → (nI n >>> (nI k &&& 31)) &&& 1 = if n.testBit k then 1 else 0 := by decide +kernel
theorem bit_add : ∀ g, g < 8 → ∀ n, n < 2 ^ g → ∀ k, k < 8 → (n + 2 ^ g).testBit k = if k = g then true else n.testBit k := by decide +kernel
theorem set_b {s : SG} : ∀ g, g ≤ 8 → ∃ n, n < 2 ^ g ∧ setF s g = nI n ∧ ∀ k, k < g → n.testBit k = decide (¬ s.1 22 k = 0) := by
  intro g
  induction g with
  | zero => intro _; exact ⟨0, by decide, rfl, fun k hk => absurd hk (Nat.not_lt_zero _)⟩
  | succ g ih =>
    intro hg
    obtain ⟨n, h1, h2, h3⟩ := ih (by omega)
    have hp : 2 ^ (g + 1) = 2 ^ g + 2 ^ g := by rw [Nat.pow_succ]; omega
    by_cases c : s.1 22 g = 0
    · refine ⟨n, by omega, ?_, fun k hk => ?_⟩
      · rw [setF, if_pos c, h2, Int32.add_zero]
      · by_cases e : k = g
        · subst e
          rw [Nat.testBit_lt_two_pow h1]
          exact (decide_eq_false (fun z => z c)).symm
        · exact h3 k (by omega)
    · refine ⟨n + 2 ^ g, by omega, ?_, fun k hk => ?_⟩
      · rw [setF, if_neg c, h2, sh1 g (by omega), nI_add]
      · rw [bit_add g (by omega) n h1 k (by omega)]
        by_cases e : k = g
        · subst e
          rw [if_pos rfl]
          exact (decide_eq_true c).symm
        · rw [if_neg e]; exact h3 k (by omega)
theorem p28 {g n : Nat} (hg : g ≤ 8) (hn : n < 2 ^ g) : n < 256 := Nat.lt_of_lt_of_le hn (Nat.pow_le_pow_right (by decide) hg : 2 ^ g ≤ 2 ^ 8)
/-! canopies -/
theorem rnd_b {s : SG} {j p : Nat} (hp : p ≤ 8) : ∀ f k, k < 256 → rndF s j p f k = -1 ∨ ∃ m, m ≤ pcN k ∧ rndF s j p f k = nI m := by
  intro f
  induction f with
  | zero => intro k _; exact Or.inl rfl
  | succ f ih =>
    intro k hk
    rw [rndF]
    split
    · exact Or.inr ⟨0, Nat.zero_le _, rfl⟩
    · split
      · exact Or.inl rfl
      · next c =>
        obtain ⟨o1, o2⟩ := opN_in s j hk p hp
        have h1 := pc_lt k hk (opN s j k p) o1 c o2
        have h2 : nxK s j p k < 256 := Nat.lt_of_le_of_lt Nat.and_le_left hk
        rcases ih (nxK s j p k) h2 with q | ⟨m, m1, m2⟩
        · rw [if_pos q]; exact Or.inl rfl
        · split
          · exact Or.inl rfl
          · refine Or.inr ⟨m + 1, ?_, by rw [m2, nI_1]⟩
            have : pcN (nxK s j p k) < pcN k := h1
            omega
theorem op_b {s : SG} {j p : Nat} (hp : s.1 30 j = nI p) (hp8 : p ≤ 8) : opS s j = -1 ∨ ∃ m, m < 9 ∧ opS s j = nI m := by
  have e : nat (s.1 30 j) = p := by rw [hp]; exact nat_nI (by omega)
  unfold opS rndS
  rw [e]
  have h : 2 ^ p - 1 < 256 := by
    have : 2 ^ p ≤ 2 ^ 8 := Nat.pow_le_pow_right (by decide) hp8
    omega
  rcases rnd_b hp8 256 (2 ^ p - 1) h (s := s) (j := j) with q | ⟨m, m1, m2⟩
  · exact Or.inl q
  · exact Or.inr ⟨m, by have := pc_8 (2 ^ p - 1); omega, m2⟩
/-- what holds of a canopy, as it is asked -/
def CQ (s : SG) (i : Nat) : Prop := (¬ opS s i < -1 ∧ ¬ 9 ≤ opS s i) ∧ (s.1 32 i < 0 ↔ s.1 33 i < 0) ∧ (¬ s.1 27 0 < s.1 33 i) ∧ (¬ s.1 34 i < s.1 35 i) ∧ (¬ s.1 32 i < 0 → ¬ opS s i ≤ 0) ∧ (¬ s.1 29 i < 0) ∧ ¬ nI (nA s) ≤ s.1 29 i
theorem cq_of {X : XT} {s : SG} {q : Nat} (hI : INV X s q) (hq : q < 512) (hC : CB s) {i : Nat} (hi : i < nC s) : CQ s i := by
  obtain ⟨i1, i2, i3, i4, i5, i6, i7, i8, i9⟩ := INV.num (by omega) hI
  obtain ⟨c1, c2, ⟨z, u, w, v, z1, z2, z3, z4, z5, z6, z7, z8⟩, c4, c5⟩ := hC.2 i hi
  obtain ⟨p, l, p1, p2, p3, p4⟩ := i5.2.2.2.2.1 i hi
  have h33 := i5.2.2.2.2.2 i hi
  have a6 := i1.2.1
  refine ⟨?_, ?_, ?_, ?_, ?_, ?_, ?_⟩
  · rcases op_b p2 p1 with e | ⟨m, m1, e⟩
    · rw [e]; exact ⟨by decide, by decide⟩
    · rw [e]
      refine ⟨fun q => ?_, nI_ge m1 (by decide)⟩
      exact absurd (Int32.lt_of_lt_of_le q (by decide : (-1 : Int32) ≤ 0)) (nI_pos (by omega))
  · rcases c1 with e | e
    · rw [e, h33.mp e]
    · have n32 : ¬ s.1 32 i = -1 := fun z => by rw [z] at e; exact absurd e.1 (by decide)
      rcases c2 with e2 | e2
      · exact absurd (h33.mpr e2) n32
      · exact ⟨fun q => absurd q (n_nlt.mpr e.1), fun q => absurd q (n_nlt.mpr e2.1)⟩
  · rcases c2 with e | e
    · rw [e]; exact n_nlt.mpr (Int32.le_trans (by decide) i8.1)
    · exact n_nlt.mpr e.2
  · rw [z1, z2]
    refine nI_nlt ?_ (by omega)
    split at z5 <;> omega
  · intro n32 q
    have n33 : ¬ s.1 33 i = -1 := fun z => n32 (by rw [h33.mpr z]; decide)
    exact absurd (c4 n33) (n_nlt.mpr q)
  · rw [p4]; exact nI_pos (by omega)
  · rw [p4]; exact nI_ge p3 (by omega)
