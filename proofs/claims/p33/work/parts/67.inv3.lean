theorem kSeam_0 {b c : Nat} {p0 p1 p2 : Int32} (h : kSeam b c p0 p1 p2 = 0) (hb : b ≤ 12) : (∃ x, x < b ∧ p0 = nI x) ∧ (∃ y, y < b ∧ p1 = nI y) ∧ ¬ c = 30 := by
  unfold kSeam at h
  by_cases z : btw p0 0 (nI b - 1) ∧ btw p1 0 (nI b - 1)
  · rw [if_pos z] at h
    by_cases z2 : p0 ≠ p1 ∧ btw p2 0 2
    · rw [if_pos z2] at h
      by_cases z3 : c = 30
      · rw [if_pos z3] at h; exact absurd h (by decide)
      · exact ⟨(btw_ix (a := b) (by omega)).mp z.1, (btw_ix (a := b) (by omega)).mp z.2, z3⟩
    · rw [if_neg z2] at h; exact absurd h (by decide)
  · rw [if_neg z] at h; exact absurd h (by decide)
theorem inv_seam {X X1 : XT} {s : SG} {q : Nat} {b ns : Nat} {p0 p1 p2 : Int32} (h : INV X s q) (hb : s.1 4 0 = nI b) (hb2 : b ≤ 12) (hc : s.1 9 0 = nI ns) (hc2 : ns ≤ 30) (hk : kSeam b ns p0 p1 p2 = 0) (e1 : X1.2.1 = u2 X.2.1 15 ns true) (e2 : X1.2.2.1 = u2 X.2.2.1 3 ns true) : INV X1 (gSeam s ns p0 p1 p2) (q + 1) := by
  obtain ⟨a0, b0, c, g, ns0, n, i1, i2, i3, i4, i5, i6, i7, i8, i9⟩ := h
  obtain ⟨xa, xl, xs, xr⟩ := X1
  simp only at e1 e2
  subst e1
  subst e2
  have z_b : b = b0 := nI_inj (by omega) (by have := i2.2.1; omega) (hb.symm.trans i2.1)
  subst z_b
  have z_ns : ns = ns0 := nI_inj (by omega) (by have := i3.2.1; omega) (hc.symm.trans i3.1)
  subst z_ns
  obtain ⟨⟨x, hx, ex⟩, ⟨y, hy, ey⟩, hc30⟩ := kSeam_0 hk hb2
  have e : ∀ k, k ∉ [9, 10, 11, 12] → (gSeam s ns p0 p1 p2).1 k = s.1 k := by
    intro k hk
    simp only [List.mem_cons, List.not_mem_nil, or_false, not_or] at hk
    refine funext fun j => ?_
    simp [gSeam, sI, sJ, u2, hk]
  refine ⟨a0, b, c, g, ns + 1, n, ?_, ?_, ?_, ?_, ?_, ?_, ?_, ?_, ?_⟩
  · rw [e 0 (by decide), e 1 (by decide), e 2 (by decide), e 3 (by decide)]; exact i1
  · rw [e 4 (by decide), e 5 (by decide), e 6 (by decide), e 7 (by decide), e 8 (by decide), e 39 (by decide), e 40 (by decide), e 41 (by decide)]; exact i2
  · obtain ⟨g1, g2, g3, g4, g5⟩ := i3
    rw [e 13 (by decide)]
    refine ⟨by simp [gSeam, sI, u2], by omega, fun f hf => ?_, fun i hi => ?_, fun i hi => ?_⟩
    · show u2 X.2.2.1 3 ns true 3 f = _
      by_cases z : f = ns
      · subst z; rw [u2_s]; exact (decide_eq_true ⟨by omega, (g4 f (by omega)).2⟩).symm
      · rw [u2_k _ _ z, g3 f hf]; exact decide_eq_decide.mpr ⟨fun q => ⟨by omega, q.2⟩, fun q => ⟨by omega, q.2⟩⟩
    · refine ⟨?_, (g4 i (by omega)).2⟩
      show u2 X.2.1 15 ns true 15 i = false
      rw [u2_k _ _ (by omega)]; exact (g4 i (by omega)).1
    · by_cases z : i = ns
      · subst z; exact ⟨x, y, hx, hy, by rw [← ex]; simp [gSeam, sI, u2], by rw [← ey]; simp [gSeam, sI, u2]⟩
      · obtain ⟨x, y, z1, z2, z3, z4⟩ := g5 i (by omega)
        exact ⟨x, y, z1, z2, by rw [← z3]; simp [gSeam, sI, u2, z], by rw [← z4]; simp [gSeam, sI, u2, z]⟩
  · rw [e 19 (by decide), e 21 (by decide)]; exact i4
  · rw [e 28 (by decide), e 29 (by decide), e 30 (by decide), e 31 (by decide), e 32 (by decide), e 33 (by decide), e 34 (by decide), e 35 (by decide), e 36 (by decide), e 37 (by decide)]; exact i5
  · rw [e 34 (by decide), e 35 (by decide), e 36 (by decide), e 44 (by decide), e 45 (by decide)]; exact ⟨i6.1, by have := i6.2.1; omega, i6.2.2⟩
  · rw [e 24 (by decide), e 25 (by decide), e 26 (by decide)]; exact i7
  · rw [e 27 (by decide)]; exact i8
  · exact i9.add (by decide)
theorem kRip_0 {s : SG} {c : Nat} {p0 : Int32} (h : kRip s c p0 = 0) (hc : c ≤ 30) : ∃ x, x < c ∧ p0 = nI x := by
  unfold kRip at h
  by_cases z : btw p0 0 (nI c - 1) ∧ s.1 13 (nat p0) = 0
  · exact (btw_ix (a := c) (by omega)).mp z.1
  · rw [if_neg z] at h; exact absurd h (by decide)
theorem inv_rip {X X1 : XT} {s : SG} {q : Nat} {ns : Nat} {p0 : Int32} (h : INV X s q) (hc : s.1 9 0 = nI ns) (hc2 : ns ≤ 30) (hk : kRip s ns p0 = 0) (e1 : X1.2.1 = X.2.1) (e2 : X1.2.2.1 = u2 X.2.2.1 3 (nat p0) false) : INV X1 (sI s 13 (nat p0) 1) (q + 1) := by
  obtain ⟨a0, b0, c, g, ns0, n, i1, i2, i3, i4, i5, i6, i7, i8, i9⟩ := h
  obtain ⟨xa, xl, xs, xr⟩ := X1
  simp only at e1 e2
  subst e1
  subst e2
  have z_ns : ns = ns0 := nI_inj (by omega) (by have := i3.2.1; omega) (hc.symm.trans i3.1)
  subst z_ns
  obtain ⟨j, hj, ej⟩ := kRip_0 hk hc2
  have en : nat p0 = j := by rw [ej]; exact nat_nI (by omega)
  have e : ∀ k, k ∉ [13] → (sI s 13 (nat p0) 1).1 k = s.1 k := by
    intro k hk
    simp only [List.mem_cons, List.not_mem_nil, or_false, not_or] at hk
    refine funext fun j => ?_
    simp [gSeam, sI, sJ, u2, hk]
  refine ⟨a0, b0, c, g, ns, n, ?_, ?_, ?_, ?_, ?_, ?_, ?_, ?_, ?_⟩
  · rw [e 0 (by decide), e 1 (by decide), e 2 (by decide), e 3 (by decide)]; exact i1
  · rw [e 4 (by decide), e 5 (by decide), e 6 (by decide), e 7 (by decide), e 8 (by decide), e 39 (by decide), e 40 (by decide), e 41 (by decide)]; exact i2
  · obtain ⟨g1, g2, g3, g4, g5⟩ := i3
    rw [e 9 (by decide), e 10 (by decide), e 11 (by decide), en]
    refine ⟨g1, g2, fun f hf => ?_, fun i hi => ?_, g5⟩
    · show u2 X.2.2.1 3 j false 3 f = decide (f < ns ∧ u2 s.1 13 j 1 13 f = 0)
      by_cases z : f = j
      · subst z; rw [u2_s, u2_s]; exact (decide_eq_false (fun q => absurd q.2 (by decide))).symm
      · rw [u2_k _ _ z, u2_k _ _ z, g3 f hf]
    · refine ⟨(g4 i hi).1, ?_⟩
      show u2 s.1 13 j 1 13 i = 0
      rw [u2_k _ _ (by omega)]; exact (g4 i hi).2
  · rw [e 19 (by decide), e 21 (by decide)]; exact i4
  · rw [e 28 (by decide), e 29 (by decide), e 30 (by decide), e 31 (by decide), e 32 (by decide), e 33 (by decide), e 34 (by decide), e 35 (by decide), e 36 (by decide), e 37 (by decide)]; exact i5
  · rw [e 34 (by decide), e 35 (by decide), e 36 (by decide), e 44 (by decide), e 45 (by decide)]; exact ⟨i6.1, by have := i6.2.1; omega, i6.2.2⟩
  · rw [e 24 (by decide), e 25 (by decide), e 26 (by decide)]; exact i7
  · rw [e 27 (by decide)]; exact i8
  · exact i9
theorem btw1 {p M : Int32} {N : Nat} (hM : M.toInt = N) (h : btw p 1 M) : ∃ q, 1 ≤ q ∧ q ≤ N ∧ p = nI q := by
  obtain ⟨q, hq, e⟩ := (btw_lit (M := M) (N := N) hM).mp ⟨Int32.le_trans (by decide) h.1, h.2⟩
  refine ⟨q, ?_, hq, e⟩
  rcases Nat.eq_zero_or_pos q with z | z
  · exfalso
    have h1 := h.1
    rw [e, z] at h1
    exact absurd h1 (by decide)
  · exact z
theorem kPeg_0 {g : Nat} {h : Int64} {q : Int32} (hk : kPeg g h q = 0) : oPeg h q ∧ ¬ g = 8 := by
  unfold kPeg at hk
  by_cases z : oPeg h q
  · rw [if_pos z] at hk
    by_cases z3 : g = 8
    · rw [if_pos z3] at hk; exact absurd hk (by decide)
    · exact ⟨z, z3⟩
  · rw [if_neg z] at hk; exact absurd hk (by decide)
theorem inv_peg {X X1 : XT} {s : SG} {q : Nat} {g : Nat} {p0 : Int64} {p1 : Int32} (h : INV X s q) (hg : s.1 19 0 = nI g) (hg8 : g ≤ 8) (hk : kPeg g p0 p1 = 0) (e1 : X1.2.1 = u2 X.2.1 16 g true) (e2 : X1.2.2.1 = u2 X.2.2.1 4 g true) : INV X1 (gPeg s g p0 p1) (q + 1) := by
  obtain ⟨a0, b0, c, g0, ns, n, i1, i2, i3, i4, i5, i6, i7, i8, i9⟩ := h
  obtain ⟨xa, xl, xs, xr⟩ := X1
  simp only at e1 e2
  subst e1
  subst e2
  have z_g : g = g0 := nI_inj (by omega) (by have := i4.2.1; omega) (hg.symm.trans i4.1)
  subst z_g
  obtain ⟨ho, hg88⟩ := kPeg_0 hk
  have e : ∀ k, k ∉ [19, 21, 22] → (gPeg s g p0 p1).1 k = s.1 k := by
    intro k hk
    simp only [List.mem_cons, List.not_mem_nil, or_false, not_or] at hk
    refine funext fun j => ?_
    simp [gPeg, sI, sJ, u2, hk]
  refine ⟨a0, b0, c, g + 1, ns, n, ?_, ?_, ?_, ?_, ?_, ?_, ?_, ?_, ?_⟩
  · rw [e 0 (by decide), e 1 (by decide), e 2 (by decide), e 3 (by decide)]; exact i1
  · rw [e 4 (by decide), e 5 (by decide), e 6 (by decide), e 7 (by decide), e 8 (by decide), e 39 (by decide), e 40 (by decide), e 41 (by decide)]; exact i2
  · rw [e 9 (by decide), e 10 (by decide), e 11 (by decide), e 13 (by decide)]; exact i3
  · obtain ⟨g1, g2, g3, g4, g5⟩ := i4
    refine ⟨by simp [gPeg, sI, u2], by omega, fun f hf => ?_, fun i hi => ?_, fun i hi => ?_⟩
    · show u2 X.2.2.1 4 g true 4 f = _
      by_cases z : f = g
      · subst z; rw [u2_s]; exact (decide_eq_true (by omega)).symm
      · rw [u2_k _ _ z, g3 f hf]; exact decide_eq_decide.mpr (by omega)
    · refine ⟨?_, ?_⟩
      · show u2 X.2.1 16 g true 16 i = false
        rw [u2_k _ _ (by omega)]; exact (g4 i (by omega)).1
      · show u2 s.2 20 g p0 23 i = 0
        rw [u2_n _ _ _ _ (by decide)]; exact (g4 i (by omega)).2
    · by_cases z : i = g
      · subst z
        obtain ⟨x, x1, x2, x3⟩ := btw1 (M := 100) (N := 100) rfl ho.2
        exact ⟨x, x1, x2, by rw [← x3]; simp [gPeg, sI, sJ, u2]⟩
      · obtain ⟨x, x1, x2, x3⟩ := g5 i (by omega)
        exact ⟨x, x1, x2, by rw [← x3]; simp [gPeg, sI, sJ, u2, z]⟩
  · rw [e 28 (by decide), e 29 (by decide), e 30 (by decide), e 31 (by decide), e 32 (by decide), e 33 (by decide), e 34 (by decide), e 35 (by decide), e 36 (by decide), e 37 (by decide)]; exact i5
  · rw [e 34 (by decide), e 35 (by decide), e 36 (by decide), e 44 (by decide), e 45 (by decide)]; exact ⟨i6.1, by have := i6.2.1; omega, i6.2.2⟩
  · rw [e 24 (by decide), e 25 (by decide), e 26 (by decide)]; exact i7
  · rw [e 27 (by decide)]; exact i8
  · exact i9.add (by decide)
theorem shr_2 (s : SG) (f : Int64) (g : Nat) (k j : Nat) (h : k ≠ 23 ∨ g ≤ j) : (shr s f g).2 k j = s.2 k j := by
  show (shr2 s f g).2 k j = _
  have hp : (shP s f (alF s g) g).2 k j = s.2 k j := by
    show (if k = 23 ∧ j < g ∧ ¬ s.1 22 j = 0 then _ else s.2 k j) = _
    rw [if_neg (fun z => by omega)]
  unfold shr2
  cases hl : lowA s g with
  | none => exact hp
  | some i =>
    have hi := (lowA_lt s g i hl).1
    show u2 (shP s f (alF s g) g).2 23 i _ k j = _
    rw [u2, if_neg (fun z => by omega)]
    exact hp
theorem gus_k (f : Int64) (g : Nat) : ∀ n (s : SG) (k : Nat), k ≠ 22 → (gusF s f g n).1.1 k = s.1 k := by
  intro n
  induction n with
  | zero => intro s k _; rfl
  | succ n ih =>
    intro s k hk
    rw [gusF]
    split
    · exact shr_k s f g hk
    · show (gusF (shr s f g) f g n).1.1 k = _
      rw [ih _ k hk]; exact shr_k s f g hk
theorem gus_2 (f : Int64) (g : Nat) : ∀ n (s : SG) (k j : Nat), (k ≠ 23 ∨ g ≤ j) → (gusF s f g n).1.2 k j = s.2 k j := by
  intro n
  induction n with
  | zero => intro s k j _; rfl
  | succ n ih =>
    intro s k j hk
    rw [gusF]
    split
    · exact shr_2 s f g k j hk
    · show (gusF (shr s f g) f g n).1.2 k j = _
      rw [ih _ k j hk]; exact shr_2 s f g k j hk
theorem inv_gust {X X1 : XT} {s : SG} {q : Nat} {g : Nat} {p0 : Int64} (h : INV X s q) (hg : s.1 19 0 = nI g) (hg8 : g ≤ 8) (e1 : X1.2.1 = X.2.1) (e2 : X1.2.2.1 = X.2.2.1) : INV X1 ((gusF s p0 g 9).1) (q + 1) := by
  obtain ⟨a0, b0, c, g0, ns, n, i1, i2, i3, i4, i5, i6, i7, i8, i9⟩ := h
  obtain ⟨xa, xl, xs, xr⟩ := X1
  simp only at e1 e2
  subst e1
  subst e2
  have z_g : g = g0 := nI_inj (by omega) (by have := i4.2.1; omega) (hg.symm.trans i4.1)
  subst z_g
  have e : ∀ k, k ∉ [22] → ((gusF s p0 g 9).1).1 k = s.1 k := by
    intro k hk
    simp only [List.mem_cons, List.not_mem_nil, or_false, not_or] at hk
    exact gus_k p0 g 9 s k hk
  refine ⟨a0, b0, c, g, ns, n, ?_, ?_, ?_, ?_, ?_, ?_, ?_, ?_, ?_⟩
  · rw [e 0 (by decide), e 1 (by decide), e 2 (by decide), e 3 (by decide)]; exact i1
  · rw [e 4 (by decide), e 5 (by decide), e 6 (by decide), e 7 (by decide), e 8 (by decide), e 39 (by decide), e 40 (by decide), e 41 (by decide)]; exact i2
  · rw [e 9 (by decide), e 10 (by decide), e 11 (by decide), e 13 (by decide)]; exact i3
  · obtain ⟨g1, g2, g3, g4, g5⟩ := i4
    rw [e 19 (by decide), e 21 (by decide)]
    exact ⟨g1, g2, g3, fun i hi => ⟨(g4 i hi).1, by rw [gus_2 p0 g 9 s 23 i (Or.inr hi)]; exact (g4 i hi).2⟩, g5⟩
  · rw [e 28 (by decide), e 29 (by decide), e 30 (by decide), e 31 (by decide), e 32 (by decide), e 33 (by decide), e 34 (by decide), e 35 (by decide), e 36 (by decide), e 37 (by decide)]; exact i5
  · rw [e 34 (by decide), e 35 (by decide), e 36 (by decide), e 44 (by decide), e 45 (by decide)]; exact ⟨i6.1, by have := i6.2.1; omega, i6.2.2⟩
  · rw [e 24 (by decide), e 25 (by decide), e 26 (by decide)]; exact i7
  · rw [e 27 (by decide)]; exact i8
  · exact i9
theorem inv_trim {X X1 : XT} {s : SG} {q : Nat} {p0 p1 p2 : Int32} (h : INV X s q) (hk : kTrim p0 p1 p2 = 0) (e1 : X1.2.1 = X.2.1) (e2 : X1.2.2.1 = X.2.2.1) : INV X1 (gTrim s p0 p1 p2) (q + 1) := by
  obtain ⟨a0, b, c, g, ns, n, i1, i2, i3, i4, i5, i6, i7, i8, i9⟩ := h
  obtain ⟨xa, xl, xs, xr⟩ := X1
  simp only at e1 e2
  subst e1
  subst e2
  have e : ∀ k, k ∉ [24, 25, 26] → (gTrim s p0 p1 p2).1 k = s.1 k := by
    intro k hk
    simp only [List.mem_cons, List.not_mem_nil, or_false, not_or] at hk
    refine funext fun j => ?_
    simp [gTrim, sI, sJ, u2, hk]
  refine ⟨a0, b, c, g, ns, n, ?_, ?_, ?_, ?_, ?_, ?_, ?_, ?_, ?_⟩
  · rw [e 0 (by decide), e 1 (by decide), e 2 (by decide), e 3 (by decide)]; exact i1
  · rw [e 4 (by decide), e 5 (by decide), e 6 (by decide), e 7 (by decide), e 8 (by decide), e 39 (by decide), e 40 (by decide), e 41 (by decide)]; exact i2
  · rw [e 9 (by decide), e 10 (by decide), e 11 (by decide), e 13 (by decide)]; exact i3
  · rw [e 19 (by decide), e 21 (by decide)]; exact i4
  · rw [e 28 (by decide), e 29 (by decide), e 30 (by decide), e 31 (by decide), e 32 (by decide), e 33 (by decide), e 34 (by decide), e 35 (by decide), e 36 (by decide), e 37 (by decide)]; exact i5
  · rw [e 34 (by decide), e 35 (by decide), e 36 (by decide), e 44 (by decide), e 45 (by decide)]; exact ⟨i6.1, by have := i6.2.1; omega, i6.2.2⟩
  · unfold kTrim at hk
    by_cases z : oTrim p0 p1 p2
    · obtain ⟨x, hx, ex⟩ := (btw_lit (M := 100) (N := 100) rfl).mp z.1
      obtain ⟨y, hy, ey⟩ := (btw_lit (M := 100) (N := 100) rfl).mp z.2.1
      obtain ⟨w, hw, ew⟩ := (btw_lit (M := 3) (N := 3) rfl).mp z.2.2
      exact ⟨x, y, w, by rw [← ex]; simp [gTrim, sI, u2], by rw [← ey]; simp [gTrim, sI, u2], by rw [← ew]; simp [gTrim, sI, u2], by omega, by omega, by omega⟩
    · rw [if_neg z] at hk; exact absurd hk (by decide)
  · rw [e 27 (by decide)]; exact i8
  · exact i9
theorem inv_pass {X X1 : XT} {s : SG} {q : Nat} {p0 : Int32} (h : INV X s q) (hk : kPass s p0 = 0) (e1 : X1.2.1 = X.2.1) (e2 : X1.2.2.1 = X.2.2.1) : INV X1 (sI s 27 0 (s.1 27 0 + p0)) (q + 1) := by
  obtain ⟨a0, b, c, g, ns, n, i1, i2, i3, i4, i5, i6, i7, i8, i9⟩ := h
  obtain ⟨xa, xl, xs, xr⟩ := X1
  simp only at e1 e2
  subst e1
  subst e2
  have e : ∀ k, k ∉ [27] → (sI s 27 0 (s.1 27 0 + p0)).1 k = s.1 k := by
    intro k hk
    simp only [List.mem_cons, List.not_mem_nil, or_false, not_or] at hk
    refine funext fun j => ?_
    simp [u2, sI, sJ, u2, hk]
  refine ⟨a0, b, c, g, ns, n, ?_, ?_, ?_, ?_, ?_, ?_, ?_, ?_, ?_⟩
  · rw [e 0 (by decide), e 1 (by decide), e 2 (by decide), e 3 (by decide)]; exact i1
  · rw [e 4 (by decide), e 5 (by decide), e 6 (by decide), e 7 (by decide), e 8 (by decide), e 39 (by decide), e 40 (by decide), e 41 (by decide)]; exact i2
  · rw [e 9 (by decide), e 10 (by decide), e 11 (by decide), e 13 (by decide)]; exact i3
  · rw [e 19 (by decide), e 21 (by decide)]; exact i4
  · rw [e 28 (by decide), e 29 (by decide), e 30 (by decide), e 31 (by decide), e 32 (by decide), e 33 (by decide), e 34 (by decide), e 35 (by decide), e 36 (by decide), e 37 (by decide)]; exact i5
  · rw [e 34 (by decide), e 35 (by decide), e 36 (by decide), e 44 (by decide), e 45 (by decide)]; exact ⟨i6.1, by have := i6.2.1; omega, i6.2.2⟩
  · rw [e 24 (by decide), e 25 (by decide), e 26 (by decide)]; exact i7
  · rw [sI_s]
    unfold kPass at hk
    by_cases z : btw p0 1 400
    · rw [if_pos z] at hk
      by_cases z2 : s.1 27 0 + p0 ≤ 100000
      · refine ⟨?_, z2⟩
        obtain ⟨a1, a2⟩ := i8
        obtain ⟨b1, b2⟩ := z
        rw [Int32.le_iff_toInt_le] at a1 a2 b1 b2 ⊢
        have e0 : (0 : Int32).toInt = 0 := rfl
        have e3 : (100000 : Int32).toInt = 100000 := rfl
        have e4 : (1 : Int32).toInt = 1 := rfl
        have e5 : (400 : Int32).toInt = 400 := rfl
        rw [e0] at a1 ⊢; rw [e3] at a2; rw [e4] at b1; rw [e5] at b2
        rw [Int32.toInt_add, Int.bmod_eq_of_le (by omega) (by omega)]
        omega
      · rw [if_neg z2] at hk; exact absurd hk (by decide)
    · rw [if_neg z] at hk; exact absurd hk (by decide)
  · exact i9
theorem lg_none {r : Nat → Int32} {v : Int32} : ∀ n, (∀ k, k < n → ¬ r k = v) → lgG r v n = 0 := by
  intro n
  induction n with
  | zero => intro _; rfl
  | succ n ih =>
    intro h
    rw [lgG, ih (fun k hk => h k (by omega)), if_neg (h n (by omega))]
theorem lg_up {r r' : Nat → Int32} {v x : Int32} {n : Nat} (h : ∀ k, r' k = if k = n then x else r k) : lgG r' v (n + 1) = lgG r v n + if x = v then 1 else 0 := by
  have h1 : ∀ m, m ≤ n → lgG r' v m = lgG r v m := by
    intro m
    induction m with
    | zero => intro _; rfl
    | succ m ih =>
      intro hm
      have hm9 : ¬ m = n := by omega
      rw [lgG, lgG, ih (by omega), h m, if_neg hm9]
  rw [lgG, h1 n (Nat.le_refl n), h n, if_pos rfl]
theorem iLog_note {r34 r35 r36 r44 r45 r34' r35' r36' r44' r45' : Nat → Int32} {c n q j e : Nat} (h : iLog r34 r35 r36 r44 r45 c n q) (hc : c ≤ 6) (hj : j < c) (he : e = 3 ∨ e = 4 ∨ e = 5) (h45 : r45' 0 = nI (n + 1)) (h44 : ∀ k, r44' k = if k = n then nI (8 * j + e) else r44 k) (h34 : ∀ i, r34' i = if i = j ∧ e = 3 then r34 i + 1 else r34 i) (h35 : ∀ i, r35' i = if i = j ∧ e = 4 then r35 i + 1 else r35 i) (h36 : ∀ i, r36' i = if i = j ∧ e = 5 then r36 i + 1 else r36 i) : iLog r34' r35' r36' r44' r45' c (n + 1) (q + 1) := by
  obtain ⟨g1, g2, g3, g4⟩ := h
  have key : ∀ (r r' : Nat → Int32) (f : Nat), f < 8 → (∀ i, r' i = if i = j ∧ e = f then r i + 1 else r i) → ∀ i, i < c → r i = nI (lgG r44 (nI (8 * i + f)) n) → r' i = nI (lgG r44' (nI (8 * i + f)) (n + 1)) := fun r r' f hf hr i hi hv => by
    rw [lg_up h44, hr i]
    by_cases z : i = j ∧ e = f
    · rw [if_pos z, if_pos (by rw [z.1, z.2]), hv, nI_1]
    · rw [if_neg z, if_neg (fun y => z (by have := nI_inj (by omega) (by omega) y; omega)), hv, Nat.add_zero]
  refine ⟨h45, by omega, fun i hi => ?_, fun k hk => ?_⟩
  · obtain ⟨z1, z2, z3⟩ := g3 i hi
    exact ⟨key r34 r34' 3 (by decide) h34 i hi z1, key r35 r35' 4 (by decide) h35 i hi z2, key r36 r36' 5 (by decide) h36 i hi z3⟩
  · rw [h44 k]
    by_cases z : k = n
    · exact ⟨j, e, hj, by omega, if_pos z⟩
    · rw [if_neg z]; exact g4 k (by omega)
theorem kCan_0 {a c : Nat} {p0 : Int32} (h : kCan a c p0 = 0) (ha : a ≤ 6) : (∃ x, x < a ∧ p0 = nI x) ∧ ¬ c = 6 := by
  unfold kCan at h
  by_cases z : btw p0 0 (nI a - 1)
  · rw [if_pos z] at h
    by_cases z3 : c = 6
    · rw [if_pos z3] at h; exact absurd h (by decide)
    · exact ⟨(btw_ix (a := a) (by omega)).mp z, z3⟩
  · rw [if_neg z] at h; exact absurd h (by decide)
theorem inv_canopy {X X1 : XT} {s : SG} {q : Nat} {a c : Nat} {p0 : Int32} (h : INV X s q) (ha : s.1 0 0 = nI a) (ha6 : a ≤ 6) (hc : s.1 28 0 = nI c) (hc2 : c ≤ 6) (hk : kCan a c p0 = 0) (e1 : X1.2.1 = u2 (u2 X.2.1 18 c true) 17 c true) (e2 : X1.2.2.1 = u2 X.2.2.1 5 c true) : INV X1 (gCan s c p0) (q + 1) := by
  obtain ⟨a0, b, c0, g, ns, n, i1, i2, i3, i4, i5, i6, i7, i8, i9⟩ := h
  obtain ⟨xa, xl, xs, xr⟩ := X1
  simp only at e1 e2
  subst e1
  subst e2
  have ea : a = a0 := (nI_inj (by have := i1.2.1; omega) (by omega) (i1.1.symm.trans ha)).symm
  subst ea
  have z_c : c = c0 := nI_inj (by omega) (by have := i5.2.1; omega) (hc.symm.trans i5.1)
  subst z_c
  obtain ⟨⟨x, hx, ex⟩, hc66⟩ := kCan_0 hk ha6
  have e : ∀ k, k ∉ [28, 29, 32, 33] → (gCan s c p0).1 k = s.1 k := by
    intro k hk
    simp only [List.mem_cons, List.not_mem_nil, or_false, not_or] at hk
    refine funext fun j => ?_
    simp [gCan, sI, sJ, u2, hk]
  refine ⟨a, b, c + 1, g, ns, n, ?_, ?_, ?_, ?_, ?_, ?_, ?_, ?_, ?_⟩
  · rw [e 0 (by decide), e 1 (by decide), e 2 (by decide), e 3 (by decide)]; exact i1
  · rw [e 4 (by decide), e 5 (by decide), e 6 (by decide), e 7 (by decide), e 8 (by decide), e 39 (by decide), e 40 (by decide), e 41 (by decide)]; exact i2
  · rw [e 9 (by decide), e 10 (by decide), e 11 (by decide), e 13 (by decide)]; exact i3
  · rw [e 19 (by decide), e 21 (by decide)]; exact i4
  · obtain ⟨g1, g2, g3, g4, g5, g6⟩ := i5
    rw [e 30 (by decide), e 31 (by decide), e 34 (by decide), e 35 (by decide), e 36 (by decide), e 37 (by decide)]
    refine ⟨by simp [gCan, sI, u2], by omega, fun f hf => ?_, fun i hi => ?_, fun i hi => ?_, fun i hi => ?_⟩
    · show u2 X.2.2.1 5 c true 5 f = _
      by_cases z : f = c
      · subst z; rw [u2_s]; exact (decide_eq_true (by omega)).symm
      · rw [u2_k _ _ z, g3 f hf]; exact decide_eq_decide.mpr (by omega)
    · refine ⟨?_, ?_, (g4 i (by omega)).2.2⟩
      · show u2 (u2 X.2.1 18 c true) 17 c true 17 i = false
        rw [u2_k _ _ (by omega), u2_n _ _ _ _ (by decide)]; exact (g4 i (by omega)).1
      · show u2 (u2 X.2.1 18 c true) 17 c true 18 i = false
        rw [u2_n _ _ _ _ (by decide), u2_k _ _ (by omega)]; exact (g4 i (by omega)).2.1
    · by_cases z : i = c
      · subst z; exact ⟨0, x, by omega, (g4 i (by omega)).2.2.1, hx, by rw [← ex]; simp [gCan, sI, u2]⟩
      · obtain ⟨p, l, z1, z2, z3, z4⟩ := g5 i (by omega)
        exact ⟨p, l, z1, z2, z3, by rw [← z4]; simp [gCan, sI, u2, z]⟩
    · by_cases z : i = c
      · subst z; simp [gCan, sI, u2]
      · have z5 := g6 i (by omega)
        rw [show (gCan s c p0).1 32 i = s.1 32 i by simp [gCan, sI, u2, z], show (gCan s c p0).1 33 i = s.1 33 i by simp [gCan, sI, u2, z]]
        exact z5
  · rw [e 34 (by decide), e 35 (by decide), e 36 (by decide), e 44 (by decide), e 45 (by decide)]
    obtain ⟨g1, g2, g3, g4⟩ := i6
    refine ⟨g1, by omega, fun i hi => ?_, fun k hk => ?_⟩
    · by_cases z : i = c
      · subst z
        obtain ⟨z1, z2, z3, z4, z5, z6, z7, z8⟩ := i5.2.2.2.1 i (by omega)
        have hz : ∀ f, f < 8 → lgG (s.1 44) (nI (8 * i + f)) n = 0 := fun f hf => lg_none n (fun k hk => by obtain ⟨j, e, y1, y2, y3⟩ := g4 k hk; rw [y3]; exact fun y => by have := nI_inj (by omega) (by omega) y; omega)
        rw [hz 3 (by decide), hz 4 (by decide), hz 5 (by decide)]
        exact ⟨z4, z5, z6⟩
      · exact g3 i (by omega)
    · obtain ⟨j, e, y1, y2, y3⟩ := g4 k hk
      exact ⟨j, e, by omega, y2, y3⟩
  · rw [e 24 (by decide), e 25 (by decide), e 26 (by decide)]; exact i7
  · rw [e 27 (by decide)]; exact i8
  · intro d i hd hl
    have hl9 : u2 (u2 X.2.1 18 c true) 17 c true d i = true := hl
    rw [u2, if_neg (fun z => by omega), u2, if_neg (fun z => by omega)] at hl9
    exact i9 d i hd hl9
theorem kPart_0 {s : SG} {c : Nat} {p0 p1 : Int32} (h : kPart s c p0 p1 = 0) (hc : c ≤ 6) : (∃ x, x < c ∧ p0 = nI x) ∧ ¬ s.1 30 (nat p0) = 8 := by
  unfold kPart at h
  by_cases z : btw p0 0 (nI c - 1)
  · rw [if_pos z] at h
    refine ⟨(btw_ix (a := c) (by omega)).mp z, fun y => ?_⟩
    by_cases z2 : btw p1 0 255
    · rw [if_pos z2, if_pos (Or.inl y)] at h; exact absurd h (by decide)
    · rw [if_neg z2] at h; exact absurd h (by decide)
  · rw [if_neg z] at h; exact absurd h (by decide)
theorem inv_part {X X1 : XT} {s : SG} {q : Nat} {c : Nat} {p0 p1 : Int32} (h : INV X s q) (hc : s.1 28 0 = nI c) (hc2 : c ≤ 6) (hk : kPart s c p0 p1 = 0) (e1 : X1.2.1 = X.2.1) (e2 : X1.2.2.1 = X.2.2.1) : INV X1 (gPart s (nat p0) (nat (s.1 30 (nat p0))) p1) (q + 1) := by
  obtain ⟨a0, b, c0, g, ns, n, i1, i2, i3, i4, i5, i6, i7, i8, i9⟩ := h
  obtain ⟨xa, xl, xs, xr⟩ := X1
  simp only at e1 e2
  subst e1
  subst e2
  have z_c : c = c0 := nI_inj (by omega) (by have := i5.2.1; omega) (hc.symm.trans i5.1)
  subst z_c
  obtain ⟨⟨j, hj, ej⟩, h8⟩ := kPart_0 hk hc2
  have en : nat p0 = j := by rw [ej]; exact nat_nI (by omega)
  have e : ∀ k, k ∉ [30, 31] → (gPart s (nat p0) (nat (s.1 30 (nat p0))) p1).1 k = s.1 k := by
    intro k hk
    simp only [List.mem_cons, List.not_mem_nil, or_false, not_or] at hk
    refine funext fun j => ?_
    simp [gPart, sI, sJ, u2, hk]
  refine ⟨a0, b, c, g, ns, n, ?_, ?_, ?_, ?_, ?_, ?_, ?_, ?_, ?_⟩
  · rw [e 0 (by decide), e 1 (by decide), e 2 (by decide), e 3 (by decide)]; exact i1
  · rw [e 4 (by decide), e 5 (by decide), e 6 (by decide), e 7 (by decide), e 8 (by decide), e 39 (by decide), e 40 (by decide), e 41 (by decide)]; exact i2
  · rw [e 9 (by decide), e 10 (by decide), e 11 (by decide), e 13 (by decide)]; exact i3
  · rw [e 19 (by decide), e 21 (by decide)]; exact i4
  · obtain ⟨g1, g2, g3, g4, g5, g6⟩ := i5
    rw [e 28 (by decide), e 29 (by decide), e 32 (by decide), e 33 (by decide), e 34 (by decide), e 35 (by decide), e 36 (by decide), e 37 (by decide)]
    obtain ⟨p, l, y1, y2, y3, y4⟩ := g5 j hj
    rw [en] at h8 ⊢
    have ep : nat (s.1 30 j) = p := by rw [y2]; exact nat_nI (by omega)
    rw [ep]
    have hp8 : p < 8 := by
      rcases Nat.lt_or_ge p 8 with z | z
      · exact z
      · exact absurd (show s.1 30 j = 8 by rw [y2, show p = 8 by omega]; rfl) h8
    refine ⟨g1, g2, g3, fun i hi => ?_, fun i hi => ?_, g6⟩
    · obtain ⟨z1, z2, z3, z4, z5, z6, z7, z8⟩ := g4 i hi
      refine ⟨z1, z2, ?_, z4, z5, z6, z7, fun f hf => ?_⟩
      · rw [show (gPart s j p p1).1 30 i = s.1 30 i by simp [gPart, sI, u2, show ¬ i = j by omega]]; exact z3
      · rw [show (gPart s j p p1).1 31 (8 * i + f) = s.1 31 (8 * i + f) by simp [gPart, sI, u2, show ¬ 8 * i + f = 8 * j + p by omega]]; exact z8 f hf
    · by_cases z : i = j
      · subst z; exact ⟨p + 1, l, by omega, by simp [gPart, sI, u2], y3, y4⟩
      · obtain ⟨p9, l9, w1, w2, w3, w4⟩ := g5 i hi
        exact ⟨p9, l9, w1, by rw [← w2]; simp [gPart, sI, u2, z], w3, w4⟩
  · rw [e 34 (by decide), e 35 (by decide), e 36 (by decide), e 44 (by decide), e 45 (by decide)]; exact ⟨i6.1, by have := i6.2.1; omega, i6.2.2⟩
  · rw [e 24 (by decide), e 25 (by decide), e 26 (by decide)]; exact i7
  · rw [e 27 (by decide)]; exact i8
  · exact i9
theorem kSeal_0 {s : SG} {c : Nat} {p0 p1 : Int32} (h : kSeal s c p0 p1 = 0) (hc : c ≤ 6) : (∃ x, x < c ∧ p0 = nI x) ∧ btw p1 0 4 := by
  unfold kSeal at h
  by_cases z : btw p0 0 (nI c - 1) ∧ btw p1 0 4
  · exact ⟨(btw_ix (a := c) (by omega)).mp z.1, z.2⟩
  · rw [if_neg z] at h; exact absurd h (by decide)
theorem kUse_0 {s : SG} {c : Nat} {p0 : Int32} (h : kUse s c p0 = 0) (hc : c ≤ 6) : ∃ x, x < c ∧ p0 = nI x := by
  unfold kUse at h
  by_cases z : btw p0 0 (nI c - 1)
  · exact (btw_ix (a := c) (by omega)).mp z
  · rw [if_neg z] at h; exact absurd h (by decide)
theorem kWet_0 {s : SG} {c : Nat} {p0 : Int32} (h : kWet s c p0 = 0) (hc : c ≤ 6) : ∃ x, x < c ∧ p0 = nI x := by
  unfold kWet at h
  by_cases z : btw p0 0 (nI c - 1)
  · exact (btw_ix (a := c) (by omega)).mp z
  · rw [if_neg z] at h; exact absurd h (by decide)
theorem neg1 {x : Int32} (h : 0 ≤ x) : ¬ x = -1 := fun e => by rw [e] at h; exact absurd h (by decide)
theorem inv_seal {X X1 : XT} {s : SG} {q j : Nat} {p0 : Int32} {c n : Nat} {p1 : Int32} (h : INV X s q) (hc : s.1 28 0 = nI c) (hc2 : c ≤ 6) (hn : s.1 45 0 = nI n) (hn5 : n ≤ 512) (hq : q ≤ 512) (hj : j < c) (hp : btw p1 0 4) (e1 : X1.2.1 = X.2.1) (e2 : X1.2.2.1 = X.2.2.1) : INV X1 (noteS (gSeal s j p1) j 3 n) (q + 1) := by
  obtain ⟨a0, b, c0, g, ns, n0, i1, i2, i3, i4, i5, i6, i7, i8, i9⟩ := h
  obtain ⟨xa, xl, xs, xr⟩ := X1
  simp only at e1 e2
  subst e1
  subst e2
  have z_c : c = c0 := nI_inj (by omega) (by have := i5.2.1; omega) (hc.symm.trans i5.1)
  subst z_c
  have z_n : n = n0 := nI_inj (by omega) (by have := i6.2.1; omega) (hn.symm.trans i6.1)
  subst z_n
  have e : ∀ k, k ∉ [32, 33, 34, 44, 45] → (noteS (gSeal s j p1) j 3 n).1 k = s.1 k := by
    intro k hk
    simp only [List.mem_cons, List.not_mem_nil, or_false, not_or] at hk
    refine funext fun j => ?_
    simp [gSeal, noteS, sI, sJ, u2, hk]
  refine ⟨a0, b, c, g, ns, n + 1, ?_, ?_, ?_, ?_, ?_, ?_, ?_, ?_, ?_⟩
  · rw [e 0 (by decide), e 1 (by decide), e 2 (by decide), e 3 (by decide)]; exact i1
  · rw [e 4 (by decide), e 5 (by decide), e 6 (by decide), e 7 (by decide), e 8 (by decide), e 39 (by decide), e 40 (by decide), e 41 (by decide)]; exact i2
  · rw [e 9 (by decide), e 10 (by decide), e 11 (by decide), e 13 (by decide)]; exact i3
  · rw [e 19 (by decide), e 21 (by decide)]; exact i4
  · obtain ⟨g1, g2, g3, g4, g5, g6⟩ := i5
    rw [e 28 (by decide), e 29 (by decide), e 30 (by decide), e 31 (by decide), e 35 (by decide), e 36 (by decide), e 37 (by decide)]
    refine ⟨g1, g2, g3, fun i hi => ?_, g5, fun i hi => ?_⟩
    · obtain ⟨z1, z2, z3, z4, z5, z6, z7, z8⟩ := g4 i hi
      exact ⟨z1, z2, z3, by rw [show (noteS (gSeal s j p1) j 3 n).1 34 i = s.1 34 i by simp [gSeal, noteS, sI, u2, show ¬ i = j by omega]]; exact z4, z5, z6, z7, z8⟩
    · by_cases z : i = j
      · subst z
        rw [show (noteS (gSeal s i p1) i 3 n).1 32 i = p1 by simp [gSeal, noteS, sI, u2], show (noteS (gSeal s i p1) i 3 n).1 33 i = s.1 27 0 by simp [gSeal, noteS, sI, u2]]
        exact ⟨fun y => absurd y (neg1 hp.1), fun y => absurd y (neg1 i8.1)⟩
      · rw [show (noteS (gSeal s j p1) j 3 n).1 32 i = s.1 32 i by simp [gSeal, noteS, sI, u2, z], show (noteS (gSeal s j p1) j 3 n).1 33 i = s.1 33 i by simp [gSeal, noteS, sI, u2, z]]; exact g6 i hi
  · refine iLog_note (j := j) (e := 3) i6 hc2 hj (by decide) (by simp [noteS, sI, u2]) (fun k => ?_) (fun i => ?_) (fun i => ?_) (fun i => ?_)
    · by_cases z : k = n <;> simp [gSeal, noteS, sI, u2, z]
    · by_cases z : i = j <;> simp [gSeal, noteS, sI, u2, z]
    · by_cases z : i = j <;> simp [gSeal, noteS, sI, u2, z]
    · by_cases z : i = j <;> simp [gSeal, noteS, sI, u2, z]
  · rw [e 24 (by decide), e 25 (by decide), e 26 (by decide)]; exact i7
  · rw [e 27 (by decide)]; exact i8
  · exact i9
theorem inv_use {X X1 : XT} {s : SG} {q j : Nat} {p0 : Int32} {c n : Nat}  (h : INV X s q) (hc : s.1 28 0 = nI c) (hc2 : c ≤ 6) (hn : s.1 45 0 = nI n) (hn5 : n ≤ 512) (hq : q ≤ 512) (hj : j < c) (e1 : X1.2.1 = X.2.1) (e2 : X1.2.2.1 = X.2.2.1) : INV X1 (noteS (gUse s j) j 4 n) (q + 1) := by
  obtain ⟨a0, b, c0, g, ns, n0, i1, i2, i3, i4, i5, i6, i7, i8, i9⟩ := h
  obtain ⟨xa, xl, xs, xr⟩ := X1
  simp only at e1 e2
  subst e1
  subst e2
  have z_c : c = c0 := nI_inj (by omega) (by have := i5.2.1; omega) (hc.symm.trans i5.1)
  subst z_c
  have z_n : n = n0 := nI_inj (by omega) (by have := i6.2.1; omega) (hn.symm.trans i6.1)
  subst z_n
  have e : ∀ k, k ∉ [32, 33, 35, 44, 45] → (noteS (gUse s j) j 4 n).1 k = s.1 k := by
    intro k hk
    simp only [List.mem_cons, List.not_mem_nil, or_false, not_or] at hk
    refine funext fun j => ?_
    simp [gUse, noteS, sI, sJ, u2, hk]
  refine ⟨a0, b, c, g, ns, n + 1, ?_, ?_, ?_, ?_, ?_, ?_, ?_, ?_, ?_⟩
  · rw [e 0 (by decide), e 1 (by decide), e 2 (by decide), e 3 (by decide)]; exact i1
  · rw [e 4 (by decide), e 5 (by decide), e 6 (by decide), e 7 (by decide), e 8 (by decide), e 39 (by decide), e 40 (by decide), e 41 (by decide)]; exact i2
  · rw [e 9 (by decide), e 10 (by decide), e 11 (by decide), e 13 (by decide)]; exact i3
  · rw [e 19 (by decide), e 21 (by decide)]; exact i4
  · obtain ⟨g1, g2, g3, g4, g5, g6⟩ := i5
    rw [e 28 (by decide), e 29 (by decide), e 30 (by decide), e 31 (by decide), e 34 (by decide), e 36 (by decide), e 37 (by decide)]
    refine ⟨g1, g2, g3, fun i hi => ?_, g5, fun i hi => ?_⟩
    · obtain ⟨z1, z2, z3, z4, z5, z6, z7, z8⟩ := g4 i hi
      exact ⟨z1, z2, z3, z4, by rw [show (noteS (gUse s j) j 4 n).1 35 i = s.1 35 i by simp [gUse, noteS, sI, u2, show ¬ i = j by omega]]; exact z5, z6, z7, z8⟩
    · by_cases z : i = j
      · subst z; simp [gUse, noteS, sI, u2]
      · rw [show (noteS (gUse s j) j 4 n).1 32 i = s.1 32 i by simp [gUse, noteS, sI, u2, z], show (noteS (gUse s j) j 4 n).1 33 i = s.1 33 i by simp [gUse, noteS, sI, u2, z]]; exact g6 i hi
  · refine iLog_note (j := j) (e := 4) i6 hc2 hj (by decide) (by simp [noteS, sI, u2]) (fun k => ?_) (fun i => ?_) (fun i => ?_) (fun i => ?_)
    · by_cases z : k = n <;> simp [gUse, noteS, sI, u2, z]
    · by_cases z : i = j <;> simp [gUse, noteS, sI, u2, z]
    · by_cases z : i = j <;> simp [gUse, noteS, sI, u2, z]
    · by_cases z : i = j <;> simp [gUse, noteS, sI, u2, z]
  · rw [e 24 (by decide), e 25 (by decide), e 26 (by decide)]; exact i7
  · rw [e 27 (by decide)]; exact i8
  · exact i9
theorem inv_wet {X X1 : XT} {s : SG} {q j : Nat} {p0 : Int32} {c n : Nat} {p1 : Int32} (h : INV X s q) (hc : s.1 28 0 = nI c) (hc2 : c ≤ 6) (hn : s.1 45 0 = nI n) (hn5 : n ≤ 512) (hq : q ≤ 512) (hj : j < c) (hp : p1 = 0) (e1 : X1.2.1 = X.2.1) (e2 : X1.2.2.1 = X.2.2.1) : INV X1 (noteS (gWet s j p1) j 5 n) (q + 1) := by
  obtain ⟨a0, b, c0, g, ns, n0, i1, i2, i3, i4, i5, i6, i7, i8, i9⟩ := h
  obtain ⟨xa, xl, xs, xr⟩ := X1
  simp only at e1 e2
  subst e1
  subst e2
  have z_c : c = c0 := nI_inj (by omega) (by have := i5.2.1; omega) (hc.symm.trans i5.1)
  subst z_c
  have z_n : n = n0 := nI_inj (by omega) (by have := i6.2.1; omega) (hn.symm.trans i6.1)
  subst z_n
  have e : ∀ k, k ∉ [36, 37, 44, 45] → (noteS (gWet s j p1) j 5 n).1 k = s.1 k := by
    intro k hk
    simp only [List.mem_cons, List.not_mem_nil, or_false, not_or] at hk
    refine funext fun j => ?_
    simp [gWet, noteS, sI, sJ, u2, hk]
  refine ⟨a0, b, c, g, ns, n + 1, ?_, ?_, ?_, ?_, ?_, ?_, ?_, ?_, ?_⟩
  · rw [e 0 (by decide), e 1 (by decide), e 2 (by decide), e 3 (by decide)]; exact i1
  · rw [e 4 (by decide), e 5 (by decide), e 6 (by decide), e 7 (by decide), e 8 (by decide), e 39 (by decide), e 40 (by decide), e 41 (by decide)]; exact i2
  · rw [e 9 (by decide), e 10 (by decide), e 11 (by decide), e 13 (by decide)]; exact i3
  · rw [e 19 (by decide), e 21 (by decide)]; exact i4
  · obtain ⟨g1, g2, g3, g4, g5, g6⟩ := i5
    rw [e 28 (by decide), e 29 (by decide), e 30 (by decide), e 31 (by decide), e 32 (by decide), e 33 (by decide), e 34 (by decide), e 35 (by decide)]
    refine ⟨g1, g2, g3, fun i hi => ?_, g5, fun i hi => ?_⟩
    · obtain ⟨z1, z2, z3, z4, z5, z6, z7, z8⟩ := g4 i hi
      exact ⟨z1, z2, z3, z4, z5, by rw [show (noteS (gWet s j p1) j 5 n).1 36 i = s.1 36 i by simp [gWet, noteS, sI, u2, show ¬ i = j by omega]]; exact z6, by rw [show (noteS (gWet s j p1) j 5 n).1 37 i = s.1 37 i by simp [gWet, noteS, sI, u2, show ¬ i = j by omega]]; exact z7, z8⟩
    · exact g6 i hi
  · refine iLog_note (j := j) (e := 5) i6 hc2 hj (by decide) (by simp [noteS, sI, u2]) (fun k => ?_) (fun i => ?_) (fun i => ?_) (fun i => ?_)
    · by_cases z : k = n <;> simp [gWet, noteS, sI, u2, z, hp]
    · by_cases z : i = j <;> simp [gWet, noteS, sI, u2, z, hp]
    · by_cases z : i = j <;> simp [gWet, noteS, sI, u2, z, hp]
    · by_cases z : i = j <;> simp [gWet, noteS, sI, u2, z, hp]
  · rw [e 24 (by decide), e 25 (by decide), e 26 (by decide)]; exact i7
  · rw [e 27 (by decide)]; exact i8
  · exact i9
theorem inv_air {X X1 : XT} {s : SG} {q : Nat} {c j : Nat} (h : INV X s q) (hc : s.1 28 0 = nI c) (hc2 : c ≤ 6) (hj : j < c) (e1 : X1.2.1 = X.2.1) (e2 : X1.2.2.1 = X.2.2.1) : INV X1 (sI s 37 j 0) (q + 1) := by
  obtain ⟨a0, b, c0, g, ns, n, i1, i2, i3, i4, i5, i6, i7, i8, i9⟩ := h
  obtain ⟨xa, xl, xs, xr⟩ := X1
  simp only at e1 e2
  subst e1
  subst e2
  have z_c : c = c0 := nI_inj (by omega) (by have := i5.2.1; omega) (hc.symm.trans i5.1)
  subst z_c
  have e : ∀ k, k ∉ [37] → (sI s 37 j 0).1 k = s.1 k := by
    intro k hk
    simp only [List.mem_cons, List.not_mem_nil, or_false, not_or] at hk
    refine funext fun j => ?_
    simp [u2, sI, sJ, u2, hk]
  refine ⟨a0, b, c, g, ns, n, ?_, ?_, ?_, ?_, ?_, ?_, ?_, ?_, ?_⟩
  · rw [e 0 (by decide), e 1 (by decide), e 2 (by decide), e 3 (by decide)]; exact i1
  · rw [e 4 (by decide), e 5 (by decide), e 6 (by decide), e 7 (by decide), e 8 (by decide), e 39 (by decide), e 40 (by decide), e 41 (by decide)]; exact i2
  · rw [e 9 (by decide), e 10 (by decide), e 11 (by decide), e 13 (by decide)]; exact i3
  · rw [e 19 (by decide), e 21 (by decide)]; exact i4
  · obtain ⟨g1, g2, g3, g4, g5, g6⟩ := i5
    rw [e 28 (by decide), e 29 (by decide), e 30 (by decide), e 31 (by decide), e 32 (by decide), e 33 (by decide), e 34 (by decide), e 35 (by decide), e 36 (by decide)]
    refine ⟨g1, g2, g3, fun i hi => ?_, g5, g6⟩
    obtain ⟨z1, z2, z3, z4, z5, z6, z7, z8⟩ := g4 i hi
    exact ⟨z1, z2, z3, z4, z5, z6, by rw [sI_j _ _ _ (by omega)]; exact z7, z8⟩
  · rw [e 34 (by decide), e 35 (by decide), e 36 (by decide), e 44 (by decide), e 45 (by decide)]; exact ⟨i6.1, by have := i6.2.1; omega, i6.2.2⟩
  · rw [e 24 (by decide), e 25 (by decide), e 26 (by decide)]; exact i7
  · rw [e 27 (by decide)]; exact i8
  · exact i9
theorem los_33 {s : SG} {l : Nat} (h : ∀ i, i < 6 → (s.1 32 i = -1 ↔ s.1 33 i = -1)) : ∀ n i, i < 6 → ((losF s l n).1.1 32 i = -1 ↔ (losF s l n).1.1 33 i = -1) := by
  intro n
  induction n with
  | zero => intro i hi; exact h i hi
  | succ n ih =>
    intro i hi
    rw [losF]
    split
    · show u2 (u2 (losF s l n).1.1 32 n (-1)) 33 n (-1) 32 i = -1 ↔ u2 (u2 (losF s l n).1.1 32 n (-1)) 33 n (-1) 33 i = -1
      by_cases z : i = n
      · subst z; simp [u2]
      · simp only [u2]
        rw [if_neg (by omega), if_neg (by omega), if_neg (by omega), if_neg (by omega)]
        exact ih i hi
    · exact ih i hi
theorem los_in {s : SG} {l c : Nat} (h : ∀ i, i < c → (s.1 32 i = -1 ↔ s.1 33 i = -1)) : ∀ n, n ≤ c → ∀ i, i < c → ((losF s l n).1.1 32 i = -1 ↔ (losF s l n).1.1 33 i = -1) := by
  intro n
  induction n with
  | zero => intro _ i hi; exact h i hi
  | succ n ih =>
    intro hn i hi
    rw [losF]
    split
    · show u2 (u2 (losF s l n).1.1 32 n (-1)) 33 n (-1) 32 i = -1 ↔ u2 (u2 (losF s l n).1.1 32 n (-1)) 33 n (-1) 33 i = -1
      by_cases z : i = n
      · subst z; simp [u2]
      · simp only [u2]
        rw [if_neg (by omega), if_neg (by omega), if_neg (by omega), if_neg (by omega)]
        exact ih (by omega) i hi
    · exact ih (by omega) i hi
theorem los_2 (s : SG) (l : Nat) : ∀ n, (losF s l n).1.2 = s.2 := by
  intro n
  induction n with
  | zero => rfl
  | succ n ih =>
    rw [losF]
    split
    · exact ih
    · exact ih
theorem fin_2 {s : SG} {c j : Nat} {p1 : Int32} : (gFind s c j p1).1.2 = s.2 := by
  unfold gFind
  split
  · rfl
  · exact los_2 _ _ _
theorem fin_k {s : SG} {c j : Nat} {p1 : Int32} {k : Nat} (h3 : k ≠ 3) (h32 : k ≠ 32) (h33 : k ≠ 33) : (gFind s c j p1).1.1 k = s.1 k := by
  unfold gFind
  split
  · exact u2_rown _ _ _ h3
  · refine funext fun i => ?_
    rw [losF_n (sI s 3 j p1) j c k i (fun z => by omega)]
    exact sI_n _ _ _ _ h3
theorem fin_3 {s : SG} {c j : Nat} {p1 : Int32} (i : Nat) (hi : i ≠ j) : (gFind s c j p1).1.1 3 i = s.1 3 i := by
  unfold gFind
  split
  · exact sI_j _ _ _ hi
  · rw [losF_n (sI s 3 j p1) j c 3 i (fun z => by omega)]
    exact sI_j _ _ _ hi
theorem kFind_0 {s : SG} {a : Nat} {p0 p1 : Int32} (h : kFind s a p0 p1 = 0) (ha : a ≤ 6) : ∃ x, x < a ∧ p0 = nI x := by
  unfold kFind at h
  by_cases z : btw p0 0 (nI a - 1)
  · exact (btw_ix (a := a) (by omega)).mp z
  · rw [if_neg z] at h; exact absurd h (by decide)
theorem inv_find {X X1 : XT} {s : SG} {q : Nat} {a c : Nat} {p0 p1 : Int32} (h : INV X s q) (ha : s.1 0 0 = nI a) (ha6 : a ≤ 6) (hc : s.1 28 0 = nI c) (hc2 : c ≤ 6) (hk : kFind s a p0 p1 = 0) (e1 : X1.2.1 = X.2.1) (e2 : X1.2.2.1 = X.2.2.1) : INV X1 ((gFind s c (nat p0) p1).1) (q + 1) := by
  obtain ⟨a0, b, c0, g, ns, n, i1, i2, i3, i4, i5, i6, i7, i8, i9⟩ := h
  obtain ⟨xa, xl, xs, xr⟩ := X1
  simp only at e1 e2
  subst e1
  subst e2
  have ea : a = a0 := (nI_inj (by have := i1.2.1; omega) (by omega) (i1.1.symm.trans ha)).symm
  subst ea
  have z_c : c = c0 := nI_inj (by omega) (by have := i5.2.1; omega) (hc.symm.trans i5.1)
  subst z_c
  obtain ⟨j, hj, ej⟩ := kFind_0 hk ha6
  have en : nat p0 = j := by rw [ej]; exact nat_nI (by omega)
  have e : ∀ k, k ∉ [3, 32, 33] → ((gFind s c (nat p0) p1).1).1 k = s.1 k := by
    intro k hk
    simp only [List.mem_cons, List.not_mem_nil, or_false, not_or] at hk
    exact fin_k hk.1 hk.2.1 hk.2.2
  refine ⟨a, b, c, g, ns, n, ?_, ?_, ?_, ?_, ?_, ?_, ?_, ?_, ?_⟩
  · obtain ⟨g1, g2, g3, g4, g5, g6⟩ := i1
    rw [e 0 (by decide), e 1 (by decide), e 2 (by decide)]
    refine ⟨g1, g2, g3, fun i hi => ⟨(g4 i hi).1, (g4 i hi).2.1, ?_⟩, g5, g6⟩
    rw [en, fin_3 i (by omega)]; exact (g4 i hi).2.2
  · rw [e 4 (by decide), e 5 (by decide), e 6 (by decide), e 7 (by decide), e 8 (by decide), e 39 (by decide), e 40 (by decide), e 41 (by decide)]; exact i2
  · rw [e 9 (by decide), e 10 (by decide), e 11 (by decide), e 13 (by decide)]; exact i3
  · rw [e 19 (by decide), e 21 (by decide), fin_2]; exact i4
  · obtain ⟨g1, g2, g3, g4, g5, g6⟩ := i5
    rw [e 28 (by decide), e 29 (by decide), e 30 (by decide), e 31 (by decide), e 34 (by decide), e 35 (by decide), e 36 (by decide), e 37 (by decide)]
    refine ⟨g1, g2, g3, g4, g5, fun i hi => ?_⟩
    rw [en]
    unfold gFind
    split
    · exact g6 i hi
    · exact los_in (s := sI s 3 j p1) g6 c (Nat.le_refl c) i hi
  · rw [e 34 (by decide), e 35 (by decide), e 36 (by decide), e 44 (by decide), e 45 (by decide)]; exact ⟨i6.1, by have := i6.2.1; omega, i6.2.2⟩
  · rw [e 24 (by decide), e 25 (by decide), e 26 (by decide)]; exact i7
  · rw [e 27 (by decide)]; exact i8
  · exact i9
