/-! lots, sun, panels, seams: the invariant, and what isSewn asks -/
theorem mS_self {M : MT} {j : Nat} {x : Int32} (h : M.2.1 j = x) : mS M j x = M := by
  have e : u1 M.2.1 j x = M.2.1 := funext fun i => by
    by_cases c : i = j
    · subst c; rw [u1_e, h]
    · rw [u1_ne _ _ c]
  show (M.1, u1 M.2.1 j x, M.2.2.1, M.2.2.2) = M
  rw [e]
theorem LI.lot {X X1 : XT} {s : SG} {M : MT} {t : Nat} {p0 p1 p2 : Int32} (h : LI X s M t) (ht : t < 200) (hk : kLot (nA s) p0 p1 p2 = 0) (e1 : X1.2.1 = u2 X.2.1 13 (nA s) true) (e2 : X1.2.2.1 = u2 X.2.2.1 1 (nA s) true) : LI X1 (gLot (ow3 s (nA s)) (nA s) p0 p1 p2) (mS M 0 (nI (nA s + 1))) (t + 1) := by
  obtain ⟨h1, h2, h3, h4, h5, h6, h7⟩ := h
  obtain ⟨i1, i2, i3, i4, i5, i6, i7, i8, i9⟩ := INV.num (by omega) h1
  have z3 := (i1.2.2.2.1 (nA s) (Nat.le_refl _)).2.2
  have a6 := i1.2.1
  have hr : ∀ k, k ≠ 0 → k ≠ 1 → k ≠ 39 → k ≠ 40 → k ≠ 41 → (gLot (ow3 s (nA s)) (nA s) p0 p1 p2).1 k = s.1 k := fun k a b c d e => by
    unfold gLot ow3
    rw [sI_r _ _ _ a, sI_r _ _ _ b, sI_r _ _ _ b, sI_r _ _ _ b, sI_r _ _ _ e, sI_r _ _ _ d, sI_r _ _ _ c]
  have r0 : (gLot (ow3 s (nA s)) (nA s) p0 p1 p2).1 0 0 = nI (nA s + 1) := sI_at _ _ _ _
  have eA : nA (gLot (ow3 s (nA s)) (nA s) p0 p1 p2) = nA s + 1 := by
    show nat ((gLot (ow3 s (nA s)) (nA s) p0 p1 p2).1 0 0) = _
    rw [r0]; exact nat_nI (by omega)
  have hq := fun k (hk : k ≠ 0 ∧ k ≠ 1 ∧ k < 39) => hr k hk.1 hk.2.1 (by omega) (by omega) (by omega)
  refine ⟨(inv_lot h1 i1.1 a6 hk e1 e2).up (by omega), h2.rows (fun k hk => hq k (by omega)), h3.rows (fun k hk => hq k (by omega)) (fun k hk => rfl), ⟨?_, ?_⟩, ?_, ?_, ?_⟩
  · intro l hl
    rw [eA] at hl
    rw [hq 3 (by decide)]
    by_cases c : l = nA s
    · subst c; exact Or.inl z3
    · exact h4.1 l (by omega)
  · intro i hi
    exact CE.rows (fun k hk => hq k (by omega)) (h4.2 i (by unfold nC at hi ⊢; rw [hq 28 (by decide)] at hi; exact hi))
  · rw [hq 27 (by decide)]; omega
  · obtain ⟨m0, m1, m2, m3, m4, m5⟩ := h6
    exact ⟨by rw [r0]; rfl, by rw [hq 4 (by decide)]; exact m1, by rw [hq 9 (by decide)]; exact m2, by rw [hq 19 (by decide)]; exact m3, by rw [hq 28 (by decide)]; exact m4, by rw [hq 27 (by decide)]; exact m5⟩
  · have := h7.rows (s1 := gLot (ow3 s (nA s)) (nA s) p0 p1 p2) (fun k hk => hq k (by omega)) rfl
    exact this
theorem LI.sun {X X1 : XT} {s : SG} {M : MT} {t : Nat} {p0 p1 : Int32} (h : LI X s M t) (ht : t < 200) (hk : kSun (nA s) p0 p1 = 0) (e1 : X1.2.1 = X.2.1) (e2 : X1.2.2.1 = X.2.2.1) : LI X1 (gSun s (nat p0) p1) M (t + 1) := by
  obtain ⟨h1, h2, h3, h4, h5, h6, h7⟩ := h
  obtain ⟨i1, i2, i3, i4, i5, i6, i7, i8, i9⟩ := INV.num (by omega) h1
  have hr : ∀ k, k ≠ 2 → (gSun s (nat p0) p1).1 k = s.1 k := fun k a => sI_r _ _ _ a
  exact ⟨(inv_sun h1 i1.1 i1.2.1 hk e1 e2).up (by omega), h2.rows (fun k hk => hr k (by omega)), h3.rows (fun k hk => hr k (by omega)) (fun k hk => rfl), h4.rows (fun k hk => hr k (by omega)), by rw [hr 27 (by decide)]; omega, h6.rows (fun k hk => hr k (by omega)), h7.rows (fun k hk => hr k (by omega)) rfl⟩
theorem LI.seam {X X1 : XT} {s : SG} {M : MT} {t : Nat} {p0 p1 p2 : Int32} (h : LI X s M t) (ht : t < 200) (hk : kSeam (nB s) (nS s) p0 p1 p2 = 0) (e1 : X1.2.1 = u2 X.2.1 15 (nS s) true) (e2 : X1.2.2.1 = u2 X.2.2.1 3 (nS s) true) : LI X1 (gSeam s (nS s) p0 p1 p2) (mS M 2 (nI (nS s + 1))) (t + 1) := by
  obtain ⟨h1, h2, h3, h4, h5, h6, h7⟩ := h
  obtain ⟨i1, i2, i3, i4, i5, i6, i7, i8, i9⟩ := INV.num (by omega) h1
  have hr : ∀ k, (k < 9 ∨ 12 < k) → (gSeam s (nS s) p0 p1 p2).1 k = s.1 k := fun k a => by
    unfold gSeam
    rw [sI_r _ _ _ (by omega), sI_r _ _ _ (by omega), sI_r _ _ _ (by omega), sI_r _ _ _ (by omega)]
  have r9 : (gSeam s (nS s) p0 p1 p2).1 9 0 = nI (nS s + 1) := sI_at _ _ _ _
  refine ⟨(inv_seam h1 i2.1 i2.2.1 i3.1 i3.2.1 hk e1 e2).up (by omega), h2.rows (fun k hk => hr k (by omega)), h3.rows (fun k hk => hr k (by omega)) (fun k hk => rfl), h4.rows (fun k hk => hr k (by omega)), by rw [hr 27 (by decide)]; omega, ?_, ?_⟩
  · obtain ⟨m0, m1, m2, m3, m4, m5⟩ := h6
    exact ⟨by rw [hr 0 (by decide)]; exact m0, by rw [hr 4 (by decide)]; exact m1, by rw [r9]; rfl, by rw [hr 19 (by decide)]; exact m3, by rw [hr 28 (by decide)]; exact m4, by rw [hr 27 (by decide)]; exact m5⟩
  · have := h7.rows (s1 := gSeam s (nS s) p0 p1 p2) (fun k hk => hr k (by omega)) rfl
    exact this
theorem LI.rip {X X1 : XT} {s : SG} {M : MT} {t : Nat} {p0 : Int32} (h : LI X s M t) (ht : t < 200) (hk : kRip s (nS s) p0 = 0) (e1 : X1.2.1 = X.2.1) (e2 : X1.2.2.1 = u2 X.2.2.1 3 (nat p0) false) : LI X1 (sI s 13 (nat p0) 1) M (t + 1) := by
  obtain ⟨h1, h2, h3, h4, h5, h6, h7⟩ := h
  obtain ⟨i1, i2, i3, i4, i5, i6, i7, i8, i9⟩ := INV.num (by omega) h1
  have hr : ∀ k, k ≠ 13 → (sI s 13 (nat p0) 1).1 k = s.1 k := fun k a => sI_r _ _ _ a
  exact ⟨(inv_rip h1 i3.1 i3.2.1 hk e1 e2).up (by omega), h2.rows (fun k hk => hr k (by omega)), h3.rows (fun k hk => hr k (by omega)) (fun k hk => rfl), h4.rows (fun k hk => hr k (by omega)), by rw [hr 27 (by decide)]; omega, h6.rows (fun k hk => hr k (by omega)), h7.rows (fun k hk => hr k (by omega)) rfl⟩
abbrev gPn (s : SG) (p0 p1 p2 p3 : Int32) : SG := sI (lyS (pan1 s (nB s) p0 p1 p2 p3) (nat p0) (acK p1 p2 p3) (lnK p1 p2 p3)) 4 0 (nI (nB s + 1))
theorem ly_k {s : SG} {l k : Nat} {ac ln : Int32} (h : k ≠ 39 ∧ k ≠ 40 ∧ k ≠ 41) : (lyS s l ac ln).1 k = s.1 k := by
  unfold lyS
  split
  · rw [sI_r _ _ _ h.2.2, sI_r _ _ _ h.2.1]
  · rw [sI_r _ _ _ h.2.2, sI_r _ _ _ h.2.1, sI_r _ _ _ h.2.2, sI_r _ _ _ h.2.1, sI_r _ _ _ h.1]
theorem pn_k {s : SG} {b k : Nat} {p0 p1 p2 p3 : Int32} (h : k ≠ 5 ∧ k ≠ 6 ∧ k ≠ 7 ∧ k ≠ 8 ∧ k ≠ 43) : (pan1 s b p0 p1 p2 p3).1 k = s.1 k := by
  show (sI (sI (sI (sI (sI s 5 b p0) 6 b p1) 7 b p2) 8 b p3) 43 b 0).1 k = _
  rw [sI_r _ _ _ h.2.2.2.2, sI_r _ _ _ h.2.2.2.1, sI_r _ _ _ h.2.2.1, sI_r _ _ _ h.2.1, sI_r _ _ _ h.1]
theorem pn_r (s : SG) (b : Nat) (p0 p1 p2 p3 : Int32) (i : Nat) : (pan1 s b p0 p1 p2 p3).1 5 i = (if i = b then p0 else s.1 5 i) ∧ (pan1 s b p0 p1 p2 p3).1 6 i = (if i = b then p1 else s.1 6 i) ∧ (pan1 s b p0 p1 p2 p3).1 7 i = (if i = b then p2 else s.1 7 i) ∧ (pan1 s b p0 p1 p2 p3).1 8 i = (if i = b then p3 else s.1 8 i) := by
  unfold pan1
  refine ⟨?_, ?_, ?_, ?_⟩ <;> simp [sI, sJ, u2]
theorem LI.panel {X X1 : XT} {s : SG} {M : MT} {t : Nat} {p0 p1 p2 p3 : Int32} (h : LI X s M t) (ht : t < 200) (hk : kPan (nA s) (nB s) p0 p1 p2 p3 = 0) (e1 : X1.2.1 = u2 X.2.1 14 (nB s) true) (e2 : X1.2.2.1 = u2 X.2.2.1 2 (nB s) true) : LI X1 (gPn s p0 p1 p2 p3) (mS (pS (pS (pS M (3 * nB s) p0) (3 * nB s + 1) p1) (3 * nB s + 2) p2) 1 (nI (nB s + 1))) (t + 1) ∧ nB (gPn s p0 p1 p2 p3) = nB s + 1 := by
  obtain ⟨h1, h2, h3, h4, h5, h6, h7⟩ := h
  obtain ⟨i1, i2, i3, i4, i5, i6, i7, i8, i9⟩ := INV.num (by omega) h1
  have b12 := i2.2.1
  have hr : ∀ k, (k < 4 ∨ 8 < k) → k < 39 → (gPn s p0 p1 p2 p3).1 k = s.1 k := fun k a b => by
    unfold gPn
    rw [sI_r _ _ _ (by omega), ly_k (by omega), pn_k (by omega)]
  have hr2 : ∀ k, k = 20 ∨ k = 23 → (gPn s p0 p1 p2 p3).2 k = s.2 k := fun k hk => by
    show (lyS (pan1 s (nB s) p0 p1 p2 p3) (nat p0) (acK p1 p2 p3) (lnK p1 p2 p3)).2 k = s.2 k
    rw [lyS_2]
    show u2 s.2 42 (nB s) 0 k = s.2 k
    exact u2_rown _ _ _ (by omega)
  have r4 : (gPn s p0 p1 p2 p3).1 4 0 = nI (nB s + 1) := sI_at _ _ _ _
  have eB : nB (gPn s p0 p1 p2 p3) = nB s + 1 := by
    show nat ((gPn s p0 p1 p2 p3).1 4 0) = _
    rw [r4]; exact nat_nI (by omega)
  have r5 : ∀ i, (gPn s p0 p1 p2 p3).1 5 i = (if i = nB s then p0 else s.1 5 i) ∧ (gPn s p0 p1 p2 p3).1 6 i = (if i = nB s then p1 else s.1 6 i) ∧ (gPn s p0 p1 p2 p3).1 7 i = (if i = nB s then p2 else s.1 7 i) := fun i => by
    unfold gPn
    have := pn_r s (nB s) p0 p1 p2 p3 i
    rw [sI_r _ _ _ (by decide), sI_r _ _ _ (by decide), sI_r _ _ _ (by decide), ly_k (by decide), ly_k (by decide), ly_k (by decide)]
    exact ⟨this.1, this.2.1, this.2.2.1⟩
  refine ⟨⟨(inv_panel h1 i1.1 i1.2.1 i2.1 b12 hk e1 e2).up (by omega), h2.rows (fun k hk => hr k (by omega) (by omega)), h3.rows (fun k hk => hr k (by omega) (by omega)) hr2, h4.rows (fun k hk => hr k (by omega) (by omega)), by rw [hr 27 (by decide) (by decide)]; omega, ?_, ?_, ?_⟩, eB⟩
  · obtain ⟨m0, m1, m2, m3, m4, m5⟩ := h6
    exact ⟨by rw [hr 0 (by decide) (by decide)]; exact m0, by rw [r4]; rfl, by rw [hr 9 (by decide) (by decide)]; exact m2, by rw [hr 19 (by decide) (by decide)]; exact m3, by rw [hr 28 (by decide) (by decide)]; exact m4, by rw [hr 27 (by decide) (by decide)]; exact m5⟩
  · intro i hi
    rw [eB] at hi
    obtain ⟨q1, q2, q3⟩ := r5 i
    rw [q1, q2, q3]
    show u1 (u1 (u1 M.2.2.1 (3 * nB s) p0) (3 * nB s + 1) p1) (3 * nB s + 2) p2 (3 * i) = _ ∧ u1 (u1 (u1 M.2.2.1 (3 * nB s) p0) (3 * nB s + 1) p1) (3 * nB s + 2) p2 (3 * i + 1) = _ ∧ u1 (u1 (u1 M.2.2.1 (3 * nB s) p0) (3 * nB s + 1) p1) (3 * nB s + 2) p2 (3 * i + 2) = _
    by_cases c : i = nB s
    · subst c
      rw [if_pos rfl, if_pos rfl, if_pos rfl]
      refine ⟨?_, ?_, ?_⟩
      · rw [u1_ne _ _ (by omega), u1_ne _ _ (by omega), u1_e]
      · rw [u1_ne _ _ (by omega), u1_e]
      · rw [u1_e]
    · rw [if_neg c, if_neg c, if_neg c]
      obtain ⟨g1, g2, g3⟩ := h7.1 i (by omega)
      refine ⟨?_, ?_, ?_⟩
      · rw [u1_ne _ _ (by omega), u1_ne _ _ (by omega), u1_ne _ _ (by omega)]; exact g1
      · rw [u1_ne _ _ (by omega), u1_ne _ _ (by omega), u1_ne _ _ (by omega)]; exact g2
      · rw [u1_ne _ _ (by omega), u1_ne _ _ (by omega), u1_ne _ _ (by omega)]; exact g3
  · intro i hi
    rw [hr2 20 (Or.inl rfl)]
    have eG : nG (gPn s p0 p1 p2 p3) = nG s := by unfold nG; rw [hr 19 (by decide) (by decide)]
    rw [eG] at hi
    exact h7.2 i hi
/-- a panel more makes no roll shorter -/
theorem roll_up {X X1 : XT} {s : SG} {M M1 : MT} {t : Nat} {p0 p1 p2 p3 : Int32} (h : LI X s M t) (ht : t < 200) (hk : kPan (nA s) (nB s) p0 p1 p2 p3 = 0) (hL : LI X1 (gPn s p0 p1 p2 p3) M1 (t + 1)) (eB : nB (gPn s p0 p1 p2 p3) = nB s + 1) {l : Nat} (hl : l < nA s) : (s.1 39 l + s.1 41 l).toInt ≤ ((gPn s p0 p1 p2 p3).1 39 l + (gPn s p0 p1 p2 p3).1 41 l).toInt := by
  obtain ⟨i1, i2, -⟩ := INV.num (by omega) h.1
  obtain ⟨j1, j2, -⟩ := INV.num (by omega) hL.1
  have b12 := i2.2.1
  have c12 := j2.2.1
  have hA : nA (gPn s p0 p1 p2 p3) = nA s := by
    unfold nA
    have : (gPn s p0 p1 p2 p3).1 0 = s.1 0 := by
      unfold gPn
      rw [sI_r _ _ _ (by decide), ly_k (by decide), pn_k (by decide)]
    rw [this]
  have e1 := i2.2.2.2.2.2 l hl
  have e2 := j2.2.2.2.2.2 l (by rw [hA]; exact hl)
  rw [← roll_RS] at e1 e2
  rw [eB] at e2 c12
  have hP : PN s (nB s) := fun i hi => by
    obtain ⟨l, k, g1, g2, g3, g4, g5, g6, -⟩ := i2.2.2.2.2.1 i hi
    exact ⟨k, g2, g4, g5, g6⟩
  have hP2 : PN (gPn s p0 p1 p2 p3) (nB s + 1) := fun i hi => by
    obtain ⟨l, k, g1, g2, g3, g4, g5, g6, -⟩ := j2.2.2.2.2.1 i (by rw [eB]; exact hi)
    exact ⟨k, g2, g4, g5, g6⟩
  have eq : rollF (gPn s p0 p1 p2 p3) l (nB s) = rollF s l (nB s) := rollF_eq (nB s) (fun i hi => by
    have := pn_r s (nB s) p0 p1 p2 p3 i
    have c : ¬ i = nB s := by omega
    rw [if_neg c, if_neg c, if_neg c, if_neg c] at this
    unfold gPn
    rw [sI_r _ _ _ (by decide), sI_r _ _ _ (by decide), sI_r _ _ _ (by decide), sI_r _ _ _ (by decide), ly_k (by decide), ly_k (by decide), ly_k (by decide), ly_k (by decide)]
    exact this)
  obtain ⟨a1, a2, a3, a4, a5, a6, a7⟩ := roll_b (l := l) hP b12 (nB s) (Nat.le_refl _)
  obtain ⟨l1, l2, l3⟩ := len_b hP2 (show nB s < nB s + 1 by omega)
  have s39 : s.1 39 l = (rollF s l (nB s)).1 := by rw [e1]
  have s41 : s.1 41 l = (rollF s l (nB s)).2.2 := by rw [e1]
  have t39 : (gPn s p0 p1 p2 p3).1 39 l = (rollF (gPn s p0 p1 p2 p3) l (nB s + 1)).1 := by rw [e2]
  have t41 : (gPn s p0 p1 p2 p3).1 41 l = (rollF (gPn s p0 p1 p2 p3) l (nB s + 1)).2.2 := by rw [e2]
  rw [s39, s41, t39, t41, rollF, eq]
  have k1 := add_s (x := (rollF s l (nB s)).1) (y := (rollF s l (nB s)).2.2) (by omega) (by omega)
  split
  · split
    · dsimp only
      split
      · exact Int.le_refl _
      · next q =>
        rw [Int32.lt_iff_toInt_lt] at q
        have k2 := add_s (x := (rollF s l (nB s)).1) (y := lenS (gPn s p0 p1 p2 p3) (nB s)) (by omega) (by omega)
        rw [k1, k2]; omega
    · dsimp only
      have k2 := add_s (x := (rollF s l (nB s)).1 + (rollF s l (nB s)).2.2) (y := lenS (gPn s p0 p1 p2 p3) (nB s)) (by rw [k1]; omega) (by omega)
      rw [k2, k1]; omega
  · exact Int.le_refl _
/-! sun: what it takes of a strength -/
theorem left_v {s : SG} {l : Nat} (h : btw (s.1 2 l) 0 1000000) : (leftS s l).toInt = if 100 ≤ 1000 - (s.1 2 l).toInt then 1000 - (s.1 2 l).toInt else 100 := by
  obtain ⟨h1, h2⟩ := bt_i (k := 0) (l := 1000000) h rfl rfl
  have e2 : (1000 : Int32).toInt = 1000 := rfl
  have e3 : (1000 - s.1 2 l).toInt = 1000 - (s.1 2 l).toInt := by
    rw [Int32.toInt_sub, e2]
    exact Int.bmod_eq_of_le (by omega) (by omega)
  unfold leftS
  have e4 : (100 : Int32) ≤ 1000 - s.1 2 l ↔ 100 ≤ 1000 - (s.1 2 l).toInt := by
    rw [Int32.le_iff_toInt_le, e3]; exact Iff.rfl
  by_cases c : (100 : Int32) ≤ 1000 - s.1 2 l
  · rw [if_pos c, if_pos (e4.mp c), e3]
  · rw [if_neg c, if_neg (fun z => c (e4.mpr z))]; rfl
theorem str_v {s : SG} {l k j : Nat} (h5 : s.1 5 j = nI l) (h8 : s.1 8 j = nI k) (hl : l < 6) (hk : k < 3) {n1 n2 n3 : Nat} (a2 : (s.1 1 (3 * l + k)).toInt64.toInt = (n1 : Int)) (a1 : n1 ≤ 2000000000) (b2 : (leftS s l).toInt64.toInt = (n2 : Int)) (b1 : n2 ≤ 1000) (c2 : (s.1 6 j).toInt64.toInt = (n3 : Int)) (c1 : n3 ≤ 150) : (strS s j).toInt = ((n1 * n2 / 1000 * n3 : Nat) : Int) ∧ n1 * n2 / 1000 * n3 ≤ 300000000000 := by
  have k1 : n1 * n2 ≤ 2000000000 * 1000 := Nat.mul_le_mul a1 b1
  have e1 := m64 a2 b2 (by omega)
  have e2 : (lotStr s l k).toInt = ((n1 * n2 / 1000 : Nat) : Int) := d64 e1 (k := 1000) rfl (by omega)
  have k2 : n1 * n2 / 1000 ≤ 2000000000 := by omega
  have k3 : n1 * n2 / 1000 * n3 ≤ 2000000000 * 150 := Nat.mul_le_mul k2 c1
  refine ⟨?_, by omega⟩
  rw [strS, h5, h8, nat_nI (by omega), nat_nI (by omega)]
  exact m64 e2 c2 (by omega)
theorem sun_nat {n F F' w : Nat} (h1 : F' ≤ F) (h2 : F ≤ 4 * F') (hw : w ≤ 150) : n * F' / 1000 * w ≤ n * F / 1000 * w ∧ n * F / 1000 * w ≤ 11 * (n * F' / 1000 * w) + 1650 := by
  have a1 : n * F' ≤ n * F := Nat.mul_le_mul_left n h1
  have a2 : n * F ≤ 4 * (n * F') := by
    have := Nat.mul_le_mul_left n h2
    rw [Nat.mul_left_comm] at this
    exact this
  have b1 : n * F' / 1000 ≤ n * F / 1000 := Nat.div_le_div_right a1
  have b2 : n * F / 1000 ≤ 4 * (n * F' / 1000) + 4 := by omega
  refine ⟨Nat.mul_le_mul_right w b1, ?_⟩
  have c1 := Nat.mul_le_mul_right w b2
  rw [Nat.add_mul, Nat.mul_assoc] at c1
  omega
theorem sun_ok {X : XT} {s : SG} {M : MT} {t : Nat} (h : LI X s M t) (ht : t < 200) {l0 m j : Nat} (hl0 : l0 < nA s) (hm : 1 ≤ m ∧ m ≤ 300) (hj : j < nB s) : strS (gSun s l0 (nI m)) j ≤ strS s j ∧ strS s j ≤ strS (gSun s l0 (nI m)) j * 11 + 1650 := by
  obtain ⟨i1, i2, -⟩ := INV.num (by omega) h.1
  have a6 := i1.2.1
  obtain ⟨l, k, g1, g2, g3, g4, g5, g6, -⟩ := i2.2.2.2.2.1 j hj
  have hr : ∀ k, k ≠ 2 → (gSun s l0 (nI m)).1 k = s.1 k := fun k a => sI_r _ _ _ a
  have r2 : ∀ i, (gSun s l0 (nI m)).1 2 i = if i = l0 then hSun (s.1 2 l0) (nI m) else s.1 2 i := fun i => sI_if _ _ _ _ _
  have hb := i1.2.2.2.2.2 l g1
  have hb0 := i1.2.2.2.2.2 l0 hl0
  have hb1 : btw ((gSun s l0 (nI m)).1 2 l) 0 1000000 := by
    rw [r2]
    split
    · exact hSun_b hb0 ⟨(nI_leI (a := 1) (by decide) (by omega)).mpr hm.1, (nI_leI (b := 10000) (by omega) (by decide)).mpr (by omega)⟩
    · exact hb
  obtain ⟨n1, p1, p2, -⟩ := i64n (h := 2000000000) rfl (by decide) (i1.2.2.2.2.1 l g1 k g2)
  obtain ⟨n3, q1, q2, -⟩ := i64n (h := 150) rfl (by decide) g5
  obtain ⟨F, f1, f2, -⟩ := i64n (h := 1000) rfl (by decide) (left_b hb)
  obtain ⟨F', f3, f4, -⟩ := i64n (h := 1000) rfl (by decide) (left_b hb1)
  obtain ⟨v1, w1⟩ := str_v g3 g4 (by omega) g2 p2 p1 f2 f1 q2 q1
  have g3' : (gSun s l0 (nI m)).1 5 j = nI l := by rw [hr 5 (by decide)]; exact g3
  have g4' : (gSun s l0 (nI m)).1 8 j = nI k := by rw [hr 8 (by decide)]; exact g4
  obtain ⟨v2, w2⟩ := str_v (s := gSun s l0 (nI m)) g3' g4' (by omega) g2 (by rw [hr 1 (by decide)]; exact p2) p1 f4 f3 (by rw [hr 6 (by decide)]; exact q2) q1
  have hF : F' ≤ F ∧ F ≤ 4 * F' := by
    have e1 := left_v hb
    have e2 := left_v hb1
    rw [Int32.toInt_toInt64] at f2 f4
    rw [f2] at e1
    rw [f4] at e2
    obtain ⟨c1, c2⟩ := bt_i (k := 0) (l := 1000000) hb rfl rfl
    have e3 : ((gSun s l0 (nI m)).1 2 l).toInt = if l = l0 then (if (s.1 2 l).toInt + m ≤ 1000000 then (s.1 2 l).toInt + m else 1000000) else (s.1 2 l).toInt := by
      rw [r2]
      by_cases c : l = l0
      · subst c
        rw [if_pos rfl, if_pos rfl]
        have ea : (s.1 2 l + nI m).toInt = (s.1 2 l).toInt + m := by
          rw [Int32.toInt_add, nI_toInt (by omega)]
          exact Int.bmod_eq_of_le (by omega) (by omega)
        unfold hSun
        by_cases d : s.1 2 l + nI m ≤ 1000000
        · rw [if_pos d]
          rw [Int32.le_iff_toInt_le, ea] at d
          have : (1000000 : Int32).toInt = 1000000 := rfl
          rw [if_pos (by omega), ea]
        · rw [if_neg d]
          rw [Int32.le_iff_toInt_le, ea] at d
          have : (1000000 : Int32).toInt = 1000000 := rfl
          rw [if_neg (by omega)]; rfl
      · rw [if_neg c, if_neg c]
    rw [e3] at e2
    split at e1 <;> split at e2 <;> (try split at e2) <;> (try omega)
    all_goals (split at * <;> omega)
  obtain ⟨z1, z2⟩ := sun_nat (n := n1) hF.1 hF.2 q1
  constructor
  · rw [Int64.le_iff_toInt_le, v1, v2]; omega
  · have e5 : (strS (gSun s l0 (nI m)) j * 11 + 1650).toInt = ((n1 * F' / 1000 * n3 * 11 + 1650 : Nat) : Int) := by
      have := m64 v2 (y := 11) (k := 11) rfl (by omega)
      rw [Int64.toInt_add, this]
      show Int.bmod (((n1 * F' / 1000 * n3 * 11 : Nat) : Int) + 1650) _ = _
      exact Int.bmod_eq_of_le (by omega) (by omega)
    rw [Int64.le_iff_toInt_le, v1, e5]; omega
