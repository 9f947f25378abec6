theorem roll_none {r5 r6 r7 r8 : Nat → Int32} {l : Nat} : ∀ b, (∀ i, i < b → ¬ r5 i = nI l) → rollF (RS r5 r6 r7 r8) l b = (0, 0, 0) := by
  intro b
  induction b with
  | zero => intro _; rfl
  | succ b ih =>
    intro h
    rw [rollF, if_neg (show ¬ (RS r5 r6 r7 r8).1 5 b = nI l from h b (by omega))]
    exact ih (fun i hi => h i (by omega))
theorem XV.add {X : XT} {c a : Nat} (h : XV X) (hc : 13 ≤ c) {xa : Nat → Nat → Nat} {xs : Nat → Nat → Bool} {xr : (Nat → Prop) × GT} : XV (xa, u2 X.2.1 c a true, xs, xr) := by
  intro d i hd hl
  have hl9 : u2 X.2.1 c a true d i = true := hl
  rw [u2, if_neg (fun z => by omega)] at hl9
  exact h d i hd hl9
theorem inv_lot {X X1 : XT} {s : SG} {q : Nat} {a : Nat} {p0 p1 p2 : Int32} (h : INV X s q) (ha : s.1 0 0 = nI a) (ha6 : a ≤ 6) (hk : kLot a p0 p1 p2 = 0) (e1 : X1.2.1 = u2 X.2.1 13 a true) (e2 : X1.2.2.1 = u2 X.2.2.1 1 a true) : INV X1 (gLot (ow3 s a) a p0 p1 p2) (q + 1) := by
  obtain ⟨a0, b, c, g, ns, n, i1, i2, i3, i4, i5, i6, i7, i8, i9⟩ := h
  obtain ⟨xa, xl, xs, xr⟩ := X1
  simp only at e1 e2
  subst e1
  subst e2
  have ea : a = a0 := (nI_inj (by have := i1.2.1; omega) (by omega) (i1.1.symm.trans ha)).symm
  subst ea
  have ho : oLot p0 p1 p2 ∧ ¬ a = 6 := by
    unfold kLot at hk
    by_cases z : oLot p0 p1 p2
    · rw [if_pos z] at hk; by_cases z2 : a = 6
      · rw [if_pos z2] at hk; exact absurd hk (by decide)
      · exact ⟨z, z2⟩
    · rw [if_neg z] at hk; exact absurd hk (by decide)
  obtain ⟨ho, ho6⟩ := ho
  have e : ∀ k, k ∉ [0, 1, 39, 40, 41] → (gLot (ow3 s a) a p0 p1 p2).1 k = s.1 k := by
    intro k hk
    simp only [List.mem_cons, List.not_mem_nil, or_false, not_or] at hk
    refine funext fun j => ?_
    simp [gLot, ow3, sI, sJ, u2, hk]
  refine ⟨a + 1, b, c, g, ns, n, ?_, ?_, ?_, ?_, ?_, ?_, ?_, ?_, ?_⟩
  · obtain ⟨g1, g2, g3, g4, g5, g6⟩ := i1
    rw [e 2 (by decide), e 3 (by decide)]
    refine ⟨by simp [gLot, sI, u2], by omega, fun f hf => ?_, fun i hi => ?_, fun i hi k hk3 => ?_, fun i hi => ?_⟩
    · show u2 X.2.2.1 1 a true 1 f = _
      by_cases z : f = a
      · subst z; rw [u2_s]; exact (decide_eq_true (by omega)).symm
      · rw [u2_k _ _ z, g3 f hf]; exact decide_eq_decide.mpr (by omega)
    · refine ⟨?_, (g4 i (by omega)).2⟩
      show u2 X.2.1 13 a true 13 i = false
      rw [u2_k _ _ (by omega)]; exact (g4 i (by omega)).1
    · by_cases z : i = a
      · subst z
        rcases (show k = 0 ∨ k = 1 ∨ k = 2 by omega) with rfl | rfl | rfl
        · simp [gLot, ow3, sI, u2]; exact ho.1
        · simp [gLot, ow3, sI, u2]; exact ho.2.1
        · simp [gLot, ow3, sI, u2]; exact ho.2.2
      · simp only [gLot, ow3, sI, u2]
        (repeat rw [if_neg (by omega)])
        exact g5 i (by omega) k hk3
    · by_cases z : i = a
      · subst z; rw [(g4 i (by omega)).2.1]; exact ⟨by decide, by decide⟩
      · exact g6 i (by omega)
  · obtain ⟨g1, g2, g3, g4, g5, g6⟩ := i2
    rw [e 4 (by decide), e 5 (by decide), e 6 (by decide), e 7 (by decide), e 8 (by decide)]
    refine ⟨g1, g2, g3, g4, fun i hi => ?_, fun l hl => ?_⟩
    · obtain ⟨l, k, z1, z2⟩ := g5 i hi
      exact ⟨l, k, by omega, z2⟩
    · by_cases z : l = a
      · subst z
        rw [roll_none b (fun i hi => by obtain ⟨l, k, z1, z2, z3, z4⟩ := g5 i hi; rw [z3]; exact fun z => by have := nI_inj (by omega) (by omega) z; omega)]
        simp [gLot, ow3, sI, u2]
      · rw [g6 l (by omega)]
        simp [gLot, ow3, sI, u2, z]
  · rw [e 9 (by decide), e 10 (by decide), e 11 (by decide), e 13 (by decide)]; exact i3
  · rw [e 19 (by decide), e 21 (by decide)]; exact i4
  · rw [e 28 (by decide), e 29 (by decide), e 30 (by decide), e 31 (by decide), e 32 (by decide), e 33 (by decide), e 34 (by decide), e 35 (by decide), e 36 (by decide), e 37 (by decide)]
    obtain ⟨g1, g2, g3, g4, g5, g6⟩ := i5
    exact ⟨g1, g2, g3, g4, fun i hi => (by obtain ⟨p, l, z1, z2, z3, z4⟩ := g5 i hi; exact ⟨p, l, z1, z2, by omega, z4⟩), g6⟩
  · rw [e 34 (by decide), e 35 (by decide), e 36 (by decide), e 44 (by decide), e 45 (by decide)]; exact ⟨i6.1, by have := i6.2.1; omega, i6.2.2⟩
  · rw [e 24 (by decide), e 25 (by decide), e 26 (by decide)]; exact i7
  · rw [e 27 (by decide)]; exact i8
  · exact i9.add (by decide)
theorem hSun_b {h p : Int32} (h1 : btw h 0 1000000) (h2 : btw p 1 10000) : btw (hSun h p) 0 1000000 := by
  unfold hSun
  obtain ⟨a1, a2⟩ := h1
  obtain ⟨b1, b2⟩ := h2
  rw [Int32.le_iff_toInt_le] at a1 a2 b1 b2
  have e0 : (0 : Int32).toInt = 0 := rfl
  have e1 : (1000000 : Int32).toInt = 1000000 := rfl
  have e2 : (1 : Int32).toInt = 1 := rfl
  have e3 : (10000 : Int32).toInt = 10000 := rfl
  rw [e0] at a1; rw [e1] at a2; rw [e2] at b1; rw [e3] at b2
  have e4 : (h + p).toInt = h.toInt + p.toInt := by
    rw [Int32.toInt_add]
    exact Int.bmod_eq_of_le (by omega) (by omega)
  split
  · next c => exact ⟨by rw [Int32.le_iff_toInt_le, e4, e0]; omega, c⟩
  · exact ⟨by decide, by decide⟩
theorem kSun_0 {a : Nat} {p0 p1 : Int32} (h : kSun a p0 p1 = 0) (ha : a ≤ 6) : (∃ j, j < a ∧ p0 = nI j) ∧ btw p1 1 10000 := by
  unfold kSun at h
  by_cases z : btw p0 0 (nI a - 1)
  · rw [if_pos z] at h
    by_cases z2 : btw p1 1 10000
    · exact ⟨(btw_ix (a := a) (by omega)).mp z, z2⟩
    · rw [if_neg z2] at h; exact absurd h (by decide)
  · rw [if_neg z] at h; exact absurd h (by decide)
theorem inv_sun {X X1 : XT} {s : SG} {q : Nat} {a : Nat} {p0 p1 : Int32} (h : INV X s q) (ha : s.1 0 0 = nI a) (ha6 : a ≤ 6) (hk : kSun a p0 p1 = 0) (e1 : X1.2.1 = X.2.1) (e2 : X1.2.2.1 = X.2.2.1) : INV X1 (gSun s (nat p0) p1) (q + 1) := by
  obtain ⟨a0, b, c, g, ns, n, i1, i2, i3, i4, i5, i6, i7, i8, i9⟩ := h
  obtain ⟨xa, xl, xs, xr⟩ := X1
  simp only at e1 e2
  subst e1
  subst e2
  have ea : a = a0 := (nI_inj (by have := i1.2.1; omega) (by omega) (i1.1.symm.trans ha)).symm
  subst ea
  obtain ⟨⟨j, hj, ej⟩, hp⟩ := kSun_0 hk ha6
  have en : nat p0 = j := by rw [ej]; exact nat_nI (by omega)
  have e : ∀ k, k ∉ [2] → (gSun s (nat p0) p1).1 k = s.1 k := by
    intro k hk
    simp only [List.mem_cons, List.not_mem_nil, or_false, not_or] at hk
    refine funext fun j => ?_
    simp [gSun, sI, sJ, u2, hk]
  refine ⟨a, b, c, g, ns, n, ?_, ?_, ?_, ?_, ?_, ?_, ?_, ?_, ?_⟩
  · obtain ⟨g1, g2, g3, g4, g5, g6⟩ := i1
    rw [e 0 (by decide), e 1 (by decide), e 3 (by decide)]
    refine ⟨g1, g2, g3, fun i hi => ?_, g5, fun i hi => ?_⟩
    · refine ⟨(g4 i hi).1, ?_, (g4 i hi).2.2⟩
      show u2 s.1 2 (nat p0) _ 2 i = 0
      rw [en, u2_k _ _ (by omega)]; exact (g4 i hi).2.1
    · show btw (u2 s.1 2 (nat p0) (hSun (s.1 2 (nat p0)) p1) 2 i) 0 1000000
      rw [en]
      by_cases z : i = j
      · subst z; rw [u2_s]; exact hSun_b (g6 i hi) hp
      · rw [u2_k _ _ z]; exact g6 i hi
  · rw [e 4 (by decide), e 5 (by decide), e 6 (by decide), e 7 (by decide), e 8 (by decide), e 39 (by decide), e 40 (by decide), e 41 (by decide)]; exact i2
  · rw [e 9 (by decide), e 10 (by decide), e 11 (by decide), e 13 (by decide)]; exact i3
  · rw [e 19 (by decide), e 21 (by decide)]; exact i4
  · rw [e 28 (by decide), e 29 (by decide), e 30 (by decide), e 31 (by decide), e 32 (by decide), e 33 (by decide), e 34 (by decide), e 35 (by decide), e 36 (by decide), e 37 (by decide)]; exact i5
  · rw [e 34 (by decide), e 35 (by decide), e 36 (by decide), e 44 (by decide), e 45 (by decide)]; exact ⟨i6.1, by have := i6.2.1; omega, i6.2.2⟩
  · rw [e 24 (by decide), e 25 (by decide), e 26 (by decide)]; exact i7
  · rw [e 27 (by decide)]; exact i8
  · exact i9
theorem kPan_0 {a b : Nat} {p0 w h al : Int32} (hk : kPan a b p0 w h al = 0) (ha : a ≤ 6) : (∃ j, j < a ∧ p0 = nI j) ∧ oPan w h al ∧ ¬ b = 12 := by
  unfold kPan at hk
  by_cases z : btw p0 0 (nI a - 1)
  · rw [if_pos z] at hk
    by_cases z2 : oPan w h al
    · rw [if_pos z2] at hk
      by_cases z3 : b = 12
      · rw [if_pos z3] at hk; exact absurd hk (by decide)
      · exact ⟨(btw_ix (a := a) (by omega)).mp z, z2, z3⟩
    · rw [if_neg z2] at hk; exact absurd hk (by decide)
  · rw [if_neg z] at hk; exact absurd hk (by decide)
theorem rollF_eq {s s' : SG} {l : Nat} : ∀ b, (∀ i, i < b → s'.1 5 i = s.1 5 i ∧ s'.1 6 i = s.1 6 i ∧ s'.1 7 i = s.1 7 i ∧ s'.1 8 i = s.1 8 i) → rollF s' l b = rollF s l b := by
  intro b
  induction b with
  | zero => intro _; rfl
  | succ b ih =>
    intro h
    obtain ⟨e5, e6, e7, e8⟩ := h b (by omega)
    have ea : acrS s' b = acrS s b := by simp only [acrS, e6, e7, e8]
    have el : lenS s' b = lenS s b := by simp only [lenS, e6, e7, e8]
    simp only [rollF, ih (fun i hi => h i (by omega)), e5, ea, el]
theorem ln_pos {w h al : Int32} (hp : oPan w h al) : 0 ≤ lnK w h al ∧ ¬ lnK w h al < 0 := by
  obtain ⟨⟨⟨w1, w2⟩, ⟨h1, h2⟩, -⟩, -⟩ := hp
  have key : 0 ≤ lnK w h al := by
    unfold lnK
    split
    · exact Int32.le_trans (by decide) h1
    · split
      · exact Int32.le_trans (by decide) w1
      · rw [Int32.le_iff_toInt_le] at w1 w2 h1 h2 ⊢
        have e0 : (0 : Int32).toInt = 0 := rfl
        have e1 : (1 : Int32).toInt = 1 := rfl
        have e2 : (150 : Int32).toInt = 150 := rfl
        rw [e1] at w1 h1
        rw [e2] at w2 h2
        rw [e0, Int32.toInt_add, Int.bmod_eq_of_le (by omega) (by omega)]
        omega
  exact ⟨key, n_nlt.mpr key⟩
theorem mx_le {a b : Int32} : (if b < a then a else b) = mxI a b := by
  unfold mxI
  by_cases h1 : b < a
  · rw [if_pos h1, if_neg (n_nlt.mpr (Int32.le_of_lt h1))]
  · by_cases h2 : a < b
    · rw [if_neg h1, if_pos h2]
    · rw [if_neg h1, if_neg h2]; exact Int32.le_antisymm (n_nlt.mp h2) (n_nlt.mp h1)
theorem mx_0 {b : Int32} (h : 0 ≤ b) : mxI 0 b = b := by
  unfold mxI
  by_cases h2 : 0 < b
  · rw [if_pos h2]
  · rw [if_neg h2]; exact Int32.le_antisymm h (n_nlt.mp h2)
theorem lyS_at {s : SG} {l : Nat} {ac ln : Int32} (hl : 0 ≤ ln) : ((lyS s l ac ln).1 39 l, (lyS s l ac ln).1 40 l, (lyS s l ac ln).1 41 l) = if s.1 40 l + ac ≤ 150 then (s.1 39 l, s.1 40 l + ac, if ln < s.1 41 l then s.1 41 l else ln) else (s.1 39 l + s.1 41 l, ac, ln) := by
  unfold lyS
  split
  · rw [mx_le]; simp [sI, u2]
  · rw [mx_0 hl]; simp [sI, u2]
theorem lyS_o {s : SG} {l l' : Nat} {ac ln : Int32} {k : Nat} (h : l' ≠ l) : (lyS s l ac ln).1 k l' = s.1 k l' := by
  unfold lyS
  split <;> simp [sI, u2, h]
theorem lyS_2 (s : SG) (l : Nat) (ac ln : Int32) : (lyS s l ac ln).2 = s.2 := by
  unfold lyS
  split <;> rfl
theorem inv_panel {X X1 : XT} {s : SG} {q : Nat} {a b : Nat} {p0 p1 p2 p3 : Int32} (h : INV X s q) (ha : s.1 0 0 = nI a) (ha6 : a ≤ 6) (hb : s.1 4 0 = nI b) (hb2 : b ≤ 12) (hk : kPan a b p0 p1 p2 p3 = 0) (e1 : X1.2.1 = u2 X.2.1 14 b true) (e2 : X1.2.2.1 = u2 X.2.2.1 2 b true) : INV X1 (sI (lyS (pan1 s b p0 p1 p2 p3) (nat p0) (acK p1 p2 p3) (lnK p1 p2 p3)) 4 0 (nI (b + 1))) (q + 1) := by
  obtain ⟨a0, b0, c, g, ns, n, i1, i2, i3, i4, i5, i6, i7, i8, i9⟩ := h
  obtain ⟨xa, xl, xs, xr⟩ := X1
  simp only at e1 e2
  subst e1
  subst e2
  have ea : a = a0 := (nI_inj (by have := i1.2.1; omega) (by omega) (i1.1.symm.trans ha)).symm
  subst ea
  have eb : b = b0 := nI_inj (by omega) (by have := i2.2.1; omega) (hb.symm.trans i2.1)
  subst eb
  obtain ⟨⟨j, hj, ej⟩, ho, hb12⟩ := kPan_0 hk ha6
  have en : nat p0 = j := by rw [ej]; exact nat_nI (by omega)
  have r5 : ∀ i, (i = i ∧ (sI (lyS (pan1 s b p0 p1 p2 p3) (nat p0) (acK p1 p2 p3) (lnK p1 p2 p3)) 4 0 (nI (b + 1))).1 5 b = p0) ∧ (i ≠ b → (sI (lyS (pan1 s b p0 p1 p2 p3) (nat p0) (acK p1 p2 p3) (lnK p1 p2 p3)) 4 0 (nI (b + 1))).1 5 i = s.1 5 i) := fun i => ⟨⟨rfl, by rw [sI_n _ _ _ _ (by decide), lyS_n _ _ _ _ (by decide)]; simp [pan1, sI, sJ, u2]⟩, fun hi => by rw [sI_n _ _ _ _ (by decide), lyS_n _ _ _ _ (by decide)]; simp [pan1, sI, sJ, u2, hi]⟩
  have r6 : ∀ i, (i = i ∧ (sI (lyS (pan1 s b p0 p1 p2 p3) (nat p0) (acK p1 p2 p3) (lnK p1 p2 p3)) 4 0 (nI (b + 1))).1 6 b = p1) ∧ (i ≠ b → (sI (lyS (pan1 s b p0 p1 p2 p3) (nat p0) (acK p1 p2 p3) (lnK p1 p2 p3)) 4 0 (nI (b + 1))).1 6 i = s.1 6 i) := fun i => ⟨⟨rfl, by rw [sI_n _ _ _ _ (by decide), lyS_n _ _ _ _ (by decide)]; simp [pan1, sI, sJ, u2]⟩, fun hi => by rw [sI_n _ _ _ _ (by decide), lyS_n _ _ _ _ (by decide)]; simp [pan1, sI, sJ, u2, hi]⟩
  have r7 : ∀ i, (i = i ∧ (sI (lyS (pan1 s b p0 p1 p2 p3) (nat p0) (acK p1 p2 p3) (lnK p1 p2 p3)) 4 0 (nI (b + 1))).1 7 b = p2) ∧ (i ≠ b → (sI (lyS (pan1 s b p0 p1 p2 p3) (nat p0) (acK p1 p2 p3) (lnK p1 p2 p3)) 4 0 (nI (b + 1))).1 7 i = s.1 7 i) := fun i => ⟨⟨rfl, by rw [sI_n _ _ _ _ (by decide), lyS_n _ _ _ _ (by decide)]; simp [pan1, sI, sJ, u2]⟩, fun hi => by rw [sI_n _ _ _ _ (by decide), lyS_n _ _ _ _ (by decide)]; simp [pan1, sI, sJ, u2, hi]⟩
  have r8 : ∀ i, (i = i ∧ (sI (lyS (pan1 s b p0 p1 p2 p3) (nat p0) (acK p1 p2 p3) (lnK p1 p2 p3)) 4 0 (nI (b + 1))).1 8 b = p3) ∧ (i ≠ b → (sI (lyS (pan1 s b p0 p1 p2 p3) (nat p0) (acK p1 p2 p3) (lnK p1 p2 p3)) 4 0 (nI (b + 1))).1 8 i = s.1 8 i) := fun i => ⟨⟨rfl, by rw [sI_n _ _ _ _ (by decide), lyS_n _ _ _ _ (by decide)]; simp [pan1, sI, sJ, u2]⟩, fun hi => by rw [sI_n _ _ _ _ (by decide), lyS_n _ _ _ _ (by decide)]; simp [pan1, sI, sJ, u2, hi]⟩
  have e : ∀ k, k ∉ [4, 5, 6, 7, 8, 39, 40, 41, 43] → (sI (lyS (pan1 s b p0 p1 p2 p3) (nat p0) (acK p1 p2 p3) (lnK p1 p2 p3)) 4 0 (nI (b + 1))).1 k = s.1 k := by
    intro k hk
    simp only [List.mem_cons, List.not_mem_nil, or_false, not_or] at hk
    refine funext fun j => ?_
    rw [sI_n _ _ _ _ (by omega), lyS_n _ _ _ _ (by omega)]
    simp [pan1, sI, sJ, u2, hk]
  refine ⟨a, b + 1, c, g, ns, n, ?_, ?_, ?_, ?_, ?_, ?_, ?_, ?_, ?_⟩
  · rw [e 0 (by decide), e 1 (by decide), e 2 (by decide), e 3 (by decide)]; exact i1
  · obtain ⟨g1, g2, g3, g4, g5, g6⟩ := i2
    refine ⟨by simp [sI, u2], by omega, fun f hf => ?_, fun i hi => ?_, fun i hi => ?_, fun l hl => ?_⟩
    · show u2 X.2.2.1 2 b true 2 f = _
      by_cases z : f = b
      · subst z; rw [u2_s]; exact (decide_eq_true (by omega)).symm
      · rw [u2_k _ _ z, g3 f hf]; exact decide_eq_decide.mpr (by omega)
    · show u2 X.2.1 14 b true 14 i = false
      rw [u2_k _ _ (by omega)]; exact g4 i (by omega)
    · by_cases z : i = b
      · subst z
        obtain ⟨⟨hw, hh, hal⟩, hbr⟩ := ho
        obtain ⟨k, hk3, ek⟩ := (btw_lit (M := 2) (N := 2) rfl).mp hal
        refine ⟨j, k, hj, by omega, (r5 i).1.2.trans ej, (r8 i).1.2.trans ek, by rw [(r6 i).1.2]; exact hw, by rw [(r7 i).1.2]; exact hh, fun z => ?_⟩
        rw [(r6 i).1.2, (r7 i).1.2]; subst z
        exact Decidable.not_not.mp (fun q => hbr ⟨ek, q⟩)
      · rw [(r5 i).2 z, (r6 i).2 z, (r7 i).2 z, (r8 i).2 z]; exact g5 i (by omega)
    · have eA : acrS (sI (lyS (pan1 s b p0 p1 p2 p3) (nat p0) (acK p1 p2 p3) (lnK p1 p2 p3)) 4 0 (nI (b + 1))) b = acK p1 p2 p3 := by simp only [acrS, (r6 b).1.2, (r7 b).1.2, (r8 b).1.2]; rfl
      have eL : lenS (sI (lyS (pan1 s b p0 p1 p2 p3) (nat p0) (acK p1 p2 p3) (lnK p1 p2 p3)) 4 0 (nI (b + 1))) b = lnK p1 p2 p3 := by simp only [lenS, (r6 b).1.2, (r7 b).1.2, (r8 b).1.2]; rfl
      rw [← roll_RS, rollF, rollF_eq (s := s) b (fun i hi => ⟨(r5 i).2 (by omega), (r6 i).2 (by omega), (r7 i).2 (by omega), (r8 i).2 (by omega)⟩), roll_RS, g6 l hl, eA, eL, show (sI (lyS (pan1 s b p0 p1 p2 p3) (nat p0) (acK p1 p2 p3) (lnK p1 p2 p3)) 4 0 (nI (b + 1))).1 5 b = nI j from (r5 b).1.2.trans ej]
      have x39 : ∀ k, k = 39 ∨ k = 40 ∨ k = 41 → ∀ l, (sI (lyS (pan1 s b p0 p1 p2 p3) (nat p0) (acK p1 p2 p3) (lnK p1 p2 p3)) 4 0 (nI (b + 1))).1 k l = (lyS (pan1 s b p0 p1 p2 p3) (nat p0) (acK p1 p2 p3) (lnK p1 p2 p3)).1 k l := fun k hk l => u2_n _ _ _ _ (by omega)
      rw [x39 39 (by decide), x39 40 (by decide), x39 41 (by decide), en]
      have y39 : ∀ l, (pan1 s b p0 p1 p2 p3).1 39 l = s.1 39 l ∧ (pan1 s b p0 p1 p2 p3).1 40 l = s.1 40 l ∧ (pan1 s b p0 p1 p2 p3).1 41 l = s.1 41 l := fun l => ⟨by simp [pan1, sI, sJ, u2], by simp [pan1, sI, sJ, u2], by simp [pan1, sI, sJ, u2]⟩
      by_cases z : l = j
      · subst z
        rw [if_pos rfl, lyS_at (ln_pos ho).1, (y39 l).1, (y39 l).2.1, (y39 l).2.2]
      · rw [if_neg (fun q => z (nI_inj (by omega) (by omega) q).symm), lyS_o z, lyS_o z, lyS_o z, (y39 l).1, (y39 l).2.1, (y39 l).2.2]
  · rw [e 9 (by decide), e 10 (by decide), e 11 (by decide), e 13 (by decide)]
    obtain ⟨g1, g2, g3, g4, g5⟩ := i3
    exact ⟨g1, g2, g3, g4, fun i hi => (by obtain ⟨x, y, z1, z2, z3⟩ := g5 i hi; exact ⟨x, y, by omega, by omega, z3⟩)⟩
  · rw [e 19 (by decide), e 21 (by decide), show (sI (lyS (pan1 s b p0 p1 p2 p3) (nat p0) (acK p1 p2 p3) (lnK p1 p2 p3)) 4 0 (nI (b + 1))).2 23 = s.2 23 from by rw [sI_2, lyS_2]; refine funext fun j => ?_; simp [pan1, sI, sJ, u2]]; exact i4
  · rw [e 28 (by decide), e 29 (by decide), e 30 (by decide), e 31 (by decide), e 32 (by decide), e 33 (by decide), e 34 (by decide), e 35 (by decide), e 36 (by decide), e 37 (by decide)]; exact i5
  · rw [e 34 (by decide), e 35 (by decide), e 36 (by decide), e 44 (by decide), e 45 (by decide)]; exact ⟨i6.1, by have := i6.2.1; omega, i6.2.2⟩
  · rw [e 24 (by decide), e 25 (by decide), e 26 (by decide)]; exact i7
  · rw [e 27 (by decide)]; exact i8
  · exact i9.add (by decide)
