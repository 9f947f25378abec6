/-! canopies: what every call of a turn leaves -/
theorem of_0 (s : SG) (j : Nat) : ofS s j 0 = s.1 29 j := by unfold ofS; rw [if_pos rfl]
theorem of_1 (s : SG) (j : Nat) : ofS s j 1 = s.1 32 j := by unfold ofS; rw [if_neg (by decide), if_pos rfl]
theorem of_2 (s : SG) (j : Nat) : ofS s j 2 = s.1 33 j := by unfold ofS; rw [if_neg (by decide), if_neg (by decide), if_pos rfl]
theorem of_3 (s : SG) (j : Nat) : ofS s j 3 = s.1 34 j := by unfold ofS lifeS; rw [if_neg (by decide), if_neg (by decide), if_neg (by decide), if_pos rfl]
theorem of_4 (s : SG) (j : Nat) : ofS s j 4 = s.1 35 j := by unfold ofS lifeS; rw [if_neg (by decide), if_neg (by decide), if_neg (by decide), if_neg (by decide), if_pos rfl]
theorem of_5 (s : SG) (j : Nat) : ofS s j 5 = s.1 36 j := by unfold ofS lifeS; rw [if_neg (by decide), if_neg (by decide), if_neg (by decide), if_neg (by decide), if_neg (by decide)]
theorem kof {n k : Nat} {p : Int32} (h : k < n) (hn : n < 1000) (hp : btw p 0 5) : kOf n (nI k) p 0 5 = 0 := by unfold kOf; rw [if_pos (btw_n h hn), if_pos hp]
theorem kop {n k : Nat} (h : k < n) (hn : n < 1000) : kOp n (nI k) = 0 := by unfold kOp; rw [if_pos (btw_n h hn)]
def FR (s s1 : SG) : Prop := (∀ k, k < 28 → k ≠ 3 → s1.1 k = s.1 k) ∧ s1.1 28 0 = s.1 28 0 ∧ s1.2 20 = s.2 20 ∧ s1.2 23 = s.2 23
theorem FR.rf (s : SG) : FR s s := ⟨fun _ _ _ => rfl, rfl, rfl, rfl⟩
theorem FR.of {s s1 : SG} (e : EQ s s1) : FR s s1 := ⟨fun k h _ => e.1 k (by omega) (by omega), congrFun (e.1 28 (by decide) (by decide)) 0, e.2 20 (by decide), e.2 23 (by decide)⟩
theorem FR.tr {s s1 s2 : SG} (h : FR s s1) (g : FR s1 s2) : FR s s2 := ⟨fun k a b => (g.1 k a b).trans (h.1 k a b), g.2.1.trans h.2.1, g.2.2.1.trans h.2.2.1, g.2.2.2.trans h.2.2.2⟩
theorem FR.sI (s : SG) {k : Nat} (i : Nat) (v : Int32) (h : 28 < k ∨ k = 3) : FR s (sI s k i v) := ⟨fun j a b => sI_r _ _ _ (by omega), by rw [sI_r _ _ _ (by omega)], rfl, rfl⟩
theorem LI.fr {X X1 : XT} {s s1 : SG} {M : MT} {t : Nat} (h : LI X s M t) (hI : INV X1 s1 (2 * (t + 1))) (hC : CB s1) (f : FR s s1) : LI X1 s1 M (t + 1) := by
  obtain ⟨-, g2, g3, g4, g5, g6, g7⟩ := h
  obtain ⟨hr, h28, h20, h23⟩ := f
  refine ⟨hI, g2.rows (fun k hk => hr k (by omega) (by omega)), g3.rows (fun k hk => hr k (by omega) (by omega)) (fun k hk => by rcases hk with rfl | rfl; exact h20; exact h23), hC, by rw [hr 27 (by decide) (by decide)]; omega, ?_, g7.rows (fun k hk => hr k (by omega) (by omega)) h20⟩
  obtain ⟨m0, m1, m2, m3, m4, m5⟩ := g6
  exact ⟨by rw [hr 0 (by decide) (by decide)]; exact m0, by rw [hr 4 (by decide) (by decide)]; exact m1, by rw [hr 9 (by decide) (by decide)]; exact m2, by rw [hr 19 (by decide) (by decide)]; exact m3, by rw [h28]; exact m4, by rw [hr 27 (by decide) (by decide)]; exact m5⟩
theorem FR.nC {s s1 : SG} (f : FR s s1) : nC s1 = nC s := nC_eq f.2.1
theorem FR.nA {s s1 : SG} (f : FR s s1) : nA s1 = nA s := nA_eq (f.1 0 (by decide) (by decide))
theorem CB.eq {s s1 : SG} (h : CB s) (e : EQ s s1) : CB s1 := by
  refine ⟨?_, fun i hi => e.ce (h.2 i (by rw [← e.nC]; exact hi))⟩
  have := h.1
  rw [e.nA, e.1 3 (by decide) (by decide)]; exact this
theorem r_part {X : XT} {s s1 : SG} {M : MT} {t k : Nat} {p1 : Int32} (hL : LI X s M t) (ht : t < 200) (hk : k < nC s) (hp : btw p1 0 255) (h0 : ¬ (s.1 30 k = 8 ∨ ¬ s.1 32 k = -1)) (e : EQ s s1) (G : GT) : LI X (gPart s1 k (nat (s1.1 30 k)) p1) M (t + 1) ∧ nC (gPart s1 k (nat (s1.1 30 k)) p1) = nC s ∧ (opS s k = -1 → opS (gPart s1 k (nat (s1.1 30 k)) p1) k = -1) ∧ ∃ p, p < 8 ∧ s1.1 30 k = nI p := by
  have hI1 := hL.1.eq e M G
  have hq : 2 * t < 512 := by omega
  have hkc : k < nC s1 := by rw [e.nC]; exact hk
  obtain ⟨i1, i2, i3, i4, i5, i6, i7, i8, i9⟩ := INV.num (by omega) hI1
  obtain ⟨p, l, q1, q2, q3, q4⟩ := i5.2.2.2.2.1 k hkc
  have c6 := i5.2.1
  have e30 : s1.1 30 k = s.1 30 k := by rw [e.1 30 (by decide) (by decide)]
  have hp8 : p < 8 := by
    refine Nat.lt_of_le_of_ne q1 (fun z => h0 (Or.inl ?_))
    rw [← e30, q2, z]; rfl
  have h32 : s1.1 32 k = -1 := by rw [e.1 32 (by decide) (by decide)]; exact Classical.byContradiction (fun z => h0 (Or.inr z))
  have hnp : nat (s1.1 30 k) = p := by rw [q2]; exact nat_nI (by omega)
  have hnk : nat (nI k) = k := nat_nI (by omega)
  have hkp : kPart s1 (nC s1) (nI k) p1 = 0 := by
    unfold kPart
    rw [hnk, if_pos (btw_n hkc (by omega)), if_pos hp, if_neg]
    rintro (z | z)
    · rw [q2] at z
      have := (nI_eq (a := p) (b := 8) (by omega) (by decide)).mp z
      omega
    · exact z h32
  have hI2 := inv_part (X1 := X) hI1 i5.1 i5.2.1 hkp rfl rfl
  rw [hnk, hnp] at hI2
  rw [hnp]
  have f : FR s (gPart s1 k p p1) := (FR.of e).tr ((FR.sI s1 _ _ (by decide)).tr (FR.sI _ _ _ (by decide)))
  refine ⟨hL.fr (hI2.up (by omega)) (CB.part hI1 hq (hL.2.2.2.1.eq e) hkc hp8 h32) f, f.nC, fun ho => ?_, p, hp8, q2⟩
  refine jam_up hp8 q2 (sI_at _ _ _ _) (fun i hi => ?_) ((e.op k).trans ho)
  unfold gPart
  rw [sI_r _ _ _ (by decide), sI_of _ _ _ (by omega)]
theorem r_seal {X : XT} {s s1 : SG} {M : MT} {t k : Nat} {p1 : Int32} (hL : LI X s M t) (ht : t < 200) (hk : k < nC s) (hp : btw p1 0 4) (ho : oSeal s k) (e : EQ s s1) (G : GT) : INV X (noteS (gSeal s1 k p1) k 3 (nN s1)) (2 * t + 1) ∧ CB (noteS (gSeal s1 k p1) k 3 (nN s1)) ∧ FR s (noteS (gSeal s1 k p1) k 3 (nN s1)) ∧ (noteS (gSeal s1 k p1) k 3 (nN s1)).1 32 k = p1 ∧ (noteS (gSeal s1 k p1) k 3 (nN s1)).1 33 k = s.1 27 0 ∧ (noteS (gSeal s1 k p1) k 3 (nN s1)).1 3 (nat ((noteS (gSeal s1 k p1) k 3 (nN s1)).1 29 k)) = 0 := by
  have hI1 := hL.1.eq e M G
  have hq : 2 * t < 512 := by omega
  have hkc : k < nC s1 := by rw [e.nC]; exact hk
  obtain ⟨i1, i2, i3, i4, i5, i6, i7, i8, i9⟩ := INV.num (by omega) hI1
  have ho1 : oSeal s1 k := by
    unfold oSeal at ho ⊢
    rw [e.1 32 (by decide) (by decide), e.1 3 (by decide) (by decide), e.1 29 (by decide) (by decide), e.1 30 (by decide) (by decide), e.op, e.1 37 (by decide) (by decide)]
    exact ho
  have hI2 := inv_seal (X1 := X) (p0 := 0) hI1 i5.1 i5.2.1 i6.1 (by have := i6.2.1; omega) (by omega) hkc hp rfl rfl
  refine ⟨hI2, CB.seal hI1 hq (hL.2.2.2.1.eq e) hkc hp ho1, (FR.of e).tr ?_, ?_, ?_, ?_⟩
  · unfold noteS gSeal
    exact (((((FR.sI _ _ _ (by decide)).tr (FR.sI _ _ _ (by decide))).tr (FR.sI _ _ _ (by decide))).tr (FR.sI _ _ _ (by decide))).tr (FR.sI _ _ _ (by decide)))
  · unfold noteS gSeal
    rw [sI_r _ _ _ (by decide), sI_r _ _ _ (by decide), sI_r _ _ _ (by decide), sI_r _ _ _ (by decide), sI_at]
  · unfold noteS gSeal
    rw [sI_r _ _ _ (by decide), sI_r _ _ _ (by decide), sI_r _ _ _ (by decide), sI_at, e.1 27 (by decide) (by decide)]
  · unfold noteS gSeal
    rw [sI_r _ _ _ (by decide), sI_r _ _ _ (by decide), sI_r _ _ _ (by decide), sI_r _ _ _ (by decide), sI_r _ _ _ (by decide), sI_r _ _ _ (by decide), sI_r _ _ _ (by decide), sI_r _ _ _ (by decide), sI_r _ _ _ (by decide), sI_r _ _ _ (by decide)]
    exact ho1.2.1
theorem r_use {X : XT} {s s1 : SG} {q k : Nat} (hI : INV X s q) (hq : q < 512) (hC : CB s) (hk : k < nC s) (ho : ¬ s.1 32 k = -1) (e : EQ s s1) (M : MT) (G : GT) : INV X (noteS (gUse s1 k) k 4 (nN s1)) (q + 1) ∧ CB (noteS (gUse s1 k) k 4 (nN s1)) ∧ FR s (noteS (gUse s1 k) k 4 (nN s1)) ∧ (noteS (gUse s1 k) k 4 (nN s1)).1 32 k = -1 ∧ (noteS (gUse s1 k) k 4 (nN s1)).1 35 k = s.1 35 k + 1 := by
  have hI1 := hI.eq e M G
  have hkc : k < nC s1 := by rw [e.nC]; exact hk
  obtain ⟨i1, i2, i3, i4, i5, i6, i7, i8, i9⟩ := INV.num (by omega) hI1
  have ho1 : ¬ s1.1 32 k = -1 := by rw [e.1 32 (by decide) (by decide)]; exact ho
  have hI2 := inv_use (X1 := X) (p0 := 0) hI1 i5.1 i5.2.1 i6.1 (by have := i6.2.1; omega) (by omega) hkc rfl rfl
  refine ⟨hI2, CB.use hI1 hq (hC.eq e) hkc ho1, (FR.of e).tr ?_, ?_, ?_⟩
  · unfold noteS gUse
    exact (((((FR.sI _ _ _ (by decide)).tr (FR.sI _ _ _ (by decide))).tr (FR.sI _ _ _ (by decide))).tr (FR.sI _ _ _ (by decide))).tr (FR.sI _ _ _ (by decide)))
  · unfold noteS gUse
    rw [sI_r _ _ _ (by decide), sI_r _ _ _ (by decide), sI_r _ _ _ (by decide), sI_r _ _ _ (by decide), sI_at]
  · unfold noteS gUse
    rw [sI_r _ _ _ (by decide), sI_r _ _ _ (by decide), sI_at, e.1 35 (by decide) (by decide)]
theorem r_wet {X : XT} {s s1 : SG} {M : MT} {t k : Nat} (hL : LI X s M t) (ht : t < 200) (hk : k < nC s) (e : EQ s s1) (G : GT) : LI X (noteS (gWet s1 k 0) k 5 (nN s1)) M (t + 1) ∧ nC (noteS (gWet s1 k 0) k 5 (nN s1)) = nC s ∧ (noteS (gWet s1 k 0) k 5 (nN s1)).1 36 k = s.1 36 k + 1 ∧ (0 : Int64) < ((gWet s1 k 0).1 37 k).toInt64 ∧ ((gWet s1 k 0).1 37 k).toInt64 ≤ (s.1 36 k + 1).toInt64 := by
  have hI1 := hL.1.eq e M G
  have hq : 2 * t < 512 := by omega
  have hkc : k < nC s1 := by rw [e.nC]; exact hk
  obtain ⟨i1, i2, i3, i4, i5, i6, i7, i8, i9⟩ := INV.num (by omega) hI1
  have hI2 := inv_wet (X1 := X) (p0 := 0) hI1 i5.1 i5.2.1 i6.1 (by have := i6.2.1; omega) (by omega) hkc (rfl : (0 : Int32) = 0) rfl rfl
  have f : FR s (noteS (gWet s1 k 0) k 5 (nN s1)) := (FR.of e).tr (by
    unfold noteS gWet
    exact (((FR.sI _ _ _ (by decide)).tr (FR.sI _ _ _ (by decide))).tr (FR.sI _ _ _ (by decide))).tr (FR.sI _ _ _ (by decide)))
  obtain ⟨-, -, ⟨z, u, w, v, z1, z2, z3, z4, z5, z6, z7, z8⟩, -, -⟩ := hL.2.2.2.1.2 k hk
  have e37 : (gWet s1 k 0).1 37 k = nI (v + 1) := by
    unfold gWet
    rw [sI_at, if_pos rfl, e.1 37 (by decide) (by decide), z4, nI_1]
  refine ⟨hL.fr (hI2.up (by omega)) (CB.wet hI1 hq (hL.2.2.2.1.eq e) hkc) f, f.nC, ?_, ?_, ?_⟩
  · unfold noteS gWet
    rw [sI_r _ _ _ (by decide), sI_r _ _ _ (by decide), sI_r _ _ _ (by decide), sI_at, if_pos rfl, e.1 36 (by decide) (by decide)]
  · rw [e37, Int64.lt_iff_toInt_lt, Int32.toInt_toInt64, nI_toInt (by omega)]
    have : (0 : Int64).toInt = 0 := rfl
    omega
  · rw [e37, z3, nI_1]
    exact w_le ((nI_leI (by omega) (by omega)).mpr (by omega))
theorem r_air {X : XT} {s s1 : SG} {M : MT} {t k : Nat} (hL : LI X s M t) (ht : t < 200) (hk : k < nC s) (e : EQ s s1) (G : GT) : LI X (sI s1 37 k 0) M (t + 1) ∧ nC (sI s1 37 k 0) = nC s ∧ (sI s1 37 k 0).1 36 k = s.1 36 k ∧ (gWet s1 k 1).1 37 k = 0 := by
  have hI1 := hL.1.eq e M G
  have hq : 2 * t < 512 := by omega
  have hkc : k < nC s1 := by rw [e.nC]; exact hk
  obtain ⟨i1, i2, i3, i4, i5, i6, i7, i8, i9⟩ := INV.num (by omega) hI1
  have hI2 := inv_air (X1 := X) hI1 i5.1 i5.2.1 hkc rfl rfl
  have f : FR s (sI s1 37 k 0) := (FR.of e).tr (FR.sI _ _ _ (by decide))
  refine ⟨hL.fr (hI2.up (by omega)) (CB.air hI1 hq (hL.2.2.2.1.eq e) hkc) f, f.nC, by rw [sI_r _ _ _ (by decide), e.1 36 (by decide) (by decide)], ?_⟩
  unfold gWet
  rw [sI_at, if_neg (by decide)]
theorem r_find1 {X : XT} {s s1 : SG} {M : MT} {t l : Nat} (hL : LI X s M t) (ht : t < 200) (hl : l < nA s) (h3 : ¬ s.1 3 l = 1) (e : EQ s s1) (G : GT) : INV X (gFind s1 (nC s1) l 1).1 (2 * t + 1) ∧ CB (gFind s1 (nC s1) l 1).1 ∧ FR s (gFind s1 (nC s1) l 1).1 ∧ (gFind s1 (nC s1) l 1).1.1 29 = s.1 29 ∧ (∀ i, i < nC s → (gFind s1 (nC s1) l 1).1.1 29 i = nI l → (gFind s1 (nC s1) l 1).1.1 32 i = -1) ∧ (gFind s1 (nC s1) l 1).1.1 3 l = 1 ∧ (gFind s1 (nC s1) l 1).2 = slF s l (nC s) := by
  have hI1 := hL.1.eq e M G
  have hq : 2 * t < 512 := by omega
  have hlc : l < nA s1 := by rw [e.nA]; exact hl
  obtain ⟨i1, i2, i3, i4, i5, i6, i7, i8, i9⟩ := INV.num (by omega) hI1
  have a6 := i1.2.1
  have hnl : nat (nI l) = l := nat_nI (by omega)
  have hk : kFind s1 (nA s1) (nI l) 1 = 0 := by
    unfold kFind
    rw [hnl, if_pos (btw_n hlc (by omega)), if_neg]
    rw [e.1 3 (by decide) (by decide)]; exact h3
  have hI2 := inv_find (X1 := X) hI1 i1.1 i1.2.1 i5.1 i5.2.1 hk rfl rfl
  rw [hnl] at hI2
  have eg : gFind s1 (nC s1) l 1 = losF (sI s1 3 l 1) l (nC s1) := by unfold gFind; rw [if_neg (by decide)]
  rw [eg] at hI2 ⊢
  obtain ⟨g1, g2, g3⟩ := CB.find1 hI1 hq (hL.2.2.2.1.eq e) hlc
  have hr : ∀ k, k ≠ 3 → k ≠ 32 → k ≠ 33 → (losF (sI s1 3 l 1) l (nC s1)).1.1 k = s1.1 k := fun k a b c => by
    rw [los_r b c, sI_r _ _ _ a]
  have h2 : ∀ n, (losF (sI s1 3 l 1) l n).1.2 = s1.2 := by
    intro n
    induction n with
    | zero => rfl
    | succ n ih => rw [losF]; split; exact ih; exact ih
  refine ⟨hI2, g1, (FR.of e).tr ⟨fun k a b => hr k b (by omega) (by omega), by rw [hr 28 (by decide) (by decide) (by decide)], by rw [h2], by rw [h2]⟩, by rw [hr 29 (by decide) (by decide) (by decide), e.1 29 (by decide) (by decide)], fun i hi h => g2 i (by rw [e.nC]; exact hi) (by rw [hr 29 (by decide) (by decide) (by decide)] at h; exact h), g3, ?_⟩
  rw [los_n, e.nC]
  have : ∀ n, slF (sI s1 3 l 1) l n = slF s l n := by
    intro n
    induction n with
    | zero => rfl
    | succ n ih => rw [slF, slF, ih, sI_r _ _ _ (by decide), sI_r _ _ _ (by decide), e.1 29 (by decide) (by decide), e.1 32 (by decide) (by decide)]
  exact this _
theorem r_held {X : XT} {s : SG} {q l : Nat} (hI : INV X s q) (hq : q < 512) (hC : CB s) (hl : l < nA s) (h3 : s.1 3 l = 1) : ∀ i, i < nC s → s.1 29 i = nI l → s.1 32 i = -1 := by
  obtain ⟨i1, i2, i3, i4, i5, i6, i7, i8, i9⟩ := INV.num (by omega) hI
  have a6 := i1.2.1
  intro i hi h29
  obtain ⟨c1, c2, c3, c4, c5⟩ := hC.2 i hi
  refine (i5.2.2.2.2.2 i hi).mpr (c5 ?_)
  rw [h29, nat_nI (by omega), h3]
  decide
theorem r_find0 {X : XT} {s s1 : SG} {q l : Nat} (hI : INV X s q) (hq : q < 512) (hC : CB s) (hl : l < nA s) (h3 : s.1 3 l = 1) (e : EQ s s1) (M : MT) (G : GT) : INV X (gFind s1 (nC s1) l 0).1 (q + 1) ∧ CB (gFind s1 (nC s1) l 0).1 ∧ FR s (gFind s1 (nC s1) l 0).1 ∧ (gFind s1 (nC s1) l 0).1.1 3 l = 0 ∧ (gFind s1 (nC s1) l 0).2 = 0 := by
  have hI1 := hI.eq e M G
  have hlc : l < nA s1 := by rw [e.nA]; exact hl
  obtain ⟨i1, i2, i3, i4, i5, i6, i7, i8, i9⟩ := INV.num (by omega) hI1
  have a6 := i1.2.1
  have hnl : nat (nI l) = l := nat_nI (by omega)
  have hk : kFind s1 (nA s1) (nI l) 0 = 0 := by
    unfold kFind
    rw [hnl, if_pos (btw_n hlc (by omega)), if_neg]
    rw [e.1 3 (by decide) (by decide), h3]; decide
  have hI2 := inv_find (X1 := X) hI1 i1.1 i1.2.1 i5.1 i5.2.1 hk rfl rfl
  rw [hnl] at hI2
  have eg : gFind s1 (nC s1) l 0 = (sI s1 3 l 0, 0) := by unfold gFind; rw [if_pos rfl]
  rw [eg] at hI2 ⊢
  exact ⟨hI2, CB.find0 hI1 hq (hC.eq e) hlc, (FR.of e).tr (FR.sI _ _ _ (by decide)), sI_at _ _ _ _, rfl⟩
theorem r_can {X X1 : XT} {s s1 : SG} {M : MT} {t l : Nat} (hL : LI X s M t) (ht : t < 200) (hl : l < nA s) (h6 : ¬ nC s = 6) (e : EQ s s1) (G : GT) (x1 : X1.2.1 = u2 (u2 X.2.1 18 (nC s1) true) 17 (nC s1) true) (x2 : X1.2.2.1 = u2 X.2.2.1 5 (nC s1) true) : LI X1 (gCan s1 (nC s1) (nI l)) (mS M 4 (nI (nC s + 1))) (t + 1) ∧ nC (gCan s1 (nC s1) (nI l)) = nC s + 1 ∧ opS (gCan s1 (nC s1) (nI l)) (nC s) = 0 ∧ (gCan s1 (nC s1) (nI l)).1 29 (nC s) = nI l := by
  have hL1 := hL.eq e G
  obtain ⟨h1, h2, h3, h4, h5, hM, h7⟩ := hL1
  have hq : 2 * t < 512 := by omega
  have hlc : l < nA s1 := by rw [e.nA]; exact hl
  obtain ⟨i1, i2, i3, i4, i5, i6, i7, i8, i9⟩ := INV.num (by omega) h1
  have a6 := i1.2.1
  have c6 := i5.2.1
  have ec : nC s1 = nC s := e.nC
  have hk : kCan (nA s1) (nC s1) (nI l) = 0 := by
    unfold kCan
    rw [if_pos (btw_n hlc (by omega)), if_neg (by rw [ec]; exact h6)]
  have hI2 := inv_canopy (X1 := X1) h1 i1.1 i1.2.1 i5.1 i5.2.1 hk x1 x2
  have hC2 := CB.can (p0 := nI l) h1 hq h4
  rw [ec] at hI2 hC2 ⊢
  have hr : ∀ k, k ≠ 28 → k ≠ 29 → k ≠ 32 → k ≠ 33 → (gCan s1 (nC s) (nI l)).1 k = s1.1 k := fun k a b c d => by
    unfold gCan
    rw [sI_r _ _ _ a, sI_r _ _ _ d, sI_r _ _ _ c, sI_r _ _ _ b]
  have r28 : (gCan s1 (nC s) (nI l)).1 28 0 = nI (nC s + 1) := sI_at _ _ _ _
  have hq' : ∀ k, k < 28 → (gCan s1 (nC s) (nI l)).1 k = s1.1 k := fun k a => hr k (by omega) (by omega) (by omega) (by omega)
  refine ⟨⟨hI2.up (by omega), h2.rows (fun k hk => hq' k (by omega)), h3.rows (fun k hk => hq' k (by omega)) (fun k hk => rfl), hC2, by rw [hq' 27 (by decide)]; omega, ?_, ?_⟩, ?_, ?_, ?_⟩
  · obtain ⟨m0, m1, m2, m3, m4, m5⟩ := hM
    exact ⟨by rw [hq' 0 (by decide)]; exact m0, by rw [hq' 4 (by decide)]; exact m1, by rw [hq' 9 (by decide)]; exact m2, by rw [hq' 19 (by decide)]; exact m3, by rw [r28]; rfl, by rw [hq' 27 (by decide)]; exact m5⟩
  · have := h7.rows (s1 := gCan s1 (nC s) (nI l)) (fun k hk => hq' k (by omega)) rfl
    exact this
  · show nat ((gCan s1 (nC s) (nI l)).1 28 0) = _
    rw [r28]; exact nat_nI (by omega)
  · have z30 := (i5.2.2.2.1 (nC s) (by omega)).2.2.1
    unfold opS rndS
    rw [hr 30 (by decide) (by decide) (by decide) (by decide), z30]
    rfl
  · unfold gCan
    rw [sI_r _ _ _ (by decide), sI_r _ _ _ (by decide), sI_r _ _ _ (by decide), sI_at]
theorem r_pass {X : XT} {s s1 : SG} {M : MT} {t d : Nat} (hL : LI X s M t) (ht : t < 200) (hd : 1 ≤ d ∧ d ≤ 90) (e : EQ s s1) (G : GT) : LI X (sI s1 27 0 (s1.1 27 0 + nI d)) (mS M 5 (s.1 27 0 + nI d)) (t + 1) := by
  have hL1 := hL.eq e G
  obtain ⟨h1, h2, h3, h4, h5, hM, h7⟩ := hL1
  have hq : 2 * t < 512 := by omega
  obtain ⟨i1, i2, i3, i4, i5, i6, i7, i8, i9⟩ := INV.num (by omega) h1
  have e27 : s1.1 27 0 = s.1 27 0 := by rw [e.1 27 (by decide) (by decide)]
  have hge : 0 ≤ (s1.1 27 0).toInt := by
    have := i8.1
    rw [Int32.le_iff_toInt_le] at this
    exact this
  have ed : (s1.1 27 0 + nI d).toInt = (s1.1 27 0).toInt + d := by
    rw [Int32.toInt_add, nI_toInt (by omega)]
    exact Int.bmod_eq_of_le (by omega) (by omega)
  have hup : s1.1 27 0 ≤ s1.1 27 0 + nI d := by rw [Int32.le_iff_toInt_le, ed]; omega
  have hk : kPass s1 (nI d) = 0 := by
    unfold kPass
    rw [if_pos (show btw (nI d) 1 400 from bt_n (a := 1) (b := 400) (by omega) (by decide)), if_pos]
    rw [Int32.le_iff_toInt_le, ed]
    have : (100000 : Int32).toInt = 100000 := rfl
    omega
  have hI2 := inv_pass (X1 := X) h1 hk rfl rfl
  have hr : ∀ k, k ≠ 27 → (sI s1 27 0 (s1.1 27 0 + nI d)).1 k = s1.1 k := fun k a => sI_r _ _ _ a
  refine ⟨hI2.up (by omega), h2.rows (fun k hk => hr k (by omega)), h3.rows (fun k hk => hr k (by omega)) (fun k hk => rfl), ⟨?_, fun i hi => ?_⟩, ?_, ?_, ?_⟩
  · rw [nA_eq (hr 0 (by decide)), hr 3 (by decide)]; exact h4.1
  · rw [nC_eq (by rw [hr 28 (by decide)])] at hi
    obtain ⟨c1, c2, c3, c4, c5⟩ := h4.2 i hi
    unfold CE
    rw [op_rows (s1 := sI s1 27 0 (s1.1 27 0 + nI d)) (hr 31 (by decide)) (hr 30 (by decide)), hr 32 (by decide), hr 33 (by decide), hr 34 (by decide), hr 35 (by decide), hr 36 (by decide), hr 37 (by decide), hr 29 (by decide), hr 3 (by decide), sI_at]
    refine ⟨c1, ?_, c3, c4, c5⟩
    rcases c2 with c | c
    · exact Or.inl c
    · exact Or.inr ⟨c.1, Int32.le_trans c.2 hup⟩
  · rw [sI_at, ed]; omega
  · obtain ⟨m0, m1, m2, m3, m4, m5⟩ := hM
    exact ⟨by rw [hr 0 (by decide)]; exact m0, by rw [hr 4 (by decide)]; exact m1, by rw [hr 9 (by decide)]; exact m2, by rw [hr 19 (by decide)]; exact m3, by rw [hr 28 (by decide)]; exact m4, by rw [sI_at, e27]; rfl⟩
  · have := h7.rows (s1 := sI s1 27 0 (s1.1 27 0 + nI d)) (fun k hk => hr k (by omega)) rfl
    exact this
