/-! canopies: what stays, what jams -/
theorem nI_and : ∀ a, a < 256 → ∀ b, b < 256 → nI (a &&& b) = nI a &&& nI b := by decide +kernel
theorem bt_cmp : ∀ o, o < 256 → ∀ i, i < 8 → (255 - o).testBit i = !o.testBit i := by decide +kernel
theorem opN_bit {s : SG} {j k : Nat} : ∀ p i, (opN s j k p).testBit i = true → i < p ∧ k.testBit i = true ∧ s.1 31 (8 * j + i) &&& nI k = 0 := by
  intro p
  induction p with
  | zero => intro i h; rw [opN, Nat.zero_testBit] at h; cases h
  | succ p ih =>
    intro i h
    rw [opN, Nat.testBit_or, Bool.or_eq_true] at h
    rcases h with h | h
    · obtain ⟨a, b⟩ := ih i h
      exact ⟨by omega, b⟩
    · split at h
      · next c =>
        rw [Nat.testBit_two_pow, decide_eq_true_iff] at h
        subst h
        exact ⟨Nat.lt_succ_self _, c.1, c.2⟩
      · rw [Nat.zero_testBit] at h; cases h
theorem opN_0 {s : SG} {j k : Nat} : ∀ p, opN s j k p = 0 → ∀ i, i < p → k.testBit i = true → ¬ s.1 31 (8 * j + i) &&& nI k = 0 := by
  intro p
  induction p with
  | zero => intro _ i hi; omega
  | succ p ih =>
    intro h i hi hb hz
    rw [opN, Nat.or_eq_zero_iff] at h
    by_cases e : i = p
    · subst e
      rw [if_pos ⟨hb, hz⟩] at h
      have := Nat.two_pow_pos i
      omega
    · exact ih h.1 i (by omega) hb hz
def blk (s : SG) (j p K : Nat) : Prop := ∀ i, i < p → K.testBit i = true → ¬ s.1 31 (8 * j + i) &&& nI K = 0
theorem jam_1 {s : SG} {j p K : Nat} (hp : p ≤ 8) (hK : K ≠ 0) (hK8 : K < 256) (hb : blk s j p K) : ∀ f k, k < 256 → K &&& k = K → rndF s j p f k = -1 := by
  intro f
  induction f with
  | zero => intro k _ _; rfl
  | succ f ih =>
    intro k hk hs
    rw [rndF]
    split
    · next c => subst c; rw [Nat.and_zero] at hs; exact absurd hs.symm hK
    · split
      · rfl
      · next c =>
        obtain ⟨o1, o2⟩ := opN_in s j hk p hp
        have hn : nxK s j p k < 256 := Nat.lt_of_le_of_lt Nat.and_le_left hk
        have hs2 : K &&& nxK s j p k = K := by
          apply Nat.eq_of_testBit_eq
          intro i
          rw [Nat.testBit_and]
          cases e : K.testBit i with
          | false => rfl
          | true =>
            have hi : i < 8 := by
              refine Classical.byContradiction fun q => ?_
              rw [Nat.testBit_lt_two_pow (Nat.lt_of_lt_of_le hK8 (Nat.pow_le_pow_right (by decide) (by omega) : 2 ^ 8 ≤ 2 ^ i))] at e
              cases e
            have hki : k.testBit i = true := by
              have := congrArg (fun z => z.testBit i) hs
              simp only [Nat.testBit_and, e, Bool.true_and] at this
              exact this
            show (k &&& (255 - opN s j k p)).testBit i = true
            rw [Nat.testBit_and, hki, Bool.true_and, bt_cmp _ o1 i hi]
            cases e2 : (opN s j k p).testBit i with
            | false => rfl
            | true =>
              obtain ⟨q1, q2, q3⟩ := opN_bit p i e2
              refine absurd ?_ (hb i q1 e)
              have e3 : nI K = nI k &&& nI K := by rw [← nI_and k hk K hK8, Nat.and_comm, hs]
              rw [e3, ← Int32.and_assoc, q3, Int32.zero_and]
        rw [if_pos (ih _ hn hs2)]
theorem jam_2 {s : SG} {j p : Nat} (hp : p ≤ 8) : ∀ f k, k < f → k < 256 → rndF s j p f k = -1 → ∃ K, K ≠ 0 ∧ K &&& k = K ∧ blk s j p K := by
  intro f
  induction f with
  | zero => intro k h; omega
  | succ f ih =>
    intro k hf hk h
    rw [rndF] at h
    split at h
    · cases h
    · next c0 =>
      split at h
      · next c => exact ⟨k, c0, Nat.and_self k, opN_0 p c⟩
      · next c =>
        obtain ⟨o1, o2⟩ := opN_in s j hk p hp
        have hle : nxK s j p k ≤ k := Nat.and_le_left
        have hpc := pc_lt k hk (opN s j k p) o1 c o2
        have hlt : nxK s j p k < k := by
          refine Nat.lt_of_le_of_ne hle (fun z => ?_)
          have hz : k &&& (255 - opN s j k p) = k := z
          rw [hz] at hpc
          exact Nat.lt_irrefl _ hpc
        have hr : rndF s j p f (nxK s j p k) = -1 := by
          refine Classical.byContradiction fun q => ?_
          rw [if_neg q] at h
          rcases rnd_b hp f (nxK s j p k) (by omega) (s := s) (j := j) with z | ⟨m, m1, m2⟩
          · exact q z
          · rw [m2, nI_1] at h
            have := pc_8 (nxK s j p k)
            have h2 := congrArg Int32.toInt h
            rw [nI_toInt (by omega)] at h2
            have : (-1 : Int32).toInt = -1 := rfl
            omega
        obtain ⟨K, k1, k2, k3⟩ := ih (nxK s j p k) (by omega) (by omega) hr
        refine ⟨K, k1, ?_, k3⟩
        have : K &&& k = K &&& nxK s j p k &&& k := by rw [k2]
        rw [this, Nat.and_assoc]
        have e : nxK s j p k &&& k = nxK s j p k := by
          show k &&& (255 - opN s j k p) &&& k = k &&& (255 - opN s j k p)
          rw [Nat.and_assoc, Nat.and_comm (255 - opN s j k p) k, ← Nat.and_assoc, Nat.and_self]
        rw [e, k2]
theorem jam_up {s s1 : SG} {j p : Nat} (hp : p < 8) (h30 : s.1 30 j = nI p) (h30' : s1.1 30 j = nI (p + 1)) (h31 : ∀ i, i < p → s1.1 31 (8 * j + i) = s.1 31 (8 * j + i)) (h : opS s j = -1) : opS s1 j = -1 := by
  have e : nat (s.1 30 j) = p := by rw [h30]; exact nat_nI (by omega)
  have e' : nat (s1.1 30 j) = p + 1 := by rw [h30']; exact nat_nI (by omega)
  unfold opS rndS at h ⊢
  rw [e] at h
  rw [e']
  have hw : 2 ^ p ≤ 2 ^ 8 := Nat.pow_le_pow_right (by decide) (by omega)
  have hw2 : 2 ^ (p + 1) ≤ 2 ^ 8 := Nat.pow_le_pow_right (by decide) (by omega)
  have hpos := Nat.two_pow_pos p
  obtain ⟨K, k1, k2, k3⟩ := jam_2 (by omega) 256 (2 ^ p - 1) (by omega) (by omega) h
  have hKp : K < 2 ^ p := by
    have : K ≤ 2 ^ p - 1 := by rw [← k2]; exact Nat.and_le_right
    omega
  refine jam_1 (by omega) k1 (by omega) (fun i hi hb => ?_) 256 _ (by omega) ?_
  · have hip : i < p := by
      refine Classical.byContradiction fun q => ?_
      rw [Nat.testBit_lt_two_pow (Nat.lt_of_lt_of_le hKp (Nat.pow_le_pow_right (by decide) (by omega)))] at hb
      cases hb
    rw [h31 i hip]
    exact k3 i hip hb
  · rw [Nat.and_two_pow_sub_one_eq_mod]
    exact Nat.mod_eq_of_lt (by rw [Nat.pow_succ]; omega)
theorem op_pos {s : SG} {j p : Nat} (h30 : s.1 30 j = nI p) (hp : 0 < p ∧ p ≤ 8) (h : ¬ opS s j = -1) : 0 < opS s j := by
  have e : nat (s.1 30 j) = p := by rw [h30]; exact nat_nI (by omega)
  have hw : 2 ^ p ≤ 2 ^ 8 := Nat.pow_le_pow_right (by decide) hp.2
  have hw2 : 2 ^ 1 ≤ 2 ^ p := Nat.pow_le_pow_right (by decide) hp.1
  unfold opS rndS at h ⊢
  rw [e] at h ⊢
  have hk : ¬ (2 ^ p - 1 = 0) := by omega
  rw [show (256 : Nat) = 255 + 1 from rfl, rndF, if_neg hk] at h ⊢
  split at h
  · exact absurd rfl h
  · next c1 =>
    split at h
    · exact absurd rfl h
    · next c2 =>
      rw [if_neg c1, if_neg c2]
      have hle : nxK s j p (2 ^ p - 1) ≤ 2 ^ p - 1 := Nat.and_le_left
      rcases rnd_b hp.2 255 (nxK s j p (2 ^ p - 1)) (by omega) (s := s) (j := j) with z | ⟨m, m1, m2⟩
      · exact absurd z c2
      · rw [m2, nI_1]
        have := pc_8 (nxK s j p (2 ^ p - 1))
        exact (nI_ltI (a := 0) (by decide) (by omega)).mpr (by omega)
/-! the invariant of canopies, at one of them -/
theorem op_pt {s s1 : SG} {i p : Nat} (hp : s.1 30 i = nI p) (hp8 : p ≤ 8) (h30 : s1.1 30 i = s.1 30 i) (h31 : ∀ f, f < 8 → s1.1 31 (8 * i + f) = s.1 31 (8 * i + f)) : opS s1 i = opS s i := by
  have hN : ∀ k q, q ≤ 8 → opN s1 i k q = opN s i k q := by
    intro k q
    induction q with
    | zero => intro _; rfl
    | succ q ih => intro hq; rw [opN, opN, ih (by omega), h31 q (by omega)]
  have hR : ∀ f k, rndF s1 i p f k = rndF s i p f k := by
    intro f
    induction f with
    | zero => intro k; rfl
    | succ f ih =>
      intro k
      have h2 : nxK s1 i p k = nxK s i p k := by unfold nxK; rw [hN k p hp8]
      show (if k = 0 then 0 else if opN s1 i k p = 0 then -1 else if rndF s1 i p f (nxK s1 i p k) = -1 then -1 else rndF s1 i p f (nxK s1 i p k) + 1) = _
      rw [hN k p hp8, h2, ih]
      rfl
  unfold opS rndS
  rw [h30, hp, nat_nI (by omega), hR]
theorem CE.pt {s s1 : SG} {i p : Nat} (hp : s.1 30 i = nI p) (hp8 : p ≤ 8) (h31 : ∀ f, f < 8 → s1.1 31 (8 * i + f) = s.1 31 (8 * i + f)) (h : ∀ k, (29 ≤ k ∧ k ≤ 37 ∧ k ≠ 31) → s1.1 k i = s.1 k i) (h27 : s1.1 27 0 = s.1 27 0) (h3 : ∀ l, s1.1 3 l = s.1 3 l) (hc : CE s i) : CE s1 i := by
  unfold CE at hc ⊢
  rw [op_pt hp hp8 (h 30 (by omega)) h31, h 29 (by omega), h 32 (by omega), h 33 (by omega), h 34 (by omega), h 35 (by omega), h 36 (by omega), h 37 (by omega), h27, h3]
  exact hc
theorem LI.rig {X X1 : XT} {s s1 : SG} {M : MT} {t : Nat} (h : LI X s M t) (hI : INV X1 s1 (2 * (t + 1))) (hC : CB s1) (hr : ∀ k, k < 28 → k ≠ 3 → s1.1 k = s.1 k) (h28 : s1.1 28 0 = s.1 28 0) (h2 : s1.2 = s.2) : LI X1 s1 M (t + 1) := by
  obtain ⟨-, g2, g3, g4, g5, g6, g7⟩ := h
  refine ⟨hI, g2.rows (fun k hk => hr k (by omega) (by omega)), g3.rows (fun k hk => hr k (by omega) (by omega)) (fun k _ => by rw [h2]), hC, by rw [hr 27 (by decide) (by decide)]; omega, ?_, g7.rows (fun k hk => hr k (by omega) (by omega)) (by rw [h2])⟩
  obtain ⟨m0, m1, m2, m3, m4, m5⟩ := g6
  exact ⟨by rw [hr 0 (by decide) (by decide)]; exact m0, by rw [hr 4 (by decide) (by decide)]; exact m1, by rw [hr 9 (by decide) (by decide)]; exact m2, by rw [hr 19 (by decide) (by decide)]; exact m3, by rw [h28]; exact m4, by rw [hr 27 (by decide) (by decide)]; exact m5⟩
theorem nC_eq {s s1 : SG} (h : s1.1 28 0 = s.1 28 0) : nC s1 = nC s := by unfold nC; rw [h]
theorem nA_eq {s s1 : SG} (h : s1.1 0 = s.1 0) : nA s1 = nA s := by unfold nA; rw [h]
/-- how often, by the log -/
theorem lg_le (r : Nat → Int32) (v : Int32) : ∀ n, lgG r v n ≤ n := by
  intro n
  induction n with
  | zero => exact Nat.le_refl _
  | succ n ih => rw [lgG]; split <;> omega
theorem cnt_b {X : XT} {s : SG} {q : Nat} (hI : INV X s q) (hq : q < 512) {i : Nat} (hi : i < nC s) : ∃ z u w, z ≤ 512 ∧ u ≤ 512 ∧ w ≤ 512 ∧ s.1 34 i = nI z ∧ s.1 35 i = nI u ∧ s.1 36 i = nI w := by
  obtain ⟨i1, i2, i3, i4, i5, i6, i7, i8, i9⟩ := INV.num (by omega) hI
  obtain ⟨e1, e2, e3⟩ := i6.2.2.1 i hi
  have hn := i6.2.1
  exact ⟨_, _, _, by have := lg_le (s.1 44) (nI (8 * i + 3)) (nN s); omega, by have := lg_le (s.1 44) (nI (8 * i + 4)) (nN s); omega, by have := lg_le (s.1 44) (nI (8 * i + 5)) (nN s); omega, e1, e2, e3⟩
theorem nI_in2 {a b : Nat} (ha : a < 1000000) (hb : b < 1000000) (h : nI a = nI b) : a = b := (nI_eq (by omega) (by omega)).mp h
theorem CB.seal {X : XT} {s : SG} {q : Nat} (hI : INV X s q) (hq : q < 512) (hC : CB s) {j n : Nat} {p1 : Int32} (hj : j < nC s) (hp : btw p1 0 4) (ho : oSeal s j) : CB (noteS (gSeal s j p1) j 3 n) := by
  obtain ⟨i1, i2, i3, i4, i5, i6, i7, i8, i9⟩ := INV.num (by omega) hI
  have hr : ∀ k, k ≠ 32 → k ≠ 33 → k ≠ 34 → k ≠ 44 → k ≠ 45 → (noteS (gSeal s j p1) j 3 n).1 k = s.1 k := fun k a b c d e => by
    unfold noteS gSeal
    rw [sI_r _ _ _ e, sI_r _ _ _ d, sI_r _ _ _ c, sI_r _ _ _ b, sI_r _ _ _ a]
  have r32 : ∀ i, (noteS (gSeal s j p1) j 3 n).1 32 i = if i = j then p1 else s.1 32 i := fun i => by
    unfold noteS gSeal
    rw [sI_r _ _ _ (by decide), sI_r _ _ _ (by decide), sI_r _ _ _ (by decide), sI_r _ _ _ (by decide), sI_if]
  have r33 : ∀ i, (noteS (gSeal s j p1) j 3 n).1 33 i = if i = j then s.1 27 0 else s.1 33 i := fun i => by
    unfold noteS gSeal
    rw [sI_r _ _ _ (by decide), sI_r _ _ _ (by decide), sI_r _ _ _ (by decide), sI_if, sI_r _ _ _ (by decide)]
  have r34 : ∀ i, (noteS (gSeal s j p1) j 3 n).1 34 i = if i = j then s.1 34 j + 1 else s.1 34 i := fun i => by
    unfold noteS gSeal
    rw [sI_r _ _ _ (by decide), sI_r _ _ _ (by decide), sI_if, sI_r _ _ _ (by decide), sI_r _ _ _ (by decide)]
  have eC : nC (noteS (gSeal s j p1) j 3 n) = nC s := nC_eq (by rw [hr 28 (by decide) (by decide) (by decide) (by decide) (by decide)])
  have eA : nA (noteS (gSeal s j p1) j 3 n) = nA s := nA_eq (hr 0 (by decide) (by decide) (by decide) (by decide) (by decide))
  refine ⟨?_, fun i hi => ?_⟩
  · rw [eA, hr 3 (by decide) (by decide) (by decide) (by decide) (by decide)]; exact hC.1
  · rw [eC] at hi
    obtain ⟨p, l, q1, q2, q3, q4⟩ := i5.2.2.2.2.1 i hi
    by_cases c : i = j
    · subst c
      obtain ⟨c1, c2, ⟨z, u, w, v, z1, z2, z3, z4, z5, z6, z7, z8⟩, c4, c5⟩ := hC.2 i hi
      obtain ⟨y1, y2, y3, yy1, yy2, yy3, x1, x2, x3⟩ := cnt_b hI hq hi
      have ez : z = y1 := nI_in2 (by omega) (by omega) (z1.symm.trans x1)
      have h33 := (i5.2.2.2.2.2 i hi).mp ho.1
      rw [if_pos h33] at z5
      unfold CE
      rw [op_rows (s1 := noteS (gSeal s i p1) i 3 n) (hr 31 (by decide) (by decide) (by decide) (by decide) (by decide)) (hr 30 (by decide) (by decide) (by decide) (by decide) (by decide)), r32, r33, r34, if_pos rfl, if_pos rfl, if_pos rfl, hr 27 (by decide) (by decide) (by decide) (by decide) (by decide), hr 35 (by decide) (by decide) (by decide) (by decide) (by decide), hr 36 (by decide) (by decide) (by decide) (by decide) (by decide), hr 37 (by decide) (by decide) (by decide) (by decide) (by decide), hr 29 (by decide) (by decide) (by decide) (by decide) (by decide), hr 3 (by decide) (by decide) (by decide) (by decide) (by decide)]
      refine ⟨Or.inr hp, Or.inr ⟨i8.1, Int32.le_refl _⟩, ⟨z + 1, u, w, v, by rw [z1, nI_1], z2, z3, z4, by split <;> omega, z6, by omega, z8⟩, fun _ => ?_, fun z => absurd ho.2.1 z⟩
      have hp0 : 0 < p := by
        have := ho.2.2.1
        rw [q2] at this
        exact (nI_ltI (a := 0) (by decide) (by omega)).mp this
      exact op_pos q2 ⟨hp0, q1⟩ ho.2.2.2.1
    · refine CE.pt q2 q1 (fun f hf => by rw [hr 31 (by decide) (by decide) (by decide) (by decide) (by decide)]) (fun k hk => ?_) (by rw [hr 27 (by decide) (by decide) (by decide) (by decide) (by decide)]) (fun l => by rw [hr 3 (by decide) (by decide) (by decide) (by decide) (by decide)]) (hC.2 i hi)
      by_cases k32 : k = 32
      · subst k32; rw [r32, if_neg c]
      · by_cases k33 : k = 33
        · subst k33; rw [r33, if_neg c]
        · by_cases k34 : k = 34
          · subst k34; rw [r34, if_neg c]
          · rw [hr k k32 k33 k34 (by omega) (by omega)]
theorem CB.use {X : XT} {s : SG} {q : Nat} (hI : INV X s q) (hq : q < 512) (hC : CB s) {j n : Nat} (hj : j < nC s) (ho : ¬ s.1 32 j = -1) : CB (noteS (gUse s j) j 4 n) := by
  obtain ⟨i1, i2, i3, i4, i5, i6, i7, i8, i9⟩ := INV.num (by omega) hI
  have hr : ∀ k, k ≠ 32 → k ≠ 33 → k ≠ 35 → k ≠ 44 → k ≠ 45 → (noteS (gUse s j) j 4 n).1 k = s.1 k := fun k a b c d e => by
    unfold noteS gUse
    rw [sI_r _ _ _ e, sI_r _ _ _ d, sI_r _ _ _ c, sI_r _ _ _ b, sI_r _ _ _ a]
  have r32 : ∀ i, (noteS (gUse s j) j 4 n).1 32 i = if i = j then -1 else s.1 32 i := fun i => by
    unfold noteS gUse
    rw [sI_r _ _ _ (by decide), sI_r _ _ _ (by decide), sI_r _ _ _ (by decide), sI_r _ _ _ (by decide), sI_if]
  have r33 : ∀ i, (noteS (gUse s j) j 4 n).1 33 i = if i = j then -1 else s.1 33 i := fun i => by
    unfold noteS gUse
    rw [sI_r _ _ _ (by decide), sI_r _ _ _ (by decide), sI_r _ _ _ (by decide), sI_if, sI_r _ _ _ (by decide)]
  have r35 : ∀ i, (noteS (gUse s j) j 4 n).1 35 i = if i = j then s.1 35 j + 1 else s.1 35 i := fun i => by
    unfold noteS gUse
    rw [sI_r _ _ _ (by decide), sI_r _ _ _ (by decide), sI_if, sI_r _ _ _ (by decide), sI_r _ _ _ (by decide)]
  have eC : nC (noteS (gUse s j) j 4 n) = nC s := nC_eq (by rw [hr 28 (by decide) (by decide) (by decide) (by decide) (by decide)])
  have eA : nA (noteS (gUse s j) j 4 n) = nA s := nA_eq (hr 0 (by decide) (by decide) (by decide) (by decide) (by decide))
  refine ⟨?_, fun i hi => ?_⟩
  · rw [eA, hr 3 (by decide) (by decide) (by decide) (by decide) (by decide)]; exact hC.1
  · rw [eC] at hi
    obtain ⟨p, l, q1, q2, q3, q4⟩ := i5.2.2.2.2.1 i hi
    by_cases c : i = j
    · subst c
      obtain ⟨c1, c2, ⟨z, u, w, v, z1, z2, z3, z4, z5, z6, z7, z8⟩, c4, c5⟩ := hC.2 i hi
      have h33 : ¬ s.1 33 i = -1 := fun z => ho ((i5.2.2.2.2.2 i hi).mpr z)
      rw [if_neg h33] at z5
      unfold CE
      rw [r32, r33, r35, if_pos rfl, if_pos rfl, if_pos rfl, hr 34 (by decide) (by decide) (by decide) (by decide) (by decide), hr 36 (by decide) (by decide) (by decide) (by decide) (by decide), hr 37 (by decide) (by decide) (by decide) (by decide) (by decide)]
      exact ⟨Or.inl rfl, Or.inl rfl, ⟨z, u + 1, w, v, z1, by rw [z2, nI_1], z3, z4, by rw [if_pos rfl]; omega, z6, z7, z8⟩, fun z => absurd rfl z, fun _ => rfl⟩
    · refine CE.pt q2 q1 (fun f hf => by rw [hr 31 (by decide) (by decide) (by decide) (by decide) (by decide)]) (fun k hk => ?_) (by rw [hr 27 (by decide) (by decide) (by decide) (by decide) (by decide)]) (fun l => by rw [hr 3 (by decide) (by decide) (by decide) (by decide) (by decide)]) (hC.2 i hi)
      by_cases k32 : k = 32
      · subst k32; rw [r32, if_neg c]
      · by_cases k33 : k = 33
        · subst k33; rw [r33, if_neg c]
        · by_cases k35 : k = 35
          · subst k35; rw [r35, if_neg c]
          · rw [hr k k32 k33 k35 (by omega) (by omega)]
theorem CB.wet {X : XT} {s : SG} {q : Nat} (hI : INV X s q) (hq : q < 512) (hC : CB s) {j n : Nat} (hj : j < nC s) : CB (noteS (gWet s j 0) j 5 n) := by
  obtain ⟨i1, i2, i3, i4, i5, i6, i7, i8, i9⟩ := INV.num (by omega) hI
  have hr : ∀ k, k ≠ 36 → k ≠ 37 → k ≠ 44 → k ≠ 45 → (noteS (gWet s j 0) j 5 n).1 k = s.1 k := fun k a b d e => by
    unfold noteS gWet
    rw [sI_r _ _ _ e, sI_r _ _ _ d, sI_r _ _ _ b, sI_r _ _ _ a]
  have r36 : ∀ i, (noteS (gWet s j 0) j 5 n).1 36 i = if i = j then s.1 36 j + 1 else s.1 36 i := fun i => by
    unfold noteS gWet
    rw [sI_r _ _ _ (by decide), sI_r _ _ _ (by decide), sI_r _ _ _ (by decide), sI_if, if_pos rfl]
  have r37 : ∀ i, (noteS (gWet s j 0) j 5 n).1 37 i = if i = j then s.1 37 j + 1 else s.1 37 i := fun i => by
    unfold noteS gWet
    rw [sI_r _ _ _ (by decide), sI_r _ _ _ (by decide), sI_if, if_pos rfl, sI_r _ _ _ (by decide)]
  have eC : nC (noteS (gWet s j 0) j 5 n) = nC s := nC_eq (by rw [hr 28 (by decide) (by decide) (by decide) (by decide)])
  have eA : nA (noteS (gWet s j 0) j 5 n) = nA s := nA_eq (hr 0 (by decide) (by decide) (by decide) (by decide))
  refine ⟨?_, fun i hi => ?_⟩
  · rw [eA, hr 3 (by decide) (by decide) (by decide) (by decide)]; exact hC.1
  · rw [eC] at hi
    obtain ⟨p, l, q1, q2, q3, q4⟩ := i5.2.2.2.2.1 i hi
    by_cases c : i = j
    · subst c
      obtain ⟨c1, c2, ⟨z, u, w, v, z1, z2, z3, z4, z5, z6, z7, z8⟩, c4, c5⟩ := hC.2 i hi
      obtain ⟨y1, y2, y3, yy1, yy2, yy3, x1, x2, x3⟩ := cnt_b hI hq hi
      have ez : w = y3 := nI_in2 (by omega) (by omega) (z3.symm.trans x3)
      unfold CE
      rw [op_rows (s1 := noteS (gWet s i 0) i 5 n) (hr 31 (by decide) (by decide) (by decide) (by decide)) (hr 30 (by decide) (by decide) (by decide) (by decide)), r36, r37, if_pos rfl, if_pos rfl, hr 32 (by decide) (by decide) (by decide) (by decide), hr 33 (by decide) (by decide) (by decide) (by decide), hr 34 (by decide) (by decide) (by decide) (by decide), hr 35 (by decide) (by decide) (by decide) (by decide), hr 27 (by decide) (by decide) (by decide) (by decide), hr 29 (by decide) (by decide) (by decide) (by decide), hr 3 (by decide) (by decide) (by decide) (by decide)]
      exact ⟨c1, c2, ⟨z, u, w + 1, v + 1, z1, z2, by rw [z3, nI_1], by rw [z4, nI_1], z5, by omega, z7, by omega⟩, c4, c5⟩
    · refine CE.pt q2 q1 (fun f hf => by rw [hr 31 (by decide) (by decide) (by decide) (by decide)]) (fun k hk => ?_) (by rw [hr 27 (by decide) (by decide) (by decide) (by decide)]) (fun l => by rw [hr 3 (by decide) (by decide) (by decide) (by decide)]) (hC.2 i hi)
      by_cases k36 : k = 36
      · subst k36; rw [r36, if_neg c]
      · by_cases k37 : k = 37
        · subst k37; rw [r37, if_neg c]
        · rw [hr k k36 k37 (by omega) (by omega)]
theorem CB.air {X : XT} {s : SG} {q : Nat} (hI : INV X s q) (hq : q < 512) (hC : CB s) {j : Nat} (hj : j < nC s) : CB (sI s 37 j 0) := by
  obtain ⟨i1, i2, i3, i4, i5, i6, i7, i8, i9⟩ := INV.num (by omega) hI
  have hr : ∀ k, k ≠ 37 → (sI s 37 j 0).1 k = s.1 k := fun k a => sI_r _ _ _ a
  have eC : nC (sI s 37 j 0) = nC s := nC_eq (by rw [hr 28 (by decide)])
  have eA : nA (sI s 37 j 0) = nA s := nA_eq (hr 0 (by decide))
  refine ⟨?_, fun i hi => ?_⟩
  · rw [eA, hr 3 (by decide)]; exact hC.1
  · rw [eC] at hi
    obtain ⟨p, l, q1, q2, q3, q4⟩ := i5.2.2.2.2.1 i hi
    by_cases c : i = j
    · subst c
      obtain ⟨c1, c2, ⟨z, u, w, v, z1, z2, z3, z4, z5, z6, z7, z8⟩, c4, c5⟩ := hC.2 i hi
      unfold CE
      rw [op_rows (s1 := sI s 37 i 0) (hr 31 (by decide)) (hr 30 (by decide)), sI_at, hr 32 (by decide), hr 33 (by decide), hr 34 (by decide), hr 35 (by decide), hr 36 (by decide), hr 27 (by decide), hr 29 (by decide), hr 3 (by decide)]
      exact ⟨c1, c2, ⟨z, u, w, 0, z1, z2, z3, rfl, z5, by omega, z7, z8⟩, c4, c5⟩
    · refine CE.pt q2 q1 (fun f hf => by rw [hr 31 (by decide)]) (fun k hk => ?_) (by rw [hr 27 (by decide)]) (fun l => by rw [hr 3 (by decide)]) (hC.2 i hi)
      by_cases k37 : k = 37
      · subst k37; rw [sI_of _ _ _ c]
      · rw [hr k k37]
theorem CB.part {X : XT} {s : SG} {q : Nat} (hI : INV X s q) (hq : q < 512) (hC : CB s) {j p : Nat} {p1 : Int32} (hj : j < nC s) (hp : p < 8) (ho : s.1 32 j = -1) : CB (gPart s j p p1) := by
  obtain ⟨i1, i2, i3, i4, i5, i6, i7, i8, i9⟩ := INV.num (by omega) hI
  have hr : ∀ k, k ≠ 30 → k ≠ 31 → (gPart s j p p1).1 k = s.1 k := fun k a b => by
    unfold gPart
    rw [sI_r _ _ _ a, sI_r _ _ _ b]
  have eC : nC (gPart s j p p1) = nC s := nC_eq (by rw [hr 28 (by decide) (by decide)])
  have eA : nA (gPart s j p p1) = nA s := nA_eq (hr 0 (by decide) (by decide))
  refine ⟨?_, fun i hi => ?_⟩
  · rw [eA, hr 3 (by decide) (by decide)]; exact hC.1
  · rw [eC] at hi
    obtain ⟨p', l, q1, q2, q3, q4⟩ := i5.2.2.2.2.1 i hi
    by_cases c : i = j
    · subst c
      obtain ⟨c1, c2, c3, c4, c5⟩ := hC.2 i hi
      have h33 := (i5.2.2.2.2.2 i hi).mp ho
      unfold CE
      rw [hr 32 (by decide) (by decide), hr 33 (by decide) (by decide), hr 34 (by decide) (by decide), hr 35 (by decide) (by decide), hr 36 (by decide) (by decide), hr 37 (by decide) (by decide), hr 27 (by decide) (by decide), hr 29 (by decide) (by decide), hr 3 (by decide) (by decide)]
      exact ⟨c1, c2, c3, fun z => absurd h33 z, c5⟩
    · refine CE.pt q2 q1 (fun f hf => ?_) (fun k hk => ?_) (by rw [hr 27 (by decide) (by decide)]) (fun l => by rw [hr 3 (by decide) (by decide)]) (hC.2 i hi)
      · unfold gPart
        rw [sI_r _ _ _ (by decide), sI_of _ _ _ (by omega)]
      · by_cases k30 : k = 30
        · subst k30; unfold gPart; rw [sI_of _ _ _ c, sI_r _ _ _ (by decide)]
        · rw [hr k k30 (by omega)]
theorem CB.can {X : XT} {s : SG} {q : Nat} (hI : INV X s q) (hq : q < 512) (hC : CB s) {p0 : Int32} : CB (gCan s (nC s) p0) := by
  obtain ⟨i1, i2, i3, i4, i5, i6, i7, i8, i9⟩ := INV.num (by omega) hI
  have c6 := i5.2.1
  have hr : ∀ k, k ≠ 28 → k ≠ 29 → k ≠ 32 → k ≠ 33 → (gCan s (nC s) p0).1 k = s.1 k := fun k a b c d => by
    unfold gCan
    rw [sI_r _ _ _ a, sI_r _ _ _ d, sI_r _ _ _ c, sI_r _ _ _ b]
  have r28 : (gCan s (nC s) p0).1 28 0 = nI (nC s + 1) := sI_at _ _ _ _
  have r32 : ∀ i, (gCan s (nC s) p0).1 32 i = if i = nC s then -1 else s.1 32 i := fun i => by
    unfold gCan
    rw [sI_r _ _ _ (by decide), sI_r _ _ _ (by decide), sI_if, sI_r _ _ _ (by decide)]
  have r33 : ∀ i, (gCan s (nC s) p0).1 33 i = if i = nC s then -1 else s.1 33 i := fun i => by
    unfold gCan
    rw [sI_r _ _ _ (by decide), sI_if, sI_r _ _ _ (by decide), sI_r _ _ _ (by decide)]
  have r29 : ∀ i, i ≠ nC s → (gCan s (nC s) p0).1 29 i = s.1 29 i := fun i hi => by
    unfold gCan
    rw [sI_r _ _ _ (by decide), sI_r _ _ _ (by decide), sI_r _ _ _ (by decide), sI_of _ _ _ hi]
  have eC : nC (gCan s (nC s) p0) = nC s + 1 := by
    show nat ((gCan s (nC s) p0).1 28 0) = _
    rw [r28]; exact nat_nI (by omega)
  have eA : nA (gCan s (nC s) p0) = nA s := nA_eq (hr 0 (by decide) (by decide) (by decide) (by decide))
  refine ⟨?_, fun i hi => ?_⟩
  · rw [eA, hr 3 (by decide) (by decide) (by decide) (by decide)]; exact hC.1
  · rw [eC] at hi
    by_cases c : i = nC s
    · obtain ⟨-, -, z30, z34, z35, z36, z37, -⟩ := i5.2.2.2.1 i (by omega)
      unfold CE
      rw [r32, r33, if_pos c, if_pos c, hr 34 (by decide) (by decide) (by decide) (by decide), hr 35 (by decide) (by decide) (by decide) (by decide), hr 36 (by decide) (by decide) (by decide) (by decide), hr 37 (by decide) (by decide) (by decide) (by decide), z34, z35, z36, z37]
      exact ⟨Or.inl rfl, Or.inl rfl, ⟨0, 0, 0, 0, rfl, rfl, rfl, rfl, by rw [if_pos rfl]; decide, by decide, by decide, by decide⟩, fun z => absurd rfl z, fun _ => rfl⟩
    · obtain ⟨p, l, q1, q2, q3, q4⟩ := i5.2.2.2.2.1 i (by omega)
      refine CE.pt q2 q1 (fun f hf => by rw [hr 31 (by decide) (by decide) (by decide) (by decide)]) (fun k hk => ?_) (by rw [hr 27 (by decide) (by decide) (by decide) (by decide)]) (fun l => by rw [hr 3 (by decide) (by decide) (by decide) (by decide)]) (hC.2 i (by omega))
      by_cases k32 : k = 32
      · subst k32; rw [r32, if_neg c]
      · by_cases k33 : k = 33
        · subst k33; rw [r33, if_neg c]
        · by_cases k29 : k = 29
          · subst k29; exact r29 i c
          · rw [hr k (by omega) k29 k32 k33]
/-! a find -/
def slF (s : SG) (l : Nat) : Nat → Nat
  | 0 => 0
  | i + 1 => slF s l i + (if s.1 29 i = nI l ∧ ¬ s.1 32 i = -1 then 1 else 0)
theorem los_n {s : SG} {l : Nat} : ∀ n, (losF s l n).2 = slF s l n := by
  intro n
  induction n with
  | zero => rfl
  | succ n ih =>
    rw [losF, slF]
    split
    · show (losF s l n).2 + 1 = _
      rw [ih]
    · rw [ih]; rfl
theorem los_r {s : SG} {l : Nat} {k : Nat} (h32 : k ≠ 32) (h33 : k ≠ 33) : ∀ n, (losF s l n).1.1 k = s.1 k := by
  intro n
  induction n with
  | zero => rfl
  | succ n ih =>
    rw [losF]
    split
    · show (sI (sI (losF s l n).1 32 n (-1)) 33 n (-1)).1 k = _
      rw [sI_r _ _ _ h33, sI_r _ _ _ h32, ih]
    · exact ih
theorem los_at {s : SG} {l : Nat} : ∀ n i, (losF s l n).1.1 32 i = (if i < n ∧ s.1 29 i = nI l ∧ ¬ s.1 32 i = -1 then -1 else s.1 32 i) ∧ (losF s l n).1.1 33 i = (if i < n ∧ s.1 29 i = nI l ∧ ¬ s.1 32 i = -1 then -1 else s.1 33 i) := by
  intro n
  induction n with
  | zero => intro i; exact ⟨(if_neg (fun z => Nat.not_lt_zero _ z.1)).symm, (if_neg (fun z => Nat.not_lt_zero _ z.1)).symm⟩
  | succ n ih =>
    intro i
    obtain ⟨g1, g2⟩ := ih i
    rw [losF]
    by_cases c : s.1 29 n = nI l ∧ ¬ s.1 32 n = -1
    · rw [if_pos c]
      show (sI (sI (losF s l n).1 32 n (-1)) 33 n (-1)).1 32 i = _ ∧ (sI (sI (losF s l n).1 32 n (-1)) 33 n (-1)).1 33 i = _
      rw [sI_r _ _ _ (by decide), sI_if, sI_if, sI_r _ _ _ (by decide)]
      by_cases e : i = n
      · subst e
        rw [if_pos rfl, if_pos rfl, if_pos ⟨Nat.lt_succ_self _, c⟩, if_pos ⟨Nat.lt_succ_self _, c⟩]
        exact ⟨rfl, rfl⟩
      · rw [if_neg e, if_neg e, g1, g2]
        by_cases d : i < n
        · have d2 : i < n + 1 := by omega
          simp only [d, d2]
          exact ⟨trivial, trivial⟩
        · have d2 : ¬ i < n + 1 := by omega
          simp only [d, d2]
          exact ⟨trivial, trivial⟩
    · rw [if_neg c, g1, g2]
      by_cases e : i = n
      · subst e
        have d : ¬ (i < i ∧ s.1 29 i = nI l ∧ ¬ s.1 32 i = -1) := fun z => Nat.lt_irrefl i z.1
        have d2 : ¬ (i < i + 1 ∧ s.1 29 i = nI l ∧ ¬ s.1 32 i = -1) := fun z => c z.2
        rw [if_neg d, if_neg d, if_neg d2, if_neg d2]
        exact ⟨rfl, rfl⟩
      · by_cases d : i < n
        · have d2 : i < n + 1 := by omega
          simp only [d, d2]
          exact ⟨trivial, trivial⟩
        · have d2 : ¬ i < n + 1 := by omega
          simp only [d, d2]
          exact ⟨trivial, trivial⟩
/-- a lot is held: its canopies have no seals then -/
theorem CB.find1 {X : XT} {s : SG} {q : Nat} (hI : INV X s q) (hq : q < 512) (hC : CB s) {l : Nat} (hl : l < nA s) : CB (losF (sI s 3 l 1) l (nC s)).1 ∧ (∀ i, i < nC s → s.1 29 i = nI l → (losF (sI s 3 l 1) l (nC s)).1.1 32 i = -1) ∧ (losF (sI s 3 l 1) l (nC s)).1.1 3 l = 1 := by
  obtain ⟨i1, i2, i3, i4, i5, i6, i7, i8, i9⟩ := INV.num (by omega) hI
  have a6 := i1.2.1
  have hr : ∀ k, k ≠ 3 → k ≠ 32 → k ≠ 33 → (losF (sI s 3 l 1) l (nC s)).1.1 k = s.1 k := fun k a b c => by
    rw [los_r b c, sI_r _ _ _ a]
  have r3 : ∀ i, (losF (sI s 3 l 1) l (nC s)).1.1 3 i = if i = l then 1 else s.1 3 i := fun i => by
    rw [los_r (by decide) (by decide), sI_if]
  have at32 : ∀ i, (losF (sI s 3 l 1) l (nC s)).1.1 32 i = (if i < nC s ∧ s.1 29 i = nI l ∧ ¬ s.1 32 i = -1 then -1 else s.1 32 i) := fun i => by
    have := (los_at (s := sI s 3 l 1) (l := l) (nC s) i).1
    rw [sI_r _ _ _ (by decide), sI_r _ _ _ (by decide)] at this
    exact this
  have at33 : ∀ i, (losF (sI s 3 l 1) l (nC s)).1.1 33 i = (if i < nC s ∧ s.1 29 i = nI l ∧ ¬ s.1 32 i = -1 then -1 else s.1 33 i) := fun i => by
    have := (los_at (s := sI s 3 l 1) (l := l) (nC s) i).2
    rw [sI_r _ _ _ (by decide), sI_r _ _ _ (by decide), sI_r _ _ _ (by decide)] at this
    exact this
  have eC : nC (losF (sI s 3 l 1) l (nC s)).1 = nC s := nC_eq (by rw [hr 28 (by decide) (by decide) (by decide)])
  have eA : nA (losF (sI s 3 l 1) l (nC s)).1 = nA s := nA_eq (hr 0 (by decide) (by decide) (by decide))
  refine ⟨⟨?_, fun i hi => ?_⟩, fun i hi h29 => ?_, by rw [r3, if_pos rfl]⟩
  · intro m hm
    rw [eA] at hm
    rw [r3]
    split
    · exact Or.inr rfl
    · exact hC.1 m hm
  · rw [eC] at hi
    obtain ⟨p, l', q1, q2, q3, q4⟩ := i5.2.2.2.2.1 i hi
    obtain ⟨c1, c2, ⟨z, u, w, v, z1, z2, z3, z4, z5, z6, z7, z8⟩, c4, c5⟩ := hC.2 i hi
    have h33 := i5.2.2.2.2.2 i hi
    have eo := op_rows (s := s) (s1 := (losF (sI s 3 l 1) l (nC s)).1) (hr 31 (by decide) (by decide) (by decide)) (hr 30 (by decide) (by decide) (by decide)) i
    unfold CE
    rw [eo, hr 34 (by decide) (by decide) (by decide), hr 35 (by decide) (by decide) (by decide), hr 36 (by decide) (by decide) (by decide), hr 37 (by decide) (by decide) (by decide), hr 27 (by decide) (by decide) (by decide), hr 29 (by decide) (by decide) (by decide), at32, at33, r3]
    by_cases c : i < nC s ∧ s.1 29 i = nI l ∧ ¬ s.1 32 i = -1
    · rw [if_pos c, if_pos c]
      exact ⟨Or.inl rfl, Or.inl rfl, ⟨z, u, w, v, z1, z2, z3, z4, by rw [if_pos rfl]; split at z5 <;> omega, z6, z7, z8⟩, fun z => absurd rfl z, fun _ => rfl⟩
    · rw [if_neg c, if_neg c]
      refine ⟨c1, c2, ⟨z, u, w, v, z1, z2, z3, z4, z5, z6, z7, z8⟩, c4, fun hz => ?_⟩
      by_cases e : nat (s.1 29 i) = l
      · have h29 : s.1 29 i = nI l := by
          rw [q4] at e ⊢
          rw [nat_nI (by omega)] at e
          rw [e]
        exact h33.mp (Classical.byContradiction fun z => c ⟨hi, h29, z⟩)
      · rw [if_neg e] at hz
        exact c5 hz
  · rw [at32]
    by_cases c : s.1 32 i = -1
    · rw [if_neg (fun z => z.2.2 c)]; exact c
    · rw [if_pos ⟨hi, h29, c⟩]
theorem CB.find0 {X : XT} {s : SG} {q : Nat} (hI : INV X s q) (hq : q < 512) (hC : CB s) {l : Nat} (hl : l < nA s) : CB (sI s 3 l 0) := by
  obtain ⟨i1, i2, i3, i4, i5, i6, i7, i8, i9⟩ := INV.num (by omega) hI
  have hr : ∀ k, k ≠ 3 → (sI s 3 l 0).1 k = s.1 k := fun k a => sI_r _ _ _ a
  have eC : nC (sI s 3 l 0) = nC s := nC_eq (by rw [hr 28 (by decide)])
  have eA : nA (sI s 3 l 0) = nA s := nA_eq (hr 0 (by decide))
  refine ⟨?_, fun i hi => ?_⟩
  · intro m hm
    rw [eA] at hm
    rw [sI_if]
    split
    · exact Or.inl rfl
    · exact hC.1 m hm
  · rw [eC] at hi
    obtain ⟨c1, c2, c3, c4, c5⟩ := hC.2 i hi
    unfold CE
    rw [op_rows (s := s) (s1 := sI s 3 l 0) (hr 31 (by decide)) (hr 30 (by decide)) i, hr 32 (by decide), hr 33 (by decide), hr 34 (by decide), hr 35 (by decide), hr 36 (by decide), hr 37 (by decide), hr 27 (by decide), hr 29 (by decide), sI_if]
    refine ⟨c1, c2, c3, c4, fun z => ?_⟩
    split at z
    · exact absurd rfl z
    · exact c5 z
/-- none has a seal of a lot that is held -/
theorem sl_0 {X : XT} {s : SG} {q : Nat} (hI : INV X s q) (hq : q < 512) (hC : CB s) {l : Nat} (hl : l < nA s) (h : s.1 3 l = 1) : ∀ n, n ≤ nC s → slF s l n = 0 := by
  obtain ⟨i1, i2, i3, i4, i5, i6, i7, i8, i9⟩ := INV.num (by omega) hI
  have a6 := i1.2.1
  intro n
  induction n with
  | zero => intro _; rfl
  | succ n ih =>
    intro hn
    rw [slF, ih (by omega), if_neg]
    rintro ⟨h29, h32⟩
    obtain ⟨c1, c2, c3, c4, c5⟩ := hC.2 n (by omega)
    refine h32 ((i5.2.2.2.2.2 n (by omega)).mpr (c5 ?_))
    rw [h29, nat_nI (by omega), h]
    decide
