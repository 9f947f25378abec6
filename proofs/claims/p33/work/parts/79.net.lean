theorem sI_r (s : SG) {k k' : Nat} (j : Nat) (x : Int32) (h : k' ≠ k) : (sI s k j x).1 k' = s.1 k' := u2_rown _ _ _ h
theorem sI_at (s : SG) (k j : Nat) (x : Int32) : (sI s k j x).1 k j = x := u2_s _ _ _ _
theorem sI_of (s : SG) (k : Nat) {j j' : Nat} (x : Int32) (h : j' ≠ j) : (sI s k j x).1 k j' = s.1 k j' := u2_k _ _ h
theorem sI_if (s : SG) (k j j' : Nat) (x : Int32) : (sI s k j x).1 k j' = if j' = j then x else s.1 k j' := by simp [sI, u2]
/-! the net: bounds of the heights, rest -/
def BD (s : SG) (lo hi : Int) : Prop := ∀ q, q < 36 → lo ≤ (s.1 15 q).toInt ∧ (s.1 15 q).toInt ≤ hi
theorem nb_in : ∀ k, k < 36 → ∀ w, w < 4 → (nb k w).getD 0 < 36 := by decide +kernel
theorem cmN_p : ∀ k, k < 36 → 0 < cmN k 4 ∧ cmN k 4 ≤ 4 := by decide +kernel
theorem cmF_b {s : SG} {k : Nat} {lo hi : Int} (h : BD s lo hi) (h1 : -100000000 ≤ lo) (h2 : hi ≤ 100000000) (hk : k < 36) : ∀ w, w ≤ 4 → (cmN k w : Int) * lo ≤ (cmF s k w).1.toInt ∧ (cmF s k w).1.toInt ≤ (cmN k w : Int) * hi ∧ (cmN k w = 0 ∨ lo ≤ (cmF s k w).2.2.toInt ∧ (cmF s k w).2.2.toInt ≤ hi) ∧ cmN k w ≤ w ∧ -(100000000 * (w : Int)) ≤ (cmF s k w).1.toInt ∧ (cmF s k w).1.toInt ≤ 100000000 * (w : Int) := by
  intro w
  induction w with
  | zero =>
    intro _
    refine ⟨?_, ?_, Or.inl rfl, Nat.le_refl _, ?_, ?_⟩ <;> simp [cmF, cmN]
  | succ w ih =>
    intro hw
    obtain ⟨a1, a2, a3, a4, a5, a6⟩ := ih (by omega)
    have hq := nb_in k hk w (by omega)
    simp only [cmF, cmN]
    cases e : nb k w with
    | none =>
      dsimp only
      exact ⟨a1, a2, a3, by omega, by omega, by omega⟩
    | some q =>
      dsimp only
      rw [e] at hq
      have hq : q < 36 := hq
      obtain ⟨g1, g2⟩ := h q hq
      have es : ((cmF s k w).1 + s.1 15 q).toInt = (cmF s k w).1.toInt + (s.1 15 q).toInt := by
        rw [Int32.toInt_add]
        exact Int.bmod_eq_of_le (by omega) (by omega)
      have el : ((cmN k w + 1 : Nat) : Int) * lo = (cmN k w : Int) * lo + lo := by rw [Int.natCast_add, Int.add_mul]; simp
      have eh : ((cmN k w + 1 : Nat) : Int) * hi = (cmN k w : Int) * hi + hi := by rw [Int.natCast_add, Int.add_mul]; simp
      rw [es, el, eh]
      refine ⟨by omega, by omega, Or.inr ?_, by omega, by omega, by omega⟩
      show lo ≤ (if (cmF s k w).2.1 = 0 ∨ (cmF s k w).2.2 < s.1 15 q then s.1 15 q else (cmF s k w).2.2).toInt ∧ (if (cmF s k w).2.1 = 0 ∨ (cmF s k w).2.2 < s.1 15 q then s.1 15 q else (cmF s k w).2.2).toInt ≤ hi
      split
      · exact ⟨g1, g2⟩
      · next c =>
        rcases a3 with a3 | a3
        · exact absurd (Or.inl (by rw [cmF_n, a3]; rfl)) c
        · exact a3
theorem mean_b {x : Int32} {c : Nat} {lo hi : Int} (hc : 0 < c ∧ c ≤ 4) (h9 : -2000000000 ≤ x.toInt) (h1 : (c : Int) * lo ≤ x.toInt) (h2 : x.toInt ≤ (c : Int) * hi) : lo ≤ (mean x (nI c)).toInt ∧ (mean x (nI c)).toInt ≤ hi := by
  have hx1 := Int32.toInt_lt x
  have hx2 := Int32.le_toInt x
  have ec : (nI c).toInt = (c : Int) := nI_toInt (by omega)
  have key : ∀ d : Int, (d = 1 ∨ d = 2 ∨ d = 3 ∨ d = 4) → (x.toInt.tdiv d = if 0 ≤ x.toInt then x.toInt / d else -((-x.toInt) / d)) := by
    intro d hd
    by_cases h0 : 0 ≤ x.toInt
    · rw [if_pos h0, Int.tdiv_eq_ediv_of_nonneg h0]
    · rw [if_neg h0]
      have : x.toInt = -(-x.toInt) := by omega
      rw [this, Int.neg_tdiv, Int.tdiv_eq_ediv_of_nonneg (by omega)]
      simp
  have hd : (c : Int) = 1 ∨ (c : Int) = 2 ∨ (c : Int) = 3 ∨ (c : Int) = 4 := by omega
  have k1 := key (c : Int) hd
  have eq : (x / nI c).toInt = x.toInt.tdiv c := by
    rw [Int32.toInt_div, ec, k1]
    rcases hd with e | e | e | e <;> rw [e] <;> split <;> exact Int.bmod_eq_of_le (by omega) (by omega)
  have er : (x - x / nI c * nI c).toInt = x.toInt - x.toInt.tdiv c * c := by
    have em : (x / nI c * nI c).toInt = x.toInt.tdiv c * c := by
      rw [Int32.toInt_mul, eq, ec, k1]
      rcases hd with e | e | e | e <;> rw [e] <;> split <;> exact Int.bmod_eq_of_le (by omega) (by omega)
    rw [Int32.toInt_sub, em, k1]
    rcases hd with e | e | e | e <;> rw [e] <;> split <;> exact Int.bmod_eq_of_le (by omega) (by omega)
  have z0 : (0 : Int32).toInt = 0 := rfl
  unfold mean
  split
  · next h =>
    obtain ⟨n1, n2⟩ := h
    rw [Int32.lt_iff_toInt_lt, z0] at n1
    have n3 : ¬ x.toInt - x.toInt.tdiv c * c = 0 := fun z => n2 (Int32.toInt_inj.mp (by rw [er, z]; rfl))
    have e1 : (x / nI c - 1).toInt = x.toInt.tdiv c - 1 := by
      rw [Int32.toInt_sub, eq, k1]
      rcases hd with e | e | e | e <;> rw [e] <;> split <;> exact Int.bmod_eq_of_le (by have : (1 : Int32).toInt = 1 := rfl; omega) (by have : (1 : Int32).toInt = 1 := rfl; omega)
    rw [e1]
    rw [k1, if_neg (by omega)] at n3 ⊢
    rcases hd with e | e | e | e <;> rw [e] at h1 h2 n3 ⊢ <;> omega
  · next h =>
    rw [eq]
    by_cases h0 : 0 ≤ x.toInt
    · rw [k1, if_pos h0]
      rcases hd with e | e | e | e <;> rw [e] at h1 h2 ⊢ <;> omega
    · have n3 : x.toInt - x.toInt.tdiv c * c = 0 := by
        refine Classical.byContradiction fun q => h ⟨?_, fun z => q (by rw [← er, z]; rfl)⟩
        rw [Int32.lt_iff_toInt_lt, z0]; omega
      rw [k1, if_neg h0] at n3 ⊢
      rcases hd with e | e | e | e <;> rw [e] at h1 h2 n3 ⊢ <;> omega
theorem nx_b {s : SG} {lo hi : Int} (h : BD s lo hi) (h1 : -90000000 ≤ lo) (h2 : hi ≤ 100000000) (hl : btw (s.1 18 0) 0 100) {k : Nat} (hk : k < 36) : lo - 100 ≤ (nxS s k).toInt ∧ (nxS s k).toInt ≤ hi := by
  unfold nxS
  split
  · obtain ⟨a1, a2, a3, -, a5, -⟩ := cmF_b h (by omega) h2 hk 4 (Nat.le_refl _)
    obtain ⟨c1, c2⟩ := cmN_p k hk
    have m := mean_b (lo := lo) (hi := hi) ⟨c1, c2⟩ (by omega) a1 a2
    obtain ⟨l1, l2⟩ := hl
    rw [Int32.le_iff_toInt_le] at l1 l2
    have z0 : (0 : Int32).toInt = 0 := rfl
    have z1 : (100 : Int32).toInt = 100 := rfl
    have e1 : (mean (cmF s k 4).1 (nI (cmN k 4)) - s.1 18 0).toInt = (mean (cmF s k 4).1 (nI (cmN k 4))).toInt - (s.1 18 0).toInt := by
      rw [Int32.toInt_sub]
      exact Int.bmod_eq_of_le (by omega) (by omega)
    rcases a3 with a3 | a3
    · omega
    unfold cmS
    rw [cmF_n]
    split
    · rw [e1]; omega
    · omega
  · have := h k hk
    omega
theorem st_15 {s : SG} {k : Nat} (hk : k < 36) : (stC s 36).1 15 k = nxS s k := by
  show (if (15 : Nat) = 46 then s.1 15 k else if 15 = 15 ∧ k < 36 then nxS s k else s.1 15 k) = _
  rw [if_neg (by decide), if_pos ⟨rfl, hk⟩]
theorem st_k {s : SG} {k : Nat} (h15 : k ≠ 15) (h46 : k ≠ 46) : (stC s 36).1 k = s.1 k := funext fun j => by
  show (if k = 46 then s.1 15 j else if k = 15 ∧ j < 36 then nxS s j else s.1 k j) = _
  rw [if_neg h46, if_neg (fun z => h15 z.1)]
theorem run_k : ∀ (n : Nat) (s : SG) (k : Nat), k ≠ 15 → k ≠ 46 → (runC s n).1.1 k = s.1 k := by
  intro n
  induction n with
  | zero => intro s k _ _; rfl
  | succ n ih =>
    intro s k h1 h2
    rw [runC]
    split
    · exact (ih _ k h1 h2).trans (st_k h1 h2)
    · exact st_k h1 h2
theorem run_2 : ∀ (n : Nat) (s : SG), (runC s n).1.2 = s.2 := by
  intro n
  induction n with
  | zero => intro s; rfl
  | succ n ih =>
    intro s
    rw [runC]
    split
    · exact ih _
    · rfl
theorem run_le : ∀ (n : Nat) (s : SG), (runC s n).2 ≤ n := by
  intro n
  induction n with
  | zero => intro s; exact Nat.le_refl _
  | succ n ih =>
    intro s
    rw [runC]
    split
    · exact Nat.succ_le_succ (ih _)
    · exact Nat.zero_le _
theorem run_bd : ∀ (n : Nat) {s : SG} {lo hi : Int}, BD s lo hi → -80000000 ≤ lo - 100 * n → hi ≤ 100000000 → btw (s.1 18 0) 0 100 → BD (runC s n).1 (lo - 100 * n) hi := by
  intro n
  induction n with
  | zero => intro s lo hi h _ _ _ q hq; have := h q hq; exact ⟨by show lo - 100 * ((0 : Nat) : Int) ≤ (s.1 15 q).toInt; omega, this.2⟩
  | succ n ih =>
    intro s lo hi h h1 h2 hl
    have hb : BD (stC s 36) (lo - 100) hi := fun q hq => by rw [st_15 hq]; exact nx_b h (by omega) h2 hl hq
    rw [runC]
    split
    · have := ih hb (by omega) h2 (by rw [st_k (by decide) (by decide)]; exact hl)
      intro q hq
      have := this q hq
      exact ⟨by show lo - 100 * ((n + 1 : Nat) : Int) ≤ ((runC (stC s 36) n).1.1 15 q).toInt; omega, this.2⟩
    · intro q hq
      have := hb q hq
      exact ⟨by show lo - 100 * ((n + 1 : Nat) : Int) ≤ ((stC s 36).1 15 q).toInt; omega, this.2⟩
theorem mv_same {s : SG} : ∀ i, mvF s i = false → ∀ j, j < i → nxS s j = s.1 15 j := by
  intro i
  induction i with
  | zero => intro _ j hj; omega
  | succ i ih =>
    intro h j hj
    rw [mvF] at h
    have h1 : mvF s i = false := by cases e : mvF s i with
      | false => rfl
      | true => rw [e] at h; exact h
    have h2 : decide (¬ nxS s i = s.1 15 i) = false := by rw [h1] at h; exact h
    by_cases e : j = i
    · subst e
      exact Classical.byContradiction fun q => by rw [decide_eq_true q] at h2; cases h2
    · exact ih h1 j (by omega)
theorem mv_eq {s s' : SG} (h : s'.1 15 = s.1 15) (h2 : s'.1 18 0 = s.1 18 0) (h3 : s'.1 17 = s.1 17) : ∀ i, mvF s' i = mvF s i := by
  intro i
  induction i with
  | zero => rfl
  | succ i ih => rw [mvF, mvF, ih, nxS, nxS, cmS_eq h h2, h3, h]
theorem st_rest {s : SG} (h : mvF s 36 = false) : mvF (stC s 36) 36 = false := by
  have e : (stC s 36).1 15 = s.1 15 := funext fun k => by
    by_cases hk : k < 36
    · rw [st_15 hk]; exact mv_same 36 h k hk
    · show (if (15 : Nat) = 46 then s.1 15 k else if 15 = 15 ∧ k < 36 then nxS s k else s.1 15 k) = _
      rw [if_neg (by decide), if_neg (fun z => hk z.2)]
  rw [mv_eq e (by rw [st_k (by decide) (by decide)]) (st_k (by decide) (by decide)), h]
theorem run_end : ∀ (n : Nat) (s : SG), (runC s n).2 = n ∨ mvF (runC s n).1 36 = false := by
  intro n
  induction n with
  | zero => intro s; exact Or.inl rfl
  | succ n ih =>
    intro s
    rw [runC]
    split
    · rcases ih (stC s 36) with z | z
      · exact Or.inl (by show (runC (stC s 36) n).2 + 1 = n + 1; rw [z])
      · exact Or.inr z
    · next c => exact Or.inr (st_rest (by cases e : mvF s 36 with
        | false => rfl
        | true => exact absurd e c))
theorem run_0 {s : SG} (h : mvF s 36 = false) (n : Nat) : (runC s n).2 = 0 := by
  cases n with
  | zero => rfl
  | succ n => rw [runC, h]; rfl
/-! what stays where only the net has changed -/
def NR (s s1 : SG) : Prop := (∀ k, k ≠ 15 → k ≠ 17 → k ≠ 18 → k ≠ 43 → k ≠ 46 → s1.1 k = s.1 k) ∧ ∀ k, k ≠ 42 → s1.2 k = s.2 k
theorem NR.tr {s s1 s2 : SG} (h : NR s s1) (h2 : NR s1 s2) : NR s s2 := ⟨fun k a b c d e => (h2.1 k a b c d e).trans (h.1 k a b c d e), fun k a => (h2.2 k a).trans (h.2 k a)⟩
theorem NR.of {s s1 : SG} (h : EQ s s1) : NR s s1 := ⟨fun k _ _ _ d e => h.1 k d e, h.2⟩
theorem NR.run (s : SG) (n : Nat) : NR s (runC s n).1 := ⟨fun k a _ _ _ e => run_k n s k a e, fun k _ => by rw [run_2]⟩
theorem NR.knot (s : SG) (j : Nat) (p q : Int32) : NR s (gKnot s j p q) := ⟨fun k a b _ _ _ => (u2_rown _ _ _ b).trans (u2_rown _ _ _ a), fun _ _ => rfl⟩
theorem NR.load (s : SG) (p : Int32) : NR s (sI s 18 0 p) := ⟨fun k _ _ c _ _ => u2_rown _ _ _ c, fun _ _ => rfl⟩
theorem op_rows {s s1 : SG} (h31 : s1.1 31 = s.1 31) (h30 : s1.1 30 = s.1 30) (j : Nat) : opS s1 j = opS s j := by
  have hN : ∀ j k i, opN s1 j k i = opN s j k i := by
    intro j k i
    induction i with
    | zero => rfl
    | succ i ih => rw [opN, opN, ih, h31]
  have hR : ∀ f p k, rndF s1 j p f k = rndF s j p f k := by
    intro f p
    induction f with
    | zero => intro k; rfl
    | succ f ih =>
      intro k
      have h2 : nxK s1 j p k = nxK s j p k := by unfold nxK; rw [hN]
      show (if k = 0 then 0 else if opN s1 j k p = 0 then -1 else if rndF s1 j p f (nxK s1 j p k) = -1 then -1 else rndF s1 j p f (nxK s1 j p k) + 1) = _
      rw [hN, h2, ih]
      rfl
  unfold opS rndS
  rw [h30, hR]
theorem CE.rows {s s1 : SG} {i : Nat} (h : ∀ k, k = 3 ∨ k = 27 ∨ (29 ≤ k ∧ k ≤ 37) → s1.1 k = s.1 k) (hc : CE s i) : CE s1 i := by
  unfold CE at hc ⊢
  rw [op_rows (h 31 (by omega)) (h 30 (by omega)), h 32 (by omega), h 33 (by omega), h 34 (by omega), h 35 (by omega), h 36 (by omega), h 37 (by omega), h 27 (by omega), h 29 (by omega), h 3 (by omega)]
  exact hc
theorem CB.rows {s s1 : SG} (h : ∀ k, k = 0 ∨ k = 28 ∨ k = 3 ∨ k = 27 ∨ (29 ≤ k ∧ k ≤ 37) → s1.1 k = s.1 k) (hc : CB s) : CB s1 := by
  refine ⟨?_, fun i hi => CE.rows (fun k hk => h k (by omega)) (hc.2 i (by unfold nC at hi ⊢; rw [h 28 (by omega)] at hi; exact hi))⟩
  have := hc.1
  unfold nA at this ⊢
  rw [h 0 (by omega), h 3 (by omega)]
  exact this
theorem PB.rows {s s1 : SG} (h : ∀ k, k = 19 ∨ k = 22 → s1.1 k = s.1 k) (h2 : ∀ k, k = 20 ∨ k = 23 → s1.2 k = s.2 k) (hc : PB s) : PB s1 := by
  unfold PB nG at hc ⊢
  rw [h 19 (by omega), h 22 (by omega), h2 20 (by omega), h2 23 (by omega)]
  exact hc
theorem MV.rows {s s1 : SG} {M : MT} (h : ∀ k, k = 0 ∨ k = 4 ∨ k = 9 ∨ k = 19 ∨ k = 28 ∨ k = 27 → s1.1 k = s.1 k) (hc : MV s M) : MV s1 M := by
  unfold MV at hc ⊢
  rw [h 0 (by omega), h 4 (by omega), h 9 (by omega), h 19 (by omega), h 28 (by omega), h 27 (by omega)]
  exact hc
theorem QV.rows {s s1 : SG} {M : MT} (h : ∀ k, k = 4 ∨ k = 5 ∨ k = 6 ∨ k = 7 ∨ k = 19 → s1.1 k = s.1 k) (h2 : s1.2 20 = s.2 20) (hc : QV s M) : QV s1 M := by
  unfold QV nB nG at hc ⊢
  rw [h 4 (by omega), h 5 (by omega), h 6 (by omega), h 7 (by omega), h 19 (by omega), h2]
  exact hc
theorem HB.rows {s s1 : SG} {t : Nat} (h : ∀ k, k = 15 ∨ k = 18 → s1.1 k = s.1 k) (hc : HB s t) : HB s1 (t + 1) := by
  unfold HB at hc ⊢
  rw [h 15 (by omega), h 18 (by omega)]
  exact ⟨fun k hk => by have := hc.1 k hk; exact ⟨this.1, by omega⟩, hc.2⟩
theorem LI.net {X X1 : XT} {s s1 : SG} {M : MT} {t : Nat} (h : LI X s M t) (hN : NR s s1) (e1 : X1.2.1 = X.2.1) (e2 : X1.2.2.1 = X.2.2.1) (hH : HB s1 (t + 1)) : LI X1 s1 M (t + 1) := by
  obtain ⟨h1, h2, h3, h4, h5, h6, h7⟩ := h
  refine ⟨INV.q1 (q' := 2 * (t + 1)) (by omega) h1 (fun k _ _ a b c d e => hN.1 k a b c d e) (hN.2 23 (by decide)) e1 e2, hH, h3.rows (fun k hk => hN.1 k (by omega) (by omega) (by omega) (by omega) (by omega)) (fun k hk => hN.2 k (by omega)), h4.rows (fun k hk => hN.1 k (by omega) (by omega) (by omega) (by omega) (by omega)), ?_, h6.rows (fun k hk => hN.1 k (by omega) (by omega) (by omega) (by omega) (by omega)), h7.rows (fun k hk => hN.1 k (by omega) (by omega) (by omega) (by omega) (by omega)) (hN.2 20 (by decide))⟩
  rw [hN.1 27 (by decide) (by decide) (by decide) (by decide) (by decide)]
  omega
