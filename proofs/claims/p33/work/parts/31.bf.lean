theorem lessL_1 (a b : Int64) : lessL a b ≤ a := by
  unfold lessL
  split
  · exact Int64.le_refl a
  · next h => exact l_nlt.mp h
theorem lessL_2 (a b : Int64) : lessL a b ≤ b := by
  unfold lessL
  split
  · next h => exact Int64.le_of_lt h
  · exact Int64.le_refl b
theorem lessL_g {t a b : Int64} (h1 : t ≤ a) (h2 : t ≤ b) : t ≤ lessL a b := by
  unfold lessL
  split
  · exact h1
  · exact h2
abbrev LT : Type := Nat → Int64
abbrev ET : Type := List (Nat × Nat × Int64)
def rel (a b : Nat) (c : Int64) (L : LT) : LT := if L b < lessL (L a) c then u1 L b (lessL (L a) c) else L
theorem rel_mono (a b : Nat) (c : Int64) (L : LT) (v : Nat) : L v ≤ rel a b c L v := by
  unfold rel
  split
  · next h =>
    by_cases e : v = b
    · subst e; rw [u1_s]; exact Int64.le_of_lt h
    · rw [u1_n _ _ e]; exact Int64.le_refl _
  · exact Int64.le_refl _
theorem rel_to (a b : Nat) (c : Int64) (L : LT) : lessL (L a) c ≤ rel a b c L b := by
  unfold rel
  split
  · rw [u1_s]; exact Int64.le_refl _
  · next h => exact l_nlt.mp h
theorem rel_at (a b : Nat) (c : Int64) (L : LT) (v : Nat) : rel a b c L v = L v ∨ (v = b ∧ rel a b c L v = lessL (L a) c) := by
  unfold rel
  split
  · by_cases e : v = b
    · subst e; right; exact ⟨rfl, u1_s _ _ _⟩
    · left; exact u1_n _ _ e
  · left; rfl
def rnd (es : ET) (L : LT) : LT := es.foldl (fun L e => rel e.1 e.2.1 e.2.2 L) L
theorem rnd_mono (es : ET) : ∀ (L : LT) (v : Nat), L v ≤ rnd es L v := by
  induction es with
  | nil => intro L v; exact Int64.le_refl _
  | cons e es ih => intro L v; exact Int64.le_trans (rel_mono _ _ _ L v) (ih _ v)
theorem rnd_to (es : ET) : ∀ (L : LT) (e : Nat × Nat × Int64), e ∈ es → lessL (L e.1) e.2.2 ≤ rnd es L e.2.1 := by
  induction es with
  | nil => intro L e h; cases h
  | cons x es ih =>
    intro L e h
    rcases List.mem_cons.mp h with rfl | h
    · exact Int64.le_trans (rel_to _ _ _ L) (rnd_mono es _ _)
    · refine Int64.le_trans (lessL_g (Int64.le_trans (lessL_1 _ _) (rel_mono x.1 x.2.1 x.2.2 L e.1)) (lessL_2 _ _)) (ih _ e h)
/-- nothing as great as t goes on -/
def clo (es : ET) (t : Int64) (L : LT) : Prop := ∀ e ∈ es, t ≤ L e.1 → t ≤ e.2.2 → t ≤ L e.2.1
theorem clo_rel {es : ET} {t : Int64} {L : LT} (h : clo es t L) {e : Nat × Nat × Int64} (he : e ∈ es) (v : Nat) : t ≤ rel e.1 e.2.1 e.2.2 L v → t ≤ L v := by
  intro hv
  rcases rel_at e.1 e.2.1 e.2.2 L v with q | ⟨rfl, q⟩
  · rwa [q] at hv
  · rw [q] at hv
    exact h e he (Int64.le_trans hv (lessL_1 _ _)) (Int64.le_trans hv (lessL_2 _ _))
theorem clo_sub {es : ET} {t : Int64} : ∀ (fs : ET) (L : LT), (∀ e ∈ fs, e ∈ es) → clo es t L → (∀ v, t ≤ rnd fs L v → t ≤ L v) ∧ clo es t (rnd fs L) := by
  intro fs
  induction fs with
  | nil => intro L _ h; exact ⟨fun _ h => h, h⟩
  | cons e fs ih =>
    intro L hs h
    have he := hs e List.mem_cons_self
    have h1 : clo es t (rel e.1 e.2.1 e.2.2 L) := fun x hx a1 a2 => Int64.le_trans (h x hx (clo_rel h he _ a1) a2) (rel_mono _ _ _ _ _)
    obtain ⟨g1, g2⟩ := ih (rel e.1 e.2.1 e.2.2 L) (fun x hx => hs x (List.mem_cons_of_mem _ hx)) h1
    exact ⟨fun v hv => clo_rel h he v (g1 v hv), g2⟩
theorem clo_rnd {es : ET} {t : Int64} {L : LT} (h : clo es t L) : clo es t (rnd es L) := (clo_sub es L (fun _ h => h) h).2
def cnt (P : Nat → Bool) : Nat → Nat
  | 0 => 0
  | n + 1 => cnt P n + (if P n then 1 else 0)
theorem cnt_le (P : Nat → Bool) : ∀ n, cnt P n ≤ n := by
  intro n
  induction n with
  | zero => exact Nat.le_refl 0
  | succ n ih => rw [cnt]; split <;> omega
theorem cnt_mono {P Q : Nat → Bool} (h : ∀ v, P v = true → Q v = true) : ∀ n, cnt P n ≤ cnt Q n := by
  intro n
  induction n with
  | zero => exact Nat.le_refl 0
  | succ n ih =>
    rw [cnt, cnt]
    by_cases c : P n = true
    · rw [if_pos c, if_pos (h n c)]; omega
    · rw [if_neg c]; split <;> omega
theorem cnt_lt {P Q : Nat → Bool} (h : ∀ v, P v = true → Q v = true) {b : Nat} (h1 : P b = false) (h2 : Q b = true) : ∀ n, b < n → cnt P n < cnt Q n := by
  intro n
  induction n with
  | zero => intro hb; omega
  | succ n ih =>
    intro hb
    rw [cnt, cnt]
    by_cases e : b = n
    · subst e
      rw [if_neg (by rw [h1]; decide), if_pos h2]
      have := cnt_mono h b
      omega
    · have := ih (by omega)
      by_cases c : P n = true
      · rw [if_pos c, if_pos (h n c)]; omega
      · rw [if_neg c]; split <;> omega
theorem cnt_all {P : Nat → Bool} : ∀ n, n ≤ cnt P n → ∀ v, v < n → P v = true := by
  intro n
  induction n with
  | zero => intro _ v hv; omega
  | succ n ih =>
    intro h v hv
    rw [cnt] at h
    have hl := cnt_le P n
    by_cases c : P n = true
    · rw [if_pos c] at h
      rcases Nat.lt_or_ge v n with z | z
      · exact ih (by omega) v z
      · have : v = n := by omega
        subst this; exact c
    · rw [if_neg c] at h; omega
theorem cnt_one {P : Nat → Bool} {x : Nat} (h : P x = true) : ∀ n, x < n → 1 ≤ cnt P n := by
  intro n
  induction n with
  | zero => intro hx; omega
  | succ n ih =>
    intro hx
    rw [cnt]
    by_cases e : x = n
    · subst e; rw [if_pos h]; omega
    · have := ih (by omega); omega
def itR (es : ET) : Nat → LT → LT
  | 0, L => L
  | k + 1, L => rnd es (itR es k L)
theorem bf {es : ET} {n x : Nat} {L0 : LT} (hx : x < n) (he : ∀ e ∈ es, e.1 < n ∧ e.2.1 < n) (h0 : ∀ v, v < n → (0 : Int64) ≤ L0 v) (h1 : ∀ v, v < n → v ≠ x → L0 v = 0) (t : Int64) : clo es t (itR es (n - 1) L0) := by
  have hnn : ∀ k v, v < n → (0 : Int64) ≤ itR es k L0 v := by
    intro k
    induction k with
    | zero => exact h0
    | succ k ih => intro v hv; exact Int64.le_trans (ih v hv) (rnd_mono es _ v)
  by_cases ht : t ≤ 0
  · intro e hem _ _; exact Int64.le_trans ht (hnn _ _ (he e hem).2)
  by_cases hs : t ≤ L0 x
  · have key : ∀ k, clo es t (itR es k L0) ∨ k + 1 ≤ cnt (fun v => decide (t ≤ itR es k L0 v)) n := by
      intro k
      induction k with
      | zero => right; exact cnt_one (x := x) (decide_eq_true (show t ≤ itR es 0 L0 x from hs)) n hx
      | succ k ih =>
        rcases ih with h | h
        · left; exact clo_rnd h
        · by_cases hc : clo es t (itR es k L0)
          · left; exact clo_rnd hc
          · right
            obtain ⟨e, hem, a1, a2, a3⟩ : ∃ e, e ∈ es ∧ t ≤ itR es k L0 e.1 ∧ t ≤ e.2.2 ∧ ¬ t ≤ itR es k L0 e.2.1 := by
              refine Classical.byContradiction fun q => hc (fun e hem a1 a2 => Classical.byContradiction fun a3 => q ⟨e, hem, a1, a2, a3⟩)
            have g1 : t ≤ itR es (k + 1) L0 e.2.1 := Int64.le_trans (lessL_g a1 a2) (rnd_to es _ e hem)
            have := cnt_lt (P := fun v => decide (t ≤ itR es k L0 v)) (Q := fun v => decide (t ≤ itR es (k + 1) L0 v)) (fun v hv => by
              simp only [decide_eq_true_eq] at hv ⊢
              exact Int64.le_trans hv (rnd_mono es _ v)) (b := e.2.1) (by simpa using a3) (by simpa using g1) n (he e hem).2
            omega
    rcases key (n - 1) with h | h
    · exact h
    · intro e hem _ _
      have := cnt_all (P := fun v => decide (t ≤ itR es (n - 1) L0 v)) n (by omega) e.2.1 (he e hem).2
      simpa using this
  · have hc0 : clo es t L0 := by
      intro e hem a1 _
      by_cases ex : e.1 = x
      · exact absurd (ex ▸ a1) hs
      · rw [h1 _ (he e hem).1 ex] at a1; exact absurd a1 ht
    have : ∀ k, clo es t (itR es k L0) := by
      intro k
      induction k with
      | zero => exact hc0
      | succ k ih => exact clo_rnd ih
    exact this _
theorem rel_congr {n a b : Nat} {c : Int64} {L M : LT} (ha : a < n) (hb : b < n) (h : ∀ v, v < n → L v = M v) : ∀ v, v < n → rel a b c L v = rel a b c M v := by
  intro v hv
  unfold rel
  rw [h a ha, h b hb]
  split
  · by_cases e : v = b
    · subst e; rw [u1_s, u1_s]
    · rw [u1_n _ _ e, u1_n _ _ e]; exact h v hv
  · exact h v hv
theorem rnd_congr {n : Nat} : ∀ (es : ET), (∀ e ∈ es, e.1 < n ∧ e.2.1 < n) → ∀ (L M : LT), (∀ v, v < n → L v = M v) → ∀ v, v < n → rnd es L v = rnd es M v := by
  intro es
  induction es with
  | nil => intro _ L M h; exact h
  | cons e es ih =>
    intro he L M h
    exact ih (fun x hx => he x (List.mem_cons_of_mem _ hx)) _ _ (rel_congr (he e List.mem_cons_self).1 (he e List.mem_cons_self).2 h)
theorem itR_congr {n : Nat} {es : ET} (he : ∀ e ∈ es, e.1 < n ∧ e.2.1 < n) {L M : LT} (h : ∀ v, v < n → L v = M v) : ∀ k v, v < n → itR es k L v = itR es k M v := by
  intro k
  induction k with
  | zero => exact h
  | succ k ih => exact rnd_congr es he _ _ ih
theorem rnd_app (es fs : ET) (L : LT) : rnd (es ++ fs) L = rnd fs (rnd es L) := List.foldl_append
