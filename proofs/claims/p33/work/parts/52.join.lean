theorem esM_in {s : SG} {ns : Nat} {i : Nat} (hi : i < ns) (h : s.1 13 i = 0) : (enA s i, enB s i, capS s i (enB s i)) ∈ esM s ns ∧ (enB s i, enA s i, capS s i (enA s i)) ∈ esM s ns := by
  induction ns with
  | zero => omega
  | succ m ih =>
    rw [esM]
    rcases (show i < m ∨ i = m by omega) with q | rfl
    · exact ⟨List.mem_append_left _ (ih q).1, List.mem_append_left _ (ih q).2⟩
    · rw [if_pos h]
      exact ⟨List.mem_append_right _ (by simp), List.mem_append_right _ (by simp)⟩
theorem esM_of {s : SG} : ∀ ns, ∀ e ∈ esM s ns, ∃ i, i < ns ∧ s.1 13 i = 0 ∧ (e = (enA s i, enB s i, capS s i (enB s i)) ∨ e = (enB s i, enA s i, capS s i (enA s i))) := by
  intro ns
  induction ns with
  | zero => intro e he; cases he
  | succ m ih =>
    intro e he
    rw [esM] at he
    rcases List.mem_append.mp he with q | q
    · obtain ⟨i, h1, h2, h3⟩ := ih e q
      exact ⟨i, by omega, h2, h3⟩
    · by_cases h : s.1 13 m = 0
      · rw [if_pos h] at q
        simp only [List.mem_cons, List.not_mem_nil, or_false] at q
        exact ⟨m, by omega, h, q⟩
      · rw [if_neg h] at q
        cases q
theorem itR_mono (es : ET) (L : LT) (v : Nat) : ∀ k, L v ≤ itR es k L v := by
  intro k
  induction k with
  | zero => exact Int64.le_refl _
  | succ k ih => exact Int64.le_trans ih (rnd_mono es _ v)
theorem up_rnd {n : Nat} {t : Int64} {S : Nat → Prop} : ∀ (fs : ET) (L : LT), (∀ e ∈ fs, e.1 < n ∧ (t ≤ e.2.2 → S e.1 → S e.2.1)) → (∀ v, v < n → t ≤ L v → S v) → ∀ v, v < n → t ≤ rnd fs L v → S v := by
  intro fs
  induction fs with
  | nil => intro L _ h; exact h
  | cons e fs ih =>
    intro L he h
    have hs : rnd (e :: fs) L = rnd fs (rel e.1 e.2.1 e.2.2 L) := rfl
    rw [hs]
    refine ih _ (fun e' h' => he e' (List.mem_cons_of_mem _ h')) (fun v hv ht => ?_)
    rcases rel_at e.1 e.2.1 e.2.2 L v with q | ⟨q1, q2⟩
    · rw [q] at ht; exact h v hv ht
    · obtain ⟨g1, g2⟩ := he e List.mem_cons_self
      rw [q2] at ht
      rw [q1]
      exact g2 (Int64.le_trans ht (lessL_2 _ _)) (h e.1 g1 (Int64.le_trans ht (lessL_1 _ _)))
theorem up_itR {n : Nat} {t : Int64} {S : Nat → Prop} {es : ET} {L : LT} (he : ∀ e ∈ es, e.1 < n ∧ (t ≤ e.2.2 → S e.1 → S e.2.1)) (h : ∀ v, v < n → t ≤ L v → S v) : ∀ k v, v < n → t ≤ itR es k L v → S v := by
  intro k
  induction k with
  | zero => exact h
  | succ k ih => exact up_rnd es _ he ih
theorem le_rnd {n : Nat} {B : Nat → Int64} : ∀ (fs : ET) (L : LT), (∀ e ∈ fs, e.2.2 ≤ B e.2.1) → (∀ v, v < n → L v ≤ B v) → ∀ v, v < n → rnd fs L v ≤ B v := by
  intro fs
  induction fs with
  | nil => intro L _ h; exact h
  | cons e fs ih =>
    intro L he h
    have hs : rnd (e :: fs) L = rnd fs (rel e.1 e.2.1 e.2.2 L) := rfl
    rw [hs]
    refine ih _ (fun e' h' => he e' (List.mem_cons_of_mem _ h')) (fun v hv => ?_)
    rcases rel_at e.1 e.2.1 e.2.2 L v with q | ⟨q1, q2⟩
    · rw [q]; exact h v hv
    · rw [q2, q1]; exact Int64.le_trans (lessL_2 _ _) (he e List.mem_cons_self)
/-- what the reckonings need of the panels and seams -/
def GOK (s : SG) (np ns : Nat) : Prop := SV s np ns ∧ np ≤ 12 ∧ ns ≤ 30 ∧ capOK s ns ∧ (∀ v, v < np → (0 : Int64) ≤ strS s v) ∧ ∀ i, i < ns → (0 : Int64) ≤ seamS s i
theorem GOK.en {s : SG} {np ns : Nat} (h : GOK s np ns) {i : Nat} (hi : i < ns) : enA s i < np ∧ enB s i < np := by
  obtain ⟨a, b, ha, hb, e1, e2⟩ := h.1 i hi
  have h12 := h.2.1
  exact ⟨by rw [enA, e1, nat_nI (by omega)]; exact ha, by rw [enB, e2, nat_nI (by omega)]; exact hb⟩
theorem capS_le {s : SG} {i b : Nat} : capS s i b ≤ strS s b := lessL_2 _ _
theorem fin_x {s : SG} {np ns x : Nat} (h : GOK s np ns) (hx : x < np) : finL s np ns x x = strS s x := by
  refine Int64.le_antisymm ?_ ?_
  · refine (?_ : ∀ k v, v < np → itR (esM s ns) k (iniL s x (s.2 14) np) v ≤ strS s v) (np - 1) x hx
    intro k
    induction k with
    | zero =>
      intro v hv
      show iniL s x (s.2 14) np v ≤ _
      by_cases e : v = x
      · subst e; simp [iniL, hv]
      · simp only [iniL, hv, if_true, e, if_false]; exact h.2.2.2.2.1 v hv
    | succ k ih =>
      refine le_rnd (esM s ns) _ (fun e he => ?_) ih
      obtain ⟨i, h1, h2, q | q⟩ := esM_of ns e he
      · rw [q]; exact capS_le
      · rw [q]; exact capS_le
  · refine Int64.le_trans ?_ (itR_mono (esM s ns) _ x (np - 1))
    simp [iniL, hx]
theorem fin_0 {s : SG} {np ns x v : Nat} (h : GOK s np ns) (hv : v < np) : (0 : Int64) ≤ finL s np ns x v := by
  refine Int64.le_trans ?_ (itR_mono (esM s ns) _ v (np - 1))
  by_cases e : v = x
  · subst e; simp only [iniL, hv, if_true]; exact h.2.2.2.2.1 v hv
  · simp [iniL, hv, e]
theorem fin_clo {s : SG} {np ns x : Nat} (h : GOK s np ns) (hx : x < np) {i : Nat} (hi : i < ns) (hr : s.1 13 i = 0) {t : Int64} (ht : t ≤ seamS s i) : t ≤ finL s np ns x (enA s i) ↔ t ≤ finL s np ns x (enB s i) := by
  have hc : clo (esM s ns) t (finL s np ns x) := bf (es := esM s ns) (n := np) (x := x) (L0 := iniL s x (s.2 14) np) hx (esM_lt h.1 h.2.1 ns (Nat.le_refl ns)) (fun v hv => by
    by_cases e : v = x
    · subst e; simp only [iniL, hv, if_true]; exact h.2.2.2.2.1 v hv
    · simp [iniL, hv, e]) (fun v hv e => by simp [iniL, hv, e]) t
  obtain ⟨m1, m2⟩ := esM_in hi hr
  have c1 : t ≤ capS s i (enB s i) := Int64.le_trans ht (Int64.le_of_eq (less_l (h.2.2.2.1 i hi).2).symm)
  have c2 : t ≤ capS s i (enA s i) := Int64.le_trans ht (Int64.le_of_eq (less_l (h.2.2.2.1 i hi).1).symm)
  have d1 : t ≤ finL s np ns x (enA s i) → t ≤ finL s np ns x (enB s i) := fun q => hc (enA s i, enB s i, capS s i (enB s i)) m1 q c1
  have d2 : t ≤ finL s np ns x (enB s i) → t ≤ finL s np ns x (enA s i) := fun q => hc (enB s i, enA s i, capS s i (enA s i)) m2 q c2
  exact ⟨d1, d2⟩
theorem fin_up {s : SG} {np ns x : Nat} (h : GOK s np ns) {t : Int64} (ht : 0 < t) {S : Nat → Prop} (hS : S x) (hc : ∀ i, i < ns → s.1 13 i = 0 → t ≤ seamS s i → (S (enA s i) ↔ S (enB s i))) : ∀ v, v < np → t ≤ finL s np ns x v → S v := by
  refine up_itR (fun e he => ?_) (fun v hv q => ?_) (np - 1)
  · obtain ⟨i, h1, h2, q | q⟩ := esM_of ns e he
    · rw [q]; exact ⟨(h.en h1).1, fun z => (hc i h1 h2 (Int64.le_trans z (lessL_1 _ _))).mp⟩
    · rw [q]; exact ⟨(h.en h1).2, fun z => (hc i h1 h2 (Int64.le_trans z (lessL_1 _ _))).mpr⟩
  · by_cases e : v = x
    · subst e; exact hS
    · simp only [iniL, hv, if_true, e, if_false] at q
      exact absurd ht (l_nlt.mpr q)
/-- a seam between two groups -/
def bw (s : SG) (ns : Nat) (g : Nat → Int32) (i : Nat) : Prop := i < ns ∧ s.1 13 i = 0 ∧ ¬ g (enA s i) = g (enB s i)
def bwT (s : SG) (ns : Nat) (g : Nat → Int32) (t : Int64) : Prop := ∃ i, bw s ns g i ∧ t ≤ seamS s i
def usedG (np : Nat) (g : Nat → Int32) (v : Nat) : Bool := decide (∃ u, u < np ∧ g u = nI v)
def JV (s : SG) (np ns x j : Nat) (g : Nat → Int32) : Prop := (∀ u v, u < np → v < np → g u = g v → ∀ t, bwT s ns g t → t ≤ finL s np ns x u → t ≤ finL s np ns x v) ∧ (∀ u, u < np → (∀ v, v < np → g v = g u → v = u) ∨ ∀ t, bwT s ns g t → t ≤ strS s u) ∧ (∀ u, u < np → ∃ v, v < np ∧ g u = nI v) ∧ cnt (usedG np g) np + j ≤ np + 1
def mvG (g : Nat → Int32) (f t : Int32) (i : Nat) : Nat → Int32 := fun v => if v < i ∧ g v = f then t else g v
theorem mvG_at {g : Nat → Int32} {f t : Int32} {i v : Nat} (h : v < i) : mvG g f t i v = if g v = f then t else g v := by
  simp [mvG, h]
theorem JV.ini {s : SG} {np ns x : Nat} {g : Nat → Int32} (hg : ∀ v, v < np → g v = nI v) (h12 : np ≤ 12) : JV s np ns x 1 g := by
  have hi : ∀ u v, u < np → v < np → g u = g v → u = v := fun u v hu hv e => by
    rw [hg u hu, hg v hv] at e
    exact nI_inj (by omega) (by omega) e
  refine ⟨fun u v hu hv e t _ q => by rw [← hi u v hu hv e]; exact q, fun u hu => Or.inl (fun v hv e => hi v u hv hu e), fun u hu => ⟨u, hu, hg u hu⟩, ?_⟩
  have := cnt_le (usedG np g) np
  omega
theorem JV.pick {s : SG} {np ns x j i : Nat} {g : Nat → Int32} (h : GOK s np ns) (hx : x < np) (hJ : JV s np ns x j g) (hi : bw s ns g i) (hm : ∀ i', bw s ns g i' → seamS s i' ≤ seamS s i) : JV s np ns x (j + 1) (mvG g (g (enB s i)) (g (enA s i)) np) := by
  obtain ⟨J1, J3, J4, J5⟩ := hJ
  obtain ⟨hA, hB⟩ := h.en hi.1
  have hd := hi.2.2
  have sub : ∀ t, bwT s ns (mvG g (g (enB s i)) (g (enA s i)) np) t → bwT s ns g t ∧ t ≤ seamS s i := by
    rintro t ⟨i', ⟨b1, b2, b3⟩, b4⟩
    have b5 : bw s ns g i' := ⟨b1, b2, fun z => b3 (by rw [mvG_at (h.en b1).1, mvG_at (h.en b1).2, z])⟩
    exact ⟨⟨i', b5, b4⟩, Int64.le_trans b4 (hm i' b5)⟩
  have cl := fun t (ht : t ≤ seamS s i) => fin_clo h hx hi.1 hi.2.1 ht
  refine ⟨fun u v hu hv e t ht q => ?_, fun u hu => ?_, fun u hu => ?_, ?_⟩
  · obtain ⟨ht1, ht2⟩ := sub t ht
    rw [mvG_at hu, mvG_at hv] at e
    by_cases c1 : g u = g (enB s i)
    · by_cases c2 : g v = g (enB s i)
      · exact J1 u v hu hv (c1.trans c2.symm) t ht1 q
      · rw [if_pos c1, if_neg c2] at e
        exact J1 _ v hA hv e t ht1 ((cl t ht2).mpr (J1 u _ hu hB c1 t ht1 q))
    · by_cases c2 : g v = g (enB s i)
      · rw [if_neg c1, if_pos c2] at e
        exact J1 _ v hB hv c2.symm t ht1 ((cl t ht2).mp (J1 u _ hu hA e t ht1 q))
      · rw [if_neg c1, if_neg c2] at e
        exact J1 u v hu hv e t ht1 q
  · have cap := h.2.2.2.1 i hi.1
    by_cases c1 : g u = g (enB s i)
    · refine Or.inr (fun t ht => ?_)
      obtain ⟨ht1, ht2⟩ := sub t ht
      rcases J3 u hu with q | q
      · rw [← q _ hB c1.symm]; exact Int64.le_trans ht2 cap.2
      · exact q t ht1
    · by_cases c2 : g u = g (enA s i)
      · refine Or.inr (fun t ht => ?_)
        obtain ⟨ht1, ht2⟩ := sub t ht
        rcases J3 u hu with q | q
        · rw [← q _ hA c2.symm]; exact Int64.le_trans ht2 cap.1
        · exact q t ht1
      · rcases J3 u hu with q | q
        · refine Or.inl (fun v hv e => ?_)
          rw [mvG_at hu, mvG_at hv, if_neg c1] at e
          by_cases c3 : g v = g (enB s i)
          · rw [if_pos c3] at e; exact absurd e.symm c2
          · rw [if_neg c3] at e; exact q v hv e
        · exact Or.inr (fun t ht => q t (sub t ht).1)
  · rw [mvG_at hu]
    split
    · exact J4 _ hA
    · exact J4 u hu
  · obtain ⟨b, hb, eb⟩ := J4 _ hB
    have h12 := h.2.1
    have hl : cnt (usedG np (mvG g (g (enB s i)) (g (enA s i)) np)) np < cnt (usedG np g) np := by
      refine cnt_lt (b := b) (fun v hv => ?_) ?_ ?_ np hb
      · obtain ⟨u, hu, e⟩ := of_decide_eq_true hv
        rw [mvG_at hu] at e
        refine decide_eq_true ?_
        by_cases c : g u = g (enB s i)
        · rw [if_pos c] at e; exact ⟨_, hA, e⟩
        · rw [if_neg c] at e; exact ⟨u, hu, e⟩
      · refine decide_eq_false ?_
        rintro ⟨u, hu, e⟩
        rw [mvG_at hu] at e
        by_cases c : g u = g (enB s i)
        · rw [if_pos c] at e; exact hd (e.trans eb.symm)
        · rw [if_neg c] at e; exact c (e.trans eb.symm)
      · exact decide_eq_true ⟨_, hB, eb⟩
    omega
theorem JV.hit {s : SG} {np ns x y j i : Nat} {g : Nat → Int32} (h : GOK s np ns) (hx : x < np) (hy : y < np) (hJ : JV s np ns x j g) (hn : ¬ g x = g y) (hi : bw s ns g i) (hm : ∀ i', bw s ns g i' → seamS s i' ≤ seamS s i) (he : mvG g (g (enB s i)) (g (enA s i)) np x = mvG g (g (enB s i)) (g (enA s i)) np y) : finL s np ns x y = seamS s i := by
  obtain ⟨J1, J3, J4, J5⟩ := hJ
  obtain ⟨hA, hB⟩ := h.en hi.1
  have cap := h.2.2.2.1 i hi.1
  have hb : bwT s ns g (seamS s i) := ⟨i, hi, Int64.le_refl _⟩
  have cl := fin_clo h hx hi.1 hi.2.1 (t := seamS s i) (Int64.le_refl _)
  rw [mvG_at hx, mvG_at hy] at he
  refine Int64.le_antisymm ?_ ?_
  · refine l_nlt.mp (fun q => ?_)
    have hp : (0 : Int64) < finL s np ns x y := Int64.lt_of_le_of_lt (h.2.2.2.2.2 i hi.1) q
    refine hn (fin_up h hp (S := fun v => g x = g v) rfl (fun i' h1 h2 h3 => ?_) y hy (Int64.le_refl _))
    have e : g (enA s i') = g (enB s i') := Decidable.not_not.mp (fun z => absurd (Int64.lt_of_lt_of_le q h3) (l_nlt.mpr (hm i' ⟨h1, h2, z⟩)))
    show g x = g (enA s i') ↔ g x = g (enB s i')
    rw [e]
  · have side : (g x = g (enA s i) ∧ g y = g (enB s i)) ∨ (g x = g (enB s i) ∧ g y = g (enA s i)) := by
      by_cases c1 : g x = g (enB s i)
      · by_cases c2 : g y = g (enB s i)
        · exact absurd (c1.trans c2.symm) hn
        · rw [if_pos c1, if_neg c2] at he; exact Or.inr ⟨c1, he.symm⟩
      · by_cases c2 : g y = g (enB s i)
        · rw [if_neg c1, if_pos c2] at he; exact Or.inl ⟨he, c2⟩
        · rw [if_neg c1, if_neg c2] at he; exact absurd he hn
    have hsx : seamS s i ≤ finL s np ns x x := by
      rw [fin_x h hx]
      rcases J3 x hx with q | q
      · rcases side with ⟨e, -⟩ | ⟨e, -⟩
        · rw [← q _ hA e.symm]; exact cap.1
        · rw [← q _ hB e.symm]; exact cap.2
      · exact q _ hb
    rcases side with ⟨e1, e2⟩ | ⟨e1, e2⟩
    · exact J1 _ y hB hy e2.symm _ hb (cl.mp (J1 x _ hx hA e1 _ hb hsx))
    · exact J1 _ y hA hy e2.symm _ hb (cl.mpr (J1 x _ hx hB e1 _ hb hsx))
theorem JV.none {s : SG} {np ns x y : Nat} {g : Nat → Int32} (h : GOK s np ns) (hy : y < np) (hn : ¬ g x = g y) (hm : ∀ i, ¬ bw s ns g i) : finL s np ns x y = 0 := by
  refine Int64.le_antisymm ?_ (fin_0 h hy)
  refine l_nlt.mp (fun q => ?_)
  refine hn (fin_up h q (S := fun v => g x = g v) rfl (fun i' h1 h2 h3 => ?_) y hy (Int64.le_refl _))
  have e : g (enA s i') = g (enB s i') := Decidable.not_not.mp (fun z => hm i' ⟨h1, h2, z⟩)
  show g x = g (enA s i') ↔ g x = g (enB s i')
  rw [e]
theorem JV.two {s : SG} {np ns x y : Nat} {g : Nat → Int32} (h12 : np ≤ 12) (hx : x < np) (hy : y < np) (hJ : JV s np ns x np g) : g x = g y := by
  obtain ⟨-, -, J4, J5⟩ := hJ
  refine Decidable.not_not.mp (fun q => ?_)
  obtain ⟨a, ha, ea⟩ := J4 x hx
  obtain ⟨b, hb, eb⟩ := J4 y hy
  have hab : a ≠ b := fun z => q (by rw [ea, eb, z])
  have h1 : cnt (fun v => decide (v = a)) np < cnt (usedG np g) np := by
    refine cnt_lt (b := b) (fun v hv => ?_) (decide_eq_false (fun z => hab z.symm)) (decide_eq_true ⟨y, hy, eb⟩) np hb
    have : v = a := of_decide_eq_true hv
    subst this
    exact decide_eq_true ⟨x, hx, ea⟩
  have h2 := cnt_one (P := fun v => decide (v = a)) (x := a) (decide_eq_true rfl) np ha
  omega
