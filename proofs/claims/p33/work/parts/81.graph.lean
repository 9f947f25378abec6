/-! loads: both ways alike, over a third, sewn, ripped -/
theorem fin_le {s : SG} {np ns x : Nat} (h : GOK s np ns) : ∀ v, v < np → finL s np ns x v ≤ strS s v := by
  refine (?_ : ∀ k v, v < np → itR (esM s ns) k (iniL s x (s.2 14) np) v ≤ strS s v) (np - 1)
  intro k
  induction k with
  | zero =>
    intro v hv
    show iniL s x (s.2 14) np v ≤ _
    by_cases e : v = x
    · subst e; simp [iniL, hv]
    · simp only [iniL, hv, if_true, e, if_false]; exact h.2.2.2.2.1 v hv
  | succ k ih =>
    refine le_rnd (esM s ns) _ (fun e he => ?_) ih
    obtain ⟨i, h1, h2, q | q⟩ := esM_of ns e he
    · rw [q]; exact capS_le
    · rw [q]; exact capS_le
theorem fin_st {s : SG} {np ns x : Nat} (h : GOK s np ns) {t : Int64} (ht : 0 < t) : ∀ v, v < np → t ≤ finL s np ns x v → t ≤ strS s x := by
  refine up_itR (S := fun _ => t ≤ strS s x) (fun e he => ?_) (fun v hv q => ?_) (np - 1)
  · obtain ⟨i, h1, h2, q | q⟩ := esM_of ns e he
    · rw [q]; exact ⟨(h.en h1).1, fun _ z => z⟩
    · rw [q]; exact ⟨(h.en h1).2, fun _ z => z⟩
  · by_cases e : v = x
    · subst e; simp only [iniL, hv, if_true] at q; exact q
    · simp only [iniL, hv, if_true, e, if_false] at q
      exact absurd ht (l_nlt.mpr q)
theorem fin_lex {s : SG} {np ns x v : Nat} (h : GOK s np ns) (hx : x < np) (hv : v < np) : finL s np ns x v ≤ strS s x := by
  by_cases c : 0 < finL s np ns x v
  · exact fin_st h c v hv (Int64.le_refl _)
  · exact Int64.le_trans (l_nlt.mp c) (h.2.2.2.2.1 x hx)
theorem fin_sym1 {s : SG} {np ns x y : Nat} (h : GOK s np ns) (hx : x < np) (hy : y < np) {t : Int64} (ht : 0 < t) (hq : t ≤ finL s np ns x y) : t ≤ finL s np ns y x := by
  refine Classical.byContradiction fun c => ?_
  have := fin_up h ht (x := x) (S := fun v => ¬ t ≤ finL s np ns y v) c (fun i hi hr hs => not_congr (fin_clo h hy hi hr hs)) y hy hq
  exact this (by rw [fin_x h hy]; exact Int64.le_trans hq (fin_le h y hy))
theorem fin_sym {s : SG} {np ns x y : Nat} (h : GOK s np ns) (hx : x < np) (hy : y < np) : finL s np ns x y = finL s np ns y x := by
  refine Int64.le_antisymm ?_ ?_
  · by_cases c : 0 < finL s np ns x y
    · exact fin_sym1 h hx hy c (Int64.le_refl _)
    · exact Int64.le_trans (l_nlt.mp c) (fin_0 h hx)
  · by_cases c : 0 < finL s np ns y x
    · exact fin_sym1 h hy hx c (Int64.le_refl _)
    · exact Int64.le_trans (l_nlt.mp c) (fin_0 h hy)
theorem fin_tri {s : SG} {np ns x y z : Nat} (h : GOK s np ns) (hx : x < np) (hy : y < np) (hz : z < np) {t : Int64} (h1 : t ≤ finL s np ns x y) (h2 : t ≤ finL s np ns y z) : t ≤ finL s np ns x z := by
  by_cases c : 0 < t
  · exact fin_up h c (x := y) (S := fun v => t ≤ finL s np ns x v) h1 (fun i hi hr hs => fin_clo h hx hi hr hs) z hz h2
  · exact Int64.le_trans (l_nlt.mp c) (fin_0 h hz)
/-- fewer or weaker seams: no more goes -/
theorem fin_mono {s s1 : SG} {np ns ns1 x y : Nat} (h : GOK s np ns) (h1 : GOK s1 np ns1) (hx : x < np) (hy : y < np) (hs : strS s1 x = strS s x) {t : Int64} (ht : 0 < t) (hc : ∀ i, i < ns1 → s1.1 13 i = 0 → t ≤ seamS s1 i → (t ≤ finL s np ns x (enA s1 i) ↔ t ≤ finL s np ns x (enB s1 i))) (hq : t ≤ finL s1 np ns1 x y) : t ≤ finL s np ns x y := by
  refine fin_up h1 ht (x := x) (S := fun v => t ≤ finL s np ns x v) ?_ hc y hy hq
  rw [fin_x h hx, ← hs]
  exact fin_st h1 ht y hy hq
theorem le_of_pos {a b : Int64} (hb : 0 ≤ b) (h : ∀ t : Int64, 0 < t → t ≤ a → t ≤ b) : a ≤ b := by
  by_cases c : 0 < a
  · exact h a c (Int64.le_refl _)
  · exact Int64.le_trans (l_nlt.mp c) hb
theorem fin_rip {s s1 : SG} {np ns x y : Nat} (h : GOK s np ns) (h1 : GOK s1 np ns) (hx : x < np) (hy : y < np) (hs : ∀ v, strS s1 v = strS s v) (he : ∀ i, seamS s1 i = seamS s i ∧ enA s1 i = enA s i ∧ enB s1 i = enB s i) (hr : ∀ i, s1.1 13 i = 0 → s.1 13 i = 0) : finL s1 np ns x y ≤ finL s np ns x y := by
  refine le_of_pos (fin_0 h hy) (fun t ht hq => fin_mono h h1 hx hy (hs x) ht (fun i hi h13 hse => ?_) hq)
  rw [(he i).2.1, (he i).2.2]
  exact fin_clo h hx hi (hr i h13) (by rw [← (he i).1]; exact hse)
theorem fin_sewn {s s1 : SG} {np ns x y : Nat} (h : GOK s np ns) (h1 : GOK s1 np (ns + 1)) (hx : x < np) (hy : y < np) (hs : ∀ v, strS s1 v = strS s v) (he : ∀ i, i < ns → seamS s1 i = seamS s i ∧ enA s1 i = enA s i ∧ enB s1 i = enB s i ∧ s1.1 13 i = s.1 13 i) (h13 : s1.1 13 ns = 0) (ea : enA s1 ns = x) (eb : enB s1 ns = y) : finL s1 np (ns + 1) x y = if finL s np ns x y > seamS s1 ns then finL s np ns x y else seamS s1 ns := by
  have up : finL s np ns x y ≤ finL s1 np (ns + 1) x y := by
    refine le_of_pos (fin_0 h1 hy) (fun t ht hq => fin_mono h1 h hx hy (hs x).symm ht (fun i hi hr hse => ?_) hq)
    obtain ⟨e1, e2, e3, e4⟩ := he i hi
    rw [← e2, ← e3]
    exact fin_clo h1 hx (by omega) (by rw [e4]; exact hr) (by rw [e1]; exact hse)
  have un : seamS s1 ns ≤ finL s1 np (ns + 1) x y := by
    refine le_of_pos (fin_0 h1 hy) (fun t ht hq => ?_)
    have := fin_clo h1 hx (i := ns) (by omega) h13 hq
    rw [ea, eb] at this
    refine this.mp ?_
    rw [fin_x h1 hx]
    refine Int64.le_trans hq ?_
    have := (h1.2.2.2.1 ns (by omega)).1
    rw [ea] at this
    exact this
  have dn : ∀ t : Int64, 0 < t → seamS s1 ns < t → t ≤ finL s1 np (ns + 1) x y → t ≤ finL s np ns x y := fun t ht hlt hq => by
    refine fin_mono h h1 hx hy (hs x) ht (fun i hi hr hse => ?_) hq
    by_cases e : i = ns
    · subst e; exact absurd hse (l_nle.mpr hlt)
    · obtain ⟨e1, e2, e3, e4⟩ := he i (by omega)
      rw [e2, e3]
      exact fin_clo h hx (by omega) (by rw [← e4]; exact hr) (by rw [← e1]; exact hse)
  have n0 : (0 : Int64) ≤ seamS s1 ns := h1.2.2.2.2.2 ns (by omega)
  split
  · next c =>
    refine Int64.le_antisymm ?_ up
    by_cases g : seamS s1 ns < finL s1 np (ns + 1) x y
    · exact dn _ (Int64.lt_of_le_of_lt n0 g) g (Int64.le_refl _)
    · exact Int64.le_trans (l_nlt.mp g) (Int64.le_of_lt c)
  · next c =>
    refine Int64.le_antisymm ?_ un
    by_cases g : seamS s1 ns < finL s1 np (ns + 1) x y
    · exact Int64.le_trans (dn _ (Int64.lt_of_le_of_lt n0 g) g (Int64.le_refl _)) (l_nlt.mp c)
    · exact l_nlt.mp g
