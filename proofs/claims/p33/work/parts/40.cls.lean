/-! THE CLASS: its objects are told by a code c and a number i; what they hold is told by the state s, their own rows from 39 on -/
abbrev XT : Type := (Nat → Nat → Nat) × (Nat → Nat → Bool) × (Nat → Nat → Bool) × (Nat → Prop) × GT
def kc (c : Nat) : Nat := match c with
  | 0 => 9
  | 1 => 16
  | 2 => 17
  | 3 => 18
  | 4 => 19
  | 5 => 20
  | 6 => 4
  | 7 => 11
  | 8 => 11
  | 9 => 13
  | 10 => 7
  | 11 => 2
  | 12 => 14
  | 13 => 3
  | 14 => 5
  | 15 => 8
  | 16 => 6
  | 17 => 1
  | 18 => 11
  | _ => 0
def lc (c : Nat) : Nat := match c with
  | 1 => 6
  | 2 => 12
  | 3 => 30
  | 4 => 8
  | 5 => 6
  | 7 => 36
  | 8 => 36
  | 9 => 36
  | 12 => 512
  | 18 => 8
  | _ => 0
def nc (c : Nat) : Nat := match c with
  | 0 => 14
  | 6 => 4
  | 10 => 3
  | 11 => 2
  | 13 => 8
  | 14 => 5
  | 15 => 3
  | 16 => 4
  | 17 => 10
  | 1 => 6
  | 2 => 12
  | 3 => 30
  | 4 => 8
  | 5 => 6
  | 7 => 36
  | 8 => 36
  | 9 => 36
  | 12 => 512
  | 18 => 8
  | _ => 0
/-- which row holds it (99: none), and where -/
def lk (c f : Nat) : Nat := match c with
  | 0 => (match f with | 1 => 0 | 3 => 4 | 5 => 9 | 8 => 19 | 11 => 28 | 13 => 27 | _ => 99)
  | 6 => (match f with | 3 => 18 | _ => 99)
  | 7 => 15
  | 8 => 46
  | 9 => 17
  | 10 => (match f with | 0 => 24 | 1 => 25 | 2 => 26 | _ => 99)
  | 11 => (match f with | 1 => 45 | _ => 99)
  | 12 => 44
  | 13 => (match f with | 0 => 1 | 1 => 1 | 2 => 1 | 3 => 2 | 4 => 3 | 5 => 39 | 6 => 40 | 7 => 41 | _ => 99)
  | 14 => (match f with | 1 => 6 | 2 => 8 | 4 => 43 | _ => 99)
  | 15 => (match f with | 2 => 12 | _ => 99)
  | 16 => (match f with | 1 => 21 | 2 => 22 | _ => 99)
  | 17 => (match f with | 1 => 29 | 3 => 30 | 4 => 32 | 5 => 33 | 6 => 34 | 7 => 35 | 8 => 36 | 9 => 37 | _ => 99)
  | 18 => 31
  | _ => 99
def iv (s : SG) (c i f : Nat) : Int32 := match c with
  | 0 => (match f with | 1 => s.1 0 i | 3 => s.1 4 i | 5 => s.1 9 i | 8 => s.1 19 i | 11 => s.1 28 i | 13 => s.1 27 i | _ => 0)
  | 6 => (match f with | 3 => s.1 18 i | _ => 0)
  | 7 => if i = 0 then s.1 15 f else 0
  | 8 => if i = 0 then s.1 46 f else 0
  | 9 => if i = 0 then s.1 17 f else 0
  | 10 => (match f with | 0 => s.1 24 i | 1 => s.1 25 i | 2 => s.1 26 i | _ => 0)
  | 11 => (match f with | 1 => s.1 45 i | _ => 0)
  | 12 => if i = 0 then s.1 44 f else 0
  | 13 => (match f with | 0 => s.1 1 (3 * i) | 1 => s.1 1 (3 * i + 1) | 2 => s.1 1 (3 * i + 2) | 3 => s.1 2 i | 4 => s.1 3 i | 5 => s.1 39 i | 6 => s.1 40 i | 7 => s.1 41 i | _ => 0)
  | 14 => (match f with | 1 => s.1 6 i | 2 => s.1 8 i | 4 => s.1 43 i | _ => 0)
  | 15 => (match f with | 2 => pctS s i | _ => 0)
  | 16 => (match f with | 1 => s.1 21 i | 2 => s.1 22 i | _ => 0)
  | 17 => (match f with | 1 => s.1 29 i | 3 => s.1 30 i | 4 => s.1 32 i | 5 => s.1 33 i | 6 => s.1 34 i | 7 => s.1 35 i | 8 => s.1 36 i | 9 => s.1 37 i | _ => 0)
  | 18 => s.1 31 (8 * i + f)
  | _ => 0
def jv (s : SG) (c i f : Nat) : Int64 := match c with
  | 14 => (match f with | 3 => s.2 42 i | _ => 0)
  | 16 => (match f with | 0 => s.2 20 i | 3 => s.2 23 i | _ => 0)
  | _ => 0
def rv (X : XT) (s : SG) (c i f : Nat) : Option (Nat × Nat) := match c with
  | 0 => (match f with | 0 => some (1, 0) | 2 => some (2, 0) | 4 => some (3, 0) | 6 => some (6, 0) | 7 => some (4, 0) | 9 => some (10, 0) | 10 => some (5, 0) | 12 => some (11, 0) | _ => none)
  | 1 => if X.2.2.1 1 f then some (13, f) else none
  | 2 => if X.2.2.1 2 f then some (14, f) else none
  | 3 => if X.2.2.1 3 f then some (15, f) else none
  | 4 => if X.2.2.1 4 f then some (16, f) else none
  | 5 => if X.2.2.1 5 f then some (17, f) else none
  | 6 => (match f with | 0 => some (7, 0) | 1 => some (8, 0) | 2 => some (9, 0) | _ => none)
  | 11 => (match f with | 0 => some (12, 0) | _ => none)
  | 14 => (match f with | 0 => some (13, nat (s.1 5 i)) | _ => none)
  | 15 => (match f with | 0 => some (14, nat (s.1 10 i)) | 1 => some (14, nat (s.1 11 i)) | _ => none)
  | 17 => (match f with | 0 => some (13, nat (s.1 29 i)) | 2 => some (18, i) | _ => none)
  | _ => none
def LF (X : XT) (s : SG) (G : GT) : Prop := (∀ c i, X.2.1 c i = true → (0 < kc c ∧ G.1 (X.1 c i) = kc c ∧ G.2.1 (X.1 c i) = lc c) ∧ ∀ f, f < nc c → G.2.2.1 (X.1 c i) f = iv s c i f ∧ G.2.2.2.1 (X.1 c i) f = jv s c i f ∧ G.2.2.2.2.2 (X.1 c i) f = (rv X s c i f).map (fun o => X.1 o.1 o.2) ∧ ∀ o, rv X s c i f = some o → X.2.1 o.1 o.2 = true) ∧ (∀ c i c' i', X.2.1 c i = true → X.2.1 c' i' = true → X.1 c i = X.1 c' i' → c = c' ∧ i = i') ∧ (∀ c, c < 13 → X.2.1 c 0 = true) ∧ ∀ p, X.2.2.2.1 p → (∀ c i, X.2.1 c i = true → p ≠ X.1 c i) ∧ X.2.2.2.2.1 p ≠ 0 ∧ same6 G X.2.2.2.2 p
/-- s' is s with one place changed -/
def UI (s s' : SG) (c i f : Nat) (x : Int32) : Prop := (∀ c' i' f', f' < nc c' → iv s' c' i' f' = if c' = c ∧ i' = i ∧ f' = f then x else iv s c' i' f') ∧ (∀ c' i' f', jv s' c' i' f' = jv s c' i' f') ∧ ∀ X c' i' f', rv X s' c' i' f' = rv X s c' i' f'
def UJ (s s' : SG) (c i f : Nat) (x : Int64) : Prop := (∀ c' i' f', jv s' c' i' f' = if c' = c ∧ i' = i ∧ f' = f then x else jv s c' i' f') ∧ (∀ c' i' f', iv s' c' i' f' = iv s c' i' f') ∧ ∀ X c' i' f', rv X s' c' i' f' = rv X s c' i' f'
theorem LF.putI {X : XT} {s s' : SG} {T N : Nat → Nat} {I : Nat → Nat → Int32} {J : Nat → Nat → Int64} {E : Nat → Nat → UInt64} {Rf : Nat → Nat → Option Nat} (h : LF X s (T, N, I, J, E, Rf)) {c i f : Nat} {x : Int32} (hL : X.2.1 c i = true) (hU : UI s s' c i f x) : LF X s' (T, N, u2 I (X.1 c i) f x, J, E, Rf) := by
  refine ⟨fun c' i' h' => ⟨(h.1 c' i' h').1, fun f' hf' => ?_⟩, h.2.1, h.2.2.1, fun p hp => ⟨(h.2.2.2 p hp).1, (h.2.2.2 p hp).2.1, (h.2.2.2 p hp).2.2.putI ((h.2.2.2 p hp).1 c i hL) f x⟩⟩
  obtain ⟨h1, h2, h3, h4⟩ := (h.1 c' i' h').2 f' hf'
  refine ⟨?_, h2.trans (hU.2.1 _ _ _).symm, by rw [hU.2.2]; exact h3, fun o ho => h4 o (by rw [← hU.2.2]; exact ho)⟩
  show u2 I (X.1 c i) f x (X.1 c' i') f' = _
  rw [hU.1 c' i' f' hf']
  by_cases e : c' = c ∧ i' = i ∧ f' = f
  · rw [if_pos e]
    obtain ⟨rfl, rfl, rfl⟩ := e
    exact u2_s _ _ _ _
  · rw [if_neg e, u2, if_neg (fun z => e ⟨(h.2.1 c' i' c i h' hL z.1).1, (h.2.1 c' i' c i h' hL z.1).2, z.2⟩)]
    exact h1
theorem LF.putJ {X : XT} {s s' : SG} {T N : Nat → Nat} {I : Nat → Nat → Int32} {J : Nat → Nat → Int64} {E : Nat → Nat → UInt64} {Rf : Nat → Nat → Option Nat} (h : LF X s (T, N, I, J, E, Rf)) {c i f : Nat} {x : Int64} (hL : X.2.1 c i = true) (hU : UJ s s' c i f x) : LF X s' (T, N, I, u2 J (X.1 c i) f x, E, Rf) := by
  refine ⟨fun c' i' h' => ⟨(h.1 c' i' h').1, fun f' hf' => ?_⟩, h.2.1, h.2.2.1, fun p hp => ⟨(h.2.2.2 p hp).1, (h.2.2.2 p hp).2.1, (h.2.2.2 p hp).2.2.putJ ((h.2.2.2 p hp).1 c i hL) f x⟩⟩
  obtain ⟨h1, h2, h3, h4⟩ := (h.1 c' i' h').2 f' hf'
  refine ⟨h1.trans (hU.2.1 _ _ _).symm, ?_, by rw [hU.2.2]; exact h3, fun o ho => h4 o (by rw [← hU.2.2]; exact ho)⟩
  show u2 J (X.1 c i) f x (X.1 c' i') f' = _
  rw [hU.1 c' i' f']
  by_cases e : c' = c ∧ i' = i ∧ f' = f
  · rw [if_pos e]
    obtain ⟨rfl, rfl, rfl⟩ := e
    exact u2_s _ _ _ _
  · rw [if_neg e, u2, if_neg (fun z => e ⟨(h.2.1 c' i' c i h' hL z.1).1, (h.2.1 c' i' c i h' hL z.1).2, z.2⟩)]
    exact h2
theorem uI_0_1 (s : SG) (x : Int32) : UI s (sI s 0 0 x) 0 0 1 x := by
  refine ⟨fun c' i' f' hf' => ?_, fun _ _ _ => rfl, fun X c' i' f' => rfl⟩
  unfold iv
  split
  · split <;> first | (by_cases e1 : i' = 0 <;> simp [sI, u2, e1]; done) | (simp_all [sI, u2]; done)
  · refine Eq.trans ?_ (if_neg (fun z => absurd z.1 (by decide))).symm; split <;> first | rfl | simp [sI, u2]
  · refine Eq.trans ?_ (if_neg (fun z => absurd z.1 (by decide))).symm; simp [sI, u2]
  · refine Eq.trans ?_ (if_neg (fun z => absurd z.1 (by decide))).symm; simp [sI, u2]
  · refine Eq.trans ?_ (if_neg (fun z => absurd z.1 (by decide))).symm; simp [sI, u2]
  · refine Eq.trans ?_ (if_neg (fun z => absurd z.1 (by decide))).symm; split <;> first | rfl | simp [sI, u2]
  · refine Eq.trans ?_ (if_neg (fun z => absurd z.1 (by decide))).symm; split <;> first | rfl | simp [sI, u2]
  · refine Eq.trans ?_ (if_neg (fun z => absurd z.1 (by decide))).symm; simp [sI, u2]
  · refine Eq.trans ?_ (if_neg (fun z => absurd z.1 (by decide))).symm; split <;> first | rfl | simp [sI, u2]
  · refine Eq.trans ?_ (if_neg (fun z => absurd z.1 (by decide))).symm; split <;> first | rfl | simp [sI, u2]
  · refine Eq.trans ?_ (if_neg (fun z => absurd z.1 (by decide))).symm; split <;> first | rfl | simp [sI, u2]
  · refine Eq.trans ?_ (if_neg (fun z => absurd z.1 (by decide))).symm; split <;> first | rfl | simp [sI, u2]
  · refine Eq.trans ?_ (if_neg (fun z => absurd z.1 (by decide))).symm; split <;> first | rfl | simp [sI, u2]
  · refine Eq.trans ?_ (if_neg (fun z => absurd z.1 (by decide))).symm; simp [sI, u2]
  · rw [if_neg (by rintro ⟨rfl, _⟩; simp_all)]
theorem uI_0_3 (s : SG) (x : Int32) : UI s (sI s 4 0 x) 0 0 3 x := by
  refine ⟨fun c' i' f' hf' => ?_, fun _ _ _ => rfl, fun X c' i' f' => rfl⟩
  unfold iv
  split
  · split <;> first | (by_cases e1 : i' = 0 <;> simp [sI, u2, e1]; done) | (simp_all [sI, u2]; done)
  · refine Eq.trans ?_ (if_neg (fun z => absurd z.1 (by decide))).symm; split <;> first | rfl | simp [sI, u2]
  · refine Eq.trans ?_ (if_neg (fun z => absurd z.1 (by decide))).symm; simp [sI, u2]
  · refine Eq.trans ?_ (if_neg (fun z => absurd z.1 (by decide))).symm; simp [sI, u2]
  · refine Eq.trans ?_ (if_neg (fun z => absurd z.1 (by decide))).symm; simp [sI, u2]
  · refine Eq.trans ?_ (if_neg (fun z => absurd z.1 (by decide))).symm; split <;> first | rfl | simp [sI, u2]
  · refine Eq.trans ?_ (if_neg (fun z => absurd z.1 (by decide))).symm; split <;> first | rfl | simp [sI, u2]
  · refine Eq.trans ?_ (if_neg (fun z => absurd z.1 (by decide))).symm; simp [sI, u2]
  · refine Eq.trans ?_ (if_neg (fun z => absurd z.1 (by decide))).symm; split <;> first | rfl | simp [sI, u2]
  · refine Eq.trans ?_ (if_neg (fun z => absurd z.1 (by decide))).symm; split <;> first | rfl | simp [sI, u2]
  · refine Eq.trans ?_ (if_neg (fun z => absurd z.1 (by decide))).symm; split <;> first | rfl | simp [sI, u2]
  · refine Eq.trans ?_ (if_neg (fun z => absurd z.1 (by decide))).symm; split <;> first | rfl | simp [sI, u2]
  · refine Eq.trans ?_ (if_neg (fun z => absurd z.1 (by decide))).symm; split <;> first | rfl | simp [sI, u2]
  · refine Eq.trans ?_ (if_neg (fun z => absurd z.1 (by decide))).symm; simp [sI, u2]
  · rw [if_neg (by rintro ⟨rfl, _⟩; simp_all)]
theorem uI_0_5 (s : SG) (x : Int32) : UI s (sI s 9 0 x) 0 0 5 x := by
  refine ⟨fun c' i' f' hf' => ?_, fun _ _ _ => rfl, fun X c' i' f' => rfl⟩
  unfold iv
  split
  · split <;> first | (by_cases e1 : i' = 0 <;> simp [sI, u2, e1]; done) | (simp_all [sI, u2]; done)
  · refine Eq.trans ?_ (if_neg (fun z => absurd z.1 (by decide))).symm; split <;> first | rfl | simp [sI, u2]
  · refine Eq.trans ?_ (if_neg (fun z => absurd z.1 (by decide))).symm; simp [sI, u2]
  · refine Eq.trans ?_ (if_neg (fun z => absurd z.1 (by decide))).symm; simp [sI, u2]
  · refine Eq.trans ?_ (if_neg (fun z => absurd z.1 (by decide))).symm; simp [sI, u2]
  · refine Eq.trans ?_ (if_neg (fun z => absurd z.1 (by decide))).symm; split <;> first | rfl | simp [sI, u2]
  · refine Eq.trans ?_ (if_neg (fun z => absurd z.1 (by decide))).symm; split <;> first | rfl | simp [sI, u2]
  · refine Eq.trans ?_ (if_neg (fun z => absurd z.1 (by decide))).symm; simp [sI, u2]
  · refine Eq.trans ?_ (if_neg (fun z => absurd z.1 (by decide))).symm; split <;> first | rfl | simp [sI, u2]
  · refine Eq.trans ?_ (if_neg (fun z => absurd z.1 (by decide))).symm; split <;> first | rfl | simp [sI, u2]
  · refine Eq.trans ?_ (if_neg (fun z => absurd z.1 (by decide))).symm; split <;> first | rfl | simp [sI, u2]
  · refine Eq.trans ?_ (if_neg (fun z => absurd z.1 (by decide))).symm; split <;> first | rfl | simp [sI, u2]
  · refine Eq.trans ?_ (if_neg (fun z => absurd z.1 (by decide))).symm; split <;> first | rfl | simp [sI, u2]
  · refine Eq.trans ?_ (if_neg (fun z => absurd z.1 (by decide))).symm; simp [sI, u2]
  · rw [if_neg (by rintro ⟨rfl, _⟩; simp_all)]
theorem uI_0_8 (s : SG) (x : Int32) : UI s (sI s 19 0 x) 0 0 8 x := by
  refine ⟨fun c' i' f' hf' => ?_, fun _ _ _ => rfl, fun X c' i' f' => rfl⟩
  unfold iv
  split
  · split <;> first | (by_cases e1 : i' = 0 <;> simp [sI, u2, e1]; done) | (simp_all [sI, u2]; done)
  · refine Eq.trans ?_ (if_neg (fun z => absurd z.1 (by decide))).symm; split <;> first | rfl | simp [sI, u2]
  · refine Eq.trans ?_ (if_neg (fun z => absurd z.1 (by decide))).symm; simp [sI, u2]
  · refine Eq.trans ?_ (if_neg (fun z => absurd z.1 (by decide))).symm; simp [sI, u2]
  · refine Eq.trans ?_ (if_neg (fun z => absurd z.1 (by decide))).symm; simp [sI, u2]
  · refine Eq.trans ?_ (if_neg (fun z => absurd z.1 (by decide))).symm; split <;> first | rfl | simp [sI, u2]
  · refine Eq.trans ?_ (if_neg (fun z => absurd z.1 (by decide))).symm; split <;> first | rfl | simp [sI, u2]
  · refine Eq.trans ?_ (if_neg (fun z => absurd z.1 (by decide))).symm; simp [sI, u2]
  · refine Eq.trans ?_ (if_neg (fun z => absurd z.1 (by decide))).symm; split <;> first | rfl | simp [sI, u2]
  · refine Eq.trans ?_ (if_neg (fun z => absurd z.1 (by decide))).symm; split <;> first | rfl | simp [sI, u2]
  · refine Eq.trans ?_ (if_neg (fun z => absurd z.1 (by decide))).symm; split <;> first | rfl | simp [sI, u2]
  · refine Eq.trans ?_ (if_neg (fun z => absurd z.1 (by decide))).symm; split <;> first | rfl | simp [sI, u2]
  · refine Eq.trans ?_ (if_neg (fun z => absurd z.1 (by decide))).symm; split <;> first | rfl | simp [sI, u2]
  · refine Eq.trans ?_ (if_neg (fun z => absurd z.1 (by decide))).symm; simp [sI, u2]
  · rw [if_neg (by rintro ⟨rfl, _⟩; simp_all)]
theorem uI_0_11 (s : SG) (x : Int32) : UI s (sI s 28 0 x) 0 0 11 x := by
  refine ⟨fun c' i' f' hf' => ?_, fun _ _ _ => rfl, fun X c' i' f' => rfl⟩
  unfold iv
  split
  · split <;> first | (by_cases e1 : i' = 0 <;> simp [sI, u2, e1]; done) | (simp_all [sI, u2]; done)
  · refine Eq.trans ?_ (if_neg (fun z => absurd z.1 (by decide))).symm; split <;> first | rfl | simp [sI, u2]
  · refine Eq.trans ?_ (if_neg (fun z => absurd z.1 (by decide))).symm; simp [sI, u2]
  · refine Eq.trans ?_ (if_neg (fun z => absurd z.1 (by decide))).symm; simp [sI, u2]
  · refine Eq.trans ?_ (if_neg (fun z => absurd z.1 (by decide))).symm; simp [sI, u2]
  · refine Eq.trans ?_ (if_neg (fun z => absurd z.1 (by decide))).symm; split <;> first | rfl | simp [sI, u2]
  · refine Eq.trans ?_ (if_neg (fun z => absurd z.1 (by decide))).symm; split <;> first | rfl | simp [sI, u2]
  · refine Eq.trans ?_ (if_neg (fun z => absurd z.1 (by decide))).symm; simp [sI, u2]
  · refine Eq.trans ?_ (if_neg (fun z => absurd z.1 (by decide))).symm; split <;> first | rfl | simp [sI, u2]
  · refine Eq.trans ?_ (if_neg (fun z => absurd z.1 (by decide))).symm; split <;> first | rfl | simp [sI, u2]
  · refine Eq.trans ?_ (if_neg (fun z => absurd z.1 (by decide))).symm; split <;> first | rfl | simp [sI, u2]
  · refine Eq.trans ?_ (if_neg (fun z => absurd z.1 (by decide))).symm; split <;> first | rfl | simp [sI, u2]
  · refine Eq.trans ?_ (if_neg (fun z => absurd z.1 (by decide))).symm; split <;> first | rfl | simp [sI, u2]
  · refine Eq.trans ?_ (if_neg (fun z => absurd z.1 (by decide))).symm; simp [sI, u2]
  · rw [if_neg (by rintro ⟨rfl, _⟩; simp_all)]
theorem uI_0_13 (s : SG) (x : Int32) : UI s (sI s 27 0 x) 0 0 13 x := by
  refine ⟨fun c' i' f' hf' => ?_, fun _ _ _ => rfl, fun X c' i' f' => rfl⟩
  unfold iv
  split
  · split <;> first | (by_cases e1 : i' = 0 <;> simp [sI, u2, e1]; done) | (simp_all [sI, u2]; done)
  · refine Eq.trans ?_ (if_neg (fun z => absurd z.1 (by decide))).symm; split <;> first | rfl | simp [sI, u2]
  · refine Eq.trans ?_ (if_neg (fun z => absurd z.1 (by decide))).symm; simp [sI, u2]
  · refine Eq.trans ?_ (if_neg (fun z => absurd z.1 (by decide))).symm; simp [sI, u2]
  · refine Eq.trans ?_ (if_neg (fun z => absurd z.1 (by decide))).symm; simp [sI, u2]
  · refine Eq.trans ?_ (if_neg (fun z => absurd z.1 (by decide))).symm; split <;> first | rfl | simp [sI, u2]
  · refine Eq.trans ?_ (if_neg (fun z => absurd z.1 (by decide))).symm; split <;> first | rfl | simp [sI, u2]
  · refine Eq.trans ?_ (if_neg (fun z => absurd z.1 (by decide))).symm; simp [sI, u2]
  · refine Eq.trans ?_ (if_neg (fun z => absurd z.1 (by decide))).symm; split <;> first | rfl | simp [sI, u2]
  · refine Eq.trans ?_ (if_neg (fun z => absurd z.1 (by decide))).symm; split <;> first | rfl | simp [sI, u2]
  · refine Eq.trans ?_ (if_neg (fun z => absurd z.1 (by decide))).symm; split <;> first | rfl | simp [sI, u2]
  · refine Eq.trans ?_ (if_neg (fun z => absurd z.1 (by decide))).symm; split <;> first | rfl | simp [sI, u2]
  · refine Eq.trans ?_ (if_neg (fun z => absurd z.1 (by decide))).symm; split <;> first | rfl | simp [sI, u2]
  · refine Eq.trans ?_ (if_neg (fun z => absurd z.1 (by decide))).symm; simp [sI, u2]
  · rw [if_neg (by rintro ⟨rfl, _⟩; simp_all)]
theorem uI_6_3 (s : SG) (x : Int32) : UI s (sI s 18 0 x) 6 0 3 x := by
  refine ⟨fun c' i' f' hf' => ?_, fun _ _ _ => rfl, fun X c' i' f' => rfl⟩
  unfold iv
  split
  · refine Eq.trans ?_ (if_neg (fun z => absurd z.1 (by decide))).symm; split <;> first | rfl | simp [sI, u2]
  · split <;> first | (by_cases e1 : i' = 0 <;> simp [sI, u2, e1]; done) | (simp_all [sI, u2]; done)
  · refine Eq.trans ?_ (if_neg (fun z => absurd z.1 (by decide))).symm; simp [sI, u2]
  · refine Eq.trans ?_ (if_neg (fun z => absurd z.1 (by decide))).symm; simp [sI, u2]
  · refine Eq.trans ?_ (if_neg (fun z => absurd z.1 (by decide))).symm; simp [sI, u2]
  · refine Eq.trans ?_ (if_neg (fun z => absurd z.1 (by decide))).symm; split <;> first | rfl | simp [sI, u2]
  · refine Eq.trans ?_ (if_neg (fun z => absurd z.1 (by decide))).symm; split <;> first | rfl | simp [sI, u2]
  · refine Eq.trans ?_ (if_neg (fun z => absurd z.1 (by decide))).symm; simp [sI, u2]
  · refine Eq.trans ?_ (if_neg (fun z => absurd z.1 (by decide))).symm; split <;> first | rfl | simp [sI, u2]
  · refine Eq.trans ?_ (if_neg (fun z => absurd z.1 (by decide))).symm; split <;> first | rfl | simp [sI, u2]
  · refine Eq.trans ?_ (if_neg (fun z => absurd z.1 (by decide))).symm; split <;> first | rfl | simp [sI, u2]
  · refine Eq.trans ?_ (if_neg (fun z => absurd z.1 (by decide))).symm; split <;> first | rfl | simp [sI, u2]
  · refine Eq.trans ?_ (if_neg (fun z => absurd z.1 (by decide))).symm; split <;> first | rfl | simp [sI, u2]
  · refine Eq.trans ?_ (if_neg (fun z => absurd z.1 (by decide))).symm; simp [sI, u2]
  · rw [if_neg (by rintro ⟨rfl, _⟩; simp_all)]
theorem uI_7_a (s : SG) (f : Nat) (x : Int32) : UI s (sI s 15 f x) 7 0 f x := by
  refine ⟨fun c' i' f' hf' => ?_, fun _ _ _ => rfl, fun X c' i' f' => rfl⟩
  unfold iv
  split
  · refine Eq.trans ?_ (if_neg (fun z => absurd z.1 (by decide))).symm; split <;> first | rfl | simp [sI, u2]
  · refine Eq.trans ?_ (if_neg (fun z => absurd z.1 (by decide))).symm; split <;> first | rfl | simp [sI, u2]
  · by_cases e1 : i' = 0 <;> by_cases e2 : f' = f <;> simp [sI, u2, e1, e2]
  · refine Eq.trans ?_ (if_neg (fun z => absurd z.1 (by decide))).symm; simp [sI, u2]
  · refine Eq.trans ?_ (if_neg (fun z => absurd z.1 (by decide))).symm; simp [sI, u2]
  · refine Eq.trans ?_ (if_neg (fun z => absurd z.1 (by decide))).symm; split <;> first | rfl | simp [sI, u2]
  · refine Eq.trans ?_ (if_neg (fun z => absurd z.1 (by decide))).symm; split <;> first | rfl | simp [sI, u2]
  · refine Eq.trans ?_ (if_neg (fun z => absurd z.1 (by decide))).symm; simp [sI, u2]
  · refine Eq.trans ?_ (if_neg (fun z => absurd z.1 (by decide))).symm; split <;> first | rfl | simp [sI, u2]
  · refine Eq.trans ?_ (if_neg (fun z => absurd z.1 (by decide))).symm; split <;> first | rfl | simp [sI, u2]
  · refine Eq.trans ?_ (if_neg (fun z => absurd z.1 (by decide))).symm; split <;> first | rfl | simp [sI, u2]
  · refine Eq.trans ?_ (if_neg (fun z => absurd z.1 (by decide))).symm; split <;> first | rfl | simp [sI, u2]
  · refine Eq.trans ?_ (if_neg (fun z => absurd z.1 (by decide))).symm; split <;> first | rfl | simp [sI, u2]
  · refine Eq.trans ?_ (if_neg (fun z => absurd z.1 (by decide))).symm; simp [sI, u2]
  · rw [if_neg (by rintro ⟨rfl, _⟩; simp_all)]
theorem uI_8_a (s : SG) (f : Nat) (x : Int32) : UI s (sI s 46 f x) 8 0 f x := by
  refine ⟨fun c' i' f' hf' => ?_, fun _ _ _ => rfl, fun X c' i' f' => rfl⟩
  unfold iv
  split
  · refine Eq.trans ?_ (if_neg (fun z => absurd z.1 (by decide))).symm; split <;> first | rfl | simp [sI, u2]
  · refine Eq.trans ?_ (if_neg (fun z => absurd z.1 (by decide))).symm; split <;> first | rfl | simp [sI, u2]
  · refine Eq.trans ?_ (if_neg (fun z => absurd z.1 (by decide))).symm; simp [sI, u2]
  · by_cases e1 : i' = 0 <;> by_cases e2 : f' = f <;> simp [sI, u2, e1, e2]
  · refine Eq.trans ?_ (if_neg (fun z => absurd z.1 (by decide))).symm; simp [sI, u2]
  · refine Eq.trans ?_ (if_neg (fun z => absurd z.1 (by decide))).symm; split <;> first | rfl | simp [sI, u2]
  · refine Eq.trans ?_ (if_neg (fun z => absurd z.1 (by decide))).symm; split <;> first | rfl | simp [sI, u2]
  · refine Eq.trans ?_ (if_neg (fun z => absurd z.1 (by decide))).symm; simp [sI, u2]
  · refine Eq.trans ?_ (if_neg (fun z => absurd z.1 (by decide))).symm; split <;> first | rfl | simp [sI, u2]
  · refine Eq.trans ?_ (if_neg (fun z => absurd z.1 (by decide))).symm; split <;> first | rfl | simp [sI, u2]
  · refine Eq.trans ?_ (if_neg (fun z => absurd z.1 (by decide))).symm; split <;> first | rfl | simp [sI, u2]
  · refine Eq.trans ?_ (if_neg (fun z => absurd z.1 (by decide))).symm; split <;> first | rfl | simp [sI, u2]
  · refine Eq.trans ?_ (if_neg (fun z => absurd z.1 (by decide))).symm; split <;> first | rfl | simp [sI, u2]
  · refine Eq.trans ?_ (if_neg (fun z => absurd z.1 (by decide))).symm; simp [sI, u2]
  · rw [if_neg (by rintro ⟨rfl, _⟩; simp_all)]
theorem uI_9_a (s : SG) (f : Nat) (x : Int32) : UI s (sI s 17 f x) 9 0 f x := by
  refine ⟨fun c' i' f' hf' => ?_, fun _ _ _ => rfl, fun X c' i' f' => rfl⟩
  unfold iv
  split
  · refine Eq.trans ?_ (if_neg (fun z => absurd z.1 (by decide))).symm; split <;> first | rfl | simp [sI, u2]
  · refine Eq.trans ?_ (if_neg (fun z => absurd z.1 (by decide))).symm; split <;> first | rfl | simp [sI, u2]
  · refine Eq.trans ?_ (if_neg (fun z => absurd z.1 (by decide))).symm; simp [sI, u2]
  · refine Eq.trans ?_ (if_neg (fun z => absurd z.1 (by decide))).symm; simp [sI, u2]
  · by_cases e1 : i' = 0 <;> by_cases e2 : f' = f <;> simp [sI, u2, e1, e2]
  · refine Eq.trans ?_ (if_neg (fun z => absurd z.1 (by decide))).symm; split <;> first | rfl | simp [sI, u2]
  · refine Eq.trans ?_ (if_neg (fun z => absurd z.1 (by decide))).symm; split <;> first | rfl | simp [sI, u2]
  · refine Eq.trans ?_ (if_neg (fun z => absurd z.1 (by decide))).symm; simp [sI, u2]
  · refine Eq.trans ?_ (if_neg (fun z => absurd z.1 (by decide))).symm; split <;> first | rfl | simp [sI, u2]
  · refine Eq.trans ?_ (if_neg (fun z => absurd z.1 (by decide))).symm; split <;> first | rfl | simp [sI, u2]
  · refine Eq.trans ?_ (if_neg (fun z => absurd z.1 (by decide))).symm; split <;> first | rfl | simp [sI, u2]
  · refine Eq.trans ?_ (if_neg (fun z => absurd z.1 (by decide))).symm; split <;> first | rfl | simp [sI, u2]
  · refine Eq.trans ?_ (if_neg (fun z => absurd z.1 (by decide))).symm; split <;> first | rfl | simp [sI, u2]
  · refine Eq.trans ?_ (if_neg (fun z => absurd z.1 (by decide))).symm; simp [sI, u2]
  · rw [if_neg (by rintro ⟨rfl, _⟩; simp_all)]
theorem uI_10_0 (s : SG) (x : Int32) : UI s (sI s 24 0 x) 10 0 0 x := by
  refine ⟨fun c' i' f' hf' => ?_, fun _ _ _ => rfl, fun X c' i' f' => rfl⟩
  unfold iv
  split
  · refine Eq.trans ?_ (if_neg (fun z => absurd z.1 (by decide))).symm; split <;> first | rfl | simp [sI, u2]
  · refine Eq.trans ?_ (if_neg (fun z => absurd z.1 (by decide))).symm; split <;> first | rfl | simp [sI, u2]
  · refine Eq.trans ?_ (if_neg (fun z => absurd z.1 (by decide))).symm; simp [sI, u2]
  · refine Eq.trans ?_ (if_neg (fun z => absurd z.1 (by decide))).symm; simp [sI, u2]
  · refine Eq.trans ?_ (if_neg (fun z => absurd z.1 (by decide))).symm; simp [sI, u2]
  · split <;> first | (by_cases e1 : i' = 0 <;> simp [sI, u2, e1]; done) | (simp_all [sI, u2]; done)
  · refine Eq.trans ?_ (if_neg (fun z => absurd z.1 (by decide))).symm; split <;> first | rfl | simp [sI, u2]
  · refine Eq.trans ?_ (if_neg (fun z => absurd z.1 (by decide))).symm; simp [sI, u2]
  · refine Eq.trans ?_ (if_neg (fun z => absurd z.1 (by decide))).symm; split <;> first | rfl | simp [sI, u2]
  · refine Eq.trans ?_ (if_neg (fun z => absurd z.1 (by decide))).symm; split <;> first | rfl | simp [sI, u2]
  · refine Eq.trans ?_ (if_neg (fun z => absurd z.1 (by decide))).symm; split <;> first | rfl | simp [sI, u2]
  · refine Eq.trans ?_ (if_neg (fun z => absurd z.1 (by decide))).symm; split <;> first | rfl | simp [sI, u2]
  · refine Eq.trans ?_ (if_neg (fun z => absurd z.1 (by decide))).symm; split <;> first | rfl | simp [sI, u2]
  · refine Eq.trans ?_ (if_neg (fun z => absurd z.1 (by decide))).symm; simp [sI, u2]
  · rw [if_neg (by rintro ⟨rfl, _⟩; simp_all)]
theorem uI_10_1 (s : SG) (x : Int32) : UI s (sI s 25 0 x) 10 0 1 x := by
  refine ⟨fun c' i' f' hf' => ?_, fun _ _ _ => rfl, fun X c' i' f' => rfl⟩
  unfold iv
  split
  · refine Eq.trans ?_ (if_neg (fun z => absurd z.1 (by decide))).symm; split <;> first | rfl | simp [sI, u2]
  · refine Eq.trans ?_ (if_neg (fun z => absurd z.1 (by decide))).symm; split <;> first | rfl | simp [sI, u2]
  · refine Eq.trans ?_ (if_neg (fun z => absurd z.1 (by decide))).symm; simp [sI, u2]
  · refine Eq.trans ?_ (if_neg (fun z => absurd z.1 (by decide))).symm; simp [sI, u2]
  · refine Eq.trans ?_ (if_neg (fun z => absurd z.1 (by decide))).symm; simp [sI, u2]
  · split <;> first | (by_cases e1 : i' = 0 <;> simp [sI, u2, e1]; done) | (simp_all [sI, u2]; done)
  · refine Eq.trans ?_ (if_neg (fun z => absurd z.1 (by decide))).symm; split <;> first | rfl | simp [sI, u2]
  · refine Eq.trans ?_ (if_neg (fun z => absurd z.1 (by decide))).symm; simp [sI, u2]
  · refine Eq.trans ?_ (if_neg (fun z => absurd z.1 (by decide))).symm; split <;> first | rfl | simp [sI, u2]
  · refine Eq.trans ?_ (if_neg (fun z => absurd z.1 (by decide))).symm; split <;> first | rfl | simp [sI, u2]
  · refine Eq.trans ?_ (if_neg (fun z => absurd z.1 (by decide))).symm; split <;> first | rfl | simp [sI, u2]
  · refine Eq.trans ?_ (if_neg (fun z => absurd z.1 (by decide))).symm; split <;> first | rfl | simp [sI, u2]
  · refine Eq.trans ?_ (if_neg (fun z => absurd z.1 (by decide))).symm; split <;> first | rfl | simp [sI, u2]
  · refine Eq.trans ?_ (if_neg (fun z => absurd z.1 (by decide))).symm; simp [sI, u2]
  · rw [if_neg (by rintro ⟨rfl, _⟩; simp_all)]
theorem uI_10_2 (s : SG) (x : Int32) : UI s (sI s 26 0 x) 10 0 2 x := by
  refine ⟨fun c' i' f' hf' => ?_, fun _ _ _ => rfl, fun X c' i' f' => rfl⟩
  unfold iv
  split
  · refine Eq.trans ?_ (if_neg (fun z => absurd z.1 (by decide))).symm; split <;> first | rfl | simp [sI, u2]
  · refine Eq.trans ?_ (if_neg (fun z => absurd z.1 (by decide))).symm; split <;> first | rfl | simp [sI, u2]
  · refine Eq.trans ?_ (if_neg (fun z => absurd z.1 (by decide))).symm; simp [sI, u2]
  · refine Eq.trans ?_ (if_neg (fun z => absurd z.1 (by decide))).symm; simp [sI, u2]
  · refine Eq.trans ?_ (if_neg (fun z => absurd z.1 (by decide))).symm; simp [sI, u2]
  · split <;> first | (by_cases e1 : i' = 0 <;> simp [sI, u2, e1]; done) | (simp_all [sI, u2]; done)
  · refine Eq.trans ?_ (if_neg (fun z => absurd z.1 (by decide))).symm; split <;> first | rfl | simp [sI, u2]
  · refine Eq.trans ?_ (if_neg (fun z => absurd z.1 (by decide))).symm; simp [sI, u2]
  · refine Eq.trans ?_ (if_neg (fun z => absurd z.1 (by decide))).symm; split <;> first | rfl | simp [sI, u2]
  · refine Eq.trans ?_ (if_neg (fun z => absurd z.1 (by decide))).symm; split <;> first | rfl | simp [sI, u2]
  · refine Eq.trans ?_ (if_neg (fun z => absurd z.1 (by decide))).symm; split <;> first | rfl | simp [sI, u2]
  · refine Eq.trans ?_ (if_neg (fun z => absurd z.1 (by decide))).symm; split <;> first | rfl | simp [sI, u2]
  · refine Eq.trans ?_ (if_neg (fun z => absurd z.1 (by decide))).symm; split <;> first | rfl | simp [sI, u2]
  · refine Eq.trans ?_ (if_neg (fun z => absurd z.1 (by decide))).symm; simp [sI, u2]
  · rw [if_neg (by rintro ⟨rfl, _⟩; simp_all)]
theorem uI_11_1 (s : SG) (x : Int32) : UI s (sI s 45 0 x) 11 0 1 x := by
  refine ⟨fun c' i' f' hf' => ?_, fun _ _ _ => rfl, fun X c' i' f' => rfl⟩
  unfold iv
  split
  · refine Eq.trans ?_ (if_neg (fun z => absurd z.1 (by decide))).symm; split <;> first | rfl | simp [sI, u2]
  · refine Eq.trans ?_ (if_neg (fun z => absurd z.1 (by decide))).symm; split <;> first | rfl | simp [sI, u2]
  · refine Eq.trans ?_ (if_neg (fun z => absurd z.1 (by decide))).symm; simp [sI, u2]
  · refine Eq.trans ?_ (if_neg (fun z => absurd z.1 (by decide))).symm; simp [sI, u2]
  · refine Eq.trans ?_ (if_neg (fun z => absurd z.1 (by decide))).symm; simp [sI, u2]
  · refine Eq.trans ?_ (if_neg (fun z => absurd z.1 (by decide))).symm; split <;> first | rfl | simp [sI, u2]
  · split <;> first | (by_cases e1 : i' = 0 <;> simp [sI, u2, e1]; done) | (simp_all [sI, u2]; done)
  · refine Eq.trans ?_ (if_neg (fun z => absurd z.1 (by decide))).symm; simp [sI, u2]
  · refine Eq.trans ?_ (if_neg (fun z => absurd z.1 (by decide))).symm; split <;> first | rfl | simp [sI, u2]
  · refine Eq.trans ?_ (if_neg (fun z => absurd z.1 (by decide))).symm; split <;> first | rfl | simp [sI, u2]
  · refine Eq.trans ?_ (if_neg (fun z => absurd z.1 (by decide))).symm; split <;> first | rfl | simp [sI, u2]
  · refine Eq.trans ?_ (if_neg (fun z => absurd z.1 (by decide))).symm; split <;> first | rfl | simp [sI, u2]
  · refine Eq.trans ?_ (if_neg (fun z => absurd z.1 (by decide))).symm; split <;> first | rfl | simp [sI, u2]
  · refine Eq.trans ?_ (if_neg (fun z => absurd z.1 (by decide))).symm; simp [sI, u2]
  · rw [if_neg (by rintro ⟨rfl, _⟩; simp_all)]
theorem uI_12_a (s : SG) (f : Nat) (x : Int32) : UI s (sI s 44 f x) 12 0 f x := by
  refine ⟨fun c' i' f' hf' => ?_, fun _ _ _ => rfl, fun X c' i' f' => rfl⟩
  unfold iv
  split
  · refine Eq.trans ?_ (if_neg (fun z => absurd z.1 (by decide))).symm; split <;> first | rfl | simp [sI, u2]
  · refine Eq.trans ?_ (if_neg (fun z => absurd z.1 (by decide))).symm; split <;> first | rfl | simp [sI, u2]
  · refine Eq.trans ?_ (if_neg (fun z => absurd z.1 (by decide))).symm; simp [sI, u2]
  · refine Eq.trans ?_ (if_neg (fun z => absurd z.1 (by decide))).symm; simp [sI, u2]
  · refine Eq.trans ?_ (if_neg (fun z => absurd z.1 (by decide))).symm; simp [sI, u2]
  · refine Eq.trans ?_ (if_neg (fun z => absurd z.1 (by decide))).symm; split <;> first | rfl | simp [sI, u2]
  · refine Eq.trans ?_ (if_neg (fun z => absurd z.1 (by decide))).symm; split <;> first | rfl | simp [sI, u2]
  · by_cases e1 : i' = 0 <;> by_cases e2 : f' = f <;> simp [sI, u2, e1, e2]
  · refine Eq.trans ?_ (if_neg (fun z => absurd z.1 (by decide))).symm; split <;> first | rfl | simp [sI, u2]
  · refine Eq.trans ?_ (if_neg (fun z => absurd z.1 (by decide))).symm; split <;> first | rfl | simp [sI, u2]
  · refine Eq.trans ?_ (if_neg (fun z => absurd z.1 (by decide))).symm; split <;> first | rfl | simp [sI, u2]
  · refine Eq.trans ?_ (if_neg (fun z => absurd z.1 (by decide))).symm; split <;> first | rfl | simp [sI, u2]
  · refine Eq.trans ?_ (if_neg (fun z => absurd z.1 (by decide))).symm; split <;> first | rfl | simp [sI, u2]
  · refine Eq.trans ?_ (if_neg (fun z => absurd z.1 (by decide))).symm; simp [sI, u2]
  · rw [if_neg (by rintro ⟨rfl, _⟩; simp_all)]
theorem uI_13_3 (s : SG) (i : Nat) (x : Int32) : UI s (sI s 2 i x) 13 i 3 x := by
  refine ⟨fun c' i' f' hf' => ?_, fun _ _ _ => rfl, fun X c' i' f' => rfl⟩
  unfold iv
  split
  · refine Eq.trans ?_ (if_neg (fun z => absurd z.1 (by decide))).symm; split <;> first | rfl | simp [sI, u2]
  · refine Eq.trans ?_ (if_neg (fun z => absurd z.1 (by decide))).symm; split <;> first | rfl | simp [sI, u2]
  · refine Eq.trans ?_ (if_neg (fun z => absurd z.1 (by decide))).symm; simp [sI, u2]
  · refine Eq.trans ?_ (if_neg (fun z => absurd z.1 (by decide))).symm; simp [sI, u2]
  · refine Eq.trans ?_ (if_neg (fun z => absurd z.1 (by decide))).symm; simp [sI, u2]
  · refine Eq.trans ?_ (if_neg (fun z => absurd z.1 (by decide))).symm; split <;> first | rfl | simp [sI, u2]
  · refine Eq.trans ?_ (if_neg (fun z => absurd z.1 (by decide))).symm; split <;> first | rfl | simp [sI, u2]
  · refine Eq.trans ?_ (if_neg (fun z => absurd z.1 (by decide))).symm; simp [sI, u2]
  · split <;> first | (by_cases e1 : i' = i <;> simp [sI, u2, e1]; done) | (simp_all [sI, u2]; done)
  · refine Eq.trans ?_ (if_neg (fun z => absurd z.1 (by decide))).symm; split <;> first | rfl | simp [sI, u2]
  · refine Eq.trans ?_ (if_neg (fun z => absurd z.1 (by decide))).symm; split <;> first | rfl | simp [sI, u2]
  · refine Eq.trans ?_ (if_neg (fun z => absurd z.1 (by decide))).symm; split <;> first | rfl | simp [sI, u2]
  · refine Eq.trans ?_ (if_neg (fun z => absurd z.1 (by decide))).symm; split <;> first | rfl | simp [sI, u2]
  · refine Eq.trans ?_ (if_neg (fun z => absurd z.1 (by decide))).symm; simp [sI, u2]
  · rw [if_neg (by rintro ⟨rfl, _⟩; simp_all)]
theorem uI_13_4 (s : SG) (i : Nat) (x : Int32) : UI s (sI s 3 i x) 13 i 4 x := by
  refine ⟨fun c' i' f' hf' => ?_, fun _ _ _ => rfl, fun X c' i' f' => rfl⟩
  unfold iv
  split
  · refine Eq.trans ?_ (if_neg (fun z => absurd z.1 (by decide))).symm; split <;> first | rfl | simp [sI, u2]
  · refine Eq.trans ?_ (if_neg (fun z => absurd z.1 (by decide))).symm; split <;> first | rfl | simp [sI, u2]
  · refine Eq.trans ?_ (if_neg (fun z => absurd z.1 (by decide))).symm; simp [sI, u2]
  · refine Eq.trans ?_ (if_neg (fun z => absurd z.1 (by decide))).symm; simp [sI, u2]
  · refine Eq.trans ?_ (if_neg (fun z => absurd z.1 (by decide))).symm; simp [sI, u2]
  · refine Eq.trans ?_ (if_neg (fun z => absurd z.1 (by decide))).symm; split <;> first | rfl | simp [sI, u2]
  · refine Eq.trans ?_ (if_neg (fun z => absurd z.1 (by decide))).symm; split <;> first | rfl | simp [sI, u2]
  · refine Eq.trans ?_ (if_neg (fun z => absurd z.1 (by decide))).symm; simp [sI, u2]
  · split <;> first | (by_cases e1 : i' = i <;> simp [sI, u2, e1]; done) | (simp_all [sI, u2]; done)
  · refine Eq.trans ?_ (if_neg (fun z => absurd z.1 (by decide))).symm; split <;> first | rfl | simp [sI, u2]
  · refine Eq.trans ?_ (if_neg (fun z => absurd z.1 (by decide))).symm; split <;> first | rfl | simp [sI, u2]
  · refine Eq.trans ?_ (if_neg (fun z => absurd z.1 (by decide))).symm; split <;> first | rfl | simp [sI, u2]
  · refine Eq.trans ?_ (if_neg (fun z => absurd z.1 (by decide))).symm; split <;> first | rfl | simp [sI, u2]
  · refine Eq.trans ?_ (if_neg (fun z => absurd z.1 (by decide))).symm; simp [sI, u2]
  · rw [if_neg (by rintro ⟨rfl, _⟩; simp_all)]
theorem uI_13_5 (s : SG) (i : Nat) (x : Int32) : UI s (sI s 39 i x) 13 i 5 x := by
  refine ⟨fun c' i' f' hf' => ?_, fun _ _ _ => rfl, fun X c' i' f' => rfl⟩
  unfold iv
  split
  · refine Eq.trans ?_ (if_neg (fun z => absurd z.1 (by decide))).symm; split <;> first | rfl | simp [sI, u2]
  · refine Eq.trans ?_ (if_neg (fun z => absurd z.1 (by decide))).symm; split <;> first | rfl | simp [sI, u2]
  · refine Eq.trans ?_ (if_neg (fun z => absurd z.1 (by decide))).symm; simp [sI, u2]
  · refine Eq.trans ?_ (if_neg (fun z => absurd z.1 (by decide))).symm; simp [sI, u2]
  · refine Eq.trans ?_ (if_neg (fun z => absurd z.1 (by decide))).symm; simp [sI, u2]
  · refine Eq.trans ?_ (if_neg (fun z => absurd z.1 (by decide))).symm; split <;> first | rfl | simp [sI, u2]
  · refine Eq.trans ?_ (if_neg (fun z => absurd z.1 (by decide))).symm; split <;> first | rfl | simp [sI, u2]
  · refine Eq.trans ?_ (if_neg (fun z => absurd z.1 (by decide))).symm; simp [sI, u2]
  · split <;> first | (by_cases e1 : i' = i <;> simp [sI, u2, e1]; done) | (simp_all [sI, u2]; done)
  · refine Eq.trans ?_ (if_neg (fun z => absurd z.1 (by decide))).symm; split <;> first | rfl | simp [sI, u2]
  · refine Eq.trans ?_ (if_neg (fun z => absurd z.1 (by decide))).symm; split <;> first | rfl | simp [sI, u2]
  · refine Eq.trans ?_ (if_neg (fun z => absurd z.1 (by decide))).symm; split <;> first | rfl | simp [sI, u2]
  · refine Eq.trans ?_ (if_neg (fun z => absurd z.1 (by decide))).symm; split <;> first | rfl | simp [sI, u2]
  · refine Eq.trans ?_ (if_neg (fun z => absurd z.1 (by decide))).symm; simp [sI, u2]
  · rw [if_neg (by rintro ⟨rfl, _⟩; simp_all)]
theorem uI_13_6 (s : SG) (i : Nat) (x : Int32) : UI s (sI s 40 i x) 13 i 6 x := by
  refine ⟨fun c' i' f' hf' => ?_, fun _ _ _ => rfl, fun X c' i' f' => rfl⟩
  unfold iv
  split
  · refine Eq.trans ?_ (if_neg (fun z => absurd z.1 (by decide))).symm; split <;> first | rfl | simp [sI, u2]
  · refine Eq.trans ?_ (if_neg (fun z => absurd z.1 (by decide))).symm; split <;> first | rfl | simp [sI, u2]
  · refine Eq.trans ?_ (if_neg (fun z => absurd z.1 (by decide))).symm; simp [sI, u2]
  · refine Eq.trans ?_ (if_neg (fun z => absurd z.1 (by decide))).symm; simp [sI, u2]
  · refine Eq.trans ?_ (if_neg (fun z => absurd z.1 (by decide))).symm; simp [sI, u2]
  · refine Eq.trans ?_ (if_neg (fun z => absurd z.1 (by decide))).symm; split <;> first | rfl | simp [sI, u2]
  · refine Eq.trans ?_ (if_neg (fun z => absurd z.1 (by decide))).symm; split <;> first | rfl | simp [sI, u2]
  · refine Eq.trans ?_ (if_neg (fun z => absurd z.1 (by decide))).symm; simp [sI, u2]
  · split <;> first | (by_cases e1 : i' = i <;> simp [sI, u2, e1]; done) | (simp_all [sI, u2]; done)
  · refine Eq.trans ?_ (if_neg (fun z => absurd z.1 (by decide))).symm; split <;> first | rfl | simp [sI, u2]
  · refine Eq.trans ?_ (if_neg (fun z => absurd z.1 (by decide))).symm; split <;> first | rfl | simp [sI, u2]
  · refine Eq.trans ?_ (if_neg (fun z => absurd z.1 (by decide))).symm; split <;> first | rfl | simp [sI, u2]
  · refine Eq.trans ?_ (if_neg (fun z => absurd z.1 (by decide))).symm; split <;> first | rfl | simp [sI, u2]
  · refine Eq.trans ?_ (if_neg (fun z => absurd z.1 (by decide))).symm; simp [sI, u2]
  · rw [if_neg (by rintro ⟨rfl, _⟩; simp_all)]
theorem uI_13_7 (s : SG) (i : Nat) (x : Int32) : UI s (sI s 41 i x) 13 i 7 x := by
  refine ⟨fun c' i' f' hf' => ?_, fun _ _ _ => rfl, fun X c' i' f' => rfl⟩
  unfold iv
  split
  · refine Eq.trans ?_ (if_neg (fun z => absurd z.1 (by decide))).symm; split <;> first | rfl | simp [sI, u2]
  · refine Eq.trans ?_ (if_neg (fun z => absurd z.1 (by decide))).symm; split <;> first | rfl | simp [sI, u2]
  · refine Eq.trans ?_ (if_neg (fun z => absurd z.1 (by decide))).symm; simp [sI, u2]
  · refine Eq.trans ?_ (if_neg (fun z => absurd z.1 (by decide))).symm; simp [sI, u2]
  · refine Eq.trans ?_ (if_neg (fun z => absurd z.1 (by decide))).symm; simp [sI, u2]
  · refine Eq.trans ?_ (if_neg (fun z => absurd z.1 (by decide))).symm; split <;> first | rfl | simp [sI, u2]
  · refine Eq.trans ?_ (if_neg (fun z => absurd z.1 (by decide))).symm; split <;> first | rfl | simp [sI, u2]
  · refine Eq.trans ?_ (if_neg (fun z => absurd z.1 (by decide))).symm; simp [sI, u2]
  · split <;> first | (by_cases e1 : i' = i <;> simp [sI, u2, e1]; done) | (simp_all [sI, u2]; done)
  · refine Eq.trans ?_ (if_neg (fun z => absurd z.1 (by decide))).symm; split <;> first | rfl | simp [sI, u2]
  · refine Eq.trans ?_ (if_neg (fun z => absurd z.1 (by decide))).symm; split <;> first | rfl | simp [sI, u2]
  · refine Eq.trans ?_ (if_neg (fun z => absurd z.1 (by decide))).symm; split <;> first | rfl | simp [sI, u2]
  · refine Eq.trans ?_ (if_neg (fun z => absurd z.1 (by decide))).symm; split <;> first | rfl | simp [sI, u2]
  · refine Eq.trans ?_ (if_neg (fun z => absurd z.1 (by decide))).symm; simp [sI, u2]
  · rw [if_neg (by rintro ⟨rfl, _⟩; simp_all)]
theorem uI_14_4 (s : SG) (i : Nat) (x : Int32) : UI s (sI s 43 i x) 14 i 4 x := by
  refine ⟨fun c' i' f' hf' => ?_, fun _ _ _ => rfl, fun X c' i' f' => rfl⟩
  unfold iv
  split
  · refine Eq.trans ?_ (if_neg (fun z => absurd z.1 (by decide))).symm; split <;> first | rfl | simp [sI, u2]
  · refine Eq.trans ?_ (if_neg (fun z => absurd z.1 (by decide))).symm; split <;> first | rfl | simp [sI, u2]
  · refine Eq.trans ?_ (if_neg (fun z => absurd z.1 (by decide))).symm; simp [sI, u2]
  · refine Eq.trans ?_ (if_neg (fun z => absurd z.1 (by decide))).symm; simp [sI, u2]
  · refine Eq.trans ?_ (if_neg (fun z => absurd z.1 (by decide))).symm; simp [sI, u2]
  · refine Eq.trans ?_ (if_neg (fun z => absurd z.1 (by decide))).symm; split <;> first | rfl | simp [sI, u2]
  · refine Eq.trans ?_ (if_neg (fun z => absurd z.1 (by decide))).symm; split <;> first | rfl | simp [sI, u2]
  · refine Eq.trans ?_ (if_neg (fun z => absurd z.1 (by decide))).symm; simp [sI, u2]
  · refine Eq.trans ?_ (if_neg (fun z => absurd z.1 (by decide))).symm; split <;> first | rfl | simp [sI, u2]
  · split <;> first | (by_cases e1 : i' = i <;> simp [sI, u2, e1]; done) | (simp_all [sI, u2]; done)
  · refine Eq.trans ?_ (if_neg (fun z => absurd z.1 (by decide))).symm; split <;> first | rfl | simp [sI, u2]
  · refine Eq.trans ?_ (if_neg (fun z => absurd z.1 (by decide))).symm; split <;> first | rfl | simp [sI, u2]
  · refine Eq.trans ?_ (if_neg (fun z => absurd z.1 (by decide))).symm; split <;> first | rfl | simp [sI, u2]
  · refine Eq.trans ?_ (if_neg (fun z => absurd z.1 (by decide))).symm; simp [sI, u2]
  · rw [if_neg (by rintro ⟨rfl, _⟩; simp_all)]
theorem uI_16_2 (s : SG) (i : Nat) (x : Int32) : UI s (sI s 22 i x) 16 i 2 x := by
  refine ⟨fun c' i' f' hf' => ?_, fun _ _ _ => rfl, fun X c' i' f' => rfl⟩
  unfold iv
  split
  · refine Eq.trans ?_ (if_neg (fun z => absurd z.1 (by decide))).symm; split <;> first | rfl | simp [sI, u2]
  · refine Eq.trans ?_ (if_neg (fun z => absurd z.1 (by decide))).symm; split <;> first | rfl | simp [sI, u2]
  · refine Eq.trans ?_ (if_neg (fun z => absurd z.1 (by decide))).symm; simp [sI, u2]
  · refine Eq.trans ?_ (if_neg (fun z => absurd z.1 (by decide))).symm; simp [sI, u2]
  · refine Eq.trans ?_ (if_neg (fun z => absurd z.1 (by decide))).symm; simp [sI, u2]
  · refine Eq.trans ?_ (if_neg (fun z => absurd z.1 (by decide))).symm; split <;> first | rfl | simp [sI, u2]
  · refine Eq.trans ?_ (if_neg (fun z => absurd z.1 (by decide))).symm; split <;> first | rfl | simp [sI, u2]
  · refine Eq.trans ?_ (if_neg (fun z => absurd z.1 (by decide))).symm; simp [sI, u2]
  · refine Eq.trans ?_ (if_neg (fun z => absurd z.1 (by decide))).symm; split <;> first | rfl | simp [sI, u2]
  · refine Eq.trans ?_ (if_neg (fun z => absurd z.1 (by decide))).symm; split <;> first | rfl | simp [sI, u2]
  · refine Eq.trans ?_ (if_neg (fun z => absurd z.1 (by decide))).symm; split <;> first | rfl | simp [sI, u2]
  · split <;> first | (by_cases e1 : i' = i <;> simp [sI, u2, e1]; done) | (simp_all [sI, u2]; done)
  · refine Eq.trans ?_ (if_neg (fun z => absurd z.1 (by decide))).symm; split <;> first | rfl | simp [sI, u2]
  · refine Eq.trans ?_ (if_neg (fun z => absurd z.1 (by decide))).symm; simp [sI, u2]
  · rw [if_neg (by rintro ⟨rfl, _⟩; simp_all)]
theorem uI_17_3 (s : SG) (i : Nat) (x : Int32) : UI s (sI s 30 i x) 17 i 3 x := by
  refine ⟨fun c' i' f' hf' => ?_, fun _ _ _ => rfl, fun X c' i' f' => rfl⟩
  unfold iv
  split
  · refine Eq.trans ?_ (if_neg (fun z => absurd z.1 (by decide))).symm; split <;> first | rfl | simp [sI, u2]
  · refine Eq.trans ?_ (if_neg (fun z => absurd z.1 (by decide))).symm; split <;> first | rfl | simp [sI, u2]
  · refine Eq.trans ?_ (if_neg (fun z => absurd z.1 (by decide))).symm; simp [sI, u2]
  · refine Eq.trans ?_ (if_neg (fun z => absurd z.1 (by decide))).symm; simp [sI, u2]
  · refine Eq.trans ?_ (if_neg (fun z => absurd z.1 (by decide))).symm; simp [sI, u2]
  · refine Eq.trans ?_ (if_neg (fun z => absurd z.1 (by decide))).symm; split <;> first | rfl | simp [sI, u2]
  · refine Eq.trans ?_ (if_neg (fun z => absurd z.1 (by decide))).symm; split <;> first | rfl | simp [sI, u2]
  · refine Eq.trans ?_ (if_neg (fun z => absurd z.1 (by decide))).symm; simp [sI, u2]
  · refine Eq.trans ?_ (if_neg (fun z => absurd z.1 (by decide))).symm; split <;> first | rfl | simp [sI, u2]
  · refine Eq.trans ?_ (if_neg (fun z => absurd z.1 (by decide))).symm; split <;> first | rfl | simp [sI, u2]
  · refine Eq.trans ?_ (if_neg (fun z => absurd z.1 (by decide))).symm; split <;> first | rfl | simp [sI, u2]
  · refine Eq.trans ?_ (if_neg (fun z => absurd z.1 (by decide))).symm; split <;> first | rfl | simp [sI, u2]
  · split <;> first | (by_cases e1 : i' = i <;> simp [sI, u2, e1]; done) | (simp_all [sI, u2]; done)
  · refine Eq.trans ?_ (if_neg (fun z => absurd z.1 (by decide))).symm; simp [sI, u2]
  · rw [if_neg (by rintro ⟨rfl, _⟩; simp_all)]
theorem uI_17_4 (s : SG) (i : Nat) (x : Int32) : UI s (sI s 32 i x) 17 i 4 x := by
  refine ⟨fun c' i' f' hf' => ?_, fun _ _ _ => rfl, fun X c' i' f' => rfl⟩
  unfold iv
  split
  · refine Eq.trans ?_ (if_neg (fun z => absurd z.1 (by decide))).symm; split <;> first | rfl | simp [sI, u2]
  · refine Eq.trans ?_ (if_neg (fun z => absurd z.1 (by decide))).symm; split <;> first | rfl | simp [sI, u2]
  · refine Eq.trans ?_ (if_neg (fun z => absurd z.1 (by decide))).symm; simp [sI, u2]
  · refine Eq.trans ?_ (if_neg (fun z => absurd z.1 (by decide))).symm; simp [sI, u2]
  · refine Eq.trans ?_ (if_neg (fun z => absurd z.1 (by decide))).symm; simp [sI, u2]
  · refine Eq.trans ?_ (if_neg (fun z => absurd z.1 (by decide))).symm; split <;> first | rfl | simp [sI, u2]
  · refine Eq.trans ?_ (if_neg (fun z => absurd z.1 (by decide))).symm; split <;> first | rfl | simp [sI, u2]
  · refine Eq.trans ?_ (if_neg (fun z => absurd z.1 (by decide))).symm; simp [sI, u2]
  · refine Eq.trans ?_ (if_neg (fun z => absurd z.1 (by decide))).symm; split <;> first | rfl | simp [sI, u2]
  · refine Eq.trans ?_ (if_neg (fun z => absurd z.1 (by decide))).symm; split <;> first | rfl | simp [sI, u2]
  · refine Eq.trans ?_ (if_neg (fun z => absurd z.1 (by decide))).symm; split <;> first | rfl | simp [sI, u2]
  · refine Eq.trans ?_ (if_neg (fun z => absurd z.1 (by decide))).symm; split <;> first | rfl | simp [sI, u2]
  · split <;> first | (by_cases e1 : i' = i <;> simp [sI, u2, e1]; done) | (simp_all [sI, u2]; done)
  · refine Eq.trans ?_ (if_neg (fun z => absurd z.1 (by decide))).symm; simp [sI, u2]
  · rw [if_neg (by rintro ⟨rfl, _⟩; simp_all)]
theorem uI_17_5 (s : SG) (i : Nat) (x : Int32) : UI s (sI s 33 i x) 17 i 5 x := by
  refine ⟨fun c' i' f' hf' => ?_, fun _ _ _ => rfl, fun X c' i' f' => rfl⟩
  unfold iv
  split
  · refine Eq.trans ?_ (if_neg (fun z => absurd z.1 (by decide))).symm; split <;> first | rfl | simp [sI, u2]
  · refine Eq.trans ?_ (if_neg (fun z => absurd z.1 (by decide))).symm; split <;> first | rfl | simp [sI, u2]
  · refine Eq.trans ?_ (if_neg (fun z => absurd z.1 (by decide))).symm; simp [sI, u2]
  · refine Eq.trans ?_ (if_neg (fun z => absurd z.1 (by decide))).symm; simp [sI, u2]
  · refine Eq.trans ?_ (if_neg (fun z => absurd z.1 (by decide))).symm; simp [sI, u2]
  · refine Eq.trans ?_ (if_neg (fun z => absurd z.1 (by decide))).symm; split <;> first | rfl | simp [sI, u2]
  · refine Eq.trans ?_ (if_neg (fun z => absurd z.1 (by decide))).symm; split <;> first | rfl | simp [sI, u2]
  · refine Eq.trans ?_ (if_neg (fun z => absurd z.1 (by decide))).symm; simp [sI, u2]
  · refine Eq.trans ?_ (if_neg (fun z => absurd z.1 (by decide))).symm; split <;> first | rfl | simp [sI, u2]
  · refine Eq.trans ?_ (if_neg (fun z => absurd z.1 (by decide))).symm; split <;> first | rfl | simp [sI, u2]
  · refine Eq.trans ?_ (if_neg (fun z => absurd z.1 (by decide))).symm; split <;> first | rfl | simp [sI, u2]
  · refine Eq.trans ?_ (if_neg (fun z => absurd z.1 (by decide))).symm; split <;> first | rfl | simp [sI, u2]
  · split <;> first | (by_cases e1 : i' = i <;> simp [sI, u2, e1]; done) | (simp_all [sI, u2]; done)
  · refine Eq.trans ?_ (if_neg (fun z => absurd z.1 (by decide))).symm; simp [sI, u2]
  · rw [if_neg (by rintro ⟨rfl, _⟩; simp_all)]
theorem uI_17_6 (s : SG) (i : Nat) (x : Int32) : UI s (sI s 34 i x) 17 i 6 x := by
  refine ⟨fun c' i' f' hf' => ?_, fun _ _ _ => rfl, fun X c' i' f' => rfl⟩
  unfold iv
  split
  · refine Eq.trans ?_ (if_neg (fun z => absurd z.1 (by decide))).symm; split <;> first | rfl | simp [sI, u2]
  · refine Eq.trans ?_ (if_neg (fun z => absurd z.1 (by decide))).symm; split <;> first | rfl | simp [sI, u2]
  · refine Eq.trans ?_ (if_neg (fun z => absurd z.1 (by decide))).symm; simp [sI, u2]
  · refine Eq.trans ?_ (if_neg (fun z => absurd z.1 (by decide))).symm; simp [sI, u2]
  · refine Eq.trans ?_ (if_neg (fun z => absurd z.1 (by decide))).symm; simp [sI, u2]
  · refine Eq.trans ?_ (if_neg (fun z => absurd z.1 (by decide))).symm; split <;> first | rfl | simp [sI, u2]
  · refine Eq.trans ?_ (if_neg (fun z => absurd z.1 (by decide))).symm; split <;> first | rfl | simp [sI, u2]
  · refine Eq.trans ?_ (if_neg (fun z => absurd z.1 (by decide))).symm; simp [sI, u2]
  · refine Eq.trans ?_ (if_neg (fun z => absurd z.1 (by decide))).symm; split <;> first | rfl | simp [sI, u2]
  · refine Eq.trans ?_ (if_neg (fun z => absurd z.1 (by decide))).symm; split <;> first | rfl | simp [sI, u2]
  · refine Eq.trans ?_ (if_neg (fun z => absurd z.1 (by decide))).symm; split <;> first | rfl | simp [sI, u2]
  · refine Eq.trans ?_ (if_neg (fun z => absurd z.1 (by decide))).symm; split <;> first | rfl | simp [sI, u2]
  · split <;> first | (by_cases e1 : i' = i <;> simp [sI, u2, e1]; done) | (simp_all [sI, u2]; done)
  · refine Eq.trans ?_ (if_neg (fun z => absurd z.1 (by decide))).symm; simp [sI, u2]
  · rw [if_neg (by rintro ⟨rfl, _⟩; simp_all)]
theorem uI_17_7 (s : SG) (i : Nat) (x : Int32) : UI s (sI s 35 i x) 17 i 7 x := by
  refine ⟨fun c' i' f' hf' => ?_, fun _ _ _ => rfl, fun X c' i' f' => rfl⟩
  unfold iv
  split
  · refine Eq.trans ?_ (if_neg (fun z => absurd z.1 (by decide))).symm; split <;> first | rfl | simp [sI, u2]
  · refine Eq.trans ?_ (if_neg (fun z => absurd z.1 (by decide))).symm; split <;> first | rfl | simp [sI, u2]
  · refine Eq.trans ?_ (if_neg (fun z => absurd z.1 (by decide))).symm; simp [sI, u2]
  · refine Eq.trans ?_ (if_neg (fun z => absurd z.1 (by decide))).symm; simp [sI, u2]
  · refine Eq.trans ?_ (if_neg (fun z => absurd z.1 (by decide))).symm; simp [sI, u2]
  · refine Eq.trans ?_ (if_neg (fun z => absurd z.1 (by decide))).symm; split <;> first | rfl | simp [sI, u2]
  · refine Eq.trans ?_ (if_neg (fun z => absurd z.1 (by decide))).symm; split <;> first | rfl | simp [sI, u2]
  · refine Eq.trans ?_ (if_neg (fun z => absurd z.1 (by decide))).symm; simp [sI, u2]
  · refine Eq.trans ?_ (if_neg (fun z => absurd z.1 (by decide))).symm; split <;> first | rfl | simp [sI, u2]
  · refine Eq.trans ?_ (if_neg (fun z => absurd z.1 (by decide))).symm; split <;> first | rfl | simp [sI, u2]
  · refine Eq.trans ?_ (if_neg (fun z => absurd z.1 (by decide))).symm; split <;> first | rfl | simp [sI, u2]
  · refine Eq.trans ?_ (if_neg (fun z => absurd z.1 (by decide))).symm; split <;> first | rfl | simp [sI, u2]
  · split <;> first | (by_cases e1 : i' = i <;> simp [sI, u2, e1]; done) | (simp_all [sI, u2]; done)
  · refine Eq.trans ?_ (if_neg (fun z => absurd z.1 (by decide))).symm; simp [sI, u2]
  · rw [if_neg (by rintro ⟨rfl, _⟩; simp_all)]
theorem uI_17_8 (s : SG) (i : Nat) (x : Int32) : UI s (sI s 36 i x) 17 i 8 x := by
  refine ⟨fun c' i' f' hf' => ?_, fun _ _ _ => rfl, fun X c' i' f' => rfl⟩
  unfold iv
  split
  · refine Eq.trans ?_ (if_neg (fun z => absurd z.1 (by decide))).symm; split <;> first | rfl | simp [sI, u2]
  · refine Eq.trans ?_ (if_neg (fun z => absurd z.1 (by decide))).symm; split <;> first | rfl | simp [sI, u2]
  · refine Eq.trans ?_ (if_neg (fun z => absurd z.1 (by decide))).symm; simp [sI, u2]
  · refine Eq.trans ?_ (if_neg (fun z => absurd z.1 (by decide))).symm; simp [sI, u2]
  · refine Eq.trans ?_ (if_neg (fun z => absurd z.1 (by decide))).symm; simp [sI, u2]
  · refine Eq.trans ?_ (if_neg (fun z => absurd z.1 (by decide))).symm; split <;> first | rfl | simp [sI, u2]
  · refine Eq.trans ?_ (if_neg (fun z => absurd z.1 (by decide))).symm; split <;> first | rfl | simp [sI, u2]
  · refine Eq.trans ?_ (if_neg (fun z => absurd z.1 (by decide))).symm; simp [sI, u2]
  · refine Eq.trans ?_ (if_neg (fun z => absurd z.1 (by decide))).symm; split <;> first | rfl | simp [sI, u2]
  · refine Eq.trans ?_ (if_neg (fun z => absurd z.1 (by decide))).symm; split <;> first | rfl | simp [sI, u2]
  · refine Eq.trans ?_ (if_neg (fun z => absurd z.1 (by decide))).symm; split <;> first | rfl | simp [sI, u2]
  · refine Eq.trans ?_ (if_neg (fun z => absurd z.1 (by decide))).symm; split <;> first | rfl | simp [sI, u2]
  · split <;> first | (by_cases e1 : i' = i <;> simp [sI, u2, e1]; done) | (simp_all [sI, u2]; done)
  · refine Eq.trans ?_ (if_neg (fun z => absurd z.1 (by decide))).symm; simp [sI, u2]
  · rw [if_neg (by rintro ⟨rfl, _⟩; simp_all)]
theorem uI_17_9 (s : SG) (i : Nat) (x : Int32) : UI s (sI s 37 i x) 17 i 9 x := by
  refine ⟨fun c' i' f' hf' => ?_, fun _ _ _ => rfl, fun X c' i' f' => rfl⟩
  unfold iv
  split
  · refine Eq.trans ?_ (if_neg (fun z => absurd z.1 (by decide))).symm; split <;> first | rfl | simp [sI, u2]
  · refine Eq.trans ?_ (if_neg (fun z => absurd z.1 (by decide))).symm; split <;> first | rfl | simp [sI, u2]
  · refine Eq.trans ?_ (if_neg (fun z => absurd z.1 (by decide))).symm; simp [sI, u2]
  · refine Eq.trans ?_ (if_neg (fun z => absurd z.1 (by decide))).symm; simp [sI, u2]
  · refine Eq.trans ?_ (if_neg (fun z => absurd z.1 (by decide))).symm; simp [sI, u2]
  · refine Eq.trans ?_ (if_neg (fun z => absurd z.1 (by decide))).symm; split <;> first | rfl | simp [sI, u2]
  · refine Eq.trans ?_ (if_neg (fun z => absurd z.1 (by decide))).symm; split <;> first | rfl | simp [sI, u2]
  · refine Eq.trans ?_ (if_neg (fun z => absurd z.1 (by decide))).symm; simp [sI, u2]
  · refine Eq.trans ?_ (if_neg (fun z => absurd z.1 (by decide))).symm; split <;> first | rfl | simp [sI, u2]
  · refine Eq.trans ?_ (if_neg (fun z => absurd z.1 (by decide))).symm; split <;> first | rfl | simp [sI, u2]
  · refine Eq.trans ?_ (if_neg (fun z => absurd z.1 (by decide))).symm; split <;> first | rfl | simp [sI, u2]
  · refine Eq.trans ?_ (if_neg (fun z => absurd z.1 (by decide))).symm; split <;> first | rfl | simp [sI, u2]
  · split <;> first | (by_cases e1 : i' = i <;> simp [sI, u2, e1]; done) | (simp_all [sI, u2]; done)
  · refine Eq.trans ?_ (if_neg (fun z => absurd z.1 (by decide))).symm; simp [sI, u2]
  · rw [if_neg (by rintro ⟨rfl, _⟩; simp_all)]
theorem uI_18_a (s : SG) (i f : Nat) (hf : f < 8) (x : Int32) : UI s (sI s 31 (8 * i + f) x) 18 i f x := by
  refine ⟨fun c' i' f' hf' => ?_, fun _ _ _ => rfl, fun X c' i' f' => rfl⟩
  unfold iv
  split
  · refine Eq.trans ?_ (if_neg (fun z => absurd z.1 (by decide))).symm; split <;> first | rfl | simp [sI, u2]
  · refine Eq.trans ?_ (if_neg (fun z => absurd z.1 (by decide))).symm; split <;> first | rfl | simp [sI, u2]
  · refine Eq.trans ?_ (if_neg (fun z => absurd z.1 (by decide))).symm; simp [sI, u2]
  · refine Eq.trans ?_ (if_neg (fun z => absurd z.1 (by decide))).symm; simp [sI, u2]
  · refine Eq.trans ?_ (if_neg (fun z => absurd z.1 (by decide))).symm; simp [sI, u2]
  · refine Eq.trans ?_ (if_neg (fun z => absurd z.1 (by decide))).symm; split <;> first | rfl | simp [sI, u2]
  · refine Eq.trans ?_ (if_neg (fun z => absurd z.1 (by decide))).symm; split <;> first | rfl | simp [sI, u2]
  · refine Eq.trans ?_ (if_neg (fun z => absurd z.1 (by decide))).symm; simp [sI, u2]
  · refine Eq.trans ?_ (if_neg (fun z => absurd z.1 (by decide))).symm; split <;> first | rfl | simp [sI, u2]
  · refine Eq.trans ?_ (if_neg (fun z => absurd z.1 (by decide))).symm; split <;> first | rfl | simp [sI, u2]
  · refine Eq.trans ?_ (if_neg (fun z => absurd z.1 (by decide))).symm; split <;> first | rfl | simp [sI, u2]
  · refine Eq.trans ?_ (if_neg (fun z => absurd z.1 (by decide))).symm; split <;> first | rfl | simp [sI, u2]
  · refine Eq.trans ?_ (if_neg (fun z => absurd z.1 (by decide))).symm; split <;> first | rfl | simp [sI, u2]
  · have hf2 : f' < 8 := hf'
    by_cases e1 : i' = i
    · by_cases e2 : f' = f <;> simp [sI, u2, e1, e2]
    · rw [if_neg (fun z => e1 z.2.1)]; simp only [sI, u2]; rw [if_neg (by omega)]
  · rw [if_neg (by rintro ⟨rfl, _⟩; simp_all)]
theorem vc_getI {cc : ByteArray} {own : String} {nL : Nat} {R : Room} {D : DT} {K : KT} {pc : Nat} {lv : LV} {st : List Value} {G : GT} {n : Nat × Nat} {X : XT} {s : SG} {idx ci c i f : Nat} {x : Int32} (hG : LF X s G) (hd : decode cc pc = .ok (.getfield idx, 3)) (hF : FL own idx ci f) (ht : (lay ci)[f]? = some 0 ∨ (lay ci)[f]? = some 3) (hL : X.2.1 c i = true) (hk : kc c = ci + 1) (hf : f < nc c) (hv : iv s c i f = x) (kk : V cc own nL R D K (pc + 3) lv (.int x :: st) G n) : V cc own nL R D K pc lv (.ref (X.1 c i) :: st) G n := by
  obtain ⟨T, N, I, J, E, Rf⟩ := G
  have h := hG.1 c i hL
  rw [← hv, ← (h.2 f hf).1] at kk
  exact v_getI hd hF ht (h.1.2.1.trans hk) kk
theorem vc_getJ {cc : ByteArray} {own : String} {nL : Nat} {R : Room} {D : DT} {K : KT} {pc : Nat} {lv : LV} {st : List Value} {G : GT} {n : Nat × Nat} {X : XT} {s : SG} {idx ci c i f : Nat} {x : Int64} (hG : LF X s G) (hd : decode cc pc = .ok (.getfield idx, 3)) (hF : FL own idx ci f) (ht : (lay ci)[f]? = some 1) (hL : X.2.1 c i = true) (hk : kc c = ci + 1) (hf : f < nc c) (hv : jv s c i f = x) (kk : V cc own nL R D K (pc + 3) lv (.long x :: st) G n) : V cc own nL R D K pc lv (.ref (X.1 c i) :: st) G n := by
  obtain ⟨T, N, I, J, E, Rf⟩ := G
  have h := hG.1 c i hL
  rw [← hv, ← (h.2 f hf).2.1] at kk
  exact v_getJ hd hF ht (h.1.2.1.trans hk) kk
theorem vc_getR {cc : ByteArray} {own : String} {nL : Nat} {R : Room} {D : DT} {K : KT} {pc : Nat} {lv : LV} {st : List Value} {G : GT} {n : Nat × Nat} {X : XT} {s : SG} {idx ci c i f c' i' : Nat} (hG : LF X s G) (hd : decode cc pc = .ok (.getfield idx, 3)) (hF : FL own idx ci f) (ht : (lay ci)[f]? = some 2) (hL : X.2.1 c i = true) (hk : kc c = ci + 1) (hf : f < nc c) (hv : rv X s c i f = some (c', i')) (kk : X.2.1 c' i' = true → V cc own nL R D K (pc + 3) lv (.ref (X.1 c' i') :: st) G n) : V cc own nL R D K pc lv (.ref (X.1 c i) :: st) G n := by
  obtain ⟨T, N, I, J, E, Rf⟩ := G
  have h := hG.1 c i hL
  exact v_getR hd hF ht (h.1.2.1.trans hk) ((h.2 f hf).2.2.1.trans (by rw [hv]; rfl)) (kk ((h.2 f hf).2.2.2 _ hv))
theorem vc_putI {cc : ByteArray} {own : String} {nL : Nat} {R : Room} {D : DT} {K : KT} {pc : Nat} {lv : LV} {st : List Value} {G : GT} {n : Nat × Nat} {X : XT} {s : SG} {s' : SG} {idx ci c i f : Nat} {ty : FieldType} {t : Nat} {x : Int32} (hG : LF X s G) (hd : decode cc pc = .ok (.putfield idx, 3)) (hF : FW own idx ci f ty false) (ht : (lay ci)[f]? = some t) (ht2 : t = 0 ∨ t = 3) (hL : X.2.1 c i = true) (hk : kc c = ci + 1) (hn : narrow ty (.int x) = .int x) (hfit : fits ty (.int x) = true) (hU : UI s s' c i f x) (kk : ∀ G', LF X s' G' → V cc own nL R D K (pc + 3) lv st G' n) : V cc own nL R D K pc lv (.int x :: .ref (X.1 c i) :: st) G n := by
  obtain ⟨T, N, I, J, E, Rf⟩ := G
  exact v_putI hd hF ht ht2 ((hG.1 c i hL).1.2.1.trans hk) hn hfit (kk _ (hG.putI hL hU))
theorem vc_putJ {cc : ByteArray} {own : String} {nL : Nat} {R : Room} {D : DT} {K : KT} {pc : Nat} {lv : LV} {st : List Value} {G : GT} {n : Nat × Nat} {X : XT} {s : SG} {s' : SG} {idx ci c i f : Nat} {x : Int64} (hG : LF X s G) (hd : decode cc pc = .ok (.putfield idx, 3)) (hF : FW own idx ci f .long false) (ht : (lay ci)[f]? = some 1) (hL : X.2.1 c i = true) (hk : kc c = ci + 1) (hU : UJ s s' c i f x) (kk : ∀ G', LF X s' G' → V cc own nL R D K (pc + 3) lv st G' n) : V cc own nL R D K pc lv (.long x :: .ref (X.1 c i) :: st) G n := by
  obtain ⟨T, N, I, J, E, Rf⟩ := G
  exact v_putJ hd hF ht rfl ((hG.1 c i hL).1.2.1.trans hk) rfl rfl (kk _ (hG.putJ hL hU))
theorem nc_lc {c : Nat} (h : lc c ≠ 0) : nc c = lc c := by
  unfold lc at h
  split at h <;> first | rfl | exact absurd rfl h
theorem lc_le (c : Nat) : lc c < 2147483648 := by
  unfold lc
  split <;> decide
theorem vc_iald {cc : ByteArray} {own : String} {nL : Nat} {R : Room} {D : DT} {K : KT} {pc : Nat} {lv : LV} {st : List Value} {G : GT} {n : Nat × Nat} {X : XT} {s : SG} {c i j : Nat} {y : Int32} {x : Int32} (hG : LF X s G) (hd : decode cc pc = .ok (.iaload, 1)) (hL : X.2.1 c i = true) (hk : kc c = 11) (hi : y = nI j) (hj : j < lc c) (hv : iv s c i j = x) (kk : V cc own nL R D K (pc + 1) lv (.int x :: st) G n) : V cc own nL R D K pc lv (.int y :: .ref (X.1 c i) :: st) G n := by
  obtain ⟨T, N, I, J, E, Rf⟩ := G
  have h := hG.1 c i hL
  refine v_iald hd (h.1.2.1.trans hk) h.1.2.2 hi hj (lc_le c) ?_
  rw [show I (X.1 c i) j = x from ((h.2 j (by rw [nc_lc (by omega)]; exact hj)).1.trans hv)]
  exact kk
theorem vc_zald {cc : ByteArray} {own : String} {nL : Nat} {R : Room} {D : DT} {K : KT} {pc : Nat} {lv : LV} {st : List Value} {G : GT} {n : Nat × Nat} {X : XT} {s : SG} {c i j : Nat} {y : Int32} {x : Int32} (hG : LF X s G) (hd : decode cc pc = .ok (.baload, 1)) (hL : X.2.1 c i = true) (hk : kc c = 13) (hi : y = nI j) (hj : j < lc c) (hv : iv s c i j = x) (kk : V cc own nL R D K (pc + 1) lv (.int x :: st) G n) : V cc own nL R D K pc lv (.int y :: .ref (X.1 c i) :: st) G n := by
  obtain ⟨T, N, I, J, E, Rf⟩ := G
  have h := hG.1 c i hL
  refine v_zald hd (h.1.2.1.trans hk) h.1.2.2 hi hj (lc_le c) ?_
  rw [show I (X.1 c i) j = x from ((h.2 j (by rw [nc_lc (by omega)]; exact hj)).1.trans hv)]
  exact kk
theorem vc_bald {cc : ByteArray} {own : String} {nL : Nat} {R : Room} {D : DT} {K : KT} {pc : Nat} {lv : LV} {st : List Value} {G : GT} {n : Nat × Nat} {X : XT} {s : SG} {c i j : Nat} {y : Int32} {x : Int32} (hG : LF X s G) (hd : decode cc pc = .ok (.baload, 1)) (hL : X.2.1 c i = true) (hk : kc c = 14) (hi : y = nI j) (hj : j < lc c) (hv : iv s c i j = x) (kk : V cc own nL R D K (pc + 1) lv (.int x :: st) G n) : V cc own nL R D K pc lv (.int y :: .ref (X.1 c i) :: st) G n := by
  obtain ⟨T, N, I, J, E, Rf⟩ := G
  have h := hG.1 c i hL
  refine v_bald hd (h.1.2.1.trans hk) h.1.2.2 hi hj (lc_le c) ?_
  rw [show I (X.1 c i) j = x from ((h.2 j (by rw [nc_lc (by omega)]; exact hj)).1.trans hv)]
  exact kk
theorem vc_iast {cc : ByteArray} {own : String} {nL : Nat} {R : Room} {D : DT} {K : KT} {pc : Nat} {lv : LV} {st : List Value} {G : GT} {n : Nat × Nat} {X : XT} {s : SG} {s' : SG} {c i j : Nat} {y : Int32} {x : Int32} (hG : LF X s G) (hd : decode cc pc = .ok (.iastore, 1)) (hL : X.2.1 c i = true) (hk : kc c = 11) (hi : y = nI j) (hj : j < lc c) (hU : UI s s' c i j x) (kk : ∀ G', LF X s' G' → V cc own nL R D K (pc + 1) lv st G' n) : V cc own nL R D K pc lv (.int x :: .int y :: .ref (X.1 c i) :: st) G n := by
  obtain ⟨T, N, I, J, E, Rf⟩ := G
  have h := hG.1 c i hL
  exact v_iast hd (h.1.2.1.trans hk) h.1.2.2 hi hj (lc_le c) (kk _ (hG.putI hL hU))
theorem vc_zast {cc : ByteArray} {own : String} {nL : Nat} {R : Room} {D : DT} {K : KT} {pc : Nat} {lv : LV} {st : List Value} {G : GT} {n : Nat × Nat} {X : XT} {s : SG} {s' : SG} {c i j : Nat} {y : Int32} {x : Int32} (hG : LF X s G) (hd : decode cc pc = .ok (.bastore, 1)) (hL : X.2.1 c i = true) (hk : kc c = 13) (hi : y = nI j) (hj : j < lc c) (hx : vp_nar .boolean x = x) (hU : UI s s' c i j x) (kk : ∀ G', LF X s' G' → V cc own nL R D K (pc + 1) lv st G' n) : V cc own nL R D K pc lv (.int x :: .int y :: .ref (X.1 c i) :: st) G n := by
  obtain ⟨T, N, I, J, E, Rf⟩ := G
  have h := hG.1 c i hL
  exact v_zast hd (h.1.2.1.trans hk) h.1.2.2 hi hj (lc_le c) hx (kk _ (hG.putI hL hU))
theorem vc_bast {cc : ByteArray} {own : String} {nL : Nat} {R : Room} {D : DT} {K : KT} {pc : Nat} {lv : LV} {st : List Value} {G : GT} {n : Nat × Nat} {X : XT} {s : SG} {s' : SG} {c i j : Nat} {y : Int32} {x : Int32} (hG : LF X s G) (hd : decode cc pc = .ok (.bastore, 1)) (hL : X.2.1 c i = true) (hk : kc c = 14) (hi : y = nI j) (hj : j < lc c) (hx : vp_nar .byte x = x) (hU : UI s s' c i j x) (kk : ∀ G', LF X s' G' → V cc own nL R D K (pc + 1) lv st G' n) : V cc own nL R D K pc lv (.int x :: .int y :: .ref (X.1 c i) :: st) G n := by
  obtain ⟨T, N, I, J, E, Rf⟩ := G
  have h := hG.1 c i hL
  exact v_bast hd (h.1.2.1.trans hk) h.1.2.2 hi hj (lc_le c) hx (kk _ (hG.putI hL hU))
theorem vc_alen {cc : ByteArray} {own : String} {nL : Nat} {R : Room} {D : DT} {K : KT} {pc : Nat} {lv : LV} {st : List Value} {G : GT} {n : Nat × Nat} {X : XT} {s : SG} {c i : Nat} (hG : LF X s G) (hd : decode cc pc = .ok (.arraylength, 1)) (hL : X.2.1 c i = true) {k : Nat} {ty : FieldType} (hk : kc c = k + 11) (ht : (tysL D.2)[k]? = some (D.2 (k + 11), ty)) {x : Int32} (hv : Int32.ofNat (lc c) = x) (kk : V cc own nL R D K (pc + 1) lv (.int x :: st) G n) : V cc own nL R D K pc lv (.ref (X.1 c i) :: st) G n := by
  obtain ⟨T, N, I, J, E, Rf⟩ := G
  have h := hG.1 c i hL
  exact v_alen hd (h.1.2.1.trans hk) ht h.1.2.2 hv kk
theorem vc_aald {cc : ByteArray} {own : String} {nL : Nat} {R : Room} {D : DT} {K : KT} {pc : Nat} {lv : LV} {st : List Value} {G : GT} {n : Nat × Nat} {X : XT} {s : SG} {c i j k : Nat} {C : String} {y : Int32} {c' i' : Nat} (hG : LF X s G) (hd : decode cc pc = .ok (.aaload, 1)) (hL : X.2.1 c i = true) (hk : kc c = k + 11) (hk5 : 5 ≤ k) (ht : (tysL D.2)[k]? = some (D.2 (k + 11), .object C)) (hi : y = nI j) (hj : j < lc c) (hv : rv X s c i j = some (c', i')) (kk : X.2.1 c' i' = true → V cc own nL R D K (pc + 1) lv (.ref (X.1 c' i') :: st) G n) : V cc own nL R D K pc lv (.int y :: .ref (X.1 c i) :: st) G n := by
  obtain ⟨T, N, I, J, E, Rf⟩ := G
  have h := hG.1 c i hL
  have h2 := h.2 j (by rw [nc_lc (by omega)]; exact hj)
  have h3 : Rf (X.1 c i) j = some (X.1 c' i') := h2.2.2.1.trans (by rw [hv]; rfl)
  refine v_aald hd (h.1.2.1.trans hk) hk5 ht h.1.2.2 hi hj (lc_le c) (fun z => by rw [h3] at z; cases z) (fun b hb => ?_)
  rw [h3] at hb
  cases hb
  exact kk (h2.2.2.2 _ hv)
theorem vc_aaldN {cc : ByteArray} {own : String} {nL : Nat} {R : Room} {D : DT} {K : KT} {pc : Nat} {lv : LV} {st : List Value} {G : GT} {n : Nat × Nat} {X : XT} {s : SG} {c i j k : Nat} {C : String} {y : Int32} (hG : LF X s G) (hd : decode cc pc = .ok (.aaload, 1)) (hL : X.2.1 c i = true) (hk : kc c = k + 11) (hk5 : 5 ≤ k) (ht : (tysL D.2)[k]? = some (D.2 (k + 11), .object C)) (hi : y = nI j) (hj : j < lc c) (hv : rv X s c i j = none) (kk : V cc own nL R D K (pc + 1) lv (.null :: st) G n) : V cc own nL R D K pc lv (.int y :: .ref (X.1 c i) :: st) G n := by
  obtain ⟨T, N, I, J, E, Rf⟩ := G
  have h := hG.1 c i hL
  have h2 := h.2 j (by rw [nc_lc (by omega)]; exact hj)
  have h3 : Rf (X.1 c i) j = none := h2.2.2.1.trans (by rw [hv]; rfl)
  exact v_aald hd (h.1.2.1.trans hk) hk5 ht h.1.2.2 hi hj (lc_le c) (fun _ => kk) (fun b hb => by rw [h3] at hb; cases hb)
/-- a contract of the class' method that throws nothing and makes nothing -/
def CC (y : MethodName) (bytes : ByteArray) (maxL : Nat) (ret : Option FieldType) (rm : Room) (D : DT) (As : List Value) (X : XT) (s : SG) (post : Option Value → SG → Prop) : Prop := ∀ G : GT, LF X s G → MC y bytes maxL ret rm D As G (fun v G' => ∃ s', LF X s' G' ∧ post v s')
theorem ivL_0_1 (s : SG) (i : Nat) : iv s 0 i 1 = s.1 0 i := rfl
theorem ivL_0_3 (s : SG) (i : Nat) : iv s 0 i 3 = s.1 4 i := rfl
theorem ivL_0_5 (s : SG) (i : Nat) : iv s 0 i 5 = s.1 9 i := rfl
theorem ivL_0_8 (s : SG) (i : Nat) : iv s 0 i 8 = s.1 19 i := rfl
theorem ivL_0_11 (s : SG) (i : Nat) : iv s 0 i 11 = s.1 28 i := rfl
theorem ivL_0_13 (s : SG) (i : Nat) : iv s 0 i 13 = s.1 27 i := rfl
theorem ivL_6_3 (s : SG) (i : Nat) : iv s 6 i 3 = s.1 18 i := rfl
theorem ivL_7_a (s : SG) (f : Nat) : iv s 7 0 f = s.1 15 f := rfl
theorem ivL_8_a (s : SG) (f : Nat) : iv s 8 0 f = s.1 46 f := rfl
theorem ivL_9_a (s : SG) (f : Nat) : iv s 9 0 f = s.1 17 f := rfl
theorem ivL_10_0 (s : SG) (i : Nat) : iv s 10 i 0 = s.1 24 i := rfl
theorem ivL_10_1 (s : SG) (i : Nat) : iv s 10 i 1 = s.1 25 i := rfl
theorem ivL_10_2 (s : SG) (i : Nat) : iv s 10 i 2 = s.1 26 i := rfl
theorem ivL_11_1 (s : SG) (i : Nat) : iv s 11 i 1 = s.1 45 i := rfl
theorem ivL_12_a (s : SG) (f : Nat) : iv s 12 0 f = s.1 44 f := rfl
theorem ivL_13_0 (s : SG) (i : Nat) : iv s 13 i 0 = s.1 1 (3 * i) := rfl
theorem ivL_13_1 (s : SG) (i : Nat) : iv s 13 i 1 = s.1 1 (3 * i + 1) := rfl
theorem ivL_13_2 (s : SG) (i : Nat) : iv s 13 i 2 = s.1 1 (3 * i + 2) := rfl
theorem ivL_13_3 (s : SG) (i : Nat) : iv s 13 i 3 = s.1 2 i := rfl
theorem ivL_13_4 (s : SG) (i : Nat) : iv s 13 i 4 = s.1 3 i := rfl
theorem ivL_13_5 (s : SG) (i : Nat) : iv s 13 i 5 = s.1 39 i := rfl
theorem ivL_13_6 (s : SG) (i : Nat) : iv s 13 i 6 = s.1 40 i := rfl
theorem ivL_13_7 (s : SG) (i : Nat) : iv s 13 i 7 = s.1 41 i := rfl
theorem ivL_14_1 (s : SG) (i : Nat) : iv s 14 i 1 = s.1 6 i := rfl
theorem ivL_14_2 (s : SG) (i : Nat) : iv s 14 i 2 = s.1 8 i := rfl
theorem ivL_14_4 (s : SG) (i : Nat) : iv s 14 i 4 = s.1 43 i := rfl
theorem ivL_16_1 (s : SG) (i : Nat) : iv s 16 i 1 = s.1 21 i := rfl
theorem ivL_16_2 (s : SG) (i : Nat) : iv s 16 i 2 = s.1 22 i := rfl
theorem ivL_17_1 (s : SG) (i : Nat) : iv s 17 i 1 = s.1 29 i := rfl
theorem ivL_17_3 (s : SG) (i : Nat) : iv s 17 i 3 = s.1 30 i := rfl
theorem ivL_17_4 (s : SG) (i : Nat) : iv s 17 i 4 = s.1 32 i := rfl
theorem ivL_17_5 (s : SG) (i : Nat) : iv s 17 i 5 = s.1 33 i := rfl
theorem ivL_17_6 (s : SG) (i : Nat) : iv s 17 i 6 = s.1 34 i := rfl
theorem ivL_17_7 (s : SG) (i : Nat) : iv s 17 i 7 = s.1 35 i := rfl
theorem ivL_17_8 (s : SG) (i : Nat) : iv s 17 i 8 = s.1 36 i := rfl
theorem ivL_17_9 (s : SG) (i : Nat) : iv s 17 i 9 = s.1 37 i := rfl
theorem ivL_18_a (s : SG) (i f : Nat) : iv s 18 i f = s.1 31 (8 * i + f) := rfl
theorem ivL_15_2 (s : SG) (i : Nat) : iv s 15 i 2 = pctS s i := rfl
theorem jvL_14_3 (s : SG) (i : Nat) : jv s 14 i 3 = s.2 42 i := rfl
theorem uJ_14_3 (s : SG) (i : Nat) (x : Int64) : UJ s (sJ s 42 i x) 14 i 3 x := by
  refine ⟨fun c' i' f' => ?_, fun _ _ _ => rfl, fun X c' i' f' => rfl⟩
  unfold jv
  split
  · split <;> first | (by_cases e1 : i' = i <;> simp [sJ, u2, e1]; done) | (simp_all [sJ, u2]; done)
  · split <;> first | (by_cases e1 : i' = i <;> simp [sJ, u2, e1]; done) | (simp_all [sJ, u2]; done)
  · rw [if_neg (by rintro ⟨rfl, _⟩; simp_all)]
theorem jvL_16_0 (s : SG) (i : Nat) : jv s 16 i 0 = s.2 20 i := rfl
theorem uJ_16_0 (s : SG) (i : Nat) (x : Int64) : UJ s (sJ s 20 i x) 16 i 0 x := by
  refine ⟨fun c' i' f' => ?_, fun _ _ _ => rfl, fun X c' i' f' => rfl⟩
  unfold jv
  split
  · split <;> first | (by_cases e1 : i' = i <;> simp [sJ, u2, e1]; done) | (simp_all [sJ, u2]; done)
  · split <;> first | (by_cases e1 : i' = i <;> simp [sJ, u2, e1]; done) | (simp_all [sJ, u2]; done)
  · rw [if_neg (by rintro ⟨rfl, _⟩; simp_all)]
theorem jvL_16_3 (s : SG) (i : Nat) : jv s 16 i 3 = s.2 23 i := rfl
theorem uJ_16_3 (s : SG) (i : Nat) (x : Int64) : UJ s (sJ s 23 i x) 16 i 3 x := by
  refine ⟨fun c' i' f' => ?_, fun _ _ _ => rfl, fun X c' i' f' => rfl⟩
  unfold jv
  split
  · split <;> first | (by_cases e1 : i' = i <;> simp [sJ, u2, e1]; done) | (simp_all [sJ, u2]; done)
  · split <;> first | (by_cases e1 : i' = i <;> simp [sJ, u2, e1]; done) | (simp_all [sJ, u2]; done)
  · rw [if_neg (by rintro ⟨rfl, _⟩; simp_all)]
theorem rvL_0_0 (X : XT) (s : SG) (i : Nat) : rv X s 0 i 0 = some (1, 0) := rfl
theorem rvL_0_2 (X : XT) (s : SG) (i : Nat) : rv X s 0 i 2 = some (2, 0) := rfl
theorem rvL_0_4 (X : XT) (s : SG) (i : Nat) : rv X s 0 i 4 = some (3, 0) := rfl
theorem rvL_0_6 (X : XT) (s : SG) (i : Nat) : rv X s 0 i 6 = some (6, 0) := rfl
theorem rvL_0_7 (X : XT) (s : SG) (i : Nat) : rv X s 0 i 7 = some (4, 0) := rfl
theorem rvL_0_9 (X : XT) (s : SG) (i : Nat) : rv X s 0 i 9 = some (10, 0) := rfl
theorem rvL_0_10 (X : XT) (s : SG) (i : Nat) : rv X s 0 i 10 = some (5, 0) := rfl
theorem rvL_0_12 (X : XT) (s : SG) (i : Nat) : rv X s 0 i 12 = some (11, 0) := rfl
theorem rvL_6_0 (X : XT) (s : SG) (i : Nat) : rv X s 6 i 0 = some (7, 0) := rfl
theorem rvL_6_1 (X : XT) (s : SG) (i : Nat) : rv X s 6 i 1 = some (8, 0) := rfl
theorem rvL_6_2 (X : XT) (s : SG) (i : Nat) : rv X s 6 i 2 = some (9, 0) := rfl
theorem rvL_11_0 (X : XT) (s : SG) (i : Nat) : rv X s 11 i 0 = some (12, 0) := rfl
theorem rvL_14_0 (X : XT) (s : SG) (i : Nat) : rv X s 14 i 0 = some (13, nat (s.1 5 i)) := rfl
theorem rvL_15_0 (X : XT) (s : SG) (i : Nat) : rv X s 15 i 0 = some (14, nat (s.1 10 i)) := rfl
theorem rvL_15_1 (X : XT) (s : SG) (i : Nat) : rv X s 15 i 1 = some (14, nat (s.1 11 i)) := rfl
theorem rvL_17_0 (X : XT) (s : SG) (i : Nat) : rv X s 17 i 0 = some (13, nat (s.1 29 i)) := rfl
theorem rvL_17_2 (X : XT) (s : SG) (i : Nat) : rv X s 17 i 2 = some (18, i) := rfl
theorem vc_callV0 {cc : ByteArray} {own : String} {nL : Nat} {R : Room} {D : DT} {K : KT} {pc : Nat} {lv : LV} {st : List Value} {G : GT} {n : Nat × Nat} {X : XT} {s : SG} {idx maxL c i ci N0 : Nat} {T0 : u_T} {y : MethodName} {bytes : ByteArray} {ret : Option FieldType} {rm : Room} {post : Option Value → SG → Prop} (n' : Nat × Nat) (hG : LF X s G) (hd : decode cc pc = .ok (.invokevirtual idx, 3)) (hC : CWm own idx y bytes maxL ret 0) (hi : Cond.instanceMethod y ∈ lw_all) (hsel : Cond.selects y.cls y y ∈ lw_all) (hM : CC y bytes maxL ret rm D (.ref (X.1 c i) :: []) X s post) (hL : X.2.1 c i = true) (hk : kc c = ci + 1) (hci : cls[ci]? = some (y.cls, T0, N0)) (hrest : (st.map fun v => v.category).sum ≤ 8) (hR : rm.frames + 1 ≤ R.frames ∧ 8 + (maxL + 11) + rm.locals ≤ R.locals) (hn : n.1 + rm.cells ≤ R.cells ∧ n.2 + rm.slots ≤ R.slots) (hn' : (n.1 + rm.cells, n.2 + rm.slots) = n') (kk : ∀ (v : Option Value) (s' : SG) (G' : GT), post v s' → LF X s' G' → V cc own nL R D K (pc + 3) lv (vst v st) G' n') : V cc own nL R D K pc lv (.ref (X.1 c i) :: st) G n :=
  v_callV0 n' hd hC hi hsel (hM G hG) ((hG.1 c i hL).1.2.1.trans hk) hci hrest hR hn hn' (fun v G' hp => hp.elim (fun s' h => kk v s' G' h.2 h.1))
theorem vc_callV1 {cc : ByteArray} {own : String} {nL : Nat} {R : Room} {D : DT} {K : KT} {pc : Nat} {lv : LV} {st : List Value} {G : GT} {n : Nat × Nat} {X : XT} {s : SG} {idx maxL c i ci N0 : Nat} {T0 : u_T} {y : MethodName} {bytes : ByteArray} {ret : Option FieldType} {rm : Room} {a0 : Value} {post : Option Value → SG → Prop} (n' : Nat × Nat) (hG : LF X s G) (hd : decode cc pc = .ok (.invokevirtual idx, 3)) (hC : CWm own idx y bytes maxL ret 1) (hi : Cond.instanceMethod y ∈ lw_all) (hsel : Cond.selects y.cls y y ∈ lw_all) (hM : CC y bytes maxL ret rm D (.ref (X.1 c i) :: [a0]) X s post) (hL : X.2.1 c i = true) (hk : kc c = ci + 1) (hci : cls[ci]? = some (y.cls, T0, N0)) (hrest : (st.map fun v => v.category).sum ≤ 8) (hR : rm.frames + 1 ≤ R.frames ∧ 8 + (maxL + 11) + rm.locals ≤ R.locals) (hn : n.1 + rm.cells ≤ R.cells ∧ n.2 + rm.slots ≤ R.slots) (hn' : (n.1 + rm.cells, n.2 + rm.slots) = n') (kk : ∀ (v : Option Value) (s' : SG) (G' : GT), post v s' → LF X s' G' → V cc own nL R D K (pc + 3) lv (vst v st) G' n') : V cc own nL R D K pc lv (a0 :: .ref (X.1 c i) :: st) G n :=
  v_callV1 n' hd hC hi hsel (hM G hG) ((hG.1 c i hL).1.2.1.trans hk) hci hrest hR hn hn' (fun v G' hp => hp.elim (fun s' h => kk v s' G' h.2 h.1))
theorem vc_callV2 {cc : ByteArray} {own : String} {nL : Nat} {R : Room} {D : DT} {K : KT} {pc : Nat} {lv : LV} {st : List Value} {G : GT} {n : Nat × Nat} {X : XT} {s : SG} {idx maxL c i ci N0 : Nat} {T0 : u_T} {y : MethodName} {bytes : ByteArray} {ret : Option FieldType} {rm : Room} {a0 a1 : Value} {post : Option Value → SG → Prop} (n' : Nat × Nat) (hG : LF X s G) (hd : decode cc pc = .ok (.invokevirtual idx, 3)) (hC : CWm own idx y bytes maxL ret 2) (hi : Cond.instanceMethod y ∈ lw_all) (hsel : Cond.selects y.cls y y ∈ lw_all) (hM : CC y bytes maxL ret rm D (.ref (X.1 c i) :: [a0, a1]) X s post) (hL : X.2.1 c i = true) (hk : kc c = ci + 1) (hci : cls[ci]? = some (y.cls, T0, N0)) (hrest : (st.map fun v => v.category).sum ≤ 8) (hR : rm.frames + 1 ≤ R.frames ∧ 8 + (maxL + 11) + rm.locals ≤ R.locals) (hn : n.1 + rm.cells ≤ R.cells ∧ n.2 + rm.slots ≤ R.slots) (hn' : (n.1 + rm.cells, n.2 + rm.slots) = n') (kk : ∀ (v : Option Value) (s' : SG) (G' : GT), post v s' → LF X s' G' → V cc own nL R D K (pc + 3) lv (vst v st) G' n') : V cc own nL R D K pc lv (a1 :: a0 :: .ref (X.1 c i) :: st) G n :=
  v_callV2 n' hd hC hi hsel (hM G hG) ((hG.1 c i hL).1.2.1.trans hk) hci hrest hR hn hn' (fun v G' hp => hp.elim (fun s' h => kk v s' G' h.2 h.1))
theorem vc_callV3 {cc : ByteArray} {own : String} {nL : Nat} {R : Room} {D : DT} {K : KT} {pc : Nat} {lv : LV} {st : List Value} {G : GT} {n : Nat × Nat} {X : XT} {s : SG} {idx maxL c i ci N0 : Nat} {T0 : u_T} {y : MethodName} {bytes : ByteArray} {ret : Option FieldType} {rm : Room} {a0 a1 a2 : Value} {post : Option Value → SG → Prop} (n' : Nat × Nat) (hG : LF X s G) (hd : decode cc pc = .ok (.invokevirtual idx, 3)) (hC : CWm own idx y bytes maxL ret 3) (hi : Cond.instanceMethod y ∈ lw_all) (hsel : Cond.selects y.cls y y ∈ lw_all) (hM : CC y bytes maxL ret rm D (.ref (X.1 c i) :: [a0, a1, a2]) X s post) (hL : X.2.1 c i = true) (hk : kc c = ci + 1) (hci : cls[ci]? = some (y.cls, T0, N0)) (hrest : (st.map fun v => v.category).sum ≤ 8) (hR : rm.frames + 1 ≤ R.frames ∧ 8 + (maxL + 11) + rm.locals ≤ R.locals) (hn : n.1 + rm.cells ≤ R.cells ∧ n.2 + rm.slots ≤ R.slots) (hn' : (n.1 + rm.cells, n.2 + rm.slots) = n') (kk : ∀ (v : Option Value) (s' : SG) (G' : GT), post v s' → LF X s' G' → V cc own nL R D K (pc + 3) lv (vst v st) G' n') : V cc own nL R D K pc lv (a2 :: a1 :: a0 :: .ref (X.1 c i) :: st) G n :=
  v_callV3 n' hd hC hi hsel (hM G hG) ((hG.1 c i hL).1.2.1.trans hk) hci hrest hR hn hn' (fun v G' hp => hp.elim (fun s' h => kk v s' G' h.2 h.1))
/-- a contract of the class' method that may throw -/
def CX (y : MethodName) (bytes : ByteArray) (maxL : Nat) (ret : Option FieldType) (rm : Room) (D : DT) (As : List Value) (X : XT) (s : SG) (post : Option Value → SG → Prop) (postX : String → Prop) : Prop := ∀ G : GT, LF X s G → MX y bytes maxL ret rm D As G (fun v G' => ∃ s', LF X s' G' ∧ post v s') (fun e G' => LF X s G' ∧ postX e)
abbrev xIO : String := "java/lang/IndexOutOfBoundsException"
abbrev xIA : String := "java/lang/IllegalArgumentException"
abbrev xIS : String := "java/lang/IllegalStateException"
