theorem u2_rw {α : Type} (f : Nat → Nat → α) (a k : Nat) (v : α) : u2 f a k v a = u1 (f a) k v := funext fun j => by simp [u2, u1]
/-- the room used, in calls: 2 objects, 18 places each -/
def nu (u : Nat) : Nat × Nat := (2 * u, 18 * u)
theorem WD.x0 {X : XT} {s : SG} {M : MT} {G : GT} (h : WD X s M G) : G.1 (X.1 0 0) = 8 + 1 := by
  obtain ⟨⟨s1, e, hL⟩, -⟩ := h
  exact (hL.1 0 0 (hL.2.2.1 0 (by decide))).1.2.1
theorem vqV {cc : ByteArray} {own : String} {nL : Nat} {R : Room} {D : DT} {K : KT} {pc : Nat} {lv : LV} {st : List Value} {G : GT} {u U j idx k maxL : Nat} {y : MethodName} {bytes : ByteArray} {ret : Option FieldType} {rm : Room} {As rest : List Value} {post : Option Value → GT → Prop} {X : XT} {s : SG} {M : MT} (hW : WD X s M G) (hd : decode cc pc = .ok (.invokevirtual idx, 3)) (hC : CWm own idx y bytes maxL ret k) (hi : Cond.instanceMethod y ∈ lw_all) (hsel : Cond.selects y.cls y y ∈ lw_all) (hy : y.cls = RX8) (hM : MC y bytes maxL ret rm D (.ref (X.1 0 0) :: As) G post) (hst : st = As.reverse ++ .ref (X.1 0 0) :: rest) (hk : As.length = k) (hrest : (rest.map fun v => v.category).sum ≤ 8) (hR : rm.frames + 1 ≤ R.frames ∧ 8 + (maxL + 11) + rm.locals ≤ R.locals) (hrm : rm.cells ≤ 2 * j ∧ rm.slots ≤ 18 * j) (hRU : R.cells = 2 * U ∧ R.slots = 18 * U) (hu : u + j ≤ U) (kk : ∀ (v : Option Value) (G' : GT), post v G' → V cc own nL R D K (pc + 3) lv (vst v rest) G' (nu (u + j))) : V cc own nL R D K pc lv st G (nu u) := by
  have e1 : (nu u).1 + rm.cells ≤ (nu (u + j)).1 := by show 2 * u + rm.cells ≤ 2 * (u + j); omega
  have e2 : (nu u).2 + rm.slots ≤ (nu (u + j)).2 := by show 18 * u + rm.slots ≤ 18 * (u + j); omega
  have e3 : (nu (u + j)).1 ≤ R.cells := by rw [hRU.1]; show 2 * (u + j) ≤ 2 * U; omega
  have e4 : (nu (u + j)).2 ≤ R.slots := by rw [hRU.2]; show 18 * (u + j) ≤ 18 * U; omega
  exact v_callV hd hC hi hsel hM hW.x0 (T0 := TX8) (N0 := 14) (by rw [hy]; rfl) hst hk hrest hR ⟨Nat.le_trans e1 e3, Nat.le_trans e2 e4⟩ (fun v G' hp => v_widen (nu (u + j)) e1 e2 (kk v G' hp))
theorem vqN {cc : ByteArray} {own : String} {nL : Nat} {R : Room} {D : DT} {K : KT} {pc : Nat} {lv : LV} {st : List Value} {G : GT} {u U j idx k maxL : Nat} {y : MethodName} {bytes : ByteArray} {ret : Option FieldType} {rm : Room} {As rest : List Value} {post : Option Value → GT → Prop} (hNC : NC3 K.2.2.2.1) (hd : decode cc pc = .ok (.invokestatic idx, 3)) (hC : CWm own idx y bytes maxL ret k) (hi : Cond.static y ∈ lw_all) (hM : MN y bytes maxL ret rm D As G post) (hst : st = As.reverse ++ rest) (hk : As.length = k) (hrest : (rest.map fun v => v.category).sum ≤ 8) (hR : rm.frames + 1 ≤ R.frames ∧ 8 + (maxL + 11) + rm.locals ≤ R.locals) (hrm : rm.cells ≤ 2 * j ∧ rm.slots ≤ 18 * j) (hRU : R.cells = 2 * U ∧ R.slots = 18 * U) (hu : u + j ≤ U) (kk : ∀ (v : Option Value) (G' : GT), post v G' → V cc own nL R D K (pc + 3) lv (vst v rest) G' (nu (u + j))) : V cc own nL R D K pc lv st G (nu u) := by
  have e1 : (nu u).1 + rm.cells ≤ (nu (u + j)).1 := by show 2 * u + rm.cells ≤ 2 * (u + j); omega
  have e2 : (nu u).2 + rm.slots ≤ (nu (u + j)).2 := by show 18 * u + rm.slots ≤ 18 * (u + j); omega
  have e3 : (nu (u + j)).1 ≤ R.cells := by rw [hRU.1]; show 2 * (u + j) ≤ 2 * U; omega
  have e4 : (nu (u + j)).2 ≤ R.slots := by rw [hRU.2]; show 18 * (u + j) ≤ 18 * U; omega
  exact v_callN hNC hd hC hi hM hst hk hrest hR ⟨Nat.le_trans e1 e3, Nat.le_trans e2 e4⟩ (fun v G' hp => v_widen (nu (u + j)) e1 e2 (kk v G' hp))
theorem vqL {cc : ByteArray} {own : String} {nL : Nat} {R : Room} {D : DT} {K : KT} {pc : Nat} {lv : LV} {st : List Value} {G : GT} {u U j idx k maxL : Nat} {y : MethodName} {bytes : ByteArray} {ret : Option FieldType} {rm : Room} {As rest : List Value} {post : Option Value → GT → Prop} {hh : List (Nat × Nat × Nat × Nat)} (hNC : NC3 K.2.2.2.1) (hd : decode cc pc = .ok (.invokestatic idx, 3)) (w1 : Cond.methodLink own idx y ∈ lw_all) (w2 : Cond.initialized y.cls ∈ lw_all) (w3 : Cond.codeWith y bytes maxL ret hh ∈ lw_all) (w4 : y.cls ≠ "java/lang/invoke/MethodHandle" ∧ y.cls ≠ "java/lang/invoke/VarHandle" ∧ (parseMethodDescriptor y.desc).map (fun d => d.parameters.length) = some k) (hi : Cond.static y ∈ lw_all) (hM : ML y bytes maxL ret hh rm D As G post) (hst : st = As.reverse ++ rest) (hk : As.length = k) (hrest : (rest.map fun v => v.category).sum ≤ 8) (hR : rm.frames + 1 ≤ R.frames ∧ 8 + (maxL + 11) + rm.locals ≤ R.locals) (hrm : rm.cells ≤ 2 * j ∧ rm.slots ≤ 18 * j) (hRU : R.cells = 2 * U ∧ R.slots = 18 * U) (hu : u + j ≤ U) (kk : ∀ (v : Option Value) (G' : GT), post v G' → V cc own nL R D K (pc + 3) lv (vst v rest) G' (nu (u + j))) : V cc own nL R D K pc lv st G (nu u) := by
  have e1 : (nu u).1 + rm.cells ≤ (nu (u + j)).1 := by show 2 * u + rm.cells ≤ 2 * (u + j); omega
  have e2 : (nu u).2 + rm.slots ≤ (nu (u + j)).2 := by show 18 * u + rm.slots ≤ 18 * (u + j); omega
  have e3 : (nu (u + j)).1 ≤ R.cells := by rw [hRU.1]; show 2 * (u + j) ≤ 2 * U; omega
  have e4 : (nu (u + j)).2 ≤ R.slots := by rw [hRU.2]; show 18 * (u + j) ≤ 18 * U; omega
  exact v_callL hNC hd w1 w2 w3 w4 hi hM hst hk hrest hR ⟨Nat.le_trans e1 e3, Nat.le_trans e2 e4⟩ (fun v G' hp => v_widen (nu (u + j)) e1 e2 (kk v G' hp))
theorem vq_zret {cc : ByteArray} {own : String} {nL : Nat} {R : Room} {D : DT} {K : KT} {pc : Nat} {lv : LV} {G : GT} {u U : Nat} {nm : String} {sz : Nat} {G0 : GT} {post : Option Value → GT → Prop} {x : Int32} (hR : Rt R D K (some .boolean) nm sz G0 post) (hd : decode cc pc = .ok (.ireturn, 1)) (hz : narrow .boolean (.int x) = .int x) (hRU : R.cells = 2 * U ∧ R.slots = 18 * U) (hu : u ≤ U) (hp : post (some (.int x)) G) : V cc own nL R D K pc lv [.int x] G (nu u) :=
  v_zret hR hd hz ⟨by rw [hRU.1]; show 2 * u ≤ 2 * U; omega, by rw [hRU.2]; show 18 * u ≤ 18 * U; omega⟩ hp
theorem vq_lret {cc : ByteArray} {own : String} {nL : Nat} {R : Room} {D : DT} {K : KT} {pc : Nat} {lv : LV} {G : GT} {u U : Nat} {nm : String} {sz : Nat} {G0 : GT} {post : Option Value → GT → Prop} {x : Int64} (hR : Rt R D K (some .long) nm sz G0 post) (hd : decode cc pc = .ok (.lreturn, 1)) (hRU : R.cells = 2 * U ∧ R.slots = 18 * U) (hu : u ≤ U) (hp : post (some (.long x)) G) : V cc own nL R D K pc lv [.long x] G (nu u) :=
  v_lret hR hd ⟨by rw [hRU.1]; show 2 * u ≤ 2 * U; omega, by rw [hRU.2]; show 18 * u ≤ 18 * U; omega⟩ hp
theorem vq_u {cc : ByteArray} {own : String} {nL : Nat} {R : Room} {D : DT} {K : KT} {pc : Nat} {lv : LV} {st : List Value} {G : GT} {u u' : Nat} (h : u ≤ u') (k : V cc own nL R D K pc lv st G (nu u')) : V cc own nL R D K pc lv st G (nu u) :=
  v_widen (nu u') (by show 2 * u ≤ 2 * u'; omega) (by show 18 * u ≤ 18 * u'; omega) k
/-! the law's rows -/
theorem vw_m {cc : ByteArray} {own : String} {nL : Nat} {R : Room} {D : DT} {K : KT} {pc : Nat} {lv : LV} {st : List Value} {G : GT} {n : Nat × Nat} {X : XT} {s : SG} {M : MT} {j : Nat} {i : Int32} (hW : WD X s M G) (hd : decode cc pc = .ok (.iaload, 1)) (hi : i = nI j) (hj : j < 9) {x : Int32} (hx : M.2.1 j = x) (kk : V cc own nL R D K (pc + 1) lv (.int x :: st) G n) : V cc own nL R D K pc lv (.int i :: .ref M.1.1 :: st) G n := by
  obtain ⟨T, N, I, J, E, Rf⟩ := G
  obtain ⟨-, ⟨a1, a2, a3⟩, -⟩ := hW
  refine v_iald hd a1 a2 hi hj (by decide) ?_
  rw [show I M.1.1 = M.2.1 from a3, hx]
  exact kk
theorem vw_p {cc : ByteArray} {own : String} {nL : Nat} {R : Room} {D : DT} {K : KT} {pc : Nat} {lv : LV} {st : List Value} {G : GT} {n : Nat × Nat} {X : XT} {s : SG} {M : MT} {j : Nat} {i : Int32} (hW : WD X s M G) (hd : decode cc pc = .ok (.iaload, 1)) (hi : i = nI j) (hj : j < 36) {x : Int32} (hx : M.2.2.1 j = x) (kk : V cc own nL R D K (pc + 1) lv (.int x :: st) G n) : V cc own nL R D K pc lv (.int i :: .ref M.1.2.1 :: st) G n := by
  obtain ⟨T, N, I, J, E, Rf⟩ := G
  obtain ⟨-, -, ⟨a1, a2, a3⟩, -⟩ := hW
  refine v_iald hd a1 a2 hi hj (by decide) ?_
  rw [show I M.1.2.1 = M.2.2.1 from a3, hx]
  exact kk
theorem vw_h {cc : ByteArray} {own : String} {nL : Nat} {R : Room} {D : DT} {K : KT} {pc : Nat} {lv : LV} {st : List Value} {G : GT} {n : Nat × Nat} {X : XT} {s : SG} {M : MT} {j : Nat} {i : Int32} (hW : WD X s M G) (hd : decode cc pc = .ok (.laload, 1)) (hi : i = nI j) (hj : j < 8) {x : Int64} (hx : M.2.2.2 j = x) (kk : V cc own nL R D K (pc + 1) lv (.long x :: st) G n) : V cc own nL R D K pc lv (.int i :: .ref M.1.2.2 :: st) G n := by
  obtain ⟨T, N, I, J, E, Rf⟩ := G
  obtain ⟨-, -, -, ⟨a1, a2, a3⟩, -⟩ := hW
  refine v_lald hd a1 a2 hi hj (by decide) ?_
  rw [show J M.1.2.2 = M.2.2.2 from a3, hx]
  exact kk
def mS (M : MT) (j : Nat) (x : Int32) : MT := (M.1, u1 M.2.1 j x, M.2.2.1, M.2.2.2)
def pS (M : MT) (j : Nat) (x : Int32) : MT := (M.1, M.2.1, u1 M.2.2.1 j x, M.2.2.2)
def hS (M : MT) (j : Nat) (x : Int64) : MT := (M.1, M.2.1, M.2.2.1, u1 M.2.2.2 j x)
theorem vw_mS {cc : ByteArray} {own : String} {nL : Nat} {R : Room} {D : DT} {K : KT} {pc : Nat} {lv : LV} {st : List Value} {G : GT} {n : Nat × Nat} {X : XT} {s : SG} {M : MT} {j : Nat} {i x : Int32} (hW : WD X s M G) (hd : decode cc pc = .ok (.iastore, 1)) (hi : i = nI j) (hj : j < 9) (kk : ∀ G', WD X s (mS M j x) G' → V cc own nL R D K (pc + 1) lv st G' n) : V cc own nL R D K pc lv (.int x :: .int i :: .ref M.1.1 :: st) G n := by
  obtain ⟨T, N, I, J, E, Rf⟩ := G
  have hR := hW.2
  obtain ⟨⟨a1, a2, a3⟩, ⟨b1, b2, b3⟩, ⟨c1, c2, c3⟩, d⟩ := hR
  refine v_iast hd a1 a2 hi hj (by decide) (kk _ ?_)
  refine hW.ari (mS M j x) _ rfl M.1.1 (Or.inl rfl) (fun q hq => ⟨rfl, rfl, u2_rown _ _ _ hq, rfl, rfl, rfl⟩) ⟨⟨a1, a2, ?_⟩, ⟨b1, b2, ?_⟩, ⟨c1, c2, c3⟩, d⟩
  · show u2 I M.1.1 j x M.1.1 = u1 M.2.1 j x
    rw [u2_rw, show I M.1.1 = M.2.1 from a3]
  · exact (u2_rown _ _ _ (fun z => d z.symm)).trans b3
theorem vw_pS {cc : ByteArray} {own : String} {nL : Nat} {R : Room} {D : DT} {K : KT} {pc : Nat} {lv : LV} {st : List Value} {G : GT} {n : Nat × Nat} {X : XT} {s : SG} {M : MT} {j : Nat} {i x : Int32} (hW : WD X s M G) (hd : decode cc pc = .ok (.iastore, 1)) (hi : i = nI j) (hj : j < 36) (kk : ∀ G', WD X s (pS M j x) G' → V cc own nL R D K (pc + 1) lv st G' n) : V cc own nL R D K pc lv (.int x :: .int i :: .ref M.1.2.1 :: st) G n := by
  obtain ⟨T, N, I, J, E, Rf⟩ := G
  have hR := hW.2
  obtain ⟨⟨a1, a2, a3⟩, ⟨b1, b2, b3⟩, ⟨c1, c2, c3⟩, d⟩ := hR
  refine v_iast hd b1 b2 hi hj (by decide) (kk _ ?_)
  refine hW.ari (pS M j x) _ rfl M.1.2.1 (Or.inr (Or.inl rfl)) (fun q hq => ⟨rfl, rfl, u2_rown _ _ _ hq, rfl, rfl, rfl⟩) ⟨⟨a1, a2, ?_⟩, ⟨b1, b2, ?_⟩, ⟨c1, c2, c3⟩, d⟩
  · exact (u2_rown _ _ _ d).trans a3
  · show u2 I M.1.2.1 j x M.1.2.1 = u1 M.2.2.1 j x
    rw [u2_rw, show I M.1.2.1 = M.2.2.1 from b3]
theorem vw_hS {cc : ByteArray} {own : String} {nL : Nat} {R : Room} {D : DT} {K : KT} {pc : Nat} {lv : LV} {st : List Value} {G : GT} {n : Nat × Nat} {X : XT} {s : SG} {M : MT} {j : Nat} {i : Int32} {x : Int64} (hW : WD X s M G) (hd : decode cc pc = .ok (.lastore, 1)) (hi : i = nI j) (hj : j < 8) (kk : ∀ G', WD X s (hS M j x) G' → V cc own nL R D K (pc + 1) lv st G' n) : V cc own nL R D K pc lv (.long x :: .int i :: .ref M.1.2.2 :: st) G n := by
  obtain ⟨T, N, I, J, E, Rf⟩ := G
  have hR := hW.2
  obtain ⟨⟨a1, a2, a3⟩, ⟨b1, b2, b3⟩, ⟨c1, c2, c3⟩, d⟩ := hR
  refine v_last hd c1 c2 hi hj (by decide) (kk _ ?_)
  refine hW.ari (hS M j x) _ rfl M.1.2.2 (Or.inr (Or.inr rfl)) (fun q hq => ⟨rfl, rfl, rfl, u2_rown _ _ _ hq, rfl, rfl⟩) ⟨⟨a1, a2, a3⟩, ⟨b1, b2, b3⟩, ⟨c1, c2, ?_⟩, d⟩
  show u2 J M.1.2.2 j x M.1.2.2 = u1 M.2.2.2 j x
  rw [u2_rw, show J M.1.2.2 = M.2.2.2 from c3]
/-! the invariant of the law's turns -/
def HB (s : SG) (t : Nat) : Prop := (∀ k, k < 36 → (s.1 15 k).toInt ≤ 10000 ∧ -(10000 * ((t : Int) + 1)) ≤ (s.1 15 k).toInt) ∧ btw (s.1 18 0) 0 100
def PB (s : SG) : Prop := ∀ i, i < nG s → (s.1 22 i = 0 ∨ s.1 22 i = 1) ∧ (0 : Int64) ≤ s.2 23 i ∧ (s.1 22 i = 1 → s.2 23 i ≤ s.2 20 i)
def CE (s : SG) (i : Nat) : Prop := (s.1 32 i = -1 ∨ btw (s.1 32 i) 0 4) ∧ (s.1 33 i = -1 ∨ btw (s.1 33 i) 0 (s.1 27 0)) ∧ (∃ z u w v : Nat, s.1 34 i = nI z ∧ s.1 35 i = nI u ∧ s.1 36 i = nI w ∧ s.1 37 i = nI v ∧ u + (if s.1 33 i = -1 then 0 else 1) ≤ z ∧ v ≤ w ∧ z ≤ 1000 ∧ w ≤ 1000) ∧ (¬ s.1 33 i = -1 → 0 < opS s i) ∧ (¬ s.1 3 (nat (s.1 29 i)) = 0 → s.1 33 i = -1)
def CB (s : SG) : Prop := (∀ l, l < nA s → s.1 3 l = 0 ∨ s.1 3 l = 1) ∧ ∀ i, i < nC s → CE s i
def MV (s : SG) (M : MT) : Prop := M.2.1 0 = s.1 0 0 ∧ M.2.1 1 = s.1 4 0 ∧ M.2.1 2 = s.1 9 0 ∧ M.2.1 3 = s.1 19 0 ∧ M.2.1 4 = s.1 28 0 ∧ M.2.1 5 = s.1 27 0
def QV (s : SG) (M : MT) : Prop := (∀ i, i < nB s → M.2.2.1 (3 * i) = s.1 5 i ∧ M.2.2.1 (3 * i + 1) = s.1 6 i ∧ M.2.2.1 (3 * i + 2) = s.1 7 i) ∧ ∀ i, i < nG s → M.2.2.2 i = s.2 20 i
def LI (X : XT) (s : SG) (M : MT) (t : Nat) : Prop := INV X s (2 * t) ∧ HB s t ∧ PB s ∧ CB s ∧ (s.1 27 0).toInt ≤ 90 * t ∧ MV s M ∧ QV s M
theorem EQ.ce {s s1 : SG} (e : EQ s s1) {i : Nat} (h : CE s i) : CE s1 i := by
  unfold CE at h ⊢
  rw [e.op, e.1 32 (by decide) (by decide), e.1 33 (by decide) (by decide), e.1 34 (by decide) (by decide), e.1 35 (by decide) (by decide), e.1 36 (by decide) (by decide), e.1 37 (by decide) (by decide), e.1 27 (by decide) (by decide), e.1 29 (by decide) (by decide), e.1 3 (by decide) (by decide)]
  exact h
theorem LI.eq {X : XT} {s s1 : SG} {M : MT} {t : Nat} (h : LI X s M t) (e : EQ s s1) (G : GT) : LI (xA X M G) s1 M t := by
  obtain ⟨h1, h2, h3, h4, h5, h6, h7⟩ := h
  refine ⟨h1.eq e M G, ?_, ?_, ?_, ?_, ?_, ?_⟩
  · unfold HB at h2 ⊢; rw [e.1 15 (by decide) (by decide), e.1 18 (by decide) (by decide)]; exact h2
  · unfold PB at h3 ⊢; rw [e.nG, e.1 22 (by decide) (by decide), e.2 23 (by decide), e.2 20 (by decide)]; exact h3
  · refine ⟨?_, fun i hi => e.ce (h4.2 i (by rw [← e.nC]; exact hi))⟩
    have := h4.1
    rw [e.nA, e.1 3 (by decide) (by decide)]; exact this
  · rw [e.1 27 (by decide) (by decide)]; exact h5
  · unfold MV at h6 ⊢; rw [e.1 0 (by decide) (by decide), e.1 4 (by decide) (by decide), e.1 9 (by decide) (by decide), e.1 19 (by decide) (by decide), e.1 28 (by decide) (by decide), e.1 27 (by decide) (by decide)]; exact h6
  · unfold QV at h7 ⊢; rw [e.nB, e.nG, e.1 5 (by decide) (by decide), e.1 6 (by decide) (by decide), e.1 7 (by decide) (by decide), e.2 20 (by decide)]; exact h7
/-- what a turn leaves -/
def LQ (X : XT) (M : MT) (t : Nat) : Option Value → GT → Prop := fun v G' => v = some (.int 1) ∧ ∃ X' s' M', X'.1 0 0 = X.1 0 0 ∧ M'.1 = M.1 ∧ WD X' s' M' G' ∧ LI X' s' M' t
/-! numbers -/
theorem n_div {a b : Nat} (ha : a < 2147483648) (hb2 : b < 2147483648) : nI a / nI b = nI (a / b) := by
  have h3 : a / b ≤ a := Nat.div_le_self a b
  apply Int32.toInt_inj.mp
  rw [Int32.toInt_div, nI_toInt ha, nI_toInt hb2, nI_toInt (by omega)]
  have e : ((a : Int).tdiv (b : Int)) = ((a / b : Nat) : Int) := by
    rw [Int.tdiv_eq_ediv_of_nonneg (by omega)]
    simp
  rw [e]
  generalize a / b = t at h3 ⊢
  exact Int.bmod_eq_of_le (by omega) (by omega)
theorem n_rem {a b : Nat} (ha : a < 2147483648) (hb2 : b < 2147483648) : nI a - nI a / nI b * nI b = nI (a % b) := by
  rw [n_div ha hb2, n_mul]
  have e : nI a = nI (a % b) + nI (a / b * b) := by
    rw [nI_add]
    have := Nat.mod_add_div a b
    rw [Nat.mul_comm b] at this
    rw [this]
  rw [e]
  exact Int32.add_sub_cancel _ _

