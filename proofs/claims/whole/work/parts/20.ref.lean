/-! THE REFERENCE: its state is (s.1 k j, s.2 k j): what its field k holds (a number: at j = 0; a row: at j) -/
abbrev SG : Type := (Nat → Nat → Int32) × (Nat → Nat → Int64)
def mk (k : Nat) : Nat := match k with
  | 1 => 11
  | 2 => 11
  | 3 => 13
  | 5 => 11
  | 6 => 11
  | 7 => 11
  | 8 => 11
  | 10 => 11
  | 11 => 11
  | 12 => 11
  | 13 => 13
  | 14 => 12
  | 15 => 11
  | 16 => 11
  | 17 => 13
  | 20 => 12
  | 21 => 11
  | 22 => 13
  | 23 => 12
  | 29 => 11
  | 30 => 11
  | 31 => 11
  | 32 => 11
  | 33 => 11
  | 34 => 11
  | 35 => 11
  | 36 => 11
  | 37 => 11
  | _ => 0
def ml (k : Nat) : Nat := match k with
  | 1 => 18
  | 2 => 6
  | 3 => 6
  | 5 => 12
  | 6 => 12
  | 7 => 12
  | 8 => 12
  | 10 => 30
  | 11 => 30
  | 12 => 30
  | 13 => 30
  | 14 => 12
  | 15 => 36
  | 16 => 36
  | 17 => 36
  | 20 => 8
  | 21 => 8
  | 22 => 8
  | 23 => 8
  | 29 => 6
  | 30 => 6
  | 31 => 48
  | 32 => 6
  | 33 => 6
  | 34 => 6
  | 35 => 6
  | 36 => 6
  | 37 => 6
  | _ => 0
theorem mk_in (k : Nat) : mk k = 0 ∨ mk k = 11 ∨ mk k = 12 ∨ mk k = 13 := by
  unfold mk
  split <;> simp
theorem ml_le (k : Nat) : ml k < 2147483648 := by
  unfold ml
  split <;> decide
def MD0 (m : Nat) (ad : Nat → Nat) (s : SG) (G : GT) : Prop := G.1 m = 10 ∧ (∀ k, mk k = 0 → k < 39 → G.2.2.1 m k = s.1 k 0) ∧ (∀ k, mk k ≠ 0 → G.2.2.2.2.2 m k = some (ad k) ∧ G.1 (ad k) = mk k ∧ G.2.1 (ad k) = ml k) ∧ (∀ k, mk k ≠ 0 → mk k ≠ 12 → G.2.2.1 (ad k) = s.1 k) ∧ (∀ k, mk k = 12 → G.2.2.2.1 (ad k) = s.2 k) ∧ ∀ k k', mk k ≠ 0 → mk k' ≠ 0 → ad k = ad k' → k = k'
theorem MD0.nm {m : Nat} {ad : Nat → Nat} {s : SG} {G : GT} (h : MD0 m ad s G) {k : Nat} (hk : mk k ≠ 0) : ad k ≠ m := by
  intro e
  have h1 := (h.2.2.1 k hk).2.1
  rw [e, h.1] at h1
  rcases mk_in k with z | z | z | z <;> omega
def sI (s : SG) (k j : Nat) (x : Int32) : SG := (u2 s.1 k j x, s.2)
def sJ (s : SG) (k j : Nat) (x : Int64) : SG := (s.1, u2 s.2 k j x)
theorem u2_row {α : Type} (f : Nat → Nat → α) (a k : Nat) (v : α) : u2 f a k v a = fun j => if j = k then v else f a j := funext fun j => by simp [u2]
theorem u2_rown {α : Type} (f : Nat → Nat → α) {a b : Nat} (k : Nat) (v : α) (h : b ≠ a) : u2 f a k v b = f b := funext fun j => by simp [u2, h]
theorem MD0.putI {m : Nat} {ad : Nat → Nat} {s : SG} {T N : Nat → Nat} {I : Nat → Nat → Int32} {J : Nat → Nat → Int64} {E : Nat → Nat → UInt64} {Rf : Nat → Nat → Option Nat} (h : MD0 m ad s (T, N, I, J, E, Rf)) {k : Nat} (hk : mk k = 0) (x : Int32) : MD0 m ad (sI s k 0 x) (T, N, u2 I m k x, J, E, Rf) := by
  refine ⟨h.1, fun k' hk' hl => ?_, h.2.2.1, fun k' hk' h12 => ?_, h.2.2.2.2.1, h.2.2.2.2.2⟩
  · show u2 I m k x m k' = u2 s.1 k 0 x k' 0
    have := h.2.1 k' hk' hl
    by_cases e : k' = k
    · subst e; simp [u2]
    · simp only [u2, e, and_false, false_and, if_false]; exact this
  · show u2 I m k x (ad k') = u2 s.1 k 0 x k'
    have e1 : k' ≠ k := fun e => hk' (e ▸ hk)
    rw [u2_rown _ _ _ (h.nm hk'), u2_rown _ _ _ e1]
    exact h.2.2.2.1 k' hk' h12
theorem MD0.putA {m : Nat} {ad : Nat → Nat} {s : SG} {T N : Nat → Nat} {I : Nat → Nat → Int32} {J : Nat → Nat → Int64} {E : Nat → Nat → UInt64} {Rf : Nat → Nat → Option Nat} (h : MD0 m ad s (T, N, I, J, E, Rf)) {k : Nat} (hk : mk k ≠ 0) (hk2 : mk k ≠ 12) (j : Nat) (x : Int32) : MD0 m ad (sI s k j x) (T, N, u2 I (ad k) j x, J, E, Rf) := by
  refine ⟨h.1, fun k' hk' hl => ?_, h.2.2.1, fun k' hk' h12 => ?_, h.2.2.2.2.1, h.2.2.2.2.2⟩
  · show u2 I (ad k) j x m k' = u2 s.1 k j x k' 0
    have e1 : k' ≠ k := fun e => hk (e ▸ hk')
    rw [u2_rown _ _ _ (fun e => h.nm hk e.symm), u2_rown _ _ _ e1]
    exact h.2.1 k' hk' hl
  · show u2 I (ad k) j x (ad k') = u2 s.1 k j x k'
    by_cases e : k' = k
    · subst e; rw [u2_row, u2_row]; exact funext fun j' => by rw [show I (ad k') = s.1 k' from h.2.2.2.1 k' hk' h12]
    · rw [u2_rown _ _ _ (fun z => e (h.2.2.2.2.2 k' k hk' hk z)), u2_rown _ _ _ e]
      exact h.2.2.2.1 k' hk' h12
theorem MD0.putL {m : Nat} {ad : Nat → Nat} {s : SG} {T N : Nat → Nat} {I : Nat → Nat → Int32} {J : Nat → Nat → Int64} {E : Nat → Nat → UInt64} {Rf : Nat → Nat → Option Nat} (h : MD0 m ad s (T, N, I, J, E, Rf)) {k : Nat} (hk : mk k = 12) (j : Nat) (x : Int64) : MD0 m ad (sJ s k j x) (T, N, I, u2 J (ad k) j x, E, Rf) := by
  have hk0 : mk k ≠ 0 := by omega
  refine ⟨h.1, h.2.1, h.2.2.1, h.2.2.2.1, fun k' hk' => ?_, h.2.2.2.2.2⟩
  show u2 J (ad k) j x (ad k') = u2 s.2 k j x k'
  by_cases e : k' = k
  · subst e; rw [u2_row, u2_row]; exact funext fun j' => by rw [show J (ad k') = s.2 k' from h.2.2.2.2.1 k' hk']
  · rw [u2_rown _ _ _ (fun z => e (h.2.2.2.2.2 k' k (by omega) hk0 z)), u2_rown _ _ _ e]
    exact h.2.2.2.2.1 k' hk'
/-- what stands aside: its places are as they were -/
abbrev AdT : Type := (Nat → Nat) × (Nat → Prop) × GT
def same6 (G G0 : GT) (p : Nat) : Prop := G.1 p = G0.1 p ∧ G.2.1 p = G0.2.1 p ∧ G.2.2.1 p = G0.2.2.1 p ∧ G.2.2.2.1 p = G0.2.2.2.1 p ∧ G.2.2.2.2.1 p = G0.2.2.2.2.1 p ∧ G.2.2.2.2.2 p = G0.2.2.2.2.2 p
def FRM (m : Nat) (ad : AdT) (G : GT) : Prop := ∀ p, ad.2.1 p → (p ≠ m ∧ ∀ k, mk k ≠ 0 → p ≠ ad.1 k) ∧ same6 G ad.2.2 p
def MD (m : Nat) (ad : AdT) (s : SG) (G : GT) : Prop := MD0 m ad.1 s G ∧ FRM m ad G
theorem same6.putI {T N : Nat → Nat} {I : Nat → Nat → Int32} {J : Nat → Nat → Int64} {E : Nat → Nat → UInt64} {Rf : Nat → Nat → Option Nat} {G0 : GT} {p q : Nat} (h : same6 (T, N, I, J, E, Rf) G0 p) (hq : p ≠ q) (j : Nat) (x : Int32) : same6 (T, N, u2 I q j x, J, E, Rf) G0 p :=
  ⟨h.1, h.2.1, (u2_rown _ _ _ hq).trans h.2.2.1, h.2.2.2⟩
theorem same6.putJ {T N : Nat → Nat} {I : Nat → Nat → Int32} {J : Nat → Nat → Int64} {E : Nat → Nat → UInt64} {Rf : Nat → Nat → Option Nat} {G0 : GT} {p q : Nat} (h : same6 (T, N, I, J, E, Rf) G0 p) (hq : p ≠ q) (j : Nat) (x : Int64) : same6 (T, N, I, u2 J q j x, E, Rf) G0 p :=
  ⟨h.1, h.2.1, h.2.2.1, (u2_rown _ _ _ hq).trans h.2.2.2.1, h.2.2.2.2⟩
theorem same6.putR {T N : Nat → Nat} {I : Nat → Nat → Int32} {J : Nat → Nat → Int64} {E : Nat → Nat → UInt64} {Rf : Nat → Nat → Option Nat} {G0 : GT} {p q : Nat} (h : same6 (T, N, I, J, E, Rf) G0 p) (hq : p ≠ q) (j : Nat) (x : Option Nat) : same6 (T, N, I, J, E, u2 Rf q j x) G0 p :=
  ⟨h.1, h.2.1, h.2.2.1, h.2.2.2.1, h.2.2.2.2.1, (u2_rown _ _ _ hq).trans h.2.2.2.2.2⟩
theorem MD.nm {m : Nat} {ad : AdT} {s : SG} {G : GT} (h : MD m ad s G) {k : Nat} (hk : mk k ≠ 0) : ad.1 k ≠ m := h.1.nm hk
theorem MD.putI {m : Nat} {ad : AdT} {s : SG} {T N : Nat → Nat} {I : Nat → Nat → Int32} {J : Nat → Nat → Int64} {E : Nat → Nat → UInt64} {Rf : Nat → Nat → Option Nat} (h : MD m ad s (T, N, I, J, E, Rf)) {k : Nat} (hk : mk k = 0) (x : Int32) : MD m ad (sI s k 0 x) (T, N, u2 I m k x, J, E, Rf) :=
  ⟨h.1.putI hk x, fun p hp => ⟨(h.2 p hp).1, (h.2 p hp).2.putI (h.2 p hp).1.1 k x⟩⟩
theorem MD.putA {m : Nat} {ad : AdT} {s : SG} {T N : Nat → Nat} {I : Nat → Nat → Int32} {J : Nat → Nat → Int64} {E : Nat → Nat → UInt64} {Rf : Nat → Nat → Option Nat} (h : MD m ad s (T, N, I, J, E, Rf)) {k : Nat} (hk : mk k ≠ 0) (hk2 : mk k ≠ 12) (j : Nat) (x : Int32) : MD m ad (sI s k j x) (T, N, u2 I (ad.1 k) j x, J, E, Rf) :=
  ⟨h.1.putA hk hk2 j x, fun p hp => ⟨(h.2 p hp).1, (h.2 p hp).2.putI ((h.2 p hp).1.2 k hk) j x⟩⟩
theorem MD.putL {m : Nat} {ad : AdT} {s : SG} {T N : Nat → Nat} {I : Nat → Nat → Int32} {J : Nat → Nat → Int64} {E : Nat → Nat → UInt64} {Rf : Nat → Nat → Option Nat} (h : MD m ad s (T, N, I, J, E, Rf)) {k : Nat} (hk : mk k = 12) (j : Nat) (x : Int64) : MD m ad (sJ s k j x) (T, N, I, u2 J (ad.1 k) j x, E, Rf) :=
  ⟨h.1.putL hk j x, fun p hp => ⟨(h.2 p hp).1, (h.2 p hp).2.putJ ((h.2 p hp).1.2 k (by omega)) j x⟩⟩
theorem lay9 {k : Nat} (hk : mk k = 0) (hl : k < 39) : (lay 9)[k]? = some 0 := by
  have h : ∀ k, k < 39 → mk k = 0 → (lay 9)[k]? = some 0 := by decide +kernel
  exact h k hl hk
theorem lay9r {k : Nat} (hk : mk k ≠ 0) : (lay 9)[k]? = some 2 := by
  have hl : k < 39 := by
    refine Classical.byContradiction fun q => hk ?_
    unfold mk
    split <;> first | rfl | omega
  have h : ∀ k, k < 39 → mk k ≠ 0 → (lay 9)[k]? = some 2 := by decide +kernel
  exact h k hl hk
theorem vm_getI {cc : ByteArray} {own : String} {nL : Nat} {R : Room} {D : DT} {K : KT} {pc : Nat} {lv : LV} {st : List Value} {G : GT} {n : Nat × Nat} {m : Nat} {ad : AdT} {s : SG} {idx k : Nat} (hG : MD m ad s G) (hd : decode cc pc = .ok (.getfield idx, 3)) (hF : FL own idx 9 k) {x : Int32} (hk : mk k = 0) (hl : k < 39) (hv : s.1 k 0 = x) (kk : V cc own nL R D K (pc + 3) lv (.int x :: st) G n) : V cc own nL R D K pc lv (.ref m :: st) G n := by
  obtain ⟨T, N, I, J, E, Rf⟩ := G
  rw [← hv, ← hG.1.2.1 k hk hl] at kk
  exact v_getI hd hF (Or.inl (lay9 hk hl)) hG.1.1 kk
theorem vm_getA {cc : ByteArray} {own : String} {nL : Nat} {R : Room} {D : DT} {K : KT} {pc : Nat} {lv : LV} {st : List Value} {G : GT} {n : Nat × Nat} {m : Nat} {ad : AdT} {s : SG} {idx k : Nat} (hG : MD m ad s G) (hd : decode cc pc = .ok (.getfield idx, 3)) (hF : FL own idx 9 k) (hk : mk k ≠ 0) (kk : V cc own nL R D K (pc + 3) lv (.ref (ad.1 k) :: st) G n) : V cc own nL R D K pc lv (.ref m :: st) G n := by
  obtain ⟨T, N, I, J, E, Rf⟩ := G
  exact v_getR hd hF (lay9r hk) hG.1.1 (hG.1.2.2.1 k hk).1 kk
theorem vm_putI {cc : ByteArray} {own : String} {nL : Nat} {R : Room} {D : DT} {K : KT} {pc : Nat} {lv : LV} {st : List Value} {G : GT} {n : Nat × Nat} {m : Nat} {ad : AdT} {s : SG} {idx k : Nat} {x : Int32} (hG : MD m ad s G) (hd : decode cc pc = .ok (.putfield idx, 3)) (hF : FW own idx 9 k .int false) (hk : mk k = 0) (hl : k < 39) (kk : ∀ G', MD m ad (sI s k 0 x) G' → V cc own nL R D K (pc + 3) lv st G' n) : V cc own nL R D K pc lv (.int x :: .ref m :: st) G n := by
  obtain ⟨T, N, I, J, E, Rf⟩ := G
  exact v_putI hd hF (lay9 hk hl) (Or.inl rfl) hG.1.1 rfl rfl (kk _ (hG.putI hk x))
theorem vm_iald {cc : ByteArray} {own : String} {nL : Nat} {R : Room} {D : DT} {K : KT} {pc : Nat} {lv : LV} {st : List Value} {G : GT} {n : Nat × Nat} {m : Nat} {ad : AdT} {s : SG} {k j : Nat} {i : Int32} (hG : MD m ad s G) (hd : decode cc pc = .ok (.iaload, 1)) (hk : mk k = 11) (hi : i = nI j) (hj : j < ml k) {x : Int32} (hv : s.1 k j = x) (kk : V cc own nL R D K (pc + 1) lv (.int x :: st) G n) : V cc own nL R D K pc lv (.int i :: .ref (ad.1 k) :: st) G n := by
  obtain ⟨T, N, I, J, E, Rf⟩ := G
  subst hv
  have h0 : mk k ≠ 0 := by omega
  have e : I (ad.1 k) = s.1 k := hG.1.2.2.2.1 k (by omega) (by omega)
  refine v_iald hd ((hG.1.2.2.1 k h0).2.1.trans hk) (hG.1.2.2.1 k h0).2.2 hi hj (ml_le k) ?_
  rw [e]
  exact kk
theorem vm_zald {cc : ByteArray} {own : String} {nL : Nat} {R : Room} {D : DT} {K : KT} {pc : Nat} {lv : LV} {st : List Value} {G : GT} {n : Nat × Nat} {m : Nat} {ad : AdT} {s : SG} {k j : Nat} {i : Int32} (hG : MD m ad s G) (hd : decode cc pc = .ok (.baload, 1)) (hk : mk k = 13) (hi : i = nI j) (hj : j < ml k) {x : Int32} (hv : s.1 k j = x) (kk : V cc own nL R D K (pc + 1) lv (.int x :: st) G n) : V cc own nL R D K pc lv (.int i :: .ref (ad.1 k) :: st) G n := by
  obtain ⟨T, N, I, J, E, Rf⟩ := G
  subst hv
  have h0 : mk k ≠ 0 := by omega
  have e : I (ad.1 k) = s.1 k := hG.1.2.2.2.1 k (by omega) (by omega)
  refine v_zald hd ((hG.1.2.2.1 k h0).2.1.trans hk) (hG.1.2.2.1 k h0).2.2 hi hj (ml_le k) ?_
  rw [e]
  exact kk
theorem vm_lald {cc : ByteArray} {own : String} {nL : Nat} {R : Room} {D : DT} {K : KT} {pc : Nat} {lv : LV} {st : List Value} {G : GT} {n : Nat × Nat} {m : Nat} {ad : AdT} {s : SG} {k j : Nat} {i : Int32} (hG : MD m ad s G) (hd : decode cc pc = .ok (.laload, 1)) (hk : mk k = 12) (hi : i = nI j) (hj : j < ml k) {x : Int64} (hv : s.2 k j = x) (kk : V cc own nL R D K (pc + 1) lv (.long x :: st) G n) : V cc own nL R D K pc lv (.int i :: .ref (ad.1 k) :: st) G n := by
  obtain ⟨T, N, I, J, E, Rf⟩ := G
  subst hv
  have h0 : mk k ≠ 0 := by omega
  have e : J (ad.1 k) = s.2 k := hG.1.2.2.2.2.1 k hk
  refine v_lald hd ((hG.1.2.2.1 k h0).2.1.trans hk) (hG.1.2.2.1 k h0).2.2 hi hj (ml_le k) ?_
  rw [e]
  exact kk
theorem vm_iast {cc : ByteArray} {own : String} {nL : Nat} {R : Room} {D : DT} {K : KT} {pc : Nat} {lv : LV} {st : List Value} {G : GT} {n : Nat × Nat} {m : Nat} {ad : AdT} {s : SG} {k j : Nat} {i : Int32} {x : Int32} (hG : MD m ad s G) (hd : decode cc pc = .ok (.iastore, 1)) (hk : mk k = 11) (hi : i = nI j) (hj : j < ml k) (kk : ∀ G', MD m ad (sI s k j x) G' → V cc own nL R D K (pc + 1) lv st G' n) : V cc own nL R D K pc lv (.int x :: .int i :: .ref (ad.1 k) :: st) G n := by
  obtain ⟨T, N, I, J, E, Rf⟩ := G
  have h0 : mk k ≠ 0 := by omega
  exact v_iast hd ((hG.1.2.2.1 k h0).2.1.trans hk) (hG.1.2.2.1 k h0).2.2 hi hj (ml_le k) (kk _ (hG.putA (by omega) (by omega) j x))
theorem vm_zast {cc : ByteArray} {own : String} {nL : Nat} {R : Room} {D : DT} {K : KT} {pc : Nat} {lv : LV} {st : List Value} {G : GT} {n : Nat × Nat} {m : Nat} {ad : AdT} {s : SG} {k j : Nat} {i : Int32} {x : Int32} (hG : MD m ad s G) (hd : decode cc pc = .ok (.bastore, 1)) (hk : mk k = 13) (hi : i = nI j) (hj : j < ml k) (hx : vp_nar .boolean x = x) (kk : ∀ G', MD m ad (sI s k j x) G' → V cc own nL R D K (pc + 1) lv st G' n) : V cc own nL R D K pc lv (.int x :: .int i :: .ref (ad.1 k) :: st) G n := by
  obtain ⟨T, N, I, J, E, Rf⟩ := G
  have h0 : mk k ≠ 0 := by omega
  exact v_zast hd ((hG.1.2.2.1 k h0).2.1.trans hk) (hG.1.2.2.1 k h0).2.2 hi hj (ml_le k) hx (kk _ (hG.putA (by omega) (by omega) j x))
theorem vm_last {cc : ByteArray} {own : String} {nL : Nat} {R : Room} {D : DT} {K : KT} {pc : Nat} {lv : LV} {st : List Value} {G : GT} {n : Nat × Nat} {m : Nat} {ad : AdT} {s : SG} {k j : Nat} {i : Int32} {x : Int64} (hG : MD m ad s G) (hd : decode cc pc = .ok (.lastore, 1)) (hk : mk k = 12) (hi : i = nI j) (hj : j < ml k) (kk : ∀ G', MD m ad (sJ s k j x) G' → V cc own nL R D K (pc + 1) lv st G' n) : V cc own nL R D K pc lv (.long x :: .int i :: .ref (ad.1 k) :: st) G n := by
  obtain ⟨T, N, I, J, E, Rf⟩ := G
  have h0 : mk k ≠ 0 := by omega
  exact v_last hd ((hG.1.2.2.1 k h0).2.1.trans hk) (hG.1.2.2.1 k h0).2.2 hi hj (ml_le k) (kk _ (hG.putL hk j x))
/-- a contract of the reference's method: over its state -/
def MM (y : MethodName) (bytes : ByteArray) (maxL : Nat) (ret : Option FieldType) (rm : Room) (D : DT) (As : List Value) (m : Nat) (ad : AdT) (s : SG) (post : Option Value → SG → Prop) : Prop := ∀ G : GT, MD m ad s G → MC y bytes maxL ret rm D As G (fun v G' => ∃ s', MD m ad s' G' ∧ post v s')
def b2i (P : Prop) [Decidable P] : Int32 := if P then 1 else 0
theorem b2i_t {P : Prop} [Decidable P] (h : P) : b2i P = 1 := by simp [b2i, h]
theorem b2i_f {P : Prop} [Decidable P] (h : ¬ P) : b2i P = 0 := by simp [b2i, h]
theorem b2i_0 {P : Prop} [Decidable P] : b2i P = 0 ↔ ¬ P := by
  by_cases h : P <;> simp [b2i, h]
theorem b2i_1 {P : Prop} [Decidable P] : b2i P = 1 ↔ P := by
  by_cases h : P <;> simp [b2i, h]
theorem b2i_nar {P : Prop} [Decidable P] : narrow .boolean (.int (b2i P)) = .int (b2i P) := by
  by_cases h : P <;> simp [b2i, h] <;> rfl
theorem b2i_vnar {P : Prop} [Decidable P] : vp_nar .boolean (b2i P) = b2i P := by
  by_cases h : P <;> simp [b2i, h] <;> rfl
abbrev btw (v a b : Int32) : Prop := a ≤ v ∧ v ≤ b
theorem v_callV0 {cc : ByteArray} {own : String} {nL : Nat} {R : Room} {D : DT} {K : KT} {pc : Nat} {lv : LV} {st : List Value} {G : GT} {n : Nat × Nat} {idx maxL : Nat} {y : MethodName} {bytes : ByteArray} {ret : Option FieldType} {rm : Room} {b ci : Nat} {T0 : u_T} {N0 : Nat} {post : Option Value → GT → Prop} (n' : Nat × Nat) (hd : decode cc pc = .ok (.invokevirtual idx, 3)) (hC : CWm own idx y bytes maxL ret 0) (hi : Cond.instanceMethod y ∈ lw_all) (hsel : Cond.selects y.cls y y ∈ lw_all) (hM : MC y bytes maxL ret rm D (.ref b :: []) G post) (hT : G.1 b = ci + 1) (hci : cls[ci]? = some (y.cls, T0, N0)) (hrest : (st.map fun v => v.category).sum ≤ 8) (hR : rm.frames + 1 ≤ R.frames ∧ 8 + (maxL + 11) + rm.locals ≤ R.locals) (hn : n.1 + rm.cells ≤ R.cells ∧ n.2 + rm.slots ≤ R.slots) (hn' : (n.1 + rm.cells, n.2 + rm.slots) = n') (kk : ∀ (v : Option Value) (G' : GT), post v G' → V cc own nL R D K (pc + 3) lv (vst v st) G' n') : V cc own nL R D K pc lv (.ref b :: st) G n := by
  subst hn'
  exact v_callV (As := []) (rest := st) hd hC hi hsel hM hT hci rfl rfl hrest hR hn kk
theorem vm_callV0 {cc : ByteArray} {own : String} {nL : Nat} {R : Room} {D : DT} {K : KT} {pc : Nat} {lv : LV} {st : List Value} {G : GT} {n : Nat × Nat} {m : Nat} {ad : AdT} {s : SG} {idx maxL : Nat} {y : MethodName} {bytes : ByteArray} {ret : Option FieldType} {rm : Room} {post : Option Value → SG → Prop} (n' : Nat × Nat) (hG : MD m ad s G) (hd : decode cc pc = .ok (.invokevirtual idx, 3)) (hC : CWm own idx y bytes maxL ret 0) (hi : Cond.instanceMethod y ∈ lw_all) (hsel : Cond.selects y.cls y y ∈ lw_all) (hM : MM y bytes maxL ret rm D (.ref m :: []) m ad s post) (hci : y.cls = RX9) (hrest : (st.map fun v => v.category).sum ≤ 8) (hR : rm.frames + 1 ≤ R.frames ∧ 8 + (maxL + 11) + rm.locals ≤ R.locals) (hn : n.1 + rm.cells ≤ R.cells ∧ n.2 + rm.slots ≤ R.slots) (hn' : (n.1 + rm.cells, n.2 + rm.slots) = n') (kk : ∀ (v : Option Value) (s' : SG) (G' : GT), post v s' → MD m ad s' G' → V cc own nL R D K (pc + 3) lv (vst v st) G' n') : V cc own nL R D K pc lv (.ref m :: st) G n :=
  v_callV0 n' hd hC hi hsel (hM G hG) hG.1.1 (ci := 9) (T0 := TX9) (N0 := 39) (by rw [hci]; rfl) hrest hR hn hn' (fun v G' hp => hp.elim (fun s' h => kk v s' G' h.2 h.1))
theorem v_callV1 {cc : ByteArray} {own : String} {nL : Nat} {R : Room} {D : DT} {K : KT} {pc : Nat} {lv : LV} {st : List Value} {G : GT} {n : Nat × Nat} {idx maxL : Nat} {y : MethodName} {bytes : ByteArray} {ret : Option FieldType} {rm : Room} {a0 : Value} {b ci : Nat} {T0 : u_T} {N0 : Nat} {post : Option Value → GT → Prop} (n' : Nat × Nat) (hd : decode cc pc = .ok (.invokevirtual idx, 3)) (hC : CWm own idx y bytes maxL ret 1) (hi : Cond.instanceMethod y ∈ lw_all) (hsel : Cond.selects y.cls y y ∈ lw_all) (hM : MC y bytes maxL ret rm D (.ref b :: [a0]) G post) (hT : G.1 b = ci + 1) (hci : cls[ci]? = some (y.cls, T0, N0)) (hrest : (st.map fun v => v.category).sum ≤ 8) (hR : rm.frames + 1 ≤ R.frames ∧ 8 + (maxL + 11) + rm.locals ≤ R.locals) (hn : n.1 + rm.cells ≤ R.cells ∧ n.2 + rm.slots ≤ R.slots) (hn' : (n.1 + rm.cells, n.2 + rm.slots) = n') (kk : ∀ (v : Option Value) (G' : GT), post v G' → V cc own nL R D K (pc + 3) lv (vst v st) G' n') : V cc own nL R D K pc lv (a0 :: .ref b :: st) G n := by
  subst hn'
  exact v_callV (As := [a0]) (rest := st) hd hC hi hsel hM hT hci rfl rfl hrest hR hn kk
theorem vm_callV1 {cc : ByteArray} {own : String} {nL : Nat} {R : Room} {D : DT} {K : KT} {pc : Nat} {lv : LV} {st : List Value} {G : GT} {n : Nat × Nat} {m : Nat} {ad : AdT} {s : SG} {idx maxL : Nat} {y : MethodName} {bytes : ByteArray} {ret : Option FieldType} {rm : Room} {a0 : Value} {post : Option Value → SG → Prop} (n' : Nat × Nat) (hG : MD m ad s G) (hd : decode cc pc = .ok (.invokevirtual idx, 3)) (hC : CWm own idx y bytes maxL ret 1) (hi : Cond.instanceMethod y ∈ lw_all) (hsel : Cond.selects y.cls y y ∈ lw_all) (hM : MM y bytes maxL ret rm D (.ref m :: [a0]) m ad s post) (hci : y.cls = RX9) (hrest : (st.map fun v => v.category).sum ≤ 8) (hR : rm.frames + 1 ≤ R.frames ∧ 8 + (maxL + 11) + rm.locals ≤ R.locals) (hn : n.1 + rm.cells ≤ R.cells ∧ n.2 + rm.slots ≤ R.slots) (hn' : (n.1 + rm.cells, n.2 + rm.slots) = n') (kk : ∀ (v : Option Value) (s' : SG) (G' : GT), post v s' → MD m ad s' G' → V cc own nL R D K (pc + 3) lv (vst v st) G' n') : V cc own nL R D K pc lv (a0 :: .ref m :: st) G n :=
  v_callV1 n' hd hC hi hsel (hM G hG) hG.1.1 (ci := 9) (T0 := TX9) (N0 := 39) (by rw [hci]; rfl) hrest hR hn hn' (fun v G' hp => hp.elim (fun s' h => kk v s' G' h.2 h.1))
theorem v_callV2 {cc : ByteArray} {own : String} {nL : Nat} {R : Room} {D : DT} {K : KT} {pc : Nat} {lv : LV} {st : List Value} {G : GT} {n : Nat × Nat} {idx maxL : Nat} {y : MethodName} {bytes : ByteArray} {ret : Option FieldType} {rm : Room} {a0 a1 : Value} {b ci : Nat} {T0 : u_T} {N0 : Nat} {post : Option Value → GT → Prop} (n' : Nat × Nat) (hd : decode cc pc = .ok (.invokevirtual idx, 3)) (hC : CWm own idx y bytes maxL ret 2) (hi : Cond.instanceMethod y ∈ lw_all) (hsel : Cond.selects y.cls y y ∈ lw_all) (hM : MC y bytes maxL ret rm D (.ref b :: [a0, a1]) G post) (hT : G.1 b = ci + 1) (hci : cls[ci]? = some (y.cls, T0, N0)) (hrest : (st.map fun v => v.category).sum ≤ 8) (hR : rm.frames + 1 ≤ R.frames ∧ 8 + (maxL + 11) + rm.locals ≤ R.locals) (hn : n.1 + rm.cells ≤ R.cells ∧ n.2 + rm.slots ≤ R.slots) (hn' : (n.1 + rm.cells, n.2 + rm.slots) = n') (kk : ∀ (v : Option Value) (G' : GT), post v G' → V cc own nL R D K (pc + 3) lv (vst v st) G' n') : V cc own nL R D K pc lv (a1 :: a0 :: .ref b :: st) G n := by
  subst hn'
  exact v_callV (As := [a0, a1]) (rest := st) hd hC hi hsel hM hT hci rfl rfl hrest hR hn kk
theorem vm_callV2 {cc : ByteArray} {own : String} {nL : Nat} {R : Room} {D : DT} {K : KT} {pc : Nat} {lv : LV} {st : List Value} {G : GT} {n : Nat × Nat} {m : Nat} {ad : AdT} {s : SG} {idx maxL : Nat} {y : MethodName} {bytes : ByteArray} {ret : Option FieldType} {rm : Room} {a0 a1 : Value} {post : Option Value → SG → Prop} (n' : Nat × Nat) (hG : MD m ad s G) (hd : decode cc pc = .ok (.invokevirtual idx, 3)) (hC : CWm own idx y bytes maxL ret 2) (hi : Cond.instanceMethod y ∈ lw_all) (hsel : Cond.selects y.cls y y ∈ lw_all) (hM : MM y bytes maxL ret rm D (.ref m :: [a0, a1]) m ad s post) (hci : y.cls = RX9) (hrest : (st.map fun v => v.category).sum ≤ 8) (hR : rm.frames + 1 ≤ R.frames ∧ 8 + (maxL + 11) + rm.locals ≤ R.locals) (hn : n.1 + rm.cells ≤ R.cells ∧ n.2 + rm.slots ≤ R.slots) (hn' : (n.1 + rm.cells, n.2 + rm.slots) = n') (kk : ∀ (v : Option Value) (s' : SG) (G' : GT), post v s' → MD m ad s' G' → V cc own nL R D K (pc + 3) lv (vst v st) G' n') : V cc own nL R D K pc lv (a1 :: a0 :: .ref m :: st) G n :=
  v_callV2 n' hd hC hi hsel (hM G hG) hG.1.1 (ci := 9) (T0 := TX9) (N0 := 39) (by rw [hci]; rfl) hrest hR hn hn' (fun v G' hp => hp.elim (fun s' h => kk v s' G' h.2 h.1))
theorem v_callV3 {cc : ByteArray} {own : String} {nL : Nat} {R : Room} {D : DT} {K : KT} {pc : Nat} {lv : LV} {st : List Value} {G : GT} {n : Nat × Nat} {idx maxL : Nat} {y : MethodName} {bytes : ByteArray} {ret : Option FieldType} {rm : Room} {a0 a1 a2 : Value} {b ci : Nat} {T0 : u_T} {N0 : Nat} {post : Option Value → GT → Prop} (n' : Nat × Nat) (hd : decode cc pc = .ok (.invokevirtual idx, 3)) (hC : CWm own idx y bytes maxL ret 3) (hi : Cond.instanceMethod y ∈ lw_all) (hsel : Cond.selects y.cls y y ∈ lw_all) (hM : MC y bytes maxL ret rm D (.ref b :: [a0, a1, a2]) G post) (hT : G.1 b = ci + 1) (hci : cls[ci]? = some (y.cls, T0, N0)) (hrest : (st.map fun v => v.category).sum ≤ 8) (hR : rm.frames + 1 ≤ R.frames ∧ 8 + (maxL + 11) + rm.locals ≤ R.locals) (hn : n.1 + rm.cells ≤ R.cells ∧ n.2 + rm.slots ≤ R.slots) (hn' : (n.1 + rm.cells, n.2 + rm.slots) = n') (kk : ∀ (v : Option Value) (G' : GT), post v G' → V cc own nL R D K (pc + 3) lv (vst v st) G' n') : V cc own nL R D K pc lv (a2 :: a1 :: a0 :: .ref b :: st) G n := by
  subst hn'
  exact v_callV (As := [a0, a1, a2]) (rest := st) hd hC hi hsel hM hT hci rfl rfl hrest hR hn kk
theorem vm_callV3 {cc : ByteArray} {own : String} {nL : Nat} {R : Room} {D : DT} {K : KT} {pc : Nat} {lv : LV} {st : List Value} {G : GT} {n : Nat × Nat} {m : Nat} {ad : AdT} {s : SG} {idx maxL : Nat} {y : MethodName} {bytes : ByteArray} {ret : Option FieldType} {rm : Room} {a0 a1 a2 : Value} {post : Option Value → SG → Prop} (n' : Nat × Nat) (hG : MD m ad s G) (hd : decode cc pc = .ok (.invokevirtual idx, 3)) (hC : CWm own idx y bytes maxL ret 3) (hi : Cond.instanceMethod y ∈ lw_all) (hsel : Cond.selects y.cls y y ∈ lw_all) (hM : MM y bytes maxL ret rm D (.ref m :: [a0, a1, a2]) m ad s post) (hci : y.cls = RX9) (hrest : (st.map fun v => v.category).sum ≤ 8) (hR : rm.frames + 1 ≤ R.frames ∧ 8 + (maxL + 11) + rm.locals ≤ R.locals) (hn : n.1 + rm.cells ≤ R.cells ∧ n.2 + rm.slots ≤ R.slots) (hn' : (n.1 + rm.cells, n.2 + rm.slots) = n') (kk : ∀ (v : Option Value) (s' : SG) (G' : GT), post v s' → MD m ad s' G' → V cc own nL R D K (pc + 3) lv (vst v st) G' n') : V cc own nL R D K pc lv (a2 :: a1 :: a0 :: .ref m :: st) G n :=
  v_callV3 n' hd hC hi hsel (hM G hG) hG.1.1 (ci := 9) (T0 := TX9) (N0 := 39) (by rw [hci]; rfl) hrest hR hn hn' (fun v G' hp => hp.elim (fun s' h => kk v s' G' h.2 h.1))
theorem v_callV4 {cc : ByteArray} {own : String} {nL : Nat} {R : Room} {D : DT} {K : KT} {pc : Nat} {lv : LV} {st : List Value} {G : GT} {n : Nat × Nat} {idx maxL : Nat} {y : MethodName} {bytes : ByteArray} {ret : Option FieldType} {rm : Room} {a0 a1 a2 a3 : Value} {b ci : Nat} {T0 : u_T} {N0 : Nat} {post : Option Value → GT → Prop} (n' : Nat × Nat) (hd : decode cc pc = .ok (.invokevirtual idx, 3)) (hC : CWm own idx y bytes maxL ret 4) (hi : Cond.instanceMethod y ∈ lw_all) (hsel : Cond.selects y.cls y y ∈ lw_all) (hM : MC y bytes maxL ret rm D (.ref b :: [a0, a1, a2, a3]) G post) (hT : G.1 b = ci + 1) (hci : cls[ci]? = some (y.cls, T0, N0)) (hrest : (st.map fun v => v.category).sum ≤ 8) (hR : rm.frames + 1 ≤ R.frames ∧ 8 + (maxL + 11) + rm.locals ≤ R.locals) (hn : n.1 + rm.cells ≤ R.cells ∧ n.2 + rm.slots ≤ R.slots) (hn' : (n.1 + rm.cells, n.2 + rm.slots) = n') (kk : ∀ (v : Option Value) (G' : GT), post v G' → V cc own nL R D K (pc + 3) lv (vst v st) G' n') : V cc own nL R D K pc lv (a3 :: a2 :: a1 :: a0 :: .ref b :: st) G n := by
  subst hn'
  exact v_callV (As := [a0, a1, a2, a3]) (rest := st) hd hC hi hsel hM hT hci rfl rfl hrest hR hn kk
theorem vm_callV4 {cc : ByteArray} {own : String} {nL : Nat} {R : Room} {D : DT} {K : KT} {pc : Nat} {lv : LV} {st : List Value} {G : GT} {n : Nat × Nat} {m : Nat} {ad : AdT} {s : SG} {idx maxL : Nat} {y : MethodName} {bytes : ByteArray} {ret : Option FieldType} {rm : Room} {a0 a1 a2 a3 : Value} {post : Option Value → SG → Prop} (n' : Nat × Nat) (hG : MD m ad s G) (hd : decode cc pc = .ok (.invokevirtual idx, 3)) (hC : CWm own idx y bytes maxL ret 4) (hi : Cond.instanceMethod y ∈ lw_all) (hsel : Cond.selects y.cls y y ∈ lw_all) (hM : MM y bytes maxL ret rm D (.ref m :: [a0, a1, a2, a3]) m ad s post) (hci : y.cls = RX9) (hrest : (st.map fun v => v.category).sum ≤ 8) (hR : rm.frames + 1 ≤ R.frames ∧ 8 + (maxL + 11) + rm.locals ≤ R.locals) (hn : n.1 + rm.cells ≤ R.cells ∧ n.2 + rm.slots ≤ R.slots) (hn' : (n.1 + rm.cells, n.2 + rm.slots) = n') (kk : ∀ (v : Option Value) (s' : SG) (G' : GT), post v s' → MD m ad s' G' → V cc own nL R D K (pc + 3) lv (vst v st) G' n') : V cc own nL R D K pc lv (a3 :: a2 :: a1 :: a0 :: .ref m :: st) G n :=
  v_callV4 n' hd hC hi hsel (hM G hG) hG.1.1 (ci := 9) (T0 := TX9) (N0 := 39) (by rw [hci]; rfl) hrest hR hn hn' (fun v G' hp => hp.elim (fun s' h => kk v s' G' h.2 h.1))
theorem v_callS0 {cc : ByteArray} {own : String} {nL : Nat} {R : Room} {D : DT} {K : KT} {pc : Nat} {lv : LV} {st : List Value} {G : GT} {n : Nat × Nat} {idx maxL : Nat} {y : MethodName} {bytes : ByteArray} {ret : Option FieldType} {rm : Room} {post : Option Value → GT → Prop} (n' : Nat × Nat) (hd : decode cc pc = .ok (.invokestatic idx, 3)) (hC : CWm own idx y bytes maxL ret 0) (hi : Cond.static y ∈ lw_all) (hM : MC y bytes maxL ret rm D [] G post) (hrest : (st.map fun v => v.category).sum ≤ 8) (hR : rm.frames + 1 ≤ R.frames ∧ 8 + (maxL + 11) + rm.locals ≤ R.locals) (hn : n.1 + rm.cells ≤ R.cells ∧ n.2 + rm.slots ≤ R.slots) (hn' : (n.1 + rm.cells, n.2 + rm.slots) = n') (kk : ∀ (v : Option Value) (G' : GT), post v G' → V cc own nL R D K (pc + 3) lv (vst v st) G' n') : V cc own nL R D K pc lv (st) G n := by
  subst hn'
  exact v_callS (As := []) (rest := st) hd hC hi hM rfl rfl hrest hR hn kk
theorem vm_callS0 {cc : ByteArray} {own : String} {nL : Nat} {R : Room} {D : DT} {K : KT} {pc : Nat} {lv : LV} {st : List Value} {G : GT} {n : Nat × Nat} {m : Nat} {ad : AdT} {s : SG} {idx maxL : Nat} {y : MethodName} {bytes : ByteArray} {ret : Option FieldType} {rm : Room} {post : Option Value → SG → Prop} (n' : Nat × Nat) (hG : MD m ad s G) (hd : decode cc pc = .ok (.invokestatic idx, 3)) (hC : CWm own idx y bytes maxL ret 0) (hi : Cond.static y ∈ lw_all) (hM : MM y bytes maxL ret rm D [] m ad s post) (hrest : (st.map fun v => v.category).sum ≤ 8) (hR : rm.frames + 1 ≤ R.frames ∧ 8 + (maxL + 11) + rm.locals ≤ R.locals) (hn : n.1 + rm.cells ≤ R.cells ∧ n.2 + rm.slots ≤ R.slots) (hn' : (n.1 + rm.cells, n.2 + rm.slots) = n') (kk : ∀ (v : Option Value) (s' : SG) (G' : GT), post v s' → MD m ad s' G' → V cc own nL R D K (pc + 3) lv (vst v st) G' n') : V cc own nL R D K pc lv (st) G n :=
  v_callS0 n' hd hC hi (hM G hG) hrest hR hn hn' (fun v G' hp => hp.elim (fun s' h => kk v s' G' h.2 h.1))
theorem v_callS1 {cc : ByteArray} {own : String} {nL : Nat} {R : Room} {D : DT} {K : KT} {pc : Nat} {lv : LV} {st : List Value} {G : GT} {n : Nat × Nat} {idx maxL : Nat} {y : MethodName} {bytes : ByteArray} {ret : Option FieldType} {rm : Room} {a0 : Value} {post : Option Value → GT → Prop} (n' : Nat × Nat) (hd : decode cc pc = .ok (.invokestatic idx, 3)) (hC : CWm own idx y bytes maxL ret 1) (hi : Cond.static y ∈ lw_all) (hM : MC y bytes maxL ret rm D [a0] G post) (hrest : (st.map fun v => v.category).sum ≤ 8) (hR : rm.frames + 1 ≤ R.frames ∧ 8 + (maxL + 11) + rm.locals ≤ R.locals) (hn : n.1 + rm.cells ≤ R.cells ∧ n.2 + rm.slots ≤ R.slots) (hn' : (n.1 + rm.cells, n.2 + rm.slots) = n') (kk : ∀ (v : Option Value) (G' : GT), post v G' → V cc own nL R D K (pc + 3) lv (vst v st) G' n') : V cc own nL R D K pc lv (a0 :: st) G n := by
  subst hn'
  exact v_callS (As := [a0]) (rest := st) hd hC hi hM rfl rfl hrest hR hn kk
theorem vm_callS1 {cc : ByteArray} {own : String} {nL : Nat} {R : Room} {D : DT} {K : KT} {pc : Nat} {lv : LV} {st : List Value} {G : GT} {n : Nat × Nat} {m : Nat} {ad : AdT} {s : SG} {idx maxL : Nat} {y : MethodName} {bytes : ByteArray} {ret : Option FieldType} {rm : Room} {a0 : Value} {post : Option Value → SG → Prop} (n' : Nat × Nat) (hG : MD m ad s G) (hd : decode cc pc = .ok (.invokestatic idx, 3)) (hC : CWm own idx y bytes maxL ret 1) (hi : Cond.static y ∈ lw_all) (hM : MM y bytes maxL ret rm D [a0] m ad s post) (hrest : (st.map fun v => v.category).sum ≤ 8) (hR : rm.frames + 1 ≤ R.frames ∧ 8 + (maxL + 11) + rm.locals ≤ R.locals) (hn : n.1 + rm.cells ≤ R.cells ∧ n.2 + rm.slots ≤ R.slots) (hn' : (n.1 + rm.cells, n.2 + rm.slots) = n') (kk : ∀ (v : Option Value) (s' : SG) (G' : GT), post v s' → MD m ad s' G' → V cc own nL R D K (pc + 3) lv (vst v st) G' n') : V cc own nL R D K pc lv (a0 :: st) G n :=
  v_callS1 n' hd hC hi (hM G hG) hrest hR hn hn' (fun v G' hp => hp.elim (fun s' h => kk v s' G' h.2 h.1))
theorem v_callS2 {cc : ByteArray} {own : String} {nL : Nat} {R : Room} {D : DT} {K : KT} {pc : Nat} {lv : LV} {st : List Value} {G : GT} {n : Nat × Nat} {idx maxL : Nat} {y : MethodName} {bytes : ByteArray} {ret : Option FieldType} {rm : Room} {a0 a1 : Value} {post : Option Value → GT → Prop} (n' : Nat × Nat) (hd : decode cc pc = .ok (.invokestatic idx, 3)) (hC : CWm own idx y bytes maxL ret 2) (hi : Cond.static y ∈ lw_all) (hM : MC y bytes maxL ret rm D [a0, a1] G post) (hrest : (st.map fun v => v.category).sum ≤ 8) (hR : rm.frames + 1 ≤ R.frames ∧ 8 + (maxL + 11) + rm.locals ≤ R.locals) (hn : n.1 + rm.cells ≤ R.cells ∧ n.2 + rm.slots ≤ R.slots) (hn' : (n.1 + rm.cells, n.2 + rm.slots) = n') (kk : ∀ (v : Option Value) (G' : GT), post v G' → V cc own nL R D K (pc + 3) lv (vst v st) G' n') : V cc own nL R D K pc lv (a1 :: a0 :: st) G n := by
  subst hn'
  exact v_callS (As := [a0, a1]) (rest := st) hd hC hi hM rfl rfl hrest hR hn kk
theorem vm_callS2 {cc : ByteArray} {own : String} {nL : Nat} {R : Room} {D : DT} {K : KT} {pc : Nat} {lv : LV} {st : List Value} {G : GT} {n : Nat × Nat} {m : Nat} {ad : AdT} {s : SG} {idx maxL : Nat} {y : MethodName} {bytes : ByteArray} {ret : Option FieldType} {rm : Room} {a0 a1 : Value} {post : Option Value → SG → Prop} (n' : Nat × Nat) (hG : MD m ad s G) (hd : decode cc pc = .ok (.invokestatic idx, 3)) (hC : CWm own idx y bytes maxL ret 2) (hi : Cond.static y ∈ lw_all) (hM : MM y bytes maxL ret rm D [a0, a1] m ad s post) (hrest : (st.map fun v => v.category).sum ≤ 8) (hR : rm.frames + 1 ≤ R.frames ∧ 8 + (maxL + 11) + rm.locals ≤ R.locals) (hn : n.1 + rm.cells ≤ R.cells ∧ n.2 + rm.slots ≤ R.slots) (hn' : (n.1 + rm.cells, n.2 + rm.slots) = n') (kk : ∀ (v : Option Value) (s' : SG) (G' : GT), post v s' → MD m ad s' G' → V cc own nL R D K (pc + 3) lv (vst v st) G' n') : V cc own nL R D K pc lv (a1 :: a0 :: st) G n :=
  v_callS2 n' hd hC hi (hM G hG) hrest hR hn hn' (fun v G' hp => hp.elim (fun s' h => kk v s' G' h.2 h.1))
theorem v_callS3 {cc : ByteArray} {own : String} {nL : Nat} {R : Room} {D : DT} {K : KT} {pc : Nat} {lv : LV} {st : List Value} {G : GT} {n : Nat × Nat} {idx maxL : Nat} {y : MethodName} {bytes : ByteArray} {ret : Option FieldType} {rm : Room} {a0 a1 a2 : Value} {post : Option Value → GT → Prop} (n' : Nat × Nat) (hd : decode cc pc = .ok (.invokestatic idx, 3)) (hC : CWm own idx y bytes maxL ret 3) (hi : Cond.static y ∈ lw_all) (hM : MC y bytes maxL ret rm D [a0, a1, a2] G post) (hrest : (st.map fun v => v.category).sum ≤ 8) (hR : rm.frames + 1 ≤ R.frames ∧ 8 + (maxL + 11) + rm.locals ≤ R.locals) (hn : n.1 + rm.cells ≤ R.cells ∧ n.2 + rm.slots ≤ R.slots) (hn' : (n.1 + rm.cells, n.2 + rm.slots) = n') (kk : ∀ (v : Option Value) (G' : GT), post v G' → V cc own nL R D K (pc + 3) lv (vst v st) G' n') : V cc own nL R D K pc lv (a2 :: a1 :: a0 :: st) G n := by
  subst hn'
  exact v_callS (As := [a0, a1, a2]) (rest := st) hd hC hi hM rfl rfl hrest hR hn kk
theorem vm_callS3 {cc : ByteArray} {own : String} {nL : Nat} {R : Room} {D : DT} {K : KT} {pc : Nat} {lv : LV} {st : List Value} {G : GT} {n : Nat × Nat} {m : Nat} {ad : AdT} {s : SG} {idx maxL : Nat} {y : MethodName} {bytes : ByteArray} {ret : Option FieldType} {rm : Room} {a0 a1 a2 : Value} {post : Option Value → SG → Prop} (n' : Nat × Nat) (hG : MD m ad s G) (hd : decode cc pc = .ok (.invokestatic idx, 3)) (hC : CWm own idx y bytes maxL ret 3) (hi : Cond.static y ∈ lw_all) (hM : MM y bytes maxL ret rm D [a0, a1, a2] m ad s post) (hrest : (st.map fun v => v.category).sum ≤ 8) (hR : rm.frames + 1 ≤ R.frames ∧ 8 + (maxL + 11) + rm.locals ≤ R.locals) (hn : n.1 + rm.cells ≤ R.cells ∧ n.2 + rm.slots ≤ R.slots) (hn' : (n.1 + rm.cells, n.2 + rm.slots) = n') (kk : ∀ (v : Option Value) (s' : SG) (G' : GT), post v s' → MD m ad s' G' → V cc own nL R D K (pc + 3) lv (vst v st) G' n') : V cc own nL R D K pc lv (a2 :: a1 :: a0 :: st) G n :=
  v_callS3 n' hd hC hi (hM G hG) hrest hR hn hn' (fun v G' hp => hp.elim (fun s' h => kk v s' G' h.2 h.1))
theorem v_callS4 {cc : ByteArray} {own : String} {nL : Nat} {R : Room} {D : DT} {K : KT} {pc : Nat} {lv : LV} {st : List Value} {G : GT} {n : Nat × Nat} {idx maxL : Nat} {y : MethodName} {bytes : ByteArray} {ret : Option FieldType} {rm : Room} {a0 a1 a2 a3 : Value} {post : Option Value → GT → Prop} (n' : Nat × Nat) (hd : decode cc pc = .ok (.invokestatic idx, 3)) (hC : CWm own idx y bytes maxL ret 4) (hi : Cond.static y ∈ lw_all) (hM : MC y bytes maxL ret rm D [a0, a1, a2, a3] G post) (hrest : (st.map fun v => v.category).sum ≤ 8) (hR : rm.frames + 1 ≤ R.frames ∧ 8 + (maxL + 11) + rm.locals ≤ R.locals) (hn : n.1 + rm.cells ≤ R.cells ∧ n.2 + rm.slots ≤ R.slots) (hn' : (n.1 + rm.cells, n.2 + rm.slots) = n') (kk : ∀ (v : Option Value) (G' : GT), post v G' → V cc own nL R D K (pc + 3) lv (vst v st) G' n') : V cc own nL R D K pc lv (a3 :: a2 :: a1 :: a0 :: st) G n := by
  subst hn'
  exact v_callS (As := [a0, a1, a2, a3]) (rest := st) hd hC hi hM rfl rfl hrest hR hn kk
theorem vm_callS4 {cc : ByteArray} {own : String} {nL : Nat} {R : Room} {D : DT} {K : KT} {pc : Nat} {lv : LV} {st : List Value} {G : GT} {n : Nat × Nat} {m : Nat} {ad : AdT} {s : SG} {idx maxL : Nat} {y : MethodName} {bytes : ByteArray} {ret : Option FieldType} {rm : Room} {a0 a1 a2 a3 : Value} {post : Option Value → SG → Prop} (n' : Nat × Nat) (hG : MD m ad s G) (hd : decode cc pc = .ok (.invokestatic idx, 3)) (hC : CWm own idx y bytes maxL ret 4) (hi : Cond.static y ∈ lw_all) (hM : MM y bytes maxL ret rm D [a0, a1, a2, a3] m ad s post) (hrest : (st.map fun v => v.category).sum ≤ 8) (hR : rm.frames + 1 ≤ R.frames ∧ 8 + (maxL + 11) + rm.locals ≤ R.locals) (hn : n.1 + rm.cells ≤ R.cells ∧ n.2 + rm.slots ≤ R.slots) (hn' : (n.1 + rm.cells, n.2 + rm.slots) = n') (kk : ∀ (v : Option Value) (s' : SG) (G' : GT), post v s' → MD m ad s' G' → V cc own nL R D K (pc + 3) lv (vst v st) G' n') : V cc own nL R D K pc lv (a3 :: a2 :: a1 :: a0 :: st) G n :=
  v_callS4 n' hd hC hi (hM G hG) hrest hR hn hn' (fun v G' hp => hp.elim (fun s' h => kk v s' G' h.2 h.1))
theorem v_callS5 {cc : ByteArray} {own : String} {nL : Nat} {R : Room} {D : DT} {K : KT} {pc : Nat} {lv : LV} {st : List Value} {G : GT} {n : Nat × Nat} {idx maxL : Nat} {y : MethodName} {bytes : ByteArray} {ret : Option FieldType} {rm : Room} {a0 a1 a2 a3 a4 : Value} {post : Option Value → GT → Prop} (n' : Nat × Nat) (hd : decode cc pc = .ok (.invokestatic idx, 3)) (hC : CWm own idx y bytes maxL ret 5) (hi : Cond.static y ∈ lw_all) (hM : MC y bytes maxL ret rm D [a0, a1, a2, a3, a4] G post) (hrest : (st.map fun v => v.category).sum ≤ 8) (hR : rm.frames + 1 ≤ R.frames ∧ 8 + (maxL + 11) + rm.locals ≤ R.locals) (hn : n.1 + rm.cells ≤ R.cells ∧ n.2 + rm.slots ≤ R.slots) (hn' : (n.1 + rm.cells, n.2 + rm.slots) = n') (kk : ∀ (v : Option Value) (G' : GT), post v G' → V cc own nL R D K (pc + 3) lv (vst v st) G' n') : V cc own nL R D K pc lv (a4 :: a3 :: a2 :: a1 :: a0 :: st) G n := by
  subst hn'
  exact v_callS (As := [a0, a1, a2, a3, a4]) (rest := st) hd hC hi hM rfl rfl hrest hR hn kk
theorem vm_callS5 {cc : ByteArray} {own : String} {nL : Nat} {R : Room} {D : DT} {K : KT} {pc : Nat} {lv : LV} {st : List Value} {G : GT} {n : Nat × Nat} {m : Nat} {ad : AdT} {s : SG} {idx maxL : Nat} {y : MethodName} {bytes : ByteArray} {ret : Option FieldType} {rm : Room} {a0 a1 a2 a3 a4 : Value} {post : Option Value → SG → Prop} (n' : Nat × Nat) (hG : MD m ad s G) (hd : decode cc pc = .ok (.invokestatic idx, 3)) (hC : CWm own idx y bytes maxL ret 5) (hi : Cond.static y ∈ lw_all) (hM : MM y bytes maxL ret rm D [a0, a1, a2, a3, a4] m ad s post) (hrest : (st.map fun v => v.category).sum ≤ 8) (hR : rm.frames + 1 ≤ R.frames ∧ 8 + (maxL + 11) + rm.locals ≤ R.locals) (hn : n.1 + rm.cells ≤ R.cells ∧ n.2 + rm.slots ≤ R.slots) (hn' : (n.1 + rm.cells, n.2 + rm.slots) = n') (kk : ∀ (v : Option Value) (s' : SG) (G' : GT), post v s' → MD m ad s' G' → V cc own nL R D K (pc + 3) lv (vst v st) G' n') : V cc own nL R D K pc lv (a4 :: a3 :: a2 :: a1 :: a0 :: st) G n :=
  v_callS5 n' hd hC hi (hM G hG) hrest hR hn hn' (fun v G' hp => hp.elim (fun s' h => kk v s' G' h.2 h.1))
theorem v_callS6 {cc : ByteArray} {own : String} {nL : Nat} {R : Room} {D : DT} {K : KT} {pc : Nat} {lv : LV} {st : List Value} {G : GT} {n : Nat × Nat} {idx maxL : Nat} {y : MethodName} {bytes : ByteArray} {ret : Option FieldType} {rm : Room} {a0 a1 a2 a3 a4 a5 : Value} {post : Option Value → GT → Prop} (n' : Nat × Nat) (hd : decode cc pc = .ok (.invokestatic idx, 3)) (hC : CWm own idx y bytes maxL ret 6) (hi : Cond.static y ∈ lw_all) (hM : MC y bytes maxL ret rm D [a0, a1, a2, a3, a4, a5] G post) (hrest : (st.map fun v => v.category).sum ≤ 8) (hR : rm.frames + 1 ≤ R.frames ∧ 8 + (maxL + 11) + rm.locals ≤ R.locals) (hn : n.1 + rm.cells ≤ R.cells ∧ n.2 + rm.slots ≤ R.slots) (hn' : (n.1 + rm.cells, n.2 + rm.slots) = n') (kk : ∀ (v : Option Value) (G' : GT), post v G' → V cc own nL R D K (pc + 3) lv (vst v st) G' n') : V cc own nL R D K pc lv (a5 :: a4 :: a3 :: a2 :: a1 :: a0 :: st) G n := by
  subst hn'
  exact v_callS (As := [a0, a1, a2, a3, a4, a5]) (rest := st) hd hC hi hM rfl rfl hrest hR hn kk
theorem vm_callS6 {cc : ByteArray} {own : String} {nL : Nat} {R : Room} {D : DT} {K : KT} {pc : Nat} {lv : LV} {st : List Value} {G : GT} {n : Nat × Nat} {m : Nat} {ad : AdT} {s : SG} {idx maxL : Nat} {y : MethodName} {bytes : ByteArray} {ret : Option FieldType} {rm : Room} {a0 a1 a2 a3 a4 a5 : Value} {post : Option Value → SG → Prop} (n' : Nat × Nat) (hG : MD m ad s G) (hd : decode cc pc = .ok (.invokestatic idx, 3)) (hC : CWm own idx y bytes maxL ret 6) (hi : Cond.static y ∈ lw_all) (hM : MM y bytes maxL ret rm D [a0, a1, a2, a3, a4, a5] m ad s post) (hrest : (st.map fun v => v.category).sum ≤ 8) (hR : rm.frames + 1 ≤ R.frames ∧ 8 + (maxL + 11) + rm.locals ≤ R.locals) (hn : n.1 + rm.cells ≤ R.cells ∧ n.2 + rm.slots ≤ R.slots) (hn' : (n.1 + rm.cells, n.2 + rm.slots) = n') (kk : ∀ (v : Option Value) (s' : SG) (G' : GT), post v s' → MD m ad s' G' → V cc own nL R D K (pc + 3) lv (vst v st) G' n') : V cc own nL R D K pc lv (a5 :: a4 :: a3 :: a2 :: a1 :: a0 :: st) G n :=
  v_callS6 n' hd hC hi (hM G hG) hrest hR hn hn' (fun v G' hp => hp.elim (fun s' h => kk v s' G' h.2 h.1))
