/-! locals: by their index; none where nothing is known -/
abbrev LV : Type := List (Option Value)
def lget (lv : LV) (i : Nat) : Option Value := (lv[i]?).join
def lokb (lv : LV) (i : Nat) : Bool := match i with
  | 0 => true
  | i + 1 => match lget lv i with
    | some w => w.category == 1
    | none => true
def lset (lv : LV) (i : Nat) (v : Value) : LV := lv.set i (some v)
def lset2 (lv : LV) (i : Nat) (v : Value) : LV := (lv.set (i + 1) none).set i (some v)
def lh (ls : Array Slot) (nL : Nat) (lv : LV) : Prop := ls.size = nL ∧ lv_wf ls ∧ ∀ (i : Nat) (v : Value), lget lv i = some v → ls[i]? = some (.val v)
def lprs (lv : LV) : List (Nat × Value) := (List.range lv.length).filterMap (fun i => (lget lv i).map (fun v => (i, v)))
theorem lget_lt {lv : LV} {i : Nat} {v : Value} (h : lget lv i = some v) : i < lv.length := by
  rcases Nat.lt_or_ge i lv.length with q | q
  · exact q
  · simp [lget, List.getElem?_eq_none q] at h
theorem lprs_mem {lv : LV} {i : Nat} {v : Value} : (i, v) ∈ lprs lv ↔ lget lv i = some v := by
  constructor
  · intro h
    obtain ⟨j, -, hj⟩ := List.mem_filterMap.mp h
    cases hg : lget lv j with
    | none => rw [hg] at hj; cases hj
    | some w => rw [hg] at hj; cases hj; exact hg
  · intro h
    exact List.mem_filterMap.mpr ⟨i, List.mem_range.mpr (lget_lt h), by rw [h]; rfl⟩
theorem lh_has {ls : Array Slot} {nL : Nat} {lv : LV} (h : lh ls nL lv) : lv_has ls nL (lprs lv) := ⟨h.1, h.2.1, fun q hq => h.2.2 q.1 q.2 (lprs_mem.mp hq)⟩
theorem lget_set {lv : LV} {i j : Nat} {x : Option Value} {w : Value} (h : lget (lv.set i x) j = some w) : (j = i ∧ x = some w) ∨ (j ≠ i ∧ lget lv j = some w) := by
  by_cases hj : j = i
  · subst hj
    left
    refine ⟨rfl, ?_⟩
    have hl : j < (lv.set j x).length := lget_lt h
    rw [List.length_set] at hl
    simp [lget, List.getElem?_set, hl] at h
    exact h
  · right
    refine ⟨hj, ?_⟩
    have e : (lv.set i x)[j]? = lv[j]? := List.getElem?_set_ne (fun q => hj q.symm)
    simpa only [lget, e] using h
theorem lokb_ne {lv : LV} {i j : Nat} {w : Value} (ho : lokb lv i = true) (h : lget lv j = some w) : ¬ (j + 1 = i ∧ w.category = 2) := by
  intro q
  obtain ⟨q1, q2⟩ := q
  subst q1
  simp [lokb, h, q2] at ho
theorem lh_set {ls ls' : Array Slot} {nL i : Nat} {lv : LV} {v : Value} (ho : lokb lv i = true) (h : lv_has ls' nL ((i, v) :: (lprs lv).filter (fun q => !(q.1 == i) && !(q.1 + 1 == i && q.2.category == 2)))) : lh ls' nL (lset lv i v) := by
  refine ⟨h.1, h.2.1, fun j w hw => ?_⟩
  rcases lget_set hw with ⟨rfl, h2⟩ | ⟨h1, h2⟩
  · cases h2
    exact h.2.2 (j, v) List.mem_cons_self
  · refine h.2.2 (j, w) (List.mem_cons_of_mem _ (List.mem_filter.mpr ⟨lprs_mem.mpr h2, ?_⟩))
    have := lokb_ne ho h2
    simp only [Bool.and_eq_true, Bool.not_eq_true', beq_eq_false_iff_ne, ne_eq, Bool.and_eq_false_imp, beq_iff_eq]
    exact ⟨h1, fun a b => this ⟨a, b⟩⟩
theorem lh_set2 {ls ls' : Array Slot} {nL i : Nat} {lv : LV} {v : Value} (ho : lokb lv i = true) (h : lv_has ls' nL ((i, v) :: (lprs lv).filter (fun q => !(q.1 == i) && (!(q.1 == i + 1) && !(q.1 + 1 == i && q.2.category == 2))))) : lh ls' nL (lset2 lv i v) := by
  refine ⟨h.1, h.2.1, fun j w hw => ?_⟩
  rcases lget_set hw with ⟨rfl, h2⟩ | ⟨h1, h2⟩
  · cases h2
    exact h.2.2 (j, v) List.mem_cons_self
  · rcases lget_set h2 with ⟨_, h4⟩ | ⟨h3, h4⟩
    · cases h4
    · refine h.2.2 (j, w) (List.mem_cons_of_mem _ (List.mem_filter.mpr ⟨lprs_mem.mpr h4, ?_⟩))
      have := lokb_ne ho h4
      simp only [Bool.and_eq_true, Bool.not_eq_true', beq_eq_false_iff_ne, ne_eq, Bool.and_eq_false_imp, beq_iff_eq]
      exact ⟨h1, h3, fun a b => this ⟨a, b⟩⟩
/-- the locals at a method's entry -/
def lent (As : List Value) : LV := match As with
  | [] => []
  | v :: r => if v.category = 2 then some v :: none :: lent r else some v :: lent r
theorem lent_args (As : List Value) : ∀ (o i : Nat) (v : Value), lget (lent As) i = some v → (o + i, v) ∈ lv_args o As := by
  induction As with
  | nil => intro o i v h; simp [lget, lent] at h
  | cons a r ih =>
    intro o i v h
    by_cases hc : a.category = 2
    · simp only [lent, hc, if_true] at h
      simp only [lv_args, hc, if_true]
      match i, h with
      | 0, h => simp [lget] at h; subst h; exact List.mem_cons_self
      | 1, h => simp [lget] at h
      | i + 2, h =>
        have := ih (o + 2) i v (by simpa [lget] using h)
        exact List.mem_cons_of_mem _ (by rw [show o + (i + 2) = o + 2 + i by omega]; exact this)
    · simp only [lent, hc, if_false] at h
      simp only [lv_args, hc, if_false]
      match i, h with
      | 0, h => simp [lget] at h; subst h; exact List.mem_cons_self
      | i + 1, h =>
        have := ih (o + 1) i v (by simpa [lget] using h)
        exact List.mem_cons_of_mem _ (by rw [show o + (i + 1) = o + 1 + i by omega]; exact this)
def lpad (lv : LV) (n : Nat) : LV := lv ++ List.replicate (n - lv.length) none
theorem lget_pad {lv : LV} {n i : Nat} {v : Value} (h : lget (lpad lv n) i = some v) : lget lv i = some v := by
  by_cases hi : i < lv.length
  · have e : (lpad lv n)[i]? = lv[i]? := List.getElem?_append_left hi
    simpa only [lget, e] using h
  · have e : (lpad lv n)[i]? = (List.replicate (n - lv.length) (none : Option Value))[i - lv.length]? := List.getElem?_append_right (by omega)
    simp only [lget, e, List.getElem?_replicate] at h
    split at h <;> simp at h
/-! THE CONTEXT of a walk: a tuple; what holds in it -/
abbrev KT : Type := Program × Launch × Env × State × MethodId × Array Value × List Frame × Method × Code × (Nat → Prop) × (State → Prop)
def V (cc : ByteArray) (own : String) (nL : Nat) (R : Room) (D : DT) (K : KT) (pc : Nat) (lv : LV) (st : List Value) (G : GT) (n : Nat × Nat) : Prop := match K with
  | (p, l, e, s, m, args, below, meth, c, A, Q) =>
    (p.tables.exec = Jvm.exec ∧ c.code = cc ∧ c.maxLocals = nL ∧ s.vm.findClass own = some m.cls ∧ (∀ w ∈ lw_all, w.before args s = true) ∧ va_K D.1 cls (tysL D.2) s ∧ (∀ q : Nat, s.heap.size ≤ q → A q) ∧ meth.locks = false ∧ ES A s s.heap ∧ l.stackTraces = false) →
    ∀ (H : Heap) (locs : List Loc) (ls : Array Slot), wd D G H → (∀ q : Nat, G.1 q ≠ 0 → A q) → va_S A s.heap H locs → lh ls nL lv → W p l e R s m args below meth c H locs n.1 n.2 Q (F0 m pc ls st)

theorem v_iconst {cc : ByteArray} {own : String} {nL : Nat} {R : Room} {D : DT} {K : KT} {pc : Nat} {lv : LV} {st : List Value} {G : GT} {n : Nat × Nat} {i : Int} {v : Int32} (hd : decode cc pc = .ok (.iconst i, 1)) (hv : Int32.ofInt i = v) (k : V cc own nL R D K (pc + 1) lv (.int v :: st) G n) : V cc own nL R D K pc lv st G n := by
  obtain ⟨p, l, e, s, m, args, below, meth, c, A, Q⟩ := K
  intro O H locs ls h1 h2 h3 h4
  exact lv_iconst O.1 O.2.1 hd hv (k O H locs ls h1 h2 h3 h4)
theorem v_bipush {cc : ByteArray} {own : String} {nL : Nat} {R : Room} {D : DT} {K : KT} {pc : Nat} {lv : LV} {st : List Value} {G : GT} {n : Nat × Nat} {i : Int} {v : Int32} (hd : decode cc pc = .ok (.bipush i, 2)) (hv : (Int8.ofInt i).toInt32 = v) (k : V cc own nL R D K (pc + 2) lv (.int v :: st) G n) : V cc own nL R D K pc lv st G n := by
  obtain ⟨p, l, e, s, m, args, below, meth, c, A, Q⟩ := K
  intro O H locs ls h1 h2 h3 h4
  exact lv_bipush O.1 O.2.1 hd hv (k O H locs ls h1 h2 h3 h4)
theorem v_sipush {cc : ByteArray} {own : String} {nL : Nat} {R : Room} {D : DT} {K : KT} {pc : Nat} {lv : LV} {st : List Value} {G : GT} {n : Nat × Nat} {i : Int} {v : Int32} (hd : decode cc pc = .ok (.sipush i, 3)) (hv : (Int16.ofInt i).toInt32 = v) (k : V cc own nL R D K (pc + 3) lv (.int v :: st) G n) : V cc own nL R D K pc lv st G n := by
  obtain ⟨p, l, e, s, m, args, below, meth, c, A, Q⟩ := K
  intro O H locs ls h1 h2 h3 h4
  exact lv_sipush O.1 O.2.1 hd hv (k O H locs ls h1 h2 h3 h4)
theorem v_lconst {cc : ByteArray} {own : String} {nL : Nat} {R : Room} {D : DT} {K : KT} {pc : Nat} {lv : LV} {st : List Value} {G : GT} {n : Nat × Nat} {i : Fin 2} {v : Int64} (hd : decode cc pc = .ok (.lconst i, 1)) (hv : Int64.ofNat (i : Nat) = v) (k : V cc own nL R D K (pc + 1) lv (.long v :: st) G n) : V cc own nL R D K pc lv st G n := by
  obtain ⟨p, l, e, s, m, args, below, meth, c, A, Q⟩ := K
  intro O H locs ls h1 h2 h3 h4
  exact lv_lconst O.1 O.2.1 hd hv (k O H locs ls h1 h2 h3 h4)
theorem v_fconst0 {cc : ByteArray} {own : String} {nL : Nat} {R : Room} {D : DT} {K : KT} {pc : Nat} {lv : LV} {st : List Value} {G : GT} {n : Nat × Nat}  (hd : decode cc pc = .ok (.fconst 0, 1)) (k : V cc own nL R D K (pc + 1) lv (.float FP.fconst0 :: st) G n) : V cc own nL R D K pc lv st G n := by
  obtain ⟨p, l, e, s, m, args, below, meth, c, A, Q⟩ := K
  intro O H locs ls h1 h2 h3 h4
  exact lv_fconst0 O.1 O.2.1 hd (k O H locs ls h1 h2 h3 h4)
theorem v_fconst1 {cc : ByteArray} {own : String} {nL : Nat} {R : Room} {D : DT} {K : KT} {pc : Nat} {lv : LV} {st : List Value} {G : GT} {n : Nat × Nat}  (hd : decode cc pc = .ok (.fconst 1, 1)) (k : V cc own nL R D K (pc + 1) lv (.float FP.fconst1 :: st) G n) : V cc own nL R D K pc lv st G n := by
  obtain ⟨p, l, e, s, m, args, below, meth, c, A, Q⟩ := K
  intro O H locs ls h1 h2 h3 h4
  exact lv_fconst1 O.1 O.2.1 hd (k O H locs ls h1 h2 h3 h4)
theorem v_null {cc : ByteArray} {own : String} {nL : Nat} {R : Room} {D : DT} {K : KT} {pc : Nat} {lv : LV} {st : List Value} {G : GT} {n : Nat × Nat}  (hd : decode cc pc = .ok (.aconst_null, 1)) (k : V cc own nL R D K (pc + 1) lv (.null :: st) G n) : V cc own nL R D K pc lv st G n := by
  obtain ⟨p, l, e, s, m, args, below, meth, c, A, Q⟩ := K
  intro O H locs ls h1 h2 h3 h4
  exact lv_null O.1 O.2.1 hd (k O H locs ls h1 h2 h3 h4)
theorem v_dup {cc : ByteArray} {own : String} {nL : Nat} {R : Room} {D : DT} {K : KT} {pc : Nat} {lv : LV} {st : List Value} {G : GT} {n : Nat × Nat} {x : Value} (hd : decode cc pc = .ok (.dup, 1)) (hx : x.category = 1) (k : V cc own nL R D K (pc + 1) lv (x :: x :: st) G n) : V cc own nL R D K pc lv (x :: st) G n := by
  obtain ⟨p, l, e, s, m, args, below, meth, c, A, Q⟩ := K
  intro O H locs ls h1 h2 h3 h4
  exact lv_dup O.1 O.2.1 hd hx (k O H locs ls h1 h2 h3 h4)
theorem v_dup_x1 {cc : ByteArray} {own : String} {nL : Nat} {R : Room} {D : DT} {K : KT} {pc : Nat} {lv : LV} {st : List Value} {G : GT} {n : Nat × Nat} {x y : Value} (hd : decode cc pc = .ok (.dup_x1, 1)) (hx : x.category = 1) (hy : y.category = 1) (k : V cc own nL R D K (pc + 1) lv (x :: y :: x :: st) G n) : V cc own nL R D K pc lv (x :: y :: st) G n := by
  obtain ⟨p, l, e, s, m, args, below, meth, c, A, Q⟩ := K
  intro O H locs ls h1 h2 h3 h4
  exact lv_dup_x1 O.1 O.2.1 hd hx hy (k O H locs ls h1 h2 h3 h4)
theorem v_dup2 {cc : ByteArray} {own : String} {nL : Nat} {R : Room} {D : DT} {K : KT} {pc : Nat} {lv : LV} {st : List Value} {G : GT} {n : Nat × Nat} {x y : Value} (hd : decode cc pc = .ok (.dup2, 1)) (hx : x.category = 1) (hy : y.category = 1) (k : V cc own nL R D K (pc + 1) lv (x :: y :: x :: y :: st) G n) : V cc own nL R D K pc lv (x :: y :: st) G n := by
  obtain ⟨p, l, e, s, m, args, below, meth, c, A, Q⟩ := K
  intro O H locs ls h1 h2 h3 h4
  exact lv_dup2_11 O.1 O.2.1 hd hx hy (k O H locs ls h1 h2 h3 h4)
theorem v_iadd {cc : ByteArray} {own : String} {nL : Nat} {R : Room} {D : DT} {K : KT} {pc : Nat} {lv : LV} {st : List Value} {G : GT} {n : Nat × Nat} {x y : Int32} (hd : decode cc pc = .ok (.iadd, 1)) (k : V cc own nL R D K (pc + 1) lv (.int (x + y) :: st) G n) : V cc own nL R D K pc lv (.int y :: .int x :: st) G n := by
  obtain ⟨p, l, e, s, m, args, below, meth, c, A, Q⟩ := K
  intro O H locs ls h1 h2 h3 h4
  exact lv_iadd O.1 O.2.1 hd (k O H locs ls h1 h2 h3 h4)
theorem v_isub {cc : ByteArray} {own : String} {nL : Nat} {R : Room} {D : DT} {K : KT} {pc : Nat} {lv : LV} {st : List Value} {G : GT} {n : Nat × Nat} {x y : Int32} (hd : decode cc pc = .ok (.isub, 1)) (k : V cc own nL R D K (pc + 1) lv (.int (x - y) :: st) G n) : V cc own nL R D K pc lv (.int y :: .int x :: st) G n := by
  obtain ⟨p, l, e, s, m, args, below, meth, c, A, Q⟩ := K
  intro O H locs ls h1 h2 h3 h4
  exact lv_isub O.1 O.2.1 hd (k O H locs ls h1 h2 h3 h4)
theorem v_imul {cc : ByteArray} {own : String} {nL : Nat} {R : Room} {D : DT} {K : KT} {pc : Nat} {lv : LV} {st : List Value} {G : GT} {n : Nat × Nat} {x y : Int32} (hd : decode cc pc = .ok (.imul, 1)) (k : V cc own nL R D K (pc + 1) lv (.int (x * y) :: st) G n) : V cc own nL R D K pc lv (.int y :: .int x :: st) G n := by
  obtain ⟨p, l, e, s, m, args, below, meth, c, A, Q⟩ := K
  intro O H locs ls h1 h2 h3 h4
  exact lv_imul O.1 O.2.1 hd (k O H locs ls h1 h2 h3 h4)
theorem v_iand {cc : ByteArray} {own : String} {nL : Nat} {R : Room} {D : DT} {K : KT} {pc : Nat} {lv : LV} {st : List Value} {G : GT} {n : Nat × Nat} {x y : Int32} (hd : decode cc pc = .ok (.iand, 1)) (k : V cc own nL R D K (pc + 1) lv (.int (x &&& y) :: st) G n) : V cc own nL R D K pc lv (.int y :: .int x :: st) G n := by
  obtain ⟨p, l, e, s, m, args, below, meth, c, A, Q⟩ := K
  intro O H locs ls h1 h2 h3 h4
  exact lv_iand O.1 O.2.1 hd (k O H locs ls h1 h2 h3 h4)
theorem v_ior {cc : ByteArray} {own : String} {nL : Nat} {R : Room} {D : DT} {K : KT} {pc : Nat} {lv : LV} {st : List Value} {G : GT} {n : Nat × Nat} {x y : Int32} (hd : decode cc pc = .ok (.ior, 1)) (k : V cc own nL R D K (pc + 1) lv (.int (x ||| y) :: st) G n) : V cc own nL R D K pc lv (.int y :: .int x :: st) G n := by
  obtain ⟨p, l, e, s, m, args, below, meth, c, A, Q⟩ := K
  intro O H locs ls h1 h2 h3 h4
  exact lv_ior O.1 O.2.1 hd (k O H locs ls h1 h2 h3 h4)
theorem v_ixor {cc : ByteArray} {own : String} {nL : Nat} {R : Room} {D : DT} {K : KT} {pc : Nat} {lv : LV} {st : List Value} {G : GT} {n : Nat × Nat} {x y : Int32} (hd : decode cc pc = .ok (.ixor, 1)) (k : V cc own nL R D K (pc + 1) lv (.int (x ^^^ y) :: st) G n) : V cc own nL R D K pc lv (.int y :: .int x :: st) G n := by
  obtain ⟨p, l, e, s, m, args, below, meth, c, A, Q⟩ := K
  intro O H locs ls h1 h2 h3 h4
  exact lv_ixor O.1 O.2.1 hd (k O H locs ls h1 h2 h3 h4)
theorem v_ladd {cc : ByteArray} {own : String} {nL : Nat} {R : Room} {D : DT} {K : KT} {pc : Nat} {lv : LV} {st : List Value} {G : GT} {n : Nat × Nat} {x y : Int64} (hd : decode cc pc = .ok (.ladd, 1)) (k : V cc own nL R D K (pc + 1) lv (.long (x + y) :: st) G n) : V cc own nL R D K pc lv (.long y :: .long x :: st) G n := by
  obtain ⟨p, l, e, s, m, args, below, meth, c, A, Q⟩ := K
  intro O H locs ls h1 h2 h3 h4
  exact lv_ladd O.1 O.2.1 hd (k O H locs ls h1 h2 h3 h4)
theorem v_lsub {cc : ByteArray} {own : String} {nL : Nat} {R : Room} {D : DT} {K : KT} {pc : Nat} {lv : LV} {st : List Value} {G : GT} {n : Nat × Nat} {x y : Int64} (hd : decode cc pc = .ok (.lsub, 1)) (k : V cc own nL R D K (pc + 1) lv (.long (x - y) :: st) G n) : V cc own nL R D K pc lv (.long y :: .long x :: st) G n := by
  obtain ⟨p, l, e, s, m, args, below, meth, c, A, Q⟩ := K
  intro O H locs ls h1 h2 h3 h4
  exact lv_lsub O.1 O.2.1 hd (k O H locs ls h1 h2 h3 h4)
theorem v_lmul {cc : ByteArray} {own : String} {nL : Nat} {R : Room} {D : DT} {K : KT} {pc : Nat} {lv : LV} {st : List Value} {G : GT} {n : Nat × Nat} {x y : Int64} (hd : decode cc pc = .ok (.lmul, 1)) (k : V cc own nL R D K (pc + 1) lv (.long (x * y) :: st) G n) : V cc own nL R D K pc lv (.long y :: .long x :: st) G n := by
  obtain ⟨p, l, e, s, m, args, below, meth, c, A, Q⟩ := K
  intro O H locs ls h1 h2 h3 h4
  exact lv_lmul O.1 O.2.1 hd (k O H locs ls h1 h2 h3 h4)
theorem v_land {cc : ByteArray} {own : String} {nL : Nat} {R : Room} {D : DT} {K : KT} {pc : Nat} {lv : LV} {st : List Value} {G : GT} {n : Nat × Nat} {x y : Int64} (hd : decode cc pc = .ok (.land, 1)) (k : V cc own nL R D K (pc + 1) lv (.long (x &&& y) :: st) G n) : V cc own nL R D K pc lv (.long y :: .long x :: st) G n := by
  obtain ⟨p, l, e, s, m, args, below, meth, c, A, Q⟩ := K
  intro O H locs ls h1 h2 h3 h4
  exact lv_land O.1 O.2.1 hd (k O H locs ls h1 h2 h3 h4)
theorem v_lor {cc : ByteArray} {own : String} {nL : Nat} {R : Room} {D : DT} {K : KT} {pc : Nat} {lv : LV} {st : List Value} {G : GT} {n : Nat × Nat} {x y : Int64} (hd : decode cc pc = .ok (.lor, 1)) (k : V cc own nL R D K (pc + 1) lv (.long (x ||| y) :: st) G n) : V cc own nL R D K pc lv (.long y :: .long x :: st) G n := by
  obtain ⟨p, l, e, s, m, args, below, meth, c, A, Q⟩ := K
  intro O H locs ls h1 h2 h3 h4
  exact lv_lor O.1 O.2.1 hd (k O H locs ls h1 h2 h3 h4)
theorem v_idiv {cc : ByteArray} {own : String} {nL : Nat} {R : Room} {D : DT} {K : KT} {pc : Nat} {lv : LV} {st : List Value} {G : GT} {n : Nat × Nat} {x y : Int32} (hd : decode cc pc = .ok (.idiv, 1)) (hne : ¬ y = 0) (k : V cc own nL R D K (pc + 1) lv (.int (x / y) :: st) G n) : V cc own nL R D K pc lv (.int y :: .int x :: st) G n := by
  obtain ⟨p, l, e, s, m, args, below, meth, c, A, Q⟩ := K
  intro O H locs ls h1 h2 h3 h4
  exact lv_idiv O.1 O.2.1 hd hne (k O H locs ls h1 h2 h3 h4)
theorem v_irem {cc : ByteArray} {own : String} {nL : Nat} {R : Room} {D : DT} {K : KT} {pc : Nat} {lv : LV} {st : List Value} {G : GT} {n : Nat × Nat} {x y : Int32} (hd : decode cc pc = .ok (.irem, 1)) (hne : ¬ y = 0) (k : V cc own nL R D K (pc + 1) lv (.int (x - (x / y) * y) :: st) G n) : V cc own nL R D K pc lv (.int y :: .int x :: st) G n := by
  obtain ⟨p, l, e, s, m, args, below, meth, c, A, Q⟩ := K
  intro O H locs ls h1 h2 h3 h4
  exact lv_irem O.1 O.2.1 hd hne (k O H locs ls h1 h2 h3 h4)
theorem v_ldiv {cc : ByteArray} {own : String} {nL : Nat} {R : Room} {D : DT} {K : KT} {pc : Nat} {lv : LV} {st : List Value} {G : GT} {n : Nat × Nat} {x y : Int64} (hd : decode cc pc = .ok (.ldiv, 1)) (hne : ¬ y = 0) (k : V cc own nL R D K (pc + 1) lv (.long (x / y) :: st) G n) : V cc own nL R D K pc lv (.long y :: .long x :: st) G n := by
  obtain ⟨p, l, e, s, m, args, below, meth, c, A, Q⟩ := K
  intro O H locs ls h1 h2 h3 h4
  exact lv_ldiv O.1 O.2.1 hd hne (k O H locs ls h1 h2 h3 h4)
theorem v_ishl {cc : ByteArray} {own : String} {nL : Nat} {R : Room} {D : DT} {K : KT} {pc : Nat} {lv : LV} {st : List Value} {G : GT} {n : Nat × Nat} {x y : Int32} (hd : decode cc pc = .ok (.ishl, 1)) (k : V cc own nL R D K (pc + 1) lv (.int (x <<< (y &&& 31)) :: st) G n) : V cc own nL R D K pc lv (.int y :: .int x :: st) G n := by
  obtain ⟨p, l, e, s, m, args, below, meth, c, A, Q⟩ := K
  intro O H locs ls h1 h2 h3 h4
  exact lv_ishl O.1 O.2.1 hd (k O H locs ls h1 h2 h3 h4)
theorem v_ishr {cc : ByteArray} {own : String} {nL : Nat} {R : Room} {D : DT} {K : KT} {pc : Nat} {lv : LV} {st : List Value} {G : GT} {n : Nat × Nat} {x y : Int32} (hd : decode cc pc = .ok (.ishr, 1)) (k : V cc own nL R D K (pc + 1) lv (.int (x >>> (y &&& 31)) :: st) G n) : V cc own nL R D K pc lv (.int y :: .int x :: st) G n := by
  obtain ⟨p, l, e, s, m, args, below, meth, c, A, Q⟩ := K
  intro O H locs ls h1 h2 h3 h4
  exact lv_ishr O.1 O.2.1 hd (k O H locs ls h1 h2 h3 h4)
theorem v_lshl {cc : ByteArray} {own : String} {nL : Nat} {R : Room} {D : DT} {K : KT} {pc : Nat} {lv : LV} {st : List Value} {G : GT} {n : Nat × Nat} {x : Int64} {y : Int32} (hd : decode cc pc = .ok (.lshl, 1)) (k : V cc own nL R D K (pc + 1) lv (.long (x <<< (y.toInt64 &&& 63)) :: st) G n) : V cc own nL R D K pc lv (.int y :: .long x :: st) G n := by
  obtain ⟨p, l, e, s, m, args, below, meth, c, A, Q⟩ := K
  intro O H locs ls h1 h2 h3 h4
  exact lv_lshl O.1 O.2.1 hd rfl (k O H locs ls h1 h2 h3 h4)
theorem v_i2l {cc : ByteArray} {own : String} {nL : Nat} {R : Room} {D : DT} {K : KT} {pc : Nat} {lv : LV} {st : List Value} {G : GT} {n : Nat × Nat} {x : Int32} (hd : decode cc pc = .ok (.i2l, 1)) (k : V cc own nL R D K (pc + 1) lv (.long x.toInt64 :: st) G n) : V cc own nL R D K pc lv (.int x :: st) G n := by
  obtain ⟨p, l, e, s, m, args, below, meth, c, A, Q⟩ := K
  intro O H locs ls h1 h2 h3 h4
  exact lv_i2l O.1 O.2.1 hd rfl (k O H locs ls h1 h2 h3 h4)
theorem v_i2b {cc : ByteArray} {own : String} {nL : Nat} {R : Room} {D : DT} {K : KT} {pc : Nat} {lv : LV} {st : List Value} {G : GT} {n : Nat × Nat} {x : Int32} (hd : decode cc pc = .ok (.i2b, 1)) (k : V cc own nL R D K (pc + 1) lv (.int x.toInt8.toInt32 :: st) G n) : V cc own nL R D K pc lv (.int x :: st) G n := by
  obtain ⟨p, l, e, s, m, args, below, meth, c, A, Q⟩ := K
  intro O H locs ls h1 h2 h3 h4
  exact lv_i2b O.1 O.2.1 hd rfl (k O H locs ls h1 h2 h3 h4)
theorem v_i2f {cc : ByteArray} {own : String} {nL : Nat} {R : Room} {D : DT} {K : KT} {pc : Nat} {lv : LV} {st : List Value} {G : GT} {n : Nat × Nat} {x : Int32} (hd : decode cc pc = .ok (.i2f, 1)) (k : V cc own nL R D K (pc + 1) lv (.float (FP.i2f x) :: st) G n) : V cc own nL R D K pc lv (.int x :: st) G n := by
  obtain ⟨p, l, e, s, m, args, below, meth, c, A, Q⟩ := K
  intro O H locs ls h1 h2 h3 h4
  exact lv_i2f O.1 O.2.1 hd (k O H locs ls h1 h2 h3 h4)
theorem v_f2d {cc : ByteArray} {own : String} {nL : Nat} {R : Room} {D : DT} {K : KT} {pc : Nat} {lv : LV} {st : List Value} {G : GT} {n : Nat × Nat} {x : UInt32} (hd : decode cc pc = .ok (.f2d, 1)) (hne : vf_n64 (FP.f2d x)) (k : V cc own nL R D K (pc + 1) lv (.double (FP.f2d x) :: st) G n) : V cc own nL R D K pc lv (.float x :: st) G n := by
  obtain ⟨p, l, e, s, m, args, below, meth, c, A, Q⟩ := K
  intro O H locs ls h1 h2 h3 h4
  exact lv_f2d O.1 O.2.1 hd hne (k O H locs ls h1 h2 h3 h4)
theorem v_fadd {cc : ByteArray} {own : String} {nL : Nat} {R : Room} {D : DT} {K : KT} {pc : Nat} {lv : LV} {st : List Value} {G : GT} {n : Nat × Nat} {x y : UInt32} (hd : decode cc pc = .ok (.fadd, 1)) (hne : vf_n32 (FP.fadd x y)) (k : V cc own nL R D K (pc + 1) lv (.float (FP.fadd x y) :: st) G n) : V cc own nL R D K pc lv (.float y :: .float x :: st) G n := by
  obtain ⟨p, l, e, s, m, args, below, meth, c, A, Q⟩ := K
  intro O H locs ls h1 h2 h3 h4
  exact lv_fadd O.1 O.2.1 hd hne (k O H locs ls h1 h2 h3 h4)
theorem v_fsub {cc : ByteArray} {own : String} {nL : Nat} {R : Room} {D : DT} {K : KT} {pc : Nat} {lv : LV} {st : List Value} {G : GT} {n : Nat × Nat} {x y : UInt32} (hd : decode cc pc = .ok (.fsub, 1)) (hne : vf_n32 (FP.fsub x y)) (k : V cc own nL R D K (pc + 1) lv (.float (FP.fsub x y) :: st) G n) : V cc own nL R D K pc lv (.float y :: .float x :: st) G n := by
  obtain ⟨p, l, e, s, m, args, below, meth, c, A, Q⟩ := K
  intro O H locs ls h1 h2 h3 h4
  exact lv_fsub O.1 O.2.1 hd hne (k O H locs ls h1 h2 h3 h4)
theorem v_fmul {cc : ByteArray} {own : String} {nL : Nat} {R : Room} {D : DT} {K : KT} {pc : Nat} {lv : LV} {st : List Value} {G : GT} {n : Nat × Nat} {x y : UInt32} (hd : decode cc pc = .ok (.fmul, 1)) (hne : vf_n32 (FP.fmul x y)) (k : V cc own nL R D K (pc + 1) lv (.float (FP.fmul x y) :: st) G n) : V cc own nL R D K pc lv (.float y :: .float x :: st) G n := by
  obtain ⟨p, l, e, s, m, args, below, meth, c, A, Q⟩ := K
  intro O H locs ls h1 h2 h3 h4
  exact lv_fmul O.1 O.2.1 hd hne (k O H locs ls h1 h2 h3 h4)
theorem v_fdiv {cc : ByteArray} {own : String} {nL : Nat} {R : Room} {D : DT} {K : KT} {pc : Nat} {lv : LV} {st : List Value} {G : GT} {n : Nat × Nat} {x y : UInt32} (hd : decode cc pc = .ok (.fdiv, 1)) (hne : vf_n32 (FP.fdiv x y)) (k : V cc own nL R D K (pc + 1) lv (.float (FP.fdiv x y) :: st) G n) : V cc own nL R D K pc lv (.float y :: .float x :: st) G n := by
  obtain ⟨p, l, e, s, m, args, below, meth, c, A, Q⟩ := K
  intro O H locs ls h1 h2 h3 h4
  exact lv_fdiv O.1 O.2.1 hd hne (k O H locs ls h1 h2 h3 h4)
theorem v_fcmp {cc : ByteArray} {own : String} {nL : Nat} {R : Room} {D : DT} {K : KT} {pc : Nat} {lv : LV} {st : List Value} {G : GT} {n : Nat × Nat} {x y : UInt32} {op : CmpOp} (hd : decode cc pc = .ok (.fcmp op, 1)) (k : V cc own nL R D K (pc + 1) lv (.int (Op.cmpValue (FP.fcmp x y) op) :: st) G n) : V cc own nL R D K pc lv (.float y :: .float x :: st) G n := by
  obtain ⟨p, l, e, s, m, args, below, meth, c, A, Q⟩ := K
  intro O H locs ls h1 h2 h3 h4
  exact lv_fcmp O.1 O.2.1 hd (k O H locs ls h1 h2 h3 h4)
theorem v_dcmp {cc : ByteArray} {own : String} {nL : Nat} {R : Room} {D : DT} {K : KT} {pc : Nat} {lv : LV} {st : List Value} {G : GT} {n : Nat × Nat} {x y : UInt64} {op : CmpOp} (hd : decode cc pc = .ok (.dcmp op, 1)) (k : V cc own nL R D K (pc + 1) lv (.int (Op.cmpValue (FP.dcmp x y) op) :: st) G n) : V cc own nL R D K pc lv (.double y :: .double x :: st) G n := by
  obtain ⟨p, l, e, s, m, args, below, meth, c, A, Q⟩ := K
  intro O H locs ls h1 h2 h3 h4
  exact lv_dcmp O.1 O.2.1 hd (k O H locs ls h1 h2 h3 h4)
theorem v_iload_n {cc : ByteArray} {own : String} {nL : Nat} {R : Room} {D : DT} {K : KT} {pc : Nat} {lv : LV} {st : List Value} {G : GT} {n : Nat × Nat} {i : Fin 4} {j : Nat} {x : Int32} (hd : decode cc pc = .ok (.iload_n i, 1)) (hi : (i : Nat) = j) (hx : lget lv j = some (.int x)) (k : V cc own nL R D K (pc + 1) lv (.int x :: st) G n) : V cc own nL R D K pc lv st G n := by
  obtain ⟨p, l, e, s, m, args, below, meth, c, A, Q⟩ := K
  intro O H locs ls h1 h2 h3 h4
  exact lv_iload_n O.1 O.2.1 hd hi (h4.2.2 _ _ hx) (k O H locs ls h1 h2 h3 h4)
theorem v_iload {cc : ByteArray} {own : String} {nL : Nat} {R : Room} {D : DT} {K : KT} {pc : Nat} {lv : LV} {st : List Value} {G : GT} {n : Nat × Nat} {j : Nat} {x : Int32} (hd : decode cc pc = .ok (.iload j, 2)) (hx : lget lv j = some (.int x)) (k : V cc own nL R D K (pc + 2) lv (.int x :: st) G n) : V cc own nL R D K pc lv st G n := by
  obtain ⟨p, l, e, s, m, args, below, meth, c, A, Q⟩ := K
  intro O H locs ls h1 h2 h3 h4
  exact lv_iload O.1 O.2.1 hd (h4.2.2 _ _ hx) (k O H locs ls h1 h2 h3 h4)
theorem v_lload_n {cc : ByteArray} {own : String} {nL : Nat} {R : Room} {D : DT} {K : KT} {pc : Nat} {lv : LV} {st : List Value} {G : GT} {n : Nat × Nat} {i : Fin 4} {j : Nat} {x : Int64} (hd : decode cc pc = .ok (.lload_n i, 1)) (hi : (i : Nat) = j) (hx : lget lv j = some (.long x)) (k : V cc own nL R D K (pc + 1) lv (.long x :: st) G n) : V cc own nL R D K pc lv st G n := by
  obtain ⟨p, l, e, s, m, args, below, meth, c, A, Q⟩ := K
  intro O H locs ls h1 h2 h3 h4
  exact lv_lload_n O.1 O.2.1 hd hi (h4.2.2 _ _ hx) (k O H locs ls h1 h2 h3 h4)
theorem v_lload {cc : ByteArray} {own : String} {nL : Nat} {R : Room} {D : DT} {K : KT} {pc : Nat} {lv : LV} {st : List Value} {G : GT} {n : Nat × Nat} {j : Nat} {x : Int64} (hd : decode cc pc = .ok (.lload j, 2)) (hx : lget lv j = some (.long x)) (k : V cc own nL R D K (pc + 2) lv (.long x :: st) G n) : V cc own nL R D K pc lv st G n := by
  obtain ⟨p, l, e, s, m, args, below, meth, c, A, Q⟩ := K
  intro O H locs ls h1 h2 h3 h4
  exact lv_lload O.1 O.2.1 hd (h4.2.2 _ _ hx) (k O H locs ls h1 h2 h3 h4)
theorem v_fload_n {cc : ByteArray} {own : String} {nL : Nat} {R : Room} {D : DT} {K : KT} {pc : Nat} {lv : LV} {st : List Value} {G : GT} {n : Nat × Nat} {i : Fin 4} {j : Nat} {x : UInt32} (hd : decode cc pc = .ok (.fload_n i, 1)) (hi : (i : Nat) = j) (hx : lget lv j = some (.float x)) (k : V cc own nL R D K (pc + 1) lv (.float x :: st) G n) : V cc own nL R D K pc lv st G n := by
  obtain ⟨p, l, e, s, m, args, below, meth, c, A, Q⟩ := K
  intro O H locs ls h1 h2 h3 h4
  exact lv_fload_n O.1 O.2.1 hd hi (h4.2.2 _ _ hx) (k O H locs ls h1 h2 h3 h4)
theorem v_fload {cc : ByteArray} {own : String} {nL : Nat} {R : Room} {D : DT} {K : KT} {pc : Nat} {lv : LV} {st : List Value} {G : GT} {n : Nat × Nat} {j : Nat} {x : UInt32} (hd : decode cc pc = .ok (.fload j, 2)) (hx : lget lv j = some (.float x)) (k : V cc own nL R D K (pc + 2) lv (.float x :: st) G n) : V cc own nL R D K pc lv st G n := by
  obtain ⟨p, l, e, s, m, args, below, meth, c, A, Q⟩ := K
  intro O H locs ls h1 h2 h3 h4
  exact lv_fload O.1 O.2.1 hd (h4.2.2 _ _ hx) (k O H locs ls h1 h2 h3 h4)
theorem v_aload_n {cc : ByteArray} {own : String} {nL : Nat} {R : Room} {D : DT} {K : KT} {pc : Nat} {lv : LV} {st : List Value} {G : GT} {n : Nat × Nat} {i : Fin 4} {j : Nat} {x : Nat} (hd : decode cc pc = .ok (.aload_n i, 1)) (hi : (i : Nat) = j) (hx : lget lv j = some (.ref x)) (k : V cc own nL R D K (pc + 1) lv (.ref x :: st) G n) : V cc own nL R D K pc lv st G n := by
  obtain ⟨p, l, e, s, m, args, below, meth, c, A, Q⟩ := K
  intro O H locs ls h1 h2 h3 h4
  exact lv_aload_n O.1 O.2.1 hd hi (h4.2.2 _ _ hx) (k O H locs ls h1 h2 h3 h4)
theorem v_aload {cc : ByteArray} {own : String} {nL : Nat} {R : Room} {D : DT} {K : KT} {pc : Nat} {lv : LV} {st : List Value} {G : GT} {n : Nat × Nat} {j : Nat} {x : Nat} (hd : decode cc pc = .ok (.aload j, 2)) (hx : lget lv j = some (.ref x)) (k : V cc own nL R D K (pc + 2) lv (.ref x :: st) G n) : V cc own nL R D K pc lv st G n := by
  obtain ⟨p, l, e, s, m, args, below, meth, c, A, Q⟩ := K
  intro O H locs ls h1 h2 h3 h4
  exact lv_aload O.1 O.2.1 hd (h4.2.2 _ _ hx) (k O H locs ls h1 h2 h3 h4)
theorem v_aload_nN {cc : ByteArray} {own : String} {nL : Nat} {R : Room} {D : DT} {K : KT} {pc : Nat} {lv : LV} {st : List Value} {G : GT} {n : Nat × Nat} {i : Fin 4} {j : Nat} (hd : decode cc pc = .ok (.aload_n i, 1)) (hi : (i : Nat) = j) (hx : lget lv j = some .null) (k : V cc own nL R D K (pc + 1) lv (.null :: st) G n) : V cc own nL R D K pc lv st G n := by
  obtain ⟨p, l, e, s, m, args, below, meth, c, A, Q⟩ := K
  intro O H locs ls h1 h2 h3 h4
  exact lv_aload_nN O.1 O.2.1 hd hi (h4.2.2 _ _ hx) (k O H locs ls h1 h2 h3 h4)
theorem v_aloadN {cc : ByteArray} {own : String} {nL : Nat} {R : Room} {D : DT} {K : KT} {pc : Nat} {lv : LV} {st : List Value} {G : GT} {n : Nat × Nat} {j : Nat} (hd : decode cc pc = .ok (.aload j, 2)) (hx : lget lv j = some .null) (k : V cc own nL R D K (pc + 2) lv (.null :: st) G n) : V cc own nL R D K pc lv st G n := by
  obtain ⟨p, l, e, s, m, args, below, meth, c, A, Q⟩ := K
  intro O H locs ls h1 h2 h3 h4
  exact lv_aloadN O.1 O.2.1 hd (h4.2.2 _ _ hx) (k O H locs ls h1 h2 h3 h4)
theorem v_istore_n {cc : ByteArray} {own : String} {nL : Nat} {R : Room} {D : DT} {K : KT} {pc : Nat} {lv : LV} {st : List Value} {G : GT} {n : Nat × Nat} {i : Fin 4} {j : Nat} {x : Int32} (hd : decode cc pc = .ok (.istore_n i, 1)) (hi : (i : Nat) = j) (ho : lokb lv j = true) (hn : j < nL) (k : V cc own nL R D K (pc + 1) (lset lv j (.int x)) st G n) : V cc own nL R D K pc lv ((.int x) :: st) G n := by
  obtain ⟨p, l, e, s, m, args, below, meth, c, A, Q⟩ := K
  intro O H locs ls h1 h2 h3 h4
  exact lv_istore_n O.1 O.2.1 hd hi (lh_has h4) hn rfl (fun ls' h' => k O H locs ls' h1 h2 h3 (lh_set (ls := ls) ho h'))
theorem v_istore {cc : ByteArray} {own : String} {nL : Nat} {R : Room} {D : DT} {K : KT} {pc : Nat} {lv : LV} {st : List Value} {G : GT} {n : Nat × Nat} {j : Nat} {x : Int32} (hd : decode cc pc = .ok (.istore j, 2)) (ho : lokb lv j = true) (hn : j < nL) (k : V cc own nL R D K (pc + 2) (lset lv j (.int x)) st G n) : V cc own nL R D K pc lv ((.int x) :: st) G n := by
  obtain ⟨p, l, e, s, m, args, below, meth, c, A, Q⟩ := K
  intro O H locs ls h1 h2 h3 h4
  exact lv_istore O.1 O.2.1 hd (lh_has h4) hn rfl (fun ls' h' => k O H locs ls' h1 h2 h3 (lh_set (ls := ls) ho h'))
theorem v_lstore_n {cc : ByteArray} {own : String} {nL : Nat} {R : Room} {D : DT} {K : KT} {pc : Nat} {lv : LV} {st : List Value} {G : GT} {n : Nat × Nat} {i : Fin 4} {j : Nat} {x : Int64} (hd : decode cc pc = .ok (.lstore_n i, 1)) (hi : (i : Nat) = j) (ho : lokb lv j = true) (hn : j + 1 < nL) (k : V cc own nL R D K (pc + 1) (lset2 lv j (.long x)) st G n) : V cc own nL R D K pc lv ((.long x) :: st) G n := by
  obtain ⟨p, l, e, s, m, args, below, meth, c, A, Q⟩ := K
  intro O H locs ls h1 h2 h3 h4
  exact lv_lstore_n O.1 O.2.1 hd hi (lh_has h4) hn rfl (fun ls' h' => k O H locs ls' h1 h2 h3 (lh_set2 (ls := ls) ho h'))
theorem v_lstore {cc : ByteArray} {own : String} {nL : Nat} {R : Room} {D : DT} {K : KT} {pc : Nat} {lv : LV} {st : List Value} {G : GT} {n : Nat × Nat} {j : Nat} {x : Int64} (hd : decode cc pc = .ok (.lstore j, 2)) (ho : lokb lv j = true) (hn : j + 1 < nL) (k : V cc own nL R D K (pc + 2) (lset2 lv j (.long x)) st G n) : V cc own nL R D K pc lv ((.long x) :: st) G n := by
  obtain ⟨p, l, e, s, m, args, below, meth, c, A, Q⟩ := K
  intro O H locs ls h1 h2 h3 h4
  exact lv_lstore O.1 O.2.1 hd (lh_has h4) hn rfl (fun ls' h' => k O H locs ls' h1 h2 h3 (lh_set2 (ls := ls) ho h'))
theorem v_fstore_n {cc : ByteArray} {own : String} {nL : Nat} {R : Room} {D : DT} {K : KT} {pc : Nat} {lv : LV} {st : List Value} {G : GT} {n : Nat × Nat} {i : Fin 4} {j : Nat} {x : UInt32} (hd : decode cc pc = .ok (.fstore_n i, 1)) (hi : (i : Nat) = j) (ho : lokb lv j = true) (hn : j < nL) (k : V cc own nL R D K (pc + 1) (lset lv j (.float x)) st G n) : V cc own nL R D K pc lv ((.float x) :: st) G n := by
  obtain ⟨p, l, e, s, m, args, below, meth, c, A, Q⟩ := K
  intro O H locs ls h1 h2 h3 h4
  exact lv_fstore_n O.1 O.2.1 hd hi (lh_has h4) hn rfl (fun ls' h' => k O H locs ls' h1 h2 h3 (lh_set (ls := ls) ho h'))
theorem v_fstore {cc : ByteArray} {own : String} {nL : Nat} {R : Room} {D : DT} {K : KT} {pc : Nat} {lv : LV} {st : List Value} {G : GT} {n : Nat × Nat} {j : Nat} {x : UInt32} (hd : decode cc pc = .ok (.fstore j, 2)) (ho : lokb lv j = true) (hn : j < nL) (k : V cc own nL R D K (pc + 2) (lset lv j (.float x)) st G n) : V cc own nL R D K pc lv ((.float x) :: st) G n := by
  obtain ⟨p, l, e, s, m, args, below, meth, c, A, Q⟩ := K
  intro O H locs ls h1 h2 h3 h4
  exact lv_fstore O.1 O.2.1 hd (lh_has h4) hn rfl (fun ls' h' => k O H locs ls' h1 h2 h3 (lh_set (ls := ls) ho h'))
theorem v_astore_n {cc : ByteArray} {own : String} {nL : Nat} {R : Room} {D : DT} {K : KT} {pc : Nat} {lv : LV} {st : List Value} {G : GT} {n : Nat × Nat} {i : Fin 4} {j : Nat} {x : Nat} (hd : decode cc pc = .ok (.astore_n i, 1)) (hi : (i : Nat) = j) (ho : lokb lv j = true) (hn : j < nL) (k : V cc own nL R D K (pc + 1) (lset lv j (.ref x)) st G n) : V cc own nL R D K pc lv ((.ref x) :: st) G n := by
  obtain ⟨p, l, e, s, m, args, below, meth, c, A, Q⟩ := K
  intro O H locs ls h1 h2 h3 h4
  exact lv_astore_n O.1 O.2.1 hd hi (lh_has h4) hn rfl (fun ls' h' => k O H locs ls' h1 h2 h3 (lh_set (ls := ls) ho h'))
theorem v_astore {cc : ByteArray} {own : String} {nL : Nat} {R : Room} {D : DT} {K : KT} {pc : Nat} {lv : LV} {st : List Value} {G : GT} {n : Nat × Nat} {j : Nat} {x : Nat} (hd : decode cc pc = .ok (.astore j, 2)) (ho : lokb lv j = true) (hn : j < nL) (k : V cc own nL R D K (pc + 2) (lset lv j (.ref x)) st G n) : V cc own nL R D K pc lv ((.ref x) :: st) G n := by
  obtain ⟨p, l, e, s, m, args, below, meth, c, A, Q⟩ := K
  intro O H locs ls h1 h2 h3 h4
  exact lv_astore O.1 O.2.1 hd (lh_has h4) hn rfl (fun ls' h' => k O H locs ls' h1 h2 h3 (lh_set (ls := ls) ho h'))
theorem v_astore_nN {cc : ByteArray} {own : String} {nL : Nat} {R : Room} {D : DT} {K : KT} {pc : Nat} {lv : LV} {st : List Value} {G : GT} {n : Nat × Nat} {i : Fin 4} {j : Nat} (hd : decode cc pc = .ok (.astore_n i, 1)) (hi : (i : Nat) = j) (ho : lokb lv j = true) (hn : j < nL) (k : V cc own nL R D K (pc + 1) (lset lv j .null) st G n) : V cc own nL R D K pc lv (.null :: st) G n := by
  obtain ⟨p, l, e, s, m, args, below, meth, c, A, Q⟩ := K
  intro O H locs ls h1 h2 h3 h4
  exact lv_astore_nN O.1 O.2.1 hd hi (lh_has h4) hn rfl (fun ls' h' => k O H locs ls' h1 h2 h3 (lh_set (ls := ls) ho h'))
theorem v_astoreN {cc : ByteArray} {own : String} {nL : Nat} {R : Room} {D : DT} {K : KT} {pc : Nat} {lv : LV} {st : List Value} {G : GT} {n : Nat × Nat} {j : Nat} (hd : decode cc pc = .ok (.astore j, 2)) (ho : lokb lv j = true) (hn : j < nL) (k : V cc own nL R D K (pc + 2) (lset lv j .null) st G n) : V cc own nL R D K pc lv (.null :: st) G n := by
  obtain ⟨p, l, e, s, m, args, below, meth, c, A, Q⟩ := K
  intro O H locs ls h1 h2 h3 h4
  exact lv_astoreN O.1 O.2.1 hd (lh_has h4) hn rfl (fun ls' h' => k O H locs ls' h1 h2 h3 (lh_set (ls := ls) ho h'))
theorem v_iinc {cc : ByteArray} {own : String} {nL : Nat} {R : Room} {D : DT} {K : KT} {pc : Nat} {lv : LV} {st : List Value} {G : GT} {n : Nat × Nat} {j : Nat} {i : Int} {x v : Int32} (hd : decode cc pc = .ok (.iinc j i, 3)) (hx : lget lv j = some (.int x)) (hv : x + Int32.ofInt i = v) (ho : lokb lv j = true) (hn : j < nL) (k : V cc own nL R D K (pc + 3) (lset lv j (.int v)) st G n) : V cc own nL R D K pc lv st G n := by
  obtain ⟨p, l, e, s, m, args, below, meth, c, A, Q⟩ := K
  intro O H locs ls h1 h2 h3 h4
  obtain ⟨k0, hk0⟩ := List.getElem?_of_mem (lprs_mem.mpr hx)
  exact lv_iinc O.1 O.2.1 hd (lh_has h4) (k := k0) hk0 hv hn rfl (fun ls' h' => k O H locs ls' h1 h2 h3 (lh_set (ls := ls) ho h'))
theorem v_if_eq {cc : ByteArray} {own : String} {nL : Nat} {R : Room} {D : DT} {K : KT} {pc : Nat} {lv : LV} {st : List Value} {G : GT} {n : Nat × Nat} {x : Int32} {off : Int} {tgt : Nat} (hd : decode cc pc = .ok (.ifCond .eq off, 3)) (ht : (pc : Int) + off = (tgt : Int)) (kt : x = 0 → V cc own nL R D K tgt lv st G n) (kf : ¬ x = 0 → V cc own nL R D K (pc + 3) lv st G n) : V cc own nL R D K pc lv (.int x :: st) G n := by
  obtain ⟨p, l, e, s, m, args, below, meth, c, A, Q⟩ := K
  intro O H locs ls h1 h2 h3 h4
  exact lv_if_eq O.1 O.2.1 hd ht (fun h => kt h O H locs ls h1 h2 h3 h4) (fun h => kf h O H locs ls h1 h2 h3 h4)
theorem v_if_ne {cc : ByteArray} {own : String} {nL : Nat} {R : Room} {D : DT} {K : KT} {pc : Nat} {lv : LV} {st : List Value} {G : GT} {n : Nat × Nat} {x : Int32} {off : Int} {tgt : Nat} (hd : decode cc pc = .ok (.ifCond .ne off, 3)) (ht : (pc : Int) + off = (tgt : Int)) (kt : ¬ x = 0 → V cc own nL R D K tgt lv st G n) (kf : x = 0 → V cc own nL R D K (pc + 3) lv st G n) : V cc own nL R D K pc lv (.int x :: st) G n := by
  obtain ⟨p, l, e, s, m, args, below, meth, c, A, Q⟩ := K
  intro O H locs ls h1 h2 h3 h4
  exact lv_if_ne O.1 O.2.1 hd ht (fun h => kt h O H locs ls h1 h2 h3 h4) (fun h => kf h O H locs ls h1 h2 h3 h4)
theorem v_if_lt {cc : ByteArray} {own : String} {nL : Nat} {R : Room} {D : DT} {K : KT} {pc : Nat} {lv : LV} {st : List Value} {G : GT} {n : Nat × Nat} {x : Int32} {off : Int} {tgt : Nat} (hd : decode cc pc = .ok (.ifCond .lt off, 3)) (ht : (pc : Int) + off = (tgt : Int)) (kt : x < 0 → V cc own nL R D K tgt lv st G n) (kf : ¬ x < 0 → V cc own nL R D K (pc + 3) lv st G n) : V cc own nL R D K pc lv (.int x :: st) G n := by
  obtain ⟨p, l, e, s, m, args, below, meth, c, A, Q⟩ := K
  intro O H locs ls h1 h2 h3 h4
  exact lv_if_lt O.1 O.2.1 hd ht (fun h => kt h O H locs ls h1 h2 h3 h4) (fun h => kf h O H locs ls h1 h2 h3 h4)
theorem v_if_ge {cc : ByteArray} {own : String} {nL : Nat} {R : Room} {D : DT} {K : KT} {pc : Nat} {lv : LV} {st : List Value} {G : GT} {n : Nat × Nat} {x : Int32} {off : Int} {tgt : Nat} (hd : decode cc pc = .ok (.ifCond .ge off, 3)) (ht : (pc : Int) + off = (tgt : Int)) (kt : 0 ≤ x → V cc own nL R D K tgt lv st G n) (kf : ¬ 0 ≤ x → V cc own nL R D K (pc + 3) lv st G n) : V cc own nL R D K pc lv (.int x :: st) G n := by
  obtain ⟨p, l, e, s, m, args, below, meth, c, A, Q⟩ := K
  intro O H locs ls h1 h2 h3 h4
  exact lv_if_ge O.1 O.2.1 hd ht (fun h => kt h O H locs ls h1 h2 h3 h4) (fun h => kf h O H locs ls h1 h2 h3 h4)
theorem v_if_gt {cc : ByteArray} {own : String} {nL : Nat} {R : Room} {D : DT} {K : KT} {pc : Nat} {lv : LV} {st : List Value} {G : GT} {n : Nat × Nat} {x : Int32} {off : Int} {tgt : Nat} (hd : decode cc pc = .ok (.ifCond .gt off, 3)) (ht : (pc : Int) + off = (tgt : Int)) (kt : 0 < x → V cc own nL R D K tgt lv st G n) (kf : ¬ 0 < x → V cc own nL R D K (pc + 3) lv st G n) : V cc own nL R D K pc lv (.int x :: st) G n := by
  obtain ⟨p, l, e, s, m, args, below, meth, c, A, Q⟩ := K
  intro O H locs ls h1 h2 h3 h4
  exact lv_if_gt O.1 O.2.1 hd ht (fun h => kt h O H locs ls h1 h2 h3 h4) (fun h => kf h O H locs ls h1 h2 h3 h4)
theorem v_if_le {cc : ByteArray} {own : String} {nL : Nat} {R : Room} {D : DT} {K : KT} {pc : Nat} {lv : LV} {st : List Value} {G : GT} {n : Nat × Nat} {x : Int32} {off : Int} {tgt : Nat} (hd : decode cc pc = .ok (.ifCond .le off, 3)) (ht : (pc : Int) + off = (tgt : Int)) (kt : x ≤ 0 → V cc own nL R D K tgt lv st G n) (kf : ¬ x ≤ 0 → V cc own nL R D K (pc + 3) lv st G n) : V cc own nL R D K pc lv (.int x :: st) G n := by
  obtain ⟨p, l, e, s, m, args, below, meth, c, A, Q⟩ := K
  intro O H locs ls h1 h2 h3 h4
  exact lv_if_le O.1 O.2.1 hd ht (fun h => kt h O H locs ls h1 h2 h3 h4) (fun h => kf h O H locs ls h1 h2 h3 h4)
theorem v_icmp_eq {cc : ByteArray} {own : String} {nL : Nat} {R : Room} {D : DT} {K : KT} {pc : Nat} {lv : LV} {st : List Value} {G : GT} {n : Nat × Nat} {x y : Int32} {off : Int} {tgt : Nat} (hd : decode cc pc = .ok (.if_icmp .eq off, 3)) (ht : (pc : Int) + off = (tgt : Int)) (kt : x = y → V cc own nL R D K tgt lv st G n) (kf : ¬ x = y → V cc own nL R D K (pc + 3) lv st G n) : V cc own nL R D K pc lv (.int y :: .int x :: st) G n := by
  obtain ⟨p, l, e, s, m, args, below, meth, c, A, Q⟩ := K
  intro O H locs ls h1 h2 h3 h4
  exact lv_icmp_eq O.1 O.2.1 hd ht (fun h => kt h O H locs ls h1 h2 h3 h4) (fun h => kf h O H locs ls h1 h2 h3 h4)
theorem v_icmp_ne {cc : ByteArray} {own : String} {nL : Nat} {R : Room} {D : DT} {K : KT} {pc : Nat} {lv : LV} {st : List Value} {G : GT} {n : Nat × Nat} {x y : Int32} {off : Int} {tgt : Nat} (hd : decode cc pc = .ok (.if_icmp .ne off, 3)) (ht : (pc : Int) + off = (tgt : Int)) (kt : ¬ x = y → V cc own nL R D K tgt lv st G n) (kf : x = y → V cc own nL R D K (pc + 3) lv st G n) : V cc own nL R D K pc lv (.int y :: .int x :: st) G n := by
  obtain ⟨p, l, e, s, m, args, below, meth, c, A, Q⟩ := K
  intro O H locs ls h1 h2 h3 h4
  exact lv_icmp_ne O.1 O.2.1 hd ht (fun h => kt h O H locs ls h1 h2 h3 h4) (fun h => kf h O H locs ls h1 h2 h3 h4)
theorem v_icmp_lt {cc : ByteArray} {own : String} {nL : Nat} {R : Room} {D : DT} {K : KT} {pc : Nat} {lv : LV} {st : List Value} {G : GT} {n : Nat × Nat} {x y : Int32} {off : Int} {tgt : Nat} (hd : decode cc pc = .ok (.if_icmp .lt off, 3)) (ht : (pc : Int) + off = (tgt : Int)) (kt : x < y → V cc own nL R D K tgt lv st G n) (kf : ¬ x < y → V cc own nL R D K (pc + 3) lv st G n) : V cc own nL R D K pc lv (.int y :: .int x :: st) G n := by
  obtain ⟨p, l, e, s, m, args, below, meth, c, A, Q⟩ := K
  intro O H locs ls h1 h2 h3 h4
  exact lv_icmp_lt O.1 O.2.1 hd ht (fun h => kt h O H locs ls h1 h2 h3 h4) (fun h => kf h O H locs ls h1 h2 h3 h4)
theorem v_icmp_ge {cc : ByteArray} {own : String} {nL : Nat} {R : Room} {D : DT} {K : KT} {pc : Nat} {lv : LV} {st : List Value} {G : GT} {n : Nat × Nat} {x y : Int32} {off : Int} {tgt : Nat} (hd : decode cc pc = .ok (.if_icmp .ge off, 3)) (ht : (pc : Int) + off = (tgt : Int)) (kt : y ≤ x → V cc own nL R D K tgt lv st G n) (kf : ¬ y ≤ x → V cc own nL R D K (pc + 3) lv st G n) : V cc own nL R D K pc lv (.int y :: .int x :: st) G n := by
  obtain ⟨p, l, e, s, m, args, below, meth, c, A, Q⟩ := K
  intro O H locs ls h1 h2 h3 h4
  exact lv_icmp_ge O.1 O.2.1 hd ht (fun h => kt h O H locs ls h1 h2 h3 h4) (fun h => kf h O H locs ls h1 h2 h3 h4)
theorem v_icmp_gt {cc : ByteArray} {own : String} {nL : Nat} {R : Room} {D : DT} {K : KT} {pc : Nat} {lv : LV} {st : List Value} {G : GT} {n : Nat × Nat} {x y : Int32} {off : Int} {tgt : Nat} (hd : decode cc pc = .ok (.if_icmp .gt off, 3)) (ht : (pc : Int) + off = (tgt : Int)) (kt : y < x → V cc own nL R D K tgt lv st G n) (kf : ¬ y < x → V cc own nL R D K (pc + 3) lv st G n) : V cc own nL R D K pc lv (.int y :: .int x :: st) G n := by
  obtain ⟨p, l, e, s, m, args, below, meth, c, A, Q⟩ := K
  intro O H locs ls h1 h2 h3 h4
  exact lv_icmp_gt O.1 O.2.1 hd ht (fun h => kt h O H locs ls h1 h2 h3 h4) (fun h => kf h O H locs ls h1 h2 h3 h4)
theorem v_icmp_le {cc : ByteArray} {own : String} {nL : Nat} {R : Room} {D : DT} {K : KT} {pc : Nat} {lv : LV} {st : List Value} {G : GT} {n : Nat × Nat} {x y : Int32} {off : Int} {tgt : Nat} (hd : decode cc pc = .ok (.if_icmp .le off, 3)) (ht : (pc : Int) + off = (tgt : Int)) (kt : x ≤ y → V cc own nL R D K tgt lv st G n) (kf : ¬ x ≤ y → V cc own nL R D K (pc + 3) lv st G n) : V cc own nL R D K pc lv (.int y :: .int x :: st) G n := by
  obtain ⟨p, l, e, s, m, args, below, meth, c, A, Q⟩ := K
  intro O H locs ls h1 h2 h3 h4
  exact lv_icmp_le O.1 O.2.1 hd ht (fun h => kt h O H locs ls h1 h2 h3 h4) (fun h => kf h O H locs ls h1 h2 h3 h4)
theorem v_goto {cc : ByteArray} {own : String} {nL : Nat} {R : Room} {D : DT} {K : KT} {pc : Nat} {lv : LV} {st : List Value} {G : GT} {n : Nat × Nat} {off : Int} {tgt : Nat} (hd : decode cc pc = .ok (.goto off, 3)) (ht : (pc : Int) + off = (tgt : Int)) (k : V cc own nL R D K tgt lv st G n) : V cc own nL R D K pc lv st G n := by
  obtain ⟨p, l, e, s, m, args, below, meth, c, A, Q⟩ := K
  intro O H locs ls h1 h2 h3 h4
  exact lv_goto O.1 O.2.1 hd ht (k O H locs ls h1 h2 h3 h4)
theorem v_lcmp {cc : ByteArray} {own : String} {nL : Nat} {R : Room} {D : DT} {K : KT} {pc : Nat} {lv : LV} {st : List Value} {G : GT} {n : Nat × Nat} {x y : Int64} (hd : decode cc pc = .ok (.lcmp, 1)) (k : V cc own nL R D K (pc + 1) lv (.int (lg_cmp x y) :: st) G n) : V cc own nL R D K pc lv (.long y :: .long x :: st) G n := by
  obtain ⟨p, l, e, s, m, args, below, meth, c, A, Q⟩ := K
  intro O H locs ls h1 h2 h3 h4
  exact W.lcmp O.1 O.2.1 hd (k O H locs ls h1 h2 h3 h4)
theorem v_ifnull {cc : ByteArray} {own : String} {nL : Nat} {R : Room} {D : DT} {K : KT} {pc : Nat} {lv : LV} {st : List Value} {G : GT} {n : Nat × Nat} {x : Nat} {off : Int} (hd : decode cc pc = .ok (.ifnull off, 3)) (k : V cc own nL R D K (pc + 3) lv st G n) : V cc own nL R D K pc lv (.ref x :: st) G n := by
  obtain ⟨p, l, e, s, m, args, below, meth, c, A, Q⟩ := K
  intro O H locs ls h1 h2 h3 h4
  exact lv_ifnull O.1 O.2.1 hd (k O H locs ls h1 h2 h3 h4)
theorem v_ifnullN {cc : ByteArray} {own : String} {nL : Nat} {R : Room} {D : DT} {K : KT} {pc : Nat} {lv : LV} {st : List Value} {G : GT} {n : Nat × Nat} {off : Int} {tgt : Nat} (hd : decode cc pc = .ok (.ifnull off, 3)) (ht : (pc : Int) + off = (tgt : Int)) (k : V cc own nL R D K tgt lv st G n) : V cc own nL R D K pc lv (.null :: st) G n := by
  obtain ⟨p, l, e, s, m, args, below, meth, c, A, Q⟩ := K
  intro O H locs ls h1 h2 h3 h4
  exact lv_ifnullN O.1 O.2.1 hd ht (k O H locs ls h1 h2 h3 h4)
theorem v_ifnonnull {cc : ByteArray} {own : String} {nL : Nat} {R : Room} {D : DT} {K : KT} {pc : Nat} {lv : LV} {st : List Value} {G : GT} {n : Nat × Nat} {x : Nat} {off : Int} {tgt : Nat} (hd : decode cc pc = .ok (.ifnonnull off, 3)) (ht : (pc : Int) + off = (tgt : Int)) (k : V cc own nL R D K tgt lv st G n) : V cc own nL R D K pc lv (.ref x :: st) G n := by
  obtain ⟨p, l, e, s, m, args, below, meth, c, A, Q⟩ := K
  intro O H locs ls h1 h2 h3 h4
  exact lv_ifnonnull O.1 O.2.1 hd ht (k O H locs ls h1 h2 h3 h4)
theorem v_ifnonnullN {cc : ByteArray} {own : String} {nL : Nat} {R : Room} {D : DT} {K : KT} {pc : Nat} {lv : LV} {st : List Value} {G : GT} {n : Nat × Nat} {off : Int} (hd : decode cc pc = .ok (.ifnonnull off, 3)) (k : V cc own nL R D K (pc + 3) lv st G n) : V cc own nL R D K pc lv (.null :: st) G n := by
  obtain ⟨p, l, e, s, m, args, below, meth, c, A, Q⟩ := K
  intro O H locs ls h1 h2 h3 h4
  exact lv_ifnonnullN O.1 O.2.1 hd (k O H locs ls h1 h2 h3 h4)
theorem v_tin {cc : ByteArray} {own : String} {nL : Nat} {R : Room} {D : DT} {K : KT} {pc : Nat} {lv : LV} {st : List Value} {G : GT} {n : Nat × Nat} {dflt lo hi : Int} {offs : Array Int} {len : Nat} {x : Int32} {off : Int} {tgt : Nat} (hd : decode cc pc = .ok (.tableswitch dflt lo hi offs, len)) (a1 : ¬ x.toInt < lo) (a2 : ¬ hi < x.toInt) (ho : offs[(x.toInt - lo).toNat]? = some off) (ht : (pc : Int) + off = (tgt : Int)) (k : V cc own nL R D K tgt lv st G n) : V cc own nL R D K pc lv (.int x :: st) G n := by
  obtain ⟨p, l, e, s, m, args, below, meth, c, A, Q⟩ := K
  intro O H locs ls h1 h2 h3 h4
  exact lv_tableIn O.1 O.2.1 hd a1 a2 ho ht (k O H locs ls h1 h2 h3 h4)
theorem v_tout {cc : ByteArray} {own : String} {nL : Nat} {R : Room} {D : DT} {K : KT} {pc : Nat} {lv : LV} {st : List Value} {G : GT} {n : Nat × Nat} {dflt lo hi : Int} {offs : Array Int} {len : Nat} {x : Int32} {tgt : Nat} (hd : decode cc pc = .ok (.tableswitch dflt lo hi offs, len)) (a1 : x.toInt < lo ∨ hi < x.toInt) (ht : (pc : Int) + dflt = (tgt : Int)) (k : V cc own nL R D K tgt lv st G n) : V cc own nL R D K pc lv (.int x :: st) G n := by
  obtain ⟨p, l, e, s, m, args, below, meth, c, A, Q⟩ := K
  intro O H locs ls h1 h2 h3 h4
  exact lv_tableOut O.1 O.2.1 hd a1 ht (k O H locs ls h1 h2 h3 h4)
theorem v_ldc {cc : ByteArray} {own : String} {nL : Nat} {R : Room} {D : DT} {K : KT} {pc : Nat} {lv : LV} {st : List Value} {G : GT} {n : Nat × Nat} {i : Nat} {v : Int32} (hd : decode cc pc = .ok (.ldc i, 2)) (hw : Cond.constant own i v ∈ lw_all) (k : V cc own nL R D K (pc + 2) lv (.int v :: st) G n) : V cc own nL R D K pc lv st G n := by
  obtain ⟨p, l, e, s, m, args, below, meth, c, A, Q⟩ := K
  intro O H locs ls h1 h2 h3 h4
  exact lv_ldc O.1 O.2.1 O.2.2.2.1 (O.2.2.2.2.1 _ hw) hd (k O H locs ls h1 h2 h3 h4)
theorem v_ldcw {cc : ByteArray} {own : String} {nL : Nat} {R : Room} {D : DT} {K : KT} {pc : Nat} {lv : LV} {st : List Value} {G : GT} {n : Nat × Nat} {i : Nat} {v : Int32} (hd : decode cc pc = .ok (.ldc_w i, 3)) (hw : Cond.constant own i v ∈ lw_all) (k : V cc own nL R D K (pc + 3) lv (.int v :: st) G n) : V cc own nL R D K pc lv st G n := by
  obtain ⟨p, l, e, s, m, args, below, meth, c, A, Q⟩ := K
  intro O H locs ls h1 h2 h3 h4
  exact lv_ldcw O.1 O.2.1 O.2.2.2.1 (O.2.2.2.2.1 _ hw) hd (k O H locs ls h1 h2 h3 h4)
theorem v_ldcf {cc : ByteArray} {own : String} {nL : Nat} {R : Room} {D : DT} {K : KT} {pc : Nat} {lv : LV} {st : List Value} {G : GT} {n : Nat × Nat} {i : Nat} {v : UInt32} (hd : decode cc pc = .ok (.ldc i, 2)) (hw : Cond.constantFloat own i v ∈ lw_all) (k : V cc own nL R D K (pc + 2) lv (.float v :: st) G n) : V cc own nL R D K pc lv st G n := by
  obtain ⟨p, l, e, s, m, args, below, meth, c, A, Q⟩ := K
  intro O H locs ls h1 h2 h3 h4
  exact lv_ldcf O.1 O.2.1 O.2.2.2.1 (O.2.2.2.2.1 _ hw) hd (k O H locs ls h1 h2 h3 h4)
theorem v_ldcL {cc : ByteArray} {own : String} {nL : Nat} {R : Room} {D : DT} {K : KT} {pc : Nat} {lv : LV} {st : List Value} {G : GT} {n : Nat × Nat} {i : Nat} {v : Int64} (hd : decode cc pc = .ok (.ldc2_w i, 3)) (hw : Cond.constantLong own i v ∈ lw_all) (k : V cc own nL R D K (pc + 3) lv (.long v :: st) G n) : V cc own nL R D K pc lv st G n := by
  obtain ⟨p, l, e, s, m, args, below, meth, c, A, Q⟩ := K
  intro O H locs ls h1 h2 h3 h4
  exact lv_ldc2 O.1 O.2.1 O.2.2.2.1 (O.2.2.2.2.1 _ hw) hd (k O H locs ls h1 h2 h3 h4)
theorem ent_congr {dA : Nat → ClassId} {T N T' N' : Nat → Nat} {I I' : Nat → Nat → Int32} {J J' : Nat → Nat → Int64} {E E' : Nat → Nat → UInt64} {Rf Rf' : Nat → Nat → Option Nat} {b : Nat} (h1 : T b = T' b) (h2 : N b = N' b) (h3 : I b = I' b) (h4 : J b = J' b) (h5 : E b = E' b) (h6 : Rf b = Rf' b) : ent dA (T, N, I, J, E, Rf) b = ent dA (T', N', I', J', E', Rf') b := by
  simp only [ent, h1, h2, h3, h4, h5, h6]
theorem ent_obj {dA : Nat → ClassId} {T N : Nat → Nat} {I : Nat → Nat → Int32} {J : Nat → Nat → Int64} {E : Nat → Nat → UInt64} {Rf : Nat → Nat → Option Nat} {a ci : Nat} (h : T a = ci + 1) (hc : ci < 10) : ent dA (T, N, I, J, E, Rf) a = .inr (ci, flds (I a) (J a) (Rf a) (lay ci)) := by
  have h2 : ci + 1 ≤ 10 := by omega
  simp only [ent, h, h2, if_true, Nat.add_sub_cancel]
theorem ent_int {dA : Nat → ClassId} {T N : Nat → Nat} {I : Nat → Nat → Int32} {J : Nat → Nat → Int64} {E : Nat → Nat → UInt64} {Rf : Nat → Nat → Option Nat} {a k : Nat} (h : T a = k) (hk : k = 11 ∨ k = 13 ∨ k = 14) : ent dA (T, N, I, J, E, Rf) a = .inl (dA k, N a, .inl (I a)) := by
  rcases hk with rfl | rfl | rfl <;> simp [ent, h]
theorem ent_long {dA : Nat → ClassId} {T N : Nat → Nat} {I : Nat → Nat → Int32} {J : Nat → Nat → Int64} {E : Nat → Nat → UInt64} {Rf : Nat → Nat → Option Nat} {a : Nat} (h : T a = 12) : ent dA (T, N, I, J, E, Rf) a = .inl (dA 12, N a, .inr (.inl (J a))) := by
  simp [ent, h]
theorem ent_dbl {dA : Nat → ClassId} {T N : Nat → Nat} {I : Nat → Nat → Int32} {J : Nat → Nat → Int64} {E : Nat → Nat → UInt64} {Rf : Nat → Nat → Option Nat} {a : Nat} (h : T a = 15) : ent dA (T, N, I, J, E, Rf) a = .inl (dA 15, N a, .inr (.inr (.inr (.inl (E a))))) := by
  simp [ent, h]
theorem ent_ref {dA : Nat → ClassId} {T N : Nat → Nat} {I : Nat → Nat → Int32} {J : Nat → Nat → Int64} {E : Nat → Nat → UInt64} {Rf : Nat → Nat → Option Nat} {a k : Nat} (h : T a = k) (hk : 16 ≤ k) : ent dA (T, N, I, J, E, Rf) a = .inl (dA k, N a, .inr (.inr (.inr (.inr (Rf a))))) := by
  have e1 : ¬ k ≤ 10 := by omega
  have e2 : ¬ k = 12 := by omega
  have e3 : ¬ k = 15 := by omega
  have e4 : ¬ k < 16 := by omega
  simp only [ent, h, e1, e2, e3, e4, if_false]
theorem flds_at {i : Nat → Int32} {j : Nat → Int64} {r : Nat → Option Nat} {l : List Nat} {k t : Nat} (h : l[k]? = some t) : (flds i j r l)[k]? = some (fv i j r k t) := by
  simp [flds, List.getElem?_mapIdx, h]
theorem flds_len {i : Nat → Int32} {j : Nat → Int64} {r : Nat → Option Nat} {l : List Nat} : (flds i j r l).length = l.length := by simp [flds]
theorem flds_set {i i' : Nat → Int32} {j j' : Nat → Int64} {r r' : Nat → Option Nat} {l : List Nat} {k t : Nat} {v : Value} (h : l[k]? = some t) (hv : fv i' j' r' k t = v) (ho : ∀ k', k' ≠ k → i' k' = i k' ∧ j' k' = j k' ∧ r' k' = r k') : (flds i j r l).set k v = flds i' j' r' l := by
  have hk : k < l.length := (List.getElem?_eq_some_iff.mp h).1
  apply List.ext_getElem?
  intro x
  by_cases hx : x = k
  · subst hx
    rw [List.getElem?_set_self (by rw [flds_len]; exact hk), flds_at h, hv]
  · rw [List.getElem?_set_ne (fun q => hx q.symm)]
    obtain ⟨a1, a2, a3⟩ := ho x hx
    simp only [flds, List.getElem?_mapIdx]
    cases l[x]? with
    | none => rfl
    | some y => simp [fv, a1, a2, a3]
theorem wd_at {D : DT} {G : GT} {H : Heap} (h : wd D G H) {a : Nat} (ha : G.1 a ≠ 0) : ∃ (L : List Nat) (k : Nat), (∀ b, b ∈ L ↔ G.1 b ≠ 0) ∧ a ∈ L ∧ va_P D.1 cls (va_pl L (ent D.2 G)) H ∧ va_D (fun _ => True) (va_pl L (ent D.2 G)) ∧ (va_pl L (ent D.2 G))[k]? = some (a, ent D.2 G a) := by
  obtain ⟨L, hL, hP, hD⟩ := h
  obtain ⟨k, hk⟩ := va_pl_get (X := []) (f := ent D.2 G) ((hL a).mpr ha)
  exact ⟨L, k, hL, (hL a).mpr ha, hP, hD, hk⟩
theorem wd_set {D : DT} {G G' : GT} {L : List Nat} {a k : Nat} {e : va_E} {H1 : Heap} (hL : ∀ b, b ∈ L ↔ G.1 b ≠ 0) (ha : a ∈ L) (hD : va_D (fun _ => True) (va_pl L (ent D.2 G))) (hk : (va_pl L (ent D.2 G))[k]? = some (a, ent D.2 G a)) (hT : ∀ b, G'.1 b = G.1 b) (he : ent D.2 G' a = e) (ho : ∀ b, b ≠ a → ent D.2 G' b = ent D.2 G b) (hP : va_P D.1 cls ((va_pl L (ent D.2 G)).set k (a, e)) H1) (hD1 : va_D (fun _ => True) ((va_pl L (ent D.2 G)).set k (a, e))) : wd D G' H1 := by
  have h1 := va_pl_set (A := fun _ => True) (X := []) (L := L) (f := ent D.2 G) (e := e) hD ha hk
  have h2 : (va_pl L (ent D.2 G)).set k (a, e) = va_pl L (ent D.2 G') := by
    refine h1.trans (va_pl_congr (fun b => ?_))
    by_cases hb : b = a
    · subst hb; rw [he]; simp [va_up]
    · rw [ho b hb]; simp [va_up, hb]
  rw [h2] at hP hD1
  exact ⟨L, fun b => by rw [hT b]; exact hL b, hP, hD1⟩
theorem wd_push {D : DT} {G G' : GT} {L : List Nat} {a : Nat} {e : va_E} {H1 : Heap} (hL : ∀ b, b ∈ L ↔ G.1 b ≠ 0) (hP : va_P D.1 cls (va_pl L (ent D.2 G) ++ [(a, e)]) H1) (hD1 : va_D (fun _ => True) (va_pl L (ent D.2 G) ++ [(a, e)])) (hT : ∀ b, b ≠ a → G'.1 b = G.1 b) (hTa : G'.1 a ≠ 0) (he : ent D.2 G' a = e) (ho : ∀ b, b ≠ a → ent D.2 G' b = ent D.2 G b) : G.1 a = 0 ∧ wd D G' H1 := by
  have hn : a ∉ L := va_pl_fresh2 (X := []) hD1
  have h2 : va_pl L (ent D.2 G) ++ [(a, e)] = va_pl (L ++ [a]) (ent D.2 G') := by
    rw [va_pl_push hn]
    refine va_pl_congr (fun b => ?_)
    by_cases hb : b = a
    · subst hb; rw [he]; simp [va_up]
    · rw [ho b hb]; simp [va_up, hb]
  rw [h2] at hP hD1
  refine ⟨Classical.byContradiction (fun q => hn ((hL a).mpr q)), L ++ [a], fun b => ?_, hP, hD1⟩
  by_cases hb : b = a
  · subst hb; simp [hTa]
  · rw [hT b hb]; simp [hb, hL b]
theorem cls_lt {ci : Nat} {x : vw_C} (h : cls[ci]? = some x) : ci < 10 := Nat.lt_of_lt_of_le (List.getElem?_eq_some_iff.mp h).1 (Nat.le_of_ble_eq_true rfl)
theorem v_getv {cc : ByteArray} {own : String} {nL : Nat} {R : Room} {D : DT} {K : KT} {pc : Nat} {lv : LV} {st : List Value} {T N : Nat → Nat} {I : Nat → Nat → Int32} {J : Nat → Nat → Int64} {E : Nat → Nat → UInt64} {Rf : Nat → Nat → Option Nat} {n : Nat × Nat} {a idx ci k t : Nat} {v : Value} (hd : decode cc pc = .ok (.getfield idx, 3)) (hF : FL own idx ci k) (ht : (lay ci)[k]? = some t) (hT : T a = ci + 1) (hv : fv (I a) (J a) (Rf a) k t = v) (kk : V cc own nL R D K (pc + 3) lv (v :: st) (T, N, I, J, E, Rf) n) : V cc own nL R D K pc lv (.ref a :: st) (T, N, I, J, E, Rf) n := by
  obtain ⟨p, l, e, s, m, args, below, meth, c, A, Q⟩ := K
  intro O H locs ls h1 h2 h3 h4
  obtain ⟨C0, T0, N0, f1, f2, f3, f4⟩ := hF
  obtain ⟨L, q, hL, hm, hP, hD, hq⟩ := wd_at h1 (a := a) (by show T a ≠ 0; omega)
  rw [ent_obj hT (cls_lt f1)] at hq
  exact va_get O.1 O.2.1 O.2.2.2.2.1 f4 O.2.2.2.1 O.2.2.2.2.2.1 hP q hq f1 k f2 (O.2.2.2.2.1 _ f3) (fun _ h => h) (flds_at ht) hd (hv ▸ kk O H locs ls h1 h2 h3 h4)
theorem v_getI {cc : ByteArray} {own : String} {nL : Nat} {R : Room} {D : DT} {K : KT} {pc : Nat} {lv : LV} {st : List Value} {T N : Nat → Nat} {I : Nat → Nat → Int32} {J : Nat → Nat → Int64} {E : Nat → Nat → UInt64} {Rf : Nat → Nat → Option Nat} {n : Nat × Nat} {a idx ci k : Nat} (hd : decode cc pc = .ok (.getfield idx, 3)) (hF : FL own idx ci k) (ht : (lay ci)[k]? = some 0 ∨ (lay ci)[k]? = some 3) (hT : T a = ci + 1) (kk : V cc own nL R D K (pc + 3) lv (.int (I a k) :: st) (T, N, I, J, E, Rf) n) : V cc own nL R D K pc lv (.ref a :: st) (T, N, I, J, E, Rf) n := by
  rcases ht with ht | ht
  · exact v_getv hd hF ht hT rfl kk
  · exact v_getv hd hF ht hT rfl kk
theorem v_getJ {cc : ByteArray} {own : String} {nL : Nat} {R : Room} {D : DT} {K : KT} {pc : Nat} {lv : LV} {st : List Value} {T N : Nat → Nat} {I : Nat → Nat → Int32} {J : Nat → Nat → Int64} {E : Nat → Nat → UInt64} {Rf : Nat → Nat → Option Nat} {n : Nat × Nat} {a idx ci k : Nat} (hd : decode cc pc = .ok (.getfield idx, 3)) (hF : FL own idx ci k) (ht : (lay ci)[k]? = some 1) (hT : T a = ci + 1) (kk : V cc own nL R D K (pc + 3) lv (.long (J a k) :: st) (T, N, I, J, E, Rf) n) : V cc own nL R D K pc lv (.ref a :: st) (T, N, I, J, E, Rf) n := v_getv hd hF ht hT rfl kk
theorem v_getR {cc : ByteArray} {own : String} {nL : Nat} {R : Room} {D : DT} {K : KT} {pc : Nat} {lv : LV} {st : List Value} {T N : Nat → Nat} {I : Nat → Nat → Int32} {J : Nat → Nat → Int64} {E : Nat → Nat → UInt64} {Rf : Nat → Nat → Option Nat} {n : Nat × Nat} {a idx ci k b : Nat} (hd : decode cc pc = .ok (.getfield idx, 3)) (hF : FL own idx ci k) (ht : (lay ci)[k]? = some 2) (hT : T a = ci + 1) (hR : Rf a k = some b) (kk : V cc own nL R D K (pc + 3) lv (.ref b :: st) (T, N, I, J, E, Rf) n) : V cc own nL R D K pc lv (.ref a :: st) (T, N, I, J, E, Rf) n := v_getv hd hF ht hT (by simp [fv, hR, va_rf]) kk
theorem v_putI {cc : ByteArray} {own : String} {nL : Nat} {R : Room} {D : DT} {K : KT} {pc : Nat} {lv : LV} {st : List Value} {T N : Nat → Nat} {I : Nat → Nat → Int32} {J : Nat → Nat → Int64} {E : Nat → Nat → UInt64} {Rf : Nat → Nat → Option Nat} {n : Nat × Nat} {a idx ci k t : Nat} {ty : FieldType} {x : Int32} (hd : decode cc pc = .ok (.putfield idx, 3)) (hF : FW own idx ci k ty false) (ht : (lay ci)[k]? = some t) (ht2 : t = 0 ∨ t = 3) (hT : T a = ci + 1) (hn : narrow ty (.int x) = (.int x)) (hfit : fits ty (.int x) = true) (kk : V cc own nL R D K (pc + 3) lv st (T, N, (u2 I a k x), J, E, Rf) n) : V cc own nL R D K pc lv ((.int x) :: .ref a :: st) (T, N, I, J, E, Rf) n := by
  obtain ⟨p, l, e, s, m, args, below, meth, c, A, Q⟩ := K
  intro O H locs ls h1 h2 h3 h4
  obtain ⟨C0, T0, N0, ty0, f1, f2, f3, f4, f5, f6, f7, f8, f9⟩ := hF
  have hc := cls_lt f1
  obtain ⟨L, q, hL, hm, hP, hD, hq⟩ := wd_at h1 (a := a) (by show T a ≠ 0; omega)
  have hq2 := hq
  rw [ent_obj hT hc] at hq2
  have hA : va_D A (va_pl L (ent D.2 (T, N, I, J, E, Rf))) := hD.weaken (fun k0 q0 hk0 _ => h2 q0.1 (by
    obtain ⟨b, hb, e⟩ := List.mem_map.mp (List.mem_of_getElem? hk0)
    rw [← e]; exact (hL b).mp hb))
  refine va_put O.1 O.2.1 O.2.2.2.2.1 f4 ty0 f5 f6 O.2.2.2.1 O.2.2.2.2.2.1 hP hA h3 q hq2 f1 k f2 (O.2.2.2.2.1 _ f3) (fun _ h => h) f7 (by rw [f5 k f2, f8]) hn hfit (by rw [flds_len]; exact (List.getElem?_eq_some_iff.mp ht).1) hd (fun H1 locs1 p1 p2 p3 => ?_)
  refine kk O H1 locs1 ls ?_ h2 p3 h4
  refine wd_set hL hm hD hq (fun _ => rfl) (e := .inr (ci, (flds (I a) (J a) (Rf a) (lay ci)).set k (.int x))) ?_ (fun b hb => ent_congr rfl rfl (funext fun z => by simp [u2, hb]) rfl rfl rfl) p1 (p2.weaken (fun _ _ _ _ => trivial))
  rw [ent_obj hT hc, ← flds_set ht (v := (.int x)) (i' := (u2 I a k x) a) (j' := J a) (r' := Rf a) (by rcases ht2 with rfl | rfl <;> simp [fv, u2_s]) (fun k' hk' => ?_)]
  simp [u2, hk']
theorem v_putJ {cc : ByteArray} {own : String} {nL : Nat} {R : Room} {D : DT} {K : KT} {pc : Nat} {lv : LV} {st : List Value} {T N : Nat → Nat} {I : Nat → Nat → Int32} {J : Nat → Nat → Int64} {E : Nat → Nat → UInt64} {Rf : Nat → Nat → Option Nat} {n : Nat × Nat} {a idx ci k t : Nat} {ty : FieldType} {x : Int64} (hd : decode cc pc = .ok (.putfield idx, 3)) (hF : FW own idx ci k ty false) (ht : (lay ci)[k]? = some t) (ht2 : t = 1) (hT : T a = ci + 1) (hn : narrow ty (.long x) = (.long x)) (hfit : fits ty (.long x) = true) (kk : V cc own nL R D K (pc + 3) lv st (T, N, I, (u2 J a k x), E, Rf) n) : V cc own nL R D K pc lv ((.long x) :: .ref a :: st) (T, N, I, J, E, Rf) n := by
  obtain ⟨p, l, e, s, m, args, below, meth, c, A, Q⟩ := K
  intro O H locs ls h1 h2 h3 h4
  obtain ⟨C0, T0, N0, ty0, f1, f2, f3, f4, f5, f6, f7, f8, f9⟩ := hF
  have hc := cls_lt f1
  obtain ⟨L, q, hL, hm, hP, hD, hq⟩ := wd_at h1 (a := a) (by show T a ≠ 0; omega)
  have hq2 := hq
  rw [ent_obj hT hc] at hq2
  have hA : va_D A (va_pl L (ent D.2 (T, N, I, J, E, Rf))) := hD.weaken (fun k0 q0 hk0 _ => h2 q0.1 (by
    obtain ⟨b, hb, e⟩ := List.mem_map.mp (List.mem_of_getElem? hk0)
    rw [← e]; exact (hL b).mp hb))
  refine va_put O.1 O.2.1 O.2.2.2.2.1 f4 ty0 f5 f6 O.2.2.2.1 O.2.2.2.2.2.1 hP hA h3 q hq2 f1 k f2 (O.2.2.2.2.1 _ f3) (fun _ h => h) f7 (by rw [f5 k f2, f8]) hn hfit (by rw [flds_len]; exact (List.getElem?_eq_some_iff.mp ht).1) hd (fun H1 locs1 p1 p2 p3 => ?_)
  refine kk O H1 locs1 ls ?_ h2 p3 h4
  refine wd_set hL hm hD hq (fun _ => rfl) (e := .inr (ci, (flds (I a) (J a) (Rf a) (lay ci)).set k (.long x))) ?_ (fun b hb => ent_congr rfl rfl rfl (funext fun z => by simp [u2, hb]) rfl rfl) p1 (p2.weaken (fun _ _ _ _ => trivial))
  rw [ent_obj hT hc, ← flds_set ht (v := (.long x)) (i' := I a) (j' := (u2 J a k x) a) (r' := Rf a) (by subst ht2; simp [fv, u2_s]) (fun k' hk' => ?_)]
  simp [u2, hk']
theorem v_putR {cc : ByteArray} {own : String} {nL : Nat} {R : Room} {D : DT} {K : KT} {pc : Nat} {lv : LV} {st : List Value} {T N : Nat → Nat} {I : Nat → Nat → Int32} {J : Nat → Nat → Int64} {E : Nat → Nat → UInt64} {Rf : Nat → Nat → Option Nat} {n : Nat × Nat} {a idx ci k t : Nat} {ty : FieldType} {x : Nat} (hd : decode cc pc = .ok (.putfield idx, 3)) (hF : FW own idx ci k ty false) (ht : (lay ci)[k]? = some t) (ht2 : t = 2) (hT : T a = ci + 1) (hn : narrow ty (.ref x) = (.ref x)) (hfit : fits ty (.ref x) = true) (kk : V cc own nL R D K (pc + 3) lv st (T, N, I, J, E, (u2 Rf a k (some x))) n) : V cc own nL R D K pc lv ((.ref x) :: .ref a :: st) (T, N, I, J, E, Rf) n := by
  obtain ⟨p, l, e, s, m, args, below, meth, c, A, Q⟩ := K
  intro O H locs ls h1 h2 h3 h4
  obtain ⟨C0, T0, N0, ty0, f1, f2, f3, f4, f5, f6, f7, f8, f9⟩ := hF
  have hc := cls_lt f1
  obtain ⟨L, q, hL, hm, hP, hD, hq⟩ := wd_at h1 (a := a) (by show T a ≠ 0; omega)
  have hq2 := hq
  rw [ent_obj hT hc] at hq2
  have hA : va_D A (va_pl L (ent D.2 (T, N, I, J, E, Rf))) := hD.weaken (fun k0 q0 hk0 _ => h2 q0.1 (by
    obtain ⟨b, hb, e⟩ := List.mem_map.mp (List.mem_of_getElem? hk0)
    rw [← e]; exact (hL b).mp hb))
  refine va_put O.1 O.2.1 O.2.2.2.2.1 f4 ty0 f5 f6 O.2.2.2.1 O.2.2.2.2.2.1 hP hA h3 q hq2 f1 k f2 (O.2.2.2.2.1 _ f3) (fun _ h => h) f7 (by rw [f5 k f2, f8]) hn hfit (by rw [flds_len]; exact (List.getElem?_eq_some_iff.mp ht).1) hd (fun H1 locs1 p1 p2 p3 => ?_)
  refine kk O H1 locs1 ls ?_ h2 p3 h4
  refine wd_set hL hm hD hq (fun _ => rfl) (e := .inr (ci, (flds (I a) (J a) (Rf a) (lay ci)).set k (.ref x))) ?_ (fun b hb => ent_congr rfl rfl rfl rfl rfl (funext fun z => by simp [u2, hb])) p1 (p2.weaken (fun _ _ _ _ => trivial))
  rw [ent_obj hT hc, ← flds_set ht (v := (.ref x)) (i' := I a) (j' := J a) (r' := (u2 Rf a k (some x)) a) (by subst ht2; simp [fv, u2_s, va_rf]) (fun k' hk' => ?_)]
  simp [u2, hk']
theorem v_putIF {cc : ByteArray} {own : String} {nL : Nat} {R : Room} {D : DT} {K : KT} {pc : Nat} {lv : LV} {st : List Value} {T N : Nat → Nat} {I : Nat → Nat → Int32} {J : Nat → Nat → Int64} {E : Nat → Nat → UInt64} {Rf : Nat → Nat → Option Nat} {n : Nat × Nat} {a idx ci k t : Nat} {ty : FieldType} {x : Int32} (hd : decode cc pc = .ok (.putfield idx, 3)) (hF : FW own idx ci k ty true) (hin : K.2.2.2.2.2.2.2.1.name = "<init>") (ht : (lay ci)[k]? = some t) (ht2 : t = 0 ∨ t = 3) (hT : T a = ci + 1) (hn : narrow ty (.int x) = (.int x)) (hfit : fits ty (.int x) = true) (kk : V cc own nL R D K (pc + 3) lv st (T, N, (u2 I a k x), J, E, Rf) n) : V cc own nL R D K pc lv ((.int x) :: .ref a :: st) (T, N, I, J, E, Rf) n := by
  obtain ⟨p, l, e, s, m, args, below, meth, c, A, Q⟩ := K
  intro O H locs ls h1 h2 h3 h4
  obtain ⟨C0, T0, N0, ty0, f1, f2, f3, f4, f5, f6, f7, f8, f9⟩ := hF
  have hc := cls_lt f1
  obtain ⟨L, q, hL, hm, hP, hD, hq⟩ := wd_at h1 (a := a) (by show T a ≠ 0; omega)
  have hq2 := hq
  rw [ent_obj hT hc] at hq2
  have hA : va_D A (va_pl L (ent D.2 (T, N, I, J, E, Rf))) := hD.weaken (fun k0 q0 hk0 _ => h2 q0.1 (by
    obtain ⟨b, hb, e⟩ := List.mem_map.mp (List.mem_of_getElem? hk0)
    rw [← e]; exact (hL b).mp hb))
  have f9r := f9 rfl
  refine va_putF O.1 O.2.1 O.2.2.2.2.1 f4 ty0 f5 f6 O.2.2.2.1 O.2.2.2.2.2.1 hP hA h3 q hq2 f1 k f2 (O.2.2.2.2.1 _ f3) (fun _ h => h) f7 hin f9r (by rw [f5 k f2, f8]) hn hfit (by rw [flds_len]; exact (List.getElem?_eq_some_iff.mp ht).1) hd (fun H1 locs1 p1 p2 p3 => ?_)
  refine kk O H1 locs1 ls ?_ h2 p3 h4
  refine wd_set hL hm hD hq (fun _ => rfl) (e := .inr (ci, (flds (I a) (J a) (Rf a) (lay ci)).set k (.int x))) ?_ (fun b hb => ent_congr rfl rfl (funext fun z => by simp [u2, hb]) rfl rfl rfl) p1 (p2.weaken (fun _ _ _ _ => trivial))
  rw [ent_obj hT hc, ← flds_set ht (v := (.int x)) (i' := (u2 I a k x) a) (j' := J a) (r' := Rf a) (by rcases ht2 with rfl | rfl <;> simp [fv, u2_s]) (fun k' hk' => ?_)]
  simp [u2, hk']
theorem v_putJF {cc : ByteArray} {own : String} {nL : Nat} {R : Room} {D : DT} {K : KT} {pc : Nat} {lv : LV} {st : List Value} {T N : Nat → Nat} {I : Nat → Nat → Int32} {J : Nat → Nat → Int64} {E : Nat → Nat → UInt64} {Rf : Nat → Nat → Option Nat} {n : Nat × Nat} {a idx ci k t : Nat} {ty : FieldType} {x : Int64} (hd : decode cc pc = .ok (.putfield idx, 3)) (hF : FW own idx ci k ty true) (hin : K.2.2.2.2.2.2.2.1.name = "<init>") (ht : (lay ci)[k]? = some t) (ht2 : t = 1) (hT : T a = ci + 1) (hn : narrow ty (.long x) = (.long x)) (hfit : fits ty (.long x) = true) (kk : V cc own nL R D K (pc + 3) lv st (T, N, I, (u2 J a k x), E, Rf) n) : V cc own nL R D K pc lv ((.long x) :: .ref a :: st) (T, N, I, J, E, Rf) n := by
  obtain ⟨p, l, e, s, m, args, below, meth, c, A, Q⟩ := K
  intro O H locs ls h1 h2 h3 h4
  obtain ⟨C0, T0, N0, ty0, f1, f2, f3, f4, f5, f6, f7, f8, f9⟩ := hF
  have hc := cls_lt f1
  obtain ⟨L, q, hL, hm, hP, hD, hq⟩ := wd_at h1 (a := a) (by show T a ≠ 0; omega)
  have hq2 := hq
  rw [ent_obj hT hc] at hq2
  have hA : va_D A (va_pl L (ent D.2 (T, N, I, J, E, Rf))) := hD.weaken (fun k0 q0 hk0 _ => h2 q0.1 (by
    obtain ⟨b, hb, e⟩ := List.mem_map.mp (List.mem_of_getElem? hk0)
    rw [← e]; exact (hL b).mp hb))
  have f9r := f9 rfl
  refine va_putF O.1 O.2.1 O.2.2.2.2.1 f4 ty0 f5 f6 O.2.2.2.1 O.2.2.2.2.2.1 hP hA h3 q hq2 f1 k f2 (O.2.2.2.2.1 _ f3) (fun _ h => h) f7 hin f9r (by rw [f5 k f2, f8]) hn hfit (by rw [flds_len]; exact (List.getElem?_eq_some_iff.mp ht).1) hd (fun H1 locs1 p1 p2 p3 => ?_)
  refine kk O H1 locs1 ls ?_ h2 p3 h4
  refine wd_set hL hm hD hq (fun _ => rfl) (e := .inr (ci, (flds (I a) (J a) (Rf a) (lay ci)).set k (.long x))) ?_ (fun b hb => ent_congr rfl rfl rfl (funext fun z => by simp [u2, hb]) rfl rfl) p1 (p2.weaken (fun _ _ _ _ => trivial))
  rw [ent_obj hT hc, ← flds_set ht (v := (.long x)) (i' := I a) (j' := (u2 J a k x) a) (r' := Rf a) (by subst ht2; simp [fv, u2_s]) (fun k' hk' => ?_)]
  simp [u2, hk']
theorem v_putRF {cc : ByteArray} {own : String} {nL : Nat} {R : Room} {D : DT} {K : KT} {pc : Nat} {lv : LV} {st : List Value} {T N : Nat → Nat} {I : Nat → Nat → Int32} {J : Nat → Nat → Int64} {E : Nat → Nat → UInt64} {Rf : Nat → Nat → Option Nat} {n : Nat × Nat} {a idx ci k t : Nat} {ty : FieldType} {x : Nat} (hd : decode cc pc = .ok (.putfield idx, 3)) (hF : FW own idx ci k ty true) (hin : K.2.2.2.2.2.2.2.1.name = "<init>") (ht : (lay ci)[k]? = some t) (ht2 : t = 2) (hT : T a = ci + 1) (hn : narrow ty (.ref x) = (.ref x)) (hfit : fits ty (.ref x) = true) (kk : V cc own nL R D K (pc + 3) lv st (T, N, I, J, E, (u2 Rf a k (some x))) n) : V cc own nL R D K pc lv ((.ref x) :: .ref a :: st) (T, N, I, J, E, Rf) n := by
  obtain ⟨p, l, e, s, m, args, below, meth, c, A, Q⟩ := K
  intro O H locs ls h1 h2 h3 h4
  obtain ⟨C0, T0, N0, ty0, f1, f2, f3, f4, f5, f6, f7, f8, f9⟩ := hF
  have hc := cls_lt f1
  obtain ⟨L, q, hL, hm, hP, hD, hq⟩ := wd_at h1 (a := a) (by show T a ≠ 0; omega)
  have hq2 := hq
  rw [ent_obj hT hc] at hq2
  have hA : va_D A (va_pl L (ent D.2 (T, N, I, J, E, Rf))) := hD.weaken (fun k0 q0 hk0 _ => h2 q0.1 (by
    obtain ⟨b, hb, e⟩ := List.mem_map.mp (List.mem_of_getElem? hk0)
    rw [← e]; exact (hL b).mp hb))
  have f9r := f9 rfl
  refine va_putF O.1 O.2.1 O.2.2.2.2.1 f4 ty0 f5 f6 O.2.2.2.1 O.2.2.2.2.2.1 hP hA h3 q hq2 f1 k f2 (O.2.2.2.2.1 _ f3) (fun _ h => h) f7 hin f9r (by rw [f5 k f2, f8]) hn hfit (by rw [flds_len]; exact (List.getElem?_eq_some_iff.mp ht).1) hd (fun H1 locs1 p1 p2 p3 => ?_)
  refine kk O H1 locs1 ls ?_ h2 p3 h4
  refine wd_set hL hm hD hq (fun _ => rfl) (e := .inr (ci, (flds (I a) (J a) (Rf a) (lay ci)).set k (.ref x))) ?_ (fun b hb => ent_congr rfl rfl rfl rfl rfl (funext fun z => by simp [u2, hb])) p1 (p2.weaken (fun _ _ _ _ => trivial))
  rw [ent_obj hT hc, ← flds_set ht (v := (.ref x)) (i' := I a) (j' := J a) (r' := (u2 Rf a k (some x)) a) (by subst ht2; simp [fv, u2_s, va_rf]) (fun k' hk' => ?_)]
  simp [u2, hk']
def Gnew (G : GT) (q k sz : Nat) : GT := (u1 G.1 q k, u1 G.2.1 q sz, c2 G.2.2.1 q 0, c2 G.2.2.2.1 q 0, c2 G.2.2.2.2.1 q 0, c2 G.2.2.2.2.2 q none)
theorem Gnew_o {dA : Nat → ClassId} {G : GT} {q k sz b : Nat} (hb : b ≠ q) : ent dA (Gnew G q k sz) b = ent dA G b := by
  obtain ⟨T, N, I, J, E, Rf⟩ := G
  exact ent_congr (by simp [u1, hb]) (by simp [u1, hb]) (funext fun z => by simp [c2, hb]) (funext fun z => by simp [c2, hb]) (funext fun z => by simp [c2, hb]) (funext fun z => by simp [c2, hb])
theorem dom_new {A : Nat → Prop} {G : GT} {q k sz : Nat} (h : ∀ b : Nat, G.1 b ≠ 0 → A b) (hq : A q) : ∀ b : Nat, (Gnew G q k sz).1 b ≠ 0 → A b := by
  intro b hb
  by_cases e : b = q
  · subst e; exact hq
  · exact h b (by simpa [Gnew, u1, e] using hb)
theorem v_new {cc : ByteArray} {own : String} {nL : Nat} {R : Room} {D : DT} {K : KT} {pc : Nat} {lv : LV} {st : List Value} {G : GT} {n : Nat × Nat} {idx ci : Nat} (hd : decode cc pc = .ok (.new idx, 3)) (hF : NW own idx ci) (hc : n.1 + 1 ≤ R.cells ∧ n.2 + (lay ci).length ≤ R.slots) (kk : ∀ q : Nat, G.1 q = 0 → V cc own nL R D K (pc + 3) lv (.ref q :: st) (Gnew G q (ci + 1) 0) (n.1 + 1, n.2 + (lay ci).length)) : V cc own nL R D K pc lv st G n := by
  obtain ⟨p, l, e, s, m, args, below, meth, c, A, Q⟩ := K
  intro O H locs ls h1 h2 h3 h4
  obtain ⟨C0, T0, N0, ty0, f1, f2, f3, f4, f5, f6, f7, f8⟩ := hF
  have hA : ∀ {L : List Nat}, (∀ b, b ∈ L ↔ G.1 b ≠ 0) → va_D (fun _ => True) (va_pl L (ent D.2 G)) → va_D A (va_pl L (ent D.2 G)) := fun hL hD => hD.weaken (fun k0 q0 hk0 _ => h2 q0.1 (by
    obtain ⟨b, hb, e⟩ := List.mem_map.mp (List.mem_of_getElem? hk0)
    rw [← e]; exact (hL b).mp hb))
  obtain ⟨L, hL, hP, hD⟩ := h1
  subst f2
  refine va_new (ci := ci) (fs := flds (fun _ => 0) (fun _ => 0) (fun _ => none) (lay ci)) O.1 O.2.1 O.2.2.2.2.1 f3 ty0 f4 O.2.2.2.1 (O.2.2.2.2.1 _ f6) (O.2.2.2.2.1 _ f7) (O.2.2.2.2.1 _ f8) O.2.2.2.2.2.1 hP (hA hL hD) h3 O.2.2.2.2.2.2.1 f1 f5 hc.1 hc.2 hd (fun q H1 p1 p2 p3 => ?_)
  have hq : A q := p2.2 (va_pl L (ent D.2 G)).length (q, .inr (ci, flds (fun _ => 0) (fun _ => 0) (fun _ => none) (lay ci))) (by rw [List.getElem?_append_right (Nat.le_refl _), Nat.sub_self]; rfl)
  obtain ⟨g1, g2⟩ := wd_push (G' := Gnew G q (ci + 1) 0) hL p1 (p2.weaken (fun _ _ _ _ => trivial)) (fun b hb => by simp [Gnew, u1, hb]) (by simp [Gnew, u1]) (by
    obtain ⟨T, N, I, J, E, Rf⟩ := G
    rw [show Gnew (T, N, I, J, E, Rf) q (ci + 1) 0 = (u1 T q (ci + 1), u1 N q 0, c2 I q 0, c2 J q 0, c2 E q 0, c2 Rf q none) from rfl, ent_obj (u1_s T q (ci + 1)) (cls_lt f1)]
    simp [c2_at]) (fun b hb => Gnew_o hb)
  exact kk q g1 O H1 locs ls g2 (dom_new h2 hq) p3 h4
theorem K_arr {D : DT} {s : State} {k : Nat} {ty : FieldType} {cA : ClassId} (hK : va_K D.1 cls (tysL D.2) s) (ht : (tysL D.2)[k]? = some (D.2 (k + 11), ty)) (h : va_K D.1 cls (tysL D.2 ++ [(cA, ty)]) s) : cA = D.2 (k + 11) := by
  have h1 := (hK.2 k _ ht).2
  have h2 := (h.2 (tysL D.2).length (cA, ty) (by rw [List.getElem?_append_right (Nat.le_refl _), Nat.sub_self]; rfl)).2
  cases ty with
  | object C =>
    obtain ⟨_, _, _, _, _, e1⟩ := h1
    obtain ⟨_, _, _, _, _, e2⟩ := h2
    exact Option.some.inj (e2.symm.trans e1)
  | _ => exact Option.some.inj (Eq.trans (Eq.symm (show s.vm.findClass _ = some cA from h2)) h1)
theorem v_newI {cc : ByteArray} {own : String} {nL : Nat} {R : Room} {D : DT} {K : KT} {pc : Nat} {lv : LV} {st : List Value} {G : GT} {n : Nat × Nat} {atype : ArrayType} {ty : FieldType} {k z : Nat} {x : Int32} (hd : decode cc pc = .ok (.newarray atype, 2)) (hk : k = 0 ∨ k = 2 ∨ k = 3) (hty : newarray.typeOf atype = ty) (ht : (tysL D.2)[k]? = some (D.2 (k + 11), ty)) (hw : Cond.arrayClass ty ∈ lw_all) (ha : ∀ cA : ClassId, vp_cell cA (z, .inl (fun _ => 0)) = arrV cA z (fun _ => defaultValue ty)) (hx : ¬ x < 0) (hz : x.toNatClampNeg = z) (hb : z * componentBytes ty ≤ 536870912) (hc : n.1 + 1 ≤ R.cells ∧ n.2 + z ≤ R.slots) (kk : ∀ q : Nat, G.1 q = 0 → V cc own nL R D K (pc + 2) lv (.ref q :: st) (Gnew G q (k + 11) z) (n.1 + 1, n.2 + z)) : V cc own nL R D K pc lv (.int x :: st) G n := by
  obtain ⟨p, l, e, s, m, args, below, meth, c, A, Q⟩ := K
  intro O H locs ls h1 h2 h3 h4
  have hA : ∀ {L : List Nat}, (∀ b, b ∈ L ↔ G.1 b ≠ 0) → va_D (fun _ => True) (va_pl L (ent D.2 G)) → va_D A (va_pl L (ent D.2 G)) := fun hL hD => hD.weaken (fun k0 q0 hk0 _ => h2 q0.1 (by
    obtain ⟨b, hb, e⟩ := List.mem_map.mp (List.mem_of_getElem? hk0)
    rw [← e]; exact (hL b).mp hb))
  obtain ⟨L, hL, hP, hD⟩ := h1
  refine va_newa O.1 O.2.1 (by rw [hty]; exact O.2.2.2.2.1 _ hw) hty O.2.2.2.2.2.1 hP (hA hL hD) h3 O.2.2.2.2.2.2.1 ha hx hz hb hc.1 hc.2 hd (fun q cA H1 p0 p1 p2 p3 => ?_)
  have e := K_arr O.2.2.2.2.2.1 ht p0
  subst e
  have hq : A q := p2.2 (va_pl L (ent D.2 G)).length _ (by rw [List.getElem?_append_right (Nat.le_refl _), Nat.sub_self]; rfl)
  obtain ⟨g1, g2⟩ := wd_push (G' := Gnew G q (k + 11) z) hL p1 (p2.weaken (fun _ _ _ _ => trivial)) (fun b hb => by simp [Gnew, u1, hb]) (by simp [Gnew, u1]) (by
    obtain ⟨T, N, I, J, E, Rf⟩ := G
    rw [show Gnew (T, N, I, J, E, Rf) q (k + 11) z = (u1 T q (k + 11), u1 N q z, c2 I q 0, c2 J q 0, c2 E q 0, c2 Rf q none) from rfl, ent_int (u1_s T q (k + 11)) (by omega)]
    simp [c2_at, u1]) (fun b hb => Gnew_o hb)
  exact kk q g1 O H1 locs ls g2 (dom_new h2 hq) p3 h4
theorem v_newJ {cc : ByteArray} {own : String} {nL : Nat} {R : Room} {D : DT} {K : KT} {pc : Nat} {lv : LV} {st : List Value} {G : GT} {n : Nat × Nat} {atype : ArrayType} {ty : FieldType} {k z : Nat} {x : Int32} (hd : decode cc pc = .ok (.newarray atype, 2)) (hk : k = 1) (hty : newarray.typeOf atype = ty) (ht : (tysL D.2)[k]? = some (D.2 (k + 11), ty)) (hw : Cond.arrayClass ty ∈ lw_all) (ha : ∀ cA : ClassId, vp_cell cA (z, .inr (.inl (fun _ => 0))) = arrV cA z (fun _ => defaultValue ty)) (hx : ¬ x < 0) (hz : x.toNatClampNeg = z) (hb : z * componentBytes ty ≤ 536870912) (hc : n.1 + 1 ≤ R.cells ∧ n.2 + z ≤ R.slots) (kk : ∀ q : Nat, G.1 q = 0 → V cc own nL R D K (pc + 2) lv (.ref q :: st) (Gnew G q (k + 11) z) (n.1 + 1, n.2 + z)) : V cc own nL R D K pc lv (.int x :: st) G n := by
  obtain ⟨p, l, e, s, m, args, below, meth, c, A, Q⟩ := K
  intro O H locs ls h1 h2 h3 h4
  have hA : ∀ {L : List Nat}, (∀ b, b ∈ L ↔ G.1 b ≠ 0) → va_D (fun _ => True) (va_pl L (ent D.2 G)) → va_D A (va_pl L (ent D.2 G)) := fun hL hD => hD.weaken (fun k0 q0 hk0 _ => h2 q0.1 (by
    obtain ⟨b, hb, e⟩ := List.mem_map.mp (List.mem_of_getElem? hk0)
    rw [← e]; exact (hL b).mp hb))
  obtain ⟨L, hL, hP, hD⟩ := h1
  refine va_newa O.1 O.2.1 (by rw [hty]; exact O.2.2.2.2.1 _ hw) hty O.2.2.2.2.2.1 hP (hA hL hD) h3 O.2.2.2.2.2.2.1 ha hx hz hb hc.1 hc.2 hd (fun q cA H1 p0 p1 p2 p3 => ?_)
  have e := K_arr O.2.2.2.2.2.1 ht p0
  subst e
  have hq : A q := p2.2 (va_pl L (ent D.2 G)).length _ (by rw [List.getElem?_append_right (Nat.le_refl _), Nat.sub_self]; rfl)
  obtain ⟨g1, g2⟩ := wd_push (G' := Gnew G q (k + 11) z) hL p1 (p2.weaken (fun _ _ _ _ => trivial)) (fun b hb => by simp [Gnew, u1, hb]) (by simp [Gnew, u1]) (by
    obtain ⟨T, N, I, J, E, Rf⟩ := G
    rw [show Gnew (T, N, I, J, E, Rf) q (k + 11) z = (u1 T q (k + 11), u1 N q z, c2 I q 0, c2 J q 0, c2 E q 0, c2 Rf q none) from rfl, ent_long (by subst hk; exact u1_s T q 12)]
    simp [c2_at, u1]; subst hk; rfl) (fun b hb => Gnew_o hb)
  exact kk q g1 O H1 locs ls g2 (dom_new h2 hq) p3 h4
theorem v_newQ {cc : ByteArray} {own : String} {nL : Nat} {R : Room} {D : DT} {K : KT} {pc : Nat} {lv : LV} {st : List Value} {G : GT} {n : Nat × Nat} {idx : Nat} {C : String} {k z : Nat} {x : Int32} (hd : decode cc pc = .ok (.anewarray idx, 3)) (hk : 5 ≤ k) (ht : (tysL D.2)[k]? = some (D.2 (k + 11), .object C)) (hw : Cond.classLink own idx C ∈ lw_all) (hov : Cond.arrayOver (.object C) ∈ ngW) (hx : ¬ x < 0) (hz : x.toNatClampNeg = z) (hb : z * 4 ≤ 536870912) (hc : n.1 + 1 ≤ R.cells ∧ n.2 + z ≤ R.slots) (kk : ∀ q : Nat, G.1 q = 0 → V cc own nL R D K (pc + 3) lv (.ref q :: st) (Gnew G q (k + 11) z) (n.1 + 1, n.2 + z)) : V cc own nL R D K pc lv (.int x :: st) G n := by
  obtain ⟨p, l, e, s, m, args, below, meth, c, A, Q⟩ := K
  intro O H locs ls h1 h2 h3 h4
  have hA : ∀ {L : List Nat}, (∀ b, b ∈ L ↔ G.1 b ≠ 0) → va_D (fun _ => True) (va_pl L (ent D.2 G)) → va_D A (va_pl L (ent D.2 G)) := fun hL hD => hD.weaken (fun k0 q0 hk0 _ => h2 q0.1 (by
    obtain ⟨b, hb, e⟩ := List.mem_map.mp (List.mem_of_getElem? hk0)
    rw [← e]; exact (hL b).mp hb))
  obtain ⟨L, hL, hP, hD⟩ := h1
  refine va_newq O.1 O.2.1 O.2.2.2.1 (O.2.2.2.2.1 _ hw) (O.2.2.2.2.2.2.2.2.1.2.2.1 _ hov) O.2.2.2.2.2.1 hP (hA hL hD) h3 O.2.2.2.2.2.2.1 hx hz hb hc.1 hc.2 hd (fun q cA H1 p0 p1 p2 p3 => ?_)
  have e := K_arr O.2.2.2.2.2.1 ht p0
  subst e
  have hq : A q := p2.2 (va_pl L (ent D.2 G)).length _ (by rw [List.getElem?_append_right (Nat.le_refl _), Nat.sub_self]; rfl)
  obtain ⟨g1, g2⟩ := wd_push (G' := Gnew G q (k + 11) z) hL p1 (p2.weaken (fun _ _ _ _ => trivial)) (fun b hb => by simp [Gnew, u1, hb]) (by simp [Gnew, u1]) (by
    obtain ⟨T, N, I, J, E, Rf⟩ := G
    rw [show Gnew (T, N, I, J, E, Rf) q (k + 11) z = (u1 T q (k + 11), u1 N q z, c2 I q 0, c2 J q 0, c2 E q 0, c2 Rf q none) from rfl, ent_ref (u1_s T q (k + 11)) (by omega)]
    simp [c2_at, u1]) (fun b hb => Gnew_o hb)
  exact kk q g1 O H1 locs ls g2 (dom_new h2 hq) p3 h4
theorem v_iald {cc : ByteArray} {own : String} {nL : Nat} {R : Room} {D : DT} {K : KT} {pc : Nat} {lv : LV} {st : List Value} {T N : Nat → Nat} {I : Nat → Nat → Int32} {J : Nat → Nat → Int64} {E : Nat → Nat → UInt64} {Rf : Nat → Nat → Option Nat} {n : Nat × Nat} {a j z : Nat} {i : Int32} (hd : decode cc pc = .ok (.iaload, 1)) (hT : T a = 11) (hN : N a = z) (hi : i = nI j) (hj : j < z) (hz : z < 2147483648) (kk : V cc own nL R D K (pc + 1) lv (.int (I a j) :: st) (T, N, I, J, E, Rf) n) : V cc own nL R D K pc lv (.int i :: .ref a :: st) (T, N, I, J, E, Rf) n := by
  obtain ⟨p, l, e, s, m, args, below, meth, c, A, Q⟩ := K
  intro O H locs ls h1 h2 h3 h4
  subst hN
  subst hi
  have hin : vp_in (nI j) (N a) := vp_in_nI hj hz
  have hcl : (nI j).toNatClampNeg = j := nI_clamp (Nat.lt_trans hj hz)
  obtain ⟨L, q, hL, hm, hP, hD, hq⟩ := wd_at h1 (a := a) (by show T a ≠ 0; omega)
  have hq2 := hq
  rw [ent_int hT (Or.inl rfl)] at hq2
  refine va_iald O.1 O.2.1 O.2.2.2.2.2.1 hP q 0 hq2 rfl hin hd ?_
  rw [hcl]
  exact kk O H locs ls h1 h2 h3 h4
theorem v_zald {cc : ByteArray} {own : String} {nL : Nat} {R : Room} {D : DT} {K : KT} {pc : Nat} {lv : LV} {st : List Value} {T N : Nat → Nat} {I : Nat → Nat → Int32} {J : Nat → Nat → Int64} {E : Nat → Nat → UInt64} {Rf : Nat → Nat → Option Nat} {n : Nat × Nat} {a j z : Nat} {i : Int32} (hd : decode cc pc = .ok (.baload, 1)) (hT : T a = 13) (hN : N a = z) (hi : i = nI j) (hj : j < z) (hz : z < 2147483648) (kk : V cc own nL R D K (pc + 1) lv (.int (I a j) :: st) (T, N, I, J, E, Rf) n) : V cc own nL R D K pc lv (.int i :: .ref a :: st) (T, N, I, J, E, Rf) n := by
  obtain ⟨p, l, e, s, m, args, below, meth, c, A, Q⟩ := K
  intro O H locs ls h1 h2 h3 h4
  subst hN
  subst hi
  have hin : vp_in (nI j) (N a) := vp_in_nI hj hz
  have hcl : (nI j).toNatClampNeg = j := nI_clamp (Nat.lt_trans hj hz)
  obtain ⟨L, q, hL, hm, hP, hD, hq⟩ := wd_at h1 (a := a) (by show T a ≠ 0; omega)
  have hq2 := hq
  rw [ent_int hT (Or.inr (Or.inl rfl))] at hq2
  refine va_zald O.1 O.2.1 O.2.2.2.2.2.1 hP q 2 hq2 rfl hin hd ?_
  rw [hcl]
  exact kk O H locs ls h1 h2 h3 h4
theorem v_bald {cc : ByteArray} {own : String} {nL : Nat} {R : Room} {D : DT} {K : KT} {pc : Nat} {lv : LV} {st : List Value} {T N : Nat → Nat} {I : Nat → Nat → Int32} {J : Nat → Nat → Int64} {E : Nat → Nat → UInt64} {Rf : Nat → Nat → Option Nat} {n : Nat × Nat} {a j z : Nat} {i : Int32} (hd : decode cc pc = .ok (.baload, 1)) (hT : T a = 14) (hN : N a = z) (hi : i = nI j) (hj : j < z) (hz : z < 2147483648) (kk : V cc own nL R D K (pc + 1) lv (.int (I a j) :: st) (T, N, I, J, E, Rf) n) : V cc own nL R D K pc lv (.int i :: .ref a :: st) (T, N, I, J, E, Rf) n := by
  obtain ⟨p, l, e, s, m, args, below, meth, c, A, Q⟩ := K
  intro O H locs ls h1 h2 h3 h4
  subst hN
  subst hi
  have hin : vp_in (nI j) (N a) := vp_in_nI hj hz
  have hcl : (nI j).toNatClampNeg = j := nI_clamp (Nat.lt_trans hj hz)
  obtain ⟨L, q, hL, hm, hP, hD, hq⟩ := wd_at h1 (a := a) (by show T a ≠ 0; omega)
  have hq2 := hq
  rw [ent_int hT (Or.inr (Or.inr rfl))] at hq2
  refine va_bald O.1 O.2.1 O.2.2.2.2.2.1 hP q 3 hq2 rfl hin hd ?_
  rw [hcl]
  exact kk O H locs ls h1 h2 h3 h4
theorem v_lald {cc : ByteArray} {own : String} {nL : Nat} {R : Room} {D : DT} {K : KT} {pc : Nat} {lv : LV} {st : List Value} {T N : Nat → Nat} {I : Nat → Nat → Int32} {J : Nat → Nat → Int64} {E : Nat → Nat → UInt64} {Rf : Nat → Nat → Option Nat} {n : Nat × Nat} {a j z : Nat} {i : Int32} (hd : decode cc pc = .ok (.laload, 1)) (hT : T a = 12) (hN : N a = z) (hi : i = nI j) (hj : j < z) (hz : z < 2147483648) (kk : V cc own nL R D K (pc + 1) lv (.long (J a j) :: st) (T, N, I, J, E, Rf) n) : V cc own nL R D K pc lv (.int i :: .ref a :: st) (T, N, I, J, E, Rf) n := by
  obtain ⟨p, l, e, s, m, args, below, meth, c, A, Q⟩ := K
  intro O H locs ls h1 h2 h3 h4
  subst hN
  subst hi
  have hin : vp_in (nI j) (N a) := vp_in_nI hj hz
  have hcl : (nI j).toNatClampNeg = j := nI_clamp (Nat.lt_trans hj hz)
  obtain ⟨L, q, hL, hm, hP, hD, hq⟩ := wd_at h1 (a := a) (by show T a ≠ 0; omega)
  have hq2 := hq
  rw [ent_long hT] at hq2
  refine va_lald O.1 O.2.1 O.2.2.2.2.2.1 hP q 1 hq2 rfl hin hd ?_
  rw [hcl]
  exact kk O H locs ls h1 h2 h3 h4
theorem v_aald {cc : ByteArray} {own : String} {nL : Nat} {R : Room} {D : DT} {K : KT} {pc : Nat} {lv : LV} {st : List Value} {T N : Nat → Nat} {I : Nat → Nat → Int32} {J : Nat → Nat → Int64} {E : Nat → Nat → UInt64} {Rf : Nat → Nat → Option Nat} {n : Nat × Nat} {a j z k : Nat} {C : String} {i : Int32} (hd : decode cc pc = .ok (.aaload, 1)) (hT : T a = k + 11) (hk : 5 ≤ k) (ht : (tysL D.2)[k]? = some (D.2 (k + 11), .object C)) (hN : N a = z) (hi : i = nI j) (hj : j < z) (hz : z < 2147483648) (kn : Rf a j = none → V cc own nL R D K (pc + 1) lv (.null :: st) (T, N, I, J, E, Rf) n) (ks : ∀ b : Nat, Rf a j = some b → V cc own nL R D K (pc + 1) lv (.ref b :: st) (T, N, I, J, E, Rf) n) : V cc own nL R D K pc lv (.int i :: .ref a :: st) (T, N, I, J, E, Rf) n := by
  obtain ⟨p, l, e, s, m, args, below, meth, c, A, Q⟩ := K
  intro O H locs ls h1 h2 h3 h4
  subst hN
  subst hi
  have hin : vp_in (nI j) (N a) := vp_in_nI hj hz
  have hcl : (nI j).toNatClampNeg = j := nI_clamp (Nat.lt_trans hj hz)
  obtain ⟨L, q, hL, hm, hP, hD, hq⟩ := wd_at h1 (a := a) (by show T a ≠ 0; omega)
  have hq2 := hq
  rw [ent_ref hT (by omega)] at hq2
  refine va_aldq O.1 O.2.1 O.2.2.2.2.2.1 hP q k hq2 ht hin hd ?_
  rw [hcl]
  show W _ _ _ _ _ _ _ _ _ _ _ _ _ _ _ (F0 _ _ _ (va_rf (Rf a j) :: st))
  cases hr : Rf a j with
  | none => exact kn hr O H locs ls h1 h2 h3 h4
  | some b => exact ks b hr O H locs ls h1 h2 h3 h4
theorem v_alen {cc : ByteArray} {own : String} {nL : Nat} {R : Room} {D : DT} {K : KT} {pc : Nat} {lv : LV} {st : List Value} {T N : Nat → Nat} {I : Nat → Nat → Int32} {J : Nat → Nat → Int64} {E : Nat → Nat → UInt64} {Rf : Nat → Nat → Option Nat} {n : Nat × Nat} {a z k : Nat} {ty : FieldType} {v : Int32} (hd : decode cc pc = .ok (.arraylength, 1)) (hT : T a = k + 11) (ht : (tysL D.2)[k]? = some (D.2 (k + 11), ty)) (hN : N a = z) (hv : Int32.ofNat z = v) (kk : V cc own nL R D K (pc + 1) lv (.int v :: st) (T, N, I, J, E, Rf) n) : V cc own nL R D K pc lv (.ref a :: st) (T, N, I, J, E, Rf) n := by
  obtain ⟨p, l, e, s, m, args, below, meth, c, A, Q⟩ := K
  intro O H locs ls h1 h2 h3 h4
  subst hN
  obtain ⟨L, q, hL, hm, hP, hD, hq⟩ := wd_at h1 (a := a) (by show T a ≠ 0; omega)
  have hkl : k < 10 := (List.getElem?_eq_some_iff.mp ht).1
  obtain ⟨y, hy⟩ : ∃ y, ent D.2 (T, N, I, J, E, Rf) a = .inl (D.2 (k + 11), N a, y) := by
    rcases (show k = 0 ∨ k = 2 ∨ k = 3 ∨ k = 1 ∨ k = 4 ∨ 5 ≤ k by omega) with h | h | h | h | h | h
    · subst h; exact ⟨_, ent_int hT (Or.inl rfl)⟩
    · subst h; exact ⟨_, ent_int hT (Or.inr (Or.inl rfl))⟩
    · subst h; exact ⟨_, ent_int hT (Or.inr (Or.inr rfl))⟩
    · subst h; exact ⟨_, ent_long hT⟩
    · subst h; exact ⟨_, ent_dbl hT⟩
    · exact ⟨_, ent_ref hT (by omega)⟩
  rw [hy] at hq
  exact va_alen O.1 O.2.1 O.2.2.2.2.2.1 hP q k hq ht hv hd (kk O H locs ls h1 h2 h3 h4)
theorem v_iast {cc : ByteArray} {own : String} {nL : Nat} {R : Room} {D : DT} {K : KT} {pc : Nat} {lv : LV} {st : List Value} {T N : Nat → Nat} {I : Nat → Nat → Int32} {J : Nat → Nat → Int64} {E : Nat → Nat → UInt64} {Rf : Nat → Nat → Option Nat} {n : Nat × Nat} {a j z : Nat} {i : Int32} {x : Int32} (hd : decode cc pc = .ok (.iastore, 1)) (hT : T a = 11) (hN : N a = z) (hi : i = nI j) (hj : j < z) (hz : z < 2147483648) (kk : V cc own nL R D K (pc + 1) lv st (T, N, u2 I a j x, J, E, Rf) n) : V cc own nL R D K pc lv (.int x :: .int i :: .ref a :: st) (T, N, I, J, E, Rf) n := by
  obtain ⟨p, l, e, s, m, args, below, meth, c, A, Q⟩ := K
  intro O H locs ls h1 h2 h3 h4
  subst hN
  subst hi
  have hin : vp_in (nI j) (N a) := vp_in_nI hj hz
  have hcl : (nI j).toNatClampNeg = j := nI_clamp (Nat.lt_trans hj hz)
  obtain ⟨L, q, hL, hm, hP, hD, hq⟩ := wd_at h1 (a := a) (by show T a ≠ 0; omega)
  have hq2 := hq
  rw [ent_int hT (Or.inl rfl)] at hq2
  have hA : va_D A (va_pl L (ent D.2 (T, N, I, J, E, Rf))) := hD.weaken (fun k0 q0 hk0 _ => h2 q0.1 (by
    obtain ⟨b, hb, e⟩ := List.mem_map.mp (List.mem_of_getElem? hk0)
    rw [← e]; exact (hL b).mp hb))
  refine va_iast O.1 O.2.1 O.2.2.2.2.2.1 hP hA h3 q 0 hq2 rfl hin hd (fun H1 locs1 p1 p2 p3 => ?_)
  rw [hcl] at p1 p2
  refine kk O H1 locs1 ls ?_ h2 p3 h4
  refine wd_set hL hm hD hq (fun _ => rfl) ?_ (fun b hb => ent_congr rfl rfl (funext fun z0 => by simp [u2, hb]) rfl rfl rfl) p1 (p2.weaken (fun _ _ _ _ => trivial))
  rw [ent_int hT (Or.inl rfl)]
  exact congrArg (fun w => Sum.inl (D.2 11, N a, Sum.inl w)) (funext fun y => by simp [u2, upd])
theorem v_zast {cc : ByteArray} {own : String} {nL : Nat} {R : Room} {D : DT} {K : KT} {pc : Nat} {lv : LV} {st : List Value} {T N : Nat → Nat} {I : Nat → Nat → Int32} {J : Nat → Nat → Int64} {E : Nat → Nat → UInt64} {Rf : Nat → Nat → Option Nat} {n : Nat × Nat} {a j z : Nat} {i : Int32} {x : Int32} (hd : decode cc pc = .ok (.bastore, 1)) (hT : T a = 13) (hN : N a = z) (hi : i = nI j) (hj : j < z) (hz : z < 2147483648) (hx : vp_nar .boolean x = x) (kk : V cc own nL R D K (pc + 1) lv st (T, N, u2 I a j x, J, E, Rf) n) : V cc own nL R D K pc lv (.int x :: .int i :: .ref a :: st) (T, N, I, J, E, Rf) n := by
  obtain ⟨p, l, e, s, m, args, below, meth, c, A, Q⟩ := K
  intro O H locs ls h1 h2 h3 h4
  subst hN
  subst hi
  have hin : vp_in (nI j) (N a) := vp_in_nI hj hz
  have hcl : (nI j).toNatClampNeg = j := nI_clamp (Nat.lt_trans hj hz)
  obtain ⟨L, q, hL, hm, hP, hD, hq⟩ := wd_at h1 (a := a) (by show T a ≠ 0; omega)
  have hq2 := hq
  rw [ent_int hT (Or.inr (Or.inl rfl))] at hq2
  have hA : va_D A (va_pl L (ent D.2 (T, N, I, J, E, Rf))) := hD.weaken (fun k0 q0 hk0 _ => h2 q0.1 (by
    obtain ⟨b, hb, e⟩ := List.mem_map.mp (List.mem_of_getElem? hk0)
    rw [← e]; exact (hL b).mp hb))
  refine va_zast O.1 O.2.1 O.2.2.2.2.2.1 hP hA h3 q 2 hq2 rfl hin hd (fun H1 locs1 p1 p2 p3 => ?_)
  rw [hcl] at p1 p2
  refine kk O H1 locs1 ls ?_ h2 p3 h4
  refine wd_set hL hm hD hq (fun _ => rfl) ?_ (fun b hb => ent_congr rfl rfl (funext fun z0 => by simp [u2, hb]) rfl rfl rfl) p1 (p2.weaken (fun _ _ _ _ => trivial))
  rw [ent_int hT (Or.inr (Or.inl rfl))]
  exact congrArg (fun w => Sum.inl (D.2 13, N a, Sum.inl w)) (funext fun y => by simp [u2, upd, hx])
theorem v_bast {cc : ByteArray} {own : String} {nL : Nat} {R : Room} {D : DT} {K : KT} {pc : Nat} {lv : LV} {st : List Value} {T N : Nat → Nat} {I : Nat → Nat → Int32} {J : Nat → Nat → Int64} {E : Nat → Nat → UInt64} {Rf : Nat → Nat → Option Nat} {n : Nat × Nat} {a j z : Nat} {i : Int32} {x : Int32} (hd : decode cc pc = .ok (.bastore, 1)) (hT : T a = 14) (hN : N a = z) (hi : i = nI j) (hj : j < z) (hz : z < 2147483648) (hx : vp_nar .byte x = x) (kk : V cc own nL R D K (pc + 1) lv st (T, N, u2 I a j x, J, E, Rf) n) : V cc own nL R D K pc lv (.int x :: .int i :: .ref a :: st) (T, N, I, J, E, Rf) n := by
  obtain ⟨p, l, e, s, m, args, below, meth, c, A, Q⟩ := K
  intro O H locs ls h1 h2 h3 h4
  subst hN
  subst hi
  have hin : vp_in (nI j) (N a) := vp_in_nI hj hz
  have hcl : (nI j).toNatClampNeg = j := nI_clamp (Nat.lt_trans hj hz)
  obtain ⟨L, q, hL, hm, hP, hD, hq⟩ := wd_at h1 (a := a) (by show T a ≠ 0; omega)
  have hq2 := hq
  rw [ent_int hT (Or.inr (Or.inr rfl))] at hq2
  have hA : va_D A (va_pl L (ent D.2 (T, N, I, J, E, Rf))) := hD.weaken (fun k0 q0 hk0 _ => h2 q0.1 (by
    obtain ⟨b, hb, e⟩ := List.mem_map.mp (List.mem_of_getElem? hk0)
    rw [← e]; exact (hL b).mp hb))
  refine va_bast O.1 O.2.1 O.2.2.2.2.2.1 hP hA h3 q 3 hq2 rfl hin hd (fun H1 locs1 p1 p2 p3 => ?_)
  rw [hcl] at p1 p2
  refine kk O H1 locs1 ls ?_ h2 p3 h4
  refine wd_set hL hm hD hq (fun _ => rfl) ?_ (fun b hb => ent_congr rfl rfl (funext fun z0 => by simp [u2, hb]) rfl rfl rfl) p1 (p2.weaken (fun _ _ _ _ => trivial))
  rw [ent_int hT (Or.inr (Or.inr rfl))]
  exact congrArg (fun w => Sum.inl (D.2 14, N a, Sum.inl w)) (funext fun y => by simp [u2, upd, hx])
theorem v_last {cc : ByteArray} {own : String} {nL : Nat} {R : Room} {D : DT} {K : KT} {pc : Nat} {lv : LV} {st : List Value} {T N : Nat → Nat} {I : Nat → Nat → Int32} {J : Nat → Nat → Int64} {E : Nat → Nat → UInt64} {Rf : Nat → Nat → Option Nat} {n : Nat × Nat} {a j z : Nat} {i : Int32} {x : Int64} (hd : decode cc pc = .ok (.lastore, 1)) (hT : T a = 12) (hN : N a = z) (hi : i = nI j) (hj : j < z) (hz : z < 2147483648) (kk : V cc own nL R D K (pc + 1) lv st (T, N, I, u2 J a j x, E, Rf) n) : V cc own nL R D K pc lv (.long x :: .int i :: .ref a :: st) (T, N, I, J, E, Rf) n := by
  obtain ⟨p, l, e, s, m, args, below, meth, c, A, Q⟩ := K
  intro O H locs ls h1 h2 h3 h4
  subst hN
  subst hi
  have hin : vp_in (nI j) (N a) := vp_in_nI hj hz
  have hcl : (nI j).toNatClampNeg = j := nI_clamp (Nat.lt_trans hj hz)
  obtain ⟨L, q, hL, hm, hP, hD, hq⟩ := wd_at h1 (a := a) (by show T a ≠ 0; omega)
  have hq2 := hq
  rw [ent_long hT] at hq2
  have hA : va_D A (va_pl L (ent D.2 (T, N, I, J, E, Rf))) := hD.weaken (fun k0 q0 hk0 _ => h2 q0.1 (by
    obtain ⟨b, hb, e⟩ := List.mem_map.mp (List.mem_of_getElem? hk0)
    rw [← e]; exact (hL b).mp hb))
  refine va_last O.1 O.2.1 O.2.2.2.2.2.1 hP hA h3 q 1 hq2 rfl hin hd (fun H1 locs1 p1 p2 p3 => ?_)
  rw [hcl] at p1 p2
  refine kk O H1 locs1 ls ?_ h2 p3 h4
  refine wd_set hL hm hD hq (fun _ => rfl) ?_ (fun b hb => ent_congr rfl rfl rfl (funext fun z0 => by simp [u2, hb]) rfl rfl) p1 (p2.weaken (fun _ _ _ _ => trivial))
  rw [ent_long hT]
  exact congrArg (fun w => Sum.inl (D.2 12, N a, Sum.inr (Sum.inl w))) (funext fun y => by simp [u2, vp_updL])
theorem v_aast {cc : ByteArray} {own : String} {nL : Nat} {R : Room} {D : DT} {K : KT} {pc : Nat} {lv : LV} {st : List Value} {T N : Nat → Nat} {I : Nat → Nat → Int32} {J : Nat → Nat → Int64} {E : Nat → Nat → UInt64} {Rf : Nat → Nat → Option Nat} {n : Nat × Nat} {a j z k : Nat} {i : Int32} {v ci : Nat} {r : vw_C} (hd : decode cc pc = .ok (.aastore, 1)) (hT : T a = k + 11) (hk : 5 ≤ k) (ht : (tysL D.2)[k]? = some (D.2 (k + 11), .object r.1)) (hci : cls[ci]? = some r) (hTv : T v = ci + 1) (hN : N a = z) (hi : i = nI j) (hj : j < z) (hz : z < 2147483648) (kk : V cc own nL R D K (pc + 1) lv st (T, N, I, J, E, u2 Rf a j (some v)) n) : V cc own nL R D K pc lv (.ref v :: .int i :: .ref a :: st) (T, N, I, J, E, Rf) n := by
  obtain ⟨p, l, e, s, m, args, below, meth, c, A, Q⟩ := K
  intro O H locs ls h1 h2 h3 h4
  subst hN
  subst hi
  have hin : vp_in (nI j) (N a) := vp_in_nI hj hz
  have hcl : (nI j).toNatClampNeg = j := nI_clamp (Nat.lt_trans hj hz)
  obtain ⟨L, q, hL, hm, hP, hD, hq⟩ := wd_at h1 (a := a) (by show T a ≠ 0; omega)
  have hq2 := hq
  rw [ent_ref hT (by omega)] at hq2
  have hA : va_D A (va_pl L (ent D.2 (T, N, I, J, E, Rf))) := hD.weaken (fun k0 q0 hk0 _ => h2 q0.1 (by
    obtain ⟨b, hb, e⟩ := List.mem_map.mp (List.mem_of_getElem? hk0)
    rw [← e]; exact (hL b).mp hb))
  obtain ⟨qv, hqv⟩ := va_pl_get (X := []) (f := ent D.2 (T, N, I, J, E, Rf)) ((hL v).mpr (by show T v ≠ 0; omega))
  have hqv : (va_pl L (ent D.2 (T, N, I, J, E, Rf)))[qv]? = some (v, ent D.2 (T, N, I, J, E, Rf) v) := hqv
  rw [ent_obj hTv (cls_lt hci)] at hqv
  refine va_astq O.1 O.2.1 O.2.2.2.2.2.1 hP hA h3 q k qv ci hq2 ht hqv hci hin hd (fun H1 locs1 p1 p2 p3 => ?_)
  rw [hcl] at p1 p2
  refine kk O H1 locs1 ls ?_ h2 p3 h4
  refine wd_set hL hm hD hq (fun _ => rfl) ?_ (fun b hb => ent_congr rfl rfl rfl rfl rfl (funext fun z0 => by simp [u2, hb])) p1 (p2.weaken (fun _ _ _ _ => trivial))
  rw [ent_ref hT (by omega)]
  exact congrArg (fun w => Sum.inl (D.2 (k + 11), N a, Sum.inr (Sum.inr (Sum.inr (Sum.inr w))))) (funext fun y => by simp [u2, va_up])
theorem v_aastN {cc : ByteArray} {own : String} {nL : Nat} {R : Room} {D : DT} {K : KT} {pc : Nat} {lv : LV} {st : List Value} {T N : Nat → Nat} {I : Nat → Nat → Int32} {J : Nat → Nat → Int64} {E : Nat → Nat → UInt64} {Rf : Nat → Nat → Option Nat} {n : Nat × Nat} {a j z k : Nat} {i : Int32} {C : String} (hd : decode cc pc = .ok (.aastore, 1)) (hT : T a = k + 11) (hk : 5 ≤ k) (ht : (tysL D.2)[k]? = some (D.2 (k + 11), .object C)) (hN : N a = z) (hi : i = nI j) (hj : j < z) (hz : z < 2147483648) (kk : V cc own nL R D K (pc + 1) lv st (T, N, I, J, E, u2 Rf a j (none)) n) : V cc own nL R D K pc lv (.null :: .int i :: .ref a :: st) (T, N, I, J, E, Rf) n := by
  obtain ⟨p, l, e, s, m, args, below, meth, c, A, Q⟩ := K
  intro O H locs ls h1 h2 h3 h4
  subst hN
  subst hi
  have hin : vp_in (nI j) (N a) := vp_in_nI hj hz
  have hcl : (nI j).toNatClampNeg = j := nI_clamp (Nat.lt_trans hj hz)
  obtain ⟨L, q, hL, hm, hP, hD, hq⟩ := wd_at h1 (a := a) (by show T a ≠ 0; omega)
  have hq2 := hq
  rw [ent_ref hT (by omega)] at hq2
  have hA : va_D A (va_pl L (ent D.2 (T, N, I, J, E, Rf))) := hD.weaken (fun k0 q0 hk0 _ => h2 q0.1 (by
    obtain ⟨b, hb, e⟩ := List.mem_map.mp (List.mem_of_getElem? hk0)
    rw [← e]; exact (hL b).mp hb))
  refine va_astqN O.1 O.2.1 O.2.2.2.2.2.1 hP hA h3 q k hq2 ht hin hd (fun H1 locs1 p1 p2 p3 => ?_)
  rw [hcl] at p1 p2
  refine kk O H1 locs1 ls ?_ h2 p3 h4
  refine wd_set hL hm hD hq (fun _ => rfl) ?_ (fun b hb => ent_congr rfl rfl rfl rfl rfl (funext fun z0 => by simp [u2, hb])) p1 (p2.weaken (fun _ _ _ _ => trivial))
  rw [ent_ref hT (by omega)]
  exact congrArg (fun w => Sum.inl (D.2 (k + 11), N a, Sum.inr (Sum.inr (Sum.inr (Sum.inr w))))) (funext fun y => by simp [u2, va_up])
/-! CONTRACTS: over a whole typed heap; what they say of the answer and the heap behind -/
def frM (G : GT) (sz : Nat) : Nat → Prop := fun q => G.1 q ≠ 0 ∨ sz ≤ q
def PcM (D : DT) (As : List Value) (sz : Nat) (G : GT) : Array Value → State → Prop := fun a U => a = As.toArray ∧ U.heap.size = sz ∧ wd D G U.heap ∧ va_K D.1 cls (tysL D.2) U ∧ ES (frM G sz) U U.heap
def QcM (D : DT) (sz : Nat) (G : GT) (post : Option Value → GT → Prop) : Array Value → State → Outcome → State → Prop := fun _ st oc t => (∃ (v : Option Value) (G' : GT), oc = .returned v ∧ post v G' ∧ wd D G' t.heap ∧ ∀ q, G'.1 q ≠ 0 → frM G sz q) ∧ va_F (frM G sz) st t
def XcM (D : DT) (sz : Nat) (G : GT) (postX : String → GT → Prop) : String → State → State → Prop := fun E st t => (∃ G' : GT, postX E G' ∧ wd D G' t.heap ∧ ∀ q, G'.1 q ≠ 0 → frM G sz q) ∧ va_F (frM G sz) st t
def wsA (y : MethodName) (bytes : ByteArray) (maxL : Nat) (ret : Option FieldType) : List Cond := .code y bytes maxL ret :: lw_all
def MC (y : MethodName) (bytes : ByteArray) (maxL : Nat) (ret : Option FieldType) (rm : Room) (D : DT) (As : List Value) (G : GT) (post : Option Value → GT → Prop) : Prop := ∀ l : Launch, l.stackTraces = false → ∀ sz : Nat, Met l y (wsA y bytes maxL ret) rm (PcM D As sz G) (QcM D sz G post) rm.cells rm.slots (frM G sz)
def MX (y : MethodName) (bytes : ByteArray) (maxL : Nat) (ret : Option FieldType) (rm : Room) (D : DT) (As : List Value) (G : GT) (post : Option Value → GT → Prop) (postX : String → GT → Prop) : Prop := ∀ l : Launch, l.stackTraces = false → ∀ sz : Nat, vx_Met l y (wsA y bytes maxL ret) rm (PcM D As sz G) (QcM D sz G post) (XcM D sz G postX) rm.cells rm.slots (frM G sz)
def Rt (R : Room) (D : DT) (K : KT) (ret : Option FieldType) (nm : String) (sz : Nat) (G0 : GT) (post : Option Value → GT → Prop) : Prop := match K with
  | (_, _, _, s, _, args, below, meth, _, A, Q) => meth.sig.returnType = ret ∧ A = frM G0 sz ∧ s.heap.size = sz ∧ meth.name = nm ∧ ∀ t, MQ below (QcM D sz G0 post) args s R.cells R.slots (frM G0 sz) t → Q t
def Rx (R : Room) (D : DT) (K : KT) (sz : Nat) (G0 : GT) (post : Option Value → GT → Prop) (postX : String → GT → Prop) : Prop := match K with
  | (_, _, _, s, _, args, below, _, c, A, Q) => A = frM G0 sz ∧ s.heap.size = sz ∧ (∀ x ∈ c.exceptionTable.toList, False) ∧ ∀ t, vx_MQ below (QcM D sz G0 post) (XcM D sz G0 postX) args s R.cells R.slots (frM G0 sz) t → Q t
theorem PcM_blind (D : DT) (As : List Value) (sz : Nat) (G : GT) : FrameBlind (PcM D As sz G) := fun a U g mk h => ⟨h.1, h.2.1, h.2.2.1, va_K.moved (u := U) (U := U.calling g mk a) (Vm.Alike.refl U.vm) h.2.2.2.1, ES.warm (s := U) (U := U.calling g mk a) (State.WarmedH.refl U) h.2.2.2.2⟩
theorem MC_of {y : MethodName} {bytes : ByteArray} {maxL : Nat} {ret : Option FieldType} {rm : Room} {D : DT} {As : List Value} {G : GT} {post : Option Value → GT → Prop} (hy : plainName y.cls = true) (hl : (lg_sl As).length ≤ maxL) (h : ∀ (K : KT) (sz : Nat), Rt rm D K ret y.name sz G post → V bytes y.cls maxL rm D K 0 (lpad (lent As) maxL) [] G (0, 0)) : MC y bytes maxL ret rm D As G post := by
  intro l hfl sz
  refine Met.ofW (cc := bytes) (maxL := maxL) (ret := ret) hy rfl ?_
  intro p e s m args below meth c s₁ B hml hv
  obtain ⟨rfl, hsz, hwd, hK, hES⟩ := hv
  have hts := atoms_spec (ws := wsA y bytes maxL ret) B.pre
  subst hsz
  have hlv := lv_entry As (n := maxL) hl
  rw [lg_entry_eq]
  exact h (p, l, e, s, m, As.toArray, below, meth, c, frM G s.heap.size, MQ below (QcM D s.heap.size G post) As.toArray s rm.cells rm.slots (frM G s.heap.size)) s.heap.size ⟨B.returns, rfl, rfl, (name_of_methodNamed B.named B.method).1, fun _ h => h⟩ ⟨B.exec, B.bytes, hml, findClass_of_methodNamed B.named, fun w hw => hts w (List.mem_cons_of_mem _ hw), hK, fun q hq => Or.inr hq, B.notSynchronized, hES, hfl⟩ s.heap [] _ hwd (fun q hq => Or.inl hq) va_S.rf ⟨hlv.1, hlv.2.1, fun i v hg => hlv.2.2 (i, v) (by have := lent_args As 0 i v (lget_pad hg); simpa using this)⟩
theorem MX_of {y : MethodName} {bytes : ByteArray} {maxL : Nat} {ret : Option FieldType} {rm : Room} {D : DT} {As : List Value} {G : GT} {post : Option Value → GT → Prop} {postX : String → GT → Prop} (hy : plainName y.cls = true) (hl : (lg_sl As).length ≤ maxL) (h : ∀ (K : KT) (sz : Nat), Rt rm D K ret y.name sz G post → Rx rm D K sz G post postX → V bytes y.cls maxL rm D K 0 (lpad (lent As) maxL) [] G (0, 0)) : MX y bytes maxL ret rm D As G post postX := by
  intro l hfl sz
  refine vx_ofW (cc := bytes) (maxL := maxL) (ret := ret) hy rfl ?_
  intro p e s m args below meth c s₁ B hml hex hv
  obtain ⟨rfl, hsz, hwd, hK, hES⟩ := hv
  have hts := atoms_spec (ws := wsA y bytes maxL ret) B.pre
  subst hsz
  have hlv := lv_entry As (n := maxL) hl
  rw [lg_entry_eq]
  exact h (p, l, e, s, m, As.toArray, below, meth, c, frM G s.heap.size, vx_MQ below (QcM D s.heap.size G post) (XcM D s.heap.size G postX) As.toArray s rm.cells rm.slots (frM G s.heap.size)) s.heap.size ⟨B.returns, rfl, rfl, (name_of_methodNamed B.named B.method).1, fun t h => by
    obtain ⟨o, b1, b2, b3, b4⟩ := h
    exact ⟨o, b1, b2, Or.inl ⟨b3, b4⟩⟩⟩ ⟨rfl, rfl, hex, fun _ h => h⟩ ⟨B.exec, B.bytes, hml, findClass_of_methodNamed B.named, fun w hw => hts w (List.mem_cons_of_mem _ hw), hK, fun q hq => Or.inr hq, B.notSynchronized, hES, hfl⟩ s.heap [] _ hwd (fun q hq => Or.inl hq) va_S.rf ⟨hlv.1, hlv.2.1, fun i v hg => hlv.2.2 (i, v) (by have := lent_args As 0 i v (lget_pad hg); simpa using this)⟩
theorem v_iret {cc : ByteArray} {own : String} {nL : Nat} {R : Room} {D : DT} {K : KT} {pc : Nat} {lv : LV} {G : GT} {n : Nat × Nat} {nm : String} {sz : Nat} {G0 : GT} {post : Option Value → GT → Prop} {x : Int32} (hR : Rt R D K (some .int) nm sz G0 post) (hd : decode cc pc = .ok (.ireturn, 1)) (hn : n.1 ≤ R.cells ∧ n.2 ≤ R.slots) (hp : post (some (.int x)) G) : V cc own nL R D K pc lv [.int x] G n := by
  obtain ⟨p, l, e, s, m, args, below, meth, c, A, Q⟩ := K
  intro O H locs ls h1 h2 h3 h4
  obtain ⟨r1, r2, r3, r4, r5⟩ := hR
  subst r2
  have hw : W p l e R s m args below meth c H locs n.1 n.2 (MQ below (QcM D sz G0 post) args s R.cells R.slots (frM G0 sz)) (F0 m pc ls [.int x]) := W.widen hn.1 hn.2 (W.iret O.1 O.2.1 r1 (fun t ht hW => ⟨⟨_, G, rfl, hp, by rw [ht]; exact h1, h2⟩, h3.F ht⟩) h3.2.2 hd O.2.2.2.2.2.2.2.1)
  intro T hT X
  obtain ⟨t, a, b⟩ := hw T hT X
  exact ⟨t, a, r5 t b⟩
theorem v_zret {cc : ByteArray} {own : String} {nL : Nat} {R : Room} {D : DT} {K : KT} {pc : Nat} {lv : LV} {G : GT} {n : Nat × Nat} {nm : String} {sz : Nat} {G0 : GT} {post : Option Value → GT → Prop} {x : Int32} (hR : Rt R D K (some .boolean) nm sz G0 post) (hd : decode cc pc = .ok (.ireturn, 1)) (hz : narrow .boolean (.int x) = .int x) (hn : n.1 ≤ R.cells ∧ n.2 ≤ R.slots) (hp : post (some (.int x)) G) : V cc own nL R D K pc lv [.int x] G n := by
  obtain ⟨p, l, e, s, m, args, below, meth, c, A, Q⟩ := K
  intro O H locs ls h1 h2 h3 h4
  obtain ⟨r1, r2, r3, r4, r5⟩ := hR
  subst r2
  have hw : W p l e R s m args below meth c H locs n.1 n.2 (MQ below (QcM D sz G0 post) args s R.cells R.slots (frM G0 sz)) (F0 m pc ls [.int x]) := W.widen hn.1 hn.2 (W.zret O.1 O.2.1 r1 hz (fun t ht hW => ⟨⟨_, G, rfl, hp, by rw [ht]; exact h1, h2⟩, h3.F ht⟩) h3.2.2 hd O.2.2.2.2.2.2.2.1)
  intro T hT X
  obtain ⟨t, a, b⟩ := hw T hT X
  exact ⟨t, a, r5 t b⟩
theorem v_lret {cc : ByteArray} {own : String} {nL : Nat} {R : Room} {D : DT} {K : KT} {pc : Nat} {lv : LV} {G : GT} {n : Nat × Nat} {nm : String} {sz : Nat} {G0 : GT} {post : Option Value → GT → Prop} {x : Int64} (hR : Rt R D K (some .long) nm sz G0 post) (hd : decode cc pc = .ok (.lreturn, 1)) (hn : n.1 ≤ R.cells ∧ n.2 ≤ R.slots) (hp : post (some (.long x)) G) : V cc own nL R D K pc lv [.long x] G n := by
  obtain ⟨p, l, e, s, m, args, below, meth, c, A, Q⟩ := K
  intro O H locs ls h1 h2 h3 h4
  obtain ⟨r1, r2, r3, r4, r5⟩ := hR
  subst r2
  have hw : W p l e R s m args below meth c H locs n.1 n.2 (MQ below (QcM D sz G0 post) args s R.cells R.slots (frM G0 sz)) (F0 m pc ls [.long x]) := W.widen hn.1 hn.2 (W.lret O.1 O.2.1 r1 (fun t ht hW => ⟨⟨_, G, rfl, hp, by rw [ht]; exact h1, h2⟩, h3.F ht⟩) h3.2.2 hd O.2.2.2.2.2.2.2.1)
  intro T hT X
  obtain ⟨t, a, b⟩ := hw T hT X
  exact ⟨t, a, r5 t b⟩
theorem v_fret {cc : ByteArray} {own : String} {nL : Nat} {R : Room} {D : DT} {K : KT} {pc : Nat} {lv : LV} {G : GT} {n : Nat × Nat} {nm : String} {sz : Nat} {G0 : GT} {post : Option Value → GT → Prop} {x : UInt32} (hR : Rt R D K (some .float) nm sz G0 post) (hd : decode cc pc = .ok (.freturn, 1)) (hn : n.1 ≤ R.cells ∧ n.2 ≤ R.slots) (hp : post (some (.float x)) G) : V cc own nL R D K pc lv [.float x] G n := by
  obtain ⟨p, l, e, s, m, args, below, meth, c, A, Q⟩ := K
  intro O H locs ls h1 h2 h3 h4
  obtain ⟨r1, r2, r3, r4, r5⟩ := hR
  subst r2
  have hw : W p l e R s m args below meth c H locs n.1 n.2 (MQ below (QcM D sz G0 post) args s R.cells R.slots (frM G0 sz)) (F0 m pc ls [.float x]) := W.widen hn.1 hn.2 (W.fret O.1 O.2.1 r1 (fun t ht hW => ⟨⟨_, G, rfl, hp, by rw [ht]; exact h1, h2⟩, h3.F ht⟩) h3.2.2 hd O.2.2.2.2.2.2.2.1)
  intro T hT X
  obtain ⟨t, a, b⟩ := hw T hT X
  exact ⟨t, a, r5 t b⟩
theorem v_vret {cc : ByteArray} {own : String} {nL : Nat} {R : Room} {D : DT} {K : KT} {pc : Nat} {lv : LV} {G : GT} {n : Nat × Nat} {nm : String} {sz : Nat} {G0 : GT} {post : Option Value → GT → Prop}  (hR : Rt R D K (none) nm sz G0 post) (hd : decode cc pc = .ok (.return_, 1)) (hn : n.1 ≤ R.cells ∧ n.2 ≤ R.slots) (hp : post (none) G) : V cc own nL R D K pc lv [] G n := by
  obtain ⟨p, l, e, s, m, args, below, meth, c, A, Q⟩ := K
  intro O H locs ls h1 h2 h3 h4
  obtain ⟨r1, r2, r3, r4, r5⟩ := hR
  subst r2
  have hw : W p l e R s m args below meth c H locs n.1 n.2 (MQ below (QcM D sz G0 post) args s R.cells R.slots (frM G0 sz)) (F0 m pc ls []) := W.widen hn.1 hn.2 (W.vret O.1 O.2.1 r1 (fun t ht hW => ⟨⟨_, G, rfl, hp, by rw [ht]; exact h1, h2⟩, h3.F ht⟩) h3.2.2 hd O.2.2.2.2.2.2.2.1)
  intro T hT X
  obtain ⟨t, a, b⟩ := hw T hT X
  exact ⟨t, a, r5 t b⟩
theorem v_aret {cc : ByteArray} {own : String} {nL : Nat} {R : Room} {D : DT} {K : KT} {pc : Nat} {lv : LV} {G : GT} {n : Nat × Nat} {nm : String} {sz : Nat} {G0 : GT} {post : Option Value → GT → Prop} {x : Value} {C : String} (hR : Rt R D K (some (.object C)) nm sz G0 post) (hd : decode cc pc = .ok (.areturn, 1)) (hx : x = .null ∨ ∃ a, x = .ref a) (hn : n.1 ≤ R.cells ∧ n.2 ≤ R.slots) (hp : post (some x) G) : V cc own nL R D K pc lv [x] G n := by
  obtain ⟨p, l, e, s, m, args, below, meth, c, A, Q⟩ := K
  intro O H locs ls h1 h2 h3 h4
  obtain ⟨r1, r2, r3, r4, r5⟩ := hR
  subst r2
  have hw : W p l e R s m args below meth c H locs n.1 n.2 (MQ below (QcM D sz G0 post) args s R.cells R.slots (frM G0 sz)) (F0 m pc ls [x]) := W.widen hn.1 hn.2 (W.aret O.1 O.2.1 r1 (Or.inl ⟨_, rfl⟩) hx (fun t ht hW => ⟨⟨_, G, rfl, hp, by rw [ht]; exact h1, h2⟩, h3.F ht⟩) h3.2.2 hd O.2.2.2.2.2.2.2.1)
  intro T hT X
  obtain ⟨t, a, b⟩ := hw T hT X
  exact ⟨t, a, r5 t b⟩
theorem v_objInit {cc : ByteArray} {own : String} {nL : Nat} {R : Room} {D : DT} {K : KT} {pc : Nat} {lv : LV} {st : List Value} {G : GT} {n : Nat × Nat} {idx a : Nat} (hd : decode cc pc = .ok (.invokespecial idx, 3)) (hw : Cond.methodLink own idx objectInit ∈ lw_all) (hi : Cond.instanceMethod objectInit ∈ lw_all) (hc : Cond.code objectInit ⟨#[0xb1]⟩ 1 none ∈ lw_all) (hr : (st.map fun v => v.category).sum ≤ 8) (hf : 1 ≤ R.frames ∧ 20 ≤ R.locals) (k : V cc own nL R D K (pc + 3) lv st G n) : V cc own nL R D K pc lv (.ref a :: st) G n := by
  obtain ⟨p, l, e, s, m, args, below, meth, c, A, Q⟩ := K
  intro O H locs ls h1 h2 h3 h4
  have hrm : 2 * (F0 m pc ls (.ref a :: st)).monitorRoom + (st.map fun v => v.category).sum ≤ 8 := lv_room hr
  refine W.objInit O.1 O.2.1 O.2.2.2.1 (O.2.2.2.2.1 _ hw) (O.2.2.2.2.1 _ hi) (O.2.2.2.2.1 _ hc) rfl (by rw [O.2.2.1]; exact h4.1) rfl hd hf.1 (by have := hf.2; omega) ?_
  exact k O H locs ls h1 h2 h3 h4
abbrev vst (v : Option Value) (st : List Value) : List Value := match v with
  | none => st
  | some x => x :: st
theorem vst_eq (v : Option Value) (st : List Value) : v.toList ++ st = vst v st := by cases v <;> rfl
theorem ES_at {s U : State} {A : Nat → Prop} {G : GT} {H : Heap} {locs : List Loc} (h : ES A s s.heap) (h2 : ∀ q : Nat, G.1 q ≠ 0 → A q) (hA : ∀ q : Nat, s.heap.size ≤ q → A q) (h3 : va_S A s.heap H locs) (hW : s.WarmedH U.vm) : ES (frM G H.size) U H :=
  (ES.warm hW (ES.kept h h3.2.1)).narrow (fun q hq => hq.elim (h2 q) (fun z => hA q (Nat.le_trans h3.1 z)))
section CC
variable {p : Program} {l : Launch} {e : Env} {R : Room} {s : State} {m : MethodId} {args : Array Value} {below : List Frame} {meth : Method} {c : Code} {H : Heap} {locs : List Loc} {cells slots mc ms pc : Nat} {Q : State → Prop} {ls : Array Slot} {st0 rest : List Value} {A : Nat → Prop} {D : DT} {G : GT} {post : Option Value → GT → Prop} {a : Array Value}
theorem call_core (hr : va_Run p l e R s m args below meth c H locs cells slots mc ms (F0 m pc ls st0) rest (QcM D H.size G post a) (frM G H.size)) (h2 : ∀ q : Nat, G.1 q ≠ 0 → A q) (hA : ∀ q : Nat, s.heap.size ≤ q → A q) (h3 : va_S A s.heap H locs)
    (kk : ∀ (v : Option Value) (G' : GT) (H1 : Heap) (locs1 : List Loc), post v G' → wd D G' H1 → (∀ q, G'.1 q ≠ 0 → A q) → va_S A s.heap H1 locs1 → W p l e R s m args below meth c H1 locs1 (cells + mc) (slots + ms) Q (F0 m (pc + 3) ls (vst v rest))) : W p l e R s m args below meth c H locs cells slots Q (F0 m pc ls st0) := by
  have hf : ∀ q, frM G H.size q → A q := fun q hq => hq.elim (h2 q) (fun z => hA q (Nat.le_trans h3.1 z))
  intro T hT X
  obtain ⟨v, st₀, t, T', L, e0, X', hL, e1, e2, ⟨⟨v', G', hv, hp, hw, hd⟩, hF⟩, st⟩ := hr T hT X
  cases hv
  obtain ⟨-, -, k3⟩ := vx_keep e0 e1 h3 (fun q _ h => hf q h) hf hL hF
  obtain ⟨t2, a1, b1⟩ := kk v G' T'.heap (locs ++ L) hp (by rw [e1]; exact hw) (fun q hq => hf q (hd q hq)) k3 T' rfl X'
  rw [← vst_eq] at a1
  exact ⟨t2, st t2 a1, b1⟩
end CC
theorem gi_all {w : Cond} (h : w ∈ lw_all) : w ∈ lw_all ∧ ((w.onTables && w.keeps) = true ∨ ∃ ty, w = .arrayClass ty) := ⟨h, good_of_word (lw_good w h)⟩
theorem gi_ws {y : MethodName} {bytes : ByteArray} {maxL : Nat} {ret : Option FieldType} (h : Cond.code y bytes maxL ret ∈ lw_all) : GoodIn lw_all (wsA y bytes maxL ret) := fun w hw => (List.mem_cons.mp hw).elim (fun e => e ▸ gi_all h) gi_all
theorem v_callV {cc : ByteArray} {own : String} {nL : Nat} {R : Room} {D : DT} {K : KT} {pc : Nat} {lv : LV} {st : List Value} {G : GT} {n : Nat × Nat} {idx k maxL : Nat} {y : MethodName} {bytes : ByteArray} {ret : Option FieldType} {rm : Room} {As rest : List Value} {b : Nat} {ci : Nat} {T0 : u_T} {N0 : Nat} {post : Option Value → GT → Prop} (hd : decode cc pc = .ok (.invokevirtual idx, 3)) (hC : CWm own idx y bytes maxL ret k) (hi : Cond.instanceMethod y ∈ lw_all) (hsel : Cond.selects y.cls y y ∈ lw_all) (hM : MC y bytes maxL ret rm D (.ref b :: As) G post) (hT : G.1 b = ci + 1) (hci : cls[ci]? = some (y.cls, T0, N0)) (hst : st = As.reverse ++ .ref b :: rest) (hk : As.length = k) (hrest : (rest.map fun v => v.category).sum ≤ 8) (hR : rm.frames + 1 ≤ R.frames ∧ 8 + (maxL + 11) + rm.locals ≤ R.locals) (hn : n.1 + rm.cells ≤ R.cells ∧ n.2 + rm.slots ≤ R.slots) (kk : ∀ (v : Option Value) (G' : GT), post v G' → V cc own nL R D K (pc + 3) lv (vst v rest) G' (n.1 + rm.cells, n.2 + rm.slots)) : V cc own nL R D K pc lv st G n := by
  obtain ⟨p, l, e, s, m, args, below, meth, c, A, Q⟩ := K
  intro O H locs ls h1 h2 h3 h4
  obtain ⟨w1, w2, w3, w4, w5, w6⟩ := hC
  have hrc : ∃ cell : Cell, H[b]? = some cell ∧ cell.vm.isStatics = false ∧ s.vm.findClass y.cls = some cell.cls := by
    obtain ⟨L, q, hL, hm, hP, hD, hq⟩ := wd_at h1 (a := b) (by rw [hT]; omega)
    obtain ⟨T, N, I, J, E, Rf⟩ := G
    rw [ent_obj hT (cls_lt hci)] at hq
    exact va_recv O.2.2.2.2.2.1 hP hci hq
  refine call_core (va_runV (As := As) (rest := rest) ⟨O.1, O.2.1, O.2.2.1, O.2.2.2.1, O.2.2.2.2.1⟩ (hM l O.2.2.2.2.2.2.2.2.2 H.size) ⟨callB_of (ws' := lw_all) k O.2.2.2.2.1 (gi_ws w3) rfl rfl rfl (O.2.2.2.2.1 _ w2) (O.2.2.2.2.1 _ w1) ⟨w4, w5, w6⟩ hR, O.2.2.2.2.1 _ hi, O.2.2.2.2.1 _ hsel⟩ ⟨PcM_blind _ _ _ _, hrc, fun U hU hW => ⟨rfl, by rw [hU], by rw [hU]; exact h1, va_K.moved hW.alike O.2.2.2.2.2.1, by rw [hU]; exact ES_at O.2.2.2.2.2.2.2.2.1 h2 O.2.2.2.2.2.2.1 h3 hW⟩⟩ rfl hk h4.1 hst (lv_room hrest) hd hn) h2 O.2.2.2.2.2.2.1 h3 (fun v G' H1 locs1 hp hw hdm hS => kk v G' hp O H1 locs1 ls hw hdm hS h4)
theorem v_callS {cc : ByteArray} {own : String} {nL : Nat} {R : Room} {D : DT} {K : KT} {pc : Nat} {lv : LV} {st : List Value} {G : GT} {n : Nat × Nat} {idx k maxL : Nat} {y : MethodName} {bytes : ByteArray} {ret : Option FieldType} {rm : Room} {As rest : List Value} {post : Option Value → GT → Prop} (hd : decode cc pc = .ok (.invokestatic idx, 3)) (hC : CWm own idx y bytes maxL ret k) (hi : Cond.static y ∈ lw_all) (hM : MC y bytes maxL ret rm D As G post) (hst : st = As.reverse ++ rest) (hk : As.length = k) (hrest : (rest.map fun v => v.category).sum ≤ 8) (hR : rm.frames + 1 ≤ R.frames ∧ 8 + (maxL + 11) + rm.locals ≤ R.locals) (hn : n.1 + rm.cells ≤ R.cells ∧ n.2 + rm.slots ≤ R.slots) (kk : ∀ (v : Option Value) (G' : GT), post v G' → V cc own nL R D K (pc + 3) lv (vst v rest) G' (n.1 + rm.cells, n.2 + rm.slots)) : V cc own nL R D K pc lv st G n := by
  obtain ⟨p, l, e, s, m, args, below, meth, c, A, Q⟩ := K
  intro O H locs ls h1 h2 h3 h4
  obtain ⟨w1, w2, w3, w4, w5, w6⟩ := hC
  refine call_core (va_runS (As := As) (rest := rest) ⟨O.1, O.2.1, O.2.2.1, O.2.2.2.1, O.2.2.2.2.1⟩ (hM l O.2.2.2.2.2.2.2.2.2 H.size) ⟨callB_of (ws' := lw_all) k O.2.2.2.2.1 (gi_ws w3) rfl rfl rfl (O.2.2.2.2.1 _ w2) (O.2.2.2.2.1 _ w1) ⟨w4, w5, w6⟩ hR, O.2.2.2.2.1 _ hi⟩ ⟨PcM_blind _ _ _ _, fun U hU hW => ⟨rfl, by rw [hU], by rw [hU]; exact h1, va_K.moved hW.alike O.2.2.2.2.2.1, by rw [hU]; exact ES_at O.2.2.2.2.2.2.2.2.1 h2 O.2.2.2.2.2.2.1 h3 hW⟩⟩ rfl hk h4.1 hst (lv_room hrest) hd hn) h2 O.2.2.2.2.2.2.1 h3 (fun v G' H1 locs1 hp hw hdm hS => kk v G' hp O H1 locs1 ls hw hdm hS h4)
theorem v_callI {cc : ByteArray} {own : String} {nL : Nat} {R : Room} {D : DT} {K : KT} {pc : Nat} {lv : LV} {st : List Value} {G : GT} {n : Nat × Nat} {idx k maxL : Nat} {y : MethodName} {bytes : ByteArray} {rm : Room} {As rest : List Value} {b : Nat} {post : Option Value → GT → Prop} (hd : decode cc pc = .ok (.invokespecial idx, 3)) (hC : CWm own idx y bytes maxL none k) (hi : Cond.instanceMethod y ∈ lw_all) (hin : y.name = "<init>") (hM : MC y bytes maxL none rm D (.ref b :: As) G post) (hst : st = As.reverse ++ .ref b :: rest) (hk : As.length = k) (hrest : (rest.map fun v => v.category).sum ≤ 8) (hR : rm.frames + 1 ≤ R.frames ∧ 8 + (maxL + 11) + rm.locals ≤ R.locals) (hn : n.1 + rm.cells ≤ R.cells ∧ n.2 + rm.slots ≤ R.slots) (kk : ∀ (v : Option Value) (G' : GT), post v G' → V cc own nL R D K (pc + 3) lv (vst v rest) G' (n.1 + rm.cells, n.2 + rm.slots)) : V cc own nL R D K pc lv st G n := by
  obtain ⟨p, l, e, s, m, args, below, meth, c, A, Q⟩ := K
  intro O H locs ls h1 h2 h3 h4
  obtain ⟨w1, w2, w3, w4, w5, w6⟩ := hC
  refine call_core (va_runI (As := As) (rest := rest) ⟨O.1, O.2.1, O.2.2.1, O.2.2.2.1, O.2.2.2.2.1⟩ (hM l O.2.2.2.2.2.2.2.2.2 H.size) ⟨callB_of (ws' := lw_all) k O.2.2.2.2.1 (gi_ws w3) rfl rfl rfl (O.2.2.2.2.1 _ w2) (O.2.2.2.2.1 _ w1) ⟨w4, w5, w6⟩ hR, hin, O.2.2.2.2.1 _ hi⟩ ⟨PcM_blind _ _ _ _, fun U hU hW => ⟨rfl, by rw [hU], by rw [hU]; exact h1, va_K.moved hW.alike O.2.2.2.2.2.1, by rw [hU]; exact ES_at O.2.2.2.2.2.2.2.2.1 h2 O.2.2.2.2.2.2.1 h3 hW⟩⟩ rfl hk h4.1 hst (lv_room hrest) hd hn) h2 O.2.2.2.2.2.2.1 h3 (fun v G' H1 locs1 hp hw hdm hS => kk v G' hp O H1 locs1 ls hw hdm hS h4)
theorem v_callSN {cc : ByteArray} {own : String} {nL : Nat} {R : Room} {D : DT} {K : KT} {pc : Nat} {lv : LV} {st : List Value} {G : GT} {n : Nat × Nat} {idx k maxL : Nat} {y : MethodName} {host : String} {bytes : ByteArray} {ret : Option FieldType} {rm : Room} {As rest : List Value} {post : Option Value → GT → Prop} (hd : decode cc pc = .ok (.invokestatic idx, 3)) (hng : Cond.methodLinkNest own idx y host ∈ ngW) (w2 : Cond.initialized y.cls ∈ lw_all) (w3 : Cond.code y bytes maxL ret ∈ lw_all) (w4 : y.cls ≠ "java/lang/invoke/MethodHandle" ∧ y.cls ≠ "java/lang/invoke/VarHandle" ∧ (parseMethodDescriptor y.desc).map (fun d => d.parameters.length) = some k) (hi : Cond.static y ∈ lw_all) (hM : MC y bytes maxL ret rm D As G post) (hst : st = As.reverse ++ rest) (hk : As.length = k) (hrest : (rest.map fun v => v.category).sum ≤ 8) (hR : rm.frames + 1 ≤ R.frames ∧ 8 + (maxL + 11) + rm.locals ≤ R.locals) (hn : n.1 + rm.cells ≤ R.cells ∧ n.2 + rm.slots ≤ R.slots) (kk : ∀ (v : Option Value) (G' : GT), post v G' → V cc own nL R D K (pc + 3) lv (vst v rest) G' (n.1 + rm.cells, n.2 + rm.slots)) : V cc own nL R D K pc lv st G n := by
  obtain ⟨p, l, e, s, m, args, below, meth, c, A, Q⟩ := K
  intro O H locs ls h1 h2 h3 h4
  refine call_core (va_runSN (As := As) (rest := rest) ⟨O.1, O.2.1, O.2.2.1, O.2.2.2.1, O.2.2.2.2.1⟩ (hM l O.2.2.2.2.2.2.2.2.2 H.size) ⟨va_cnB (ws' := lw_all) k O.2.2.2.2.1 (gi_ws w3) rfl rfl rfl (O.2.2.2.2.2.2.2.2.1.2.2.1 _ hng) (O.2.2.2.2.1 _ w2) w4 hR, O.2.2.2.2.1 _ hi, trivial⟩ ⟨PcM_blind _ _ _ _, fun U hU hW => ⟨rfl, by rw [hU], by rw [hU]; exact h1, va_K.moved hW.alike O.2.2.2.2.2.1, by rw [hU]; exact ES_at O.2.2.2.2.2.2.2.2.1 h2 O.2.2.2.2.2.2.1 h3 hW⟩⟩ rfl hk h4.1 hst (lv_room hrest) hd hn) h2 O.2.2.2.2.2.2.1 h3 (fun v G' H1 locs1 hp hw hdm hS => kk v G' hp O H1 locs1 ls hw hdm hS h4)
theorem v_callIN {cc : ByteArray} {own : String} {nL : Nat} {R : Room} {D : DT} {K : KT} {pc : Nat} {lv : LV} {st : List Value} {G : GT} {n : Nat × Nat} {idx k maxL : Nat} {y : MethodName} {host : String} {bytes : ByteArray} {rm : Room} {As rest : List Value} {b : Nat} {post : Option Value → GT → Prop} (hd : decode cc pc = .ok (.invokespecial idx, 3)) (hng : Cond.methodLinkNest own idx y host ∈ ngW) (w2 : Cond.initialized y.cls ∈ lw_all) (w3 : Cond.code y bytes maxL none ∈ lw_all) (w4 : y.cls ≠ "java/lang/invoke/MethodHandle" ∧ y.cls ≠ "java/lang/invoke/VarHandle" ∧ (parseMethodDescriptor y.desc).map (fun d => d.parameters.length) = some k) (hi : Cond.instanceMethod y ∈ lw_all) (hin : y.name = "<init>") (hM : MC y bytes maxL none rm D (.ref b :: As) G post) (hst : st = As.reverse ++ .ref b :: rest) (hk : As.length = k) (hrest : (rest.map fun v => v.category).sum ≤ 8) (hR : rm.frames + 1 ≤ R.frames ∧ 8 + (maxL + 11) + rm.locals ≤ R.locals) (hn : n.1 + rm.cells ≤ R.cells ∧ n.2 + rm.slots ≤ R.slots) (kk : ∀ (v : Option Value) (G' : GT), post v G' → V cc own nL R D K (pc + 3) lv (vst v rest) G' (n.1 + rm.cells, n.2 + rm.slots)) : V cc own nL R D K pc lv st G n := by
  obtain ⟨p, l, e, s, m, args, below, meth, c, A, Q⟩ := K
  intro O H locs ls h1 h2 h3 h4
  refine call_core (va_runIN (As := As) (rest := rest) ⟨O.1, O.2.1, O.2.2.1, O.2.2.2.1, O.2.2.2.2.1⟩ (hM l O.2.2.2.2.2.2.2.2.2 H.size) ⟨va_cnB (ws' := lw_all) k O.2.2.2.2.1 (gi_ws w3) rfl rfl rfl (O.2.2.2.2.2.2.2.2.1.2.2.1 _ hng) (O.2.2.2.2.1 _ w2) w4 hR, hin, O.2.2.2.2.1 _ hi⟩ ⟨PcM_blind _ _ _ _, fun U hU hW => ⟨rfl, by rw [hU], by rw [hU]; exact h1, va_K.moved hW.alike O.2.2.2.2.2.1, by rw [hU]; exact ES_at O.2.2.2.2.2.2.2.2.1 h2 O.2.2.2.2.2.2.1 h3 hW⟩⟩ rfl hk h4.1 hst (lv_room hrest) hd hn) h2 O.2.2.2.2.2.2.1 h3 (fun v G' H1 locs1 hp hw hdm hS => kk v G' hp O H1 locs1 ls hw hdm hS h4)
theorem v_imax {cc : ByteArray} {own : String} {nL : Nat} {R : Room} {D : DT} {K : KT} {pc : Nat} {lv : LV} {st : List Value} {G : GT} {n : Nat × Nat} {idx : Nat} {x y : Int32} (hd : decode cc pc = .ok (.invokestatic idx, 3)) (w1 : Cond.methodLink own idx Lib.Math.max.name ∈ lw_all) (w2 : Cond.static Lib.Math.max.name ∈ lw_all) (w3 : Cond.initialized "java/lang/Math" ∈ lw_all) (w4 : Cond.code Lib.Math.max.name Lib.Math.max.code 2 (some .int) ∈ lw_all) (hf : 1 ≤ R.frames) (hr : (st.map fun v => v.category).sum ≤ 8) (hl : 23 ≤ R.locals) (hn : n.1 ≤ R.cells ∧ n.2 ≤ R.slots) (k : V cc own nL R D K (pc + 3) lv (.int (if x < y then y else x) :: st) G n) : V cc own nL R D K pc lv (.int y :: .int x :: st) G n := by
  obtain ⟨p, l, e, s, m, args, below, meth, c, A, Q⟩ := K
  intro O H locs ls h1 h2 h3 h4
  exact va_mmax O.1 O.2.1 (by rw [O.2.2.1]; exact h4.1.symm) O.2.2.2.1 (O.2.2.2.2.1 _ w1) (O.2.2.2.2.1 _ w2) (O.2.2.2.2.1 _ w3) (O.2.2.2.2.1 _ w4) hf (by omega) hn.1 hn.2 hd (k O H locs ls h1 h2 h3 h4)
theorem v_imin {cc : ByteArray} {own : String} {nL : Nat} {R : Room} {D : DT} {K : KT} {pc : Nat} {lv : LV} {st : List Value} {G : GT} {n : Nat × Nat} {idx : Nat} {x y : Int32} (hd : decode cc pc = .ok (.invokestatic idx, 3)) (w1 : Cond.methodLink own idx Lib.Math.min.name ∈ lw_all) (w2 : Cond.static Lib.Math.min.name ∈ lw_all) (w3 : Cond.initialized "java/lang/Math" ∈ lw_all) (w4 : Cond.code Lib.Math.min.name Lib.Math.min.code 2 (some .int) ∈ lw_all) (hf : 1 ≤ R.frames) (hr : (st.map fun v => v.category).sum ≤ 8) (hl : 23 ≤ R.locals) (hn : n.1 ≤ R.cells ∧ n.2 ≤ R.slots) (k : V cc own nL R D K (pc + 3) lv (.int (if y < x then y else x) :: st) G n) : V cc own nL R D K pc lv (.int y :: .int x :: st) G n := by
  obtain ⟨p, l, e, s, m, args, below, meth, c, A, Q⟩ := K
  intro O H locs ls h1 h2 h3 h4
  exact va_mmin O.1 O.2.1 (by rw [O.2.2.1]; exact h4.1.symm) O.2.2.2.1 (O.2.2.2.2.1 _ w1) (O.2.2.2.2.1 _ w2) (O.2.2.2.2.1 _ w3) (O.2.2.2.2.1 _ w4) hf (by omega) hn.1 hn.2 hd (k O H locs ls h1 h2 h3 h4)
theorem v_lmax {cc : ByteArray} {own : String} {nL : Nat} {R : Room} {D : DT} {K : KT} {pc : Nat} {lv : LV} {st : List Value} {G : GT} {n : Nat × Nat} {idx : Nat} {x y : Int64} (hd : decode cc pc = .ok (.invokestatic idx, 3)) (w1 : Cond.methodLink own idx Lib.MathLoose.max_long.x ∈ lw_all) (w2 : Cond.static Lib.MathLoose.max_long.x ∈ lw_all) (w3 : Cond.initialized "java/lang/Math" ∈ lw_all) (w4 : Cond.code Lib.MathLoose.max_long.x Lib.MathLoose.max_long.code 4 (some .long) ∈ lw_all) (hf : 1 ≤ R.frames) (hr : (st.map fun v => v.category).sum ≤ 8) (hl : 23 ≤ R.locals) (hn : n.1 ≤ R.cells ∧ n.2 ≤ R.slots) (k : V cc own nL R D K (pc + 3) lv (.long (if y < x then x else y) :: st) G n) : V cc own nL R D K pc lv (.long y :: .long x :: st) G n := by
  obtain ⟨p, l, e, s, m, args, below, meth, c, A, Q⟩ := K
  intro O H locs ls h1 h2 h3 h4
  exact va_mmax_long O.1 O.2.1 (by rw [O.2.2.1]; exact h4.1.symm) O.2.2.2.1 (O.2.2.2.2.1 _ w1) (O.2.2.2.2.1 _ w2) (O.2.2.2.2.1 _ w3) (O.2.2.2.2.1 _ w4) hf (by omega) hn.1 hn.2 hd (k O H locs ls h1 h2 h3 h4)
theorem v_lmin {cc : ByteArray} {own : String} {nL : Nat} {R : Room} {D : DT} {K : KT} {pc : Nat} {lv : LV} {st : List Value} {G : GT} {n : Nat × Nat} {idx : Nat} {x y : Int64} (hd : decode cc pc = .ok (.invokestatic idx, 3)) (w1 : Cond.methodLink own idx Lib.MathLoose.min_long.x ∈ lw_all) (w2 : Cond.static Lib.MathLoose.min_long.x ∈ lw_all) (w3 : Cond.initialized "java/lang/Math" ∈ lw_all) (w4 : Cond.code Lib.MathLoose.min_long.x Lib.MathLoose.min_long.code 4 (some .long) ∈ lw_all) (hf : 1 ≤ R.frames) (hr : (st.map fun v => v.category).sum ≤ 8) (hl : 23 ≤ R.locals) (hn : n.1 ≤ R.cells ∧ n.2 ≤ R.slots) (k : V cc own nL R D K (pc + 3) lv (.long (if y < x then y else x) :: st) G n) : V cc own nL R D K pc lv (.long y :: .long x :: st) G n := by
  obtain ⟨p, l, e, s, m, args, below, meth, c, A, Q⟩ := K
  intro O H locs ls h1 h2 h3 h4
  exact va_mmin_long O.1 O.2.1 (by rw [O.2.2.1]; exact h4.1.symm) O.2.2.2.1 (O.2.2.2.2.1 _ w1) (O.2.2.2.2.1 _ w2) (O.2.2.2.2.1 _ w3) (O.2.2.2.2.1 _ w4) hf (by omega) hn.1 hn.2 hd (k O H locs ls h1 h2 h3 h4)
theorem v_copyi {cc : ByteArray} {own : String} {nL : Nat} {R : Room} {D : DT} {K : KT} {pc : Nat} {lv : LV} {st : List Value} {T N : Nat → Nat} {I : Nat → Nat → Int32} {J : Nat → Nat → Int64} {E : Nat → Nat → UInt64} {Rf : Nat → Nat → Option Nat} {n : Nat × Nat} {idx a a0 z : Nat} (hd : decode cc pc = .ok (.invokestatic idx, 3)) (w1 : Cond.methodLink own idx arraycopyName ∈ lw_all) (w2 : Cond.native arraycopyName ∈ lw_all) (w3 : Cond.static arraycopyName ∈ lw_all) (w4 : Cond.initialized "java/lang/System" ∈ lw_all) (hT : T a = 11) (hT0 : T a0 = 11) (hN : N a = z) (hN0 : N a0 = z) {x : Int32} (hx : ¬ x < 0) (hz : x.toNatClampNeg = z) (hf : 1 ≤ R.frames) (hl : (st.map fun v => v.category).sum + (nativeFrameWords "java/lang/System" "arraycopy" 5 + 11) ≤ R.locals) (kk : V cc own nL R D K (pc + 3) lv st (T, N, (fun b j => if b = a ∧ j < z then I a0 j else I b j), J, E, Rf) n) : V cc own nL R D K pc lv (.int x :: .int 0 :: .ref a :: .int 0 :: .ref a0 :: st) (T, N, I, J, E, Rf) n := by
  obtain ⟨p, l, e, s, m, args, below, meth, c, A, Q⟩ := K
  intro O H locs ls h1 h2 h3 h4
  obtain ⟨L, q, hL, hm, hP, hD, hq⟩ := wd_at h1 (a := a) (by show T a ≠ 0; omega)
  have hq2 := hq
  rw [ent_int hT (Or.inl rfl)] at hq2
  obtain ⟨q0, hq0⟩ := va_pl_get (X := []) (f := ent D.2 (T, N, I, J, E, Rf)) ((hL a0).mpr (by show T a0 ≠ 0; omega))
  have hq0 : (va_pl L (ent D.2 (T, N, I, J, E, Rf)))[q0]? = some (a0, ent D.2 (T, N, I, J, E, Rf) a0) := hq0
  rw [ent_int hT0 (Or.inl rfl)] at hq0
  have hA : va_D A (va_pl L (ent D.2 (T, N, I, J, E, Rf))) := hD.weaken (fun k0 q0 hk0 _ => h2 q0.1 (by
    obtain ⟨b, hb, e⟩ := List.mem_map.mp (List.mem_of_getElem? hk0)
    rw [← e]; exact (hL b).mp hb))
  have hz0 : (0 : Int32).toNatClampNeg = 0 := by decide
  refine va_copyi O.1 O.2.1 (by rw [O.2.2.1]; exact h4.1.symm) O.2.2.2.1 (O.2.2.2.2.1 _ w1) (O.2.2.2.2.1 _ w2) (O.2.2.2.2.1 _ w3) (O.2.2.2.2.1 _ w4) O.2.2.2.2.2.1 hP hA h3 q0 q 0 0 hq0 hq2 rfl rfl rfl (by decide) (by decide) hx (by rw [hz, hz0, hN0]; omega) (by rw [hz, hz0, hN]; omega) (fun _ _ => rfl) hf hl hd (fun H1 locs1 p1 p2 p3 => ?_)
  rw [hz, hz0] at p1 p2
  refine kk O H1 locs1 ls ?_ h2 p3 h4
  refine wd_set hL hm hD hq (fun _ => rfl) ?_ (fun b hb => ent_congr rfl rfl (funext fun z0 => by simp [hb]) rfl rfl rfl) p1 (p2.weaken (fun _ _ _ _ => trivial))
  rw [ent_int hT (Or.inl rfl)]
  exact congrArg (fun w => Sum.inl (D.2 11, N a, Sum.inl w)) (funext fun y => by simp [va_cpy])
theorem wd_kept {D : DT} {G : GT} {H H1 : Heap} (h : wd D G H) (hk : ∀ q : Nat, q < H.size → H1[q]? = H[q]?) : wd D G H1 := by
  obtain ⟨L, hL, hP, hD⟩ := h
  exact ⟨L, hL, hP.kept (fun k q hq => hk q.1 ((hP k q hq).lt)), hD⟩
theorem fit2 : ∀ n ∈ ["java/lang/RuntimeException", "java/lang/Exception"], Bundle.fit n = true := by decide +kernel
theorem v_throw {cc : ByteArray} {own : String} {nL : Nat} {R : Room} {D : DT} {K : KT} {pc : Nat} {lv : LV} {st : List Value} {G : GT} {n : Nat × Nat} {ik is ic : Nat} {X text : String} {sz : Nat} {G0 : GT} {post : Option Value → GT → Prop} {postX : String → GT → Prop} (hR : Rx R D K sz G0 post postX) (hT : TWm own ik is ic X text) (d0 : decode cc pc = .ok (.new ik, 3)) (d3 : decode cc (pc + 3) = .ok (.dup, 1)) (d4 : decode cc (pc + 4) = .ok (.ldc is, 2)) (d6 : decode cc (pc + 6) = .ok (.invokespecial ic, 3)) (d9 : decode cc (pc + 9) = .ok (.athrow, 1)) (hr : (st.map fun v => v.category).sum ≤ 8) (hf : 6 ≤ R.frames ∧ 100 ≤ R.locals) (hn : n.1 + 1 ≤ R.cells ∧ n.2 + 6 ≤ R.slots) (hp : postX X G) : V cc own nL R D K pc lv st G n := by
  obtain ⟨p, l, e, s, m, args, below, meth, c, A, Q⟩ := K
  intro O H locs ls h1 h2 h3 h4
  obtain ⟨r2, r3, r4, r5⟩ := hR
  obtain ⟨t1, t2, t3, t4, t5, t6, t7⟩ := hT
  subst r2
  subst r3
  have hES := O.2.2.2.2.2.2.2.2.1
  obtain ⟨sa, hsa⟩ := hES.2.2.2 _ t4
  have hw : W p l e R s m args below meth c H locs n.1 n.2 (vx_MQ below (QcM D s.heap.size G0 post) (XcM D s.heap.size G0 postX) args s R.cells R.slots (frM G0 s.heap.size)) (F0 m pc ls st) :=
    vx_throwS (names := ["java/lang/RuntimeException", "java/lang/Exception"]) O.1 O.2.1 O.2.2.2.2.2.2.2.2.2 O.2.2.2.1 t1 fit2 (O.2.2.2.2.1 _ t2) (O.2.2.2.2.1 _ t3) hsa (vx_hat (B := ngW) (fun w hw => O.2.2.2.2.1 _ (t5 w hw)) t6 (fun w hw => ng_use hw (hES.2.2.1 w hw))) t7 hES.1 hES.2.1 h3 (by rw [O.2.2.1]; exact h4.1) d0 d3 d4 d6 d9 (fun x hx => (r4 x hx).elim) (by have := hf.1; simp; omega) (by have := hf.2; simp at *; omega) hn.1 hn.2 O.2.2.2.2.2.2.2.1
      (fun t hal hz hk => ⟨⟨G, hp, wd_kept h1 hk, h2⟩, Nat.le_trans h3.1 hz, fun q a1 a2 => (hk q (Nat.lt_of_lt_of_le a1 h3.1)).trans (h3.2.1 q a1 a2)⟩) h3.2.2 hn.1 hn.2
  intro T hT X
  obtain ⟨t, a, b⟩ := hw T hT X
  exact ⟨t, a, r5 t b⟩
theorem v_throwW {cc : ByteArray} {own : String} {nL : Nat} {R : Room} {D : DT} {K : KT} {pc : Nat} {lv : LV} {st : List Value} {G : GT} {n : Nat × Nat} {ik is ic : Nat} {X text : String} {sz : Nat} {G0 : GT} {post : Option Value → GT → Prop} {postX : String → GT → Prop} (hR : Rx R D K sz G0 post postX) (hT : TWm own ik is ic X text) (d0 : decode cc pc = .ok (.new ik, 3)) (d3 : decode cc (pc + 3) = .ok (.dup, 1)) (d4 : decode cc (pc + 4) = .ok (.ldc_w is, 3)) (d6 : decode cc (pc + 7) = .ok (.invokespecial ic, 3)) (d9 : decode cc (pc + 10) = .ok (.athrow, 1)) (hr : (st.map fun v => v.category).sum ≤ 8) (hf : 6 ≤ R.frames ∧ 100 ≤ R.locals) (hn : n.1 + 1 ≤ R.cells ∧ n.2 + 6 ≤ R.slots) (hp : postX X G) : V cc own nL R D K pc lv st G n := by
  obtain ⟨p, l, e, s, m, args, below, meth, c, A, Q⟩ := K
  intro O H locs ls h1 h2 h3 h4
  obtain ⟨r2, r3, r4, r5⟩ := hR
  obtain ⟨t1, t2, t3, t4, t5, t6, t7⟩ := hT
  subst r2
  subst r3
  have hES := O.2.2.2.2.2.2.2.2.1
  obtain ⟨sa, hsa⟩ := hES.2.2.2 _ t4
  have hw : W p l e R s m args below meth c H locs n.1 n.2 (vx_MQ below (QcM D s.heap.size G0 post) (XcM D s.heap.size G0 postX) args s R.cells R.slots (frM G0 s.heap.size)) (F0 m pc ls st) :=
    vx_throwSW (names := ["java/lang/RuntimeException", "java/lang/Exception"]) O.1 O.2.1 O.2.2.2.2.2.2.2.2.2 O.2.2.2.1 t1 fit2 (O.2.2.2.2.1 _ t2) (O.2.2.2.2.1 _ t3) hsa (vx_hat (B := ngW) (fun w hw => O.2.2.2.2.1 _ (t5 w hw)) t6 (fun w hw => ng_use hw (hES.2.2.1 w hw))) t7 hES.1 hES.2.1 h3 (by rw [O.2.2.1]; exact h4.1) d0 d3 d4 d6 d9 (fun x hx => (r4 x hx).elim) (by have := hf.1; simp; omega) (by have := hf.2; simp at *; omega) hn.1 hn.2 O.2.2.2.2.2.2.2.1
      (fun t hal hz hk => ⟨⟨G, hp, wd_kept h1 hk, h2⟩, Nat.le_trans h3.1 hz, fun q a1 a2 => (hk q (Nat.lt_of_lt_of_le a1 h3.1)).trans (h3.2.1 q a1 a2)⟩) h3.2.2 hn.1 hn.2
  intro T hT X
  obtain ⟨t, a, b⟩ := hw T hT X
  exact ⟨t, a, r5 t b⟩
