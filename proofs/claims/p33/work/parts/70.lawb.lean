/-! THE LAW: rows and contracts that its methods want -/
theorem v_l2i {cc : ByteArray} {own : String} {nL : Nat} {R : Room} {D : DT} {K : KT} {pc : Nat} {lv : LV} {st : List Value} {G : GT} {n : Nat × Nat} {x : Int64} (hd : decode cc pc = .ok (.l2i, 1)) (k : V cc own nL R D K (pc + 1) lv (.int x.toInt32 :: st) G n) : V cc own nL R D K pc lv (.long x :: st) G n := by
  obtain ⟨p, l, e, s, m, args, below, meth, c, A, Q⟩ := K
  intro O H locs ls h1 h2 h3 h4
  exact lv_l2i O.1 O.2.1 hd rfl (k O H locs ls h1 h2 h3 h4)
theorem v_f2i {cc : ByteArray} {own : String} {nL : Nat} {R : Room} {D : DT} {K : KT} {pc : Nat} {lv : LV} {st : List Value} {G : GT} {n : Nat × Nat} {x : UInt32} (hd : decode cc pc = .ok (.f2i, 1)) (k : V cc own nL R D K (pc + 1) lv (.int (FP.f2i x) :: st) G n) : V cc own nL R D K pc lv (.float x :: st) G n := by
  obtain ⟨p, l, e, s, m, args, below, meth, c, A, Q⟩ := K
  intro O H locs ls h1 h2 h3 h4
  exact lv_f2i O.1 O.2.1 hd (k O H locs ls h1 h2 h3 h4)
theorem v_lrem {cc : ByteArray} {own : String} {nL : Nat} {R : Room} {D : DT} {K : KT} {pc : Nat} {lv : LV} {st : List Value} {G : GT} {n : Nat × Nat} {x y : Int64} (hd : decode cc pc = .ok (.lrem, 1)) (hne : ¬ y = 0) (k : V cc own nL R D K (pc + 1) lv (.long (x - x / y * y) :: st) G n) : V cc own nL R D K pc lv (.long y :: .long x :: st) G n := by
  obtain ⟨p, l, e, s, m, args, below, meth, c, A, Q⟩ := K
  intro O H locs ls h1 h2 h3 h4
  exact lv_lrem O.1 O.2.1 hd hne (k O H locs ls h1 h2 h3 h4)
theorem v_widen {cc : ByteArray} {own : String} {nL : Nat} {R : Room} {D : DT} {K : KT} {pc : Nat} {lv : LV} {st : List Value} {G : GT} {n : Nat × Nat} (n' : Nat × Nat) (h1 : n.1 ≤ n'.1) (h2 : n.2 ≤ n'.2) (k : V cc own nL R D K pc lv st G n') : V cc own nL R D K pc lv st G n := by
  obtain ⟨p, l, e, s, m, args, below, meth, c, A, Q⟩ := K
  intro O H locs ls g1 g2 g3 g4
  exact W.widen h1 h2 (k O H locs ls g1 g2 g3 g4)
theorem free_imp {l : Launch} {x : MethodName} {S : Spec} {P : Array Value → State → Prop} {K : Program → Env → List Frame → State → Array Value → Prop} {Q Q' : Array Value → State → Outcome → State → Prop} (h : MetFree l x S P K Q) (hq : ∀ a s o s', Q a s o s' → Q' a s o s') : MetFree l x S P K Q' := by
  intro p e ha hc hk s m args below hf happ hP hK
  obtain ⟨n, o, h1, h2, h3, h4⟩ := h p e ha hc hk s m args below hf happ hP hK
  exact ⟨n, o, h1, h2, h3, hq _ _ _ _ h4⟩
theorem QcM_imp {D : DT} {sz : Nat} {G : GT} {post post' : Option Value → GT → Prop} (h : ∀ v G', post v G' → post' v G') {a : Array Value} {st : State} {oc : Outcome} {t : State} (q : QcM D sz G post a st oc t) : QcM D sz G post' a st oc t := by
  obtain ⟨⟨v, G', h1, h2, h3⟩, h4⟩ := q
  exact ⟨⟨v, G', h1, h _ _ h2, h3⟩, h4⟩
theorem MC.imp {y : MethodName} {bytes : ByteArray} {maxL : Nat} {ret : Option FieldType} {rm : Room} {D : DT} {As : List Value} {G : GT} {post post' : Option Value → GT → Prop} (hM : MC y bytes maxL ret rm D As G post) (h : ∀ v G', post v G' → post' v G') : MC y bytes maxL ret rm D As G post' := fun l hl sz =>
  free_imp (hM l hl sz) (fun a s o t q => ⟨QcM_imp h q.1, q.2⟩)
theorem MX.imp {y : MethodName} {bytes : ByteArray} {maxL : Nat} {ret : Option FieldType} {rm : Room} {D : DT} {As : List Value} {G : GT} {post post' : Option Value → GT → Prop} {postX postX' : String → GT → Prop} (hM : MX y bytes maxL ret rm D As G post postX) (h : ∀ v G', post v G' → post' v G') (hx : ∀ e G', postX e G' → postX' e G') : MX y bytes maxL ret rm D As G post' postX' := fun l hl sz =>
  free_imp (hM l hl sz) (fun a s o t q => by
    rcases q with q | ⟨b, h1, E, ce, L, ⟨⟨G', a1, a2⟩, a3⟩, a4⟩
    · exact Or.inl ⟨QcM_imp h q.1, q.2⟩
    · exact Or.inr ⟨b, h1, E, ce, L, ⟨⟨G', hx _ _ a1, a2⟩, a3⟩, a4⟩)
/-- a call that throws nothing -/
theorem MX.mc {y : MethodName} {bytes : ByteArray} {maxL : Nat} {ret : Option FieldType} {rm : Room} {D : DT} {As : List Value} {G : GT} {post post' : Option Value → GT → Prop} {postX : String → GT → Prop} (hM : MX y bytes maxL ret rm D As G post postX) (h : ∀ v G', post v G' → post' v G') (hx : ∀ e G', postX e G' → False) : MC y bytes maxL ret rm D As G post' := fun l hl sz =>
  free_imp (hM l hl sz) (fun a s o t q => by
    rcases q with q | ⟨b, h1, E, ce, L, ⟨⟨G', a1, a2⟩, a3⟩, a4⟩
    · exact ⟨QcM_imp h q.1, q.2⟩
    · exact (hx _ _ a1).elim)
theorem ML.imp {y : MethodName} {bytes : ByteArray} {maxL : Nat} {ret : Option FieldType} {hh : List (Nat × Nat × Nat × Nat)} {rm : Room} {D : DT} {As : List Value} {G : GT} {post post' : Option Value → GT → Prop} (hM : ML y bytes maxL ret hh rm D As G post) (h : ∀ v G', post v G' → post' v G') : ML y bytes maxL ret hh rm D As G post' := fun l hl sz =>
  free_imp (hM l hl sz) (fun a s o t q => ⟨QcM_imp h q.1, q.2⟩)
/-- a contract of a method without handlers that calls such with them -/
def MN (y : MethodName) (bytes : ByteArray) (maxL : Nat) (ret : Option FieldType) (rm : Room) (D : DT) (As : List Value) (G : GT) (post : Option Value → GT → Prop) : Prop := ∀ l : Launch, l.stackTraces = false → ∀ sz : Nat, Met l y (wsA y bytes maxL ret) rm (PcL D As sz G) (QcM D sz G post) rm.cells rm.slots (frM G sz)
theorem MN.imp {y : MethodName} {bytes : ByteArray} {maxL : Nat} {ret : Option FieldType} {rm : Room} {D : DT} {As : List Value} {G : GT} {post post' : Option Value → GT → Prop} (hM : MN y bytes maxL ret rm D As G post) (h : ∀ v G', post v G' → post' v G') : MN y bytes maxL ret rm D As G post' := fun l hl sz =>
  free_imp (hM l hl sz) (fun a s o t q => ⟨QcM_imp h q.1, q.2⟩)
theorem MN_of {y : MethodName} {bytes : ByteArray} {maxL : Nat} {ret : Option FieldType} {rm : Room} {D : DT} {As : List Value} {G : GT} {post : Option Value → GT → Prop} (hy : plainName y.cls = true) (hl : (lg_sl As).length ≤ maxL) (h : ∀ (K : KT) (sz : Nat), Rt rm D K ret y.name sz G post → NC3 K.2.2.2.1 → V bytes y.cls maxL rm D K 0 (lpad (lent As) maxL) [] G (0, 0)) : MN y bytes maxL ret rm D As G post := by
  intro l hfl sz
  refine Met.ofW (cc := bytes) (maxL := maxL) (ret := ret) hy rfl ?_
  intro p e s m args below meth c s₁ B hml hv
  obtain ⟨⟨rfl, hsz, hwd, hK, hES⟩, hNC⟩ := hv
  have hts := atoms_spec (ws := wsA y bytes maxL ret) B.pre
  subst hsz
  have hlv := lv_entry As (n := maxL) hl
  rw [lg_entry_eq]
  exact h (p, l, e, s, m, As.toArray, below, meth, c, frM G s.heap.size, MQ below (QcM D s.heap.size G post) As.toArray s rm.cells rm.slots (frM G s.heap.size)) s.heap.size ⟨B.returns, rfl, rfl, (name_of_methodNamed B.named B.method).1, fun _ h => h⟩ hNC ⟨B.exec, B.bytes, hml, findClass_of_methodNamed B.named, fun w hw => hts w (List.mem_cons_of_mem _ hw), hK, fun q hq => Or.inr hq, B.notSynchronized, hES, hfl⟩ s.heap [] _ hwd (fun q hq => Or.inl hq) va_S.rf ⟨hlv.1, hlv.2.1, fun i v hg => hlv.2.2 (i, v) (by have := lent_args As 0 i v (lget_pad hg); simpa using this)⟩
/-- a static call of it -/
theorem v_callN {cc : ByteArray} {own : String} {nL : Nat} {R : Room} {D : DT} {K : KT} {pc : Nat} {lv : LV} {st : List Value} {G : GT} {n : Nat × Nat} {idx k maxL : Nat} {y : MethodName} {bytes : ByteArray} {ret : Option FieldType} {rm : Room} {As rest : List Value} {post : Option Value → GT → Prop} (hNC : NC3 K.2.2.2.1) (hd : decode cc pc = .ok (.invokestatic idx, 3)) (hC : CWm own idx y bytes maxL ret k) (hi : Cond.static y ∈ lw_all) (hM : MN y bytes maxL ret rm D As G post) (hst : st = As.reverse ++ rest) (hk : As.length = k) (hrest : (rest.map fun v => v.category).sum ≤ 8) (hR : rm.frames + 1 ≤ R.frames ∧ 8 + (maxL + 11) + rm.locals ≤ R.locals) (hn : n.1 + rm.cells ≤ R.cells ∧ n.2 + rm.slots ≤ R.slots) (kk : ∀ (v : Option Value) (G' : GT), post v G' → V cc own nL R D K (pc + 3) lv (vst v rest) G' (n.1 + rm.cells, n.2 + rm.slots)) : V cc own nL R D K pc lv st G n := by
  obtain ⟨p, l, e, s, m, args, below, meth, c, A, Q⟩ := K
  intro O H locs ls h1 h2 h3 h4
  obtain ⟨w1, w2, w3, w4, w5, w6⟩ := hC
  refine call_core (va_runS (As := As) (rest := rest) ⟨O.1, O.2.1, O.2.2.1, O.2.2.2.1, O.2.2.2.2.1⟩ (hM l O.2.2.2.2.2.2.2.2.2 H.size) ⟨callB_of (ws' := lw_all) k O.2.2.2.2.1 (gi_ws w3) rfl rfl rfl (O.2.2.2.2.1 _ w2) (O.2.2.2.2.1 _ w1) ⟨w4, w5, w6⟩ hR, O.2.2.2.2.1 _ hi⟩ ⟨PcL_blind _ _ _ _, fun U hU hW => ⟨⟨rfl, by rw [hU], by rw [hU]; exact h1, va_K.moved hW.alike O.2.2.2.2.2.1, by rw [hU]; exact ES_at O.2.2.2.2.2.2.2.2.1 h2 O.2.2.2.2.2.2.1 h3 hW⟩, hNC.moved hW.alike⟩⟩ rfl hk h4.1 hst (lv_room hrest) hd hn) h2 O.2.2.2.2.2.2.1 h3 (fun v G' H1 locs1 hp hw hdm hS => kk v G' hp O H1 locs1 ls hw hdm hS h4)
def SC (K : KT) (b L : Nat) (xs : Nat → Int32) : Prop := match K with
  | (_, _, _, s, _, _, _, _, _, A, _) => va_X b L xs s s.heap ∧ b < s.heap.size ∧ ¬ A b
theorem v_sld {cc : ByteArray} {own : String} {nL : Nat} {R : Room} {D : DT} {K : KT} {pc : Nat} {lv : LV} {st : List Value} {G : GT} {n : Nat × Nat} {b L j : Nat} {xs : Nat → Int32} {i : Int32} (hS : SC K b L xs) (hd : decode cc pc = .ok (.iaload, 1)) (hi : i = nI j) (hj : j < L) (hL : L ≤ 2560) (kk : V cc own nL R D K (pc + 1) lv (.int (xs j) :: st) G n) : V cc own nL R D K pc lv (.int i :: .ref b :: st) G n := by
  obtain ⟨p, l, e, s, m, args, below, meth, c, A, Q⟩ := K
  intro O H locs ls h1 h2 h3 h4
  subst hi
  have ej : (nI j).toNatClampNeg = j := nI_clamp (by omega)
  have hin : vp_in (nI j) L := by
    unfold vp_in
    rw [ej]
    rintro (q | q)
    · exact absurd q (n_nlt.mpr ((nI_leI (a := 0) (b := j) (by decide) (by omega)).mpr (by omega)))
    · omega
  refine va_sld O.1 O.2.1 hS.1 hS.2.1 hS.2.2 h3 hin hd ?_
  rw [ej]
  exact kk O H locs ls h1 h2 h3 h4
theorem v_slen {cc : ByteArray} {own : String} {nL : Nat} {R : Room} {D : DT} {K : KT} {pc : Nat} {lv : LV} {st : List Value} {G : GT} {n : Nat × Nat} {b L : Nat} {xs : Nat → Int32} (hS : SC K b L xs) (hd : decode cc pc = .ok (.arraylength, 1)) (kk : V cc own nL R D K (pc + 1) lv (.int (nI L) :: st) G n) : V cc own nL R D K pc lv (.ref b :: st) G n := by
  obtain ⟨p, l, e, s, m, args, below, meth, c, A, Q⟩ := K
  intro O H locs ls h1 h2 h3 h4
  exact va_slen O.1 O.2.1 hS.1 hS.2.1 hS.2.2 h3 hd (kk O H locs ls h1 h2 h3 h4)
def G0 : GT := (fun _ => 0, fun _ => 0, fun _ _ => 0, fun _ _ => 0, fun _ _ => 0, fun _ _ => none)
theorem wd_0 (D : DT) (H : Heap) : wd D G0 H := ⟨[], fun a => ⟨fun h => absurd h List.not_mem_nil, fun h => absurd rfl h⟩, fun k q h => (by cases h), fun i j p q h => (by cases h), fun k q h => (by cases h)⟩
def PcR (D : DT) (As : List Value) (sz b L : Nat) (xs : Nat → Int32) : Array Value → State → Prop := fun a U => PcM D As sz G0 a U ∧ va_X b L xs U U.heap ∧ b < U.heap.size
theorem PcR_blind (D : DT) (As : List Value) (sz b L : Nat) (xs : Nat → Int32) : FrameBlind (PcR D As sz b L xs) := fun a U g mk h => ⟨PcM_blind D As sz G0 a U g mk h.1, va_X.moved (u := U) (U := U.calling g mk a) (Vm.Alike.refl U.vm) h.2.1, h.2.2⟩
/-- a contract of a method that reads the script alone -/
def MR (y : MethodName) (bytes : ByteArray) (maxL : Nat) (ret : Option FieldType) (rm : Room) (D : DT) (As : List Value) (b L : Nat) (xs : Nat → Int32) (post : Option Value → Prop) : Prop := ∀ l : Launch, l.stackTraces = false → ∀ sz : Nat, Met l y (wsA y bytes maxL ret) rm (PcR D As sz b L xs) (QcM D sz G0 (fun v _ => post v)) rm.cells rm.slots (frM G0 sz)
theorem MR_of {y : MethodName} {bytes : ByteArray} {maxL : Nat} {ret : Option FieldType} {rm : Room} {D : DT} {As : List Value} {b L : Nat} {xs : Nat → Int32} {post : Option Value → Prop} (hy : plainName y.cls = true) (hl : (lg_sl As).length ≤ maxL) (h : ∀ (K : KT) (sz : Nat), Rt rm D K ret y.name sz G0 (fun v _ => post v) → SC K b L xs → V bytes y.cls maxL rm D K 0 (lpad (lent As) maxL) [] G0 (0, 0)) : MR y bytes maxL ret rm D As b L xs post := by
  intro l hfl sz
  refine Met.ofW (cc := bytes) (maxL := maxL) (ret := ret) hy rfl ?_
  intro p e s m args below meth c s₁ B hml hv
  obtain ⟨⟨rfl, hsz, hwd, hK, hES⟩, hX, hb⟩ := hv
  have hts := atoms_spec (ws := wsA y bytes maxL ret) B.pre
  subst hsz
  have hlv := lv_entry As (n := maxL) hl
  rw [lg_entry_eq]
  exact h (p, l, e, s, m, As.toArray, below, meth, c, frM G0 s.heap.size, MQ below (QcM D s.heap.size G0 (fun v _ => post v)) As.toArray s rm.cells rm.slots (frM G0 s.heap.size)) s.heap.size ⟨B.returns, rfl, rfl, (name_of_methodNamed B.named B.method).1, fun _ h => h⟩ ⟨hX, hb, fun z => z.elim (fun z => z rfl) (fun z => Nat.lt_irrefl _ (Nat.lt_of_lt_of_le hb z))⟩ ⟨B.exec, B.bytes, hml, findClass_of_methodNamed B.named, fun w hw => hts w (List.mem_cons_of_mem _ hw), hK, fun q hq => Or.inr hq, B.notSynchronized, hES, hfl⟩ s.heap [] _ hwd (fun q hq => Or.inl hq) va_S.rf ⟨hlv.1, hlv.2.1, fun i v hg => hlv.2.2 (i, v) (by have := lent_args As 0 i v (lget_pad hg); simpa using this)⟩
section CCR
variable {p : Program} {l : Launch} {e : Env} {R : Room} {s : State} {m : MethodId} {args : Array Value} {below : List Frame} {meth : Method} {c : Code} {H : Heap} {locs : List Loc} {cells slots mc ms pc : Nat} {Q : State → Prop} {ls : Array Slot} {st0 rest : List Value} {A : Nat → Prop} {D : DT} {post : Option Value → Prop} {a : Array Value}
theorem call_coreR (hr : va_Run p l e R s m args below meth c H locs cells slots mc ms (F0 m pc ls st0) rest (QcM D H.size G0 (fun v _ => post v) a) (frM G0 H.size)) (hA : ∀ q : Nat, s.heap.size ≤ q → A q) (h3 : va_S A s.heap H locs)
    (kk : ∀ (v : Option Value) (H1 : Heap) (locs1 : List Loc), post v → (∀ q : Nat, q < H.size → H1[q]? = H[q]?) → va_S A s.heap H1 locs1 → W p l e R s m args below meth c H1 locs1 (cells + mc) (slots + ms) Q (F0 m (pc + 3) ls (vst v rest))) : W p l e R s m args below meth c H locs cells slots Q (F0 m pc ls st0) := by
  have hf : ∀ q, frM G0 H.size q → A q := fun q hq => hq.elim (fun z => absurd rfl z) (fun z => hA q (Nat.le_trans h3.1 z))
  intro T hT X
  obtain ⟨v, st₀, t, T', L, e0, X', hL, e1, e2, ⟨⟨v', G', hv, hp, hw, hd⟩, hF⟩, st⟩ := hr T hT X
  cases hv
  obtain ⟨-, k2, k3⟩ := vx_keep e0 e1 h3 (fun q _ h => hf q h) hf hL hF
  obtain ⟨t2, a1, b1⟩ := kk v T'.heap (locs ++ L) hp (fun q hq => k2 q hq (fun z => z.elim (fun z => absurd rfl z) (fun z => by omega))) k3 T' rfl X'
  rw [← vst_eq] at a1
  exact ⟨t2, st t2 a1, b1⟩
end CCR
theorem v_callR {cc : ByteArray} {own : String} {nL : Nat} {R : Room} {D : DT} {K : KT} {pc : Nat} {lv : LV} {st : List Value} {G : GT} {n : Nat × Nat} {idx k maxL : Nat} {y : MethodName} {bytes : ByteArray} {ret : Option FieldType} {rm : Room} {As rest : List Value} {b L : Nat} {xs : Nat → Int32} {post : Option Value → Prop} (hS : SC K b L xs) (hd : decode cc pc = .ok (.invokestatic idx, 3)) (hC : CWm own idx y bytes maxL ret k) (hi : Cond.static y ∈ lw_all) (hM : MR y bytes maxL ret rm D As b L xs post) (hst : st = As.reverse ++ rest) (hk : As.length = k) (hrest : (rest.map fun v => v.category).sum ≤ 8) (hR : rm.frames + 1 ≤ R.frames ∧ 8 + (maxL + 11) + rm.locals ≤ R.locals) (hn : n.1 + rm.cells ≤ R.cells ∧ n.2 + rm.slots ≤ R.slots) (kk : ∀ (v : Option Value), post v → V cc own nL R D K (pc + 3) lv (vst v rest) G (n.1 + rm.cells, n.2 + rm.slots)) : V cc own nL R D K pc lv st G n := by
  obtain ⟨p, l, e, s, m, args, below, meth, c, A, Q⟩ := K
  intro O H locs ls h1 h2 h3 h4
  obtain ⟨w1, w2, w3, w4, w5, w6⟩ := hC
  obtain ⟨x1, x2, x3⟩ := hS
  have hz : va_X b L xs s H := x1.kept (h3.2.1 b x2 x3)
  refine call_coreR (va_runS (As := As) (rest := rest) ⟨O.1, O.2.1, O.2.2.1, O.2.2.2.1, O.2.2.2.2.1⟩ (hM l O.2.2.2.2.2.2.2.2.2 H.size) ⟨callB_of (ws' := lw_all) k O.2.2.2.2.1 (gi_ws w3) rfl rfl rfl (O.2.2.2.2.1 _ w2) (O.2.2.2.2.1 _ w1) ⟨w4, w5, w6⟩ hR, O.2.2.2.2.1 _ hi⟩ ⟨PcR_blind _ _ _ _ _ _, fun U hU hW => ⟨⟨rfl, by rw [hU], wd_0 D _, va_K.moved hW.alike O.2.2.2.2.2.1, by rw [hU]; exact ES_at O.2.2.2.2.2.2.2.2.1 (fun q hq => absurd rfl hq) O.2.2.2.2.2.2.1 h3 hW⟩, by rw [hU]; exact hz.moved hW.alike, by rw [hU]; exact Nat.lt_of_lt_of_le x2 h3.1⟩⟩ rfl hk h4.1 hst (lv_room hrest) hd hn) O.2.2.2.2.2.2.1 h3 (fun v H1 locs1 hp hq hS => kk v hp O H1 locs1 ls (wd_kept h1 hq) h2 hS h4)
/-! asks: what bears, bearsAnew and rest reckon with is of no account between calls -/
def EQ (s s1 : SG) : Prop := (∀ k, k ≠ 43 → k ≠ 46 → s1.1 k = s.1 k) ∧ ∀ k, k ≠ 42 → s1.2 k = s.2 k
theorem EQ.rf (s : SG) : EQ s s := ⟨fun _ _ _ => rfl, fun _ _ => rfl⟩
theorem EQ.tr {s s1 s2 : SG} (h : EQ s s1) (h2 : EQ s1 s2) : EQ s s2 := ⟨fun k a b => (h2.1 k a b).trans (h.1 k a b), fun k a => (h2.2 k a).trans (h.2 k a)⟩
theorem EQ.sK (s : SG) (L : LT) : EQ s (sK s L) := ⟨fun _ _ _ => rfl, fun k h => if_neg h⟩
theorem EQ.sG (s : SG) (g : Nat → Int32) : EQ s (sG s g) := ⟨fun k h _ => if_neg h, fun _ _ => rfl⟩
theorem EQ.lot {s s1 : SG} (e : EQ s s1) (l k : Nat) : lotStr s1 l k = lotStr s l k := by
  unfold lotStr leftS
  rw [e.1 1 (by decide) (by decide), e.1 2 (by decide) (by decide)]
theorem EQ.str {s s1 : SG} (e : EQ s s1) (j : Nat) : strS s1 j = strS s j := by
  unfold strS
  rw [e.lot, e.1 5 (by decide) (by decide), e.1 6 (by decide) (by decide), e.1 8 (by decide) (by decide)]
theorem EQ.seam {s s1 : SG} (e : EQ s s1) (i : Nat) : seamS s1 i = seamS s i := by
  unfold seamS pctS
  rw [e.str, e.str, e.1 10 (by decide) (by decide), e.1 11 (by decide) (by decide), e.1 12 (by decide) (by decide)]
theorem EQ.es {s s1 : SG} (e : EQ s s1) : ∀ n, esM s1 n = esM s n := by
  intro n
  induction n with
  | zero => rfl
  | succ n ih =>
    simp only [esM, ih, capS, enA, enB, e.str, e.seam, e.1 10 (by decide) (by decide), e.1 11 (by decide) (by decide), e.1 13 (by decide) (by decide)]
theorem EQ.fin {s s1 : SG} (e : EQ s s1) (np ns x : Nat) : finL s1 np ns x = finL s np ns x := by
  have h : iniL s1 x (s.2 14) np = iniL s x (s.2 14) np := funext fun k => by unfold iniL; rw [e.str]
  unfold finL
  rw [e.es, e.2 14 (by decide), h]
/-- the law's three rows: where they lie, what they hold -/
abbrev MT : Type := (Nat × Nat × Nat) × (Nat → Int32) × (Nat → Int32) × (Nat → Int64)
def AM (M : MT) : Nat → Prop := fun p => p = M.1.1 ∨ p = M.1.2.1 ∨ p = M.1.2.2
def ARR (M : MT) (G : GT) : Prop := (G.1 M.1.1 = 11 ∧ G.2.1 M.1.1 = 9 ∧ G.2.2.1 M.1.1 = M.2.1) ∧ (G.1 M.1.2.1 = 11 ∧ G.2.1 M.1.2.1 = 36 ∧ G.2.2.1 M.1.2.1 = M.2.2.1) ∧ (G.1 M.1.2.2 = 12 ∧ G.2.1 M.1.2.2 = 8 ∧ G.2.2.2.1 M.1.2.2 = M.2.2.2) ∧ M.1.1 ≠ M.1.2.1
def xA (X : XT) (M : MT) (G : GT) : XT := (X.1, X.2.1, X.2.2.1, AM M, G)
/-- the world: the object's state up to what is of no account, and the law's rows -/
def WD (X : XT) (s : SG) (M : MT) (G : GT) : Prop := (∃ s1, EQ s s1 ∧ LF (xA X M G) s1 G) ∧ ARR M G
theorem ARR.to {M : MT} {G G1 : GT} (h : ARR M G) (hs : ∀ p, AM M p → same6 G1 G p) : ARR M G1 := by
  obtain ⟨⟨a1, a2, a3⟩, ⟨b1, b2, b3⟩, ⟨c1, c2, c3⟩, d⟩ := h
  have s1 := hs M.1.1 (Or.inl rfl)
  have s2 := hs M.1.2.1 (Or.inr (Or.inl rfl))
  have s3 := hs M.1.2.2 (Or.inr (Or.inr rfl))
  exact ⟨⟨s1.1.trans a1, s1.2.1.trans a2, s1.2.2.1.trans a3⟩, ⟨s2.1.trans b1, s2.2.1.trans b2, s2.2.2.1.trans b3⟩, ⟨s3.1.trans c1, s3.2.1.trans c2, s3.2.2.2.1.trans c3⟩, d⟩
theorem LF.re {X : XT} {s : SG} {G : GT} (h : LF X s G) {A : Nat → Prop} (hA : ∀ p, A p → (∀ c i, X.2.1 c i = true → p ≠ X.1 c i) ∧ G.1 p ≠ 0) : LF (X.1, X.2.1, X.2.2.1, A, G) s G :=
  ⟨h.1, h.2.1, h.2.2.1, fun p hp => ⟨(hA p hp).1, (hA p hp).2, rfl, rfl, rfl, rfl, rfl, rfl⟩⟩
theorem LF.asd {X : XT} {s : SG} {M : MT} {G G1 : GT} (h : LF X s G1) (hA : X.2.2.2 = (AM M, G)) : ∀ p, AM M p → (∀ c i, X.2.1 c i = true → p ≠ X.1 c i) ∧ G.1 p ≠ 0 ∧ same6 G1 G p := fun p hp => by
  have := h.2.2.2 p (by rw [show X.2.2.2.1 = AM M from congrArg (fun z => z.1) hA]; exact hp)
  rw [show X.2.2.2.2 = G from congrArg (fun z => z.2) hA] at this
  exact this
/-- behind a call: s1 is the state that counts, s2 the one that is held -/
theorem WD.to {X1 : XT} {s1 s2 : SG} {M : MT} {G G1 : GT} (h : ARR M G) (hL : LF X1 s2 G1) (hA : X1.2.2.2 = (AM M, G)) (he : EQ s1 s2) : WD X1 s1 M G1 := by
  have ha := hL.asd hA
  exact ⟨⟨s2, he, hL.re (fun p hp => ⟨(ha p hp).1, by rw [(ha p hp).2.2.1]; exact (ha p hp).2.1⟩)⟩, h.to (fun p hp => (ha p hp).2.2)⟩
theorem WD.eq {X : XT} {s s1 : SG} {M : MT} {G : GT} (h : WD X s1 M G) (he : EQ s s1) : WD X s M G := by
  obtain ⟨⟨s2, e2, hL⟩, hR⟩ := h
  exact ⟨⟨s2, he.tr e2, hL⟩, hR⟩
/-- the law's rows stand apart from the object -/
theorem WD.am {X : XT} {s : SG} {M : MT} {G : GT} (h : WD X s M G) : ∀ p, AM M p → ∀ c i, X.2.1 c i = true → p ≠ X.1 c i := fun p hp => by
  obtain ⟨⟨s2, e2, hL⟩, hR⟩ := h
  exact (hL.asd (X := xA X M G) rfl p hp).1
theorem WD.ari {X : XT} {s : SG} {M : MT} {T N : Nat → Nat} {I : Nat → Nat → Int32} {J : Nat → Nat → Int64} {E : Nat → Nat → UInt64} {Rf : Nat → Nat → Option Nat} (h : WD X s M (T, N, I, J, E, Rf)) (M1 : MT) (G1 : GT) (e : M1.1 = M.1) (p : Nat) (hp : AM M p) (hO : ∀ q, q ≠ p → same6 G1 (T, N, I, J, E, Rf) q) (hR1 : ARR M1 G1) : WD X s M1 G1 := by
  obtain ⟨⟨s2, e2, hL⟩, hR⟩ := h
  have ha := hL.asd (X := xA X M _) rfl
  have hk : ∀ q, AM M1 q → G1.1 q ≠ 0 := fun q hq => by
    obtain ⟨⟨a1, -, -⟩, ⟨b1, -, -⟩, ⟨c1, -, -⟩, -⟩ := hR1
    rcases hq with rfl | rfl | rfl
    · rw [a1]; decide
    · rw [b1]; decide
    · rw [c1]; decide
  have eA : AM M1 = AM M := by unfold AM; rw [e]
  refine ⟨⟨s2, e2, ?_⟩, hR1⟩
  have h9 : LF (X.1, X.2.1, X.2.2.1, (fun _ => False), G1) s2 G1 := by
    have h8 : LF (X.1, X.2.1, X.2.2.1, (fun _ => False), (T, N, I, J, E, Rf)) s2 (T, N, I, J, E, Rf) := LF.re (X := xA X M _) hL (A := fun _ => False) (fun p hp => hp.elim)
    exact (h8.to0.ext (q := p) (fun c i hl z => (ha p hp).1 c i hl z.symm) (fun p hp => hp.elim) (fun q _ hq => hO q hq)).to h8.2.2.1 |>.re (A := fun _ => False) (fun p hp => hp.elim)
  exact LF.re (X := (X.1, X.2.1, X.2.2.1, (fun _ => False), G1)) h9 (A := AM M1) (fun q hq => ⟨fun c i hl => (ha q (eA ▸ hq)).1 c i hl, hk q hq⟩)
