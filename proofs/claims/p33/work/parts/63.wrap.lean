/-- which exceptions are no other ones -/
def NC3 (U : State) : Prop := va_Nc xIA xIO U ∧ va_Nc xIS xIO U ∧ va_Nc xIS xIA U
theorem NC3.moved {u U : State} (hvm : u.vm.Alike U.vm) (h : NC3 u) : NC3 U := ⟨va_Nc.moved hvm h.1, va_Nc.moved hvm h.2.1, va_Nc.moved hvm h.2.2⟩
def ncP (E nm : String) : Prop := (E = xIA ∧ nm = xIO) ∨ (E = xIS ∧ nm = xIO) ∨ (E = xIS ∧ nm = xIA)
theorem NC3.of {U : State} (h : NC3 U) {E nm : String} (hp : ncP E nm) : va_Nc E nm U := by
  rcases hp with ⟨rfl, rfl⟩ | ⟨rfl, rfl⟩ | ⟨rfl, rfl⟩
  · exact h.1
  · exact h.2.1
  · exact h.2.2
def PcL (D : DT) (As : List Value) (sz : Nat) (G : GT) : Array Value → State → Prop := fun a U => PcM D As sz G a U ∧ NC3 U
theorem PcL_blind (D : DT) (As : List Value) (sz : Nat) (G : GT) : FrameBlind (PcL D As sz G) := fun a U g mk h => ⟨PcM_blind D As sz G a U g mk h.1, NC3.moved (u := U) (U := U.calling g mk a) (Vm.Alike.refl U.vm) h.2⟩
def wsB (y : MethodName) (bytes : ByteArray) (maxL : Nat) (ret : Option FieldType) (hh : List (Nat × Nat × Nat × Nat)) : List Cond := .codeWith y bytes maxL ret hh :: lw_all
/-- a contract of a method with handlers -/
def ML (y : MethodName) (bytes : ByteArray) (maxL : Nat) (ret : Option FieldType) (hh : List (Nat × Nat × Nat × Nat)) (rm : Room) (D : DT) (As : List Value) (G : GT) (post : Option Value → GT → Prop) : Prop := ∀ l : Launch, l.stackTraces = false → ∀ sz : Nat, Met l y (wsB y bytes maxL ret hh) rm (PcL D As sz G) (QcM D sz G post) rm.cells rm.slots (frM G sz)
/-- the walk's method has these handlers -/
def XT9 (K : KT) (T : List ExceptionTableEntry) : Prop := match K with
  | (_, _, _, s, _, _, _, _, c, _, _) => c.exceptionTable.toList = T ∧ NC3 s
theorem ML_of {y : MethodName} {bytes : ByteArray} {maxL : Nat} {ret : Option FieldType} {hh : List (Nat × Nat × Nat × Nat)} {rm : Room} {D : DT} {As : List Value} {G : GT} {post : Option Value → GT → Prop} (hy : plainName y.cls = true) (hl : (lg_sl As).length ≤ maxL) (h : ∀ (K : KT) (sz : Nat), Rt rm D K ret y.name sz G post → XT9 K (tableOf hh) → V bytes y.cls maxL rm D K 0 (lpad (lent As) maxL) [] G (0, 0)) : ML y bytes maxL ret hh rm D As G post := by
  intro l hfl sz
  refine va_MetW (cc := bytes) (maxL := maxL) (ret := ret) (hh := hh) hy rfl ?_
  intro p e s m args below meth c s₁ B hml hv
  obtain ⟨⟨rfl, hsz, hwd, hK, hES⟩, hNC⟩ := hv
  have hts := atoms_spec (ws := wsB y bytes maxL ret hh) B.pre
  have htb := vx_table (x := y) B (hts _ List.mem_cons_self)
  subst hsz
  have hlv := lv_entry As (n := maxL) hl
  rw [lg_entry_eq]
  exact h (p, l, e, s, m, As.toArray, below, meth, c, frM G s.heap.size, MQ below (QcM D s.heap.size G post) As.toArray s rm.cells rm.slots (frM G s.heap.size)) s.heap.size ⟨B.returns, rfl, rfl, (name_of_methodNamed B.named B.method).1, fun _ h => h⟩ ⟨htb, hNC⟩ ⟨B.exec, B.bytes, hml, findClass_of_methodNamed B.named, fun w hw => hts w (List.mem_cons_of_mem _ hw), hK, fun q hq => Or.inr hq, B.notSynchronized, hES, hfl⟩ s.heap [] _ hwd (fun q hq => Or.inl hq) va_S.rf ⟨hlv.1, hlv.2.1, fun i v hg => hlv.2.2 (i, v) (by have := lent_args As 0 i v (lget_pad hg); simpa using this)⟩
section CCX
variable {p : Program} {l : Launch} {e : Env} {R : Room} {s : State} {m : MethodId} {args : Array Value} {below : List Frame} {meth : Method} {c : Code} {H : Heap} {locs : List Loc} {cells slots mc ms pc : Nat} {Q : State → Prop} {ls : Array Slot} {st0 rest : List Value} {A : Nat → Prop} {D : DT} {G : GT} {post : Option Value → GT → Prop} {postX : String → GT → Prop} {a : Array Value}
theorem call_coreX (hr : vx_Run p l e R s m args below meth c H locs cells slots mc ms (F0 m pc ls st0) rest (QcM D H.size G post a) (XcM D H.size G postX) (frM G H.size)) (h2 : ∀ q : Nat, G.1 q ≠ 0 → A q) (hA : ∀ q : Nat, s.heap.size ≤ q → A q) (h3 : va_S A s.heap H locs)
    (kk : ∀ (v : Option Value) (G' : GT) (H1 : Heap) (locs1 : List Loc), post v G' → wd D G' H1 → (∀ q, G'.1 q ≠ 0 → A q) → va_S A s.heap H1 locs1 → W p l e R s m args below meth c H1 locs1 (cells + mc) (slots + ms) Q (F0 m (pc + 3) ls (vst v rest)))
    (kx : ∀ (E : String) (G' : GT) (H1 : Heap) (locs1 : List Loc) (q : Nat) (ce : Cell), postX E G' → wd D G' H1 → (∀ q, G'.1 q ≠ 0 → A q) → va_S A s.heap H1 locs1 → H1[q]? = some ce → ce.vm = .none → s.vm.findClass E = some ce.cls → vx_W p l e R s m args below meth c H1 locs1 (cells + mc) (slots + ms) Q (F0 m pc ls rest) q) : W p l e R s m args below meth c H locs cells slots Q (F0 m pc ls st0) := by
  have hf : ∀ q, frM G H.size q → A q := fun q hq => hq.elim (h2 q) (fun z => hA q (Nat.le_trans h3.1 z))
  intro T hT X
  rcases hr T hT X with ⟨v, st₀, t, T', L, e0, X', hL, e1, e2, ⟨⟨v', G', hv, hp, hw, hd⟩, hF⟩, st⟩ | ⟨q, st₀, t, T', L, E, ce, e0, X', hL, e1, e2, ⟨⟨G', hp, hw, hd⟩, hF⟩, hce, hcv, hcl, st⟩
  · cases hv
    obtain ⟨-, -, k3⟩ := vx_keep e0 e1 h3 (fun q _ h => hf q h) hf hL hF
    obtain ⟨t2, a1, b1⟩ := kk v G' T'.heap (locs ++ L) hp (by rw [e1]; exact hw) (fun q hq => hf q (hd q hq)) k3 T' rfl X'
    rw [← vst_eq] at a1
    exact ⟨t2, st t2 a1, b1⟩
  · obtain ⟨-, -, k3⟩ := vx_keep e0 e1 h3 (fun q _ h => hf q h) hf hL hF
    obtain ⟨t2, a1, b1⟩ := kx E G' T'.heap (locs ++ L) q ce hp (by rw [e1]; exact hw) (fun q hq => hf q (hd q hq)) k3 (by rw [e1]; exact hce) hcv hcl T' rfl X'
    exact ⟨t2, st.trans a1, b1⟩
end CCX
/-- a call within handlers: it returns, or what it throws is caught -/
theorem v_try {cc : ByteArray} {own : String} {nL : Nat} {R : Room} {D : DT} {K : KT} {pc : Nat} {lv : LV} {st : List Value} {G : GT} {n : Nat × Nat} {idx k maxL : Nat} {y : MethodName} {bytes : ByteArray} {ret : Option FieldType} {rm : Room} {As rest : List Value} {b : Nat} {ci : Nat} {T0 : u_T} {N0 : Nat} {post : Option Value → GT → Prop} {postX : String → GT → Prop} {T : List ExceptionTableEntry} (hX : XT9 K T) (hd : decode cc pc = .ok (.invokevirtual idx, 3)) (hC : CWm own idx y bytes maxL ret k) (hi : Cond.instanceMethod y ∈ lw_all) (hsel : Cond.selects y.cls y y ∈ lw_all) (hM : MX y bytes maxL ret rm D (.ref b :: As) G post postX) (hT : G.1 b = ci + 1) (hci : cls[ci]? = some (y.cls, T0, N0)) (hst : st = As.reverse ++ .ref b :: rest) (hk : As.length = k) (hrest : (rest.map fun v => v.category).sum ≤ 8) (hR : rm.frames + 1 ≤ R.frames ∧ 8 + (maxL + 11) + rm.locals ≤ R.locals) (hn : n.1 + rm.cells ≤ R.cells ∧ n.2 + rm.slots ≤ R.slots) (kk : ∀ (v : Option Value) (G' : GT), post v G' → V cc own nL R D K (pc + 3) lv (vst v rest) G' (n.1 + rm.cells, n.2 + rm.slots))
    (kx : ∀ (E : String) (G' : GT) (q : Nat), postX E G' → ∃ (pre : List ExceptionTableEntry) (x : ExceptionTableEntry) (suf : List ExceptionTableEntry) (nm : String), T = pre ++ x :: suf ∧ (∀ z ∈ pre, covers z pc = false ∨ (z.catchType ≠ 0 ∧ ∃ nm : String, Cond.classLink own z.catchType nm ∈ lw_all ∧ ncP E nm)) ∧ covers x pc = true ∧ x.catchType ≠ 0 ∧ Cond.classLink own x.catchType nm ∈ lw_all ∧ Cond.castable E nm ∈ ngW ∧ V cc own nL R D K x.handlerPc lv [.ref q] G' (n.1 + rm.cells, n.2 + rm.slots)) : V cc own nL R D K pc lv st G n := by
  obtain ⟨p, l, e, s, m, args, below, meth, c, A, Q⟩ := K
  intro O H locs ls h1 h2 h3 h4
  obtain ⟨w1, w2, w3, w4, w5, w6⟩ := hC
  obtain ⟨hX1, hX2⟩ := hX
  have hrc : ∃ cell : Cell, H[b]? = some cell ∧ cell.vm.isStatics = false ∧ s.vm.findClass y.cls = some cell.cls := by
    obtain ⟨L, q, hL, hm, hP, hD, hq⟩ := wd_at h1 (a := b) (by rw [hT]; omega)
    obtain ⟨T, N, I, J, E, Rf⟩ := G
    rw [ent_obj hT (cls_lt hci)] at hq
    exact va_recv O.2.2.2.2.2.1 hP hci hq
  refine call_coreX (vx_runV (As := As) (rest := rest) ⟨O.1, O.2.1, O.2.2.1, O.2.2.2.1, O.2.2.2.2.1⟩ (hM l O.2.2.2.2.2.2.2.2.2 H.size) ⟨callB_of (ws' := lw_all) k O.2.2.2.2.1 (gi_ws w3) rfl rfl rfl (O.2.2.2.2.1 _ w2) (O.2.2.2.2.1 _ w1) ⟨w4, w5, w6⟩ hR, O.2.2.2.2.1 _ hi, O.2.2.2.2.1 _ hsel⟩ ⟨PcM_blind _ _ _ _, hrc, fun U hU hW => ⟨rfl, by rw [hU], by rw [hU]; exact h1, va_K.moved hW.alike O.2.2.2.2.2.1, by rw [hU]; exact ES_at O.2.2.2.2.2.2.2.2.1 h2 O.2.2.2.2.2.2.1 h3 hW⟩⟩ rfl hk h4.1 hst (lv_room hrest) hd hn) h2 O.2.2.2.2.2.2.1 h3 (fun v G' H1 locs1 hp hw hdm hS => kk v G' hp O H1 locs1 ls hw hdm hS h4) (fun E G' H1 locs1 q ce hp hw hdm hS hce hcv hcl => ?_)
  obtain ⟨pre, x, suf, nm, x1, x2, x3, x4, x5, x6, x7⟩ := kx E G' q hp
  exact vx_catch O.2.2.2.1 pre x suf (hX1.trans x1) (fun z hz => (x2 z hz).imp (fun h => h) (fun h => ⟨h.1, h.2.choose, O.2.2.2.2.1 _ h.2.choose_spec.1, hX2.of h.2.choose_spec.2⟩)) x3 x4 (O.2.2.2.2.1 _ x5) (ng_use x6 (O.2.2.2.2.2.2.2.2.1.2.2.1 _ x6)) hce hcv hcl (x7 O H1 locs1 ls hw hdm hS h4)
theorem gi_wsB {y : MethodName} {bytes : ByteArray} {maxL : Nat} {ret : Option FieldType} {hh : List (Nat × Nat × Nat × Nat)} (h : Cond.codeWith y bytes maxL ret hh ∈ lw_all) : GoodIn lw_all (wsB y bytes maxL ret hh) := fun w hw => (List.mem_cons.mp hw).elim (fun e => e ▸ gi_all h) gi_all
/-- a call of a method with handlers -/
theorem v_callL {cc : ByteArray} {own : String} {nL : Nat} {R : Room} {D : DT} {K : KT} {pc : Nat} {lv : LV} {st : List Value} {G : GT} {n : Nat × Nat} {idx k maxL : Nat} {y : MethodName} {bytes : ByteArray} {ret : Option FieldType} {hh : List (Nat × Nat × Nat × Nat)} {rm : Room} {As rest : List Value} {post : Option Value → GT → Prop} (hNC : NC3 K.2.2.2.1) (hd : decode cc pc = .ok (.invokestatic idx, 3)) (w1 : Cond.methodLink own idx y ∈ lw_all) (w2 : Cond.initialized y.cls ∈ lw_all) (w3 : Cond.codeWith y bytes maxL ret hh ∈ lw_all) (w4 : y.cls ≠ "java/lang/invoke/MethodHandle" ∧ y.cls ≠ "java/lang/invoke/VarHandle" ∧ (parseMethodDescriptor y.desc).map (fun d => d.parameters.length) = some k) (hi : Cond.static y ∈ lw_all) (hM : ML y bytes maxL ret hh rm D As G post) (hst : st = As.reverse ++ rest) (hk : As.length = k) (hrest : (rest.map fun v => v.category).sum ≤ 8) (hR : rm.frames + 1 ≤ R.frames ∧ 8 + (maxL + 11) + rm.locals ≤ R.locals) (hn : n.1 + rm.cells ≤ R.cells ∧ n.2 + rm.slots ≤ R.slots) (kk : ∀ (v : Option Value) (G' : GT), post v G' → V cc own nL R D K (pc + 3) lv (vst v rest) G' (n.1 + rm.cells, n.2 + rm.slots)) : V cc own nL R D K pc lv st G n := by
  obtain ⟨p, l, e, s, m, args, below, meth, c, A, Q⟩ := K
  intro O H locs ls h1 h2 h3 h4
  refine call_core (vx_runSW (As := As) (rest := rest) ⟨O.1, O.2.1, O.2.2.1, O.2.2.2.1, O.2.2.2.2.1⟩ (hM l O.2.2.2.2.2.2.2.2.2 H.size) (vx_cwSW (ws' := lw_all) k O.2.2.2.2.1 (fun w hw => ?_) rfl rfl rfl w4 hR) ⟨PcL_blind _ _ _ _, fun U hU hW => ⟨⟨rfl, by rw [hU], by rw [hU]; exact h1, va_K.moved hW.alike O.2.2.2.2.2.1, by rw [hU]; exact ES_at O.2.2.2.2.2.2.2.2.1 h2 O.2.2.2.2.2.2.1 h3 hW⟩, hNC.moved hW.alike⟩⟩ rfl hk h4.1 hst (lv_room hrest) hd hn) h2 O.2.2.2.2.2.2.1 h3 (fun v G' H1 locs1 hp hw hdm hS => kk v G' hp O H1 locs1 ls hw hdm hS h4)
  unfold va_wsS at hw
  rcases List.mem_append.mp hw with q | q
  · simp only [List.mem_cons, List.not_mem_nil, or_false] at q
    rcases q with rfl | rfl | rfl
    all_goals first | exact gi_all w1 | exact gi_all w2 | exact gi_all hi
  · exact gi_wsB w3 w q
