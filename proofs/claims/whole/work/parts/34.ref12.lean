abbrev rm_X9_ini : Room := { frames := 2, cells := 28, slots := 446, locals := 60 }
/-- the reference's object, while it is being made: the rows ks stand -/
def PD0 (m : Nat) (ks : List Nat) (ad : Nat → Nat) (G : GT) : Prop := G.1 m = 10 ∧ (∀ k, G.2.2.1 m k = 0) ∧ (∀ k, k ∈ ks → mk k ≠ 0 ∧ G.2.2.2.2.2 m k = some (ad k) ∧ G.1 (ad k) = mk k ∧ G.2.1 (ad k) = ml k ∧ (∀ j, G.2.2.1 (ad k) j = 0) ∧ ∀ j, G.2.2.2.1 (ad k) j = 0) ∧ ∀ k k', k ∈ ks → k' ∈ ks → ad k = ad k' → k = k'
theorem PD0.step {m : Nat} {ks : List Nat} {ad : Nat → Nat} {G : GT} {q k : Nat} (h : PD0 m ks ad G) (hq : G.1 q = 0) (hk : mk k ≠ 0) (hn : k ∉ ks) : PD0 m (k :: ks) (u1 ad k q) ((Gnew G q (mk k) (ml k)).1, (Gnew G q (mk k) (ml k)).2.1, (Gnew G q (mk k) (ml k)).2.2.1, (Gnew G q (mk k) (ml k)).2.2.2.1, (Gnew G q (mk k) (ml k)).2.2.2.2.1, u2 (Gnew G q (mk k) (ml k)).2.2.2.2.2 m k (some q)) := by
  obtain ⟨T, N, I, J, E, Rf⟩ := G
  obtain ⟨h1, h2, h3, h4⟩ := h
  have hqm : m ≠ q := fun e => by
    have h5 : T m = 10 := h1
    have h6 : T q = 0 := hq
    rw [← e, h5] at h6
    cases h6
  have hqk : ∀ k', k' ∈ ks → ad k' ≠ q := fun k' hk' e => (h3 k' hk').1 (by rw [← (h3 k' hk').2.2.1, e]; exact hq)
  have hkk : ∀ k', k' ∈ ks → k' ≠ k := fun k' hk' e => hn (e ▸ hk')
  refine ⟨by show u1 T q (mk k) m = 10; rw [u1_n _ _ hqm]; exact h1, fun k' => by show c2 I q 0 m k' = 0; rw [c2_n _ _ _ hqm]; exact h2 k', fun k' hk' => ?_, fun a b ha hb => ?_⟩
  · rcases List.mem_cons.mp hk' with rfl | hk'
    · refine ⟨hk, ?_, ?_, ?_, fun j => ?_, fun j => ?_⟩
      · show u2 (c2 Rf q none) m k' (some q) m k' = some (u1 ad k' q k'); rw [u2_s, u1_s]
      · show u1 T q (mk k') (u1 ad k' q k') = mk k'; rw [u1_s, u1_s]
      · show u1 N q (ml k') (u1 ad k' q k') = ml k'; rw [u1_s, u1_s]
      · show c2 I q 0 (u1 ad k' q k') j = 0; rw [u1_s, c2_s]
      · show c2 J q 0 (u1 ad k' q k') j = 0; rw [u1_s, c2_s]
    · obtain ⟨a0, a1, a2, a3, a4, a5⟩ := h3 k' hk'
      have e : u1 ad k q k' = ad k' := u1_n _ _ (hkk k' hk')
      have nq := hqk k' hk'
      refine ⟨a0, ?_, ?_, ?_, fun j => ?_, fun j => ?_⟩
      · show u2 (c2 Rf q none) m k (some q) m k' = some (u1 ad k q k'); rw [u2_k _ _ (hkk k' hk'), c2_n _ _ _ hqm, e]; exact a1
      · show u1 T q (mk k) (u1 ad k q k') = mk k'; rw [e, u1_n _ _ nq]; exact a2
      · show u1 N q (ml k) (u1 ad k q k') = ml k'; rw [e, u1_n _ _ nq]; exact a3
      · show c2 I q 0 (u1 ad k q k') j = 0; rw [e, c2_n _ _ _ nq]; exact a4 j
      · show c2 J q 0 (u1 ad k q k') j = 0; rw [e, c2_n _ _ _ nq]; exact a5 j
  · intro e
    by_cases e1 : a = k
    · by_cases e2 : b = k
      · rw [e1, e2]
      · rw [e1, u1_s, u1_n _ _ e2] at e
        exact absurd e.symm (hqk b ((List.mem_cons.mp hb).resolve_left e2))
    · by_cases e2 : b = k
      · rw [e2, u1_s, u1_n _ _ e1] at e
        exact absurd e (hqk a ((List.mem_cons.mp ha).resolve_left e1))
      · rw [u1_n _ _ e1, u1_n _ _ e2] at e
        exact h4 a b ((List.mem_cons.mp ha).resolve_left e1) ((List.mem_cons.mp hb).resolve_left e2) e
def zeroS : SG := (fun _ _ => 0, fun _ _ => 0)
theorem PD0.done {m : Nat} {ks : List Nat} {ad : Nat → Nat} {G : GT} (h : PD0 m ks ad G) (hk : ∀ k, mk k ≠ 0 → k ∈ ks) : MD0 m ad zeroS G :=
  ⟨h.1, fun k _ _ => h.2.1 k, fun k hk0 => ⟨(h.2.2.1 k (hk k hk0)).2.1, (h.2.2.1 k (hk k hk0)).2.2.1, (h.2.2.1 k (hk k hk0)).2.2.2.1⟩, fun k hk0 _ => funext fun j => (h.2.2.1 k (hk k hk0)).2.2.2.2.1 j, fun k hk2 => funext fun j => (h.2.2.1 k (hk k (by omega))).2.2.2.2.2 j, fun k k' hk0 hk1 => h.2.2.2 k k' (hk k hk0) (hk k' hk1)⟩
def PD (m : Nat) (ks : List Nat) (ad : Nat → Nat) (F : (Nat → Prop) × GT) (G : GT) : Prop := PD0 m ks ad G ∧ ∀ p, F.1 p → (p ≠ m ∧ ∀ k, k ∈ ks → p ≠ ad k) ∧ F.2.1 p ≠ 0 ∧ same6 G F.2 p
theorem PD.step {m : Nat} {ks : List Nat} {ad : Nat → Nat} {F : (Nat → Prop) × GT} {G : GT} {q k : Nat} (h : PD m ks ad F G) (hq : G.1 q = 0) (hk : mk k ≠ 0) (hn : k ∉ ks) : PD m (k :: ks) (u1 ad k q) F ((Gnew G q (mk k) (ml k)).1, (Gnew G q (mk k) (ml k)).2.1, (Gnew G q (mk k) (ml k)).2.2.1, (Gnew G q (mk k) (ml k)).2.2.2.1, (Gnew G q (mk k) (ml k)).2.2.2.2.1, u2 (Gnew G q (mk k) (ml k)).2.2.2.2.2 m k (some q)) := by
  refine ⟨h.1.step hq hk hn, fun p hp => ?_⟩
  obtain ⟨T, N, I, J, E, Rf⟩ := G
  obtain ⟨⟨h1, h2⟩, h3, h4⟩ := h.2 p hp
  have hpq : p ≠ q := fun e => h3 (by rw [← h4.1, e]; exact hq)
  refine ⟨⟨h1, fun k' hk' => ?_⟩, h3, ?_⟩
  · rcases List.mem_cons.mp hk' with rfl | hk'
    · rw [u1_s]; exact hpq
    · have hkk : k' ≠ k := fun e => hn (e ▸ hk')
      rw [u1_n _ _ hkk]; exact h2 k' hk'
  · refine ⟨(u1_n _ _ hpq).trans h4.1, (u1_n _ _ hpq).trans h4.2.1, (funext fun j => c2_n _ _ _ hpq).trans h4.2.2.1, (funext fun j => c2_n _ _ _ hpq).trans h4.2.2.2.1, (funext fun j => c2_n _ _ _ hpq).trans h4.2.2.2.2.1, ?_⟩
    show u2 (c2 Rf q none) m k (some q) p = F.2.2.2.2.2.2 p
    rw [u2_rown _ _ _ h1]
    exact (funext fun j => c2_n _ _ _ hpq).trans h4.2.2.2.2.2
theorem PD.done {m : Nat} {ks : List Nat} {ad : Nat → Nat} {F : (Nat → Prop) × GT} {G : GT} (h : PD m ks ad F G) (hk : ∀ k, mk k ≠ 0 → k ∈ ks) : MD m (ad, F) zeroS G :=
  ⟨h.1.done hk, fun p hp => ⟨⟨(h.2 p hp).1.1, fun k hk0 => (h.2 p hp).1.2 k (hk k hk0)⟩, (h.2 p hp).2.2⟩⟩
theorem Rt_name {R : Room} {D : DT} {K : KT} {ret : Option FieldType} {nm : String} {sz : Nat} {G0 : GT} {post : Option Value → GT → Prop} (h : Rt R D K ret nm sz G0 post) : K.2.2.2.2.2.2.2.1.name = nm := by
  obtain ⟨p, l, e, s, m, args, below, meth, c, A, Q⟩ := K
  exact h.2.2.2.1
theorem vm_arrI {cc : ByteArray} {own : String} {nL : Nat} {R : Room} {D : DT} {K : KT} {pc : Nat} {lv : LV} {st : List Value} {G : GT} {n : Nat × Nat} {m idx k kd z : Nat} {ks : List Nat} {ad : Nat → Nat} {F : (Nat → Prop) × GT} {atype : ArrayType} {ty : FieldType} {x : Int32} (hP : PD m ks ad F G) (hd : decode cc pc = .ok (.newarray atype, 2)) (hd2 : decode cc (pc + 2) = .ok (.putfield idx, 3)) (hF : FW own idx 9 k (.array ty) true) (hin : K.2.2.2.2.2.2.2.1.name = "<init>") (hn : k ∉ ks) (hk : kd = 0 ∨ kd = 2 ∨ kd = 3) (hmk : mk k = kd + 11) (hml : ml k = z) (hty : newarray.typeOf atype = ty) (ht : (tysL D.2)[kd]? = some (D.2 (kd + 11), ty)) (hw : Cond.arrayClass ty ∈ lw_all) (ha : ∀ cA : ClassId, vp_cell cA (z, .inl (fun _ => 0)) = arrV cA z (fun _ => defaultValue ty)) (hx : ¬ x < 0) (hz : x.toNatClampNeg = z) (hb : z * componentBytes ty ≤ 536870912) (hc : n.1 + 1 ≤ R.cells ∧ n.2 + z ≤ R.slots) (kk : ∀ ad' G', PD m (k :: ks) ad' F G' → V cc own nL R D K (pc + 5) lv st G' (n.1 + 1, n.2 + z)) : V cc own nL R D K pc lv (.int x :: .ref m :: st) G n := by
  refine v_newI hd hk hty ht hw ha hx hz hb hc (fun q hq => ?_)
  have hqm : m ≠ q := fun e => by have := hP.1.1; rw [e, hq] at this; cases this
  have h0 : mk k ≠ 0 := by omega
  obtain ⟨T, N, I, J, E, Rf⟩ := G
  have hst := hP.step (q := q) (k := k) hq h0 hn
  rw [hmk, hml] at hst
  refine v_putRF (pc := pc + 2) (T := u1 T q (kd + 11)) (N := u1 N q z) (I := c2 I q 0) (J := c2 J q 0) (E := c2 E q 0) (Rf := c2 Rf q none) hd2 hF hin (lay9r h0) rfl (by rw [u1_n _ _ hqm]; exact hP.1.1) rfl rfl ?_
  exact kk _ _ hst
theorem vm_arrJ {cc : ByteArray} {own : String} {nL : Nat} {R : Room} {D : DT} {K : KT} {pc : Nat} {lv : LV} {st : List Value} {G : GT} {n : Nat × Nat} {m idx k kd z : Nat} {ks : List Nat} {ad : Nat → Nat} {F : (Nat → Prop) × GT} {atype : ArrayType} {ty : FieldType} {x : Int32} (hP : PD m ks ad F G) (hd : decode cc pc = .ok (.newarray atype, 2)) (hd2 : decode cc (pc + 2) = .ok (.putfield idx, 3)) (hF : FW own idx 9 k (.array ty) true) (hin : K.2.2.2.2.2.2.2.1.name = "<init>") (hn : k ∉ ks) (hk : kd = 1) (hmk : mk k = kd + 11) (hml : ml k = z) (hty : newarray.typeOf atype = ty) (ht : (tysL D.2)[kd]? = some (D.2 (kd + 11), ty)) (hw : Cond.arrayClass ty ∈ lw_all) (ha : ∀ cA : ClassId, vp_cell cA (z, .inr (.inl (fun _ => 0))) = arrV cA z (fun _ => defaultValue ty)) (hx : ¬ x < 0) (hz : x.toNatClampNeg = z) (hb : z * componentBytes ty ≤ 536870912) (hc : n.1 + 1 ≤ R.cells ∧ n.2 + z ≤ R.slots) (kk : ∀ ad' G', PD m (k :: ks) ad' F G' → V cc own nL R D K (pc + 5) lv st G' (n.1 + 1, n.2 + z)) : V cc own nL R D K pc lv (.int x :: .ref m :: st) G n := by
  refine v_newJ hd hk hty ht hw ha hx hz hb hc (fun q hq => ?_)
  have hqm : m ≠ q := fun e => by have := hP.1.1; rw [e, hq] at this; cases this
  have h0 : mk k ≠ 0 := by omega
  obtain ⟨T, N, I, J, E, Rf⟩ := G
  have hst := hP.step (q := q) (k := k) hq h0 hn
  rw [hmk, hml] at hst
  refine v_putRF (pc := pc + 2) (T := u1 T q (kd + 11)) (N := u1 N q z) (I := c2 I q 0) (J := c2 J q 0) (E := c2 E q 0) (Rf := c2 Rf q none) hd2 hF hin (lay9r h0) rfl (by rw [u1_n _ _ hqm]; exact hP.1.1) rfl rfl ?_
  exact kk _ _ hst
/-- the net at first: what is fixed -/
abbrev edgeI (i : Nat) : Prop := nI i / 6 = 0 ∨ nI i / 6 = 5 ∨ nI i - nI i / 6 * 6 = 0 ∨ nI i - nI i / 6 * 6 = 5
def fixF (i : Nat) : SG := (fun k j => if k = 17 ∧ j < i ∧ edgeI j then 1 else 0, fun _ _ => 0)
abbrev s0R : SG := fixF 36
theorem fixF_s (i : Nat) (y : Int32) (h : y = if edgeI i then 1 else 0) : sI (fixF i) 17 i y = fixF (i + 1) := by
  refine Prod.ext (funext fun k => funext fun j => ?_) rfl
  show u2 (fixF i).1 17 i y k j = if k = 17 ∧ j < i + 1 ∧ edgeI j then 1 else 0
  by_cases h1 : k = 17
  · by_cases h2 : j = i
    · subst h2; rw [h1, u2_s, h]; simp
    · have h3 : (j < i + 1) = (j < i) := by simp; omega
      rw [u2_k _ _ h2]; simp only [h3]; rfl
  · rw [u2, if_neg (fun z => h1 z.1)]; simp [fixF, h1]
theorem fixF_0 : fixF 0 = zeroS := by
  refine Prod.ext (funext fun k => funext fun j => ?_) rfl
  simp [fixF, zeroS]
set_option maxRecDepth 100000 in
set_option maxHeartbeats 4000000 in
theorem l_X9_init {D : DT} {K : KT} {m : Nat} {ad : AdT}   (kk : ∀ (G : GT), MD m ad s0R G → V cX9_init yX9_init.cls 4 rm_X9_ini D K 281 [some (.ref m), some (.int (nI 36)), none, none] [] G (28, 446)) : ∀ (d i : Nat)  (G : GT), i + d = 36 → MD m ad (fixF i) G → V cX9_init yX9_init.cls 4 rm_X9_ini D K 230 [some (.ref m), some (.int (nI i)), none, none] [] G (28, 446) := by
  intro d
  induction d with
  | zero =>
    intro i  G he0 he1 
    refine v_iload_n (pc := 230) dX9_init_230 rfl rfl ?_
    refine v_bipush (pc := 231) (v := 36) dX9_init_231 (by decide) ?_
    refine v_icmp_ge (pc := 233) (tgt := 281) dX9_init_233 (by decide) (fun c233 => ?_) (fun c233 => absurd c233 (not_not_intro (by rw [show i = 36 by omega]; decide)))
    have e : i = 36 := by omega
    subst e
    exact kk G he1
  | succ d ih =>
    intro i  G he0 he1 
    have hG := he1
    refine v_iload_n (pc := 230) dX9_init_230 rfl rfl ?_
    refine v_bipush (pc := 231) (v := 36) dX9_init_231 (by decide) ?_
    refine v_icmp_ge (pc := 233) (tgt := 281) dX9_init_233 (by decide) (fun c233 => absurd c233 (nI_ge (b := 36) (by omega) (by decide))) (fun c233 => ?_)
    refine v_iload_n (pc := 236) dX9_init_236 rfl rfl ?_
    refine v_bipush (pc := 237) (v := 6) dX9_init_237 (by decide) ?_
    refine v_idiv (pc := 239) dX9_init_239 (by decide) ?_
    refine v_istore_n (pc := 240) dX9_init_240 rfl rfl (by decide) ?_
    refine v_iload_n (pc := 241) dX9_init_241 rfl rfl ?_
    refine v_bipush (pc := 242) (v := 6) dX9_init_242 (by decide) ?_
    refine v_irem (pc := 244) dX9_init_244 (by decide) ?_
    refine v_istore_n (pc := 245) dX9_init_245 rfl rfl (by decide) ?_
    refine v_aload_n (pc := 246) dX9_init_246 rfl rfl ?_
    refine vm_getA (pc := 247) (k := 17) hG dX9_init_247 fl_X9_54 (by decide) ?_
    refine v_iload_n (pc := 250) dX9_init_250 rfl rfl ?_
    refine v_iload_n (pc := 251) dX9_init_251 rfl rfl ?_
    refine v_if_eq (pc := 252) (tgt := 269) dX9_init_252 (by decide) (fun c252 => ?_) (fun c252 => ?_)
    · have z_e9 : (1 : Int32) = if edgeI i then 1 else 0 := by rw [if_pos (Or.inl c252)]
      refine v_iconst (pc := 269) (v := 1) dX9_init_269 (by decide) ?_
      refine v_goto (pc := 270) (tgt := 274) dX9_init_270 (by decide) ?_
      refine vm_zast (pc := 274) (k := 17) (j := i) hG dX9_init_274 rfl rfl (by have h0 : ml 17 = 36 := rfl; omega) (by first | rfl | exact b2i_vnar) (fun G hG => ?_)
      refine v_iinc (pc := 275) dX9_init_275 rfl (nI_1 i) rfl (by decide) ?_
      refine v_goto (pc := 278) (tgt := 230) dX9_init_278 (by decide) ?_
      refine v_forget 2 ?_
      refine v_forget 3 ?_
      exact ih (i + 1) G (by omega) (by rw [← fixF_s i _ z_e9]; exact hG)
    · refine v_iload_n (pc := 255) dX9_init_255 rfl rfl ?_
      refine v_iconst (pc := 256) (v := 5) dX9_init_256 (by decide) ?_
      refine v_icmp_eq (pc := 257) (tgt := 269) dX9_init_257 (by decide) (fun c257 => ?_) (fun c257 => ?_)
      · have z_e9 : (1 : Int32) = if edgeI i then 1 else 0 := by rw [if_pos (Or.inr (Or.inl c257))]
        refine v_iconst (pc := 269) (v := 1) dX9_init_269 (by decide) ?_
        refine v_goto (pc := 270) (tgt := 274) dX9_init_270 (by decide) ?_
        refine vm_zast (pc := 274) (k := 17) (j := i) hG dX9_init_274 rfl rfl (by have h0 : ml 17 = 36 := rfl; omega) (by first | rfl | exact b2i_vnar) (fun G hG => ?_)
        refine v_iinc (pc := 275) dX9_init_275 rfl (nI_1 i) rfl (by decide) ?_
        refine v_goto (pc := 278) (tgt := 230) dX9_init_278 (by decide) ?_
        refine v_forget 2 ?_
        refine v_forget 3 ?_
        exact ih (i + 1) G (by omega) (by rw [← fixF_s i _ z_e9]; exact hG)
      · refine v_iload_n (pc := 260) dX9_init_260 rfl rfl ?_
        refine v_if_eq (pc := 261) (tgt := 269) dX9_init_261 (by decide) (fun c261 => ?_) (fun c261 => ?_)
        · have z_e9 : (1 : Int32) = if edgeI i then 1 else 0 := by rw [if_pos (Or.inr (Or.inr (Or.inl c261)))]
          refine v_iconst (pc := 269) (v := 1) dX9_init_269 (by decide) ?_
          refine v_goto (pc := 270) (tgt := 274) dX9_init_270 (by decide) ?_
          refine vm_zast (pc := 274) (k := 17) (j := i) hG dX9_init_274 rfl rfl (by have h0 : ml 17 = 36 := rfl; omega) (by first | rfl | exact b2i_vnar) (fun G hG => ?_)
          refine v_iinc (pc := 275) dX9_init_275 rfl (nI_1 i) rfl (by decide) ?_
          refine v_goto (pc := 278) (tgt := 230) dX9_init_278 (by decide) ?_
          refine v_forget 2 ?_
          refine v_forget 3 ?_
          exact ih (i + 1) G (by omega) (by rw [← fixF_s i _ z_e9]; exact hG)
        · refine v_iload_n (pc := 264) dX9_init_264 rfl rfl ?_
          refine v_iconst (pc := 265) (v := 5) dX9_init_265 (by decide) ?_
          refine v_icmp_ne (pc := 266) (tgt := 273) dX9_init_266 (by decide) (fun c266 => ?_) (fun c266 => ?_)
          · have z_e9 : (0 : Int32) = if edgeI i then 1 else 0 := by rw [if_neg (fun z => z.elim c252 (fun z => z.elim c257 (fun z => z.elim c261 c266)))]
            refine v_iconst (pc := 273) (v := 0) dX9_init_273 (by decide) ?_
            refine vm_zast (pc := 274) (k := 17) (j := i) hG dX9_init_274 rfl rfl (by have h0 : ml 17 = 36 := rfl; omega) (by first | rfl | exact b2i_vnar) (fun G hG => ?_)
            refine v_iinc (pc := 275) dX9_init_275 rfl (nI_1 i) rfl (by decide) ?_
            refine v_goto (pc := 278) (tgt := 230) dX9_init_278 (by decide) ?_
            refine v_forget 2 ?_
            refine v_forget 3 ?_
            exact ih (i + 1) G (by omega) (by rw [← fixF_s i _ z_e9]; exact hG)
          · have z_e9 : (1 : Int32) = if edgeI i then 1 else 0 := by rw [if_pos (Or.inr (Or.inr (Or.inr c266)))]
            refine v_iconst (pc := 269) (v := 1) dX9_init_269 (by decide) ?_
            refine v_goto (pc := 270) (tgt := 274) dX9_init_270 (by decide) ?_
            refine vm_zast (pc := 274) (k := 17) (j := i) hG dX9_init_274 rfl rfl (by have h0 : ml 17 = 36 := rfl; omega) (by first | rfl | exact b2i_vnar) (fun G hG => ?_)
            refine v_iinc (pc := 275) dX9_init_275 rfl (nI_1 i) rfl (by decide) ?_
            refine v_goto (pc := 278) (tgt := 230) dX9_init_278 (by decide) ?_
            refine v_forget 2 ?_
            refine v_forget 3 ?_
            exact ih (i + 1) G (by omega) (by rw [← fixF_s i _ z_e9]; exact hG)
set_option maxRecDepth 100000 in
set_option maxHeartbeats 4000000 in
theorem c_X9_init (D : DT) (m : Nat) (G : GT) (hT : G.1 m = 10) (hI : ∀ k, G.2.2.1 m k = 0) (F : (Nat → Prop) × GT) (hF : ∀ p, F.1 p → p ≠ m ∧ F.2.1 p ≠ 0 ∧ same6 G F.2 p) : MC yX9_init cX9_init 4 (Option.none : Option Jvm.ClassFile.FieldType) rm_X9_ini D [.ref m] G (fun v G' => v = none ∧ ∃ ad, MD m (ad, F) s0R G') := by
  refine MC_of (by decide +kernel) (Nat.le_of_ble_eq_true rfl) (fun K sz hR => ?_)
  have hN : K.2.2.2.2.2.2.2.1.name = "<init>" := Rt_name hR
  have hP : PD m [] (fun _ => 0) F G := ⟨⟨hT, hI, fun k hk => (nomatch hk), fun k k' hk => (nomatch hk)⟩, fun p hp => ⟨⟨(hF p hp).1, fun k hk => (nomatch hk)⟩, (hF p hp).2⟩⟩
  show V cX9_init _ 4 _ D K 0 [some (.ref m), none, none, none] [] G (0, 0)
  refine v_aload_n (pc := 0) dX9_init_0 rfl rfl ?_
  refine v_objInit (pc := 1) dX9_init_1 oi_X9_1 oi_all.1 oi_all.2 (Nat.le_of_ble_eq_true rfl) ⟨by decide, by decide⟩ ?_
  refine v_aload_n (pc := 4) dX9_init_4 rfl rfl ?_
  refine v_bipush (pc := 5) (v := 18) dX9_init_5 (by decide) ?_
  refine vm_arrI (pc := 7) (kd := 0) (z := 18) hP dX9_init_7 dX9_init_9 fw_X9_7 hN (by decide) (Or.inl rfl) rfl rfl rfl rfl aw_int (fun _ => rfl) (by decide) (by decide) (by decide) ⟨by decide, by decide⟩ (fun ad G hP => ?_)
  show V _ _ _ _ D K 12 _ _ G (1, 18)
  refine v_aload_n (pc := 12) dX9_init_12 rfl rfl ?_
  refine v_bipush (pc := 13) (v := 6) dX9_init_13 (by decide) ?_
  refine vm_arrI (pc := 15) (kd := 0) (z := 6) hP dX9_init_15 dX9_init_17 fw_X9_13 hN (by decide) (Or.inl rfl) rfl rfl rfl rfl aw_int (fun _ => rfl) (by decide) (by decide) (by decide) ⟨by decide, by decide⟩ (fun ad G hP => ?_)
  show V _ _ _ _ D K 20 _ _ G (2, 24)
  refine v_aload_n (pc := 20) dX9_init_20 rfl rfl ?_
  refine v_bipush (pc := 21) (v := 6) dX9_init_21 (by decide) ?_
  refine vm_arrI (pc := 23) (kd := 2) (z := 6) hP dX9_init_23 dX9_init_25 fw_X9_16 hN (by decide) (Or.inr (Or.inl rfl)) rfl rfl rfl rfl aw_boolean (fun _ => rfl) (by decide) (by decide) (by decide) ⟨by decide, by decide⟩ (fun ad G hP => ?_)
  show V _ _ _ _ D K 28 _ _ G (3, 30)
  refine v_aload_n (pc := 28) dX9_init_28 rfl rfl ?_
  refine v_bipush (pc := 29) (v := 12) dX9_init_29 (by decide) ?_
  refine vm_arrI (pc := 31) (kd := 0) (z := 12) hP dX9_init_31 dX9_init_33 fw_X9_20 hN (by decide) (Or.inl rfl) rfl rfl rfl rfl aw_int (fun _ => rfl) (by decide) (by decide) (by decide) ⟨by decide, by decide⟩ (fun ad G hP => ?_)
  show V _ _ _ _ D K 36 _ _ G (4, 42)
  refine v_aload_n (pc := 36) dX9_init_36 rfl rfl ?_
  refine v_bipush (pc := 37) (v := 12) dX9_init_37 (by decide) ?_
  refine vm_arrI (pc := 39) (kd := 0) (z := 12) hP dX9_init_39 dX9_init_41 fw_X9_23 hN (by decide) (Or.inl rfl) rfl rfl rfl rfl aw_int (fun _ => rfl) (by decide) (by decide) (by decide) ⟨by decide, by decide⟩ (fun ad G hP => ?_)
  show V _ _ _ _ D K 44 _ _ G (5, 54)
  refine v_aload_n (pc := 44) dX9_init_44 rfl rfl ?_
  refine v_bipush (pc := 45) (v := 12) dX9_init_45 (by decide) ?_
  refine vm_arrI (pc := 47) (kd := 0) (z := 12) hP dX9_init_47 dX9_init_49 fw_X9_26 hN (by decide) (Or.inl rfl) rfl rfl rfl rfl aw_int (fun _ => rfl) (by decide) (by decide) (by decide) ⟨by decide, by decide⟩ (fun ad G hP => ?_)
  show V _ _ _ _ D K 52 _ _ G (6, 66)
  refine v_aload_n (pc := 52) dX9_init_52 rfl rfl ?_
  refine v_bipush (pc := 53) (v := 12) dX9_init_53 (by decide) ?_
  refine vm_arrI (pc := 55) (kd := 0) (z := 12) hP dX9_init_55 dX9_init_57 fw_X9_29 hN (by decide) (Or.inl rfl) rfl rfl rfl rfl aw_int (fun _ => rfl) (by decide) (by decide) (by decide) ⟨by decide, by decide⟩ (fun ad G hP => ?_)
  show V _ _ _ _ D K 60 _ _ G (7, 78)
  refine v_aload_n (pc := 60) dX9_init_60 rfl rfl ?_
  refine v_bipush (pc := 61) (v := 30) dX9_init_61 (by decide) ?_
  refine vm_arrI (pc := 63) (kd := 0) (z := 30) hP dX9_init_63 dX9_init_65 fw_X9_32 hN (by decide) (Or.inl rfl) rfl rfl rfl rfl aw_int (fun _ => rfl) (by decide) (by decide) (by decide) ⟨by decide, by decide⟩ (fun ad G hP => ?_)
  show V _ _ _ _ D K 68 _ _ G (8, 108)
  refine v_aload_n (pc := 68) dX9_init_68 rfl rfl ?_
  refine v_bipush (pc := 69) (v := 30) dX9_init_69 (by decide) ?_
  refine vm_arrI (pc := 71) (kd := 0) (z := 30) hP dX9_init_71 dX9_init_73 fw_X9_35 hN (by decide) (Or.inl rfl) rfl rfl rfl rfl aw_int (fun _ => rfl) (by decide) (by decide) (by decide) ⟨by decide, by decide⟩ (fun ad G hP => ?_)
  show V _ _ _ _ D K 76 _ _ G (9, 138)
  refine v_aload_n (pc := 76) dX9_init_76 rfl rfl ?_
  refine v_bipush (pc := 77) (v := 30) dX9_init_77 (by decide) ?_
  refine vm_arrI (pc := 79) (kd := 0) (z := 30) hP dX9_init_79 dX9_init_81 fw_X9_38 hN (by decide) (Or.inl rfl) rfl rfl rfl rfl aw_int (fun _ => rfl) (by decide) (by decide) (by decide) ⟨by decide, by decide⟩ (fun ad G hP => ?_)
  show V _ _ _ _ D K 84 _ _ G (10, 168)
  refine v_aload_n (pc := 84) dX9_init_84 rfl rfl ?_
  refine v_bipush (pc := 85) (v := 30) dX9_init_85 (by decide) ?_
  refine vm_arrI (pc := 87) (kd := 2) (z := 30) hP dX9_init_87 dX9_init_89 fw_X9_41 hN (by decide) (Or.inr (Or.inl rfl)) rfl rfl rfl rfl aw_boolean (fun _ => rfl) (by decide) (by decide) (by decide) ⟨by decide, by decide⟩ (fun ad G hP => ?_)
  show V _ _ _ _ D K 92 _ _ G (11, 198)
  refine v_aload_n (pc := 92) dX9_init_92 rfl rfl ?_
  refine v_bipush (pc := 93) (v := 12) dX9_init_93 (by decide) ?_
  refine vm_arrJ (pc := 95) (kd := 1) (z := 12) hP dX9_init_95 dX9_init_97 fw_X9_44 hN (by decide) rfl rfl rfl rfl rfl aw_long (fun _ => rfl) (by decide) (by decide) (by decide) ⟨by decide, by decide⟩ (fun ad G hP => ?_)
  show V _ _ _ _ D K 100 _ _ G (12, 210)
  refine v_aload_n (pc := 100) dX9_init_100 rfl rfl ?_
  refine v_bipush (pc := 101) (v := 36) dX9_init_101 (by decide) ?_
  refine vm_arrI (pc := 103) (kd := 0) (z := 36) hP dX9_init_103 dX9_init_105 fw_X9_48 hN (by decide) (Or.inl rfl) rfl rfl rfl rfl aw_int (fun _ => rfl) (by decide) (by decide) (by decide) ⟨by decide, by decide⟩ (fun ad G hP => ?_)
  show V _ _ _ _ D K 108 _ _ G (13, 246)
  refine v_aload_n (pc := 108) dX9_init_108 rfl rfl ?_
  refine v_bipush (pc := 109) (v := 36) dX9_init_109 (by decide) ?_
  refine vm_arrI (pc := 111) (kd := 0) (z := 36) hP dX9_init_111 dX9_init_113 fw_X9_51 hN (by decide) (Or.inl rfl) rfl rfl rfl rfl aw_int (fun _ => rfl) (by decide) (by decide) (by decide) ⟨by decide, by decide⟩ (fun ad G hP => ?_)
  show V _ _ _ _ D K 116 _ _ G (14, 282)
  refine v_aload_n (pc := 116) dX9_init_116 rfl rfl ?_
  refine v_bipush (pc := 117) (v := 36) dX9_init_117 (by decide) ?_
  refine vm_arrI (pc := 119) (kd := 2) (z := 36) hP dX9_init_119 dX9_init_121 fw_X9_54 hN (by decide) (Or.inr (Or.inl rfl)) rfl rfl rfl rfl aw_boolean (fun _ => rfl) (by decide) (by decide) (by decide) ⟨by decide, by decide⟩ (fun ad G hP => ?_)
  show V _ _ _ _ D K 124 _ _ G (15, 318)
  refine v_aload_n (pc := 124) dX9_init_124 rfl rfl ?_
  refine v_bipush (pc := 125) (v := 8) dX9_init_125 (by decide) ?_
  refine vm_arrJ (pc := 127) (kd := 1) (z := 8) hP dX9_init_127 dX9_init_129 fw_X9_57 hN (by decide) rfl rfl rfl rfl rfl aw_long (fun _ => rfl) (by decide) (by decide) (by decide) ⟨by decide, by decide⟩ (fun ad G hP => ?_)
  show V _ _ _ _ D K 132 _ _ G (16, 326)
  refine v_aload_n (pc := 132) dX9_init_132 rfl rfl ?_
  refine v_bipush (pc := 133) (v := 8) dX9_init_133 (by decide) ?_
  refine vm_arrI (pc := 135) (kd := 0) (z := 8) hP dX9_init_135 dX9_init_137 fw_X9_60 hN (by decide) (Or.inl rfl) rfl rfl rfl rfl aw_int (fun _ => rfl) (by decide) (by decide) (by decide) ⟨by decide, by decide⟩ (fun ad G hP => ?_)
  show V _ _ _ _ D K 140 _ _ G (17, 334)
  refine v_aload_n (pc := 140) dX9_init_140 rfl rfl ?_
  refine v_bipush (pc := 141) (v := 8) dX9_init_141 (by decide) ?_
  refine vm_arrI (pc := 143) (kd := 2) (z := 8) hP dX9_init_143 dX9_init_145 fw_X9_63 hN (by decide) (Or.inr (Or.inl rfl)) rfl rfl rfl rfl aw_boolean (fun _ => rfl) (by decide) (by decide) (by decide) ⟨by decide, by decide⟩ (fun ad G hP => ?_)
  show V _ _ _ _ D K 148 _ _ G (18, 342)
  refine v_aload_n (pc := 148) dX9_init_148 rfl rfl ?_
  refine v_bipush (pc := 149) (v := 8) dX9_init_149 (by decide) ?_
  refine vm_arrJ (pc := 151) (kd := 1) (z := 8) hP dX9_init_151 dX9_init_153 fw_X9_66 hN (by decide) rfl rfl rfl rfl rfl aw_long (fun _ => rfl) (by decide) (by decide) (by decide) ⟨by decide, by decide⟩ (fun ad G hP => ?_)
  show V _ _ _ _ D K 156 _ _ G (19, 350)
  refine v_aload_n (pc := 156) dX9_init_156 rfl rfl ?_
  refine v_bipush (pc := 157) (v := 6) dX9_init_157 (by decide) ?_
  refine vm_arrI (pc := 159) (kd := 0) (z := 6) hP dX9_init_159 dX9_init_161 fw_X9_69 hN (by decide) (Or.inl rfl) rfl rfl rfl rfl aw_int (fun _ => rfl) (by decide) (by decide) (by decide) ⟨by decide, by decide⟩ (fun ad G hP => ?_)
  show V _ _ _ _ D K 164 _ _ G (20, 356)
  refine v_aload_n (pc := 164) dX9_init_164 rfl rfl ?_
  refine v_bipush (pc := 165) (v := 6) dX9_init_165 (by decide) ?_
  refine vm_arrI (pc := 167) (kd := 0) (z := 6) hP dX9_init_167 dX9_init_169 fw_X9_72 hN (by decide) (Or.inl rfl) rfl rfl rfl rfl aw_int (fun _ => rfl) (by decide) (by decide) (by decide) ⟨by decide, by decide⟩ (fun ad G hP => ?_)
  show V _ _ _ _ D K 172 _ _ G (21, 362)
  refine v_aload_n (pc := 172) dX9_init_172 rfl rfl ?_
  refine v_bipush (pc := 173) (v := 48) dX9_init_173 (by decide) ?_
  refine vm_arrI (pc := 175) (kd := 0) (z := 48) hP dX9_init_175 dX9_init_177 fw_X9_75 hN (by decide) (Or.inl rfl) rfl rfl rfl rfl aw_int (fun _ => rfl) (by decide) (by decide) (by decide) ⟨by decide, by decide⟩ (fun ad G hP => ?_)
  show V _ _ _ _ D K 180 _ _ G (22, 410)
  refine v_aload_n (pc := 180) dX9_init_180 rfl rfl ?_
  refine v_bipush (pc := 181) (v := 6) dX9_init_181 (by decide) ?_
  refine vm_arrI (pc := 183) (kd := 0) (z := 6) hP dX9_init_183 dX9_init_185 fw_X9_78 hN (by decide) (Or.inl rfl) rfl rfl rfl rfl aw_int (fun _ => rfl) (by decide) (by decide) (by decide) ⟨by decide, by decide⟩ (fun ad G hP => ?_)
  show V _ _ _ _ D K 188 _ _ G (23, 416)
  refine v_aload_n (pc := 188) dX9_init_188 rfl rfl ?_
  refine v_bipush (pc := 189) (v := 6) dX9_init_189 (by decide) ?_
  refine vm_arrI (pc := 191) (kd := 0) (z := 6) hP dX9_init_191 dX9_init_193 fw_X9_81 hN (by decide) (Or.inl rfl) rfl rfl rfl rfl aw_int (fun _ => rfl) (by decide) (by decide) (by decide) ⟨by decide, by decide⟩ (fun ad G hP => ?_)
  show V _ _ _ _ D K 196 _ _ G (24, 422)
  refine v_aload_n (pc := 196) dX9_init_196 rfl rfl ?_
  refine v_bipush (pc := 197) (v := 6) dX9_init_197 (by decide) ?_
  refine vm_arrI (pc := 199) (kd := 0) (z := 6) hP dX9_init_199 dX9_init_201 fw_X9_84 hN (by decide) (Or.inl rfl) rfl rfl rfl rfl aw_int (fun _ => rfl) (by decide) (by decide) (by decide) ⟨by decide, by decide⟩ (fun ad G hP => ?_)
  show V _ _ _ _ D K 204 _ _ G (25, 428)
  refine v_aload_n (pc := 204) dX9_init_204 rfl rfl ?_
  refine v_bipush (pc := 205) (v := 6) dX9_init_205 (by decide) ?_
  refine vm_arrI (pc := 207) (kd := 0) (z := 6) hP dX9_init_207 dX9_init_209 fw_X9_87 hN (by decide) (Or.inl rfl) rfl rfl rfl rfl aw_int (fun _ => rfl) (by decide) (by decide) (by decide) ⟨by decide, by decide⟩ (fun ad G hP => ?_)
  show V _ _ _ _ D K 212 _ _ G (26, 434)
  refine v_aload_n (pc := 212) dX9_init_212 rfl rfl ?_
  refine v_bipush (pc := 213) (v := 6) dX9_init_213 (by decide) ?_
  refine vm_arrI (pc := 215) (kd := 0) (z := 6) hP dX9_init_215 dX9_init_217 fw_X9_90 hN (by decide) (Or.inl rfl) rfl rfl rfl rfl aw_int (fun _ => rfl) (by decide) (by decide) (by decide) ⟨by decide, by decide⟩ (fun ad G hP => ?_)
  show V _ _ _ _ D K 220 _ _ G (27, 440)
  refine v_aload_n (pc := 220) dX9_init_220 rfl rfl ?_
  refine v_bipush (pc := 221) (v := 6) dX9_init_221 (by decide) ?_
  refine vm_arrI (pc := 223) (kd := 0) (z := 6) hP dX9_init_223 dX9_init_225 fw_X9_93 hN (by decide) (Or.inl rfl) rfl rfl rfl rfl aw_int (fun _ => rfl) (by decide) (by decide) (by decide) ⟨by decide, by decide⟩ (fun ad G hP => ?_)
  show V _ _ _ _ D K 228 _ _ G (28, 446)
  have hG := hP.done (fun k hk => (by
    have h1 : ∀ k, k < 39 → mk k ≠ 0 → k ∈ [37, 36, 35, 34, 33, 32, 31, 30, 29, 23, 22, 21, 20, 17, 16, 15, 14, 13, 12, 11, 10, 8, 7, 6, 5, 3, 2, 1] := by decide +kernel
    refine h1 k ?_ hk
    refine Classical.byContradiction fun q => hk ?_
    unfold mk
    split <;> first | rfl | omega))
  refine v_iconst (pc := 228) (v := 0) dX9_init_228 (by decide) ?_
  refine v_istore_n (pc := 229) dX9_init_229 rfl rfl (by decide) ?_
  refine l_X9_init (fun G hG => ?_) 36 0 G (by omega) (by rw [fixF_0]; exact hG)
  refine v_vret (pc := 281) hR dX9_init_281 ⟨by decide, by decide⟩ ?_
  exact ⟨rfl, _, hG⟩
