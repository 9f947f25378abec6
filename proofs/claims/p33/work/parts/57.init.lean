theorem LF0.ext {X : XT} {s : SG} {G G2 : GT} {q : Nat} (h : LF0 X s G) (hnq : ∀ c i, X.2.1 c i = true → X.1 c i ≠ q) (hnp : ∀ p, X.2.2.2.1 p → p ≠ q) (hO : ∀ p, G.1 p ≠ 0 → p ≠ q → same6 G2 G p) : LF0 X s G2 := by
  refine ⟨fun c i hl => ?_, h.2.1, fun p hp => ?_⟩
  · obtain ⟨⟨g1, g2, g3⟩, g4⟩ := h.1 c i hl
    have hs := hO (X.1 c i) (by omega) (hnq c i hl)
    refine ⟨⟨g1, hs.1.trans g2, hs.2.1.trans g3⟩, fun f hf => ?_⟩
    obtain ⟨k1, k2, k3, k4⟩ := g4 f hf
    exact ⟨(congrFun hs.2.2.1 f).trans k1, (congrFun hs.2.2.2.1 f).trans k2, (congrFun hs.2.2.2.2.2 f).trans k3, k4⟩
  · obtain ⟨g1, g2, g3⟩ := h.2.2 p hp
    exact ⟨g1, g2, (hO p (by rw [g3.1]; exact g2) (hnp p hp)).tr g3⟩
theorem LF0.nq {X : XT} {s : SG} {G : GT} (h : LF0 X s G) {q : Nat} (hq : G.1 q = 0) : (∀ c i, X.2.1 c i = true → X.1 c i ≠ q) ∧ ∀ p, X.2.2.2.1 p → p ≠ q := by
  refine ⟨fun c i hl e => ?_, fun p hp e => ?_⟩
  · have := (h.1 c i hl).1; rw [e, hq] at this; omega
  · have := (h.2.2 p hp).2; rw [e] at this; exact this.1 (this.2.1.symm.trans hq)
/-- the loft while it is made -/
def ST (X : XT) (q0 : Nat) (L : Nat → Option Nat) (F : (Nat → Prop) × GT) (G : GT) : Prop := LF0 X s0R G ∧ (G.1 q0 = 9 ∧ G.2.1 q0 = 0) ∧ (∀ c i, X.2.1 c i = true → X.1 c i ≠ q0) ∧ (∀ f, G.2.2.1 q0 f = 0 ∧ G.2.2.2.1 q0 f = 0 ∧ G.2.2.2.2.2 q0 f = L f) ∧ X.2.2 = (fun _ _ => false, F) ∧ ∀ p, F.1 p → p ≠ q0
theorem ST.put {X : XT} {q0 f q : Nat} {L : Nat → Option Nat} {F : (Nat → Prop) × GT} {T N : Nat → Nat} {I : Nat → Nat → Int32} {J : Nat → Nat → Int64} {E : Nat → Nat → UInt64} {Rf : Nat → Nat → Option Nat} (h : ST X q0 L F (T, N, I, J, E, Rf)) : ST X q0 (u1 L f (some q)) F (T, N, I, J, E, u2 Rf q0 f (some q)) := by
  obtain ⟨h1, h2, h3, h4, h5, h6⟩ := h
  refine ⟨h1.ext (q := q0) h3 (fun p hp => h6 p (by have := congrArg (fun z => z.2.1 p) h5; exact (this ▸ hp))) (fun p _ hp => ⟨rfl, rfl, rfl, rfl, rfl, funext fun j => by simp [u2, hp]⟩), h2, h3, fun g => ⟨(h4 g).1, (h4 g).2.1, ?_⟩, h5, h6⟩
  show u2 Rf q0 f (some q) q0 g = u1 L f (some q) g
  by_cases e : g = f
  · subst e; rw [u2_s, u1_s]
  · rw [u2_k _ _ e, u1_n _ _ e]; exact (h4 g).2.2
theorem ST.obj {X : XT} {q0 q cn : Nat} {L : Nat → Option Nat} {F : (Nat → Prop) × GT} {G G2 : GT} (h : ST X q0 L F G) (hfr : X.2.1 cn 0 = false) (hqq : q0 ≠ q) (hn : (∀ c i, X.2.1 c i = true → X.1 c i ≠ q) ∧ ∀ p, X.2.2.2.1 p → p ≠ q) (hO : ∀ p, G.1 p ≠ 0 → p ≠ q → same6 G2 G p) (hk : 0 < kc cn ∧ G2.1 q = kc cn ∧ G2.2.1 q = lc cn) (hF : ∀ f, f < nc cn → G2.2.2.1 q f = iv s0R cn 0 f ∧ G2.2.2.2.1 q f = jv s0R cn 0 f ∧ G2.2.2.2.2.2 q f = (rv X s0R cn 0 f).map (fun o => X.1 o.1 o.2) ∧ ∀ o, rv X s0R cn 0 f = some o → X.2.1 o.1 o.2 = true) : ST (xadd X cn 0 q) q0 L F G2 := by
  obtain ⟨h1, h2, h3, h4, h5, h6⟩ := h
  have hs := hO q0 (by rw [h2.1]; decide) hqq
  refine ⟨h1.obj hfr hn.1 hn.2 hO hk hF, ⟨hs.1.trans h2.1, hs.2.1.trans h2.2⟩, fun c i hl => ?_, fun f => ⟨(congrFun hs.2.2.1 f).trans (h4 f).1, (congrFun hs.2.2.2.1 f).trans (h4 f).2.1, (congrFun hs.2.2.2.2.2 f).trans (h4 f).2.2⟩, h5, h6⟩
  show u2 X.1 cn 0 q c i ≠ q0
  have hl9 : u2 X.2.1 cn 0 true c i = true := hl
  by_cases e : c = cn ∧ i = 0
  · rw [u2, if_pos e]; exact fun z => hqq z.symm
  · rw [u2, if_neg e] at hl9 ⊢; exact h3 c i hl9
theorem ST.nq {X : XT} {q0 q : Nat} {L : Nat → Option Nat} {F : (Nat → Prop) × GT} {G : GT} (h : ST X q0 L F G) (hq : G.1 q = 0) : q0 ≠ q ∧ (∀ c i, X.2.1 c i = true → X.1 c i ≠ q) ∧ ∀ p, X.2.2.2.1 p → p ≠ q :=
  ⟨fun e => (by have := h.2.1.1; rw [e, hq] at this; cases this), h.1.nq hq⟩
theorem ST.rv0 {X : XT} {q0 : Nat} {L : Nat → Option Nat} {F : (Nat → Prop) × GT} {G : GT} (h : ST X q0 L F G) {ca : Nat} (h1 : 1 ≤ ca) (h5 : ca ≤ 5) (f : Nat) : rv X s0R ca 0 f = none := by
  have e : X.2.2.1 = fun _ _ => false := congrArg (fun z => z.1) h.2.2.2.2.1
  rcases (show ca = 1 ∨ ca = 2 ∨ ca = 3 ∨ ca = 4 ∨ ca = 5 by omega) with rfl | rfl | rfl | rfl | rfl <;> (show (if X.2.2.1 _ f = true then _ else none) = none; rw [e]; rfl)
theorem ST.arr {X : XT} {q0 q f ca z k : Nat} {L : Nat → Option Nat} {F : (Nat → Prop) × GT} {T N : Nat → Nat} {I : Nat → Nat → Int32} {J : Nat → Nat → Int64} {E : Nat → Nat → UInt64} {Rf : Nat → Nat → Option Nat} (h : ST X q0 L F (T, N, I, J, E, Rf)) (hq : T q = 0) (h1 : 1 ≤ ca) (h5 : ca ≤ 5) (hfr : X.2.1 ca 0 = false) (hk : kc ca = k) (hz : lc ca = z) : ST (xadd X ca 0 q) q0 (u1 L f (some q)) F (u1 T q k, u1 N q z, c2 I q 0, c2 J q 0, c2 E q 0, u2 (c2 Rf q none) q0 f (some q)) := by
  obtain ⟨n1, n2⟩ := h.nq hq
  subst hk
  subst hz
  refine ST.put (h.obj hfr n1 n2 (fun p _ hp => ⟨u1_n _ _ hp, u1_n _ _ hp, funext fun j => by simp [c2, hp], funext fun j => by simp [c2, hp], funext fun j => by simp [c2, hp], funext fun j => by simp [c2, hp]⟩) ⟨by rcases (show ca = 1 ∨ ca = 2 ∨ ca = 3 ∨ ca = 4 ∨ ca = 5 by omega) with rfl | rfl | rfl | rfl | rfl <;> decide, u1_s _ _ _, u1_s _ _ _⟩ (fun g hg => ?_))
  rw [h.rv0 h1 h5]
  refine ⟨?_, ?_, c2_s _ _ _ _, fun o ho => by cases ho⟩
  · show c2 I q 0 q g = _
    rw [c2_s]
    rcases (show ca = 1 ∨ ca = 2 ∨ ca = 3 ∨ ca = 4 ∨ ca = 5 by omega) with rfl | rfl | rfl | rfl | rfl <;> rfl
  · show c2 J q 0 q g = _
    rw [c2_s]
    rcases (show ca = 1 ∨ ca = 2 ∨ ca = 3 ∨ ca = 4 ∨ ca = 5 by omega) with rfl | rfl | rfl | rfl | rfl <;> rfl
/-- the net's fixed knots, behind i -/
def fnI (I : Nat → Nat → Int32) (q : Nat) (i : Nat) : Nat → Nat → Int32 := fun b j => if b = q then (if j < i ∧ edgeI j then 1 else 0) else I b j
theorem fnI_s (I : Nat → Nat → Int32) (q i : Nat) (y : Int32) (h : y = if edgeI i then 1 else 0) : u2 (fnI I q i) q i y = fnI I q (i + 1) := funext fun b => funext fun j => by
  simp only [u2, fnI]
  by_cases h1 : b = q
  · by_cases h2 : j = i
    · subst h2; simp [h1, h]
    · have h3 : (j < i + 1) = (j < i) := by simp; omega
      simp [h1, h2, h3]
  · simp [h1]
theorem fnI_0 {I : Nat → Nat → Int32} {q : Nat} (h : ∀ j, I q j = 0) : fnI I q 0 = I := funext fun b => funext fun j => by
  by_cases h1 : b = q
  · subst h1; simp [fnI, h]
  · simp [fnI, h1]
set_option maxRecDepth 100000 in
set_option maxHeartbeats 400000 in
theorem l_X3_init {D : DT} {K : KT} {T N : Nat → Nat} {I : Nat → Nat → Int32} {J : Nat → Nat → Int64} {E : Nat → Nat → UInt64} {Rf : Nat → Nat → Option Nat} (q q3 : Nat) (hT : T q = 4) (hT3 : T q3 = 13) (hN3 : N q3 = 36) (hR3 : Rf q 2 = some q3) (kk : V cX3_init yX3_init.cls 4 rm_X3_init D K 81 [some (.ref q), some (.int (nI 36)), none, none] [] (T, N, fnI I q3 36, J, E, Rf) (3, 108)) : ∀ (d i : Nat), i + d = 36 → V cX3_init yX3_init.cls 4 rm_X3_init D K 30 [some (.ref q), some (.int (nI i)), none, none] [] (T, N, fnI I q3 i, J, E, Rf) (3, 108) := by
  intro d
  induction d with
  | zero =>
    intro i he0
    refine v_iload_n (pc := 30) dX3_init_30 rfl rfl ?_
    refine v_bipush (pc := 31) (v := 36) dX3_init_31 (by decide) ?_
    refine v_icmp_ge (pc := 33) (tgt := 81) dX3_init_33 (by decide) (fun c33 => ?_) (fun c33 => absurd c33 (not_not_intro (by rw [show i = 36 by omega]; decide)))
    have e : i = 36 := by omega
    subst e
    exact kk
  | succ d ih =>
    intro i he0
    refine v_iload_n (pc := 30) dX3_init_30 rfl rfl ?_
    refine v_bipush (pc := 31) (v := 36) dX3_init_31 (by decide) ?_
    refine v_icmp_ge (pc := 33) (tgt := 81) dX3_init_33 (by decide) (fun c33 => absurd c33 (nI_ge (b := 36) (by omega) (by decide))) (fun c33 => ?_)
    refine v_iload_n (pc := 36) dX3_init_36 rfl rfl ?_
    refine v_bipush (pc := 37) (v := 6) dX3_init_37 (by decide) ?_
    refine v_idiv (pc := 39) dX3_init_39 (by decide) ?_
    refine v_istore_n (pc := 40) dX3_init_40 rfl rfl (by decide) ?_
    refine v_iload_n (pc := 41) dX3_init_41 rfl rfl ?_
    refine v_bipush (pc := 42) (v := 6) dX3_init_42 (by decide) ?_
    refine v_irem (pc := 44) dX3_init_44 (by decide) ?_
    refine v_istore_n (pc := 45) dX3_init_45 rfl rfl (by decide) ?_
    refine v_aload_n (pc := 46) dX3_init_46 rfl rfl ?_
    refine v_getR (pc := 47) dX3_init_47 fl_X3_16 rfl hT hR3 ?_
    refine v_iload_n (pc := 50) dX3_init_50 rfl rfl ?_
    refine v_iload_n (pc := 51) dX3_init_51 rfl rfl ?_
    refine v_if_eq (pc := 52) (tgt := 69) dX3_init_52 (by decide) (fun c52 => ?_) (fun c52 => ?_)
    · have z_e9 : (1 : Int32) = if edgeI i then 1 else 0 := by rw [if_pos (Or.inl c52)]
      refine v_iconst (pc := 69) (v := 1) dX3_init_69 (by decide) ?_
      refine v_goto (pc := 70) (tgt := 74) dX3_init_70 (by decide) ?_
      refine v_zast (pc := 74) (j := i) dX3_init_74 hT3 hN3 rfl (by omega) (by decide) (by first | rfl | exact b2i_vnar) ?_
      refine v_iinc (pc := 75) dX3_init_75 rfl (nI_1 i) rfl (by decide) ?_
      refine v_goto (pc := 78) (tgt := 30) dX3_init_78 (by decide) ?_
      refine v_forget 2 ?_
      refine v_forget 3 ?_
      rw [fnI_s I q3 i _ z_e9]
      exact ih (i + 1) (by omega)
    · refine v_iload_n (pc := 55) dX3_init_55 rfl rfl ?_
      refine v_iconst (pc := 56) (v := 5) dX3_init_56 (by decide) ?_
      refine v_icmp_eq (pc := 57) (tgt := 69) dX3_init_57 (by decide) (fun c57 => ?_) (fun c57 => ?_)
      · have z_e9 : (1 : Int32) = if edgeI i then 1 else 0 := by rw [if_pos (Or.inr (Or.inl c57))]
        refine v_iconst (pc := 69) (v := 1) dX3_init_69 (by decide) ?_
        refine v_goto (pc := 70) (tgt := 74) dX3_init_70 (by decide) ?_
        refine v_zast (pc := 74) (j := i) dX3_init_74 hT3 hN3 rfl (by omega) (by decide) (by first | rfl | exact b2i_vnar) ?_
        refine v_iinc (pc := 75) dX3_init_75 rfl (nI_1 i) rfl (by decide) ?_
        refine v_goto (pc := 78) (tgt := 30) dX3_init_78 (by decide) ?_
        refine v_forget 2 ?_
        refine v_forget 3 ?_
        rw [fnI_s I q3 i _ z_e9]
        exact ih (i + 1) (by omega)
      · refine v_iload_n (pc := 60) dX3_init_60 rfl rfl ?_
        refine v_if_eq (pc := 61) (tgt := 69) dX3_init_61 (by decide) (fun c61 => ?_) (fun c61 => ?_)
        · have z_e9 : (1 : Int32) = if edgeI i then 1 else 0 := by rw [if_pos (Or.inr (Or.inr (Or.inl c61)))]
          refine v_iconst (pc := 69) (v := 1) dX3_init_69 (by decide) ?_
          refine v_goto (pc := 70) (tgt := 74) dX3_init_70 (by decide) ?_
          refine v_zast (pc := 74) (j := i) dX3_init_74 hT3 hN3 rfl (by omega) (by decide) (by first | rfl | exact b2i_vnar) ?_
          refine v_iinc (pc := 75) dX3_init_75 rfl (nI_1 i) rfl (by decide) ?_
          refine v_goto (pc := 78) (tgt := 30) dX3_init_78 (by decide) ?_
          refine v_forget 2 ?_
          refine v_forget 3 ?_
          rw [fnI_s I q3 i _ z_e9]
          exact ih (i + 1) (by omega)
        · refine v_iload_n (pc := 64) dX3_init_64 rfl rfl ?_
          refine v_iconst (pc := 65) (v := 5) dX3_init_65 (by decide) ?_
          refine v_icmp_ne (pc := 66) (tgt := 73) dX3_init_66 (by decide) (fun c66 => ?_) (fun c66 => ?_)
          · have z_e9 : (0 : Int32) = if edgeI i then 1 else 0 := by rw [if_neg (fun z => z.elim c52 (fun z => z.elim c57 (fun z => z.elim c61 c66)))]
            refine v_iconst (pc := 73) (v := 0) dX3_init_73 (by decide) ?_
            refine v_zast (pc := 74) (j := i) dX3_init_74 hT3 hN3 rfl (by omega) (by decide) (by first | rfl | exact b2i_vnar) ?_
            refine v_iinc (pc := 75) dX3_init_75 rfl (nI_1 i) rfl (by decide) ?_
            refine v_goto (pc := 78) (tgt := 30) dX3_init_78 (by decide) ?_
            refine v_forget 2 ?_
            refine v_forget 3 ?_
            rw [fnI_s I q3 i _ z_e9]
            exact ih (i + 1) (by omega)
          · have z_e9 : (1 : Int32) = if edgeI i then 1 else 0 := by rw [if_pos (Or.inr (Or.inr (Or.inr c66)))]
            refine v_iconst (pc := 69) (v := 1) dX3_init_69 (by decide) ?_
            refine v_goto (pc := 70) (tgt := 74) dX3_init_70 (by decide) ?_
            refine v_zast (pc := 74) (j := i) dX3_init_74 hT3 hN3 rfl (by omega) (by decide) (by first | rfl | exact b2i_vnar) ?_
            refine v_iinc (pc := 75) dX3_init_75 rfl (nI_1 i) rfl (by decide) ?_
            refine v_goto (pc := 78) (tgt := 30) dX3_init_78 (by decide) ?_
            refine v_forget 2 ?_
            refine v_forget 3 ?_
            rw [fnI_s I q3 i _ z_e9]
            exact ih (i + 1) (by omega)
set_option maxRecDepth 100000 in
set_option maxHeartbeats 400000 in
theorem c_X3_init (D : DT) (G : GT) (q : Nat) (hT : G.1 q = 4) : MC yX3_init cX3_init 4 (Option.none : Option Jvm.ClassFile.FieldType) rm_X3_init D [.ref q] G (fun v G' => v = none ∧ ∃ q1 q2 q3, G.1 q1 = 0 ∧ G.1 q2 = 0 ∧ G.1 q3 = 0 ∧ q1 ≠ q ∧ q2 ≠ q ∧ q3 ≠ q ∧ q1 ≠ q2 ∧ q1 ≠ q3 ∧ q2 ≠ q3 ∧ G' = (u1 (u1 (u1 G.1 q1 11) q2 11) q3 13, u1 (u1 (u1 G.2.1 q1 36) q2 36) q3 36, fnI (c2 (c2 (c2 G.2.2.1 q1 0) q2 0) q3 0) q3 36, c2 (c2 (c2 G.2.2.2.1 q1 0) q2 0) q3 0, c2 (c2 (c2 G.2.2.2.2.1 q1 0) q2 0) q3 0, u2 (c2 (u2 (c2 (u2 (c2 G.2.2.2.2.2 q1 none) q 0 (some q1)) q2 none) q 1 (some q2)) q3 none) q 2 (some q3))) := by
  obtain ⟨T, N, I, J, E, Rf⟩ := G
  refine MC_of (by decide +kernel) (Nat.le_of_ble_eq_true rfl) (fun K sz hR => ?_)
  have hN : K.2.2.2.2.2.2.2.1.name = "<init>" := Rt_name hR
  have hT : T q = 4 := hT
  show V cX3_init _ 4 _ D K 0 [some (.ref q), none, none, none] [] (T, N, I, J, E, Rf) (0, 0)
  refine v_aload_n (pc := 0) dX3_init_0 rfl rfl ?_
  refine v_objInit (pc := 1) dX3_init_1 oi_X3_3 oi_all.1 oi_all.2 (Nat.le_of_ble_eq_true rfl) ⟨by decide, by decide⟩ ?_
  refine v_aload_n (pc := 4) dX3_init_4 rfl rfl ?_
  refine v_bipush (pc := 5) (v := 36) dX3_init_5 (by decide) ?_
  refine v_newI (pc := 7) (atype := .int) (ty := .int) (k := 0) (z := 36) dX3_init_7 (Or.inl rfl) rfl rfl aw_int (fun _ => rfl) (by decide) rfl (by decide) ⟨by decide, by decide⟩ (fun q1 hq1 => ?_)
  have hq1 : T q1 = 0 := hq1
  have n1 : q1 ≠ q := fun e => by rw [e, hT] at hq1; cases hq1
  show V _ _ _ _ D K _ _ _ (u1 T q1 11, u1 N q1 36, c2 I q1 0, c2 J q1 0, c2 E q1 0, c2 Rf q1 none) _
  have hTa : u1 T q1 11 q = 4 := by rw [u1_n _ _ (fun e => n1 e.symm)]; exact hT
  refine v_putRF (pc := 9) dX3_init_9 fw_X3_9 hN rfl rfl hTa rfl rfl ?_
  refine v_aload_n (pc := 12) dX3_init_12 rfl rfl ?_
  refine v_bipush (pc := 13) (v := 36) dX3_init_13 (by decide) ?_
  refine v_newI (pc := 15) (atype := .int) (ty := .int) (k := 0) (z := 36) dX3_init_15 (Or.inl rfl) rfl rfl aw_int (fun _ => rfl) (by decide) rfl (by decide) ⟨by decide, by decide⟩ (fun q2 hq2 => ?_)
  have hq2 : u1 T q1 11 q2 = 0 := hq2
  have n2 : q2 ≠ q := fun e => by rw [e, hTa] at hq2; cases hq2
  have n12 : q1 ≠ q2 := fun e => by rw [← e, u1_s] at hq2; cases hq2
  have hq2b : T q2 = 0 := by rw [u1_n _ _ (fun e => n12 e.symm)] at hq2; exact hq2
  show V _ _ _ _ D K _ _ _ (u1 (u1 T q1 11) q2 11, u1 (u1 N q1 36) q2 36, c2 (c2 I q1 0) q2 0, c2 (c2 J q1 0) q2 0, c2 (c2 E q1 0) q2 0, c2 (u2 (c2 Rf q1 none) q 0 (some q1)) q2 none) _
  have hTb : u1 (u1 T q1 11) q2 11 q = 4 := by rw [u1_n _ _ (fun e => n2 e.symm)]; exact hTa
  refine v_putRF (pc := 17) dX3_init_17 fw_X3_13 hN rfl rfl hTb rfl rfl ?_
  refine v_aload_n (pc := 20) dX3_init_20 rfl rfl ?_
  refine v_bipush (pc := 21) (v := 36) dX3_init_21 (by decide) ?_
  refine v_newI (pc := 23) (atype := .boolean) (ty := .boolean) (k := 2) (z := 36) dX3_init_23 (Or.inr (Or.inl rfl)) rfl rfl aw_boolean (fun _ => rfl) (by decide) rfl (by decide) ⟨by decide, by decide⟩ (fun q3 hq3 => ?_)
  have hq3 : u1 (u1 T q1 11) q2 11 q3 = 0 := hq3
  have n3 : q3 ≠ q := fun e => by rw [e, hTb] at hq3; cases hq3
  have n23 : q2 ≠ q3 := fun e => by rw [← e, u1_s] at hq3; cases hq3
  have hq3a : u1 T q1 11 q3 = 0 := by rw [u1_n _ _ (fun e => n23 e.symm)] at hq3; exact hq3
  have n13 : q1 ≠ q3 := fun e => by rw [← e, u1_s] at hq3a; cases hq3a
  have hq3b : T q3 = 0 := by rw [u1_n _ _ (fun e => n13 e.symm)] at hq3a; exact hq3a
  show V _ _ _ _ D K _ _ _ (u1 (u1 (u1 T q1 11) q2 11) q3 13, u1 (u1 (u1 N q1 36) q2 36) q3 36, c2 (c2 (c2 I q1 0) q2 0) q3 0, c2 (c2 (c2 J q1 0) q2 0) q3 0, c2 (c2 (c2 E q1 0) q2 0) q3 0, c2 (u2 (c2 (u2 (c2 Rf q1 none) q 0 (some q1)) q2 none) q 1 (some q2)) q3 none) _
  have hTc : u1 (u1 (u1 T q1 11) q2 11) q3 13 q = 4 := by rw [u1_n _ _ (fun e => n3 e.symm)]; exact hTb
  refine v_putRF (pc := 25) dX3_init_25 fw_X3_16 hN rfl rfl hTc rfl rfl ?_
  refine v_iconst (pc := 28) (v := 0) dX3_init_28 (by decide) ?_
  refine v_istore_n (pc := 29) dX3_init_29 rfl rfl (by decide) ?_
  rw [← fnI_0 (I := c2 (c2 (c2 I q1 0) q2 0) q3 0) (q := q3) (fun j => c2_s _ _ _ _)]
  refine l_X3_init q q3 hTc (u1_s _ _ _) (u1_s _ _ _) (u2_s _ _ _ _) ?_ 36 0 (by omega)
  refine v_vret (pc := 81) hR dX3_init_81 ⟨by decide, by decide⟩ ?_
  exact ⟨rfl, q1, q2, q3, hq1, hq2b, hq3b, n1, n2, n3, n12, n13, n23, rfl⟩
theorem ST.net {X : XT} {q0 q q1 q2 q3 : Nat} {L : Nat → Option Nat} {F : (Nat → Prop) × GT} {T N : Nat → Nat} {I : Nat → Nat → Int32} {J : Nat → Nat → Int64} {E : Nat → Nat → UInt64} {Rf : Nat → Nat → Option Nat} (h : ST X q0 L F (T, N, I, J, E, Rf)) (hq : T q = 0) (h1 : u1 T q 4 q1 = 0) (h2 : u1 T q 4 q2 = 0) (h3 : u1 T q 4 q3 = 0) (n1 : q1 ≠ q) (n2 : q2 ≠ q) (n3 : q3 ≠ q) (n12 : q1 ≠ q2) (n13 : q1 ≠ q3) (n23 : q2 ≠ q3) (f7 : X.2.1 7 0 = false) (f8 : X.2.1 8 0 = false) (f9 : X.2.1 9 0 = false) (f6 : X.2.1 6 0 = false) {G2 : GT} (hG2 : G2 = (u1 (u1 (u1 (u1 T q 4) q1 11) q2 11) q3 13, u1 (u1 (u1 (u1 N q 0) q1 36) q2 36) q3 36, fnI (c2 (c2 (c2 (c2 I q 0) q1 0) q2 0) q3 0) q3 36, c2 (c2 (c2 (c2 J q 0) q1 0) q2 0) q3 0, c2 (c2 (c2 (c2 E q 0) q1 0) q2 0) q3 0, u2 (c2 (u2 (c2 (u2 (c2 (c2 Rf q none) q1 none) q 0 (some q1)) q2 none) q 1 (some q2)) q3 none) q 2 (some q3))) : ST (xadd (xadd (xadd (xadd X 7 0 q1) 8 0 q2) 9 0 q3) 6 0 q) q0 L F G2 := by
  rw [u1_n _ _ n1] at h1
  rw [u1_n _ _ n2] at h2
  rw [u1_n _ _ n3] at h3
  have m1 := h.nq h1
  have m2 := h.nq h2
  have m3 := h.nq h3
  have m := h.nq hq
  have k1 : ∀ p, T p ≠ 0 → p ≠ q ∧ p ≠ q1 ∧ p ≠ q2 ∧ p ≠ q3 := fun p hp => ⟨fun e => hp (e ▸ hq), fun e => hp (e ▸ h1), fun e => hp (e ▸ h2), fun e => hp (e ▸ h3)⟩
  have hO : ∀ p, T p ≠ 0 → p ≠ q1 → same6 G2 (T, N, I, J, E, Rf) p := fun p hp _ => by
    obtain ⟨a0, a1, a2, a3⟩ := k1 p hp
    subst hG2
    exact ⟨by show u1 (u1 (u1 (u1 T q 4) q1 11) q2 11) q3 13 p = T p; rw [u1_n _ _ a3, u1_n _ _ a2, u1_n _ _ a1, u1_n _ _ a0], by show u1 (u1 (u1 (u1 N q 0) q1 36) q2 36) q3 36 p = N p; rw [u1_n _ _ a3, u1_n _ _ a2, u1_n _ _ a1, u1_n _ _ a0], funext fun j => by simp [fnI, u2, c2, a0, a1, a2, a3], funext fun j => by simp [u2, c2, a0, a1, a2, a3], funext fun j => by simp [u2, c2, a0, a1, a2, a3], funext fun j => by simp [u2, c2, a0, a1, a2, a3]⟩
  have id6 : ∀ (r p : Nat), G2.1 p ≠ 0 → p ≠ r → same6 G2 G2 p := fun _ _ _ _ => ⟨rfl, rfl, rfl, rfl, rfl, rfl⟩
  have nx : ∀ (X1 : XT) (c b r : Nat), ((∀ c i, X1.2.1 c i = true → X1.1 c i ≠ r) ∧ ∀ p, X1.2.2.2.1 p → p ≠ r) → b ≠ r → ((∀ c' i, (xadd X1 c 0 b).2.1 c' i = true → (xadd X1 c 0 b).1 c' i ≠ r) ∧ ∀ p, (xadd X1 c 0 b).2.2.2.1 p → p ≠ r) := fun X1 c b r hh hb => ⟨fun c' i hl => by
    have hl9 : u2 X1.2.1 c 0 true c' i = true := hl
    show u2 X1.1 c 0 b c' i ≠ r
    by_cases e : c' = c ∧ i = 0
    · rw [u2, if_pos e]; exact hb
    · rw [u2, if_neg e] at hl9 ⊢; exact hh.1 c' i hl9, hh.2⟩
  have nf : ∀ (X1 : XT) (c c' b : Nat), c' ≠ c → X1.2.1 c' 0 = false → (xadd X1 c 0 b).2.1 c' 0 = false := fun X1 c c' b e hh => by
    show u2 X1.2.1 c 0 true c' 0 = false
    rw [u2, if_neg (fun z => e z.1)]; exact hh
  have s1 := h.obj (cn := 7) f7 m1.1 m1.2 hO ⟨by decide, by subst hG2; simp [u1, n12, n13, n1, kc], by subst hG2; simp [u1, n12, n13, n1, lc]⟩ (fun g hg => by
    subst hG2
    refine ⟨?_, ?_, ?_, fun o ho => by cases ho⟩ <;> simp [fnI, u2, c2, n12, n13, n1, iv, jv, rv, fixF])
  have s2 := s1.obj (cn := 8) (nf _ _ _ _ (by decide) f8) m2.1 (nx _ _ _ _ m2.2 n12) (id6 q2) ⟨by decide, by subst hG2; simp [u1, n12, n23, n2, kc], by subst hG2; simp [u1, n12, n23, n2, lc]⟩ (fun g hg => by
    subst hG2
    refine ⟨?_, ?_, ?_, fun o ho => by cases ho⟩ <;> simp [fnI, u2, c2, n12, n23, n2, iv, jv, rv, fixF])
  have s3 := s2.obj (cn := 9) (nf _ _ _ _ (by decide) (nf _ _ _ _ (by decide) f9)) m3.1 (nx _ _ _ _ (nx _ _ _ _ m3.2 n13) n23) (id6 q3) ⟨by decide, by subst hG2; simp [u1, kc], by subst hG2; simp [u1, lc]⟩ (fun g hg => by
    have hg36 : g < 36 := hg
    subst hG2
    refine ⟨?_, ?_, ?_, fun o ho => by cases ho⟩ <;> simp [fnI, u2, c2, n3, iv, jv, rv, fixF, hg36])
  have e1 : ¬ q = q1 := fun e => n1 e.symm
  have e2 : ¬ q = q2 := fun e => n2 e.symm
  have e3 : ¬ q = q3 := fun e => n3 e.symm
  refine s3.obj (cn := 6) (nf _ _ _ _ (by decide) (nf _ _ _ _ (by decide) (nf _ _ _ _ (by decide) f6))) m.1 (nx _ _ _ _ (nx _ _ _ _ (nx _ _ _ _ m.2 n1) n2) n3) (id6 q) ⟨by decide, by subst hG2; simp [u1, e1, e2, e3, kc], by subst hG2; simp [u1, e1, e2, e3, lc]⟩ (fun g hg => ?_)
  have hg4 : g < 4 := hg
  subst hG2
  refine ⟨?_, ?_, ?_, ?_⟩
  · rcases (show g = 0 ∨ g = 1 ∨ g = 2 ∨ g = 3 by omega) with rfl | rfl | rfl | rfl <;> simp [fnI, u2, c2, e1, e2, e3, iv, fixF]
  · rcases (show g = 0 ∨ g = 1 ∨ g = 2 ∨ g = 3 by omega) with rfl | rfl | rfl | rfl <;> simp [u2, c2, e1, e2, e3, jv]
  · rcases (show g = 0 ∨ g = 1 ∨ g = 2 ∨ g = 3 by omega) with rfl | rfl | rfl | rfl <;> simp [u2, c2, e1, e2, e3, rv, xadd]
  · intro o ho
    rcases (show g = 0 ∨ g = 1 ∨ g = 2 ∨ g = 3 by omega) with rfl | rfl | rfl | rfl
    · have ho : some (7, 0) = some o := ho
      cases ho; simp [xadd, u2]
    · have ho : some (8, 0) = some o := ho
      cases ho; simp [xadd, u2]
    · have ho : some (9, 0) = some o := ho
      cases ho; simp [xadd, u2]
    · have ho : none = some o := ho
      cases ho
theorem ST.sail {X : XT} {q0 q : Nat} {L : Nat → Option Nat} {F : (Nat → Prop) × GT} {T N : Nat → Nat} {I : Nat → Nat → Int32} {J : Nat → Nat → Int64} {E : Nat → Nat → UInt64} {Rf : Nat → Nat → Option Nat} (h : ST X q0 L F (T, N, I, J, E, Rf)) (hq : T q = 0) (f10 : X.2.1 10 0 = false) : ST (xadd X 10 0 q) q0 L F (u1 T q 7, u1 N q 0, c2 I q 0, c2 J q 0, c2 E q 0, c2 Rf q none) := by
  have m := h.nq hq
  refine h.obj f10 m.1 m.2 (fun p _ hp => ⟨u1_n _ _ hp, u1_n _ _ hp, funext fun j => by simp [c2, hp], funext fun j => by simp [c2, hp], funext fun j => by simp [c2, hp], funext fun j => by simp [c2, hp]⟩) ⟨by decide, u1_s _ _ _, u1_s _ _ _⟩ (fun g hg => ?_)
  have hg3 : g < 3 := hg
  refine ⟨?_, ?_, ?_, ?_⟩
  · rcases (show g = 0 ∨ g = 1 ∨ g = 2 by omega) with rfl | rfl | rfl <;> simp [c2, iv, fixF]
  · rcases (show g = 0 ∨ g = 1 ∨ g = 2 by omega) with rfl | rfl | rfl <;> simp [c2, jv]
  · rcases (show g = 0 ∨ g = 1 ∨ g = 2 by omega) with rfl | rfl | rfl <;> simp [c2, rv]
  · intro o ho
    rcases (show g = 0 ∨ g = 1 ∨ g = 2 by omega) with rfl | rfl | rfl <;> (have ho : none = some o := ho; cases ho)
theorem ST.log {X : XT} {q0 q q2 : Nat} {L : Nat → Option Nat} {F : (Nat → Prop) × GT} {T N : Nat → Nat} {I : Nat → Nat → Int32} {J : Nat → Nat → Int64} {E : Nat → Nat → UInt64} {Rf : Nat → Nat → Option Nat} (h : ST X q0 L F (T, N, I, J, E, Rf)) (hq : T q = 0) (h2 : u1 T q 2 q2 = 0) (n2 : q2 ≠ q) (f12 : X.2.1 12 0 = false) (f11 : X.2.1 11 0 = false) {G2 : GT} (hG2 : G2 = (u1 (u1 T q 2) q2 14, u1 (u1 N q 0) q2 512, c2 (c2 I q 0) q2 0, c2 (c2 J q 0) q2 0, c2 (c2 E q 0) q2 0, u2 (c2 (c2 Rf q none) q2 none) q 0 (some q2))) : ST (xadd (xadd X 12 0 q2) 11 0 q) q0 L F G2 := by
  rw [u1_n _ _ n2] at h2
  have m2 := h.nq h2
  have m := h.nq hq
  have hO : ∀ p, T p ≠ 0 → p ≠ q2 → same6 G2 (T, N, I, J, E, Rf) p := fun p hp a2 => by
    have a0 : p ≠ q := fun e => hp (e ▸ hq)
    subst hG2
    exact ⟨by show u1 (u1 T q 2) q2 14 p = T p; rw [u1_n _ _ a2, u1_n _ _ a0], by show u1 (u1 N q 0) q2 512 p = N p; rw [u1_n _ _ a2, u1_n _ _ a0], funext fun j => by simp [c2, a0, a2], funext fun j => by simp [c2, a0, a2], funext fun j => by simp [c2, a0, a2], funext fun j => by simp [u2, c2, a0, a2]⟩
  have s1 := h.obj (cn := 12) f12 m2.1 m2.2 hO ⟨by decide, by subst hG2; simp [u1, kc], by subst hG2; simp [u1, lc]⟩ (fun g hg => by
    subst hG2
    refine ⟨?_, ?_, ?_, fun o ho => by cases ho⟩ <;> simp [u2, c2, n2, iv, jv, rv, fixF])
  have e2 : ¬ q = q2 := fun e => n2 e.symm
  refine s1.obj (cn := 11) (by show u2 X.2.1 12 0 true 11 0 = false; rw [u2, if_neg (fun z => absurd z.1 (by decide))]; exact f11) m.1 ⟨fun c' i hl => ?_, m.2.2⟩ (fun _ _ _ => ⟨rfl, rfl, rfl, rfl, rfl, rfl⟩) ⟨by decide, by subst hG2; simp [u1, e2, kc], by subst hG2; simp [u1, e2, lc]⟩ (fun g hg => ?_)
  · have hl9 : u2 X.2.1 12 0 true c' i = true := hl
    show u2 X.1 12 0 q2 c' i ≠ q
    by_cases e : c' = 12 ∧ i = 0
    · rw [u2, if_pos e]; exact n2
    · rw [u2, if_neg e] at hl9 ⊢; exact m.2.1 c' i hl9
  · have hg2 : g < 2 := hg
    subst hG2
    refine ⟨?_, ?_, ?_, ?_⟩
    · rcases (show g = 0 ∨ g = 1 by omega) with rfl | rfl <;> simp [c2, e2, iv, fixF]
    · rcases (show g = 0 ∨ g = 1 by omega) with rfl | rfl <;> simp [c2, e2, jv]
    · rcases (show g = 0 ∨ g = 1 by omega) with rfl | rfl <;> simp [u2, c2, e2, rv, xadd]
    · intro o ho
      rcases (show g = 0 ∨ g = 1 by omega) with rfl | rfl
      · have ho : some (12, 0) = some o := ho
        cases ho; simp [xadd, u2]
      · have ho : none = some o := ho
        cases ho
