/-! THE LAW'S WORLD: the loft, the reference, two rows for answers -/
def RESTP (m : Nat) (ad : Nat → Nat) (o oD : Nat) (p : Nat) : Prop := p = m ∨ (∃ k, mk k ≠ 0 ∧ p = ad k) ∨ p = o ∨ p = oD
def HM (X : XT) (s1 : SG) (m : Nat) (ad : Nat → Nat) (o oD x0 : Nat) (s : SG) (G : GT) : Prop := LF X s1 G ∧ MD0 m ad s G ∧ (G.1 o = 12 ∧ G.2.1 o = 1) ∧ (G.1 oD = 15 ∧ G.2.1 oD = 1) ∧ (∀ p, RESTP m ad o oD p → ∀ c i, X.2.1 c i = true → p ≠ X.1 c i) ∧ (∀ k, mk k ≠ 0 → ad k ≠ o) ∧ X.1 0 0 = x0
def HW (X : XT) (s : SG) (m : Nat) (ad : Nat → Nat) (o oD x0 q : Nat) (G : GT) : Prop := HM X s m ad o oD x0 s G ∧ INV X s q
def FX (X : XT) (o oD : Nat) (G : GT) : (Nat → Prop) × GT := ((fun p => p = o ∨ p = oD ∨ ∃ c i, X.2.1 c i = true ∧ p = X.1 c i), G)
theorem MD0.same {m : Nat} {ad : Nat → Nat} {s : SG} {G G1 : GT} (h : MD0 m ad s G) (hm : same6 G1 G m) (ha : ∀ k, mk k ≠ 0 → same6 G1 G (ad k)) : MD0 m ad s G1 := by
  obtain ⟨h1, h2, h3, h4, h5, h6⟩ := h
  refine ⟨hm.1.trans h1, fun k hk hl => (congrFun hm.2.2.1 k).trans (h2 k hk hl), fun k hk => ?_, fun k hk hk2 => ?_, fun k hk => ?_, h6⟩
  · obtain ⟨z1, z2, z3⟩ := h3 k hk
    exact ⟨(congrFun hm.2.2.2.2.2 k).trans z1, (ha k hk).1.trans z2, (ha k hk).2.1.trans z3⟩
  · exact (ha k hk).2.2.1.trans (h4 k hk hk2)
  · exact (ha k (by rw [hk]; decide)).2.2.2.1.trans (h5 k hk)
theorem rfl6 (G : GT) (p : Nat) : same6 G G p := ⟨rfl, rfl, rfl, rfl, rfl, rfl⟩
theorem HM.ne {X : XT} {s1 s : SG} {m o oD x0 : Nat} {ad : Nat → Nat} {G : GT} (h : HM X s1 m ad o oD x0 s G) : o ≠ m ∧ oD ≠ m ∧ o ≠ oD ∧ (∀ k, mk k ≠ 0 → ad k ≠ o) ∧ ∀ k, mk k ≠ 0 → ad k ≠ oD := by
  obtain ⟨h1, h2, h3, h4, h5, h6, h7⟩ := h
  refine ⟨fun e => ?_, fun e => ?_, fun e => ?_, h6, fun k hk e => ?_⟩
  · have z := h3.1; rw [e, h2.1] at z; cases z
  · have z := h4.1; rw [e, h2.1] at z; cases z
  · have z := h3.1; rw [e, h4.1] at z; cases z
  · have z := (h2.2.2.1 k hk).2.1
    rw [e, h4.1] at z
    rcases mk_in k with y | y | y | y <;> rw [y] at z <;> first | cases z | exact hk y
theorem HM.kd {X : XT} {s1 s : SG} {m o oD x0 : Nat} {ad : Nat → Nat} {G : GT} (h : HM X s1 m ad o oD x0 s G) : ∀ p, RESTP m ad o oD p → G.1 p ≠ 0 := by
  obtain ⟨h1, h2, h3, h4, h5, h6, h7⟩ := h
  rintro p (rfl | ⟨k, hk, rfl⟩ | rfl | rfl)
  · rw [h2.1]; decide
  · rw [(h2.2.2.1 k hk).2.1]; exact hk
  · rw [h3.1]; decide
  · rw [h4.1]; decide
theorem HM.re {X : XT} {s1 s : SG} {m o oD x0 : Nat} {ad : Nat → Nat} {G : GT} (h : HM X s1 m ad o oD x0 s G) : LF (X.1, X.2.1, X.2.2.1, RESTP m ad o oD, G) s1 G := h.1.re (fun p hp => ⟨h.2.2.2.2.1 p hp, h.kd p hp⟩)
theorem HM.md {X : XT} {s1 s : SG} {m o oD x0 : Nat} {ad : Nat → Nat} {G : GT} (h : HM X s1 m ad o oD x0 s G) : MD m (ad, FX X o oD G) s G := by
  obtain ⟨n1, n2, n3, n4, n5⟩ := h.ne
  refine ⟨h.2.1, fun p hp => ⟨?_, rfl6 _ _⟩⟩
  rcases hp with rfl | rfl | ⟨c, i, hl, rfl⟩
  · exact ⟨n1, fun k hk e => n4 k hk e.symm⟩
  · exact ⟨n2, fun k hk e => n5 k hk e.symm⟩
  · exact ⟨fun e => h.2.2.2.2.1 m (Or.inl rfl) c i hl e.symm, fun k hk e => h.2.2.2.2.1 (ad k) (Or.inr (Or.inl ⟨k, hk, rfl⟩)) c i hl e.symm⟩
/-- behind a wrapper that writes its answer to w -/
theorem HM.mid {X X1 : XT} {s s1 : SG} {m o oD x0 w kd : Nat} {ad : Nat → Nat} {G G1 : GT} (h : HM X s m ad o oD x0 s G) (hw : (w = o ∧ kd = 12) ∨ (w = oD ∧ kd = 15)) (hL : LF X1 s1 G1) (hA : X1.2.2.2 = (RESTP m ad o oD, G1)) (h0 : X1.1 0 0 = X.1 0 0) (hF : ∀ p, RESTP m ad o oD p → p ≠ w → same6 G1 G p) (hT : G1.1 w = kd ∧ G1.2.1 w = 1) : HM X1 s1 m ad o oD x0 s G1 := by
  obtain ⟨n1, n2, n3, n4, n5⟩ := h.ne
  have hwm : m ≠ w := by rcases hw with ⟨rfl, -⟩ | ⟨rfl, -⟩; exact fun e => n1 e.symm; exact fun e => n2 e.symm
  have hwk : ∀ k, mk k ≠ 0 → ad k ≠ w := by rcases hw with ⟨rfl, -⟩ | ⟨rfl, -⟩; exact n4; exact n5
  refine ⟨hL, h.2.1.same (hF m (Or.inl rfl) hwm) (fun k hk => hF (ad k) (Or.inr (Or.inl ⟨k, hk, rfl⟩)) (hwk k hk)), ?_, ?_, fun p hp c i hl => (hL.2.2.2 p (by rw [show X1.2.2.2.1 = RESTP m ad o oD from congrArg (fun z => z.1) hA]; exact hp)).1 c i hl, h.2.2.2.2.2.1, h0.trans h.2.2.2.2.2.2⟩
  · rcases hw with ⟨rfl, rfl⟩ | ⟨rfl, rfl⟩
    · exact hT
    · have z := hF o (Or.inr (Or.inr (Or.inl rfl))) n3
      exact ⟨z.1.trans h.2.2.1.1, z.2.1.trans h.2.2.1.2⟩
  · rcases hw with ⟨rfl, rfl⟩ | ⟨rfl, rfl⟩
    · have z := hF oD (Or.inr (Or.inr (Or.inr rfl))) (fun e => n3 e.symm)
      exact ⟨z.1.trans h.2.2.2.1.1, z.2.1.trans h.2.2.2.1.2⟩
    · exact hT
def mixS (s1 s2 : SG) : SG := (fun k => if k < 39 then s2.1 k else s1.1 k, fun k => if k = 42 then s1.2 42 else s2.2 k)
def AG (s1 s2 : SG) : Prop := (∀ k, k < 38 → k ≠ 16 → s2.1 k = s1.1 k) ∧ s2.2 20 = s1.2 20 ∧ s2.2 23 = s1.2 23
theorem mix_1 {s1 s2 : SG} (h : AG s1 s2) {k : Nat} (h16 : k ≠ 16) (h38 : k ≠ 38) : (mixS s1 s2).1 k = s1.1 k := by
  show (if k < 39 then s2.1 k else s1.1 k) = _
  by_cases z : k < 39
  · rw [if_pos z]; exact h.1 k (by omega) h16
  · rw [if_neg z]
theorem LF.mix {X : XT} {s1 s2 : SG} {G : GT} (h : LF X s1 G) (ha : AG s1 s2) : LF X (mixS s1 s2) G := by
  have r : ∀ k j, k ≠ 16 → k ≠ 38 → (mixS s1 s2).1 k j = s1.1 k j := fun k j h16 h38 => congrFun (mix_1 ha h16 h38) j
  have j42 : ∀ j, (mixS s1 s2).2 42 j = s1.2 42 j := fun j => rfl
  have j20 : ∀ j, (mixS s1 s2).2 20 j = s1.2 20 j := fun j => congrFun ha.2.1 j
  have j23 : ∀ j, (mixS s1 s2).2 23 j = s1.2 23 j := fun j => congrFun ha.2.2 j
  refine h.congr (fun c i f hl hf => ⟨?_, ?_, ?_⟩)
  · unfold iv
    split <;> first
      | rfl
      | (split <;> first | rfl | exact r _ _ (by decide) (by decide) | (simp only [pctS, r _ _ (show (12 : Nat) ≠ 16 by decide) (by decide)]))
      | exact r _ _ (by decide) (by decide)
  · unfold jv
    split <;> first
      | rfl
      | (split <;> first | rfl | exact j42 _ | exact j20 _ | exact j23 _)
  · unfold rv
    split <;> first
      | rfl
      | (split <;> first | rfl | rw [r 5 _ (by decide) (by decide)] | rw [r 10 _ (by decide) (by decide)] | rw [r 11 _ (by decide) (by decide)] | rw [r 29 _ (by decide) (by decide)])
theorem MD0.mix {m : Nat} {ad : Nat → Nat} {s1 s2 : SG} {G : GT} (h : MD0 m ad s2 G) : MD0 m ad (mixS s1 s2) G := by
  have r : ∀ k, k < 39 → (mixS s1 s2).1 k = s2.1 k := fun k hk => by show (if k < 39 then s2.1 k else s1.1 k) = _; rw [if_pos hk]
  have lt : ∀ k, mk k ≠ 0 → k < 39 := fun k hk => by
    refine Classical.byContradiction fun q => hk ?_
    unfold mk
    split <;> first | rfl | omega
  obtain ⟨h1, h2, h3, h4, h5, h6⟩ := h
  refine ⟨h1, fun k hk hl => (h2 k hk hl).trans (congrFun (r k hl) 0).symm, h3, fun k hk hk2 => (h4 k hk hk2).trans (r k (lt k hk)).symm, fun k hk => (h5 k hk).trans ?_, h6⟩
  have hk42 : k ≠ 42 := fun e => by rw [e] at hk; exact absurd hk (by decide)
  show _ = if k = 42 then s1.2 42 else s2.2 k
  rw [if_neg hk42]
theorem INV.q0 {X : XT} {s s' : SG} {q : Nat} (h : INV X s q) (hr : ∀ k, k ≠ 16 → k ≠ 38 → s'.1 k = s.1 k) (h23 : s'.2 23 = s.2 23) : INV X s' q := INV.q1 (Nat.le_refl q) h (fun k a b _ _ _ _ _ => hr k a b) h23 rfl rfl
theorem LF.off {X : XT} {s : SG} {G : GT} (h : LF X s G) : LF (X.1, X.2.1, X.2.2.1, (fun _ => False), G) s G := h.re (A := fun _ => False) (fun p hp => hp.elim)
theorem LF.ext {X : XT} {s : SG} {G G2 : GT} (h : LF X s G) (hX : ∀ c i, X.2.1 c i = true → same6 G2 G (X.1 c i)) : LF (X.1, X.2.1, X.2.2.1, (fun _ => False), G2) s G2 := by
  refine ⟨fun c i hl => ?_, h.2.1, h.2.2.1, fun p hp => hp.elim⟩
  obtain ⟨⟨g1, g2, g3⟩, g4⟩ := h.1 c i hl
  have hs := hX c i hl
  refine ⟨⟨g1, hs.1.trans g2, hs.2.1.trans g3⟩, fun f hf => ?_⟩
  obtain ⟨k1, k2, k3, k4⟩ := g4 f hf
  exact ⟨(congrFun hs.2.2.1 f).trans k1, (congrFun hs.2.2.2.1 f).trans k2, (congrFun hs.2.2.2.2.2 f).trans k3, k4⟩
/-- the end of a turn: both calls are made -/
theorem HM.fin {X : XT} {s1 s s2 : SG} {m o oD x0 q : Nat} {ad : Nat → Nat} {G1 G2 : GT} (h : HM X s1 m ad o oD x0 s G1) (h2 : MD m (ad, FX X o oD G1) s2 G2) (ha : AG s1 s2) (hI : INV X s1 q) : HW (X.1, X.2.1, X.2.2.1, (fun _ => False), G2) (mixS s1 s2) m ad o oD x0 q G2 := by
  have ho : same6 G2 G1 o := (h2.2 o (Or.inl rfl)).2
  have hoD : same6 G2 G1 oD := (h2.2 oD (Or.inr (Or.inl rfl))).2
  have hX : ∀ c i, X.2.1 c i = true → same6 G2 G1 (X.1 c i) := fun c i hl => (h2.2 (X.1 c i) (Or.inr (Or.inr ⟨c, i, hl, rfl⟩))).2
  refine ⟨⟨(h.1.ext hX).mix ha, h2.1.mix, ⟨ho.1.trans h.2.2.1.1, ho.2.1.trans h.2.2.1.2⟩, ⟨hoD.1.trans h.2.2.2.1.1, hoD.2.1.trans h.2.2.2.1.2⟩, h.2.2.2.2.1, h.2.2.2.2.2.1, h.2.2.2.2.2.2⟩, ?_⟩
  refine INV.q1 (Nat.le_refl q) hI (fun k a b _ _ _ _ _ => mix_1 ha a b) ?_ rfl rfl
  exact ha.2.2
theorem HM.at {X : XT} {s1 s s2 : SG} {m o oD x0 : Nat} {ad : Nat → Nat} {G1 G2 : GT} (h : HM X s1 m ad o oD x0 s G1) (h2 : MD m (ad, FX X o oD G1) s2 G2) : (G2.1 o = 12 ∧ G2.2.1 o = 1 ∧ G2.2.2.2.1 o = G1.2.2.2.1 o) ∧ (G2.1 oD = 15 ∧ G2.2.1 oD = 1 ∧ G2.2.2.2.2.1 oD = G1.2.2.2.2.1 oD) := by
  have ho : same6 G2 G1 o := (h2.2 o (Or.inl rfl)).2
  have hoD : same6 G2 G1 oD := (h2.2 oD (Or.inr (Or.inl rfl))).2
  exact ⟨⟨ho.1.trans h.2.2.1.1, ho.2.1.trans h.2.2.1.2, ho.2.2.2.1⟩, hoD.1.trans h.2.2.2.1.1, hoD.2.1.trans h.2.2.2.1.2, hoD.2.2.2.2.1⟩
/-! the law's script -/
def SC (K : KT) (b L : Nat) (xs : Nat → Int32) : Prop := match K with
  | (_, _, _, s, _, _, _, _, _, A, _) => va_X b L xs s s.heap ∧ b < s.heap.size ∧ ¬ A b
theorem v_sld {cc : ByteArray} {own : String} {nL : Nat} {R : Room} {D : DT} {K : KT} {pc : Nat} {lv : LV} {st : List Value} {G : GT} {n : Nat × Nat} {b L j : Nat} {xs : Nat → Int32} {i : Int32} (hS : SC K b L xs) (hd : decode cc pc = .ok (.iaload, 1)) (hi : i = nI j) (hj : j < L) (hL : L ≤ 2560) (kk : V cc own nL R D K (pc + 1) lv (.int (xs j) :: st) G n) : V cc own nL R D K pc lv (.int i :: .ref b :: st) G n := by
  obtain ⟨p, l, e, s, m, args, below, meth, c, A, Q⟩ := K
  intro O H locs ls h1 h2 h3 h4
  subst hi
  have ej : (nI j).toNatClampNeg = j := nI_clamp (by omega)
  have hin : vp_in (nI j) L := by
    unfold vp_in
    rw [ej]
    rintro (q | q)
    · exact absurd q (n_nlt.mpr ((nI_leI (a := 0) (b := j) (by decide) (by omega)).mpr (by omega)))
    · omega
  refine va_sld O.1 O.2.1 hS.1 hS.2.1 hS.2.2 h3 hin hd ?_
  rw [ej]
  exact kk O H locs ls h1 h2 h3 h4
theorem v_slen {cc : ByteArray} {own : String} {nL : Nat} {R : Room} {D : DT} {K : KT} {pc : Nat} {lv : LV} {st : List Value} {G : GT} {n : Nat × Nat} {b L : Nat} {xs : Nat → Int32} (hS : SC K b L xs) (hd : decode cc pc = .ok (.arraylength, 1)) (kk : V cc own nL R D K (pc + 1) lv (.int (nI L) :: st) G n) : V cc own nL R D K pc lv (.ref b :: st) G n := by
  obtain ⟨p, l, e, s, m, args, below, meth, c, A, Q⟩ := K
  intro O H locs ls h1 h2 h3 h4
  exact va_slen O.1 O.2.1 hS.1 hS.2.1 hS.2.2 h3 hd (kk O H locs ls h1 h2 h3 h4)
