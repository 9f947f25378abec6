theorem same6.tr {G G1 G2 : GT} {p : Nat} (h : same6 G2 G1 p) (h2 : same6 G1 G p) : same6 G2 G p := ⟨h.1.trans h2.1, h.2.1.trans h2.2.1, h.2.2.1.trans h2.2.2.1, h.2.2.2.1.trans h2.2.2.2.1, h.2.2.2.2.1.trans h2.2.2.2.2.1, h.2.2.2.2.2.trans h2.2.2.2.2.2⟩
/-- LF without that all of the loft stands -/
def LF0 (X : XT) (s : SG) (G : GT) : Prop := (∀ c i, X.2.1 c i = true → (0 < kc c ∧ G.1 (X.1 c i) = kc c ∧ G.2.1 (X.1 c i) = lc c) ∧ ∀ f, f < nc c → G.2.2.1 (X.1 c i) f = iv s c i f ∧ G.2.2.2.1 (X.1 c i) f = jv s c i f ∧ G.2.2.2.2.2 (X.1 c i) f = (rv X s c i f).map (fun o => X.1 o.1 o.2) ∧ ∀ o, rv X s c i f = some o → X.2.1 o.1 o.2 = true) ∧ (∀ c i c' i', X.2.1 c i = true → X.2.1 c' i' = true → X.1 c i = X.1 c' i' → c = c' ∧ i = i') ∧ ∀ p, X.2.2.2.1 p → (∀ c i, X.2.1 c i = true → p ≠ X.1 c i) ∧ X.2.2.2.2.1 p ≠ 0 ∧ same6 G X.2.2.2.2 p
theorem LF.to0 {X : XT} {s : SG} {G : GT} (h : LF X s G) : LF0 X s G := ⟨h.1, h.2.1, h.2.2.2⟩
theorem LF0.to {X : XT} {s : SG} {G : GT} (h : LF0 X s G) (hl : ∀ c, c < 13 → X.2.1 c 0 = true) : LF X s G := ⟨h.1, h.2.1, hl, h.2.2⟩
def xadd (X : XT) (c a q : Nat) : XT := (u2 X.1 c a q, u2 X.2.1 c a true, X.2.2)
def xslot (X : XT) (c a : Nat) (b : Bool) : XT := (X.1, X.2.1, u2 X.2.2.1 c a b, X.2.2.2)
theorem rv_add (X : XT) (s : SG) (cn a q c i f : Nat) : rv (xadd X cn a q) s c i f = rv X s c i f := rfl
theorem LF0.obj {X : XT} {s : SG} {G G2 : GT} {q cn a : Nat} (h : LF0 X s G) (hfr : X.2.1 cn a = false) (hnq : ∀ c i, X.2.1 c i = true → X.1 c i ≠ q) (hnp : ∀ p, X.2.2.2.1 p → p ≠ q) (hO : ∀ p, G.1 p ≠ 0 → p ≠ q → same6 G2 G p) (hk : 0 < kc cn ∧ G2.1 q = kc cn ∧ G2.2.1 q = lc cn) (hF : ∀ f, f < nc cn → G2.2.2.1 q f = iv s cn a f ∧ G2.2.2.2.1 q f = jv s cn a f ∧ G2.2.2.2.2.2 q f = (rv X s cn a f).map (fun o => X.1 o.1 o.2) ∧ ∀ o, rv X s cn a f = some o → X.2.1 o.1 o.2 = true) : LF0 (xadd X cn a q) s G2 := by
  have hold : ∀ c i, X.2.1 c i = true → ¬ (c = cn ∧ i = a) := fun c i hl z => by rw [z.1, z.2, hfr] at hl; cases hl
  have ha : ∀ c i, X.2.1 c i = true → (xadd X cn a q).1 c i = X.1 c i := fun c i hl => by show u2 X.1 cn a q c i = _; rw [u2, if_neg (hold c i hl)]
  have hl2 : ∀ c i, X.2.1 c i = true → (xadd X cn a q).2.1 c i = true := fun c i hl => by show u2 X.2.1 cn a true c i = _; rw [u2, if_neg (hold c i hl)]; exact hl
  have hc : ∀ c i, (xadd X cn a q).2.1 c i = true → (X.2.1 c i = true) ∨ (c = cn ∧ i = a) := fun c i hl => by
    by_cases e : c = cn ∧ i = a
    · exact Or.inr e
    · refine Or.inl ?_
      have : u2 X.2.1 cn a true c i = true := hl
      rw [u2, if_neg e] at this
      exact this
  have hq : (xadd X cn a q).1 cn a = q := u2_s _ _ _ _
  have hm : ∀ c i f, (∀ o, rv X s c i f = some o → X.2.1 o.1 o.2 = true) → (rv X s c i f).map (fun o => X.1 o.1 o.2) = (rv (xadd X cn a q) s c i f).map (fun o => (xadd X cn a q).1 o.1 o.2) := fun c i f ho => by
    rw [rv_add]
    cases hr : rv X s c i f with
    | none => rfl
    | some o => exact congrArg some (ha o.1 o.2 (ho o hr)).symm
  refine ⟨fun c i hl => ?_, fun c i c' i' hl hl' e => ?_, fun p hp => ?_⟩
  · rcases hc c i hl with h1 | ⟨rfl, rfl⟩
    · obtain ⟨⟨g1, g2, g3⟩, g4⟩ := h.1 c i h1
      have hs := hO (X.1 c i) (by omega) (hnq c i h1)
      rw [ha c i h1]
      refine ⟨⟨g1, hs.1.trans g2, hs.2.1.trans g3⟩, fun f hf => ?_⟩
      obtain ⟨k1, k2, k3, k4⟩ := g4 f hf
      exact ⟨(congrFun hs.2.2.1 f).trans k1, (congrFun hs.2.2.2.1 f).trans k2, ((congrFun hs.2.2.2.2.2 f).trans k3).trans (hm c i f k4), fun o ho => hl2 _ _ (k4 o ho)⟩
    · rw [hq]
      refine ⟨hk, fun f hf => ?_⟩
      obtain ⟨k1, k2, k3, k4⟩ := hF f hf
      exact ⟨k1, k2, k3.trans (hm c i f k4), fun o ho => hl2 _ _ (k4 o ho)⟩
  · rcases hc c i hl with h1 | ⟨rfl, rfl⟩
    · rcases hc c' i' hl' with h2 | ⟨rfl, rfl⟩
      · rw [ha c i h1, ha c' i' h2] at e; exact h.2.1 c i c' i' h1 h2 e
      · rw [ha c i h1, hq] at e; exact absurd e (hnq c i h1)
    · rcases hc c' i' hl' with h2 | ⟨rfl, rfl⟩
      · rw [ha c' i' h2, hq] at e; exact absurd e.symm (hnq c' i' h2)
      · exact ⟨rfl, rfl⟩
  · obtain ⟨g1, g2, g3⟩ := h.2.2 p hp
    refine ⟨fun c i hl => ?_, g2, (hO p (by rw [g3.1]; exact g2) (hnp p hp)).tr g3⟩
    rcases hc c i hl with h1 | ⟨rfl, rfl⟩
    · rw [ha c i h1]; exact g1 c i h1
    · rw [hq]; exact hnp p hp
theorem LF.obj {X : XT} {s : SG} {G G2 : GT} {q cn a : Nat} (h : LF X s G) (h13 : 13 ≤ cn) (hfr : X.2.1 cn a = false) (hnq : ∀ c i, X.2.1 c i = true → X.1 c i ≠ q) (hnp : ∀ p, X.2.2.2.1 p → p ≠ q) (hO : ∀ p, G.1 p ≠ 0 → p ≠ q → same6 G2 G p) (hk : 0 < kc cn ∧ G2.1 q = kc cn ∧ G2.2.1 q = lc cn) (hF : ∀ f, f < nc cn → G2.2.2.1 q f = iv s cn a f ∧ G2.2.2.2.1 q f = jv s cn a f ∧ G2.2.2.2.2.2 q f = (rv X s cn a f).map (fun o => X.1 o.1 o.2) ∧ ∀ o, rv X s cn a f = some o → X.2.1 o.1 o.2 = true) : LF (xadd X cn a q) s G2 :=
  (h.to0.obj hfr hnq hnp hO hk hF).to (fun c hc => by show u2 X.2.1 cn a true c 0 = true; rw [u2, if_neg (fun z => by omega)]; exact h.2.2.1 c hc)
theorem LF.nq {X : XT} {s : SG} {G : GT} (h : LF X s G) {q : Nat} (hq : G.1 q = 0) : (∀ c i, X.2.1 c i = true → X.1 c i ≠ q) ∧ ∀ p, X.2.2.2.1 p → p ≠ q := by
  refine ⟨fun c i hl e => ?_, fun p hp e => ?_⟩
  · have := (h.1 c i hl).1; rw [e, hq] at this; omega
  · have := (h.2.2.2 p hp).2; rw [e] at this; exact this.1 (this.2.1.symm.trans hq)
theorem LF.congr {X : XT} {s s' : SG} {G : GT} (h : LF X s G) (hS : ∀ c i f, X.2.1 c i = true → f < nc c → iv s' c i f = iv s c i f ∧ jv s' c i f = jv s c i f ∧ rv X s' c i f = rv X s c i f) : LF X s' G := by
  refine ⟨fun c i hl => ⟨(h.1 c i hl).1, fun f hf => ?_⟩, h.2.1, h.2.2.1, h.2.2.2⟩
  obtain ⟨k1, k2, k3, k4⟩ := (h.1 c i hl).2 f hf
  obtain ⟨e1, e2, e3⟩ := hS c i f hl hf
  rw [e1, e2, e3]
  exact ⟨k1, k2, k3, k4⟩
theorem rv_slot (X : XT) (s : SG) {ca : Nat} (h1 : 1 ≤ ca) (h5 : ca ≤ 5) (a : Nat) (b : Bool) (c i f : Nat) : rv (xslot X ca a b) s c i f = if c = ca ∧ f = a then (if b = true then some (ca + 12, a) else none) else rv X s c i f := by
  by_cases e : c = ca
  · subst e
    by_cases e2 : f = a
    · subst e2
      rw [if_pos ⟨rfl, rfl⟩]
      rcases (show c = 1 ∨ c = 2 ∨ c = 3 ∨ c = 4 ∨ c = 5 by omega) with rfl | rfl | rfl | rfl | rfl <;> (show (if u2 X.2.2.1 _ f b _ f = true then _ else none) = _; rw [u2_s])
    · rw [if_neg (fun z => e2 z.2)]
      rcases (show c = 1 ∨ c = 2 ∨ c = 3 ∨ c = 4 ∨ c = 5 by omega) with rfl | rfl | rfl | rfl | rfl <;> (show (if u2 X.2.2.1 _ a b _ f = true then _ else none) = _; rw [u2_k _ _ e2]; rfl)
  · rw [if_neg (fun z => e z.1)]
    unfold rv
    split <;> first | rfl | simp [xslot, u2, e]
theorem LF.slot {X : XT} {s : SG} {T N : Nat → Nat} {I : Nat → Nat → Int32} {J : Nat → Nat → Int64} {E : Nat → Nat → UInt64} {Rf : Nat → Nat → Option Nat} (h : LF X s (T, N, I, J, E, Rf)) {ca a : Nat} (h1 : 1 ≤ ca) (h5 : ca ≤ 5) (hi0 : ∀ i, X.2.1 ca i = true → i = 0) (b : Bool) (hl : b = true → X.2.1 (ca + 12) a = true) : LF (xslot X ca a b) s (T, N, I, J, E, u2 Rf (X.1 ca 0) a (if b = true then some (X.1 (ca + 12) a) else none)) := by
  refine ⟨fun c i h' => ⟨(h.1 c i h').1, fun f hf => ?_⟩, h.2.1, h.2.2.1, fun p hp => ⟨(h.2.2.2 p hp).1, (h.2.2.2 p hp).2.1, (h.2.2.2 p hp).2.2.putR ((h.2.2.2 p hp).1 ca 0 (h.2.2.1 ca (by omega))) _ _⟩⟩
  obtain ⟨k1, k2, k3, k4⟩ := (h.1 c i h').2 f hf
  refine ⟨k1, k2, ?_, fun o ho => ?_⟩
  · show u2 Rf (X.1 ca 0) a _ (X.1 c i) f = _
    rw [rv_slot X s h1 h5]
    by_cases e : c = ca ∧ f = a
    · obtain ⟨rfl, rfl⟩ := e
      have := hi0 i h'
      subst this
      rw [u2_s, if_pos (show c = c ∧ f = f from ⟨rfl, rfl⟩)]
      by_cases eb : b = true
      · rw [if_pos eb, if_pos eb]; rfl
      · rw [if_neg eb, if_neg eb]; rfl
    · rw [if_neg e, u2, if_neg (fun z => e ⟨(h.2.1 c i ca 0 h' (h.2.2.1 ca (by omega)) z.1).1, z.2⟩)]
      exact k3
  · rw [rv_slot X s h1 h5] at ho
    by_cases e : c = ca ∧ f = a
    · rw [if_pos e] at ho
      by_cases eb : b = true
      · rw [if_pos eb] at ho; cases ho; exact hl eb
      · rw [if_neg eb] at ho; cases ho
    · rw [if_neg e] at ho
      exact k4 o ho
theorem vc_aast {cc : ByteArray} {own : String} {nL : Nat} {R : Room} {D : DT} {K : KT} {pc : Nat} {lv : LV} {st : List Value} {G : GT} {n : Nat × Nat} {X : XT} {s : SG} {ca a b a0 k ci : Nat} {y : Int32} {r : vw_C} (hG : LF X s G) (hd : decode cc pc = .ok (.aastore, 1)) (h1 : 1 ≤ ca) (h5 : ca ≤ 5) (hi0 : ∀ i, X.2.1 ca i = true → i = 0) (hl : X.2.1 (ca + 12) a = true) (e0 : X.1 ca 0 = a0) (eb : X.1 (ca + 12) a = b) (hk : kc ca = k + 11) (hk5 : 5 ≤ k) (ht : (tysL D.2)[k]? = some (D.2 (k + 11), .object r.1)) (hci : cls[ci]? = some r) (hkc : kc (ca + 12) = ci + 1) (hi : y = nI a) (hj : a < lc ca) (kk : ∀ X' G', X' = xslot X ca a true → LF X' s G' → V cc own nL R D K (pc + 1) lv st G' n) : V cc own nL R D K pc lv (.ref b :: .int y :: .ref a0 :: st) G n := by
  obtain ⟨T, N, I, J, E, Rf⟩ := G
  subst e0
  subst eb
  have g0 := (hG.1 ca 0 (hG.2.2.1 ca (by omega))).1
  have g1 := (hG.1 (ca + 12) a hl).1
  refine v_aast hd (g0.2.1.trans hk) hk5 ht hci (g1.2.1.trans hkc) g0.2.2 hi hj (lc_le ca) ?_
  have := hG.slot h1 h5 hi0 true (fun _ => hl)
  rw [if_pos rfl] at this
  exact kk _ _ rfl this
theorem vc_aastN {cc : ByteArray} {own : String} {nL : Nat} {R : Room} {D : DT} {K : KT} {pc : Nat} {lv : LV} {st : List Value} {G : GT} {n : Nat × Nat} {X : XT} {s : SG} {ca a k : Nat} {y : Int32} {C : String} (hG : LF X s G) (hd : decode cc pc = .ok (.aastore, 1)) (h1 : 1 ≤ ca) (h5 : ca ≤ 5) (hi0 : ∀ i, X.2.1 ca i = true → i = 0) (hk : kc ca = k + 11) (hk5 : 5 ≤ k) (ht : (tysL D.2)[k]? = some (D.2 (k + 11), .object C)) (hi : y = nI a) (hj : a < lc ca) (kk : ∀ X' G', X' = xslot X ca a false → LF X' s G' → V cc own nL R D K (pc + 1) lv st G' n) : V cc own nL R D K pc lv (.null :: .int y :: .ref (X.1 ca 0) :: st) G n := by
  obtain ⟨T, N, I, J, E, Rf⟩ := G
  have g0 := (hG.1 ca 0 (hG.2.2.1 ca (by omega))).1
  refine v_aastN hd (g0.2.1.trans hk) hk5 ht g0.2.2 hi hj (lc_le ca) ?_
  have := hG.slot (a := a) h1 h5 hi0 false (fun z => by cases z)
  rw [if_neg (by decide)] at this
  exact kk _ _ rfl this
/-- a contract of the class' method that may throw and may make -/
def CY (y : MethodName) (bytes : ByteArray) (maxL : Nat) (ret : Option FieldType) (rm : Room) (D : DT) (As : List Value) (X : XT) (s : SG) (post : Option Value → XT → SG → Prop) (postX : String → Prop) : Prop := ∀ G : GT, LF X s G → MX y bytes maxL ret rm D As G (fun v G' => ∃ X' s', LF X' s' G' ∧ X'.2.2.2 = X.2.2.2 ∧ (∀ c, c < 13 → X'.1 c 0 = X.1 c 0) ∧ post v X' s') (fun e G' => LF X s G' ∧ postX e)
/-- the loft's own objects stand once -/
def XV (X : XT) : Prop := ∀ c i, c < 13 → X.2.1 c i = true → i = 0
set_option maxRecDepth 100000 in
set_option maxHeartbeats 400000 in
theorem c_X2_init (D : DT) (G : GT) (q : Nat)  (p0 : Int32) (p1 : Int32) (p2 : Int32) (hT : G.1 q = 3) : MC yX2_init cX2_init 4 (Option.none : Option Jvm.ClassFile.FieldType) rm_X2_init D [.ref q, .int p0, .int p1, .int p2] G (fun v G' => v = none ∧ G' = (G.1, G.2.1, u2 (u2 (u2 G.2.2.1 q 0 p0) q 1 p1) q 2 p2, G.2.2.2.1, G.2.2.2.2.1, G.2.2.2.2.2)) := by
  obtain ⟨T, N, I, J, E, Rf⟩ := G
  refine MC_of (by decide +kernel) (Nat.le_of_ble_eq_true rfl) (fun K sz hR => ?_)
  have hN : K.2.2.2.2.2.2.2.1.name = "<init>" := Rt_name hR
  have hT : T q = 3 := hT
  show V cX2_init _ 4 _ D K 0 [some (.ref q), some (.int p0), some (.int p1), some (.int p2)] [] (T, N, I, J, E, Rf) (0, 0)
  refine v_aload_n (pc := 0) dX2_init_0 rfl rfl ?_
  refine v_objInit (pc := 1) dX2_init_1 oi_X2_3 oi_all.1 oi_all.2 (Nat.le_of_ble_eq_true rfl) ⟨by decide, by decide⟩ ?_
  refine v_aload_n (pc := 4) dX2_init_4 rfl rfl ?_
  refine v_iload_n (pc := 5) dX2_init_5 rfl rfl ?_
  refine v_putIF (pc := 6) dX2_init_6 fw_X2_9 hN rfl (Or.inl rfl) (by assumption) rfl rfl ?_
  refine v_aload_n (pc := 9) dX2_init_9 rfl rfl ?_
  refine v_iload_n (pc := 10) dX2_init_10 rfl rfl ?_
  refine v_putIF (pc := 11) dX2_init_11 fw_X2_15 hN rfl (Or.inl rfl) (by assumption) rfl rfl ?_
  refine v_aload_n (pc := 14) dX2_init_14 rfl rfl ?_
  refine v_iload_n (pc := 15) dX2_init_15 rfl rfl ?_
  refine v_putIF (pc := 16) dX2_init_16 fw_X2_18 hN rfl (Or.inl rfl) (by assumption) rfl rfl ?_
  refine v_vret (pc := 19) hR dX2_init_19 ⟨by decide, by decide⟩ ?_
  exact ⟨rfl, rfl⟩
set_option maxRecDepth 100000 in
set_option maxHeartbeats 400000 in
theorem c_X4_init (D : DT) (G : GT) (q : Nat)  (l : Nat) (p1 : Int32) (p2 : Int32) (hT : G.1 q = 5) : MC yX4_init cX4_init 4 (Option.none : Option Jvm.ClassFile.FieldType) rm_X4_init D [.ref q, .ref l, .int p1, .int p2] G (fun v G' => v = none ∧ G' = (G.1, G.2.1, u2 (u2 G.2.2.1 q 1 p1) q 2 p2, G.2.2.2.1, G.2.2.2.2.1, u2 G.2.2.2.2.2 q 0 (some l))) := by
  obtain ⟨T, N, I, J, E, Rf⟩ := G
  refine MC_of (by decide +kernel) (Nat.le_of_ble_eq_true rfl) (fun K sz hR => ?_)
  have hN : K.2.2.2.2.2.2.2.1.name = "<init>" := Rt_name hR
  have hT : T q = 5 := hT
  show V cX4_init _ 4 _ D K 0 [some (.ref q), some (.ref l), some (.int p1), some (.int p2)] [] (T, N, I, J, E, Rf) (0, 0)
  refine v_aload_n (pc := 0) dX4_init_0 rfl rfl ?_
  refine v_objInit (pc := 1) dX4_init_1 oi_X4_1 oi_all.1 oi_all.2 (Nat.le_of_ble_eq_true rfl) ⟨by decide, by decide⟩ ?_
  refine v_aload_n (pc := 4) dX4_init_4 rfl rfl ?_
  refine v_aload_n (pc := 5) dX4_init_5 rfl rfl ?_
  refine v_putRF (pc := 6) dX4_init_6 fw_X4_7 hN rfl rfl (by assumption) rfl rfl ?_
  refine v_aload_n (pc := 9) dX4_init_9 rfl rfl ?_
  refine v_iload_n (pc := 10) dX4_init_10 rfl rfl ?_
  refine v_putIF (pc := 11) dX4_init_11 fw_X4_13 hN rfl (Or.inl rfl) (by assumption) rfl rfl ?_
  refine v_aload_n (pc := 14) dX4_init_14 rfl rfl ?_
  refine v_iload_n (pc := 15) dX4_init_15 rfl rfl ?_
  refine v_putIF (pc := 16) dX4_init_16 fw_X4_17 hN rfl (Or.inl rfl) (by assumption) rfl rfl ?_
  refine v_vret (pc := 19) hR dX4_init_19 ⟨by decide, by decide⟩ ?_
  exact ⟨rfl, rfl⟩
set_option maxRecDepth 100000 in
set_option maxHeartbeats 400000 in
theorem c_X5_init (D : DT) (G : GT) (q : Nat)  (p0 : Int64) (p1 : Int32) (hT : G.1 q = 6) : MC yX5_init cX5_init 4 (Option.none : Option Jvm.ClassFile.FieldType) rm_X5_init D [.ref q, .long p0, .int p1] G (fun v G' => v = none ∧ G' = (G.1, G.2.1, u2 (u2 G.2.2.1 q 2 1) q 1 p1, u2 G.2.2.2.1 q 0 p0, G.2.2.2.2.1, G.2.2.2.2.2)) := by
  obtain ⟨T, N, I, J, E, Rf⟩ := G
  refine MC_of (by decide +kernel) (Nat.le_of_ble_eq_true rfl) (fun K sz hR => ?_)
  have hN : K.2.2.2.2.2.2.2.1.name = "<init>" := Rt_name hR
  have hT : T q = 6 := hT
  show V cX5_init _ 4 _ D K 0 [some (.ref q), some (.long p0), none, some (.int p1)] [] (T, N, I, J, E, Rf) (0, 0)
  refine v_aload_n (pc := 0) dX5_init_0 rfl rfl ?_
  refine v_objInit (pc := 1) dX5_init_1 oi_X5_1 oi_all.1 oi_all.2 (Nat.le_of_ble_eq_true rfl) ⟨by decide, by decide⟩ ?_
  refine v_aload_n (pc := 4) dX5_init_4 rfl rfl ?_
  refine v_iconst (pc := 5) (v := 1) dX5_init_5 (by decide) ?_
  refine v_putI (pc := 6) dX5_init_6 fw_X5_7 rfl (Or.inr rfl) (by assumption) rfl rfl ?_
  refine v_aload_n (pc := 9) dX5_init_9 rfl rfl ?_
  refine v_lload_n (pc := 10) dX5_init_10 rfl rfl ?_
  refine v_putJF (pc := 11) dX5_init_11 fw_X5_13 hN rfl rfl (by assumption) rfl rfl ?_
  refine v_aload_n (pc := 14) dX5_init_14 rfl rfl ?_
  refine v_iload_n (pc := 15) dX5_init_15 rfl rfl ?_
  refine v_putIF (pc := 16) dX5_init_16 fw_X5_17 hN rfl (Or.inl rfl) (by assumption) rfl rfl ?_
  refine v_vret (pc := 19) hR dX5_init_19 ⟨by decide, by decide⟩ ?_
  exact ⟨rfl, rfl⟩
set_option maxRecDepth 100000 in
set_option maxHeartbeats 400000 in
theorem c_X6_init (D : DT) (G : GT) (q : Nat)   (hT : G.1 q = 7) : MC yX6_init cX6_init 1 (Option.none : Option Jvm.ClassFile.FieldType) rm_X6_init D [.ref q] G (fun v G' => v = none ∧ G' = G) := by
  obtain ⟨T, N, I, J, E, Rf⟩ := G
  refine MC_of (by decide +kernel) (Nat.le_of_ble_eq_true rfl) (fun K sz hR => ?_)
  have hN : K.2.2.2.2.2.2.2.1.name = "<init>" := Rt_name hR
  have hT : T q = 7 := hT
  show V cX6_init _ 1 _ D K 0 [some (.ref q)] [] (T, N, I, J, E, Rf) (0, 0)
  refine v_aload_n (pc := 0) dX6_init_0 rfl rfl ?_
  refine v_objInit (pc := 1) dX6_init_1 oi_X6_1 oi_all.1 oi_all.2 (Nat.le_of_ble_eq_true rfl) ⟨by decide, by decide⟩ ?_
  refine v_vret (pc := 4) hR dX6_init_4 ⟨by decide, by decide⟩ ?_
  exact ⟨rfl, rfl⟩
def pcK (k : Int32) : Int32 := if k = 0 then 60 else if k = 1 then 80 else 40
set_option maxRecDepth 100000 in
set_option maxHeartbeats 400000 in
theorem c_X7_init (D : DT) (G : GT) (q : Nat)  (l1 : Nat) (l2 : Nat) (p2 : Int32) (hT : G.1 q = 8) : MC yX7_init cX7_init 4 (Option.none : Option Jvm.ClassFile.FieldType) rm_X7_init D [.ref q, .ref l1, .ref l2, .int p2] G (fun v G' => v = none ∧ G' = (G.1, G.2.1, u2 G.2.2.1 q 2 (pcK p2), G.2.2.2.1, G.2.2.2.2.1, u2 (u2 G.2.2.2.2.2 q 0 (some l1)) q 1 (some l2))) := by
  obtain ⟨T, N, I, J, E, Rf⟩ := G
  refine MC_of (by decide +kernel) (Nat.le_of_ble_eq_true rfl) (fun K sz hR => ?_)
  have hN : K.2.2.2.2.2.2.2.1.name = "<init>" := Rt_name hR
  have hT : T q = 8 := hT
  show V cX7_init _ 4 _ D K 0 [some (.ref q), some (.ref l1), some (.ref l2), some (.int p2)] [] (T, N, I, J, E, Rf) (0, 0)
  refine v_aload_n (pc := 0) dX7_init_0 rfl rfl ?_
  refine v_objInit (pc := 1) dX7_init_1 oi_X7_3 oi_all.1 oi_all.2 (Nat.le_of_ble_eq_true rfl) ⟨by decide, by decide⟩ ?_
  refine v_aload_n (pc := 4) dX7_init_4 rfl rfl ?_
  refine v_aload_n (pc := 5) dX7_init_5 rfl rfl ?_
  refine v_putRF (pc := 6) dX7_init_6 fw_X7_9 hN rfl rfl (by assumption) rfl rfl ?_
  refine v_aload_n (pc := 9) dX7_init_9 rfl rfl ?_
  refine v_aload_n (pc := 10) dX7_init_10 rfl rfl ?_
  refine v_putRF (pc := 11) dX7_init_11 fw_X7_15 hN rfl rfl (by assumption) rfl rfl ?_
  refine v_aload_n (pc := 14) dX7_init_14 rfl rfl ?_
  refine v_iload_n (pc := 15) dX7_init_15 rfl rfl ?_
  refine v_if_ne (pc := 16) (tgt := 24) dX7_init_16 (by decide) (fun c16 => ?_) (fun c16 => ?_)
  · refine v_iload_n (pc := 24) dX7_init_24 rfl rfl ?_
    refine v_iconst (pc := 25) (v := 1) dX7_init_25 (by decide) ?_
    refine v_icmp_ne (pc := 26) (tgt := 34) dX7_init_26 (by decide) (fun c26 => ?_) (fun c26 => ?_)
    · refine v_bipush (pc := 34) (v := 40) dX7_init_34 (by decide) ?_
      refine v_putIF (pc := 36) dX7_init_36 fw_X7_18 hN rfl (Or.inl rfl) (by assumption) rfl rfl ?_
      refine v_vret (pc := 39) hR dX7_init_39 ⟨by decide, by decide⟩ ?_
      refine ⟨rfl, ?_⟩
      simp [pcK, *]
    · refine v_bipush (pc := 29) (v := 80) dX7_init_29 (by decide) ?_
      refine v_goto (pc := 31) (tgt := 36) dX7_init_31 (by decide) ?_
      refine v_putIF (pc := 36) dX7_init_36 fw_X7_18 hN rfl (Or.inl rfl) (by assumption) rfl rfl ?_
      refine v_vret (pc := 39) hR dX7_init_39 ⟨by decide, by decide⟩ ?_
      refine ⟨rfl, ?_⟩
      simp [pcK, *]
  · refine v_bipush (pc := 19) (v := 60) dX7_init_19 (by decide) ?_
    refine v_goto (pc := 21) (tgt := 36) dX7_init_21 (by decide) ?_
    refine v_putIF (pc := 36) dX7_init_36 fw_X7_18 hN rfl (Or.inl rfl) (by assumption) rfl rfl ?_
    refine v_vret (pc := 39) hR dX7_init_39 ⟨by decide, by decide⟩ ?_
    refine ⟨rfl, ?_⟩
    simp [pcK, *]
set_option maxRecDepth 100000 in
set_option maxHeartbeats 400000 in
theorem c_X0_init (D : DT) (G : GT) (q : Nat)  (l : Nat) (p1 : Int32) (hT : G.1 q = 1) : MC yX0_init cX0_init 3 (Option.none : Option Jvm.ClassFile.FieldType) rm_X0_init D [.ref q, .ref l, .int p1] G (fun v G' => v = none ∧ ∃ q2, G.1 q2 = 0 ∧ q2 ≠ q ∧ G' = (u1 G.1 q2 11, u1 G.2.1 q2 8, u2 (u2 (u2 (c2 G.2.2.1 q2 0) q 4 (-1)) q 5 (-1)) q 1 p1, c2 G.2.2.2.1 q2 0, c2 G.2.2.2.2.1 q2 0, u2 (u2 (c2 G.2.2.2.2.2 q2 none) q 2 (some q2)) q 0 (some l))) := by
  obtain ⟨T, N, I, J, E, Rf⟩ := G
  refine MC_of (by decide +kernel) (Nat.le_of_ble_eq_true rfl) (fun K sz hR => ?_)
  have hN : K.2.2.2.2.2.2.2.1.name = "<init>" := Rt_name hR
  have hT : T q = 1 := hT
  show V cX0_init _ 3 _ D K 0 [some (.ref q), some (.ref l), some (.int p1)] [] (T, N, I, J, E, Rf) (0, 0)
  refine v_aload_n (pc := 0) dX0_init_0 rfl rfl ?_
  refine v_objInit (pc := 1) dX0_init_1 oi_X0_3 oi_all.1 oi_all.2 (Nat.le_of_ble_eq_true rfl) ⟨by decide, by decide⟩ ?_
  refine v_aload_n (pc := 4) dX0_init_4 rfl rfl ?_
  refine v_bipush (pc := 5) (v := 8) dX0_init_5 (by decide) ?_
  refine v_newI (pc := 7) (atype := .int) (ty := .int) (k := 0) (z := 8) dX0_init_7 (Or.inl rfl) rfl rfl aw_int (fun _ => rfl) (by decide) rfl (by decide) ⟨by decide, by decide⟩ (fun q2 hq2 => ?_)
  have hq2 : T q2 = 0 := hq2
  have hqq : q2 ≠ q := fun e => by rw [e, hT] at hq2; cases hq2
  show V _ _ _ _ D K _ _ _ (u1 T q2 11, u1 N q2 8, c2 I q2 0, c2 J q2 0, c2 E q2 0, c2 Rf q2 none) _
  have hT : u1 T q2 11 q = 1 := by rw [u1_n _ _ (fun e => hqq e.symm)]; exact hT
  refine v_putRF (pc := 9) dX0_init_9 fw_X0_9 hN rfl rfl (by assumption) rfl rfl ?_
  refine v_aload_n (pc := 12) dX0_init_12 rfl rfl ?_
  refine v_iconst (pc := 13) (v := (-1)) dX0_init_13 (by decide) ?_
  refine v_putI (pc := 14) dX0_init_14 fw_X0_15 rfl (Or.inl rfl) (by assumption) rfl rfl ?_
  refine v_aload_n (pc := 17) dX0_init_17 rfl rfl ?_
  refine v_iconst (pc := 18) (v := (-1)) dX0_init_18 (by decide) ?_
  refine v_putI (pc := 19) dX0_init_19 fw_X0_19 rfl (Or.inl rfl) (by assumption) rfl rfl ?_
  refine v_aload_n (pc := 22) dX0_init_22 rfl rfl ?_
  refine v_aload_n (pc := 23) dX0_init_23 rfl rfl ?_
  refine v_putRF (pc := 24) dX0_init_24 fw_X0_22 hN rfl rfl (by assumption) rfl rfl ?_
  refine v_aload_n (pc := 27) dX0_init_27 rfl rfl ?_
  refine v_iload_n (pc := 28) dX0_init_28 rfl rfl ?_
  refine v_putIF (pc := 29) dX0_init_29 fw_X0_26 hN rfl (Or.inl rfl) (by assumption) rfl rfl ?_
  refine v_vret (pc := 32) hR dX0_init_32 ⟨by decide, by decide⟩ ?_
  exact ⟨rfl, q2, hq2, hqq, rfl⟩
set_option maxRecDepth 100000 in
set_option maxHeartbeats 400000 in
theorem c_X1_init (D : DT) (G : GT) (q : Nat)   (hT : G.1 q = 2) : MC yX1_init cX1_init 1 (Option.none : Option Jvm.ClassFile.FieldType) rm_X1_init D [.ref q] G (fun v G' => v = none ∧ ∃ q2, G.1 q2 = 0 ∧ q2 ≠ q ∧ G' = (u1 G.1 q2 14, u1 G.2.1 q2 512, c2 G.2.2.1 q2 0, c2 G.2.2.2.1 q2 0, c2 G.2.2.2.2.1 q2 0, u2 (c2 G.2.2.2.2.2 q2 none) q 0 (some q2))) := by
  obtain ⟨T, N, I, J, E, Rf⟩ := G
  refine MC_of (by decide +kernel) (Nat.le_of_ble_eq_true rfl) (fun K sz hR => ?_)
  have hN : K.2.2.2.2.2.2.2.1.name = "<init>" := Rt_name hR
  have hT : T q = 2 := hT
  show V cX1_init _ 1 _ D K 0 [some (.ref q)] [] (T, N, I, J, E, Rf) (0, 0)
  refine v_aload_n (pc := 0) dX1_init_0 rfl rfl ?_
  refine v_objInit (pc := 1) dX1_init_1 oi_X1_3 oi_all.1 oi_all.2 (Nat.le_of_ble_eq_true rfl) ⟨by decide, by decide⟩ ?_
  refine v_aload_n (pc := 4) dX1_init_4 rfl rfl ?_
  refine v_sipush (pc := 5) (v := 512) dX1_init_5 (by decide) ?_
  refine v_newI (pc := 8) (atype := .byte) (ty := .byte) (k := 3) (z := 512) dX1_init_8 (Or.inr (Or.inr rfl)) rfl rfl aw_byte (fun _ => rfl) (by decide) rfl (by decide) ⟨by decide, by decide⟩ (fun q2 hq2 => ?_)
  have hq2 : T q2 = 0 := hq2
  have hqq : q2 ≠ q := fun e => by rw [e, hT] at hq2; cases hq2
  show V _ _ _ _ D K _ _ _ (u1 T q2 14, u1 N q2 512, c2 I q2 0, c2 J q2 0, c2 E q2 0, c2 Rf q2 none) _
  have hT : u1 T q2 14 q = 2 := by rw [u1_n _ _ (fun e => hqq e.symm)]; exact hT
  refine v_putRF (pc := 10) dX1_init_10 fw_X1_9 hN rfl rfl (by assumption) rfl rfl ?_
  refine v_vret (pc := 13) hR dX1_init_13 ⟨by decide, by decide⟩ ?_
  exact ⟨rfl, q2, hq2, hqq, rfl⟩
