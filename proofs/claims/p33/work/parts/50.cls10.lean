theorem v_callSN3 {cc : ByteArray} {own : String} {nL : Nat} {R : Room} {D : DT} {K : KT} {pc : Nat} {lv : LV} {st : List Value} {G : GT} {n : Nat × Nat} {idx maxL : Nat} {y : MethodName} {host : String} {bytes : ByteArray} {ret : Option FieldType} {rm : Room} {a0 a1 a2 : Value} {post : Option Value → GT → Prop} (n' : Nat × Nat) (hd : decode cc pc = .ok (.invokestatic idx, 3)) (hng : Cond.methodLinkNest own idx y host ∈ ngW) (w2 : Cond.initialized y.cls ∈ lw_all) (w3 : Cond.code y bytes maxL ret ∈ lw_all) (w4 : y.cls ≠ "java/lang/invoke/MethodHandle" ∧ y.cls ≠ "java/lang/invoke/VarHandle" ∧ (parseMethodDescriptor y.desc).map (fun d => d.parameters.length) = some 3) (hi : Cond.static y ∈ lw_all) (hM : MC y bytes maxL ret rm D [a0, a1, a2] G post) (hrest : (st.map fun v => v.category).sum ≤ 8) (hR : rm.frames + 1 ≤ R.frames ∧ 8 + (maxL + 11) + rm.locals ≤ R.locals) (hn : n.1 + rm.cells ≤ R.cells ∧ n.2 + rm.slots ≤ R.slots) (hn' : (n.1 + rm.cells, n.2 + rm.slots) = n') (kk : ∀ (v : Option Value) (G' : GT), post v G' → V cc own nL R D K (pc + 3) lv (vst v st) G' n') : V cc own nL R D K pc lv (a2 :: a1 :: a0 :: st) G n := by
  subst hn'
  exact v_callSN hd hng w2 w3 w4 hi hM (As := [a0, a1, a2]) (rest := st) rfl rfl hrest hR hn kk
/-- a contract of a JDK method that the machine runs by its code: its class' name isn't a plain one -/
theorem Met.ofWF {l : Launch} {y : MethodName} {ws ws' : List Cond} {rm : Room} {Pc : Array Value → State → Prop} {Qc : Array Value → State → Outcome → State → Prop} {mc ms : Nat} {free : Addr → Prop} {cc : ByteArray} {maxL : Nat} {ret : Option FieldType} (hy : plainFor y = true) (hw : ws = Cond.code y cc maxL ret :: ws')
    (body : ∀ p e s m args below meth c s₁, BodyLoose p l y (headSpec ws rm) cc maxL ret e s m args below meth c s₁ → c.maxLocals = maxL → Pc args s → W p l e (headSpec ws rm).room s m args below meth c s.heap [] 0 0 (MQ below Qc args s mc ms free) (entryFrame m args maxL)) : Met l y ws rm Pc Qc mc ms free := by
  refine MetFree.of_bodySF (code := cc) (maxLocals := maxL) (ret := ret) hy (fun args s m h hm => ?_) (fun p e s m args below meth c s₁ B hml hP _ => ?_)
  · obtain ⟨meth, c, h1, h2, h3, h4, h5, h6, -, -⟩ := Cond.code_spec hm (atoms_spec (ws := ws) h _ (by rw [hw]; exact List.mem_cons_self))
    exact ⟨meth, c, h1, h2, h3, h4, h5, h6⟩
  · have hh0 : s₁.heap = s.heap := by rw [B.state]; rfl
    obtain ⟨t, a1, o, b1, b2, b3⟩ := body p e s m args below meth c s₁ B hml hP s₁ hh0 (Stand.of_body B)
    exact ⟨t, o, a1, b1, b2, ⟨b3.1, b3.2⟩⟩
theorem MC_ofF {y : MethodName} {bytes : ByteArray} {maxL : Nat} {ret : Option FieldType} {rm : Room} {D : DT} {As : List Value} {G : GT} {post : Option Value → GT → Prop} (hy : plainFor y = true) (hl : (lg_sl As).length ≤ maxL) (h : ∀ (K : KT) (sz : Nat), Rt rm D K ret y.name sz G post → V bytes y.cls maxL rm D K 0 (lpad (lent As) maxL) [] G (0, 0)) : MC y bytes maxL ret rm D As G post := by
  intro l hfl sz
  refine Met.ofWF (cc := bytes) (maxL := maxL) (ret := ret) hy rfl ?_
  intro p e s m args below meth c s₁ B hml hv
  obtain ⟨rfl, hsz, hwd, hK, hES⟩ := hv
  have hts := atoms_spec (ws := wsA y bytes maxL ret) B.pre
  subst hsz
  have hlv := lv_entry As (n := maxL) hl
  rw [lg_entry_eq]
  exact h (p, l, e, s, m, As.toArray, below, meth, c, frM G s.heap.size, MQ below (QcM D s.heap.size G post) As.toArray s rm.cells rm.slots (frM G s.heap.size)) s.heap.size ⟨B.returns, rfl, rfl, (name_of_methodNamed B.named B.method).1, fun _ h => h⟩ ⟨B.exec, B.bytes, hml, findClass_of_methodNamed B.named, fun w hw => hts w (List.mem_cons_of_mem _ hw), hK, fun q hq => Or.inr hq, B.notSynchronized, hES, hfl⟩ s.heap [] _ hwd (fun q hq => Or.inl hq) va_S.rf ⟨hlv.1, hlv.2.1, fun i v hg => hlv.2.2 (i, v) (by have := lent_args As 0 i v (lget_pad hg); simpa using this)⟩
theorem fd_plain : plainFor yJ9_floorDiv_7cf53 = true := by decide +kernel
theorem q_sub {x y : Int32} (h : x - y = 0) : y = x := by
  have h1 : x - y + y = 0 + y := by rw [h]
  rw [Int32.sub_add_cancel, Int32.zero_add] at h1
  exact h1.symm
theorem xor_neg (x : Int32) {c : Nat} (h : c < 2147483648) : x ^^^ nI c < 0 ↔ x < 0 := by
  have hm : (nI c).toBitVec.msb = false := by
    rw [BitVec.msb_eq_toInt]
    have h1 : (nI c).toBitVec.toInt = (c : Int) := nI_toInt h
    rw [h1]
    simp
  rw [Int32.lt_iff_toInt_lt, Int32.lt_iff_toInt_lt]
  have h0 : (0 : Int32).toInt = 0 := rfl
  have h2 := BitVec.msb_eq_toInt (x := x.toBitVec)
  have h3 := BitVec.msb_eq_toInt (x := (x ^^^ nI c).toBitVec)
  rw [Int32.toBitVec_xor, BitVec.msb_xor, hm, Bool.xor_false, h2] at h3
  have h4 : x.toBitVec.toInt = x.toInt := rfl
  have h5 : (x.toBitVec ^^^ (nI c).toBitVec).toInt = (x ^^^ nI c).toInt := rfl
  rw [h4, h5] at h3
  rw [h0]
  constructor
  · intro q
    have : decide (x.toInt < 0) = true := h3.trans (decide_eq_true q)
    exact of_decide_eq_true this
  · intro q
    have : decide ((x ^^^ nI c).toInt < 0) = true := h3.symm.trans (decide_eq_true q)
    exact of_decide_eq_true this
set_option maxRecDepth 100000 in
set_option maxHeartbeats 4000000 in
theorem c_J9_floorDiv_7cf53 (D : DT) (G : GT) (c : Nat) (p0 : Int32) (hc : c < 2147483648) (hn : ¬ nI c = 0) : MC yJ9_floorDiv_7cf53 cJ9_floorDiv_7cf53 3 (Option.some Jvm.ClassFile.FieldType.int) rm_J9_floorDiv_7cf53 D [.int p0, .int (nI c)] G (fun v G' => v = some (.int (mean p0 (nI c))) ∧ G' = G) := by
  refine MC_ofF fd_plain (Nat.le_of_ble_eq_true rfl) (fun K sz hR => ?_)
  show V cJ9_floorDiv_7cf53 _ 3 _ D K 0 [some (.int p0), some (.int (nI c)), none] [] G (0, 0)
  refine v_iload_n (pc := 0) dJ9_floorDiv_7cf53_0 rfl rfl ?_
  refine v_iload_n (pc := 1) dJ9_floorDiv_7cf53_1 rfl rfl ?_
  refine v_idiv (pc := 2) dJ9_floorDiv_7cf53_2 hn ?_
  refine v_istore_n (pc := 3) dJ9_floorDiv_7cf53_3 rfl rfl (by decide) ?_
  refine v_iload_n (pc := 4) dJ9_floorDiv_7cf53_4 rfl rfl ?_
  refine v_iload_n (pc := 5) dJ9_floorDiv_7cf53_5 rfl rfl ?_
  refine v_ixor (pc := 6) dJ9_floorDiv_7cf53_6 ?_
  refine v_if_ge (pc := 7) (tgt := 21) dJ9_floorDiv_7cf53_7 (by decide) (fun c7 => ?_) (fun c7 => ?_)
  · have hm : mean p0 (nI c) = p0 / nI c := by rw [mean, if_neg (fun z => absurd ((xor_neg p0 hc).mpr z.1) (n_nlt.mpr c7))]
    refine v_iload_n (pc := 21) dJ9_floorDiv_7cf53_21 rfl rfl ?_
    refine v_iret (pc := 22) hR dJ9_floorDiv_7cf53_22 ⟨by decide, by decide⟩ ?_
    exact ⟨by rw [hm], rfl⟩
  · refine v_iload_n (pc := 10) dJ9_floorDiv_7cf53_10 rfl rfl ?_
    refine v_iload_n (pc := 11) dJ9_floorDiv_7cf53_11 rfl rfl ?_
    refine v_imul (pc := 12) dJ9_floorDiv_7cf53_12 ?_
    refine v_iload_n (pc := 13) dJ9_floorDiv_7cf53_13 rfl rfl ?_
    refine v_icmp_eq (pc := 14) (tgt := 21) dJ9_floorDiv_7cf53_14 (by decide) (fun c14 => ?_) (fun c14 => ?_)
    · have hm : mean p0 (nI c) = p0 / nI c := by rw [mean, if_neg (fun z => z.2 (by rw [c14, Int32.sub_self]))]
      refine v_iload_n (pc := 21) dJ9_floorDiv_7cf53_21 rfl rfl ?_
      refine v_iret (pc := 22) hR dJ9_floorDiv_7cf53_22 ⟨by decide, by decide⟩ ?_
      exact ⟨by rw [hm], rfl⟩
    · have hm : mean p0 (nI c) = p0 / nI c - 1 := by rw [mean, if_pos ⟨(xor_neg p0 hc).mp (n_nle.mp c7), fun z => c14 (q_sub z)⟩]
      refine v_iload_n (pc := 17) dJ9_floorDiv_7cf53_17 rfl rfl ?_
      refine v_iconst (pc := 18) (v := 1) dJ9_floorDiv_7cf53_18 (by decide) ?_
      refine v_isub (pc := 19) dJ9_floorDiv_7cf53_19 ?_
      refine v_iret (pc := 20) hR dJ9_floorDiv_7cf53_20 ⟨by decide, by decide⟩ ?_
      exact ⟨by rw [hm], rfl⟩
theorem cmN_le : ∀ k, k < 36 → cmN k 4 ≤ 4 := by decide +kernel
def cR (k w : Nat) : Int32 := if w = 0 then nI k / 6 - 1 else if w = 1 then nI k / 6 + 1 else nI k / 6
def cC (k w : Nat) : Int32 := if w = 2 then nI k - nI k / 6 * 6 - 1 else if w = 3 then nI k - nI k / 6 * 6 + 1 else nI k - nI k / 6 * 6
theorem cs_all : ∀ k, k < 36 → ∀ w, w < 4 → (match nb k w with | some q => decide (btw (cR k w) 0 5 ∧ btw (cC k w) 0 5 ∧ cR k w * 6 + cC k w = nI q ∧ q < 36) | none => decide (¬ (btw (cR k w) 0 5 ∧ btw (cC k w) 0 5))) = true := by decide +kernel
theorem cs_some {k w : Nat} (hk : k < 36) (hw : w < 4) (h1 : btw (cR k w) 0 5) (h2 : btw (cC k w) 0 5) : ∃ q, nb k w = some q ∧ q < 36 ∧ cR k w * 6 + cC k w = nI q := by
  have h := cs_all k hk w hw
  cases hn : nb k w with
  | none => rw [hn] at h; exact absurd ⟨h1, h2⟩ (of_decide_eq_true h)
  | some q => rw [hn] at h; have h3 := of_decide_eq_true h; exact ⟨q, rfl, h3.2.2.2, h3.2.2.1⟩
theorem cs_none {k w : Nat} (hk : k < 36) (hw : w < 4) (h1 : ¬ (btw (cR k w) 0 5 ∧ btw (cC k w) 0 5)) : nb k w = none := by
  have h := cs_all k hk w hw
  cases hn : nb k w with
  | none => rfl
  | some q => rw [hn] at h; have h3 := of_decide_eq_true h; exact absurd ⟨h3.1, h3.2.1⟩ h1
def hdS (s : SG) : SG := (fun k j => if k = 15 then s.1 46 j else s.1 k j, s.2)
theorem hdS_15 (s : SG) : (hdS s).1 15 = s.1 46 := rfl
theorem cm_n {s : SG} {k i : Nat} {x2 x3 x4 : Int32} (hn : nb k i = none) (h : cmF s k i = (x2, x3, x4)) : cmF s k (i + 1) = (x2, x3, x4) := by rw [cmF, hn]; exact h
theorem cm_0 {s : SG} {k i q : Nat} {x2 x3 x4 y : Int32} (hn : nb k i = some q) (h : cmF s k i = (x2, x3, x4)) (hy : s.1 15 q = y) (c : x3 = 0) : cmF s k (i + 1) = (x2 + y, x3 + 1, y) := by
  rw [cmF, hn]; simp only [h, hy]; rw [if_pos (Or.inl c)]
theorem cm_1 {s : SG} {k i q : Nat} {x2 x3 x4 y : Int32} (hn : nb k i = some q) (h : cmF s k i = (x2, x3, x4)) (hy : s.1 15 q = y) (c : ¬ x3 = 0) : cmF s k (i + 1) = (x2 + y, x3 + 1, if x4 < y then y else x4) := by
  rw [cmF, hn]; simp only [h, hy]
  by_cases c2 : x4 < y
  · rw [if_pos c2, if_pos (Or.inr c2)]
  · rw [if_neg c2, if_neg (fun z => z.elim c c2)]
set_option maxRecDepth 100000 in
set_option maxHeartbeats 400000 in
theorem l_X3_pulled {D : DT} {K : KT} {X : XT} {s : SG} (k : Nat) (hk : k < 36) (kk : ∀ (x2 x3 x4 : Int32) (G : GT), cmF (hdS s) k 4 = (x2, x3, x4) → LF X s G → V cX3_pulledHeight yX3_pulledHeight.cls 11 rm_X3_pulledHeight D K 157 [some (.ref (X.1 6 0)), some (.int (nI k)), some (.int (nI k / 6)), some (.int (nI k - nI k / 6 * 6)), some (.int x2), some (.int x3), some (.int x4), some (.int (nI 4)), none, none, none] [] G (0, 0)) : ∀ (d i : Nat) (x2 x3 x4 : Int32) (G : GT), i + d = 4 → cmF (hdS s) k i = (x2, x3, x4) → LF X s G → V cX3_pulledHeight yX3_pulledHeight.cls 11 rm_X3_pulledHeight D K 22 [some (.ref (X.1 6 0)), some (.int (nI k)), some (.int (nI k / 6)), some (.int (nI k - nI k / 6 * 6)), some (.int x2), some (.int x3), some (.int x4), some (.int (nI i)), none, none, none] [] G (0, 0) := by
  intro d
  induction d with
  | zero =>
    intro i x2 x3 x4 G he0 he1 hG
    refine v_iload (pc := 22) dX3_pulledHeight_22 rfl ?_
    refine v_iconst (pc := 24) (v := 4) dX3_pulledHeight_24 (by decide) ?_
    refine v_icmp_ge (pc := 25) (tgt := 157) dX3_pulledHeight_25 (by decide) (fun c25 => ?_) (fun c25 => absurd c25 (not_not_intro (by rw [show i = 4 by omega]; decide)))
    have e : i = 4 := by omega
    subst e
    exact kk _ _ _ G he1 hG
  | succ d ih =>
    intro i x2 x3 x4 G he0 he1 hG
    refine v_iload (pc := 22) dX3_pulledHeight_22 rfl ?_
    refine v_iconst (pc := 24) (v := 4) dX3_pulledHeight_24 (by decide) ?_
    refine v_icmp_ge (pc := 25) (tgt := 157) dX3_pulledHeight_25 (by decide) (fun c25 => absurd c25 (nI_ge (b := 4) (by omega) (by decide))) (fun c25 => ?_)
    have hi4 : i < 4 := by omega
    rcases (show i = 0 ∨ i = 1 ∨ i = 2 ∨ i = 3 by omega) with rfl | rfl | rfl | rfl
    · refine v_iload (pc := 28) dX3_pulledHeight_28 rfl ?_
      refine v_if_ne (pc := 30) (tgt := 39) dX3_pulledHeight_30 (by decide) (fun c30 => absurd c30 (by decide)) (fun c30 => ?_)
      refine v_iload_n (pc := 33) dX3_pulledHeight_33 rfl rfl ?_
      refine v_iconst (pc := 34) (v := 1) dX3_pulledHeight_34 (by decide) ?_
      refine v_isub (pc := 35) dX3_pulledHeight_35 ?_
      refine v_goto (pc := 36) (tgt := 52) dX3_pulledHeight_36 (by decide) ?_
      refine v_istore (pc := 52) dX3_pulledHeight_52 rfl (by decide) ?_
      refine v_iload (pc := 54) dX3_pulledHeight_54 rfl ?_
      refine v_iconst (pc := 56) (v := 2) dX3_pulledHeight_56 (by decide) ?_
      refine v_icmp_ne (pc := 57) (tgt := 66) dX3_pulledHeight_57 (by decide) (fun c57 => ?_) (fun c57 => absurd c57 (by decide))
      refine v_iload (pc := 66) dX3_pulledHeight_66 rfl ?_
      refine v_iconst (pc := 68) (v := 3) dX3_pulledHeight_68 (by decide) ?_
      refine v_icmp_ne (pc := 69) (tgt := 78) dX3_pulledHeight_69 (by decide) (fun c69 => ?_) (fun c69 => absurd c69 (by decide))
      refine v_iload_n (pc := 78) dX3_pulledHeight_78 rfl rfl ?_
      refine v_istore (pc := 79) dX3_pulledHeight_79 rfl (by decide) ?_
      refine v_iload (pc := 81) dX3_pulledHeight_81 rfl ?_
      refine v_i2l (pc := 83) dX3_pulledHeight_83 ?_
      refine v_lconst (pc := 84) (v := 0) dX3_pulledHeight_84 (by decide) ?_
      refine v_ldcL (pc := 85) dX3_pulledHeight_85 k_X3_30 ?_
      refine v_callSN3 (pc := 88) (0, 0) dX3_pulledHeight_88 cn_X3_32 cm_yX8_isOutside.1 cm_yX8_isOutside.2.1 cm_yX8_isOutside.2.2 sm_yX8_isOutside (c_X8_isOutside D _ _ _ _ ) (Nat.le_of_ble_eq_true rfl) ⟨Nat.le_of_ble_eq_true rfl, Nat.le_of_ble_eq_true rfl⟩ ⟨by decide, by decide⟩ rfl (fun v G1 hp => ?_)
      obtain ⟨hv1, hs1⟩ := hp
      subst hv1
      subst G1
      refine v_if_ne (pc := 91) (tgt := 151) dX3_pulledHeight_91 (by decide) (fun c91 => ?_) (fun c91 => ?_)
      · rw [b2i_0, Decidable.not_not] at c91
        have c91 := (out_y (a := 0) (b := 5) (by decide) (by decide)).mp c91
        have e7 := cm_n (cs_none (k := k) (w := 0) hk (by decide) (fun z => c91 z.1)) he1
        refine v_iinc (pc := 151) dX3_pulledHeight_151 rfl (nI_1 0) rfl (by decide) ?_
        refine v_goto (pc := 154) (tgt := 22) dX3_pulledHeight_154 (by decide) ?_
        refine v_forget 8 ?_
        refine v_forget 9 ?_
        refine v_forget 10 ?_
        exact ih (0 + 1) _ _ _ G (by omega) e7 hG
      · rw [b2i_0] at c91
        have c91 := (out_n (a := 0) (b := 5) (by decide) (by decide)).mp c91
        refine v_iload (pc := 94) dX3_pulledHeight_94 rfl ?_
        refine v_i2l (pc := 96) dX3_pulledHeight_96 ?_
        refine v_lconst (pc := 97) (v := 0) dX3_pulledHeight_97 (by decide) ?_
        refine v_ldcL (pc := 98) dX3_pulledHeight_98 k_X3_30 ?_
        refine v_callSN3 (pc := 101) (0, 0) dX3_pulledHeight_101 cn_X3_32 cm_yX8_isOutside.1 cm_yX8_isOutside.2.1 cm_yX8_isOutside.2.2 sm_yX8_isOutside (c_X8_isOutside D _ _ _ _ ) (Nat.le_of_ble_eq_true rfl) ⟨Nat.le_of_ble_eq_true rfl, Nat.le_of_ble_eq_true rfl⟩ ⟨by decide, by decide⟩ rfl (fun v G1 hp => ?_)
        obtain ⟨hv1, hs1⟩ := hp
        subst hv1
        subst G1
        refine v_if_ne (pc := 104) (tgt := 151) dX3_pulledHeight_104 (by decide) (fun c104 => ?_) (fun c104 => ?_)
        · rw [b2i_0, Decidable.not_not] at c104
          have c104 := (out_y (a := 0) (b := 5) (by decide) (by decide)).mp c104
          have e7 := cm_n (cs_none (k := k) (w := 0) hk (by decide) (fun z => c104 z.2)) he1
          refine v_iinc (pc := 151) dX3_pulledHeight_151 rfl (nI_1 0) rfl (by decide) ?_
          refine v_goto (pc := 154) (tgt := 22) dX3_pulledHeight_154 (by decide) ?_
          refine v_forget 8 ?_
          refine v_forget 9 ?_
          refine v_forget 10 ?_
          exact ih (0 + 1) _ _ _ G (by omega) e7 hG
        · rw [b2i_0] at c104
          have c104 := (out_n (a := 0) (b := 5) (by decide) (by decide)).mp c104
          obtain ⟨q, hnb, hq, e6⟩ := cs_some (k := k) (w := 0) hk (by decide) c91 c104
          refine v_aload_n (pc := 107) dX3_pulledHeight_107 rfl rfl ?_
          refine vc_getR (pc := 108) (f := 1) hG dX3_pulledHeight_108 fl_X3_13 rfl (hG.2.2.1 6 (by decide)) rfl (by decide) (rvL_6_1 _ _ _) (fun hL108 => ?_)
          refine v_iload (pc := 111) dX3_pulledHeight_111 rfl ?_
          refine v_bipush (pc := 113) (v := 6) dX3_pulledHeight_113 (by decide) ?_
          refine v_imul (pc := 115) dX3_pulledHeight_115 ?_
          refine v_iload (pc := 116) dX3_pulledHeight_116 rfl ?_
          refine v_iadd (pc := 118) dX3_pulledHeight_118 ?_
          refine vc_iald (pc := 119) (j := q) hG dX3_pulledHeight_119 (hG.2.2.1 8 (by decide)) rfl e6 (by show _ < 36; omega) (ivL_8_a _ _) ?_
          refine v_istore (pc := 120) dX3_pulledHeight_120 rfl (by decide) ?_
          refine v_iload (pc := 122) dX3_pulledHeight_122 rfl ?_
          refine v_if_ne (pc := 124) (tgt := 132) dX3_pulledHeight_124 (by decide) (fun c124 => ?_) (fun c124 => ?_)
          · have e7 := cm_1 hnb he1 (rfl : (hdS s).1 15 q = s.1 46 q) c124
            refine v_iload (pc := 132) dX3_pulledHeight_132 rfl ?_
            refine v_iload (pc := 134) dX3_pulledHeight_134 rfl ?_
            refine v_imax (pc := 136) dX3_pulledHeight_136 ml_X3_38 mc_imax.1 mc_imax.2.1 mc_imax.2.2 (by decide) (Nat.le_of_ble_eq_true rfl) (by decide) ⟨by decide, by decide⟩ ?_
            refine v_istore (pc := 139) dX3_pulledHeight_139 rfl (by decide) ?_
            refine v_iload (pc := 141) dX3_pulledHeight_141 rfl ?_
            refine v_iload (pc := 143) dX3_pulledHeight_143 rfl ?_
            refine v_iadd (pc := 145) dX3_pulledHeight_145 ?_
            refine v_istore (pc := 146) dX3_pulledHeight_146 rfl (by decide) ?_
            refine v_iinc (pc := 148) dX3_pulledHeight_148 rfl rfl rfl (by decide) ?_
            refine v_iinc (pc := 151) dX3_pulledHeight_151 rfl (nI_1 0) rfl (by decide) ?_
            refine v_goto (pc := 154) (tgt := 22) dX3_pulledHeight_154 (by decide) ?_
            refine v_forget 8 ?_
            refine v_forget 9 ?_
            refine v_forget 10 ?_
            exact ih (0 + 1) _ _ _ G (by omega) e7 hG
          · have e7 := cm_0 hnb he1 (rfl : (hdS s).1 15 q = s.1 46 q) c124
            refine v_iload (pc := 127) dX3_pulledHeight_127 rfl ?_
            refine v_goto (pc := 129) (tgt := 139) dX3_pulledHeight_129 (by decide) ?_
            refine v_istore (pc := 139) dX3_pulledHeight_139 rfl (by decide) ?_
            refine v_iload (pc := 141) dX3_pulledHeight_141 rfl ?_
            refine v_iload (pc := 143) dX3_pulledHeight_143 rfl ?_
            refine v_iadd (pc := 145) dX3_pulledHeight_145 ?_
            refine v_istore (pc := 146) dX3_pulledHeight_146 rfl (by decide) ?_
            refine v_iinc (pc := 148) dX3_pulledHeight_148 rfl rfl rfl (by decide) ?_
            refine v_iinc (pc := 151) dX3_pulledHeight_151 rfl (nI_1 0) rfl (by decide) ?_
            refine v_goto (pc := 154) (tgt := 22) dX3_pulledHeight_154 (by decide) ?_
            refine v_forget 8 ?_
            refine v_forget 9 ?_
            refine v_forget 10 ?_
            exact ih (0 + 1) _ _ _ G (by omega) e7 hG
    · refine v_iload (pc := 28) dX3_pulledHeight_28 rfl ?_
      refine v_if_ne (pc := 30) (tgt := 39) dX3_pulledHeight_30 (by decide) (fun c30 => ?_) (fun c30 => absurd c30 (by decide))
      refine v_iload (pc := 39) dX3_pulledHeight_39 rfl ?_
      refine v_iconst (pc := 41) (v := 1) dX3_pulledHeight_41 (by decide) ?_
      refine v_icmp_ne (pc := 42) (tgt := 51) dX3_pulledHeight_42 (by decide) (fun c42 => absurd c42 (by decide)) (fun c42 => ?_)
      refine v_iload_n (pc := 45) dX3_pulledHeight_45 rfl rfl ?_
      refine v_iconst (pc := 46) (v := 1) dX3_pulledHeight_46 (by decide) ?_
      refine v_iadd (pc := 47) dX3_pulledHeight_47 ?_
      refine v_goto (pc := 48) (tgt := 52) dX3_pulledHeight_48 (by decide) ?_
      refine v_istore (pc := 52) dX3_pulledHeight_52 rfl (by decide) ?_
      refine v_iload (pc := 54) dX3_pulledHeight_54 rfl ?_
      refine v_iconst (pc := 56) (v := 2) dX3_pulledHeight_56 (by decide) ?_
      refine v_icmp_ne (pc := 57) (tgt := 66) dX3_pulledHeight_57 (by decide) (fun c57 => ?_) (fun c57 => absurd c57 (by decide))
      refine v_iload (pc := 66) dX3_pulledHeight_66 rfl ?_
      refine v_iconst (pc := 68) (v := 3) dX3_pulledHeight_68 (by decide) ?_
      refine v_icmp_ne (pc := 69) (tgt := 78) dX3_pulledHeight_69 (by decide) (fun c69 => ?_) (fun c69 => absurd c69 (by decide))
      refine v_iload_n (pc := 78) dX3_pulledHeight_78 rfl rfl ?_
      refine v_istore (pc := 79) dX3_pulledHeight_79 rfl (by decide) ?_
      refine v_iload (pc := 81) dX3_pulledHeight_81 rfl ?_
      refine v_i2l (pc := 83) dX3_pulledHeight_83 ?_
      refine v_lconst (pc := 84) (v := 0) dX3_pulledHeight_84 (by decide) ?_
      refine v_ldcL (pc := 85) dX3_pulledHeight_85 k_X3_30 ?_
      refine v_callSN3 (pc := 88) (0, 0) dX3_pulledHeight_88 cn_X3_32 cm_yX8_isOutside.1 cm_yX8_isOutside.2.1 cm_yX8_isOutside.2.2 sm_yX8_isOutside (c_X8_isOutside D _ _ _ _ ) (Nat.le_of_ble_eq_true rfl) ⟨Nat.le_of_ble_eq_true rfl, Nat.le_of_ble_eq_true rfl⟩ ⟨by decide, by decide⟩ rfl (fun v G1 hp => ?_)
      obtain ⟨hv1, hs1⟩ := hp
      subst hv1
      subst G1
      refine v_if_ne (pc := 91) (tgt := 151) dX3_pulledHeight_91 (by decide) (fun c91 => ?_) (fun c91 => ?_)
      · rw [b2i_0, Decidable.not_not] at c91
        have c91 := (out_y (a := 0) (b := 5) (by decide) (by decide)).mp c91
        have e7 := cm_n (cs_none (k := k) (w := 1) hk (by decide) (fun z => c91 z.1)) he1
        refine v_iinc (pc := 151) dX3_pulledHeight_151 rfl (nI_1 1) rfl (by decide) ?_
        refine v_goto (pc := 154) (tgt := 22) dX3_pulledHeight_154 (by decide) ?_
        refine v_forget 8 ?_
        refine v_forget 9 ?_
        refine v_forget 10 ?_
        exact ih (1 + 1) _ _ _ G (by omega) e7 hG
      · rw [b2i_0] at c91
        have c91 := (out_n (a := 0) (b := 5) (by decide) (by decide)).mp c91
        refine v_iload (pc := 94) dX3_pulledHeight_94 rfl ?_
        refine v_i2l (pc := 96) dX3_pulledHeight_96 ?_
        refine v_lconst (pc := 97) (v := 0) dX3_pulledHeight_97 (by decide) ?_
        refine v_ldcL (pc := 98) dX3_pulledHeight_98 k_X3_30 ?_
        refine v_callSN3 (pc := 101) (0, 0) dX3_pulledHeight_101 cn_X3_32 cm_yX8_isOutside.1 cm_yX8_isOutside.2.1 cm_yX8_isOutside.2.2 sm_yX8_isOutside (c_X8_isOutside D _ _ _ _ ) (Nat.le_of_ble_eq_true rfl) ⟨Nat.le_of_ble_eq_true rfl, Nat.le_of_ble_eq_true rfl⟩ ⟨by decide, by decide⟩ rfl (fun v G1 hp => ?_)
        obtain ⟨hv1, hs1⟩ := hp
        subst hv1
        subst G1
        refine v_if_ne (pc := 104) (tgt := 151) dX3_pulledHeight_104 (by decide) (fun c104 => ?_) (fun c104 => ?_)
        · rw [b2i_0, Decidable.not_not] at c104
          have c104 := (out_y (a := 0) (b := 5) (by decide) (by decide)).mp c104
          have e7 := cm_n (cs_none (k := k) (w := 1) hk (by decide) (fun z => c104 z.2)) he1
          refine v_iinc (pc := 151) dX3_pulledHeight_151 rfl (nI_1 1) rfl (by decide) ?_
          refine v_goto (pc := 154) (tgt := 22) dX3_pulledHeight_154 (by decide) ?_
          refine v_forget 8 ?_
          refine v_forget 9 ?_
          refine v_forget 10 ?_
          exact ih (1 + 1) _ _ _ G (by omega) e7 hG
        · rw [b2i_0] at c104
          have c104 := (out_n (a := 0) (b := 5) (by decide) (by decide)).mp c104
          obtain ⟨q, hnb, hq, e6⟩ := cs_some (k := k) (w := 1) hk (by decide) c91 c104
          refine v_aload_n (pc := 107) dX3_pulledHeight_107 rfl rfl ?_
          refine vc_getR (pc := 108) (f := 1) hG dX3_pulledHeight_108 fl_X3_13 rfl (hG.2.2.1 6 (by decide)) rfl (by decide) (rvL_6_1 _ _ _) (fun hL108 => ?_)
          refine v_iload (pc := 111) dX3_pulledHeight_111 rfl ?_
          refine v_bipush (pc := 113) (v := 6) dX3_pulledHeight_113 (by decide) ?_
          refine v_imul (pc := 115) dX3_pulledHeight_115 ?_
          refine v_iload (pc := 116) dX3_pulledHeight_116 rfl ?_
          refine v_iadd (pc := 118) dX3_pulledHeight_118 ?_
          refine vc_iald (pc := 119) (j := q) hG dX3_pulledHeight_119 (hG.2.2.1 8 (by decide)) rfl e6 (by show _ < 36; omega) (ivL_8_a _ _) ?_
          refine v_istore (pc := 120) dX3_pulledHeight_120 rfl (by decide) ?_
          refine v_iload (pc := 122) dX3_pulledHeight_122 rfl ?_
          refine v_if_ne (pc := 124) (tgt := 132) dX3_pulledHeight_124 (by decide) (fun c124 => ?_) (fun c124 => ?_)
          · have e7 := cm_1 hnb he1 (rfl : (hdS s).1 15 q = s.1 46 q) c124
            refine v_iload (pc := 132) dX3_pulledHeight_132 rfl ?_
            refine v_iload (pc := 134) dX3_pulledHeight_134 rfl ?_
            refine v_imax (pc := 136) dX3_pulledHeight_136 ml_X3_38 mc_imax.1 mc_imax.2.1 mc_imax.2.2 (by decide) (Nat.le_of_ble_eq_true rfl) (by decide) ⟨by decide, by decide⟩ ?_
            refine v_istore (pc := 139) dX3_pulledHeight_139 rfl (by decide) ?_
            refine v_iload (pc := 141) dX3_pulledHeight_141 rfl ?_
            refine v_iload (pc := 143) dX3_pulledHeight_143 rfl ?_
            refine v_iadd (pc := 145) dX3_pulledHeight_145 ?_
            refine v_istore (pc := 146) dX3_pulledHeight_146 rfl (by decide) ?_
            refine v_iinc (pc := 148) dX3_pulledHeight_148 rfl rfl rfl (by decide) ?_
            refine v_iinc (pc := 151) dX3_pulledHeight_151 rfl (nI_1 1) rfl (by decide) ?_
            refine v_goto (pc := 154) (tgt := 22) dX3_pulledHeight_154 (by decide) ?_
            refine v_forget 8 ?_
            refine v_forget 9 ?_
            refine v_forget 10 ?_
            exact ih (1 + 1) _ _ _ G (by omega) e7 hG
          · have e7 := cm_0 hnb he1 (rfl : (hdS s).1 15 q = s.1 46 q) c124
            refine v_iload (pc := 127) dX3_pulledHeight_127 rfl ?_
            refine v_goto (pc := 129) (tgt := 139) dX3_pulledHeight_129 (by decide) ?_
            refine v_istore (pc := 139) dX3_pulledHeight_139 rfl (by decide) ?_
            refine v_iload (pc := 141) dX3_pulledHeight_141 rfl ?_
            refine v_iload (pc := 143) dX3_pulledHeight_143 rfl ?_
            refine v_iadd (pc := 145) dX3_pulledHeight_145 ?_
            refine v_istore (pc := 146) dX3_pulledHeight_146 rfl (by decide) ?_
            refine v_iinc (pc := 148) dX3_pulledHeight_148 rfl rfl rfl (by decide) ?_
            refine v_iinc (pc := 151) dX3_pulledHeight_151 rfl (nI_1 1) rfl (by decide) ?_
            refine v_goto (pc := 154) (tgt := 22) dX3_pulledHeight_154 (by decide) ?_
            refine v_forget 8 ?_
            refine v_forget 9 ?_
            refine v_forget 10 ?_
            exact ih (1 + 1) _ _ _ G (by omega) e7 hG
    · refine v_iload (pc := 28) dX3_pulledHeight_28 rfl ?_
      refine v_if_ne (pc := 30) (tgt := 39) dX3_pulledHeight_30 (by decide) (fun c30 => ?_) (fun c30 => absurd c30 (by decide))
      refine v_iload (pc := 39) dX3_pulledHeight_39 rfl ?_
      refine v_iconst (pc := 41) (v := 1) dX3_pulledHeight_41 (by decide) ?_
      refine v_icmp_ne (pc := 42) (tgt := 51) dX3_pulledHeight_42 (by decide) (fun c42 => ?_) (fun c42 => absurd c42 (by decide))
      refine v_iload_n (pc := 51) dX3_pulledHeight_51 rfl rfl ?_
      refine v_istore (pc := 52) dX3_pulledHeight_52 rfl (by decide) ?_
      refine v_iload (pc := 54) dX3_pulledHeight_54 rfl ?_
      refine v_iconst (pc := 56) (v := 2) dX3_pulledHeight_56 (by decide) ?_
      refine v_icmp_ne (pc := 57) (tgt := 66) dX3_pulledHeight_57 (by decide) (fun c57 => absurd c57 (by decide)) (fun c57 => ?_)
      refine v_iload_n (pc := 60) dX3_pulledHeight_60 rfl rfl ?_
      refine v_iconst (pc := 61) (v := 1) dX3_pulledHeight_61 (by decide) ?_
      refine v_isub (pc := 62) dX3_pulledHeight_62 ?_
      refine v_goto (pc := 63) (tgt := 79) dX3_pulledHeight_63 (by decide) ?_
      refine v_istore (pc := 79) dX3_pulledHeight_79 rfl (by decide) ?_
      refine v_iload (pc := 81) dX3_pulledHeight_81 rfl ?_
      refine v_i2l (pc := 83) dX3_pulledHeight_83 ?_
      refine v_lconst (pc := 84) (v := 0) dX3_pulledHeight_84 (by decide) ?_
      refine v_ldcL (pc := 85) dX3_pulledHeight_85 k_X3_30 ?_
      refine v_callSN3 (pc := 88) (0, 0) dX3_pulledHeight_88 cn_X3_32 cm_yX8_isOutside.1 cm_yX8_isOutside.2.1 cm_yX8_isOutside.2.2 sm_yX8_isOutside (c_X8_isOutside D _ _ _ _ ) (Nat.le_of_ble_eq_true rfl) ⟨Nat.le_of_ble_eq_true rfl, Nat.le_of_ble_eq_true rfl⟩ ⟨by decide, by decide⟩ rfl (fun v G1 hp => ?_)
      obtain ⟨hv1, hs1⟩ := hp
      subst hv1
      subst G1
      refine v_if_ne (pc := 91) (tgt := 151) dX3_pulledHeight_91 (by decide) (fun c91 => ?_) (fun c91 => ?_)
      · rw [b2i_0, Decidable.not_not] at c91
        have c91 := (out_y (a := 0) (b := 5) (by decide) (by decide)).mp c91
        have e7 := cm_n (cs_none (k := k) (w := 2) hk (by decide) (fun z => c91 z.1)) he1
        refine v_iinc (pc := 151) dX3_pulledHeight_151 rfl (nI_1 2) rfl (by decide) ?_
        refine v_goto (pc := 154) (tgt := 22) dX3_pulledHeight_154 (by decide) ?_
        refine v_forget 8 ?_
        refine v_forget 9 ?_
        refine v_forget 10 ?_
        exact ih (2 + 1) _ _ _ G (by omega) e7 hG
      · rw [b2i_0] at c91
        have c91 := (out_n (a := 0) (b := 5) (by decide) (by decide)).mp c91
        refine v_iload (pc := 94) dX3_pulledHeight_94 rfl ?_
        refine v_i2l (pc := 96) dX3_pulledHeight_96 ?_
        refine v_lconst (pc := 97) (v := 0) dX3_pulledHeight_97 (by decide) ?_
        refine v_ldcL (pc := 98) dX3_pulledHeight_98 k_X3_30 ?_
        refine v_callSN3 (pc := 101) (0, 0) dX3_pulledHeight_101 cn_X3_32 cm_yX8_isOutside.1 cm_yX8_isOutside.2.1 cm_yX8_isOutside.2.2 sm_yX8_isOutside (c_X8_isOutside D _ _ _ _ ) (Nat.le_of_ble_eq_true rfl) ⟨Nat.le_of_ble_eq_true rfl, Nat.le_of_ble_eq_true rfl⟩ ⟨by decide, by decide⟩ rfl (fun v G1 hp => ?_)
        obtain ⟨hv1, hs1⟩ := hp
        subst hv1
        subst G1
        refine v_if_ne (pc := 104) (tgt := 151) dX3_pulledHeight_104 (by decide) (fun c104 => ?_) (fun c104 => ?_)
        · rw [b2i_0, Decidable.not_not] at c104
          have c104 := (out_y (a := 0) (b := 5) (by decide) (by decide)).mp c104
          have e7 := cm_n (cs_none (k := k) (w := 2) hk (by decide) (fun z => c104 z.2)) he1
          refine v_iinc (pc := 151) dX3_pulledHeight_151 rfl (nI_1 2) rfl (by decide) ?_
          refine v_goto (pc := 154) (tgt := 22) dX3_pulledHeight_154 (by decide) ?_
          refine v_forget 8 ?_
          refine v_forget 9 ?_
          refine v_forget 10 ?_
          exact ih (2 + 1) _ _ _ G (by omega) e7 hG
        · rw [b2i_0] at c104
          have c104 := (out_n (a := 0) (b := 5) (by decide) (by decide)).mp c104
          obtain ⟨q, hnb, hq, e6⟩ := cs_some (k := k) (w := 2) hk (by decide) c91 c104
          refine v_aload_n (pc := 107) dX3_pulledHeight_107 rfl rfl ?_
          refine vc_getR (pc := 108) (f := 1) hG dX3_pulledHeight_108 fl_X3_13 rfl (hG.2.2.1 6 (by decide)) rfl (by decide) (rvL_6_1 _ _ _) (fun hL108 => ?_)
          refine v_iload (pc := 111) dX3_pulledHeight_111 rfl ?_
          refine v_bipush (pc := 113) (v := 6) dX3_pulledHeight_113 (by decide) ?_
          refine v_imul (pc := 115) dX3_pulledHeight_115 ?_
          refine v_iload (pc := 116) dX3_pulledHeight_116 rfl ?_
          refine v_iadd (pc := 118) dX3_pulledHeight_118 ?_
          refine vc_iald (pc := 119) (j := q) hG dX3_pulledHeight_119 (hG.2.2.1 8 (by decide)) rfl e6 (by show _ < 36; omega) (ivL_8_a _ _) ?_
          refine v_istore (pc := 120) dX3_pulledHeight_120 rfl (by decide) ?_
          refine v_iload (pc := 122) dX3_pulledHeight_122 rfl ?_
          refine v_if_ne (pc := 124) (tgt := 132) dX3_pulledHeight_124 (by decide) (fun c124 => ?_) (fun c124 => ?_)
          · have e7 := cm_1 hnb he1 (rfl : (hdS s).1 15 q = s.1 46 q) c124
            refine v_iload (pc := 132) dX3_pulledHeight_132 rfl ?_
            refine v_iload (pc := 134) dX3_pulledHeight_134 rfl ?_
            refine v_imax (pc := 136) dX3_pulledHeight_136 ml_X3_38 mc_imax.1 mc_imax.2.1 mc_imax.2.2 (by decide) (Nat.le_of_ble_eq_true rfl) (by decide) ⟨by decide, by decide⟩ ?_
            refine v_istore (pc := 139) dX3_pulledHeight_139 rfl (by decide) ?_
            refine v_iload (pc := 141) dX3_pulledHeight_141 rfl ?_
            refine v_iload (pc := 143) dX3_pulledHeight_143 rfl ?_
            refine v_iadd (pc := 145) dX3_pulledHeight_145 ?_
            refine v_istore (pc := 146) dX3_pulledHeight_146 rfl (by decide) ?_
            refine v_iinc (pc := 148) dX3_pulledHeight_148 rfl rfl rfl (by decide) ?_
            refine v_iinc (pc := 151) dX3_pulledHeight_151 rfl (nI_1 2) rfl (by decide) ?_
            refine v_goto (pc := 154) (tgt := 22) dX3_pulledHeight_154 (by decide) ?_
            refine v_forget 8 ?_
            refine v_forget 9 ?_
            refine v_forget 10 ?_
            exact ih (2 + 1) _ _ _ G (by omega) e7 hG
          · have e7 := cm_0 hnb he1 (rfl : (hdS s).1 15 q = s.1 46 q) c124
            refine v_iload (pc := 127) dX3_pulledHeight_127 rfl ?_
            refine v_goto (pc := 129) (tgt := 139) dX3_pulledHeight_129 (by decide) ?_
            refine v_istore (pc := 139) dX3_pulledHeight_139 rfl (by decide) ?_
            refine v_iload (pc := 141) dX3_pulledHeight_141 rfl ?_
            refine v_iload (pc := 143) dX3_pulledHeight_143 rfl ?_
            refine v_iadd (pc := 145) dX3_pulledHeight_145 ?_
            refine v_istore (pc := 146) dX3_pulledHeight_146 rfl (by decide) ?_
            refine v_iinc (pc := 148) dX3_pulledHeight_148 rfl rfl rfl (by decide) ?_
            refine v_iinc (pc := 151) dX3_pulledHeight_151 rfl (nI_1 2) rfl (by decide) ?_
            refine v_goto (pc := 154) (tgt := 22) dX3_pulledHeight_154 (by decide) ?_
            refine v_forget 8 ?_
            refine v_forget 9 ?_
            refine v_forget 10 ?_
            exact ih (2 + 1) _ _ _ G (by omega) e7 hG
    · refine v_iload (pc := 28) dX3_pulledHeight_28 rfl ?_
      refine v_if_ne (pc := 30) (tgt := 39) dX3_pulledHeight_30 (by decide) (fun c30 => ?_) (fun c30 => absurd c30 (by decide))
      refine v_iload (pc := 39) dX3_pulledHeight_39 rfl ?_
      refine v_iconst (pc := 41) (v := 1) dX3_pulledHeight_41 (by decide) ?_
      refine v_icmp_ne (pc := 42) (tgt := 51) dX3_pulledHeight_42 (by decide) (fun c42 => ?_) (fun c42 => absurd c42 (by decide))
      refine v_iload_n (pc := 51) dX3_pulledHeight_51 rfl rfl ?_
      refine v_istore (pc := 52) dX3_pulledHeight_52 rfl (by decide) ?_
      refine v_iload (pc := 54) dX3_pulledHeight_54 rfl ?_
      refine v_iconst (pc := 56) (v := 2) dX3_pulledHeight_56 (by decide) ?_
      refine v_icmp_ne (pc := 57) (tgt := 66) dX3_pulledHeight_57 (by decide) (fun c57 => ?_) (fun c57 => absurd c57 (by decide))
      refine v_iload (pc := 66) dX3_pulledHeight_66 rfl ?_
      refine v_iconst (pc := 68) (v := 3) dX3_pulledHeight_68 (by decide) ?_
      refine v_icmp_ne (pc := 69) (tgt := 78) dX3_pulledHeight_69 (by decide) (fun c69 => absurd c69 (by decide)) (fun c69 => ?_)
      refine v_iload_n (pc := 72) dX3_pulledHeight_72 rfl rfl ?_
      refine v_iconst (pc := 73) (v := 1) dX3_pulledHeight_73 (by decide) ?_
      refine v_iadd (pc := 74) dX3_pulledHeight_74 ?_
      refine v_goto (pc := 75) (tgt := 79) dX3_pulledHeight_75 (by decide) ?_
      refine v_istore (pc := 79) dX3_pulledHeight_79 rfl (by decide) ?_
      refine v_iload (pc := 81) dX3_pulledHeight_81 rfl ?_
      refine v_i2l (pc := 83) dX3_pulledHeight_83 ?_
      refine v_lconst (pc := 84) (v := 0) dX3_pulledHeight_84 (by decide) ?_
      refine v_ldcL (pc := 85) dX3_pulledHeight_85 k_X3_30 ?_
      refine v_callSN3 (pc := 88) (0, 0) dX3_pulledHeight_88 cn_X3_32 cm_yX8_isOutside.1 cm_yX8_isOutside.2.1 cm_yX8_isOutside.2.2 sm_yX8_isOutside (c_X8_isOutside D _ _ _ _ ) (Nat.le_of_ble_eq_true rfl) ⟨Nat.le_of_ble_eq_true rfl, Nat.le_of_ble_eq_true rfl⟩ ⟨by decide, by decide⟩ rfl (fun v G1 hp => ?_)
      obtain ⟨hv1, hs1⟩ := hp
      subst hv1
      subst G1
      refine v_if_ne (pc := 91) (tgt := 151) dX3_pulledHeight_91 (by decide) (fun c91 => ?_) (fun c91 => ?_)
      · rw [b2i_0, Decidable.not_not] at c91
        have c91 := (out_y (a := 0) (b := 5) (by decide) (by decide)).mp c91
        have e7 := cm_n (cs_none (k := k) (w := 3) hk (by decide) (fun z => c91 z.1)) he1
        refine v_iinc (pc := 151) dX3_pulledHeight_151 rfl (nI_1 3) rfl (by decide) ?_
        refine v_goto (pc := 154) (tgt := 22) dX3_pulledHeight_154 (by decide) ?_
        refine v_forget 8 ?_
        refine v_forget 9 ?_
        refine v_forget 10 ?_
        exact ih (3 + 1) _ _ _ G (by omega) e7 hG
      · rw [b2i_0] at c91
        have c91 := (out_n (a := 0) (b := 5) (by decide) (by decide)).mp c91
        refine v_iload (pc := 94) dX3_pulledHeight_94 rfl ?_
        refine v_i2l (pc := 96) dX3_pulledHeight_96 ?_
        refine v_lconst (pc := 97) (v := 0) dX3_pulledHeight_97 (by decide) ?_
        refine v_ldcL (pc := 98) dX3_pulledHeight_98 k_X3_30 ?_
        refine v_callSN3 (pc := 101) (0, 0) dX3_pulledHeight_101 cn_X3_32 cm_yX8_isOutside.1 cm_yX8_isOutside.2.1 cm_yX8_isOutside.2.2 sm_yX8_isOutside (c_X8_isOutside D _ _ _ _ ) (Nat.le_of_ble_eq_true rfl) ⟨Nat.le_of_ble_eq_true rfl, Nat.le_of_ble_eq_true rfl⟩ ⟨by decide, by decide⟩ rfl (fun v G1 hp => ?_)
        obtain ⟨hv1, hs1⟩ := hp
        subst hv1
        subst G1
        refine v_if_ne (pc := 104) (tgt := 151) dX3_pulledHeight_104 (by decide) (fun c104 => ?_) (fun c104 => ?_)
        · rw [b2i_0, Decidable.not_not] at c104
          have c104 := (out_y (a := 0) (b := 5) (by decide) (by decide)).mp c104
          have e7 := cm_n (cs_none (k := k) (w := 3) hk (by decide) (fun z => c104 z.2)) he1
          refine v_iinc (pc := 151) dX3_pulledHeight_151 rfl (nI_1 3) rfl (by decide) ?_
          refine v_goto (pc := 154) (tgt := 22) dX3_pulledHeight_154 (by decide) ?_
          refine v_forget 8 ?_
          refine v_forget 9 ?_
          refine v_forget 10 ?_
          exact ih (3 + 1) _ _ _ G (by omega) e7 hG
        · rw [b2i_0] at c104
          have c104 := (out_n (a := 0) (b := 5) (by decide) (by decide)).mp c104
          obtain ⟨q, hnb, hq, e6⟩ := cs_some (k := k) (w := 3) hk (by decide) c91 c104
          refine v_aload_n (pc := 107) dX3_pulledHeight_107 rfl rfl ?_
          refine vc_getR (pc := 108) (f := 1) hG dX3_pulledHeight_108 fl_X3_13 rfl (hG.2.2.1 6 (by decide)) rfl (by decide) (rvL_6_1 _ _ _) (fun hL108 => ?_)
          refine v_iload (pc := 111) dX3_pulledHeight_111 rfl ?_
          refine v_bipush (pc := 113) (v := 6) dX3_pulledHeight_113 (by decide) ?_
          refine v_imul (pc := 115) dX3_pulledHeight_115 ?_
          refine v_iload (pc := 116) dX3_pulledHeight_116 rfl ?_
          refine v_iadd (pc := 118) dX3_pulledHeight_118 ?_
          refine vc_iald (pc := 119) (j := q) hG dX3_pulledHeight_119 (hG.2.2.1 8 (by decide)) rfl e6 (by show _ < 36; omega) (ivL_8_a _ _) ?_
          refine v_istore (pc := 120) dX3_pulledHeight_120 rfl (by decide) ?_
          refine v_iload (pc := 122) dX3_pulledHeight_122 rfl ?_
          refine v_if_ne (pc := 124) (tgt := 132) dX3_pulledHeight_124 (by decide) (fun c124 => ?_) (fun c124 => ?_)
          · have e7 := cm_1 hnb he1 (rfl : (hdS s).1 15 q = s.1 46 q) c124
            refine v_iload (pc := 132) dX3_pulledHeight_132 rfl ?_
            refine v_iload (pc := 134) dX3_pulledHeight_134 rfl ?_
            refine v_imax (pc := 136) dX3_pulledHeight_136 ml_X3_38 mc_imax.1 mc_imax.2.1 mc_imax.2.2 (by decide) (Nat.le_of_ble_eq_true rfl) (by decide) ⟨by decide, by decide⟩ ?_
            refine v_istore (pc := 139) dX3_pulledHeight_139 rfl (by decide) ?_
            refine v_iload (pc := 141) dX3_pulledHeight_141 rfl ?_
            refine v_iload (pc := 143) dX3_pulledHeight_143 rfl ?_
            refine v_iadd (pc := 145) dX3_pulledHeight_145 ?_
            refine v_istore (pc := 146) dX3_pulledHeight_146 rfl (by decide) ?_
            refine v_iinc (pc := 148) dX3_pulledHeight_148 rfl rfl rfl (by decide) ?_
            refine v_iinc (pc := 151) dX3_pulledHeight_151 rfl (nI_1 3) rfl (by decide) ?_
            refine v_goto (pc := 154) (tgt := 22) dX3_pulledHeight_154 (by decide) ?_
            refine v_forget 8 ?_
            refine v_forget 9 ?_
            refine v_forget 10 ?_
            exact ih (3 + 1) _ _ _ G (by omega) e7 hG
          · have e7 := cm_0 hnb he1 (rfl : (hdS s).1 15 q = s.1 46 q) c124
            refine v_iload (pc := 127) dX3_pulledHeight_127 rfl ?_
            refine v_goto (pc := 129) (tgt := 139) dX3_pulledHeight_129 (by decide) ?_
            refine v_istore (pc := 139) dX3_pulledHeight_139 rfl (by decide) ?_
            refine v_iload (pc := 141) dX3_pulledHeight_141 rfl ?_
            refine v_iload (pc := 143) dX3_pulledHeight_143 rfl ?_
            refine v_iadd (pc := 145) dX3_pulledHeight_145 ?_
            refine v_istore (pc := 146) dX3_pulledHeight_146 rfl (by decide) ?_
            refine v_iinc (pc := 148) dX3_pulledHeight_148 rfl rfl rfl (by decide) ?_
            refine v_iinc (pc := 151) dX3_pulledHeight_151 rfl (nI_1 3) rfl (by decide) ?_
            refine v_goto (pc := 154) (tgt := 22) dX3_pulledHeight_154 (by decide) ?_
            refine v_forget 8 ?_
            refine v_forget 9 ?_
            refine v_forget 10 ?_
            exact ih (3 + 1) _ _ _ G (by omega) e7 hG
set_option maxRecDepth 100000 in
set_option maxHeartbeats 400000 in
theorem c_X3_pulledHeight (D : DT) (X : XT) (s : SG) (k : Nat)  (hk : k < 36) : CC yX3_pulledHeight cX3_pulledHeight 11 (Option.some Jvm.ClassFile.FieldType.int) rm_X3_pulledHeight D [.ref (X.1 6 0), .int (nI k)] X s (fun v s' => v = some (.int (cmS (hdS s) k)) ∧ s' = s) := by
  intro G hG
  refine MC_of (by decide +kernel) (Nat.le_of_ble_eq_true rfl) (fun K sz hR => ?_)
  show V cX3_pulledHeight _ 11 _ D K 0 [some (.ref (X.1 6 0)), some (.int (nI k)), none, none, none, none, none, none, none, none, none] [] G (0, 0)
  refine v_iload_n (pc := 0) dX3_pulledHeight_0 rfl rfl ?_
  refine v_bipush (pc := 1) (v := 6) dX3_pulledHeight_1 (by decide) ?_
  refine v_idiv (pc := 3) dX3_pulledHeight_3 (by decide) ?_
  refine v_istore_n (pc := 4) dX3_pulledHeight_4 rfl rfl (by decide) ?_
  refine v_iload_n (pc := 5) dX3_pulledHeight_5 rfl rfl ?_
  refine v_bipush (pc := 6) (v := 6) dX3_pulledHeight_6 (by decide) ?_
  refine v_irem (pc := 8) dX3_pulledHeight_8 (by decide) ?_
  refine v_istore_n (pc := 9) dX3_pulledHeight_9 rfl rfl (by decide) ?_
  refine v_iconst (pc := 10) (v := 0) dX3_pulledHeight_10 (by decide) ?_
  refine v_istore (pc := 11) dX3_pulledHeight_11 rfl (by decide) ?_
  refine v_iconst (pc := 13) (v := 0) dX3_pulledHeight_13 (by decide) ?_
  refine v_istore (pc := 14) dX3_pulledHeight_14 rfl (by decide) ?_
  refine v_iconst (pc := 16) (v := 0) dX3_pulledHeight_16 (by decide) ?_
  refine v_istore (pc := 17) dX3_pulledHeight_17 rfl (by decide) ?_
  refine v_iconst (pc := 19) (v := 0) dX3_pulledHeight_19 (by decide) ?_
  refine v_istore (pc := 20) dX3_pulledHeight_20 rfl (by decide) ?_
  refine l_X3_pulled (s := s) k hk (fun x2 x3 x4 G he hG => ?_) 4 0 0 0 0 G (by omega) rfl hG
  have hx3 : x3 = nI (cmN k 4) := by rw [← cmF_n (hdS s) k 4, he]
  have hne : ¬ nI (cmN k 4) = 0 := cmN_4 k hk
  subst hx3
  refine v_iload (pc := 157) dX3_pulledHeight_157 rfl ?_
  refine v_if_ne (pc := 159) (tgt := 171) dX3_pulledHeight_159 (by decide) (fun c159 => ?_) (fun c159 => absurd c159 hne)
  refine v_iload (pc := 171) dX3_pulledHeight_171 rfl ?_
  refine v_iload (pc := 173) dX3_pulledHeight_173 rfl ?_
  refine v_callS2 (pc := 175) (0, 0) dX3_pulledHeight_175 cw_X3_44 sm_yJ9_floorDiv_7cf53 (c_J9_floorDiv_7cf53 D _ (cmN k 4) _ (by have := cmN_le k hk; omega) hne) (Nat.le_of_ble_eq_true rfl) ⟨Nat.le_of_ble_eq_true rfl, Nat.le_of_ble_eq_true rfl⟩ ⟨by decide, by decide⟩ rfl (fun v G1 hp => ?_)
  obtain ⟨hv1, hs1⟩ := hp
  subst hv1
  subst G1
  refine v_aload_n (pc := 178) dX3_pulledHeight_178 rfl rfl ?_
  refine vc_getI (pc := 179) (f := 3) hG dX3_pulledHeight_179 fl_X3_47 (Or.inl rfl) (hG.2.2.1 6 (by decide)) rfl (by decide) (ivL_6_3 _ _) ?_
  refine v_isub (pc := 182) dX3_pulledHeight_182 ?_
  refine v_iload (pc := 183) dX3_pulledHeight_183 rfl ?_
  refine v_imin (pc := 185) dX3_pulledHeight_185 ml_X3_51 mc_imin.1 mc_imin.2.1 mc_imin.2.2 (by decide) (Nat.le_of_ble_eq_true rfl) (by decide) ⟨by decide, by decide⟩ ?_
  refine v_iret (pc := 188) hR dX3_pulledHeight_188 ⟨by decide, by decide⟩ ?_
  refine ⟨_, hG, ?_, rfl⟩
  rw [cmS, he]
  show some (Value.int (if x4 < mean x2 (nI (cmN k 4)) - s.1 18 0 then x4 else mean x2 (nI (cmN k 4)) - s.1 18 0)) = some (Value.int (if mean x2 (nI (cmN k 4)) - s.1 18 0 ≤ x4 then mean x2 (nI (cmN k 4)) - s.1 18 0 else x4))
  by_cases c9 : x4 < mean x2 (nI (cmN k 4)) - s.1 18 0
  · rw [if_pos c9, if_neg (n_nle.mpr c9)]
  · rw [if_neg c9, if_pos (n_nlt.mp c9)]
def cpS (s : SG) : SG := (fun k j => if k = 46 then s.1 15 j else s.1 k j, s.2)
theorem iv_cp (s : SG) {c i f : Nat} (h : ¬ (c = 8 ∧ i = 0)) : iv (cpS s) c i f = iv s c i f := by
  unfold iv
  split
  all_goals first
    | rfl
    | (split <;> rfl)
    | (split
       · exact absurd ⟨rfl, by assumption⟩ h
       · rfl)
theorem LF.copy {X : XT} {s : SG} {T N : Nat → Nat} {I : Nat → Nat → Int32} {J : Nat → Nat → Int64} {E : Nat → Nat → UInt64} {Rf : Nat → Nat → Option Nat} (h : LF X s (T, N, I, J, E, Rf)) : LF X (cpS s) (T, N, (fun b j => if b = X.1 8 0 ∧ j < 36 then I (X.1 7 0) j else I b j), J, E, Rf) := by
  refine ⟨fun c' i' h' => ⟨(h.1 c' i' h').1, fun f' hf' => ?_⟩, h.2.1, h.2.2.1, fun p hp => ⟨(h.2.2.2 p hp).1, (h.2.2.2 p hp).2.1, ?_⟩⟩
  · obtain ⟨h1, h2, h3, h4⟩ := (h.1 c' i' h').2 f' hf'
    refine ⟨?_, h2, h3, h4⟩
    show (if X.1 c' i' = X.1 8 0 ∧ f' < 36 then I (X.1 7 0) f' else I (X.1 c' i') f') = _
    by_cases e : c' = 8 ∧ i' = 0
    · obtain ⟨rfl, rfl⟩ := e
      have hf : f' < 36 := hf'
      rw [if_pos ⟨rfl, hf⟩]
      exact ((h.1 7 0 (h.2.2.1 7 (by decide))).2 f' hf).1
    · rw [iv_cp s e, if_neg (fun z => e (h.2.1 c' i' 8 0 h' (h.2.2.1 8 (by decide)) z.1))]
      exact h1
  · obtain ⟨g1, g2, g3, g4, g5, g6⟩ := (h.2.2.2 p hp).2.2
    refine ⟨g1, g2, ?_, g4, g5, g6⟩
    refine Eq.trans (funext fun j => ?_) g3
    show (if p = X.1 8 0 ∧ j < 36 then _ else I p j) = I p j
    rw [if_neg (fun z => (h.2.2.2 p hp).1 8 0 (h.2.2.1 8 (by decide)) z.1)]
/-- the class' state in a step of the net: behind i knots -/
def stC (s : SG) (i : Nat) : SG := (fun k j => if k = 46 then s.1 15 j else if k = 15 ∧ j < i then nxS s j else s.1 k j, s.2)
theorem stC_0 (s : SG) : stC s 0 = cpS s := by
  refine Prod.ext (funext fun k => funext fun j => ?_) rfl
  simp [stC, cpS]
theorem stC_s (s : SG) (i : Nat) : sI (stC s i) 15 i (nxS s i) = stC s (i + 1) := by
  refine Prod.ext (funext fun k => funext fun j => ?_) rfl
  show (if k = 15 ∧ j = i then nxS s i else if k = 46 then s.1 15 j else if k = 15 ∧ j < i then nxS s j else s.1 k j) = if k = 46 then s.1 15 j else if k = 15 ∧ j < i + 1 then nxS s j else s.1 k j
  by_cases h : k = 15 ∧ j = i
  · obtain ⟨rfl, rfl⟩ := h
    simp
  · rw [if_neg h]
    by_cases h1 : k = 46
    · simp [h1]
    · rw [if_neg h1, if_neg h1]
      by_cases h2 : k = 15 ∧ j < i
      · rw [if_pos h2, if_pos ⟨h2.1, by omega⟩]
      · rw [if_neg h2, if_neg (fun z => by
          rcases (show j < i ∨ j = i by omega) with q | q
          · exact h2 ⟨z.1, q⟩
          · exact h ⟨z.1, q⟩)]
theorem stC_n (s : SG) (i : Nat) (c : ¬ s.1 17 i = 0) : stC s i = stC s (i + 1) := by
  rw [← stC_s]
  refine Prod.ext (funext fun k => funext fun j => ?_) rfl
  show (stC s i).1 k j = if k = 15 ∧ j = i then nxS s i else (stC s i).1 k j
  by_cases h : k = 15 ∧ j = i
  · obtain ⟨rfl, rfl⟩ := h
    rw [if_pos ⟨rfl, rfl⟩, nxS, if_neg c]
    simp [stC]
  · rw [if_neg h]
theorem mv_n {s : SG} {i : Nat} (h : nxS s i = s.1 15 i) : mvF s (i + 1) = mvF s i := by rw [mvF, h]; simp
theorem mv_y {s : SG} {i : Nat} (h : ¬ nxS s i = s.1 15 i) : mvF s (i + 1) = true := by rw [mvF]; simp [h]
theorem mv_t {s : SG} {i : Nat} (h : mvF s i = true) : mvF s (i + 1) = true := by rw [mvF, h]; rfl
set_option maxRecDepth 100000 in
set_option maxHeartbeats 400000 in
theorem l_X3_stepMoves {D : DT} {K : KT} {X : XT} {s : SG}  (kk : ∀ (G : GT), LF X (stC s 36) G → V cX3_stepMoves yX3_stepMoves.cls 3 rm_X3_stepMoves D K 76 [some (.ref (X.1 6 0)), some (.int (b01 (mvF s 36))), some (.int (nI 36))] [] G (0, 0)) : ∀ (d i : Nat)  (G : GT), i + d = 36 → LF X (stC s i) G → V cX3_stepMoves yX3_stepMoves.cls 3 rm_X3_stepMoves D K 19 [some (.ref (X.1 6 0)), some (.int (b01 (mvF s i))), some (.int (nI i))] [] G (0, 0) := by
  intro d
  induction d with
  | zero =>
    intro i  G he0 he1 
    refine v_iload_n (pc := 19) dX3_stepMoves_19 rfl rfl ?_
    refine v_bipush (pc := 20) (v := 36) dX3_stepMoves_20 (by decide) ?_
    refine v_icmp_ge (pc := 22) (tgt := 76) dX3_stepMoves_22 (by decide) (fun c22 => ?_) (fun c22 => absurd c22 (not_not_intro (by rw [show i = 36 by omega]; decide)))
    have e : i = 36 := by omega
    subst e
    exact kk G he1
  | succ d ih =>
    intro i  G he0 he1 
    have hG := he1
    refine v_iload_n (pc := 19) dX3_stepMoves_19 rfl rfl ?_
    refine v_bipush (pc := 20) (v := 36) dX3_stepMoves_20 (by decide) ?_
    refine v_icmp_ge (pc := 22) (tgt := 76) dX3_stepMoves_22 (by decide) (fun c22 => absurd c22 (nI_ge (b := 36) (by omega) (by decide))) (fun c22 => ?_)
    refine v_aload_n (pc := 25) dX3_stepMoves_25 rfl rfl ?_
    refine vc_getR (pc := 26) (f := 2) hG dX3_stepMoves_26 fl_X3_16 rfl (hG.2.2.1 6 (by decide)) rfl (by decide) (rvL_6_2 _ _ _) (fun hL26 => ?_)
    refine v_iload_n (pc := 29) dX3_stepMoves_29 rfl rfl ?_
    refine vc_zald (pc := 30) (j := i) hG dX3_stepMoves_30 (hG.2.2.1 9 (by decide)) rfl rfl (by show _ < 36; omega) (show iv (stC s i) 9 0 i = s.1 17 i by rw [ivL_9_a]; simp [stC]) ?_
    refine v_if_ne (pc := 31) (tgt := 70) dX3_stepMoves_31 (by decide) (fun c31 => ?_) (fun c31 => ?_)
    · have e9 : b01 (mvF s i) = b01 (mvF s (i + 1)) := by rw [mv_n (by rw [nxS, if_neg c31])]
      have hG := (stC_n s i c31) ▸ hG
      refine v_iinc (pc := 70) dX3_stepMoves_70 rfl (nI_1 i) rfl (by decide) ?_
      refine v_goto (pc := 73) (tgt := 19) dX3_stepMoves_73 (by decide) ?_
      rw [e9]
      exact ih (i + 1) G (by omega) hG
    · refine v_aload_n (pc := 34) dX3_stepMoves_34 rfl rfl ?_
      refine vc_getR (pc := 35) (f := 0) hG dX3_stepMoves_35 fl_X3_9 rfl (hG.2.2.1 6 (by decide)) rfl (by decide) (rvL_6_0 _ _ _) (fun hL35 => ?_)
      refine v_iload_n (pc := 38) dX3_stepMoves_38 rfl rfl ?_
      refine v_aload_n (pc := 39) dX3_stepMoves_39 rfl rfl ?_
      refine v_iload_n (pc := 40) dX3_stepMoves_40 rfl rfl ?_
      refine vc_callV1 (pc := 41) (0, 0) hG dX3_stepMoves_41 cw_X3_26 im_yX3_pulledHeight se_yX3_pulledHeight (c_X3_pulledHeight D X _ i (by omega)) (hG.2.2.1 6 (by decide)) rfl rfl (Nat.le_of_ble_eq_true rfl) ⟨Nat.le_of_ble_eq_true rfl, Nat.le_of_ble_eq_true rfl⟩ ⟨by decide, by decide⟩ rfl (fun v s1 G hp hG => ?_)
      obtain ⟨hv1, hs1⟩ := hp
      subst hv1
      subst s1
      have hn9 : cmS (hdS (stC s i)) i = nxS s i := by rw [nxS, if_pos c31]; exact cmS_eq (s := s) (s' := hdS (stC s i)) (funext fun j => by simp [hdS, stC]) (by simp [hdS, stC]) i
      rw [hn9]
      refine vc_iast (pc := 44) (j := i) hG dX3_stepMoves_44 (hG.2.2.1 7 (by decide)) rfl rfl (by show _ < 36; omega) (uI_7_a _ _ _) (fun G hG => ?_)
      refine v_iload_n (pc := 45) dX3_stepMoves_45 rfl rfl ?_
      refine v_if_ne (pc := 46) (tgt := 64) dX3_stepMoves_46 (by decide) (fun c46 => ?_) (fun c46 => ?_)
      · have e9 : (1 : Int32) = b01 (mvF s (i + 1)) := by rw [mv_t (b01_n0 c46)]; rfl
        rw [stC_s] at hG
        refine v_iconst (pc := 64) (v := 1) dX3_stepMoves_64 (by decide) ?_
        refine v_goto (pc := 65) (tgt := 69) dX3_stepMoves_65 (by decide) ?_
        refine v_istore_n (pc := 69) dX3_stepMoves_69 rfl rfl (by decide) ?_
        refine v_iinc (pc := 70) dX3_stepMoves_70 rfl (nI_1 i) rfl (by decide) ?_
        refine v_goto (pc := 73) (tgt := 19) dX3_stepMoves_73 (by decide) ?_
        rw [e9]
        exact ih (i + 1) G (by omega) hG
      · refine v_aload_n (pc := 49) dX3_stepMoves_49 rfl rfl ?_
        refine vc_getR (pc := 50) (f := 0) hG dX3_stepMoves_50 fl_X3_9 rfl (hG.2.2.1 6 (by decide)) rfl (by decide) (rvL_6_0 _ _ _) (fun hL50 => ?_)
        refine v_iload_n (pc := 53) dX3_stepMoves_53 rfl rfl ?_
        refine vc_iald (pc := 54) (j := i) hG dX3_stepMoves_54 (hG.2.2.1 7 (by decide)) rfl rfl (by show _ < 36; omega) (show iv (sI (stC s i) 15 i (nxS s i)) 7 0 i = nxS s i by rw [ivL_7_a, sI_s]) ?_
        refine v_aload_n (pc := 55) dX3_stepMoves_55 rfl rfl ?_
        refine vc_getR (pc := 56) (f := 1) hG dX3_stepMoves_56 fl_X3_13 rfl (hG.2.2.1 6 (by decide)) rfl (by decide) (rvL_6_1 _ _ _) (fun hL56 => ?_)
        refine v_iload_n (pc := 59) dX3_stepMoves_59 rfl rfl ?_
        refine vc_iald (pc := 60) (j := i) hG dX3_stepMoves_60 (hG.2.2.1 8 (by decide)) rfl rfl (by show _ < 36; omega) (show iv (sI (stC s i) 15 i (nxS s i)) 8 0 i = s.1 15 i by rw [ivL_8_a]; simp [stC, sI, u2]) ?_
        refine v_icmp_eq (pc := 61) (tgt := 68) dX3_stepMoves_61 (by decide) (fun c61 => ?_) (fun c61 => ?_)
        · have e9 : (0 : Int32) = b01 (mvF s (i + 1)) := by rw [mv_n c61]; exact c46.symm
          rw [stC_s] at hG
          refine v_iconst (pc := 68) (v := 0) dX3_stepMoves_68 (by decide) ?_
          refine v_istore_n (pc := 69) dX3_stepMoves_69 rfl rfl (by decide) ?_
          refine v_iinc (pc := 70) dX3_stepMoves_70 rfl (nI_1 i) rfl (by decide) ?_
          refine v_goto (pc := 73) (tgt := 19) dX3_stepMoves_73 (by decide) ?_
          rw [e9]
          exact ih (i + 1) G (by omega) hG
        · have e9 : (1 : Int32) = b01 (mvF s (i + 1)) := by rw [mv_y c61]; rfl
          rw [stC_s] at hG
          refine v_iconst (pc := 64) (v := 1) dX3_stepMoves_64 (by decide) ?_
          refine v_goto (pc := 65) (tgt := 69) dX3_stepMoves_65 (by decide) ?_
          refine v_istore_n (pc := 69) dX3_stepMoves_69 rfl rfl (by decide) ?_
          refine v_iinc (pc := 70) dX3_stepMoves_70 rfl (nI_1 i) rfl (by decide) ?_
          refine v_goto (pc := 73) (tgt := 19) dX3_stepMoves_73 (by decide) ?_
          rw [e9]
          exact ih (i + 1) G (by omega) hG
set_option maxRecDepth 100000 in
set_option maxHeartbeats 400000 in
theorem c_X3_stepMoves (D : DT) (X : XT) (s : SG)    : CC yX3_stepMoves cX3_stepMoves 3 (Option.some Jvm.ClassFile.FieldType.boolean) rm_X3_stepMoves D [.ref (X.1 6 0)] X s (fun v s' => v = some (.int (b01 (mvF s 36))) ∧ s' = stC s 36) := by
  intro G hG
  refine MC_of (by decide +kernel) (Nat.le_of_ble_eq_true rfl) (fun K sz hR => ?_)
  show V cX3_stepMoves _ 3 _ D K 0 [some (.ref (X.1 6 0)), none, none] [] G (0, 0)
  refine v_aload_n (pc := 0) dX3_stepMoves_0 rfl rfl ?_
  refine vc_getR (pc := 1) (f := 0) hG dX3_stepMoves_1 fl_X3_9 rfl (hG.2.2.1 6 (by decide)) rfl (by decide) (rvL_6_0 _ _ _) (fun hL1 => ?_)
  refine v_iconst (pc := 4) (v := 0) dX3_stepMoves_4 (by decide) ?_
  refine v_aload_n (pc := 5) dX3_stepMoves_5 rfl rfl ?_
  refine vc_getR (pc := 6) (f := 1) hG dX3_stepMoves_6 fl_X3_13 rfl (hG.2.2.1 6 (by decide)) rfl (by decide) (rvL_6_1 _ _ _) (fun hL6 => ?_)
  refine v_iconst (pc := 9) (v := 0) dX3_stepMoves_9 (by decide) ?_
  refine v_bipush (pc := 10) (v := 36) dX3_stepMoves_10 (by decide) ?_
  obtain ⟨T, N, I, J, E, Rf⟩ := G
  refine v_copyi (pc := 12) (z := 36) dX3_stepMoves_12 ac_X3_20.1 ac_X3_20.2.1 ac_X3_20.2.2.1 ac_X3_20.2.2.2 (hG.1 8 0 (hG.2.2.1 8 (by decide))).1.2.1 (hG.1 7 0 (hG.2.2.1 7 (by decide))).1.2.1 (hG.1 8 0 (hG.2.2.1 8 (by decide))).1.2.2 (hG.1 7 0 (hG.2.2.1 7 (by decide))).1.2.2 (by decide) rfl (by decide) (by decide) ?_
  have hG := hG.copy
  rw [← stC_0] at hG
  refine v_iconst (pc := 15) (v := 0) dX3_stepMoves_15 (by decide) ?_
  refine v_istore_n (pc := 16) dX3_stepMoves_16 rfl rfl (by decide) ?_
  refine v_iconst (pc := 17) (v := 0) dX3_stepMoves_17 (by decide) ?_
  refine v_istore_n (pc := 18) dX3_stepMoves_18 rfl rfl (by decide) ?_
  refine l_X3_stepMoves (s := s) (fun G hG => ?_) 36 0 _ (by omega) hG
  refine v_iload_n (pc := 76) dX3_stepMoves_76 rfl rfl ?_
  refine v_zret (pc := 77) hR dX3_stepMoves_77 (b01_nar _) ⟨by decide, by decide⟩ ?_
  exact ⟨_, hG, rfl, rfl⟩
def runC : SG → Nat → SG × Nat
  | s, 0 => (s, 0)
  | s, n + 1 => if mvF s 36 = true then ((runC (stC s 36) n).1, (runC (stC s 36) n).2 + 1) else (stC s 36, 0)
set_option maxRecDepth 100000 in
set_option maxHeartbeats 400000 in
theorem l_X8_rest {D : DT} {K : KT} {X : XT} (b : Nat) (R9 : SG × Nat) (hb : b ≤ 50) (kk : ∀ (G : GT), LF X R9.1 G → V cX8_rest yX8_rest.cls 3 rm_X8_rest D K 45 [some (.ref (X.1 0 0)), some (.int (nI b)), some (.int (nI R9.2))] [] G (0, 0)) : ∀ (d i : Nat) (s : SG) (G : GT), i + d = b → R9 = ((runC s d).1, i + (runC s d).2) → LF X s G → V cX8_rest yX8_rest.cls 3 rm_X8_rest D K 24 [some (.ref (X.1 0 0)), some (.int (nI b)), some (.int (nI i))] [] G (0, 0) := by
  intro d
  induction d with
  | zero =>
    intro i s G he0 he1 hG
    refine v_iload_n (pc := 24) dX8_rest_24 rfl rfl ?_
    refine v_iload_n (pc := 25) dX8_rest_25 rfl rfl ?_
    refine v_icmp_ge (pc := 26) (tgt := 45) dX8_rest_26 (by decide) (fun c26 => ?_) (fun c26 => absurd c26 (not_not_intro (by rw [show i = b by omega]; exact Int32.le_refl _)))
    subst he1
    exact kk G hG
  | succ d ih =>
    intro i s G he0 he1 hG
    refine v_iload_n (pc := 24) dX8_rest_24 rfl rfl ?_
    refine v_iload_n (pc := 25) dX8_rest_25 rfl rfl ?_
    refine v_icmp_ge (pc := 26) (tgt := 45) dX8_rest_26 (by decide) (fun c26 => absurd c26 (nI_ge (by omega) (by omega))) (fun c26 => ?_)
    refine v_aload_n (pc := 29) dX8_rest_29 rfl rfl ?_
    refine vc_getR (pc := 30) (f := 6) hG dX8_rest_30 fl_X8_30 rfl (hG.2.2.1 0 (by decide)) rfl (by decide) (rvL_0_6 _ _ _) (fun hL30 => ?_)
    refine vc_callV0 (pc := 33) (0, 0) hG dX8_rest_33 cw_X8_212 im_yX3_stepMoves se_yX3_stepMoves (c_X3_stepMoves D X _ ) (hG.2.2.1 6 (by decide)) rfl rfl (Nat.le_of_ble_eq_true rfl) ⟨Nat.le_of_ble_eq_true rfl, Nat.le_of_ble_eq_true rfl⟩ ⟨by decide, by decide⟩ rfl (fun v s1 G hp hG => ?_)
    obtain ⟨hv1, hs1⟩ := hp
    subst hv1
    subst s1
    refine v_if_eq (pc := 36) (tgt := 45) dX8_rest_36 (by decide) (fun c36 => ?_) (fun c36 => ?_)
    · have e0 : ¬ mvF s 36 = true := fun z => by rw [z] at c36; exact absurd c36 (by decide)
      rw [runC, if_neg e0] at he1
      subst he1
      exact kk G hG
    · have e0 : mvF s 36 = true := b01_n0 c36
      refine v_iinc (pc := 39) dX8_rest_39 rfl (nI_1 i) rfl (by decide) ?_
      refine v_goto (pc := 42) (tgt := 24) dX8_rest_42 (by decide) ?_
      rw [runC, if_pos e0] at he1
      exact ih (i + 1) (stC s 36) G (by omega) (by rw [he1, Nat.add_assoc, Nat.add_comm 1]) hG
set_option maxRecDepth 100000 in
set_option maxHeartbeats 400000 in
theorem c_X8_rest (D : DT) (X : XT) (s : SG)  (p0 : Int32)  : CX yX8_rest cX8_rest 3 (Option.some Jvm.ClassFile.FieldType.int) rm_X8_rest D [.ref (X.1 0 0), .int p0] X s (fun v s' => v = some (.int (nI (runC s (nat p0)).2)) ∧ s' = (runC s (nat p0)).1 ∧ kRest p0 = 0) (fun e => e = xIA ∧ kRest p0 = 1) := by
  intro G hG
  refine MX_of (by decide +kernel) (Nat.le_of_ble_eq_true rfl) (fun K sz hR hX => ?_)
  show V cX8_rest _ 3 _ D K 0 [some (.ref (X.1 0 0)), some (.int p0), none] [] G (0, 0)
  refine v_iload_n (pc := 0) dX8_rest_0 rfl rfl ?_
  refine v_i2l (pc := 1) dX8_rest_1 ?_
  refine v_lconst (pc := 2) (v := 1) dX8_rest_2 (by decide) ?_
  refine v_ldcL (pc := 3) dX8_rest_3 k_X8_208 ?_
  refine v_callS3 (pc := 6) (0, 0) dX8_rest_6 cw_X8_62 sm_yX8_isOutside (c_X8_isOutside D _ _ _ _ ) (Nat.le_of_ble_eq_true rfl) ⟨Nat.le_of_ble_eq_true rfl, Nat.le_of_ble_eq_true rfl⟩ ⟨by decide, by decide⟩ rfl (fun v G1 hp => ?_)
  obtain ⟨hv1, hs1⟩ := hp
  subst hv1
  subst G1
  refine v_if_eq (pc := 9) (tgt := 22) dX8_rest_9 (by decide) (fun c9 => ?_) (fun c9 => ?_)
  · rw [b2i_0] at c9
    have c9 := (out_n (a := 1) (b := 50) (by decide) (by decide)).mp c9
    obtain ⟨b, hb, rfl⟩ := (btw_lit (M := 50) (N := 50) rfl).mp ⟨Int32.le_trans (by decide) c9.1, c9.2⟩
    have en : nat (nI b) = b := nat_nI (by omega)
    refine v_iconst (pc := 22) (v := 0) dX8_rest_22 (by decide) ?_
    refine v_istore_n (pc := 23) dX8_rest_23 rfl rfl (by decide) ?_
    refine l_X8_rest (D := D) (K := K) (X := X) b (runC s b) hb (fun G hG => ?_) b 0 s G (by omega) (by rw [Nat.zero_add]) hG
    refine v_iload_n (pc := 45) dX8_rest_45 rfl rfl ?_
    refine v_iret (pc := 46) hR dX8_rest_46 ⟨by decide, by decide⟩ ?_
    exact ⟨_, hG, by rw [en], by rw [en], by rw [kRest, if_pos c9]⟩
  · rw [b2i_0, Decidable.not_not] at c9
    have c9 := (out_y (a := 1) (b := 50) (by decide) (by decide)).mp c9
    refine v_throw (pc := 12) hX tw_X8_66_210_70 dX8_rest_12 dX8_rest_15 dX8_rest_16 dX8_rest_18 dX8_rest_21 (Nat.le_of_ble_eq_true rfl) ⟨by decide, by decide⟩ ⟨by decide, by decide⟩ ?_
    exact ⟨hG, rfl, by rw [kRest, if_neg c9]⟩
