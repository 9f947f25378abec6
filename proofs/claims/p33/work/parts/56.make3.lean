def pan1 (s : SG) (b : Nat) (p0 w h al : Int32) : SG := sJ (sI (sI (sI (sI (sI s 5 b p0) 6 b w) 7 b h) 8 b al) 43 b 0) 42 b 0
theorem lf_pan1 {X : XT} {s : SG} {G : GT} {b : Nat} {p0 p1 p2 p3 : Int32} (h : LF X s G) (hfr : X.2.1 14 b = false) : LF X (pan1 s b p0 p1 p2 p3) G := by
  refine h.congr ?_
  unfold pan1
  intro c i f hl hf
  refine ⟨?_, ?_, ?_⟩
  · unfold iv
    split <;> first
      | rfl
      | (have hz_ := ne_free hfr hl; split <;> first | rfl | (simp only [sI, sJ, u2]; (repeat rw [if_neg (by omega)]); done) | (simp [pctS, sI, u2, hz_]; done))
      | (have hz_ := ne_free hfr hl; simp only [sI, sJ, u2, pctS]; repeat rw [if_neg (by omega)])
  · unfold jv
    split <;> first
      | rfl
      | (have hz_ := ne_free hfr hl; split <;> first | rfl | (simp only [sI, sJ, u2]; (repeat rw [if_neg (by omega)]); done) | (simp [pctS, sI, u2, hz_]; done))
      | (have hz_ := ne_free hfr hl; simp only [sI, sJ, u2, pctS]; repeat rw [if_neg (by omega)])
  · unfold rv
    split <;> first
      | rfl
      | (have hz_ := ne_free hfr hl; split <;> first | rfl | (simp only [sI, sJ, u2]; (repeat rw [if_neg (by omega)]); done) | (simp [pctS, sI, u2, hz_]; done))
      | (have hz_ := ne_free hfr hl; simp only [sI, sJ, u2, pctS]; repeat rw [if_neg (by omega)])
theorem mk_pan {X : XT} {s : SG} {T N : Nat → Nat} {I : Nat → Nat → Int32} {J : Nat → Nat → Int64} {E : Nat → Nat → UInt64} {Rf : Nat → Nat → Option Nat} {q b l : Nat} {p1 p2 p3 : Int32} (h : LF X s (T, N, I, J, E, Rf)) (hq : T q = 0) (hfr : X.2.1 14 b = false) (hl : X.2.1 13 l = true) (hl6 : l < 6) : LF (xadd X 14 b q) (pan1 s b (nI l) p1 p2 p3) (u1 T q 5, u1 N q 0, u2 (u2 (c2 I q 0) q 1 p1) q 2 p3, c2 J q 0, c2 E q 0, u2 (c2 Rf q none) q 0 (some (X.1 13 l))) := by
  obtain ⟨h1, h2⟩ := h.nq hq
  refine (lf_pan1 (p0 := nI l) (p1 := p1) (p2 := p2) (p3 := p3) h hfr).obj (by decide) hfr h1 h2 (fun p _ hp => ⟨u1_n _ _ hp, u1_n _ _ hp, funext fun j => by simp [u2, c2, hp], funext fun j => by simp [u2, c2, hp], funext fun j => by simp [u2, c2, hp], funext fun j => by simp [u2, c2, hp]⟩) ⟨by decide, u1_s _ _ _, u1_s _ _ _⟩ (fun f hf => ?_)
  have hf8 : f < 5 := hf
  have en : nat (nI l) = l := nat_nI (by omega)
  have e5 : nat ((pan1 s b (nI l) p1 p2 p3).1 5 b) = l := by rw [show (pan1 s b (nI l) p1 p2 p3).1 5 b = nI l by simp [pan1, sI, sJ, u2]]; exact en
  refine ⟨?_, ?_, ?_, ?_⟩
  · rcases (show f = 0 ∨ f = 1 ∨ f = 2 ∨ f = 3 ∨ f = 4 by omega) with rfl | rfl | rfl | rfl | rfl <;> simp [u2, c2, iv, pan1, sI, sJ]
  · rcases (show f = 0 ∨ f = 1 ∨ f = 2 ∨ f = 3 ∨ f = 4 by omega) with rfl | rfl | rfl | rfl | rfl <;> simp [u2, c2, jv, pan1, sI, sJ]
  · rcases (show f = 0 ∨ f = 1 ∨ f = 2 ∨ f = 3 ∨ f = 4 by omega) with rfl | rfl | rfl | rfl | rfl <;> first | (show _ = Option.map _ (some (13, nat ((pan1 s b (nI l) p1 p2 p3).1 5 b))); rw [e5]; simp [u2]) | (show _ = Option.map _ none; simp [u2, c2])
  · intro o ho
    rcases (show f = 0 ∨ f = 1 ∨ f = 2 ∨ f = 3 ∨ f = 4 by omega) with rfl | rfl | rfl | rfl | rfl <;> first | (have ho : some (13, nat ((pan1 s b (nI l) p1 p2 p3).1 5 b)) = some o := ho; rw [e5] at ho; cases ho; exact hl) | (have ho : none = some o := ho; cases ho)
theorem lyS_n (s : SG) (l : Nat) (ac ln : Int32) {k j : Nat} (h : k ≠ 39 ∧ k ≠ 40 ∧ k ≠ 41) : (lyS s l ac ln).1 k j = s.1 k j := by
  unfold lyS
  split <;> simp [sI, u2, h]
theorem lyS_4 (s : SG) (l : Nat) (ac ln : Int32) : (lyS s l ac ln).1 4 0 = s.1 4 0 := lyS_n s l ac ln (by decide)
set_option maxRecDepth 100000 in
set_option maxHeartbeats 400000 in
theorem c_X8_panel (D : DT) (X : XT) (s : SG) (a b : Nat) (p0 : Int32) (p1 : Int32) (p2 : Int32) (p3 : Int32) (hn : s.1 0 0 = nI a) (ha : a ≤ 6) (hsl : ∀ f, f < 6 → X.2.2.1 1 f = decide (f < a)) (hb : s.1 4 0 = nI b) (hb2 : b ≤ 12) (hfr : X.2.1 14 b = false) (hxv : XV X) : CY yX8_panel cX8_panel 6 (Option.some Jvm.ClassFile.FieldType.int) rm_X8_panel D [.ref (X.1 0 0), .int p0, .int p1, .int p2, .int p3] X s (fun v X' s' => v = some (.int (nI b)) ∧ s' = sI (lyS (pan1 s b p0 p1 p2 p3) (nat p0) (acK p1 p2 p3) (lnK p1 p2 p3)) 4 0 (nI (b + 1)) ∧ X'.2.1 = u2 X.2.1 14 b true ∧ X'.2.2.1 = u2 X.2.2.1 2 b true ∧ kPan a b p0 p1 p2 p3 = 0) (fun e => (e = xIO ∧ kPan a b p0 p1 p2 p3 = 1) ∨ (e = xIA ∧ kPan a b p0 p1 p2 p3 = 2) ∨ (e = xIS ∧ kPan a b p0 p1 p2 p3 = 3)) := by
  intro G hG
  refine MX_of (by decide +kernel) (Nat.le_of_ble_eq_true rfl) (fun K sz hR hX => ?_)
  show V cX8_panel _ 6 _ D K 0 [some (.ref (X.1 0 0)), some (.int p0), some (.int p1), some (.int p2), some (.int p3), none] [] G (0, 0)
  refine v_aload_n (pc := 0) dX8_panel_0 rfl rfl ?_
  refine v_iload_n (pc := 1) dX8_panel_1 rfl rfl ?_
  refine vc_callV1 (pc := 2) (0, 0) hG dX8_panel_2 cw_X8_85 im_yX8_lotAt se_yX8_lotAt (c_X8_lotAt D X _ a _ hn ha hsl) (hG.2.2.1 0 (by decide)) rfl rfl (Nat.le_of_ble_eq_true rfl) ⟨Nat.le_of_ble_eq_true rfl, Nat.le_of_ble_eq_true rfl⟩ ⟨by decide, by decide⟩ rfl (fun v s1 G hp hG => ?_)
  obtain ⟨hs1, hp⟩ := hp
  subst s1
  rcases hp with ⟨c2, hv1⟩ | ⟨j, hj, hj1, hL2, hv1⟩
  · subst hv1
    refine v_astoreN (pc := 5) dX8_panel_5 rfl (by decide) ?_
    refine v_aloadN (pc := 7) dX8_panel_7 rfl ?_
    refine v_ifnonnullN (pc := 9) dX8_panel_9 ?_
    refine v_throw (pc := 12) hX tw_X8_89_91_93 dX8_panel_12 dX8_panel_15 dX8_panel_16 dX8_panel_18 dX8_panel_21 (Nat.le_of_ble_eq_true rfl) ⟨by decide, by decide⟩ ⟨by decide, by decide⟩ ?_
    exact ⟨hG, Or.inl ⟨rfl, by rw [kPan, if_neg c2]⟩⟩
  · subst hj1
    subst hv1
    have en : nat (nI j) = j := nat_nI (by omega)
    have tail : oPan p1 p2 p3 → ∀ G : GT, LF X s G → V cX8_panel yX8_panel.cls 6 rm_X8_panel D K 84 [some (.ref (X.1 0 0)), some (.int (nI j)), some (.int p1), some (.int p2), some (.int p3), some (.ref (X.1 13 j))] [] G (0, 0) := by
      intro hP G hG
      refine v_aload_n (pc := 84) dX8_panel_84 rfl rfl ?_
      refine vc_getI (pc := 85) (f := 3) hG dX8_panel_85 fl_X8_114 (Or.inl rfl) (hG.2.2.1 0 (by decide)) rfl (by decide) ((ivL_0_3 _ _).trans hb) ?_
      refine v_aload_n (pc := 88) dX8_panel_88 rfl rfl ?_
      refine vc_getR (pc := 89) (f := 2) hG dX8_panel_89 fl_X8_17 rfl (hG.2.2.1 0 (by decide)) rfl (by decide) (rvL_0_2 _ _ _) (fun hL89 => ?_)
      refine vc_alen (pc := 92) (k := 6) (x := 12) hG dX8_panel_92 (hG.2.2.1 2 (by decide)) rfl rfl rfl ?_
      refine v_icmp_lt (pc := 93) (tgt := 106) dX8_panel_93 (by decide) (fun c93 => ?_) (fun c93 => ?_)
      · have h6 : b < 12 := (nI_ltI (by omega) (by decide)).mp c93
        refine v_aload_n (pc := 106) dX8_panel_106 rfl rfl ?_
        refine vc_getR (pc := 107) (f := 2) hG dX8_panel_107 fl_X8_17 rfl (hG.2.2.1 0 (by decide)) rfl (by decide) (rvL_0_2 _ _ _) (fun hL107 => ?_)
        refine v_aload_n (pc := 110) dX8_panel_110 rfl rfl ?_
        refine vc_getI (pc := 111) (f := 3) hG dX8_panel_111 fl_X8_114 (Or.inl rfl) (hG.2.2.1 0 (by decide)) rfl (by decide) ((ivL_0_3 _ _).trans hb) ?_
        refine v_new (pc := 114) dX8_panel_114 nw_X8_15 ⟨by decide, by decide⟩ (fun q hq => ?_)
        refine v_dup (pc := 117) dX8_panel_117 rfl ?_
        refine v_aload (pc := 118) dX8_panel_118 rfl ?_
        refine v_iload_n (pc := 120) dX8_panel_120 rfl rfl ?_
        refine v_iload (pc := 121) dX8_panel_121 rfl ?_
        obtain ⟨T, N, I, J, E, Rf⟩ := G
        have hq : T q = 0 := hq
        refine v_callI (pc := 123) (As := [.ref (X.1 13 j), .int p1, .int p3]) (rest := [.ref q, .int (nI b), .ref (X.1 2 0)]) dX8_panel_123 cw_X8_119 im_yX4_init rfl (c_X4_init D _ q (X.1 13 j) p1 p3 (u1_s _ _ _)) rfl rfl (Nat.le_of_ble_eq_true rfl) ⟨Nat.le_of_ble_eq_true rfl, Nat.le_of_ble_eq_true rfl⟩ ⟨by decide, by decide⟩ (fun v G1 hp => ?_)
        obtain ⟨hv1, hG1⟩ := hp
        subst hv1
        subst hG1
        have hG := mk_pan (p1 := p1) (p2 := p2) (p3 := p3) hG hq hfr hL2 (by omega)
        have hxv9 : ∀ i, (xadd X 14 b q).2.1 2 i = true → i = 0 := fun i hi => hxv 2 i (by decide) (by have : u2 X.2.1 14 b true 2 i = true := hi; rw [u2, if_neg (fun z => absurd z.1 (by decide))] at this; exact this)
        show V cX8_panel _ _ _ D K 126 _ [.ref q, .int (nI b), .ref (X.1 2 0)] _ (1, 5)
        refine vc_aast (pc := 126) (ca := 2) (a := b) (k := 6) (ci := 4) (r := (RX4, TX4, 5)) hG dX8_panel_126 (by decide) (by decide) hxv9 (u2_s _ _ _ _) rfl (u2_s _ _ _ _) rfl (by decide) rfl rfl rfl rfl (by show b < 12; omega) (fun X2 G hX2 hG => ?_)
        have e0 : X.1 0 0 = X2.1 0 0 := by rw [hX2]; rfl
        rw [e0]
        have e1 : X.1 13 j = X2.1 13 j := by rw [hX2]; rfl
        rw [e1]
        have hL9 : X2.2.1 13 j = true := by rw [hX2]; exact hL2
        refine v_aload (pc := 127) dX8_panel_127 rfl ?_
        refine v_iload_n (pc := 129) dX8_panel_129 rfl rfl ?_
        refine v_iload_n (pc := 130) dX8_panel_130 rfl rfl ?_
        refine v_iload (pc := 131) dX8_panel_131 rfl ?_
        refine vc_callV3 (pc := 133) (1, 5) hG dX8_panel_133 cw_X8_122 im_yX2_layPanel se_yX2_layPanel (c_X2_layPanel D X2 _ j p1 p2 p3 hL9) hL9 rfl rfl (Nat.le_of_ble_eq_true rfl) ⟨Nat.le_of_ble_eq_true rfl, Nat.le_of_ble_eq_true rfl⟩ ⟨by decide, by decide⟩ rfl (fun v s1 G hp hG => ?_)
        obtain ⟨hv1, hs1⟩ := hp
        subst hv1
        subst s1
        refine v_aload_n (pc := 136) dX8_panel_136 rfl rfl ?_
        refine v_dup (pc := 137) dX8_panel_137 rfl ?_
        refine vc_getI (pc := 138) (f := 3) hG dX8_panel_138 fl_X8_114 (Or.inl rfl) (hG.2.2.1 0 (by decide)) rfl (by decide) (show iv _ 0 0 3 = nI b by rw [ivL_0_3, lyS_4]; simp [pan1, sI, sJ, u2, hb]) ?_
        refine v_dup_x1 (pc := 141) dX8_panel_141 rfl rfl ?_
        refine v_iconst (pc := 142) (v := 1) dX8_panel_142 (by decide) ?_
        refine v_iadd (pc := 143) dX8_panel_143 ?_
        refine vc_putI (pc := 144) hG dX8_panel_144 fw_X8_114 rfl (Or.inl rfl) (hG.2.2.1 0 (by decide)) rfl rfl rfl (uI_0_3 _ _) (fun G hG => ?_)
        refine v_iret (pc := 147) hR dX8_panel_147 ⟨by decide, by decide⟩ ?_
        subst hX2
        exact ⟨_, _, hG, rfl, (fun d hd => by show u2 X.1 14 b q d 0 = _; rw [u2, if_neg (fun z => by omega)]), rfl, by rw [en, nI_1], rfl, rfl, by rw [kPan, if_pos ((btw_ix (a := a) (by omega)).mpr ⟨j, hj, rfl⟩), if_pos hP, if_neg (by omega)]⟩
      · have h6 : b = 12 := by rcases Nat.lt_or_ge b 12 with q | q; exact absurd (nI_lt q (by decide)) c93; omega
        refine v_throw (pc := 96) hX tw_X8_77_117_81 dX8_panel_96 dX8_panel_99 dX8_panel_100 dX8_panel_102 dX8_panel_105 (Nat.le_of_ble_eq_true rfl) ⟨by decide, by decide⟩ ⟨by decide, by decide⟩ ?_
        exact ⟨hG, Or.inr (Or.inr ⟨rfl, by rw [kPan, if_pos ((btw_ix (a := a) (by omega)).mpr ⟨j, hj, rfl⟩), if_pos hP, if_pos h6]⟩)⟩
    refine v_astore (pc := 5) dX8_panel_5 rfl (by decide) ?_
    refine v_aload (pc := 7) dX8_panel_7 rfl ?_
    refine v_ifnonnull (pc := 9) (tgt := 22) dX8_panel_9 (by decide) ?_
    refine v_iload_n (pc := 22) dX8_panel_22 rfl rfl ?_
    refine v_i2l (pc := 23) dX8_panel_23 ?_
    refine v_lconst (pc := 24) (v := 1) dX8_panel_24 (by decide) ?_
    refine v_ldcL (pc := 25) dX8_panel_25 k_X8_108 ?_
    refine v_callS3 (pc := 28) (0, 0) dX8_panel_28 cw_X8_62 sm_yX8_isOutside (c_X8_isOutside D _ _ _ _ ) (Nat.le_of_ble_eq_true rfl) ⟨Nat.le_of_ble_eq_true rfl, Nat.le_of_ble_eq_true rfl⟩ ⟨by decide, by decide⟩ rfl (fun v G1 hp => ?_)
    obtain ⟨hv1, hs1⟩ := hp
    subst hv1
    subst G1
    refine v_if_ne (pc := 31) (tgt := 74) dX8_panel_31 (by decide) (fun c31 => ?_) (fun c31 => ?_)
    · rw [b2i_0, Decidable.not_not] at c31
      have c31 := (out_y (a := 1) (b := 150) (by decide) (by decide)).mp c31
      refine v_throw (pc := 74) hX tw_X8_66_112_70 dX8_panel_74 dX8_panel_77 dX8_panel_78 dX8_panel_80 dX8_panel_83 (Nat.le_of_ble_eq_true rfl) ⟨by decide, by decide⟩ ⟨by decide, by decide⟩ ?_
      exact ⟨hG, Or.inr (Or.inl ⟨rfl, by rw [kPan, if_pos ((btw_ix (a := a) (by omega)).mpr ⟨j, hj, rfl⟩), if_neg (fun z => by first | exact c31 z.1.1 | exact c43 z.1.2.1 | exact c56 z.1.2.2 | exact z.2 ⟨c62, c71⟩)]⟩)⟩
    · rw [b2i_0] at c31
      have c31 := (out_n (a := 1) (b := 150) (by decide) (by decide)).mp c31
      refine v_iload_n (pc := 34) dX8_panel_34 rfl rfl ?_
      refine v_i2l (pc := 35) dX8_panel_35 ?_
      refine v_lconst (pc := 36) (v := 1) dX8_panel_36 (by decide) ?_
      refine v_ldcL (pc := 37) dX8_panel_37 k_X8_108 ?_
      refine v_callS3 (pc := 40) (0, 0) dX8_panel_40 cw_X8_62 sm_yX8_isOutside (c_X8_isOutside D _ _ _ _ ) (Nat.le_of_ble_eq_true rfl) ⟨Nat.le_of_ble_eq_true rfl, Nat.le_of_ble_eq_true rfl⟩ ⟨by decide, by decide⟩ rfl (fun v G1 hp => ?_)
      obtain ⟨hv1, hs1⟩ := hp
      subst hv1
      subst G1
      refine v_if_ne (pc := 43) (tgt := 74) dX8_panel_43 (by decide) (fun c43 => ?_) (fun c43 => ?_)
      · rw [b2i_0, Decidable.not_not] at c43
        have c43 := (out_y (a := 1) (b := 150) (by decide) (by decide)).mp c43
        refine v_throw (pc := 74) hX tw_X8_66_112_70 dX8_panel_74 dX8_panel_77 dX8_panel_78 dX8_panel_80 dX8_panel_83 (Nat.le_of_ble_eq_true rfl) ⟨by decide, by decide⟩ ⟨by decide, by decide⟩ ?_
        exact ⟨hG, Or.inr (Or.inl ⟨rfl, by rw [kPan, if_pos ((btw_ix (a := a) (by omega)).mpr ⟨j, hj, rfl⟩), if_neg (fun z => by first | exact c31 z.1.1 | exact c43 z.1.2.1 | exact c56 z.1.2.2 | exact z.2 ⟨c62, c71⟩)]⟩)⟩
      · rw [b2i_0] at c43
        have c43 := (out_n (a := 1) (b := 150) (by decide) (by decide)).mp c43
        refine v_iload (pc := 46) dX8_panel_46 rfl ?_
        refine v_i2l (pc := 48) dX8_panel_48 ?_
        refine v_lconst (pc := 49) (v := 0) dX8_panel_49 (by decide) ?_
        refine v_ldcL (pc := 50) dX8_panel_50 k_X8_110 ?_
        refine v_callS3 (pc := 53) (0, 0) dX8_panel_53 cw_X8_62 sm_yX8_isOutside (c_X8_isOutside D _ _ _ _ ) (Nat.le_of_ble_eq_true rfl) ⟨Nat.le_of_ble_eq_true rfl, Nat.le_of_ble_eq_true rfl⟩ ⟨by decide, by decide⟩ rfl (fun v G1 hp => ?_)
        obtain ⟨hv1, hs1⟩ := hp
        subst hv1
        subst G1
        refine v_if_ne (pc := 56) (tgt := 74) dX8_panel_56 (by decide) (fun c56 => ?_) (fun c56 => ?_)
        · rw [b2i_0, Decidable.not_not] at c56
          have c56 := (out_y (a := 0) (b := 2) (by decide) (by decide)).mp c56
          refine v_throw (pc := 74) hX tw_X8_66_112_70 dX8_panel_74 dX8_panel_77 dX8_panel_78 dX8_panel_80 dX8_panel_83 (Nat.le_of_ble_eq_true rfl) ⟨by decide, by decide⟩ ⟨by decide, by decide⟩ ?_
          exact ⟨hG, Or.inr (Or.inl ⟨rfl, by rw [kPan, if_pos ((btw_ix (a := a) (by omega)).mpr ⟨j, hj, rfl⟩), if_neg (fun z => by first | exact c31 z.1.1 | exact c43 z.1.2.1 | exact c56 z.1.2.2 | exact z.2 ⟨c62, c71⟩)]⟩)⟩
        · rw [b2i_0] at c56
          have c56 := (out_n (a := 0) (b := 2) (by decide) (by decide)).mp c56
          refine v_iload (pc := 59) dX8_panel_59 rfl ?_
          refine v_iconst (pc := 61) (v := 2) dX8_panel_61 (by decide) ?_
          refine v_icmp_ne (pc := 62) (tgt := 84) dX8_panel_62 (by decide) (fun c62 => ?_) (fun c62 => ?_)
          · exact tail ⟨⟨c31, c43, c56⟩, fun z => by first | exact c62 z.1 | exact z.2 c71⟩ G hG
          · refine v_iload_n (pc := 65) dX8_panel_65 rfl rfl ?_
            refine v_iload_n (pc := 66) dX8_panel_66 rfl rfl ?_
            refine v_iadd (pc := 67) dX8_panel_67 ?_
            refine v_sipush (pc := 68) (v := 150) dX8_panel_68 (by decide) ?_
            refine v_icmp_le (pc := 71) (tgt := 84) dX8_panel_71 (by decide) (fun c71 => ?_) (fun c71 => ?_)
            · exact tail ⟨⟨c31, c43, c56⟩, fun z => by first | exact c62 z.1 | exact z.2 c71⟩ G hG
            · refine v_throw (pc := 74) hX tw_X8_66_112_70 dX8_panel_74 dX8_panel_77 dX8_panel_78 dX8_panel_80 dX8_panel_83 (Nat.le_of_ble_eq_true rfl) ⟨by decide, by decide⟩ ⟨by decide, by decide⟩ ?_
              exact ⟨hG, Or.inr (Or.inl ⟨rfl, by rw [kPan, if_pos ((btw_ix (a := a) (by omega)).mpr ⟨j, hj, rfl⟩), if_neg (fun z => by first | exact c31 z.1.1 | exact c43 z.1.2.1 | exact c56 z.1.2.2 | exact z.2 ⟨c62, c71⟩)]⟩)⟩
def sea1 (s : SG) (c : Nat) (p0 p1 p2 : Int32) : SG := sI (sI (sI s 10 c p0) 11 c p1) 12 c p2
theorem lf_sea1 {X : XT} {s : SG} {G : GT} {c : Nat} {p0 p1 p2 : Int32} (h : LF X s G) (hfr : X.2.1 15 c = false) : LF X (sea1 s c p0 p1 p2) G := by
  refine h.congr ?_
  unfold sea1
  intro c_ i f hl hf
  refine ⟨?_, ?_, ?_⟩
  · unfold iv
    split <;> first
      | rfl
      | (have hz_ := ne_free hfr hl; split <;> first | rfl | (simp only [sI, sJ, u2]; (repeat rw [if_neg (by omega)]); done) | (simp [pctS, sI, u2, hz_]; done))
      | (have hz_ := ne_free hfr hl; simp only [sI, sJ, u2, pctS]; repeat rw [if_neg (by omega)])
  · unfold jv
    split <;> first
      | rfl
      | (have hz_ := ne_free hfr hl; split <;> first | rfl | (simp only [sI, sJ, u2]; (repeat rw [if_neg (by omega)]); done) | (simp [pctS, sI, u2, hz_]; done))
      | (have hz_ := ne_free hfr hl; simp only [sI, sJ, u2, pctS]; repeat rw [if_neg (by omega)])
  · unfold rv
    split <;> first
      | rfl
      | (have hz_ := ne_free hfr hl; split <;> first | rfl | (simp only [sI, sJ, u2]; (repeat rw [if_neg (by omega)]); done) | (simp [pctS, sI, u2, hz_]; done))
      | (have hz_ := ne_free hfr hl; simp only [sI, sJ, u2, pctS]; repeat rw [if_neg (by omega)])
theorem mk_sea {X : XT} {s : SG} {T N : Nat → Nat} {I : Nat → Nat → Int32} {J : Nat → Nat → Int64} {E : Nat → Nat → UInt64} {Rf : Nat → Nat → Option Nat} {q c l1 l2 : Nat} {p2 : Int32} (h : LF X s (T, N, I, J, E, Rf)) (hq : T q = 0) (hfr : X.2.1 15 c = false) (hl1 : X.2.1 14 l1 = true) (hl2 : X.2.1 14 l2 = true) (hA : l1 < 12) (hB : l2 < 12) : LF (xadd X 15 c q) (sea1 s c (nI l1) (nI l2) p2) (u1 T q 8, u1 N q 0, u2 (c2 I q 0) q 2 (pcK p2), c2 J q 0, c2 E q 0, u2 (u2 (c2 Rf q none) q 0 (some (X.1 14 l1))) q 1 (some (X.1 14 l2))) := by
  obtain ⟨h1, h2⟩ := h.nq hq
  refine (lf_sea1 (p0 := nI l1) (p1 := nI l2) (p2 := p2) h hfr).obj (by decide) hfr h1 h2 (fun p _ hp => ⟨u1_n _ _ hp, u1_n _ _ hp, funext fun j => by simp [u2, c2, hp], funext fun j => by simp [u2, c2, hp], funext fun j => by simp [u2, c2, hp], funext fun j => by simp [u2, c2, hp]⟩) ⟨by decide, u1_s _ _ _, u1_s _ _ _⟩ (fun f hf => ?_)
  have hf8 : f < 3 := hf
  have e5 : nat ((sea1 s c (nI l1) (nI l2) p2).1 10 c) = l1 := by rw [show (sea1 s c (nI l1) (nI l2) p2).1 10 c = nI l1 by simp [sea1, sI, u2]]; exact nat_nI (by omega)
  have e6 : nat ((sea1 s c (nI l1) (nI l2) p2).1 11 c) = l2 := by rw [show (sea1 s c (nI l1) (nI l2) p2).1 11 c = nI l2 by simp [sea1, sI, u2]]; exact nat_nI (by omega)
  refine ⟨?_, ?_, ?_, ?_⟩
  · rcases (show f = 0 ∨ f = 1 ∨ f = 2 by omega) with rfl | rfl | rfl <;> simp [u2, c2, iv, sea1, sI, pctS, pcK]
  · rcases (show f = 0 ∨ f = 1 ∨ f = 2 by omega) with rfl | rfl | rfl <;> simp [u2, c2, jv, sea1, sI]
  · rcases (show f = 0 ∨ f = 1 ∨ f = 2 by omega) with rfl | rfl | rfl
    · show _ = Option.map _ (some (14, nat ((sea1 s c (nI l1) (nI l2) p2).1 10 c))); rw [e5]; simp [u2]
    · show _ = Option.map _ (some (14, nat ((sea1 s c (nI l1) (nI l2) p2).1 11 c))); rw [e6]; simp [u2]
    · show _ = Option.map _ none; simp [u2, c2]
  · intro o ho
    rcases (show f = 0 ∨ f = 1 ∨ f = 2 by omega) with rfl | rfl | rfl
    · have ho : some (14, nat ((sea1 s c (nI l1) (nI l2) p2).1 10 c)) = some o := ho
      rw [e5] at ho; cases ho; exact hl1
    · have ho : some (14, nat ((sea1 s c (nI l1) (nI l2) p2).1 11 c)) = some o := ho
      rw [e6] at ho; cases ho; exact hl2
    · have ho : none = some o := ho
      cases ho
set_option maxRecDepth 100000 in
set_option maxHeartbeats 400000 in
theorem c_X8_seam (D : DT) (X : XT) (s : SG) (np c : Nat) (p0 : Int32) (p1 : Int32) (p2 : Int32) (hb : s.1 4 0 = nI np) (hnp : np ≤ 12) (hsl2 : ∀ f, f < 12 → X.2.2.1 2 f = decide (f < np)) (hc : s.1 9 0 = nI c) (hc2 : c ≤ 30) (hfr : X.2.1 15 c = false) (hxv : XV X) : CY yX8_seam cX8_seam 6 (Option.some Jvm.ClassFile.FieldType.int) rm_X8_seam D [.ref (X.1 0 0), .int p0, .int p1, .int p2] X s (fun v X' s' => v = some (.int (nI c)) ∧ s' = gSeam s c p0 p1 p2 ∧ X'.2.1 = u2 X.2.1 15 c true ∧ X'.2.2.1 = u2 X.2.2.1 3 c true ∧ kSeam np c p0 p1 p2 = 0) (fun e => (e = xIO ∧ kSeam np c p0 p1 p2 = 1) ∨ (e = xIA ∧ kSeam np c p0 p1 p2 = 2) ∨ (e = xIS ∧ kSeam np c p0 p1 p2 = 3)) := by
  intro G hG
  refine MX_of (by decide +kernel) (Nat.le_of_ble_eq_true rfl) (fun K sz hR hX => ?_)
  show V cX8_seam _ 6 _ D K 0 [some (.ref (X.1 0 0)), some (.int p0), some (.int p1), some (.int p2), none, none] [] G (0, 0)
  refine v_aload_n (pc := 0) dX8_seam_0 rfl rfl ?_
  refine v_iload_n (pc := 1) dX8_seam_1 rfl rfl ?_
  refine vc_callV1 (pc := 2) (0, 0) hG dX8_seam_2 cw_X8_125 im_yX8_panelAt se_yX8_panelAt (c_X8_panelAt D X _ np _ hb hnp hsl2) (hG.2.2.1 0 (by decide)) rfl rfl (Nat.le_of_ble_eq_true rfl) ⟨Nat.le_of_ble_eq_true rfl, Nat.le_of_ble_eq_true rfl⟩ ⟨by decide, by decide⟩ rfl (fun v s1 G hp hG => ?_)
  obtain ⟨hs1, hp⟩ := hp
  subst s1
  rcases hp with ⟨c2, hv1⟩ | ⟨jA, hjA, hpA, hL2, hv1⟩
  · subst hv1
    refine v_astoreN (pc := 5) dX8_seam_5 rfl (by decide) ?_
    refine v_aload_n (pc := 7) dX8_seam_7 rfl rfl ?_
    refine v_iload_n (pc := 8) dX8_seam_8 rfl rfl ?_
    refine vc_callV1 (pc := 9) (0, 0) hG dX8_seam_9 cw_X8_125 im_yX8_panelAt se_yX8_panelAt (c_X8_panelAt D X _ np _ hb hnp hsl2) (hG.2.2.1 0 (by decide)) rfl rfl (Nat.le_of_ble_eq_true rfl) ⟨Nat.le_of_ble_eq_true rfl, Nat.le_of_ble_eq_true rfl⟩ ⟨by decide, by decide⟩ rfl (fun v s1 G hp hG => ?_)
    obtain ⟨hs1, hp⟩ := hp
    subst s1
    rcases hp with ⟨c9, hv1⟩ | ⟨jB, hjB, hpB, hL9, hv1⟩
    · subst hv1
      refine v_astoreN (pc := 12) dX8_seam_12 rfl (by decide) ?_
      refine v_aloadN (pc := 14) dX8_seam_14 rfl ?_
      refine v_ifnullN (pc := 16) (tgt := 24) dX8_seam_16 (by decide) ?_
      refine v_throw (pc := 24) hX tw_X8_89_129_93 dX8_seam_24 dX8_seam_27 dX8_seam_28 dX8_seam_30 dX8_seam_33 (Nat.le_of_ble_eq_true rfl) ⟨by decide, by decide⟩ ⟨by decide, by decide⟩ ?_
      exact ⟨hG, Or.inl ⟨rfl, by rw [kSeam, if_neg (fun z => by first | exact c2 z.1 | exact c9 z.2)]⟩⟩
    · subst hpB
      subst hv1
      refine v_astore (pc := 12) dX8_seam_12 rfl (by decide) ?_
      refine v_aloadN (pc := 14) dX8_seam_14 rfl ?_
      refine v_ifnullN (pc := 16) (tgt := 24) dX8_seam_16 (by decide) ?_
      refine v_throw (pc := 24) hX tw_X8_89_129_93 dX8_seam_24 dX8_seam_27 dX8_seam_28 dX8_seam_30 dX8_seam_33 (Nat.le_of_ble_eq_true rfl) ⟨by decide, by decide⟩ ⟨by decide, by decide⟩ ?_
      exact ⟨hG, Or.inl ⟨rfl, by rw [kSeam, if_neg (fun z => by first | exact c2 z.1 | exact c9 z.2)]⟩⟩
  · subst hpA
    subst hv1
    refine v_astore (pc := 5) dX8_seam_5 rfl (by decide) ?_
    refine v_aload_n (pc := 7) dX8_seam_7 rfl rfl ?_
    refine v_iload_n (pc := 8) dX8_seam_8 rfl rfl ?_
    refine vc_callV1 (pc := 9) (0, 0) hG dX8_seam_9 cw_X8_125 im_yX8_panelAt se_yX8_panelAt (c_X8_panelAt D X _ np _ hb hnp hsl2) (hG.2.2.1 0 (by decide)) rfl rfl (Nat.le_of_ble_eq_true rfl) ⟨Nat.le_of_ble_eq_true rfl, Nat.le_of_ble_eq_true rfl⟩ ⟨by decide, by decide⟩ rfl (fun v s1 G hp hG => ?_)
    obtain ⟨hs1, hp⟩ := hp
    subst s1
    rcases hp with ⟨c9, hv1⟩ | ⟨jB, hjB, hpB, hL9, hv1⟩
    · subst hv1
      refine v_astoreN (pc := 12) dX8_seam_12 rfl (by decide) ?_
      refine v_aload (pc := 14) dX8_seam_14 rfl ?_
      refine v_ifnull (pc := 16) dX8_seam_16 ?_
      refine v_aloadN (pc := 19) dX8_seam_19 rfl ?_
      refine v_ifnonnullN (pc := 21) dX8_seam_21 ?_
      refine v_throw (pc := 24) hX tw_X8_89_129_93 dX8_seam_24 dX8_seam_27 dX8_seam_28 dX8_seam_30 dX8_seam_33 (Nat.le_of_ble_eq_true rfl) ⟨by decide, by decide⟩ ⟨by decide, by decide⟩ ?_
      exact ⟨hG, Or.inl ⟨rfl, by rw [kSeam, if_neg (fun z => by first | exact c2 z.1 | exact c9 z.2)]⟩⟩
    · subst hpB
      subst hv1
      refine v_astore (pc := 12) dX8_seam_12 rfl (by decide) ?_
      refine v_aload (pc := 14) dX8_seam_14 rfl ?_
      refine v_ifnull (pc := 16) dX8_seam_16 ?_
      refine v_aload (pc := 19) dX8_seam_19 rfl ?_
      refine v_ifnonnull (pc := 21) (tgt := 34) dX8_seam_21 (by decide) ?_
      refine v_iload_n (pc := 34) dX8_seam_34 rfl rfl ?_
      refine v_iload_n (pc := 35) dX8_seam_35 rfl rfl ?_
      refine v_icmp_eq (pc := 36) (tgt := 51) dX8_seam_36 (by decide) (fun c36 => ?_) (fun c36 => ?_)
      · refine v_throw (pc := 51) hX tw_X8_66_139_70 dX8_seam_51 dX8_seam_54 dX8_seam_55 dX8_seam_57 dX8_seam_60 (Nat.le_of_ble_eq_true rfl) ⟨by decide, by decide⟩ ⟨by decide, by decide⟩ ?_
        exact ⟨hG, Or.inr (Or.inl ⟨rfl, by rw [kSeam, if_pos ⟨((btw_ix (a := np) (by omega)).mpr ⟨jA, hjA, rfl⟩), ((btw_ix (a := np) (by omega)).mpr ⟨jB, hjB, rfl⟩)⟩, if_neg (fun z => by first | exact z.1 c36 | exact c48 z.2)]⟩)⟩
      · refine v_iload_n (pc := 39) dX8_seam_39 rfl rfl ?_
        refine v_i2l (pc := 40) dX8_seam_40 ?_
        refine v_lconst (pc := 41) (v := 0) dX8_seam_41 (by decide) ?_
        refine v_ldcL (pc := 42) dX8_seam_42 k_X8_110 ?_
        refine v_callS3 (pc := 45) (0, 0) dX8_seam_45 cw_X8_62 sm_yX8_isOutside (c_X8_isOutside D _ _ _ _ ) (Nat.le_of_ble_eq_true rfl) ⟨Nat.le_of_ble_eq_true rfl, Nat.le_of_ble_eq_true rfl⟩ ⟨by decide, by decide⟩ rfl (fun v G1 hp => ?_)
        obtain ⟨hv1, hs1⟩ := hp
        subst hv1
        subst G1
        refine v_if_eq (pc := 48) (tgt := 61) dX8_seam_48 (by decide) (fun c48 => ?_) (fun c48 => ?_)
        · rw [b2i_0] at c48
          have c48 := (out_n (a := 0) (b := 2) (by decide) (by decide)).mp c48
          refine v_aload_n (pc := 61) dX8_seam_61 rfl rfl ?_
          refine vc_getI (pc := 62) (f := 5) hG dX8_seam_62 fl_X8_141 (Or.inl rfl) (hG.2.2.1 0 (by decide)) rfl (by decide) ((ivL_0_5 _ _).trans hc) ?_
          refine v_aload_n (pc := 65) dX8_seam_65 rfl rfl ?_
          refine vc_getR (pc := 66) (f := 4) hG dX8_seam_66 fl_X8_23 rfl (hG.2.2.1 0 (by decide)) rfl (by decide) (rvL_0_4 _ _ _) (fun hL66 => ?_)
          refine vc_alen (pc := 69) (k := 7) (x := 30) hG dX8_seam_69 (hG.2.2.1 3 (by decide)) rfl rfl rfl ?_
          refine v_icmp_lt (pc := 70) (tgt := 83) dX8_seam_70 (by decide) (fun c70 => ?_) (fun c70 => ?_)
          · have h6 : c < 30 := (nI_ltI (by omega) (by decide)).mp c70
            refine v_aload_n (pc := 83) dX8_seam_83 rfl rfl ?_
            refine vc_getR (pc := 84) (f := 4) hG dX8_seam_84 fl_X8_23 rfl (hG.2.2.1 0 (by decide)) rfl (by decide) (rvL_0_4 _ _ _) (fun hL84 => ?_)
            refine v_aload_n (pc := 87) dX8_seam_87 rfl rfl ?_
            refine vc_getI (pc := 88) (f := 5) hG dX8_seam_88 fl_X8_141 (Or.inl rfl) (hG.2.2.1 0 (by decide)) rfl (by decide) ((ivL_0_5 _ _).trans hc) ?_
            have hL9 := hL9
            refine v_new (pc := 91) dX8_seam_91 nw_X8_21 ⟨by decide, by decide⟩ (fun q hq => ?_)
            refine v_dup (pc := 94) dX8_seam_94 rfl ?_
            refine v_aload (pc := 95) dX8_seam_95 rfl ?_
            refine v_aload (pc := 97) dX8_seam_97 rfl ?_
            refine v_iload_n (pc := 99) dX8_seam_99 rfl rfl ?_
            obtain ⟨T, N, I, J, E, Rf⟩ := G
            have hq : T q = 0 := hq
            refine v_callI (pc := 100) (As := [.ref (X.1 14 jA), .ref (X.1 14 jB), .int p2]) (rest := [.ref q, .int (nI c), .ref (X.1 3 0)]) dX8_seam_100 cw_X8_146 im_yX7_init rfl (c_X7_init D _ q (X.1 14 jA) (X.1 14 jB) p2 (u1_s _ _ _)) rfl rfl (Nat.le_of_ble_eq_true rfl) ⟨Nat.le_of_ble_eq_true rfl, Nat.le_of_ble_eq_true rfl⟩ ⟨by decide, by decide⟩ (fun v G1 hp => ?_)
            obtain ⟨hv1, hG1⟩ := hp
            subst hv1
            subst hG1
            have hG := mk_sea (p2 := p2) hG hq hfr hL2 hL9 (by omega) (by omega)
            have hxv9 : ∀ i, (xadd X 15 c q).2.1 3 i = true → i = 0 := fun i hi => hxv 3 i (by decide) (by have : u2 X.2.1 15 c true 3 i = true := hi; rw [u2, if_neg (fun z => absurd z.1 (by decide))] at this; exact this)
            show V cX8_seam _ _ _ D K 103 _ [.ref q, .int (nI c), .ref (X.1 3 0)] _ (1, 3)
            refine vc_aast (pc := 103) (ca := 3) (a := c) (k := 7) (ci := 7) (r := (RX7, TX7, 3)) hG dX8_seam_103 (by decide) (by decide) hxv9 (u2_s _ _ _ _) rfl (u2_s _ _ _ _) rfl (by decide) rfl rfl rfl rfl (by show c < 30; omega) (fun X2 G hX2 hG => ?_)
            have e0 : X.1 0 0 = X2.1 0 0 := by rw [hX2]; rfl
            rw [e0]
            refine v_aload_n (pc := 104) dX8_seam_104 rfl rfl ?_
            refine v_dup (pc := 105) dX8_seam_105 rfl ?_
            refine vc_getI (pc := 106) (f := 5) hG dX8_seam_106 fl_X8_141 (Or.inl rfl) (hG.2.2.1 0 (by decide)) rfl (by decide) (show iv _ 0 0 5 = nI c by rw [ivL_0_5]; simp [sea1, sI, u2, hc]) ?_
            refine v_dup_x1 (pc := 109) dX8_seam_109 rfl rfl ?_
            refine v_iconst (pc := 110) (v := 1) dX8_seam_110 (by decide) ?_
            refine v_iadd (pc := 111) dX8_seam_111 ?_
            refine vc_putI (pc := 112) hG dX8_seam_112 fw_X8_141 rfl (Or.inl rfl) (hG.2.2.1 0 (by decide)) rfl rfl rfl (uI_0_5 _ _) (fun G hG => ?_)
            refine v_iret (pc := 115) hR dX8_seam_115 ⟨by decide, by decide⟩ ?_
            subst hX2
            exact ⟨_, _, hG, rfl, (fun d hd => by show u2 X.1 15 c q d 0 = _; rw [u2, if_neg (fun z => by omega)]), rfl, by rw [gSeam, ← sea1, nI_1], rfl, rfl, by rw [kSeam, if_pos ⟨((btw_ix (a := np) (by omega)).mpr ⟨jA, hjA, rfl⟩), ((btw_ix (a := np) (by omega)).mpr ⟨jB, hjB, rfl⟩)⟩, if_pos ⟨c36, c48⟩, if_neg (by omega)]⟩
          · have h6 : c = 30 := by rcases Nat.lt_or_ge c 30 with q | q; exact absurd (nI_lt q (by decide)) c70; omega
            refine v_throw (pc := 73) hX tw_X8_77_144_81 dX8_seam_73 dX8_seam_76 dX8_seam_77 dX8_seam_79 dX8_seam_82 (Nat.le_of_ble_eq_true rfl) ⟨by decide, by decide⟩ ⟨by decide, by decide⟩ ?_
            exact ⟨hG, Or.inr (Or.inr ⟨rfl, by rw [kSeam, if_pos ⟨((btw_ix (a := np) (by omega)).mpr ⟨jA, hjA, rfl⟩), ((btw_ix (a := np) (by omega)).mpr ⟨jB, hjB, rfl⟩)⟩, if_pos ⟨c36, c48⟩, if_pos h6]⟩)⟩
        · rw [b2i_0, Decidable.not_not] at c48
          have c48 := (out_y (a := 0) (b := 2) (by decide) (by decide)).mp c48
          refine v_throw (pc := 51) hX tw_X8_66_139_70 dX8_seam_51 dX8_seam_54 dX8_seam_55 dX8_seam_57 dX8_seam_60 (Nat.le_of_ble_eq_true rfl) ⟨by decide, by decide⟩ ⟨by decide, by decide⟩ ?_
          exact ⟨hG, Or.inr (Or.inl ⟨rfl, by rw [kSeam, if_pos ⟨((btw_ix (a := np) (by omega)).mpr ⟨jA, hjA, rfl⟩), ((btw_ix (a := np) (by omega)).mpr ⟨jB, hjB, rfl⟩)⟩, if_neg (fun z => by first | exact z.1 c36 | exact c48 z.2)]⟩)⟩
def peg1 (s : SG) (g : Nat) (h : Int64) (q : Int32) : SG := sI (sI (sJ s 20 g h) 21 g q) 22 g 1
theorem lf_peg1 {X : XT} {s : SG} {G : GT} {g : Nat} {p0 : Int64} {p1 : Int32} (h : LF X s G) (hfr : X.2.1 16 g = false) : LF X (peg1 s g p0 p1) G := by
  refine h.congr ?_
  unfold peg1
  intro c i f hl hf
  refine ⟨?_, ?_, ?_⟩
  · unfold iv
    split <;> first
      | rfl
      | (have hz_ := ne_free hfr hl; split <;> first | rfl | (simp only [sI, sJ, u2]; (repeat rw [if_neg (by omega)]); done) | (simp [pctS, sI, u2, hz_]; done))
      | (have hz_ := ne_free hfr hl; simp only [sI, sJ, u2, pctS]; repeat rw [if_neg (by omega)])
  · unfold jv
    split <;> first
      | rfl
      | (have hz_ := ne_free hfr hl; split <;> first | rfl | (simp only [sI, sJ, u2]; (repeat rw [if_neg (by omega)]); done) | (simp [pctS, sI, u2, hz_]; done))
      | (have hz_ := ne_free hfr hl; simp only [sI, sJ, u2, pctS]; repeat rw [if_neg (by omega)])
  · unfold rv
    split <;> first
      | rfl
      | (have hz_ := ne_free hfr hl; split <;> first | rfl | (simp only [sI, sJ, u2]; (repeat rw [if_neg (by omega)]); done) | (simp [pctS, sI, u2, hz_]; done))
      | (have hz_ := ne_free hfr hl; simp only [sI, sJ, u2, pctS]; repeat rw [if_neg (by omega)])
theorem mk_peg {X : XT} {s : SG} {T N : Nat → Nat} {I : Nat → Nat → Int32} {J : Nat → Nat → Int64} {E : Nat → Nat → UInt64} {Rf : Nat → Nat → Option Nat} {q g : Nat} {p0 : Int64} {p1 : Int32} (h : LF X s (T, N, I, J, E, Rf)) (hq : T q = 0) (hfr : X.2.1 16 g = false) (z23 : s.2 23 g = 0) : LF (xadd X 16 g q) (peg1 s g p0 p1) (u1 T q 6, u1 N q 0, u2 (u2 (c2 I q 0) q 2 1) q 1 p1, u2 (c2 J q 0) q 0 p0, c2 E q 0, c2 Rf q none) := by
  obtain ⟨h1, h2⟩ := h.nq hq
  refine (lf_peg1 (p0 := p0) (p1 := p1) h hfr).obj (by decide) hfr h1 h2 (fun p _ hp => ⟨u1_n _ _ hp, u1_n _ _ hp, funext fun j => by simp [u2, c2, hp], funext fun j => by simp [u2, c2, hp], funext fun j => by simp [u2, c2, hp], funext fun j => by simp [u2, c2, hp]⟩) ⟨by decide, u1_s _ _ _, u1_s _ _ _⟩ (fun f hf => ?_)
  have hf8 : f < 4 := hf
  refine ⟨?_, ?_, by simp [c2, rv], fun o ho => by simp [rv] at ho⟩
  · rcases (show f = 0 ∨ f = 1 ∨ f = 2 ∨ f = 3 by omega) with rfl | rfl | rfl | rfl <;> simp [u2, c2, iv, peg1, sI, sJ]
  · rcases (show f = 0 ∨ f = 1 ∨ f = 2 ∨ f = 3 by omega) with rfl | rfl | rfl | rfl <;> simp [u2, c2, jv, peg1, sI, sJ, z23]
set_option maxRecDepth 100000 in
set_option maxHeartbeats 400000 in
theorem c_X8_peg (D : DT) (X : XT) (s : SG) (g : Nat) (p0 : Int64) (p1 : Int32) (hg : s.1 19 0 = nI g) (hg8 : g ≤ 8) (hfr : X.2.1 16 g = false) (z23 : s.2 23 g = 0) (hxv : XV X) : CY yX8_peg cX8_peg 4 (Option.some Jvm.ClassFile.FieldType.int) rm_X8_peg D [.ref (X.1 0 0), .long p0, .int p1] X s (fun v X' s' => v = some (.int (nI g)) ∧ s' = gPeg s g p0 p1 ∧ X'.2.1 = u2 X.2.1 16 g true ∧ X'.2.2.1 = u2 X.2.2.1 4 g true ∧ kPeg g p0 p1 = 0) (fun e => (e = xIA ∧ kPeg g p0 p1 = 1) ∨ (e = xIS ∧ kPeg g p0 p1 = 2)) := by
  intro G hG
  refine MX_of (by decide +kernel) (Nat.le_of_ble_eq_true rfl) (fun K sz hR hX => ?_)
  show V cX8_peg _ 4 _ D K 0 [some (.ref (X.1 0 0)), some (.long p0), none, some (.int p1)] [] G (0, 0)
  refine v_lload_n (pc := 0) dX8_peg_0 rfl rfl ?_
  refine v_lconst (pc := 1) (v := 0) dX8_peg_1 (by decide) ?_
  refine v_ldcL (pc := 2) dX8_peg_2 k_X8_216 ?_
  refine v_callS3 (pc := 5) (0, 0) dX8_peg_5 cw_X8_62 sm_yX8_isOutside (c_X8_isOutside D _ _ _ _ ) (Nat.le_of_ble_eq_true rfl) ⟨Nat.le_of_ble_eq_true rfl, Nat.le_of_ble_eq_true rfl⟩ ⟨by decide, by decide⟩ rfl (fun v G1 hp => ?_)
  obtain ⟨hv1, hs1⟩ := hp
  subst hv1
  subst G1
  refine v_if_ne (pc := 8) (tgt := 23) dX8_peg_8 (by decide) (fun c8 => ?_) (fun c8 => ?_)
  · rw [b2i_0, Decidable.not_not] at c8
    rw [← Decidable.not_not (p := outP _ _ _), outL] at c8
    refine v_throw (pc := 23) hX tw_X8_66_218_70 dX8_peg_23 dX8_peg_26 dX8_peg_27 dX8_peg_29 dX8_peg_32 (Nat.le_of_ble_eq_true rfl) ⟨by decide, by decide⟩ ⟨by decide, by decide⟩ ?_
    exact ⟨hG, Or.inl ⟨rfl, by rw [kPeg, if_neg (fun z => by first | exact c8 z.1 | exact c20 z.2)]⟩⟩
  · rw [b2i_0] at c8
    rw [outL] at c8
    refine v_iload_n (pc := 11) dX8_peg_11 rfl rfl ?_
    refine v_i2l (pc := 12) dX8_peg_12 ?_
    refine v_lconst (pc := 13) (v := 1) dX8_peg_13 (by decide) ?_
    refine v_ldcL (pc := 14) dX8_peg_14 k_X8_201 ?_
    refine v_callS3 (pc := 17) (0, 0) dX8_peg_17 cw_X8_62 sm_yX8_isOutside (c_X8_isOutside D _ _ _ _ ) (Nat.le_of_ble_eq_true rfl) ⟨Nat.le_of_ble_eq_true rfl, Nat.le_of_ble_eq_true rfl⟩ ⟨by decide, by decide⟩ rfl (fun v G1 hp => ?_)
    obtain ⟨hv1, hs1⟩ := hp
    subst hv1
    subst G1
    refine v_if_eq (pc := 20) (tgt := 33) dX8_peg_20 (by decide) (fun c20 => ?_) (fun c20 => ?_)
    · rw [b2i_0] at c20
      have c20 := (out_n (a := 1) (b := 100) (by decide) (by decide)).mp c20
      refine v_aload_n (pc := 33) dX8_peg_33 rfl rfl ?_
      refine vc_getI (pc := 34) (f := 8) hG dX8_peg_34 fl_X8_220 (Or.inl rfl) (hG.2.2.1 0 (by decide)) rfl (by decide) ((ivL_0_8 _ _).trans hg) ?_
      refine v_aload_n (pc := 37) dX8_peg_37 rfl rfl ?_
      refine vc_getR (pc := 38) (f := 7) hG dX8_peg_38 fl_X8_36 rfl (hG.2.2.1 0 (by decide)) rfl (by decide) (rvL_0_7 _ _ _) (fun hL38 => ?_)
      refine vc_alen (pc := 41) (k := 8) (x := 8) hG dX8_peg_41 (hG.2.2.1 4 (by decide)) rfl rfl rfl ?_
      refine v_icmp_lt (pc := 42) (tgt := 55) dX8_peg_42 (by decide) (fun c42 => ?_) (fun c42 => ?_)
      · have h6 : g < 8 := (nI_ltI (by omega) (by decide)).mp c42
        refine v_aload_n (pc := 55) dX8_peg_55 rfl rfl ?_
        refine vc_getR (pc := 56) (f := 7) hG dX8_peg_56 fl_X8_36 rfl (hG.2.2.1 0 (by decide)) rfl (by decide) (rvL_0_7 _ _ _) (fun hL56 => ?_)
        refine v_aload_n (pc := 59) dX8_peg_59 rfl rfl ?_
        refine vc_getI (pc := 60) (f := 8) hG dX8_peg_60 fl_X8_220 (Or.inl rfl) (hG.2.2.1 0 (by decide)) rfl (by decide) ((ivL_0_8 _ _).trans hg) ?_
        refine v_new (pc := 63) dX8_peg_63 nw_X8_34 ⟨by decide, by decide⟩ (fun q hq => ?_)
        refine v_dup (pc := 66) dX8_peg_66 rfl ?_
        refine v_lload_n (pc := 67) dX8_peg_67 rfl rfl ?_
        refine v_iload_n (pc := 68) dX8_peg_68 rfl rfl ?_
        obtain ⟨T, N, I, J, E, Rf⟩ := G
        have hq : T q = 0 := hq
        refine v_callI (pc := 69) (As := [.long p0, .int p1]) (rest := [.ref q, .int (nI g), .ref (X.1 4 0)]) dX8_peg_69 cw_X8_225 im_yX5_init rfl (c_X5_init D _ q p0 p1 (u1_s _ _ _)) rfl rfl (Nat.le_of_ble_eq_true rfl) ⟨Nat.le_of_ble_eq_true rfl, Nat.le_of_ble_eq_true rfl⟩ ⟨by decide, by decide⟩ (fun v G1 hp => ?_)
        obtain ⟨hv1, hG1⟩ := hp
        subst hv1
        subst hG1
        have hG := mk_peg (p0 := p0) (p1 := p1) hG hq hfr z23
        have hxv9 : ∀ i, (xadd X 16 g q).2.1 4 i = true → i = 0 := fun i hi => hxv 4 i (by decide) (by have : u2 X.2.1 16 g true 4 i = true := hi; rw [u2, if_neg (fun z => absurd z.1 (by decide))] at this; exact this)
        show V cX8_peg _ _ _ D K 72 _ [.ref q, .int (nI g), .ref (X.1 4 0)] _ (1, 4)
        refine vc_aast (pc := 72) (ca := 4) (a := g) (k := 8) (ci := 5) (r := (RX5, TX5, 4)) hG dX8_peg_72 (by decide) (by decide) hxv9 (u2_s _ _ _ _) rfl (u2_s _ _ _ _) rfl (by decide) rfl rfl rfl rfl (by show g < 8; omega) (fun X2 G hX2 hG => ?_)
        have e0 : X.1 0 0 = X2.1 0 0 := by rw [hX2]; rfl
        rw [e0]
        refine v_aload_n (pc := 73) dX8_peg_73 rfl rfl ?_
        refine v_dup (pc := 74) dX8_peg_74 rfl ?_
        refine vc_getI (pc := 75) (f := 8) hG dX8_peg_75 fl_X8_220 (Or.inl rfl) (hG.2.2.1 0 (by decide)) rfl (by decide) (show iv _ 0 0 8 = nI g by rw [ivL_0_8]; simp [peg1, sI, sJ, u2, hg]) ?_
        refine v_dup_x1 (pc := 78) dX8_peg_78 rfl rfl ?_
        refine v_iconst (pc := 79) (v := 1) dX8_peg_79 (by decide) ?_
        refine v_iadd (pc := 80) dX8_peg_80 ?_
        refine vc_putI (pc := 81) hG dX8_peg_81 fw_X8_220 rfl (Or.inl rfl) (hG.2.2.1 0 (by decide)) rfl rfl rfl (uI_0_8 _ _) (fun G hG => ?_)
        refine v_iret (pc := 84) hR dX8_peg_84 ⟨by decide, by decide⟩ ?_
        subst hX2
        exact ⟨_, _, hG, rfl, (fun d hd => by show u2 X.1 16 g q d 0 = _; rw [u2, if_neg (fun z => by omega)]), rfl, by rw [gPeg, ← peg1, nI_1], rfl, rfl, by rw [kPeg, if_pos ⟨c8, c20⟩, if_neg (by omega)]⟩
      · have h6 : g = 8 := by rcases Nat.lt_or_ge g 8 with q | q; exact absurd (nI_lt q (by decide)) c42; omega
        refine v_throw (pc := 45) hX tw_X8_77_223_81 dX8_peg_45 dX8_peg_48 dX8_peg_49 dX8_peg_51 dX8_peg_54 (Nat.le_of_ble_eq_true rfl) ⟨by decide, by decide⟩ ⟨by decide, by decide⟩ ?_
        exact ⟨hG, Or.inr ⟨rfl, by rw [kPeg, if_pos ⟨c8, c20⟩, if_pos h6]⟩⟩
    · rw [b2i_0, Decidable.not_not] at c20
      have c20 := (out_y (a := 1) (b := 100) (by decide) (by decide)).mp c20
      refine v_throw (pc := 23) hX tw_X8_66_218_70 dX8_peg_23 dX8_peg_26 dX8_peg_27 dX8_peg_29 dX8_peg_32 (Nat.le_of_ble_eq_true rfl) ⟨by decide, by decide⟩ ⟨by decide, by decide⟩ ?_
      exact ⟨hG, Or.inl ⟨rfl, by rw [kPeg, if_neg (fun z => by first | exact c8 z.1 | exact c20 z.2)]⟩⟩
def can1 (s : SG) (c : Nat) (p0 : Int32) : SG := sI (sI (sI s 29 c p0) 32 c (-1)) 33 c (-1)
theorem lf_can1 {X : XT} {s : SG} {G : GT} {c : Nat} {p0 : Int32} (h : LF X s G) (hfr : X.2.1 17 c = false) : LF X (can1 s c p0) G := by
  refine h.congr ?_
  unfold can1
  intro c_ i f hl hf
  refine ⟨?_, ?_, ?_⟩
  · unfold iv
    split <;> first
      | rfl
      | (have hz_ := ne_free hfr hl; split <;> first | rfl | (simp only [sI, sJ, u2]; (repeat rw [if_neg (by omega)]); done) | (simp [pctS, sI, u2, hz_]; done))
      | (have hz_ := ne_free hfr hl; simp only [sI, sJ, u2, pctS]; repeat rw [if_neg (by omega)])
  · unfold jv
    split <;> first
      | rfl
      | (have hz_ := ne_free hfr hl; split <;> first | rfl | (simp only [sI, sJ, u2]; (repeat rw [if_neg (by omega)]); done) | (simp [pctS, sI, u2, hz_]; done))
      | (have hz_ := ne_free hfr hl; simp only [sI, sJ, u2, pctS]; repeat rw [if_neg (by omega)])
  · unfold rv
    split <;> first
      | rfl
      | (have hz_ := ne_free hfr hl; split <;> first | rfl | (simp only [sI, sJ, u2]; (repeat rw [if_neg (by omega)]); done) | (simp [pctS, sI, u2, hz_]; done))
      | (have hz_ := ne_free hfr hl; simp only [sI, sJ, u2, pctS]; repeat rw [if_neg (by omega)])
theorem mk_can {X : XT} {s : SG} {T N : Nat → Nat} {I : Nat → Nat → Int32} {J : Nat → Nat → Int64} {E : Nat → Nat → UInt64} {Rf : Nat → Nat → Option Nat} {q q2 c l : Nat} (h : LF X s (T, N, I, J, E, Rf)) (hq : T q = 0) (hq2 : u1 T q 1 q2 = 0) (hqq : q2 ≠ q) (hfr : X.2.1 17 c = false) (hfr2 : X.2.1 18 c = false) (hl : X.2.1 13 l = true) (hl6 : l < 6) (z30 : s.1 30 c = 0) (z34 : s.1 34 c = 0) (z35 : s.1 35 c = 0) (z36 : s.1 36 c = 0) (z37 : s.1 37 c = 0) (z31 : ∀ f, f < 8 → s.1 31 (8 * c + f) = 0) : LF (xadd (xadd X 18 c q2) 17 c q) (can1 s c (nI l)) (u1 (u1 T q 1) q2 11, u1 (u1 N q 0) q2 8, u2 (u2 (u2 (c2 (c2 I q 0) q2 0) q 4 (-1)) q 5 (-1)) q 1 (nI l), c2 (c2 J q 0) q2 0, c2 (c2 E q 0) q2 0, u2 (u2 (c2 (c2 Rf q none) q2 none) q 2 (some q2)) q 0 (some (X.1 13 l))) := by
  obtain ⟨h1, h2⟩ := h.nq hq
  have hq3 : T q2 = 0 := by rw [u1_n _ _ hqq] at hq2; exact hq2
  obtain ⟨h3, h4⟩ := h.nq hq3
  have h5 : LF (xadd X 18 c q2) (can1 s c (nI l)) (u1 (u1 T q 1) q2 11, u1 (u1 N q 0) q2 8, u2 (u2 (u2 (c2 (c2 I q 0) q2 0) q 4 (-1)) q 5 (-1)) q 1 (nI l), c2 (c2 J q 0) q2 0, c2 (c2 E q 0) q2 0, u2 (u2 (c2 (c2 Rf q none) q2 none) q 2 (some q2)) q 0 (some (X.1 13 l))) := by
    refine (lf_can1 (p0 := nI l) h hfr).obj (by decide) hfr2 h3 h4 (fun p hp0 hp => ?_) ⟨by decide, u1_s _ _ _, u1_s _ _ _⟩ (fun f hf => ?_)
    · have hp1 : p ≠ q := fun e => by rw [e] at hp0; exact hp0 hq
      exact ⟨by show u1 (u1 T q 1) q2 11 p = T p; rw [u1_n _ _ hp, u1_n _ _ hp1], by show u1 (u1 N q 0) q2 8 p = N p; rw [u1_n _ _ hp, u1_n _ _ hp1], funext fun j => by simp [u2, c2, hp, hp1], funext fun j => by simp [u2, c2, hp, hp1], funext fun j => by simp [u2, c2, hp, hp1], funext fun j => by simp [u2, c2, hp, hp1]⟩
    · have hf8 : f < 8 := hf
      refine ⟨?_, by simp [c2, jv], by simp [u2, c2, rv, hqq], fun o ho => by simp [rv] at ho⟩
      rw [ivL_18_a]
      simp [u2, c2, hqq, can1, sI, z31 f hf8]
  refine h5.obj (by decide) (by show u2 X.2.1 18 c true 17 c = false; rw [u2, if_neg (fun z => absurd z.1 (by decide))]; exact hfr) (fun c' i' hl' e => ?_) (fun p hp => h2 p hp) (fun p _ hp => ⟨rfl, rfl, rfl, rfl, rfl, rfl⟩) ⟨by decide, by show u1 (u1 T q 1) q2 11 q = 1; rw [u1_n _ _ (fun e => hqq e.symm), u1_s], by show u1 (u1 N q 0) q2 8 q = 0; rw [u1_n _ _ (fun e => hqq e.symm), u1_s]⟩ (fun f hf => ?_)
  · have hl9 : u2 X.2.1 18 c true c' i' = true := hl'
    have e9 : u2 X.1 18 c q2 c' i' = q := e
    by_cases z : c' = 18 ∧ i' = c
    · rw [u2, if_pos z] at e9; exact hqq e9
    · rw [u2, if_neg z] at e9 hl9; exact h1 c' i' hl9 e9
  · have hf8 : f < 10 := hf
    have hqs : ¬ q = q2 := fun e => hqq e.symm
    have e29 : nat ((can1 s c (nI l)).1 29 c) = l := by rw [show (can1 s c (nI l)).1 29 c = nI l by simp [can1, sI, u2]]; exact nat_nI (by omega)
    refine ⟨?_, ?_, ?_, ?_⟩
    · rcases (show f = 0 ∨ f = 1 ∨ f = 2 ∨ f = 3 ∨ f = 4 ∨ f = 5 ∨ f = 6 ∨ f = 7 ∨ f = 8 ∨ f = 9 by omega) with rfl | rfl | rfl | rfl | rfl | rfl | rfl | rfl | rfl | rfl <;> simp [u2, c2, iv, can1, sI, hqs, z30, z34, z35, z36, z37]
    · rcases (show f = 0 ∨ f = 1 ∨ f = 2 ∨ f = 3 ∨ f = 4 ∨ f = 5 ∨ f = 6 ∨ f = 7 ∨ f = 8 ∨ f = 9 by omega) with rfl | rfl | rfl | rfl | rfl | rfl | rfl | rfl | rfl | rfl <;> simp [u2, c2, jv, hqs]
    · rcases (show f = 0 ∨ f = 1 ∨ f = 2 ∨ f = 3 ∨ f = 4 ∨ f = 5 ∨ f = 6 ∨ f = 7 ∨ f = 8 ∨ f = 9 by omega) with rfl | rfl | rfl | rfl | rfl | rfl | rfl | rfl | rfl | rfl <;> first | (show _ = Option.map _ (some (13, nat ((can1 s c (nI l)).1 29 c))); rw [e29]; simp [u2, hqs, xadd]) | (show _ = Option.map _ (some (18, c)); simp [u2, hqs, xadd]) | (show _ = Option.map _ none; simp [u2, c2, hqs])
    · intro o ho
      rcases (show f = 0 ∨ f = 1 ∨ f = 2 ∨ f = 3 ∨ f = 4 ∨ f = 5 ∨ f = 6 ∨ f = 7 ∨ f = 8 ∨ f = 9 by omega) with rfl | rfl | rfl | rfl | rfl | rfl | rfl | rfl | rfl | rfl <;> first | (have ho : some (13, nat ((can1 s c (nI l)).1 29 c)) = some o := ho; rw [e29] at ho; cases ho; show u2 X.2.1 18 c true 13 l = true; rw [u2, if_neg (fun z => absurd z.1 (by decide))]; exact hl) | (have ho : some (18, c) = some o := ho; cases ho; exact u2_s _ _ _ _) | (have ho : none = some o := ho; cases ho)
set_option maxRecDepth 100000 in
set_option maxHeartbeats 400000 in
theorem c_X8_canopy (D : DT) (X : XT) (s : SG) (a c : Nat) (p0 : Int32) (hn : s.1 0 0 = nI a) (ha : a ≤ 6) (hsl : ∀ f, f < 6 → X.2.2.1 1 f = decide (f < a)) (hc : s.1 28 0 = nI c) (hc2 : c ≤ 6) (hfr : X.2.1 17 c = false) (hfr2 : X.2.1 18 c = false) (z30 : s.1 30 c = 0) (z34 : s.1 34 c = 0) (z35 : s.1 35 c = 0) (z36 : s.1 36 c = 0) (z37 : s.1 37 c = 0) (z31 : ∀ f, f < 8 → s.1 31 (8 * c + f) = 0) (hxv : XV X) : CY yX8_canopy cX8_canopy 3 (Option.some Jvm.ClassFile.FieldType.int) rm_X8_canopy D [.ref (X.1 0 0), .int p0] X s (fun v X' s' => v = some (.int (nI c)) ∧ s' = gCan s c p0 ∧ X'.2.1 = u2 (u2 X.2.1 18 c true) 17 c true ∧ X'.2.2.1 = u2 X.2.2.1 5 c true ∧ kCan a c p0 = 0) (fun e => (e = xIO ∧ kCan a c p0 = 1) ∨ (e = xIS ∧ kCan a c p0 = 2)) := by
  intro G hG
  refine MX_of (by decide +kernel) (Nat.le_of_ble_eq_true rfl) (fun K sz hR hX => ?_)
  show V cX8_canopy _ 3 _ D K 0 [some (.ref (X.1 0 0)), some (.int p0), none] [] G (0, 0)
  refine v_aload_n (pc := 0) dX8_canopy_0 rfl rfl ?_
  refine v_iload_n (pc := 1) dX8_canopy_1 rfl rfl ?_
  refine vc_callV1 (pc := 2) (0, 0) hG dX8_canopy_2 cw_X8_85 im_yX8_lotAt se_yX8_lotAt (c_X8_lotAt D X _ a _ hn ha hsl) (hG.2.2.1 0 (by decide)) rfl rfl (Nat.le_of_ble_eq_true rfl) ⟨Nat.le_of_ble_eq_true rfl, Nat.le_of_ble_eq_true rfl⟩ ⟨by decide, by decide⟩ rfl (fun v s1 G hp hG => ?_)
  obtain ⟨hs1, hp⟩ := hp
  subst s1
  rcases hp with ⟨c2, hv1⟩ | ⟨j, hj, hj1, hL2, hv1⟩
  · subst hv1
    refine v_astore_nN (pc := 5) dX8_canopy_5 rfl rfl (by decide) ?_
    refine v_aload_nN (pc := 6) dX8_canopy_6 rfl rfl ?_
    refine v_ifnonnullN (pc := 7) dX8_canopy_7 ?_
    refine v_throw (pc := 10) hX tw_X8_89_91_93 dX8_canopy_10 dX8_canopy_13 dX8_canopy_14 dX8_canopy_16 dX8_canopy_19 (Nat.le_of_ble_eq_true rfl) ⟨by decide, by decide⟩ ⟨by decide, by decide⟩ ?_
    exact ⟨hG, Or.inl ⟨rfl, by rw [kCan, if_neg c2]⟩⟩
  · subst hj1
    subst hv1
    refine v_astore_n (pc := 5) dX8_canopy_5 rfl rfl (by decide) ?_
    refine v_aload_n (pc := 6) dX8_canopy_6 rfl rfl ?_
    refine v_ifnonnull (pc := 7) (tgt := 20) dX8_canopy_7 (by decide) ?_
    refine v_aload_n (pc := 20) dX8_canopy_20 rfl rfl ?_
    refine vc_getI (pc := 21) (f := 11) hG dX8_canopy_21 fl_X8_294 (Or.inl rfl) (hG.2.2.1 0 (by decide)) rfl (by decide) ((ivL_0_11 _ _).trans hc) ?_
    refine v_aload_n (pc := 24) dX8_canopy_24 rfl rfl ?_
    refine vc_getR (pc := 25) (f := 10) hG dX8_canopy_25 fl_X8_49 rfl (hG.2.2.1 0 (by decide)) rfl (by decide) (rvL_0_10 _ _ _) (fun hL25 => ?_)
    refine vc_alen (pc := 28) (k := 9) (x := 6) hG dX8_canopy_28 (hG.2.2.1 5 (by decide)) rfl rfl rfl ?_
    refine v_icmp_lt (pc := 29) (tgt := 43) dX8_canopy_29 (by decide) (fun c29 => ?_) (fun c29 => ?_)
    · have h6 : c < 6 := (nI_ltI (by omega) (by decide)).mp c29
      refine v_aload_n (pc := 43) dX8_canopy_43 rfl rfl ?_
      refine vc_getR (pc := 44) (f := 10) hG dX8_canopy_44 fl_X8_49 rfl (hG.2.2.1 0 (by decide)) rfl (by decide) (rvL_0_10 _ _ _) (fun hL44 => ?_)
      refine v_aload_n (pc := 47) dX8_canopy_47 rfl rfl ?_
      refine vc_getI (pc := 48) (f := 11) hG dX8_canopy_48 fl_X8_294 (Or.inl rfl) (hG.2.2.1 0 (by decide)) rfl (by decide) ((ivL_0_11 _ _).trans hc) ?_
      refine v_new (pc := 51) dX8_canopy_51 nw_X8_47 ⟨by decide, by decide⟩ (fun q hq => ?_)
      refine v_dup (pc := 54) dX8_canopy_54 rfl ?_
      refine v_aload_n (pc := 55) dX8_canopy_55 rfl rfl ?_
      refine v_iload_n (pc := 56) dX8_canopy_56 rfl rfl ?_
      obtain ⟨T, N, I, J, E, Rf⟩ := G
      have hq : T q = 0 := hq
      refine v_callI (pc := 57) (As := [.ref (X.1 13 j), .int (nI j)]) (rest := [.ref q, .int (nI c), .ref (X.1 5 0)]) dX8_canopy_57 cw_X8_299 im_yX0_init rfl (c_X0_init D _ q (X.1 13 j) (nI j) (u1_s _ _ _)) rfl rfl (Nat.le_of_ble_eq_true rfl) ⟨Nat.le_of_ble_eq_true rfl, Nat.le_of_ble_eq_true rfl⟩ ⟨by decide, by decide⟩ (fun v G1 hp => ?_)
      obtain ⟨hv1, q2, hq2, hqq, hG1⟩ := hp
      subst hv1
      subst hG1
      have hG := mk_can hG hq hq2 hqq hfr hfr2 hL2 (by omega) z30 z34 z35 z36 z37 z31
      have hxv9 : ∀ i, (xadd (xadd X 18 c q2) 17 c q).2.1 5 i = true → i = 0 := fun i hi => hxv 5 i (by decide) hi
      show V cX8_canopy _ _ _ D K 60 _ [.ref q, .int (nI c), .ref (X.1 5 0)] _ (2, 18)
      refine vc_aast (pc := 60) (ca := 5) (a := c) (k := 9) (ci := 0) (r := (RX0, TX0, 10)) hG dX8_canopy_60 (by decide) (by decide) hxv9 (u2_s _ _ _ _) rfl (u2_s _ _ _ _) rfl (by decide) rfl rfl rfl rfl (by show c < 6; omega) (fun X2 G hX2 hG => ?_)
      have e0 : X.1 0 0 = X2.1 0 0 := by rw [hX2]; rfl
      rw [e0]
      refine v_aload_n (pc := 61) dX8_canopy_61 rfl rfl ?_
      refine v_dup (pc := 62) dX8_canopy_62 rfl ?_
      refine vc_getI (pc := 63) (f := 11) hG dX8_canopy_63 fl_X8_294 (Or.inl rfl) (hG.2.2.1 0 (by decide)) rfl (by decide) (show iv _ 0 0 11 = nI c by rw [ivL_0_11]; simp [can1, sI, u2, hc]) ?_
      refine v_dup_x1 (pc := 66) dX8_canopy_66 rfl rfl ?_
      refine v_iconst (pc := 67) (v := 1) dX8_canopy_67 (by decide) ?_
      refine v_iadd (pc := 68) dX8_canopy_68 ?_
      refine vc_putI (pc := 69) hG dX8_canopy_69 fw_X8_294 rfl (Or.inl rfl) (hG.2.2.1 0 (by decide)) rfl rfl rfl (uI_0_11 _ _) (fun G hG => ?_)
      refine v_iret (pc := 72) hR dX8_canopy_72 ⟨by decide, by decide⟩ ?_
      subst hX2
      exact ⟨_, _, hG, rfl, (fun d hd => by show u2 (u2 X.1 18 c q2) 17 c q d 0 = _; rw [u2, if_neg (fun z => by omega), u2, if_neg (fun z => by omega)]), rfl, by rw [gCan, ← can1, nI_1], rfl, rfl, by rw [kCan, if_pos ((btw_ix (a := a) (by omega)).mpr ⟨j, hj, rfl⟩), if_neg (by omega)]⟩
    · have h6 : c = 6 := by rcases Nat.lt_or_ge c 6 with q | q; exact absurd (nI_lt q (by decide)) c29; omega
      refine v_throwW (pc := 32) hX tw_X8_77_297_81 dX8_canopy_32 dX8_canopy_35 dX8_canopy_36 dX8_canopy_39 dX8_canopy_42 (Nat.le_of_ble_eq_true rfl) ⟨by decide, by decide⟩ ⟨by decide, by decide⟩ ?_
      exact ⟨hG, Or.inr ⟨rfl, by rw [kCan, if_pos ((btw_ix (a := a) (by omega)).mpr ⟨j, hj, rfl⟩), if_pos h6]⟩⟩
theorem lf_rip {X : XT} {s : SG} {G : GT} (h : LF X s G) (j : Nat) : LF X (sI s 13 j 1) G := by
  refine h.congr (fun c i f hl hf => ⟨?_, rfl, rfl⟩)
  unfold iv
  split <;> first | rfl | (split <;> rfl)
set_option maxRecDepth 100000 in
set_option maxHeartbeats 400000 in
theorem c_X8_rip (D : DT) (X : XT) (s : SG) (np c : Nat) (p0 : Int32) (h : PV s np) (h2 : SV s np c) (hnp : np ≤ 12) (hc : s.1 9 0 = nI c) (hc2 : c ≤ 30) (hsl3 : ∀ f, f < 30 → X.2.2.1 3 f = decide (f < c ∧ s.1 13 f = 0)) (hxv : XV X) : CY yX8_rip cX8_rip 3 (Option.some Jvm.ClassFile.FieldType.long) rm_X8_rip D [.ref (X.1 0 0), .int p0] X s (fun v X' s' => v = some (.long (seamS s (nat p0))) ∧ s' = sI s 13 (nat p0) 1 ∧ X'.2.1 = X.2.1 ∧ X'.2.2.1 = u2 X.2.2.1 3 (nat p0) false ∧ kRip s c p0 = 0) (fun e => e = xIO ∧ kRip s c p0 = 1) := by
  intro G hG
  refine MX_of (by decide +kernel) (Nat.le_of_ble_eq_true rfl) (fun K sz hR hX => ?_)
  show V cX8_rip _ 3 _ D K 0 [some (.ref (X.1 0 0)), some (.int p0), none] [] G (0, 0)
  refine v_iload_n (pc := 0) dX8_rip_0 rfl rfl ?_
  refine v_i2l (pc := 1) dX8_rip_1 ?_
  refine v_lconst (pc := 2) (v := 0) dX8_rip_2 (by decide) ?_
  refine v_aload_n (pc := 3) dX8_rip_3 rfl rfl ?_
  refine vc_getI (pc := 4) (f := 5) hG dX8_rip_4 fl_X8_141 (Or.inl rfl) (hG.2.2.1 0 (by decide)) rfl (by decide) ((ivL_0_5 _ _).trans hc) ?_
  refine v_iconst (pc := 7) (v := 1) dX8_rip_7 (by decide) ?_
  refine v_isub (pc := 8) dX8_rip_8 ?_
  refine v_i2l (pc := 9) dX8_rip_9 ?_
  refine v_callS3 (pc := 10) (0, 0) dX8_rip_10 cw_X8_62 sm_yX8_isOutside (c_X8_isOutside D _ _ _ _ ) (Nat.le_of_ble_eq_true rfl) ⟨Nat.le_of_ble_eq_true rfl, Nat.le_of_ble_eq_true rfl⟩ ⟨by decide, by decide⟩ rfl (fun v G1 hp => ?_)
  obtain ⟨hv1, hs1⟩ := hp
  subst hv1
  subst G1
  refine v_if_eq (pc := 13) (tgt := 20) dX8_rip_13 (by decide) (fun c13 => ?_) (fun c13 => ?_)
  · rw [b2i_0] at c13
    have c13 := (out_n (a := 0) (b := nI c - 1) (by decide) rfl).mp c13
    obtain ⟨j, hj, rfl⟩ := (btw_ix (a := c) (by omega)).mp c13
    have en : nat (nI j) = j := nat_nI (by omega)
    refine v_aload_n (pc := 20) dX8_rip_20 rfl rfl ?_
    refine vc_getR (pc := 21) (f := 4) hG dX8_rip_21 fl_X8_23 rfl (hG.2.2.1 0 (by decide)) rfl (by decide) (rvL_0_4 _ _ _) (fun hL21 => ?_)
    refine v_iload_n (pc := 24) dX8_rip_24 rfl rfl ?_
    by_cases hr : s.1 13 j = 0
    · refine vc_aald (pc := 25) (k := 7) (j := j) hG dX8_rip_25 (hG.2.2.1 3 (by decide)) rfl (by decide) rfl rfl (by show _ < 30; omega) (c' := 15) (i' := j) (by show (if X.2.2.1 3 j then some (15, j) else none) = _; rw [hsl3 j (by omega), if_pos (decide_eq_true ⟨hj, hr⟩)]) (fun hL25 => ?_)
      refine v_astore_n (pc := 26) dX8_rip_26 rfl rfl (by decide) ?_
      refine v_aload_n (pc := 27) dX8_rip_27 rfl rfl ?_
      refine v_ifnonnull (pc := 28) (tgt := 41) dX8_rip_28 (by decide) ?_
      refine v_aload_n (pc := 41) dX8_rip_41 rfl rfl ?_
      refine vc_getR (pc := 42) (f := 4) hG dX8_rip_42 fl_X8_23 rfl (hG.2.2.1 0 (by decide)) rfl (by decide) (rvL_0_4 _ _ _) (fun hL42 => ?_)
      refine v_iload_n (pc := 45) dX8_rip_45 rfl rfl ?_
      refine v_null (pc := 46) dX8_rip_46 ?_
      refine vc_aastN (pc := 47) (ca := 3) (a := j) (k := 7) hG dX8_rip_47 (by decide) (by decide) (fun i hi => hxv 3 i (by decide) hi) rfl (by decide) rfl rfl (by show j < 30; omega) (fun X2 G hX2 hG => ?_)
      have e0 : X.1 = X2.1 := by rw [hX2]; rfl
      rw [e0]
      have hL9 : X2.2.1 15 j = true := by rw [hX2]; exact hL25
      refine v_aload_n (pc := 48) dX8_rip_48 rfl rfl ?_
      refine vc_callV0 (pc := 49) (0, 0) hG dX8_rip_49 cw_X8_151 im_yX7_strengthNow se_yX7_strengthNow (c_X7_strengthNow D X2 _ j np c hL9 h h2 hj hnp hc2) hL9 rfl rfl (Nat.le_of_ble_eq_true rfl) ⟨Nat.le_of_ble_eq_true rfl, Nat.le_of_ble_eq_true rfl⟩ ⟨by decide, by decide⟩ rfl (fun v s1 G hp hG => ?_)
      obtain ⟨hv1, hs1⟩ := hp
      subst hv1
      subst s1
      refine v_lret (pc := 52) hR dX8_rip_52 ⟨by decide, by decide⟩ ?_
      subst hX2
      exact ⟨_, _, (lf_rip hG j), rfl, fun c hc => rfl, by rw [en], by rw [en], rfl, by rw [en]; rfl, by rw [kRip, if_pos ⟨c13, by rw [en]; exact hr⟩]⟩
    · refine vc_aaldN (pc := 25) (k := 7) (j := j) hG dX8_rip_25 (hG.2.2.1 3 (by decide)) rfl (by decide) rfl rfl (by show _ < 30; omega) (by show (if X.2.2.1 3 j then some (15, j) else none) = _; rw [hsl3 j (by omega), if_neg (by rw [decide_eq_true_eq]; exact fun z => hr z.2)]) ?_
      refine v_astore_nN (pc := 26) dX8_rip_26 rfl rfl (by decide) ?_
      refine v_aload_nN (pc := 27) dX8_rip_27 rfl rfl ?_
      refine v_ifnonnullN (pc := 28) dX8_rip_28 ?_
      refine v_throw (pc := 31) hX tw_X8_89_149_93 dX8_rip_31 dX8_rip_34 dX8_rip_35 dX8_rip_37 dX8_rip_40 (Nat.le_of_ble_eq_true rfl) ⟨by decide, by decide⟩ ⟨by decide, by decide⟩ ?_
      exact ⟨hG, rfl, by rw [kRip, if_neg (fun z => hr (by have := z.2; rw [en] at this; exact this))]⟩
  · rw [b2i_0, Decidable.not_not] at c13
    have c13 := (out_y (a := 0) (b := nI c - 1) (by decide) rfl).mp c13
    refine v_null (pc := 16) dX8_rip_16 ?_
    refine v_goto (pc := 17) (tgt := 26) dX8_rip_17 (by decide) ?_
    refine v_astore_nN (pc := 26) dX8_rip_26 rfl rfl (by decide) ?_
    refine v_aload_nN (pc := 27) dX8_rip_27 rfl rfl ?_
    refine v_ifnonnullN (pc := 28) dX8_rip_28 ?_
    refine v_throw (pc := 31) hX tw_X8_89_149_93 dX8_rip_31 dX8_rip_34 dX8_rip_35 dX8_rip_37 dX8_rip_40 (Nat.le_of_ble_eq_true rfl) ⟨by decide, by decide⟩ ⟨by decide, by decide⟩ ?_
    exact ⟨hG, rfl, by rw [kRip, if_neg (fun z => c13 z.1)]⟩
