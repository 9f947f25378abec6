theorem ne_free {X : XT} {c a i : Nat} (h : X.2.1 c a = false) (hl : X.2.1 c i = true) : i ≠ a := fun z => by
  subst z
  rw [h] at hl
  cases hl
def acK (w h al : Int32) : Int32 := if al = 0 then w else if al = 1 then h else w + h
def lnK (w h al : Int32) : Int32 := if al = 0 then h else if al = 1 then w else w + h
def mxI (a b : Int32) : Int32 := if a < b then b else a
def lyS (s : SG) (l : Nat) (ac ln : Int32) : SG := if s.1 40 l + ac ≤ 150 then sI (sI s 40 l (s.1 40 l + ac)) 41 l (mxI (s.1 41 l) ln) else sI (sI (sI (sI (sI s 39 l (s.1 39 l + s.1 41 l)) 40 l 0) 41 l 0) 40 l (0 + ac)) 41 l (mxI 0 ln)
set_option maxRecDepth 100000 in
set_option maxHeartbeats 400000 in
theorem c_X2_layPanel (D : DT) (X : XT) (s : SG) (l : Nat) (p0 : Int32) (p1 : Int32) (p2 : Int32) (hL0 : X.2.1 13 l = true)  : CC yX2_layPanel cX2_layPanel 6 (Option.none : Option Jvm.ClassFile.FieldType) rm_X2_layPanel D [.ref (X.1 13 l), .int p0, .int p1, .int p2] X s (fun v s' => v = none ∧ s' = lyS s l (acK p0 p1 p2) (lnK p0 p1 p2)) := by
  intro G hG
  refine MC_of (by decide +kernel) (Nat.le_of_ble_eq_true rfl) (fun K sz hR => ?_)
  show V cX2_layPanel _ 6 _ D K 0 [some (.ref (X.1 13 l)), some (.int p0), some (.int p1), some (.int p2), none, none] [] G (0, 0)
  have tail : ∀ (ac ln : Int32) (G : GT), ac = acK p0 p1 p2 → ln = lnK p0 p1 p2 → LF X s G → V cX2_layPanel yX2_layPanel.cls 6 rm_X2_layPanel D K 44 [some (.ref (X.1 13 l)), some (.int p0), some (.int p1), some (.int p2), some (.int ac), some (.int ln)] [] G (0, 0) := by
    intro ac ln G hac hln hG
    refine v_aload_n (pc := 44) dX2_layPanel_44 rfl rfl ?_
    refine vc_getI (pc := 45) (f := 6) hG dX2_layPanel_45 fl_X2_32 (Or.inl rfl) (by assumption) rfl (by decide) (ivL_13_6 _ _) ?_
    refine v_iload (pc := 48) dX2_layPanel_48 rfl ?_
    refine v_iadd (pc := 50) dX2_layPanel_50 ?_
    refine v_sipush (pc := 51) (v := 150) dX2_layPanel_51 (by decide) ?_
    refine v_icmp_le (pc := 54) (tgt := 80) dX2_layPanel_54 (by decide) (fun c54 => ?_) (fun c54 => ?_)
    · refine v_aload_n (pc := 80) dX2_layPanel_80 rfl rfl ?_
      refine v_dup (pc := 81) dX2_layPanel_81 rfl ?_
      refine vc_getI (pc := 82) (f := 6) hG dX2_layPanel_82 fl_X2_32 (Or.inl rfl) (by assumption) rfl (by decide) (ivL_13_6 _ _) ?_
      refine v_iload (pc := 85) dX2_layPanel_85 rfl ?_
      refine v_iadd (pc := 87) dX2_layPanel_87 ?_
      refine vc_putI (pc := 88) hG dX2_layPanel_88 fw_X2_32 rfl (Or.inl rfl) (by assumption) rfl rfl rfl (uI_13_6 _ _ _) (fun G hG => ?_)
      refine v_aload_n (pc := 91) dX2_layPanel_91 rfl rfl ?_
      refine v_aload_n (pc := 92) dX2_layPanel_92 rfl rfl ?_
      refine vc_getI (pc := 93) (f := 7) hG dX2_layPanel_93 fl_X2_38 (Or.inl rfl) (by assumption) rfl (by decide) (show iv _ 13 l 7 = s.1 41 l by simp [ivL_13_7, sI, u2]) ?_
      refine v_iload (pc := 96) dX2_layPanel_96 rfl ?_
      refine v_imax (pc := 98) dX2_layPanel_98 ml_X2_24 mc_imax.1 mc_imax.2.1 mc_imax.2.2 (by decide) (Nat.le_of_ble_eq_true rfl) (by decide) ⟨by decide, by decide⟩ ?_
      refine vc_putI (pc := 101) hG dX2_layPanel_101 fw_X2_38 rfl (Or.inl rfl) (by assumption) rfl rfl rfl (uI_13_7 _ _ _) (fun G hG => ?_)
      refine v_vret (pc := 104) hR dX2_layPanel_104 ⟨by decide, by decide⟩ ?_
      exact ⟨_, hG, rfl, by rw [lyS, ← hac, ← hln, if_pos c54]; rfl⟩
    · refine v_aload_n (pc := 57) dX2_layPanel_57 rfl rfl ?_
      refine v_dup (pc := 58) dX2_layPanel_58 rfl ?_
      refine vc_getI (pc := 59) (f := 5) hG dX2_layPanel_59 fl_X2_35 (Or.inl rfl) (by assumption) rfl (by decide) (ivL_13_5 _ _) ?_
      refine v_aload_n (pc := 62) dX2_layPanel_62 rfl rfl ?_
      refine vc_getI (pc := 63) (f := 7) hG dX2_layPanel_63 fl_X2_38 (Or.inl rfl) (by assumption) rfl (by decide) (ivL_13_7 _ _) ?_
      refine v_iadd (pc := 66) dX2_layPanel_66 ?_
      refine vc_putI (pc := 67) hG dX2_layPanel_67 fw_X2_35 rfl (Or.inl rfl) (by assumption) rfl rfl rfl (uI_13_5 _ _ _) (fun G hG => ?_)
      refine v_aload_n (pc := 70) dX2_layPanel_70 rfl rfl ?_
      refine v_iconst (pc := 71) (v := 0) dX2_layPanel_71 (by decide) ?_
      refine vc_putI (pc := 72) hG dX2_layPanel_72 fw_X2_32 rfl (Or.inl rfl) (by assumption) rfl rfl rfl (uI_13_6 _ _ _) (fun G hG => ?_)
      refine v_aload_n (pc := 75) dX2_layPanel_75 rfl rfl ?_
      refine v_iconst (pc := 76) (v := 0) dX2_layPanel_76 (by decide) ?_
      refine vc_putI (pc := 77) hG dX2_layPanel_77 fw_X2_38 rfl (Or.inl rfl) (by assumption) rfl rfl rfl (uI_13_7 _ _ _) (fun G hG => ?_)
      refine v_aload_n (pc := 80) dX2_layPanel_80 rfl rfl ?_
      refine v_dup (pc := 81) dX2_layPanel_81 rfl ?_
      refine vc_getI (pc := 82) (f := 6) hG dX2_layPanel_82 fl_X2_32 (Or.inl rfl) (by assumption) rfl (by decide) (show iv _ 13 l 6 = 0 by simp [ivL_13_6, sI, u2]) ?_
      refine v_iload (pc := 85) dX2_layPanel_85 rfl ?_
      refine v_iadd (pc := 87) dX2_layPanel_87 ?_
      refine vc_putI (pc := 88) hG dX2_layPanel_88 fw_X2_32 rfl (Or.inl rfl) (by assumption) rfl rfl rfl (uI_13_6 _ _ _) (fun G hG => ?_)
      refine v_aload_n (pc := 91) dX2_layPanel_91 rfl rfl ?_
      refine v_aload_n (pc := 92) dX2_layPanel_92 rfl rfl ?_
      refine vc_getI (pc := 93) (f := 7) hG dX2_layPanel_93 fl_X2_38 (Or.inl rfl) (by assumption) rfl (by decide) (show iv _ 13 l 7 = 0 by simp [ivL_13_7, sI, u2]) ?_
      refine v_iload (pc := 96) dX2_layPanel_96 rfl ?_
      refine v_imax (pc := 98) dX2_layPanel_98 ml_X2_24 mc_imax.1 mc_imax.2.1 mc_imax.2.2 (by decide) (Nat.le_of_ble_eq_true rfl) (by decide) ⟨by decide, by decide⟩ ?_
      refine vc_putI (pc := 101) hG dX2_layPanel_101 fw_X2_38 rfl (Or.inl rfl) (by assumption) rfl rfl rfl (uI_13_7 _ _ _) (fun G hG => ?_)
      refine v_vret (pc := 104) hR dX2_layPanel_104 ⟨by decide, by decide⟩ ?_
      exact ⟨_, hG, rfl, by rw [lyS, ← hac, ← hln, if_neg c54]; rfl⟩
  refine v_iload_n (pc := 0) dX2_layPanel_0 rfl rfl ?_
  refine v_if_ne (pc := 1) (tgt := 8) dX2_layPanel_1 (by decide) (fun c1 => ?_) (fun c1 => ?_)
  · refine v_iload_n (pc := 8) dX2_layPanel_8 rfl rfl ?_
    refine v_iconst (pc := 9) (v := 1) dX2_layPanel_9 (by decide) ?_
    refine v_icmp_ne (pc := 10) (tgt := 17) dX2_layPanel_10 (by decide) (fun c10 => ?_) (fun c10 => ?_)
    · refine v_iload_n (pc := 17) dX2_layPanel_17 rfl rfl ?_
      refine v_iload_n (pc := 18) dX2_layPanel_18 rfl rfl ?_
      refine v_iadd (pc := 19) dX2_layPanel_19 ?_
      refine v_istore (pc := 20) dX2_layPanel_20 rfl (by decide) ?_
      refine v_iload_n (pc := 22) dX2_layPanel_22 rfl rfl ?_
      refine v_if_ne (pc := 23) (tgt := 30) dX2_layPanel_23 (by decide) (fun c23 => ?_) (fun c23 => ?_)
      · refine v_iload_n (pc := 30) dX2_layPanel_30 rfl rfl ?_
        refine v_iconst (pc := 31) (v := 1) dX2_layPanel_31 (by decide) ?_
        refine v_icmp_ne (pc := 32) (tgt := 39) dX2_layPanel_32 (by decide) (fun c32 => ?_) (fun c32 => ?_)
        · refine v_iload_n (pc := 39) dX2_layPanel_39 rfl rfl ?_
          refine v_iload_n (pc := 40) dX2_layPanel_40 rfl rfl ?_
          refine v_iadd (pc := 41) dX2_layPanel_41 ?_
          refine v_istore (pc := 42) dX2_layPanel_42 rfl (by decide) ?_
          exact tail _ _ _ (by simp_all [acK]) (by simp_all [lnK]) hG
        · refine v_iload_n (pc := 35) dX2_layPanel_35 rfl rfl ?_
          refine v_goto (pc := 36) (tgt := 42) dX2_layPanel_36 (by decide) ?_
          refine v_istore (pc := 42) dX2_layPanel_42 rfl (by decide) ?_
          exact tail _ _ _ (by simp_all [acK]) (by simp_all [lnK]) hG
      · refine v_iload_n (pc := 26) dX2_layPanel_26 rfl rfl ?_
        refine v_goto (pc := 27) (tgt := 42) dX2_layPanel_27 (by decide) ?_
        refine v_istore (pc := 42) dX2_layPanel_42 rfl (by decide) ?_
        exact tail _ _ _ (by simp_all [acK]) (by simp_all [lnK]) hG
    · refine v_iload_n (pc := 13) dX2_layPanel_13 rfl rfl ?_
      refine v_goto (pc := 14) (tgt := 20) dX2_layPanel_14 (by decide) ?_
      refine v_istore (pc := 20) dX2_layPanel_20 rfl (by decide) ?_
      refine v_iload_n (pc := 22) dX2_layPanel_22 rfl rfl ?_
      refine v_if_ne (pc := 23) (tgt := 30) dX2_layPanel_23 (by decide) (fun c23 => ?_) (fun c23 => ?_)
      · refine v_iload_n (pc := 30) dX2_layPanel_30 rfl rfl ?_
        refine v_iconst (pc := 31) (v := 1) dX2_layPanel_31 (by decide) ?_
        refine v_icmp_ne (pc := 32) (tgt := 39) dX2_layPanel_32 (by decide) (fun c32 => ?_) (fun c32 => ?_)
        · refine v_iload_n (pc := 39) dX2_layPanel_39 rfl rfl ?_
          refine v_iload_n (pc := 40) dX2_layPanel_40 rfl rfl ?_
          refine v_iadd (pc := 41) dX2_layPanel_41 ?_
          refine v_istore (pc := 42) dX2_layPanel_42 rfl (by decide) ?_
          exact tail _ _ _ (by simp_all [acK]) (by simp_all [lnK]) hG
        · refine v_iload_n (pc := 35) dX2_layPanel_35 rfl rfl ?_
          refine v_goto (pc := 36) (tgt := 42) dX2_layPanel_36 (by decide) ?_
          refine v_istore (pc := 42) dX2_layPanel_42 rfl (by decide) ?_
          exact tail _ _ _ (by simp_all [acK]) (by simp_all [lnK]) hG
      · refine v_iload_n (pc := 26) dX2_layPanel_26 rfl rfl ?_
        refine v_goto (pc := 27) (tgt := 42) dX2_layPanel_27 (by decide) ?_
        refine v_istore (pc := 42) dX2_layPanel_42 rfl (by decide) ?_
        exact tail _ _ _ (by simp_all [acK]) (by simp_all [lnK]) hG
  · refine v_iload_n (pc := 4) dX2_layPanel_4 rfl rfl ?_
    refine v_goto (pc := 5) (tgt := 20) dX2_layPanel_5 (by decide) ?_
    refine v_istore (pc := 20) dX2_layPanel_20 rfl (by decide) ?_
    refine v_iload_n (pc := 22) dX2_layPanel_22 rfl rfl ?_
    refine v_if_ne (pc := 23) (tgt := 30) dX2_layPanel_23 (by decide) (fun c23 => ?_) (fun c23 => ?_)
    · refine v_iload_n (pc := 30) dX2_layPanel_30 rfl rfl ?_
      refine v_iconst (pc := 31) (v := 1) dX2_layPanel_31 (by decide) ?_
      refine v_icmp_ne (pc := 32) (tgt := 39) dX2_layPanel_32 (by decide) (fun c32 => ?_) (fun c32 => ?_)
      · refine v_iload_n (pc := 39) dX2_layPanel_39 rfl rfl ?_
        refine v_iload_n (pc := 40) dX2_layPanel_40 rfl rfl ?_
        refine v_iadd (pc := 41) dX2_layPanel_41 ?_
        refine v_istore (pc := 42) dX2_layPanel_42 rfl (by decide) ?_
        exact tail _ _ _ (by simp_all [acK]) (by simp_all [lnK]) hG
      · refine v_iload_n (pc := 35) dX2_layPanel_35 rfl rfl ?_
        refine v_goto (pc := 36) (tgt := 42) dX2_layPanel_36 (by decide) ?_
        refine v_istore (pc := 42) dX2_layPanel_42 rfl (by decide) ?_
        exact tail _ _ _ (by simp_all [acK]) (by simp_all [lnK]) hG
    · refine v_iload_n (pc := 26) dX2_layPanel_26 rfl rfl ?_
      refine v_goto (pc := 27) (tgt := 42) dX2_layPanel_27 (by decide) ?_
      refine v_istore (pc := 42) dX2_layPanel_42 rfl (by decide) ?_
      exact tail _ _ _ (by simp_all [acK]) (by simp_all [lnK]) hG
def ow3 (s : SG) (a : Nat) : SG := sI (sI (sI s 39 a 0) 40 a 0) 41 a 0
def lot1 (s : SG) (a : Nat) (p0 p1 p2 : Int32) : SG := sI (sI (sI (ow3 s a) 1 (3 * a) p0) 1 (3 * a + 1) p1) 1 (3 * a + 2) p2
theorem lf_lot1 {X : XT} {s : SG} {G : GT} {a : Nat} {p0 p1 p2 : Int32} (h : LF X s G) (hfr : X.2.1 13 a = false) : LF X (lot1 s a p0 p1 p2) G := by
  refine h.congr ?_
  unfold lot1 ow3
  intro c i f hl hf
  refine ⟨?_, ?_, ?_⟩
  · unfold iv
    split <;> first
      | rfl
      | (have hz_ := ne_free hfr hl; split <;> first | rfl | (simp only [sI, sJ, u2]; (repeat rw [if_neg (by omega)]); done) | (simp [pctS, sI, u2, hz_]; done))
      | (have hz_ := ne_free hfr hl; simp only [sI, sJ, u2, pctS]; repeat rw [if_neg (by omega)])
  · unfold jv
    split <;> first
      | rfl
      | (have hz_ := ne_free hfr hl; split <;> first | rfl | (simp only [sI, sJ, u2]; (repeat rw [if_neg (by omega)]); done) | (simp [pctS, sI, u2, hz_]; done))
      | (have hz_ := ne_free hfr hl; simp only [sI, sJ, u2, pctS]; repeat rw [if_neg (by omega)])
  · unfold rv
    split <;> first
      | rfl
      | (have hz_ := ne_free hfr hl; split <;> first | rfl | (simp only [sI, sJ, u2]; (repeat rw [if_neg (by omega)]); done) | (simp [pctS, sI, u2, hz_]; done))
      | (have hz_ := ne_free hfr hl; simp only [sI, sJ, u2, pctS]; repeat rw [if_neg (by omega)])
theorem mk_lot {X : XT} {s : SG} {T N : Nat → Nat} {I : Nat → Nat → Int32} {J : Nat → Nat → Int64} {E : Nat → Nat → UInt64} {Rf : Nat → Nat → Option Nat} {q a : Nat} {p0 p1 p2 : Int32} (h : LF X s (T, N, I, J, E, Rf)) (hq : T q = 0) (hfr : X.2.1 13 a = false) (z2 : s.1 2 a = 0) (z3 : s.1 3 a = 0) : LF (xadd X 13 a q) (lot1 s a p0 p1 p2) (u1 T q 3, u1 N q 0, u2 (u2 (u2 (c2 I q 0) q 0 p0) q 1 p1) q 2 p2, c2 J q 0, c2 E q 0, c2 Rf q none) := by
  obtain ⟨h1, h2⟩ := h.nq hq
  refine (lf_lot1 (p0 := p0) (p1 := p1) (p2 := p2) h hfr).obj (by decide) hfr h1 h2 (fun p _ hp => ⟨u1_n _ _ hp, u1_n _ _ hp, funext fun j => by simp [u2, c2, hp], funext fun j => by simp [c2, hp], funext fun j => by simp [c2, hp], funext fun j => by simp [c2, hp]⟩) ⟨by decide, u1_s _ _ _, u1_s _ _ _⟩ (fun f hf => ?_)
  have hf8 : f < 8 := hf
  refine ⟨?_, by simp [c2, jv], by simp [c2, rv], fun o ho => by simp [rv] at ho⟩
  rcases (show f = 0 ∨ f = 1 ∨ f = 2 ∨ f = 3 ∨ f = 4 ∨ f = 5 ∨ f = 6 ∨ f = 7 by omega) with rfl | rfl | rfl | rfl | rfl | rfl | rfl | rfl <;> simp [u2, c2, iv, lot1, ow3, sI, z2, z3]
set_option maxRecDepth 100000 in
set_option maxHeartbeats 400000 in
theorem c_X8_lot (D : DT) (X : XT) (s : SG) (a : Nat) (p0 : Int32) (p1 : Int32) (p2 : Int32) (hn : s.1 0 0 = nI a) (ha : a ≤ 6) (hfr : X.2.1 13 a = false) (z2 : s.1 2 a = 0) (z3 : s.1 3 a = 0) (hxv : XV X) : CY yX8_lot cX8_lot 4 (Option.some Jvm.ClassFile.FieldType.int) rm_X8_lot D [.ref (X.1 0 0), .int p0, .int p1, .int p2] X s (fun v X' s' => v = some (.int (nI a)) ∧ s' = gLot (ow3 s a) a p0 p1 p2 ∧ X'.2.1 = u2 X.2.1 13 a true ∧ X'.2.2.1 = u2 X.2.2.1 1 a true ∧ kLot a p0 p1 p2 = 0) (fun e => (e = xIA ∧ kLot a p0 p1 p2 = 1) ∨ (e = xIS ∧ kLot a p0 p1 p2 = 2)) := by
  intro G hG
  refine MX_of (by decide +kernel) (Nat.le_of_ble_eq_true rfl) (fun K sz hR hX => ?_)
  show V cX8_lot _ 4 _ D K 0 [some (.ref (X.1 0 0)), some (.int p0), some (.int p1), some (.int p2)] [] G (0, 0)
  refine v_iload_n (pc := 0) dX8_lot_0 rfl rfl ?_
  refine v_i2l (pc := 1) dX8_lot_1 ?_
  refine v_lconst (pc := 2) (v := 1) dX8_lot_2 (by decide) ?_
  refine v_ldcL (pc := 3) dX8_lot_3 k_X8_60 ?_
  refine v_callS3 (pc := 6) (0, 0) dX8_lot_6 cw_X8_62 sm_yX8_isOutside (c_X8_isOutside D _ _ _ _ ) (Nat.le_of_ble_eq_true rfl) ⟨Nat.le_of_ble_eq_true rfl, Nat.le_of_ble_eq_true rfl⟩ ⟨by decide, by decide⟩ rfl (fun v G1 hp => ?_)
  obtain ⟨hv1, hs1⟩ := hp
  subst hv1
  subst G1
  refine v_if_ne (pc := 9) (tgt := 36) dX8_lot_9 (by decide) (fun c9 => ?_) (fun c9 => ?_)
  · rw [b2i_0, Decidable.not_not] at c9
    have c9 := (out_y (a := 1) (b := 2000000000) (by decide) (by decide)).mp c9
    refine v_throw (pc := 36) hX tw_X8_66_68_70 dX8_lot_36 dX8_lot_39 dX8_lot_40 dX8_lot_42 dX8_lot_45 (Nat.le_of_ble_eq_true rfl) ⟨by decide, by decide⟩ ⟨by decide, by decide⟩ ?_
    exact ⟨hG, Or.inl ⟨rfl, by rw [kLot, if_neg (fun z => by first | exact c9 z.1 | exact c21 z.2.1 | exact c33 z.2.2)]⟩⟩
  · rw [b2i_0] at c9
    have c9 := (out_n (a := 1) (b := 2000000000) (by decide) (by decide)).mp c9
    refine v_iload_n (pc := 12) dX8_lot_12 rfl rfl ?_
    refine v_i2l (pc := 13) dX8_lot_13 ?_
    refine v_lconst (pc := 14) (v := 1) dX8_lot_14 (by decide) ?_
    refine v_ldcL (pc := 15) dX8_lot_15 k_X8_60 ?_
    refine v_callS3 (pc := 18) (0, 0) dX8_lot_18 cw_X8_62 sm_yX8_isOutside (c_X8_isOutside D _ _ _ _ ) (Nat.le_of_ble_eq_true rfl) ⟨Nat.le_of_ble_eq_true rfl, Nat.le_of_ble_eq_true rfl⟩ ⟨by decide, by decide⟩ rfl (fun v G1 hp => ?_)
    obtain ⟨hv1, hs1⟩ := hp
    subst hv1
    subst G1
    refine v_if_ne (pc := 21) (tgt := 36) dX8_lot_21 (by decide) (fun c21 => ?_) (fun c21 => ?_)
    · rw [b2i_0, Decidable.not_not] at c21
      have c21 := (out_y (a := 1) (b := 2000000000) (by decide) (by decide)).mp c21
      refine v_throw (pc := 36) hX tw_X8_66_68_70 dX8_lot_36 dX8_lot_39 dX8_lot_40 dX8_lot_42 dX8_lot_45 (Nat.le_of_ble_eq_true rfl) ⟨by decide, by decide⟩ ⟨by decide, by decide⟩ ?_
      exact ⟨hG, Or.inl ⟨rfl, by rw [kLot, if_neg (fun z => by first | exact c9 z.1 | exact c21 z.2.1 | exact c33 z.2.2)]⟩⟩
    · rw [b2i_0] at c21
      have c21 := (out_n (a := 1) (b := 2000000000) (by decide) (by decide)).mp c21
      refine v_iload_n (pc := 24) dX8_lot_24 rfl rfl ?_
      refine v_i2l (pc := 25) dX8_lot_25 ?_
      refine v_lconst (pc := 26) (v := 1) dX8_lot_26 (by decide) ?_
      refine v_ldcL (pc := 27) dX8_lot_27 k_X8_60 ?_
      refine v_callS3 (pc := 30) (0, 0) dX8_lot_30 cw_X8_62 sm_yX8_isOutside (c_X8_isOutside D _ _ _ _ ) (Nat.le_of_ble_eq_true rfl) ⟨Nat.le_of_ble_eq_true rfl, Nat.le_of_ble_eq_true rfl⟩ ⟨by decide, by decide⟩ rfl (fun v G1 hp => ?_)
      obtain ⟨hv1, hs1⟩ := hp
      subst hv1
      subst G1
      refine v_if_eq (pc := 33) (tgt := 46) dX8_lot_33 (by decide) (fun c33 => ?_) (fun c33 => ?_)
      · rw [b2i_0] at c33
        have c33 := (out_n (a := 1) (b := 2000000000) (by decide) (by decide)).mp c33
        refine v_aload_n (pc := 46) dX8_lot_46 rfl rfl ?_
        refine vc_getI (pc := 47) (f := 1) hG dX8_lot_47 fl_X8_73 (Or.inl rfl) (hG.2.2.1 0 (by decide)) rfl (by decide) ((ivL_0_1 _ _).trans hn) ?_
        refine v_aload_n (pc := 50) dX8_lot_50 rfl rfl ?_
        refine vc_getR (pc := 51) (f := 0) hG dX8_lot_51 fl_X8_11 rfl (hG.2.2.1 0 (by decide)) rfl (by decide) (rvL_0_0 _ _ _) (fun hL51 => ?_)
        refine vc_alen (pc := 54) (k := 5) (x := 6) hG dX8_lot_54 (hG.2.2.1 1 (by decide)) rfl rfl rfl ?_
        refine v_icmp_lt (pc := 55) (tgt := 68) dX8_lot_55 (by decide) (fun c55 => ?_) (fun c55 => ?_)
        · have h6 : a < 6 := (nI_ltI (by omega) (by decide)).mp c55
          refine v_aload_n (pc := 68) dX8_lot_68 rfl rfl ?_
          refine vc_getR (pc := 69) (f := 0) hG dX8_lot_69 fl_X8_11 rfl (hG.2.2.1 0 (by decide)) rfl (by decide) (rvL_0_0 _ _ _) (fun hL69 => ?_)
          refine v_aload_n (pc := 72) dX8_lot_72 rfl rfl ?_
          refine vc_getI (pc := 73) (f := 1) hG dX8_lot_73 fl_X8_73 (Or.inl rfl) (hG.2.2.1 0 (by decide)) rfl (by decide) ((ivL_0_1 _ _).trans hn) ?_
          refine v_new (pc := 76) dX8_lot_76 nw_X8_9 ⟨by decide, by decide⟩ (fun q hq => ?_)
          refine v_dup (pc := 79) dX8_lot_79 rfl ?_
          refine v_iload_n (pc := 80) dX8_lot_80 rfl rfl ?_
          refine v_iload_n (pc := 81) dX8_lot_81 rfl rfl ?_
          refine v_iload_n (pc := 82) dX8_lot_82 rfl rfl ?_
          obtain ⟨T, N, I, J, E, Rf⟩ := G
          have hq : T q = 0 := hq
          refine v_callI (pc := 83) (As := [.int p0, .int p1, .int p2]) (rest := [.ref q, .int (nI a), .ref (X.1 1 0)]) dX8_lot_83 cw_X8_82 im_yX2_init rfl (c_X2_init D _ q p0 p1 p2 (u1_s _ _ _)) rfl rfl (Nat.le_of_ble_eq_true rfl) ⟨Nat.le_of_ble_eq_true rfl, Nat.le_of_ble_eq_true rfl⟩ ⟨by decide, by decide⟩ (fun v G1 hp => ?_)
          obtain ⟨hv1, hG1⟩ := hp
          subst hv1
          subst hG1
          have hG := mk_lot (p0 := p0) (p1 := p1) (p2 := p2) hG hq hfr z2 z3
          have hxv9 : ∀ i, (xadd X 13 a q).2.1 1 i = true → i = 0 := fun i hi => hxv 1 i (by decide) (by have : u2 X.2.1 13 a true 1 i = true := hi; rw [u2, if_neg (fun z => absurd z.1 (by decide))] at this; exact this)
          show V cX8_lot _ _ _ D K 86 _ [.ref q, .int (nI a), .ref (X.1 1 0)] _ (1, 8)
          refine vc_aast (pc := 86) (ca := 1) (a := a) (k := 5) (ci := 2) (r := (RX2, TX2, 8)) hG dX8_lot_86 (by decide) (by decide) hxv9 (u2_s _ _ _ _) rfl (u2_s _ _ _ _) rfl (by decide) rfl rfl rfl rfl (by show a < 6; omega) (fun X2 G hX2 hG => ?_)
          have e0 : X.1 0 0 = X2.1 0 0 := by rw [hX2]; rfl
          rw [e0]
          refine v_aload_n (pc := 87) dX8_lot_87 rfl rfl ?_
          refine v_dup (pc := 88) dX8_lot_88 rfl ?_
          refine vc_getI (pc := 89) (f := 1) hG dX8_lot_89 fl_X8_73 (Or.inl rfl) (hG.2.2.1 0 (by decide)) rfl (by decide) (show iv _ 0 0 1 = nI a by rw [ivL_0_1]; simp [lot1, ow3, sI, u2, hn]) ?_
          refine v_dup_x1 (pc := 92) dX8_lot_92 rfl rfl ?_
          refine v_iconst (pc := 93) (v := 1) dX8_lot_93 (by decide) ?_
          refine v_iadd (pc := 94) dX8_lot_94 ?_
          refine vc_putI (pc := 95) hG dX8_lot_95 fw_X8_73 rfl (Or.inl rfl) (hG.2.2.1 0 (by decide)) rfl rfl rfl (uI_0_1 _ _) (fun G hG => ?_)
          refine v_iret (pc := 98) hR dX8_lot_98 ⟨by decide, by decide⟩ ?_
          subst hX2
          exact ⟨_, _, hG, rfl, (fun d hd => by show u2 X.1 13 a q d 0 = _; rw [u2, if_neg (fun z => by omega)]), rfl, by rw [gLot, ← lot1, nI_1], rfl, rfl, by rw [kLot, if_pos ⟨c9, c21, c33⟩, if_neg (by omega)]⟩
        · have h6 : a = 6 := by rcases Nat.lt_or_ge a 6 with q | q; exact absurd (nI_lt q (by decide)) c55; omega
          refine v_throw (pc := 58) hX tw_X8_77_79_81 dX8_lot_58 dX8_lot_61 dX8_lot_62 dX8_lot_64 dX8_lot_67 (Nat.le_of_ble_eq_true rfl) ⟨by decide, by decide⟩ ⟨by decide, by decide⟩ ?_
          exact ⟨hG, Or.inr ⟨rfl, by rw [kLot, if_pos ⟨c9, c21, c33⟩, if_pos h6]⟩⟩
      · rw [b2i_0, Decidable.not_not] at c33
        have c33 := (out_y (a := 1) (b := 2000000000) (by decide) (by decide)).mp c33
        refine v_throw (pc := 36) hX tw_X8_66_68_70 dX8_lot_36 dX8_lot_39 dX8_lot_40 dX8_lot_42 dX8_lot_45 (Nat.le_of_ble_eq_true rfl) ⟨by decide, by decide⟩ ⟨by decide, by decide⟩ ?_
        exact ⟨hG, Or.inl ⟨rfl, by rw [kLot, if_neg (fun z => by first | exact c9 z.1 | exact c21 z.2.1 | exact c33 z.2.2)]⟩⟩
