set_option maxRecDepth 100000 in
set_option maxHeartbeats 400000 in
theorem c_X8_opens (D : DT) (X : XT) (s : SG) (c : Nat) (p0 : Int32) (h : CV s c) (hc : s.1 28 0 = nI c) (hc2 : c ≤ 6) (hsl : ∀ f, f < 6 → X.2.2.1 5 f = decide (f < c)) : CX yX8_opens cX8_opens 3 (Option.some Jvm.ClassFile.FieldType.int) rm_X8_opens D [.ref (X.1 0 0), .int p0] X s (fun v s' => v = some (.int (opS s (nat p0))) ∧ s' = s ∧ kOp c p0 = 0) (fun e => e = xIO ∧ kOp c p0 = 1) := by
  intro G hG
  refine MX_of (by decide +kernel) (Nat.le_of_ble_eq_true rfl) (fun K sz hR hX => ?_)
  show V cX8_opens _ 3 _ D K 0 [some (.ref (X.1 0 0)), some (.int p0), none] [] G (0, 0)
  refine v_aload_n (pc := 0) dX8_opens_0 rfl rfl ?_
  refine v_iload_n (pc := 1) dX8_opens_1 rfl rfl ?_
  refine vc_callV1 (pc := 2) (0, 0) hG dX8_opens_2 cw_X8_302 im_yX8_canopyAt se_yX8_canopyAt (c_X8_canopyAt D X _ c _ hc hc2 hsl) (hG.2.2.1 0 (by decide)) rfl rfl (Nat.le_of_ble_eq_true rfl) ⟨Nat.le_of_ble_eq_true rfl, Nat.le_of_ble_eq_true rfl⟩ ⟨by decide, by decide⟩ rfl (fun v s1 G hp hG => ?_)
  obtain ⟨hs1, hp⟩ := hp
  subst s1
  rcases hp with ⟨c2, hv1⟩ | ⟨j, hj, hj1, hL2, hv1⟩
  · subst hv1
    refine v_astore_nN (pc := 5) dX8_opens_5 rfl rfl (by decide) ?_
    refine v_aload_nN (pc := 6) dX8_opens_6 rfl rfl ?_
    refine v_ifnonnullN (pc := 7) dX8_opens_7 ?_
    refine v_throwW (pc := 10) hX tw_X8_89_306_93 dX8_opens_10 dX8_opens_13 dX8_opens_14 dX8_opens_17 dX8_opens_20 (Nat.le_of_ble_eq_true rfl) ⟨by decide, by decide⟩ ⟨by decide, by decide⟩ ?_
    exact ⟨hG, rfl, by rw [kOp, if_neg c2]⟩
  · subst hj1
    subst hv1
    obtain ⟨p, l, hp8, ep, hl6, el⟩ := h j hj
    have en : nat (nI j) = j := nat_nI (by omega)
    have eN : nat (s.1 29 j) = l := by rw [el]; exact nat_nI (by omega)
    have eP : nat (s.1 30 j) = p := by rw [ep]; exact nat_nI (by omega)
    refine v_astore_n (pc := 5) dX8_opens_5 rfl rfl (by decide) ?_
    refine v_aload_n (pc := 6) dX8_opens_6 rfl rfl ?_
    refine v_ifnonnull (pc := 7) (tgt := 21) dX8_opens_7 (by decide) ?_
    refine v_aload_n (pc := 21) dX8_opens_21 rfl rfl ?_
    refine vc_callV0 (pc := 22) (0, 0) hG dX8_opens_22 cw_X8_323 im_yX0_roundsToOpen se_yX0_roundsToOpen (c_X0_roundsToOpen D X _ j p (by assumption) ep hp8) (by assumption) rfl rfl (Nat.le_of_ble_eq_true rfl) ⟨Nat.le_of_ble_eq_true rfl, Nat.le_of_ble_eq_true rfl⟩ ⟨by decide, by decide⟩ rfl (fun v s1 G hp hG => ?_)
    obtain ⟨hv1, hs1⟩ := hp
    subst hv1
    subst s1
    refine v_iret (pc := 25) hR dX8_opens_25 ⟨by decide, by decide⟩ ?_
    exact ⟨_, hG, by rw [en, opS, eP], rfl, by rw [kOp, if_pos ((btw_ix (a := c) (by omega)).mpr ⟨j, hj, rfl⟩)]⟩
set_option maxRecDepth 100000 in
set_option maxHeartbeats 400000 in
theorem c_X8_ofCanopy (D : DT) (X : XT) (s : SG) (c : Nat) (p0 : Int32) (p1 : Int32) (h : CV s c) (hc : s.1 28 0 = nI c) (hc2 : c ≤ 6) (hsl : ∀ f, f < 6 → X.2.2.1 5 f = decide (f < c)) : CX yX8_ofCanopy cX8_ofCanopy 4 (Option.some Jvm.ClassFile.FieldType.int) rm_X8_ofCanopy D [.ref (X.1 0 0), .int p0, .int p1] X s (fun v s' => v = some (.int (ofS s (nat p0) p1)) ∧ s' = s ∧ kOf c p0 p1 0 5 = 0) (fun e => (e = xIO ∧ kOf c p0 p1 0 5 = 1) ∨ (e = xIA ∧ kOf c p0 p1 0 5 = 2)) := by
  intro G hG
  refine MX_of (by decide +kernel) (Nat.le_of_ble_eq_true rfl) (fun K sz hR hX => ?_)
  show V cX8_ofCanopy _ 4 _ D K 0 [some (.ref (X.1 0 0)), some (.int p0), some (.int p1), none] [] G (0, 0)
  refine v_aload_n (pc := 0) dX8_ofCanopy_0 rfl rfl ?_
  refine v_iload_n (pc := 1) dX8_ofCanopy_1 rfl rfl ?_
  refine vc_callV1 (pc := 2) (0, 0) hG dX8_ofCanopy_2 cw_X8_302 im_yX8_canopyAt se_yX8_canopyAt (c_X8_canopyAt D X _ c _ hc hc2 hsl) (hG.2.2.1 0 (by decide)) rfl rfl (Nat.le_of_ble_eq_true rfl) ⟨Nat.le_of_ble_eq_true rfl, Nat.le_of_ble_eq_true rfl⟩ ⟨by decide, by decide⟩ rfl (fun v s1 G hp hG => ?_)
  obtain ⟨hs1, hp⟩ := hp
  subst s1
  rcases hp with ⟨c2, hv1⟩ | ⟨j, hj, hj1, hL2, hv1⟩
  · subst hv1
    refine v_astore_nN (pc := 5) dX8_ofCanopy_5 rfl rfl (by decide) ?_
    refine v_aload_nN (pc := 6) dX8_ofCanopy_6 rfl rfl ?_
    refine v_ifnonnullN (pc := 7) dX8_ofCanopy_7 ?_
    refine v_throwW (pc := 10) hX tw_X8_89_306_93 dX8_ofCanopy_10 dX8_ofCanopy_13 dX8_ofCanopy_14 dX8_ofCanopy_17 dX8_ofCanopy_20 (Nat.le_of_ble_eq_true rfl) ⟨by decide, by decide⟩ ⟨by decide, by decide⟩ ?_
    exact ⟨hG, Or.inl ⟨rfl, by rw [kOf, if_neg c2]⟩⟩
  · subst hj1
    subst hv1
    obtain ⟨p, l, hp8, ep, hl6, el⟩ := h j hj
    have en : nat (nI j) = j := nat_nI (by omega)
    have eN : nat (s.1 29 j) = l := by rw [el]; exact nat_nI (by omega)
    have eP : nat (s.1 30 j) = p := by rw [ep]; exact nat_nI (by omega)
    refine v_astore_n (pc := 5) dX8_ofCanopy_5 rfl rfl (by decide) ?_
    refine v_aload_n (pc := 6) dX8_ofCanopy_6 rfl rfl ?_
    refine v_ifnonnull (pc := 7) (tgt := 21) dX8_ofCanopy_7 (by decide) ?_
    refine v_iload_n (pc := 21) dX8_ofCanopy_21 rfl rfl ?_
    refine v_i2l (pc := 22) dX8_ofCanopy_22 ?_
    refine v_lconst (pc := 23) (v := 0) dX8_ofCanopy_23 (by decide) ?_
    refine v_ldcL (pc := 24) dX8_ofCanopy_24 k_X8_376 ?_
    refine v_callS3 (pc := 27) (0, 0) dX8_ofCanopy_27 cw_X8_62 sm_yX8_isOutside (c_X8_isOutside D _ _ _ _ ) (Nat.le_of_ble_eq_true rfl) ⟨Nat.le_of_ble_eq_true rfl, Nat.le_of_ble_eq_true rfl⟩ ⟨by decide, by decide⟩ rfl (fun v G1 hp => ?_)
    obtain ⟨hv1, hs1⟩ := hp
    subst hv1
    subst G1
    refine v_if_eq (pc := 30) (tgt := 44) dX8_ofCanopy_30 (by decide) (fun c30 => ?_) (fun c30 => ?_)
    · rw [b2i_0] at c30
      have c30 := (out_n (a := 0) (b := 5) (by decide) (by decide)).mp c30
      refine v_aload_n (pc := 44) dX8_ofCanopy_44 rfl rfl ?_
      refine v_iload_n (pc := 45) dX8_ofCanopy_45 rfl rfl ?_
      refine vc_callV1 (pc := 46) (0, 0) hG dX8_ofCanopy_46 cw_X8_380 im_yX0_numberOf se_yX0_numberOf (c_X0_numberOf D X _ j _ (by assumption) c30) (by assumption) rfl rfl (Nat.le_of_ble_eq_true rfl) ⟨Nat.le_of_ble_eq_true rfl, Nat.le_of_ble_eq_true rfl⟩ ⟨by decide, by decide⟩ rfl (fun v s1 G hp hG => ?_)
      obtain ⟨hv1, hs1⟩ := hp
      subst hv1
      subst s1
      refine v_iret (pc := 49) hR dX8_ofCanopy_49 ⟨by decide, by decide⟩ ?_
      exact ⟨_, hG, by rw [en], rfl, by rw [kOf, if_pos ((btw_ix (a := c) (by omega)).mpr ⟨j, hj, rfl⟩), if_pos c30]⟩
    · rw [b2i_0, Decidable.not_not] at c30
      have c30 := (out_y (a := 0) (b := 5) (by decide) (by decide)).mp c30
      refine v_throwW (pc := 33) hX tw_X8_66_378_70 dX8_ofCanopy_33 dX8_ofCanopy_36 dX8_ofCanopy_37 dX8_ofCanopy_40 dX8_ofCanopy_43 (Nat.le_of_ble_eq_true rfl) ⟨by decide, by decide⟩ ⟨by decide, by decide⟩ ?_
      exact ⟨hG, Or.inr ⟨rfl, by rw [kOf, if_pos ((btw_ix (a := c) (by omega)).mpr ⟨j, hj, rfl⟩), if_neg c30]⟩⟩
set_option maxRecDepth 100000 in
set_option maxHeartbeats 400000 in
theorem c_X8_part (D : DT) (X : XT) (s : SG) (c : Nat) (p0 : Int32) (p1 : Int32) (h : CV s c) (h33 : ∀ j, j < c → (s.1 32 j = -1 ↔ s.1 33 j = -1)) (hc : s.1 28 0 = nI c) (hc2 : c ≤ 6) (hsl : ∀ f, f < 6 → X.2.2.1 5 f = decide (f < c)) : CX yX8_part cX8_part 4 (Option.some Jvm.ClassFile.FieldType.int) rm_X8_part D [.ref (X.1 0 0), .int p0, .int p1] X s (fun v s' => v = some (.int (s.1 30 (nat p0))) ∧ s' = gPart s (nat p0) (nat (s.1 30 (nat p0))) p1 ∧ kPart s c p0 p1 = 0) (fun e => (e = xIO ∧ kPart s c p0 p1 = 1) ∨ (e = xIA ∧ kPart s c p0 p1 = 2) ∨ (e = xIS ∧ kPart s c p0 p1 = 3)) := by
  intro G hG
  refine MX_of (by decide +kernel) (Nat.le_of_ble_eq_true rfl) (fun K sz hR hX => ?_)
  show V cX8_part _ 4 _ D K 0 [some (.ref (X.1 0 0)), some (.int p0), some (.int p1), none] [] G (0, 0)
  refine v_aload_n (pc := 0) dX8_part_0 rfl rfl ?_
  refine v_iload_n (pc := 1) dX8_part_1 rfl rfl ?_
  refine vc_callV1 (pc := 2) (0, 0) hG dX8_part_2 cw_X8_302 im_yX8_canopyAt se_yX8_canopyAt (c_X8_canopyAt D X _ c _ hc hc2 hsl) (hG.2.2.1 0 (by decide)) rfl rfl (Nat.le_of_ble_eq_true rfl) ⟨Nat.le_of_ble_eq_true rfl, Nat.le_of_ble_eq_true rfl⟩ ⟨by decide, by decide⟩ rfl (fun v s1 G hp hG => ?_)
  obtain ⟨hs1, hp⟩ := hp
  subst s1
  rcases hp with ⟨c2, hv1⟩ | ⟨j, hj, hj1, hL2, hv1⟩
  · subst hv1
    refine v_astore_nN (pc := 5) dX8_part_5 rfl rfl (by decide) ?_
    refine v_aload_nN (pc := 6) dX8_part_6 rfl rfl ?_
    refine v_ifnonnullN (pc := 7) dX8_part_7 ?_
    refine v_throwW (pc := 10) hX tw_X8_89_306_93 dX8_part_10 dX8_part_13 dX8_part_14 dX8_part_17 dX8_part_20 (Nat.le_of_ble_eq_true rfl) ⟨by decide, by decide⟩ ⟨by decide, by decide⟩ ?_
    exact ⟨hG, Or.inl ⟨rfl, by rw [kPart, if_neg c2]⟩⟩
  · subst hj1
    subst hv1
    obtain ⟨p, l, hp8, ep, hl6, el⟩ := h j hj
    have en : nat (nI j) = j := nat_nI (by omega)
    have eN : nat (s.1 29 j) = l := by rw [el]; exact nat_nI (by omega)
    have eP : nat (s.1 30 j) = p := by rw [ep]; exact nat_nI (by omega)
    refine v_astore_n (pc := 5) dX8_part_5 rfl rfl (by decide) ?_
    refine v_aload_n (pc := 6) dX8_part_6 rfl rfl ?_
    refine v_ifnonnull (pc := 7) (tgt := 21) dX8_part_7 (by decide) ?_
    refine v_iload_n (pc := 21) dX8_part_21 rfl rfl ?_
    refine v_i2l (pc := 22) dX8_part_22 ?_
    refine v_lconst (pc := 23) (v := 0) dX8_part_23 (by decide) ?_
    refine v_ldcL (pc := 24) dX8_part_24 k_X8_308 ?_
    refine v_callS3 (pc := 27) (0, 0) dX8_part_27 cw_X8_62 sm_yX8_isOutside (c_X8_isOutside D _ _ _ _ ) (Nat.le_of_ble_eq_true rfl) ⟨Nat.le_of_ble_eq_true rfl, Nat.le_of_ble_eq_true rfl⟩ ⟨by decide, by decide⟩ rfl (fun v G1 hp => ?_)
    obtain ⟨hv1, hs1⟩ := hp
    subst hv1
    subst G1
    refine v_if_eq (pc := 30) (tgt := 44) dX8_part_30 (by decide) (fun c30 => ?_) (fun c30 => ?_)
    · rw [b2i_0] at c30
      have c30 := (out_n (a := 0) (b := 255) (by decide) (by decide)).mp c30
      refine v_aload_n (pc := 44) dX8_part_44 rfl rfl ?_
      refine vc_getI (pc := 45) (f := 3) hG dX8_part_45 fl_X8_312 (Or.inl rfl) (by assumption) rfl (by decide) (ivL_17_3 _ _) ?_
      refine v_aload_n (pc := 48) dX8_part_48 rfl rfl ?_
      refine vc_getR (pc := 49) (f := 2) hG dX8_part_49 fl_X8_315 rfl (by assumption) rfl (by decide) (rvL_17_2 _ _ _) (fun hL49 => ?_)
      refine vc_alen (pc := 52) (k := 0) (x := 8) hG dX8_part_52 (by assumption) rfl rfl rfl ?_
      refine v_icmp_ge (pc := 53) (tgt := 63) dX8_part_53 (by decide) (fun c53 => ?_) (fun c53 => ?_)
      · have e8 : s.1 30 j = 8 := by rw [ep] at c53 ⊢; rw [show p = 8 from (by have := (nI_leI (a := 8) (b := p) (by decide) (by omega)).mp c53; omega)]; rfl
        refine v_throwW (pc := 63) hX tw_X8_77_321_81 dX8_part_63 dX8_part_66 dX8_part_67 dX8_part_70 dX8_part_73 (Nat.le_of_ble_eq_true rfl) ⟨by decide, by decide⟩ ⟨by decide, by decide⟩ ?_
        exact ⟨hG, Or.inr (Or.inr ⟨rfl, by rw [kPart, if_pos ((btw_ix (a := c) (by omega)).mpr ⟨j, hj, rfl⟩), if_pos c30, en, if_pos (by first | exact Or.inl e8 | exact Or.inr (fun z => c60 ((h33 j hj).mp z)))]⟩)⟩
      · have e8 : ¬ s.1 30 j = 8 := fun z => c53 (by rw [z]; exact Int32.le_refl _)
        have hp7 : p < 8 := by rcases Nat.lt_or_ge p 8 with q | q; exact q; exact absurd (show s.1 30 j = 8 by rw [ep, show p = 8 by omega]; rfl) e8
        refine v_aload_n (pc := 56) dX8_part_56 rfl rfl ?_
        refine vc_callV0 (pc := 57) (0, 0) hG dX8_part_57 cw_X8_318 im_yX0_isSealed se_yX0_isSealed (c_X0_isSealed D X _ j (by assumption)) (by assumption) rfl rfl (Nat.le_of_ble_eq_true rfl) ⟨Nat.le_of_ble_eq_true rfl, Nat.le_of_ble_eq_true rfl⟩ ⟨by decide, by decide⟩ rfl (fun v s1 G hp hG => ?_)
        obtain ⟨hv1, hs1⟩ := hp
        subst hv1
        subst s1
        refine v_if_eq (pc := 60) (tgt := 74) dX8_part_60 (by decide) (fun c60 => ?_) (fun c60 => ?_)
        · rw [b2i_0] at c60
          rw [Decidable.not_not] at c60
          refine v_aload_n (pc := 74) dX8_part_74 rfl rfl ?_
          refine vc_getR (pc := 75) (f := 2) hG dX8_part_75 fl_X8_315 rfl (by assumption) rfl (by decide) (rvL_17_2 _ _ _) (fun hL75 => ?_)
          refine v_aload_n (pc := 78) dX8_part_78 rfl rfl ?_
          refine vc_getI (pc := 79) (f := 3) hG dX8_part_79 fl_X8_312 (Or.inl rfl) (by assumption) rfl (by decide) ((ivL_17_3 _ _).trans ep) ?_
          refine v_iload_n (pc := 82) dX8_part_82 rfl rfl ?_
          refine vc_iast (pc := 83) (j := p) hG dX8_part_83 (by assumption) rfl rfl (by show _ < 8; omega) (uI_18_a _ _ _ (by omega) _) (fun G hG => ?_)
          refine v_aload_n (pc := 84) dX8_part_84 rfl rfl ?_
          refine v_dup (pc := 85) dX8_part_85 rfl ?_
          refine vc_getI (pc := 86) (f := 3) hG dX8_part_86 fl_X8_312 (Or.inl rfl) (by assumption) rfl (by decide) (show iv _ 17 j 3 = nI p by simp [ivL_17_3, sI, u2, ep]) ?_
          refine v_dup_x1 (pc := 89) dX8_part_89 rfl rfl ?_
          refine v_iconst (pc := 90) (v := 1) dX8_part_90 (by decide) ?_
          refine v_iadd (pc := 91) dX8_part_91 ?_
          refine vc_putI (pc := 92) hG dX8_part_92 fw_X8_312 rfl (Or.inl rfl) (by assumption) rfl rfl rfl (uI_17_3 _ _ _) (fun G hG => ?_)
          refine v_iret (pc := 95) hR dX8_part_95 ⟨by decide, by decide⟩ ?_
          exact ⟨_, hG, by rw [en, ep], by rw [en, eP, gPart, nI_1], by rw [kPart, if_pos ((btw_ix (a := c) (by omega)).mpr ⟨j, hj, rfl⟩), if_pos c30, en, if_neg (fun z => z.elim e8 (fun z => z ((h33 j hj).mpr c60)))]⟩
        · rw [b2i_0, Decidable.not_not] at c60
          refine v_throwW (pc := 63) hX tw_X8_77_321_81 dX8_part_63 dX8_part_66 dX8_part_67 dX8_part_70 dX8_part_73 (Nat.le_of_ble_eq_true rfl) ⟨by decide, by decide⟩ ⟨by decide, by decide⟩ ?_
          exact ⟨hG, Or.inr (Or.inr ⟨rfl, by rw [kPart, if_pos ((btw_ix (a := c) (by omega)).mpr ⟨j, hj, rfl⟩), if_pos c30, en, if_pos (by first | exact Or.inl e8 | exact Or.inr (fun z => c60 ((h33 j hj).mp z)))]⟩)⟩
    · rw [b2i_0, Decidable.not_not] at c30
      have c30 := (out_y (a := 0) (b := 255) (by decide) (by decide)).mp c30
      refine v_throwW (pc := 33) hX tw_X8_66_310_70 dX8_part_33 dX8_part_36 dX8_part_37 dX8_part_40 dX8_part_43 (Nat.le_of_ble_eq_true rfl) ⟨by decide, by decide⟩ ⟨by decide, by decide⟩ ?_
      exact ⟨hG, Or.inr (Or.inl ⟨rfl, by rw [kPart, if_pos ((btw_ix (a := c) (by omega)).mpr ⟨j, hj, rfl⟩), if_neg c30]⟩)⟩
theorem sI_sw {s : SG} {a b : Nat} (h : a ≠ b) {i j : Nat} {x y : Int32} : sI (sI s a i x) b j y = sI (sI s b j y) a i x := by
  refine Prod.ext (funext fun k => funext fun q => ?_) rfl
  simp only [sI, u2]
  by_cases h1 : k = b ∧ q = j
  · rw [if_pos h1, if_neg (fun z => h (by rw [← z.1, h1.1])), if_pos h1]
  · rw [if_neg h1]
    by_cases h2 : k = a ∧ q = i
    · rw [if_pos h2, if_pos h2]
    · rw [if_neg h2, if_neg h2, if_neg h1]
def lgF (s : SG) (v : Int32) : Nat → Nat
  | 0 => 0
  | i + 1 => lgF s v i + (if s.1 44 i = v then 1 else 0)
theorem lgF_le (s : SG) (v : Int32) : ∀ i, lgF s v i ≤ i := by
  intro i
  induction i with
  | zero => exact Nat.le_refl _
  | succ i ih => rw [lgF]; split <;> omega
def noteS (s : SG) (j q n : Nat) : SG := sI (sI s 44 n (nI (8 * j + q))) 45 0 (nI (n + 1))
theorem n_b8 : ∀ v, v < 128 → (nI v).toInt8.toInt32 = nI v ∧ vp_nar .byte (nI v) = nI v := by decide +kernel
def LG (s : SG) (c n : Nat) : Prop := ∀ j, j < c → s.1 34 j = nI (lgF s (nI (8 * j + 3)) n) ∧ s.1 35 j = nI (lgF s (nI (8 * j + 4)) n) ∧ s.1 36 j = nI (lgF s (nI (8 * j + 5)) n)
set_option maxRecDepth 100000 in
set_option maxHeartbeats 400000 in
theorem c_X1_note (D : DT) (X : XT) (s : SG) (j q n : Nat)  (hn : s.1 45 0 = nI n) (hn5 : n < 512) (hj : j < 6) (hq : q < 8) : CC yX1_note cX1_note 3 (Option.none : Option Jvm.ClassFile.FieldType) rm_X1_note D [.ref (X.1 11 0), .int (nI j), .int (nI q)] X s (fun v s' => v = none ∧ s' = noteS s j q n) := by
  intro G hG
  refine MC_of (by decide +kernel) (Nat.le_of_ble_eq_true rfl) (fun K sz hR => ?_)
  show V cX1_note _ 3 _ D K 0 [some (.ref (X.1 11 0)), some (.int (nI j)), some (.int (nI q))] [] G (0, 0)
  refine v_aload_n (pc := 0) dX1_note_0 rfl rfl ?_
  refine vc_getI (pc := 1) (f := 1) hG dX1_note_1 fl_X1_15 (Or.inl rfl) (hG.2.2.1 11 (by decide)) rfl (by decide) ((ivL_11_1 _ _).trans hn) ?_
  refine v_aload_n (pc := 4) dX1_note_4 rfl rfl ?_
  refine vc_getR (pc := 5) (f := 0) hG dX1_note_5 fl_X1_9 rfl (hG.2.2.1 11 (by decide)) rfl (by decide) (rvL_11_0 _ _ _) (fun hL5 => ?_)
  refine vc_alen (pc := 8) (k := 3) (x := 512) hG dX1_note_8 (hG.2.2.1 12 (by decide)) rfl rfl rfl ?_
  refine v_icmp_ge (pc := 9) (tgt := 38) dX1_note_9 (by decide) (fun c9 => absurd c9 (nI_ge (b := 512) (by omega) (by decide))) (fun c9 => ?_)
  refine v_aload_n (pc := 12) dX1_note_12 rfl rfl ?_
  refine vc_getR (pc := 13) (f := 0) hG dX1_note_13 fl_X1_9 rfl (hG.2.2.1 11 (by decide)) rfl (by decide) (rvL_11_0 _ _ _) (fun hL13 => ?_)
  refine v_aload_n (pc := 16) dX1_note_16 rfl rfl ?_
  refine vc_getI (pc := 17) (f := 1) hG dX1_note_17 fl_X1_15 (Or.inl rfl) (hG.2.2.1 11 (by decide)) rfl (by decide) ((ivL_11_1 _ _).trans hn) ?_
  refine v_iload_n (pc := 20) dX1_note_20 rfl rfl ?_
  refine v_bipush (pc := 21) (v := 8) dX1_note_21 (by decide) ?_
  refine v_imul (pc := 23) dX1_note_23 ?_
  refine v_iload_n (pc := 24) dX1_note_24 rfl rfl ?_
  refine v_iadd (pc := 25) dX1_note_25 ?_
  refine v_i2b (pc := 26) dX1_note_26 ?_
  rw [show nI j * 8 + nI q = nI (8 * j + q) by rw [show (8 : Int32) = nI 8 from rfl, n_mul, nI_add, Nat.mul_comm], (n_b8 (8 * j + q) (by omega)).1]
  refine vc_bast (pc := 27) (j := n) hG dX1_note_27 (hG.2.2.1 12 (by decide)) rfl rfl (by show _ < 512; omega) (n_b8 (8 * j + q) (by omega)).2 (uI_12_a _ _ _) (fun G hG => ?_)
  refine v_aload_n (pc := 28) dX1_note_28 rfl rfl ?_
  refine v_dup (pc := 29) dX1_note_29 rfl ?_
  refine vc_getI (pc := 30) (f := 1) hG dX1_note_30 fl_X1_15 (Or.inl rfl) (hG.2.2.1 11 (by decide)) rfl (by decide) (show iv _ 11 0 1 = nI n by simp [ivL_11_1, sI, u2, hn]) ?_
  refine v_iconst (pc := 33) (v := 1) dX1_note_33 (by decide) ?_
  refine v_iadd (pc := 34) dX1_note_34 ?_
  refine vc_putI (pc := 35) hG dX1_note_35 fw_X1_15 rfl (Or.inl rfl) (hG.2.2.1 11 (by decide)) rfl rfl rfl (uI_11_1 _ _) (fun G hG => ?_)
  refine v_vret (pc := 38) hR dX1_note_38 ⟨by decide, by decide⟩ ?_
  exact ⟨_, hG, rfl, by rw [noteS, nI_1]⟩
set_option maxRecDepth 100000 in
set_option maxHeartbeats 400000 in
theorem l_X1_timesNoted {D : DT} {K : KT} {X : XT} {s : SG} (j q n : Nat) (hn : s.1 45 0 = nI n) (hn5 : n ≤ 512) (kk : ∀ (G : GT), LF X s G → V cX1_timesNoted yX1_timesNoted.cls 5 rm_X1_timesNoted D K 39 [some (.ref (X.1 11 0)), some (.int (nI j)), some (.int (nI q)), some (.int (nI (lgF s (nI (8 * j + q)) n))), some (.int (nI n))] [] G (0, 0)) : ∀ (d i : Nat)  (G : GT), i + d = n → LF X s G → V cX1_timesNoted yX1_timesNoted.cls 5 rm_X1_timesNoted D K 5 [some (.ref (X.1 11 0)), some (.int (nI j)), some (.int (nI q)), some (.int (nI (lgF s (nI (8 * j + q)) i))), some (.int (nI i))] [] G (0, 0) := by
  intro d
  induction d with
  | zero =>
    intro i  G he0 hG
    refine v_iload (pc := 5) dX1_timesNoted_5 rfl ?_
    refine v_aload_n (pc := 7) dX1_timesNoted_7 rfl rfl ?_
    refine vc_getI (pc := 8) (f := 1) hG dX1_timesNoted_8 fl_X1_15 (Or.inl rfl) (hG.2.2.1 11 (by decide)) rfl (by decide) ((ivL_11_1 _ _).trans hn) ?_
    refine v_icmp_ge (pc := 11) (tgt := 39) dX1_timesNoted_11 (by decide) (fun c11 => ?_) (fun c11 => absurd c11 (not_not_intro (by rw [show i = n by omega]; exact Int32.le_refl _)))
    have e : i = n := by omega
    subst e
    exact kk G hG
  | succ d ih =>
    intro i  G he0 hG
    refine v_iload (pc := 5) dX1_timesNoted_5 rfl ?_
    refine v_aload_n (pc := 7) dX1_timesNoted_7 rfl rfl ?_
    refine vc_getI (pc := 8) (f := 1) hG dX1_timesNoted_8 fl_X1_15 (Or.inl rfl) (hG.2.2.1 11 (by decide)) rfl (by decide) ((ivL_11_1 _ _).trans hn) ?_
    refine v_icmp_ge (pc := 11) (tgt := 39) dX1_timesNoted_11 (by decide) (fun c11 => absurd c11 (nI_ge (by omega) (by omega))) (fun c11 => ?_)
    refine v_aload_n (pc := 14) dX1_timesNoted_14 rfl rfl ?_
    refine vc_getR (pc := 15) (f := 0) hG dX1_timesNoted_15 fl_X1_9 rfl (hG.2.2.1 11 (by decide)) rfl (by decide) (rvL_11_0 _ _ _) (fun hL15 => ?_)
    refine v_iload (pc := 18) dX1_timesNoted_18 rfl ?_
    refine vc_bald (pc := 20) (j := i) hG dX1_timesNoted_20 (hG.2.2.1 12 (by decide)) rfl rfl (by show _ < 512; omega) (ivL_12_a _ _) ?_
    refine v_iload_n (pc := 21) dX1_timesNoted_21 rfl rfl ?_
    refine v_bipush (pc := 22) (v := 8) dX1_timesNoted_22 (by decide) ?_
    refine v_imul (pc := 24) dX1_timesNoted_24 ?_
    refine v_iload_n (pc := 25) dX1_timesNoted_25 rfl rfl ?_
    refine v_iadd (pc := 26) dX1_timesNoted_26 ?_
    refine v_icmp_ne (pc := 27) (tgt := 33) dX1_timesNoted_27 (by decide) (fun c27 => ?_) (fun c27 => ?_)
    · have e9 : nI (lgF s (nI (8 * j + q)) i) = nI (lgF s (nI (8 * j + q)) (i + 1)) := by rw [lgF, if_neg (fun z => c27 (by rw [z, show (8 : Int32) = nI 8 from rfl, n_mul, nI_add, Nat.mul_comm])), Nat.add_zero]
      refine v_iinc (pc := 33) dX1_timesNoted_33 rfl (nI_1 i) rfl (by decide) ?_
      refine v_goto (pc := 36) (tgt := 5) dX1_timesNoted_36 (by decide) ?_
      have e8 := ih (i + 1) G (by omega) hG
      rw [← e9] at e8
      exact e8
    · have e9 : nI (lgF s (nI (8 * j + q)) i + 1) = nI (lgF s (nI (8 * j + q)) (i + 1)) := by rw [lgF, if_pos (by rw [c27, show (8 : Int32) = nI 8 from rfl, n_mul, nI_add, Nat.mul_comm])]
      refine v_iinc (pc := 30) dX1_timesNoted_30 rfl (nI_1 _) rfl (by decide) ?_
      refine v_iinc (pc := 33) dX1_timesNoted_33 rfl (nI_1 i) rfl (by decide) ?_
      refine v_goto (pc := 36) (tgt := 5) dX1_timesNoted_36 (by decide) ?_
      have e8 := ih (i + 1) G (by omega) hG
      rw [← e9] at e8
      exact e8
set_option maxRecDepth 100000 in
set_option maxHeartbeats 400000 in
theorem c_X1_timesNoted (D : DT) (X : XT) (s : SG) (j q n : Nat)  (hn : s.1 45 0 = nI n) (hn5 : n ≤ 512) : CC yX1_timesNoted cX1_timesNoted 5 (Option.some Jvm.ClassFile.FieldType.int) rm_X1_timesNoted D [.ref (X.1 11 0), .int (nI j), .int (nI q)] X s (fun v s' => v = some (.int (nI (lgF s (nI (8 * j + q)) n))) ∧ s' = s) := by
  intro G hG
  refine MC_of (by decide +kernel) (Nat.le_of_ble_eq_true rfl) (fun K sz hR => ?_)
  show V cX1_timesNoted _ 5 _ D K 0 [some (.ref (X.1 11 0)), some (.int (nI j)), some (.int (nI q)), none, none] [] G (0, 0)
  refine v_iconst (pc := 0) (v := 0) dX1_timesNoted_0 (by decide) ?_
  refine v_istore_n (pc := 1) dX1_timesNoted_1 rfl rfl (by decide) ?_
  refine v_iconst (pc := 2) (v := 0) dX1_timesNoted_2 (by decide) ?_
  refine v_istore (pc := 3) dX1_timesNoted_3 rfl (by decide) ?_
  refine l_X1_timesNoted (s := s) j q n hn hn5 (fun G hG => ?_) n 0 G (by omega) hG
  refine v_iload_n (pc := 39) dX1_timesNoted_39 rfl rfl ?_
  refine v_iret (pc := 40) hR dX1_timesNoted_40 ⟨by decide, by decide⟩ ?_
  exact ⟨_, hG, rfl, rfl⟩
theorem btw35 {p : Int32} (h : btw p 3 5) : ∃ q, (q = 3 ∨ q = 4 ∨ q = 5) ∧ p = nI q := by
  obtain ⟨q, hq, rfl⟩ := (btw_lit (M := 5) (N := 5) rfl).mp ⟨Int32.le_trans (by decide) h.1, h.2⟩
  refine ⟨q, ?_, rfl⟩
  have := (nI_leI (a := 3) (b := q) (by decide) (by omega)).mp h.1
  omega
set_option maxRecDepth 100000 in
set_option maxHeartbeats 400000 in
theorem c_X8_lifeAnew (D : DT) (X : XT) (s : SG) (c n : Nat) (p0 : Int32) (p1 : Int32) (h : CV s c) (hg : LG s c n) (hn : s.1 45 0 = nI n) (hn5 : n ≤ 512) (hc : s.1 28 0 = nI c) (hc2 : c ≤ 6) (hsl : ∀ f, f < 6 → X.2.2.1 5 f = decide (f < c)) : CX yX8_lifeAnew cX8_lifeAnew 3 (Option.some Jvm.ClassFile.FieldType.int) rm_X8_lifeAnew D [.ref (X.1 0 0), .int p0, .int p1] X s (fun v s' => v = some (.int (lifeS s (nat p0) p1)) ∧ s' = s ∧ kOf c p0 p1 3 5 = 0) (fun e => (e = xIO ∧ kOf c p0 p1 3 5 = 1) ∨ (e = xIA ∧ kOf c p0 p1 3 5 = 2)) := by
  intro G hG
  refine MX_of (by decide +kernel) (Nat.le_of_ble_eq_true rfl) (fun K sz hR hX => ?_)
  show V cX8_lifeAnew _ 3 _ D K 0 [some (.ref (X.1 0 0)), some (.int p0), some (.int p1)] [] G (0, 0)
  refine v_aload_n (pc := 0) dX8_lifeAnew_0 rfl rfl ?_
  refine v_iload_n (pc := 1) dX8_lifeAnew_1 rfl rfl ?_
  refine vc_callV1 (pc := 2) (0, 0) hG dX8_lifeAnew_2 cw_X8_302 im_yX8_canopyAt se_yX8_canopyAt (c_X8_canopyAt D X _ c _ hc hc2 hsl) (hG.2.2.1 0 (by decide)) rfl rfl (Nat.le_of_ble_eq_true rfl) ⟨Nat.le_of_ble_eq_true rfl, Nat.le_of_ble_eq_true rfl⟩ ⟨by decide, by decide⟩ rfl (fun v s1 G hp hG => ?_)
  obtain ⟨hs1, hp⟩ := hp
  subst s1
  rcases hp with ⟨c2, hv1⟩ | ⟨j, hj, hj1, hL2, hv1⟩
  · subst hv1
    refine v_ifnonnullN (pc := 5) dX8_lifeAnew_5 ?_
    refine v_throwW (pc := 8) hX tw_X8_89_306_93 dX8_lifeAnew_8 dX8_lifeAnew_11 dX8_lifeAnew_12 dX8_lifeAnew_15 dX8_lifeAnew_18 (Nat.le_of_ble_eq_true rfl) ⟨by decide, by decide⟩ ⟨by decide, by decide⟩ ?_
    exact ⟨hG, Or.inl ⟨rfl, by rw [kOf, if_neg c2]⟩⟩
  · subst hj1
    subst hv1
    obtain ⟨p, l, hp8, ep, hl6, el⟩ := h j hj
    have en : nat (nI j) = j := nat_nI (by omega)
    have eN : nat (s.1 29 j) = l := by rw [el]; exact nat_nI (by omega)
    have eP : nat (s.1 30 j) = p := by rw [ep]; exact nat_nI (by omega)
    refine v_ifnonnull (pc := 5) (tgt := 19) dX8_lifeAnew_5 (by decide) ?_
    refine v_iload_n (pc := 19) dX8_lifeAnew_19 rfl rfl ?_
    refine v_i2l (pc := 20) dX8_lifeAnew_20 ?_
    refine v_ldcL (pc := 21) dX8_lifeAnew_21 k_X8_257 ?_
    refine v_ldcL (pc := 24) dX8_lifeAnew_24 k_X8_376 ?_
    refine v_callS3 (pc := 27) (0, 0) dX8_lifeAnew_27 cw_X8_62 sm_yX8_isOutside (c_X8_isOutside D _ _ _ _ ) (Nat.le_of_ble_eq_true rfl) ⟨Nat.le_of_ble_eq_true rfl, Nat.le_of_ble_eq_true rfl⟩ ⟨by decide, by decide⟩ rfl (fun v G1 hp => ?_)
    obtain ⟨hv1, hs1⟩ := hp
    subst hv1
    subst G1
    refine v_if_eq (pc := 30) (tgt := 44) dX8_lifeAnew_30 (by decide) (fun c30 => ?_) (fun c30 => ?_)
    · rw [b2i_0] at c30
      have c30 := (out_n (a := 3) (b := 5) (by decide) (by decide)).mp c30
      obtain ⟨q, hq, rfl⟩ : ∃ q, (q = 3 ∨ q = 4 ∨ q = 5) ∧ p1 = nI q := btw35 c30
      refine v_aload_n (pc := 44) dX8_lifeAnew_44 rfl rfl ?_
      refine vc_getR (pc := 45) (f := 12) hG dX8_lifeAnew_45 fl_X8_56 rfl (hG.2.2.1 0 (by decide)) rfl (by decide) (rvL_0_12 _ _ _) (fun hL45 => ?_)
      refine v_iload_n (pc := 48) dX8_lifeAnew_48 rfl rfl ?_
      refine v_iload_n (pc := 49) dX8_lifeAnew_49 rfl rfl ?_
      refine vc_callV2 (pc := 50) (0, 0) hG dX8_lifeAnew_50 cw_X8_383 im_yX1_timesNoted se_yX1_timesNoted (c_X1_timesNoted D X _ j q n hn hn5) (hG.2.2.1 11 (by decide)) rfl rfl (Nat.le_of_ble_eq_true rfl) ⟨Nat.le_of_ble_eq_true rfl, Nat.le_of_ble_eq_true rfl⟩ ⟨by decide, by decide⟩ rfl (fun v s1 G hp hG => ?_)
      obtain ⟨hv1, hs1⟩ := hp
      subst hv1
      subst s1
      refine v_iret (pc := 53) hR dX8_lifeAnew_53 ⟨by decide, by decide⟩ ?_
      obtain ⟨g3, g4, g5⟩ := hg j hj
      refine ⟨_, hG, ?_, rfl, by rw [kOf, if_pos ((btw_ix (a := c) (by omega)).mpr ⟨j, hj, rfl⟩), if_pos c30]⟩
      rw [en, lifeS]
      rcases hq with rfl | rfl | rfl
      · rw [if_pos (show nI 3 = 3 from rfl), g3]
      · rw [if_neg (by decide), if_pos (show nI 4 = 4 from rfl), g4]
      · rw [if_neg (by decide), if_neg (by decide), g5]
    · rw [b2i_0, Decidable.not_not] at c30
      have c30 := (out_y (a := 3) (b := 5) (by decide) (by decide)).mp c30
      refine v_throwW (pc := 33) hX tw_X8_66_378_70 dX8_lifeAnew_33 dX8_lifeAnew_36 dX8_lifeAnew_37 dX8_lifeAnew_40 dX8_lifeAnew_43 (Nat.le_of_ble_eq_true rfl) ⟨by decide, by decide⟩ ⟨by decide, by decide⟩ ?_
      exact ⟨hG, Or.inr ⟨rfl, by rw [kOf, if_pos ((btw_ix (a := c) (by omega)).mpr ⟨j, hj, rfl⟩), if_neg c30]⟩⟩
set_option maxRecDepth 100000 in
set_option maxHeartbeats 400000 in
theorem c_X8_seal (D : DT) (X : XT) (s : SG) (c n : Nat) (p0 : Int32) (p1 : Int32) (h : CV s c) (h33 : ∀ j, j < c → (s.1 32 j = -1 ↔ s.1 33 j = -1)) (hn : s.1 45 0 = nI n) (hn5 : n < 512) (hc : s.1 28 0 = nI c) (hc2 : c ≤ 6) (hsl : ∀ f, f < 6 → X.2.2.1 5 f = decide (f < c)) : CX yX8_seal cX8_seal 4 (Option.some Jvm.ClassFile.FieldType.int) rm_X8_seal D [.ref (X.1 0 0), .int p0, .int p1] X s (fun v s' => v = some (.int (s.1 34 (nat p0) + 1)) ∧ s' = noteS (gSeal s (nat p0) p1) (nat p0) 3 n ∧ kSeal s c p0 p1 = 0) (fun e => (e = xIO ∧ kSeal s c p0 p1 = 1) ∨ (e = xIS ∧ kSeal s c p0 p1 = 2)) := by
  intro G hG
  refine MX_of (by decide +kernel) (Nat.le_of_ble_eq_true rfl) (fun K sz hR hX => ?_)
  show V cX8_seal _ 4 _ D K 0 [some (.ref (X.1 0 0)), some (.int p0), some (.int p1), none] [] G (0, 0)
  refine v_aload_n (pc := 0) dX8_seal_0 rfl rfl ?_
  refine v_iload_n (pc := 1) dX8_seal_1 rfl rfl ?_
  refine vc_callV1 (pc := 2) (0, 0) hG dX8_seal_2 cw_X8_302 im_yX8_canopyAt se_yX8_canopyAt (c_X8_canopyAt D X _ c _ hc hc2 hsl) (hG.2.2.1 0 (by decide)) rfl rfl (Nat.le_of_ble_eq_true rfl) ⟨Nat.le_of_ble_eq_true rfl, Nat.le_of_ble_eq_true rfl⟩ ⟨by decide, by decide⟩ rfl (fun v s1 G hp hG => ?_)
  obtain ⟨hs1, hp⟩ := hp
  subst s1
  rcases hp with ⟨c2, hv1⟩ | ⟨j, hj, hj1, hL2, hv1⟩
  · subst hv1
    refine v_astore_nN (pc := 5) dX8_seal_5 rfl rfl (by decide) ?_
    refine v_aload_nN (pc := 6) dX8_seal_6 rfl rfl ?_
    refine v_ifnullN (pc := 7) (tgt := 22) dX8_seal_7 (by decide) ?_
    refine v_throwW (pc := 22) hX tw_X8_89_328_93 dX8_seal_22 dX8_seal_25 dX8_seal_26 dX8_seal_29 dX8_seal_32 (Nat.le_of_ble_eq_true rfl) ⟨by decide, by decide⟩ ⟨by decide, by decide⟩ ?_
    exact ⟨hG, Or.inl ⟨rfl, by rw [kSeal, if_neg (fun z => by first | exact c2 z.1 | exact c19 z.2)]⟩⟩
  · subst hj1
    subst hv1
    obtain ⟨p, l, hp8, ep, hl6, el⟩ := h j hj
    have en : nat (nI j) = j := nat_nI (by omega)
    have eN : nat (s.1 29 j) = l := by rw [el]; exact nat_nI (by omega)
    have eP : nat (s.1 30 j) = p := by rw [ep]; exact nat_nI (by omega)
    refine v_astore_n (pc := 5) dX8_seal_5 rfl rfl (by decide) ?_
    refine v_aload_n (pc := 6) dX8_seal_6 rfl rfl ?_
    refine v_ifnull (pc := 7) dX8_seal_7 ?_
    refine v_iload_n (pc := 10) dX8_seal_10 rfl rfl ?_
    refine v_i2l (pc := 11) dX8_seal_11 ?_
    refine v_lconst (pc := 12) (v := 0) dX8_seal_12 (by decide) ?_
    refine v_ldcL (pc := 13) dX8_seal_13 k_X8_326 ?_
    refine v_callS3 (pc := 16) (0, 0) dX8_seal_16 cw_X8_62 sm_yX8_isOutside (c_X8_isOutside D _ _ _ _ ) (Nat.le_of_ble_eq_true rfl) ⟨Nat.le_of_ble_eq_true rfl, Nat.le_of_ble_eq_true rfl⟩ ⟨by decide, by decide⟩ rfl (fun v G1 hp => ?_)
    obtain ⟨hv1, hs1⟩ := hp
    subst hv1
    subst G1
    refine v_if_eq (pc := 19) (tgt := 33) dX8_seal_19 (by decide) (fun c19 => ?_) (fun c19 => ?_)
    · rw [b2i_0] at c19
      have c19 := (out_n (a := 0) (b := 4) (by decide) (by decide)).mp c19
      refine v_aload_n (pc := 33) dX8_seal_33 rfl rfl ?_
      refine vc_callV0 (pc := 34) (0, 0) hG dX8_seal_34 cw_X8_330 im_yX0_isReadyToSeal se_yX0_isReadyToSeal (c_X0_isReadyToSeal D X _ j c (by assumption) h hj hc2 (h33 j hj)) (by assumption) rfl rfl (Nat.le_of_ble_eq_true rfl) ⟨Nat.le_of_ble_eq_true rfl, Nat.le_of_ble_eq_true rfl⟩ ⟨by decide, by decide⟩ rfl (fun v s1 G hp hG => ?_)
      obtain ⟨hv1, hs1⟩ := hp
      subst hv1
      subst s1
      refine v_if_ne (pc := 37) (tgt := 51) dX8_seal_37 (by decide) (fun c37 => ?_) (fun c37 => ?_)
      · rw [b2i_0, Decidable.not_not] at c37
        refine v_aload_n (pc := 51) dX8_seal_51 rfl rfl ?_
        refine v_iload_n (pc := 52) dX8_seal_52 rfl rfl ?_
        refine vc_putI (pc := 53) hG dX8_seal_53 fw_X8_335 rfl (Or.inl rfl) (by assumption) rfl rfl rfl (uI_17_4 _ _ _) (fun G hG => ?_)
        refine v_aload_n (pc := 56) dX8_seal_56 rfl rfl ?_
        refine v_aload_n (pc := 57) dX8_seal_57 rfl rfl ?_
        refine vc_getI (pc := 58) (f := 13) hG dX8_seal_58 fl_X8_288 (Or.inl rfl) (hG.2.2.1 0 (by decide)) rfl (by decide) (show iv _ 0 0 13 = s.1 27 0 by simp [ivL_0_13, sI, u2]) ?_
        refine vc_putI (pc := 61) hG dX8_seal_61 fw_X8_338 rfl (Or.inl rfl) (by assumption) rfl rfl rfl (uI_17_5 _ _ _) (fun G hG => ?_)
        refine v_aload_n (pc := 64) dX8_seal_64 rfl rfl ?_
        refine v_dup (pc := 65) dX8_seal_65 rfl ?_
        refine vc_getI (pc := 66) (f := 6) hG dX8_seal_66 fl_X8_341 (Or.inl rfl) (by assumption) rfl (by decide) (show iv _ 17 j 6 = s.1 34 j by simp [ivL_17_6, sI, u2]) ?_
        refine v_iconst (pc := 69) (v := 1) dX8_seal_69 (by decide) ?_
        refine v_iadd (pc := 70) dX8_seal_70 ?_
        refine vc_putI (pc := 71) hG dX8_seal_71 fw_X8_341 rfl (Or.inl rfl) (by assumption) rfl rfl rfl (uI_17_6 _ _ _) (fun G hG => ?_)
        refine v_aload_n (pc := 74) dX8_seal_74 rfl rfl ?_
        refine vc_getR (pc := 75) (f := 12) hG dX8_seal_75 fl_X8_56 rfl (hG.2.2.1 0 (by decide)) rfl (by decide) (rvL_0_12 _ _ _) (fun hL75 => ?_)
        refine v_iload_n (pc := 78) dX8_seal_78 rfl rfl ?_
        refine v_iconst (pc := 79) (v := 3) dX8_seal_79 (by decide) ?_
        refine vc_callV2 (pc := 80) (0, 0) hG dX8_seal_80 cw_X8_344 im_yX1_note se_yX1_note (c_X1_note D X _ j 3 n (by simp [sI, u2, hn]) hn5 (by omega) (by decide)) (hG.2.2.1 11 (by decide)) rfl rfl (Nat.le_of_ble_eq_true rfl) ⟨Nat.le_of_ble_eq_true rfl, Nat.le_of_ble_eq_true rfl⟩ ⟨by decide, by decide⟩ rfl (fun v s1 G hp hG => ?_)
        obtain ⟨hv1, hs1⟩ := hp
        subst hv1
        subst s1
        refine v_aload_n (pc := 83) dX8_seal_83 rfl rfl ?_
        refine vc_getI (pc := 84) (f := 6) hG dX8_seal_84 fl_X8_341 (Or.inl rfl) (by assumption) rfl (by decide) (show iv _ 17 j 6 = s.1 34 j + 1 by simp [ivL_17_6, noteS, sI, u2]) ?_
        refine v_iret (pc := 87) hR dX8_seal_87 ⟨by decide, by decide⟩ ?_
        exact ⟨_, hG, by rw [en], by rw [en, gSeal], by rw [kSeal, if_pos ⟨(btw_ix (a := c) (by omega)).mpr ⟨j, hj, rfl⟩, c19⟩, en, if_pos c37]⟩
      · rw [b2i_0] at c37
        refine v_throwW (pc := 40) hX tw_X8_77_333_81 dX8_seal_40 dX8_seal_43 dX8_seal_44 dX8_seal_47 dX8_seal_50 (Nat.le_of_ble_eq_true rfl) ⟨by decide, by decide⟩ ⟨by decide, by decide⟩ ?_
        exact ⟨hG, Or.inr ⟨rfl, by rw [kSeal, if_pos ⟨(btw_ix (a := c) (by omega)).mpr ⟨j, hj, rfl⟩, c19⟩, en, if_neg c37]⟩⟩
    · rw [b2i_0, Decidable.not_not] at c19
      have c19 := (out_y (a := 0) (b := 4) (by decide) (by decide)).mp c19
      refine v_throwW (pc := 22) hX tw_X8_89_328_93 dX8_seal_22 dX8_seal_25 dX8_seal_26 dX8_seal_29 dX8_seal_32 (Nat.le_of_ble_eq_true rfl) ⟨by decide, by decide⟩ ⟨by decide, by decide⟩ ?_
      exact ⟨hG, Or.inl ⟨rfl, by rw [kSeal, if_neg (fun z => by first | exact c2 z.1 | exact c19 z.2)]⟩⟩
set_option maxRecDepth 100000 in
set_option maxHeartbeats 400000 in
theorem c_X8_use (D : DT) (X : XT) (s : SG) (c n : Nat) (p0 : Int32) (h : CV s c) (h33 : ∀ j, j < c → (s.1 32 j = -1 ↔ s.1 33 j = -1)) (hn : s.1 45 0 = nI n) (hn5 : n < 512) (hc : s.1 28 0 = nI c) (hc2 : c ≤ 6) (hsl : ∀ f, f < 6 → X.2.2.1 5 f = decide (f < c)) : CX yX8_use cX8_use 4 (Option.some Jvm.ClassFile.FieldType.int) rm_X8_use D [.ref (X.1 0 0), .int p0] X s (fun v s' => v = some (.int (s.1 32 (nat p0))) ∧ s' = noteS (gUse s (nat p0)) (nat p0) 4 n ∧ kUse s c p0 = 0) (fun e => (e = xIO ∧ kUse s c p0 = 1) ∨ (e = xIS ∧ kUse s c p0 = 2)) := by
  intro G hG
  refine MX_of (by decide +kernel) (Nat.le_of_ble_eq_true rfl) (fun K sz hR hX => ?_)
  show V cX8_use _ 4 _ D K 0 [some (.ref (X.1 0 0)), some (.int p0), none, none] [] G (0, 0)
  refine v_aload_n (pc := 0) dX8_use_0 rfl rfl ?_
  refine v_iload_n (pc := 1) dX8_use_1 rfl rfl ?_
  refine vc_callV1 (pc := 2) (0, 0) hG dX8_use_2 cw_X8_302 im_yX8_canopyAt se_yX8_canopyAt (c_X8_canopyAt D X _ c _ hc hc2 hsl) (hG.2.2.1 0 (by decide)) rfl rfl (Nat.le_of_ble_eq_true rfl) ⟨Nat.le_of_ble_eq_true rfl, Nat.le_of_ble_eq_true rfl⟩ ⟨by decide, by decide⟩ rfl (fun v s1 G hp hG => ?_)
  obtain ⟨hs1, hp⟩ := hp
  subst s1
  rcases hp with ⟨c2, hv1⟩ | ⟨j, hj, hj1, hL2, hv1⟩
  · subst hv1
    refine v_astore_nN (pc := 5) dX8_use_5 rfl rfl (by decide) ?_
    refine v_aload_nN (pc := 6) dX8_use_6 rfl rfl ?_
    refine v_ifnonnullN (pc := 7) dX8_use_7 ?_
    refine v_throwW (pc := 10) hX tw_X8_89_306_93 dX8_use_10 dX8_use_13 dX8_use_14 dX8_use_17 dX8_use_20 (Nat.le_of_ble_eq_true rfl) ⟨by decide, by decide⟩ ⟨by decide, by decide⟩ ?_
    exact ⟨hG, Or.inl ⟨rfl, by rw [kUse, if_neg c2]⟩⟩
  · subst hj1
    subst hv1
    obtain ⟨p, l, hp8, ep, hl6, el⟩ := h j hj
    have en : nat (nI j) = j := nat_nI (by omega)
    have eN : nat (s.1 29 j) = l := by rw [el]; exact nat_nI (by omega)
    have eP : nat (s.1 30 j) = p := by rw [ep]; exact nat_nI (by omega)
    refine v_astore_n (pc := 5) dX8_use_5 rfl rfl (by decide) ?_
    refine v_aload_n (pc := 6) dX8_use_6 rfl rfl ?_
    refine v_ifnonnull (pc := 7) (tgt := 21) dX8_use_7 (by decide) ?_
    refine v_aload_n (pc := 21) dX8_use_21 rfl rfl ?_
    refine vc_callV0 (pc := 22) (0, 0) hG dX8_use_22 cw_X8_318 im_yX0_isSealed se_yX0_isSealed (c_X0_isSealed D X _ j (by assumption)) (by assumption) rfl rfl (Nat.le_of_ble_eq_true rfl) ⟨Nat.le_of_ble_eq_true rfl, Nat.le_of_ble_eq_true rfl⟩ ⟨by decide, by decide⟩ rfl (fun v s1 G hp hG => ?_)
    obtain ⟨hv1, hs1⟩ := hp
    subst hv1
    subst s1
    refine v_if_eq (pc := 25) (tgt := 53) dX8_use_25 (by decide) (fun c25 => ?_) (fun c25 => ?_)
    · rw [b2i_0] at c25
      rw [Decidable.not_not] at c25
      refine v_throwW (pc := 53) hX tw_X8_77_354_81 dX8_use_53 dX8_use_56 dX8_use_57 dX8_use_60 dX8_use_63 (Nat.le_of_ble_eq_true rfl) ⟨by decide, by decide⟩ ⟨by decide, by decide⟩ ?_
      exact ⟨hG, Or.inr ⟨rfl, by rw [kUse, if_pos ((btw_ix (a := c) (by omega)).mpr ⟨j, hj, rfl⟩), en, if_neg (fun z => by first | exact z.1 ((h33 j hj).mpr c25) | exact absurd c40 (n_nlt.mpr z.2.1) | exact c50 (by have := z.2.2; rw [eN] at this; exact this))]⟩⟩
    · rw [b2i_0, Decidable.not_not] at c25
      refine v_aload_n (pc := 28) dX8_use_28 rfl rfl ?_
      refine vc_getI (pc := 29) (f := 13) hG dX8_use_29 fl_X8_288 (Or.inl rfl) (hG.2.2.1 0 (by decide)) rfl (by decide) (ivL_0_13 _ _) ?_
      refine v_aload_n (pc := 32) dX8_use_32 rfl rfl ?_
      refine vc_getI (pc := 33) (f := 5) hG dX8_use_33 fl_X8_338 (Or.inl rfl) (by assumption) rfl (by decide) (ivL_17_5 _ _) ?_
      refine v_isub (pc := 36) dX8_use_36 ?_
      refine v_sipush (pc := 37) (v := 180) dX8_use_37 (by decide) ?_
      refine v_icmp_gt (pc := 40) (tgt := 53) dX8_use_40 (by decide) (fun c40 => ?_) (fun c40 => ?_)
      · refine v_throwW (pc := 53) hX tw_X8_77_354_81 dX8_use_53 dX8_use_56 dX8_use_57 dX8_use_60 dX8_use_63 (Nat.le_of_ble_eq_true rfl) ⟨by decide, by decide⟩ ⟨by decide, by decide⟩ ?_
        exact ⟨hG, Or.inr ⟨rfl, by rw [kUse, if_pos ((btw_ix (a := c) (by omega)).mpr ⟨j, hj, rfl⟩), en, if_neg (fun z => by first | exact z.1 ((h33 j hj).mpr c25) | exact absurd c40 (n_nlt.mpr z.2.1) | exact c50 (by have := z.2.2; rw [eN] at this; exact this))]⟩⟩
      · rw [n_nlt] at c40
        refine v_aload_n (pc := 43) dX8_use_43 rfl rfl ?_
        refine vc_getR (pc := 44) (f := 0) hG dX8_use_44 fl_X8_347 rfl (by assumption) rfl (by decide) (c' := 13) (i' := l) (by rw [rvL_17_0, el, nat_nI (by omega)]) (fun hL44 => ?_)
        refine vc_getI (pc := 47) (f := 4) hG dX8_use_47 fl_X8_351 (Or.inr rfl) (by assumption) rfl (by decide) (ivL_13_4 _ _) ?_
        refine v_if_eq (pc := 50) (tgt := 64) dX8_use_50 (by decide) (fun c50 => ?_) (fun c50 => ?_)
        · refine v_aload_n (pc := 64) dX8_use_64 rfl rfl ?_
          refine vc_getI (pc := 65) (f := 4) hG dX8_use_65 fl_X8_335 (Or.inl rfl) (by assumption) rfl (by decide) (ivL_17_4 _ _) ?_
          refine v_istore_n (pc := 68) dX8_use_68 rfl rfl (by decide) ?_
          refine v_aload_n (pc := 69) dX8_use_69 rfl rfl ?_
          refine vc_callV0 (pc := 70) (0, 0) hG dX8_use_70 cw_X8_356 im_yX0_loseSeal se_yX0_loseSeal (c_X0_loseSeal D X _ j (by assumption)) (by assumption) rfl rfl (Nat.le_of_ble_eq_true rfl) ⟨Nat.le_of_ble_eq_true rfl, Nat.le_of_ble_eq_true rfl⟩ ⟨by decide, by decide⟩ rfl (fun v s1 G hp hG => ?_)
          obtain ⟨hv1, hs1⟩ := hp
          subst hv1
          subst s1
          refine v_aload_n (pc := 73) dX8_use_73 rfl rfl ?_
          refine v_dup (pc := 74) dX8_use_74 rfl ?_
          refine vc_getI (pc := 75) (f := 7) hG dX8_use_75 fl_X8_359 (Or.inl rfl) (by assumption) rfl (by decide) (show iv _ 17 j 7 = s.1 35 j by simp [ivL_17_7, sI, u2]) ?_
          refine v_iconst (pc := 78) (v := 1) dX8_use_78 (by decide) ?_
          refine v_iadd (pc := 79) dX8_use_79 ?_
          refine vc_putI (pc := 80) hG dX8_use_80 fw_X8_359 rfl (Or.inl rfl) (by assumption) rfl rfl rfl (uI_17_7 _ _ _) (fun G hG => ?_)
          refine v_aload_n (pc := 83) dX8_use_83 rfl rfl ?_
          refine vc_getR (pc := 84) (f := 12) hG dX8_use_84 fl_X8_56 rfl (hG.2.2.1 0 (by decide)) rfl (by decide) (rvL_0_12 _ _ _) (fun hL84 => ?_)
          refine v_iload_n (pc := 87) dX8_use_87 rfl rfl ?_
          refine v_iconst (pc := 88) (v := 4) dX8_use_88 (by decide) ?_
          refine vc_callV2 (pc := 89) (0, 0) hG dX8_use_89 cw_X8_344 im_yX1_note se_yX1_note (c_X1_note D X _ j 4 n (by simp [sI, u2, hn]) hn5 (by omega) (by decide)) (hG.2.2.1 11 (by decide)) rfl rfl (Nat.le_of_ble_eq_true rfl) ⟨Nat.le_of_ble_eq_true rfl, Nat.le_of_ble_eq_true rfl⟩ ⟨by decide, by decide⟩ rfl (fun v s1 G hp hG => ?_)
          obtain ⟨hv1, hs1⟩ := hp
          subst hv1
          subst s1
          refine v_iload_n (pc := 92) dX8_use_92 rfl rfl ?_
          refine v_iret (pc := 93) hR dX8_use_93 ⟨by decide, by decide⟩ ?_
          exact ⟨_, hG, by rw [en], by rw [en, gUse], by rw [kUse, if_pos ((btw_ix (a := c) (by omega)).mpr ⟨j, hj, rfl⟩), en, if_pos ⟨fun z => c25 ((h33 j hj).mp z), c40, by rw [eN]; exact c50⟩]⟩
        · refine v_throwW (pc := 53) hX tw_X8_77_354_81 dX8_use_53 dX8_use_56 dX8_use_57 dX8_use_60 dX8_use_63 (Nat.le_of_ble_eq_true rfl) ⟨by decide, by decide⟩ ⟨by decide, by decide⟩ ?_
          exact ⟨hG, Or.inr ⟨rfl, by rw [kUse, if_pos ((btw_ix (a := c) (by omega)).mpr ⟨j, hj, rfl⟩), en, if_neg (fun z => by first | exact z.1 ((h33 j hj).mpr c25) | exact absurd c40 (n_nlt.mpr z.2.1) | exact c50 (by have := z.2.2; rw [eN] at this; exact this))]⟩⟩
set_option maxRecDepth 100000 in
set_option maxHeartbeats 400000 in
theorem c_X8_wet (D : DT) (X : XT) (s : SG) (c n : Nat) (p0 : Int32) (p1 : Int32) (h : CV s c) (h33 : ∀ j, j < c → (s.1 32 j = -1 ↔ s.1 33 j = -1)) (hn : s.1 45 0 = nI n) (hn5 : n < 512) (hc : s.1 28 0 = nI c) (hc2 : c ≤ 6) (hsl : ∀ f, f < 6 → X.2.2.1 5 f = decide (f < c)) : CX yX8_wet cX8_wet 4 (Option.some Jvm.ClassFile.FieldType.int) rm_X8_wet D [.ref (X.1 0 0), .int p0, .int p1] X s (fun v s' => v = some (.int ((gWet s (nat p0) p1).1 37 (nat p0))) ∧ s' = (if p1 = 0 then noteS (gWet s (nat p0) p1) (nat p0) 5 n else sI s 37 (nat p0) 0) ∧ kWet s c p0 = 0) (fun e => (e = xIO ∧ kWet s c p0 = 1) ∨ (e = xIS ∧ kWet s c p0 = 2)) := by
  intro G hG
  refine MX_of (by decide +kernel) (Nat.le_of_ble_eq_true rfl) (fun K sz hR hX => ?_)
  show V cX8_wet _ 4 _ D K 0 [some (.ref (X.1 0 0)), some (.int p0), some (.int p1), none] [] G (0, 0)
  refine v_aload_n (pc := 0) dX8_wet_0 rfl rfl ?_
  refine v_iload_n (pc := 1) dX8_wet_1 rfl rfl ?_
  refine vc_callV1 (pc := 2) (0, 0) hG dX8_wet_2 cw_X8_302 im_yX8_canopyAt se_yX8_canopyAt (c_X8_canopyAt D X _ c _ hc hc2 hsl) (hG.2.2.1 0 (by decide)) rfl rfl (Nat.le_of_ble_eq_true rfl) ⟨Nat.le_of_ble_eq_true rfl, Nat.le_of_ble_eq_true rfl⟩ ⟨by decide, by decide⟩ rfl (fun v s1 G hp hG => ?_)
  obtain ⟨hs1, hp⟩ := hp
  subst s1
  rcases hp with ⟨c2, hv1⟩ | ⟨j, hj, hj1, hL2, hv1⟩
  · subst hv1
    refine v_astore_nN (pc := 5) dX8_wet_5 rfl rfl (by decide) ?_
    refine v_aload_nN (pc := 6) dX8_wet_6 rfl rfl ?_
    refine v_ifnonnullN (pc := 7) dX8_wet_7 ?_
    refine v_throwW (pc := 10) hX tw_X8_89_306_93 dX8_wet_10 dX8_wet_13 dX8_wet_14 dX8_wet_17 dX8_wet_20 (Nat.le_of_ble_eq_true rfl) ⟨by decide, by decide⟩ ⟨by decide, by decide⟩ ?_
    exact ⟨hG, Or.inl ⟨rfl, by rw [kWet, if_neg c2]⟩⟩
  · subst hj1
    subst hv1
    obtain ⟨p, l, hp8, ep, hl6, el⟩ := h j hj
    have en : nat (nI j) = j := nat_nI (by omega)
    have eN : nat (s.1 29 j) = l := by rw [el]; exact nat_nI (by omega)
    have eP : nat (s.1 30 j) = p := by rw [ep]; exact nat_nI (by omega)
    refine v_astore_n (pc := 5) dX8_wet_5 rfl rfl (by decide) ?_
    refine v_aload_n (pc := 6) dX8_wet_6 rfl rfl ?_
    refine v_ifnonnull (pc := 7) (tgt := 21) dX8_wet_7 (by decide) ?_
    refine v_aload_n (pc := 21) dX8_wet_21 rfl rfl ?_
    refine vc_callV0 (pc := 22) (0, 0) hG dX8_wet_22 cw_X8_318 im_yX0_isSealed se_yX0_isSealed (c_X0_isSealed D X _ j (by assumption)) (by assumption) rfl rfl (Nat.le_of_ble_eq_true rfl) ⟨Nat.le_of_ble_eq_true rfl, Nat.le_of_ble_eq_true rfl⟩ ⟨by decide, by decide⟩ rfl (fun v s1 G hp hG => ?_)
    obtain ⟨hv1, hs1⟩ := hp
    subst hv1
    subst s1
    refine v_if_eq (pc := 25) (tgt := 39) dX8_wet_25 (by decide) (fun c25 => ?_) (fun c25 => ?_)
    · rw [b2i_0] at c25
      rw [Decidable.not_not] at c25
      refine v_iload_n (pc := 39) dX8_wet_39 rfl rfl ?_
      refine v_if_eq (pc := 40) (tgt := 51) dX8_wet_40 (by decide) (fun c40 => ?_) (fun c40 => ?_)
      · refine v_aload_n (pc := 51) dX8_wet_51 rfl rfl ?_
        refine v_dup (pc := 52) dX8_wet_52 rfl ?_
        refine vc_getI (pc := 53) (f := 9) hG dX8_wet_53 fl_X8_364 (Or.inl rfl) (by assumption) rfl (by decide) (ivL_17_9 _ _) ?_
        refine v_iconst (pc := 56) (v := 1) dX8_wet_56 (by decide) ?_
        refine v_iadd (pc := 57) dX8_wet_57 ?_
        refine vc_putI (pc := 58) hG dX8_wet_58 fw_X8_364 rfl (Or.inl rfl) (by assumption) rfl rfl rfl (uI_17_9 _ _ _) (fun G hG => ?_)
        refine v_aload_n (pc := 61) dX8_wet_61 rfl rfl ?_
        refine v_dup (pc := 62) dX8_wet_62 rfl ?_
        refine vc_getI (pc := 63) (f := 8) hG dX8_wet_63 fl_X8_367 (Or.inl rfl) (by assumption) rfl (by decide) (show iv _ 17 j 8 = s.1 36 j by simp [ivL_17_8, sI, u2]) ?_
        refine v_iconst (pc := 66) (v := 1) dX8_wet_66 (by decide) ?_
        refine v_iadd (pc := 67) dX8_wet_67 ?_
        refine vc_putI (pc := 68) hG dX8_wet_68 fw_X8_367 rfl (Or.inl rfl) (by assumption) rfl rfl rfl (uI_17_8 _ _ _) (fun G hG => ?_)
        refine v_aload_n (pc := 71) dX8_wet_71 rfl rfl ?_
        refine vc_getR (pc := 72) (f := 12) hG dX8_wet_72 fl_X8_56 rfl (hG.2.2.1 0 (by decide)) rfl (by decide) (rvL_0_12 _ _ _) (fun hL72 => ?_)
        refine v_iload_n (pc := 75) dX8_wet_75 rfl rfl ?_
        refine v_iconst (pc := 76) (v := 5) dX8_wet_76 (by decide) ?_
        refine vc_callV2 (pc := 77) (0, 0) hG dX8_wet_77 cw_X8_344 im_yX1_note se_yX1_note (c_X1_note D X _ j 5 n (by simp [sI, u2, hn]) hn5 (by omega) (by decide)) (hG.2.2.1 11 (by decide)) rfl rfl (Nat.le_of_ble_eq_true rfl) ⟨Nat.le_of_ble_eq_true rfl, Nat.le_of_ble_eq_true rfl⟩ ⟨by decide, by decide⟩ rfl (fun v s1 G hp hG => ?_)
        obtain ⟨hv1, hs1⟩ := hp
        subst hv1
        subst s1
        refine v_aload_n (pc := 80) dX8_wet_80 rfl rfl ?_
        refine vc_getI (pc := 81) (f := 9) hG dX8_wet_81 fl_X8_364 (Or.inl rfl) (by assumption) rfl (by decide) (show iv _ 17 j 9 = (gWet s j p1).1 37 j by simp [ivL_17_9, gWet, noteS, sI, u2, c40]) ?_
        refine v_iret (pc := 84) hR dX8_wet_84 ⟨by decide, by decide⟩ ?_
        have hk9 : kWet s c (nI j) = 0 := by rw [kWet, if_pos ((btw_ix (a := c) (by omega)).mpr ⟨j, hj, rfl⟩), en, if_pos ((h33 j hj).mpr c25)]
        first
          | exact ⟨_, hG, by rw [en], by rw [en, if_neg c40], hk9⟩
          | exact ⟨_, hG, by rw [en], by rw [en, if_pos c40, gWet, if_pos c40, if_pos c40, sI_sw (a := 36) (b := 37) (by decide)], hk9⟩
      · refine v_aload_n (pc := 43) dX8_wet_43 rfl rfl ?_
        refine v_iconst (pc := 44) (v := 0) dX8_wet_44 (by decide) ?_
        refine vc_putI (pc := 45) hG dX8_wet_45 fw_X8_364 rfl (Or.inl rfl) (by assumption) rfl rfl rfl (uI_17_9 _ _ _) (fun G hG => ?_)
        refine v_goto (pc := 48) (tgt := 80) dX8_wet_48 (by decide) ?_
        refine v_aload_n (pc := 80) dX8_wet_80 rfl rfl ?_
        refine vc_getI (pc := 81) (f := 9) hG dX8_wet_81 fl_X8_364 (Or.inl rfl) (by assumption) rfl (by decide) (show iv _ 17 j 9 = (gWet s j p1).1 37 j by simp [ivL_17_9, gWet, noteS, sI, u2, c40]) ?_
        refine v_iret (pc := 84) hR dX8_wet_84 ⟨by decide, by decide⟩ ?_
        have hk9 : kWet s c (nI j) = 0 := by rw [kWet, if_pos ((btw_ix (a := c) (by omega)).mpr ⟨j, hj, rfl⟩), en, if_pos ((h33 j hj).mpr c25)]
        first
          | exact ⟨_, hG, by rw [en], by rw [en, if_neg c40], hk9⟩
          | exact ⟨_, hG, by rw [en], by rw [en, if_pos c40, gWet, if_pos c40, if_pos c40, sI_sw (a := 36) (b := 37) (by decide)], hk9⟩
    · rw [b2i_0, Decidable.not_not] at c25
      refine v_throwW (pc := 28) hX tw_X8_77_362_81 dX8_wet_28 dX8_wet_31 dX8_wet_32 dX8_wet_35 dX8_wet_38 (Nat.le_of_ble_eq_true rfl) ⟨by decide, by decide⟩ ⟨by decide, by decide⟩ ?_
      exact ⟨hG, Or.inr ⟨rfl, by rw [kWet, if_pos ((btw_ix (a := c) (by omega)).mpr ⟨j, hj, rfl⟩), en, if_neg (fun z => c25 ((h33 j hj).mp z))]⟩⟩
