theorem z_nar {x : Int32} (h : x = 0 ∨ x = 1) : narrow .boolean (.int x) = .int x := by
  rcases h with rfl | rfl <;> rfl
theorem z_fit {x : Int32} (h : x = 0 ∨ x = 1) : fits .boolean (.int x) = true := by
  rcases h with rfl | rfl <;> rfl
set_option maxRecDepth 100000 in
set_option maxHeartbeats 400000 in
theorem l_X8_takeSeals {D : DT} {K : KT} {X : XT} {s : SG} (l c : Nat) (h33 : ∀ j, j < c → (s.1 32 j = -1 ↔ s.1 33 j = -1)) (hc2 : c ≤ 6) (hsl : ∀ f, f < 6 → X.2.2.1 5 f = decide (f < c)) (kk : ∀ (G : GT), LF X (losF s l c).1 G → V cX8_takeSealsAway yX8_takeSealsAway.cls 7 rm_X8_takeSealsAway D K 63 [some (.ref (X.1 0 0)), some (.int (nI l)), some (.int (nI (losF s l c).2)), some (.ref (X.1 5 0)), some (.int 6), some (.int (nI 6)), none] [] G (0, 0)) : ∀ (d i : Nat)  (G : GT), i + d = 6 → LF X (losF s l (min i c)).1 G → V cX8_takeSealsAway yX8_takeSealsAway.cls 7 rm_X8_takeSealsAway D K 14 [some (.ref (X.1 0 0)), some (.int (nI l)), some (.int (nI (losF s l (min i c)).2)), some (.ref (X.1 5 0)), some (.int 6), some (.int (nI i)), none] [] G (0, 0) := by
  intro d
  induction d with
  | zero =>
    intro i  G he0 he1 
    refine v_iload (pc := 14) dX8_takeSealsAway_14 rfl ?_
    refine v_iload (pc := 16) dX8_takeSealsAway_16 rfl ?_
    refine v_icmp_ge (pc := 18) (tgt := 63) dX8_takeSealsAway_18 (by decide) (fun c18 => ?_) (fun c18 => absurd c18 (not_not_intro (by rw [show i = 6 by omega]; decide)))
    have e : i = 6 := by omega
    subst e
    rw [show min 6 c = c by omega] at he1 ⊢
    exact kk G he1
  | succ d ih =>
    intro i  G he0 he1 
    have hG := he1
    refine v_iload (pc := 14) dX8_takeSealsAway_14 rfl ?_
    refine v_iload (pc := 16) dX8_takeSealsAway_16 rfl ?_
    refine v_icmp_ge (pc := 18) (tgt := 63) dX8_takeSealsAway_18 (by decide) (fun c18 => absurd c18 (nI_ge (b := 6) (by omega) (by decide))) (fun c18 => ?_)
    by_cases c21 : i < c
    · have m0 : min i c = i := by omega
      have m1 : min (i + 1) c = i + 1 := by omega
      rw [m0] at hG ⊢
      refine v_aload_n (pc := 21) dX8_takeSealsAway_21 rfl rfl ?_
      refine v_iload (pc := 22) dX8_takeSealsAway_22 rfl ?_
      refine vc_aald (pc := 24) (k := 9) (j := i) hG dX8_takeSealsAway_24 (hG.2.2.1 5 (by decide)) rfl (by decide) rfl rfl (by show _ < 6; omega) (c' := 17) (i' := i) (by show (if X.2.2.1 5 i then some (17, i) else none) = _; rw [hsl i (by omega), if_pos (decide_eq_true c21)]) (fun hL24 => ?_)
      refine v_astore (pc := 25) dX8_takeSealsAway_25 rfl (by decide) ?_
      refine v_aload (pc := 27) dX8_takeSealsAway_27 rfl ?_
      refine v_ifnull (pc := 29) dX8_takeSealsAway_29 ?_
      refine v_aload (pc := 32) dX8_takeSealsAway_32 rfl ?_
      refine vc_getI (pc := 34) (f := 1) hG dX8_takeSealsAway_34 fl_X8_386 (Or.inl rfl) (by assumption) rfl (by decide) ((ivL_17_1 _ _).trans (losF_n s l i 29 i (fun z => by omega))) ?_
      refine v_iload_n (pc := 37) dX8_takeSealsAway_37 rfl rfl ?_
      refine v_icmp_ne (pc := 38) (tgt := 57) dX8_takeSealsAway_38 (by decide) (fun c38 => ?_) (fun c38 => ?_)
      · have e9 : losF s l (i + 1) = losF s l i := by rw [losF, if_neg (fun z => c38 z.1)]
        refine v_iinc (pc := 57) dX8_takeSealsAway_57 rfl (nI_1 i) rfl (by decide) ?_
        refine v_goto (pc := 60) (tgt := 14) dX8_takeSealsAway_60 (by decide) ?_
        refine v_forget 6 ?_
        have e8 := ih (i + 1) G (by omega) (by rw [m1]; rw [e9]; exact hG)
        rw [m1, e9] at e8
        exact e8
      · refine v_aload (pc := 41) dX8_takeSealsAway_41 rfl ?_
        refine vc_callV0 (pc := 43) (0, 0) hG dX8_takeSealsAway_43 cw_X8_318 im_yX0_isSealed se_yX0_isSealed (c_X0_isSealed D X _ i (by assumption)) (by assumption) rfl rfl (Nat.le_of_ble_eq_true rfl) ⟨Nat.le_of_ble_eq_true rfl, Nat.le_of_ble_eq_true rfl⟩ ⟨by decide, by decide⟩ rfl (fun v s1 G hp hG => ?_)
        obtain ⟨hv1, hs1⟩ := hp
        subst hv1
        subst s1
        refine v_if_eq (pc := 46) (tgt := 57) dX8_takeSealsAway_46 (by decide) (fun c46 => ?_) (fun c46 => ?_)
        · rw [b2i_0] at c46
          have e9 : losF s l (i + 1) = losF s l i := by rw [losF, if_neg (fun z => z.2 ((h33 i c21).mpr (by have := c46; rw [losF_n s l i 33 i (fun _ => Nat.le_refl _), Decidable.not_not] at this; exact this)))]
          refine v_iinc (pc := 57) dX8_takeSealsAway_57 rfl (nI_1 i) rfl (by decide) ?_
          refine v_goto (pc := 60) (tgt := 14) dX8_takeSealsAway_60 (by decide) ?_
          refine v_forget 6 ?_
          have e8 := ih (i + 1) G (by omega) (by rw [m1]; rw [e9]; exact hG)
          rw [m1, e9] at e8
          exact e8
        · rw [b2i_0, Decidable.not_not] at c46
          have e9 : losF s l (i + 1) = (sI (sI (losF s l i).1 32 i (-1)) 33 i (-1), (losF s l i).2 + 1) := by rw [losF, if_pos ⟨c38, fun z => by have := c46; rw [losF_n s l i 33 i (fun _ => Nat.le_refl _)] at this; exact this ((h33 i c21).mp z)⟩]
          refine v_aload (pc := 49) dX8_takeSealsAway_49 rfl ?_
          refine vc_callV0 (pc := 51) (0, 0) hG dX8_takeSealsAway_51 cw_X8_356 im_yX0_loseSeal se_yX0_loseSeal (c_X0_loseSeal D X _ i (by assumption)) (by assumption) rfl rfl (Nat.le_of_ble_eq_true rfl) ⟨Nat.le_of_ble_eq_true rfl, Nat.le_of_ble_eq_true rfl⟩ ⟨by decide, by decide⟩ rfl (fun v s1 G hp hG => ?_)
          obtain ⟨hv1, hs1⟩ := hp
          subst hv1
          subst s1
          refine v_iinc (pc := 54) dX8_takeSealsAway_54 rfl (nI_1 _) rfl (by decide) ?_
          refine v_iinc (pc := 57) dX8_takeSealsAway_57 rfl (nI_1 i) rfl (by decide) ?_
          refine v_goto (pc := 60) (tgt := 14) dX8_takeSealsAway_60 (by decide) ?_
          refine v_forget 6 ?_
          have e8 := ih (i + 1) G (by omega) (by rw [m1]; rw [e9]; exact hG)
          rw [m1, e9] at e8
          exact e8
    · have m0 : min i c = c := by omega
      have m1 : min (i + 1) c = c := by omega
      rw [m0] at hG ⊢
      refine v_aload_n (pc := 21) dX8_takeSealsAway_21 rfl rfl ?_
      refine v_iload (pc := 22) dX8_takeSealsAway_22 rfl ?_
      refine vc_aaldN (pc := 24) (k := 9) (j := i) hG dX8_takeSealsAway_24 (hG.2.2.1 5 (by decide)) rfl (by decide) rfl rfl (by show _ < 6; omega) (by show (if X.2.2.1 5 i then some (17, i) else none) = _; rw [hsl i (by omega), if_neg (by rw [decide_eq_true_eq]; omega)]) ?_
      refine v_astoreN (pc := 25) dX8_takeSealsAway_25 rfl (by decide) ?_
      refine v_aloadN (pc := 27) dX8_takeSealsAway_27 rfl ?_
      refine v_ifnullN (pc := 29) (tgt := 57) dX8_takeSealsAway_29 (by decide) ?_
      refine v_iinc (pc := 57) dX8_takeSealsAway_57 rfl (nI_1 i) rfl (by decide) ?_
      refine v_goto (pc := 60) (tgt := 14) dX8_takeSealsAway_60 (by decide) ?_
      refine v_forget 6 ?_
      have e8 := ih (i + 1) G (by omega) (by rw [m1]; exact hG)
      rw [m1] at e8
      exact e8
set_option maxRecDepth 100000 in
set_option maxHeartbeats 400000 in
theorem c_X8_takeSealsAway (D : DT) (X : XT) (s : SG) (l c : Nat)  (h33 : ∀ j, j < c → (s.1 32 j = -1 ↔ s.1 33 j = -1)) (hc2 : c ≤ 6) (hsl : ∀ f, f < 6 → X.2.2.1 5 f = decide (f < c)) : CC yX8_takeSealsAway cX8_takeSealsAway 7 (Option.some Jvm.ClassFile.FieldType.int) rm_X8_takeSealsAway D [.ref (X.1 0 0), .int (nI l)] X s (fun v s' => v = some (.int (nI (losF s l c).2)) ∧ s' = (losF s l c).1) := by
  intro G hG
  refine MC_of (by decide +kernel) (Nat.le_of_ble_eq_true rfl) (fun K sz hR => ?_)
  show V cX8_takeSealsAway _ 7 _ D K 0 [some (.ref (X.1 0 0)), some (.int (nI l)), none, none, none, none, none] [] G (0, 0)
  refine v_iconst (pc := 0) (v := 0) dX8_takeSealsAway_0 (by decide) ?_
  refine v_istore_n (pc := 1) dX8_takeSealsAway_1 rfl rfl (by decide) ?_
  refine v_aload_n (pc := 2) dX8_takeSealsAway_2 rfl rfl ?_
  refine vc_getR (pc := 3) (f := 10) hG dX8_takeSealsAway_3 fl_X8_49 rfl (hG.2.2.1 0 (by decide)) rfl (by decide) (rvL_0_10 _ _ _) (fun hL3 => ?_)
  refine v_astore_n (pc := 6) dX8_takeSealsAway_6 rfl rfl (by decide) ?_
  refine v_aload_n (pc := 7) dX8_takeSealsAway_7 rfl rfl ?_
  refine vc_alen (pc := 8) (k := 9) (x := 6) hG dX8_takeSealsAway_8 (hG.2.2.1 5 (by decide)) rfl rfl rfl ?_
  refine v_istore (pc := 9) dX8_takeSealsAway_9 rfl (by decide) ?_
  refine v_iconst (pc := 11) (v := 0) dX8_takeSealsAway_11 (by decide) ?_
  refine v_istore (pc := 12) dX8_takeSealsAway_12 rfl (by decide) ?_
  refine Eq.mp ?_ (l_X8_takeSeals (D := D) (K := K) (s := s) l c h33 hc2 hsl (fun G hG => ?_) 6 0 G (by omega) (by rw [Nat.zero_min]; exact hG))
  · rw [Nat.zero_min]; rfl
  · refine v_iload_n (pc := 63) dX8_takeSealsAway_63 rfl rfl ?_
    refine v_iret (pc := 64) hR dX8_takeSealsAway_64 ⟨by decide, by decide⟩ ?_
    exact ⟨_, hG, rfl, rfl⟩
set_option maxRecDepth 100000 in
set_option maxHeartbeats 400000 in
theorem c_X8_find (D : DT) (X : XT) (s : SG) (a c : Nat) (p0 : Int32) (p1 : Int32) (hz : p1 = 0 ∨ p1 = 1) (h33 : ∀ j, j < c → (s.1 32 j = -1 ↔ s.1 33 j = -1)) (hn0 : s.1 0 0 = nI a) (ha : a ≤ 6) (hsl0 : ∀ f, f < 6 → X.2.2.1 1 f = decide (f < a)) (hc2 : c ≤ 6) (hsl : ∀ f, f < 6 → X.2.2.1 5 f = decide (f < c)) : CX yX8_find cX8_find 4 (Option.some Jvm.ClassFile.FieldType.int) rm_X8_find D [.ref (X.1 0 0), .int p0, .int p1] X s (fun v s' => v = some (.int (nI (gFind s c (nat p0) p1).2)) ∧ s' = (gFind s c (nat p0) p1).1 ∧ kFind s a p0 p1 = 0) (fun e => (e = xIO ∧ kFind s a p0 p1 = 1) ∨ (e = xIS ∧ kFind s a p0 p1 = 2)) := by
  intro G hG
  refine MX_of (by decide +kernel) (Nat.le_of_ble_eq_true rfl) (fun K sz hR hX => ?_)
  show V cX8_find _ 4 _ D K 0 [some (.ref (X.1 0 0)), some (.int p0), some (.int p1), none] [] G (0, 0)
  refine v_aload_n (pc := 0) dX8_find_0 rfl rfl ?_
  refine v_iload_n (pc := 1) dX8_find_1 rfl rfl ?_
  refine vc_callV1 (pc := 2) (0, 0) hG dX8_find_2 cw_X8_85 im_yX8_lotAt se_yX8_lotAt (c_X8_lotAt D X _ a _ hn0 ha hsl0) (hG.2.2.1 0 (by decide)) rfl rfl (Nat.le_of_ble_eq_true rfl) ⟨Nat.le_of_ble_eq_true rfl, Nat.le_of_ble_eq_true rfl⟩ ⟨by decide, by decide⟩ rfl (fun v s1 G hp hG => ?_)
  obtain ⟨hs1, hp⟩ := hp
  subst s1
  rcases hp with ⟨c2, hv1⟩ | ⟨j, hj, hj1, hL2, hv1⟩
  · subst hv1
    refine v_astore_nN (pc := 5) dX8_find_5 rfl rfl (by decide) ?_
    refine v_aload_nN (pc := 6) dX8_find_6 rfl rfl ?_
    refine v_ifnonnullN (pc := 7) dX8_find_7 ?_
    refine v_throw (pc := 10) hX tw_X8_89_91_93 dX8_find_10 dX8_find_13 dX8_find_14 dX8_find_16 dX8_find_19 (Nat.le_of_ble_eq_true rfl) ⟨by decide, by decide⟩ ⟨by decide, by decide⟩ ?_
    exact ⟨hG, Or.inl ⟨rfl, by rw [kFind, if_neg c2]⟩⟩
  · subst hj1
    subst hv1
    have en : nat (nI j) = j := nat_nI (by omega)
    refine v_astore_n (pc := 5) dX8_find_5 rfl rfl (by decide) ?_
    refine v_aload_n (pc := 6) dX8_find_6 rfl rfl ?_
    refine v_ifnonnull (pc := 7) (tgt := 20) dX8_find_7 (by decide) ?_
    refine v_aload_n (pc := 20) dX8_find_20 rfl rfl ?_
    refine vc_getI (pc := 21) (f := 4) hG dX8_find_21 fl_X8_351 (Or.inr rfl) (by assumption) rfl (by decide) (ivL_13_4 _ _) ?_
    refine v_iload_n (pc := 24) dX8_find_24 rfl rfl ?_
    refine v_icmp_ne (pc := 25) (tgt := 39) dX8_find_25 (by decide) (fun c25 => ?_) (fun c25 => ?_)
    · refine v_aload_n (pc := 39) dX8_find_39 rfl rfl ?_
      refine v_iload_n (pc := 40) dX8_find_40 rfl rfl ?_
      refine vc_putI (pc := 41) hG dX8_find_41 fw_X8_351 rfl (Or.inr rfl) (by assumption) rfl (z_nar hz) (z_fit hz) (uI_13_4 _ _ _) (fun G hG => ?_)
      refine v_iload_n (pc := 44) dX8_find_44 rfl rfl ?_
      refine v_if_eq (pc := 45) (tgt := 56) dX8_find_45 (by decide) (fun c45 => ?_) (fun c45 => ?_)
      · refine v_iconst (pc := 56) (v := 0) dX8_find_56 (by decide) ?_
        refine v_iret (pc := 57) hR dX8_find_57 ⟨by decide, by decide⟩ ?_
        have hk9 : kFind s a (nI j) p1 = 0 := by rw [kFind, if_pos ((btw_ix (a := a) (by omega)).mpr ⟨j, hj, rfl⟩), en, if_neg c25]
        first
          | exact ⟨_, hG, by rw [en, gFind, if_neg c45], by rw [en, gFind, if_neg c45], hk9⟩
          | exact ⟨_, hG, by rw [en, gFind, if_pos c45]; rfl, by rw [en, gFind, if_pos c45], hk9⟩
      · refine v_aload_n (pc := 48) dX8_find_48 rfl rfl ?_
        refine v_iload_n (pc := 49) dX8_find_49 rfl rfl ?_
        refine vc_callV1 (pc := 50) (0, 0) hG dX8_find_50 cw_X8_372 im_yX8_takeSealsAway se_yX8_takeSealsAway (c_X8_takeSealsAway D X _ j c (fun i hi => by simpa [sI, u2] using h33 i hi) hc2 hsl) (hG.2.2.1 0 (by decide)) rfl rfl (Nat.le_of_ble_eq_true rfl) ⟨Nat.le_of_ble_eq_true rfl, Nat.le_of_ble_eq_true rfl⟩ ⟨by decide, by decide⟩ rfl (fun v s1 G hp hG => ?_)
        obtain ⟨hv1, hs1⟩ := hp
        subst hv1
        subst s1
        refine v_goto (pc := 53) (tgt := 57) dX8_find_53 (by decide) ?_
        refine v_iret (pc := 57) hR dX8_find_57 ⟨by decide, by decide⟩ ?_
        have hk9 : kFind s a (nI j) p1 = 0 := by rw [kFind, if_pos ((btw_ix (a := a) (by omega)).mpr ⟨j, hj, rfl⟩), en, if_neg c25]
        first
          | exact ⟨_, hG, by rw [en, gFind, if_neg c45], by rw [en, gFind, if_neg c45], hk9⟩
          | exact ⟨_, hG, by rw [en, gFind, if_pos c45]; rfl, by rw [en, gFind, if_pos c45], hk9⟩
    · refine v_throwW (pc := 28) hX tw_X8_77_370_81 dX8_find_28 dX8_find_31 dX8_find_32 dX8_find_35 dX8_find_38 (Nat.le_of_ble_eq_true rfl) ⟨by decide, by decide⟩ ⟨by decide, by decide⟩ ?_
      exact ⟨hG, Or.inr ⟨rfl, by rw [kFind, if_pos ((btw_ix (a := a) (by omega)).mpr ⟨j, hj, rfl⟩), en, if_pos c25]⟩⟩
theorem nI_64 {a b : Nat} (h : a + b < 2147483648) : (nI a).toInt64 + (nI b).toInt64 = (nI (a + b)).toInt64 := by
  apply Int64.toInt_inj.mp
  rw [Int64.toInt_add, Int32.toInt_toInt64, Int32.toInt_toInt64, Int32.toInt_toInt64, nI_toInt (by omega), nI_toInt (by omega), nI_toInt (by omega)]
  rw [Int.bmod_eq_of_le (by omega) (by omega)]
  omega
theorem alF_64 {s : SG} {g i : Nat} (h : GV s g) (hg : g ≤ 8) (hi : i < g) (c : ¬ s.1 22 i = 0) : (alF s i).toInt64 + (s.1 21 i).toInt64 = (alF s (i + 1)).toInt64 := by
  obtain ⟨h1, h2, -⟩ := alF_n h hg i (by omega)
  obtain ⟨q, q1, q2, q3⟩ := h i hi
  rw [alF, if_neg c, h1, q3, nI_add, nI_64 (by omega)]
theorem alF_0 {s : SG} {g : Nat} (h : GV s g) (hg : g ≤ 8) (hz : (alF s g).toInt64 ≤ 0) : ∀ j, j < g → s.1 22 j = 0 := by
  intro j hj
  refine Classical.byContradiction fun c => ?_
  obtain ⟨h1, h2, h3⟩ := alF_n h hg g (Nat.le_refl _)
  have h4 := h3 j hj c
  rw [h1, Int64.le_iff_toInt_le, Int32.toInt_toInt64, nI_toInt (by omega)] at hz
  have : (0 : Int64).toInt = 0 := rfl
  omega
theorem lowA_0 {s : SG} : ∀ i, (∀ j, j < i → s.1 22 j = 0) → lowA s i = none := by
  intro i
  induction i with
  | zero => intro _; rfl
  | succ i ih =>
    intro h
    rw [lowA, ih (fun j hj => h j (by omega))]
    simp [h i (by omega)]
theorem shr2_0 {s : SG} {g : Nat} (f : Int64) (h : ∀ j, j < g → s.1 22 j = 0) : shr2 s f g = s := by
  rw [shr2, lowA_0 g h]
  refine Prod.ext rfl (funext fun k => funext fun j => ?_)
  show (if k = 23 ∧ j < g ∧ ¬ s.1 22 j = 0 then _ else s.2 k j) = _
  rw [if_neg (fun z => z.2.2 (h j z.2.1))]
theorem shr_0 {s : SG} {g : Nat} (f : Int64) (h : ∀ j, j < g → s.1 22 j = 0) : shr s f g = s := by
  rw [shr, shr2_0 f h]
  refine Prod.ext (funext fun k => funext fun j => ?_) rfl
  show (if k = 22 ∧ j < g ∧ ¬ s.1 22 j = 0 ∧ _ then _ else s.1 k j) = _
  rw [if_neg (fun z => z.2.2.1 (h j z.2.1))]
theorem inN_0 {s : SG} : ∀ i, inN s i = 0 → ∀ j, j < i → s.1 22 j = 0 := by
  intro i
  induction i with
  | zero => intro _ j hj; omega
  | succ i ih =>
    intro h j hj
    rw [inN] at h
    rcases (show j < i ∨ j = i by omega) with q | rfl
    · exact ih (by omega) j q
    · refine Classical.byContradiction fun c => ?_
      rw [if_neg c] at h
      omega
theorem gusF_1 {f : Int64} {g : Nat} : ∀ (n : Nat) (s : SG), inN s g ≤ n → gusF s f g (n + 1) = gusF s f g n := by
  intro n
  induction n with
  | zero =>
    intro s h
    have h0 := inN_0 (s := s) g (by omega)
    have h1 := inN_shr s f g
    show (if shrN s f g = 0 then (shr s f g, 0) else _) = _
    rw [if_pos (by omega), shr_0 f h0, gusF]
  | succ n ih =>
    intro s h
    show (if shrN s f g = 0 then (shr s f g, 0) else ((gusF (shr s f g) f g (n + 1)).1, (gusF (shr s f g) f g (n + 1)).2 + shrN s f g)) = (if shrN s f g = 0 then (shr s f g, 0) else ((gusF (shr s f g) f g n).1, (gusF (shr s f g) f g n).2 + shrN s f g))
    by_cases c : shrN s f g = 0
    · rw [if_pos c, if_pos c]
    · rw [if_neg c, if_neg c]
      have h1 := inN_shr s f g
      rw [ih (shr s f g) (by omega)]
def lowV (X : XT) (s : SG) (i : Nat) : Value := match lowA s i with
  | some k => .ref (X.1 16 k)
  | none => .null
set_option maxRecDepth 100000 in
set_option maxHeartbeats 400000 in
theorem l_X8_stiff {D : DT} {K : KT} {X : XT} {s : SG} (g : Nat) (hv : GV s g) (hg8 : g ≤ 8) (hsl : ∀ f, f < 8 → X.2.2.1 4 f = decide (f < g)) (kk : ∀ (G : GT), LF X s G → V cX8_stiffnessTogether yX8_stiffnessTogether.cls 7 rm_X8_stiffnessTogether D K 55 [some (.ref (X.1 0 0)), some (.long (alF s g).toInt64), none, some (.ref (X.1 4 0)), some (.int 8), some (.int (nI 8)), none] [] G (0, 0)) : ∀ (d i : Nat)  (G : GT), i + d = 8 → LF X s G → V cX8_stiffnessTogether yX8_stiffnessTogether.cls 7 rm_X8_stiffnessTogether D K 14 [some (.ref (X.1 0 0)), some (.long (alF s (min i g)).toInt64), none, some (.ref (X.1 4 0)), some (.int 8), some (.int (nI i)), none] [] G (0, 0) := by
  intro d
  induction d with
  | zero =>
    intro i  G he0 he1 
    refine v_iload (pc := 14) dX8_stiffnessTogether_14 rfl ?_
    refine v_iload (pc := 16) dX8_stiffnessTogether_16 rfl ?_
    refine v_icmp_ge (pc := 18) (tgt := 55) dX8_stiffnessTogether_18 (by decide) (fun c18 => ?_) (fun c18 => absurd c18 (not_not_intro (by rw [show i = 8 by omega]; decide)))
    have e : i = 8 := by omega
    subst e
    first | rw [show min 8 g = g by omega] at he1 ⊢ | rw [show min 8 g = g by omega]
    exact kk G he1
  | succ d ih =>
    intro i  G he0 he1 
    have hG := he1
    refine v_iload (pc := 14) dX8_stiffnessTogether_14 rfl ?_
    refine v_iload (pc := 16) dX8_stiffnessTogether_16 rfl ?_
    refine v_icmp_ge (pc := 18) (tgt := 55) dX8_stiffnessTogether_18 (by decide) (fun c18 => absurd c18 (nI_ge (b := 8) (by omega) (by decide))) (fun c18 => ?_)
    by_cases c21 : i < g
    · have m0 : min i g = i := by omega
      have m1 : min (i + 1) g = i + 1 := by omega
      first | rw [m0] at hG ⊢ | rw [m0]
      refine v_aload_n (pc := 21) dX8_stiffnessTogether_21 rfl rfl ?_
      refine v_iload (pc := 22) dX8_stiffnessTogether_22 rfl ?_
      refine vc_aald (pc := 24) (k := 8) (j := i) hG dX8_stiffnessTogether_24 (hG.2.2.1 4 (by decide)) rfl (by decide) rfl rfl (by show _ < 8; omega) (c' := 16) (i' := i) (by show (if X.2.2.1 4 i then some (16, i) else none) = _; rw [hsl i (by omega), if_pos (decide_eq_true c21)]) (fun hL24 => ?_)
      refine v_astore (pc := 25) dX8_stiffnessTogether_25 rfl (by decide) ?_
      refine v_aload (pc := 27) dX8_stiffnessTogether_27 rfl ?_
      refine v_ifnull (pc := 29) dX8_stiffnessTogether_29 ?_
      refine v_aload (pc := 32) dX8_stiffnessTogether_32 rfl ?_
      refine vc_getI (pc := 34) (f := 2) hG dX8_stiffnessTogether_34 fl_X8_244 (Or.inr rfl) (by assumption) rfl (by decide) (ivL_16_2 _ _) ?_
      refine v_if_eq (pc := 37) (tgt := 49) dX8_stiffnessTogether_37 (by decide) (fun c37 => ?_) (fun c37 => ?_)
      · have e9 : alF s (i + 1) = alF s i := by rw [alF, if_pos c37, Int32.add_zero]
        refine v_iinc (pc := 49) dX8_stiffnessTogether_49 rfl (nI_1 i) rfl (by decide) ?_
        refine v_goto (pc := 52) (tgt := 14) dX8_stiffnessTogether_52 (by decide) ?_
        refine v_forget 6 ?_
        have e8 := ih (i + 1) G (by omega) (by first | exact hG | (rw [m1]; exact hG))
        rw [m1, e9] at e8
        exact e8
      · have e9 := (alF_64 hv hg8 c21 c37).symm
        refine v_lload_n (pc := 40) dX8_stiffnessTogether_40 rfl rfl ?_
        refine v_aload (pc := 41) dX8_stiffnessTogether_41 rfl ?_
        refine vc_getI (pc := 43) (f := 1) hG dX8_stiffnessTogether_43 fl_X8_251 (Or.inl rfl) (by assumption) rfl (by decide) (ivL_16_1 _ _) ?_
        refine v_i2l (pc := 46) dX8_stiffnessTogether_46 ?_
        refine v_ladd (pc := 47) dX8_stiffnessTogether_47 ?_
        refine v_lstore_n (pc := 48) dX8_stiffnessTogether_48 rfl rfl (by decide) ?_
        refine v_iinc (pc := 49) dX8_stiffnessTogether_49 rfl (nI_1 i) rfl (by decide) ?_
        refine v_goto (pc := 52) (tgt := 14) dX8_stiffnessTogether_52 (by decide) ?_
        refine v_forget 6 ?_
        have e8 := ih (i + 1) G (by omega) (by first | exact hG | (rw [m1]; exact hG))
        rw [m1, e9] at e8
        exact e8
    · have m0 : min i g = g := by omega
      have m1 : min (i + 1) g = g := by omega
      first | rw [m0] at hG ⊢ | rw [m0]
      refine v_aload_n (pc := 21) dX8_stiffnessTogether_21 rfl rfl ?_
      refine v_iload (pc := 22) dX8_stiffnessTogether_22 rfl ?_
      refine vc_aaldN (pc := 24) (k := 8) (j := i) hG dX8_stiffnessTogether_24 (hG.2.2.1 4 (by decide)) rfl (by decide) rfl rfl (by show _ < 8; omega) (by show (if X.2.2.1 4 i then some (16, i) else none) = _; rw [hsl i (by omega), if_neg (by rw [decide_eq_true_eq]; omega)]) ?_
      refine v_astoreN (pc := 25) dX8_stiffnessTogether_25 rfl (by decide) ?_
      refine v_aloadN (pc := 27) dX8_stiffnessTogether_27 rfl ?_
      refine v_ifnullN (pc := 29) (tgt := 49) dX8_stiffnessTogether_29 (by decide) ?_
      refine v_iinc (pc := 49) dX8_stiffnessTogether_49 rfl (nI_1 i) rfl (by decide) ?_
      refine v_goto (pc := 52) (tgt := 14) dX8_stiffnessTogether_52 (by decide) ?_
      refine v_forget 6 ?_
      have e8 := ih (i + 1) G (by omega) (by first | exact hG | (rw [m1]; exact hG))
      rw [m1] at e8
      exact e8
set_option maxRecDepth 100000 in
set_option maxHeartbeats 400000 in
theorem c_X8_stiffnessTogether (D : DT) (X : XT) (s : SG) (g : Nat)  (hv : GV s g) (hg8 : g ≤ 8) (hsl : ∀ f, f < 8 → X.2.2.1 4 f = decide (f < g)) : CC yX8_stiffnessTogether cX8_stiffnessTogether 7 (Option.some Jvm.ClassFile.FieldType.long) rm_X8_stiffnessTogether D [.ref (X.1 0 0)] X s (fun v s' => v = some (.long (alF s g).toInt64) ∧ s' = s) := by
  intro G hG
  refine MC_of (by decide +kernel) (Nat.le_of_ble_eq_true rfl) (fun K sz hR => ?_)
  show V cX8_stiffnessTogether _ 7 _ D K 0 [some (.ref (X.1 0 0)), none, none, none, none, none, none] [] G (0, 0)
  refine v_lconst (pc := 0) (v := 0) dX8_stiffnessTogether_0 (by decide) ?_
  refine v_lstore_n (pc := 1) dX8_stiffnessTogether_1 rfl rfl (by decide) ?_
  refine v_aload_n (pc := 2) dX8_stiffnessTogether_2 rfl rfl ?_
  refine vc_getR (pc := 3) (f := 7) hG dX8_stiffnessTogether_3 fl_X8_36 rfl (hG.2.2.1 0 (by decide)) rfl (by decide) (rvL_0_7 _ _ _) (fun hL3 => ?_)
  refine v_astore_n (pc := 6) dX8_stiffnessTogether_6 rfl rfl (by decide) ?_
  refine v_aload_n (pc := 7) dX8_stiffnessTogether_7 rfl rfl ?_
  refine vc_alen (pc := 8) (k := 8) (x := 8) hG dX8_stiffnessTogether_8 (hG.2.2.1 4 (by decide)) rfl rfl rfl ?_
  refine v_istore (pc := 9) dX8_stiffnessTogether_9 rfl (by decide) ?_
  refine v_iconst (pc := 11) (v := 0) dX8_stiffnessTogether_11 (by decide) ?_
  refine v_istore (pc := 12) dX8_stiffnessTogether_12 rfl (by decide) ?_
  refine Eq.mp ?_ (l_X8_stiff (D := D) (K := K) (X := X) (s := s) g hv hg8 hsl (fun G hG => ?_) 8 0 G (by omega) hG)
  · rw [Nat.zero_min]; rfl
  · refine v_lload_n (pc := 55) dX8_stiffnessTogether_55 rfl rfl ?_
    refine v_lret (pc := 56) hR dX8_stiffnessTogether_56 ⟨by decide, by decide⟩ ?_
    exact ⟨_, hG, rfl, rfl⟩
