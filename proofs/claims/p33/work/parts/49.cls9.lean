theorem lowV_c (X : XT) (s : SG) (i : Nat) : (lowA s i = none ∧ lowV X s i = .null) ∨ ∃ k, lowA s i = some k ∧ lowV X s i = .ref (X.1 16 k) := by
  cases h : lowA s i with
  | none => exact Or.inl ⟨rfl, by rw [lowV, h]⟩
  | some k => exact Or.inr ⟨k, rfl, by rw [lowV, h]⟩
theorem lowV_cat (X : XT) (s : SG) (i : Nat) : (lowV X s i).category = 1 := by
  rcases lowV_c X s i with ⟨_, e⟩ | ⟨k, _, e⟩ <;> rw [e] <;> rfl
theorem LF.l16 {X : XT} {s : SG} {G : GT} (hG : LF X s G) {k : Nat} (h8 : k < 8) (hs : X.2.2.1 4 k = true) : X.2.1 16 k = true :=
  ((hG.1 4 0 (hG.2.2.1 4 (by decide))).2 k (by show k < 8; exact h8)).2.2.2 (16, k) (by show (if X.2.2.1 4 k then some (16, k) else none) = _; rw [if_pos hs])
theorem outL {v a b : Int64} : ¬ outP v a b ↔ a ≤ v ∧ v ≤ b := by
  unfold outP
  rw [not_or, l_nlt, l_nlt]
theorem lowA_s {s : SG} {i : Nat} (h : s.1 22 i = 0) : lowA s (i + 1) = lowA s i := by
  rw [lowA]
  cases lowA s i with
  | none => simp [h]
  | some k => rfl
set_option maxRecDepth 100000 in
set_option maxHeartbeats 400000 in
theorem l_X8_share {D : DT} {K : KT} {X : XT} {s : SG} (g : Nat) (f : Int64) (hv : GV s g) (hg8 : g ≤ 8) (hsl : ∀ f, f < 8 → X.2.2.1 4 f = decide (f < g)) (kk : ∀ (G : GT), LF X (shP s f (alF s g) g) G → V cX8_shareForce yX8_shareForce.cls 12 rm_X8_shareForce D K 104 [some (.ref (X.1 0 0)), some (.long f), none, some (.long (alF s g).toInt64), none, some (lowV X s g), some (.long (lfF s f (alF s g) g)), none, some (.ref (X.1 4 0)), some (.int 8), some (.int (nI 8)), none] [] G (0, 0)) : ∀ (d i : Nat)  (G : GT), i + d = 8 → LF X (shP s f (alF s g) (min i g)) G → V cX8_shareForce yX8_shareForce.cls 12 rm_X8_shareForce D K 32 [some (.ref (X.1 0 0)), some (.long f), none, some (.long (alF s g).toInt64), none, some (lowV X s (min i g)), some (.long (lfF s f (alF s g) (min i g))), none, some (.ref (X.1 4 0)), some (.int 8), some (.int (nI i)), none] [] G (0, 0) := by
  intro d
  induction d with
  | zero =>
    intro i  G he0 he1 
    refine v_iload (pc := 32) dX8_shareForce_32 rfl ?_
    refine v_iload (pc := 34) dX8_shareForce_34 rfl ?_
    refine v_icmp_ge (pc := 36) (tgt := 104) dX8_shareForce_36 (by decide) (fun c36 => ?_) (fun c36 => absurd c36 (not_not_intro (by rw [show i = 8 by omega]; decide)))
    have e : i = 8 := by omega
    subst e
    first | rw [show min 8 g = g by omega] at he1 ⊢ | rw [show min 8 g = g by omega]
    exact kk G he1
  | succ d ih =>
    intro i  G he0 he1 
    have hG := he1
    refine v_iload (pc := 32) dX8_shareForce_32 rfl ?_
    refine v_iload (pc := 34) dX8_shareForce_34 rfl ?_
    refine v_icmp_ge (pc := 36) (tgt := 104) dX8_shareForce_36 (by decide) (fun c36 => absurd c36 (nI_ge (b := 8) (by omega) (by decide))) (fun c36 => ?_)
    by_cases c21 : i < g
    · have m0 : min i g = i := by omega
      have m1 : min (i + 1) g = i + 1 := by omega
      first | rw [m0] at hG ⊢ | rw [m0]
      refine v_aload (pc := 39) dX8_shareForce_39 rfl ?_
      refine v_iload (pc := 41) dX8_shareForce_41 rfl ?_
      refine vc_aald (pc := 43) (k := 8) (j := i) hG dX8_shareForce_43 (hG.2.2.1 4 (by decide)) rfl (by decide) rfl rfl (by show _ < 8; omega) (c' := 16) (i' := i) (by show (if X.2.2.1 4 i then some (16, i) else none) = _; rw [hsl i (by omega), if_pos (decide_eq_true c21)]) (fun hL43 => ?_)
      refine v_astore (pc := 44) dX8_shareForce_44 rfl (by decide) ?_
      refine v_aload (pc := 46) dX8_shareForce_46 rfl ?_
      refine v_ifnull (pc := 48) dX8_shareForce_48 ?_
      refine v_aload (pc := 51) dX8_shareForce_51 rfl ?_
      refine vc_getI (pc := 53) (f := 2) hG dX8_shareForce_53 fl_X8_244 (Or.inr rfl) (by assumption) rfl (by decide) (show iv _ 16 i 2 = s.1 22 i from rfl) ?_
      refine v_if_eq (pc := 56) (tgt := 98) dX8_shareForce_56 (by decide) (fun c56 => ?_) (fun c56 => ?_)
      · refine v_iinc (pc := 98) dX8_shareForce_98 rfl (nI_1 i) rfl (by decide) ?_
        refine v_goto (pc := 101) (tgt := 32) dX8_shareForce_101 (by decide) ?_
        have e8 := ih (i + 1) G (by omega) (by rw [m1, ← shP_n s f (alF s g) i c56]; exact hG)
        refine v_forget 11 ?_
        rw [m1, show lowV X s (i + 1) = lowV X s i by rw [lowV, lowA_s c56]; rfl, show lfF s f (alF s g) (i + 1) = lfF s f (alF s g) i by rw [lfF, if_pos c56]] at e8
        exact e8
      · refine v_aload (pc := 59) dX8_shareForce_59 rfl ?_
        refine v_lload_n (pc := 61) dX8_shareForce_61 rfl rfl ?_
        refine v_aload (pc := 62) dX8_shareForce_62 rfl ?_
        refine vc_getI (pc := 64) (f := 1) hG dX8_shareForce_64 fl_X8_251 (Or.inl rfl) (by assumption) rfl (by decide) (show iv _ 16 i 1 = s.1 21 i from rfl) ?_
        refine v_i2l (pc := 67) dX8_shareForce_67 ?_
        refine v_lmul (pc := 68) dX8_shareForce_68 ?_
        refine v_lload_n (pc := 69) dX8_shareForce_69 rfl rfl ?_
        refine v_ldiv (pc := 70) dX8_shareForce_70 (alF_ne hv hg8 c21 c56) ?_
        refine vc_putJ (pc := 71) hG dX8_shareForce_71 fw_X8_241 rfl (by assumption) rfl (uJ_16_3 _ _ _) (fun G hG => ?_)
        refine v_lload (pc := 74) dX8_shareForce_74 rfl ?_
        refine v_aload (pc := 76) dX8_shareForce_76 rfl ?_
        refine vc_getJ (pc := 78) (f := 3) hG dX8_shareForce_78 fl_X8_241 rfl (by assumption) rfl (by decide) (show jv _ 16 i 3 = pulS s f (alF s g) i by rw [jvL_16_3, sJ_s]; rfl) ?_
        refine v_lsub (pc := 81) dX8_shareForce_81 ?_
        refine v_lstore (pc := 82) dX8_shareForce_82 (by show ((lowV X s i).category == 1) = true; rw [lowV_cat]; rfl) (by decide) ?_
        have hG2 : LF X (shP s f (alF s g) (i + 1)) G := by rw [← shP_s s f (alF s g) i c56]; exact hG
        have e8 := ih (i + 1) G (by omega) (by rw [m1]; exact hG2)
        rcases lowV_c X s i with ⟨e5, e6⟩ | ⟨k, e5, e6⟩
        · rw [e6]
          refine v_aloadN (pc := 84) dX8_shareForce_84 rfl ?_
          refine v_ifnonnullN (pc := 86) dX8_shareForce_86 ?_
          refine v_aload (pc := 89) dX8_shareForce_89 rfl ?_
          refine v_goto (pc := 91) (tgt := 96) dX8_shareForce_91 (by decide) ?_
          refine v_astore (pc := 96) dX8_shareForce_96 rfl (by decide) ?_
          refine v_iinc (pc := 98) dX8_shareForce_98 rfl (nI_1 i) rfl (by decide) ?_
          refine v_goto (pc := 101) (tgt := 32) dX8_shareForce_101 (by decide) ?_
          refine v_forget 11 ?_
          rw [m1, show lowV X s (i + 1) = .ref (X.1 16 i) by rw [lowV, lowA, e5]; simp [c56], show lfF s f (alF s g) (i + 1) = lfF s f (alF s g) i - pulS s f (alF s g) i by rw [lfF, if_neg c56]] at e8
          exact e8
        · rw [e6]
          refine v_aload (pc := 84) dX8_shareForce_84 rfl ?_
          refine v_ifnonnull (pc := 86) (tgt := 94) dX8_shareForce_86 (by decide) ?_
          refine v_aload (pc := 94) dX8_shareForce_94 rfl ?_
          refine v_astore (pc := 96) dX8_shareForce_96 rfl (by decide) ?_
          refine v_iinc (pc := 98) dX8_shareForce_98 rfl (nI_1 i) rfl (by decide) ?_
          refine v_goto (pc := 101) (tgt := 32) dX8_shareForce_101 (by decide) ?_
          refine v_forget 11 ?_
          rw [m1, show lowV X s (i + 1) = .ref (X.1 16 k) by rw [lowV, lowA, e5], show lfF s f (alF s g) (i + 1) = lfF s f (alF s g) i - pulS s f (alF s g) i by rw [lfF, if_neg c56]] at e8
          exact e8
    · have m0 : min i g = g := by omega
      have m1 : min (i + 1) g = g := by omega
      first | rw [m0] at hG ⊢ | rw [m0]
      refine v_aload (pc := 39) dX8_shareForce_39 rfl ?_
      refine v_iload (pc := 41) dX8_shareForce_41 rfl ?_
      refine vc_aaldN (pc := 43) (k := 8) (j := i) hG dX8_shareForce_43 (hG.2.2.1 4 (by decide)) rfl (by decide) rfl rfl (by show _ < 8; omega) (by show (if X.2.2.1 4 i then some (16, i) else none) = _; rw [hsl i (by omega), if_neg (by rw [decide_eq_true_eq]; omega)]) ?_
      refine v_astoreN (pc := 44) dX8_shareForce_44 rfl (by decide) ?_
      refine v_aloadN (pc := 46) dX8_shareForce_46 rfl ?_
      refine v_ifnullN (pc := 48) (tgt := 98) dX8_shareForce_48 (by decide) ?_
      refine v_iinc (pc := 98) dX8_shareForce_98 rfl (nI_1 i) rfl (by decide) ?_
      refine v_goto (pc := 101) (tgt := 32) dX8_shareForce_101 (by decide) ?_
      refine v_forget 11 ?_
      have e8 := ih (i + 1) G (by omega) (by first | exact hG | (rw [m1]; exact hG))
      rw [m1] at e8
      exact e8
set_option maxRecDepth 100000 in
set_option maxHeartbeats 400000 in
theorem c_X8_shareForce (D : DT) (X : XT) (s : SG) (g : Nat) (p0 : Int64) (hv : GV s g) (hg8 : g ≤ 8) (hsl : ∀ f, f < 8 → X.2.2.1 4 f = decide (f < g)) : CC yX8_shareForce cX8_shareForce 12 (Option.none : Option Jvm.ClassFile.FieldType) rm_X8_shareForce D [.ref (X.1 0 0), .long p0] X s (fun v s' => v = none ∧ s' = shr2 s p0 g) := by
  intro G hG
  refine MC_of (by decide +kernel) (Nat.le_of_ble_eq_true rfl) (fun K sz hR => ?_)
  show V cX8_shareForce _ 12 _ D K 0 [some (.ref (X.1 0 0)), some (.long p0), none, none, none, none, none, none, none, none, none, none] [] G (0, 0)
  refine v_aload_n (pc := 0) dX8_shareForce_0 rfl rfl ?_
  refine vc_callV0 (pc := 1) (0, 0) hG dX8_shareForce_1 cw_X8_248 im_yX8_stiffnessTogether se_yX8_stiffnessTogether (c_X8_stiffnessTogether D X _ g hv hg8 hsl) (hG.2.2.1 0 (by decide)) rfl rfl (Nat.le_of_ble_eq_true rfl) ⟨Nat.le_of_ble_eq_true rfl, Nat.le_of_ble_eq_true rfl⟩ ⟨by decide, by decide⟩ rfl (fun v s1 G hp hG => ?_)
  obtain ⟨hv1, hs1⟩ := hp
  subst hv1
  subst s1
  refine v_lstore_n (pc := 4) dX8_shareForce_4 rfl rfl (by decide) ?_
  refine v_lload_n (pc := 5) dX8_shareForce_5 rfl rfl ?_
  refine v_lconst (pc := 6) (v := 0) dX8_shareForce_6 (by decide) ?_
  refine v_lcmp (pc := 7) dX8_shareForce_7 ?_
  refine v_if_gt (pc := 8) (tgt := 12) dX8_shareForce_8 (by decide) (fun c8 => ?_) (fun c8 => ?_)
  · rw [cmp_gt0] at c8
    refine v_null (pc := 12) dX8_shareForce_12 ?_
    refine v_astoreN (pc := 13) dX8_shareForce_13 rfl (by decide) ?_
    refine v_lload_n (pc := 15) dX8_shareForce_15 rfl rfl ?_
    refine v_lstore (pc := 16) dX8_shareForce_16 rfl (by decide) ?_
    refine v_aload_n (pc := 18) dX8_shareForce_18 rfl rfl ?_
    refine vc_getR (pc := 19) (f := 7) hG dX8_shareForce_19 fl_X8_36 rfl (hG.2.2.1 0 (by decide)) rfl (by decide) (rvL_0_7 _ _ _) (fun hL19 => ?_)
    refine v_astore (pc := 22) dX8_shareForce_22 rfl (by decide) ?_
    refine v_aload (pc := 24) dX8_shareForce_24 rfl ?_
    refine vc_alen (pc := 26) (k := 8) (x := 8) hG dX8_shareForce_26 (hG.2.2.1 4 (by decide)) rfl rfl rfl ?_
    refine v_istore (pc := 27) dX8_shareForce_27 rfl (by decide) ?_
    refine v_iconst (pc := 29) (v := 0) dX8_shareForce_29 (by decide) ?_
    refine v_istore (pc := 30) dX8_shareForce_30 rfl (by decide) ?_
    refine Eq.mp ?_ (l_X8_share (D := D) (K := K) (X := X) (s := s) g p0 hv hg8 hsl (fun G hG => ?_) 8 0 G (by omega) (by rw [Nat.zero_min, shP_0]; exact hG))
    · rw [Nat.zero_min]; rfl
    · rcases lowV_c X s g with ⟨e5, e6⟩ | ⟨k, e5, e6⟩
      · rw [e6]
        refine v_aloadN (pc := 104) dX8_shareForce_104 rfl ?_
        refine v_ifnullN (pc := 106) (tgt := 121) dX8_shareForce_106 (by decide) ?_
        refine v_vret (pc := 121) hR dX8_shareForce_121 ⟨by decide, by decide⟩ ?_
        exact ⟨_, hG, rfl, by rw [shr2, e5]⟩
      · rw [e6]
        obtain ⟨hkg, -⟩ := lowA_lt s g k e5
        have hLk := hG.l16 (k := k) (by omega) (by rw [hsl k (by omega)]; exact decide_eq_true hkg)
        refine v_aload (pc := 104) dX8_shareForce_104 rfl ?_
        refine v_ifnull (pc := 106) dX8_shareForce_106 ?_
        refine v_aload (pc := 109) dX8_shareForce_109 rfl ?_
        refine v_dup (pc := 111) dX8_shareForce_111 rfl ?_
        refine vc_getJ (pc := 112) (f := 3) hG dX8_shareForce_112 fl_X8_241 rfl hLk rfl (by decide) (jvL_16_3 _ _) ?_
        refine v_lload (pc := 115) dX8_shareForce_115 rfl ?_
        refine v_ladd (pc := 117) dX8_shareForce_117 ?_
        refine vc_putJ (pc := 118) hG dX8_shareForce_118 fw_X8_241 rfl hLk rfl (uJ_16_3 _ _ _) (fun G hG => ?_)
        refine v_vret (pc := 121) hR dX8_shareForce_121 ⟨by decide, by decide⟩ ?_
        exact ⟨_, hG, rfl, by rw [shr2, e5]⟩
  · rw [cmp_gt0, l_nlt] at c8
    refine v_vret (pc := 11) hR dX8_shareForce_11 ⟨by decide, by decide⟩ ?_
    exact ⟨_, hG, rfl, (shr2_0 p0 (alF_0 hv hg8 c8)).symm⟩
set_option maxRecDepth 100000 in
set_option maxHeartbeats 400000 in
theorem l_X8_takeOut {D : DT} {K : KT} {X : XT} {s : SG} (g : Nat) (hg8 : g ≤ 8) (hsl : ∀ f, f < 8 → X.2.2.1 4 f = decide (f < g)) (kk : ∀ (G : GT), LF X (shO s g) G → V cX8_takeOutOverpulled yX8_takeOutOverpulled.cls 6 rm_X8_takeOutOverpulled D K 67 [some (.ref (X.1 0 0)), some (.int (nI (otF s g))), some (.ref (X.1 4 0)), some (.int 8), some (.int (nI 8)), none] [] G (0, 0)) : ∀ (d i : Nat)  (G : GT), i + d = 8 → LF X (shO s (min i g)) G → V cX8_takeOutOverpulled yX8_takeOutOverpulled.cls 6 rm_X8_takeOutOverpulled D K 13 [some (.ref (X.1 0 0)), some (.int (nI (otF s (min i g)))), some (.ref (X.1 4 0)), some (.int 8), some (.int (nI i)), none] [] G (0, 0) := by
  intro d
  induction d with
  | zero =>
    intro i  G he0 he1 
    refine v_iload (pc := 13) dX8_takeOutOverpulled_13 rfl ?_
    refine v_iload_n (pc := 15) dX8_takeOutOverpulled_15 rfl rfl ?_
    refine v_icmp_ge (pc := 16) (tgt := 67) dX8_takeOutOverpulled_16 (by decide) (fun c16 => ?_) (fun c16 => absurd c16 (not_not_intro (by rw [show i = 8 by omega]; decide)))
    have e : i = 8 := by omega
    subst e
    first | rw [show min 8 g = g by omega] at he1 ⊢ | rw [show min 8 g = g by omega]
    exact kk G he1
  | succ d ih =>
    intro i  G he0 he1 
    have hG := he1
    refine v_iload (pc := 13) dX8_takeOutOverpulled_13 rfl ?_
    refine v_iload_n (pc := 15) dX8_takeOutOverpulled_15 rfl rfl ?_
    refine v_icmp_ge (pc := 16) (tgt := 67) dX8_takeOutOverpulled_16 (by decide) (fun c16 => absurd c16 (nI_ge (b := 8) (by omega) (by decide))) (fun c16 => ?_)
    by_cases c21 : i < g
    · have m0 : min i g = i := by omega
      have m1 : min (i + 1) g = i + 1 := by omega
      first | rw [m0] at hG ⊢ | rw [m0]
      refine v_aload_n (pc := 19) dX8_takeOutOverpulled_19 rfl rfl ?_
      refine v_iload (pc := 20) dX8_takeOutOverpulled_20 rfl ?_
      refine vc_aald (pc := 22) (k := 8) (j := i) hG dX8_takeOutOverpulled_22 (hG.2.2.1 4 (by decide)) rfl (by decide) rfl rfl (by show _ < 8; omega) (c' := 16) (i' := i) (by show (if X.2.2.1 4 i then some (16, i) else none) = _; rw [hsl i (by omega), if_pos (decide_eq_true c21)]) (fun hL22 => ?_)
      refine v_astore (pc := 23) dX8_takeOutOverpulled_23 rfl (by decide) ?_
      refine v_aload (pc := 25) dX8_takeOutOverpulled_25 rfl ?_
      refine v_ifnull (pc := 27) dX8_takeOutOverpulled_27 ?_
      refine v_aload (pc := 30) dX8_takeOutOverpulled_30 rfl ?_
      refine vc_getI (pc := 32) (f := 2) hG dX8_takeOutOverpulled_32 fl_X8_244 (Or.inr rfl) (by assumption) rfl (by decide) ((ivL_16_2 _ _).trans (shO_at s (Nat.le_refl i))) ?_
      refine v_if_eq (pc := 35) (tgt := 61) dX8_takeOutOverpulled_35 (by decide) (fun c35 => ?_) (fun c35 => ?_)
      · have e9 : ¬ (¬ s.1 22 i = 0 ∧ s.2 20 i < s.2 23 i) := fun z => z.1 c35
        refine v_iinc (pc := 61) dX8_takeOutOverpulled_61 rfl (nI_1 i) rfl (by decide) ?_
        refine v_goto (pc := 64) (tgt := 13) dX8_takeOutOverpulled_64 (by decide) ?_
        refine v_forget 5 ?_
        first
          | (have e8 := ih (i + 1) G (by omega) (by rw [m1, ← shO_n s i e9]; exact hG); rw [m1, show otF s (i + 1) = otF s i by rw [otF, if_neg e9]] at e8; exact e8)
          | (have e8 := ih (i + 1) G (by omega) (by rw [m1, ← shO_s s i e9.1 e9.2]; exact hG); rw [m1, show otF s (i + 1) = otF s i + 1 by rw [otF, if_pos e9]] at e8; exact e8)
      · refine v_aload (pc := 38) dX8_takeOutOverpulled_38 rfl ?_
        refine vc_getJ (pc := 40) (f := 3) hG dX8_takeOutOverpulled_40 fl_X8_241 rfl (by assumption) rfl (by decide) (show jv _ 16 i 3 = s.2 23 i from rfl) ?_
        refine v_aload (pc := 43) dX8_takeOutOverpulled_43 rfl ?_
        refine vc_getJ (pc := 45) (f := 0) hG dX8_takeOutOverpulled_45 fl_X8_254 rfl (by assumption) rfl (by decide) (show jv _ 16 i 0 = s.2 20 i from rfl) ?_
        refine v_lcmp (pc := 48) dX8_takeOutOverpulled_48 ?_
        refine v_if_le (pc := 49) (tgt := 61) dX8_takeOutOverpulled_49 (by decide) (fun c49 => ?_) (fun c49 => ?_)
        · rw [cmp_le0] at c49
          have e9 : ¬ (¬ s.1 22 i = 0 ∧ s.2 20 i < s.2 23 i) := fun z => absurd z.2 (l_nlt.mpr c49)
          refine v_iinc (pc := 61) dX8_takeOutOverpulled_61 rfl (nI_1 i) rfl (by decide) ?_
          refine v_goto (pc := 64) (tgt := 13) dX8_takeOutOverpulled_64 (by decide) ?_
          refine v_forget 5 ?_
          first
            | (have e8 := ih (i + 1) G (by omega) (by rw [m1, ← shO_n s i e9]; exact hG); rw [m1, show otF s (i + 1) = otF s i by rw [otF, if_neg e9]] at e8; exact e8)
            | (have e8 := ih (i + 1) G (by omega) (by rw [m1, ← shO_s s i e9.1 e9.2]; exact hG); rw [m1, show otF s (i + 1) = otF s i + 1 by rw [otF, if_pos e9]] at e8; exact e8)
        · rw [cmp_le0, l_nle] at c49
          have e9 : ¬ s.1 22 i = 0 ∧ s.2 20 i < s.2 23 i := ⟨c35, c49⟩
          refine v_aload (pc := 52) dX8_takeOutOverpulled_52 rfl ?_
          refine v_iconst (pc := 54) (v := 0) dX8_takeOutOverpulled_54 (by decide) ?_
          refine vc_putI (pc := 55) hG dX8_takeOutOverpulled_55 fw_X8_244 rfl (Or.inr rfl) (by assumption) rfl rfl rfl (uI_16_2 _ _ _) (fun G hG => ?_)
          refine v_iinc (pc := 58) dX8_takeOutOverpulled_58 rfl (nI_1 _) rfl (by decide) ?_
          refine v_iinc (pc := 61) dX8_takeOutOverpulled_61 rfl (nI_1 i) rfl (by decide) ?_
          refine v_goto (pc := 64) (tgt := 13) dX8_takeOutOverpulled_64 (by decide) ?_
          refine v_forget 5 ?_
          first
            | (have e8 := ih (i + 1) G (by omega) (by rw [m1, ← shO_n s i e9]; exact hG); rw [m1, show otF s (i + 1) = otF s i by rw [otF, if_neg e9]] at e8; exact e8)
            | (have e8 := ih (i + 1) G (by omega) (by rw [m1, ← shO_s s i e9.1 e9.2]; exact hG); rw [m1, show otF s (i + 1) = otF s i + 1 by rw [otF, if_pos e9]] at e8; exact e8)
    · have m0 : min i g = g := by omega
      have m1 : min (i + 1) g = g := by omega
      first | rw [m0] at hG ⊢ | rw [m0]
      refine v_aload_n (pc := 19) dX8_takeOutOverpulled_19 rfl rfl ?_
      refine v_iload (pc := 20) dX8_takeOutOverpulled_20 rfl ?_
      refine vc_aaldN (pc := 22) (k := 8) (j := i) hG dX8_takeOutOverpulled_22 (hG.2.2.1 4 (by decide)) rfl (by decide) rfl rfl (by show _ < 8; omega) (by show (if X.2.2.1 4 i then some (16, i) else none) = _; rw [hsl i (by omega), if_neg (by rw [decide_eq_true_eq]; omega)]) ?_
      refine v_astoreN (pc := 23) dX8_takeOutOverpulled_23 rfl (by decide) ?_
      refine v_aloadN (pc := 25) dX8_takeOutOverpulled_25 rfl ?_
      refine v_ifnullN (pc := 27) (tgt := 61) dX8_takeOutOverpulled_27 (by decide) ?_
      refine v_iinc (pc := 61) dX8_takeOutOverpulled_61 rfl (nI_1 i) rfl (by decide) ?_
      refine v_goto (pc := 64) (tgt := 13) dX8_takeOutOverpulled_64 (by decide) ?_
      refine v_forget 5 ?_
      have e8 := ih (i + 1) G (by omega) (by first | exact hG | (rw [m1]; exact hG))
      rw [m1] at e8
      exact e8
set_option maxRecDepth 100000 in
set_option maxHeartbeats 400000 in
theorem c_X8_takeOutOverpulled (D : DT) (X : XT) (s : SG) (g : Nat)  (hg8 : g ≤ 8) (hsl : ∀ f, f < 8 → X.2.2.1 4 f = decide (f < g)) : CC yX8_takeOutOverpulled cX8_takeOutOverpulled 6 (Option.some Jvm.ClassFile.FieldType.int) rm_X8_takeOutOverpulled D [.ref (X.1 0 0)] X s (fun v s' => v = some (.int (nI (otF s g))) ∧ s' = shO s g) := by
  intro G hG
  refine MC_of (by decide +kernel) (Nat.le_of_ble_eq_true rfl) (fun K sz hR => ?_)
  show V cX8_takeOutOverpulled _ 6 _ D K 0 [some (.ref (X.1 0 0)), none, none, none, none, none] [] G (0, 0)
  refine v_iconst (pc := 0) (v := 0) dX8_takeOutOverpulled_0 (by decide) ?_
  refine v_istore_n (pc := 1) dX8_takeOutOverpulled_1 rfl rfl (by decide) ?_
  refine v_aload_n (pc := 2) dX8_takeOutOverpulled_2 rfl rfl ?_
  refine vc_getR (pc := 3) (f := 7) hG dX8_takeOutOverpulled_3 fl_X8_36 rfl (hG.2.2.1 0 (by decide)) rfl (by decide) (rvL_0_7 _ _ _) (fun hL3 => ?_)
  refine v_astore_n (pc := 6) dX8_takeOutOverpulled_6 rfl rfl (by decide) ?_
  refine v_aload_n (pc := 7) dX8_takeOutOverpulled_7 rfl rfl ?_
  refine vc_alen (pc := 8) (k := 8) (x := 8) hG dX8_takeOutOverpulled_8 (hG.2.2.1 4 (by decide)) rfl rfl rfl ?_
  refine v_istore_n (pc := 9) dX8_takeOutOverpulled_9 rfl rfl (by decide) ?_
  refine v_iconst (pc := 10) (v := 0) dX8_takeOutOverpulled_10 (by decide) ?_
  refine v_istore (pc := 11) dX8_takeOutOverpulled_11 rfl (by decide) ?_
  refine Eq.mp ?_ (l_X8_takeOut (D := D) (K := K) (X := X) (s := s) g hg8 hsl (fun G hG => ?_) 8 0 G (by omega) (by rw [Nat.zero_min, shO_0]; exact hG))
  · rw [Nat.zero_min]; rfl
  · refine v_iload_n (pc := 67) dX8_takeOutOverpulled_67 rfl rfl ?_
    refine v_iret (pc := 68) hR dX8_takeOutOverpulled_68 ⟨by decide, by decide⟩ ?_
    exact ⟨_, hG, rfl, rfl⟩
set_option maxRecDepth 100000 in
set_option maxHeartbeats 400000 in
theorem l_X8_gust {D : DT} {K : KT} {X : XT} (g : Nat) (f : Int64) (R9 : SG × Nat) (hg8 : g ≤ 8) (hsl : ∀ f, f < 8 → X.2.2.1 4 f = decide (f < g)) (kk : ∀ (w4 w5 : Option Value) (G : GT), LF X R9.1 G → V cX8_gust yX8_gust.cls 6 rm_X8_gust D K 63 [some (.ref (X.1 0 0)), some (.long f), none, some (.int (nI R9.2)), w4, w5] [] G (0, 0)) : ∀ (d i : Nat) (o : Nat) (s : SG) (G : GT), i + d = 8 → GV s g → R9 = ((gusF s f g d).1, o + (gusF s f g d).2) → LF X s G → V cX8_gust yX8_gust.cls 6 rm_X8_gust D K 26 [some (.ref (X.1 0 0)), some (.long f), none, some (.int (nI o)), some (.int (nI i)), none] [] G (0, 0) := by
  intro d
  induction d with
  | zero =>
    intro i o s G he0 he1 he2 hG
    refine v_iload (pc := 26) dX8_gust_26 rfl ?_
    refine v_bipush (pc := 28) (v := 8) dX8_gust_28 (by decide) ?_
    refine v_icmp_ge (pc := 30) (tgt := 63) dX8_gust_30 (by decide) (fun c30 => ?_) (fun c30 => absurd c30 (not_not_intro (by rw [show i = 8 by omega]; decide)))
    subst he2
    exact kk _ _ G hG
  | succ d ih =>
    intro i o s G he0 he1 he2 hG
    refine v_iload (pc := 26) dX8_gust_26 rfl ?_
    refine v_bipush (pc := 28) (v := 8) dX8_gust_28 (by decide) ?_
    refine v_icmp_ge (pc := 30) (tgt := 63) dX8_gust_30 (by decide) (fun c30 => absurd c30 (nI_ge (b := 8) (by omega) (by decide))) (fun c30 => ?_)
    refine v_aload_n (pc := 33) dX8_gust_33 rfl rfl ?_
    refine v_lload_n (pc := 34) dX8_gust_34 rfl rfl ?_
    refine vc_callV1 (pc := 35) (0, 0) hG dX8_gust_35 cw_X8_232 im_yX8_shareForce se_yX8_shareForce (c_X8_shareForce D X _ g f he1 hg8 hsl) (hG.2.2.1 0 (by decide)) rfl rfl (Nat.le_of_ble_eq_true rfl) ⟨Nat.le_of_ble_eq_true rfl, Nat.le_of_ble_eq_true rfl⟩ ⟨by decide, by decide⟩ rfl (fun v s1 G hp hG => ?_)
    obtain ⟨hv1, hs1⟩ := hp
    subst hv1
    subst s1
    refine v_aload_n (pc := 38) dX8_gust_38 rfl rfl ?_
    refine vc_callV0 (pc := 39) (0, 0) hG dX8_gust_39 cw_X8_236 im_yX8_takeOutOverpulled se_yX8_takeOutOverpulled (c_X8_takeOutOverpulled D X _ g hg8 hsl) (hG.2.2.1 0 (by decide)) rfl rfl (Nat.le_of_ble_eq_true rfl) ⟨Nat.le_of_ble_eq_true rfl, Nat.le_of_ble_eq_true rfl⟩ ⟨by decide, by decide⟩ rfl (fun v s1 G hp hG => ?_)
    obtain ⟨hv1, hs1⟩ := hp
    subst hv1
    subst s1
    refine v_istore (pc := 42) dX8_gust_42 rfl (by decide) ?_
    refine v_iload (pc := 44) dX8_gust_44 rfl ?_
    refine v_if_ne (pc := 46) (tgt := 52) dX8_gust_46 (by decide) (fun c46 => ?_) (fun c46 => ?_)
    · have e0 : ¬ shrN s f g = 0 := fun z => c46 (by show nI (shrN s f g) = 0; rw [z]; rfl)
      refine v_iload_n (pc := 52) dX8_gust_52 rfl rfl ?_
      refine v_iload (pc := 53) dX8_gust_53 rfl ?_
      refine v_iadd (pc := 55) dX8_gust_55 ?_
      refine v_istore_n (pc := 56) dX8_gust_56 rfl rfl (by decide) ?_
      refine v_iinc (pc := 57) dX8_gust_57 rfl (nI_1 i) rfl (by decide) ?_
      refine v_goto (pc := 60) (tgt := 26) dX8_gust_60 (by decide) ?_
      rw [gusF, if_neg e0] at he2
      refine v_forget 5 ?_
      rw [nI_add]
      exact ih (i + 1) (o + shrN s f g) (shr s f g) G (by omega) (GV_shr f he1) (by rw [he2, Nat.add_assoc, Nat.add_comm (shrN s f g)]) hG
    · have e0 : shrN s f g = 0 := nI_inj (by have := otF_le (shr2 s f g) g; unfold shrN; omega) (by decide) (c46.trans rfl)
      refine v_goto (pc := 49) (tgt := 63) dX8_gust_49 (by decide) ?_
      rw [gusF, if_pos e0] at he2
      subst he2
      exact kk _ _ G hG
set_option maxRecDepth 100000 in
set_option maxHeartbeats 400000 in
theorem c_X8_gust (D : DT) (X : XT) (s : SG) (g : Nat) (p0 : Int64) (hv : GV s g) (hg8 : g ≤ 8) (hsl : ∀ f, f < 8 → X.2.2.1 4 f = decide (f < g)) : CX yX8_gust cX8_gust 6 (Option.some Jvm.ClassFile.FieldType.int) rm_X8_gust D [.ref (X.1 0 0), .long p0] X s (fun v s' => v = some (.int (nI (gusF s p0 g 9).2)) ∧ s' = (gusF s p0 g 9).1 ∧ kGust p0 = 0) (fun e => e = xIA ∧ kGust p0 = 1) := by
  intro G hG
  refine MX_of (by decide +kernel) (Nat.le_of_ble_eq_true rfl) (fun K sz hR hX => ?_)
  show V cX8_gust _ 6 _ D K 0 [some (.ref (X.1 0 0)), some (.long p0), none, none, none, none] [] G (0, 0)
  refine v_lload_n (pc := 0) dX8_gust_0 rfl rfl ?_
  refine v_lconst (pc := 1) (v := 0) dX8_gust_1 (by decide) ?_
  refine v_ldcL (pc := 2) dX8_gust_2 k_X8_228 ?_
  refine v_callS3 (pc := 5) (0, 0) dX8_gust_5 cw_X8_62 sm_yX8_isOutside (c_X8_isOutside D _ _ _ _ ) (Nat.le_of_ble_eq_true rfl) ⟨Nat.le_of_ble_eq_true rfl, Nat.le_of_ble_eq_true rfl⟩ ⟨by decide, by decide⟩ rfl (fun v G1 hp => ?_)
  obtain ⟨hv1, hs1⟩ := hp
  subst hv1
  subst G1
  refine v_if_eq (pc := 8) (tgt := 21) dX8_gust_8 (by decide) (fun c8 => ?_) (fun c8 => ?_)
  · rw [b2i_0] at c8
    rw [outL] at c8
    refine v_iconst (pc := 21) (v := 0) dX8_gust_21 (by decide) ?_
    refine v_istore_n (pc := 22) dX8_gust_22 rfl rfl (by decide) ?_
    refine v_iconst (pc := 23) (v := 0) dX8_gust_23 (by decide) ?_
    refine v_istore (pc := 24) dX8_gust_24 rfl (by decide) ?_
    have e9 := gusF_1 (f := p0) (g := g) 8 s (Nat.le_trans (inN_le s g) hg8)
    refine l_X8_gust (D := D) (K := K) (X := X) g p0 (gusF s p0 g 8) hg8 hsl (fun w4 w5 G hG => ?_) 8 0 0 s G (by omega) hv (by rw [Nat.zero_add]) hG
    refine v_iload_n (pc := 63) dX8_gust_63 rfl rfl ?_
    refine v_iret (pc := 64) hR dX8_gust_64 ⟨by decide, by decide⟩ ?_
    exact ⟨_, hG, by rw [e9], by rw [e9], by rw [kGust, if_pos c8]⟩
  · rw [b2i_0, Decidable.not_not] at c8
    rw [← Decidable.not_not (p := outP _ _ _), outL] at c8
    refine v_throw (pc := 11) hX tw_X8_66_230_70 dX8_gust_11 dX8_gust_14 dX8_gust_15 dX8_gust_17 dX8_gust_20 (Nat.le_of_ble_eq_true rfl) ⟨by decide, by decide⟩ ⟨by decide, by decide⟩ ?_
    exact ⟨hG, rfl, by rw [kGust, if_neg c8]⟩
