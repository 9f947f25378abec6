abbrev rm_isGust : Room := { frames := 10, cells := 2 * 100, slots := 18 * 100, locals := 300 }
theorem INV.up {X : XT} {s : SG} {q q' : Nat} (h : INV X s q) (hq : q ≤ q') : INV X s q' := INV.q1 hq h (fun _ _ _ _ _ _ _ _ => rfl) rfl rfl rfl
theorem LI.up {X X1 : XT} {s s1 : SG} {M : MT} {t : Nat} (h : LI X s M t) (e : EQ s s1) (x1 : X1.2.1 = X.2.1) (x2 : X1.2.2.1 = X.2.2.1) : LI X1 s1 M (t + 1) :=
  h.net (NR.of e) x1 x2 (h.2.1.rows (fun k hk => by rcases hk with rfl | rfl <;> exact e.1 _ (by decide) (by decide)))
theorem LI.gust {X X1 : XT} {s : SG} {M : MT} {t : Nat} {f : Int64} {F : Nat} (h : LI X s M t) (ht : t < 200) (hf : f.toInt = (F : Int)) (hF : F ≤ 40000000000000) (x1 : X1.2.1 = X.2.1) (x2 : X1.2.2.1 = X.2.2.1) : LI X1 (gusF s f (nG s) 9).1 M (t + 1) ∧ GQ s (gusF s f (nG s) 9).1 (nG s) (gusF s f (nG s) 9).2 f := by
  obtain ⟨h1, h2, h3, h4, h5, h6, h7⟩ := h
  obtain ⟨i1, i2, i3, i4, i5, i6, i7, i8, i9⟩ := INV.num (by omega) h1
  have g8 := i4.2.1
  have hG : GQ s (gusF s f (nG s) 9).1 (nG s) (gusF s f (nG s) 9).2 f := gus_ok g8 hf hF 9 s i4.2.2.2.2 (fun i hi => (h3 i hi).1) (fun i hi => (h3 i hi).2.1) (by have := inN_le s (nG s); omega)
  have hr : ∀ k, k ≠ 22 → (gusF s f (nG s) 9).1.1 k = s.1 k := fun k hk => gus_k f (nG s) 9 s k hk
  have hr2 : ∀ k, k ≠ 23 → (gusF s f (nG s) 9).1.2 k = s.2 k := fun k hk => funext fun j => gus_2 f (nG s) 9 s k j (Or.inl hk)
  have eG : nG (gusF s f (nG s) 9).1 = nG s := by unfold nG; rw [hr 19 (by decide)]
  refine ⟨⟨(inv_gust (p0 := f) h1 i4.1 g8 x1 x2).up (by omega), h2.rows (fun k hk => hr k (by omega)), ?_, h4.rows (fun k hk => hr k (by omega)), ?_, h6.rows (fun k hk => hr k (by omega)), h7.rows (fun k hk => hr k (by omega)) (hr2 20 (by decide))⟩, hG⟩
  · intro i hi
    rw [eG] at hi
    exact ⟨hG.1 i hi, hG.2.1 i hi, fun z => hG.2.2.1 i hi (by rw [z]; decide)⟩
  · rw [hr 27 (by decide)]; omega
theorem u1_e {α : Type} (f : Nat → α) (a : Nat) (v : α) : u1 f a v a = v := by simp [u1]
theorem u1_ne {α : Type} (f : Nat → α) {a b : Nat} (v : α) (h : b ≠ a) : u1 f a v b = f b := by simp [u1, h]
theorem LI.peg {X X1 : XT} {s : SG} {M : MT} {t : Nat} {p0 : Int64} {p1 : Int32} (h : LI X s M t) (ht : t < 200) (hk : kPeg (nG s) p0 p1 = 0) (e1 : X1.2.1 = u2 X.2.1 16 (nG s) true) (e2 : X1.2.2.1 = u2 X.2.2.1 4 (nG s) true) : LI X1 (gPeg s (nG s) p0 p1) (mS (hS M (nG s) p0) 3 (nI (nG s + 1))) (t + 1) ∧ nG (gPeg s (nG s) p0 p1) = nG s + 1 ∧ (gPeg s (nG s) p0 p1).1 22 (nG s) = 1 ∧ (gPeg s (nG s) p0 p1).2 23 (nG s) = 0 := by
  obtain ⟨h1, h2, h3, h4, h5, h6, h7⟩ := h
  obtain ⟨i1, i2, i3, i4, i5, i6, i7, i8, i9⟩ := INV.num (by omega) h1
  have g8 := i4.2.1
  obtain ⟨⟨⟨o1, o2⟩, o3⟩, n8⟩ := kPeg_0 hk
  have z23 := (i4.2.2.2.1 (nG s) (Nat.le_refl _)).2
  have hr : ∀ k, k ≠ 19 → k ≠ 21 → k ≠ 22 → (gPeg s (nG s) p0 p1).1 k = s.1 k := fun k a b c => by
    show (sI (sI (sI (sJ s 20 (nG s) p0) 21 (nG s) p1) 22 (nG s) 1) 19 0 (nI (nG s + 1))).1 k = s.1 k
    rw [sI_r _ _ _ a, sI_r _ _ _ c, sI_r _ _ _ b]; rfl
  have r19 : (gPeg s (nG s) p0 p1).1 19 0 = nI (nG s + 1) := sI_at _ _ _ _
  have r22 : ∀ i, (gPeg s (nG s) p0 p1).1 22 i = if i = nG s then 1 else s.1 22 i := fun i => by
    show (sI (sI (sI (sJ s 20 (nG s) p0) 21 (nG s) p1) 22 (nG s) 1) 19 0 (nI (nG s + 1))).1 22 i = _
    rw [sI_r _ _ _ (by decide), sI_if, sI_r _ _ _ (by decide)]; rfl
  have j23 : (gPeg s (nG s) p0 p1).2 23 = s.2 23 := show u2 s.2 20 (nG s) p0 23 = s.2 23 from u2_rown _ _ _ (by decide)
  have j20 : ∀ i, (gPeg s (nG s) p0 p1).2 20 i = if i = nG s then p0 else s.2 20 i := fun i => by
    show u2 s.2 20 (nG s) p0 20 i = _
    simp [u2]
  have eG : nG (gPeg s (nG s) p0 p1) = nG s + 1 := by
    show nat ((gPeg s (nG s) p0 p1).1 19 0) = _
    rw [r19]; exact nat_nI (by omega)
  refine ⟨⟨(inv_peg h1 i4.1 g8 hk e1 e2).up (by omega), h2.rows (fun k hk => hr k (by omega) (by omega) (by omega)), ?_, h4.rows (fun k hk => hr k (by omega) (by omega) (by omega)), ?_, ?_, ?_⟩, eG, by rw [r22, if_pos rfl], by rw [j23]; exact z23⟩
  · intro i hi
    rw [eG] at hi
    rw [r22, j23, j20]
    by_cases c : i = nG s
    · subst c
      rw [if_pos rfl, if_pos rfl, z23]
      exact ⟨Or.inr rfl, Int64.le_refl _, fun _ => o1⟩
    · rw [if_neg c, if_neg c]
      exact h3 i (by omega)
  · rw [hr 27 (by decide) (by decide) (by decide)]; omega
  · obtain ⟨m0, m1, m2, m3, m4, m5⟩ := h6
    exact ⟨by rw [hr 0 (by decide) (by decide) (by decide)]; exact m0, by rw [hr 4 (by decide) (by decide) (by decide)]; exact m1, by rw [hr 9 (by decide) (by decide) (by decide)]; exact m2, by rw [r19]; rfl, by rw [hr 28 (by decide) (by decide) (by decide)]; exact m4, by rw [hr 27 (by decide) (by decide) (by decide)]; exact m5⟩
  · refine ⟨?_, fun i hi => ?_⟩
    · have := h7.1
      unfold nB at this ⊢
      rw [hr 4 (by decide) (by decide) (by decide), hr 5 (by decide) (by decide) (by decide), hr 6 (by decide) (by decide) (by decide), hr 7 (by decide) (by decide) (by decide)]
      exact this
    · rw [eG] at hi
      rw [j20]
      show u1 M.2.2.2 (nG s) p0 i = _
      by_cases c : i = nG s
      · subst c; rw [u1_e, if_pos rfl]
      · rw [u1_ne _ _ c, if_neg c]; exact h7.2 i (by omega)
theorem l_small {x : Int64} {n : Nat} (h : x.toInt = (n : Int)) {B : Int64} {b : Nat} (hB : B.toInt = (b : Int)) (hn : n ≤ b) : 0 ≤ x ∧ x ≤ B := by
  rw [Int64.le_iff_toInt_le, Int64.le_iff_toInt_le, h, hB]
  have : (0 : Int64).toInt = 0 := rfl
  omega
theorem l_rem {x y : Int64} {a b : Nat} (hx : x.toInt = (a : Int)) (hy : y.toInt = (b : Int)) (ha : a < 9223372036854775808) (hb : 0 < b) : (x - x / y * y).toInt = ((a % b : Nat) : Int) := by
  have e1 := d64 hx hy ha
  have h1 : a / b * b ≤ a := Nat.div_mul_le_self a b
  have e2 := m64 e1 hy (by omega)
  rw [Int64.toInt_sub, hx, e2]
  have h2 := Nat.mod_add_div a b
  rw [Nat.mul_comm b] at h2
  rw [Int.bmod_eq_of_le (by omega) (by omega)]
  omega
theorem nl_i {n : Nat} (h : n < 2147483648) : (nI n).toInt64.toInt = (n : Int) := by rw [Int32.toInt_toInt64]; exact nI_toInt h
set_option maxRecDepth 100000 in
set_option maxHeartbeats 400000 in
theorem g_peg {D : DT} {K : KT} {X : XT} {s : SG} {M : MT} {t how xx sz : Nat} {G0 : GT} (hR : Rt rm_isGust D K (some .boolean) yL_isGust.name sz G0 (LPq X M (t + 1))) (hNC : NC3 K.2.2.2.1) (hxx : xx < 2147483648) (hL : LI X s M t) (ht : t < 200) (hv : Int64) (h0 : 0 ≤ hv ∧ hv ≤ 4000000000000) (G : GT) (hW : WD X s M G) : V cL_isGust yL_isGust.cls 15 rm_isGust D K 34 [some (.ref (X.1 0 0)), some (.ref M.1.1), some (.ref M.1.2.2), some (.int (nI how)), some (.int (nI xx)), none, none, none, none, none, none, none, none, none, none] [.long hv] G (nu 0) := by
  have hI := hL.1
  have hM := hL.2.2.2.2.2.1
  have hq : 2 * t < 512 := by omega
  obtain ⟨b1, b2, b3, b4, b5, n1, n2, n3, n4, n5⟩ := hI.six hq
  have hst : btw (1 + nI (xx / 5 % 100)) 1 100 := by
    rw [show (1 : Int32) + nI (xx / 5 % 100) = nI (1 + xx / 5 % 100) from nI_add 1 _]
    exact ⟨(nI_leI (a := 1) (by decide) (by omega)).mpr (by omega), (nI_leI (b := 100) (by omega) (by decide)).mpr (by omega)⟩
  have hn9 : ¬ (1 : Int32) + nI (xx / 5 % 100) = -9 := fun z => by
    have := hst.1
    rw [z] at this
    exact absurd this (by decide)
  by_cases h8 : nG s = 8
  · refine v_lstore (pc := 34) dL_isGust_34 rfl (by decide) ?_
    refine v_aload_n (pc := 36) dL_isGust_36 rfl rfl ?_
    refine v_iconst (pc := 37) (v := 1) dL_isGust_37 (by decide) ?_
    refine v_iload (pc := 38) dL_isGust_38 rfl ?_
    refine v_iconst (pc := 40) (v := 5) dL_isGust_40 (by decide) ?_
    refine v_ndiv (pc := 41) (xx) 5 dL_isGust_41 (by omega) (by decide) rfl rfl ?_
    refine v_bipush (pc := 42) (v := 100) dL_isGust_42 (by decide) ?_
    refine v_nrem (pc := 44) (xx / 5) 100 dL_isGust_44 (by omega) (by decide) rfl rfl ?_
    refine v_iadd (pc := 45) dL_isGust_45 ?_
    refine v_lload (pc := 46) dL_isGust_46 rfl ?_
    refine vqL (pc := 48) (u := 0) (j := 1) (U := 100) (As := [.ref (X.1 0 0), .int _, .long _]) hNC dL_isGust_48 ll_pegs.1 ll_pegs.2.1 wl_pegs ll_pegs.2.2.2 ll_pegs.2.2.1 (xIS_peg _ _ hW hI hq hn9 (by unfold kPeg; rw [if_pos ⟨h0, hst⟩, if_pos h8])) rfl rfl (Nat.le_of_ble_eq_true rfl) ⟨Nat.le_of_ble_eq_true rfl, Nat.le_of_ble_eq_true rfl⟩ ⟨by decide, by decide⟩ ⟨rfl, rfl⟩ (by omega) (fun v G hp => ?_)
    obtain ⟨rfl, hW⟩ := hp
    refine v_lstore (pc := 51) dL_isGust_51 rfl (by decide) ?_
    refine v_lload (pc := 53) dL_isGust_53 rfl ?_
    refine v_aload_n (pc := 55) dL_isGust_55 rfl rfl ?_
    refine v_iconst (pc := 56) (v := 3) dL_isGust_56 (by decide) ?_
    refine vw_m (pc := 57) (j := 3) hW dL_isGust_57 rfl (by decide) (x := nI (nG s)) (hM.2.2.2.1.trans n4) ?_
    refine v_bipush (pc := 58) (v := 8) dL_isGust_58 (by decide) ?_
    refine v_icmp_ne (pc := 60) (tgt := 69) dL_isGust_60 (by decide) (fun c60 => absurd c60 (fun z => z (by rw [h8]; rfl))) (fun c60 => ?_)
    refine v_ldcL (pc := 63) dL_isGust_63 k_L_113 ?_
    refine v_goto (pc := 66) (tgt := 73) dL_isGust_66 (by decide) ?_
    refine v_lcmp (pc := 73) dL_isGust_73 ?_
    refine v_if_ne (pc := 74) (tgt := 81) dL_isGust_74 (by decide) (fun c74 => absurd c74 (d_ne rfl)) (fun c74 => ?_)
    refine v_iconst (pc := 77) (v := 1) dL_isGust_77 (by decide) ?_
    refine v_goto (pc := 78) (tgt := 82) dL_isGust_78 (by decide) ?_
    refine v_istore (pc := 82) dL_isGust_82 rfl (by decide) ?_
    refine v_lload (pc := 84) dL_isGust_84 rfl ?_
    refine v_lconst (pc := 86) (v := 0) dL_isGust_86 (by decide) ?_
    refine v_lcmp (pc := 87) dL_isGust_87 ?_
    refine v_if_lt (pc := 88) (tgt := 105) dL_isGust_88 (by decide) (fun c88 => ?_) (fun c88 => absurd c88 (by decide))
    refine v_iload (pc := 105) dL_isGust_105 rfl ?_
    refine v_if_eq (pc := 107) (tgt := 147) dL_isGust_107 (by decide) (fun c107 => absurd c107 (by decide)) (fun c107 => ?_)
    refine v_lload (pc := 110) dL_isGust_110 rfl ?_
    refine v_lconst (pc := 112) (v := 0) dL_isGust_112 (by decide) ?_
    refine v_lcmp (pc := 113) dL_isGust_113 ?_
    refine v_if_lt (pc := 114) (tgt := 143) dL_isGust_114 (by decide) (fun c114 => ?_) (fun c114 => absurd c114 (by decide))
    refine v_iconst (pc := 143) (v := 1) dL_isGust_143 (by decide) ?_
    refine v_goto (pc := 144) (tgt := 148) dL_isGust_144 (by decide) ?_
    refine vq_zret (pc := 148) (U := 100) hR dL_isGust_148 rfl ⟨rfl, rfl⟩ (by omega) ?_
    exact ⟨rfl, X, s, M, rfl, rfl, hW, hL.up (EQ.rf s) rfl rfl, fun z => z⟩
  · have hk : kPeg (nG s) hv (1 + nI (xx / 5 % 100)) = 0 := by unfold kPeg; rw [if_pos ⟨h0, hst⟩, if_neg h8]
    refine v_lstore (pc := 34) dL_isGust_34 rfl (by decide) ?_
    refine v_aload_n (pc := 36) dL_isGust_36 rfl rfl ?_
    refine v_iconst (pc := 37) (v := 1) dL_isGust_37 (by decide) ?_
    refine v_iload (pc := 38) dL_isGust_38 rfl ?_
    refine v_iconst (pc := 40) (v := 5) dL_isGust_40 (by decide) ?_
    refine v_ndiv (pc := 41) (xx) 5 dL_isGust_41 (by omega) (by decide) rfl rfl ?_
    refine v_bipush (pc := 42) (v := 100) dL_isGust_42 (by decide) ?_
    refine v_nrem (pc := 44) (xx / 5) 100 dL_isGust_44 (by omega) (by decide) rfl rfl ?_
    refine v_iadd (pc := 45) dL_isGust_45 ?_
    refine v_lload (pc := 46) dL_isGust_46 rfl ?_
    refine vqL (pc := 48) (u := 0) (j := 1) (U := 100) (As := [.ref (X.1 0 0), .int _, .long _]) hNC dL_isGust_48 ll_pegs.1 ll_pegs.2.1 wl_pegs ll_pegs.2.2.2 ll_pegs.2.2.1 (sw_peg _ _ hW hI hq hn9 hk) rfl rfl (Nat.le_of_ble_eq_true rfl) ⟨Nat.le_of_ble_eq_true rfl, Nat.le_of_ble_eq_true rfl⟩ ⟨by decide, by decide⟩ ⟨rfl, rfl⟩ (by omega) (fun v G hp => ?_)
    obtain ⟨s1, X, s', e, rfl, hW, h0x, rfl, x1, x2⟩ := hp
    rw [← h0x]
    have hL1 := hL.eq e G
    have eg : nG s1 = nG s := e.nG
    have hk1 : kPeg (nG s1) hv (1 + nI (xx / 5 % 100)) = 0 := by rw [eg]; exact hk
    obtain ⟨hL2, g2, g3, g4⟩ := hL1.peg ht hk1 (X1 := X) x1 x2
    rw [eg] at hW hL2 g2 g3 g4 ⊢
    refine v_lstore (pc := 51) dL_isGust_51 rfl (by decide) ?_
    refine v_lload (pc := 53) dL_isGust_53 rfl ?_
    refine v_aload_n (pc := 55) dL_isGust_55 rfl rfl ?_
    refine v_iconst (pc := 56) (v := 3) dL_isGust_56 (by decide) ?_
    refine vw_m (pc := 57) (j := 3) hW dL_isGust_57 rfl (by decide) (x := nI (nG s)) (hM.2.2.2.1.trans n4) ?_
    refine v_bipush (pc := 58) (v := 8) dL_isGust_58 (by decide) ?_
    refine v_icmp_ne (pc := 60) (tgt := 69) dL_isGust_60 (by decide) (fun c60 => ?_) (fun c60 => absurd c60 (fun z => h8 ((nI_eq (by omega) (by decide)).mp z)))
    refine v_aload_n (pc := 69) dL_isGust_69 rfl rfl ?_
    refine v_iconst (pc := 70) (v := 3) dL_isGust_70 (by decide) ?_
    refine vw_m (pc := 71) (j := 3) hW dL_isGust_71 rfl (by decide) (x := nI (nG s)) (hM.2.2.2.1.trans n4) ?_
    refine v_i2l (pc := 72) dL_isGust_72 ?_
    refine v_lcmp (pc := 73) dL_isGust_73 ?_
    refine v_if_ne (pc := 74) (tgt := 81) dL_isGust_74 (by decide) (fun c74 => absurd c74 (d_ne rfl)) (fun c74 => ?_)
    refine v_iconst (pc := 77) (v := 1) dL_isGust_77 (by decide) ?_
    refine v_goto (pc := 78) (tgt := 82) dL_isGust_78 (by decide) ?_
    refine v_istore (pc := 82) dL_isGust_82 rfl (by decide) ?_
    refine v_lload (pc := 84) dL_isGust_84 rfl ?_
    refine v_lconst (pc := 86) (v := 0) dL_isGust_86 (by decide) ?_
    refine v_lcmp (pc := 87) dL_isGust_87 ?_
    refine v_if_lt (pc := 88) (tgt := 105) dL_isGust_88 (by decide) (fun c88 => absurd c88 (d_lt (w_ge0 (nI_pos' (by omega))))) (fun c88 => ?_)
    refine v_aload_n (pc := 91) dL_isGust_91 rfl rfl ?_
    refine v_aload_n (pc := 92) dL_isGust_92 rfl rfl ?_
    refine v_iconst (pc := 93) (v := 3) dL_isGust_93 (by decide) ?_
    refine vw_m (pc := 94) (j := 3) hW dL_isGust_94 rfl (by decide) (x := nI (nG s)) (hM.2.2.2.1.trans n4) ?_
    refine v_lload (pc := 95) dL_isGust_95 rfl ?_
    refine vw_hS (pc := 97) (j := nG s) hW dL_isGust_97 rfl (by omega) (fun G hW => ?_)
    refine v_aload_n (pc := 98) dL_isGust_98 rfl rfl ?_
    refine v_iconst (pc := 99) (v := 3) dL_isGust_99 (by decide) ?_
    refine v_dup2 (pc := 100) dL_isGust_100 rfl rfl ?_
    refine vw_m (pc := 101) (M := hS M (nG s) hv) (j := 3) hW dL_isGust_101 rfl (by decide) (x := nI (nG s)) (hM.2.2.2.1.trans n4) ?_
    refine v_iconst (pc := 102) (v := 1) dL_isGust_102 (by decide) ?_
    refine v_iadd (pc := 103) dL_isGust_103 ?_
    rw [nI_1]
    refine vw_mS (pc := 104) (M := hS M (nG s) hv) (j := 3) hW dL_isGust_104 rfl (by decide) (fun G hW => ?_)
    refine v_iload (pc := 105) dL_isGust_105 rfl ?_
    refine v_if_eq (pc := 107) (tgt := 147) dL_isGust_107 (by decide) (fun c107 => absurd c107 (by decide)) (fun c107 => ?_)
    refine v_lload (pc := 110) dL_isGust_110 rfl ?_
    refine v_lconst (pc := 112) (v := 0) dL_isGust_112 (by decide) ?_
    refine v_lcmp (pc := 113) dL_isGust_113 ?_
    refine v_if_lt (pc := 114) (tgt := 143) dL_isGust_114 (by decide) (fun c114 => absurd c114 (d_lt (w_ge0 (nI_pos' (by omega))))) (fun c114 => ?_)
    refine v_aload_n (pc := 117) dL_isGust_117 rfl rfl ?_
    refine v_lload (pc := 118) dL_isGust_118 rfl ?_
    refine v_l2i (pc := 120) dL_isGust_120 ?_
    refine vqV (pc := 121) (u := 0 + 1) (j := 1) (U := 100) (As := [.int _]) hW dL_isGust_121 cw_L_57 im_yX8_pulled se_yX8_pulled rfl (q_pulled _ hW hL2.1 (by omega) (by unfold kPul; rw [g2]; exact if_pos (by rw [l2i_n]; exact btw_n (by omega) (by omega)))) rfl rfl (Nat.le_of_ble_eq_true rfl) ⟨Nat.le_of_ble_eq_true rfl, Nat.le_of_ble_eq_true rfl⟩ ⟨by decide, by decide⟩ ⟨rfl, rfl⟩ (by omega) (fun v G hp => ?_)
    obtain ⟨rfl, hW⟩ := hp
    rw [l2i_n, nat_nI (show nG s < 2147483648 by omega), g4]
    refine v_lconst (pc := 124) (v := 0) dL_isGust_124 (by decide) ?_
    refine v_lcmp (pc := 125) dL_isGust_125 ?_
    refine v_if_ne (pc := 126) (tgt := 147) dL_isGust_126 (by decide) (fun c126 => absurd c126 (d_ne rfl)) (fun c126 => ?_)
    refine v_aload_n (pc := 129) dL_isGust_129 rfl rfl ?_
    refine vqV (pc := 130) (u := 0 + 1 + 1) (j := 1) (U := 100) (As := []) hW dL_isGust_130 cw_L_129 im_yX8_pegs se_yX8_pegs rfl (q_pegs hW hL2.1 (by omega)) rfl rfl (Nat.le_of_ble_eq_true rfl) ⟨Nat.le_of_ble_eq_true rfl, Nat.le_of_ble_eq_true rfl⟩ ⟨by decide, by decide⟩ ⟨rfl, rfl⟩ (by omega) (fun v G hp => ?_)
    obtain ⟨rfl, hW⟩ := hp
    obtain ⟨n9, hn1, hs9, hb9⟩ := set_b (s := gPeg s1 (nG s) hv (1 + nI (xx / 5 % 100))) (nG s + 1) (by omega)
    have hbit : (nI n9 >>> (nI (nG s) &&& 31)) &&& 1 = 1 := by
      rw [bit_k n9 (p28 (g := nG s + 1) (by omega) hn1) (nG s) (by omega), hb9 (nG s) (by omega), g3]
      decide
    rw [g2, hs9]
    refine v_lload (pc := 133) dL_isGust_133 rfl ?_
    refine v_l2i (pc := 135) dL_isGust_135 ?_
    rw [l2i_n]
    refine v_ishr (pc := 136) dL_isGust_136 ?_
    refine v_iconst (pc := 137) (v := 1) dL_isGust_137 (by decide) ?_
    refine v_iand (pc := 138) dL_isGust_138 ?_
    refine v_iconst (pc := 139) (v := 1) dL_isGust_139 (by decide) ?_
    refine v_icmp_ne (pc := 140) (tgt := 147) dL_isGust_140 (by decide) (fun c140 => absurd c140 (fun z => z hbit)) (fun c140 => ?_)
    refine v_iconst (pc := 143) (v := 1) dL_isGust_143 (by decide) ?_
    refine v_goto (pc := 144) (tgt := 148) dL_isGust_144 (by decide) ?_
    refine vq_zret (pc := 148) (U := 100) hR dL_isGust_148 rfl ⟨rfl, rfl⟩ (by omega) ?_
    exact ⟨rfl, X, _, mS (hS M (nG s) hv) 3 (nI (nG s + 1)), h0x, rfl, hW, hL2, fun z => z⟩
set_option maxRecDepth 100000 in
set_option maxHeartbeats 400000 in
theorem l_g {D : DT} {K : KT} {X : XT} {s s0 : SG} {M : MT} {q how xx na nb9 : Nat} {fv ov : Int64} (hI : INV X s q) (hq : q < 512) (hM : MV s M) (ha : na < 256) (hb : nb9 < 256) (hba : ∀ k, k < nG s → na.testBit k = decide (¬ s0.1 22 k = 0)) (hbb : ∀ k, k < nG s → nb9.testBit k = decide (¬ s.1 22 k = 0)) (kk : ∀ (G : GT), WD X s M G → V cL_isGust yL_isGust.cls 15 rm_isGust D K 272 [some (.ref (X.1 0 0)), some (.ref M.1.1), some (.ref M.1.2.2), some (.int (nI how)), some (.int (nI xx)), some (.int (nI na)), some (.long fv), none, some (.long ov), none, some (.int (nI nb9)), some (.long (shF s (nG s))), none, some (.int (goF s0 s (nG s))), some (.int (nI (nG s)))] [] G (nu (5 + nG s))) : ∀ (d i : Nat) (G : GT), i + d = nG s → WD X s M G → V cL_isGust yL_isGust.cls 15 rm_isGust D K 212 [some (.ref (X.1 0 0)), some (.ref M.1.1), some (.ref M.1.2.2), some (.int (nI how)), some (.int (nI xx)), some (.int (nI na)), some (.long fv), none, some (.long ov), none, some (.int (nI nb9)), some (.long (shF s i)), none, some (.int (goF s0 s i)), some (.int (nI i))] [] G (nu (5 + i)) := by
  obtain ⟨b1, b2, b3, b4, b5, n1, n2, n3, n4, n5⟩ := hI.six hq
  intro d
  induction d with
  | zero =>
    intro i G he hW
    obtain rfl : i = nG s := by omega
    refine v_iload (pc := 212) dL_isGust_212 rfl ?_
    refine v_aload_n (pc := 214) dL_isGust_214 rfl rfl ?_
    refine v_iconst (pc := 215) (v := 3) dL_isGust_215 (by decide) ?_
    refine vw_m (pc := 216) (j := 3) hW dL_isGust_216 rfl (by decide) (x := nI (nG s)) (hM.2.2.2.1.trans n4) ?_
    refine v_icmp_ge (pc := 217) (tgt := 272) dL_isGust_217 (by decide) (fun c217 => ?_) (fun c217 => absurd c217 (fun z => z (Int32.le_refl _)))
    exact kk G hW
  | succ d ih =>
    intro i G he hW
    have hi : i < nG s := by omega
    have h1 := bit_k na ha i (by omega)
    have h2 := bit_k nb9 hb i (by omega)
    rw [hba i hi] at h1
    rw [hbb i hi] at h2
    have h1 : (nI na >>> (nI i &&& 31)) &&& 1 = if s0.1 22 i = 0 then 0 else 1 := by
      rw [h1]
      by_cases c : s0.1 22 i = 0 <;> simp [c]
    have h2 : (nI nb9 >>> (nI i &&& 31)) &&& 1 = if s.1 22 i = 0 then 0 else 1 := by
      rw [h2]
      by_cases c : s.1 22 i = 0 <;> simp [c]
    refine v_iload (pc := 212) dL_isGust_212 rfl ?_
    refine v_aload_n (pc := 214) dL_isGust_214 rfl rfl ?_
    refine v_iconst (pc := 215) (v := 3) dL_isGust_215 (by decide) ?_
    refine vw_m (pc := 216) (j := 3) hW dL_isGust_216 rfl (by decide) (x := nI (nG s)) (hM.2.2.2.1.trans n4) ?_
    refine v_icmp_ge (pc := 217) (tgt := 272) dL_isGust_217 (by decide) (fun c217 => absurd c217 (nI_ge (by omega) (by omega))) (fun c217 => ?_)
    refine v_lload (pc := 220) dL_isGust_220 rfl ?_
    refine v_iload (pc := 222) dL_isGust_222 rfl ?_
    refine v_iload (pc := 224) dL_isGust_224 rfl ?_
    refine v_ishr (pc := 226) dL_isGust_226 ?_
    refine v_iconst (pc := 227) (v := 1) dL_isGust_227 (by decide) ?_
    refine v_iand (pc := 228) dL_isGust_228 ?_
    refine v_iconst (pc := 229) (v := 1) dL_isGust_229 (by decide) ?_
    rw [h2]
    refine v_icmp_ne (pc := 230) (tgt := 242) dL_isGust_230 (by decide) (fun c230 => ?_) (fun c230 => ?_)
    · have c22 : s.1 22 i = 0 := Classical.byContradiction fun z => c230 (if_neg z)
      have eS : shF s (i + 1) = shF s i + 0 := by rw [shF, if_pos c22]
      have eG : goF s0 s (i + 1) = goF s0 s i + ((if s0.1 22 i = 0 then 0 else 1) - (if s.1 22 i = 0 then 0 else 1)) := rfl
      refine v_lconst (pc := 242) (v := 0) dL_isGust_242 (by decide) ?_
      refine v_ladd (pc := 243) dL_isGust_243 ?_
      refine v_lstore (pc := 244) dL_isGust_244 rfl (by decide) ?_
      refine v_iload (pc := 246) dL_isGust_246 rfl ?_
      refine v_iload (pc := 248) dL_isGust_248 rfl ?_
      refine v_iload (pc := 250) dL_isGust_250 rfl ?_
      refine v_ishr (pc := 252) dL_isGust_252 ?_
      refine v_iconst (pc := 253) (v := 1) dL_isGust_253 (by decide) ?_
      refine v_iand (pc := 254) dL_isGust_254 ?_
      refine v_iload (pc := 255) dL_isGust_255 rfl ?_
      refine v_iload (pc := 257) dL_isGust_257 rfl ?_
      refine v_ishr (pc := 259) dL_isGust_259 ?_
      refine v_iconst (pc := 260) (v := 1) dL_isGust_260 (by decide) ?_
      refine v_iand (pc := 261) dL_isGust_261 ?_
      rw [h1, h2]
      refine v_isub (pc := 262) dL_isGust_262 ?_
      refine v_iadd (pc := 263) dL_isGust_263 ?_
      refine v_istore (pc := 264) dL_isGust_264 rfl (by decide) ?_
      refine v_iinc (pc := 266) dL_isGust_266 rfl (nI_1 _) rfl (by decide) ?_
      refine v_goto (pc := 269) (tgt := 212) dL_isGust_269 (by decide) ?_
      refine vq_u (u' := 5 + (i + 1)) (by omega) ?_
      rw [← eS, ← eG]
      exact ih (i + 1) G (by omega) hW
    · have c22 : ¬ s.1 22 i = 0 := fun z => absurd (c230.symm.trans (if_pos z)) (by decide)
      have eS : shF s (i + 1) = shF s i + s.2 23 i := by rw [shF, if_neg c22]
      have eG : goF s0 s (i + 1) = goF s0 s i + ((if s0.1 22 i = 0 then 0 else 1) - (if s.1 22 i = 0 then 0 else 1)) := rfl
      refine v_aload_n (pc := 233) dL_isGust_233 rfl rfl ?_
      refine v_iload (pc := 234) dL_isGust_234 rfl ?_
      refine vqV (pc := 236) (u := 5 + i) (j := 1) (U := 100) (As := [.int _]) hW dL_isGust_236 cw_L_57 im_yX8_pulled se_yX8_pulled rfl (q_pulled _ hW hI hq (by unfold kPul; exact if_pos (btw_n (by omega) (by omega)))) rfl rfl (Nat.le_of_ble_eq_true rfl) ⟨Nat.le_of_ble_eq_true rfl, Nat.le_of_ble_eq_true rfl⟩ ⟨by decide, by decide⟩ ⟨rfl, rfl⟩ (by omega) (fun v G hp => ?_)
      obtain ⟨rfl, hW⟩ := hp
      rw [nat_nI (show i < 2147483648 by omega)]
      refine v_goto (pc := 239) (tgt := 243) dL_isGust_239 (by decide) ?_
      refine v_ladd (pc := 243) dL_isGust_243 ?_
      refine v_lstore (pc := 244) dL_isGust_244 rfl (by decide) ?_
      refine v_iload (pc := 246) dL_isGust_246 rfl ?_
      refine v_iload (pc := 248) dL_isGust_248 rfl ?_
      refine v_iload (pc := 250) dL_isGust_250 rfl ?_
      refine v_ishr (pc := 252) dL_isGust_252 ?_
      refine v_iconst (pc := 253) (v := 1) dL_isGust_253 (by decide) ?_
      refine v_iand (pc := 254) dL_isGust_254 ?_
      refine v_iload (pc := 255) dL_isGust_255 rfl ?_
      refine v_iload (pc := 257) dL_isGust_257 rfl ?_
      refine v_ishr (pc := 259) dL_isGust_259 ?_
      refine v_iconst (pc := 260) (v := 1) dL_isGust_260 (by decide) ?_
      refine v_iand (pc := 261) dL_isGust_261 ?_
      rw [h1, h2]
      refine v_isub (pc := 262) dL_isGust_262 ?_
      refine v_iadd (pc := 263) dL_isGust_263 ?_
      refine v_istore (pc := 264) dL_isGust_264 rfl (by decide) ?_
      refine v_iinc (pc := 266) dL_isGust_266 rfl (nI_1 _) rfl (by decide) ?_
      refine v_goto (pc := 269) (tgt := 212) dL_isGust_269 (by decide) ?_
      refine vq_u (u' := 5 + (i + 1)) (by omega) ?_
      rw [← eS, ← eG]
      exact ih (i + 1) G (by omega) hW
set_option maxRecDepth 100000 in
set_option maxHeartbeats 400000 in
theorem g_gust {D : DT} {K : KT} {X : XT} {s : SG} {M : MT} {t how xx sz : Nat} {G0 : GT} (hR : Rt rm_isGust D K (some .boolean) yL_isGust.name sz G0 (LPq X M (t + 1))) (hNC : NC3 K.2.2.2.1) (hxx : xx < 2147483648) (hL : LI X s M t) (ht : t < 200) (fv : Int64) (F : Nat) (hf : fv.toInt = (F : Int)) (hF : F ≤ 40000000000000) (na : Nat) (hna : na < 2 ^ nG s) (hba : ∀ k, k < nG s → na.testBit k = decide (¬ s.1 22 k = 0)) (G : GT) (hW : WD X s M G) : V cL_isGust yL_isGust.cls 15 rm_isGust D K 185 [some (.ref (X.1 0 0)), some (.ref M.1.1), some (.ref M.1.2.2), some (.int (nI how)), some (.int (nI xx)), some (.int (nI na)), none, none, none, none, none, none, none, none, none] [.long fv] G (nu 1) := by
  have hI := hL.1
  have hM := hL.2.2.2.2.2.1
  have hq : 2 * t < 512 := by omega
  obtain ⟨b1, b2, b3, b4, b5, n1, n2, n3, n4, n5⟩ := hI.six hq
  have ha := p28 b4 hna
  have hk : kGust fv = 0 := by
    unfold kGust
    exact if_pos (l_small hf (B := 40000000000000) (b := 40000000000000) rfl hF)
  refine v_lstore (pc := 185) dL_isGust_185 rfl (by decide) ?_
  refine v_aload_n (pc := 187) dL_isGust_187 rfl rfl ?_
  refine v_bipush (pc := 188) (v := (-9)) dL_isGust_188 (by decide) ?_
  refine v_lload (pc := 190) dL_isGust_190 rfl ?_
  refine vqL (pc := 192) (u := 1) (j := 1) (U := 100) (As := [.ref (X.1 0 0), .int _, .long _]) hNC dL_isGust_192 ll_pegs.1 ll_pegs.2.1 wl_pegs ll_pegs.2.2.2 ll_pegs.2.2.1 (sw_gust _ hW hI hq hk) rfl rfl (Nat.le_of_ble_eq_true rfl) ⟨Nat.le_of_ble_eq_true rfl, Nat.le_of_ble_eq_true rfl⟩ ⟨by decide, by decide⟩ ⟨rfl, rfl⟩ (by omega) (fun v G hp => ?_)
  obtain ⟨s1, s', e, rfl, hW, rfl⟩ := hp
  have hL1 := hL.eq e G
  have eg : nG s1 = nG s := e.nG
  obtain ⟨hL2, hG⟩ := hL1.gust (X1 := X) ht hf hF rfl rfl
  rw [eg] at hW hL2 hG ⊢
  obtain ⟨a1, a2, a3, a4, a5, a6⟩ := hG
  have hr22 : s1.1 22 = s.1 22 := e.1 22 (by decide) (by decide)
  have eg2 : nG (gusF s1 fv (nG s) 9).1 = nG s := by unfold nG; rw [gus_k _ _ _ _ _ (by decide), e.1 19 (by decide) (by decide)]
  refine v_lstore (pc := 195) dL_isGust_195 rfl (by decide) ?_
  refine v_aload_n (pc := 197) dL_isGust_197 rfl rfl ?_
  refine vqV (pc := 198) (u := 1 + 1) (j := 1) (U := 100) (As := []) hW dL_isGust_198 cw_L_129 im_yX8_pegs se_yX8_pegs rfl (q_pegs hW hL2.1 (by omega)) rfl rfl (Nat.le_of_ble_eq_true rfl) ⟨Nat.le_of_ble_eq_true rfl, Nat.le_of_ble_eq_true rfl⟩ ⟨by decide, by decide⟩ ⟨rfl, rfl⟩ (by omega) (fun v G hp => ?_)
  obtain ⟨rfl, hW⟩ := hp
  obtain ⟨nb9, hn1, hs9, hb9⟩ := set_b (s := (gusF s1 fv (nG s) 9).1) (nG s) b4
  have hnb := p28 b4 hn1
  rw [eg2, hs9]
  refine v_istore (pc := 201) dL_isGust_201 rfl (by decide) ?_
  refine v_lconst (pc := 203) (v := 0) dL_isGust_203 (by decide) ?_
  refine v_lstore (pc := 204) dL_isGust_204 rfl (by decide) ?_
  refine v_iconst (pc := 206) (v := 0) dL_isGust_206 (by decide) ?_
  refine v_istore (pc := 207) dL_isGust_207 rfl (by decide) ?_
  refine v_iconst (pc := 209) (v := nI 0) dL_isGust_209 (by decide) ?_
  refine v_istore (pc := 210) dL_isGust_210 rfl (by decide) ?_
  refine vq_u (u' := 5 + 0) (by omega) ?_
  refine l_g (s0 := s1) hL2.1 (by omega) hL2.2.2.2.2.2.1 ha hnb (by rw [eg2]; intro k hk; rw [hr22]; exact hba k hk) (by rw [eg2]; exact hb9) (fun G hW => ?_) (nG s) 0 G (by rw [eg2]; omega) hW
  rw [eg2]
  obtain ⟨go1, go2⟩ := go_n (s := s1) (s1 := (gusF s1 fv (nG s) 9).1) b4 a4 (nG s) (Nat.le_refl _)
  have hsub : nI nb9 &&& (nI na ^^^ -1) = 0 := sub_bits nb9 hnb na ha (and_self_of hn1 (fun k hk z => by
    rw [hba k hk, decide_eq_true_iff, ← hr22]
    rw [hb9 k hk, decide_eq_true_iff] at z
    exact a4 k hk z))
  have hout : (gusF s1 fv (nG s) 9).2 = inN s1 (nG s) - inN (gusF s1 fv (nG s) 9).1 (nG s) := by omega
  refine v_iload (pc := 272) dL_isGust_272 rfl ?_
  refine v_iload (pc := 274) dL_isGust_274 rfl ?_
  refine v_iconst (pc := 276) (v := (-1)) dL_isGust_276 (by decide) ?_
  refine v_ixor (pc := 277) dL_isGust_277 ?_
  refine v_iand (pc := 278) dL_isGust_278 ?_
  rw [hsub]
  refine v_if_ne (pc := 279) (tgt := 308) dL_isGust_279 (by decide) (fun c279 => absurd c279 (by decide)) (fun c279 => ?_)
  refine v_lload (pc := 282) dL_isGust_282 rfl ?_
  refine v_iload (pc := 284) dL_isGust_284 rfl ?_
  refine v_i2l (pc := 286) dL_isGust_286 ?_
  rw [go2, hout]
  refine v_lcmp (pc := 287) dL_isGust_287 ?_
  refine v_if_ne (pc := 288) (tgt := 308) dL_isGust_288 (by decide) (fun c288 => absurd c288 (d_ne rfl)) (fun c288 => ?_)
  refine v_iload (pc := 291) dL_isGust_291 rfl ?_
  refine v_if_eq (pc := 293) (tgt := 304) dL_isGust_293 (by decide) (fun c293 => ?_) (fun c293 => ?_)
  · refine v_iconst (pc := 304) (v := 1) dL_isGust_304 (by decide) ?_
    refine v_goto (pc := 305) (tgt := 309) dL_isGust_305 (by decide) ?_
    refine vq_zret (pc := 309) (U := 100) hR dL_isGust_309 rfl ⟨rfl, rfl⟩ (by omega) ?_
    exact ⟨rfl, X, _, M, rfl, rfl, hW, hL2, fun z => z⟩
  · have hsh : shF (gusF s1 fv (nG s) 9).1 (nG s) = fv := a6.elim (fun z => absurd (by rw [zero_of hn1 (fun k hk => by rw [hb9 k hk]; exact decide_eq_false (fun w => w (inN_z _ z k hk)))]; rfl) c293) (fun z => z)
    refine v_lload (pc := 296) dL_isGust_296 rfl ?_
    refine v_lload (pc := 298) dL_isGust_298 rfl ?_
    refine v_lcmp (pc := 300) dL_isGust_300 ?_
    refine v_if_ne (pc := 301) (tgt := 308) dL_isGust_301 (by decide) (fun c301 => absurd c301 (d_ne hsh)) (fun c301 => ?_)
    refine v_iconst (pc := 304) (v := 1) dL_isGust_304 (by decide) ?_
    refine v_goto (pc := 305) (tgt := 309) dL_isGust_305 (by decide) ?_
    refine vq_zret (pc := 309) (U := 100) hR dL_isGust_309 rfl ⟨rfl, rfl⟩ (by omega) ?_
    exact ⟨rfl, X, _, M, rfl, rfl, hW, hL2, fun z => z⟩
set_option maxRecDepth 100000 in
set_option maxHeartbeats 400000 in
theorem c_L_isGust (D : DT) (X : XT) (s : SG) (M : MT) (G : GT) (t how xx : Nat) (hhow : how = 0 ∨ how = 1) (hxx : xx < 2147483648) (hW : WD X s M G) (hL : LI X s M t) (ht : t < 200) : MN yL_isGust cL_isGust 15 (Option.some Jvm.ClassFile.FieldType.boolean) rm_isGust D [.ref (X.1 0 0), .ref M.1.1, .ref M.1.2.2, .int (nI how), .int (nI xx)] G (LPq X M (t + 1)) := by
  have hI := hL.1
  have hM := hL.2.2.2.2.2.1
  have hq : 2 * t < 512 := by omega
  obtain ⟨b1, b2, b3, b4, b5, n1, n2, n3, n4, n5⟩ := hI.six hq
  refine MN_of (by decide +kernel) (Nat.le_of_ble_eq_true rfl) (fun K sz hR hNC => ?_)
  show V cL_isGust _ 15 _ D K 0 [some (.ref (X.1 0 0)), some (.ref M.1.1), some (.ref M.1.2.2), some (.int (nI how)), some (.int (nI xx)), none, none, none, none, none, none, none, none, none, none] [] G (nu 0)
  refine v_iload_n (pc := 0) dL_isGust_0 rfl rfl ?_
  refine v_if_ne (pc := 1) (tgt := 149) dL_isGust_1 (by decide) (fun c1 => ?_) (fun c1 => ?_)
  · refine v_aload_n (pc := 149) dL_isGust_149 rfl rfl ?_
    refine vqV (pc := 150) (u := 0) (j := 1) (U := 100) (As := []) hW dL_isGust_150 cw_L_129 im_yX8_pegs se_yX8_pegs rfl (q_pegs hW hI hq) rfl rfl (Nat.le_of_ble_eq_true rfl) ⟨Nat.le_of_ble_eq_true rfl, Nat.le_of_ble_eq_true rfl⟩ ⟨by decide, by decide⟩ ⟨rfl, rfl⟩ (by omega) (fun v G hp => ?_)
    obtain ⟨rfl, hW⟩ := hp
    obtain ⟨na, hna, hsa, hba⟩ := set_b (s := s) (nG s) b4
    rw [hsa]
    refine v_istore (pc := 153) dL_isGust_153 rfl (by decide) ?_
    refine v_iload (pc := 155) dL_isGust_155 rfl ?_
    refine v_iconst (pc := 157) (v := 4) dL_isGust_157 (by decide) ?_
    refine v_nrem (pc := 158) (xx) 4 dL_isGust_158 (by omega) (by decide) rfl rfl ?_
    refine v_if_ne (pc := 159) (tgt := 176) dL_isGust_159 (by decide) (fun c159 => ?_) (fun c159 => ?_)
    · refine v_iload (pc := 176) dL_isGust_176 rfl ?_
      refine v_iconst (pc := 178) (v := 4) dL_isGust_178 (by decide) ?_
      refine v_ndiv (pc := 179) (xx) 4 dL_isGust_179 (by omega) (by decide) rfl rfl ?_
      refine v_sipush (pc := 180) (v := 9000) dL_isGust_180 (by decide) ?_
      refine v_nrem (pc := 183) (xx / 4) 9000 dL_isGust_183 (by omega) (by decide) rfl rfl ?_
      refine v_i2l (pc := 184) dL_isGust_184 ?_
      exact g_gust hR hNC hxx hL ht _ _ (nl_i (show xx / 4 % 9000 < 2147483648 by omega)) (by omega) na hna hba G hW
    · refine v_iload (pc := 162) dL_isGust_162 rfl ?_
      refine v_i2l (pc := 164) dL_isGust_164 ?_
      refine v_ldcL (pc := 165) dL_isGust_165 k_L_179 ?_
      refine v_lmul (pc := 168) dL_isGust_168 ?_
      refine v_ldcL (pc := 169) dL_isGust_169 k_L_160 ?_
      refine v_lrem (pc := 172) dL_isGust_172 (by decide) ?_
      refine v_goto (pc := 173) (tgt := 185) dL_isGust_173 (by decide) ?_
      have e1 := l_rem (m64 (nl_i (show xx < 2147483648 by omega)) (y := 18007) (k := 18007) rfl (by omega)) (y := 40000000000001) (b := 40000000000001) rfl (by omega) (by decide)
      exact g_gust hR hNC hxx hL ht _ _ e1 (by have := Nat.mod_lt (xx * 18007) (show 0 < 40000000000001 by decide); omega) na hna hba G hW
  · refine v_iload (pc := 4) dL_isGust_4 rfl ?_
    refine v_iconst (pc := 6) (v := 3) dL_isGust_6 (by decide) ?_
    refine v_nrem (pc := 7) (xx) 3 dL_isGust_7 (by omega) (by decide) rfl rfl ?_
    refine v_if_ne (pc := 8) (tgt := 25) dL_isGust_8 (by decide) (fun c8 => ?_) (fun c8 => ?_)
    · refine v_iload (pc := 25) dL_isGust_25 rfl ?_
      refine v_iconst (pc := 27) (v := 3) dL_isGust_27 (by decide) ?_
      refine v_ndiv (pc := 28) (xx) 3 dL_isGust_28 (by omega) (by decide) rfl rfl ?_
      refine v_sipush (pc := 29) (v := 3000) dL_isGust_29 (by decide) ?_
      refine v_nrem (pc := 32) (xx / 3) 3000 dL_isGust_32 (by omega) (by decide) rfl rfl ?_
      refine v_i2l (pc := 33) dL_isGust_33 ?_
      exact g_peg hR hNC hxx hL ht _ (l_small (nl_i (show xx / 3 % 3000 < 2147483648 by omega)) (B := 4000000000000) (b := 4000000000000) rfl (by omega)) G hW
    · refine v_iload (pc := 11) dL_isGust_11 rfl ?_
      refine v_i2l (pc := 13) dL_isGust_13 ?_
      refine v_ldcL (pc := 14) dL_isGust_14 k_L_177 ?_
      refine v_lmul (pc := 17) dL_isGust_17 ?_
      refine v_ldcL (pc := 18) dL_isGust_18 k_L_153 ?_
      refine v_lrem (pc := 21) dL_isGust_21 (by decide) ?_
      refine v_goto (pc := 22) (tgt := 34) dL_isGust_22 (by decide) ?_
      have e1 := l_rem (m64 (nl_i (show xx < 2147483648 by omega)) (y := 1801) (k := 1801) rfl (by omega)) (y := 4000000000001) (b := 4000000000001) rfl (by omega) (by decide)
      exact g_peg hR hNC hxx hL ht _ (l_small e1 (B := 4000000000000) (b := 4000000000000) rfl (by have := Nat.mod_lt (xx * 1801) (show 0 < 4000000000001 by decide); omega)) G hW
