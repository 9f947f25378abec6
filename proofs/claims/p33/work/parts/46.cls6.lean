theorem n8 : ∀ i, i < 9 → ¬ (8 : Int32) < nI i := by decide +kernel
theorem bt_no : ∀ o, o < 256 → ∀ b, b < 256 → (255 - o) &&& (255 - b) = 255 - (o ||| b) := by decide +kernel
theorem bt_out : ∀ k, k < 256 → ∀ i, i < 8 → k.testBit i = false → k &&& (255 - 2 ^ i) = k := by decide +kernel
def pcN (k : Nat) : Nat := k % 2 + (k / 2 % 2 + (k / 4 % 2 + (k / 8 % 2 + (k / 16 % 2 + (k / 32 % 2 + (k / 64 % 2 + k / 128 % 2))))))
theorem pc_lt : ∀ k, k < 256 → ∀ o, o < 256 → o ≠ 0 → o &&& k = o → pcN (k &&& (255 - o)) < pcN k := by decide +kernel
theorem pc_8 (k : Nat) : pcN k < 9 := by unfold pcN; omega
theorem and_sw (k a b : Nat) : k &&& a &&& b = k &&& b &&& a := by rw [Nat.and_assoc, Nat.and_comm a b, ← Nat.and_assoc]
theorem cl_st {s : SG} {j k i : Nat} (hk : k < 256) (hi : i < 8) (c : s.1 31 (8 * j + i) &&& nI k = 0) : nI (k &&& (255 - opN s j k i)) &&& ((1 : Int32) <<< (nI i &&& 31) ^^^ -1) = nI (k &&& (255 - opN s j k (i + 1))) := by
  have ho := (opN_in s j hk i (by omega)).1
  have hp : 2 ^ i < 256 := Nat.pow_lt_pow_right (by decide) hi
  have h1 : k &&& (255 - opN s j k i) < 256 := Nat.lt_of_le_of_lt Nat.and_le_left hk
  rw [bt_sh i hi, bt_an _ h1 _ hp]
  by_cases hb : k.testBit i = true
  · rw [opN, if_pos ⟨hb, c⟩, Nat.and_assoc, bt_no _ ho _ hp]
  · rw [opN, if_neg (fun z => hb z.1), Nat.or_zero, and_sw, bt_out k hk i hi (by simpa using hb)]
theorem opN_8 {s : SG} {j k p : Nat} (hp : p ≤ 8) (hk : k < 2 ^ p) : ∀ d, p + d ≤ 8 → opN s j k (p + d) = opN s j k p := by
  intro d
  induction d with
  | zero => intro _; rfl
  | succ d ih =>
    intro h
    have hb : k.testBit (p + d) = false := Nat.testBit_lt_two_pow (Nat.lt_of_lt_of_le hk (Nat.pow_le_pow_right (by decide) (by omega)))
    rw [show p + (d + 1) = p + d + 1 by omega, opN, if_neg (fun z => by rw [hb] at z; cases z.1), Nat.or_zero, ih (by omega)]
def clF (s : SG) (j p : Nat) : Nat → Nat → Nat → Int32
  | 0, _, _ => -1
  | d + 1, i, k => if k = 0 then nI i else clF s j p d (i + 1) (nxK s j p k)
theorem clF_jam {s : SG} {j p k : Nat} (hk : ¬ k = 0) (h2 : k < 256) (h : opN s j k p = 0) : ∀ d i, clF s j p d i k = -1 := by
  intro d
  induction d with
  | zero => intro i; rfl
  | succ d ih =>
    intro i
    rw [clF, if_neg hk, show nxK s j p k = k by rw [nxK, h]; exact bt_255 k h2]
    exact ih (i + 1)
theorem clF_eq {s : SG} {j p : Nat} (hp : p ≤ 8) : ∀ d f i k, k < 256 → k < f → f ≤ 300 → pcN k < d → clF s j p d i k = if rndF s j p f k = -1 then (-1 : Int32) else nI i + rndF s j p f k := by
  intro d
  induction d with
  | zero => intro f i k _ _ _ h; omega
  | succ d ih =>
    intro f i k hk hf hf3 hpc
    match f, hf with
    | f + 1, hf =>
      by_cases k0 : k = 0
      · subst k0
        rw [rnd_done, clF, if_pos rfl]
      · by_cases ho : opN s j k p = 0
        · rw [rnd_jam i k0 ho, clF_jam k0 hk ho]
        · obtain ⟨h1, h2⟩ := opN_in s j hk p hp
          have hl : nxK s j p k < k := bt_lt k hk _ h1 ho h2
          have hc : pcN (nxK s j p k) < pcN k := pc_lt k hk _ h1 ho h2
          rw [rnd_go i k0 ho (rndF_n1 s j p f _ (by omega)), clF, if_neg k0]
          exact ih f (i + 1) _ (by omega) (by omega) (by omega) (by omega)
theorem clF_rnd {s : SG} {j p : Nat} (hp : p ≤ 8) : clF s j p 9 0 (2 ^ p - 1) = rndS s j p := by
  rw [clF_eq hp 9 256 0 _ (bt_in p hp).2 (bt_in p hp).2 (by decide) (pc_8 _), rndS]
  rcases rndF_nn s j p 256 (2 ^ p - 1) (by decide) with e | ⟨r, hr, e⟩
  · simp [e]
  · have hr2 : ¬ nI r = -1 := (fun z => by have := nI_toInt (n := r) (by omega); rw [z] at this; exact absurd this (by show ¬ (-1 : Int) = _; omega))
    rw [e, if_neg hr2, nI_add, Nat.zero_add]
set_option maxRecDepth 100000 in
set_option maxHeartbeats 400000 in
theorem c_X0_numberOf (D : DT) (X : XT) (s : SG) (j : Nat) (p1 : Int32) (hL0 : X.2.1 17 j = true) (hb : btw p1 0 5) : CC yX0_numberOf cX0_numberOf 2 (Option.some Jvm.ClassFile.FieldType.int) rm_X0_numberOf D [.ref (X.1 17 j), .int p1] X s (fun v s' => v = some (.int (ofS s j p1)) ∧ s' = s) := by
  intro G hG
  refine MC_of (by decide +kernel) (Nat.le_of_ble_eq_true rfl) (fun K sz hR => ?_)
  show V cX0_numberOf _ 2 _ D K 0 [some (.ref (X.1 17 j)), some (.int p1)] [] G (0, 0)
  refine v_iload_n (pc := 0) dX0_numberOf_0 rfl rfl ?_
  obtain ⟨q, hq, rfl⟩ := (btw_lit (M := 5) (N := 5) rfl).mp hb
  rcases (show q = 0 ∨ q = 1 ∨ q = 2 ∨ q = 3 ∨ q = 4 ∨ q = 5 by omega) with rfl | rfl | rfl | rfl | rfl | rfl
  · refine v_tin (pc := 1) (tgt := 36) dX0_numberOf_1 (by decide) (by decide) (by rfl) (by decide) ?_
    refine v_aload_n (pc := 36) dX0_numberOf_36 rfl rfl ?_
    refine vc_getI (pc := 37) (f := 1) hG dX0_numberOf_37 fl_X0_26 (Or.inl rfl) (by assumption) rfl (by decide) (ivL_17_1 _ _) ?_
    refine v_iret (pc := 40) hR dX0_numberOf_40 ⟨by decide, by decide⟩ ?_
    exact ⟨_, hG, rfl, rfl⟩
  · refine v_tin (pc := 1) (tgt := 41) dX0_numberOf_1 (by decide) (by decide) (by rfl) (by decide) ?_
    refine v_aload_n (pc := 41) dX0_numberOf_41 rfl rfl ?_
    refine vc_getI (pc := 42) (f := 4) hG dX0_numberOf_42 fl_X0_15 (Or.inl rfl) (by assumption) rfl (by decide) (ivL_17_4 _ _) ?_
    refine v_iret (pc := 45) hR dX0_numberOf_45 ⟨by decide, by decide⟩ ?_
    exact ⟨_, hG, rfl, rfl⟩
  · refine v_tin (pc := 1) (tgt := 46) dX0_numberOf_1 (by decide) (by decide) (by rfl) (by decide) ?_
    refine v_aload_n (pc := 46) dX0_numberOf_46 rfl rfl ?_
    refine vc_getI (pc := 47) (f := 5) hG dX0_numberOf_47 fl_X0_19 (Or.inl rfl) (by assumption) rfl (by decide) (ivL_17_5 _ _) ?_
    refine v_iret (pc := 50) hR dX0_numberOf_50 ⟨by decide, by decide⟩ ?_
    exact ⟨_, hG, rfl, rfl⟩
  · refine v_tin (pc := 1) (tgt := 51) dX0_numberOf_1 (by decide) (by decide) (by rfl) (by decide) ?_
    refine v_aload_n (pc := 51) dX0_numberOf_51 rfl rfl ?_
    refine vc_getI (pc := 52) (f := 6) hG dX0_numberOf_52 fl_X0_53 (Or.inl rfl) (by assumption) rfl (by decide) (ivL_17_6 _ _) ?_
    refine v_iret (pc := 55) hR dX0_numberOf_55 ⟨by decide, by decide⟩ ?_
    exact ⟨_, hG, rfl, rfl⟩
  · refine v_tin (pc := 1) (tgt := 56) dX0_numberOf_1 (by decide) (by decide) (by rfl) (by decide) ?_
    refine v_aload_n (pc := 56) dX0_numberOf_56 rfl rfl ?_
    refine vc_getI (pc := 57) (f := 7) hG dX0_numberOf_57 fl_X0_56 (Or.inl rfl) (by assumption) rfl (by decide) (ivL_17_7 _ _) ?_
    refine v_iret (pc := 60) hR dX0_numberOf_60 ⟨by decide, by decide⟩ ?_
    exact ⟨_, hG, rfl, rfl⟩
  · refine v_tout (pc := 1) (tgt := 61) dX0_numberOf_1 (by decide) (by decide) ?_
    refine v_aload_n (pc := 61) dX0_numberOf_61 rfl rfl ?_
    refine vc_getI (pc := 62) (f := 8) hG dX0_numberOf_62 fl_X0_59 (Or.inl rfl) (by assumption) rfl (by decide) (ivL_17_8 _ _) ?_
    refine v_iret (pc := 65) hR dX0_numberOf_65 ⟨by decide, by decide⟩ ?_
    exact ⟨_, hG, rfl, rfl⟩
set_option maxRecDepth 100000 in
set_option maxHeartbeats 400000 in
theorem l_X0_shutAfterRound {D : DT} {K : KT} {X : XT} {s : SG} (j k : Nat) (hL0 : X.2.1 17 j = true) (hk : k < 256) (kk : ∀ (G : GT), LF X s G → V cX0_shutAfterRound yX0_shutAfterRound.cls 4 rm_X0_shutAfterRound D K 38 [some (.ref (X.1 17 j)), some (.int (nI k)), some (.int (nI (k &&& (255 - opN s j k 8)))), some (.int (nI 8))] [] G (0, 0)) : ∀ (d i : Nat)  (G : GT), i + d = 8 → LF X s G → V cX0_shutAfterRound yX0_shutAfterRound.cls 4 rm_X0_shutAfterRound D K 4 [some (.ref (X.1 17 j)), some (.int (nI k)), some (.int (nI (k &&& (255 - opN s j k i)))), some (.int (nI i))] [] G (0, 0) := by
  intro d
  induction d with
  | zero =>
    intro i  G he0 hG
    refine v_iload_n (pc := 4) dX0_shutAfterRound_4 rfl rfl ?_
    refine v_aload_n (pc := 5) dX0_shutAfterRound_5 rfl rfl ?_
    refine vc_getR (pc := 6) (f := 2) hG dX0_shutAfterRound_6 fl_X0_9 rfl (by assumption) rfl (by decide) (rvL_17_2 _ _ _) (fun hL6 => ?_)
    refine vc_alen (pc := 9) (k := 0) (x := 8) hG dX0_shutAfterRound_9 (by assumption) rfl rfl rfl ?_
    refine v_icmp_ge (pc := 10) (tgt := 38) dX0_shutAfterRound_10 (by decide) (fun c10 => ?_) (fun c10 => absurd c10 (not_not_intro (by rw [show i = 8 by omega]; decide)))
    have e : i = 8 := by omega
    subst e
    exact kk G hG
  | succ d ih =>
    intro i  G he0 hG
    refine v_iload_n (pc := 4) dX0_shutAfterRound_4 rfl rfl ?_
    refine v_aload_n (pc := 5) dX0_shutAfterRound_5 rfl rfl ?_
    refine vc_getR (pc := 6) (f := 2) hG dX0_shutAfterRound_6 fl_X0_9 rfl (by assumption) rfl (by decide) (rvL_17_2 _ _ _) (fun hL6 => ?_)
    refine vc_alen (pc := 9) (k := 0) (x := 8) hG dX0_shutAfterRound_9 (by assumption) rfl rfl rfl ?_
    refine v_icmp_ge (pc := 10) (tgt := 38) dX0_shutAfterRound_10 (by decide) (fun c10 => absurd c10 (nI_ge (b := 8) (by omega) (by decide))) (fun c10 => ?_)
    refine v_aload_n (pc := 13) dX0_shutAfterRound_13 rfl rfl ?_
    refine vc_getR (pc := 14) (f := 2) hG dX0_shutAfterRound_14 fl_X0_9 rfl (by assumption) rfl (by decide) (rvL_17_2 _ _ _) (fun hL14 => ?_)
    refine v_iload_n (pc := 17) dX0_shutAfterRound_17 rfl rfl ?_
    refine vc_iald (pc := 18) (j := i) hG dX0_shutAfterRound_18 (by assumption) rfl rfl (by show _ < 8; omega) (ivL_18_a _ _ _) ?_
    refine v_iload_n (pc := 19) dX0_shutAfterRound_19 rfl rfl ?_
    refine v_iand (pc := 20) dX0_shutAfterRound_20 ?_
    refine v_if_ne (pc := 21) (tgt := 32) dX0_shutAfterRound_21 (by decide) (fun c21 => ?_) (fun c21 => ?_)
    · have e9 : nI (k &&& (255 - opN s j k i)) = nI (k &&& (255 - opN s j k (i + 1))) := by rw [opN, if_neg (fun z => c21 z.2), Nat.or_zero]
      refine v_iinc (pc := 32) dX0_shutAfterRound_32 rfl (nI_1 i) rfl (by decide) ?_
      refine v_goto (pc := 35) (tgt := 4) dX0_shutAfterRound_35 (by decide) ?_
      have e8 := ih (i + 1) G (by omega) hG
      rw [← e9] at e8
      exact e8
    · have e9 := cl_st (s := s) (j := j) hk (i := i) (by omega) c21
      refine v_iload_n (pc := 24) dX0_shutAfterRound_24 rfl rfl ?_
      refine v_iconst (pc := 25) (v := 1) dX0_shutAfterRound_25 (by decide) ?_
      refine v_iload_n (pc := 26) dX0_shutAfterRound_26 rfl rfl ?_
      refine v_ishl (pc := 27) dX0_shutAfterRound_27 ?_
      refine v_iconst (pc := 28) (v := (-1)) dX0_shutAfterRound_28 (by decide) ?_
      refine v_ixor (pc := 29) dX0_shutAfterRound_29 ?_
      refine v_iand (pc := 30) dX0_shutAfterRound_30 ?_
      refine v_istore_n (pc := 31) dX0_shutAfterRound_31 rfl rfl (by decide) ?_
      refine v_iinc (pc := 32) dX0_shutAfterRound_32 rfl (nI_1 i) rfl (by decide) ?_
      refine v_goto (pc := 35) (tgt := 4) dX0_shutAfterRound_35 (by decide) ?_
      have e8 := ih (i + 1) G (by omega) hG
      rw [← e9] at e8
      exact e8
set_option maxRecDepth 100000 in
set_option maxHeartbeats 400000 in
theorem c_X0_shutAfterRound (D : DT) (X : XT) (s : SG) (j k : Nat)  (hL0 : X.2.1 17 j = true) (hk : k < 256) : CC yX0_shutAfterRound cX0_shutAfterRound 4 (Option.some Jvm.ClassFile.FieldType.int) rm_X0_shutAfterRound D [.ref (X.1 17 j), .int (nI k)] X s (fun v s' => v = some (.int (nI (k &&& (255 - opN s j k 8)))) ∧ s' = s) := by
  intro G hG
  refine MC_of (by decide +kernel) (Nat.le_of_ble_eq_true rfl) (fun K sz hR => ?_)
  show V cX0_shutAfterRound _ 4 _ D K 0 [some (.ref (X.1 17 j)), some (.int (nI k)), none, none] [] G (0, 0)
  refine v_iload_n (pc := 0) dX0_shutAfterRound_0 rfl rfl ?_
  refine v_istore_n (pc := 1) dX0_shutAfterRound_1 rfl rfl (by decide) ?_
  refine v_iconst (pc := 2) (v := 0) dX0_shutAfterRound_2 (by decide) ?_
  refine v_istore_n (pc := 3) dX0_shutAfterRound_3 rfl rfl (by decide) ?_
  have e1 : ∀ (G : GT), LF X s G → V cX0_shutAfterRound yX0_shutAfterRound.cls 4 rm_X0_shutAfterRound D K 38 [some (.ref (X.1 17 j)), some (.int (nI k)), some (.int (nI (k &&& (255 - opN s j k 8)))), some (.int (nI 8))] [] G (0, 0) := by
    intro G hG
    refine v_iload_n (pc := 38) dX0_shutAfterRound_38 rfl rfl ?_
    refine v_iret (pc := 39) hR dX0_shutAfterRound_39 ⟨by decide, by decide⟩ ?_
    exact ⟨_, hG, rfl, rfl⟩
  have e8 := l_X0_shutAfterRound (s := s) j k hL0 hk e1 8 0 G (by omega) hG
  rw [show k &&& (255 - opN s j k 0) = k from bt_255 k hk] at e8
  exact e8
set_option maxRecDepth 100000 in
set_option maxHeartbeats 400000 in
theorem l_X0_roundsToOpen {D : DT} {K : KT} {X : XT} {s : SG} (j p : Nat) (R9 : Int32) (hL0 : X.2.1 17 j = true) (hp8 : p ≤ 8) (kk2 : ∀ (i k : Nat) (G : GT), R9 = nI i → LF X s G → V cX0_roundsToOpen yX0_roundsToOpen.cls 3 rm_X0_roundsToOpen D K 21 [some (.ref (X.1 17 j)), some (.int (nI k)), some (.int (nI i))] [] G (0, 0)) (kk : ∀ (k : Nat) (G : GT), R9 = -1 → LF X s G → V cX0_roundsToOpen yX0_roundsToOpen.cls 3 rm_X0_roundsToOpen D K 35 [some (.ref (X.1 17 j)), some (.int (nI k)), some (.int (nI 9))] [] G (0, 0)) : ∀ (d i : Nat) (k : Nat) (G : GT), i + d = 9 → k < 2 ^ p → clF s j p d i k = R9 → LF X s G → V cX0_roundsToOpen yX0_roundsToOpen.cls 3 rm_X0_roundsToOpen D K 11 [some (.ref (X.1 17 j)), some (.int (nI k)), some (.int (nI i))] [] G (0, 0) := by
  intro d
  induction d with
  | zero =>
    intro i k G he0 he1 he2 hG
    refine v_iload_n (pc := 11) dX0_roundsToOpen_11 rfl rfl ?_
    refine v_bipush (pc := 12) (v := 8) dX0_roundsToOpen_12 (by decide) ?_
    refine v_icmp_gt (pc := 14) (tgt := 35) dX0_roundsToOpen_14 (by decide) (fun c14 => ?_) (fun c14 => absurd c14 (not_not_intro (by rw [show i = 9 by omega]; decide)))
    have e : i = 9 := by omega
    subst e
    exact kk k G he2.symm hG
  | succ d ih =>
    intro i k G he0 he1 he2 hG
    have hk : k < 256 := Nat.lt_of_lt_of_le he1 (Nat.pow_le_pow_right (by decide) hp8)
    refine v_iload_n (pc := 11) dX0_roundsToOpen_11 rfl rfl ?_
    refine v_bipush (pc := 12) (v := 8) dX0_roundsToOpen_12 (by decide) ?_
    refine v_icmp_gt (pc := 14) (tgt := 35) dX0_roundsToOpen_14 (by decide) (fun c14 => absurd c14 (n8 i (by omega))) (fun c14 => ?_)
    refine v_iload_n (pc := 17) dX0_roundsToOpen_17 rfl rfl ?_
    refine v_if_ne (pc := 18) (tgt := 23) dX0_roundsToOpen_18 (by decide) (fun c18 => ?_) (fun c18 => ?_)
    · have k0 : ¬ k = 0 := fun e => c18 (by rw [e]; rfl)
      refine v_aload_n (pc := 23) dX0_roundsToOpen_23 rfl rfl ?_
      refine v_iload_n (pc := 24) dX0_roundsToOpen_24 rfl rfl ?_
      refine vc_callV1 (pc := 25) (0, 0) hG dX0_roundsToOpen_25 cw_X0_49 im_yX0_shutAfterRound se_yX0_shutAfterRound (c_X0_shutAfterRound D X _ j k hL0 hk) (by assumption) rfl rfl (Nat.le_of_ble_eq_true rfl) ⟨Nat.le_of_ble_eq_true rfl, Nat.le_of_ble_eq_true rfl⟩ ⟨by decide, by decide⟩ rfl (fun v s1 G hp hG => ?_)
      obtain ⟨hv1, hs1⟩ := hp
      subst hv1
      subst s1
      refine v_istore_n (pc := 28) dX0_roundsToOpen_28 rfl rfl (by decide) ?_
      refine v_iinc (pc := 29) dX0_roundsToOpen_29 rfl (nI_1 i) rfl (by decide) ?_
      refine v_goto (pc := 32) (tgt := 11) dX0_roundsToOpen_32 (by decide) ?_
      rw [show opN s j k 8 = opN s j k p from (by have := opN_8 (s := s) (j := j) hp8 he1 (8 - p) (by omega); rwa [show p + (8 - p) = 8 by omega] at this)]
      exact ih (i + 1) (nxK s j p k) G (by omega) (Nat.lt_of_le_of_lt Nat.and_le_left he1) (by rw [← he2, clF, if_neg k0]) hG
    · have k0 : k = 0 := nI_inj (by omega) (by decide) (c18.trans rfl)
      exact kk2 i k G (by rw [← he2, clF, if_pos k0]) hG
set_option maxRecDepth 100000 in
set_option maxHeartbeats 400000 in
theorem c_X0_roundsToOpen (D : DT) (X : XT) (s : SG) (j p : Nat)  (hL0 : X.2.1 17 j = true) (hp : s.1 30 j = nI p) (hp8 : p ≤ 8) : CC yX0_roundsToOpen cX0_roundsToOpen 3 (Option.some Jvm.ClassFile.FieldType.int) rm_X0_roundsToOpen D [.ref (X.1 17 j)] X s (fun v s' => v = some (.int (rndS s j p)) ∧ s' = s) := by
  intro G hG
  refine MC_of (by decide +kernel) (Nat.le_of_ble_eq_true rfl) (fun K sz hR => ?_)
  show V cX0_roundsToOpen _ 3 _ D K 0 [some (.ref (X.1 17 j)), none, none] [] G (0, 0)
  refine v_iconst (pc := 0) (v := 1) dX0_roundsToOpen_0 (by decide) ?_
  refine v_aload_n (pc := 1) dX0_roundsToOpen_1 rfl rfl ?_
  refine vc_getI (pc := 2) (f := 3) hG dX0_roundsToOpen_2 fl_X0_39 (Or.inl rfl) (by assumption) rfl (by decide) ((ivL_17_3 _ _).trans hp) ?_
  refine v_ishl (pc := 5) dX0_roundsToOpen_5 ?_
  refine v_iconst (pc := 6) (v := 1) dX0_roundsToOpen_6 (by decide) ?_
  refine v_isub (pc := 7) dX0_roundsToOpen_7 ?_
  refine v_istore_n (pc := 8) dX0_roundsToOpen_8 rfl rfl (by decide) ?_
  refine v_iconst (pc := 9) (v := 0) dX0_roundsToOpen_9 (by decide) ?_
  refine v_istore_n (pc := 10) dX0_roundsToOpen_10 rfl rfl (by decide) ?_
  rw [(bt_in p hp8).1]
  refine l_X0_roundsToOpen (s := s) j p (rndS s j p) hL0 hp8 (fun i k G hz hG => ?_) (fun k G hz hG => ?_) 9 0 (2 ^ p - 1) G (by omega) (Nat.sub_lt (Nat.two_pow_pos p) (by decide)) (clF_rnd hp8) hG
  · refine v_iload_n (pc := 21) dX0_roundsToOpen_21 rfl rfl ?_
    refine v_iret (pc := 22) hR dX0_roundsToOpen_22 ⟨by decide, by decide⟩ ?_
    exact ⟨_, hG, by rw [hz], rfl⟩
  · refine v_iconst (pc := 35) (v := (-1)) dX0_roundsToOpen_35 (by decide) ?_
    refine v_iret (pc := 36) hR dX0_roundsToOpen_36 ⟨by decide, by decide⟩ ?_
    exact ⟨_, hG, by rw [hz], rfl⟩
set_option maxRecDepth 100000 in
set_option maxHeartbeats 400000 in
theorem c_X0_isReadyToSeal (D : DT) (X : XT) (s : SG) (j c : Nat)  (hL0 : X.2.1 17 j = true) (h : CV s c) (hj : j < c) (hc2 : c ≤ 6) (h33 : s.1 32 j = -1 ↔ s.1 33 j = -1) : CC yX0_isReadyToSeal cX0_isReadyToSeal 1 (Option.some Jvm.ClassFile.FieldType.boolean) rm_X0_isReadyToSeal D [.ref (X.1 17 j)] X s (fun v s' => v = some (.int (b2i (oSeal s j))) ∧ s' = s) := by
  intro G hG
  refine MC_of (by decide +kernel) (Nat.le_of_ble_eq_true rfl) (fun K sz hR => ?_)
  show V cX0_isReadyToSeal _ 1 _ D K 0 [some (.ref (X.1 17 j))] [] G (0, 0)
  obtain ⟨p, l, hp8, ep, hl6, el⟩ := h j hj
  have eN : nat (s.1 29 j) = l := by rw [el]; exact nat_nI (by omega)
  have eP : nat (s.1 30 j) = p := by rw [ep]; exact nat_nI (by omega)
  refine v_aload_n (pc := 0) dX0_isReadyToSeal_0 rfl rfl ?_
  refine vc_callV0 (pc := 1) (0, 0) hG dX0_isReadyToSeal_1 cw_X0_29 im_yX0_isSealed se_yX0_isSealed (c_X0_isSealed D X _ j (by assumption)) (by assumption) rfl rfl (Nat.le_of_ble_eq_true rfl) ⟨Nat.le_of_ble_eq_true rfl, Nat.le_of_ble_eq_true rfl⟩ ⟨by decide, by decide⟩ rfl (fun v s1 G hp hG => ?_)
  obtain ⟨hv1, hs1⟩ := hp
  subst hv1
  subst s1
  refine v_if_ne (pc := 4) (tgt := 44) dX0_isReadyToSeal_4 (by decide) (fun c4 => ?_) (fun c4 => ?_)
  · rw [b2i_0, Decidable.not_not] at c4
    refine v_iconst (pc := 44) (v := 0) dX0_isReadyToSeal_44 (by decide) ?_
    refine v_zret (pc := 45) hR dX0_isReadyToSeal_45 (by first | rfl | exact b2i_nar) ⟨by decide, by decide⟩ ?_
    first
      | (exact ⟨_, hG, congrArg (fun z => some (Value.int z)) (b2i_f (fun z => c4 (h33.mp z.1))).symm, rfl⟩)
      | (exact ⟨_, hG, congrArg (fun z => some (Value.int z)) (b2i_t ⟨h33.mpr c4, by rw [eN]; exact c14, n_nle.mp c21, by rw [opS, eP]; exact c37, n_nle.mp c29⟩).symm, rfl⟩)
      | (exact ⟨_, hG, congrArg (fun z => some (Value.int z)) (b2i_f (fun z => c37 (by have := z.2.2.2.1; rw [opS, eP] at this; exact absurd c37 this))).symm, rfl⟩)
      | (exact ⟨_, hG, congrArg (fun z => some (Value.int z)) (b2i_f (fun z => by have := z.2.2.2.1; rw [opS, eP] at this; exact absurd c37 this)).symm, rfl⟩)
      | (exact ⟨_, hG, congrArg (fun z => some (Value.int z)) (b2i_f (fun z => absurd c29 (n_nle.mpr z.2.2.2.2))).symm, rfl⟩)
      | (exact ⟨_, hG, congrArg (fun z => some (Value.int z)) (b2i_f (fun z => absurd c21 (n_nle.mpr z.2.2.1))).symm, rfl⟩)
      | (exact ⟨_, hG, congrArg (fun z => some (Value.int z)) (b2i_f (fun z => c14 (by have := z.2.1; rw [eN] at this; exact this))).symm, rfl⟩)
  · rw [b2i_0] at c4
    rw [Decidable.not_not] at c4
    refine v_aload_n (pc := 7) dX0_isReadyToSeal_7 rfl rfl ?_
    refine vc_getR (pc := 8) (f := 0) hG dX0_isReadyToSeal_8 fl_X0_22 rfl (by assumption) rfl (by decide) (c' := 13) (i' := l) (by rw [rvL_17_0, el, nat_nI (by omega)]) (fun hL8 => ?_)
    refine vc_getI (pc := 11) (f := 4) hG dX0_isReadyToSeal_11 fl_X0_33 (Or.inr rfl) (by assumption) rfl (by decide) (ivL_13_4 _ _) ?_
    refine v_if_ne (pc := 14) (tgt := 44) dX0_isReadyToSeal_14 (by decide) (fun c14 => ?_) (fun c14 => ?_)
    · refine v_iconst (pc := 44) (v := 0) dX0_isReadyToSeal_44 (by decide) ?_
      refine v_zret (pc := 45) hR dX0_isReadyToSeal_45 (by first | rfl | exact b2i_nar) ⟨by decide, by decide⟩ ?_
      first
        | (exact ⟨_, hG, congrArg (fun z => some (Value.int z)) (b2i_f (fun z => c4 (h33.mp z.1))).symm, rfl⟩)
        | (exact ⟨_, hG, congrArg (fun z => some (Value.int z)) (b2i_t ⟨h33.mpr c4, by rw [eN]; exact c14, n_nle.mp c21, by rw [opS, eP]; exact c37, n_nle.mp c29⟩).symm, rfl⟩)
        | (exact ⟨_, hG, congrArg (fun z => some (Value.int z)) (b2i_f (fun z => c37 (by have := z.2.2.2.1; rw [opS, eP] at this; exact absurd c37 this))).symm, rfl⟩)
        | (exact ⟨_, hG, congrArg (fun z => some (Value.int z)) (b2i_f (fun z => by have := z.2.2.2.1; rw [opS, eP] at this; exact absurd c37 this)).symm, rfl⟩)
        | (exact ⟨_, hG, congrArg (fun z => some (Value.int z)) (b2i_f (fun z => absurd c29 (n_nle.mpr z.2.2.2.2))).symm, rfl⟩)
        | (exact ⟨_, hG, congrArg (fun z => some (Value.int z)) (b2i_f (fun z => absurd c21 (n_nle.mpr z.2.2.1))).symm, rfl⟩)
        | (exact ⟨_, hG, congrArg (fun z => some (Value.int z)) (b2i_f (fun z => c14 (by have := z.2.1; rw [eN] at this; exact this))).symm, rfl⟩)
    · refine v_aload_n (pc := 17) dX0_isReadyToSeal_17 rfl rfl ?_
      refine vc_getI (pc := 18) (f := 3) hG dX0_isReadyToSeal_18 fl_X0_39 (Or.inl rfl) (by assumption) rfl (by decide) (ivL_17_3 _ _) ?_
      refine v_if_le (pc := 21) (tgt := 44) dX0_isReadyToSeal_21 (by decide) (fun c21 => ?_) (fun c21 => ?_)
      · refine v_iconst (pc := 44) (v := 0) dX0_isReadyToSeal_44 (by decide) ?_
        refine v_zret (pc := 45) hR dX0_isReadyToSeal_45 (by first | rfl | exact b2i_nar) ⟨by decide, by decide⟩ ?_
        first
          | (exact ⟨_, hG, congrArg (fun z => some (Value.int z)) (b2i_f (fun z => c4 (h33.mp z.1))).symm, rfl⟩)
          | (exact ⟨_, hG, congrArg (fun z => some (Value.int z)) (b2i_t ⟨h33.mpr c4, by rw [eN]; exact c14, n_nle.mp c21, by rw [opS, eP]; exact c37, n_nle.mp c29⟩).symm, rfl⟩)
          | (exact ⟨_, hG, congrArg (fun z => some (Value.int z)) (b2i_f (fun z => c37 (by have := z.2.2.2.1; rw [opS, eP] at this; exact absurd c37 this))).symm, rfl⟩)
          | (exact ⟨_, hG, congrArg (fun z => some (Value.int z)) (b2i_f (fun z => by have := z.2.2.2.1; rw [opS, eP] at this; exact absurd c37 this)).symm, rfl⟩)
          | (exact ⟨_, hG, congrArg (fun z => some (Value.int z)) (b2i_f (fun z => absurd c29 (n_nle.mpr z.2.2.2.2))).symm, rfl⟩)
          | (exact ⟨_, hG, congrArg (fun z => some (Value.int z)) (b2i_f (fun z => absurd c21 (n_nle.mpr z.2.2.1))).symm, rfl⟩)
          | (exact ⟨_, hG, congrArg (fun z => some (Value.int z)) (b2i_f (fun z => c14 (by have := z.2.1; rw [eN] at this; exact this))).symm, rfl⟩)
      · refine v_aload_n (pc := 24) dX0_isReadyToSeal_24 rfl rfl ?_
        refine vc_getI (pc := 25) (f := 9) hG dX0_isReadyToSeal_25 fl_X0_42 (Or.inl rfl) (by assumption) rfl (by decide) (ivL_17_9 _ _) ?_
        refine v_iconst (pc := 28) (v := 3) dX0_isReadyToSeal_28 (by decide) ?_
        refine v_icmp_ge (pc := 29) (tgt := 44) dX0_isReadyToSeal_29 (by decide) (fun c29 => ?_) (fun c29 => ?_)
        · refine v_iconst (pc := 44) (v := 0) dX0_isReadyToSeal_44 (by decide) ?_
          refine v_zret (pc := 45) hR dX0_isReadyToSeal_45 (by first | rfl | exact b2i_nar) ⟨by decide, by decide⟩ ?_
          first
            | (exact ⟨_, hG, congrArg (fun z => some (Value.int z)) (b2i_f (fun z => c4 (h33.mp z.1))).symm, rfl⟩)
            | (exact ⟨_, hG, congrArg (fun z => some (Value.int z)) (b2i_t ⟨h33.mpr c4, by rw [eN]; exact c14, n_nle.mp c21, by rw [opS, eP]; exact c37, n_nle.mp c29⟩).symm, rfl⟩)
            | (exact ⟨_, hG, congrArg (fun z => some (Value.int z)) (b2i_f (fun z => c37 (by have := z.2.2.2.1; rw [opS, eP] at this; exact absurd c37 this))).symm, rfl⟩)
            | (exact ⟨_, hG, congrArg (fun z => some (Value.int z)) (b2i_f (fun z => by have := z.2.2.2.1; rw [opS, eP] at this; exact absurd c37 this)).symm, rfl⟩)
            | (exact ⟨_, hG, congrArg (fun z => some (Value.int z)) (b2i_f (fun z => absurd c29 (n_nle.mpr z.2.2.2.2))).symm, rfl⟩)
            | (exact ⟨_, hG, congrArg (fun z => some (Value.int z)) (b2i_f (fun z => absurd c21 (n_nle.mpr z.2.2.1))).symm, rfl⟩)
            | (exact ⟨_, hG, congrArg (fun z => some (Value.int z)) (b2i_f (fun z => c14 (by have := z.2.1; rw [eN] at this; exact this))).symm, rfl⟩)
        · refine v_aload_n (pc := 32) dX0_isReadyToSeal_32 rfl rfl ?_
          refine vc_callV0 (pc := 33) (0, 0) hG dX0_isReadyToSeal_33 cw_X0_45 im_yX0_roundsToOpen se_yX0_roundsToOpen (c_X0_roundsToOpen D X _ j p (by assumption) ep hp8) (by assumption) rfl rfl (Nat.le_of_ble_eq_true rfl) ⟨Nat.le_of_ble_eq_true rfl, Nat.le_of_ble_eq_true rfl⟩ ⟨by decide, by decide⟩ rfl (fun v s1 G hp hG => ?_)
          obtain ⟨hv1, hs1⟩ := hp
          subst hv1
          subst s1
          refine v_iconst (pc := 36) (v := (-1)) dX0_isReadyToSeal_36 (by decide) ?_
          refine v_icmp_eq (pc := 37) (tgt := 44) dX0_isReadyToSeal_37 (by decide) (fun c37 => ?_) (fun c37 => ?_)
          · refine v_iconst (pc := 44) (v := 0) dX0_isReadyToSeal_44 (by decide) ?_
            refine v_zret (pc := 45) hR dX0_isReadyToSeal_45 (by first | rfl | exact b2i_nar) ⟨by decide, by decide⟩ ?_
            first
              | (exact ⟨_, hG, congrArg (fun z => some (Value.int z)) (b2i_f (fun z => c4 (h33.mp z.1))).symm, rfl⟩)
              | (exact ⟨_, hG, congrArg (fun z => some (Value.int z)) (b2i_t ⟨h33.mpr c4, by rw [eN]; exact c14, n_nle.mp c21, by rw [opS, eP]; exact c37, n_nle.mp c29⟩).symm, rfl⟩)
              | (exact ⟨_, hG, congrArg (fun z => some (Value.int z)) (b2i_f (fun z => c37 (by have := z.2.2.2.1; rw [opS, eP] at this; exact absurd c37 this))).symm, rfl⟩)
              | (exact ⟨_, hG, congrArg (fun z => some (Value.int z)) (b2i_f (fun z => by have := z.2.2.2.1; rw [opS, eP] at this; exact absurd c37 this)).symm, rfl⟩)
              | (exact ⟨_, hG, congrArg (fun z => some (Value.int z)) (b2i_f (fun z => absurd c29 (n_nle.mpr z.2.2.2.2))).symm, rfl⟩)
              | (exact ⟨_, hG, congrArg (fun z => some (Value.int z)) (b2i_f (fun z => absurd c21 (n_nle.mpr z.2.2.1))).symm, rfl⟩)
              | (exact ⟨_, hG, congrArg (fun z => some (Value.int z)) (b2i_f (fun z => c14 (by have := z.2.1; rw [eN] at this; exact this))).symm, rfl⟩)
          · refine v_iconst (pc := 40) (v := 1) dX0_isReadyToSeal_40 (by decide) ?_
            refine v_goto (pc := 41) (tgt := 45) dX0_isReadyToSeal_41 (by decide) ?_
            refine v_zret (pc := 45) hR dX0_isReadyToSeal_45 (by first | rfl | exact b2i_nar) ⟨by decide, by decide⟩ ?_
            first
              | (exact ⟨_, hG, congrArg (fun z => some (Value.int z)) (b2i_f (fun z => c4 (h33.mp z.1))).symm, rfl⟩)
              | (exact ⟨_, hG, congrArg (fun z => some (Value.int z)) (b2i_t ⟨h33.mpr c4, by rw [eN]; exact c14, n_nle.mp c21, by rw [opS, eP]; exact c37, n_nle.mp c29⟩).symm, rfl⟩)
              | (exact ⟨_, hG, congrArg (fun z => some (Value.int z)) (b2i_f (fun z => c37 (by have := z.2.2.2.1; rw [opS, eP] at this; exact absurd c37 this))).symm, rfl⟩)
              | (exact ⟨_, hG, congrArg (fun z => some (Value.int z)) (b2i_f (fun z => by have := z.2.2.2.1; rw [opS, eP] at this; exact absurd c37 this)).symm, rfl⟩)
              | (exact ⟨_, hG, congrArg (fun z => some (Value.int z)) (b2i_f (fun z => absurd c29 (n_nle.mpr z.2.2.2.2))).symm, rfl⟩)
              | (exact ⟨_, hG, congrArg (fun z => some (Value.int z)) (b2i_f (fun z => absurd c21 (n_nle.mpr z.2.2.1))).symm, rfl⟩)
              | (exact ⟨_, hG, congrArg (fun z => some (Value.int z)) (b2i_f (fun z => c14 (by have := z.2.1; rw [eN] at this; exact this))).symm, rfl⟩)
