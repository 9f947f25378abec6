/-- which parts open, of those that are shut (bits of k), among the first i -/
def opN (s : SG) (j k : Nat) : Nat → Nat
  | 0 => 0
  | i + 1 => opN s j k i ||| (if k.testBit i = true ∧ s.1 31 (8 * j + i) &&& nI k = 0 then 2 ^ i else 0)
def nxK (s : SG) (j p k : Nat) : Nat := k &&& (255 - opN s j k p)
/-- rounds, with f turns at most; -1: it jams -/
def rndF (s : SG) (j p : Nat) : Nat → Nat → Int32
  | 0, _ => -1
  | f + 1, k => if k = 0 then 0 else if opN s j k p = 0 then -1 else if rndF s j p f (nxK s j p k) = -1 then -1 else rndF s j p f (nxK s j p k) + 1
def rndS (s : SG) (j p : Nat) : Int32 := rndF s j p 256 (2 ^ p - 1)
theorem opN_in (s : SG) (j : Nat) {k : Nat} (hk : k < 256) : ∀ i, i ≤ 8 → opN s j k i < 256 ∧ opN s j k i &&& k = opN s j k i := by
  intro i
  induction i with
  | zero => intro _; exact ⟨(show 0 < 256 by decide), by simp [opN]⟩
  | succ i ih =>
    intro hi
    obtain ⟨h1, h2⟩ := ih (by omega)
    simp only [opN]
    have hp : 2 ^ i < 256 := Nat.pow_lt_pow_right (by decide) (show i < 8 by omega)
    split
    · next h =>
      refine ⟨Nat.or_lt_two_pow (n := 8) h1 hp, ?_⟩
      rw [Nat.and_or_distrib_right, h2, bt_p2 k hk i (by omega) h.1]
    · rw [Nat.or_zero]
      exact ⟨h1, h2⟩
theorem opN_thr (s : SG) (x : Int32) (j k : Nat) : ∀ i, opN (thr s x) j k i = opN s j k i := by
  intro i
  induction i with
  | zero => rfl
  | succ i ih => rw [opN, opN, ih]; rfl
theorem rndF_thr (s : SG) (x : Int32) (j p : Nat) : ∀ f k, rndF (thr s x) j p f k = rndF s j p f k := by
  intro f
  induction f with
  | zero => intro k; rfl
  | succ f ih =>
    intro k
    simp only [rndF, nxK, opN_thr, ih]
    rfl
set_option maxRecDepth 100000 in
set_option maxHeartbeats 4000000 in
theorem l_X9_rounds1 {D : DT} {K : KT} {m : Nat} {ad : AdT} {s : SG} (j p k a : Nat) {w4 : Int32} (hj : j < 6) (hk : k < 256) (hp : s.1 30 j = nI p) (hp8 : p ≤ 8) (kk : ∀ (G : GT), MD m ad s G → V cX9_rounds yX9_rounds.cls 8 rm_X9_rounds D K 100 [some (.ref m), some (.int (nI j)), some (.int (nI k)), some (.int (nI a)), some (.int w4), some (.int (nI (opN s j k p))), some (.int (nI p)), none] [] G (0, 0)) : ∀ (d i : Nat)  (G : GT), i + d = p → MD m ad s G → V cX9_rounds yX9_rounds.cls 8 rm_X9_rounds D K 31 [some (.ref m), some (.int (nI j)), some (.int (nI k)), some (.int (nI a)), some (.int w4), some (.int (nI (opN s j k i))), some (.int (nI i)), none] [] G (0, 0) := by
  intro d
  induction d with
  | zero =>
    intro i  G he0 hG
    refine v_iload (pc := 31) dX9_rounds_31 rfl ?_
    refine v_aload_n (pc := 33) dX9_rounds_33 rfl rfl ?_
    refine vm_getA (pc := 34) (k := 30) hG dX9_rounds_34 fl_X9_72 (by decide) ?_
    refine v_iload_n (pc := 37) dX9_rounds_37 rfl rfl ?_
    refine vm_iald (pc := 38) (k := 30) (j := j) hG dX9_rounds_38 rfl rfl (by have h0 : ml 30 = 6 := rfl; omega) (x := nI p) hp ?_
    refine v_icmp_ge (pc := 39) (tgt := 100) dX9_rounds_39 (by decide) (fun c39 => ?_) (fun c39 => absurd c39 (not_not_intro (by rw [show i = p by omega]; exact Int32.le_refl _)))
    have e : i = p := by omega
    subst e
    exact kk G hG
  | succ d ih =>
    intro i  G he0 hG
    refine v_iload (pc := 31) dX9_rounds_31 rfl ?_
    refine v_aload_n (pc := 33) dX9_rounds_33 rfl rfl ?_
    refine vm_getA (pc := 34) (k := 30) hG dX9_rounds_34 fl_X9_72 (by decide) ?_
    refine v_iload_n (pc := 37) dX9_rounds_37 rfl rfl ?_
    refine vm_iald (pc := 38) (k := 30) (j := j) hG dX9_rounds_38 rfl rfl (by have h0 : ml 30 = 6 := rfl; omega) (x := nI p) hp ?_
    refine v_icmp_ge (pc := 39) (tgt := 100) dX9_rounds_39 (by decide) (fun c39 => absurd c39 (nI_ge (by omega) (by omega))) (fun c39 => ?_)
    refine v_iload_n (pc := 42) dX9_rounds_42 rfl rfl ?_
    refine v_iload (pc := 43) dX9_rounds_43 rfl ?_
    refine v_ishr (pc := 45) dX9_rounds_45 ?_
    refine v_iconst (pc := 46) (v := 1) dX9_rounds_46 (by decide) ?_
    refine v_iand (pc := 47) dX9_rounds_47 ?_
    refine v_iconst (pc := 48) (v := 1) dX9_rounds_48 (by decide) ?_
    refine v_icmp_ne (pc := 49) (tgt := 73) dX9_rounds_49 (by decide) (fun c49 => ?_) (fun c49 => ?_)
    · have e9 : opN s j k (i + 1) = opN s j k i ||| 0 := by rw [opN, if_neg (fun z => c49 ((bt_ts k hk i (by omega)).mpr z.1))]
      refine v_iconst (pc := 73) (v := 0) dX9_rounds_73 (by decide) ?_
      refine v_istore (pc := 74) dX9_rounds_74 rfl (by decide) ?_
      refine v_iload (pc := 76) dX9_rounds_76 rfl ?_
      refine v_iload (pc := 78) dX9_rounds_78 rfl ?_
      refine v_if_eq (pc := 80) (tgt := 90) dX9_rounds_80 (by decide) (fun c80 => ?_) (fun c80 => absurd c80 (by decide))
      refine v_iconst (pc := 90) (v := 0) dX9_rounds_90 (by decide) ?_
      refine v_ior (pc := 91) dX9_rounds_91 ?_
      refine v_istore (pc := 92) dX9_rounds_92 rfl (by decide) ?_
      refine v_iinc (pc := 94) dX9_rounds_94 rfl (nI_1 i) rfl (by decide) ?_
      refine v_goto (pc := 97) (tgt := 31) dX9_rounds_97 (by decide) ?_
      refine v_forget 7 ?_
      have hb := (opN_in s j hk i (by omega)).1
      have e8 := ih (i + 1) G (by omega) hG
      rw [e9, ← bt_or _ hb _ (by first | decide | exact Nat.pow_lt_pow_right (by decide) (show i < 8 by omega))] at e8
      first
        | exact e8
        | (rw [← bt_sh i (by omega)] at e8; exact e8)
    · refine v_aload_n (pc := 52) dX9_rounds_52 rfl rfl ?_
      refine vm_getA (pc := 53) (k := 31) hG dX9_rounds_53 fl_X9_75 (by decide) ?_
      refine v_bipush (pc := 56) (v := 8) dX9_rounds_56 (by decide) ?_
      refine v_iload_n (pc := 58) dX9_rounds_58 rfl rfl ?_
      refine v_imul (pc := 59) dX9_rounds_59 ?_
      refine v_iload (pc := 60) dX9_rounds_60 rfl ?_
      refine v_iadd (pc := 62) dX9_rounds_62 ?_
      refine vm_iald (pc := 63) (k := 31) (j := 8 * j + i) hG dX9_rounds_63 rfl (by rw [show (8 : Int32) = nI 8 from rfl, n_mul, nI_add]) (by have h0 : ml 31 = 48 := rfl; omega) rfl ?_
      refine v_iload_n (pc := 64) dX9_rounds_64 rfl rfl ?_
      refine v_iand (pc := 65) dX9_rounds_65 ?_
      refine v_if_ne (pc := 66) (tgt := 73) dX9_rounds_66 (by decide) (fun c66 => ?_) (fun c66 => ?_)
      · have e9 : opN s j k (i + 1) = opN s j k i ||| 0 := by rw [opN, if_neg (fun z => c66 z.2)]
        refine v_iconst (pc := 73) (v := 0) dX9_rounds_73 (by decide) ?_
        refine v_istore (pc := 74) dX9_rounds_74 rfl (by decide) ?_
        refine v_iload (pc := 76) dX9_rounds_76 rfl ?_
        refine v_iload (pc := 78) dX9_rounds_78 rfl ?_
        refine v_if_eq (pc := 80) (tgt := 90) dX9_rounds_80 (by decide) (fun c80 => ?_) (fun c80 => absurd c80 (by decide))
        refine v_iconst (pc := 90) (v := 0) dX9_rounds_90 (by decide) ?_
        refine v_ior (pc := 91) dX9_rounds_91 ?_
        refine v_istore (pc := 92) dX9_rounds_92 rfl (by decide) ?_
        refine v_iinc (pc := 94) dX9_rounds_94 rfl (nI_1 i) rfl (by decide) ?_
        refine v_goto (pc := 97) (tgt := 31) dX9_rounds_97 (by decide) ?_
        refine v_forget 7 ?_
        have hb := (opN_in s j hk i (by omega)).1
        have e8 := ih (i + 1) G (by omega) hG
        rw [e9, ← bt_or _ hb _ (by first | decide | exact Nat.pow_lt_pow_right (by decide) (show i < 8 by omega))] at e8
        first
          | exact e8
          | (rw [← bt_sh i (by omega)] at e8; exact e8)
      · have e9 : opN s j k (i + 1) = opN s j k i ||| 2 ^ i := by rw [opN, if_pos ⟨(bt_ts k hk i (by omega)).mp c49, c66⟩]
        refine v_iconst (pc := 69) (v := 1) dX9_rounds_69 (by decide) ?_
        refine v_goto (pc := 70) (tgt := 74) dX9_rounds_70 (by decide) ?_
        refine v_istore (pc := 74) dX9_rounds_74 rfl (by decide) ?_
        refine v_iload (pc := 76) dX9_rounds_76 rfl ?_
        refine v_iload (pc := 78) dX9_rounds_78 rfl ?_
        refine v_if_eq (pc := 80) (tgt := 90) dX9_rounds_80 (by decide) (fun c80 => absurd c80 (by decide)) (fun c80 => ?_)
        refine v_iconst (pc := 83) (v := 1) dX9_rounds_83 (by decide) ?_
        refine v_iload (pc := 84) dX9_rounds_84 rfl ?_
        refine v_ishl (pc := 86) dX9_rounds_86 ?_
        refine v_goto (pc := 87) (tgt := 91) dX9_rounds_87 (by decide) ?_
        refine v_ior (pc := 91) dX9_rounds_91 ?_
        refine v_istore (pc := 92) dX9_rounds_92 rfl (by decide) ?_
        refine v_iinc (pc := 94) dX9_rounds_94 rfl (nI_1 i) rfl (by decide) ?_
        refine v_goto (pc := 97) (tgt := 31) dX9_rounds_97 (by decide) ?_
        refine v_forget 7 ?_
        have hb := (opN_in s j hk i (by omega)).1
        have e8 := ih (i + 1) G (by omega) hG
        rw [e9, ← bt_or _ hb _ (by first | decide | exact Nat.pow_lt_pow_right (by decide) (show i < 8 by omega))] at e8
        first
          | exact e8
          | (rw [← bt_sh i (by omega)] at e8; exact e8)
theorem rnd_done (s : SG) (j p f a : Nat) : (if rndF s j p (f + 1) 0 = -1 then (-1 : Int32) else nI a + rndF s j p (f + 1) 0) = nI a := by
  simp [rndF]
theorem rnd_jam {s : SG} {j p f k : Nat} (a : Nat) (hk : ¬ k = 0) (h : opN s j k p = 0) : (if rndF s j p (f + 1) k = -1 then (-1 : Int32) else nI a + rndF s j p (f + 1) k) = -1 := by
  simp [rndF, hk, h]
theorem rnd_go {s : SG} {j p f k : Nat} (a : Nat) (hk : ¬ k = 0) (h : ¬ opN s j k p = 0) (hn : ¬ rndF s j p f (nxK s j p k) + 1 = -1) : (if rndF s j p (f + 1) k = -1 then (-1 : Int32) else nI a + rndF s j p (f + 1) k) = (if rndF s j p f (nxK s j p k) = -1 then (-1 : Int32) else nI (a + 1) + rndF s j p f (nxK s j p k)) := by
  by_cases h1 : rndF s j p f (nxK s j p k) = -1
  · simp [rndF, hk, h, h1]
  · rw [if_neg h1, rndF, if_neg hk, if_neg h, if_neg h1, if_neg hn, ← nI_1, Int32.add_assoc, Int32.add_comm 1]
theorem rndF_nn (s : SG) (j p : Nat) : ∀ f k, f ≤ 300 → rndF s j p f k = -1 ∨ ∃ r, r ≤ f ∧ rndF s j p f k = nI r := by
  intro f
  induction f with
  | zero => intro k _; exact Or.inl rfl
  | succ f ih =>
    intro k hf
    simp only [rndF]
    split
    · exact Or.inr ⟨0, by omega, rfl⟩
    · split
      · exact Or.inl rfl
      · split
        · exact Or.inl rfl
        · next h =>
          rcases ih (nxK s j p k) (by omega) with e | ⟨r, hr, e⟩
          · exact absurd e h
          · exact Or.inr ⟨r + 1, by omega, by rw [e, nI_1]⟩
theorem rndF_n1 (s : SG) (j p f k : Nat) (hf : f ≤ 300) : ¬ rndF s j p f k + 1 = -1 := by
  rcases rndF_nn s j p f k hf with e | ⟨r, hr, e⟩
  · rw [e]; decide
  · rw [e, nI_1]
    intro z
    have : (nI (r + 1)).toInt = -1 := by rw [z]; rfl
    rw [nI_toInt (by omega)] at this
    omega
set_option maxRecDepth 100000 in
set_option maxHeartbeats 4000000 in
theorem l_X9_rounds2 {D : DT} {K : KT} {m : Nat} {ad : AdT} {s : SG} (j p : Nat) (R9 : Int32) (hj : j < 6) (hp : s.1 30 j = nI p) (hp8 : p ≤ 8) (kk : ∀ (k9 a9 : Nat) (w4 w5 w6 : Option Value) (G : GT), k9 < 256 → (if k9 = 0 then nI a9 else -1) = R9 → MD m ad s G → V cX9_rounds yX9_rounds.cls 8 rm_X9_rounds D K 125 [some (.ref m), some (.int (nI j)), some (.int (nI k9)), some (.int (nI a9)), w4, w5, w6, none] [] G (0, 0)) : ∀ (d i k : Nat) (w5 w6 : Option Value) (G : GT), k < 256 → k < d → d ≤ 300 → R9 = (if rndF s j p d k = -1 then -1 else nI i + rndF s j p d k) → MD m ad s G → V cX9_rounds yX9_rounds.cls 8 rm_X9_rounds D K 16 [some (.ref m), some (.int (nI j)), some (.int (nI k)), some (.int (nI i)), some (.int 1), w5, w6, none] [] G (0, 0) := by
  intro d
  induction d with
  | zero =>
    intro i k w5 w6 G he0 he1 he2 he3 hG
    exact absurd he1 (by omega)
  | succ d ih =>
    intro i k w5 w6 G hk he1 he4 he2 hG
    refine v_iload (pc := 16) dX9_rounds_16 rfl ?_
    refine v_if_eq (pc := 18) (tgt := 125) dX9_rounds_18 (by decide) (fun c18 => absurd c18 (by decide)) (fun c18 => ?_)
    refine v_iload_n (pc := 21) dX9_rounds_21 rfl rfl ?_
    refine v_if_eq (pc := 22) (tgt := 125) dX9_rounds_22 (by decide) (fun c22 => ?_) (fun c22 => ?_)
    · have c21n : k = 0 := nI_inj (by omega) (by decide) (c22.trans rfl)
      subst c21n
      exact kk 0 i _ _ _ G (by decide) (by rw [he2]; exact (rnd_done s j p d i).symm) hG
    · have c21n : ¬ k = 0 := fun e => c22 (by rw [e]; rfl)
      refine v_iconst (pc := 25) (v := 0) dX9_rounds_25 (by decide) ?_
      refine v_istore (pc := 26) dX9_rounds_26 rfl (by decide) ?_
      refine v_iconst (pc := 28) (v := 0) dX9_rounds_28 (by decide) ?_
      refine v_istore (pc := 29) dX9_rounds_29 rfl (by decide) ?_
      refine l_X9_rounds1 (s := s) j p k i hj hk hp hp8 (fun G hG => ?_) p 0 G (by omega) hG
      obtain ⟨ho, hs⟩ := opN_in s j hk p hp8
      refine v_iload_n (pc := 100) dX9_rounds_100 rfl rfl ?_
      refine v_iload (pc := 101) dX9_rounds_101 rfl ?_
      refine v_iconst (pc := 103) (v := (-1)) dX9_rounds_103 (by decide) ?_
      refine v_ixor (pc := 104) dX9_rounds_104 ?_
      refine v_iand (pc := 105) dX9_rounds_105 ?_
      refine v_istore_n (pc := 106) dX9_rounds_106 rfl rfl (by decide) ?_
      refine v_iload (pc := 107) dX9_rounds_107 rfl ?_
      refine v_if_eq (pc := 109) (tgt := 116) dX9_rounds_109 (by decide) (fun c109 => ?_) (fun c109 => ?_)
      · have hop : opN s j k p = 0 := nI_inj (by omega) (by decide) (c109.trans rfl)
        have hnx : nI k &&& (nI (opN s j k p) ^^^ -1) = nI k := by rw [bt_an k hk _ ho, hop]; exact congrArg nI (bt_255 k hk)
        refine v_iconst (pc := 116) (v := 0) dX9_rounds_116 (by decide) ?_
        refine v_istore (pc := 117) dX9_rounds_117 rfl (by decide) ?_
        refine v_iinc (pc := 119) dX9_rounds_119 rfl (nI_1 i) rfl (by decide) ?_
        refine v_goto (pc := 122) (tgt := 16) dX9_rounds_122 (by decide) ?_
        refine v_iload (pc := 16) dX9_rounds_16 rfl ?_
        refine v_if_eq (pc := 18) (tgt := 125) dX9_rounds_18 (by decide) (fun c18 => ?_) (fun c18 => absurd c18 (by decide))
        rw [hnx]
        exact kk k (i + 1) _ _ _ G hk (by rw [if_neg c21n, he2, rnd_jam i c21n hop]) hG
      · have hop : ¬ opN s j k p = 0 := fun e => c109 (by rw [e]; rfl)
        have hlt : nxK s j p k < k := bt_lt k hk _ ho hop hs
        have hnx : nI k &&& (nI (opN s j k p) ^^^ -1) = nI (nxK s j p k) := bt_an k hk _ ho
        refine v_iconst (pc := 112) (v := 1) dX9_rounds_112 (by decide) ?_
        refine v_goto (pc := 113) (tgt := 117) dX9_rounds_113 (by decide) ?_
        refine v_istore (pc := 117) dX9_rounds_117 rfl (by decide) ?_
        refine v_iinc (pc := 119) dX9_rounds_119 rfl (nI_1 i) rfl (by decide) ?_
        refine v_goto (pc := 122) (tgt := 16) dX9_rounds_122 (by decide) ?_
        rw [hnx]
        exact ih (i + 1) (nxK s j p k) _ _ G (by omega) (by omega) (by omega) (he2.trans (rnd_go i c21n hop (rndF_n1 s j p d _ (by omega)))) hG
set_option maxRecDepth 100000 in
set_option maxHeartbeats 4000000 in
theorem c_X9_rounds (D : DT) (m : Nat) (ad : AdT) (s : SG) (j p : Nat)  (hj : j < 6) (hp : s.1 30 j = nI p) (hp8 : p ≤ 8) : MM yX9_rounds cX9_rounds 8 (Option.some Jvm.ClassFile.FieldType.int) rm_X9_rounds D [.ref m, .int (nI j)] m ad s (fun v s' => v = some (.int (rndS s j p)) ∧ s' = s) := by
  intro G hG
  refine MC_of (by decide +kernel) (Nat.le_of_ble_eq_true rfl) (fun K sz hR => ?_)
  show V cX9_rounds _ 8 _ D K 0 [some (.ref m), some (.int (nI j)), none, none, none, none, none, none] [] G (0, 0)
  refine v_iconst (pc := 0) (v := 1) dX9_rounds_0 (by decide) ?_
  refine v_aload_n (pc := 1) dX9_rounds_1 rfl rfl ?_
  refine vm_getA (pc := 2) (k := 30) hG dX9_rounds_2 fl_X9_72 (by decide) ?_
  refine v_iload_n (pc := 5) dX9_rounds_5 rfl rfl ?_
  refine vm_iald (pc := 6) (k := 30) (j := j) hG dX9_rounds_6 rfl rfl (by have h0 : ml 30 = 6 := rfl; omega) (x := nI p) hp ?_
  refine v_ishl (pc := 7) dX9_rounds_7 ?_
  refine v_iconst (pc := 8) (v := 1) dX9_rounds_8 (by decide) ?_
  refine v_isub (pc := 9) dX9_rounds_9 ?_
  refine v_istore_n (pc := 10) dX9_rounds_10 rfl rfl (by decide) ?_
  refine v_iconst (pc := 11) (v := 0) dX9_rounds_11 (by decide) ?_
  refine v_istore_n (pc := 12) dX9_rounds_12 rfl rfl (by decide) ?_
  refine v_iconst (pc := 13) (v := 1) dX9_rounds_13 (by decide) ?_
  refine v_istore (pc := 14) dX9_rounds_14 rfl (by decide) ?_
  rw [(bt_in p hp8).1]
  refine l_X9_rounds2 (s := s) j p (rndS s j p) hj hp hp8 (fun k9 a9 w4 w5 w6 G hk9 hr hG => ?_) 256 0 (2 ^ p - 1) _ _ G (bt_in p hp8).2 (bt_in p hp8).2 (by decide) ?_ hG
  · refine v_iload_n (pc := 125) dX9_rounds_125 rfl rfl ?_
    refine v_if_ne (pc := 126) (tgt := 133) dX9_rounds_126 (by decide) (fun c126 => ?_) (fun c126 => ?_)
    · have hz : ¬ k9 = 0 := fun e => c126 (by rw [e]; rfl)
      refine v_iconst (pc := 133) (v := (-1)) dX9_rounds_133 (by decide) ?_
      refine v_iret (pc := 134) hR dX9_rounds_134 ⟨by decide, by decide⟩ ?_
      exact ⟨_, hG, by rw [← hr]; simp [hz], rfl⟩
    · have hz : k9 = 0 := nI_inj (by omega) (by decide) (c126.trans rfl)
      refine v_iload_n (pc := 129) dX9_rounds_129 rfl rfl ?_
      refine v_goto (pc := 130) (tgt := 134) dX9_rounds_130 (by decide) ?_
      refine v_iret (pc := 134) hR dX9_rounds_134 ⟨by decide, by decide⟩ ?_
      exact ⟨_, hG, by rw [← hr]; simp [hz], rfl⟩
  · rw [rndS]
    rcases rndF_nn s j p 256 (2 ^ p - 1) (by decide) with e | ⟨r, hr, e⟩
    · simp [e]
    · have hr2 : ¬ nI r = -1 := (fun z => by have := nI_toInt (n := r) (by omega); rw [z] at this; exact absurd this (by show ¬ (-1 : Int) = _; omega))
      rw [e, if_neg hr2, nI_add, Nat.zero_add]
def kOp (c : Nat) (p0 : Int32) : Int32 := if btw p0 0 (nI c - 1) then 0 else 1
def opS (s : SG) (j : Nat) : Int32 := rndS s j (nat (s.1 30 j))
set_option maxRecDepth 100000 in
set_option maxHeartbeats 4000000 in
theorem c_X9_opens (D : DT) (m : Nat) (ad : AdT) (s : SG) (c : Nat) (p0 : Int32) (h : CV s c) (hc : s.1 28 0 = nI c) (hc2 : c ≤ 6) : MM yX9_opens cX9_opens 2 (Option.some Jvm.ClassFile.FieldType.int) rm_X9_opens D [.ref m, .int p0] m ad s (fun v s' => v = some (.int (if kOp c p0 = 0 then opS s (nat p0) else 0)) ∧ s' = thr s (kOp c p0)) := by
  intro G hG
  refine MC_of (by decide +kernel) (Nat.le_of_ble_eq_true rfl) (fun K sz hR => ?_)
  show V cX9_opens _ 2 _ D K 0 [some (.ref m), some (.int p0)] [] G (0, 0)
  refine v_aload_n (pc := 0) dX9_opens_0 rfl rfl ?_
  refine v_aload_n (pc := 1) dX9_opens_1 rfl rfl ?_
  refine v_iload_n (pc := 2) dX9_opens_2 rfl rfl ?_
  refine vm_callV1 (pc := 3) (0, 0) hG dX9_opens_3 cw_X9_210 im_yX9_isCanopy se_yX9_isCanopy (c_X9_isCanopy D m ad _ _ ) rfl (Nat.le_of_ble_eq_true rfl) ⟨Nat.le_of_ble_eq_true rfl, Nat.le_of_ble_eq_true rfl⟩ ⟨by decide, by decide⟩ rfl (fun v s1 G hp hG => ?_)
  obtain ⟨hv1, hs1⟩ := hp
  subst hv1
  subst s1
  refine v_if_eq (pc := 6) (tgt := 13) dX9_opens_6 (by decide) (fun c6 => ?_) (fun c6 => ?_)
  · rw [b2i_0] at c6
    rw [hc] at c6
    have hk : kOp c p0 = 1 := by rw [kOp, if_neg c6]
    refine v_iconst (pc := 13) (v := 1) dX9_opens_13 (by decide) ?_
    refine vm_callV1 (pc := 14) (0, 0) hG dX9_opens_14 cw_X9_111 im_yX9_goes se_yX9_goes (c_X9_goes D m ad _ _ ) rfl (Nat.le_of_ble_eq_true rfl) ⟨Nat.le_of_ble_eq_true rfl, Nat.le_of_ble_eq_true rfl⟩ ⟨by decide, by decide⟩ rfl (fun v s1 G hp hG => ?_)
    obtain ⟨hv1, hs1⟩ := hp
    subst hv1
    subst s1
    refine v_if_eq (pc := 17) (tgt := 28) dX9_opens_17 (by decide) (fun c17 => ?_) (fun c17 => absurd c17 (by decide))
    refine v_iconst (pc := 28) (v := 0) dX9_opens_28 (by decide) ?_
    refine v_iret (pc := 29) hR dX9_opens_29 ⟨by decide, by decide⟩ ?_
    first | exact ⟨_, hG, by rw [if_pos hk, en, opS, ep2, rndS, rndS, rndF_thr], by rw [hk]⟩ | exact ⟨_, hG, by simp [hk], by rw [hk]⟩
  · rw [b2i_0, Decidable.not_not] at c6
    rw [hc] at c6
    have hk : kOp c p0 = 0 := by rw [kOp, if_pos c6]
    obtain ⟨j, hj, rfl⟩ := (btw_ix (a := c) (by omega)).mp c6
    have en : nat (nI j) = j := nat_nI (by omega)
    obtain ⟨p, l, hp8, ep, -, -⟩ := h j hj
    have ep2 : nat (s.1 30 j) = p := by rw [ep]; exact nat_nI (by omega)
    refine v_iconst (pc := 9) (v := 0) dX9_opens_9 (by decide) ?_
    refine v_goto (pc := 10) (tgt := 14) dX9_opens_10 (by decide) ?_
    refine vm_callV1 (pc := 14) (0, 0) hG dX9_opens_14 cw_X9_111 im_yX9_goes se_yX9_goes (c_X9_goes D m ad _ _ ) rfl (Nat.le_of_ble_eq_true rfl) ⟨Nat.le_of_ble_eq_true rfl, Nat.le_of_ble_eq_true rfl⟩ ⟨by decide, by decide⟩ rfl (fun v s1 G hp hG => ?_)
    obtain ⟨hv1, hs1⟩ := hp
    subst hv1
    subst s1
    refine v_if_eq (pc := 17) (tgt := 28) dX9_opens_17 (by decide) (fun c17 => absurd c17 (by decide)) (fun c17 => ?_)
    refine v_aload_n (pc := 20) dX9_opens_20 rfl rfl ?_
    refine v_iload_n (pc := 21) dX9_opens_21 rfl rfl ?_
    refine vm_callV1 (pc := 22) (0, 0) hG dX9_opens_22 cw_X9_216 im_yX9_rounds se_yX9_rounds (c_X9_rounds D m ad _ j p (by omega) ep hp8) rfl (Nat.le_of_ble_eq_true rfl) ⟨Nat.le_of_ble_eq_true rfl, Nat.le_of_ble_eq_true rfl⟩ ⟨by decide, by decide⟩ rfl (fun v s1 G hp hG => ?_)
    obtain ⟨hv1, hs1⟩ := hp
    subst hv1
    subst s1
    refine v_goto (pc := 25) (tgt := 29) dX9_opens_25 (by decide) ?_
    refine v_iret (pc := 29) hR dX9_opens_29 ⟨by decide, by decide⟩ ?_
    first | exact ⟨_, hG, by rw [if_pos hk, en, opS, ep2, rndS, rndS, rndF_thr], by rw [hk]⟩ | exact ⟨_, hG, by simp [hk], by rw [hk]⟩
