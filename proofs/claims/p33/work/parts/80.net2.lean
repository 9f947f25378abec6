/-- behind a method of a turn: what holds, and lots stay -/
def LPq (X : XT) (M : MT) (t : Nat) : Option Value → GT → Prop := fun v G' => v = some (.int 1) ∧ ∃ X' s' M', X'.1 0 0 = X.1 0 0 ∧ M'.1 = M.1 ∧ WD X' s' M' G' ∧ LI X' s' M' t ∧ (¬ M.2.1 0 = 0 → ¬ M'.2.1 0 = 0)
abbrev rm_isNet : Room := { frames := 10, cells := 2 * 150, slots := 18 * 150, locals := 300 }
theorem kHt_n {k : Nat} (h : k < 36) : kHt (nI k) = 0 := by unfold kHt; exact if_pos ((btw_lit (M := 35) (N := 35) rfl).mpr ⟨k, by omega, rfl⟩)
theorem LI.knot {X : XT} {s : SG} {M : MT} {t : Nat} (h : LI X s M t) {X1 : XT} (x1 : X1.2.1 = X.2.1) (x2 : X1.2.2.1 = X.2.2.1) {k : Nat} {p b : Int32} (hp : -10000 ≤ p.toInt ∧ p.toInt ≤ 10000) : LI X1 (gKnot s k p b) M (t + 1) := by
  refine h.net (NR.knot s k p b) x1 x2 ⟨fun q hq => ?_, ?_⟩
  · have h1 := h.2.1.1 q hq
    have e : (gKnot s k p b).1 15 q = if q = k then p else s.1 15 q := by
      show (sI (sI s 15 k p) 17 k b).1 15 q = _
      rw [sI_r _ _ _ (by decide), sI_if]
    rw [e]
    split
    · omega
    · omega
  · have e : (gKnot s k p b).1 18 = s.1 18 := by
      show u2 (u2 s.1 15 k p) 17 k b 18 = _
      rw [u2_rown _ _ _ (by decide), u2_rown _ _ _ (by decide)]
    rw [e]; exact h.2.1.2
theorem knot_at (s : SG) (k : Nat) (p b : Int32) : (gKnot s k p b).1 15 k = p := by
  show u2 (u2 s.1 15 k p) 17 k b 15 k = _
  rw [u2_rown _ _ _ (by decide), u2_s]
theorem LI.load {X : XT} {s : SG} {M : MT} {t : Nat} (h : LI X s M t) {X1 : XT} (x1 : X1.2.1 = X.2.1) (x2 : X1.2.2.1 = X.2.2.1) {s1 : SG} (hN : NR s s1) (h15 : s1.1 15 = s.1 15) (h18 : btw (s1.1 18 0) 0 100) : LI X1 s1 M (t + 1) := by
  refine h.net hN x1 x2 ⟨fun q hq => ?_, h18⟩
  have h1 := h.2.1.1 q hq
  rw [h15]
  omega
theorem w_ge0 {x : Int32} (h : 0 ≤ x) : (0 : Int64) ≤ x.toInt64 := by
  rw [Int64.le_iff_toInt_le, Int32.toInt_toInt64]
  rw [Int32.le_iff_toInt_le] at h
  exact h
theorem w_le {x y : Int32} (h : x ≤ y) : x.toInt64 ≤ y.toInt64 := by
  rw [Int64.le_iff_toInt_le, Int32.toInt_toInt64, Int32.toInt_toInt64]
  rw [Int32.le_iff_toInt_le] at h
  exact h
theorem l2i_n (x : Int32) : x.toInt64.toInt32 = x := by
  apply Int32.toInt_inj.mp
  simp
theorem hv_b (j : Nat) (h : j < 401) : -10000 ≤ (nI j - 200).toInt ∧ (nI j - 200).toInt ≤ 10000 := by
  have e : (nI j - 200).toInt = (j : Int) - 200 := by
    rw [Int32.toInt_sub, nI_toInt (by omega)]
    show Int.bmod ((j : Int) - 200) _ = _
    exact Int.bmod_eq_of_le (by omega) (by omega)
  omega
theorem kRest_n {j : Nat} (h : 1 ≤ j ∧ j ≤ 50) : kRest (nI j) = 0 := by
  unfold kRest
  refine if_pos ⟨?_, ?_⟩
  · exact (nI_leI (a := 1) (by decide) (by omega)).mpr h.1
  · exact (nI_leI (b := 50) (by omega) (by decide)).mpr h.2
set_option maxRecDepth 100000 in
set_option maxHeartbeats 400000 in
theorem l_net1 {D : DT} {K : KT} {X : XT} {s : SG} {M : MT} {q how xx : Nat} (hI : INV X s q) (hq : q < 512) (kk : ∀ (hv : Int32) (G : GT), (∀ k, k < 36 → s.1 15 k ≤ hv) → WD X s M G → V cL_isNet yL_isNet.cls 8 rm_isNet D K 178 [some (.ref (X.1 0 0)), some (.int (nI how)), some (.int (nI xx)), some (.int hv), some (.int (nI 36)), none, none, none] [] G (nu 72)) : ∀ (d i : Nat) (hv : Int32) (G : GT), i + d = 36 → (∀ k, k < i → s.1 15 k ≤ hv) → WD X s M G → V cL_isNet yL_isNet.cls 8 rm_isNet D K 144 [some (.ref (X.1 0 0)), some (.int (nI how)), some (.int (nI xx)), some (.int hv), some (.int (nI i)), none, none, none] [] G (nu (2 * i)) := by
  intro d
  induction d with
  | zero =>
    intro i hv G he hh hW
    obtain rfl : i = 36 := by omega
    refine v_iload (pc := 144) dL_isNet_144 rfl ?_
    refine v_bipush (pc := 146) (v := 36) dL_isNet_146 (by decide) ?_
    refine v_icmp_ge (pc := 148) (tgt := 178) dL_isNet_148 (by decide) (fun c148 => ?_) (fun c148 => absurd c148 (by decide))
    exact kk hv G hh hW
  | succ d ih =>
    intro i hv G he hh hW
    have hi : i < 36 := by omega
    refine v_iload (pc := 144) dL_isNet_144 rfl ?_
    refine v_bipush (pc := 146) (v := 36) dL_isNet_146 (by decide) ?_
    refine v_icmp_ge (pc := 148) (tgt := 178) dL_isNet_148 (by decide) (fun c148 => absurd c148 (nI_ge (by omega) (by decide))) (fun c148 => ?_)
    refine v_aload_n (pc := 151) dL_isNet_151 rfl rfl ?_
    refine v_iload (pc := 152) dL_isNet_152 rfl ?_
    refine vqV (pc := 154) (u := 2 * i) (j := 1) (U := 150) (As := [.int _]) hW dL_isNet_154 cw_L_54 im_yX8_height se_yX8_height rfl (q_height _ hW hI hq (kHt_n hi)) rfl rfl (Nat.le_of_ble_eq_true rfl) ⟨Nat.le_of_ble_eq_true rfl, Nat.le_of_ble_eq_true rfl⟩ ⟨by decide, by decide⟩ ⟨rfl, rfl⟩ (by omega) (fun v G hp => ?_)
    obtain ⟨rfl, hW⟩ := hp
    rw [nat_nI (show i < 2147483648 by omega)]
    refine v_iload_n (pc := 157) dL_isNet_157 rfl rfl ?_
    refine v_icmp_le (pc := 158) (tgt := 170) dL_isNet_158 (by decide) (fun c158 => ?_) (fun c158 => ?_)
    · refine v_iload_n (pc := 170) dL_isNet_170 rfl rfl ?_
      refine v_istore_n (pc := 171) dL_isNet_171 rfl rfl (by decide) ?_
      refine v_iinc (pc := 172) dL_isNet_172 rfl (nI_1 _) rfl (by decide) ?_
      refine v_goto (pc := 175) (tgt := 144) dL_isNet_175 (by decide) ?_
      refine vq_u (u' := 2 * (i + 1)) (by omega) ?_
      exact ih (i + 1) _ G (by omega) (fun k hk => by
        by_cases z : k = i
        · subst z; exact c158
        · exact hh k (by omega)) hW
    · refine v_aload_n (pc := 161) dL_isNet_161 rfl rfl ?_
      refine v_iload (pc := 162) dL_isNet_162 rfl ?_
      refine vqV (pc := 164) (u := 2 * i + 1) (j := 1) (U := 150) (As := [.int _]) hW dL_isNet_164 cw_L_54 im_yX8_height se_yX8_height rfl (q_height _ hW hI hq (kHt_n hi)) rfl rfl (Nat.le_of_ble_eq_true rfl) ⟨Nat.le_of_ble_eq_true rfl, Nat.le_of_ble_eq_true rfl⟩ ⟨by decide, by decide⟩ ⟨rfl, rfl⟩ (by omega) (fun v G hp => ?_)
      obtain ⟨rfl, hW⟩ := hp
      rw [nat_nI (show i < 2147483648 by omega)]
      refine v_goto (pc := 167) (tgt := 171) dL_isNet_167 (by decide) ?_
      refine v_istore_n (pc := 171) dL_isNet_171 rfl rfl (by decide) ?_
      refine v_iinc (pc := 172) dL_isNet_172 rfl (nI_1 _) rfl (by decide) ?_
      refine v_goto (pc := 175) (tgt := 144) dL_isNet_175 (by decide) ?_
      refine vq_u (u' := 2 * (i + 1)) (by omega) ?_
      exact ih (i + 1) _ G (by omega) (fun k hk => by
        by_cases z : k = i
        · subst z; exact Int32.le_refl _
        · exact Int32.le_trans (hh k (by omega)) (Int32.le_of_lt (n_nle.mp c158))) hW
set_option maxRecDepth 100000 in
set_option maxHeartbeats 400000 in
theorem l_net2 {D : DT} {K : KT} {X : XT} {s : SG} {M : MT} {q how xx u0 : Nat} {hv mo ma : Int32} (hI : INV X s q) (hq : q < 512) (hU : u0 + 36 ≤ 150) (hh : ∀ k, k < 36 → s.1 15 k ≤ hv) (kk : ∀ (G : GT), WD X s M G → V cL_isNet yL_isNet.cls 8 rm_isNet D K 284 [some (.ref (X.1 0 0)), some (.int (nI how)), some (.int (nI xx)), some (.int hv), some (.int mo), some (.int ma), some (.int 1), some (.int (nI 36))] [] G (nu (u0 + 36))) : ∀ (d i : Nat) (G : GT), i + d = 36 → WD X s M G → V cL_isNet yL_isNet.cls 8 rm_isNet D K 249 [some (.ref (X.1 0 0)), some (.int (nI how)), some (.int (nI xx)), some (.int hv), some (.int mo), some (.int ma), some (.int 1), some (.int (nI i))] [] G (nu (u0 + i)) := by
  intro d
  induction d with
  | zero =>
    intro i G he hW
    obtain rfl : i = 36 := by omega
    refine v_iload (pc := 249) dL_isNet_249 rfl ?_
    refine v_bipush (pc := 251) (v := 36) dL_isNet_251 (by decide) ?_
    refine v_icmp_ge (pc := 253) (tgt := 284) dL_isNet_253 (by decide) (fun c253 => ?_) (fun c253 => absurd c253 (by decide))
    exact kk G hW
  | succ d ih =>
    intro i G he hW
    have hi : i < 36 := by omega
    refine v_iload (pc := 249) dL_isNet_249 rfl ?_
    refine v_bipush (pc := 251) (v := 36) dL_isNet_251 (by decide) ?_
    refine v_icmp_ge (pc := 253) (tgt := 284) dL_isNet_253 (by decide) (fun c253 => absurd c253 (nI_ge (by omega) (by decide))) (fun c253 => ?_)
    refine v_iload (pc := 256) dL_isNet_256 rfl ?_
    refine v_if_eq (pc := 258) (tgt := 284) dL_isNet_258 (by decide) (fun c258 => absurd c258 (by decide)) (fun c258 => ?_)
    refine v_aload_n (pc := 261) dL_isNet_261 rfl rfl ?_
    refine v_iload (pc := 262) dL_isNet_262 rfl ?_
    refine vqV (pc := 264) (u := u0 + i) (j := 1) (U := 150) (As := [.int _]) hW dL_isNet_264 cw_L_54 im_yX8_height se_yX8_height rfl (q_height _ hW hI hq (kHt_n hi)) rfl rfl (Nat.le_of_ble_eq_true rfl) ⟨Nat.le_of_ble_eq_true rfl, Nat.le_of_ble_eq_true rfl⟩ ⟨by decide, by decide⟩ ⟨rfl, rfl⟩ (by omega) (fun v G hp => ?_)
    obtain ⟨rfl, hW⟩ := hp
    rw [nat_nI (show i < 2147483648 by omega)]
    refine v_iload_n (pc := 267) dL_isNet_267 rfl rfl ?_
    refine v_icmp_gt (pc := 268) (tgt := 275) dL_isNet_268 (by decide) (fun c268 => absurd c268 (n_nlt.mpr (hh i hi))) (fun c268 => ?_)
    refine v_iconst (pc := 271) (v := 1) dL_isNet_271 (by decide) ?_
    refine v_goto (pc := 272) (tgt := 276) dL_isNet_272 (by decide) ?_
    refine v_istore (pc := 276) dL_isNet_276 rfl (by decide) ?_
    refine v_iinc (pc := 278) dL_isNet_278 rfl (nI_1 _) rfl (by decide) ?_
    refine v_goto (pc := 281) (tgt := 249) dL_isNet_281 (by decide) ?_
    exact ih (i + 1) G (by omega) hW
set_option maxRecDepth 100000 in
set_option maxHeartbeats 400000 in
theorem t_net {D : DT} {K : KT} {X X1 : XT} {s : SG} {M : MT} {t how xx sz : Nat} {G0 : GT} {hv mo ma : Int32} (hx : X1 = X) (hR : Rt rm_isNet D K (some .boolean) yL_isNet.name sz G0 (LPq X1 M (t + 1))) (hL : LI X s M (t + 1)) (ht : t < 200) (hh : ∀ k, k < 36 → s.1 15 k ≤ hv) (G : GT) (hW : WD X s M G) : V cL_isNet yL_isNet.cls 8 rm_isNet D K 239 [some (.ref (X.1 0 0)), some (.int (nI how)), some (.int (nI xx)), some (.int hv), some (.int mo), some (.int ma), none, none] [] G (nu 80) := by
  subst hx
  refine v_iconst (pc := 239) (v := 1) dL_isNet_239 (by decide) ?_
  refine v_goto (pc := 240) (tgt := 244) dL_isNet_240 (by decide) ?_
  refine v_istore (pc := 244) dL_isNet_244 rfl (by decide) ?_
  refine v_iconst (pc := 246) (v := nI 0) dL_isNet_246 (by decide) ?_
  refine v_istore (pc := 247) dL_isNet_247 rfl (by decide) ?_
  refine l_net2 hL.1 (by omega) (u0 := 80) (by decide) hh (fun G hW => ?_) 36 0 G rfl hW
  refine v_iload (pc := 284) dL_isNet_284 rfl ?_
  refine vq_zret (pc := 286) (U := 150) hR dL_isNet_286 rfl ⟨rfl, rfl⟩ (by omega) ?_
  exact ⟨rfl, X1, s, M, rfl, rfl, hW, hL, fun z => z⟩
theorem kn_ok (j : Nat) (h : j < 401) : btw (nI j - 200) (-10000) 10000 := by
  have := hv_b j h
  refine ⟨?_, ?_⟩
  · rw [Int32.le_iff_toInt_le]; exact this.1
  · rw [Int32.le_iff_toInt_le]; exact this.2
theorem kLoad_n {j : Nat} (h : j ≤ 100) : kLoad (nI j) = 0 := by unfold kLoad; exact if_pos ((btw_lit (M := 100) (N := 100) rfl).mpr ⟨j, h, rfl⟩)
theorem nI_nlt0 {n : Nat} (h : n < 2147483648) : ¬ nI n < 0 := nI_pos h
theorem nI_gt_no {a b : Nat} (h : a ≤ b) (hb : b < 2147483648) : ¬ nI b < nI a := nI_nlt h hb
theorem mx36 {s : SG} {hv : Int32} (h : ∀ k, k < 36 → s.1 15 k ≤ hv) (h2 : ∀ k, k < 36 → (s.1 15 k).toInt ≤ 10000) : ∃ hi : Int, hi ≤ 10000 ∧ hi ≤ hv.toInt ∧ ∀ k, k < 36 → (s.1 15 k).toInt ≤ hi := by
  by_cases c : hv.toInt ≤ 10000
  · exact ⟨hv.toInt, c, by omega, fun k hk => by have := h k hk; rw [Int32.le_iff_toInt_le] at this; exact this⟩
  · exact ⟨10000, by omega, by omega, h2⟩
set_option maxRecDepth 100000 in
set_option maxHeartbeats 400000 in
theorem c_L_isNet (D : DT) (X : XT) (s : SG) (M : MT) (G : GT) (t how xx : Nat) (hhow : how < 100) (hxx : xx < 2147483648) (hW : WD X s M G) (hL : LI X s M t) (ht : t < 200) : MN yL_isNet cL_isNet 8 (Option.some Jvm.ClassFile.FieldType.boolean) rm_isNet D [.ref (X.1 0 0), .int (nI how), .int (nI xx)] G (LPq X M (t + 1)) := by
  have hI := hL.1
  have hq : 2 * t < 512 := by omega
  refine MN_of (by decide +kernel) (Nat.le_of_ble_eq_true rfl) (fun K sz hR hNC => ?_)
  show V cL_isNet _ 8 _ D K 0 [some (.ref (X.1 0 0)), some (.int (nI how)), some (.int (nI xx)), none, none, none, none, none] [] G (nu 0)
  refine v_iload_n (pc := 0) dL_isNet_0 rfl rfl ?_
  refine v_iconst (pc := 1) (v := 2) dL_isNet_1 (by decide) ?_
  refine v_icmp_ge (pc := 2) (tgt := 78) dL_isNet_2 (by decide) (fun c2 => ?_) (fun c2 => ?_)
  · refine v_iload_n (pc := 78) dL_isNet_78 rfl rfl ?_
    refine v_iconst (pc := 79) (v := 2) dL_isNet_79 (by decide) ?_
    refine v_icmp_ne (pc := 80) (tgt := 138) dL_isNet_80 (by decide) (fun c80 => ?_) (fun c80 => ?_)
    · refine v_ldc (pc := 138) dL_isNet_138 k_L_176 ?_
      refine v_istore_n (pc := 140) dL_isNet_140 rfl rfl (by decide) ?_
      refine v_iconst (pc := 141) (v := nI 0) dL_isNet_141 (by decide) ?_
      refine v_istore (pc := 142) dL_isNet_142 rfl (by decide) ?_
      refine l_net1 hI hq (fun hv G hh hW => ?_) 36 0 _ G rfl (fun k hk => absurd hk (Nat.not_lt_zero _)) hW
      refine v_iconst (pc := 178) (v := 1) dL_isNet_178 (by decide) ?_
      refine v_iload_n (pc := 179) dL_isNet_179 rfl rfl ?_
      refine v_bipush (pc := 180) (v := 12) dL_isNet_180 (by decide) ?_
      refine v_nrem (pc := 182) (xx) 12 dL_isNet_182 (by omega) (by decide) rfl rfl ?_
      refine v_iadd (pc := 183) dL_isNet_183 ?_
      rw [show (1 : Int32) + nI (xx % 12) = nI (1 + xx % 12) from nI_add 1 (xx % 12)]
      refine v_istore (pc := 184) dL_isNet_184 rfl (by decide) ?_
      refine v_aload_n (pc := 186) dL_isNet_186 rfl rfl ?_
      refine v_bipush (pc := 187) (v := 11) dL_isNet_187 (by decide) ?_
      refine v_iload (pc := 189) dL_isNet_189 rfl ?_
      refine v_iconst (pc := 191) (v := 0) dL_isNet_191 (by decide) ?_
      refine v_iconst (pc := 192) (v := 0) dL_isNet_192 (by decide) ?_
      refine v_iconst (pc := 193) (v := 0) dL_isNet_193 (by decide) ?_
      refine vqL (pc := 194) (u := 72) (j := 1) (U := 150) (As := [.ref (X.1 0 0), .int _, .int _, .int _, .int _, .int _]) hNC dL_isNet_194 ll_act.1 ll_act.2.1 wl_act ll_act.2.2.2 ll_act.2.2.1 (sw_rest _ 0 0 0 hW hI hq (kRest_n (by omega))) rfl rfl (Nat.le_of_ble_eq_true rfl) ⟨Nat.le_of_ble_eq_true rfl, Nat.le_of_ble_eq_true rfl⟩ ⟨by decide, by decide⟩ ⟨rfl, rfl⟩ (by omega) (fun v G hp => ?_)
      obtain ⟨s1, s', e, rfl, hW, rfl⟩ := hp
      have en : nat (nI (1 + xx % 12)) = 1 + xx % 12 := nat_nI (by omega)
      have hL1 := hL.eq e G
      have hhv : -(10000 * ((t : Int) + 1)) ≤ hv.toInt := by have h1 := hL.2.1.1 0 (by decide); have h2 := hh 0 (by decide); rw [Int32.le_iff_toInt_le] at h2; omega
      have hb1 : ∀ hi : Int, (∀ k, k < 36 → (s.1 15 k).toInt ≤ hi) → BD s1 (-(10000 * ((t : Int) + 1))) hi := fun hi h q hq => ⟨(hL1.2.1.1 q hq).2, by rw [e.1 15 (by decide) (by decide)]; exact h q hq⟩
      have hT : ∀ k, k < 36 → (s.1 15 k).toInt ≤ 10000 := fun k hk => (hL.2.1.1 k hk).1
      have hR1 := run_bd (nat (nI (1 + xx % 12))) (hb1 10000 hT) (by rw [en]; omega) (by decide) hL1.2.1.2
      have hL2 : LI X (runC s1 (nat (nI (1 + xx % 12)))).1 M (t + 1) := hL1.net (NR.run _ _) rfl rfl ⟨fun k hk => by have := hR1 k hk; rw [en] at this ⊢; omega, by rw [run_k _ _ _ (by decide) (by decide)]; exact hL1.2.1.2⟩
      have hmx : ∃ hi : Int, hi ≤ 10000 ∧ hi ≤ hv.toInt ∧ ∀ k, k < 36 → (s.1 15 k).toInt ≤ hi := mx36 hh hT
      obtain ⟨hi9, m1, m2, m3⟩ := hmx
      have hH1 := run_bd (nat (nI (1 + xx % 12))) (hb1 hi9 m3) (by rw [en]; omega) (by omega) hL1.2.1.2
      have hle : (runC s1 (nat (nI (1 + xx % 12)))).2 ≤ 1 + xx % 12 := by have := run_le (nat (nI (1 + xx % 12))) s1; omega
      refine v_l2i (pc := 197) dL_isNet_197 ?_
      refine v_istore (pc := 198) dL_isNet_198 rfl (by decide) ?_
      refine v_iload (pc := 200) dL_isNet_200 rfl ?_
      refine v_if_lt (pc := 202) (tgt := 243) dL_isNet_202 (by decide) (fun c202 => absurd c202 (fun z => absurd z (by rw [l2i_n]; exact nI_nlt0 (by omega)))) (fun c202 => ?_)
      refine v_iload (pc := 205) dL_isNet_205 rfl ?_
      refine v_iload (pc := 207) dL_isNet_207 rfl ?_
      refine v_icmp_gt (pc := 209) (tgt := 243) dL_isNet_209 (by decide) (fun c209 => absurd c209 (by rw [l2i_n]; exact fun z => nI_gt_no (by omega) (by omega) z)) (fun c209 => ?_)
      refine v_iload (pc := 212) dL_isNet_212 rfl ?_
      refine v_iload (pc := 214) dL_isNet_214 rfl ?_
      refine v_icmp_eq (pc := 216) (tgt := 239) dL_isNet_216 (by decide) (fun c216 => ?_) (fun c216 => ?_)
      · refine vq_u (u' := 80) (by omega) ?_
        exact t_net rfl hR hL2 ht (fun k hk => by rw [Int32.le_iff_toInt_le]; have := hH1 k hk; omega) G hW
      · have c216 : ¬ nI (runC s1 (nat (nI (1 + xx % 12)))).2 = nI (1 + xx % 12) := fun z => c216 (by rw [l2i_n]; exact z)
        refine v_aload_n (pc := 219) dL_isNet_219 rfl rfl ?_
        refine v_bipush (pc := 220) (v := 11) dL_isNet_220 (by decide) ?_
        refine v_iconst (pc := 222) (v := 1) dL_isNet_222 (by decide) ?_
        refine v_iload_n (pc := 223) dL_isNet_223 rfl rfl ?_
        refine v_bipush (pc := 224) (v := 50) dL_isNet_224 (by decide) ?_
        refine v_nrem (pc := 226) (xx) 50 dL_isNet_226 (by omega) (by decide) rfl rfl ?_
        refine v_iadd (pc := 227) dL_isNet_227 ?_
        rw [show (1 : Int32) + nI (xx % 50) = nI (1 + xx % 50) from nI_add 1 (xx % 50)]
        refine v_iconst (pc := 228) (v := 0) dL_isNet_228 (by decide) ?_
        refine v_iconst (pc := 229) (v := 0) dL_isNet_229 (by decide) ?_
        refine v_iconst (pc := 230) (v := 0) dL_isNet_230 (by decide) ?_
        refine vqL (pc := 231) (u := 72 + 1) (j := 1) (U := 150) (As := [.ref (X.1 0 0), .int _, .int _, .int _, .int _, .int _]) hNC dL_isNet_231 ll_act.1 ll_act.2.1 wl_act ll_act.2.2.2 ll_act.2.2.1 (sw_rest _ 0 0 0 hW hL2.1 (by omega) (kRest_n (by omega))) rfl rfl (Nat.le_of_ble_eq_true rfl) ⟨Nat.le_of_ble_eq_true rfl, Nat.le_of_ble_eq_true rfl⟩ ⟨by decide, by decide⟩ ⟨rfl, rfl⟩ (by omega) (fun v G hp => ?_)
        obtain ⟨s2, s', e2, rfl, hW, rfl⟩ := hp
        have en2 : nat (nI (1 + xx % 50)) = 1 + xx % 50 := nat_nI (by omega)
        have hmv : mvF (runC s1 (nat (nI (1 + xx % 12)))).1 36 = false := (run_end _ s1).elim (fun z => absurd (by rw [z, en]) c216) (fun z => z)
        have hz : (runC s2 (nat (nI (1 + xx % 50)))).2 = 0 := run_0 (by rw [mv_eq (e2.1 15 (by decide) (by decide)) (by rw [e2.1 18 (by decide) (by decide)]) (e2.1 17 (by decide) (by decide))]; exact hmv) _
        have hb2 : ∀ hi : Int, BD (runC s1 (nat (nI (1 + xx % 12)))).1 (-(10000 * ((t : Int) + 1)) - 100 * ((nat (nI (1 + xx % 12)) : Nat) : Int)) hi → BD s2 (-(10000 * ((t : Int) + 1)) - 100 * ((nat (nI (1 + xx % 12)) : Nat) : Int)) hi := fun hi h q hq => by rw [e2.1 15 (by decide) (by decide)]; exact h q hq
        have hl2 : btw (s2.1 18 0) 0 100 := by rw [e2.1 18 (by decide) (by decide)]; exact hL2.2.1.2
        have hR2 := run_bd (nat (nI (1 + xx % 50))) (hb2 _ hR1) (by rw [en, en2]; omega) (by decide) hl2
        have hH2 := run_bd (nat (nI (1 + xx % 50))) (hb2 _ hH1) (by rw [en, en2]; omega) (by omega) hl2
        have hL3 : LI X (runC s2 (nat (nI (1 + xx % 50)))).1 M (t + 1) := hL1.net (((NR.run _ _).tr (NR.of e2)).tr (NR.run _ _)) rfl rfl ⟨fun k hk => by have := hR2 k hk; rw [en, en2] at this; rw [en2]; omega, by rw [run_k _ _ _ (by decide) (by decide)]; exact hl2⟩
        refine v_lconst (pc := 234) (v := 0) dL_isNet_234 (by decide) ?_
        refine v_lcmp (pc := 235) dL_isNet_235 ?_
        refine v_if_ne (pc := 236) (tgt := 243) dL_isNet_236 (by decide) (fun c236 => absurd c236 (d_ne (by rw [hz]; rfl))) (fun c236 => ?_)
        refine vq_u (u' := 80) (by omega) ?_
        exact t_net rfl hR hL3 ht (fun k hk => by rw [Int32.le_iff_toInt_le]; have := hH2 k hk; omega) G hW
    · refine v_aload_n (pc := 83) dL_isNet_83 rfl rfl ?_
      refine v_bipush (pc := 84) (v := 10) dL_isNet_84 (by decide) ?_
      refine v_iload_n (pc := 86) dL_isNet_86 rfl rfl ?_
      refine v_bipush (pc := 87) (v := 101) dL_isNet_87 (by decide) ?_
      refine v_nrem (pc := 89) (xx) 101 dL_isNet_89 (by omega) (by decide) rfl rfl ?_
      refine v_iconst (pc := 90) (v := 0) dL_isNet_90 (by decide) ?_
      refine v_iconst (pc := 91) (v := 0) dL_isNet_91 (by decide) ?_
      refine v_iconst (pc := 92) (v := 0) dL_isNet_92 (by decide) ?_
      refine vqL (pc := 93) (u := 0) (j := 1) (U := 150) (As := [.ref (X.1 0 0), .int _, .int _, .int _, .int _, .int _]) hNC dL_isNet_93 ll_act.1 ll_act.2.1 wl_act ll_act.2.2.2 ll_act.2.2.1 (sw_load _ 0 0 0 hW hI hq (kLoad_n (by omega))) rfl rfl (Nat.le_of_ble_eq_true rfl) ⟨Nat.le_of_ble_eq_true rfl, Nat.le_of_ble_eq_true rfl⟩ ⟨by decide, by decide⟩ ⟨rfl, rfl⟩ (by omega) (fun v G hp => ?_)
      obtain ⟨s1, s', e, rfl, hW, rfl⟩ := hp
      have hL1 := hL.eq e G
      have hL2 : LI X (sI s1 18 0 (nI (xx % 101))) M (t + 1) := hL1.load rfl rfl (NR.load _ _) (sI_r _ _ _ (by decide)) (by rw [sI_at]; exact (btw_lit (M := 100) (N := 100) rfl).mpr ⟨xx % 101, by omega, rfl⟩)
      have hl18 : btw (s1.1 18 0) 0 100 := hL1.2.1.2
      refine v_lstore_n (pc := 96) dL_isNet_96 rfl rfl (by decide) ?_
      refine v_lload_n (pc := 97) dL_isNet_97 rfl rfl ?_
      refine v_lconst (pc := 98) (v := 0) dL_isNet_98 (by decide) ?_
      refine v_lcmp (pc := 99) dL_isNet_99 ?_
      refine v_if_lt (pc := 100) (tgt := 136) dL_isNet_100 (by decide) (fun c100 => absurd c100 (d_lt (w_ge0 hl18.1))) (fun c100 => ?_)
      refine v_lload_n (pc := 103) dL_isNet_103 rfl rfl ?_
      refine v_ldcL (pc := 104) dL_isNet_104 k_L_174 ?_
      refine v_lcmp (pc := 107) dL_isNet_107 ?_
      refine v_if_gt (pc := 108) (tgt := 136) dL_isNet_108 (by decide) (fun c108 => absurd c108 (d_gt (w_le hl18.2))) (fun c108 => ?_)
      refine v_aload_n (pc := 111) dL_isNet_111 rfl rfl ?_
      refine v_bipush (pc := 112) (v := 10) dL_isNet_112 (by decide) ?_
      refine v_iload_n (pc := 114) dL_isNet_114 rfl rfl ?_
      refine v_iconst (pc := 115) (v := 4) dL_isNet_115 (by decide) ?_
      refine v_nrem (pc := 116) (xx) 4 dL_isNet_116 (by omega) (by decide) rfl rfl ?_
      refine v_iconst (pc := 117) (v := 0) dL_isNet_117 (by decide) ?_
      refine v_iconst (pc := 118) (v := 0) dL_isNet_118 (by decide) ?_
      refine v_iconst (pc := 119) (v := 0) dL_isNet_119 (by decide) ?_
      refine vqL (pc := 120) (u := 0 + 1) (j := 1) (U := 150) (As := [.ref (X.1 0 0), .int _, .int _, .int _, .int _, .int _]) hNC dL_isNet_120 ll_act.1 ll_act.2.1 wl_act ll_act.2.2.2 ll_act.2.2.1 (sw_load _ 0 0 0 hW hL2.1 (by omega) (kLoad_n (by omega))) rfl rfl (Nat.le_of_ble_eq_true rfl) ⟨Nat.le_of_ble_eq_true rfl, Nat.le_of_ble_eq_true rfl⟩ ⟨by decide, by decide⟩ ⟨rfl, rfl⟩ (by omega) (fun v G hp => ?_)
      obtain ⟨s2, s', e2, rfl, hW, rfl⟩ := hp
      have e18 : s2.1 18 0 = nI (xx % 101) := by rw [e2.1 18 (by decide) (by decide)]; exact sI_at _ _ _ _
      have hL3 : LI X (sI s2 18 0 (nI (xx % 4))) M (t + 1) := hL1.load rfl rfl (((NR.load _ _).tr (NR.of e2)).tr (NR.load _ _)) (by rw [sI_r _ _ _ (by decide), e2.1 15 (by decide) (by decide)]; exact sI_r _ _ _ (by decide)) (by rw [sI_at]; exact (btw_lit (M := 100) (N := 100) rfl).mpr ⟨xx % 4, by omega, rfl⟩)
      refine v_iload_n (pc := 123) dL_isNet_123 rfl rfl ?_
      refine v_bipush (pc := 124) (v := 101) dL_isNet_124 (by decide) ?_
      refine v_nrem (pc := 126) (xx) 101 dL_isNet_126 (by omega) (by decide) rfl rfl ?_
      refine v_i2l (pc := 127) dL_isNet_127 ?_
      refine v_lcmp (pc := 128) dL_isNet_128 ?_
      refine v_if_ne (pc := 129) (tgt := 136) dL_isNet_129 (by decide) (fun c129 => absurd c129 (d_ne (by rw [e18]))) (fun c129 => ?_)
      refine v_iconst (pc := 132) (v := 1) dL_isNet_132 (by decide) ?_
      refine v_goto (pc := 133) (tgt := 137) dL_isNet_133 (by decide) ?_
      refine vq_zret (pc := 137) (U := 150) hR dL_isNet_137 rfl ⟨rfl, rfl⟩ (by omega) ?_
      exact ⟨rfl, X, _, M, rfl, rfl, hW, hL3, fun z => z⟩
  · refine v_iload_n (pc := 5) dL_isNet_5 rfl rfl ?_
    refine v_bipush (pc := 6) (v := 36) dL_isNet_6 (by decide) ?_
    refine v_nrem (pc := 8) (xx) 36 dL_isNet_8 (by omega) (by decide) rfl rfl ?_
    refine v_istore_n (pc := 9) dL_isNet_9 rfl rfl (by decide) ?_
    refine v_iload_n (pc := 10) dL_isNet_10 rfl rfl ?_
    refine v_bipush (pc := 11) (v := 36) dL_isNet_11 (by decide) ?_
    refine v_ndiv (pc := 13) (xx) 36 dL_isNet_13 (by omega) (by decide) rfl rfl ?_
    refine v_sipush (pc := 14) (v := 401) dL_isNet_14 (by decide) ?_
    refine v_nrem (pc := 17) (xx / 36) 401 dL_isNet_17 (by omega) (by decide) rfl rfl ?_
    refine v_sipush (pc := 18) (v := 200) dL_isNet_18 (by decide) ?_
    refine v_isub (pc := 21) dL_isNet_21 ?_
    refine v_istore (pc := 22) dL_isNet_22 rfl (by decide) ?_
    refine v_aload_n (pc := 24) dL_isNet_24 rfl rfl ?_
    refine v_iload_n (pc := 25) dL_isNet_25 rfl rfl ?_
    refine vqV (pc := 26) (u := 0) (j := 1) (U := 150) (As := [.int _]) hW dL_isNet_26 cw_L_54 im_yX8_height se_yX8_height rfl (q_height _ hW hI hq (kHt_n (by omega))) rfl rfl (Nat.le_of_ble_eq_true rfl) ⟨Nat.le_of_ble_eq_true rfl, Nat.le_of_ble_eq_true rfl⟩ ⟨by decide, by decide⟩ ⟨rfl, rfl⟩ (by omega) (fun v G hp => ?_)
    obtain ⟨rfl, hW⟩ := hp
    refine v_i2l (pc := 29) dL_isNet_29 ?_
    refine v_lstore (pc := 30) dL_isNet_30 rfl (by decide) ?_
    refine v_aload_n (pc := 32) dL_isNet_32 rfl rfl ?_
    refine v_bipush (pc := 33) (v := 9) dL_isNet_33 (by decide) ?_
    refine v_iload_n (pc := 35) dL_isNet_35 rfl rfl ?_
    refine v_iload (pc := 36) dL_isNet_36 rfl ?_
    refine v_iload_n (pc := 38) dL_isNet_38 rfl rfl ?_
    refine v_bipush (pc := 39) (v := 7) dL_isNet_39 (by decide) ?_
    refine v_ndiv (pc := 41) (xx) 7 dL_isNet_41 (by omega) (by decide) rfl rfl ?_
    refine v_iconst (pc := 42) (v := 3) dL_isNet_42 (by decide) ?_
    refine v_nrem (pc := 43) (xx / 7) 3 dL_isNet_43 (by omega) (by decide) rfl rfl ?_
    refine v_if_le (pc := 44) (tgt := 51) dL_isNet_44 (by decide) (fun c44 => ?_) (fun c44 => ?_)
    · refine v_iconst (pc := 51) (v := 0) dL_isNet_51 (by decide) ?_
      refine v_iconst (pc := 52) (v := 0) dL_isNet_52 (by decide) ?_
      refine vqL (pc := 53) (u := 0 + 1) (j := 1) (U := 150) (As := [.ref (X.1 0 0), .int _, .int _, .int _, .int _, .int _]) hNC dL_isNet_53 ll_act.1 ll_act.2.1 wl_act ll_act.2.2.2 ll_act.2.2.1 (sw_knot0 _ _ _ hW hI hq (by unfold kKnot; rw [if_pos ((btw_lit (M := 35) (N := 35) rfl).mpr ⟨xx % 36, by omega, rfl⟩), if_pos (kn_ok (xx / 36 % 401) (by omega))])) rfl rfl (Nat.le_of_ble_eq_true rfl) ⟨Nat.le_of_ble_eq_true rfl, Nat.le_of_ble_eq_true rfl⟩ ⟨by decide, by decide⟩ ⟨rfl, rfl⟩ (by omega) (fun v G hp => ?_)
      obtain ⟨s1, s', e, rfl, hW, rfl⟩ := hp
      have hL' : LI X (gKnot s1 (nat (nI (xx % 36))) (nI (xx / 36 % 401) - 200) 0) M (t + 1) := (hL.eq e G).knot rfl rfl (hv_b _ (by omega))
      refine v_lload (pc := 56) dL_isNet_56 rfl ?_
      refine v_lcmp (pc := 58) dL_isNet_58 ?_
      refine v_if_ne (pc := 59) (tgt := 76) dL_isNet_59 (by decide) (fun c59 => absurd c59 (d_ne (by rw [e.1 15 (by decide) (by decide)]))) (fun c59 => ?_)
      refine v_aload_n (pc := 62) dL_isNet_62 rfl rfl ?_
      refine v_iload_n (pc := 63) dL_isNet_63 rfl rfl ?_
      refine vqV (pc := 64) (u := 0 + 1 + 1) (j := 1) (U := 150) (As := [.int _]) hW dL_isNet_64 cw_L_54 im_yX8_height se_yX8_height rfl (q_height _ hW hL'.1 (by omega) (kHt_n (by omega))) rfl rfl (Nat.le_of_ble_eq_true rfl) ⟨Nat.le_of_ble_eq_true rfl, Nat.le_of_ble_eq_true rfl⟩ ⟨by decide, by decide⟩ ⟨rfl, rfl⟩ (by omega) (fun v G hp => ?_)
      obtain ⟨rfl, hW⟩ := hp
      refine v_iload (pc := 67) dL_isNet_67 rfl ?_
      refine v_icmp_ne (pc := 69) (tgt := 76) dL_isNet_69 (by decide) (fun c69 => absurd c69 (fun z => z (by rw [nat_nI (show xx % 36 < 2147483648 by omega)]; exact knot_at _ _ _ _))) (fun c69 => ?_)
      refine v_iconst (pc := 72) (v := 1) dL_isNet_72 (by decide) ?_
      refine v_goto (pc := 73) (tgt := 77) dL_isNet_73 (by decide) ?_
      refine vq_zret (pc := 77) (U := 150) hR dL_isNet_77 rfl ⟨rfl, rfl⟩ (by omega) ?_
      exact ⟨rfl, X, _, M, rfl, rfl, hW, hL', fun z => z⟩
    · refine v_iconst (pc := 47) (v := 1) dL_isNet_47 (by decide) ?_
      refine v_goto (pc := 48) (tgt := 52) dL_isNet_48 (by decide) ?_
      refine v_iconst (pc := 52) (v := 0) dL_isNet_52 (by decide) ?_
      refine vqL (pc := 53) (u := 0 + 1) (j := 1) (U := 150) (As := [.ref (X.1 0 0), .int _, .int _, .int _, .int _, .int _]) hNC dL_isNet_53 ll_act.1 ll_act.2.1 wl_act ll_act.2.2.2 ll_act.2.2.1 (sw_knot1 _ _ _ hW hI hq (by unfold kKnot; rw [if_pos ((btw_lit (M := 35) (N := 35) rfl).mpr ⟨xx % 36, by omega, rfl⟩), if_pos (kn_ok (xx / 36 % 401) (by omega))])) rfl rfl (Nat.le_of_ble_eq_true rfl) ⟨Nat.le_of_ble_eq_true rfl, Nat.le_of_ble_eq_true rfl⟩ ⟨by decide, by decide⟩ ⟨rfl, rfl⟩ (by omega) (fun v G hp => ?_)
      obtain ⟨s1, s', e, rfl, hW, rfl⟩ := hp
      have hL' : LI X (gKnot s1 (nat (nI (xx % 36))) (nI (xx / 36 % 401) - 200) 1) M (t + 1) := (hL.eq e G).knot rfl rfl (hv_b _ (by omega))
      refine v_lload (pc := 56) dL_isNet_56 rfl ?_
      refine v_lcmp (pc := 58) dL_isNet_58 ?_
      refine v_if_ne (pc := 59) (tgt := 76) dL_isNet_59 (by decide) (fun c59 => absurd c59 (d_ne (by rw [e.1 15 (by decide) (by decide)]))) (fun c59 => ?_)
      refine v_aload_n (pc := 62) dL_isNet_62 rfl rfl ?_
      refine v_iload_n (pc := 63) dL_isNet_63 rfl rfl ?_
      refine vqV (pc := 64) (u := 0 + 1 + 1) (j := 1) (U := 150) (As := [.int _]) hW dL_isNet_64 cw_L_54 im_yX8_height se_yX8_height rfl (q_height _ hW hL'.1 (by omega) (kHt_n (by omega))) rfl rfl (Nat.le_of_ble_eq_true rfl) ⟨Nat.le_of_ble_eq_true rfl, Nat.le_of_ble_eq_true rfl⟩ ⟨by decide, by decide⟩ ⟨rfl, rfl⟩ (by omega) (fun v G hp => ?_)
      obtain ⟨rfl, hW⟩ := hp
      refine v_iload (pc := 67) dL_isNet_67 rfl ?_
      refine v_icmp_ne (pc := 69) (tgt := 76) dL_isNet_69 (by decide) (fun c69 => absurd c69 (fun z => z (by rw [nat_nI (show xx % 36 < 2147483648 by omega)]; exact knot_at _ _ _ _))) (fun c69 => ?_)
      refine v_iconst (pc := 72) (v := 1) dL_isNet_72 (by decide) ?_
      refine v_goto (pc := 73) (tgt := 77) dL_isNet_73 (by decide) ?_
      refine vq_zret (pc := 77) (U := 150) hR dL_isNet_77 rfl ⟨rfl, rfl⟩ (by omega) ?_
      exact ⟨rfl, X, _, M, rfl, rfl, hW, hL', fun z => z⟩
