theorem ipw {r39 r40 r41 : Nat → Int32} {sl lv : Nat → Bool} {a b : Nat} {s : SG} (h : iPan (s.1 4) (s.1 5) (s.1 6) (s.1 7) (s.1 8) r39 r40 r41 sl lv a b) (ha : a ≤ 6) : PV s b := iPan.PV (r4 := fun _ => 0) (r5 := fun _ => 0) (r6 := fun _ => 0) (r7 := fun _ => 0) (r8 := fun _ => 0) h ha
theorem ll_lot : Cond.methodLink "BroadseamLoftLaw" 118 yL_lot ∈ lw_all ∧ Cond.initialized yL_lot.cls ∈ lw_all ∧ Cond.static yL_lot ∈ lw_all ∧ (yL_lot.cls ≠ "java/lang/invoke/MethodHandle" ∧ yL_lot.cls ≠ "java/lang/invoke/VarHandle" ∧ (parseMethodDescriptor yL_lot.desc).map (fun d => d.parameters.length) = some 5) := ⟨(lw_mem 172 (by decide +kernel) rfl), (lw_mem 32 (by decide +kernel) rfl), (lw_mem 173 (by decide +kernel) rfl), by decide +kernel, by decide +kernel, by decide +kernel⟩
set_option maxRecDepth 100000 in
set_option maxHeartbeats 1000000 in
theorem k_lot {D : DT} {K : KT} {b L : Nat} {xs : Nat → Int32} (hS : SC K b L xs) (hNC : NC3 K.2.2.2.1) (hL : L ≤ 2560) {m o oD x0 : Nat} {ad : Nat → Nat} (q : Nat) (hq : 5 * q + 5 ≤ L) {X : XT} {s : SG} {G : GT} {n : Nat × Nat} (hW : HW X s m ad o oD x0 q G) (hn : n.1 ≤ 60 + 2 * q ∧ n.2 ≤ 2000 + 20 * q) (kk : ∀ (X' : XT) (s' : SG) (G' : GT) (n' : Nat × Nat), HW X' s' m ad o oD x0 (q + 1) G' → (n'.1 ≤ 60 + 2 * (q + 1) ∧ n'.2 ≤ 2000 + 20 * (q + 1)) → V cL_law RL 9 room_1 D K 2232 [some (.ref b), some (.ref x0), some (.ref m), some (.ref o), some (.ref oD), some (.int (nI (5 * q))), none, none, none] [] G' n') : V cL_law RL 9 room_1 D K 180 [some (.ref b), some (.ref x0), some (.ref m), some (.ref o), some (.ref oD), some (.int (nI (5 * q))), none, none, none] [] G n := by
  obtain ⟨hM, hI⟩ := hW
  have hI0 := hI
  obtain ⟨a, b1, c, g, ns, nl, i1, i2, i3, i4, i5, i6, i7, i8, i9⟩ := hI
  have hx0 : X.1 0 0 = x0 := hM.2.2.2.2.2.2
  subst hx0
  obtain ⟨n1, n2⟩ := n
  have hn1 : n1 ≤ 60 + 2 * q := hn.1
  have hn2 : n2 ≤ 2000 + 20 * q := hn.2
  have hn511 : nl < 512 := by have := i6.2.1; omega
  have hn512 : nl ≤ 512 := by omega
  refine v_aload_n (pc := 180) dL_law_180 rfl rfl ?_
  refine v_aload_n (pc := 181) dL_law_181 rfl rfl ?_
  refine v_iload (pc := 182) dL_law_182 rfl ?_
  refine v_iconst (pc := 184) (v := 1) dL_law_184 (by decide) ?_
  refine v_iadd (pc := 185) dL_law_185 ?_
  refine v_sld (pc := 186) (j := 5 * q + 1) hS dL_law_186 (by rw [show (1 : Int32) = nI 1 from rfl, nI_add]) (by omega) hL ?_
  refine v_aload_n (pc := 187) dL_law_187 rfl rfl ?_
  refine v_iload (pc := 188) dL_law_188 rfl ?_
  refine v_iconst (pc := 190) (v := 2) dL_law_190 (by decide) ?_
  refine v_iadd (pc := 191) dL_law_191 ?_
  refine v_sld (pc := 192) (j := 5 * q + 2) hS dL_law_192 (by rw [show (2 : Int32) = nI 2 from rfl, nI_add]) (by omega) hL ?_
  refine v_aload_n (pc := 193) dL_law_193 rfl rfl ?_
  refine v_iload (pc := 194) dL_law_194 rfl ?_
  refine v_iconst (pc := 196) (v := 3) dL_law_196 (by decide) ?_
  refine v_iadd (pc := 197) dL_law_197 ?_
  refine v_sld (pc := 198) (j := 5 * q + 3) hS dL_law_198 (by rw [show (3 : Int32) = nI 3 from rfl, nI_add]) (by omega) hL ?_
  refine v_aload_n (pc := 199) dL_law_199 rfl rfl ?_
  refine v_callL (pc := 200) (As := [.ref (X.1 0 0), .int _, .int _, .int _, .ref o]) (rest := []) hNC dL_law_200 ll_lot.1 ll_lot.2.1 wl_lot ll_lot.2.2.2 ll_lot.2.2.1 (c_L_lot D G (X.1, X.2.1, X.2.2.1, RESTP m ad o oD, G) s (RESTP m ad o oD) o a _ _ _ hM.re rfl (Or.inr (Or.inr (Or.inl rfl))) hM.2.2.1 i1.1 i1.2.1 (i1.2.2.2.1 a (Nat.le_refl a)).1 (i1.2.2.2.1 a (Nat.le_refl a)).2.1 (i1.2.2.2.1 a (Nat.le_refl a)).2.2 i9) rfl rfl (Nat.le_of_ble_eq_true rfl) ⟨Nat.le_of_ble_eq_true rfl, Nat.le_of_ble_eq_true rfl⟩ ⟨by show n1 + 1 ≤ 601024; omega, by show n2 + 8 ≤ 7293034; omega⟩ (fun v G1 hp => ?_)
  obtain ⟨X1, s9, hL1, hA1, h01, hF1, hT1, k, hv, hk⟩ := hp
  subst hv
  have hM1 := hM.mid (Or.inl ⟨rfl, rfl⟩) hL1 hA1 (h01 0 (by decide)) hF1 hT1
  have hG := hM1.md
  refine (?_ : V cL_law RL 9 room_1 D K 203 _ _ G1 (n1 + 1, n2 + 8))
  rcases hk with ⟨hk, hok⟩ | ⟨hk, herr, hs9, hx1, hx2⟩
  · subst hk
    obtain ⟨hval, hs9, hx1, hx2, hk0⟩ := hok
    refine v_istore (pc := 203) dL_law_203 rfl (by decide) ?_
    refine v_aload_n (pc := 205) dL_law_205 rfl rfl ?_
    refine v_aload_n (pc := 206) dL_law_206 rfl rfl ?_
    refine v_iload (pc := 207) dL_law_207 rfl ?_
    refine v_iconst (pc := 209) (v := 1) dL_law_209 (by decide) ?_
    refine v_iadd (pc := 210) dL_law_210 ?_
    refine v_sld (pc := 211) (j := 5 * q + 1) hS dL_law_211 (by rw [show (1 : Int32) = nI 1 from rfl, nI_add]) (by omega) hL ?_
    refine v_aload_n (pc := 212) dL_law_212 rfl rfl ?_
    refine v_iload (pc := 213) dL_law_213 rfl ?_
    refine v_iconst (pc := 215) (v := 2) dL_law_215 (by decide) ?_
    refine v_iadd (pc := 216) dL_law_216 ?_
    refine v_sld (pc := 217) (j := 5 * q + 2) hS dL_law_217 (by rw [show (2 : Int32) = nI 2 from rfl, nI_add]) (by omega) hL ?_
    refine v_aload_n (pc := 218) dL_law_218 rfl rfl ?_
    refine v_iload (pc := 219) dL_law_219 rfl ?_
    refine v_iconst (pc := 221) (v := 3) dL_law_221 (by decide) ?_
    refine v_iadd (pc := 222) dL_law_222 ?_
    refine v_sld (pc := 223) (j := 5 * q + 3) hS dL_law_223 (by rw [show (3 : Int32) = nI 3 from rfl, nI_add]) (by omega) hL ?_
    refine vm_callV3 (pc := 224) (n1 + 1, n2 + 8) hG dL_law_224 cw_L_123 im_yX9_lot se_yX9_lot (c_X9_lot D m _ _ a _ _ _ i1.1 i1.2.1) rfl (Nat.le_of_ble_eq_true rfl) ⟨Nat.le_of_ble_eq_true rfl, Nat.le_of_ble_eq_true rfl⟩ ⟨by show n1 + 1 + 0 ≤ 601024; omega, by show n2 + 8 + 0 ≤ 7293034; omega⟩ rfl (fun v s1 G hp hG => ?_)
    obtain ⟨hv1, hs1⟩ := hp
    first | rw [if_pos hk0] at hv1 hs1 | (rw [if_pos hk0] at hv1; rw [hk0] at hs1)
    subst hv1
    have t38 : s1.1 38 0 = 0 := by
      rw [hs1]; simp [gLot, sI, sJ, u2]
    refine v_istore (pc := 227) dL_law_227 rfl (by decide) ?_
    refine v_aload_n (pc := 229) dL_law_229 rfl rfl ?_
    refine vm_callV0 (pc := 230) (n1 + 1, n2 + 8) hG dL_law_230 cw_L_124 im_yX9_thrown se_yX9_thrown (c_X9_thrown D m _ _ ) rfl (Nat.le_of_ble_eq_true rfl) ⟨Nat.le_of_ble_eq_true rfl, Nat.le_of_ble_eq_true rfl⟩ ⟨by show n1 + 1 + 0 ≤ 601024; omega, by show n2 + 8 + 0 ≤ 7293034; omega⟩ rfl (fun v s1 G hp hG => ?_)
    have hG9 := hG
    obtain ⟨hv1, hs2⟩ := hp
    subst hv1
    subst hs2
    rw [t38]
    obtain ⟨⟨hTo, hNo, hJo⟩, hTd, hNd, hEd⟩ := hM1.at hG9
    have hAG : AG s9 s1 := by
      refine ⟨fun k hk hk16 => ?_, ?_, ?_⟩
      · rw [hs1, hs9]; refine funext fun j => ?_; simp [gLot, ow3, sI, sJ, u2, show k ≠ 38 by omega, show k ≠ 39 by omega, show k ≠ 40 by omega, show k ≠ 41 by omega, show k ≠ 42 by omega, show k ≠ 43 by omega, show k ≠ 44 by omega, show k ≠ 45 by omega, show k ≠ 46 by omega]
      · rw [hs1, hs9]; first | rfl | (refine funext fun j => ?_; simp [gLot, ow3, sI, sJ, u2])
      · rw [hs1, hs9]; first | rfl | (refine funext fun j => ?_; simp [gLot, ow3, sI, sJ, u2])
    have hIN : INV X1 s9 (q + 1) := by
      rw [hs9]; exact inv_lot hI0 i1.1 i1.2.1 hk0 hx1 hx2
    have hfin := hM1.fin hG9 hAG hIN
    refine v_iload (pc := 233) dL_law_233 rfl ?_
    refine v_icmp_eq (pc := 235) (tgt := 240) dL_law_235 (by decide) (fun c235 => ?_) (fun c235 => absurd c235 (not_not_intro rfl))
    refine v_iload (pc := 240) dL_law_240 rfl ?_
    refine v_if_ne (pc := 242) (tgt := 257) dL_law_242 (by decide) (fun c242 => absurd c242 (by decide)) (fun c242 => ?_)
    obtain ⟨T, N, I, J, E, Rf⟩ := G
    refine v_aload_n (pc := 245) dL_law_245 rfl rfl ?_
    refine v_iconst (pc := 246) (v := 0) dL_law_246 (by decide) ?_
    refine v_lald (pc := 247) (j := 0) dL_law_247 hTo hNo rfl (by decide) (by decide) ?_
    refine v_iload (pc := 248) dL_law_248 rfl ?_
    refine v_i2l (pc := 250) dL_law_250 ?_
    refine v_lcmp (pc := 251) dL_law_251 ?_
    refine v_if_eq (pc := 252) (tgt := 257) dL_law_252 (by decide) (fun c252 => ?_) (fun c252 => absurd c252 (not_not_intro (cmp_eq0.mpr ((congrFun hJo 0).trans (hval.trans rfl)))))
    refine v_goto (pc := 257) (tgt := 2232) dL_law_257 (by decide) ?_
    refine v_forget 6 ?_
    refine v_forget 7 ?_
    refine v_forget 8 ?_
    exact kk _ _ _ _ hfin ⟨by show n1 + 1 ≤ 60 + 2 * (q + 1); omega, by show n2 + 8 ≤ 2000 + 20 * (q + 1); omega⟩
  · refine v_istore (pc := 203) dL_law_203 rfl (by decide) ?_
    refine v_aload_n (pc := 205) dL_law_205 rfl rfl ?_
    refine v_aload_n (pc := 206) dL_law_206 rfl rfl ?_
    refine v_iload (pc := 207) dL_law_207 rfl ?_
    refine v_iconst (pc := 209) (v := 1) dL_law_209 (by decide) ?_
    refine v_iadd (pc := 210) dL_law_210 ?_
    refine v_sld (pc := 211) (j := 5 * q + 1) hS dL_law_211 (by rw [show (1 : Int32) = nI 1 from rfl, nI_add]) (by omega) hL ?_
    refine v_aload_n (pc := 212) dL_law_212 rfl rfl ?_
    refine v_iload (pc := 213) dL_law_213 rfl ?_
    refine v_iconst (pc := 215) (v := 2) dL_law_215 (by decide) ?_
    refine v_iadd (pc := 216) dL_law_216 ?_
    refine v_sld (pc := 217) (j := 5 * q + 2) hS dL_law_217 (by rw [show (2 : Int32) = nI 2 from rfl, nI_add]) (by omega) hL ?_
    refine v_aload_n (pc := 218) dL_law_218 rfl rfl ?_
    refine v_iload (pc := 219) dL_law_219 rfl ?_
    refine v_iconst (pc := 221) (v := 3) dL_law_221 (by decide) ?_
    refine v_iadd (pc := 222) dL_law_222 ?_
    refine v_sld (pc := 223) (j := 5 * q + 3) hS dL_law_223 (by rw [show (3 : Int32) = nI 3 from rfl, nI_add]) (by omega) hL ?_
    refine vm_callV3 (pc := 224) (n1 + 1, n2 + 8) hG dL_law_224 cw_L_123 im_yX9_lot se_yX9_lot (c_X9_lot D m _ _ a _ _ _ i1.1 i1.2.1) rfl (Nat.le_of_ble_eq_true rfl) ⟨Nat.le_of_ble_eq_true rfl, Nat.le_of_ble_eq_true rfl⟩ ⟨by show n1 + 1 + 0 ≤ 601024; omega, by show n2 + 8 + 0 ≤ 7293034; omega⟩ rfl (fun v s1 G hp hG => ?_)
    obtain ⟨hv1, hs1⟩ := hp
    first | rw [if_neg (by rw [herr]; exact hk)] at hv1 hs1 | rw [if_neg (by rw [herr]; exact hk)] at hv1
    rw [herr] at hs1
    subst hv1
    have t38 : s1.1 38 0 = k := by
      rw [hs1]; exact sI_s _ _ _ _
    refine v_istore (pc := 227) dL_law_227 rfl (by decide) ?_
    refine v_aload_n (pc := 229) dL_law_229 rfl rfl ?_
    refine vm_callV0 (pc := 230) (n1 + 1, n2 + 8) hG dL_law_230 cw_L_124 im_yX9_thrown se_yX9_thrown (c_X9_thrown D m _ _ ) rfl (Nat.le_of_ble_eq_true rfl) ⟨Nat.le_of_ble_eq_true rfl, Nat.le_of_ble_eq_true rfl⟩ ⟨by show n1 + 1 + 0 ≤ 601024; omega, by show n2 + 8 + 0 ≤ 7293034; omega⟩ rfl (fun v s1 G hp hG => ?_)
    have hG9 := hG
    obtain ⟨hv1, hs2⟩ := hp
    subst hv1
    subst hs2
    rw [t38]
    have hAG : AG s9 s1 := by
      rw [hs1, hs9]; exact AG_thr s k
    have hIN : INV X1 s9 (q + 1) := by
      rw [hs9]; exact INV.q1 (Nat.le_succ q) hI0 (fun _ _ _ _ _ _ _ _ => rfl) rfl hx1 hx2
    have hfin := hM1.fin hG9 hAG hIN
    refine v_iload (pc := 233) dL_law_233 rfl ?_
    refine v_icmp_eq (pc := 235) (tgt := 240) dL_law_235 (by decide) (fun c235 => ?_) (fun c235 => absurd c235 (not_not_intro rfl))
    refine v_iload (pc := 240) dL_law_240 rfl ?_
    refine v_if_ne (pc := 242) (tgt := 257) dL_law_242 (by decide) (fun c242 => ?_) (fun c242 => absurd c242 hk)
    refine v_goto (pc := 257) (tgt := 2232) dL_law_257 (by decide) ?_
    refine v_forget 6 ?_
    refine v_forget 7 ?_
    refine v_forget 8 ?_
    exact kk _ _ _ _ hfin ⟨by show n1 + 1 ≤ 60 + 2 * (q + 1); omega, by show n2 + 8 ≤ 2000 + 20 * (q + 1); omega⟩
theorem ll_strength : Cond.methodLink "BroadseamLoftLaw" 136 yL_strength ∈ lw_all ∧ Cond.initialized yL_strength.cls ∈ lw_all ∧ Cond.static yL_strength ∈ lw_all ∧ (yL_strength.cls ≠ "java/lang/invoke/MethodHandle" ∧ yL_strength.cls ≠ "java/lang/invoke/VarHandle" ∧ (parseMethodDescriptor yL_strength.desc).map (fun d => d.parameters.length) = some 3) := ⟨(lw_mem 374 (by decide +kernel) rfl), (lw_mem 32 (by decide +kernel) rfl), (lw_mem 375 (by decide +kernel) rfl), by decide +kernel, by decide +kernel, by decide +kernel⟩
set_option maxRecDepth 100000 in
set_option maxHeartbeats 1000000 in
theorem k_strength {D : DT} {K : KT} {b L : Nat} {xs : Nat → Int32} (hS : SC K b L xs) (hNC : NC3 K.2.2.2.1) (hL : L ≤ 2560) {m o oD x0 : Nat} {ad : Nat → Nat} (q : Nat) (hq : 5 * q + 5 ≤ L) {X : XT} {s : SG} {G : GT} {n : Nat × Nat} (hW : HW X s m ad o oD x0 q G) (hn : n.1 ≤ 60 + 2 * q ∧ n.2 ≤ 2000 + 20 * q) (kk : ∀ (X' : XT) (s' : SG) (G' : GT) (n' : Nat × Nat), HW X' s' m ad o oD x0 (q + 1) G' → (n'.1 ≤ 60 + 2 * (q + 1) ∧ n'.2 ≤ 2000 + 20 * (q + 1)) → V cL_law RL 9 room_1 D K 2232 [some (.ref b), some (.ref x0), some (.ref m), some (.ref o), some (.ref oD), some (.int (nI (5 * q))), none, none, none] [] G' n') : V cL_law RL 9 room_1 D K 420 [some (.ref b), some (.ref x0), some (.ref m), some (.ref o), some (.ref oD), some (.int (nI (5 * q))), none, none, none] [] G n := by
  obtain ⟨hM, hI⟩ := hW
  have hI0 := hI
  obtain ⟨a, b1, c, g, ns, nl, i1, i2, i3, i4, i5, i6, i7, i8, i9⟩ := hI
  have hx0 : X.1 0 0 = x0 := hM.2.2.2.2.2.2
  subst hx0
  obtain ⟨n1, n2⟩ := n
  have hn1 : n1 ≤ 60 + 2 * q := hn.1
  have hn2 : n2 ≤ 2000 + 20 * q := hn.2
  have hn511 : nl < 512 := by have := i6.2.1; omega
  have hn512 : nl ≤ 512 := by omega
  refine v_aload_n (pc := 420) dL_law_420 rfl rfl ?_
  refine v_aload_n (pc := 421) dL_law_421 rfl rfl ?_
  refine v_iload (pc := 422) dL_law_422 rfl ?_
  refine v_iconst (pc := 424) (v := 1) dL_law_424 (by decide) ?_
  refine v_iadd (pc := 425) dL_law_425 ?_
  refine v_sld (pc := 426) (j := 5 * q + 1) hS dL_law_426 (by rw [show (1 : Int32) = nI 1 from rfl, nI_add]) (by omega) hL ?_
  refine v_aload_n (pc := 427) dL_law_427 rfl rfl ?_
  refine v_callL (pc := 428) (As := [.ref (X.1 0 0), .int _, .ref o]) (rest := []) hNC dL_law_428 ll_strength.1 ll_strength.2.1 wl_strength ll_strength.2.2.2 ll_strength.2.2.1 (c_L_strength D G (X.1, X.2.1, X.2.2.1, RESTP m ad o oD, G) s (RESTP m ad o oD) o b1 _ hM.re rfl (Or.inr (Or.inr (Or.inl rfl))) hM.2.2.1 (ipw i2 i1.2.1) i2.1 i2.2.1 i2.2.2.1) rfl rfl (Nat.le_of_ble_eq_true rfl) ⟨Nat.le_of_ble_eq_true rfl, Nat.le_of_ble_eq_true rfl⟩ ⟨by show n1 + 1 ≤ 601024; omega, by show n2 + 6 ≤ 7293034; omega⟩ (fun v G1 hp => ?_)
  obtain ⟨X1, s9, hL1, hA1, h01, hF1, hT1, k, hv, hk⟩ := hp
  subst hv
  have hM1 := hM.mid (Or.inl ⟨rfl, rfl⟩) hL1 hA1 (h01 0 (by decide)) hF1 hT1
  have hG := hM1.md
  refine (?_ : V cL_law RL 9 room_1 D K 431 _ _ G1 (n1 + 1, n2 + 6))
  rcases hk with ⟨hk, hok⟩ | ⟨hk, herr, hs9, hx1, hx2⟩
  · subst hk
    obtain ⟨hval, hx1, hx2, hs9, hk0⟩ := hok
    refine v_istore (pc := 431) dL_law_431 rfl (by decide) ?_
    refine v_aload_n (pc := 433) dL_law_433 rfl rfl ?_
    refine v_aload_n (pc := 434) dL_law_434 rfl rfl ?_
    refine v_iload (pc := 435) dL_law_435 rfl ?_
    refine v_iconst (pc := 437) (v := 1) dL_law_437 (by decide) ?_
    refine v_iadd (pc := 438) dL_law_438 ?_
    refine v_sld (pc := 439) (j := 5 * q + 1) hS dL_law_439 (by rw [show (1 : Int32) = nI 1 from rfl, nI_add]) (by omega) hL ?_
    refine vm_callV1 (pc := 440) (n1 + 1, n2 + 6) hG dL_law_440 cw_L_139 im_yX9_strength se_yX9_strength (c_X9_strength D m _ _ b1 _ (ipw i2 i1.2.1) i2.1 i2.2.1) rfl (Nat.le_of_ble_eq_true rfl) ⟨Nat.le_of_ble_eq_true rfl, Nat.le_of_ble_eq_true rfl⟩ ⟨by show n1 + 1 + 0 ≤ 601024; omega, by show n2 + 6 + 0 ≤ 7293034; omega⟩ rfl (fun v s1 G hp hG => ?_)
    obtain ⟨hv1, hs1⟩ := hp
    first | rw [if_pos hk0] at hv1 hs1 | (rw [if_pos hk0] at hv1; rw [hk0] at hs1)
    subst hv1
    have t38 : s1.1 38 0 = 0 := by
      rw [hs1]; simp [thr, sI, sJ, u2]
    refine v_lstore (pc := 443) dL_law_443 rfl (by decide) ?_
    refine v_aload_n (pc := 445) dL_law_445 rfl rfl ?_
    refine vm_callV0 (pc := 446) (n1 + 1, n2 + 6) hG dL_law_446 cw_L_124 im_yX9_thrown se_yX9_thrown (c_X9_thrown D m _ _ ) rfl (Nat.le_of_ble_eq_true rfl) ⟨Nat.le_of_ble_eq_true rfl, Nat.le_of_ble_eq_true rfl⟩ ⟨by show n1 + 1 + 0 ≤ 601024; omega, by show n2 + 6 + 0 ≤ 7293034; omega⟩ rfl (fun v s1 G hp hG => ?_)
    have hG9 := hG
    obtain ⟨hv1, hs2⟩ := hp
    subst hv1
    subst hs2
    rw [t38]
    obtain ⟨⟨hTo, hNo, hJo⟩, hTd, hNd, hEd⟩ := hM1.at hG9
    have hAG : AG s9 s1 := by
      rw [hs1, hs9]; exact AG_thr s 0
    have hIN : INV X1 s9 (q + 1) := by
      rw [hs9]; exact INV.q1 (Nat.le_succ q) hI0 (fun _ _ _ _ _ _ _ _ => rfl) rfl hx1 hx2
    have hfin := hM1.fin hG9 hAG hIN
    refine v_iload (pc := 449) dL_law_449 rfl ?_
    refine v_icmp_eq (pc := 451) (tgt := 456) dL_law_451 (by decide) (fun c451 => ?_) (fun c451 => absurd c451 (not_not_intro rfl))
    refine v_iload (pc := 456) dL_law_456 rfl ?_
    refine v_if_ne (pc := 458) (tgt := 472) dL_law_458 (by decide) (fun c458 => absurd c458 (by decide)) (fun c458 => ?_)
    obtain ⟨T, N, I, J, E, Rf⟩ := G
    refine v_aload_n (pc := 461) dL_law_461 rfl rfl ?_
    refine v_iconst (pc := 462) (v := 0) dL_law_462 (by decide) ?_
    refine v_lald (pc := 463) (j := 0) dL_law_463 hTo hNo rfl (by decide) (by decide) ?_
    refine v_lload (pc := 464) dL_law_464 rfl ?_
    refine v_lcmp (pc := 466) dL_law_466 ?_
    refine v_if_eq (pc := 467) (tgt := 472) dL_law_467 (by decide) (fun c467 => ?_) (fun c467 => absurd c467 (not_not_intro (cmp_eq0.mpr ((congrFun hJo 0).trans (hval.trans rfl)))))
    refine v_goto (pc := 472) (tgt := 2232) dL_law_472 (by decide) ?_
    refine v_forget 6 ?_
    refine v_forget 7 ?_
    refine v_forget 8 ?_
    exact kk _ _ _ _ hfin ⟨by show n1 + 1 ≤ 60 + 2 * (q + 1); omega, by show n2 + 6 ≤ 2000 + 20 * (q + 1); omega⟩
  · refine v_istore (pc := 431) dL_law_431 rfl (by decide) ?_
    refine v_aload_n (pc := 433) dL_law_433 rfl rfl ?_
    refine v_aload_n (pc := 434) dL_law_434 rfl rfl ?_
    refine v_iload (pc := 435) dL_law_435 rfl ?_
    refine v_iconst (pc := 437) (v := 1) dL_law_437 (by decide) ?_
    refine v_iadd (pc := 438) dL_law_438 ?_
    refine v_sld (pc := 439) (j := 5 * q + 1) hS dL_law_439 (by rw [show (1 : Int32) = nI 1 from rfl, nI_add]) (by omega) hL ?_
    refine vm_callV1 (pc := 440) (n1 + 1, n2 + 6) hG dL_law_440 cw_L_139 im_yX9_strength se_yX9_strength (c_X9_strength D m _ _ b1 _ (ipw i2 i1.2.1) i2.1 i2.2.1) rfl (Nat.le_of_ble_eq_true rfl) ⟨Nat.le_of_ble_eq_true rfl, Nat.le_of_ble_eq_true rfl⟩ ⟨by show n1 + 1 + 0 ≤ 601024; omega, by show n2 + 6 + 0 ≤ 7293034; omega⟩ rfl (fun v s1 G hp hG => ?_)
    obtain ⟨hv1, hs1⟩ := hp
    first | rw [if_neg (by rw [herr]; exact hk)] at hv1 hs1 | rw [if_neg (by rw [herr]; exact hk)] at hv1
    rw [herr] at hs1
    subst hv1
    have t38 : s1.1 38 0 = k := by
      rw [hs1]; exact sI_s _ _ _ _
    refine v_lstore (pc := 443) dL_law_443 rfl (by decide) ?_
    refine v_aload_n (pc := 445) dL_law_445 rfl rfl ?_
    refine vm_callV0 (pc := 446) (n1 + 1, n2 + 6) hG dL_law_446 cw_L_124 im_yX9_thrown se_yX9_thrown (c_X9_thrown D m _ _ ) rfl (Nat.le_of_ble_eq_true rfl) ⟨Nat.le_of_ble_eq_true rfl, Nat.le_of_ble_eq_true rfl⟩ ⟨by show n1 + 1 + 0 ≤ 601024; omega, by show n2 + 6 + 0 ≤ 7293034; omega⟩ rfl (fun v s1 G hp hG => ?_)
    have hG9 := hG
    obtain ⟨hv1, hs2⟩ := hp
    subst hv1
    subst hs2
    rw [t38]
    have hAG : AG s9 s1 := by
      rw [hs1, hs9]; exact AG_thr s k
    have hIN : INV X1 s9 (q + 1) := by
      rw [hs9]; exact INV.q1 (Nat.le_succ q) hI0 (fun _ _ _ _ _ _ _ _ => rfl) rfl hx1 hx2
    have hfin := hM1.fin hG9 hAG hIN
    refine v_iload (pc := 449) dL_law_449 rfl ?_
    refine v_icmp_eq (pc := 451) (tgt := 456) dL_law_451 (by decide) (fun c451 => ?_) (fun c451 => absurd c451 (not_not_intro rfl))
    refine v_iload (pc := 456) dL_law_456 rfl ?_
    refine v_if_ne (pc := 458) (tgt := 472) dL_law_458 (by decide) (fun c458 => ?_) (fun c458 => absurd c458 hk)
    refine v_goto (pc := 472) (tgt := 2232) dL_law_472 (by decide) ?_
    refine v_forget 6 ?_
    refine v_forget 7 ?_
    refine v_forget 8 ?_
    exact kk _ _ _ _ hfin ⟨by show n1 + 1 ≤ 60 + 2 * (q + 1); omega, by show n2 + 6 ≤ 2000 + 20 * (q + 1); omega⟩
theorem ll_sun : Cond.methodLink "BroadseamLoftLaw" 128 yL_sun ∈ lw_all ∧ Cond.initialized yL_sun.cls ∈ lw_all ∧ Cond.static yL_sun ∈ lw_all ∧ (yL_sun.cls ≠ "java/lang/invoke/MethodHandle" ∧ yL_sun.cls ≠ "java/lang/invoke/VarHandle" ∧ (parseMethodDescriptor yL_sun.desc).map (fun d => d.parameters.length) = some 4) := ⟨(lw_mem 300 (by decide +kernel) rfl), (lw_mem 32 (by decide +kernel) rfl), (lw_mem 301 (by decide +kernel) rfl), by decide +kernel, by decide +kernel, by decide +kernel⟩
set_option maxRecDepth 100000 in
set_option maxHeartbeats 1000000 in
theorem k_sun {D : DT} {K : KT} {b L : Nat} {xs : Nat → Int32} (hS : SC K b L xs) (hNC : NC3 K.2.2.2.1) (hL : L ≤ 2560) {m o oD x0 : Nat} {ad : Nat → Nat} (q : Nat) (hq : 5 * q + 5 ≤ L) {X : XT} {s : SG} {G : GT} {n : Nat × Nat} (hW : HW X s m ad o oD x0 q G) (hn : n.1 ≤ 60 + 2 * q ∧ n.2 ≤ 2000 + 20 * q) (kk : ∀ (X' : XT) (s' : SG) (G' : GT) (n' : Nat × Nat), HW X' s' m ad o oD x0 (q + 1) G' → (n'.1 ≤ 60 + 2 * (q + 1) ∧ n'.2 ≤ 2000 + 20 * (q + 1)) → V cL_law RL 9 room_1 D K 2232 [some (.ref b), some (.ref x0), some (.ref m), some (.ref o), some (.ref oD), some (.int (nI (5 * q))), none, none, none] [] G' n') : V cL_law RL 9 room_1 D K 260 [some (.ref b), some (.ref x0), some (.ref m), some (.ref o), some (.ref oD), some (.int (nI (5 * q))), none, none, none] [] G n := by
  obtain ⟨hM, hI⟩ := hW
  have hI0 := hI
  obtain ⟨a, b1, c, g, ns, nl, i1, i2, i3, i4, i5, i6, i7, i8, i9⟩ := hI
  have hx0 : X.1 0 0 = x0 := hM.2.2.2.2.2.2
  subst hx0
  obtain ⟨n1, n2⟩ := n
  have hn1 : n1 ≤ 60 + 2 * q := hn.1
  have hn2 : n2 ≤ 2000 + 20 * q := hn.2
  have hn511 : nl < 512 := by have := i6.2.1; omega
  have hn512 : nl ≤ 512 := by omega
  refine v_aload_n (pc := 260) dL_law_260 rfl rfl ?_
  refine v_aload_n (pc := 261) dL_law_261 rfl rfl ?_
  refine v_iload (pc := 262) dL_law_262 rfl ?_
  refine v_iconst (pc := 264) (v := 1) dL_law_264 (by decide) ?_
  refine v_iadd (pc := 265) dL_law_265 ?_
  refine v_sld (pc := 266) (j := 5 * q + 1) hS dL_law_266 (by rw [show (1 : Int32) = nI 1 from rfl, nI_add]) (by omega) hL ?_
  refine v_aload_n (pc := 267) dL_law_267 rfl rfl ?_
  refine v_iload (pc := 268) dL_law_268 rfl ?_
  refine v_iconst (pc := 270) (v := 2) dL_law_270 (by decide) ?_
  refine v_iadd (pc := 271) dL_law_271 ?_
  refine v_sld (pc := 272) (j := 5 * q + 2) hS dL_law_272 (by rw [show (2 : Int32) = nI 2 from rfl, nI_add]) (by omega) hL ?_
  refine v_aload_n (pc := 273) dL_law_273 rfl rfl ?_
  refine v_callL (pc := 274) (As := [.ref (X.1 0 0), .int _, .int _, .ref o]) (rest := []) hNC dL_law_274 ll_sun.1 ll_sun.2.1 wl_sun ll_sun.2.2.2 ll_sun.2.2.1 (c_L_sun D G (X.1, X.2.1, X.2.2.1, RESTP m ad o oD, G) s (RESTP m ad o oD) o a _ _ hM.re rfl (Or.inr (Or.inr (Or.inl rfl))) hM.2.2.1 i1.1 i1.2.1 i1.2.2.1) rfl rfl (Nat.le_of_ble_eq_true rfl) ⟨Nat.le_of_ble_eq_true rfl, Nat.le_of_ble_eq_true rfl⟩ ⟨by show n1 + 1 ≤ 601024; omega, by show n2 + 6 ≤ 7293034; omega⟩ (fun v G1 hp => ?_)
  obtain ⟨X1, s9, hL1, hA1, h01, hF1, hT1, k, hv, hk⟩ := hp
  subst hv
  have hM1 := hM.mid (Or.inl ⟨rfl, rfl⟩) hL1 hA1 (h01 0 (by decide)) hF1 hT1
  have hG := hM1.md
  refine (?_ : V cL_law RL 9 room_1 D K 277 _ _ G1 (n1 + 1, n2 + 6))
  rcases hk with ⟨hk, hok⟩ | ⟨hk, herr, hs9, hx1, hx2⟩
  · subst hk
    obtain ⟨hval, hx1, hx2, hs9, hk0⟩ := hok
    refine v_istore (pc := 277) dL_law_277 rfl (by decide) ?_
    refine v_aload_n (pc := 279) dL_law_279 rfl rfl ?_
    refine v_aload_n (pc := 280) dL_law_280 rfl rfl ?_
    refine v_iload (pc := 281) dL_law_281 rfl ?_
    refine v_iconst (pc := 283) (v := 1) dL_law_283 (by decide) ?_
    refine v_iadd (pc := 284) dL_law_284 ?_
    refine v_sld (pc := 285) (j := 5 * q + 1) hS dL_law_285 (by rw [show (1 : Int32) = nI 1 from rfl, nI_add]) (by omega) hL ?_
    refine v_aload_n (pc := 286) dL_law_286 rfl rfl ?_
    refine v_iload (pc := 287) dL_law_287 rfl ?_
    refine v_iconst (pc := 289) (v := 2) dL_law_289 (by decide) ?_
    refine v_iadd (pc := 290) dL_law_290 ?_
    refine v_sld (pc := 291) (j := 5 * q + 2) hS dL_law_291 (by rw [show (2 : Int32) = nI 2 from rfl, nI_add]) (by omega) hL ?_
    refine vm_callV2 (pc := 292) (n1 + 1, n2 + 6) hG dL_law_292 cw_L_131 im_yX9_sun se_yX9_sun (c_X9_sun D m _ _ a _ _ i1.1 i1.2.1) rfl (Nat.le_of_ble_eq_true rfl) ⟨Nat.le_of_ble_eq_true rfl, Nat.le_of_ble_eq_true rfl⟩ ⟨by show n1 + 1 + 0 ≤ 601024; omega, by show n2 + 6 + 0 ≤ 7293034; omega⟩ rfl (fun v s1 G hp hG => ?_)
    obtain ⟨hv1, hs1⟩ := hp
    first | rw [if_pos hk0] at hv1 hs1 | (rw [if_pos hk0] at hv1; rw [hk0] at hs1)
    subst hv1
    have t38 : s1.1 38 0 = 0 := by
      rw [hs1]; simp [gSun, sI, sJ, u2]
    refine v_istore (pc := 295) dL_law_295 rfl (by decide) ?_
    refine v_aload_n (pc := 297) dL_law_297 rfl rfl ?_
    refine vm_callV0 (pc := 298) (n1 + 1, n2 + 6) hG dL_law_298 cw_L_124 im_yX9_thrown se_yX9_thrown (c_X9_thrown D m _ _ ) rfl (Nat.le_of_ble_eq_true rfl) ⟨Nat.le_of_ble_eq_true rfl, Nat.le_of_ble_eq_true rfl⟩ ⟨by show n1 + 1 + 0 ≤ 601024; omega, by show n2 + 6 + 0 ≤ 7293034; omega⟩ rfl (fun v s1 G hp hG => ?_)
    have hG9 := hG
    obtain ⟨hv1, hs2⟩ := hp
    subst hv1
    subst hs2
    rw [t38]
    obtain ⟨⟨hTo, hNo, hJo⟩, hTd, hNd, hEd⟩ := hM1.at hG9
    have hAG : AG s9 s1 := by
      refine ⟨fun k hk hk16 => ?_, ?_, ?_⟩
      · rw [hs1, hs9]; refine funext fun j => ?_; simp [gSun, sI, sJ, u2, show k ≠ 38 by omega, show k ≠ 39 by omega, show k ≠ 40 by omega, show k ≠ 41 by omega, show k ≠ 42 by omega, show k ≠ 43 by omega, show k ≠ 44 by omega, show k ≠ 45 by omega, show k ≠ 46 by omega]
      · rw [hs1, hs9]; first | rfl | (refine funext fun j => ?_; simp [gSun, sI, sJ, u2])
      · rw [hs1, hs9]; first | rfl | (refine funext fun j => ?_; simp [gSun, sI, sJ, u2])
    have hIN : INV X1 s9 (q + 1) := by
      rw [hs9]; exact inv_sun hI0 i1.1 i1.2.1 hk0 hx1 hx2
    have hfin := hM1.fin hG9 hAG hIN
    refine v_iload (pc := 301) dL_law_301 rfl ?_
    refine v_icmp_eq (pc := 303) (tgt := 308) dL_law_303 (by decide) (fun c303 => ?_) (fun c303 => absurd c303 (not_not_intro rfl))
    refine v_iload (pc := 308) dL_law_308 rfl ?_
    refine v_if_ne (pc := 310) (tgt := 325) dL_law_310 (by decide) (fun c310 => absurd c310 (by decide)) (fun c310 => ?_)
    obtain ⟨T, N, I, J, E, Rf⟩ := G
    refine v_aload_n (pc := 313) dL_law_313 rfl rfl ?_
    refine v_iconst (pc := 314) (v := 0) dL_law_314 (by decide) ?_
    refine v_lald (pc := 315) (j := 0) dL_law_315 hTo hNo rfl (by decide) (by decide) ?_
    refine v_iload (pc := 316) dL_law_316 rfl ?_
    refine v_i2l (pc := 318) dL_law_318 ?_
    refine v_lcmp (pc := 319) dL_law_319 ?_
    refine v_if_eq (pc := 320) (tgt := 325) dL_law_320 (by decide) (fun c320 => ?_) (fun c320 => absurd c320 (not_not_intro (cmp_eq0.mpr ((congrFun hJo 0).trans (hval.trans rfl)))))
    refine v_goto (pc := 325) (tgt := 2232) dL_law_325 (by decide) ?_
    refine v_forget 6 ?_
    refine v_forget 7 ?_
    refine v_forget 8 ?_
    exact kk _ _ _ _ hfin ⟨by show n1 + 1 ≤ 60 + 2 * (q + 1); omega, by show n2 + 6 ≤ 2000 + 20 * (q + 1); omega⟩
  · refine v_istore (pc := 277) dL_law_277 rfl (by decide) ?_
    refine v_aload_n (pc := 279) dL_law_279 rfl rfl ?_
    refine v_aload_n (pc := 280) dL_law_280 rfl rfl ?_
    refine v_iload (pc := 281) dL_law_281 rfl ?_
    refine v_iconst (pc := 283) (v := 1) dL_law_283 (by decide) ?_
    refine v_iadd (pc := 284) dL_law_284 ?_
    refine v_sld (pc := 285) (j := 5 * q + 1) hS dL_law_285 (by rw [show (1 : Int32) = nI 1 from rfl, nI_add]) (by omega) hL ?_
    refine v_aload_n (pc := 286) dL_law_286 rfl rfl ?_
    refine v_iload (pc := 287) dL_law_287 rfl ?_
    refine v_iconst (pc := 289) (v := 2) dL_law_289 (by decide) ?_
    refine v_iadd (pc := 290) dL_law_290 ?_
    refine v_sld (pc := 291) (j := 5 * q + 2) hS dL_law_291 (by rw [show (2 : Int32) = nI 2 from rfl, nI_add]) (by omega) hL ?_
    refine vm_callV2 (pc := 292) (n1 + 1, n2 + 6) hG dL_law_292 cw_L_131 im_yX9_sun se_yX9_sun (c_X9_sun D m _ _ a _ _ i1.1 i1.2.1) rfl (Nat.le_of_ble_eq_true rfl) ⟨Nat.le_of_ble_eq_true rfl, Nat.le_of_ble_eq_true rfl⟩ ⟨by show n1 + 1 + 0 ≤ 601024; omega, by show n2 + 6 + 0 ≤ 7293034; omega⟩ rfl (fun v s1 G hp hG => ?_)
    obtain ⟨hv1, hs1⟩ := hp
    first | rw [if_neg (by rw [herr]; exact hk)] at hv1 hs1 | rw [if_neg (by rw [herr]; exact hk)] at hv1
    rw [herr] at hs1
    subst hv1
    have t38 : s1.1 38 0 = k := by
      rw [hs1]; exact sI_s _ _ _ _
    refine v_istore (pc := 295) dL_law_295 rfl (by decide) ?_
    refine v_aload_n (pc := 297) dL_law_297 rfl rfl ?_
    refine vm_callV0 (pc := 298) (n1 + 1, n2 + 6) hG dL_law_298 cw_L_124 im_yX9_thrown se_yX9_thrown (c_X9_thrown D m _ _ ) rfl (Nat.le_of_ble_eq_true rfl) ⟨Nat.le_of_ble_eq_true rfl, Nat.le_of_ble_eq_true rfl⟩ ⟨by show n1 + 1 + 0 ≤ 601024; omega, by show n2 + 6 + 0 ≤ 7293034; omega⟩ rfl (fun v s1 G hp hG => ?_)
    have hG9 := hG
    obtain ⟨hv1, hs2⟩ := hp
    subst hv1
    subst hs2
    rw [t38]
    have hAG : AG s9 s1 := by
      rw [hs1, hs9]; exact AG_thr s k
    have hIN : INV X1 s9 (q + 1) := by
      rw [hs9]; exact INV.q1 (Nat.le_succ q) hI0 (fun _ _ _ _ _ _ _ _ => rfl) rfl hx1 hx2
    have hfin := hM1.fin hG9 hAG hIN
    refine v_iload (pc := 301) dL_law_301 rfl ?_
    refine v_icmp_eq (pc := 303) (tgt := 308) dL_law_303 (by decide) (fun c303 => ?_) (fun c303 => absurd c303 (not_not_intro rfl))
    refine v_iload (pc := 308) dL_law_308 rfl ?_
    refine v_if_ne (pc := 310) (tgt := 325) dL_law_310 (by decide) (fun c310 => ?_) (fun c310 => absurd c310 hk)
    refine v_goto (pc := 325) (tgt := 2232) dL_law_325 (by decide) ?_
    refine v_forget 6 ?_
    refine v_forget 7 ?_
    refine v_forget 8 ?_
    exact kk _ _ _ _ hfin ⟨by show n1 + 1 ≤ 60 + 2 * (q + 1); omega, by show n2 + 6 ≤ 2000 + 20 * (q + 1); omega⟩
theorem ll_panel : Cond.methodLink "BroadseamLoftLaw" 132 yL_panel ∈ lw_all ∧ Cond.initialized yL_panel.cls ∈ lw_all ∧ Cond.static yL_panel ∈ lw_all ∧ (yL_panel.cls ≠ "java/lang/invoke/MethodHandle" ∧ yL_panel.cls ≠ "java/lang/invoke/VarHandle" ∧ (parseMethodDescriptor yL_panel.desc).map (fun d => d.parameters.length) = some 6) := ⟨(lw_mem 334 (by decide +kernel) rfl), (lw_mem 32 (by decide +kernel) rfl), (lw_mem 335 (by decide +kernel) rfl), by decide +kernel, by decide +kernel, by decide +kernel⟩
set_option maxRecDepth 100000 in
set_option maxHeartbeats 1000000 in
theorem k_panel {D : DT} {K : KT} {b L : Nat} {xs : Nat → Int32} (hS : SC K b L xs) (hNC : NC3 K.2.2.2.1) (hL : L ≤ 2560) {m o oD x0 : Nat} {ad : Nat → Nat} (q : Nat) (hq : 5 * q + 5 ≤ L) {X : XT} {s : SG} {G : GT} {n : Nat × Nat} (hW : HW X s m ad o oD x0 q G) (hn : n.1 ≤ 60 + 2 * q ∧ n.2 ≤ 2000 + 20 * q) (kk : ∀ (X' : XT) (s' : SG) (G' : GT) (n' : Nat × Nat), HW X' s' m ad o oD x0 (q + 1) G' → (n'.1 ≤ 60 + 2 * (q + 1) ∧ n'.2 ≤ 2000 + 20 * (q + 1)) → V cL_law RL 9 room_1 D K 2232 [some (.ref b), some (.ref x0), some (.ref m), some (.ref o), some (.ref oD), some (.int (nI (5 * q))), none, none, none] [] G' n') : V cL_law RL 9 room_1 D K 328 [some (.ref b), some (.ref x0), some (.ref m), some (.ref o), some (.ref oD), some (.int (nI (5 * q))), none, none, none] [] G n := by
  obtain ⟨hM, hI⟩ := hW
  have hI0 := hI
  obtain ⟨a, b1, c, g, ns, nl, i1, i2, i3, i4, i5, i6, i7, i8, i9⟩ := hI
  have hx0 : X.1 0 0 = x0 := hM.2.2.2.2.2.2
  subst hx0
  obtain ⟨n1, n2⟩ := n
  have hn1 : n1 ≤ 60 + 2 * q := hn.1
  have hn2 : n2 ≤ 2000 + 20 * q := hn.2
  have hn511 : nl < 512 := by have := i6.2.1; omega
  have hn512 : nl ≤ 512 := by omega
  refine v_aload_n (pc := 328) dL_law_328 rfl rfl ?_
  refine v_aload_n (pc := 329) dL_law_329 rfl rfl ?_
  refine v_iload (pc := 330) dL_law_330 rfl ?_
  refine v_iconst (pc := 332) (v := 1) dL_law_332 (by decide) ?_
  refine v_iadd (pc := 333) dL_law_333 ?_
  refine v_sld (pc := 334) (j := 5 * q + 1) hS dL_law_334 (by rw [show (1 : Int32) = nI 1 from rfl, nI_add]) (by omega) hL ?_
  refine v_aload_n (pc := 335) dL_law_335 rfl rfl ?_
  refine v_iload (pc := 336) dL_law_336 rfl ?_
  refine v_iconst (pc := 338) (v := 2) dL_law_338 (by decide) ?_
  refine v_iadd (pc := 339) dL_law_339 ?_
  refine v_sld (pc := 340) (j := 5 * q + 2) hS dL_law_340 (by rw [show (2 : Int32) = nI 2 from rfl, nI_add]) (by omega) hL ?_
  refine v_aload_n (pc := 341) dL_law_341 rfl rfl ?_
  refine v_iload (pc := 342) dL_law_342 rfl ?_
  refine v_iconst (pc := 344) (v := 3) dL_law_344 (by decide) ?_
  refine v_iadd (pc := 345) dL_law_345 ?_
  refine v_sld (pc := 346) (j := 5 * q + 3) hS dL_law_346 (by rw [show (3 : Int32) = nI 3 from rfl, nI_add]) (by omega) hL ?_
  refine v_aload_n (pc := 347) dL_law_347 rfl rfl ?_
  refine v_iload (pc := 348) dL_law_348 rfl ?_
  refine v_iconst (pc := 350) (v := 4) dL_law_350 (by decide) ?_
  refine v_iadd (pc := 351) dL_law_351 ?_
  refine v_sld (pc := 352) (j := 5 * q + 4) hS dL_law_352 (by rw [show (4 : Int32) = nI 4 from rfl, nI_add]) (by omega) hL ?_
  refine v_aload_n (pc := 353) dL_law_353 rfl rfl ?_
  refine v_callL (pc := 354) (As := [.ref (X.1 0 0), .int _, .int _, .int _, .int _, .ref o]) (rest := []) hNC dL_law_354 ll_panel.1 ll_panel.2.1 wl_panel ll_panel.2.2.2 ll_panel.2.2.1 (c_L_panel D G (X.1, X.2.1, X.2.2.1, RESTP m ad o oD, G) s (RESTP m ad o oD) o a b1 _ _ _ _ hM.re rfl (Or.inr (Or.inr (Or.inl rfl))) hM.2.2.1 i1.1 i1.2.1 i1.2.2.1 i2.1 i2.2.1 (i2.2.2.2.1 b1 (Nat.le_refl b1)) i9) rfl rfl (Nat.le_of_ble_eq_true rfl) ⟨Nat.le_of_ble_eq_true rfl, Nat.le_of_ble_eq_true rfl⟩ ⟨by show n1 + 1 ≤ 601024; omega, by show n2 + 6 ≤ 7293034; omega⟩ (fun v G1 hp => ?_)
  obtain ⟨X1, s9, hL1, hA1, h01, hF1, hT1, k, hv, hk⟩ := hp
  subst hv
  have hM1 := hM.mid (Or.inl ⟨rfl, rfl⟩) hL1 hA1 (h01 0 (by decide)) hF1 hT1
  have hG := hM1.md
  refine (?_ : V cL_law RL 9 room_1 D K 357 _ _ G1 (n1 + 1, n2 + 6))
  rcases hk with ⟨hk, hok⟩ | ⟨hk, herr, hs9, hx1, hx2⟩
  · subst hk
    obtain ⟨hval, hs9, hx1, hx2, hk0⟩ := hok
    refine v_istore (pc := 357) dL_law_357 rfl (by decide) ?_
    refine v_aload_n (pc := 359) dL_law_359 rfl rfl ?_
    refine v_aload_n (pc := 360) dL_law_360 rfl rfl ?_
    refine v_iload (pc := 361) dL_law_361 rfl ?_
    refine v_iconst (pc := 363) (v := 1) dL_law_363 (by decide) ?_
    refine v_iadd (pc := 364) dL_law_364 ?_
    refine v_sld (pc := 365) (j := 5 * q + 1) hS dL_law_365 (by rw [show (1 : Int32) = nI 1 from rfl, nI_add]) (by omega) hL ?_
    refine v_aload_n (pc := 366) dL_law_366 rfl rfl ?_
    refine v_iload (pc := 367) dL_law_367 rfl ?_
    refine v_iconst (pc := 369) (v := 2) dL_law_369 (by decide) ?_
    refine v_iadd (pc := 370) dL_law_370 ?_
    refine v_sld (pc := 371) (j := 5 * q + 2) hS dL_law_371 (by rw [show (2 : Int32) = nI 2 from rfl, nI_add]) (by omega) hL ?_
    refine v_aload_n (pc := 372) dL_law_372 rfl rfl ?_
    refine v_iload (pc := 373) dL_law_373 rfl ?_
    refine v_iconst (pc := 375) (v := 3) dL_law_375 (by decide) ?_
    refine v_iadd (pc := 376) dL_law_376 ?_
    refine v_sld (pc := 377) (j := 5 * q + 3) hS dL_law_377 (by rw [show (3 : Int32) = nI 3 from rfl, nI_add]) (by omega) hL ?_
    refine v_aload_n (pc := 378) dL_law_378 rfl rfl ?_
    refine v_iload (pc := 379) dL_law_379 rfl ?_
    refine v_iconst (pc := 381) (v := 4) dL_law_381 (by decide) ?_
    refine v_iadd (pc := 382) dL_law_382 ?_
    refine v_sld (pc := 383) (j := 5 * q + 4) hS dL_law_383 (by rw [show (4 : Int32) = nI 4 from rfl, nI_add]) (by omega) hL ?_
    refine vm_callV4 (pc := 384) (n1 + 1, n2 + 6) hG dL_law_384 cw_L_135 im_yX9_panel se_yX9_panel (c_X9_panel D m _ _ a b1 _ _ _ _ i1.1 i1.2.1 i2.1 i2.2.1) rfl (Nat.le_of_ble_eq_true rfl) ⟨Nat.le_of_ble_eq_true rfl, Nat.le_of_ble_eq_true rfl⟩ ⟨by show n1 + 1 + 0 ≤ 601024; omega, by show n2 + 6 + 0 ≤ 7293034; omega⟩ rfl (fun v s1 G hp hG => ?_)
    obtain ⟨hv1, hs1⟩ := hp
    first | rw [if_pos hk0] at hv1 hs1 | (rw [if_pos hk0] at hv1; rw [hk0] at hs1)
    subst hv1
    have t38 : s1.1 38 0 = 0 := by
      rw [hs1]; simp [gPan, sI, sJ, u2]
    refine v_istore (pc := 387) dL_law_387 rfl (by decide) ?_
    refine v_aload_n (pc := 389) dL_law_389 rfl rfl ?_
    refine vm_callV0 (pc := 390) (n1 + 1, n2 + 6) hG dL_law_390 cw_L_124 im_yX9_thrown se_yX9_thrown (c_X9_thrown D m _ _ ) rfl (Nat.le_of_ble_eq_true rfl) ⟨Nat.le_of_ble_eq_true rfl, Nat.le_of_ble_eq_true rfl⟩ ⟨by show n1 + 1 + 0 ≤ 601024; omega, by show n2 + 6 + 0 ≤ 7293034; omega⟩ rfl (fun v s1 G hp hG => ?_)
    have hG9 := hG
    obtain ⟨hv1, hs2⟩ := hp
    subst hv1
    subst hs2
    rw [t38]
    obtain ⟨⟨hTo, hNo, hJo⟩, hTd, hNd, hEd⟩ := hM1.at hG9
    have hAG : AG s9 s1 := by
      refine ⟨fun k hk hk16 => ?_, ?_, ?_⟩
      · rw [hs1, hs9]; refine funext fun j => ?_
        simp only [sI, u2]
        rw [lyS_n _ _ _ _ ⟨by omega, by omega, by omega⟩]; simp [gPan, pan1, sI, sJ, u2, show k ≠ 38 by omega, show k ≠ 39 by omega, show k ≠ 40 by omega, show k ≠ 41 by omega, show k ≠ 42 by omega, show k ≠ 43 by omega, show k ≠ 44 by omega, show k ≠ 45 by omega, show k ≠ 46 by omega]
      · rw [hs1, hs9, sI_2, lyS_2]; refine funext fun j => ?_; simp [gPan, pan1, sI, sJ, u2]
      · rw [hs1, hs9, sI_2, lyS_2]; refine funext fun j => ?_; simp [gPan, pan1, sI, sJ, u2]
    have hIN : INV X1 s9 (q + 1) := by
      rw [hs9]; exact inv_panel hI0 i1.1 i1.2.1 i2.1 i2.2.1 hk0 hx1 hx2
    have hfin := hM1.fin hG9 hAG hIN
    refine v_iload (pc := 393) dL_law_393 rfl ?_
    refine v_icmp_eq (pc := 395) (tgt := 400) dL_law_395 (by decide) (fun c395 => ?_) (fun c395 => absurd c395 (not_not_intro rfl))
    refine v_iload (pc := 400) dL_law_400 rfl ?_
    refine v_if_ne (pc := 402) (tgt := 417) dL_law_402 (by decide) (fun c402 => absurd c402 (by decide)) (fun c402 => ?_)
    obtain ⟨T, N, I, J, E, Rf⟩ := G
    refine v_aload_n (pc := 405) dL_law_405 rfl rfl ?_
    refine v_iconst (pc := 406) (v := 0) dL_law_406 (by decide) ?_
    refine v_lald (pc := 407) (j := 0) dL_law_407 hTo hNo rfl (by decide) (by decide) ?_
    refine v_iload (pc := 408) dL_law_408 rfl ?_
    refine v_i2l (pc := 410) dL_law_410 ?_
    refine v_lcmp (pc := 411) dL_law_411 ?_
    refine v_if_eq (pc := 412) (tgt := 417) dL_law_412 (by decide) (fun c412 => ?_) (fun c412 => absurd c412 (not_not_intro (cmp_eq0.mpr ((congrFun hJo 0).trans (hval.trans rfl)))))
    refine v_goto (pc := 417) (tgt := 2232) dL_law_417 (by decide) ?_
    refine v_forget 6 ?_
    refine v_forget 7 ?_
    refine v_forget 8 ?_
    exact kk _ _ _ _ hfin ⟨by show n1 + 1 ≤ 60 + 2 * (q + 1); omega, by show n2 + 6 ≤ 2000 + 20 * (q + 1); omega⟩
  · refine v_istore (pc := 357) dL_law_357 rfl (by decide) ?_
    refine v_aload_n (pc := 359) dL_law_359 rfl rfl ?_
    refine v_aload_n (pc := 360) dL_law_360 rfl rfl ?_
    refine v_iload (pc := 361) dL_law_361 rfl ?_
    refine v_iconst (pc := 363) (v := 1) dL_law_363 (by decide) ?_
    refine v_iadd (pc := 364) dL_law_364 ?_
    refine v_sld (pc := 365) (j := 5 * q + 1) hS dL_law_365 (by rw [show (1 : Int32) = nI 1 from rfl, nI_add]) (by omega) hL ?_
    refine v_aload_n (pc := 366) dL_law_366 rfl rfl ?_
    refine v_iload (pc := 367) dL_law_367 rfl ?_
    refine v_iconst (pc := 369) (v := 2) dL_law_369 (by decide) ?_
    refine v_iadd (pc := 370) dL_law_370 ?_
    refine v_sld (pc := 371) (j := 5 * q + 2) hS dL_law_371 (by rw [show (2 : Int32) = nI 2 from rfl, nI_add]) (by omega) hL ?_
    refine v_aload_n (pc := 372) dL_law_372 rfl rfl ?_
    refine v_iload (pc := 373) dL_law_373 rfl ?_
    refine v_iconst (pc := 375) (v := 3) dL_law_375 (by decide) ?_
    refine v_iadd (pc := 376) dL_law_376 ?_
    refine v_sld (pc := 377) (j := 5 * q + 3) hS dL_law_377 (by rw [show (3 : Int32) = nI 3 from rfl, nI_add]) (by omega) hL ?_
    refine v_aload_n (pc := 378) dL_law_378 rfl rfl ?_
    refine v_iload (pc := 379) dL_law_379 rfl ?_
    refine v_iconst (pc := 381) (v := 4) dL_law_381 (by decide) ?_
    refine v_iadd (pc := 382) dL_law_382 ?_
    refine v_sld (pc := 383) (j := 5 * q + 4) hS dL_law_383 (by rw [show (4 : Int32) = nI 4 from rfl, nI_add]) (by omega) hL ?_
    refine vm_callV4 (pc := 384) (n1 + 1, n2 + 6) hG dL_law_384 cw_L_135 im_yX9_panel se_yX9_panel (c_X9_panel D m _ _ a b1 _ _ _ _ i1.1 i1.2.1 i2.1 i2.2.1) rfl (Nat.le_of_ble_eq_true rfl) ⟨Nat.le_of_ble_eq_true rfl, Nat.le_of_ble_eq_true rfl⟩ ⟨by show n1 + 1 + 0 ≤ 601024; omega, by show n2 + 6 + 0 ≤ 7293034; omega⟩ rfl (fun v s1 G hp hG => ?_)
    obtain ⟨hv1, hs1⟩ := hp
    first | rw [if_neg (by rw [herr]; exact hk)] at hv1 hs1 | rw [if_neg (by rw [herr]; exact hk)] at hv1
    rw [herr] at hs1
    subst hv1
    have t38 : s1.1 38 0 = k := by
      rw [hs1]; exact sI_s _ _ _ _
    refine v_istore (pc := 387) dL_law_387 rfl (by decide) ?_
    refine v_aload_n (pc := 389) dL_law_389 rfl rfl ?_
    refine vm_callV0 (pc := 390) (n1 + 1, n2 + 6) hG dL_law_390 cw_L_124 im_yX9_thrown se_yX9_thrown (c_X9_thrown D m _ _ ) rfl (Nat.le_of_ble_eq_true rfl) ⟨Nat.le_of_ble_eq_true rfl, Nat.le_of_ble_eq_true rfl⟩ ⟨by show n1 + 1 + 0 ≤ 601024; omega, by show n2 + 6 + 0 ≤ 7293034; omega⟩ rfl (fun v s1 G hp hG => ?_)
    have hG9 := hG
    obtain ⟨hv1, hs2⟩ := hp
    subst hv1
    subst hs2
    rw [t38]
    have hAG : AG s9 s1 := by
      rw [hs1, hs9]; exact AG_thr s k
    have hIN : INV X1 s9 (q + 1) := by
      rw [hs9]; exact INV.q1 (Nat.le_succ q) hI0 (fun _ _ _ _ _ _ _ _ => rfl) rfl hx1 hx2
    have hfin := hM1.fin hG9 hAG hIN
    refine v_iload (pc := 393) dL_law_393 rfl ?_
    refine v_icmp_eq (pc := 395) (tgt := 400) dL_law_395 (by decide) (fun c395 => ?_) (fun c395 => absurd c395 (not_not_intro rfl))
    refine v_iload (pc := 400) dL_law_400 rfl ?_
    refine v_if_ne (pc := 402) (tgt := 417) dL_law_402 (by decide) (fun c402 => ?_) (fun c402 => absurd c402 hk)
    refine v_goto (pc := 417) (tgt := 2232) dL_law_417 (by decide) ?_
    refine v_forget 6 ?_
    refine v_forget 7 ?_
    refine v_forget 8 ?_
    exact kk _ _ _ _ hfin ⟨by show n1 + 1 ≤ 60 + 2 * (q + 1); omega, by show n2 + 6 ≤ 2000 + 20 * (q + 1); omega⟩
theorem ll_roll : Cond.methodLink "BroadseamLoftLaw" 140 yL_roll ∈ lw_all ∧ Cond.initialized yL_roll.cls ∈ lw_all ∧ Cond.static yL_roll ∈ lw_all ∧ (yL_roll.cls ≠ "java/lang/invoke/MethodHandle" ∧ yL_roll.cls ≠ "java/lang/invoke/VarHandle" ∧ (parseMethodDescriptor yL_roll.desc).map (fun d => d.parameters.length) = some 3) := ⟨(lw_mem 395 (by decide +kernel) rfl), (lw_mem 32 (by decide +kernel) rfl), (lw_mem 396 (by decide +kernel) rfl), by decide +kernel, by decide +kernel, by decide +kernel⟩
set_option maxRecDepth 100000 in
set_option maxHeartbeats 1000000 in
theorem k_roll {D : DT} {K : KT} {b L : Nat} {xs : Nat → Int32} (hS : SC K b L xs) (hNC : NC3 K.2.2.2.1) (hL : L ≤ 2560) {m o oD x0 : Nat} {ad : Nat → Nat} (q : Nat) (hq : 5 * q + 5 ≤ L) {X : XT} {s : SG} {G : GT} {n : Nat × Nat} (hW : HW X s m ad o oD x0 q G) (hn : n.1 ≤ 60 + 2 * q ∧ n.2 ≤ 2000 + 20 * q) (kk : ∀ (X' : XT) (s' : SG) (G' : GT) (n' : Nat × Nat), HW X' s' m ad o oD x0 (q + 1) G' → (n'.1 ≤ 60 + 2 * (q + 1) ∧ n'.2 ≤ 2000 + 20 * (q + 1)) → V cL_law RL 9 room_1 D K 2232 [some (.ref b), some (.ref x0), some (.ref m), some (.ref o), some (.ref oD), some (.int (nI (5 * q))), none, none, none] [] G' n') : V cL_law RL 9 room_1 D K 475 [some (.ref b), some (.ref x0), some (.ref m), some (.ref o), some (.ref oD), some (.int (nI (5 * q))), none, none, none] [] G n := by
  obtain ⟨hM, hI⟩ := hW
  have hI0 := hI
  obtain ⟨a, b1, c, g, ns, nl, i1, i2, i3, i4, i5, i6, i7, i8, i9⟩ := hI
  have hx0 : X.1 0 0 = x0 := hM.2.2.2.2.2.2
  subst hx0
  obtain ⟨n1, n2⟩ := n
  have hn1 : n1 ≤ 60 + 2 * q := hn.1
  have hn2 : n2 ≤ 2000 + 20 * q := hn.2
  have hn511 : nl < 512 := by have := i6.2.1; omega
  have hn512 : nl ≤ 512 := by omega
  refine v_aload_n (pc := 475) dL_law_475 rfl rfl ?_
  refine v_aload_n (pc := 476) dL_law_476 rfl rfl ?_
  refine v_iload (pc := 477) dL_law_477 rfl ?_
  refine v_iconst (pc := 479) (v := 1) dL_law_479 (by decide) ?_
  refine v_iadd (pc := 480) dL_law_480 ?_
  refine v_sld (pc := 481) (j := 5 * q + 1) hS dL_law_481 (by rw [show (1 : Int32) = nI 1 from rfl, nI_add]) (by omega) hL ?_
  refine v_aload_n (pc := 482) dL_law_482 rfl rfl ?_
  refine v_callL (pc := 483) (As := [.ref (X.1 0 0), .int _, .ref o]) (rest := []) hNC dL_law_483 ll_roll.1 ll_roll.2.1 wl_roll ll_roll.2.2.2 ll_roll.2.2.1 (c_L_roll D G (X.1, X.2.1, X.2.2.1, RESTP m ad o oD, G) s (RESTP m ad o oD) o a _ hM.re rfl (Or.inr (Or.inr (Or.inl rfl))) hM.2.2.1 i1.1 i1.2.1 i1.2.2.1) rfl rfl (Nat.le_of_ble_eq_true rfl) ⟨Nat.le_of_ble_eq_true rfl, Nat.le_of_ble_eq_true rfl⟩ ⟨by show n1 + 1 ≤ 601024; omega, by show n2 + 6 ≤ 7293034; omega⟩ (fun v G1 hp => ?_)
  obtain ⟨X1, s9, hL1, hA1, h01, hF1, hT1, k, hv, hk⟩ := hp
  subst hv
  have hM1 := hM.mid (Or.inl ⟨rfl, rfl⟩) hL1 hA1 (h01 0 (by decide)) hF1 hT1
  have hG := hM1.md
  refine (?_ : V cL_law RL 9 room_1 D K 486 _ _ G1 (n1 + 1, n2 + 6))
  rcases hk with ⟨hk, hok⟩ | ⟨hk, herr, hs9, hx1, hx2⟩
  · subst hk
    obtain ⟨hval, hx1, hx2, hs9, hk0⟩ := hok
    refine v_istore (pc := 486) dL_law_486 rfl (by decide) ?_
    refine v_aload_n (pc := 488) dL_law_488 rfl rfl ?_
    refine v_aload_n (pc := 489) dL_law_489 rfl rfl ?_
    refine v_iload (pc := 490) dL_law_490 rfl ?_
    refine v_iconst (pc := 492) (v := 1) dL_law_492 (by decide) ?_
    refine v_iadd (pc := 493) dL_law_493 ?_
    refine v_sld (pc := 494) (j := 5 * q + 1) hS dL_law_494 (by rw [show (1 : Int32) = nI 1 from rfl, nI_add]) (by omega) hL ?_
    refine vm_callV1 (pc := 495) (n1 + 1, n2 + 6) hG dL_law_495 cw_L_142 im_yX9_roll se_yX9_roll (c_X9_roll D m _ _ a b1 _ i1.1 i1.2.1 i2.1 i2.2.1) rfl (Nat.le_of_ble_eq_true rfl) ⟨Nat.le_of_ble_eq_true rfl, Nat.le_of_ble_eq_true rfl⟩ ⟨by show n1 + 1 + 0 ≤ 601024; omega, by show n2 + 6 + 0 ≤ 7293034; omega⟩ rfl (fun v s1 G hp hG => ?_)
    obtain ⟨hv1, hs1⟩ := hp
    first | rw [if_pos hk0] at hv1 hs1 | (rw [if_pos hk0] at hv1; rw [hk0] at hs1)
    subst hv1
    have t38 : s1.1 38 0 = 0 := by
      rw [hs1]; simp [thr, sI, sJ, u2]
    refine v_istore (pc := 498) dL_law_498 rfl (by decide) ?_
    refine v_aload_n (pc := 500) dL_law_500 rfl rfl ?_
    refine vm_callV0 (pc := 501) (n1 + 1, n2 + 6) hG dL_law_501 cw_L_124 im_yX9_thrown se_yX9_thrown (c_X9_thrown D m _ _ ) rfl (Nat.le_of_ble_eq_true rfl) ⟨Nat.le_of_ble_eq_true rfl, Nat.le_of_ble_eq_true rfl⟩ ⟨by show n1 + 1 + 0 ≤ 601024; omega, by show n2 + 6 + 0 ≤ 7293034; omega⟩ rfl (fun v s1 G hp hG => ?_)
    have hG9 := hG
    obtain ⟨hv1, hs2⟩ := hp
    subst hv1
    subst hs2
    rw [t38]
    obtain ⟨⟨hTo, hNo, hJo⟩, hTd, hNd, hEd⟩ := hM1.at hG9
    have hAG : AG s9 s1 := by
      rw [hs1, hs9]; exact AG_thr s 0
    have hIN : INV X1 s9 (q + 1) := by
      rw [hs9]; exact INV.q1 (Nat.le_succ q) hI0 (fun _ _ _ _ _ _ _ _ => rfl) rfl hx1 hx2
    have hfin := hM1.fin hG9 hAG hIN
    refine v_iload (pc := 504) dL_law_504 rfl ?_
    refine v_icmp_eq (pc := 506) (tgt := 511) dL_law_506 (by decide) (fun c506 => ?_) (fun c506 => absurd c506 (not_not_intro rfl))
    refine v_iload (pc := 511) dL_law_511 rfl ?_
    refine v_if_ne (pc := 513) (tgt := 528) dL_law_513 (by decide) (fun c513 => absurd c513 (by decide)) (fun c513 => ?_)
    obtain ⟨T, N, I, J, E, Rf⟩ := G
    refine v_aload_n (pc := 516) dL_law_516 rfl rfl ?_
    refine v_iconst (pc := 517) (v := 0) dL_law_517 (by decide) ?_
    refine v_lald (pc := 518) (j := 0) dL_law_518 hTo hNo rfl (by decide) (by decide) ?_
    refine v_iload (pc := 519) dL_law_519 rfl ?_
    refine v_i2l (pc := 521) dL_law_521 ?_
    refine v_lcmp (pc := 522) dL_law_522 ?_
    refine v_if_eq (pc := 523) (tgt := 528) dL_law_523 (by decide) (fun c523 => ?_) (fun c523 => absurd c523 (not_not_intro (cmp_eq0.mpr ((congrFun hJo 0).trans (hval.trans (congrArg Int32.toInt64 (roll_eq (r39 := s.1 39) (r41 := s.1 41) i2 i1.2.1 hk0)))))))
    refine v_goto (pc := 528) (tgt := 2232) dL_law_528 (by decide) ?_
    refine v_forget 6 ?_
    refine v_forget 7 ?_
    refine v_forget 8 ?_
    exact kk _ _ _ _ hfin ⟨by show n1 + 1 ≤ 60 + 2 * (q + 1); omega, by show n2 + 6 ≤ 2000 + 20 * (q + 1); omega⟩
  · refine v_istore (pc := 486) dL_law_486 rfl (by decide) ?_
    refine v_aload_n (pc := 488) dL_law_488 rfl rfl ?_
    refine v_aload_n (pc := 489) dL_law_489 rfl rfl ?_
    refine v_iload (pc := 490) dL_law_490 rfl ?_
    refine v_iconst (pc := 492) (v := 1) dL_law_492 (by decide) ?_
    refine v_iadd (pc := 493) dL_law_493 ?_
    refine v_sld (pc := 494) (j := 5 * q + 1) hS dL_law_494 (by rw [show (1 : Int32) = nI 1 from rfl, nI_add]) (by omega) hL ?_
    refine vm_callV1 (pc := 495) (n1 + 1, n2 + 6) hG dL_law_495 cw_L_142 im_yX9_roll se_yX9_roll (c_X9_roll D m _ _ a b1 _ i1.1 i1.2.1 i2.1 i2.2.1) rfl (Nat.le_of_ble_eq_true rfl) ⟨Nat.le_of_ble_eq_true rfl, Nat.le_of_ble_eq_true rfl⟩ ⟨by show n1 + 1 + 0 ≤ 601024; omega, by show n2 + 6 + 0 ≤ 7293034; omega⟩ rfl (fun v s1 G hp hG => ?_)
    obtain ⟨hv1, hs1⟩ := hp
    first | rw [if_neg (by rw [herr]; exact hk)] at hv1 hs1 | rw [if_neg (by rw [herr]; exact hk)] at hv1
    rw [herr] at hs1
    subst hv1
    have t38 : s1.1 38 0 = k := by
      rw [hs1]; exact sI_s _ _ _ _
    refine v_istore (pc := 498) dL_law_498 rfl (by decide) ?_
    refine v_aload_n (pc := 500) dL_law_500 rfl rfl ?_
    refine vm_callV0 (pc := 501) (n1 + 1, n2 + 6) hG dL_law_501 cw_L_124 im_yX9_thrown se_yX9_thrown (c_X9_thrown D m _ _ ) rfl (Nat.le_of_ble_eq_true rfl) ⟨Nat.le_of_ble_eq_true rfl, Nat.le_of_ble_eq_true rfl⟩ ⟨by show n1 + 1 + 0 ≤ 601024; omega, by show n2 + 6 + 0 ≤ 7293034; omega⟩ rfl (fun v s1 G hp hG => ?_)
    have hG9 := hG
    obtain ⟨hv1, hs2⟩ := hp
    subst hv1
    subst hs2
    rw [t38]
    have hAG : AG s9 s1 := by
      rw [hs1, hs9]; exact AG_thr s k
    have hIN : INV X1 s9 (q + 1) := by
      rw [hs9]; exact INV.q1 (Nat.le_succ q) hI0 (fun _ _ _ _ _ _ _ _ => rfl) rfl hx1 hx2
    have hfin := hM1.fin hG9 hAG hIN
    refine v_iload (pc := 504) dL_law_504 rfl ?_
    refine v_icmp_eq (pc := 506) (tgt := 511) dL_law_506 (by decide) (fun c506 => ?_) (fun c506 => absurd c506 (not_not_intro rfl))
    refine v_iload (pc := 511) dL_law_511 rfl ?_
    refine v_if_ne (pc := 513) (tgt := 528) dL_law_513 (by decide) (fun c513 => ?_) (fun c513 => absurd c513 hk)
    refine v_goto (pc := 528) (tgt := 2232) dL_law_528 (by decide) ?_
    refine v_forget 6 ?_
    refine v_forget 7 ?_
    refine v_forget 8 ?_
    exact kk _ _ _ _ hfin ⟨by show n1 + 1 ≤ 60 + 2 * (q + 1); omega, by show n2 + 6 ≤ 2000 + 20 * (q + 1); omega⟩
theorem ll_seam : Cond.methodLink "BroadseamLoftLaw" 143 yL_seam ∈ lw_all ∧ Cond.initialized yL_seam.cls ∈ lw_all ∧ Cond.static yL_seam ∈ lw_all ∧ (yL_seam.cls ≠ "java/lang/invoke/MethodHandle" ∧ yL_seam.cls ≠ "java/lang/invoke/VarHandle" ∧ (parseMethodDescriptor yL_seam.desc).map (fun d => d.parameters.length) = some 5) := ⟨(lw_mem 406 (by decide +kernel) rfl), (lw_mem 32 (by decide +kernel) rfl), (lw_mem 407 (by decide +kernel) rfl), by decide +kernel, by decide +kernel, by decide +kernel⟩
set_option maxRecDepth 100000 in
set_option maxHeartbeats 1000000 in
theorem k_seam {D : DT} {K : KT} {b L : Nat} {xs : Nat → Int32} (hS : SC K b L xs) (hNC : NC3 K.2.2.2.1) (hL : L ≤ 2560) {m o oD x0 : Nat} {ad : Nat → Nat} (q : Nat) (hq : 5 * q + 5 ≤ L) {X : XT} {s : SG} {G : GT} {n : Nat × Nat} (hW : HW X s m ad o oD x0 q G) (hn : n.1 ≤ 60 + 2 * q ∧ n.2 ≤ 2000 + 20 * q) (kk : ∀ (X' : XT) (s' : SG) (G' : GT) (n' : Nat × Nat), HW X' s' m ad o oD x0 (q + 1) G' → (n'.1 ≤ 60 + 2 * (q + 1) ∧ n'.2 ≤ 2000 + 20 * (q + 1)) → V cL_law RL 9 room_1 D K 2232 [some (.ref b), some (.ref x0), some (.ref m), some (.ref o), some (.ref oD), some (.int (nI (5 * q))), none, none, none] [] G' n') : V cL_law RL 9 room_1 D K 531 [some (.ref b), some (.ref x0), some (.ref m), some (.ref o), some (.ref oD), some (.int (nI (5 * q))), none, none, none] [] G n := by
  obtain ⟨hM, hI⟩ := hW
  have hI0 := hI
  obtain ⟨a, b1, c, g, ns, nl, i1, i2, i3, i4, i5, i6, i7, i8, i9⟩ := hI
  have hx0 : X.1 0 0 = x0 := hM.2.2.2.2.2.2
  subst hx0
  obtain ⟨n1, n2⟩ := n
  have hn1 : n1 ≤ 60 + 2 * q := hn.1
  have hn2 : n2 ≤ 2000 + 20 * q := hn.2
  have hn511 : nl < 512 := by have := i6.2.1; omega
  have hn512 : nl ≤ 512 := by omega
  refine v_aload_n (pc := 531) dL_law_531 rfl rfl ?_
  refine v_aload_n (pc := 532) dL_law_532 rfl rfl ?_
  refine v_iload (pc := 533) dL_law_533 rfl ?_
  refine v_iconst (pc := 535) (v := 1) dL_law_535 (by decide) ?_
  refine v_iadd (pc := 536) dL_law_536 ?_
  refine v_sld (pc := 537) (j := 5 * q + 1) hS dL_law_537 (by rw [show (1 : Int32) = nI 1 from rfl, nI_add]) (by omega) hL ?_
  refine v_aload_n (pc := 538) dL_law_538 rfl rfl ?_
  refine v_iload (pc := 539) dL_law_539 rfl ?_
  refine v_iconst (pc := 541) (v := 2) dL_law_541 (by decide) ?_
  refine v_iadd (pc := 542) dL_law_542 ?_
  refine v_sld (pc := 543) (j := 5 * q + 2) hS dL_law_543 (by rw [show (2 : Int32) = nI 2 from rfl, nI_add]) (by omega) hL ?_
  refine v_aload_n (pc := 544) dL_law_544 rfl rfl ?_
  refine v_iload (pc := 545) dL_law_545 rfl ?_
  refine v_iconst (pc := 547) (v := 3) dL_law_547 (by decide) ?_
  refine v_iadd (pc := 548) dL_law_548 ?_
  refine v_sld (pc := 549) (j := 5 * q + 3) hS dL_law_549 (by rw [show (3 : Int32) = nI 3 from rfl, nI_add]) (by omega) hL ?_
  refine v_aload_n (pc := 550) dL_law_550 rfl rfl ?_
  refine v_callL (pc := 551) (As := [.ref (X.1 0 0), .int _, .int _, .int _, .ref o]) (rest := []) hNC dL_law_551 ll_seam.1 ll_seam.2.1 wl_seam ll_seam.2.2.2 ll_seam.2.2.1 (c_L_seam D G (X.1, X.2.1, X.2.2.1, RESTP m ad o oD, G) s (RESTP m ad o oD) o b1 ns _ _ _ hM.re rfl (Or.inr (Or.inr (Or.inl rfl))) hM.2.2.1 i2.1 i2.2.1 i2.2.2.1 i3.1 i3.2.1 (i3.2.2.2.1 ns (Nat.le_refl ns)).1 i9) rfl rfl (Nat.le_of_ble_eq_true rfl) ⟨Nat.le_of_ble_eq_true rfl, Nat.le_of_ble_eq_true rfl⟩ ⟨by show n1 + 1 ≤ 601024; omega, by show n2 + 6 ≤ 7293034; omega⟩ (fun v G1 hp => ?_)
  obtain ⟨X1, s9, hL1, hA1, h01, hF1, hT1, k, hv, hk⟩ := hp
  subst hv
  have hM1 := hM.mid (Or.inl ⟨rfl, rfl⟩) hL1 hA1 (h01 0 (by decide)) hF1 hT1
  have hG := hM1.md
  refine (?_ : V cL_law RL 9 room_1 D K 554 _ _ G1 (n1 + 1, n2 + 6))
  rcases hk with ⟨hk, hok⟩ | ⟨hk, herr, hs9, hx1, hx2⟩
  · subst hk
    obtain ⟨hval, hs9, hx1, hx2, hk0⟩ := hok
    refine v_istore (pc := 554) dL_law_554 rfl (by decide) ?_
    refine v_aload_n (pc := 556) dL_law_556 rfl rfl ?_
    refine v_aload_n (pc := 557) dL_law_557 rfl rfl ?_
    refine v_iload (pc := 558) dL_law_558 rfl ?_
    refine v_iconst (pc := 560) (v := 1) dL_law_560 (by decide) ?_
    refine v_iadd (pc := 561) dL_law_561 ?_
    refine v_sld (pc := 562) (j := 5 * q + 1) hS dL_law_562 (by rw [show (1 : Int32) = nI 1 from rfl, nI_add]) (by omega) hL ?_
    refine v_aload_n (pc := 563) dL_law_563 rfl rfl ?_
    refine v_iload (pc := 564) dL_law_564 rfl ?_
    refine v_iconst (pc := 566) (v := 2) dL_law_566 (by decide) ?_
    refine v_iadd (pc := 567) dL_law_567 ?_
    refine v_sld (pc := 568) (j := 5 * q + 2) hS dL_law_568 (by rw [show (2 : Int32) = nI 2 from rfl, nI_add]) (by omega) hL ?_
    refine v_aload_n (pc := 569) dL_law_569 rfl rfl ?_
    refine v_iload (pc := 570) dL_law_570 rfl ?_
    refine v_iconst (pc := 572) (v := 3) dL_law_572 (by decide) ?_
    refine v_iadd (pc := 573) dL_law_573 ?_
    refine v_sld (pc := 574) (j := 5 * q + 3) hS dL_law_574 (by rw [show (3 : Int32) = nI 3 from rfl, nI_add]) (by omega) hL ?_
    refine vm_callV3 (pc := 575) (n1 + 1, n2 + 6) hG dL_law_575 cw_L_145 im_yX9_seam se_yX9_seam (c_X9_seam D m _ _ b1 ns _ _ _ i2.1 i3.1 i3.2.1) rfl (Nat.le_of_ble_eq_true rfl) ⟨Nat.le_of_ble_eq_true rfl, Nat.le_of_ble_eq_true rfl⟩ ⟨by show n1 + 1 + 0 ≤ 601024; omega, by show n2 + 6 + 0 ≤ 7293034; omega⟩ rfl (fun v s1 G hp hG => ?_)
    obtain ⟨hv1, hs1⟩ := hp
    first | rw [if_pos hk0] at hv1 hs1 | (rw [if_pos hk0] at hv1; rw [hk0] at hs1)
    subst hv1
    have t38 : s1.1 38 0 = 0 := by
      rw [hs1]; simp [gSeam, sI, sJ, u2]
    refine v_istore (pc := 578) dL_law_578 rfl (by decide) ?_
    refine v_aload_n (pc := 580) dL_law_580 rfl rfl ?_
    refine vm_callV0 (pc := 581) (n1 + 1, n2 + 6) hG dL_law_581 cw_L_124 im_yX9_thrown se_yX9_thrown (c_X9_thrown D m _ _ ) rfl (Nat.le_of_ble_eq_true rfl) ⟨Nat.le_of_ble_eq_true rfl, Nat.le_of_ble_eq_true rfl⟩ ⟨by show n1 + 1 + 0 ≤ 601024; omega, by show n2 + 6 + 0 ≤ 7293034; omega⟩ rfl (fun v s1 G hp hG => ?_)
    have hG9 := hG
    obtain ⟨hv1, hs2⟩ := hp
    subst hv1
    subst hs2
    rw [t38]
    obtain ⟨⟨hTo, hNo, hJo⟩, hTd, hNd, hEd⟩ := hM1.at hG9
    have hAG : AG s9 s1 := by
      refine ⟨fun k hk hk16 => ?_, ?_, ?_⟩
      · rw [hs1, hs9]; refine funext fun j => ?_; simp [gSeam, sI, sJ, u2, show k ≠ 38 by omega, show k ≠ 39 by omega, show k ≠ 40 by omega, show k ≠ 41 by omega, show k ≠ 42 by omega, show k ≠ 43 by omega, show k ≠ 44 by omega, show k ≠ 45 by omega, show k ≠ 46 by omega]
      · rw [hs1, hs9]; first | rfl | (refine funext fun j => ?_; simp [gSeam, sI, sJ, u2])
      · rw [hs1, hs9]; first | rfl | (refine funext fun j => ?_; simp [gSeam, sI, sJ, u2])
    have hIN : INV X1 s9 (q + 1) := by
      rw [hs9]; exact inv_seam hI0 i2.1 i2.2.1 i3.1 i3.2.1 hk0 hx1 hx2
    have hfin := hM1.fin hG9 hAG hIN
    refine v_iload (pc := 584) dL_law_584 rfl ?_
    refine v_icmp_eq (pc := 586) (tgt := 591) dL_law_586 (by decide) (fun c586 => ?_) (fun c586 => absurd c586 (not_not_intro rfl))
    refine v_iload (pc := 591) dL_law_591 rfl ?_
    refine v_if_ne (pc := 593) (tgt := 608) dL_law_593 (by decide) (fun c593 => absurd c593 (by decide)) (fun c593 => ?_)
    obtain ⟨T, N, I, J, E, Rf⟩ := G
    refine v_aload_n (pc := 596) dL_law_596 rfl rfl ?_
    refine v_iconst (pc := 597) (v := 0) dL_law_597 (by decide) ?_
    refine v_lald (pc := 598) (j := 0) dL_law_598 hTo hNo rfl (by decide) (by decide) ?_
    refine v_iload (pc := 599) dL_law_599 rfl ?_
    refine v_i2l (pc := 601) dL_law_601 ?_
    refine v_lcmp (pc := 602) dL_law_602 ?_
    refine v_if_eq (pc := 603) (tgt := 608) dL_law_603 (by decide) (fun c603 => ?_) (fun c603 => absurd c603 (not_not_intro (cmp_eq0.mpr ((congrFun hJo 0).trans (hval.trans rfl)))))
    refine v_goto (pc := 608) (tgt := 2232) dL_law_608 (by decide) ?_
    refine v_forget 6 ?_
    refine v_forget 7 ?_
    refine v_forget 8 ?_
    exact kk _ _ _ _ hfin ⟨by show n1 + 1 ≤ 60 + 2 * (q + 1); omega, by show n2 + 6 ≤ 2000 + 20 * (q + 1); omega⟩
  · refine v_istore (pc := 554) dL_law_554 rfl (by decide) ?_
    refine v_aload_n (pc := 556) dL_law_556 rfl rfl ?_
    refine v_aload_n (pc := 557) dL_law_557 rfl rfl ?_
    refine v_iload (pc := 558) dL_law_558 rfl ?_
    refine v_iconst (pc := 560) (v := 1) dL_law_560 (by decide) ?_
    refine v_iadd (pc := 561) dL_law_561 ?_
    refine v_sld (pc := 562) (j := 5 * q + 1) hS dL_law_562 (by rw [show (1 : Int32) = nI 1 from rfl, nI_add]) (by omega) hL ?_
    refine v_aload_n (pc := 563) dL_law_563 rfl rfl ?_
    refine v_iload (pc := 564) dL_law_564 rfl ?_
    refine v_iconst (pc := 566) (v := 2) dL_law_566 (by decide) ?_
    refine v_iadd (pc := 567) dL_law_567 ?_
    refine v_sld (pc := 568) (j := 5 * q + 2) hS dL_law_568 (by rw [show (2 : Int32) = nI 2 from rfl, nI_add]) (by omega) hL ?_
    refine v_aload_n (pc := 569) dL_law_569 rfl rfl ?_
    refine v_iload (pc := 570) dL_law_570 rfl ?_
    refine v_iconst (pc := 572) (v := 3) dL_law_572 (by decide) ?_
    refine v_iadd (pc := 573) dL_law_573 ?_
    refine v_sld (pc := 574) (j := 5 * q + 3) hS dL_law_574 (by rw [show (3 : Int32) = nI 3 from rfl, nI_add]) (by omega) hL ?_
    refine vm_callV3 (pc := 575) (n1 + 1, n2 + 6) hG dL_law_575 cw_L_145 im_yX9_seam se_yX9_seam (c_X9_seam D m _ _ b1 ns _ _ _ i2.1 i3.1 i3.2.1) rfl (Nat.le_of_ble_eq_true rfl) ⟨Nat.le_of_ble_eq_true rfl, Nat.le_of_ble_eq_true rfl⟩ ⟨by show n1 + 1 + 0 ≤ 601024; omega, by show n2 + 6 + 0 ≤ 7293034; omega⟩ rfl (fun v s1 G hp hG => ?_)
    obtain ⟨hv1, hs1⟩ := hp
    first | rw [if_neg (by rw [herr]; exact hk)] at hv1 hs1 | rw [if_neg (by rw [herr]; exact hk)] at hv1
    rw [herr] at hs1
    subst hv1
    have t38 : s1.1 38 0 = k := by
      rw [hs1]; exact sI_s _ _ _ _
    refine v_istore (pc := 578) dL_law_578 rfl (by decide) ?_
    refine v_aload_n (pc := 580) dL_law_580 rfl rfl ?_
    refine vm_callV0 (pc := 581) (n1 + 1, n2 + 6) hG dL_law_581 cw_L_124 im_yX9_thrown se_yX9_thrown (c_X9_thrown D m _ _ ) rfl (Nat.le_of_ble_eq_true rfl) ⟨Nat.le_of_ble_eq_true rfl, Nat.le_of_ble_eq_true rfl⟩ ⟨by show n1 + 1 + 0 ≤ 601024; omega, by show n2 + 6 + 0 ≤ 7293034; omega⟩ rfl (fun v s1 G hp hG => ?_)
    have hG9 := hG
    obtain ⟨hv1, hs2⟩ := hp
    subst hv1
    subst hs2
    rw [t38]
    have hAG : AG s9 s1 := by
      rw [hs1, hs9]; exact AG_thr s k
    have hIN : INV X1 s9 (q + 1) := by
      rw [hs9]; exact INV.q1 (Nat.le_succ q) hI0 (fun _ _ _ _ _ _ _ _ => rfl) rfl hx1 hx2
    have hfin := hM1.fin hG9 hAG hIN
    refine v_iload (pc := 584) dL_law_584 rfl ?_
    refine v_icmp_eq (pc := 586) (tgt := 591) dL_law_586 (by decide) (fun c586 => ?_) (fun c586 => absurd c586 (not_not_intro rfl))
    refine v_iload (pc := 591) dL_law_591 rfl ?_
    refine v_if_ne (pc := 593) (tgt := 608) dL_law_593 (by decide) (fun c593 => ?_) (fun c593 => absurd c593 hk)
    refine v_goto (pc := 608) (tgt := 2232) dL_law_608 (by decide) ?_
    refine v_forget 6 ?_
    refine v_forget 7 ?_
    refine v_forget 8 ?_
    exact kk _ _ _ _ hfin ⟨by show n1 + 1 ≤ 60 + 2 * (q + 1); omega, by show n2 + 6 ≤ 2000 + 20 * (q + 1); omega⟩
theorem ll_rip : Cond.methodLink "BroadseamLoftLaw" 146 yL_rip ∈ lw_all ∧ Cond.initialized yL_rip.cls ∈ lw_all ∧ Cond.static yL_rip ∈ lw_all ∧ (yL_rip.cls ≠ "java/lang/invoke/MethodHandle" ∧ yL_rip.cls ≠ "java/lang/invoke/VarHandle" ∧ (parseMethodDescriptor yL_rip.desc).map (fun d => d.parameters.length) = some 3) := ⟨(lw_mem 432 (by decide +kernel) rfl), (lw_mem 32 (by decide +kernel) rfl), (lw_mem 433 (by decide +kernel) rfl), by decide +kernel, by decide +kernel, by decide +kernel⟩
set_option maxRecDepth 100000 in
set_option maxHeartbeats 1000000 in
theorem k_rip {D : DT} {K : KT} {b L : Nat} {xs : Nat → Int32} (hS : SC K b L xs) (hNC : NC3 K.2.2.2.1) (hL : L ≤ 2560) {m o oD x0 : Nat} {ad : Nat → Nat} (q : Nat) (hq : 5 * q + 5 ≤ L) {X : XT} {s : SG} {G : GT} {n : Nat × Nat} (hW : HW X s m ad o oD x0 q G) (hn : n.1 ≤ 60 + 2 * q ∧ n.2 ≤ 2000 + 20 * q) (kk : ∀ (X' : XT) (s' : SG) (G' : GT) (n' : Nat × Nat), HW X' s' m ad o oD x0 (q + 1) G' → (n'.1 ≤ 60 + 2 * (q + 1) ∧ n'.2 ≤ 2000 + 20 * (q + 1)) → V cL_law RL 9 room_1 D K 2232 [some (.ref b), some (.ref x0), some (.ref m), some (.ref o), some (.ref oD), some (.int (nI (5 * q))), none, none, none] [] G' n') : V cL_law RL 9 room_1 D K 611 [some (.ref b), some (.ref x0), some (.ref m), some (.ref o), some (.ref oD), some (.int (nI (5 * q))), none, none, none] [] G n := by
  obtain ⟨hM, hI⟩ := hW
  have hI0 := hI
  obtain ⟨a, b1, c, g, ns, nl, i1, i2, i3, i4, i5, i6, i7, i8, i9⟩ := hI
  have hx0 : X.1 0 0 = x0 := hM.2.2.2.2.2.2
  subst hx0
  obtain ⟨n1, n2⟩ := n
  have hn1 : n1 ≤ 60 + 2 * q := hn.1
  have hn2 : n2 ≤ 2000 + 20 * q := hn.2
  have hn511 : nl < 512 := by have := i6.2.1; omega
  have hn512 : nl ≤ 512 := by omega
  refine v_aload_n (pc := 611) dL_law_611 rfl rfl ?_
  refine v_aload_n (pc := 612) dL_law_612 rfl rfl ?_
  refine v_iload (pc := 613) dL_law_613 rfl ?_
  refine v_iconst (pc := 615) (v := 1) dL_law_615 (by decide) ?_
  refine v_iadd (pc := 616) dL_law_616 ?_
  refine v_sld (pc := 617) (j := 5 * q + 1) hS dL_law_617 (by rw [show (1 : Int32) = nI 1 from rfl, nI_add]) (by omega) hL ?_
  refine v_aload_n (pc := 618) dL_law_618 rfl rfl ?_
  refine v_callL (pc := 619) (As := [.ref (X.1 0 0), .int _, .ref o]) (rest := []) hNC dL_law_619 ll_rip.1 ll_rip.2.1 wl_rip ll_rip.2.2.2 ll_rip.2.2.1 (c_L_rip D G (X.1, X.2.1, X.2.2.1, RESTP m ad o oD, G) s (RESTP m ad o oD) o b1 ns _ hM.re rfl (Or.inr (Or.inr (Or.inl rfl))) hM.2.2.1 (ipw i2 i1.2.1) i3.SV i2.2.1 i3.1 i3.2.1 i3.2.2.1 i9) rfl rfl (Nat.le_of_ble_eq_true rfl) ⟨Nat.le_of_ble_eq_true rfl, Nat.le_of_ble_eq_true rfl⟩ ⟨by show n1 + 1 ≤ 601024; omega, by show n2 + 6 ≤ 7293034; omega⟩ (fun v G1 hp => ?_)
  obtain ⟨X1, s9, hL1, hA1, h01, hF1, hT1, k, hv, hk⟩ := hp
  subst hv
  have hM1 := hM.mid (Or.inl ⟨rfl, rfl⟩) hL1 hA1 (h01 0 (by decide)) hF1 hT1
  have hG := hM1.md
  refine (?_ : V cL_law RL 9 room_1 D K 622 _ _ G1 (n1 + 1, n2 + 6))
  rcases hk with ⟨hk, hok⟩ | ⟨hk, herr, hs9, hx1, hx2⟩
  · subst hk
    obtain ⟨hval, hs9, hx1, hx2, hk0⟩ := hok
    refine v_istore (pc := 622) dL_law_622 rfl (by decide) ?_
    refine v_aload_n (pc := 624) dL_law_624 rfl rfl ?_
    refine v_aload_n (pc := 625) dL_law_625 rfl rfl ?_
    refine v_iload (pc := 626) dL_law_626 rfl ?_
    refine v_iconst (pc := 628) (v := 1) dL_law_628 (by decide) ?_
    refine v_iadd (pc := 629) dL_law_629 ?_
    refine v_sld (pc := 630) (j := 5 * q + 1) hS dL_law_630 (by rw [show (1 : Int32) = nI 1 from rfl, nI_add]) (by omega) hL ?_
    refine vm_callV1 (pc := 631) (n1 + 1, n2 + 6) hG dL_law_631 cw_L_148 im_yX9_rip se_yX9_rip (c_X9_rip D m _ _ b1 ns _ (ipw i2 i1.2.1) i3.SV i2.2.1 i3.1 i3.2.1) rfl (Nat.le_of_ble_eq_true rfl) ⟨Nat.le_of_ble_eq_true rfl, Nat.le_of_ble_eq_true rfl⟩ ⟨by show n1 + 1 + 0 ≤ 601024; omega, by show n2 + 6 + 0 ≤ 7293034; omega⟩ rfl (fun v s1 G hp hG => ?_)
    obtain ⟨hv1, hs1⟩ := hp
    first | rw [if_pos hk0] at hv1 hs1 | (rw [if_pos hk0] at hv1; rw [hk0] at hs1)
    subst hv1
    have t38 : s1.1 38 0 = 0 := by
      rw [hs1]; simp [thr, sI, sJ, u2]
    refine v_lstore (pc := 634) dL_law_634 rfl (by decide) ?_
    refine v_aload_n (pc := 636) dL_law_636 rfl rfl ?_
    refine vm_callV0 (pc := 637) (n1 + 1, n2 + 6) hG dL_law_637 cw_L_124 im_yX9_thrown se_yX9_thrown (c_X9_thrown D m _ _ ) rfl (Nat.le_of_ble_eq_true rfl) ⟨Nat.le_of_ble_eq_true rfl, Nat.le_of_ble_eq_true rfl⟩ ⟨by show n1 + 1 + 0 ≤ 601024; omega, by show n2 + 6 + 0 ≤ 7293034; omega⟩ rfl (fun v s1 G hp hG => ?_)
    have hG9 := hG
    obtain ⟨hv1, hs2⟩ := hp
    subst hv1
    subst hs2
    rw [t38]
    obtain ⟨⟨hTo, hNo, hJo⟩, hTd, hNd, hEd⟩ := hM1.at hG9
    have hAG : AG s9 s1 := by
      refine ⟨fun k hk hk16 => ?_, ?_, ?_⟩
      · rw [hs1, hs9]; refine funext fun j => ?_; simp [thr, sI, sJ, u2, show k ≠ 38 by omega, show k ≠ 39 by omega, show k ≠ 40 by omega, show k ≠ 41 by omega, show k ≠ 42 by omega, show k ≠ 43 by omega, show k ≠ 44 by omega, show k ≠ 45 by omega, show k ≠ 46 by omega]
      · rw [hs1, hs9]; first | rfl | (refine funext fun j => ?_; simp [thr, sI, sJ, u2])
      · rw [hs1, hs9]; first | rfl | (refine funext fun j => ?_; simp [thr, sI, sJ, u2])
    have hIN : INV X1 s9 (q + 1) := by
      rw [hs9]; exact inv_rip hI0 i3.1 i3.2.1 hk0 hx1 hx2
    have hfin := hM1.fin hG9 hAG hIN
    refine v_iload (pc := 640) dL_law_640 rfl ?_
    refine v_icmp_eq (pc := 642) (tgt := 647) dL_law_642 (by decide) (fun c642 => ?_) (fun c642 => absurd c642 (not_not_intro rfl))
    refine v_iload (pc := 647) dL_law_647 rfl ?_
    refine v_if_ne (pc := 649) (tgt := 663) dL_law_649 (by decide) (fun c649 => absurd c649 (by decide)) (fun c649 => ?_)
    obtain ⟨T, N, I, J, E, Rf⟩ := G
    refine v_aload_n (pc := 652) dL_law_652 rfl rfl ?_
    refine v_iconst (pc := 653) (v := 0) dL_law_653 (by decide) ?_
    refine v_lald (pc := 654) (j := 0) dL_law_654 hTo hNo rfl (by decide) (by decide) ?_
    refine v_lload (pc := 655) dL_law_655 rfl ?_
    refine v_lcmp (pc := 657) dL_law_657 ?_
    refine v_if_eq (pc := 658) (tgt := 663) dL_law_658 (by decide) (fun c658 => ?_) (fun c658 => absurd c658 (not_not_intro (cmp_eq0.mpr ((congrFun hJo 0).trans (hval.trans rfl)))))
    refine v_goto (pc := 663) (tgt := 2232) dL_law_663 (by decide) ?_
    refine v_forget 6 ?_
    refine v_forget 7 ?_
    refine v_forget 8 ?_
    exact kk _ _ _ _ hfin ⟨by show n1 + 1 ≤ 60 + 2 * (q + 1); omega, by show n2 + 6 ≤ 2000 + 20 * (q + 1); omega⟩
  · refine v_istore (pc := 622) dL_law_622 rfl (by decide) ?_
    refine v_aload_n (pc := 624) dL_law_624 rfl rfl ?_
    refine v_aload_n (pc := 625) dL_law_625 rfl rfl ?_
    refine v_iload (pc := 626) dL_law_626 rfl ?_
    refine v_iconst (pc := 628) (v := 1) dL_law_628 (by decide) ?_
    refine v_iadd (pc := 629) dL_law_629 ?_
    refine v_sld (pc := 630) (j := 5 * q + 1) hS dL_law_630 (by rw [show (1 : Int32) = nI 1 from rfl, nI_add]) (by omega) hL ?_
    refine vm_callV1 (pc := 631) (n1 + 1, n2 + 6) hG dL_law_631 cw_L_148 im_yX9_rip se_yX9_rip (c_X9_rip D m _ _ b1 ns _ (ipw i2 i1.2.1) i3.SV i2.2.1 i3.1 i3.2.1) rfl (Nat.le_of_ble_eq_true rfl) ⟨Nat.le_of_ble_eq_true rfl, Nat.le_of_ble_eq_true rfl⟩ ⟨by show n1 + 1 + 0 ≤ 601024; omega, by show n2 + 6 + 0 ≤ 7293034; omega⟩ rfl (fun v s1 G hp hG => ?_)
    obtain ⟨hv1, hs1⟩ := hp
    first | rw [if_neg (by rw [herr]; exact hk)] at hv1 hs1 | rw [if_neg (by rw [herr]; exact hk)] at hv1
    rw [herr] at hs1
    subst hv1
    have t38 : s1.1 38 0 = k := by
      rw [hs1]; exact sI_s _ _ _ _
    refine v_lstore (pc := 634) dL_law_634 rfl (by decide) ?_
    refine v_aload_n (pc := 636) dL_law_636 rfl rfl ?_
    refine vm_callV0 (pc := 637) (n1 + 1, n2 + 6) hG dL_law_637 cw_L_124 im_yX9_thrown se_yX9_thrown (c_X9_thrown D m _ _ ) rfl (Nat.le_of_ble_eq_true rfl) ⟨Nat.le_of_ble_eq_true rfl, Nat.le_of_ble_eq_true rfl⟩ ⟨by show n1 + 1 + 0 ≤ 601024; omega, by show n2 + 6 + 0 ≤ 7293034; omega⟩ rfl (fun v s1 G hp hG => ?_)
    have hG9 := hG
    obtain ⟨hv1, hs2⟩ := hp
    subst hv1
    subst hs2
    rw [t38]
    have hAG : AG s9 s1 := by
      rw [hs1, hs9]; exact AG_thr s k
    have hIN : INV X1 s9 (q + 1) := by
      rw [hs9]; exact INV.q1 (Nat.le_succ q) hI0 (fun _ _ _ _ _ _ _ _ => rfl) rfl hx1 hx2
    have hfin := hM1.fin hG9 hAG hIN
    refine v_iload (pc := 640) dL_law_640 rfl ?_
    refine v_icmp_eq (pc := 642) (tgt := 647) dL_law_642 (by decide) (fun c642 => ?_) (fun c642 => absurd c642 (not_not_intro rfl))
    refine v_iload (pc := 647) dL_law_647 rfl ?_
    refine v_if_ne (pc := 649) (tgt := 663) dL_law_649 (by decide) (fun c649 => ?_) (fun c649 => absurd c649 hk)
    refine v_goto (pc := 663) (tgt := 2232) dL_law_663 (by decide) ?_
    refine v_forget 6 ?_
    refine v_forget 7 ?_
    refine v_forget 8 ?_
    exact kk _ _ _ _ hfin ⟨by show n1 + 1 ≤ 60 + 2 * (q + 1); omega, by show n2 + 6 ≤ 2000 + 20 * (q + 1); omega⟩
theorem ll_bears : Cond.methodLink "BroadseamLoftLaw" 149 yL_bears ∈ lw_all ∧ Cond.initialized yL_bears.cls ∈ lw_all ∧ Cond.static yL_bears ∈ lw_all ∧ (yL_bears.cls ≠ "java/lang/invoke/MethodHandle" ∧ yL_bears.cls ≠ "java/lang/invoke/VarHandle" ∧ (parseMethodDescriptor yL_bears.desc).map (fun d => d.parameters.length) = some 4) := ⟨(lw_mem 449 (by decide +kernel) rfl), (lw_mem 32 (by decide +kernel) rfl), (lw_mem 450 (by decide +kernel) rfl), by decide +kernel, by decide +kernel, by decide +kernel⟩
set_option maxRecDepth 100000 in
set_option maxHeartbeats 1000000 in
theorem k_bears {D : DT} {K : KT} {b L : Nat} {xs : Nat → Int32} (hS : SC K b L xs) (hNC : NC3 K.2.2.2.1) (hL : L ≤ 2560) {m o oD x0 : Nat} {ad : Nat → Nat} (q : Nat) (hq : 5 * q + 5 ≤ L) {X : XT} {s : SG} {G : GT} {n : Nat × Nat} (hW : HW X s m ad o oD x0 q G) (hn : n.1 ≤ 60 + 2 * q ∧ n.2 ≤ 2000 + 20 * q) (kk : ∀ (X' : XT) (s' : SG) (G' : GT) (n' : Nat × Nat), HW X' s' m ad o oD x0 (q + 1) G' → (n'.1 ≤ 60 + 2 * (q + 1) ∧ n'.2 ≤ 2000 + 20 * (q + 1)) → V cL_law RL 9 room_1 D K 2232 [some (.ref b), some (.ref x0), some (.ref m), some (.ref o), some (.ref oD), some (.int (nI (5 * q))), none, none, none] [] G' n') : V cL_law RL 9 room_1 D K 666 [some (.ref b), some (.ref x0), some (.ref m), some (.ref o), some (.ref oD), some (.int (nI (5 * q))), none, none, none] [] G n := by
  obtain ⟨hM, hI⟩ := hW
  have hI0 := hI
  obtain ⟨a, b1, c, g, ns, nl, i1, i2, i3, i4, i5, i6, i7, i8, i9⟩ := hI
  have hx0 : X.1 0 0 = x0 := hM.2.2.2.2.2.2
  subst hx0
  obtain ⟨n1, n2⟩ := n
  have hn1 : n1 ≤ 60 + 2 * q := hn.1
  have hn2 : n2 ≤ 2000 + 20 * q := hn.2
  have hn511 : nl < 512 := by have := i6.2.1; omega
  have hn512 : nl ≤ 512 := by omega
  refine v_aload_n (pc := 666) dL_law_666 rfl rfl ?_
  refine v_aload_n (pc := 667) dL_law_667 rfl rfl ?_
  refine v_iload (pc := 668) dL_law_668 rfl ?_
  refine v_iconst (pc := 670) (v := 1) dL_law_670 (by decide) ?_
  refine v_iadd (pc := 671) dL_law_671 ?_
  refine v_sld (pc := 672) (j := 5 * q + 1) hS dL_law_672 (by rw [show (1 : Int32) = nI 1 from rfl, nI_add]) (by omega) hL ?_
  refine v_aload_n (pc := 673) dL_law_673 rfl rfl ?_
  refine v_iload (pc := 674) dL_law_674 rfl ?_
  refine v_iconst (pc := 676) (v := 2) dL_law_676 (by decide) ?_
  refine v_iadd (pc := 677) dL_law_677 ?_
  refine v_sld (pc := 678) (j := 5 * q + 2) hS dL_law_678 (by rw [show (2 : Int32) = nI 2 from rfl, nI_add]) (by omega) hL ?_
  refine v_aload_n (pc := 679) dL_law_679 rfl rfl ?_
  refine v_callL (pc := 680) (As := [.ref (X.1 0 0), .int _, .int _, .ref o]) (rest := []) hNC dL_law_680 ll_bears.1 ll_bears.2.1 wl_bears ll_bears.2.2.2 ll_bears.2.2.1 (c_L_bears D G (X.1, X.2.1, X.2.2.1, RESTP m ad o oD, G) s (RESTP m ad o oD) o b1 ns _ _ hM.re rfl (Or.inr (Or.inr (Or.inl rfl))) hM.2.2.1 (ipw i2 i1.2.1) i3.SV i2.2.1 i3.2.1 (inv_gok i1 i2 i3).2.2.2.1 i2.1 i2.2.2.1 i3.2.2.1) rfl rfl (Nat.le_of_ble_eq_true rfl) ⟨Nat.le_of_ble_eq_true rfl, Nat.le_of_ble_eq_true rfl⟩ ⟨by show n1 + 1 ≤ 601024; omega, by show n2 + 6 ≤ 7293034; omega⟩ (fun v G1 hp => ?_)
  obtain ⟨X1, s9, hL1, hA1, h01, hF1, hT1, k, hv, hk⟩ := hp
  subst hv
  have hM1 := hM.mid (Or.inl ⟨rfl, rfl⟩) hL1 hA1 (h01 0 (by decide)) hF1 hT1
  have hG := hM1.md
  refine (?_ : V cL_law RL 9 room_1 D K 683 _ _ G1 (n1 + 1, n2 + 6))
  rcases hk with ⟨hk, hok⟩ | ⟨hk, herr, hs9, hx1, hx2⟩
  · subst hk
    obtain ⟨hval, hx1, hx2, ⟨L9, hs9⟩, hk0⟩ := hok
    refine v_istore (pc := 683) dL_law_683 rfl (by decide) ?_
    refine v_aload_n (pc := 685) dL_law_685 rfl rfl ?_
    refine v_aload_n (pc := 686) dL_law_686 rfl rfl ?_
    refine v_iload (pc := 687) dL_law_687 rfl ?_
    refine v_iconst (pc := 689) (v := 1) dL_law_689 (by decide) ?_
    refine v_iadd (pc := 690) dL_law_690 ?_
    refine v_sld (pc := 691) (j := 5 * q + 1) hS dL_law_691 (by rw [show (1 : Int32) = nI 1 from rfl, nI_add]) (by omega) hL ?_
    refine v_aload_n (pc := 692) dL_law_692 rfl rfl ?_
    refine v_iload (pc := 693) dL_law_693 rfl ?_
    refine v_iconst (pc := 695) (v := 2) dL_law_695 (by decide) ?_
    refine v_iadd (pc := 696) dL_law_696 ?_
    refine v_sld (pc := 697) (j := 5 * q + 2) hS dL_law_697 (by rw [show (2 : Int32) = nI 2 from rfl, nI_add]) (by omega) hL ?_
    refine vm_callV2 (pc := 698) (n1 + 1, n2 + 6) hG dL_law_698 cw_L_151 im_yX9_bears se_yX9_bears (c_X9_bears D m _ _ b1 ns _ _ (ipw i2 i1.2.1) i3.SV i2.2.1 i3.2.1 i2.1 i3.1 (inv_st0 i1 i2)) rfl (Nat.le_of_ble_eq_true rfl) ⟨Nat.le_of_ble_eq_true rfl, Nat.le_of_ble_eq_true rfl⟩ ⟨by show n1 + 1 + 0 ≤ 601024; omega, by show n2 + 6 + 0 ≤ 7293034; omega⟩ rfl (fun v s1 G hp hG => ?_)
    obtain ⟨hv1, hs1⟩ := hp
    first | rw [if_pos hk0] at hv1 hs1 | (rw [if_pos hk0] at hv1; rw [hk0] at hs1)
    subst hv1
    have t38 : s1.1 38 0 = 0 := by
      rw [hs1]; rfl
    refine v_lstore (pc := 701) dL_law_701 rfl (by decide) ?_
    refine v_aload_n (pc := 703) dL_law_703 rfl rfl ?_
    refine vm_callV0 (pc := 704) (n1 + 1, n2 + 6) hG dL_law_704 cw_L_124 im_yX9_thrown se_yX9_thrown (c_X9_thrown D m _ _ ) rfl (Nat.le_of_ble_eq_true rfl) ⟨Nat.le_of_ble_eq_true rfl, Nat.le_of_ble_eq_true rfl⟩ ⟨by show n1 + 1 + 0 ≤ 601024; omega, by show n2 + 6 + 0 ≤ 7293034; omega⟩ rfl (fun v s1 G hp hG => ?_)
    have hG9 := hG
    obtain ⟨hv1, hs2⟩ := hp
    subst hv1
    subst hs2
    rw [t38]
    obtain ⟨⟨hTo, hNo, hJo⟩, hTd, hNd, hEd⟩ := hM1.at hG9
    have hAG : AG s9 s1 := by
      rw [hs1, hs9]; exact ⟨fun k hk _ => u2_rown _ _ _ (by omega), rfl, rfl⟩
    have hIN : INV X1 s9 (q + 1) := by
      rw [hs9]; exact INV.q1 (Nat.le_succ q) hI0 (fun _ _ _ _ _ _ _ _ => rfl) rfl hx1 hx2
    have hfin := hM1.fin hG9 hAG hIN
    refine v_iload (pc := 707) dL_law_707 rfl ?_
    refine v_icmp_eq (pc := 709) (tgt := 714) dL_law_709 (by decide) (fun c709 => ?_) (fun c709 => absurd c709 (not_not_intro rfl))
    refine v_iload (pc := 714) dL_law_714 rfl ?_
    refine v_if_ne (pc := 716) (tgt := 730) dL_law_716 (by decide) (fun c716 => absurd c716 (by decide)) (fun c716 => ?_)
    obtain ⟨T, N, I, J, E, Rf⟩ := G
    refine v_aload_n (pc := 719) dL_law_719 rfl rfl ?_
    refine v_iconst (pc := 720) (v := 0) dL_law_720 (by decide) ?_
    refine v_lald (pc := 721) (j := 0) dL_law_721 hTo hNo rfl (by decide) (by decide) ?_
    refine v_lload (pc := 722) dL_law_722 rfl ?_
    refine v_lcmp (pc := 724) dL_law_724 ?_
    refine v_if_eq (pc := 725) (tgt := 730) dL_law_725 (by decide) (fun c725 => ?_) (fun c725 => absurd c725 (not_not_intro (cmp_eq0.mpr ((congrFun hJo 0).trans (hval.trans rfl)))))
    refine v_goto (pc := 730) (tgt := 2232) dL_law_730 (by decide) ?_
    refine v_forget 6 ?_
    refine v_forget 7 ?_
    refine v_forget 8 ?_
    exact kk _ _ _ _ hfin ⟨by show n1 + 1 ≤ 60 + 2 * (q + 1); omega, by show n2 + 6 ≤ 2000 + 20 * (q + 1); omega⟩
  · refine v_istore (pc := 683) dL_law_683 rfl (by decide) ?_
    refine v_aload_n (pc := 685) dL_law_685 rfl rfl ?_
    refine v_aload_n (pc := 686) dL_law_686 rfl rfl ?_
    refine v_iload (pc := 687) dL_law_687 rfl ?_
    refine v_iconst (pc := 689) (v := 1) dL_law_689 (by decide) ?_
    refine v_iadd (pc := 690) dL_law_690 ?_
    refine v_sld (pc := 691) (j := 5 * q + 1) hS dL_law_691 (by rw [show (1 : Int32) = nI 1 from rfl, nI_add]) (by omega) hL ?_
    refine v_aload_n (pc := 692) dL_law_692 rfl rfl ?_
    refine v_iload (pc := 693) dL_law_693 rfl ?_
    refine v_iconst (pc := 695) (v := 2) dL_law_695 (by decide) ?_
    refine v_iadd (pc := 696) dL_law_696 ?_
    refine v_sld (pc := 697) (j := 5 * q + 2) hS dL_law_697 (by rw [show (2 : Int32) = nI 2 from rfl, nI_add]) (by omega) hL ?_
    refine vm_callV2 (pc := 698) (n1 + 1, n2 + 6) hG dL_law_698 cw_L_151 im_yX9_bears se_yX9_bears (c_X9_bears D m _ _ b1 ns _ _ (ipw i2 i1.2.1) i3.SV i2.2.1 i3.2.1 i2.1 i3.1 (inv_st0 i1 i2)) rfl (Nat.le_of_ble_eq_true rfl) ⟨Nat.le_of_ble_eq_true rfl, Nat.le_of_ble_eq_true rfl⟩ ⟨by show n1 + 1 + 0 ≤ 601024; omega, by show n2 + 6 + 0 ≤ 7293034; omega⟩ rfl (fun v s1 G hp hG => ?_)
    obtain ⟨hv1, hs1⟩ := hp
    first | rw [if_neg (by rw [herr]; exact hk)] at hv1 hs1 | rw [if_neg (by rw [herr]; exact hk)] at hv1
    rw [herr] at hs1
    subst hv1
    have t38 : s1.1 38 0 = k := by
      rw [hs1]; exact sI_s _ _ _ _
    refine v_lstore (pc := 701) dL_law_701 rfl (by decide) ?_
    refine v_aload_n (pc := 703) dL_law_703 rfl rfl ?_
    refine vm_callV0 (pc := 704) (n1 + 1, n2 + 6) hG dL_law_704 cw_L_124 im_yX9_thrown se_yX9_thrown (c_X9_thrown D m _ _ ) rfl (Nat.le_of_ble_eq_true rfl) ⟨Nat.le_of_ble_eq_true rfl, Nat.le_of_ble_eq_true rfl⟩ ⟨by show n1 + 1 + 0 ≤ 601024; omega, by show n2 + 6 + 0 ≤ 7293034; omega⟩ rfl (fun v s1 G hp hG => ?_)
    have hG9 := hG
    obtain ⟨hv1, hs2⟩ := hp
    subst hv1
    subst hs2
    rw [t38]
    have hAG : AG s9 s1 := by
      rw [hs1, hs9]; exact AG_thr s k
    have hIN : INV X1 s9 (q + 1) := by
      rw [hs9]; exact INV.q1 (Nat.le_succ q) hI0 (fun _ _ _ _ _ _ _ _ => rfl) rfl hx1 hx2
    have hfin := hM1.fin hG9 hAG hIN
    refine v_iload (pc := 707) dL_law_707 rfl ?_
    refine v_icmp_eq (pc := 709) (tgt := 714) dL_law_709 (by decide) (fun c709 => ?_) (fun c709 => absurd c709 (not_not_intro rfl))
    refine v_iload (pc := 714) dL_law_714 rfl ?_
    refine v_if_ne (pc := 716) (tgt := 730) dL_law_716 (by decide) (fun c716 => ?_) (fun c716 => absurd c716 hk)
    refine v_goto (pc := 730) (tgt := 2232) dL_law_730 (by decide) ?_
    refine v_forget 6 ?_
    refine v_forget 7 ?_
    refine v_forget 8 ?_
    exact kk _ _ _ _ hfin ⟨by show n1 + 1 ≤ 60 + 2 * (q + 1); omega, by show n2 + 6 ≤ 2000 + 20 * (q + 1); omega⟩
theorem ll_bearsAnew : Cond.methodLink "BroadseamLoftLaw" 152 yL_bearsAnew ∈ lw_all ∧ Cond.initialized yL_bearsAnew.cls ∈ lw_all ∧ Cond.static yL_bearsAnew ∈ lw_all ∧ (yL_bearsAnew.cls ≠ "java/lang/invoke/MethodHandle" ∧ yL_bearsAnew.cls ≠ "java/lang/invoke/VarHandle" ∧ (parseMethodDescriptor yL_bearsAnew.desc).map (fun d => d.parameters.length) = some 4) := ⟨(lw_mem 468 (by decide +kernel) rfl), (lw_mem 32 (by decide +kernel) rfl), (lw_mem 469 (by decide +kernel) rfl), by decide +kernel, by decide +kernel, by decide +kernel⟩
set_option maxRecDepth 100000 in
set_option maxHeartbeats 1000000 in
theorem k_bearsAnew {D : DT} {K : KT} {b L : Nat} {xs : Nat → Int32} (hS : SC K b L xs) (hNC : NC3 K.2.2.2.1) (hL : L ≤ 2560) {m o oD x0 : Nat} {ad : Nat → Nat} (q : Nat) (hq : 5 * q + 5 ≤ L) {X : XT} {s : SG} {G : GT} {n : Nat × Nat} (hW : HW X s m ad o oD x0 q G) (hn : n.1 ≤ 60 + 2 * q ∧ n.2 ≤ 2000 + 20 * q) (kk : ∀ (X' : XT) (s' : SG) (G' : GT) (n' : Nat × Nat), HW X' s' m ad o oD x0 (q + 1) G' → (n'.1 ≤ 60 + 2 * (q + 1) ∧ n'.2 ≤ 2000 + 20 * (q + 1)) → V cL_law RL 9 room_1 D K 2232 [some (.ref b), some (.ref x0), some (.ref m), some (.ref o), some (.ref oD), some (.int (nI (5 * q))), none, none, none] [] G' n') : V cL_law RL 9 room_1 D K 733 [some (.ref b), some (.ref x0), some (.ref m), some (.ref o), some (.ref oD), some (.int (nI (5 * q))), none, none, none] [] G n := by
  obtain ⟨hM, hI⟩ := hW
  have hI0 := hI
  obtain ⟨a, b1, c, g, ns, nl, i1, i2, i3, i4, i5, i6, i7, i8, i9⟩ := hI
  have hx0 : X.1 0 0 = x0 := hM.2.2.2.2.2.2
  subst hx0
  obtain ⟨n1, n2⟩ := n
  have hn1 : n1 ≤ 60 + 2 * q := hn.1
  have hn2 : n2 ≤ 2000 + 20 * q := hn.2
  have hn511 : nl < 512 := by have := i6.2.1; omega
  have hn512 : nl ≤ 512 := by omega
  refine v_aload_n (pc := 733) dL_law_733 rfl rfl ?_
  refine v_aload_n (pc := 734) dL_law_734 rfl rfl ?_
  refine v_iload (pc := 735) dL_law_735 rfl ?_
  refine v_iconst (pc := 737) (v := 1) dL_law_737 (by decide) ?_
  refine v_iadd (pc := 738) dL_law_738 ?_
  refine v_sld (pc := 739) (j := 5 * q + 1) hS dL_law_739 (by rw [show (1 : Int32) = nI 1 from rfl, nI_add]) (by omega) hL ?_
  refine v_aload_n (pc := 740) dL_law_740 rfl rfl ?_
  refine v_iload (pc := 741) dL_law_741 rfl ?_
  refine v_iconst (pc := 743) (v := 2) dL_law_743 (by decide) ?_
  refine v_iadd (pc := 744) dL_law_744 ?_
  refine v_sld (pc := 745) (j := 5 * q + 2) hS dL_law_745 (by rw [show (2 : Int32) = nI 2 from rfl, nI_add]) (by omega) hL ?_
  refine v_aload_n (pc := 746) dL_law_746 rfl rfl ?_
  refine v_callL (pc := 747) (As := [.ref (X.1 0 0), .int _, .int _, .ref o]) (rest := []) hNC dL_law_747 ll_bearsAnew.1 ll_bearsAnew.2.1 wl_bearsAnew ll_bearsAnew.2.2.2 ll_bearsAnew.2.2.1 (c_L_bearsAnew D G (X.1, X.2.1, X.2.2.1, RESTP m ad o oD, G) s (RESTP m ad o oD) o b1 ns _ _ hM.re rfl (Or.inr (Or.inr (Or.inl rfl))) hM.2.2.1 (ipw i2 i1.2.1) (inv_gok i1 i2 i3) i2.1 i2.2.1 i2.2.2.1 i3.2.2.1) rfl rfl (Nat.le_of_ble_eq_true rfl) ⟨Nat.le_of_ble_eq_true rfl, Nat.le_of_ble_eq_true rfl⟩ ⟨by show n1 + 1 ≤ 601024; omega, by show n2 + 6 ≤ 7293034; omega⟩ (fun v G1 hp => ?_)
  obtain ⟨X1, s9, hL1, hA1, h01, hF1, hT1, k, hv, hk⟩ := hp
  subst hv
  have hM1 := hM.mid (Or.inl ⟨rfl, rfl⟩) hL1 hA1 (h01 0 (by decide)) hF1 hT1
  have hG := hM1.md
  refine (?_ : V cL_law RL 9 room_1 D K 750 _ _ G1 (n1 + 1, n2 + 6))
  rcases hk with ⟨hk, hok⟩ | ⟨hk, herr, hs9, hx1, hx2⟩
  · subst hk
    obtain ⟨hval, hx1, hx2, ⟨g9, hs9⟩, hk0⟩ := hok
    refine v_istore (pc := 750) dL_law_750 rfl (by decide) ?_
    refine v_aload_n (pc := 752) dL_law_752 rfl rfl ?_
    refine v_aload_n (pc := 753) dL_law_753 rfl rfl ?_
    refine v_iload (pc := 754) dL_law_754 rfl ?_
    refine v_iconst (pc := 756) (v := 1) dL_law_756 (by decide) ?_
    refine v_iadd (pc := 757) dL_law_757 ?_
    refine v_sld (pc := 758) (j := 5 * q + 1) hS dL_law_758 (by rw [show (1 : Int32) = nI 1 from rfl, nI_add]) (by omega) hL ?_
    refine v_aload_n (pc := 759) dL_law_759 rfl rfl ?_
    refine v_iload (pc := 760) dL_law_760 rfl ?_
    refine v_iconst (pc := 762) (v := 2) dL_law_762 (by decide) ?_
    refine v_iadd (pc := 763) dL_law_763 ?_
    refine v_sld (pc := 764) (j := 5 * q + 2) hS dL_law_764 (by rw [show (2 : Int32) = nI 2 from rfl, nI_add]) (by omega) hL ?_
    refine vm_callV2 (pc := 765) (n1 + 1, n2 + 6) hG dL_law_765 cw_L_154 im_yX9_bearsAnew se_yX9_bearsAnew (c_X9_bearsAnew D m _ _ b1 ns _ _ (ipw i2 i1.2.1) i3.SV i2.2.1 i3.2.1 i2.1 i3.1 (inv_st0 i1 i2)) rfl (Nat.le_of_ble_eq_true rfl) ⟨Nat.le_of_ble_eq_true rfl, Nat.le_of_ble_eq_true rfl⟩ ⟨by show n1 + 1 + 0 ≤ 601024; omega, by show n2 + 6 + 0 ≤ 7293034; omega⟩ rfl (fun v s1 G hp hG => ?_)
    obtain ⟨hv1, hs1⟩ := hp
    first | rw [if_pos hk0] at hv1 hs1 | (rw [if_pos hk0] at hv1; rw [hk0] at hs1)
    subst hv1
    have t38 : s1.1 38 0 = 0 := by
      rw [hs1]; rfl
    refine v_lstore (pc := 768) dL_law_768 rfl (by decide) ?_
    refine v_aload_n (pc := 770) dL_law_770 rfl rfl ?_
    refine vm_callV0 (pc := 771) (n1 + 1, n2 + 6) hG dL_law_771 cw_L_124 im_yX9_thrown se_yX9_thrown (c_X9_thrown D m _ _ ) rfl (Nat.le_of_ble_eq_true rfl) ⟨Nat.le_of_ble_eq_true rfl, Nat.le_of_ble_eq_true rfl⟩ ⟨by show n1 + 1 + 0 ≤ 601024; omega, by show n2 + 6 + 0 ≤ 7293034; omega⟩ rfl (fun v s1 G hp hG => ?_)
    have hG9 := hG
    obtain ⟨hv1, hs2⟩ := hp
    subst hv1
    subst hs2
    rw [t38]
    obtain ⟨⟨hTo, hNo, hJo⟩, hTd, hNd, hEd⟩ := hM1.at hG9
    have hAG : AG s9 s1 := by
      rw [hs1, hs9]; exact ⟨fun k hk _ => (u2_rown _ _ _ (by omega)).trans (by show s.1 k = if k = 43 then g9 else s.1 k; rw [if_neg (by omega)]), rfl, rfl⟩
    have hIN : INV X1 s9 (q + 1) := by
      rw [hs9]; exact INV.q1 (Nat.le_succ q) hI0 (fun k _ _ _ _ _ h43 _ => by show (if k = 43 then g9 else s.1 k) = s.1 k; rw [if_neg h43]) rfl hx1 hx2
    have hfin := hM1.fin hG9 hAG hIN
    refine v_iload (pc := 774) dL_law_774 rfl ?_
    refine v_icmp_eq (pc := 776) (tgt := 781) dL_law_776 (by decide) (fun c776 => ?_) (fun c776 => absurd c776 (not_not_intro rfl))
    refine v_iload (pc := 781) dL_law_781 rfl ?_
    refine v_if_ne (pc := 783) (tgt := 797) dL_law_783 (by decide) (fun c783 => absurd c783 (by decide)) (fun c783 => ?_)
    obtain ⟨T, N, I, J, E, Rf⟩ := G
    refine v_aload_n (pc := 786) dL_law_786 rfl rfl ?_
    refine v_iconst (pc := 787) (v := 0) dL_law_787 (by decide) ?_
    refine v_lald (pc := 788) (j := 0) dL_law_788 hTo hNo rfl (by decide) (by decide) ?_
    refine v_lload (pc := 789) dL_law_789 rfl ?_
    refine v_lcmp (pc := 791) dL_law_791 ?_
    refine v_if_eq (pc := 792) (tgt := 797) dL_law_792 (by decide) (fun c792 => ?_) (fun c792 => absurd c792 (not_not_intro (cmp_eq0.mpr ((congrFun hJo 0).trans (hval.trans rfl)))))
    refine v_goto (pc := 797) (tgt := 2232) dL_law_797 (by decide) ?_
    refine v_forget 6 ?_
    refine v_forget 7 ?_
    refine v_forget 8 ?_
    exact kk _ _ _ _ hfin ⟨by show n1 + 1 ≤ 60 + 2 * (q + 1); omega, by show n2 + 6 ≤ 2000 + 20 * (q + 1); omega⟩
  · refine v_istore (pc := 750) dL_law_750 rfl (by decide) ?_
    refine v_aload_n (pc := 752) dL_law_752 rfl rfl ?_
    refine v_aload_n (pc := 753) dL_law_753 rfl rfl ?_
    refine v_iload (pc := 754) dL_law_754 rfl ?_
    refine v_iconst (pc := 756) (v := 1) dL_law_756 (by decide) ?_
    refine v_iadd (pc := 757) dL_law_757 ?_
    refine v_sld (pc := 758) (j := 5 * q + 1) hS dL_law_758 (by rw [show (1 : Int32) = nI 1 from rfl, nI_add]) (by omega) hL ?_
    refine v_aload_n (pc := 759) dL_law_759 rfl rfl ?_
    refine v_iload (pc := 760) dL_law_760 rfl ?_
    refine v_iconst (pc := 762) (v := 2) dL_law_762 (by decide) ?_
    refine v_iadd (pc := 763) dL_law_763 ?_
    refine v_sld (pc := 764) (j := 5 * q + 2) hS dL_law_764 (by rw [show (2 : Int32) = nI 2 from rfl, nI_add]) (by omega) hL ?_
    refine vm_callV2 (pc := 765) (n1 + 1, n2 + 6) hG dL_law_765 cw_L_154 im_yX9_bearsAnew se_yX9_bearsAnew (c_X9_bearsAnew D m _ _ b1 ns _ _ (ipw i2 i1.2.1) i3.SV i2.2.1 i3.2.1 i2.1 i3.1 (inv_st0 i1 i2)) rfl (Nat.le_of_ble_eq_true rfl) ⟨Nat.le_of_ble_eq_true rfl, Nat.le_of_ble_eq_true rfl⟩ ⟨by show n1 + 1 + 0 ≤ 601024; omega, by show n2 + 6 + 0 ≤ 7293034; omega⟩ rfl (fun v s1 G hp hG => ?_)
    obtain ⟨hv1, hs1⟩ := hp
    first | rw [if_neg (by rw [herr]; exact hk)] at hv1 hs1 | rw [if_neg (by rw [herr]; exact hk)] at hv1
    rw [herr] at hs1
    subst hv1
    have t38 : s1.1 38 0 = k := by
      rw [hs1]; exact sI_s _ _ _ _
    refine v_lstore (pc := 768) dL_law_768 rfl (by decide) ?_
    refine v_aload_n (pc := 770) dL_law_770 rfl rfl ?_
    refine vm_callV0 (pc := 771) (n1 + 1, n2 + 6) hG dL_law_771 cw_L_124 im_yX9_thrown se_yX9_thrown (c_X9_thrown D m _ _ ) rfl (Nat.le_of_ble_eq_true rfl) ⟨Nat.le_of_ble_eq_true rfl, Nat.le_of_ble_eq_true rfl⟩ ⟨by show n1 + 1 + 0 ≤ 601024; omega, by show n2 + 6 + 0 ≤ 7293034; omega⟩ rfl (fun v s1 G hp hG => ?_)
    have hG9 := hG
    obtain ⟨hv1, hs2⟩ := hp
    subst hv1
    subst hs2
    rw [t38]
    have hAG : AG s9 s1 := by
      rw [hs1, hs9]; exact AG_thr s k
    have hIN : INV X1 s9 (q + 1) := by
      rw [hs9]; exact INV.q1 (Nat.le_succ q) hI0 (fun _ _ _ _ _ _ _ _ => rfl) rfl hx1 hx2
    have hfin := hM1.fin hG9 hAG hIN
    refine v_iload (pc := 774) dL_law_774 rfl ?_
    refine v_icmp_eq (pc := 776) (tgt := 781) dL_law_776 (by decide) (fun c776 => ?_) (fun c776 => absurd c776 (not_not_intro rfl))
    refine v_iload (pc := 781) dL_law_781 rfl ?_
    refine v_if_ne (pc := 783) (tgt := 797) dL_law_783 (by decide) (fun c783 => ?_) (fun c783 => absurd c783 hk)
    refine v_goto (pc := 797) (tgt := 2232) dL_law_797 (by decide) ?_
    refine v_forget 6 ?_
    refine v_forget 7 ?_
    refine v_forget 8 ?_
    exact kk _ _ _ _ hfin ⟨by show n1 + 1 ≤ 60 + 2 * (q + 1); omega, by show n2 + 6 ≤ 2000 + 20 * (q + 1); omega⟩
theorem ll_knot : Cond.methodLink "BroadseamLoftLaw" 155 yL_knot ∈ lw_all ∧ Cond.initialized yL_knot.cls ∈ lw_all ∧ Cond.static yL_knot ∈ lw_all ∧ (yL_knot.cls ≠ "java/lang/invoke/MethodHandle" ∧ yL_knot.cls ≠ "java/lang/invoke/VarHandle" ∧ (parseMethodDescriptor yL_knot.desc).map (fun d => d.parameters.length) = some 5) := ⟨(lw_mem 487 (by decide +kernel) rfl), (lw_mem 32 (by decide +kernel) rfl), (lw_mem 488 (by decide +kernel) rfl), by decide +kernel, by decide +kernel, by decide +kernel⟩
set_option maxRecDepth 100000 in
set_option maxHeartbeats 1000000 in
theorem k_knot {D : DT} {K : KT} {b L : Nat} {xs : Nat → Int32} (hS : SC K b L xs) (hNC : NC3 K.2.2.2.1) (hL : L ≤ 2560) {m o oD x0 : Nat} {ad : Nat → Nat} (q : Nat) (hq : 5 * q + 5 ≤ L) {X : XT} {s : SG} {G : GT} {n : Nat × Nat} (hW : HW X s m ad o oD x0 q G) (hn : n.1 ≤ 60 + 2 * q ∧ n.2 ≤ 2000 + 20 * q) (kk : ∀ (X' : XT) (s' : SG) (G' : GT) (n' : Nat × Nat), HW X' s' m ad o oD x0 (q + 1) G' → (n'.1 ≤ 60 + 2 * (q + 1) ∧ n'.2 ≤ 2000 + 20 * (q + 1)) → V cL_law RL 9 room_1 D K 2232 [some (.ref b), some (.ref x0), some (.ref m), some (.ref o), some (.ref oD), some (.int (nI (5 * q))), none, none, none] [] G' n') : V cL_law RL 9 room_1 D K 800 [some (.ref b), some (.ref x0), some (.ref m), some (.ref o), some (.ref oD), some (.int (nI (5 * q))), none, none, none] [] G n := by
  obtain ⟨hM, hI⟩ := hW
  have hI0 := hI
  obtain ⟨a, b1, c, g, ns, nl, i1, i2, i3, i4, i5, i6, i7, i8, i9⟩ := hI
  have hx0 : X.1 0 0 = x0 := hM.2.2.2.2.2.2
  subst hx0
  obtain ⟨n1, n2⟩ := n
  have hn1 : n1 ≤ 60 + 2 * q := hn.1
  have hn2 : n2 ≤ 2000 + 20 * q := hn.2
  have hn511 : nl < 512 := by have := i6.2.1; omega
  have hn512 : nl ≤ 512 := by omega
  by_cases hzq : xs (5 * q + 3) = 0
  · have hz9 : (0 : Int32) = 0 ∨ (0 : Int32) = 1 := Or.inl rfl
    refine v_aload_n (pc := 800) dL_law_800 rfl rfl ?_
    refine v_aload_n (pc := 801) dL_law_801 rfl rfl ?_
    refine v_iload (pc := 802) dL_law_802 rfl ?_
    refine v_iconst (pc := 804) (v := 1) dL_law_804 (by decide) ?_
    refine v_iadd (pc := 805) dL_law_805 ?_
    refine v_sld (pc := 806) (j := 5 * q + 1) hS dL_law_806 (by rw [show (1 : Int32) = nI 1 from rfl, nI_add]) (by omega) hL ?_
    refine v_aload_n (pc := 807) dL_law_807 rfl rfl ?_
    refine v_iload (pc := 808) dL_law_808 rfl ?_
    refine v_iconst (pc := 810) (v := 2) dL_law_810 (by decide) ?_
    refine v_iadd (pc := 811) dL_law_811 ?_
    refine v_sld (pc := 812) (j := 5 * q + 2) hS dL_law_812 (by rw [show (2 : Int32) = nI 2 from rfl, nI_add]) (by omega) hL ?_
    refine v_aload_n (pc := 813) dL_law_813 rfl rfl ?_
    refine v_iload (pc := 814) dL_law_814 rfl ?_
    refine v_iconst (pc := 816) (v := 3) dL_law_816 (by decide) ?_
    refine v_iadd (pc := 817) dL_law_817 ?_
    refine v_sld (pc := 818) (j := 5 * q + 3) hS dL_law_818 (by rw [show (3 : Int32) = nI 3 from rfl, nI_add]) (by omega) hL ?_
    refine v_if_eq (pc := 819) (tgt := 826) dL_law_819 (by decide) (fun c819 => ?_) (fun c819 => absurd c819 (not_not_intro hzq))
    refine v_iconst (pc := 826) (v := 0) dL_law_826 (by decide) ?_
    refine v_aload_n (pc := 827) dL_law_827 rfl rfl ?_
    refine v_callL (pc := 828) (As := [.ref (X.1 0 0), .int _, .int _, .int _, .ref o]) (rest := []) hNC dL_law_828 ll_knot.1 ll_knot.2.1 wl_knot ll_knot.2.2.2 ll_knot.2.2.1 (c_L_knot D G (X.1, X.2.1, X.2.2.1, RESTP m ad o oD, G) s (RESTP m ad o oD) o  _ _ _ hM.re rfl (Or.inr (Or.inr (Or.inl rfl))) hM.2.2.1 hz9) rfl rfl (Nat.le_of_ble_eq_true rfl) ⟨Nat.le_of_ble_eq_true rfl, Nat.le_of_ble_eq_true rfl⟩ ⟨by show n1 + 1 ≤ 601024; omega, by show n2 + 6 ≤ 7293034; omega⟩ (fun v G1 hp => ?_)
    obtain ⟨X1, s9, hL1, hA1, h01, hF1, hT1, k, hv, hk⟩ := hp
    subst hv
    have hM1 := hM.mid (Or.inl ⟨rfl, rfl⟩) hL1 hA1 (h01 0 (by decide)) hF1 hT1
    have hG := hM1.md
    refine (?_ : V cL_law RL 9 room_1 D K 831 _ _ G1 (n1 + 1, n2 + 6))
    rcases hk with ⟨hk, hok⟩ | ⟨hk, herr, hs9, hx1, hx2⟩
    · subst hk
      obtain ⟨hval, hx1, hx2, hs9, hk0⟩ := hok
      refine v_istore (pc := 831) dL_law_831 rfl (by decide) ?_
      refine v_aload_n (pc := 833) dL_law_833 rfl rfl ?_
      refine v_aload_n (pc := 834) dL_law_834 rfl rfl ?_
      refine v_iload (pc := 835) dL_law_835 rfl ?_
      refine v_iconst (pc := 837) (v := 1) dL_law_837 (by decide) ?_
      refine v_iadd (pc := 838) dL_law_838 ?_
      refine v_sld (pc := 839) (j := 5 * q + 1) hS dL_law_839 (by rw [show (1 : Int32) = nI 1 from rfl, nI_add]) (by omega) hL ?_
      refine v_aload_n (pc := 840) dL_law_840 rfl rfl ?_
      refine v_iload (pc := 841) dL_law_841 rfl ?_
      refine v_iconst (pc := 843) (v := 2) dL_law_843 (by decide) ?_
      refine v_iadd (pc := 844) dL_law_844 ?_
      refine v_sld (pc := 845) (j := 5 * q + 2) hS dL_law_845 (by rw [show (2 : Int32) = nI 2 from rfl, nI_add]) (by omega) hL ?_
      refine v_aload_n (pc := 846) dL_law_846 rfl rfl ?_
      refine v_iload (pc := 847) dL_law_847 rfl ?_
      refine v_iconst (pc := 849) (v := 3) dL_law_849 (by decide) ?_
      refine v_iadd (pc := 850) dL_law_850 ?_
      refine v_sld (pc := 851) (j := 5 * q + 3) hS dL_law_851 (by rw [show (3 : Int32) = nI 3 from rfl, nI_add]) (by omega) hL ?_
      refine v_if_eq (pc := 852) (tgt := 859) dL_law_852 (by decide) (fun c852 => ?_) (fun c852 => absurd c852 (not_not_intro hzq))
      refine v_iconst (pc := 859) (v := 0) dL_law_859 (by decide) ?_
      refine vm_callV3 (pc := 860) (n1 + 1, n2 + 6) hG dL_law_860 cw_L_158 im_yX9_knot se_yX9_knot (c_X9_knot D m _ _ _ _ _ hz9) rfl (Nat.le_of_ble_eq_true rfl) ⟨Nat.le_of_ble_eq_true rfl, Nat.le_of_ble_eq_true rfl⟩ ⟨by show n1 + 1 + 0 ≤ 601024; omega, by show n2 + 6 + 0 ≤ 7293034; omega⟩ rfl (fun v s1 G hp hG => ?_)
      obtain ⟨hv1, hs1⟩ := hp
      first | rw [if_pos hk0] at hv1 hs1 | (rw [if_pos hk0] at hv1; rw [hk0] at hs1)
      subst hv1
      have t38 : s1.1 38 0 = 0 := by
        rw [hs1]; simp [gKnot, sI, sJ, u2]
      refine v_istore (pc := 863) dL_law_863 rfl (by decide) ?_
      refine v_aload_n (pc := 865) dL_law_865 rfl rfl ?_
      refine vm_callV0 (pc := 866) (n1 + 1, n2 + 6) hG dL_law_866 cw_L_124 im_yX9_thrown se_yX9_thrown (c_X9_thrown D m _ _ ) rfl (Nat.le_of_ble_eq_true rfl) ⟨Nat.le_of_ble_eq_true rfl, Nat.le_of_ble_eq_true rfl⟩ ⟨by show n1 + 1 + 0 ≤ 601024; omega, by show n2 + 6 + 0 ≤ 7293034; omega⟩ rfl (fun v s1 G hp hG => ?_)
      have hG9 := hG
      obtain ⟨hv1, hs2⟩ := hp
      subst hv1
      subst hs2
      rw [t38]
      obtain ⟨⟨hTo, hNo, hJo⟩, hTd, hNd, hEd⟩ := hM1.at hG9
      have hAG : AG s9 s1 := by
        refine ⟨fun k hk hk16 => ?_, ?_, ?_⟩
        · rw [hs1, hs9]; refine funext fun j => ?_; simp [gKnot, sI, sJ, u2, show k ≠ 38 by omega, show k ≠ 39 by omega, show k ≠ 40 by omega, show k ≠ 41 by omega, show k ≠ 42 by omega, show k ≠ 43 by omega, show k ≠ 44 by omega, show k ≠ 45 by omega, show k ≠ 46 by omega]
        · rw [hs1, hs9]; first | rfl | (refine funext fun j => ?_; simp [gKnot, sI, sJ, u2])
        · rw [hs1, hs9]; first | rfl | (refine funext fun j => ?_; simp [gKnot, sI, sJ, u2])
      have hIN : INV X1 s9 (q + 1) := by
        rw [hs9]; exact INV.q1 (Nat.le_succ q) hI0 (fun k _ _ h15 h17 _ _ _ => funext fun j => by simp [gKnot, sI, u2, h15, h17]) rfl hx1 hx2
      have hfin := hM1.fin hG9 hAG hIN
      refine v_iload (pc := 869) dL_law_869 rfl ?_
      refine v_icmp_eq (pc := 871) (tgt := 876) dL_law_871 (by decide) (fun c871 => ?_) (fun c871 => absurd c871 (not_not_intro rfl))
      refine v_iload (pc := 876) dL_law_876 rfl ?_
      refine v_if_ne (pc := 878) (tgt := 893) dL_law_878 (by decide) (fun c878 => absurd c878 (by decide)) (fun c878 => ?_)
      obtain ⟨T, N, I, J, E, Rf⟩ := G
      refine v_aload_n (pc := 881) dL_law_881 rfl rfl ?_
      refine v_iconst (pc := 882) (v := 0) dL_law_882 (by decide) ?_
      refine v_lald (pc := 883) (j := 0) dL_law_883 hTo hNo rfl (by decide) (by decide) ?_
      refine v_iload (pc := 884) dL_law_884 rfl ?_
      refine v_i2l (pc := 886) dL_law_886 ?_
      refine v_lcmp (pc := 887) dL_law_887 ?_
      refine v_if_eq (pc := 888) (tgt := 893) dL_law_888 (by decide) (fun c888 => ?_) (fun c888 => absurd c888 (not_not_intro (cmp_eq0.mpr ((congrFun hJo 0).trans (hval.trans rfl)))))
      refine v_goto (pc := 893) (tgt := 2232) dL_law_893 (by decide) ?_
      refine v_forget 6 ?_
      refine v_forget 7 ?_
      refine v_forget 8 ?_
      exact kk _ _ _ _ hfin ⟨by show n1 + 1 ≤ 60 + 2 * (q + 1); omega, by show n2 + 6 ≤ 2000 + 20 * (q + 1); omega⟩
    · refine v_istore (pc := 831) dL_law_831 rfl (by decide) ?_
      refine v_aload_n (pc := 833) dL_law_833 rfl rfl ?_
      refine v_aload_n (pc := 834) dL_law_834 rfl rfl ?_
      refine v_iload (pc := 835) dL_law_835 rfl ?_
      refine v_iconst (pc := 837) (v := 1) dL_law_837 (by decide) ?_
      refine v_iadd (pc := 838) dL_law_838 ?_
      refine v_sld (pc := 839) (j := 5 * q + 1) hS dL_law_839 (by rw [show (1 : Int32) = nI 1 from rfl, nI_add]) (by omega) hL ?_
      refine v_aload_n (pc := 840) dL_law_840 rfl rfl ?_
      refine v_iload (pc := 841) dL_law_841 rfl ?_
      refine v_iconst (pc := 843) (v := 2) dL_law_843 (by decide) ?_
      refine v_iadd (pc := 844) dL_law_844 ?_
      refine v_sld (pc := 845) (j := 5 * q + 2) hS dL_law_845 (by rw [show (2 : Int32) = nI 2 from rfl, nI_add]) (by omega) hL ?_
      refine v_aload_n (pc := 846) dL_law_846 rfl rfl ?_
      refine v_iload (pc := 847) dL_law_847 rfl ?_
      refine v_iconst (pc := 849) (v := 3) dL_law_849 (by decide) ?_
      refine v_iadd (pc := 850) dL_law_850 ?_
      refine v_sld (pc := 851) (j := 5 * q + 3) hS dL_law_851 (by rw [show (3 : Int32) = nI 3 from rfl, nI_add]) (by omega) hL ?_
      refine v_if_eq (pc := 852) (tgt := 859) dL_law_852 (by decide) (fun c852 => ?_) (fun c852 => absurd c852 (not_not_intro hzq))
      refine v_iconst (pc := 859) (v := 0) dL_law_859 (by decide) ?_
      refine vm_callV3 (pc := 860) (n1 + 1, n2 + 6) hG dL_law_860 cw_L_158 im_yX9_knot se_yX9_knot (c_X9_knot D m _ _ _ _ _ hz9) rfl (Nat.le_of_ble_eq_true rfl) ⟨Nat.le_of_ble_eq_true rfl, Nat.le_of_ble_eq_true rfl⟩ ⟨by show n1 + 1 + 0 ≤ 601024; omega, by show n2 + 6 + 0 ≤ 7293034; omega⟩ rfl (fun v s1 G hp hG => ?_)
      obtain ⟨hv1, hs1⟩ := hp
      first | rw [if_neg (by rw [herr]; exact hk)] at hv1 hs1 | rw [if_neg (by rw [herr]; exact hk)] at hv1
      rw [herr] at hs1
      subst hv1
      have t38 : s1.1 38 0 = k := by
        rw [hs1]; exact sI_s _ _ _ _
      refine v_istore (pc := 863) dL_law_863 rfl (by decide) ?_
      refine v_aload_n (pc := 865) dL_law_865 rfl rfl ?_
      refine vm_callV0 (pc := 866) (n1 + 1, n2 + 6) hG dL_law_866 cw_L_124 im_yX9_thrown se_yX9_thrown (c_X9_thrown D m _ _ ) rfl (Nat.le_of_ble_eq_true rfl) ⟨Nat.le_of_ble_eq_true rfl, Nat.le_of_ble_eq_true rfl⟩ ⟨by show n1 + 1 + 0 ≤ 601024; omega, by show n2 + 6 + 0 ≤ 7293034; omega⟩ rfl (fun v s1 G hp hG => ?_)
      have hG9 := hG
      obtain ⟨hv1, hs2⟩ := hp
      subst hv1
      subst hs2
      rw [t38]
      have hAG : AG s9 s1 := by
        rw [hs1, hs9]; exact AG_thr s k
      have hIN : INV X1 s9 (q + 1) := by
        rw [hs9]; exact INV.q1 (Nat.le_succ q) hI0 (fun _ _ _ _ _ _ _ _ => rfl) rfl hx1 hx2
      have hfin := hM1.fin hG9 hAG hIN
      refine v_iload (pc := 869) dL_law_869 rfl ?_
      refine v_icmp_eq (pc := 871) (tgt := 876) dL_law_871 (by decide) (fun c871 => ?_) (fun c871 => absurd c871 (not_not_intro rfl))
      refine v_iload (pc := 876) dL_law_876 rfl ?_
      refine v_if_ne (pc := 878) (tgt := 893) dL_law_878 (by decide) (fun c878 => ?_) (fun c878 => absurd c878 hk)
      refine v_goto (pc := 893) (tgt := 2232) dL_law_893 (by decide) ?_
      refine v_forget 6 ?_
      refine v_forget 7 ?_
      refine v_forget 8 ?_
      exact kk _ _ _ _ hfin ⟨by show n1 + 1 ≤ 60 + 2 * (q + 1); omega, by show n2 + 6 ≤ 2000 + 20 * (q + 1); omega⟩
  · have hz9 : (1 : Int32) = 0 ∨ (1 : Int32) = 1 := Or.inr rfl
    refine v_aload_n (pc := 800) dL_law_800 rfl rfl ?_
    refine v_aload_n (pc := 801) dL_law_801 rfl rfl ?_
    refine v_iload (pc := 802) dL_law_802 rfl ?_
    refine v_iconst (pc := 804) (v := 1) dL_law_804 (by decide) ?_
    refine v_iadd (pc := 805) dL_law_805 ?_
    refine v_sld (pc := 806) (j := 5 * q + 1) hS dL_law_806 (by rw [show (1 : Int32) = nI 1 from rfl, nI_add]) (by omega) hL ?_
    refine v_aload_n (pc := 807) dL_law_807 rfl rfl ?_
    refine v_iload (pc := 808) dL_law_808 rfl ?_
    refine v_iconst (pc := 810) (v := 2) dL_law_810 (by decide) ?_
    refine v_iadd (pc := 811) dL_law_811 ?_
    refine v_sld (pc := 812) (j := 5 * q + 2) hS dL_law_812 (by rw [show (2 : Int32) = nI 2 from rfl, nI_add]) (by omega) hL ?_
    refine v_aload_n (pc := 813) dL_law_813 rfl rfl ?_
    refine v_iload (pc := 814) dL_law_814 rfl ?_
    refine v_iconst (pc := 816) (v := 3) dL_law_816 (by decide) ?_
    refine v_iadd (pc := 817) dL_law_817 ?_
    refine v_sld (pc := 818) (j := 5 * q + 3) hS dL_law_818 (by rw [show (3 : Int32) = nI 3 from rfl, nI_add]) (by omega) hL ?_
    refine v_if_eq (pc := 819) (tgt := 826) dL_law_819 (by decide) (fun c819 => absurd c819 hzq) (fun c819 => ?_)
    refine v_iconst (pc := 822) (v := 1) dL_law_822 (by decide) ?_
    refine v_goto (pc := 823) (tgt := 827) dL_law_823 (by decide) ?_
    refine v_aload_n (pc := 827) dL_law_827 rfl rfl ?_
    refine v_callL (pc := 828) (As := [.ref (X.1 0 0), .int _, .int _, .int _, .ref o]) (rest := []) hNC dL_law_828 ll_knot.1 ll_knot.2.1 wl_knot ll_knot.2.2.2 ll_knot.2.2.1 (c_L_knot D G (X.1, X.2.1, X.2.2.1, RESTP m ad o oD, G) s (RESTP m ad o oD) o  _ _ _ hM.re rfl (Or.inr (Or.inr (Or.inl rfl))) hM.2.2.1 hz9) rfl rfl (Nat.le_of_ble_eq_true rfl) ⟨Nat.le_of_ble_eq_true rfl, Nat.le_of_ble_eq_true rfl⟩ ⟨by show n1 + 1 ≤ 601024; omega, by show n2 + 6 ≤ 7293034; omega⟩ (fun v G1 hp => ?_)
    obtain ⟨X1, s9, hL1, hA1, h01, hF1, hT1, k, hv, hk⟩ := hp
    subst hv
    have hM1 := hM.mid (Or.inl ⟨rfl, rfl⟩) hL1 hA1 (h01 0 (by decide)) hF1 hT1
    have hG := hM1.md
    refine (?_ : V cL_law RL 9 room_1 D K 831 _ _ G1 (n1 + 1, n2 + 6))
    rcases hk with ⟨hk, hok⟩ | ⟨hk, herr, hs9, hx1, hx2⟩
    · subst hk
      obtain ⟨hval, hx1, hx2, hs9, hk0⟩ := hok
      refine v_istore (pc := 831) dL_law_831 rfl (by decide) ?_
      refine v_aload_n (pc := 833) dL_law_833 rfl rfl ?_
      refine v_aload_n (pc := 834) dL_law_834 rfl rfl ?_
      refine v_iload (pc := 835) dL_law_835 rfl ?_
      refine v_iconst (pc := 837) (v := 1) dL_law_837 (by decide) ?_
      refine v_iadd (pc := 838) dL_law_838 ?_
      refine v_sld (pc := 839) (j := 5 * q + 1) hS dL_law_839 (by rw [show (1 : Int32) = nI 1 from rfl, nI_add]) (by omega) hL ?_
      refine v_aload_n (pc := 840) dL_law_840 rfl rfl ?_
      refine v_iload (pc := 841) dL_law_841 rfl ?_
      refine v_iconst (pc := 843) (v := 2) dL_law_843 (by decide) ?_
      refine v_iadd (pc := 844) dL_law_844 ?_
      refine v_sld (pc := 845) (j := 5 * q + 2) hS dL_law_845 (by rw [show (2 : Int32) = nI 2 from rfl, nI_add]) (by omega) hL ?_
      refine v_aload_n (pc := 846) dL_law_846 rfl rfl ?_
      refine v_iload (pc := 847) dL_law_847 rfl ?_
      refine v_iconst (pc := 849) (v := 3) dL_law_849 (by decide) ?_
      refine v_iadd (pc := 850) dL_law_850 ?_
      refine v_sld (pc := 851) (j := 5 * q + 3) hS dL_law_851 (by rw [show (3 : Int32) = nI 3 from rfl, nI_add]) (by omega) hL ?_
      refine v_if_eq (pc := 852) (tgt := 859) dL_law_852 (by decide) (fun c852 => absurd c852 hzq) (fun c852 => ?_)
      refine v_iconst (pc := 855) (v := 1) dL_law_855 (by decide) ?_
      refine v_goto (pc := 856) (tgt := 860) dL_law_856 (by decide) ?_
      refine vm_callV3 (pc := 860) (n1 + 1, n2 + 6) hG dL_law_860 cw_L_158 im_yX9_knot se_yX9_knot (c_X9_knot D m _ _ _ _ _ hz9) rfl (Nat.le_of_ble_eq_true rfl) ⟨Nat.le_of_ble_eq_true rfl, Nat.le_of_ble_eq_true rfl⟩ ⟨by show n1 + 1 + 0 ≤ 601024; omega, by show n2 + 6 + 0 ≤ 7293034; omega⟩ rfl (fun v s1 G hp hG => ?_)
      obtain ⟨hv1, hs1⟩ := hp
      first | rw [if_pos hk0] at hv1 hs1 | (rw [if_pos hk0] at hv1; rw [hk0] at hs1)
      subst hv1
      have t38 : s1.1 38 0 = 0 := by
        rw [hs1]; simp [gKnot, sI, sJ, u2]
      refine v_istore (pc := 863) dL_law_863 rfl (by decide) ?_
      refine v_aload_n (pc := 865) dL_law_865 rfl rfl ?_
      refine vm_callV0 (pc := 866) (n1 + 1, n2 + 6) hG dL_law_866 cw_L_124 im_yX9_thrown se_yX9_thrown (c_X9_thrown D m _ _ ) rfl (Nat.le_of_ble_eq_true rfl) ⟨Nat.le_of_ble_eq_true rfl, Nat.le_of_ble_eq_true rfl⟩ ⟨by show n1 + 1 + 0 ≤ 601024; omega, by show n2 + 6 + 0 ≤ 7293034; omega⟩ rfl (fun v s1 G hp hG => ?_)
      have hG9 := hG
      obtain ⟨hv1, hs2⟩ := hp
      subst hv1
      subst hs2
      rw [t38]
      obtain ⟨⟨hTo, hNo, hJo⟩, hTd, hNd, hEd⟩ := hM1.at hG9
      have hAG : AG s9 s1 := by
        refine ⟨fun k hk hk16 => ?_, ?_, ?_⟩
        · rw [hs1, hs9]; refine funext fun j => ?_; simp [gKnot, sI, sJ, u2, show k ≠ 38 by omega, show k ≠ 39 by omega, show k ≠ 40 by omega, show k ≠ 41 by omega, show k ≠ 42 by omega, show k ≠ 43 by omega, show k ≠ 44 by omega, show k ≠ 45 by omega, show k ≠ 46 by omega]
        · rw [hs1, hs9]; first | rfl | (refine funext fun j => ?_; simp [gKnot, sI, sJ, u2])
        · rw [hs1, hs9]; first | rfl | (refine funext fun j => ?_; simp [gKnot, sI, sJ, u2])
      have hIN : INV X1 s9 (q + 1) := by
        rw [hs9]; exact INV.q1 (Nat.le_succ q) hI0 (fun k _ _ h15 h17 _ _ _ => funext fun j => by simp [gKnot, sI, u2, h15, h17]) rfl hx1 hx2
      have hfin := hM1.fin hG9 hAG hIN
      refine v_iload (pc := 869) dL_law_869 rfl ?_
      refine v_icmp_eq (pc := 871) (tgt := 876) dL_law_871 (by decide) (fun c871 => ?_) (fun c871 => absurd c871 (not_not_intro rfl))
      refine v_iload (pc := 876) dL_law_876 rfl ?_
      refine v_if_ne (pc := 878) (tgt := 893) dL_law_878 (by decide) (fun c878 => absurd c878 (by decide)) (fun c878 => ?_)
      obtain ⟨T, N, I, J, E, Rf⟩ := G
      refine v_aload_n (pc := 881) dL_law_881 rfl rfl ?_
      refine v_iconst (pc := 882) (v := 0) dL_law_882 (by decide) ?_
      refine v_lald (pc := 883) (j := 0) dL_law_883 hTo hNo rfl (by decide) (by decide) ?_
      refine v_iload (pc := 884) dL_law_884 rfl ?_
      refine v_i2l (pc := 886) dL_law_886 ?_
      refine v_lcmp (pc := 887) dL_law_887 ?_
      refine v_if_eq (pc := 888) (tgt := 893) dL_law_888 (by decide) (fun c888 => ?_) (fun c888 => absurd c888 (not_not_intro (cmp_eq0.mpr ((congrFun hJo 0).trans (hval.trans rfl)))))
      refine v_goto (pc := 893) (tgt := 2232) dL_law_893 (by decide) ?_
      refine v_forget 6 ?_
      refine v_forget 7 ?_
      refine v_forget 8 ?_
      exact kk _ _ _ _ hfin ⟨by show n1 + 1 ≤ 60 + 2 * (q + 1); omega, by show n2 + 6 ≤ 2000 + 20 * (q + 1); omega⟩
    · refine v_istore (pc := 831) dL_law_831 rfl (by decide) ?_
      refine v_aload_n (pc := 833) dL_law_833 rfl rfl ?_
      refine v_aload_n (pc := 834) dL_law_834 rfl rfl ?_
      refine v_iload (pc := 835) dL_law_835 rfl ?_
      refine v_iconst (pc := 837) (v := 1) dL_law_837 (by decide) ?_
      refine v_iadd (pc := 838) dL_law_838 ?_
      refine v_sld (pc := 839) (j := 5 * q + 1) hS dL_law_839 (by rw [show (1 : Int32) = nI 1 from rfl, nI_add]) (by omega) hL ?_
      refine v_aload_n (pc := 840) dL_law_840 rfl rfl ?_
      refine v_iload (pc := 841) dL_law_841 rfl ?_
      refine v_iconst (pc := 843) (v := 2) dL_law_843 (by decide) ?_
      refine v_iadd (pc := 844) dL_law_844 ?_
      refine v_sld (pc := 845) (j := 5 * q + 2) hS dL_law_845 (by rw [show (2 : Int32) = nI 2 from rfl, nI_add]) (by omega) hL ?_
      refine v_aload_n (pc := 846) dL_law_846 rfl rfl ?_
      refine v_iload (pc := 847) dL_law_847 rfl ?_
      refine v_iconst (pc := 849) (v := 3) dL_law_849 (by decide) ?_
      refine v_iadd (pc := 850) dL_law_850 ?_
      refine v_sld (pc := 851) (j := 5 * q + 3) hS dL_law_851 (by rw [show (3 : Int32) = nI 3 from rfl, nI_add]) (by omega) hL ?_
      refine v_if_eq (pc := 852) (tgt := 859) dL_law_852 (by decide) (fun c852 => absurd c852 hzq) (fun c852 => ?_)
      refine v_iconst (pc := 855) (v := 1) dL_law_855 (by decide) ?_
      refine v_goto (pc := 856) (tgt := 860) dL_law_856 (by decide) ?_
      refine vm_callV3 (pc := 860) (n1 + 1, n2 + 6) hG dL_law_860 cw_L_158 im_yX9_knot se_yX9_knot (c_X9_knot D m _ _ _ _ _ hz9) rfl (Nat.le_of_ble_eq_true rfl) ⟨Nat.le_of_ble_eq_true rfl, Nat.le_of_ble_eq_true rfl⟩ ⟨by show n1 + 1 + 0 ≤ 601024; omega, by show n2 + 6 + 0 ≤ 7293034; omega⟩ rfl (fun v s1 G hp hG => ?_)
      obtain ⟨hv1, hs1⟩ := hp
      first | rw [if_neg (by rw [herr]; exact hk)] at hv1 hs1 | rw [if_neg (by rw [herr]; exact hk)] at hv1
      rw [herr] at hs1
      subst hv1
      have t38 : s1.1 38 0 = k := by
        rw [hs1]; exact sI_s _ _ _ _
      refine v_istore (pc := 863) dL_law_863 rfl (by decide) ?_
      refine v_aload_n (pc := 865) dL_law_865 rfl rfl ?_
      refine vm_callV0 (pc := 866) (n1 + 1, n2 + 6) hG dL_law_866 cw_L_124 im_yX9_thrown se_yX9_thrown (c_X9_thrown D m _ _ ) rfl (Nat.le_of_ble_eq_true rfl) ⟨Nat.le_of_ble_eq_true rfl, Nat.le_of_ble_eq_true rfl⟩ ⟨by show n1 + 1 + 0 ≤ 601024; omega, by show n2 + 6 + 0 ≤ 7293034; omega⟩ rfl (fun v s1 G hp hG => ?_)
      have hG9 := hG
      obtain ⟨hv1, hs2⟩ := hp
      subst hv1
      subst hs2
      rw [t38]
      have hAG : AG s9 s1 := by
        rw [hs1, hs9]; exact AG_thr s k
      have hIN : INV X1 s9 (q + 1) := by
        rw [hs9]; exact INV.q1 (Nat.le_succ q) hI0 (fun _ _ _ _ _ _ _ _ => rfl) rfl hx1 hx2
      have hfin := hM1.fin hG9 hAG hIN
      refine v_iload (pc := 869) dL_law_869 rfl ?_
      refine v_icmp_eq (pc := 871) (tgt := 876) dL_law_871 (by decide) (fun c871 => ?_) (fun c871 => absurd c871 (not_not_intro rfl))
      refine v_iload (pc := 876) dL_law_876 rfl ?_
      refine v_if_ne (pc := 878) (tgt := 893) dL_law_878 (by decide) (fun c878 => ?_) (fun c878 => absurd c878 hk)
      refine v_goto (pc := 893) (tgt := 2232) dL_law_893 (by decide) ?_
      refine v_forget 6 ?_
      refine v_forget 7 ?_
      refine v_forget 8 ?_
      exact kk _ _ _ _ hfin ⟨by show n1 + 1 ≤ 60 + 2 * (q + 1); omega, by show n2 + 6 ≤ 2000 + 20 * (q + 1); omega⟩
theorem ll_load : Cond.methodLink "BroadseamLoftLaw" 159 yL_load ∈ lw_all ∧ Cond.initialized yL_load.cls ∈ lw_all ∧ Cond.static yL_load ∈ lw_all ∧ (yL_load.cls ≠ "java/lang/invoke/MethodHandle" ∧ yL_load.cls ≠ "java/lang/invoke/VarHandle" ∧ (parseMethodDescriptor yL_load.desc).map (fun d => d.parameters.length) = some 3) := ⟨(lw_mem 498 (by decide +kernel) rfl), (lw_mem 32 (by decide +kernel) rfl), (lw_mem 499 (by decide +kernel) rfl), by decide +kernel, by decide +kernel, by decide +kernel⟩
set_option maxRecDepth 100000 in
set_option maxHeartbeats 1000000 in
theorem k_load {D : DT} {K : KT} {b L : Nat} {xs : Nat → Int32} (hS : SC K b L xs) (hNC : NC3 K.2.2.2.1) (hL : L ≤ 2560) {m o oD x0 : Nat} {ad : Nat → Nat} (q : Nat) (hq : 5 * q + 5 ≤ L) {X : XT} {s : SG} {G : GT} {n : Nat × Nat} (hW : HW X s m ad o oD x0 q G) (hn : n.1 ≤ 60 + 2 * q ∧ n.2 ≤ 2000 + 20 * q) (kk : ∀ (X' : XT) (s' : SG) (G' : GT) (n' : Nat × Nat), HW X' s' m ad o oD x0 (q + 1) G' → (n'.1 ≤ 60 + 2 * (q + 1) ∧ n'.2 ≤ 2000 + 20 * (q + 1)) → V cL_law RL 9 room_1 D K 2232 [some (.ref b), some (.ref x0), some (.ref m), some (.ref o), some (.ref oD), some (.int (nI (5 * q))), none, none, none] [] G' n') : V cL_law RL 9 room_1 D K 896 [some (.ref b), some (.ref x0), some (.ref m), some (.ref o), some (.ref oD), some (.int (nI (5 * q))), none, none, none] [] G n := by
  obtain ⟨hM, hI⟩ := hW
  have hI0 := hI
  obtain ⟨a, b1, c, g, ns, nl, i1, i2, i3, i4, i5, i6, i7, i8, i9⟩ := hI
  have hx0 : X.1 0 0 = x0 := hM.2.2.2.2.2.2
  subst hx0
  obtain ⟨n1, n2⟩ := n
  have hn1 : n1 ≤ 60 + 2 * q := hn.1
  have hn2 : n2 ≤ 2000 + 20 * q := hn.2
  have hn511 : nl < 512 := by have := i6.2.1; omega
  have hn512 : nl ≤ 512 := by omega
  refine v_aload_n (pc := 896) dL_law_896 rfl rfl ?_
  refine v_aload_n (pc := 897) dL_law_897 rfl rfl ?_
  refine v_iload (pc := 898) dL_law_898 rfl ?_
  refine v_iconst (pc := 900) (v := 1) dL_law_900 (by decide) ?_
  refine v_iadd (pc := 901) dL_law_901 ?_
  refine v_sld (pc := 902) (j := 5 * q + 1) hS dL_law_902 (by rw [show (1 : Int32) = nI 1 from rfl, nI_add]) (by omega) hL ?_
  refine v_aload_n (pc := 903) dL_law_903 rfl rfl ?_
  refine v_callL (pc := 904) (As := [.ref (X.1 0 0), .int _, .ref o]) (rest := []) hNC dL_law_904 ll_load.1 ll_load.2.1 wl_load ll_load.2.2.2 ll_load.2.2.1 (c_L_load D G (X.1, X.2.1, X.2.2.1, RESTP m ad o oD, G) s (RESTP m ad o oD) o  _ hM.re rfl (Or.inr (Or.inr (Or.inl rfl))) hM.2.2.1 ) rfl rfl (Nat.le_of_ble_eq_true rfl) ⟨Nat.le_of_ble_eq_true rfl, Nat.le_of_ble_eq_true rfl⟩ ⟨by show n1 + 1 ≤ 601024; omega, by show n2 + 6 ≤ 7293034; omega⟩ (fun v G1 hp => ?_)
  obtain ⟨X1, s9, hL1, hA1, h01, hF1, hT1, k, hv, hk⟩ := hp
  subst hv
  have hM1 := hM.mid (Or.inl ⟨rfl, rfl⟩) hL1 hA1 (h01 0 (by decide)) hF1 hT1
  have hG := hM1.md
  refine (?_ : V cL_law RL 9 room_1 D K 907 _ _ G1 (n1 + 1, n2 + 6))
  rcases hk with ⟨hk, hok⟩ | ⟨hk, herr, hs9, hx1, hx2⟩
  · subst hk
    obtain ⟨hval, hx1, hx2, hs9, hk0⟩ := hok
    refine v_istore (pc := 907) dL_law_907 rfl (by decide) ?_
    refine v_aload_n (pc := 909) dL_law_909 rfl rfl ?_
    refine v_aload_n (pc := 910) dL_law_910 rfl rfl ?_
    refine v_iload (pc := 911) dL_law_911 rfl ?_
    refine v_iconst (pc := 913) (v := 1) dL_law_913 (by decide) ?_
    refine v_iadd (pc := 914) dL_law_914 ?_
    refine v_sld (pc := 915) (j := 5 * q + 1) hS dL_law_915 (by rw [show (1 : Int32) = nI 1 from rfl, nI_add]) (by omega) hL ?_
    refine vm_callV1 (pc := 916) (n1 + 1, n2 + 6) hG dL_law_916 cw_L_161 im_yX9_load se_yX9_load (c_X9_load D m _ _ _) rfl (Nat.le_of_ble_eq_true rfl) ⟨Nat.le_of_ble_eq_true rfl, Nat.le_of_ble_eq_true rfl⟩ ⟨by show n1 + 1 + 0 ≤ 601024; omega, by show n2 + 6 + 0 ≤ 7293034; omega⟩ rfl (fun v s1 G hp hG => ?_)
    obtain ⟨hv1, hs1⟩ := hp
    first | rw [if_pos hk0] at hv1 hs1 | (rw [if_pos hk0] at hv1; rw [hk0] at hs1)
    subst hv1
    have t38 : s1.1 38 0 = 0 := by
      rw [hs1]; simp [thr, sI, sJ, u2]
    refine v_istore (pc := 919) dL_law_919 rfl (by decide) ?_
    refine v_aload_n (pc := 921) dL_law_921 rfl rfl ?_
    refine vm_callV0 (pc := 922) (n1 + 1, n2 + 6) hG dL_law_922 cw_L_124 im_yX9_thrown se_yX9_thrown (c_X9_thrown D m _ _ ) rfl (Nat.le_of_ble_eq_true rfl) ⟨Nat.le_of_ble_eq_true rfl, Nat.le_of_ble_eq_true rfl⟩ ⟨by show n1 + 1 + 0 ≤ 601024; omega, by show n2 + 6 + 0 ≤ 7293034; omega⟩ rfl (fun v s1 G hp hG => ?_)
    have hG9 := hG
    obtain ⟨hv1, hs2⟩ := hp
    subst hv1
    subst hs2
    rw [t38]
    obtain ⟨⟨hTo, hNo, hJo⟩, hTd, hNd, hEd⟩ := hM1.at hG9
    have hAG : AG s9 s1 := by
      refine ⟨fun k hk hk16 => ?_, ?_, ?_⟩
      · rw [hs1, hs9]; refine funext fun j => ?_; simp [thr, sI, sJ, u2, show k ≠ 38 by omega, show k ≠ 39 by omega, show k ≠ 40 by omega, show k ≠ 41 by omega, show k ≠ 42 by omega, show k ≠ 43 by omega, show k ≠ 44 by omega, show k ≠ 45 by omega, show k ≠ 46 by omega]
      · rw [hs1, hs9]; first | rfl | (refine funext fun j => ?_; simp [thr, sI, sJ, u2])
      · rw [hs1, hs9]; first | rfl | (refine funext fun j => ?_; simp [thr, sI, sJ, u2])
    have hIN : INV X1 s9 (q + 1) := by
      rw [hs9]; exact INV.q1 (Nat.le_succ q) hI0 (fun k _ _ _ _ h18 _ _ => u2_rown _ _ _ h18) rfl hx1 hx2
    have hfin := hM1.fin hG9 hAG hIN
    refine v_iload (pc := 925) dL_law_925 rfl ?_
    refine v_icmp_eq (pc := 927) (tgt := 932) dL_law_927 (by decide) (fun c927 => ?_) (fun c927 => absurd c927 (not_not_intro rfl))
    refine v_iload (pc := 932) dL_law_932 rfl ?_
    refine v_if_ne (pc := 934) (tgt := 949) dL_law_934 (by decide) (fun c934 => absurd c934 (by decide)) (fun c934 => ?_)
    obtain ⟨T, N, I, J, E, Rf⟩ := G
    refine v_aload_n (pc := 937) dL_law_937 rfl rfl ?_
    refine v_iconst (pc := 938) (v := 0) dL_law_938 (by decide) ?_
    refine v_lald (pc := 939) (j := 0) dL_law_939 hTo hNo rfl (by decide) (by decide) ?_
    refine v_iload (pc := 940) dL_law_940 rfl ?_
    refine v_i2l (pc := 942) dL_law_942 ?_
    refine v_lcmp (pc := 943) dL_law_943 ?_
    refine v_if_eq (pc := 944) (tgt := 949) dL_law_944 (by decide) (fun c944 => ?_) (fun c944 => absurd c944 (not_not_intro (cmp_eq0.mpr ((congrFun hJo 0).trans (hval.trans rfl)))))
    refine v_goto (pc := 949) (tgt := 2232) dL_law_949 (by decide) ?_
    refine v_forget 6 ?_
    refine v_forget 7 ?_
    refine v_forget 8 ?_
    exact kk _ _ _ _ hfin ⟨by show n1 + 1 ≤ 60 + 2 * (q + 1); omega, by show n2 + 6 ≤ 2000 + 20 * (q + 1); omega⟩
  · refine v_istore (pc := 907) dL_law_907 rfl (by decide) ?_
    refine v_aload_n (pc := 909) dL_law_909 rfl rfl ?_
    refine v_aload_n (pc := 910) dL_law_910 rfl rfl ?_
    refine v_iload (pc := 911) dL_law_911 rfl ?_
    refine v_iconst (pc := 913) (v := 1) dL_law_913 (by decide) ?_
    refine v_iadd (pc := 914) dL_law_914 ?_
    refine v_sld (pc := 915) (j := 5 * q + 1) hS dL_law_915 (by rw [show (1 : Int32) = nI 1 from rfl, nI_add]) (by omega) hL ?_
    refine vm_callV1 (pc := 916) (n1 + 1, n2 + 6) hG dL_law_916 cw_L_161 im_yX9_load se_yX9_load (c_X9_load D m _ _ _) rfl (Nat.le_of_ble_eq_true rfl) ⟨Nat.le_of_ble_eq_true rfl, Nat.le_of_ble_eq_true rfl⟩ ⟨by show n1 + 1 + 0 ≤ 601024; omega, by show n2 + 6 + 0 ≤ 7293034; omega⟩ rfl (fun v s1 G hp hG => ?_)
    obtain ⟨hv1, hs1⟩ := hp
    first | rw [if_neg (by rw [herr]; exact hk)] at hv1 hs1 | rw [if_neg (by rw [herr]; exact hk)] at hv1
    rw [herr] at hs1
    subst hv1
    have t38 : s1.1 38 0 = k := by
      rw [hs1]; exact sI_s _ _ _ _
    refine v_istore (pc := 919) dL_law_919 rfl (by decide) ?_
    refine v_aload_n (pc := 921) dL_law_921 rfl rfl ?_
    refine vm_callV0 (pc := 922) (n1 + 1, n2 + 6) hG dL_law_922 cw_L_124 im_yX9_thrown se_yX9_thrown (c_X9_thrown D m _ _ ) rfl (Nat.le_of_ble_eq_true rfl) ⟨Nat.le_of_ble_eq_true rfl, Nat.le_of_ble_eq_true rfl⟩ ⟨by show n1 + 1 + 0 ≤ 601024; omega, by show n2 + 6 + 0 ≤ 7293034; omega⟩ rfl (fun v s1 G hp hG => ?_)
    have hG9 := hG
    obtain ⟨hv1, hs2⟩ := hp
    subst hv1
    subst hs2
    rw [t38]
    have hAG : AG s9 s1 := by
      rw [hs1, hs9]; exact AG_thr s k
    have hIN : INV X1 s9 (q + 1) := by
      rw [hs9]; exact INV.q1 (Nat.le_succ q) hI0 (fun _ _ _ _ _ _ _ _ => rfl) rfl hx1 hx2
    have hfin := hM1.fin hG9 hAG hIN
    refine v_iload (pc := 925) dL_law_925 rfl ?_
    refine v_icmp_eq (pc := 927) (tgt := 932) dL_law_927 (by decide) (fun c927 => ?_) (fun c927 => absurd c927 (not_not_intro rfl))
    refine v_iload (pc := 932) dL_law_932 rfl ?_
    refine v_if_ne (pc := 934) (tgt := 949) dL_law_934 (by decide) (fun c934 => ?_) (fun c934 => absurd c934 hk)
    refine v_goto (pc := 949) (tgt := 2232) dL_law_949 (by decide) ?_
    refine v_forget 6 ?_
    refine v_forget 7 ?_
    refine v_forget 8 ?_
    exact kk _ _ _ _ hfin ⟨by show n1 + 1 ≤ 60 + 2 * (q + 1); omega, by show n2 + 6 ≤ 2000 + 20 * (q + 1); omega⟩
theorem ll_rest : Cond.methodLink "BroadseamLoftLaw" 162 yL_rest ∈ lw_all ∧ Cond.initialized yL_rest.cls ∈ lw_all ∧ Cond.static yL_rest ∈ lw_all ∧ (yL_rest.cls ≠ "java/lang/invoke/MethodHandle" ∧ yL_rest.cls ≠ "java/lang/invoke/VarHandle" ∧ (parseMethodDescriptor yL_rest.desc).map (fun d => d.parameters.length) = some 3) := ⟨(lw_mem 507 (by decide +kernel) rfl), (lw_mem 32 (by decide +kernel) rfl), (lw_mem 508 (by decide +kernel) rfl), by decide +kernel, by decide +kernel, by decide +kernel⟩
set_option maxRecDepth 100000 in
set_option maxHeartbeats 1000000 in
theorem k_rest {D : DT} {K : KT} {b L : Nat} {xs : Nat → Int32} (hS : SC K b L xs) (hNC : NC3 K.2.2.2.1) (hL : L ≤ 2560) {m o oD x0 : Nat} {ad : Nat → Nat} (q : Nat) (hq : 5 * q + 5 ≤ L) {X : XT} {s : SG} {G : GT} {n : Nat × Nat} (hW : HW X s m ad o oD x0 q G) (hn : n.1 ≤ 60 + 2 * q ∧ n.2 ≤ 2000 + 20 * q) (kk : ∀ (X' : XT) (s' : SG) (G' : GT) (n' : Nat × Nat), HW X' s' m ad o oD x0 (q + 1) G' → (n'.1 ≤ 60 + 2 * (q + 1) ∧ n'.2 ≤ 2000 + 20 * (q + 1)) → V cL_law RL 9 room_1 D K 2232 [some (.ref b), some (.ref x0), some (.ref m), some (.ref o), some (.ref oD), some (.int (nI (5 * q))), none, none, none] [] G' n') : V cL_law RL 9 room_1 D K 952 [some (.ref b), some (.ref x0), some (.ref m), some (.ref o), some (.ref oD), some (.int (nI (5 * q))), none, none, none] [] G n := by
  obtain ⟨hM, hI⟩ := hW
  have hI0 := hI
  obtain ⟨a, b1, c, g, ns, nl, i1, i2, i3, i4, i5, i6, i7, i8, i9⟩ := hI
  have hx0 : X.1 0 0 = x0 := hM.2.2.2.2.2.2
  subst hx0
  obtain ⟨n1, n2⟩ := n
  have hn1 : n1 ≤ 60 + 2 * q := hn.1
  have hn2 : n2 ≤ 2000 + 20 * q := hn.2
  have hn511 : nl < 512 := by have := i6.2.1; omega
  have hn512 : nl ≤ 512 := by omega
  refine v_aload_n (pc := 952) dL_law_952 rfl rfl ?_
  refine v_aload_n (pc := 953) dL_law_953 rfl rfl ?_
  refine v_iload (pc := 954) dL_law_954 rfl ?_
  refine v_iconst (pc := 956) (v := 1) dL_law_956 (by decide) ?_
  refine v_iadd (pc := 957) dL_law_957 ?_
  refine v_sld (pc := 958) (j := 5 * q + 1) hS dL_law_958 (by rw [show (1 : Int32) = nI 1 from rfl, nI_add]) (by omega) hL ?_
  refine v_aload_n (pc := 959) dL_law_959 rfl rfl ?_
  refine v_callL (pc := 960) (As := [.ref (X.1 0 0), .int _, .ref o]) (rest := []) hNC dL_law_960 ll_rest.1 ll_rest.2.1 wl_rest ll_rest.2.2.2 ll_rest.2.2.1 (c_L_rest D G (X.1, X.2.1, X.2.2.1, RESTP m ad o oD, G) s (RESTP m ad o oD) o  _ hM.re rfl (Or.inr (Or.inr (Or.inl rfl))) hM.2.2.1 ) rfl rfl (Nat.le_of_ble_eq_true rfl) ⟨Nat.le_of_ble_eq_true rfl, Nat.le_of_ble_eq_true rfl⟩ ⟨by show n1 + 1 ≤ 601024; omega, by show n2 + 6 ≤ 7293034; omega⟩ (fun v G1 hp => ?_)
  obtain ⟨X1, s9, hL1, hA1, h01, hF1, hT1, k, hv, hk⟩ := hp
  subst hv
  have hM1 := hM.mid (Or.inl ⟨rfl, rfl⟩) hL1 hA1 (h01 0 (by decide)) hF1 hT1
  have hG := hM1.md
  refine (?_ : V cL_law RL 9 room_1 D K 963 _ _ G1 (n1 + 1, n2 + 6))
  rcases hk with ⟨hk, hok⟩ | ⟨hk, herr, hs9, hx1, hx2⟩
  · subst hk
    obtain ⟨hval, hx1, hx2, hs9, hk0⟩ := hok
    refine v_istore (pc := 963) dL_law_963 rfl (by decide) ?_
    refine v_aload_n (pc := 965) dL_law_965 rfl rfl ?_
    refine v_aload_n (pc := 966) dL_law_966 rfl rfl ?_
    refine v_iload (pc := 967) dL_law_967 rfl ?_
    refine v_iconst (pc := 969) (v := 1) dL_law_969 (by decide) ?_
    refine v_iadd (pc := 970) dL_law_970 ?_
    refine v_sld (pc := 971) (j := 5 * q + 1) hS dL_law_971 (by rw [show (1 : Int32) = nI 1 from rfl, nI_add]) (by omega) hL ?_
    refine vm_callV1 (pc := 972) (n1 + 1, n2 + 6) hG dL_law_972 cw_L_164 im_yX9_rest se_yX9_rest (c_X9_rest D m _ _ _) rfl (Nat.le_of_ble_eq_true rfl) ⟨Nat.le_of_ble_eq_true rfl, Nat.le_of_ble_eq_true rfl⟩ ⟨by show n1 + 1 + 0 ≤ 601024; omega, by show n2 + 6 + 0 ≤ 7293034; omega⟩ rfl (fun v s1 G hp hG => ?_)
    obtain ⟨hv1, hs1⟩ := hp
    first | rw [if_pos hk0] at hv1 hs1 | (rw [if_pos hk0] at hv1; rw [hk0] at hs1)
    subst hv1
    have t38 : s1.1 38 0 = 0 := by
      rw [hs1, run_38]; rfl
    refine v_istore (pc := 975) dL_law_975 rfl (by decide) ?_
    refine v_aload_n (pc := 977) dL_law_977 rfl rfl ?_
    refine vm_callV0 (pc := 978) (n1 + 1, n2 + 6) hG dL_law_978 cw_L_124 im_yX9_thrown se_yX9_thrown (c_X9_thrown D m _ _ ) rfl (Nat.le_of_ble_eq_true rfl) ⟨Nat.le_of_ble_eq_true rfl, Nat.le_of_ble_eq_true rfl⟩ ⟨by show n1 + 1 + 0 ≤ 601024; omega, by show n2 + 6 + 0 ≤ 7293034; omega⟩ rfl (fun v s1 G hp hG => ?_)
    have hG9 := hG
    obtain ⟨hv1, hs2⟩ := hp
    subst hv1
    subst hs2
    rw [t38]
    obtain ⟨⟨hTo, hNo, hJo⟩, hTd, hNd, hEd⟩ := hM1.at hG9
    have hAG : AG s9 s1 := by
      rw [hs1, hs9]; exact ((NE.thr s 0).run _).1.ag
    have hIN : INV X1 s9 (q + 1) := by
      rw [hs9]; exact INV.q1 (Nat.le_succ q) hI0 (fun k _ _ h15 _ _ _ h46 => runC_k _ _ _ h15 h46) (by rw [runC_2]) hx1 hx2
    have hfin := hM1.fin hG9 hAG hIN
    refine v_iload (pc := 981) dL_law_981 rfl ?_
    refine v_icmp_eq (pc := 983) (tgt := 988) dL_law_983 (by decide) (fun c983 => ?_) (fun c983 => absurd c983 (not_not_intro rfl))
    refine v_iload (pc := 988) dL_law_988 rfl ?_
    refine v_if_ne (pc := 990) (tgt := 1005) dL_law_990 (by decide) (fun c990 => absurd c990 (by decide)) (fun c990 => ?_)
    obtain ⟨T, N, I, J, E, Rf⟩ := G
    refine v_aload_n (pc := 993) dL_law_993 rfl rfl ?_
    refine v_iconst (pc := 994) (v := 0) dL_law_994 (by decide) ?_
    refine v_lald (pc := 995) (j := 0) dL_law_995 hTo hNo rfl (by decide) (by decide) ?_
    refine v_iload (pc := 996) dL_law_996 rfl ?_
    refine v_i2l (pc := 998) dL_law_998 ?_
    refine v_lcmp (pc := 999) dL_law_999 ?_
    refine v_if_eq (pc := 1000) (tgt := 1005) dL_law_1000 (by decide) (fun c1000 => ?_) (fun c1000 => absurd c1000 (not_not_intro (cmp_eq0.mpr ((congrFun hJo 0).trans (hval.trans (by rw [((NE.thr s 0).run _).2]))))))
    refine v_goto (pc := 1005) (tgt := 2232) dL_law_1005 (by decide) ?_
    refine v_forget 6 ?_
    refine v_forget 7 ?_
    refine v_forget 8 ?_
    exact kk _ _ _ _ hfin ⟨by show n1 + 1 ≤ 60 + 2 * (q + 1); omega, by show n2 + 6 ≤ 2000 + 20 * (q + 1); omega⟩
  · refine v_istore (pc := 963) dL_law_963 rfl (by decide) ?_
    refine v_aload_n (pc := 965) dL_law_965 rfl rfl ?_
    refine v_aload_n (pc := 966) dL_law_966 rfl rfl ?_
    refine v_iload (pc := 967) dL_law_967 rfl ?_
    refine v_iconst (pc := 969) (v := 1) dL_law_969 (by decide) ?_
    refine v_iadd (pc := 970) dL_law_970 ?_
    refine v_sld (pc := 971) (j := 5 * q + 1) hS dL_law_971 (by rw [show (1 : Int32) = nI 1 from rfl, nI_add]) (by omega) hL ?_
    refine vm_callV1 (pc := 972) (n1 + 1, n2 + 6) hG dL_law_972 cw_L_164 im_yX9_rest se_yX9_rest (c_X9_rest D m _ _ _) rfl (Nat.le_of_ble_eq_true rfl) ⟨Nat.le_of_ble_eq_true rfl, Nat.le_of_ble_eq_true rfl⟩ ⟨by show n1 + 1 + 0 ≤ 601024; omega, by show n2 + 6 + 0 ≤ 7293034; omega⟩ rfl (fun v s1 G hp hG => ?_)
    obtain ⟨hv1, hs1⟩ := hp
    first | rw [if_neg (by rw [herr]; exact hk)] at hv1 hs1 | rw [if_neg (by rw [herr]; exact hk)] at hv1
    rw [herr] at hs1
    subst hv1
    have t38 : s1.1 38 0 = k := by
      rw [hs1]; exact sI_s _ _ _ _
    refine v_istore (pc := 975) dL_law_975 rfl (by decide) ?_
    refine v_aload_n (pc := 977) dL_law_977 rfl rfl ?_
    refine vm_callV0 (pc := 978) (n1 + 1, n2 + 6) hG dL_law_978 cw_L_124 im_yX9_thrown se_yX9_thrown (c_X9_thrown D m _ _ ) rfl (Nat.le_of_ble_eq_true rfl) ⟨Nat.le_of_ble_eq_true rfl, Nat.le_of_ble_eq_true rfl⟩ ⟨by show n1 + 1 + 0 ≤ 601024; omega, by show n2 + 6 + 0 ≤ 7293034; omega⟩ rfl (fun v s1 G hp hG => ?_)
    have hG9 := hG
    obtain ⟨hv1, hs2⟩ := hp
    subst hv1
    subst hs2
    rw [t38]
    have hAG : AG s9 s1 := by
      rw [hs1, hs9]; exact AG_thr s k
    have hIN : INV X1 s9 (q + 1) := by
      rw [hs9]; exact INV.q1 (Nat.le_succ q) hI0 (fun _ _ _ _ _ _ _ _ => rfl) rfl hx1 hx2
    have hfin := hM1.fin hG9 hAG hIN
    refine v_iload (pc := 981) dL_law_981 rfl ?_
    refine v_icmp_eq (pc := 983) (tgt := 988) dL_law_983 (by decide) (fun c983 => ?_) (fun c983 => absurd c983 (not_not_intro rfl))
    refine v_iload (pc := 988) dL_law_988 rfl ?_
    refine v_if_ne (pc := 990) (tgt := 1005) dL_law_990 (by decide) (fun c990 => ?_) (fun c990 => absurd c990 hk)
    refine v_goto (pc := 1005) (tgt := 2232) dL_law_1005 (by decide) ?_
    refine v_forget 6 ?_
    refine v_forget 7 ?_
    refine v_forget 8 ?_
    exact kk _ _ _ _ hfin ⟨by show n1 + 1 ≤ 60 + 2 * (q + 1); omega, by show n2 + 6 ≤ 2000 + 20 * (q + 1); omega⟩
theorem ll_height : Cond.methodLink "BroadseamLoftLaw" 165 yL_height ∈ lw_all ∧ Cond.initialized yL_height.cls ∈ lw_all ∧ Cond.static yL_height ∈ lw_all ∧ (yL_height.cls ≠ "java/lang/invoke/MethodHandle" ∧ yL_height.cls ≠ "java/lang/invoke/VarHandle" ∧ (parseMethodDescriptor yL_height.desc).map (fun d => d.parameters.length) = some 3) := ⟨(lw_mem 534 (by decide +kernel) rfl), (lw_mem 32 (by decide +kernel) rfl), (lw_mem 535 (by decide +kernel) rfl), by decide +kernel, by decide +kernel, by decide +kernel⟩
set_option maxRecDepth 100000 in
set_option maxHeartbeats 1000000 in
theorem k_height {D : DT} {K : KT} {b L : Nat} {xs : Nat → Int32} (hS : SC K b L xs) (hNC : NC3 K.2.2.2.1) (hL : L ≤ 2560) {m o oD x0 : Nat} {ad : Nat → Nat} (q : Nat) (hq : 5 * q + 5 ≤ L) {X : XT} {s : SG} {G : GT} {n : Nat × Nat} (hW : HW X s m ad o oD x0 q G) (hn : n.1 ≤ 60 + 2 * q ∧ n.2 ≤ 2000 + 20 * q) (kk : ∀ (X' : XT) (s' : SG) (G' : GT) (n' : Nat × Nat), HW X' s' m ad o oD x0 (q + 1) G' → (n'.1 ≤ 60 + 2 * (q + 1) ∧ n'.2 ≤ 2000 + 20 * (q + 1)) → V cL_law RL 9 room_1 D K 2232 [some (.ref b), some (.ref x0), some (.ref m), some (.ref o), some (.ref oD), some (.int (nI (5 * q))), none, none, none] [] G' n') : V cL_law RL 9 room_1 D K 1008 [some (.ref b), some (.ref x0), some (.ref m), some (.ref o), some (.ref oD), some (.int (nI (5 * q))), none, none, none] [] G n := by
  obtain ⟨hM, hI⟩ := hW
  have hI0 := hI
  obtain ⟨a, b1, c, g, ns, nl, i1, i2, i3, i4, i5, i6, i7, i8, i9⟩ := hI
  have hx0 : X.1 0 0 = x0 := hM.2.2.2.2.2.2
  subst hx0
  obtain ⟨n1, n2⟩ := n
  have hn1 : n1 ≤ 60 + 2 * q := hn.1
  have hn2 : n2 ≤ 2000 + 20 * q := hn.2
  have hn511 : nl < 512 := by have := i6.2.1; omega
  have hn512 : nl ≤ 512 := by omega
  refine v_aload_n (pc := 1008) dL_law_1008 rfl rfl ?_
  refine v_aload_n (pc := 1009) dL_law_1009 rfl rfl ?_
  refine v_iload (pc := 1010) dL_law_1010 rfl ?_
  refine v_iconst (pc := 1012) (v := 1) dL_law_1012 (by decide) ?_
  refine v_iadd (pc := 1013) dL_law_1013 ?_
  refine v_sld (pc := 1014) (j := 5 * q + 1) hS dL_law_1014 (by rw [show (1 : Int32) = nI 1 from rfl, nI_add]) (by omega) hL ?_
  refine v_aload_n (pc := 1015) dL_law_1015 rfl rfl ?_
  refine v_callL (pc := 1016) (As := [.ref (X.1 0 0), .int _, .ref o]) (rest := []) hNC dL_law_1016 ll_height.1 ll_height.2.1 wl_height ll_height.2.2.2 ll_height.2.2.1 (c_L_height D G (X.1, X.2.1, X.2.2.1, RESTP m ad o oD, G) s (RESTP m ad o oD) o  _ hM.re rfl (Or.inr (Or.inr (Or.inl rfl))) hM.2.2.1 ) rfl rfl (Nat.le_of_ble_eq_true rfl) ⟨Nat.le_of_ble_eq_true rfl, Nat.le_of_ble_eq_true rfl⟩ ⟨by show n1 + 1 ≤ 601024; omega, by show n2 + 6 ≤ 7293034; omega⟩ (fun v G1 hp => ?_)
  obtain ⟨X1, s9, hL1, hA1, h01, hF1, hT1, k, hv, hk⟩ := hp
  subst hv
  have hM1 := hM.mid (Or.inl ⟨rfl, rfl⟩) hL1 hA1 (h01 0 (by decide)) hF1 hT1
  have hG := hM1.md
  refine (?_ : V cL_law RL 9 room_1 D K 1019 _ _ G1 (n1 + 1, n2 + 6))
  rcases hk with ⟨hk, hok⟩ | ⟨hk, herr, hs9, hx1, hx2⟩
  · subst hk
    obtain ⟨hval, hx1, hx2, hs9, hk0⟩ := hok
    refine v_istore (pc := 1019) dL_law_1019 rfl (by decide) ?_
    refine v_aload_n (pc := 1021) dL_law_1021 rfl rfl ?_
    refine v_aload_n (pc := 1022) dL_law_1022 rfl rfl ?_
    refine v_iload (pc := 1023) dL_law_1023 rfl ?_
    refine v_iconst (pc := 1025) (v := 1) dL_law_1025 (by decide) ?_
    refine v_iadd (pc := 1026) dL_law_1026 ?_
    refine v_sld (pc := 1027) (j := 5 * q + 1) hS dL_law_1027 (by rw [show (1 : Int32) = nI 1 from rfl, nI_add]) (by omega) hL ?_
    refine vm_callV1 (pc := 1028) (n1 + 1, n2 + 6) hG dL_law_1028 cw_L_167 im_yX9_height se_yX9_height (c_X9_height D m _ _ _) rfl (Nat.le_of_ble_eq_true rfl) ⟨Nat.le_of_ble_eq_true rfl, Nat.le_of_ble_eq_true rfl⟩ ⟨by show n1 + 1 + 0 ≤ 601024; omega, by show n2 + 6 + 0 ≤ 7293034; omega⟩ rfl (fun v s1 G hp hG => ?_)
    obtain ⟨hv1, hs1⟩ := hp
    first | rw [if_pos hk0] at hv1 hs1 | (rw [if_pos hk0] at hv1; rw [hk0] at hs1)
    subst hv1
    have t38 : s1.1 38 0 = 0 := by
      rw [hs1]; simp [thr, sI, sJ, u2]
    refine v_istore (pc := 1031) dL_law_1031 rfl (by decide) ?_
    refine v_aload_n (pc := 1033) dL_law_1033 rfl rfl ?_
    refine vm_callV0 (pc := 1034) (n1 + 1, n2 + 6) hG dL_law_1034 cw_L_124 im_yX9_thrown se_yX9_thrown (c_X9_thrown D m _ _ ) rfl (Nat.le_of_ble_eq_true rfl) ⟨Nat.le_of_ble_eq_true rfl, Nat.le_of_ble_eq_true rfl⟩ ⟨by show n1 + 1 + 0 ≤ 601024; omega, by show n2 + 6 + 0 ≤ 7293034; omega⟩ rfl (fun v s1 G hp hG => ?_)
    have hG9 := hG
    obtain ⟨hv1, hs2⟩ := hp
    subst hv1
    subst hs2
    rw [t38]
    obtain ⟨⟨hTo, hNo, hJo⟩, hTd, hNd, hEd⟩ := hM1.at hG9
    have hAG : AG s9 s1 := by
      rw [hs1, hs9]; exact AG_thr s 0
    have hIN : INV X1 s9 (q + 1) := by
      rw [hs9]; exact INV.q1 (Nat.le_succ q) hI0 (fun _ _ _ _ _ _ _ _ => rfl) rfl hx1 hx2
    have hfin := hM1.fin hG9 hAG hIN
    refine v_iload (pc := 1037) dL_law_1037 rfl ?_
    refine v_icmp_eq (pc := 1039) (tgt := 1044) dL_law_1039 (by decide) (fun c1039 => ?_) (fun c1039 => absurd c1039 (not_not_intro rfl))
    refine v_iload (pc := 1044) dL_law_1044 rfl ?_
    refine v_if_ne (pc := 1046) (tgt := 1061) dL_law_1046 (by decide) (fun c1046 => absurd c1046 (by decide)) (fun c1046 => ?_)
    obtain ⟨T, N, I, J, E, Rf⟩ := G
    refine v_aload_n (pc := 1049) dL_law_1049 rfl rfl ?_
    refine v_iconst (pc := 1050) (v := 0) dL_law_1050 (by decide) ?_
    refine v_lald (pc := 1051) (j := 0) dL_law_1051 hTo hNo rfl (by decide) (by decide) ?_
    refine v_iload (pc := 1052) dL_law_1052 rfl ?_
    refine v_i2l (pc := 1054) dL_law_1054 ?_
    refine v_lcmp (pc := 1055) dL_law_1055 ?_
    refine v_if_eq (pc := 1056) (tgt := 1061) dL_law_1056 (by decide) (fun c1056 => ?_) (fun c1056 => absurd c1056 (not_not_intro (cmp_eq0.mpr ((congrFun hJo 0).trans (hval.trans rfl)))))
    refine v_goto (pc := 1061) (tgt := 2232) dL_law_1061 (by decide) ?_
    refine v_forget 6 ?_
    refine v_forget 7 ?_
    refine v_forget 8 ?_
    exact kk _ _ _ _ hfin ⟨by show n1 + 1 ≤ 60 + 2 * (q + 1); omega, by show n2 + 6 ≤ 2000 + 20 * (q + 1); omega⟩
  · refine v_istore (pc := 1019) dL_law_1019 rfl (by decide) ?_
    refine v_aload_n (pc := 1021) dL_law_1021 rfl rfl ?_
    refine v_aload_n (pc := 1022) dL_law_1022 rfl rfl ?_
    refine v_iload (pc := 1023) dL_law_1023 rfl ?_
    refine v_iconst (pc := 1025) (v := 1) dL_law_1025 (by decide) ?_
    refine v_iadd (pc := 1026) dL_law_1026 ?_
    refine v_sld (pc := 1027) (j := 5 * q + 1) hS dL_law_1027 (by rw [show (1 : Int32) = nI 1 from rfl, nI_add]) (by omega) hL ?_
    refine vm_callV1 (pc := 1028) (n1 + 1, n2 + 6) hG dL_law_1028 cw_L_167 im_yX9_height se_yX9_height (c_X9_height D m _ _ _) rfl (Nat.le_of_ble_eq_true rfl) ⟨Nat.le_of_ble_eq_true rfl, Nat.le_of_ble_eq_true rfl⟩ ⟨by show n1 + 1 + 0 ≤ 601024; omega, by show n2 + 6 + 0 ≤ 7293034; omega⟩ rfl (fun v s1 G hp hG => ?_)
    obtain ⟨hv1, hs1⟩ := hp
    first | rw [if_neg (by rw [herr]; exact hk)] at hv1 hs1 | rw [if_neg (by rw [herr]; exact hk)] at hv1
    rw [herr] at hs1
    subst hv1
    have t38 : s1.1 38 0 = k := by
      rw [hs1]; exact sI_s _ _ _ _
    refine v_istore (pc := 1031) dL_law_1031 rfl (by decide) ?_
    refine v_aload_n (pc := 1033) dL_law_1033 rfl rfl ?_
    refine vm_callV0 (pc := 1034) (n1 + 1, n2 + 6) hG dL_law_1034 cw_L_124 im_yX9_thrown se_yX9_thrown (c_X9_thrown D m _ _ ) rfl (Nat.le_of_ble_eq_true rfl) ⟨Nat.le_of_ble_eq_true rfl, Nat.le_of_ble_eq_true rfl⟩ ⟨by show n1 + 1 + 0 ≤ 601024; omega, by show n2 + 6 + 0 ≤ 7293034; omega⟩ rfl (fun v s1 G hp hG => ?_)
    have hG9 := hG
    obtain ⟨hv1, hs2⟩ := hp
    subst hv1
    subst hs2
    rw [t38]
    have hAG : AG s9 s1 := by
      rw [hs1, hs9]; exact AG_thr s k
    have hIN : INV X1 s9 (q + 1) := by
      rw [hs9]; exact INV.q1 (Nat.le_succ q) hI0 (fun _ _ _ _ _ _ _ _ => rfl) rfl hx1 hx2
    have hfin := hM1.fin hG9 hAG hIN
    refine v_iload (pc := 1037) dL_law_1037 rfl ?_
    refine v_icmp_eq (pc := 1039) (tgt := 1044) dL_law_1039 (by decide) (fun c1039 => ?_) (fun c1039 => absurd c1039 (not_not_intro rfl))
    refine v_iload (pc := 1044) dL_law_1044 rfl ?_
    refine v_if_ne (pc := 1046) (tgt := 1061) dL_law_1046 (by decide) (fun c1046 => ?_) (fun c1046 => absurd c1046 hk)
    refine v_goto (pc := 1061) (tgt := 2232) dL_law_1061 (by decide) ?_
    refine v_forget 6 ?_
    refine v_forget 7 ?_
    refine v_forget 8 ?_
    exact kk _ _ _ _ hfin ⟨by show n1 + 1 ≤ 60 + 2 * (q + 1); omega, by show n2 + 6 ≤ 2000 + 20 * (q + 1); omega⟩
theorem ll_peg : Cond.methodLink "BroadseamLoftLaw" 170 yL_peg ∈ lw_all ∧ Cond.initialized yL_peg.cls ∈ lw_all ∧ Cond.static yL_peg ∈ lw_all ∧ (yL_peg.cls ≠ "java/lang/invoke/MethodHandle" ∧ yL_peg.cls ≠ "java/lang/invoke/VarHandle" ∧ (parseMethodDescriptor yL_peg.desc).map (fun d => d.parameters.length) = some 4) := ⟨(lw_mem 541 (by decide +kernel) rfl), (lw_mem 32 (by decide +kernel) rfl), (lw_mem 542 (by decide +kernel) rfl), by decide +kernel, by decide +kernel, by decide +kernel⟩
set_option maxRecDepth 100000 in
set_option maxHeartbeats 1000000 in
theorem k_peg {D : DT} {K : KT} {b L : Nat} {xs : Nat → Int32} (hS : SC K b L xs) (hNC : NC3 K.2.2.2.1) (hL : L ≤ 2560) {m o oD x0 : Nat} {ad : Nat → Nat} (q : Nat) (hq : 5 * q + 5 ≤ L) {X : XT} {s : SG} {G : GT} {n : Nat × Nat} (hW : HW X s m ad o oD x0 q G) (hn : n.1 ≤ 60 + 2 * q ∧ n.2 ≤ 2000 + 20 * q) (kk : ∀ (X' : XT) (s' : SG) (G' : GT) (n' : Nat × Nat), HW X' s' m ad o oD x0 (q + 1) G' → (n'.1 ≤ 60 + 2 * (q + 1) ∧ n'.2 ≤ 2000 + 20 * (q + 1)) → V cL_law RL 9 room_1 D K 2232 [some (.ref b), some (.ref x0), some (.ref m), some (.ref o), some (.ref oD), some (.int (nI (5 * q))), none, none, none] [] G' n') : V cL_law RL 9 room_1 D K 1064 [some (.ref b), some (.ref x0), some (.ref m), some (.ref o), some (.ref oD), some (.int (nI (5 * q))), none, none, none] [] G n := by
  obtain ⟨hM, hI⟩ := hW
  have hI0 := hI
  obtain ⟨a, b1, c, g, ns, nl, i1, i2, i3, i4, i5, i6, i7, i8, i9⟩ := hI
  have hx0 : X.1 0 0 = x0 := hM.2.2.2.2.2.2
  subst hx0
  obtain ⟨n1, n2⟩ := n
  have hn1 : n1 ≤ 60 + 2 * q := hn.1
  have hn2 : n2 ≤ 2000 + 20 * q := hn.2
  have hn511 : nl < 512 := by have := i6.2.1; omega
  have hn512 : nl ≤ 512 := by omega
  refine v_aload_n (pc := 1064) dL_law_1064 rfl rfl ?_
  refine v_aload_n (pc := 1065) dL_law_1065 rfl rfl ?_
  refine v_iload (pc := 1066) dL_law_1066 rfl ?_
  refine v_iconst (pc := 1068) (v := 1) dL_law_1068 (by decide) ?_
  refine v_iadd (pc := 1069) dL_law_1069 ?_
  refine v_sld (pc := 1070) (j := 5 * q + 1) hS dL_law_1070 (by rw [show (1 : Int32) = nI 1 from rfl, nI_add]) (by omega) hL ?_
  refine v_i2l (pc := 1071) dL_law_1071 ?_
  refine v_bipush (pc := 1072) (v := 32) dL_law_1072 (by decide) ?_
  refine v_lshl (pc := 1074) dL_law_1074 ?_
  refine v_aload_n (pc := 1075) dL_law_1075 rfl rfl ?_
  refine v_iload (pc := 1076) dL_law_1076 rfl ?_
  refine v_iconst (pc := 1078) (v := 2) dL_law_1078 (by decide) ?_
  refine v_iadd (pc := 1079) dL_law_1079 ?_
  refine v_sld (pc := 1080) (j := 5 * q + 2) hS dL_law_1080 (by rw [show (2 : Int32) = nI 2 from rfl, nI_add]) (by omega) hL ?_
  refine v_i2l (pc := 1081) dL_law_1081 ?_
  refine v_ldcL (pc := 1082) dL_law_1082 k_L_168 ?_
  refine v_land (pc := 1085) dL_law_1085 ?_
  refine v_lor (pc := 1086) dL_law_1086 ?_
  refine v_aload_n (pc := 1087) dL_law_1087 rfl rfl ?_
  refine v_iload (pc := 1088) dL_law_1088 rfl ?_
  refine v_iconst (pc := 1090) (v := 3) dL_law_1090 (by decide) ?_
  refine v_iadd (pc := 1091) dL_law_1091 ?_
  refine v_sld (pc := 1092) (j := 5 * q + 3) hS dL_law_1092 (by rw [show (3 : Int32) = nI 3 from rfl, nI_add]) (by omega) hL ?_
  refine v_aload_n (pc := 1093) dL_law_1093 rfl rfl ?_
  refine v_callL (pc := 1094) (As := [.ref (X.1 0 0), .long _, .int _, .ref o]) (rest := []) hNC dL_law_1094 ll_peg.1 ll_peg.2.1 wl_peg ll_peg.2.2.2 ll_peg.2.2.1 (c_L_peg D G (X.1, X.2.1, X.2.2.1, RESTP m ad o oD, G) s (RESTP m ad o oD) o g _ _ hM.re rfl (Or.inr (Or.inr (Or.inl rfl))) hM.2.2.1 i4.1 i4.2.1 (i4.2.2.2.1 g (Nat.le_refl g)).1 (i4.2.2.2.1 g (Nat.le_refl g)).2 i9) rfl rfl (Nat.le_of_ble_eq_true rfl) ⟨Nat.le_of_ble_eq_true rfl, Nat.le_of_ble_eq_true rfl⟩ ⟨by show n1 + 1 ≤ 601024; omega, by show n2 + 6 ≤ 7293034; omega⟩ (fun v G1 hp => ?_)
  obtain ⟨X1, s9, hL1, hA1, h01, hF1, hT1, k, hv, hk⟩ := hp
  subst hv
  have hM1 := hM.mid (Or.inl ⟨rfl, rfl⟩) hL1 hA1 (h01 0 (by decide)) hF1 hT1
  have hG := hM1.md
  refine (?_ : V cL_law RL 9 room_1 D K 1097 _ _ G1 (n1 + 1, n2 + 6))
  rcases hk with ⟨hk, hok⟩ | ⟨hk, herr, hs9, hx1, hx2⟩
  · subst hk
    obtain ⟨hval, hs9, hx1, hx2, hk0⟩ := hok
    refine v_istore (pc := 1097) dL_law_1097 rfl (by decide) ?_
    refine v_aload_n (pc := 1099) dL_law_1099 rfl rfl ?_
    refine v_aload_n (pc := 1100) dL_law_1100 rfl rfl ?_
    refine v_iload (pc := 1101) dL_law_1101 rfl ?_
    refine v_iconst (pc := 1103) (v := 1) dL_law_1103 (by decide) ?_
    refine v_iadd (pc := 1104) dL_law_1104 ?_
    refine v_sld (pc := 1105) (j := 5 * q + 1) hS dL_law_1105 (by rw [show (1 : Int32) = nI 1 from rfl, nI_add]) (by omega) hL ?_
    refine v_i2l (pc := 1106) dL_law_1106 ?_
    refine v_bipush (pc := 1107) (v := 32) dL_law_1107 (by decide) ?_
    refine v_lshl (pc := 1109) dL_law_1109 ?_
    refine v_aload_n (pc := 1110) dL_law_1110 rfl rfl ?_
    refine v_iload (pc := 1111) dL_law_1111 rfl ?_
    refine v_iconst (pc := 1113) (v := 2) dL_law_1113 (by decide) ?_
    refine v_iadd (pc := 1114) dL_law_1114 ?_
    refine v_sld (pc := 1115) (j := 5 * q + 2) hS dL_law_1115 (by rw [show (2 : Int32) = nI 2 from rfl, nI_add]) (by omega) hL ?_
    refine v_i2l (pc := 1116) dL_law_1116 ?_
    refine v_ldcL (pc := 1117) dL_law_1117 k_L_168 ?_
    refine v_land (pc := 1120) dL_law_1120 ?_
    refine v_lor (pc := 1121) dL_law_1121 ?_
    refine v_aload_n (pc := 1122) dL_law_1122 rfl rfl ?_
    refine v_iload (pc := 1123) dL_law_1123 rfl ?_
    refine v_iconst (pc := 1125) (v := 3) dL_law_1125 (by decide) ?_
    refine v_iadd (pc := 1126) dL_law_1126 ?_
    refine v_sld (pc := 1127) (j := 5 * q + 3) hS dL_law_1127 (by rw [show (3 : Int32) = nI 3 from rfl, nI_add]) (by omega) hL ?_
    refine vm_callV2 (pc := 1128) (n1 + 1, n2 + 6) hG dL_law_1128 cw_L_173 im_yX9_peg se_yX9_peg (c_X9_peg D m _ _ g _ _ i4.1 i4.2.1) rfl (Nat.le_of_ble_eq_true rfl) ⟨Nat.le_of_ble_eq_true rfl, Nat.le_of_ble_eq_true rfl⟩ ⟨by show n1 + 1 + 0 ≤ 601024; omega, by show n2 + 6 + 0 ≤ 7293034; omega⟩ rfl (fun v s1 G hp hG => ?_)
    obtain ⟨hv1, hs1⟩ := hp
    first | rw [if_pos hk0] at hv1 hs1 | (rw [if_pos hk0] at hv1; rw [hk0] at hs1)
    subst hv1
    have t38 : s1.1 38 0 = 0 := by
      rw [hs1]; simp [gPeg, sI, sJ, u2]
    refine v_istore (pc := 1131) dL_law_1131 rfl (by decide) ?_
    refine v_aload_n (pc := 1133) dL_law_1133 rfl rfl ?_
    refine vm_callV0 (pc := 1134) (n1 + 1, n2 + 6) hG dL_law_1134 cw_L_124 im_yX9_thrown se_yX9_thrown (c_X9_thrown D m _ _ ) rfl (Nat.le_of_ble_eq_true rfl) ⟨Nat.le_of_ble_eq_true rfl, Nat.le_of_ble_eq_true rfl⟩ ⟨by show n1 + 1 + 0 ≤ 601024; omega, by show n2 + 6 + 0 ≤ 7293034; omega⟩ rfl (fun v s1 G hp hG => ?_)
    have hG9 := hG
    obtain ⟨hv1, hs2⟩ := hp
    subst hv1
    subst hs2
    rw [t38]
    obtain ⟨⟨hTo, hNo, hJo⟩, hTd, hNd, hEd⟩ := hM1.at hG9
    have hAG : AG s9 s1 := by
      refine ⟨fun k hk hk16 => ?_, ?_, ?_⟩
      · rw [hs1, hs9]; refine funext fun j => ?_; simp [gPeg, sI, sJ, u2, show k ≠ 38 by omega, show k ≠ 39 by omega, show k ≠ 40 by omega, show k ≠ 41 by omega, show k ≠ 42 by omega, show k ≠ 43 by omega, show k ≠ 44 by omega, show k ≠ 45 by omega, show k ≠ 46 by omega]
      · rw [hs1, hs9]; first | rfl | (refine funext fun j => ?_; simp [gPeg, sI, sJ, u2])
      · rw [hs1, hs9]; first | rfl | (refine funext fun j => ?_; simp [gPeg, sI, sJ, u2])
    have hIN : INV X1 s9 (q + 1) := by
      rw [hs9]; exact inv_peg hI0 i4.1 i4.2.1 hk0 hx1 hx2
    have hfin := hM1.fin hG9 hAG hIN
    refine v_iload (pc := 1137) dL_law_1137 rfl ?_
    refine v_icmp_eq (pc := 1139) (tgt := 1144) dL_law_1139 (by decide) (fun c1139 => ?_) (fun c1139 => absurd c1139 (not_not_intro rfl))
    refine v_iload (pc := 1144) dL_law_1144 rfl ?_
    refine v_if_ne (pc := 1146) (tgt := 1161) dL_law_1146 (by decide) (fun c1146 => absurd c1146 (by decide)) (fun c1146 => ?_)
    obtain ⟨T, N, I, J, E, Rf⟩ := G
    refine v_aload_n (pc := 1149) dL_law_1149 rfl rfl ?_
    refine v_iconst (pc := 1150) (v := 0) dL_law_1150 (by decide) ?_
    refine v_lald (pc := 1151) (j := 0) dL_law_1151 hTo hNo rfl (by decide) (by decide) ?_
    refine v_iload (pc := 1152) dL_law_1152 rfl ?_
    refine v_i2l (pc := 1154) dL_law_1154 ?_
    refine v_lcmp (pc := 1155) dL_law_1155 ?_
    refine v_if_eq (pc := 1156) (tgt := 1161) dL_law_1156 (by decide) (fun c1156 => ?_) (fun c1156 => absurd c1156 (not_not_intro (cmp_eq0.mpr ((congrFun hJo 0).trans (hval.trans rfl)))))
    refine v_goto (pc := 1161) (tgt := 2232) dL_law_1161 (by decide) ?_
    refine v_forget 6 ?_
    refine v_forget 7 ?_
    refine v_forget 8 ?_
    exact kk _ _ _ _ hfin ⟨by show n1 + 1 ≤ 60 + 2 * (q + 1); omega, by show n2 + 6 ≤ 2000 + 20 * (q + 1); omega⟩
  · refine v_istore (pc := 1097) dL_law_1097 rfl (by decide) ?_
    refine v_aload_n (pc := 1099) dL_law_1099 rfl rfl ?_
    refine v_aload_n (pc := 1100) dL_law_1100 rfl rfl ?_
    refine v_iload (pc := 1101) dL_law_1101 rfl ?_
    refine v_iconst (pc := 1103) (v := 1) dL_law_1103 (by decide) ?_
    refine v_iadd (pc := 1104) dL_law_1104 ?_
    refine v_sld (pc := 1105) (j := 5 * q + 1) hS dL_law_1105 (by rw [show (1 : Int32) = nI 1 from rfl, nI_add]) (by omega) hL ?_
    refine v_i2l (pc := 1106) dL_law_1106 ?_
    refine v_bipush (pc := 1107) (v := 32) dL_law_1107 (by decide) ?_
    refine v_lshl (pc := 1109) dL_law_1109 ?_
    refine v_aload_n (pc := 1110) dL_law_1110 rfl rfl ?_
    refine v_iload (pc := 1111) dL_law_1111 rfl ?_
    refine v_iconst (pc := 1113) (v := 2) dL_law_1113 (by decide) ?_
    refine v_iadd (pc := 1114) dL_law_1114 ?_
    refine v_sld (pc := 1115) (j := 5 * q + 2) hS dL_law_1115 (by rw [show (2 : Int32) = nI 2 from rfl, nI_add]) (by omega) hL ?_
    refine v_i2l (pc := 1116) dL_law_1116 ?_
    refine v_ldcL (pc := 1117) dL_law_1117 k_L_168 ?_
    refine v_land (pc := 1120) dL_law_1120 ?_
    refine v_lor (pc := 1121) dL_law_1121 ?_
    refine v_aload_n (pc := 1122) dL_law_1122 rfl rfl ?_
    refine v_iload (pc := 1123) dL_law_1123 rfl ?_
    refine v_iconst (pc := 1125) (v := 3) dL_law_1125 (by decide) ?_
    refine v_iadd (pc := 1126) dL_law_1126 ?_
    refine v_sld (pc := 1127) (j := 5 * q + 3) hS dL_law_1127 (by rw [show (3 : Int32) = nI 3 from rfl, nI_add]) (by omega) hL ?_
    refine vm_callV2 (pc := 1128) (n1 + 1, n2 + 6) hG dL_law_1128 cw_L_173 im_yX9_peg se_yX9_peg (c_X9_peg D m _ _ g _ _ i4.1 i4.2.1) rfl (Nat.le_of_ble_eq_true rfl) ⟨Nat.le_of_ble_eq_true rfl, Nat.le_of_ble_eq_true rfl⟩ ⟨by show n1 + 1 + 0 ≤ 601024; omega, by show n2 + 6 + 0 ≤ 7293034; omega⟩ rfl (fun v s1 G hp hG => ?_)
    obtain ⟨hv1, hs1⟩ := hp
    first | rw [if_neg (by rw [herr]; exact hk)] at hv1 hs1 | rw [if_neg (by rw [herr]; exact hk)] at hv1
    rw [herr] at hs1
    subst hv1
    have t38 : s1.1 38 0 = k := by
      rw [hs1]; exact sI_s _ _ _ _
    refine v_istore (pc := 1131) dL_law_1131 rfl (by decide) ?_
    refine v_aload_n (pc := 1133) dL_law_1133 rfl rfl ?_
    refine vm_callV0 (pc := 1134) (n1 + 1, n2 + 6) hG dL_law_1134 cw_L_124 im_yX9_thrown se_yX9_thrown (c_X9_thrown D m _ _ ) rfl (Nat.le_of_ble_eq_true rfl) ⟨Nat.le_of_ble_eq_true rfl, Nat.le_of_ble_eq_true rfl⟩ ⟨by show n1 + 1 + 0 ≤ 601024; omega, by show n2 + 6 + 0 ≤ 7293034; omega⟩ rfl (fun v s1 G hp hG => ?_)
    have hG9 := hG
    obtain ⟨hv1, hs2⟩ := hp
    subst hv1
    subst hs2
    rw [t38]
    have hAG : AG s9 s1 := by
      rw [hs1, hs9]; exact AG_thr s k
    have hIN : INV X1 s9 (q + 1) := by
      rw [hs9]; exact INV.q1 (Nat.le_succ q) hI0 (fun _ _ _ _ _ _ _ _ => rfl) rfl hx1 hx2
    have hfin := hM1.fin hG9 hAG hIN
    refine v_iload (pc := 1137) dL_law_1137 rfl ?_
    refine v_icmp_eq (pc := 1139) (tgt := 1144) dL_law_1139 (by decide) (fun c1139 => ?_) (fun c1139 => absurd c1139 (not_not_intro rfl))
    refine v_iload (pc := 1144) dL_law_1144 rfl ?_
    refine v_if_ne (pc := 1146) (tgt := 1161) dL_law_1146 (by decide) (fun c1146 => ?_) (fun c1146 => absurd c1146 hk)
    refine v_goto (pc := 1161) (tgt := 2232) dL_law_1161 (by decide) ?_
    refine v_forget 6 ?_
    refine v_forget 7 ?_
    refine v_forget 8 ?_
    exact kk _ _ _ _ hfin ⟨by show n1 + 1 ≤ 60 + 2 * (q + 1); omega, by show n2 + 6 ≤ 2000 + 20 * (q + 1); omega⟩
