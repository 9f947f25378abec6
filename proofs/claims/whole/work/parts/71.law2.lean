theorem ll_gust : Cond.methodLink "BroadseamLoftLaw" 174 yL_gust ∈ lw_all ∧ Cond.initialized yL_gust.cls ∈ lw_all ∧ Cond.static yL_gust ∈ lw_all ∧ (yL_gust.cls ≠ "java/lang/invoke/MethodHandle" ∧ yL_gust.cls ≠ "java/lang/invoke/VarHandle" ∧ (parseMethodDescriptor yL_gust.desc).map (fun d => d.parameters.length) = some 3) := ⟨(lw_mem 572 (by decide +kernel) rfl), (lw_mem 32 (by decide +kernel) rfl), (lw_mem 573 (by decide +kernel) rfl), by decide +kernel, by decide +kernel, by decide +kernel⟩
set_option maxRecDepth 100000 in
set_option maxHeartbeats 1000000 in
theorem k_gust {D : DT} {K : KT} {b L : Nat} {xs : Nat → Int32} (hS : SC K b L xs) (hNC : NC3 K.2.2.2.1) (hL : L ≤ 2560) {m o oD x0 : Nat} {ad : Nat → Nat} (q : Nat) (hq : 5 * q + 5 ≤ L) {X : XT} {s : SG} {G : GT} {n : Nat × Nat} (hW : HW X s m ad o oD x0 q G) (hn : n.1 ≤ 60 + 2 * q ∧ n.2 ≤ 2000 + 20 * q) (kk : ∀ (X' : XT) (s' : SG) (G' : GT) (n' : Nat × Nat), HW X' s' m ad o oD x0 (q + 1) G' → (n'.1 ≤ 60 + 2 * (q + 1) ∧ n'.2 ≤ 2000 + 20 * (q + 1)) → V cL_law RL 9 room_1 D K 2232 [some (.ref b), some (.ref x0), some (.ref m), some (.ref o), some (.ref oD), some (.int (nI (5 * q))), none, none, none] [] G' n') : V cL_law RL 9 room_1 D K 1164 [some (.ref b), some (.ref x0), some (.ref m), some (.ref o), some (.ref oD), some (.int (nI (5 * q))), none, none, none] [] G n := by
  obtain ⟨hM, hI⟩ := hW
  have hI0 := hI
  obtain ⟨a, b1, c, g, ns, nl, i1, i2, i3, i4, i5, i6, i7, i8, i9⟩ := hI
  have hx0 : X.1 0 0 = x0 := hM.2.2.2.2.2.2
  subst hx0
  obtain ⟨n1, n2⟩ := n
  have hn1 : n1 ≤ 60 + 2 * q := hn.1
  have hn2 : n2 ≤ 2000 + 20 * q := hn.2
  have hn511 : nl < 512 := by have := i6.2.1; omega
  have hn512 : nl ≤ 512 := by omega
  refine v_aload_n (pc := 1164) dL_law_1164 rfl rfl ?_
  refine v_aload_n (pc := 1165) dL_law_1165 rfl rfl ?_
  refine v_iload (pc := 1166) dL_law_1166 rfl ?_
  refine v_iconst (pc := 1168) (v := 1) dL_law_1168 (by decide) ?_
  refine v_iadd (pc := 1169) dL_law_1169 ?_
  refine v_sld (pc := 1170) (j := 5 * q + 1) hS dL_law_1170 (by rw [show (1 : Int32) = nI 1 from rfl, nI_add]) (by omega) hL ?_
  refine v_i2l (pc := 1171) dL_law_1171 ?_
  refine v_bipush (pc := 1172) (v := 32) dL_law_1172 (by decide) ?_
  refine v_lshl (pc := 1174) dL_law_1174 ?_
  refine v_aload_n (pc := 1175) dL_law_1175 rfl rfl ?_
  refine v_iload (pc := 1176) dL_law_1176 rfl ?_
  refine v_iconst (pc := 1178) (v := 2) dL_law_1178 (by decide) ?_
  refine v_iadd (pc := 1179) dL_law_1179 ?_
  refine v_sld (pc := 1180) (j := 5 * q + 2) hS dL_law_1180 (by rw [show (2 : Int32) = nI 2 from rfl, nI_add]) (by omega) hL ?_
  refine v_i2l (pc := 1181) dL_law_1181 ?_
  refine v_ldcL (pc := 1182) dL_law_1182 k_L_168 ?_
  refine v_land (pc := 1185) dL_law_1185 ?_
  refine v_lor (pc := 1186) dL_law_1186 ?_
  refine v_aload_n (pc := 1187) dL_law_1187 rfl rfl ?_
  refine v_callL (pc := 1188) (As := [.ref (X.1 0 0), .long _, .ref o]) (rest := []) hNC dL_law_1188 ll_gust.1 ll_gust.2.1 wl_gust ll_gust.2.2.2 ll_gust.2.2.1 (c_L_gust D G (X.1, X.2.1, X.2.2.1, RESTP m ad o oD, G) s (RESTP m ad o oD) o g _ hM.re rfl (Or.inr (Or.inr (Or.inl rfl))) hM.2.2.1 i4.2.2.2.2 i4.2.1 i4.2.2.1) rfl rfl (Nat.le_of_ble_eq_true rfl) ⟨Nat.le_of_ble_eq_true rfl, Nat.le_of_ble_eq_true rfl⟩ ⟨by show n1 + 1 ≤ 601024; omega, by show n2 + 6 ≤ 7293034; omega⟩ (fun v G1 hp => ?_)
  obtain ⟨X1, s9, hL1, hA1, h01, hF1, hT1, k, hv, hk⟩ := hp
  subst hv
  have hM1 := hM.mid (Or.inl ⟨rfl, rfl⟩) hL1 hA1 (h01 0 (by decide)) hF1 hT1
  have hG := hM1.md
  refine (?_ : V cL_law RL 9 room_1 D K 1191 _ _ G1 (n1 + 1, n2 + 6))
  rcases hk with ⟨hk, hok⟩ | ⟨hk, herr, hs9, hx1, hx2⟩
  · subst hk
    obtain ⟨hval, hx1, hx2, hs9, hk0⟩ := hok
    refine v_istore (pc := 1191) dL_law_1191 rfl (by decide) ?_
    refine v_aload_n (pc := 1193) dL_law_1193 rfl rfl ?_
    refine v_aload_n (pc := 1194) dL_law_1194 rfl rfl ?_
    refine v_iload (pc := 1195) dL_law_1195 rfl ?_
    refine v_iconst (pc := 1197) (v := 1) dL_law_1197 (by decide) ?_
    refine v_iadd (pc := 1198) dL_law_1198 ?_
    refine v_sld (pc := 1199) (j := 5 * q + 1) hS dL_law_1199 (by rw [show (1 : Int32) = nI 1 from rfl, nI_add]) (by omega) hL ?_
    refine v_i2l (pc := 1200) dL_law_1200 ?_
    refine v_bipush (pc := 1201) (v := 32) dL_law_1201 (by decide) ?_
    refine v_lshl (pc := 1203) dL_law_1203 ?_
    refine v_aload_n (pc := 1204) dL_law_1204 rfl rfl ?_
    refine v_iload (pc := 1205) dL_law_1205 rfl ?_
    refine v_iconst (pc := 1207) (v := 2) dL_law_1207 (by decide) ?_
    refine v_iadd (pc := 1208) dL_law_1208 ?_
    refine v_sld (pc := 1209) (j := 5 * q + 2) hS dL_law_1209 (by rw [show (2 : Int32) = nI 2 from rfl, nI_add]) (by omega) hL ?_
    refine v_i2l (pc := 1210) dL_law_1210 ?_
    refine v_ldcL (pc := 1211) dL_law_1211 k_L_168 ?_
    refine v_land (pc := 1214) dL_law_1214 ?_
    refine v_lor (pc := 1215) dL_law_1215 ?_
    refine vm_callV1 (pc := 1216) (n1 + 1, n2 + 6) hG dL_law_1216 cw_L_177 im_yX9_gust se_yX9_gust (c_X9_gust D m _ _ g _ i4.2.2.2.2 i4.1 i4.2.1) rfl (Nat.le_of_ble_eq_true rfl) ⟨Nat.le_of_ble_eq_true rfl, Nat.le_of_ble_eq_true rfl⟩ ⟨by show n1 + 1 + 0 ≤ 601024; omega, by show n2 + 6 + 0 ≤ 7293034; omega⟩ rfl (fun v s1 G hp hG => ?_)
    obtain ⟨hv1, hs1⟩ := hp
    first | rw [if_pos hk0] at hv1 hs1 | (rw [if_pos hk0] at hv1; rw [hk0] at hs1)
    subst hv1
    have t38 : s1.1 38 0 = 0 := by
      rw [hs1, gus_thr]; rfl
    refine v_istore (pc := 1219) dL_law_1219 rfl (by decide) ?_
    refine v_aload_n (pc := 1221) dL_law_1221 rfl rfl ?_
    refine vm_callV0 (pc := 1222) (n1 + 1, n2 + 6) hG dL_law_1222 cw_L_124 im_yX9_thrown se_yX9_thrown (c_X9_thrown D m _ _ ) rfl (Nat.le_of_ble_eq_true rfl) ⟨Nat.le_of_ble_eq_true rfl, Nat.le_of_ble_eq_true rfl⟩ ⟨by show n1 + 1 + 0 ≤ 601024; omega, by show n2 + 6 + 0 ≤ 7293034; omega⟩ rfl (fun v s1 G hp hG => ?_)
    have hG9 := hG
    obtain ⟨hv1, hs2⟩ := hp
    subst hv1
    subst hs2
    rw [t38]
    obtain ⟨⟨hTo, hNo, hJo⟩, hTd, hNd, hEd⟩ := hM1.at hG9
    have hAG : AG s9 s1 := by
      rw [hs1, hs9, gus_thr]; exact AG_thr _ 0
    have hIN : INV X1 s9 (q + 1) := by
      rw [hs9]; exact inv_gust hI0 i4.1 i4.2.1 hx1 hx2
    have hfin := hM1.fin hG9 hAG hIN
    refine v_iload (pc := 1225) dL_law_1225 rfl ?_
    refine v_icmp_eq (pc := 1227) (tgt := 1232) dL_law_1227 (by decide) (fun c1227 => ?_) (fun c1227 => absurd c1227 (not_not_intro rfl))
    refine v_iload (pc := 1232) dL_law_1232 rfl ?_
    refine v_if_ne (pc := 1234) (tgt := 1249) dL_law_1234 (by decide) (fun c1234 => absurd c1234 (by decide)) (fun c1234 => ?_)
    obtain ⟨T, N, I, J, E, Rf⟩ := G
    refine v_aload_n (pc := 1237) dL_law_1237 rfl rfl ?_
    refine v_iconst (pc := 1238) (v := 0) dL_law_1238 (by decide) ?_
    refine v_lald (pc := 1239) (j := 0) dL_law_1239 hTo hNo rfl (by decide) (by decide) ?_
    refine v_iload (pc := 1240) dL_law_1240 rfl ?_
    refine v_i2l (pc := 1242) dL_law_1242 ?_
    refine v_lcmp (pc := 1243) dL_law_1243 ?_
    refine v_if_eq (pc := 1244) (tgt := 1249) dL_law_1244 (by decide) (fun c1244 => ?_) (fun c1244 => absurd c1244 (not_not_intro (cmp_eq0.mpr ((congrFun hJo 0).trans (hval.trans (by rw [gus_thr]))))))
    refine v_goto (pc := 1249) (tgt := 2232) dL_law_1249 (by decide) ?_
    refine v_forget 6 ?_
    refine v_forget 7 ?_
    refine v_forget 8 ?_
    exact kk _ _ _ _ hfin ⟨by show n1 + 1 ≤ 60 + 2 * (q + 1); omega, by show n2 + 6 ≤ 2000 + 20 * (q + 1); omega⟩
  · refine v_istore (pc := 1191) dL_law_1191 rfl (by decide) ?_
    refine v_aload_n (pc := 1193) dL_law_1193 rfl rfl ?_
    refine v_aload_n (pc := 1194) dL_law_1194 rfl rfl ?_
    refine v_iload (pc := 1195) dL_law_1195 rfl ?_
    refine v_iconst (pc := 1197) (v := 1) dL_law_1197 (by decide) ?_
    refine v_iadd (pc := 1198) dL_law_1198 ?_
    refine v_sld (pc := 1199) (j := 5 * q + 1) hS dL_law_1199 (by rw [show (1 : Int32) = nI 1 from rfl, nI_add]) (by omega) hL ?_
    refine v_i2l (pc := 1200) dL_law_1200 ?_
    refine v_bipush (pc := 1201) (v := 32) dL_law_1201 (by decide) ?_
    refine v_lshl (pc := 1203) dL_law_1203 ?_
    refine v_aload_n (pc := 1204) dL_law_1204 rfl rfl ?_
    refine v_iload (pc := 1205) dL_law_1205 rfl ?_
    refine v_iconst (pc := 1207) (v := 2) dL_law_1207 (by decide) ?_
    refine v_iadd (pc := 1208) dL_law_1208 ?_
    refine v_sld (pc := 1209) (j := 5 * q + 2) hS dL_law_1209 (by rw [show (2 : Int32) = nI 2 from rfl, nI_add]) (by omega) hL ?_
    refine v_i2l (pc := 1210) dL_law_1210 ?_
    refine v_ldcL (pc := 1211) dL_law_1211 k_L_168 ?_
    refine v_land (pc := 1214) dL_law_1214 ?_
    refine v_lor (pc := 1215) dL_law_1215 ?_
    refine vm_callV1 (pc := 1216) (n1 + 1, n2 + 6) hG dL_law_1216 cw_L_177 im_yX9_gust se_yX9_gust (c_X9_gust D m _ _ g _ i4.2.2.2.2 i4.1 i4.2.1) rfl (Nat.le_of_ble_eq_true rfl) ⟨Nat.le_of_ble_eq_true rfl, Nat.le_of_ble_eq_true rfl⟩ ⟨by show n1 + 1 + 0 ≤ 601024; omega, by show n2 + 6 + 0 ≤ 7293034; omega⟩ rfl (fun v s1 G hp hG => ?_)
    obtain ⟨hv1, hs1⟩ := hp
    first | rw [if_neg (by rw [herr]; exact hk)] at hv1 hs1 | rw [if_neg (by rw [herr]; exact hk)] at hv1
    rw [herr] at hs1
    subst hv1
    have t38 : s1.1 38 0 = k := by
      rw [hs1]; exact sI_s _ _ _ _
    refine v_istore (pc := 1219) dL_law_1219 rfl (by decide) ?_
    refine v_aload_n (pc := 1221) dL_law_1221 rfl rfl ?_
    refine vm_callV0 (pc := 1222) (n1 + 1, n2 + 6) hG dL_law_1222 cw_L_124 im_yX9_thrown se_yX9_thrown (c_X9_thrown D m _ _ ) rfl (Nat.le_of_ble_eq_true rfl) ⟨Nat.le_of_ble_eq_true rfl, Nat.le_of_ble_eq_true rfl⟩ ⟨by show n1 + 1 + 0 ≤ 601024; omega, by show n2 + 6 + 0 ≤ 7293034; omega⟩ rfl (fun v s1 G hp hG => ?_)
    have hG9 := hG
    obtain ⟨hv1, hs2⟩ := hp
    subst hv1
    subst hs2
    rw [t38]
    have hAG : AG s9 s1 := by
      rw [hs1, hs9]; exact AG_thr s k
    have hIN : INV X1 s9 (q + 1) := by
      rw [hs9]; exact INV.q1 (Nat.le_succ q) hI0 (fun _ _ _ _ _ _ _ _ => rfl) rfl hx1 hx2
    have hfin := hM1.fin hG9 hAG hIN
    refine v_iload (pc := 1225) dL_law_1225 rfl ?_
    refine v_icmp_eq (pc := 1227) (tgt := 1232) dL_law_1227 (by decide) (fun c1227 => ?_) (fun c1227 => absurd c1227 (not_not_intro rfl))
    refine v_iload (pc := 1232) dL_law_1232 rfl ?_
    refine v_if_ne (pc := 1234) (tgt := 1249) dL_law_1234 (by decide) (fun c1234 => ?_) (fun c1234 => absurd c1234 hk)
    refine v_goto (pc := 1249) (tgt := 2232) dL_law_1249 (by decide) ?_
    refine v_forget 6 ?_
    refine v_forget 7 ?_
    refine v_forget 8 ?_
    exact kk _ _ _ _ hfin ⟨by show n1 + 1 ≤ 60 + 2 * (q + 1); omega, by show n2 + 6 ≤ 2000 + 20 * (q + 1); omega⟩
theorem ll_pulled : Cond.methodLink "BroadseamLoftLaw" 178 yL_pulled ∈ lw_all ∧ Cond.initialized yL_pulled.cls ∈ lw_all ∧ Cond.static yL_pulled ∈ lw_all ∧ (yL_pulled.cls ≠ "java/lang/invoke/MethodHandle" ∧ yL_pulled.cls ≠ "java/lang/invoke/VarHandle" ∧ (parseMethodDescriptor yL_pulled.desc).map (fun d => d.parameters.length) = some 3) := ⟨(lw_mem 593 (by decide +kernel) rfl), (lw_mem 32 (by decide +kernel) rfl), (lw_mem 594 (by decide +kernel) rfl), by decide +kernel, by decide +kernel, by decide +kernel⟩
set_option maxRecDepth 100000 in
set_option maxHeartbeats 1000000 in
theorem k_pulled {D : DT} {K : KT} {b L : Nat} {xs : Nat → Int32} (hS : SC K b L xs) (hNC : NC3 K.2.2.2.1) (hL : L ≤ 2560) {m o oD x0 : Nat} {ad : Nat → Nat} (q : Nat) (hq : 5 * q + 5 ≤ L) {X : XT} {s : SG} {G : GT} {n : Nat × Nat} (hW : HW X s m ad o oD x0 q G) (hn : n.1 ≤ 60 + 2 * q ∧ n.2 ≤ 2000 + 20 * q) (kk : ∀ (X' : XT) (s' : SG) (G' : GT) (n' : Nat × Nat), HW X' s' m ad o oD x0 (q + 1) G' → (n'.1 ≤ 60 + 2 * (q + 1) ∧ n'.2 ≤ 2000 + 20 * (q + 1)) → V cL_law RL 9 room_1 D K 2232 [some (.ref b), some (.ref x0), some (.ref m), some (.ref o), some (.ref oD), some (.int (nI (5 * q))), none, none, none] [] G' n') : V cL_law RL 9 room_1 D K 1252 [some (.ref b), some (.ref x0), some (.ref m), some (.ref o), some (.ref oD), some (.int (nI (5 * q))), none, none, none] [] G n := by
  obtain ⟨hM, hI⟩ := hW
  have hI0 := hI
  obtain ⟨a, b1, c, g, ns, nl, i1, i2, i3, i4, i5, i6, i7, i8, i9⟩ := hI
  have hx0 : X.1 0 0 = x0 := hM.2.2.2.2.2.2
  subst hx0
  obtain ⟨n1, n2⟩ := n
  have hn1 : n1 ≤ 60 + 2 * q := hn.1
  have hn2 : n2 ≤ 2000 + 20 * q := hn.2
  have hn511 : nl < 512 := by have := i6.2.1; omega
  have hn512 : nl ≤ 512 := by omega
  refine v_aload_n (pc := 1252) dL_law_1252 rfl rfl ?_
  refine v_aload_n (pc := 1253) dL_law_1253 rfl rfl ?_
  refine v_iload (pc := 1254) dL_law_1254 rfl ?_
  refine v_iconst (pc := 1256) (v := 1) dL_law_1256 (by decide) ?_
  refine v_iadd (pc := 1257) dL_law_1257 ?_
  refine v_sld (pc := 1258) (j := 5 * q + 1) hS dL_law_1258 (by rw [show (1 : Int32) = nI 1 from rfl, nI_add]) (by omega) hL ?_
  refine v_aload_n (pc := 1259) dL_law_1259 rfl rfl ?_
  refine v_callL (pc := 1260) (As := [.ref (X.1 0 0), .int _, .ref o]) (rest := []) hNC dL_law_1260 ll_pulled.1 ll_pulled.2.1 wl_pulled ll_pulled.2.2.2 ll_pulled.2.2.1 (c_L_pulled D G (X.1, X.2.1, X.2.2.1, RESTP m ad o oD, G) s (RESTP m ad o oD) o g _ hM.re rfl (Or.inr (Or.inr (Or.inl rfl))) hM.2.2.1 i4.1 i4.2.1 i4.2.2.1) rfl rfl (Nat.le_of_ble_eq_true rfl) ⟨Nat.le_of_ble_eq_true rfl, Nat.le_of_ble_eq_true rfl⟩ ⟨by show n1 + 1 ≤ 601024; omega, by show n2 + 6 ≤ 7293034; omega⟩ (fun v G1 hp => ?_)
  obtain ⟨X1, s9, hL1, hA1, h01, hF1, hT1, k, hv, hk⟩ := hp
  subst hv
  have hM1 := hM.mid (Or.inl ⟨rfl, rfl⟩) hL1 hA1 (h01 0 (by decide)) hF1 hT1
  have hG := hM1.md
  refine (?_ : V cL_law RL 9 room_1 D K 1263 _ _ G1 (n1 + 1, n2 + 6))
  rcases hk with ⟨hk, hok⟩ | ⟨hk, herr, hs9, hx1, hx2⟩
  · subst hk
    obtain ⟨hval, hx1, hx2, hs9, hk0⟩ := hok
    refine v_istore (pc := 1263) dL_law_1263 rfl (by decide) ?_
    refine v_aload_n (pc := 1265) dL_law_1265 rfl rfl ?_
    refine v_aload_n (pc := 1266) dL_law_1266 rfl rfl ?_
    refine v_iload (pc := 1267) dL_law_1267 rfl ?_
    refine v_iconst (pc := 1269) (v := 1) dL_law_1269 (by decide) ?_
    refine v_iadd (pc := 1270) dL_law_1270 ?_
    refine v_sld (pc := 1271) (j := 5 * q + 1) hS dL_law_1271 (by rw [show (1 : Int32) = nI 1 from rfl, nI_add]) (by omega) hL ?_
    refine vm_callV1 (pc := 1272) (n1 + 1, n2 + 6) hG dL_law_1272 cw_L_180 im_yX9_pulled se_yX9_pulled (c_X9_pulled D m _ _ g _ i4.1 i4.2.1) rfl (Nat.le_of_ble_eq_true rfl) ⟨Nat.le_of_ble_eq_true rfl, Nat.le_of_ble_eq_true rfl⟩ ⟨by show n1 + 1 + 0 ≤ 601024; omega, by show n2 + 6 + 0 ≤ 7293034; omega⟩ rfl (fun v s1 G hp hG => ?_)
    obtain ⟨hv1, hs1⟩ := hp
    first | rw [if_pos hk0] at hv1 hs1 | (rw [if_pos hk0] at hv1; rw [hk0] at hs1)
    subst hv1
    have t38 : s1.1 38 0 = 0 := by
      rw [hs1]; simp [thr, sI, sJ, u2]
    refine v_lstore (pc := 1275) dL_law_1275 rfl (by decide) ?_
    refine v_aload_n (pc := 1277) dL_law_1277 rfl rfl ?_
    refine vm_callV0 (pc := 1278) (n1 + 1, n2 + 6) hG dL_law_1278 cw_L_124 im_yX9_thrown se_yX9_thrown (c_X9_thrown D m _ _ ) rfl (Nat.le_of_ble_eq_true rfl) ⟨Nat.le_of_ble_eq_true rfl, Nat.le_of_ble_eq_true rfl⟩ ⟨by show n1 + 1 + 0 ≤ 601024; omega, by show n2 + 6 + 0 ≤ 7293034; omega⟩ rfl (fun v s1 G hp hG => ?_)
    have hG9 := hG
    obtain ⟨hv1, hs2⟩ := hp
    subst hv1
    subst hs2
    rw [t38]
    obtain ⟨⟨hTo, hNo, hJo⟩, hTd, hNd, hEd⟩ := hM1.at hG9
    have hAG : AG s9 s1 := by
      rw [hs1, hs9]; exact AG_thr s 0
    have hIN : INV X1 s9 (q + 1) := by
      rw [hs9]; exact INV.q1 (Nat.le_succ q) hI0 (fun _ _ _ _ _ _ _ _ => rfl) rfl hx1 hx2
    have hfin := hM1.fin hG9 hAG hIN
    refine v_iload (pc := 1281) dL_law_1281 rfl ?_
    refine v_icmp_eq (pc := 1283) (tgt := 1288) dL_law_1283 (by decide) (fun c1283 => ?_) (fun c1283 => absurd c1283 (not_not_intro rfl))
    refine v_iload (pc := 1288) dL_law_1288 rfl ?_
    refine v_if_ne (pc := 1290) (tgt := 1304) dL_law_1290 (by decide) (fun c1290 => absurd c1290 (by decide)) (fun c1290 => ?_)
    obtain ⟨T, N, I, J, E, Rf⟩ := G
    refine v_aload_n (pc := 1293) dL_law_1293 rfl rfl ?_
    refine v_iconst (pc := 1294) (v := 0) dL_law_1294 (by decide) ?_
    refine v_lald (pc := 1295) (j := 0) dL_law_1295 hTo hNo rfl (by decide) (by decide) ?_
    refine v_lload (pc := 1296) dL_law_1296 rfl ?_
    refine v_lcmp (pc := 1298) dL_law_1298 ?_
    refine v_if_eq (pc := 1299) (tgt := 1304) dL_law_1299 (by decide) (fun c1299 => ?_) (fun c1299 => absurd c1299 (not_not_intro (cmp_eq0.mpr ((congrFun hJo 0).trans (hval.trans rfl)))))
    refine v_goto (pc := 1304) (tgt := 2232) dL_law_1304 (by decide) ?_
    refine v_forget 6 ?_
    refine v_forget 7 ?_
    refine v_forget 8 ?_
    exact kk _ _ _ _ hfin ⟨by show n1 + 1 ≤ 60 + 2 * (q + 1); omega, by show n2 + 6 ≤ 2000 + 20 * (q + 1); omega⟩
  · refine v_istore (pc := 1263) dL_law_1263 rfl (by decide) ?_
    refine v_aload_n (pc := 1265) dL_law_1265 rfl rfl ?_
    refine v_aload_n (pc := 1266) dL_law_1266 rfl rfl ?_
    refine v_iload (pc := 1267) dL_law_1267 rfl ?_
    refine v_iconst (pc := 1269) (v := 1) dL_law_1269 (by decide) ?_
    refine v_iadd (pc := 1270) dL_law_1270 ?_
    refine v_sld (pc := 1271) (j := 5 * q + 1) hS dL_law_1271 (by rw [show (1 : Int32) = nI 1 from rfl, nI_add]) (by omega) hL ?_
    refine vm_callV1 (pc := 1272) (n1 + 1, n2 + 6) hG dL_law_1272 cw_L_180 im_yX9_pulled se_yX9_pulled (c_X9_pulled D m _ _ g _ i4.1 i4.2.1) rfl (Nat.le_of_ble_eq_true rfl) ⟨Nat.le_of_ble_eq_true rfl, Nat.le_of_ble_eq_true rfl⟩ ⟨by show n1 + 1 + 0 ≤ 601024; omega, by show n2 + 6 + 0 ≤ 7293034; omega⟩ rfl (fun v s1 G hp hG => ?_)
    obtain ⟨hv1, hs1⟩ := hp
    first | rw [if_neg (by rw [herr]; exact hk)] at hv1 hs1 | rw [if_neg (by rw [herr]; exact hk)] at hv1
    rw [herr] at hs1
    subst hv1
    have t38 : s1.1 38 0 = k := by
      rw [hs1]; exact sI_s _ _ _ _
    refine v_lstore (pc := 1275) dL_law_1275 rfl (by decide) ?_
    refine v_aload_n (pc := 1277) dL_law_1277 rfl rfl ?_
    refine vm_callV0 (pc := 1278) (n1 + 1, n2 + 6) hG dL_law_1278 cw_L_124 im_yX9_thrown se_yX9_thrown (c_X9_thrown D m _ _ ) rfl (Nat.le_of_ble_eq_true rfl) ⟨Nat.le_of_ble_eq_true rfl, Nat.le_of_ble_eq_true rfl⟩ ⟨by show n1 + 1 + 0 ≤ 601024; omega, by show n2 + 6 + 0 ≤ 7293034; omega⟩ rfl (fun v s1 G hp hG => ?_)
    have hG9 := hG
    obtain ⟨hv1, hs2⟩ := hp
    subst hv1
    subst hs2
    rw [t38]
    have hAG : AG s9 s1 := by
      rw [hs1, hs9]; exact AG_thr s k
    have hIN : INV X1 s9 (q + 1) := by
      rw [hs9]; exact INV.q1 (Nat.le_succ q) hI0 (fun _ _ _ _ _ _ _ _ => rfl) rfl hx1 hx2
    have hfin := hM1.fin hG9 hAG hIN
    refine v_iload (pc := 1281) dL_law_1281 rfl ?_
    refine v_icmp_eq (pc := 1283) (tgt := 1288) dL_law_1283 (by decide) (fun c1283 => ?_) (fun c1283 => absurd c1283 (not_not_intro rfl))
    refine v_iload (pc := 1288) dL_law_1288 rfl ?_
    refine v_if_ne (pc := 1290) (tgt := 1304) dL_law_1290 (by decide) (fun c1290 => ?_) (fun c1290 => absurd c1290 hk)
    refine v_goto (pc := 1304) (tgt := 2232) dL_law_1304 (by decide) ?_
    refine v_forget 6 ?_
    refine v_forget 7 ?_
    refine v_forget 8 ?_
    exact kk _ _ _ _ hfin ⟨by show n1 + 1 ≤ 60 + 2 * (q + 1); omega, by show n2 + 6 ≤ 2000 + 20 * (q + 1); omega⟩
theorem ll_trim : Cond.methodLink "BroadseamLoftLaw" 185 yL_trim ∈ lw_all ∧ Cond.initialized yL_trim.cls ∈ lw_all ∧ Cond.static yL_trim ∈ lw_all ∧ (yL_trim.cls ≠ "java/lang/invoke/MethodHandle" ∧ yL_trim.cls ≠ "java/lang/invoke/VarHandle" ∧ (parseMethodDescriptor yL_trim.desc).map (fun d => d.parameters.length) = some 5) := ⟨(lw_mem 601 (by decide +kernel) rfl), (lw_mem 32 (by decide +kernel) rfl), (lw_mem 602 (by decide +kernel) rfl), by decide +kernel, by decide +kernel, by decide +kernel⟩
set_option maxRecDepth 100000 in
set_option maxHeartbeats 1000000 in
theorem k_trim {D : DT} {K : KT} {b L : Nat} {xs : Nat → Int32} (hS : SC K b L xs) (hNC : NC3 K.2.2.2.1) (hL : L ≤ 2560) {m o oD x0 : Nat} {ad : Nat → Nat} (q : Nat) (hq : 5 * q + 5 ≤ L) {X : XT} {s : SG} {G : GT} {n : Nat × Nat} (hW : HW X s m ad o oD x0 q G) (hn : n.1 ≤ 60 + 2 * q ∧ n.2 ≤ 2000 + 20 * q) (kk : ∀ (X' : XT) (s' : SG) (G' : GT) (n' : Nat × Nat), HW X' s' m ad o oD x0 (q + 1) G' → (n'.1 ≤ 60 + 2 * (q + 1) ∧ n'.2 ≤ 2000 + 20 * (q + 1)) → V cL_law RL 9 room_1 D K 2232 [some (.ref b), some (.ref x0), some (.ref m), some (.ref o), some (.ref oD), some (.int (nI (5 * q))), none, none, none] [] G' n') : V cL_law RL 9 room_1 D K 1320 [some (.ref b), some (.ref x0), some (.ref m), some (.ref o), some (.ref oD), some (.int (nI (5 * q))), none, none, none] [] G n := by
  obtain ⟨hM, hI⟩ := hW
  have hI0 := hI
  obtain ⟨a, b1, c, g, ns, nl, i1, i2, i3, i4, i5, i6, i7, i8, i9⟩ := hI
  have hx0 : X.1 0 0 = x0 := hM.2.2.2.2.2.2
  subst hx0
  obtain ⟨n1, n2⟩ := n
  have hn1 : n1 ≤ 60 + 2 * q := hn.1
  have hn2 : n2 ≤ 2000 + 20 * q := hn.2
  have hn511 : nl < 512 := by have := i6.2.1; omega
  have hn512 : nl ≤ 512 := by omega
  refine v_aload_n (pc := 1320) dL_law_1320 rfl rfl ?_
  refine v_aload_n (pc := 1321) dL_law_1321 rfl rfl ?_
  refine v_iload (pc := 1322) dL_law_1322 rfl ?_
  refine v_iconst (pc := 1324) (v := 1) dL_law_1324 (by decide) ?_
  refine v_iadd (pc := 1325) dL_law_1325 ?_
  refine v_sld (pc := 1326) (j := 5 * q + 1) hS dL_law_1326 (by rw [show (1 : Int32) = nI 1 from rfl, nI_add]) (by omega) hL ?_
  refine v_aload_n (pc := 1327) dL_law_1327 rfl rfl ?_
  refine v_iload (pc := 1328) dL_law_1328 rfl ?_
  refine v_iconst (pc := 1330) (v := 2) dL_law_1330 (by decide) ?_
  refine v_iadd (pc := 1331) dL_law_1331 ?_
  refine v_sld (pc := 1332) (j := 5 * q + 2) hS dL_law_1332 (by rw [show (2 : Int32) = nI 2 from rfl, nI_add]) (by omega) hL ?_
  refine v_aload_n (pc := 1333) dL_law_1333 rfl rfl ?_
  refine v_iload (pc := 1334) dL_law_1334 rfl ?_
  refine v_iconst (pc := 1336) (v := 3) dL_law_1336 (by decide) ?_
  refine v_iadd (pc := 1337) dL_law_1337 ?_
  refine v_sld (pc := 1338) (j := 5 * q + 3) hS dL_law_1338 (by rw [show (3 : Int32) = nI 3 from rfl, nI_add]) (by omega) hL ?_
  refine v_aload (pc := 1339) dL_law_1339 rfl ?_
  refine v_callL (pc := 1341) (As := [.ref (X.1 0 0), .int _, .int _, .int _, .ref oD]) (rest := []) hNC dL_law_1341 ll_trim.1 ll_trim.2.1 wl_trim ll_trim.2.2.2 ll_trim.2.2.1 (c_L_trim D G (X.1, X.2.1, X.2.2.1, RESTP m ad o oD, G) s (RESTP m ad o oD) oD  _ _ _ hM.re rfl (Or.inr (Or.inr (Or.inr rfl))) hM.2.2.2.1 ) rfl rfl (Nat.le_of_ble_eq_true rfl) ⟨Nat.le_of_ble_eq_true rfl, Nat.le_of_ble_eq_true rfl⟩ ⟨by show n1 + 1 ≤ 601024; omega, by show n2 + 6 ≤ 7293034; omega⟩ (fun v G1 hp => ?_)
  obtain ⟨X1, s9, hL1, hA1, h01, hF1, hT1, k, hv, hk⟩ := hp
  subst hv
  have hM1 := hM.mid (Or.inr ⟨rfl, rfl⟩) hL1 hA1 (h01 0 (by decide)) hF1 hT1
  have hG := hM1.md
  refine (?_ : V cL_law RL 9 room_1 D K 1344 _ _ G1 (n1 + 1, n2 + 6))
  rcases hk with ⟨hk, hok⟩ | ⟨hk, herr, hs9, hx1, hx2⟩
  · subst hk
    obtain ⟨hval, hx1, hx2, hs9, hk0⟩ := hok
    refine v_istore (pc := 1344) dL_law_1344 rfl (by decide) ?_
    refine v_aload_n (pc := 1346) dL_law_1346 rfl rfl ?_
    refine v_aload_n (pc := 1347) dL_law_1347 rfl rfl ?_
    refine v_iload (pc := 1348) dL_law_1348 rfl ?_
    refine v_iconst (pc := 1350) (v := 1) dL_law_1350 (by decide) ?_
    refine v_iadd (pc := 1351) dL_law_1351 ?_
    refine v_sld (pc := 1352) (j := 5 * q + 1) hS dL_law_1352 (by rw [show (1 : Int32) = nI 1 from rfl, nI_add]) (by omega) hL ?_
    refine v_aload_n (pc := 1353) dL_law_1353 rfl rfl ?_
    refine v_iload (pc := 1354) dL_law_1354 rfl ?_
    refine v_iconst (pc := 1356) (v := 2) dL_law_1356 (by decide) ?_
    refine v_iadd (pc := 1357) dL_law_1357 ?_
    refine v_sld (pc := 1358) (j := 5 * q + 2) hS dL_law_1358 (by rw [show (2 : Int32) = nI 2 from rfl, nI_add]) (by omega) hL ?_
    refine v_aload_n (pc := 1359) dL_law_1359 rfl rfl ?_
    refine v_iload (pc := 1360) dL_law_1360 rfl ?_
    refine v_iconst (pc := 1362) (v := 3) dL_law_1362 (by decide) ?_
    refine v_iadd (pc := 1363) dL_law_1363 ?_
    refine v_sld (pc := 1364) (j := 5 * q + 3) hS dL_law_1364 (by rw [show (3 : Int32) = nI 3 from rfl, nI_add]) (by omega) hL ?_
    refine vm_callV3 (pc := 1365) (n1 + 1, n2 + 6) hG dL_law_1365 cw_L_188 im_yX9_trim se_yX9_trim (c_X9_trim D m _ _ _ _ _) rfl (Nat.le_of_ble_eq_true rfl) ⟨Nat.le_of_ble_eq_true rfl, Nat.le_of_ble_eq_true rfl⟩ ⟨by show n1 + 1 + 0 ≤ 601024; omega, by show n2 + 6 + 0 ≤ 7293034; omega⟩ rfl (fun v s1 G hp hG => ?_)
    obtain ⟨hv1, hs1⟩ := hp
    first | rw [if_pos hk0] at hv1 hs1 | (rw [if_pos hk0] at hv1; rw [hk0] at hs1)
    subst hv1
    have t38 : s1.1 38 0 = 0 := by
      rw [hs1]; simp [gTrim, sI, sJ, u2]
    refine v_fstore (pc := 1368) dL_law_1368 rfl (by decide) ?_
    refine v_aload_n (pc := 1370) dL_law_1370 rfl rfl ?_
    refine vm_callV0 (pc := 1371) (n1 + 1, n2 + 6) hG dL_law_1371 cw_L_124 im_yX9_thrown se_yX9_thrown (c_X9_thrown D m _ _ ) rfl (Nat.le_of_ble_eq_true rfl) ⟨Nat.le_of_ble_eq_true rfl, Nat.le_of_ble_eq_true rfl⟩ ⟨by show n1 + 1 + 0 ≤ 601024; omega, by show n2 + 6 + 0 ≤ 7293034; omega⟩ rfl (fun v s1 G hp hG => ?_)
    have hG9 := hG
    obtain ⟨hv1, hs2⟩ := hp
    subst hv1
    subst hs2
    rw [t38]
    obtain ⟨⟨hTo, hNo, hJo⟩, hTd, hNd, hEd⟩ := hM1.at hG9
    have hAG : AG s9 s1 := by
      refine ⟨fun k hk hk16 => ?_, ?_, ?_⟩
      · rw [hs1, hs9]; refine funext fun j => ?_; simp [gTrim, sI, sJ, u2, show k ≠ 38 by omega, show k ≠ 39 by omega, show k ≠ 40 by omega, show k ≠ 41 by omega, show k ≠ 42 by omega, show k ≠ 43 by omega, show k ≠ 44 by omega, show k ≠ 45 by omega, show k ≠ 46 by omega]
      · rw [hs1, hs9]; first | rfl | (refine funext fun j => ?_; simp [gTrim, sI, sJ, u2])
      · rw [hs1, hs9]; first | rfl | (refine funext fun j => ?_; simp [gTrim, sI, sJ, u2])
    have hIN : INV X1 s9 (q + 1) := by
      rw [hs9]; exact inv_trim hI0 hk0 hx1 hx2
    have hfin := hM1.fin hG9 hAG hIN
    refine v_iload (pc := 1374) dL_law_1374 rfl ?_
    refine v_icmp_eq (pc := 1376) (tgt := 1381) dL_law_1376 (by decide) (fun c1376 => ?_) (fun c1376 => absurd c1376 (not_not_intro rfl))
    refine v_iload (pc := 1381) dL_law_1381 rfl ?_
    refine v_if_ne (pc := 1383) (tgt := 1419) dL_law_1383 (by decide) (fun c1383 => absurd c1383 (by decide)) (fun c1383 => ?_)
    obtain ⟨T, N, I, J, E, Rf⟩ := G
    refine v_aload (pc := 1386) dL_law_1386 rfl ?_
    refine v_iconst (pc := 1388) (v := 0) dL_law_1388 (by decide) ?_
    refine v_dald (pc := 1389) (j := 0) dL_law_1389 hTd hNd rfl (by decide) (by decide) ?_
    refine v_fload (pc := 1390) dL_law_1390 rfl ?_
    refine v_f2d (pc := 1392) dL_law_1392 (f2d_nn (f4 (r := 0) (kTrim_lt hk0).1 (kTrim_lt hk0).2.1 (by decide)).1) ?_
    refine v_dcmp (pc := 1393) dL_law_1393 ?_
    refine v_if_eq (pc := 1394) (tgt := 1419) dL_law_1394 (by decide) (fun c1394 => ?_) (fun c1394 => absurd c1394 (not_not_intro (by rw [show E oD 0 = _ from (congrFun hEd 0).trans hval]; exact dcmp_self (f2d_nn (f4 (r := 0) (kTrim_lt hk0).1 (kTrim_lt hk0).2.1 (by decide)).1))))
    refine v_goto (pc := 1419) (tgt := 2232) dL_law_1419 (by decide) ?_
    refine v_forget 6 ?_
    refine v_forget 7 ?_
    refine v_forget 8 ?_
    exact kk _ _ _ _ hfin ⟨by show n1 + 1 ≤ 60 + 2 * (q + 1); omega, by show n2 + 6 ≤ 2000 + 20 * (q + 1); omega⟩
  · refine v_istore (pc := 1344) dL_law_1344 rfl (by decide) ?_
    refine v_aload_n (pc := 1346) dL_law_1346 rfl rfl ?_
    refine v_aload_n (pc := 1347) dL_law_1347 rfl rfl ?_
    refine v_iload (pc := 1348) dL_law_1348 rfl ?_
    refine v_iconst (pc := 1350) (v := 1) dL_law_1350 (by decide) ?_
    refine v_iadd (pc := 1351) dL_law_1351 ?_
    refine v_sld (pc := 1352) (j := 5 * q + 1) hS dL_law_1352 (by rw [show (1 : Int32) = nI 1 from rfl, nI_add]) (by omega) hL ?_
    refine v_aload_n (pc := 1353) dL_law_1353 rfl rfl ?_
    refine v_iload (pc := 1354) dL_law_1354 rfl ?_
    refine v_iconst (pc := 1356) (v := 2) dL_law_1356 (by decide) ?_
    refine v_iadd (pc := 1357) dL_law_1357 ?_
    refine v_sld (pc := 1358) (j := 5 * q + 2) hS dL_law_1358 (by rw [show (2 : Int32) = nI 2 from rfl, nI_add]) (by omega) hL ?_
    refine v_aload_n (pc := 1359) dL_law_1359 rfl rfl ?_
    refine v_iload (pc := 1360) dL_law_1360 rfl ?_
    refine v_iconst (pc := 1362) (v := 3) dL_law_1362 (by decide) ?_
    refine v_iadd (pc := 1363) dL_law_1363 ?_
    refine v_sld (pc := 1364) (j := 5 * q + 3) hS dL_law_1364 (by rw [show (3 : Int32) = nI 3 from rfl, nI_add]) (by omega) hL ?_
    refine vm_callV3 (pc := 1365) (n1 + 1, n2 + 6) hG dL_law_1365 cw_L_188 im_yX9_trim se_yX9_trim (c_X9_trim D m _ _ _ _ _) rfl (Nat.le_of_ble_eq_true rfl) ⟨Nat.le_of_ble_eq_true rfl, Nat.le_of_ble_eq_true rfl⟩ ⟨by show n1 + 1 + 0 ≤ 601024; omega, by show n2 + 6 + 0 ≤ 7293034; omega⟩ rfl (fun v s1 G hp hG => ?_)
    obtain ⟨hv1, hs1⟩ := hp
    first | rw [if_neg (by rw [herr]; exact hk)] at hv1 hs1 | rw [if_neg (by rw [herr]; exact hk)] at hv1
    rw [herr] at hs1
    subst hv1
    have t38 : s1.1 38 0 = k := by
      rw [hs1]; exact sI_s _ _ _ _
    refine v_fstore (pc := 1368) dL_law_1368 rfl (by decide) ?_
    refine v_aload_n (pc := 1370) dL_law_1370 rfl rfl ?_
    refine vm_callV0 (pc := 1371) (n1 + 1, n2 + 6) hG dL_law_1371 cw_L_124 im_yX9_thrown se_yX9_thrown (c_X9_thrown D m _ _ ) rfl (Nat.le_of_ble_eq_true rfl) ⟨Nat.le_of_ble_eq_true rfl, Nat.le_of_ble_eq_true rfl⟩ ⟨by show n1 + 1 + 0 ≤ 601024; omega, by show n2 + 6 + 0 ≤ 7293034; omega⟩ rfl (fun v s1 G hp hG => ?_)
    have hG9 := hG
    obtain ⟨hv1, hs2⟩ := hp
    subst hv1
    subst hs2
    rw [t38]
    have hAG : AG s9 s1 := by
      rw [hs1, hs9]; exact AG_thr s k
    have hIN : INV X1 s9 (q + 1) := by
      rw [hs9]; exact INV.q1 (Nat.le_succ q) hI0 (fun _ _ _ _ _ _ _ _ => rfl) rfl hx1 hx2
    have hfin := hM1.fin hG9 hAG hIN
    refine v_iload (pc := 1374) dL_law_1374 rfl ?_
    refine v_icmp_eq (pc := 1376) (tgt := 1381) dL_law_1376 (by decide) (fun c1376 => ?_) (fun c1376 => absurd c1376 (not_not_intro rfl))
    refine v_iload (pc := 1381) dL_law_1381 rfl ?_
    refine v_if_ne (pc := 1383) (tgt := 1419) dL_law_1383 (by decide) (fun c1383 => ?_) (fun c1383 => absurd c1383 hk)
    refine v_goto (pc := 1419) (tgt := 2232) dL_law_1419 (by decide) ?_
    refine v_forget 6 ?_
    refine v_forget 7 ?_
    refine v_forget 8 ?_
    exact kk _ _ _ _ hfin ⟨by show n1 + 1 ≤ 60 + 2 * (q + 1); omega, by show n2 + 6 ≤ 2000 + 20 * (q + 1); omega⟩
theorem ll_power : Cond.methodLink "BroadseamLoftLaw" 189 yL_power ∈ lw_all ∧ Cond.initialized yL_power.cls ∈ lw_all ∧ Cond.static yL_power ∈ lw_all ∧ (yL_power.cls ≠ "java/lang/invoke/MethodHandle" ∧ yL_power.cls ≠ "java/lang/invoke/VarHandle" ∧ (parseMethodDescriptor yL_power.desc).map (fun d => d.parameters.length) = some 3) := ⟨(lw_mem 617 (by decide +kernel) rfl), (lw_mem 32 (by decide +kernel) rfl), (lw_mem 618 (by decide +kernel) rfl), by decide +kernel, by decide +kernel, by decide +kernel⟩
set_option maxRecDepth 100000 in
set_option maxHeartbeats 1000000 in
theorem k_power {D : DT} {K : KT} {b L : Nat} {xs : Nat → Int32} (hS : SC K b L xs) (hNC : NC3 K.2.2.2.1) (hL : L ≤ 2560) {m o oD x0 : Nat} {ad : Nat → Nat} (q : Nat) (hq : 5 * q + 5 ≤ L) {X : XT} {s : SG} {G : GT} {n : Nat × Nat} (hW : HW X s m ad o oD x0 q G) (hn : n.1 ≤ 60 + 2 * q ∧ n.2 ≤ 2000 + 20 * q) (kk : ∀ (X' : XT) (s' : SG) (G' : GT) (n' : Nat × Nat), HW X' s' m ad o oD x0 (q + 1) G' → (n'.1 ≤ 60 + 2 * (q + 1) ∧ n'.2 ≤ 2000 + 20 * (q + 1)) → V cL_law RL 9 room_1 D K 2232 [some (.ref b), some (.ref x0), some (.ref m), some (.ref o), some (.ref oD), some (.int (nI (5 * q))), none, none, none] [] G' n') : V cL_law RL 9 room_1 D K 1422 [some (.ref b), some (.ref x0), some (.ref m), some (.ref o), some (.ref oD), some (.int (nI (5 * q))), none, none, none] [] G n := by
  obtain ⟨hM, hI⟩ := hW
  have hI0 := hI
  obtain ⟨a, b1, c, g, ns, nl, i1, i2, i3, i4, i5, i6, i7, i8, i9⟩ := hI
  have hx0 : X.1 0 0 = x0 := hM.2.2.2.2.2.2
  subst hx0
  obtain ⟨n1, n2⟩ := n
  have hn1 : n1 ≤ 60 + 2 * q := hn.1
  have hn2 : n2 ≤ 2000 + 20 * q := hn.2
  have hn511 : nl < 512 := by have := i6.2.1; omega
  have hn512 : nl ≤ 512 := by omega
  obtain ⟨hh, tt, rr, e1, e2, e3, ehh, ett, err⟩ := i7
  refine v_aload_n (pc := 1422) dL_law_1422 rfl rfl ?_
  refine v_aload_n (pc := 1423) dL_law_1423 rfl rfl ?_
  refine v_iload (pc := 1424) dL_law_1424 rfl ?_
  refine v_iconst (pc := 1426) (v := 1) dL_law_1426 (by decide) ?_
  refine v_iadd (pc := 1427) dL_law_1427 ?_
  refine v_sld (pc := 1428) (j := 5 * q + 1) hS dL_law_1428 (by rw [show (1 : Int32) = nI 1 from rfl, nI_add]) (by omega) hL ?_
  refine v_aload (pc := 1429) dL_law_1429 rfl ?_
  refine v_callL (pc := 1431) (As := [.ref (X.1 0 0), .int _, .ref oD]) (rest := []) hNC dL_law_1431 ll_power.1 ll_power.2.1 wl_power ll_power.2.2.2 ll_power.2.2.1 (c_L_power D G (X.1, X.2.1, X.2.2.1, RESTP m ad o oD, G) s (RESTP m ad o oD) oD hh tt rr _ hM.re rfl (Or.inr (Or.inr (Or.inr rfl))) hM.2.2.2.1 e1 e2 e3 ehh ett err) rfl rfl (Nat.le_of_ble_eq_true rfl) ⟨Nat.le_of_ble_eq_true rfl, Nat.le_of_ble_eq_true rfl⟩ ⟨by show n1 + 1 ≤ 601024; omega, by show n2 + 6 ≤ 7293034; omega⟩ (fun v G1 hp => ?_)
  obtain ⟨X1, s9, hL1, hA1, h01, hF1, hT1, k, hv, hk⟩ := hp
  subst hv
  have hM1 := hM.mid (Or.inr ⟨rfl, rfl⟩) hL1 hA1 (h01 0 (by decide)) hF1 hT1
  have hG := hM1.md
  refine (?_ : V cL_law RL 9 room_1 D K 1434 _ _ G1 (n1 + 1, n2 + 6))
  rcases hk with ⟨hk, hok⟩ | ⟨hk, herr, hs9, hx1, hx2⟩
  · subst hk
    obtain ⟨hval, hx1, hx2, hs9, hk0⟩ := hok
    refine v_istore (pc := 1434) dL_law_1434 rfl (by decide) ?_
    refine v_aload_n (pc := 1436) dL_law_1436 rfl rfl ?_
    refine v_aload_n (pc := 1437) dL_law_1437 rfl rfl ?_
    refine v_iload (pc := 1438) dL_law_1438 rfl ?_
    refine v_iconst (pc := 1440) (v := 1) dL_law_1440 (by decide) ?_
    refine v_iadd (pc := 1441) dL_law_1441 ?_
    refine v_sld (pc := 1442) (j := 5 * q + 1) hS dL_law_1442 (by rw [show (1 : Int32) = nI 1 from rfl, nI_add]) (by omega) hL ?_
    refine vm_callV1 (pc := 1443) (n1 + 1, n2 + 6) hG dL_law_1443 cw_L_192 im_yX9_power se_yX9_power (c_X9_power D m _ _ hh tt rr _ e1 e2 e3 ehh ett err) rfl (Nat.le_of_ble_eq_true rfl) ⟨Nat.le_of_ble_eq_true rfl, Nat.le_of_ble_eq_true rfl⟩ ⟨by show n1 + 1 + 0 ≤ 601024; omega, by show n2 + 6 + 0 ≤ 7293034; omega⟩ rfl (fun v s1 G hp hG => ?_)
    obtain ⟨hv1, hs1⟩ := hp
    first | rw [if_pos hk0] at hv1 hs1 | (rw [if_pos hk0] at hv1; rw [hk0] at hs1)
    subst hv1
    have t38 : s1.1 38 0 = 0 := by
      rw [hs1]; simp [thr, sI, sJ, u2]
    refine v_fstore (pc := 1446) dL_law_1446 rfl (by decide) ?_
    refine v_aload_n (pc := 1448) dL_law_1448 rfl rfl ?_
    refine vm_callV0 (pc := 1449) (n1 + 1, n2 + 6) hG dL_law_1449 cw_L_124 im_yX9_thrown se_yX9_thrown (c_X9_thrown D m _ _ ) rfl (Nat.le_of_ble_eq_true rfl) ⟨Nat.le_of_ble_eq_true rfl, Nat.le_of_ble_eq_true rfl⟩ ⟨by show n1 + 1 + 0 ≤ 601024; omega, by show n2 + 6 + 0 ≤ 7293034; omega⟩ rfl (fun v s1 G hp hG => ?_)
    have hG9 := hG
    obtain ⟨hv1, hs2⟩ := hp
    subst hv1
    subst hs2
    rw [t38]
    obtain ⟨⟨hTo, hNo, hJo⟩, hTd, hNd, hEd⟩ := hM1.at hG9
    have hAG : AG s9 s1 := by
      rw [hs1, hs9]; exact AG_thr s 0
    have hIN : INV X1 s9 (q + 1) := by
      rw [hs9]; exact INV.q1 (Nat.le_succ q) hI0 (fun _ _ _ _ _ _ _ _ => rfl) rfl hx1 hx2
    have hfin := hM1.fin hG9 hAG hIN
    refine v_iload (pc := 1452) dL_law_1452 rfl ?_
    refine v_icmp_eq (pc := 1454) (tgt := 1459) dL_law_1454 (by decide) (fun c1454 => ?_) (fun c1454 => absurd c1454 (not_not_intro rfl))
    refine v_iload (pc := 1459) dL_law_1459 rfl ?_
    refine v_if_ne (pc := 1461) (tgt := 1497) dL_law_1461 (by decide) (fun c1461 => absurd c1461 (by decide)) (fun c1461 => ?_)
    obtain ⟨T, N, I, J, E, Rf⟩ := G
    refine v_aload (pc := 1464) dL_law_1464 rfl ?_
    refine v_iconst (pc := 1466) (v := 0) dL_law_1466 (by decide) ?_
    refine v_dald (pc := 1467) (j := 0) dL_law_1467 hTd hNd rfl (by decide) (by decide) ?_
    refine v_fload (pc := 1468) dL_law_1468 rfl ?_
    refine v_f2d (pc := 1470) dL_law_1470 (f2d_nn (f6 ehh ett err (kPow_lt hk0)).2) ?_
    refine v_dcmp (pc := 1471) dL_law_1471 ?_
    refine v_if_eq (pc := 1472) (tgt := 1497) dL_law_1472 (by decide) (fun c1472 => ?_) (fun c1472 => absurd c1472 (not_not_intro (by rw [show E oD 0 = _ from (congrFun hEd 0).trans hval]; exact dcmp_self (f2d_nn (f6 ehh ett err (kPow_lt hk0)).2))))
    refine v_goto (pc := 1497) (tgt := 2232) dL_law_1497 (by decide) ?_
    refine v_forget 6 ?_
    refine v_forget 7 ?_
    refine v_forget 8 ?_
    exact kk _ _ _ _ hfin ⟨by show n1 + 1 ≤ 60 + 2 * (q + 1); omega, by show n2 + 6 ≤ 2000 + 20 * (q + 1); omega⟩
  · refine v_istore (pc := 1434) dL_law_1434 rfl (by decide) ?_
    refine v_aload_n (pc := 1436) dL_law_1436 rfl rfl ?_
    refine v_aload_n (pc := 1437) dL_law_1437 rfl rfl ?_
    refine v_iload (pc := 1438) dL_law_1438 rfl ?_
    refine v_iconst (pc := 1440) (v := 1) dL_law_1440 (by decide) ?_
    refine v_iadd (pc := 1441) dL_law_1441 ?_
    refine v_sld (pc := 1442) (j := 5 * q + 1) hS dL_law_1442 (by rw [show (1 : Int32) = nI 1 from rfl, nI_add]) (by omega) hL ?_
    refine vm_callV1 (pc := 1443) (n1 + 1, n2 + 6) hG dL_law_1443 cw_L_192 im_yX9_power se_yX9_power (c_X9_power D m _ _ hh tt rr _ e1 e2 e3 ehh ett err) rfl (Nat.le_of_ble_eq_true rfl) ⟨Nat.le_of_ble_eq_true rfl, Nat.le_of_ble_eq_true rfl⟩ ⟨by show n1 + 1 + 0 ≤ 601024; omega, by show n2 + 6 + 0 ≤ 7293034; omega⟩ rfl (fun v s1 G hp hG => ?_)
    obtain ⟨hv1, hs1⟩ := hp
    first | rw [if_neg (by rw [herr]; exact hk)] at hv1 hs1 | rw [if_neg (by rw [herr]; exact hk)] at hv1
    rw [herr] at hs1
    subst hv1
    have t38 : s1.1 38 0 = k := by
      rw [hs1]; exact sI_s _ _ _ _
    refine v_fstore (pc := 1446) dL_law_1446 rfl (by decide) ?_
    refine v_aload_n (pc := 1448) dL_law_1448 rfl rfl ?_
    refine vm_callV0 (pc := 1449) (n1 + 1, n2 + 6) hG dL_law_1449 cw_L_124 im_yX9_thrown se_yX9_thrown (c_X9_thrown D m _ _ ) rfl (Nat.le_of_ble_eq_true rfl) ⟨Nat.le_of_ble_eq_true rfl, Nat.le_of_ble_eq_true rfl⟩ ⟨by show n1 + 1 + 0 ≤ 601024; omega, by show n2 + 6 + 0 ≤ 7293034; omega⟩ rfl (fun v s1 G hp hG => ?_)
    have hG9 := hG
    obtain ⟨hv1, hs2⟩ := hp
    subst hv1
    subst hs2
    rw [t38]
    have hAG : AG s9 s1 := by
      rw [hs1, hs9]; exact AG_thr s k
    have hIN : INV X1 s9 (q + 1) := by
      rw [hs9]; exact INV.q1 (Nat.le_succ q) hI0 (fun _ _ _ _ _ _ _ _ => rfl) rfl hx1 hx2
    have hfin := hM1.fin hG9 hAG hIN
    refine v_iload (pc := 1452) dL_law_1452 rfl ?_
    refine v_icmp_eq (pc := 1454) (tgt := 1459) dL_law_1454 (by decide) (fun c1454 => ?_) (fun c1454 => absurd c1454 (not_not_intro rfl))
    refine v_iload (pc := 1459) dL_law_1459 rfl ?_
    refine v_if_ne (pc := 1461) (tgt := 1497) dL_law_1461 (by decide) (fun c1461 => ?_) (fun c1461 => absurd c1461 hk)
    refine v_goto (pc := 1497) (tgt := 2232) dL_law_1497 (by decide) ?_
    refine v_forget 6 ?_
    refine v_forget 7 ?_
    refine v_forget 8 ?_
    exact kk _ _ _ _ hfin ⟨by show n1 + 1 ≤ 60 + 2 * (q + 1); omega, by show n2 + 6 ≤ 2000 + 20 * (q + 1); omega⟩
theorem ll_halyard : Cond.methodLink "BroadseamLoftLaw" 193 yL_halyard ∈ lw_all ∧ Cond.initialized yL_halyard.cls ∈ lw_all ∧ Cond.static yL_halyard ∈ lw_all ∧ (yL_halyard.cls ≠ "java/lang/invoke/MethodHandle" ∧ yL_halyard.cls ≠ "java/lang/invoke/VarHandle" ∧ (parseMethodDescriptor yL_halyard.desc).map (fun d => d.parameters.length) = some 4) := ⟨(lw_mem 631 (by decide +kernel) rfl), (lw_mem 32 (by decide +kernel) rfl), (lw_mem 632 (by decide +kernel) rfl), by decide +kernel, by decide +kernel, by decide +kernel⟩
set_option maxRecDepth 100000 in
set_option maxHeartbeats 1000000 in
theorem k_halyard {D : DT} {K : KT} {b L : Nat} {xs : Nat → Int32} (hS : SC K b L xs) (hNC : NC3 K.2.2.2.1) (hL : L ≤ 2560) {m o oD x0 : Nat} {ad : Nat → Nat} (q : Nat) (hq : 5 * q + 5 ≤ L) {X : XT} {s : SG} {G : GT} {n : Nat × Nat} (hW : HW X s m ad o oD x0 q G) (hn : n.1 ≤ 60 + 2 * q ∧ n.2 ≤ 2000 + 20 * q) (kk : ∀ (X' : XT) (s' : SG) (G' : GT) (n' : Nat × Nat), HW X' s' m ad o oD x0 (q + 1) G' → (n'.1 ≤ 60 + 2 * (q + 1) ∧ n'.2 ≤ 2000 + 20 * (q + 1)) → V cL_law RL 9 room_1 D K 2232 [some (.ref b), some (.ref x0), some (.ref m), some (.ref o), some (.ref oD), some (.int (nI (5 * q))), none, none, none] [] G' n') : V cL_law RL 9 room_1 D K 1500 [some (.ref b), some (.ref x0), some (.ref m), some (.ref o), some (.ref oD), some (.int (nI (5 * q))), none, none, none] [] G n := by
  obtain ⟨hM, hI⟩ := hW
  have hI0 := hI
  obtain ⟨a, b1, c, g, ns, nl, i1, i2, i3, i4, i5, i6, i7, i8, i9⟩ := hI
  have hx0 : X.1 0 0 = x0 := hM.2.2.2.2.2.2
  subst hx0
  obtain ⟨n1, n2⟩ := n
  have hn1 : n1 ≤ 60 + 2 * q := hn.1
  have hn2 : n2 ≤ 2000 + 20 * q := hn.2
  have hn511 : nl < 512 := by have := i6.2.1; omega
  have hn512 : nl ≤ 512 := by omega
  obtain ⟨hh, tt, rr, e1, e2, e3, ehh, ett, err⟩ := i7
  refine v_aload_n (pc := 1500) dL_law_1500 rfl rfl ?_
  refine v_aload_n (pc := 1501) dL_law_1501 rfl rfl ?_
  refine v_iload (pc := 1502) dL_law_1502 rfl ?_
  refine v_iconst (pc := 1504) (v := 1) dL_law_1504 (by decide) ?_
  refine v_iadd (pc := 1505) dL_law_1505 ?_
  refine v_sld (pc := 1506) (j := 5 * q + 1) hS dL_law_1506 (by rw [show (1 : Int32) = nI 1 from rfl, nI_add]) (by omega) hL ?_
  refine v_aload_n (pc := 1507) dL_law_1507 rfl rfl ?_
  refine v_iload (pc := 1508) dL_law_1508 rfl ?_
  refine v_iconst (pc := 1510) (v := 2) dL_law_1510 (by decide) ?_
  refine v_iadd (pc := 1511) dL_law_1511 ?_
  refine v_sld (pc := 1512) (j := 5 * q + 2) hS dL_law_1512 (by rw [show (2 : Int32) = nI 2 from rfl, nI_add]) (by omega) hL ?_
  refine v_aload_n (pc := 1513) dL_law_1513 rfl rfl ?_
  refine v_callL (pc := 1514) (As := [.ref (X.1 0 0), .int _, .int _, .ref o]) (rest := []) hNC dL_law_1514 ll_halyard.1 ll_halyard.2.1 wl_halyard ll_halyard.2.2.2 ll_halyard.2.2.1 (c_L_halyard D G (X.1, X.2.1, X.2.2.1, RESTP m ad o oD, G) s (RESTP m ad o oD) o tt rr _ _ hM.re rfl (Or.inr (Or.inr (Or.inl rfl))) hM.2.2.1 e2 e3 ett err) rfl rfl (Nat.le_of_ble_eq_true rfl) ⟨Nat.le_of_ble_eq_true rfl, Nat.le_of_ble_eq_true rfl⟩ ⟨by show n1 + 1 ≤ 601024; omega, by show n2 + 6 ≤ 7293034; omega⟩ (fun v G1 hp => ?_)
  obtain ⟨X1, s9, hL1, hA1, h01, hF1, hT1, k, hv, hk⟩ := hp
  subst hv
  have hM1 := hM.mid (Or.inl ⟨rfl, rfl⟩) hL1 hA1 (h01 0 (by decide)) hF1 hT1
  have hG := hM1.md
  refine (?_ : V cL_law RL 9 room_1 D K 1517 _ _ G1 (n1 + 1, n2 + 6))
  rcases hk with ⟨hk, hok⟩ | ⟨hk, herr, hs9, hx1, hx2⟩
  · subst hk
    obtain ⟨hval, hx1, hx2, hs9, hk0⟩ := hok
    refine v_istore (pc := 1517) dL_law_1517 rfl (by decide) ?_
    refine v_aload_n (pc := 1519) dL_law_1519 rfl rfl ?_
    refine v_aload_n (pc := 1520) dL_law_1520 rfl rfl ?_
    refine v_iload (pc := 1521) dL_law_1521 rfl ?_
    refine v_iconst (pc := 1523) (v := 1) dL_law_1523 (by decide) ?_
    refine v_iadd (pc := 1524) dL_law_1524 ?_
    refine v_sld (pc := 1525) (j := 5 * q + 1) hS dL_law_1525 (by rw [show (1 : Int32) = nI 1 from rfl, nI_add]) (by omega) hL ?_
    refine v_aload_n (pc := 1526) dL_law_1526 rfl rfl ?_
    refine v_iload (pc := 1527) dL_law_1527 rfl ?_
    refine v_iconst (pc := 1529) (v := 2) dL_law_1529 (by decide) ?_
    refine v_iadd (pc := 1530) dL_law_1530 ?_
    refine v_sld (pc := 1531) (j := 5 * q + 2) hS dL_law_1531 (by rw [show (2 : Int32) = nI 2 from rfl, nI_add]) (by omega) hL ?_
    refine vm_callV2 (pc := 1532) (n1 + 1, n2 + 6) hG dL_law_1532 cw_L_195 im_yX9_halyard se_yX9_halyard (c_X9_halyard D m _ _ tt rr _ _ e2 e3 ett err) rfl (Nat.le_of_ble_eq_true rfl) ⟨Nat.le_of_ble_eq_true rfl, Nat.le_of_ble_eq_true rfl⟩ ⟨by show n1 + 1 + 0 ≤ 601024; omega, by show n2 + 6 + 0 ≤ 7293034; omega⟩ rfl (fun v s1 G hp hG => ?_)
    obtain ⟨hv1, hs1⟩ := hp
    first | rw [if_pos hk0] at hv1 hs1 | (rw [if_pos hk0] at hv1; rw [hk0] at hs1)
    subst hv1
    have t38 : s1.1 38 0 = 0 := by
      rw [hs1]; simp [thr, sI, sJ, u2]
    refine v_istore (pc := 1535) dL_law_1535 rfl (by decide) ?_
    refine v_aload_n (pc := 1537) dL_law_1537 rfl rfl ?_
    refine vm_callV0 (pc := 1538) (n1 + 1, n2 + 6) hG dL_law_1538 cw_L_124 im_yX9_thrown se_yX9_thrown (c_X9_thrown D m _ _ ) rfl (Nat.le_of_ble_eq_true rfl) ⟨Nat.le_of_ble_eq_true rfl, Nat.le_of_ble_eq_true rfl⟩ ⟨by show n1 + 1 + 0 ≤ 601024; omega, by show n2 + 6 + 0 ≤ 7293034; omega⟩ rfl (fun v s1 G hp hG => ?_)
    have hG9 := hG
    obtain ⟨hv1, hs2⟩ := hp
    subst hv1
    subst hs2
    rw [t38]
    obtain ⟨⟨hTo, hNo, hJo⟩, hTd, hNd, hEd⟩ := hM1.at hG9
    have hAG : AG s9 s1 := by
      rw [hs1, hs9]; exact AG_thr s 0
    have hIN : INV X1 s9 (q + 1) := by
      rw [hs9]; exact INV.q1 (Nat.le_succ q) hI0 (fun _ _ _ _ _ _ _ _ => rfl) rfl hx1 hx2
    have hfin := hM1.fin hG9 hAG hIN
    refine v_iload (pc := 1541) dL_law_1541 rfl ?_
    refine v_icmp_eq (pc := 1543) (tgt := 1548) dL_law_1543 (by decide) (fun c1543 => ?_) (fun c1543 => absurd c1543 (not_not_intro rfl))
    refine v_iload (pc := 1548) dL_law_1548 rfl ?_
    refine v_if_ne (pc := 1550) (tgt := 1565) dL_law_1550 (by decide) (fun c1550 => absurd c1550 (by decide)) (fun c1550 => ?_)
    obtain ⟨T, N, I, J, E, Rf⟩ := G
    refine v_aload_n (pc := 1553) dL_law_1553 rfl rfl ?_
    refine v_iconst (pc := 1554) (v := 0) dL_law_1554 (by decide) ?_
    refine v_lald (pc := 1555) (j := 0) dL_law_1555 hTo hNo rfl (by decide) (by decide) ?_
    refine v_iload (pc := 1556) dL_law_1556 rfl ?_
    refine v_i2l (pc := 1558) dL_law_1558 ?_
    refine v_lcmp (pc := 1559) dL_law_1559 ?_
    refine v_if_eq (pc := 1560) (tgt := 1565) dL_law_1560 (by decide) (fun c1560 => ?_) (fun c1560 => absurd c1560 (not_not_intro (cmp_eq0.mpr ((congrFun hJo 0).trans (hval.trans rfl)))))
    refine v_goto (pc := 1565) (tgt := 2232) dL_law_1565 (by decide) ?_
    refine v_forget 6 ?_
    refine v_forget 7 ?_
    refine v_forget 8 ?_
    exact kk _ _ _ _ hfin ⟨by show n1 + 1 ≤ 60 + 2 * (q + 1); omega, by show n2 + 6 ≤ 2000 + 20 * (q + 1); omega⟩
  · refine v_istore (pc := 1517) dL_law_1517 rfl (by decide) ?_
    refine v_aload_n (pc := 1519) dL_law_1519 rfl rfl ?_
    refine v_aload_n (pc := 1520) dL_law_1520 rfl rfl ?_
    refine v_iload (pc := 1521) dL_law_1521 rfl ?_
    refine v_iconst (pc := 1523) (v := 1) dL_law_1523 (by decide) ?_
    refine v_iadd (pc := 1524) dL_law_1524 ?_
    refine v_sld (pc := 1525) (j := 5 * q + 1) hS dL_law_1525 (by rw [show (1 : Int32) = nI 1 from rfl, nI_add]) (by omega) hL ?_
    refine v_aload_n (pc := 1526) dL_law_1526 rfl rfl ?_
    refine v_iload (pc := 1527) dL_law_1527 rfl ?_
    refine v_iconst (pc := 1529) (v := 2) dL_law_1529 (by decide) ?_
    refine v_iadd (pc := 1530) dL_law_1530 ?_
    refine v_sld (pc := 1531) (j := 5 * q + 2) hS dL_law_1531 (by rw [show (2 : Int32) = nI 2 from rfl, nI_add]) (by omega) hL ?_
    refine vm_callV2 (pc := 1532) (n1 + 1, n2 + 6) hG dL_law_1532 cw_L_195 im_yX9_halyard se_yX9_halyard (c_X9_halyard D m _ _ tt rr _ _ e2 e3 ett err) rfl (Nat.le_of_ble_eq_true rfl) ⟨Nat.le_of_ble_eq_true rfl, Nat.le_of_ble_eq_true rfl⟩ ⟨by show n1 + 1 + 0 ≤ 601024; omega, by show n2 + 6 + 0 ≤ 7293034; omega⟩ rfl (fun v s1 G hp hG => ?_)
    obtain ⟨hv1, hs1⟩ := hp
    first | rw [if_neg (by rw [herr]; exact hk)] at hv1 hs1 | rw [if_neg (by rw [herr]; exact hk)] at hv1
    rw [herr] at hs1
    subst hv1
    have t38 : s1.1 38 0 = k := by
      rw [hs1]; exact sI_s _ _ _ _
    refine v_istore (pc := 1535) dL_law_1535 rfl (by decide) ?_
    refine v_aload_n (pc := 1537) dL_law_1537 rfl rfl ?_
    refine vm_callV0 (pc := 1538) (n1 + 1, n2 + 6) hG dL_law_1538 cw_L_124 im_yX9_thrown se_yX9_thrown (c_X9_thrown D m _ _ ) rfl (Nat.le_of_ble_eq_true rfl) ⟨Nat.le_of_ble_eq_true rfl, Nat.le_of_ble_eq_true rfl⟩ ⟨by show n1 + 1 + 0 ≤ 601024; omega, by show n2 + 6 + 0 ≤ 7293034; omega⟩ rfl (fun v s1 G hp hG => ?_)
    have hG9 := hG
    obtain ⟨hv1, hs2⟩ := hp
    subst hv1
    subst hs2
    rw [t38]
    have hAG : AG s9 s1 := by
      rw [hs1, hs9]; exact AG_thr s k
    have hIN : INV X1 s9 (q + 1) := by
      rw [hs9]; exact INV.q1 (Nat.le_succ q) hI0 (fun _ _ _ _ _ _ _ _ => rfl) rfl hx1 hx2
    have hfin := hM1.fin hG9 hAG hIN
    refine v_iload (pc := 1541) dL_law_1541 rfl ?_
    refine v_icmp_eq (pc := 1543) (tgt := 1548) dL_law_1543 (by decide) (fun c1543 => ?_) (fun c1543 => absurd c1543 (not_not_intro rfl))
    refine v_iload (pc := 1548) dL_law_1548 rfl ?_
    refine v_if_ne (pc := 1550) (tgt := 1565) dL_law_1550 (by decide) (fun c1550 => ?_) (fun c1550 => absurd c1550 hk)
    refine v_goto (pc := 1565) (tgt := 2232) dL_law_1565 (by decide) ?_
    refine v_forget 6 ?_
    refine v_forget 7 ?_
    refine v_forget 8 ?_
    exact kk _ _ _ _ hfin ⟨by show n1 + 1 ≤ 60 + 2 * (q + 1); omega, by show n2 + 6 ≤ 2000 + 20 * (q + 1); omega⟩
theorem ll_pass : Cond.methodLink "BroadseamLoftLaw" 196 yL_pass ∈ lw_all ∧ Cond.initialized yL_pass.cls ∈ lw_all ∧ Cond.static yL_pass ∈ lw_all ∧ (yL_pass.cls ≠ "java/lang/invoke/MethodHandle" ∧ yL_pass.cls ≠ "java/lang/invoke/VarHandle" ∧ (parseMethodDescriptor yL_pass.desc).map (fun d => d.parameters.length) = some 3) := ⟨(lw_mem 640 (by decide +kernel) rfl), (lw_mem 32 (by decide +kernel) rfl), (lw_mem 641 (by decide +kernel) rfl), by decide +kernel, by decide +kernel, by decide +kernel⟩
set_option maxRecDepth 100000 in
set_option maxHeartbeats 1000000 in
theorem k_pass {D : DT} {K : KT} {b L : Nat} {xs : Nat → Int32} (hS : SC K b L xs) (hNC : NC3 K.2.2.2.1) (hL : L ≤ 2560) {m o oD x0 : Nat} {ad : Nat → Nat} (q : Nat) (hq : 5 * q + 5 ≤ L) {X : XT} {s : SG} {G : GT} {n : Nat × Nat} (hW : HW X s m ad o oD x0 q G) (hn : n.1 ≤ 60 + 2 * q ∧ n.2 ≤ 2000 + 20 * q) (kk : ∀ (X' : XT) (s' : SG) (G' : GT) (n' : Nat × Nat), HW X' s' m ad o oD x0 (q + 1) G' → (n'.1 ≤ 60 + 2 * (q + 1) ∧ n'.2 ≤ 2000 + 20 * (q + 1)) → V cL_law RL 9 room_1 D K 2232 [some (.ref b), some (.ref x0), some (.ref m), some (.ref o), some (.ref oD), some (.int (nI (5 * q))), none, none, none] [] G' n') : V cL_law RL 9 room_1 D K 1568 [some (.ref b), some (.ref x0), some (.ref m), some (.ref o), some (.ref oD), some (.int (nI (5 * q))), none, none, none] [] G n := by
  obtain ⟨hM, hI⟩ := hW
  have hI0 := hI
  obtain ⟨a, b1, c, g, ns, nl, i1, i2, i3, i4, i5, i6, i7, i8, i9⟩ := hI
  have hx0 : X.1 0 0 = x0 := hM.2.2.2.2.2.2
  subst hx0
  obtain ⟨n1, n2⟩ := n
  have hn1 : n1 ≤ 60 + 2 * q := hn.1
  have hn2 : n2 ≤ 2000 + 20 * q := hn.2
  have hn511 : nl < 512 := by have := i6.2.1; omega
  have hn512 : nl ≤ 512 := by omega
  refine v_aload_n (pc := 1568) dL_law_1568 rfl rfl ?_
  refine v_aload_n (pc := 1569) dL_law_1569 rfl rfl ?_
  refine v_iload (pc := 1570) dL_law_1570 rfl ?_
  refine v_iconst (pc := 1572) (v := 1) dL_law_1572 (by decide) ?_
  refine v_iadd (pc := 1573) dL_law_1573 ?_
  refine v_sld (pc := 1574) (j := 5 * q + 1) hS dL_law_1574 (by rw [show (1 : Int32) = nI 1 from rfl, nI_add]) (by omega) hL ?_
  refine v_aload_n (pc := 1575) dL_law_1575 rfl rfl ?_
  refine v_callL (pc := 1576) (As := [.ref (X.1 0 0), .int _, .ref o]) (rest := []) hNC dL_law_1576 ll_pass.1 ll_pass.2.1 wl_pass ll_pass.2.2.2 ll_pass.2.2.1 (c_L_pass D G (X.1, X.2.1, X.2.2.1, RESTP m ad o oD, G) s (RESTP m ad o oD) o  _ hM.re rfl (Or.inr (Or.inr (Or.inl rfl))) hM.2.2.1 ) rfl rfl (Nat.le_of_ble_eq_true rfl) ⟨Nat.le_of_ble_eq_true rfl, Nat.le_of_ble_eq_true rfl⟩ ⟨by show n1 + 1 ≤ 601024; omega, by show n2 + 6 ≤ 7293034; omega⟩ (fun v G1 hp => ?_)
  obtain ⟨X1, s9, hL1, hA1, h01, hF1, hT1, k, hv, hk⟩ := hp
  subst hv
  have hM1 := hM.mid (Or.inl ⟨rfl, rfl⟩) hL1 hA1 (h01 0 (by decide)) hF1 hT1
  have hG := hM1.md
  refine (?_ : V cL_law RL 9 room_1 D K 1579 _ _ G1 (n1 + 1, n2 + 6))
  rcases hk with ⟨hk, hok⟩ | ⟨hk, herr, hs9, hx1, hx2⟩
  · subst hk
    obtain ⟨hval, hx1, hx2, hs9, hk0⟩ := hok
    refine v_istore (pc := 1579) dL_law_1579 rfl (by decide) ?_
    refine v_aload_n (pc := 1581) dL_law_1581 rfl rfl ?_
    refine v_aload_n (pc := 1582) dL_law_1582 rfl rfl ?_
    refine v_iload (pc := 1583) dL_law_1583 rfl ?_
    refine v_iconst (pc := 1585) (v := 1) dL_law_1585 (by decide) ?_
    refine v_iadd (pc := 1586) dL_law_1586 ?_
    refine v_sld (pc := 1587) (j := 5 * q + 1) hS dL_law_1587 (by rw [show (1 : Int32) = nI 1 from rfl, nI_add]) (by omega) hL ?_
    refine vm_callV1 (pc := 1588) (n1 + 1, n2 + 6) hG dL_law_1588 cw_L_198 im_yX9_pass se_yX9_pass (c_X9_pass D m _ _ _) rfl (Nat.le_of_ble_eq_true rfl) ⟨Nat.le_of_ble_eq_true rfl, Nat.le_of_ble_eq_true rfl⟩ ⟨by show n1 + 1 + 0 ≤ 601024; omega, by show n2 + 6 + 0 ≤ 7293034; omega⟩ rfl (fun v s1 G hp hG => ?_)
    obtain ⟨hv1, hs1⟩ := hp
    first | rw [if_pos hk0] at hv1 hs1 | (rw [if_pos hk0] at hv1; rw [hk0] at hs1)
    subst hv1
    have t38 : s1.1 38 0 = 0 := by
      rw [hs1]; simp [thr, sI, sJ, u2]
    refine v_istore (pc := 1591) dL_law_1591 rfl (by decide) ?_
    refine v_aload_n (pc := 1593) dL_law_1593 rfl rfl ?_
    refine vm_callV0 (pc := 1594) (n1 + 1, n2 + 6) hG dL_law_1594 cw_L_124 im_yX9_thrown se_yX9_thrown (c_X9_thrown D m _ _ ) rfl (Nat.le_of_ble_eq_true rfl) ⟨Nat.le_of_ble_eq_true rfl, Nat.le_of_ble_eq_true rfl⟩ ⟨by show n1 + 1 + 0 ≤ 601024; omega, by show n2 + 6 + 0 ≤ 7293034; omega⟩ rfl (fun v s1 G hp hG => ?_)
    have hG9 := hG
    obtain ⟨hv1, hs2⟩ := hp
    subst hv1
    subst hs2
    rw [t38]
    obtain ⟨⟨hTo, hNo, hJo⟩, hTd, hNd, hEd⟩ := hM1.at hG9
    have hAG : AG s9 s1 := by
      refine ⟨fun k hk hk16 => ?_, ?_, ?_⟩
      · rw [hs1, hs9]; refine funext fun j => ?_; simp [thr, sI, sJ, u2, show k ≠ 38 by omega, show k ≠ 39 by omega, show k ≠ 40 by omega, show k ≠ 41 by omega, show k ≠ 42 by omega, show k ≠ 43 by omega, show k ≠ 44 by omega, show k ≠ 45 by omega, show k ≠ 46 by omega]
      · rw [hs1, hs9]; first | rfl | (refine funext fun j => ?_; simp [thr, sI, sJ, u2])
      · rw [hs1, hs9]; first | rfl | (refine funext fun j => ?_; simp [thr, sI, sJ, u2])
    have hIN : INV X1 s9 (q + 1) := by
      rw [hs9]; exact inv_pass hI0 hk0 hx1 hx2
    have hfin := hM1.fin hG9 hAG hIN
    refine v_iload (pc := 1597) dL_law_1597 rfl ?_
    refine v_icmp_eq (pc := 1599) (tgt := 1604) dL_law_1599 (by decide) (fun c1599 => ?_) (fun c1599 => absurd c1599 (not_not_intro rfl))
    refine v_iload (pc := 1604) dL_law_1604 rfl ?_
    refine v_if_ne (pc := 1606) (tgt := 1621) dL_law_1606 (by decide) (fun c1606 => absurd c1606 (by decide)) (fun c1606 => ?_)
    obtain ⟨T, N, I, J, E, Rf⟩ := G
    refine v_aload_n (pc := 1609) dL_law_1609 rfl rfl ?_
    refine v_iconst (pc := 1610) (v := 0) dL_law_1610 (by decide) ?_
    refine v_lald (pc := 1611) (j := 0) dL_law_1611 hTo hNo rfl (by decide) (by decide) ?_
    refine v_iload (pc := 1612) dL_law_1612 rfl ?_
    refine v_i2l (pc := 1614) dL_law_1614 ?_
    refine v_lcmp (pc := 1615) dL_law_1615 ?_
    refine v_if_eq (pc := 1616) (tgt := 1621) dL_law_1616 (by decide) (fun c1616 => ?_) (fun c1616 => absurd c1616 (not_not_intro (cmp_eq0.mpr ((congrFun hJo 0).trans (hval.trans rfl)))))
    refine v_goto (pc := 1621) (tgt := 2232) dL_law_1621 (by decide) ?_
    refine v_forget 6 ?_
    refine v_forget 7 ?_
    refine v_forget 8 ?_
    exact kk _ _ _ _ hfin ⟨by show n1 + 1 ≤ 60 + 2 * (q + 1); omega, by show n2 + 6 ≤ 2000 + 20 * (q + 1); omega⟩
  · refine v_istore (pc := 1579) dL_law_1579 rfl (by decide) ?_
    refine v_aload_n (pc := 1581) dL_law_1581 rfl rfl ?_
    refine v_aload_n (pc := 1582) dL_law_1582 rfl rfl ?_
    refine v_iload (pc := 1583) dL_law_1583 rfl ?_
    refine v_iconst (pc := 1585) (v := 1) dL_law_1585 (by decide) ?_
    refine v_iadd (pc := 1586) dL_law_1586 ?_
    refine v_sld (pc := 1587) (j := 5 * q + 1) hS dL_law_1587 (by rw [show (1 : Int32) = nI 1 from rfl, nI_add]) (by omega) hL ?_
    refine vm_callV1 (pc := 1588) (n1 + 1, n2 + 6) hG dL_law_1588 cw_L_198 im_yX9_pass se_yX9_pass (c_X9_pass D m _ _ _) rfl (Nat.le_of_ble_eq_true rfl) ⟨Nat.le_of_ble_eq_true rfl, Nat.le_of_ble_eq_true rfl⟩ ⟨by show n1 + 1 + 0 ≤ 601024; omega, by show n2 + 6 + 0 ≤ 7293034; omega⟩ rfl (fun v s1 G hp hG => ?_)
    obtain ⟨hv1, hs1⟩ := hp
    first | rw [if_neg (by rw [herr]; exact hk)] at hv1 hs1 | rw [if_neg (by rw [herr]; exact hk)] at hv1
    rw [herr] at hs1
    subst hv1
    have t38 : s1.1 38 0 = k := by
      rw [hs1]; exact sI_s _ _ _ _
    refine v_istore (pc := 1591) dL_law_1591 rfl (by decide) ?_
    refine v_aload_n (pc := 1593) dL_law_1593 rfl rfl ?_
    refine vm_callV0 (pc := 1594) (n1 + 1, n2 + 6) hG dL_law_1594 cw_L_124 im_yX9_thrown se_yX9_thrown (c_X9_thrown D m _ _ ) rfl (Nat.le_of_ble_eq_true rfl) ⟨Nat.le_of_ble_eq_true rfl, Nat.le_of_ble_eq_true rfl⟩ ⟨by show n1 + 1 + 0 ≤ 601024; omega, by show n2 + 6 + 0 ≤ 7293034; omega⟩ rfl (fun v s1 G hp hG => ?_)
    have hG9 := hG
    obtain ⟨hv1, hs2⟩ := hp
    subst hv1
    subst hs2
    rw [t38]
    have hAG : AG s9 s1 := by
      rw [hs1, hs9]; exact AG_thr s k
    have hIN : INV X1 s9 (q + 1) := by
      rw [hs9]; exact INV.q1 (Nat.le_succ q) hI0 (fun _ _ _ _ _ _ _ _ => rfl) rfl hx1 hx2
    have hfin := hM1.fin hG9 hAG hIN
    refine v_iload (pc := 1597) dL_law_1597 rfl ?_
    refine v_icmp_eq (pc := 1599) (tgt := 1604) dL_law_1599 (by decide) (fun c1599 => ?_) (fun c1599 => absurd c1599 (not_not_intro rfl))
    refine v_iload (pc := 1604) dL_law_1604 rfl ?_
    refine v_if_ne (pc := 1606) (tgt := 1621) dL_law_1606 (by decide) (fun c1606 => ?_) (fun c1606 => absurd c1606 hk)
    refine v_goto (pc := 1621) (tgt := 2232) dL_law_1621 (by decide) ?_
    refine v_forget 6 ?_
    refine v_forget 7 ?_
    refine v_forget 8 ?_
    exact kk _ _ _ _ hfin ⟨by show n1 + 1 ≤ 60 + 2 * (q + 1); omega, by show n2 + 6 ≤ 2000 + 20 * (q + 1); omega⟩
theorem ll_canopy : Cond.methodLink "BroadseamLoftLaw" 199 yL_canopy ∈ lw_all ∧ Cond.initialized yL_canopy.cls ∈ lw_all ∧ Cond.static yL_canopy ∈ lw_all ∧ (yL_canopy.cls ≠ "java/lang/invoke/MethodHandle" ∧ yL_canopy.cls ≠ "java/lang/invoke/VarHandle" ∧ (parseMethodDescriptor yL_canopy.desc).map (fun d => d.parameters.length) = some 3) := ⟨(lw_mem 651 (by decide +kernel) rfl), (lw_mem 32 (by decide +kernel) rfl), (lw_mem 652 (by decide +kernel) rfl), by decide +kernel, by decide +kernel, by decide +kernel⟩
set_option maxRecDepth 100000 in
set_option maxHeartbeats 1000000 in
theorem k_canopy {D : DT} {K : KT} {b L : Nat} {xs : Nat → Int32} (hS : SC K b L xs) (hNC : NC3 K.2.2.2.1) (hL : L ≤ 2560) {m o oD x0 : Nat} {ad : Nat → Nat} (q : Nat) (hq : 5 * q + 5 ≤ L) {X : XT} {s : SG} {G : GT} {n : Nat × Nat} (hW : HW X s m ad o oD x0 q G) (hn : n.1 ≤ 60 + 2 * q ∧ n.2 ≤ 2000 + 20 * q) (kk : ∀ (X' : XT) (s' : SG) (G' : GT) (n' : Nat × Nat), HW X' s' m ad o oD x0 (q + 1) G' → (n'.1 ≤ 60 + 2 * (q + 1) ∧ n'.2 ≤ 2000 + 20 * (q + 1)) → V cL_law RL 9 room_1 D K 2232 [some (.ref b), some (.ref x0), some (.ref m), some (.ref o), some (.ref oD), some (.int (nI (5 * q))), none, none, none] [] G' n') : V cL_law RL 9 room_1 D K 1624 [some (.ref b), some (.ref x0), some (.ref m), some (.ref o), some (.ref oD), some (.int (nI (5 * q))), none, none, none] [] G n := by
  obtain ⟨hM, hI⟩ := hW
  have hI0 := hI
  obtain ⟨a, b1, c, g, ns, nl, i1, i2, i3, i4, i5, i6, i7, i8, i9⟩ := hI
  have hx0 : X.1 0 0 = x0 := hM.2.2.2.2.2.2
  subst hx0
  obtain ⟨n1, n2⟩ := n
  have hn1 : n1 ≤ 60 + 2 * q := hn.1
  have hn2 : n2 ≤ 2000 + 20 * q := hn.2
  have hn511 : nl < 512 := by have := i6.2.1; omega
  have hn512 : nl ≤ 512 := by omega
  obtain ⟨zc1, zc2, zc3, zc4, zc5, zc6, zc7, zc8⟩ := i5.2.2.2.1 c (Nat.le_refl c)
  refine v_aload_n (pc := 1624) dL_law_1624 rfl rfl ?_
  refine v_aload_n (pc := 1625) dL_law_1625 rfl rfl ?_
  refine v_iload (pc := 1626) dL_law_1626 rfl ?_
  refine v_iconst (pc := 1628) (v := 1) dL_law_1628 (by decide) ?_
  refine v_iadd (pc := 1629) dL_law_1629 ?_
  refine v_sld (pc := 1630) (j := 5 * q + 1) hS dL_law_1630 (by rw [show (1 : Int32) = nI 1 from rfl, nI_add]) (by omega) hL ?_
  refine v_aload_n (pc := 1631) dL_law_1631 rfl rfl ?_
  refine v_callL (pc := 1632) (As := [.ref (X.1 0 0), .int _, .ref o]) (rest := []) hNC dL_law_1632 ll_canopy.1 ll_canopy.2.1 wl_canopy ll_canopy.2.2.2 ll_canopy.2.2.1 (c_L_canopy D G (X.1, X.2.1, X.2.2.1, RESTP m ad o oD, G) s (RESTP m ad o oD) o a c _ hM.re rfl (Or.inr (Or.inr (Or.inl rfl))) hM.2.2.1 i1.1 i1.2.1 i1.2.2.1 i5.1 i5.2.1 zc1 zc2 zc3 zc4 zc5 zc6 zc7 zc8 i9) rfl rfl (Nat.le_of_ble_eq_true rfl) ⟨Nat.le_of_ble_eq_true rfl, Nat.le_of_ble_eq_true rfl⟩ ⟨by show n1 + 2 ≤ 601024; omega, by show n2 + 18 ≤ 7293034; omega⟩ (fun v G1 hp => ?_)
  obtain ⟨X1, s9, hL1, hA1, h01, hF1, hT1, k, hv, hk⟩ := hp
  subst hv
  have hM1 := hM.mid (Or.inl ⟨rfl, rfl⟩) hL1 hA1 (h01 0 (by decide)) hF1 hT1
  have hG := hM1.md
  refine (?_ : V cL_law RL 9 room_1 D K 1635 _ _ G1 (n1 + 2, n2 + 18))
  rcases hk with ⟨hk, hok⟩ | ⟨hk, herr, hs9, hx1, hx2⟩
  · subst hk
    obtain ⟨hval, hs9, hx1, hx2, hk0⟩ := hok
    refine v_istore (pc := 1635) dL_law_1635 rfl (by decide) ?_
    refine v_aload_n (pc := 1637) dL_law_1637 rfl rfl ?_
    refine v_aload_n (pc := 1638) dL_law_1638 rfl rfl ?_
    refine v_iload (pc := 1639) dL_law_1639 rfl ?_
    refine v_iconst (pc := 1641) (v := 1) dL_law_1641 (by decide) ?_
    refine v_iadd (pc := 1642) dL_law_1642 ?_
    refine v_sld (pc := 1643) (j := 5 * q + 1) hS dL_law_1643 (by rw [show (1 : Int32) = nI 1 from rfl, nI_add]) (by omega) hL ?_
    refine vm_callV1 (pc := 1644) (n1 + 2, n2 + 18) hG dL_law_1644 cw_L_201 im_yX9_canopy se_yX9_canopy (c_X9_canopy D m _ _ a c _ i1.1 i5.1 i5.2.1) rfl (Nat.le_of_ble_eq_true rfl) ⟨Nat.le_of_ble_eq_true rfl, Nat.le_of_ble_eq_true rfl⟩ ⟨by show n1 + 2 + 0 ≤ 601024; omega, by show n2 + 18 + 0 ≤ 7293034; omega⟩ rfl (fun v s1 G hp hG => ?_)
    obtain ⟨hv1, hs1⟩ := hp
    first | rw [if_pos hk0] at hv1 hs1 | (rw [if_pos hk0] at hv1; rw [hk0] at hs1)
    subst hv1
    have t38 : s1.1 38 0 = 0 := by
      rw [hs1]; simp [gCan, sI, sJ, u2]
    refine v_istore (pc := 1647) dL_law_1647 rfl (by decide) ?_
    refine v_aload_n (pc := 1649) dL_law_1649 rfl rfl ?_
    refine vm_callV0 (pc := 1650) (n1 + 2, n2 + 18) hG dL_law_1650 cw_L_124 im_yX9_thrown se_yX9_thrown (c_X9_thrown D m _ _ ) rfl (Nat.le_of_ble_eq_true rfl) ⟨Nat.le_of_ble_eq_true rfl, Nat.le_of_ble_eq_true rfl⟩ ⟨by show n1 + 2 + 0 ≤ 601024; omega, by show n2 + 18 + 0 ≤ 7293034; omega⟩ rfl (fun v s1 G hp hG => ?_)
    have hG9 := hG
    obtain ⟨hv1, hs2⟩ := hp
    subst hv1
    subst hs2
    rw [t38]
    obtain ⟨⟨hTo, hNo, hJo⟩, hTd, hNd, hEd⟩ := hM1.at hG9
    have hAG : AG s9 s1 := by
      refine ⟨fun k hk hk16 => ?_, ?_, ?_⟩
      · rw [hs1, hs9]; refine funext fun j => ?_; simp [gCan, sI, sJ, u2, show k ≠ 38 by omega, show k ≠ 39 by omega, show k ≠ 40 by omega, show k ≠ 41 by omega, show k ≠ 42 by omega, show k ≠ 43 by omega, show k ≠ 44 by omega, show k ≠ 45 by omega, show k ≠ 46 by omega]
      · rw [hs1, hs9]; first | rfl | (refine funext fun j => ?_; simp [gCan, sI, sJ, u2])
      · rw [hs1, hs9]; first | rfl | (refine funext fun j => ?_; simp [gCan, sI, sJ, u2])
    have hIN : INV X1 s9 (q + 1) := by
      rw [hs9]; exact inv_canopy hI0 i1.1 i1.2.1 i5.1 i5.2.1 hk0 hx1 hx2
    have hfin := hM1.fin hG9 hAG hIN
    refine v_iload (pc := 1653) dL_law_1653 rfl ?_
    refine v_icmp_eq (pc := 1655) (tgt := 1660) dL_law_1655 (by decide) (fun c1655 => ?_) (fun c1655 => absurd c1655 (not_not_intro rfl))
    refine v_iload (pc := 1660) dL_law_1660 rfl ?_
    refine v_if_ne (pc := 1662) (tgt := 1677) dL_law_1662 (by decide) (fun c1662 => absurd c1662 (by decide)) (fun c1662 => ?_)
    obtain ⟨T, N, I, J, E, Rf⟩ := G
    refine v_aload_n (pc := 1665) dL_law_1665 rfl rfl ?_
    refine v_iconst (pc := 1666) (v := 0) dL_law_1666 (by decide) ?_
    refine v_lald (pc := 1667) (j := 0) dL_law_1667 hTo hNo rfl (by decide) (by decide) ?_
    refine v_iload (pc := 1668) dL_law_1668 rfl ?_
    refine v_i2l (pc := 1670) dL_law_1670 ?_
    refine v_lcmp (pc := 1671) dL_law_1671 ?_
    refine v_if_eq (pc := 1672) (tgt := 1677) dL_law_1672 (by decide) (fun c1672 => ?_) (fun c1672 => absurd c1672 (not_not_intro (cmp_eq0.mpr ((congrFun hJo 0).trans (hval.trans rfl)))))
    refine v_goto (pc := 1677) (tgt := 2232) dL_law_1677 (by decide) ?_
    refine v_forget 6 ?_
    refine v_forget 7 ?_
    refine v_forget 8 ?_
    exact kk _ _ _ _ hfin ⟨by show n1 + 2 ≤ 60 + 2 * (q + 1); omega, by show n2 + 18 ≤ 2000 + 20 * (q + 1); omega⟩
  · refine v_istore (pc := 1635) dL_law_1635 rfl (by decide) ?_
    refine v_aload_n (pc := 1637) dL_law_1637 rfl rfl ?_
    refine v_aload_n (pc := 1638) dL_law_1638 rfl rfl ?_
    refine v_iload (pc := 1639) dL_law_1639 rfl ?_
    refine v_iconst (pc := 1641) (v := 1) dL_law_1641 (by decide) ?_
    refine v_iadd (pc := 1642) dL_law_1642 ?_
    refine v_sld (pc := 1643) (j := 5 * q + 1) hS dL_law_1643 (by rw [show (1 : Int32) = nI 1 from rfl, nI_add]) (by omega) hL ?_
    refine vm_callV1 (pc := 1644) (n1 + 2, n2 + 18) hG dL_law_1644 cw_L_201 im_yX9_canopy se_yX9_canopy (c_X9_canopy D m _ _ a c _ i1.1 i5.1 i5.2.1) rfl (Nat.le_of_ble_eq_true rfl) ⟨Nat.le_of_ble_eq_true rfl, Nat.le_of_ble_eq_true rfl⟩ ⟨by show n1 + 2 + 0 ≤ 601024; omega, by show n2 + 18 + 0 ≤ 7293034; omega⟩ rfl (fun v s1 G hp hG => ?_)
    obtain ⟨hv1, hs1⟩ := hp
    first | rw [if_neg (by rw [herr]; exact hk)] at hv1 hs1 | rw [if_neg (by rw [herr]; exact hk)] at hv1
    rw [herr] at hs1
    subst hv1
    have t38 : s1.1 38 0 = k := by
      rw [hs1]; exact sI_s _ _ _ _
    refine v_istore (pc := 1647) dL_law_1647 rfl (by decide) ?_
    refine v_aload_n (pc := 1649) dL_law_1649 rfl rfl ?_
    refine vm_callV0 (pc := 1650) (n1 + 2, n2 + 18) hG dL_law_1650 cw_L_124 im_yX9_thrown se_yX9_thrown (c_X9_thrown D m _ _ ) rfl (Nat.le_of_ble_eq_true rfl) ⟨Nat.le_of_ble_eq_true rfl, Nat.le_of_ble_eq_true rfl⟩ ⟨by show n1 + 2 + 0 ≤ 601024; omega, by show n2 + 18 + 0 ≤ 7293034; omega⟩ rfl (fun v s1 G hp hG => ?_)
    have hG9 := hG
    obtain ⟨hv1, hs2⟩ := hp
    subst hv1
    subst hs2
    rw [t38]
    have hAG : AG s9 s1 := by
      rw [hs1, hs9]; exact AG_thr s k
    have hIN : INV X1 s9 (q + 1) := by
      rw [hs9]; exact INV.q1 (Nat.le_succ q) hI0 (fun _ _ _ _ _ _ _ _ => rfl) rfl hx1 hx2
    have hfin := hM1.fin hG9 hAG hIN
    refine v_iload (pc := 1653) dL_law_1653 rfl ?_
    refine v_icmp_eq (pc := 1655) (tgt := 1660) dL_law_1655 (by decide) (fun c1655 => ?_) (fun c1655 => absurd c1655 (not_not_intro rfl))
    refine v_iload (pc := 1660) dL_law_1660 rfl ?_
    refine v_if_ne (pc := 1662) (tgt := 1677) dL_law_1662 (by decide) (fun c1662 => ?_) (fun c1662 => absurd c1662 hk)
    refine v_goto (pc := 1677) (tgt := 2232) dL_law_1677 (by decide) ?_
    refine v_forget 6 ?_
    refine v_forget 7 ?_
    refine v_forget 8 ?_
    exact kk _ _ _ _ hfin ⟨by show n1 + 2 ≤ 60 + 2 * (q + 1); omega, by show n2 + 18 ≤ 2000 + 20 * (q + 1); omega⟩
theorem ll_part : Cond.methodLink "BroadseamLoftLaw" 202 yL_part ∈ lw_all ∧ Cond.initialized yL_part.cls ∈ lw_all ∧ Cond.static yL_part ∈ lw_all ∧ (yL_part.cls ≠ "java/lang/invoke/MethodHandle" ∧ yL_part.cls ≠ "java/lang/invoke/VarHandle" ∧ (parseMethodDescriptor yL_part.desc).map (fun d => d.parameters.length) = some 4) := ⟨(lw_mem 705 (by decide +kernel) rfl), (lw_mem 32 (by decide +kernel) rfl), (lw_mem 706 (by decide +kernel) rfl), by decide +kernel, by decide +kernel, by decide +kernel⟩
set_option maxRecDepth 100000 in
set_option maxHeartbeats 1000000 in
theorem k_part {D : DT} {K : KT} {b L : Nat} {xs : Nat → Int32} (hS : SC K b L xs) (hNC : NC3 K.2.2.2.1) (hL : L ≤ 2560) {m o oD x0 : Nat} {ad : Nat → Nat} (q : Nat) (hq : 5 * q + 5 ≤ L) {X : XT} {s : SG} {G : GT} {n : Nat × Nat} (hW : HW X s m ad o oD x0 q G) (hn : n.1 ≤ 60 + 2 * q ∧ n.2 ≤ 2000 + 20 * q) (kk : ∀ (X' : XT) (s' : SG) (G' : GT) (n' : Nat × Nat), HW X' s' m ad o oD x0 (q + 1) G' → (n'.1 ≤ 60 + 2 * (q + 1) ∧ n'.2 ≤ 2000 + 20 * (q + 1)) → V cL_law RL 9 room_1 D K 2232 [some (.ref b), some (.ref x0), some (.ref m), some (.ref o), some (.ref oD), some (.int (nI (5 * q))), none, none, none] [] G' n') : V cL_law RL 9 room_1 D K 1680 [some (.ref b), some (.ref x0), some (.ref m), some (.ref o), some (.ref oD), some (.int (nI (5 * q))), none, none, none] [] G n := by
  obtain ⟨hM, hI⟩ := hW
  have hI0 := hI
  obtain ⟨a, b1, c, g, ns, nl, i1, i2, i3, i4, i5, i6, i7, i8, i9⟩ := hI
  have hx0 : X.1 0 0 = x0 := hM.2.2.2.2.2.2
  subst hx0
  obtain ⟨n1, n2⟩ := n
  have hn1 : n1 ≤ 60 + 2 * q := hn.1
  have hn2 : n2 ≤ 2000 + 20 * q := hn.2
  have hn511 : nl < 512 := by have := i6.2.1; omega
  have hn512 : nl ≤ 512 := by omega
  refine v_aload_n (pc := 1680) dL_law_1680 rfl rfl ?_
  refine v_aload_n (pc := 1681) dL_law_1681 rfl rfl ?_
  refine v_iload (pc := 1682) dL_law_1682 rfl ?_
  refine v_iconst (pc := 1684) (v := 1) dL_law_1684 (by decide) ?_
  refine v_iadd (pc := 1685) dL_law_1685 ?_
  refine v_sld (pc := 1686) (j := 5 * q + 1) hS dL_law_1686 (by rw [show (1 : Int32) = nI 1 from rfl, nI_add]) (by omega) hL ?_
  refine v_aload_n (pc := 1687) dL_law_1687 rfl rfl ?_
  refine v_iload (pc := 1688) dL_law_1688 rfl ?_
  refine v_iconst (pc := 1690) (v := 2) dL_law_1690 (by decide) ?_
  refine v_iadd (pc := 1691) dL_law_1691 ?_
  refine v_sld (pc := 1692) (j := 5 * q + 2) hS dL_law_1692 (by rw [show (2 : Int32) = nI 2 from rfl, nI_add]) (by omega) hL ?_
  refine v_aload_n (pc := 1693) dL_law_1693 rfl rfl ?_
  refine v_callL (pc := 1694) (As := [.ref (X.1 0 0), .int _, .int _, .ref o]) (rest := []) hNC dL_law_1694 ll_part.1 ll_part.2.1 wl_part ll_part.2.2.2 ll_part.2.2.1 (c_L_part D G (X.1, X.2.1, X.2.2.1, RESTP m ad o oD, G) s (RESTP m ad o oD) o c _ _ hM.re rfl (Or.inr (Or.inr (Or.inl rfl))) hM.2.2.1 (i5.CV i1.2.1) i5.2.2.2.2.2 i5.1 i5.2.1 i5.2.2.1) rfl rfl (Nat.le_of_ble_eq_true rfl) ⟨Nat.le_of_ble_eq_true rfl, Nat.le_of_ble_eq_true rfl⟩ ⟨by show n1 + 1 ≤ 601024; omega, by show n2 + 6 ≤ 7293034; omega⟩ (fun v G1 hp => ?_)
  obtain ⟨X1, s9, hL1, hA1, h01, hF1, hT1, k, hv, hk⟩ := hp
  subst hv
  have hM1 := hM.mid (Or.inl ⟨rfl, rfl⟩) hL1 hA1 (h01 0 (by decide)) hF1 hT1
  have hG := hM1.md
  refine (?_ : V cL_law RL 9 room_1 D K 1697 _ _ G1 (n1 + 1, n2 + 6))
  rcases hk with ⟨hk, hok⟩ | ⟨hk, herr, hs9, hx1, hx2⟩
  · subst hk
    obtain ⟨hval, hx1, hx2, hs9, hk0⟩ := hok
    refine v_istore (pc := 1697) dL_law_1697 rfl (by decide) ?_
    refine v_aload_n (pc := 1699) dL_law_1699 rfl rfl ?_
    refine v_aload_n (pc := 1700) dL_law_1700 rfl rfl ?_
    refine v_iload (pc := 1701) dL_law_1701 rfl ?_
    refine v_iconst (pc := 1703) (v := 1) dL_law_1703 (by decide) ?_
    refine v_iadd (pc := 1704) dL_law_1704 ?_
    refine v_sld (pc := 1705) (j := 5 * q + 1) hS dL_law_1705 (by rw [show (1 : Int32) = nI 1 from rfl, nI_add]) (by omega) hL ?_
    refine v_aload_n (pc := 1706) dL_law_1706 rfl rfl ?_
    refine v_iload (pc := 1707) dL_law_1707 rfl ?_
    refine v_iconst (pc := 1709) (v := 2) dL_law_1709 (by decide) ?_
    refine v_iadd (pc := 1710) dL_law_1710 ?_
    refine v_sld (pc := 1711) (j := 5 * q + 2) hS dL_law_1711 (by rw [show (2 : Int32) = nI 2 from rfl, nI_add]) (by omega) hL ?_
    refine vm_callV2 (pc := 1712) (n1 + 1, n2 + 6) hG dL_law_1712 cw_L_204 im_yX9_part se_yX9_part (c_X9_part D m _ _ c _ _ (i5.CV i1.2.1) i5.1 i5.2.1) rfl (Nat.le_of_ble_eq_true rfl) ⟨Nat.le_of_ble_eq_true rfl, Nat.le_of_ble_eq_true rfl⟩ ⟨by show n1 + 1 + 0 ≤ 601024; omega, by show n2 + 6 + 0 ≤ 7293034; omega⟩ rfl (fun v s1 G hp hG => ?_)
    obtain ⟨hv1, hs1⟩ := hp
    first | rw [if_pos hk0] at hv1 hs1 | (rw [if_pos hk0] at hv1; rw [hk0] at hs1)
    subst hv1
    have t38 : s1.1 38 0 = 0 := by
      rw [hs1]; simp [gPart, sI, sJ, u2]
    refine v_istore (pc := 1715) dL_law_1715 rfl (by decide) ?_
    refine v_aload_n (pc := 1717) dL_law_1717 rfl rfl ?_
    refine vm_callV0 (pc := 1718) (n1 + 1, n2 + 6) hG dL_law_1718 cw_L_124 im_yX9_thrown se_yX9_thrown (c_X9_thrown D m _ _ ) rfl (Nat.le_of_ble_eq_true rfl) ⟨Nat.le_of_ble_eq_true rfl, Nat.le_of_ble_eq_true rfl⟩ ⟨by show n1 + 1 + 0 ≤ 601024; omega, by show n2 + 6 + 0 ≤ 7293034; omega⟩ rfl (fun v s1 G hp hG => ?_)
    have hG9 := hG
    obtain ⟨hv1, hs2⟩ := hp
    subst hv1
    subst hs2
    rw [t38]
    obtain ⟨⟨hTo, hNo, hJo⟩, hTd, hNd, hEd⟩ := hM1.at hG9
    have hAG : AG s9 s1 := by
      refine ⟨fun k hk hk16 => ?_, ?_, ?_⟩
      · rw [hs1, hs9]; refine funext fun j => ?_; simp [gPart, sI, sJ, u2, show k ≠ 38 by omega, show k ≠ 39 by omega, show k ≠ 40 by omega, show k ≠ 41 by omega, show k ≠ 42 by omega, show k ≠ 43 by omega, show k ≠ 44 by omega, show k ≠ 45 by omega, show k ≠ 46 by omega]
      · rw [hs1, hs9]; first | rfl | (refine funext fun j => ?_; simp [gPart, sI, sJ, u2])
      · rw [hs1, hs9]; first | rfl | (refine funext fun j => ?_; simp [gPart, sI, sJ, u2])
    have hIN : INV X1 s9 (q + 1) := by
      rw [hs9]; exact inv_part hI0 i5.1 i5.2.1 hk0 hx1 hx2
    have hfin := hM1.fin hG9 hAG hIN
    refine v_iload (pc := 1721) dL_law_1721 rfl ?_
    refine v_icmp_eq (pc := 1723) (tgt := 1728) dL_law_1723 (by decide) (fun c1723 => ?_) (fun c1723 => absurd c1723 (not_not_intro rfl))
    refine v_iload (pc := 1728) dL_law_1728 rfl ?_
    refine v_if_ne (pc := 1730) (tgt := 1745) dL_law_1730 (by decide) (fun c1730 => absurd c1730 (by decide)) (fun c1730 => ?_)
    obtain ⟨T, N, I, J, E, Rf⟩ := G
    refine v_aload_n (pc := 1733) dL_law_1733 rfl rfl ?_
    refine v_iconst (pc := 1734) (v := 0) dL_law_1734 (by decide) ?_
    refine v_lald (pc := 1735) (j := 0) dL_law_1735 hTo hNo rfl (by decide) (by decide) ?_
    refine v_iload (pc := 1736) dL_law_1736 rfl ?_
    refine v_i2l (pc := 1738) dL_law_1738 ?_
    refine v_lcmp (pc := 1739) dL_law_1739 ?_
    refine v_if_eq (pc := 1740) (tgt := 1745) dL_law_1740 (by decide) (fun c1740 => ?_) (fun c1740 => absurd c1740 (not_not_intro (cmp_eq0.mpr ((congrFun hJo 0).trans (hval.trans rfl)))))
    refine v_goto (pc := 1745) (tgt := 2232) dL_law_1745 (by decide) ?_
    refine v_forget 6 ?_
    refine v_forget 7 ?_
    refine v_forget 8 ?_
    exact kk _ _ _ _ hfin ⟨by show n1 + 1 ≤ 60 + 2 * (q + 1); omega, by show n2 + 6 ≤ 2000 + 20 * (q + 1); omega⟩
  · refine v_istore (pc := 1697) dL_law_1697 rfl (by decide) ?_
    refine v_aload_n (pc := 1699) dL_law_1699 rfl rfl ?_
    refine v_aload_n (pc := 1700) dL_law_1700 rfl rfl ?_
    refine v_iload (pc := 1701) dL_law_1701 rfl ?_
    refine v_iconst (pc := 1703) (v := 1) dL_law_1703 (by decide) ?_
    refine v_iadd (pc := 1704) dL_law_1704 ?_
    refine v_sld (pc := 1705) (j := 5 * q + 1) hS dL_law_1705 (by rw [show (1 : Int32) = nI 1 from rfl, nI_add]) (by omega) hL ?_
    refine v_aload_n (pc := 1706) dL_law_1706 rfl rfl ?_
    refine v_iload (pc := 1707) dL_law_1707 rfl ?_
    refine v_iconst (pc := 1709) (v := 2) dL_law_1709 (by decide) ?_
    refine v_iadd (pc := 1710) dL_law_1710 ?_
    refine v_sld (pc := 1711) (j := 5 * q + 2) hS dL_law_1711 (by rw [show (2 : Int32) = nI 2 from rfl, nI_add]) (by omega) hL ?_
    refine vm_callV2 (pc := 1712) (n1 + 1, n2 + 6) hG dL_law_1712 cw_L_204 im_yX9_part se_yX9_part (c_X9_part D m _ _ c _ _ (i5.CV i1.2.1) i5.1 i5.2.1) rfl (Nat.le_of_ble_eq_true rfl) ⟨Nat.le_of_ble_eq_true rfl, Nat.le_of_ble_eq_true rfl⟩ ⟨by show n1 + 1 + 0 ≤ 601024; omega, by show n2 + 6 + 0 ≤ 7293034; omega⟩ rfl (fun v s1 G hp hG => ?_)
    obtain ⟨hv1, hs1⟩ := hp
    first | rw [if_neg (by rw [herr]; exact hk)] at hv1 hs1 | rw [if_neg (by rw [herr]; exact hk)] at hv1
    rw [herr] at hs1
    subst hv1
    have t38 : s1.1 38 0 = k := by
      rw [hs1]; exact sI_s _ _ _ _
    refine v_istore (pc := 1715) dL_law_1715 rfl (by decide) ?_
    refine v_aload_n (pc := 1717) dL_law_1717 rfl rfl ?_
    refine vm_callV0 (pc := 1718) (n1 + 1, n2 + 6) hG dL_law_1718 cw_L_124 im_yX9_thrown se_yX9_thrown (c_X9_thrown D m _ _ ) rfl (Nat.le_of_ble_eq_true rfl) ⟨Nat.le_of_ble_eq_true rfl, Nat.le_of_ble_eq_true rfl⟩ ⟨by show n1 + 1 + 0 ≤ 601024; omega, by show n2 + 6 + 0 ≤ 7293034; omega⟩ rfl (fun v s1 G hp hG => ?_)
    have hG9 := hG
    obtain ⟨hv1, hs2⟩ := hp
    subst hv1
    subst hs2
    rw [t38]
    have hAG : AG s9 s1 := by
      rw [hs1, hs9]; exact AG_thr s k
    have hIN : INV X1 s9 (q + 1) := by
      rw [hs9]; exact INV.q1 (Nat.le_succ q) hI0 (fun _ _ _ _ _ _ _ _ => rfl) rfl hx1 hx2
    have hfin := hM1.fin hG9 hAG hIN
    refine v_iload (pc := 1721) dL_law_1721 rfl ?_
    refine v_icmp_eq (pc := 1723) (tgt := 1728) dL_law_1723 (by decide) (fun c1723 => ?_) (fun c1723 => absurd c1723 (not_not_intro rfl))
    refine v_iload (pc := 1728) dL_law_1728 rfl ?_
    refine v_if_ne (pc := 1730) (tgt := 1745) dL_law_1730 (by decide) (fun c1730 => ?_) (fun c1730 => absurd c1730 hk)
    refine v_goto (pc := 1745) (tgt := 2232) dL_law_1745 (by decide) ?_
    refine v_forget 6 ?_
    refine v_forget 7 ?_
    refine v_forget 8 ?_
    exact kk _ _ _ _ hfin ⟨by show n1 + 1 ≤ 60 + 2 * (q + 1); omega, by show n2 + 6 ≤ 2000 + 20 * (q + 1); omega⟩
theorem ll_opens : Cond.methodLink "BroadseamLoftLaw" 205 yL_opens ∈ lw_all ∧ Cond.initialized yL_opens.cls ∈ lw_all ∧ Cond.static yL_opens ∈ lw_all ∧ (yL_opens.cls ≠ "java/lang/invoke/MethodHandle" ∧ yL_opens.cls ≠ "java/lang/invoke/VarHandle" ∧ (parseMethodDescriptor yL_opens.desc).map (fun d => d.parameters.length) = some 3) := ⟨(lw_mem 724 (by decide +kernel) rfl), (lw_mem 32 (by decide +kernel) rfl), (lw_mem 725 (by decide +kernel) rfl), by decide +kernel, by decide +kernel, by decide +kernel⟩
set_option maxRecDepth 100000 in
set_option maxHeartbeats 1000000 in
theorem k_opens {D : DT} {K : KT} {b L : Nat} {xs : Nat → Int32} (hS : SC K b L xs) (hNC : NC3 K.2.2.2.1) (hL : L ≤ 2560) {m o oD x0 : Nat} {ad : Nat → Nat} (q : Nat) (hq : 5 * q + 5 ≤ L) {X : XT} {s : SG} {G : GT} {n : Nat × Nat} (hW : HW X s m ad o oD x0 q G) (hn : n.1 ≤ 60 + 2 * q ∧ n.2 ≤ 2000 + 20 * q) (kk : ∀ (X' : XT) (s' : SG) (G' : GT) (n' : Nat × Nat), HW X' s' m ad o oD x0 (q + 1) G' → (n'.1 ≤ 60 + 2 * (q + 1) ∧ n'.2 ≤ 2000 + 20 * (q + 1)) → V cL_law RL 9 room_1 D K 2232 [some (.ref b), some (.ref x0), some (.ref m), some (.ref o), some (.ref oD), some (.int (nI (5 * q))), none, none, none] [] G' n') : V cL_law RL 9 room_1 D K 1748 [some (.ref b), some (.ref x0), some (.ref m), some (.ref o), some (.ref oD), some (.int (nI (5 * q))), none, none, none] [] G n := by
  obtain ⟨hM, hI⟩ := hW
  have hI0 := hI
  obtain ⟨a, b1, c, g, ns, nl, i1, i2, i3, i4, i5, i6, i7, i8, i9⟩ := hI
  have hx0 : X.1 0 0 = x0 := hM.2.2.2.2.2.2
  subst hx0
  obtain ⟨n1, n2⟩ := n
  have hn1 : n1 ≤ 60 + 2 * q := hn.1
  have hn2 : n2 ≤ 2000 + 20 * q := hn.2
  have hn511 : nl < 512 := by have := i6.2.1; omega
  have hn512 : nl ≤ 512 := by omega
  refine v_aload_n (pc := 1748) dL_law_1748 rfl rfl ?_
  refine v_aload_n (pc := 1749) dL_law_1749 rfl rfl ?_
  refine v_iload (pc := 1750) dL_law_1750 rfl ?_
  refine v_iconst (pc := 1752) (v := 1) dL_law_1752 (by decide) ?_
  refine v_iadd (pc := 1753) dL_law_1753 ?_
  refine v_sld (pc := 1754) (j := 5 * q + 1) hS dL_law_1754 (by rw [show (1 : Int32) = nI 1 from rfl, nI_add]) (by omega) hL ?_
  refine v_aload_n (pc := 1755) dL_law_1755 rfl rfl ?_
  refine v_callL (pc := 1756) (As := [.ref (X.1 0 0), .int _, .ref o]) (rest := []) hNC dL_law_1756 ll_opens.1 ll_opens.2.1 wl_opens ll_opens.2.2.2 ll_opens.2.2.1 (c_L_opens D G (X.1, X.2.1, X.2.2.1, RESTP m ad o oD, G) s (RESTP m ad o oD) o c _ hM.re rfl (Or.inr (Or.inr (Or.inl rfl))) hM.2.2.1 (i5.CV i1.2.1) i5.1 i5.2.1 i5.2.2.1) rfl rfl (Nat.le_of_ble_eq_true rfl) ⟨Nat.le_of_ble_eq_true rfl, Nat.le_of_ble_eq_true rfl⟩ ⟨by show n1 + 1 ≤ 601024; omega, by show n2 + 6 ≤ 7293034; omega⟩ (fun v G1 hp => ?_)
  obtain ⟨X1, s9, hL1, hA1, h01, hF1, hT1, k, hv, hk⟩ := hp
  subst hv
  have hM1 := hM.mid (Or.inl ⟨rfl, rfl⟩) hL1 hA1 (h01 0 (by decide)) hF1 hT1
  have hG := hM1.md
  refine (?_ : V cL_law RL 9 room_1 D K 1759 _ _ G1 (n1 + 1, n2 + 6))
  rcases hk with ⟨hk, hok⟩ | ⟨hk, herr, hs9, hx1, hx2⟩
  · subst hk
    obtain ⟨hval, hx1, hx2, hs9, hk0⟩ := hok
    refine v_istore (pc := 1759) dL_law_1759 rfl (by decide) ?_
    refine v_aload_n (pc := 1761) dL_law_1761 rfl rfl ?_
    refine v_aload_n (pc := 1762) dL_law_1762 rfl rfl ?_
    refine v_iload (pc := 1763) dL_law_1763 rfl ?_
    refine v_iconst (pc := 1765) (v := 1) dL_law_1765 (by decide) ?_
    refine v_iadd (pc := 1766) dL_law_1766 ?_
    refine v_sld (pc := 1767) (j := 5 * q + 1) hS dL_law_1767 (by rw [show (1 : Int32) = nI 1 from rfl, nI_add]) (by omega) hL ?_
    refine vm_callV1 (pc := 1768) (n1 + 1, n2 + 6) hG dL_law_1768 cw_L_207 im_yX9_opens se_yX9_opens (c_X9_opens D m _ _ c _ (i5.CV i1.2.1) i5.1 i5.2.1) rfl (Nat.le_of_ble_eq_true rfl) ⟨Nat.le_of_ble_eq_true rfl, Nat.le_of_ble_eq_true rfl⟩ ⟨by show n1 + 1 + 0 ≤ 601024; omega, by show n2 + 6 + 0 ≤ 7293034; omega⟩ rfl (fun v s1 G hp hG => ?_)
    obtain ⟨hv1, hs1⟩ := hp
    first | rw [if_pos hk0] at hv1 hs1 | (rw [if_pos hk0] at hv1; rw [hk0] at hs1)
    subst hv1
    have t38 : s1.1 38 0 = 0 := by
      rw [hs1]; simp [thr, sI, sJ, u2]
    refine v_istore (pc := 1771) dL_law_1771 rfl (by decide) ?_
    refine v_aload_n (pc := 1773) dL_law_1773 rfl rfl ?_
    refine vm_callV0 (pc := 1774) (n1 + 1, n2 + 6) hG dL_law_1774 cw_L_124 im_yX9_thrown se_yX9_thrown (c_X9_thrown D m _ _ ) rfl (Nat.le_of_ble_eq_true rfl) ⟨Nat.le_of_ble_eq_true rfl, Nat.le_of_ble_eq_true rfl⟩ ⟨by show n1 + 1 + 0 ≤ 601024; omega, by show n2 + 6 + 0 ≤ 7293034; omega⟩ rfl (fun v s1 G hp hG => ?_)
    have hG9 := hG
    obtain ⟨hv1, hs2⟩ := hp
    subst hv1
    subst hs2
    rw [t38]
    obtain ⟨⟨hTo, hNo, hJo⟩, hTd, hNd, hEd⟩ := hM1.at hG9
    have hAG : AG s9 s1 := by
      rw [hs1, hs9]; exact AG_thr s 0
    have hIN : INV X1 s9 (q + 1) := by
      rw [hs9]; exact INV.q1 (Nat.le_succ q) hI0 (fun _ _ _ _ _ _ _ _ => rfl) rfl hx1 hx2
    have hfin := hM1.fin hG9 hAG hIN
    refine v_iload (pc := 1777) dL_law_1777 rfl ?_
    refine v_icmp_eq (pc := 1779) (tgt := 1784) dL_law_1779 (by decide) (fun c1779 => ?_) (fun c1779 => absurd c1779 (not_not_intro rfl))
    refine v_iload (pc := 1784) dL_law_1784 rfl ?_
    refine v_if_ne (pc := 1786) (tgt := 1801) dL_law_1786 (by decide) (fun c1786 => absurd c1786 (by decide)) (fun c1786 => ?_)
    obtain ⟨T, N, I, J, E, Rf⟩ := G
    refine v_aload_n (pc := 1789) dL_law_1789 rfl rfl ?_
    refine v_iconst (pc := 1790) (v := 0) dL_law_1790 (by decide) ?_
    refine v_lald (pc := 1791) (j := 0) dL_law_1791 hTo hNo rfl (by decide) (by decide) ?_
    refine v_iload (pc := 1792) dL_law_1792 rfl ?_
    refine v_i2l (pc := 1794) dL_law_1794 ?_
    refine v_lcmp (pc := 1795) dL_law_1795 ?_
    refine v_if_eq (pc := 1796) (tgt := 1801) dL_law_1796 (by decide) (fun c1796 => ?_) (fun c1796 => absurd c1796 (not_not_intro (cmp_eq0.mpr ((congrFun hJo 0).trans (hval.trans rfl)))))
    refine v_goto (pc := 1801) (tgt := 2232) dL_law_1801 (by decide) ?_
    refine v_forget 6 ?_
    refine v_forget 7 ?_
    refine v_forget 8 ?_
    exact kk _ _ _ _ hfin ⟨by show n1 + 1 ≤ 60 + 2 * (q + 1); omega, by show n2 + 6 ≤ 2000 + 20 * (q + 1); omega⟩
  · refine v_istore (pc := 1759) dL_law_1759 rfl (by decide) ?_
    refine v_aload_n (pc := 1761) dL_law_1761 rfl rfl ?_
    refine v_aload_n (pc := 1762) dL_law_1762 rfl rfl ?_
    refine v_iload (pc := 1763) dL_law_1763 rfl ?_
    refine v_iconst (pc := 1765) (v := 1) dL_law_1765 (by decide) ?_
    refine v_iadd (pc := 1766) dL_law_1766 ?_
    refine v_sld (pc := 1767) (j := 5 * q + 1) hS dL_law_1767 (by rw [show (1 : Int32) = nI 1 from rfl, nI_add]) (by omega) hL ?_
    refine vm_callV1 (pc := 1768) (n1 + 1, n2 + 6) hG dL_law_1768 cw_L_207 im_yX9_opens se_yX9_opens (c_X9_opens D m _ _ c _ (i5.CV i1.2.1) i5.1 i5.2.1) rfl (Nat.le_of_ble_eq_true rfl) ⟨Nat.le_of_ble_eq_true rfl, Nat.le_of_ble_eq_true rfl⟩ ⟨by show n1 + 1 + 0 ≤ 601024; omega, by show n2 + 6 + 0 ≤ 7293034; omega⟩ rfl (fun v s1 G hp hG => ?_)
    obtain ⟨hv1, hs1⟩ := hp
    first | rw [if_neg (by rw [herr]; exact hk)] at hv1 hs1 | rw [if_neg (by rw [herr]; exact hk)] at hv1
    rw [herr] at hs1
    subst hv1
    have t38 : s1.1 38 0 = k := by
      rw [hs1]; exact sI_s _ _ _ _
    refine v_istore (pc := 1771) dL_law_1771 rfl (by decide) ?_
    refine v_aload_n (pc := 1773) dL_law_1773 rfl rfl ?_
    refine vm_callV0 (pc := 1774) (n1 + 1, n2 + 6) hG dL_law_1774 cw_L_124 im_yX9_thrown se_yX9_thrown (c_X9_thrown D m _ _ ) rfl (Nat.le_of_ble_eq_true rfl) ⟨Nat.le_of_ble_eq_true rfl, Nat.le_of_ble_eq_true rfl⟩ ⟨by show n1 + 1 + 0 ≤ 601024; omega, by show n2 + 6 + 0 ≤ 7293034; omega⟩ rfl (fun v s1 G hp hG => ?_)
    have hG9 := hG
    obtain ⟨hv1, hs2⟩ := hp
    subst hv1
    subst hs2
    rw [t38]
    have hAG : AG s9 s1 := by
      rw [hs1, hs9]; exact AG_thr s k
    have hIN : INV X1 s9 (q + 1) := by
      rw [hs9]; exact INV.q1 (Nat.le_succ q) hI0 (fun _ _ _ _ _ _ _ _ => rfl) rfl hx1 hx2
    have hfin := hM1.fin hG9 hAG hIN
    refine v_iload (pc := 1777) dL_law_1777 rfl ?_
    refine v_icmp_eq (pc := 1779) (tgt := 1784) dL_law_1779 (by decide) (fun c1779 => ?_) (fun c1779 => absurd c1779 (not_not_intro rfl))
    refine v_iload (pc := 1784) dL_law_1784 rfl ?_
    refine v_if_ne (pc := 1786) (tgt := 1801) dL_law_1786 (by decide) (fun c1786 => ?_) (fun c1786 => absurd c1786 hk)
    refine v_goto (pc := 1801) (tgt := 2232) dL_law_1801 (by decide) ?_
    refine v_forget 6 ?_
    refine v_forget 7 ?_
    refine v_forget 8 ?_
    exact kk _ _ _ _ hfin ⟨by show n1 + 1 ≤ 60 + 2 * (q + 1); omega, by show n2 + 6 ≤ 2000 + 20 * (q + 1); omega⟩
theorem ll_seal : Cond.methodLink "BroadseamLoftLaw" 208 yL_seal ∈ lw_all ∧ Cond.initialized yL_seal.cls ∈ lw_all ∧ Cond.static yL_seal ∈ lw_all ∧ (yL_seal.cls ≠ "java/lang/invoke/MethodHandle" ∧ yL_seal.cls ≠ "java/lang/invoke/VarHandle" ∧ (parseMethodDescriptor yL_seal.desc).map (fun d => d.parameters.length) = some 4) := ⟨(lw_mem 739 (by decide +kernel) rfl), (lw_mem 32 (by decide +kernel) rfl), (lw_mem 740 (by decide +kernel) rfl), by decide +kernel, by decide +kernel, by decide +kernel⟩
set_option maxRecDepth 100000 in
set_option maxHeartbeats 1000000 in
theorem k_seal {D : DT} {K : KT} {b L : Nat} {xs : Nat → Int32} (hS : SC K b L xs) (hNC : NC3 K.2.2.2.1) (hL : L ≤ 2560) {m o oD x0 : Nat} {ad : Nat → Nat} (q : Nat) (hq : 5 * q + 5 ≤ L) {X : XT} {s : SG} {G : GT} {n : Nat × Nat} (hW : HW X s m ad o oD x0 q G) (hn : n.1 ≤ 60 + 2 * q ∧ n.2 ≤ 2000 + 20 * q) (kk : ∀ (X' : XT) (s' : SG) (G' : GT) (n' : Nat × Nat), HW X' s' m ad o oD x0 (q + 1) G' → (n'.1 ≤ 60 + 2 * (q + 1) ∧ n'.2 ≤ 2000 + 20 * (q + 1)) → V cL_law RL 9 room_1 D K 2232 [some (.ref b), some (.ref x0), some (.ref m), some (.ref o), some (.ref oD), some (.int (nI (5 * q))), none, none, none] [] G' n') : V cL_law RL 9 room_1 D K 1804 [some (.ref b), some (.ref x0), some (.ref m), some (.ref o), some (.ref oD), some (.int (nI (5 * q))), none, none, none] [] G n := by
  obtain ⟨hM, hI⟩ := hW
  have hI0 := hI
  obtain ⟨a, b1, c, g, ns, nl, i1, i2, i3, i4, i5, i6, i7, i8, i9⟩ := hI
  have hx0 : X.1 0 0 = x0 := hM.2.2.2.2.2.2
  subst hx0
  obtain ⟨n1, n2⟩ := n
  have hn1 : n1 ≤ 60 + 2 * q := hn.1
  have hn2 : n2 ≤ 2000 + 20 * q := hn.2
  have hn511 : nl < 512 := by have := i6.2.1; omega
  have hn512 : nl ≤ 512 := by omega
  refine v_aload_n (pc := 1804) dL_law_1804 rfl rfl ?_
  refine v_aload_n (pc := 1805) dL_law_1805 rfl rfl ?_
  refine v_iload (pc := 1806) dL_law_1806 rfl ?_
  refine v_iconst (pc := 1808) (v := 1) dL_law_1808 (by decide) ?_
  refine v_iadd (pc := 1809) dL_law_1809 ?_
  refine v_sld (pc := 1810) (j := 5 * q + 1) hS dL_law_1810 (by rw [show (1 : Int32) = nI 1 from rfl, nI_add]) (by omega) hL ?_
  refine v_aload_n (pc := 1811) dL_law_1811 rfl rfl ?_
  refine v_iload (pc := 1812) dL_law_1812 rfl ?_
  refine v_iconst (pc := 1814) (v := 2) dL_law_1814 (by decide) ?_
  refine v_iadd (pc := 1815) dL_law_1815 ?_
  refine v_sld (pc := 1816) (j := 5 * q + 2) hS dL_law_1816 (by rw [show (2 : Int32) = nI 2 from rfl, nI_add]) (by omega) hL ?_
  refine v_aload_n (pc := 1817) dL_law_1817 rfl rfl ?_
  refine v_callL (pc := 1818) (As := [.ref (X.1 0 0), .int _, .int _, .ref o]) (rest := []) hNC dL_law_1818 ll_seal.1 ll_seal.2.1 wl_seal ll_seal.2.2.2 ll_seal.2.2.1 (c_L_seal D G (X.1, X.2.1, X.2.2.1, RESTP m ad o oD, G) s (RESTP m ad o oD) o c nl _ _ hM.re rfl (Or.inr (Or.inr (Or.inl rfl))) hM.2.2.1 (i5.CV i1.2.1) i5.2.2.2.2.2 i6.1 hn511 i5.1 i5.2.1 i5.2.2.1) rfl rfl (Nat.le_of_ble_eq_true rfl) ⟨Nat.le_of_ble_eq_true rfl, Nat.le_of_ble_eq_true rfl⟩ ⟨by show n1 + 1 ≤ 601024; omega, by show n2 + 6 ≤ 7293034; omega⟩ (fun v G1 hp => ?_)
  obtain ⟨X1, s9, hL1, hA1, h01, hF1, hT1, k, hv, hk⟩ := hp
  subst hv
  have hM1 := hM.mid (Or.inl ⟨rfl, rfl⟩) hL1 hA1 (h01 0 (by decide)) hF1 hT1
  have hG := hM1.md
  refine (?_ : V cL_law RL 9 room_1 D K 1821 _ _ G1 (n1 + 1, n2 + 6))
  rcases hk with ⟨hk, hok⟩ | ⟨hk, herr, hs9, hx1, hx2⟩
  · subst hk
    obtain ⟨hval, hx1, hx2, hs9, hk0⟩ := hok
    refine v_istore (pc := 1821) dL_law_1821 rfl (by decide) ?_
    refine v_aload_n (pc := 1823) dL_law_1823 rfl rfl ?_
    refine v_aload_n (pc := 1824) dL_law_1824 rfl rfl ?_
    refine v_iload (pc := 1825) dL_law_1825 rfl ?_
    refine v_iconst (pc := 1827) (v := 1) dL_law_1827 (by decide) ?_
    refine v_iadd (pc := 1828) dL_law_1828 ?_
    refine v_sld (pc := 1829) (j := 5 * q + 1) hS dL_law_1829 (by rw [show (1 : Int32) = nI 1 from rfl, nI_add]) (by omega) hL ?_
    refine v_aload_n (pc := 1830) dL_law_1830 rfl rfl ?_
    refine v_iload (pc := 1831) dL_law_1831 rfl ?_
    refine v_iconst (pc := 1833) (v := 2) dL_law_1833 (by decide) ?_
    refine v_iadd (pc := 1834) dL_law_1834 ?_
    refine v_sld (pc := 1835) (j := 5 * q + 2) hS dL_law_1835 (by rw [show (2 : Int32) = nI 2 from rfl, nI_add]) (by omega) hL ?_
    refine vm_callV2 (pc := 1836) (n1 + 1, n2 + 6) hG dL_law_1836 cw_L_210 im_yX9_seal se_yX9_seal (c_X9_seal D m _ _ c _ _ (i5.CV i1.2.1) i5.1 i5.2.1) rfl (Nat.le_of_ble_eq_true rfl) ⟨Nat.le_of_ble_eq_true rfl, Nat.le_of_ble_eq_true rfl⟩ ⟨by show n1 + 1 + 0 ≤ 601024; omega, by show n2 + 6 + 0 ≤ 7293034; omega⟩ rfl (fun v s1 G hp hG => ?_)
    obtain ⟨hv1, hs1⟩ := hp
    first | rw [if_pos hk0] at hv1 hs1 | (rw [if_pos hk0] at hv1; rw [hk0] at hs1)
    subst hv1
    have t38 : s1.1 38 0 = 0 := by
      rw [hs1]; simp [gSeal, sI, sJ, u2]
    refine v_istore (pc := 1839) dL_law_1839 rfl (by decide) ?_
    refine v_aload_n (pc := 1841) dL_law_1841 rfl rfl ?_
    refine vm_callV0 (pc := 1842) (n1 + 1, n2 + 6) hG dL_law_1842 cw_L_124 im_yX9_thrown se_yX9_thrown (c_X9_thrown D m _ _ ) rfl (Nat.le_of_ble_eq_true rfl) ⟨Nat.le_of_ble_eq_true rfl, Nat.le_of_ble_eq_true rfl⟩ ⟨by show n1 + 1 + 0 ≤ 601024; omega, by show n2 + 6 + 0 ≤ 7293034; omega⟩ rfl (fun v s1 G hp hG => ?_)
    have hG9 := hG
    obtain ⟨hv1, hs2⟩ := hp
    subst hv1
    subst hs2
    rw [t38]
    obtain ⟨⟨hTo, hNo, hJo⟩, hTd, hNd, hEd⟩ := hM1.at hG9
    have hAG : AG s9 s1 := by
      refine ⟨fun k hk hk16 => ?_, ?_, ?_⟩
      · rw [hs1, hs9]; refine funext fun j => ?_; simp [gSeal, noteS, sI, sJ, u2, show k ≠ 38 by omega, show k ≠ 39 by omega, show k ≠ 40 by omega, show k ≠ 41 by omega, show k ≠ 42 by omega, show k ≠ 43 by omega, show k ≠ 44 by omega, show k ≠ 45 by omega, show k ≠ 46 by omega]
      · rw [hs1, hs9]; first | rfl | (refine funext fun j => ?_; simp [gSeal, noteS, sI, sJ, u2])
      · rw [hs1, hs9]; first | rfl | (refine funext fun j => ?_; simp [gSeal, noteS, sI, sJ, u2])
    have hIN : INV X1 s9 (q + 1) := by
      rw [hs9]; obtain ⟨⟨x9, hx9, ex9⟩, hp9⟩ := kSeal_0 hk0 i5.2.1; rw [ex9, nat_nI (by have := i5.2.1; omega)]; exact inv_seal (p0 := 0) hI0 i5.1 i5.2.1 i6.1 hn512 (by omega) hx9 hp9 hx1 hx2
    have hfin := hM1.fin hG9 hAG hIN
    refine v_iload (pc := 1845) dL_law_1845 rfl ?_
    refine v_icmp_eq (pc := 1847) (tgt := 1852) dL_law_1847 (by decide) (fun c1847 => ?_) (fun c1847 => absurd c1847 (not_not_intro rfl))
    refine v_iload (pc := 1852) dL_law_1852 rfl ?_
    refine v_if_ne (pc := 1854) (tgt := 1869) dL_law_1854 (by decide) (fun c1854 => absurd c1854 (by decide)) (fun c1854 => ?_)
    obtain ⟨T, N, I, J, E, Rf⟩ := G
    refine v_aload_n (pc := 1857) dL_law_1857 rfl rfl ?_
    refine v_iconst (pc := 1858) (v := 0) dL_law_1858 (by decide) ?_
    refine v_lald (pc := 1859) (j := 0) dL_law_1859 hTo hNo rfl (by decide) (by decide) ?_
    refine v_iload (pc := 1860) dL_law_1860 rfl ?_
    refine v_i2l (pc := 1862) dL_law_1862 ?_
    refine v_lcmp (pc := 1863) dL_law_1863 ?_
    refine v_if_eq (pc := 1864) (tgt := 1869) dL_law_1864 (by decide) (fun c1864 => ?_) (fun c1864 => absurd c1864 (not_not_intro (cmp_eq0.mpr ((congrFun hJo 0).trans (hval.trans rfl)))))
    refine v_goto (pc := 1869) (tgt := 2232) dL_law_1869 (by decide) ?_
    refine v_forget 6 ?_
    refine v_forget 7 ?_
    refine v_forget 8 ?_
    exact kk _ _ _ _ hfin ⟨by show n1 + 1 ≤ 60 + 2 * (q + 1); omega, by show n2 + 6 ≤ 2000 + 20 * (q + 1); omega⟩
  · refine v_istore (pc := 1821) dL_law_1821 rfl (by decide) ?_
    refine v_aload_n (pc := 1823) dL_law_1823 rfl rfl ?_
    refine v_aload_n (pc := 1824) dL_law_1824 rfl rfl ?_
    refine v_iload (pc := 1825) dL_law_1825 rfl ?_
    refine v_iconst (pc := 1827) (v := 1) dL_law_1827 (by decide) ?_
    refine v_iadd (pc := 1828) dL_law_1828 ?_
    refine v_sld (pc := 1829) (j := 5 * q + 1) hS dL_law_1829 (by rw [show (1 : Int32) = nI 1 from rfl, nI_add]) (by omega) hL ?_
    refine v_aload_n (pc := 1830) dL_law_1830 rfl rfl ?_
    refine v_iload (pc := 1831) dL_law_1831 rfl ?_
    refine v_iconst (pc := 1833) (v := 2) dL_law_1833 (by decide) ?_
    refine v_iadd (pc := 1834) dL_law_1834 ?_
    refine v_sld (pc := 1835) (j := 5 * q + 2) hS dL_law_1835 (by rw [show (2 : Int32) = nI 2 from rfl, nI_add]) (by omega) hL ?_
    refine vm_callV2 (pc := 1836) (n1 + 1, n2 + 6) hG dL_law_1836 cw_L_210 im_yX9_seal se_yX9_seal (c_X9_seal D m _ _ c _ _ (i5.CV i1.2.1) i5.1 i5.2.1) rfl (Nat.le_of_ble_eq_true rfl) ⟨Nat.le_of_ble_eq_true rfl, Nat.le_of_ble_eq_true rfl⟩ ⟨by show n1 + 1 + 0 ≤ 601024; omega, by show n2 + 6 + 0 ≤ 7293034; omega⟩ rfl (fun v s1 G hp hG => ?_)
    obtain ⟨hv1, hs1⟩ := hp
    first | rw [if_neg (by rw [herr]; exact hk)] at hv1 hs1 | rw [if_neg (by rw [herr]; exact hk)] at hv1
    rw [herr] at hs1
    subst hv1
    have t38 : s1.1 38 0 = k := by
      rw [hs1]; exact sI_s _ _ _ _
    refine v_istore (pc := 1839) dL_law_1839 rfl (by decide) ?_
    refine v_aload_n (pc := 1841) dL_law_1841 rfl rfl ?_
    refine vm_callV0 (pc := 1842) (n1 + 1, n2 + 6) hG dL_law_1842 cw_L_124 im_yX9_thrown se_yX9_thrown (c_X9_thrown D m _ _ ) rfl (Nat.le_of_ble_eq_true rfl) ⟨Nat.le_of_ble_eq_true rfl, Nat.le_of_ble_eq_true rfl⟩ ⟨by show n1 + 1 + 0 ≤ 601024; omega, by show n2 + 6 + 0 ≤ 7293034; omega⟩ rfl (fun v s1 G hp hG => ?_)
    have hG9 := hG
    obtain ⟨hv1, hs2⟩ := hp
    subst hv1
    subst hs2
    rw [t38]
    have hAG : AG s9 s1 := by
      rw [hs1, hs9]; exact AG_thr s k
    have hIN : INV X1 s9 (q + 1) := by
      rw [hs9]; exact INV.q1 (Nat.le_succ q) hI0 (fun _ _ _ _ _ _ _ _ => rfl) rfl hx1 hx2
    have hfin := hM1.fin hG9 hAG hIN
    refine v_iload (pc := 1845) dL_law_1845 rfl ?_
    refine v_icmp_eq (pc := 1847) (tgt := 1852) dL_law_1847 (by decide) (fun c1847 => ?_) (fun c1847 => absurd c1847 (not_not_intro rfl))
    refine v_iload (pc := 1852) dL_law_1852 rfl ?_
    refine v_if_ne (pc := 1854) (tgt := 1869) dL_law_1854 (by decide) (fun c1854 => ?_) (fun c1854 => absurd c1854 hk)
    refine v_goto (pc := 1869) (tgt := 2232) dL_law_1869 (by decide) ?_
    refine v_forget 6 ?_
    refine v_forget 7 ?_
    refine v_forget 8 ?_
    exact kk _ _ _ _ hfin ⟨by show n1 + 1 ≤ 60 + 2 * (q + 1); omega, by show n2 + 6 ≤ 2000 + 20 * (q + 1); omega⟩
theorem ll_use : Cond.methodLink "BroadseamLoftLaw" 211 yL_use ∈ lw_all ∧ Cond.initialized yL_use.cls ∈ lw_all ∧ Cond.static yL_use ∈ lw_all ∧ (yL_use.cls ≠ "java/lang/invoke/MethodHandle" ∧ yL_use.cls ≠ "java/lang/invoke/VarHandle" ∧ (parseMethodDescriptor yL_use.desc).map (fun d => d.parameters.length) = some 3) := ⟨(lw_mem 759 (by decide +kernel) rfl), (lw_mem 32 (by decide +kernel) rfl), (lw_mem 760 (by decide +kernel) rfl), by decide +kernel, by decide +kernel, by decide +kernel⟩
set_option maxRecDepth 100000 in
set_option maxHeartbeats 1000000 in
theorem k_use {D : DT} {K : KT} {b L : Nat} {xs : Nat → Int32} (hS : SC K b L xs) (hNC : NC3 K.2.2.2.1) (hL : L ≤ 2560) {m o oD x0 : Nat} {ad : Nat → Nat} (q : Nat) (hq : 5 * q + 5 ≤ L) {X : XT} {s : SG} {G : GT} {n : Nat × Nat} (hW : HW X s m ad o oD x0 q G) (hn : n.1 ≤ 60 + 2 * q ∧ n.2 ≤ 2000 + 20 * q) (kk : ∀ (X' : XT) (s' : SG) (G' : GT) (n' : Nat × Nat), HW X' s' m ad o oD x0 (q + 1) G' → (n'.1 ≤ 60 + 2 * (q + 1) ∧ n'.2 ≤ 2000 + 20 * (q + 1)) → V cL_law RL 9 room_1 D K 2232 [some (.ref b), some (.ref x0), some (.ref m), some (.ref o), some (.ref oD), some (.int (nI (5 * q))), none, none, none] [] G' n') : V cL_law RL 9 room_1 D K 1872 [some (.ref b), some (.ref x0), some (.ref m), some (.ref o), some (.ref oD), some (.int (nI (5 * q))), none, none, none] [] G n := by
  obtain ⟨hM, hI⟩ := hW
  have hI0 := hI
  obtain ⟨a, b1, c, g, ns, nl, i1, i2, i3, i4, i5, i6, i7, i8, i9⟩ := hI
  have hx0 : X.1 0 0 = x0 := hM.2.2.2.2.2.2
  subst hx0
  obtain ⟨n1, n2⟩ := n
  have hn1 : n1 ≤ 60 + 2 * q := hn.1
  have hn2 : n2 ≤ 2000 + 20 * q := hn.2
  have hn511 : nl < 512 := by have := i6.2.1; omega
  have hn512 : nl ≤ 512 := by omega
  refine v_aload_n (pc := 1872) dL_law_1872 rfl rfl ?_
  refine v_aload_n (pc := 1873) dL_law_1873 rfl rfl ?_
  refine v_iload (pc := 1874) dL_law_1874 rfl ?_
  refine v_iconst (pc := 1876) (v := 1) dL_law_1876 (by decide) ?_
  refine v_iadd (pc := 1877) dL_law_1877 ?_
  refine v_sld (pc := 1878) (j := 5 * q + 1) hS dL_law_1878 (by rw [show (1 : Int32) = nI 1 from rfl, nI_add]) (by omega) hL ?_
  refine v_aload_n (pc := 1879) dL_law_1879 rfl rfl ?_
  refine v_callL (pc := 1880) (As := [.ref (X.1 0 0), .int _, .ref o]) (rest := []) hNC dL_law_1880 ll_use.1 ll_use.2.1 wl_use ll_use.2.2.2 ll_use.2.2.1 (c_L_use D G (X.1, X.2.1, X.2.2.1, RESTP m ad o oD, G) s (RESTP m ad o oD) o c nl _ hM.re rfl (Or.inr (Or.inr (Or.inl rfl))) hM.2.2.1 (i5.CV i1.2.1) i5.2.2.2.2.2 i6.1 hn511 i5.1 i5.2.1 i5.2.2.1) rfl rfl (Nat.le_of_ble_eq_true rfl) ⟨Nat.le_of_ble_eq_true rfl, Nat.le_of_ble_eq_true rfl⟩ ⟨by show n1 + 1 ≤ 601024; omega, by show n2 + 6 ≤ 7293034; omega⟩ (fun v G1 hp => ?_)
  obtain ⟨X1, s9, hL1, hA1, h01, hF1, hT1, k, hv, hk⟩ := hp
  subst hv
  have hM1 := hM.mid (Or.inl ⟨rfl, rfl⟩) hL1 hA1 (h01 0 (by decide)) hF1 hT1
  have hG := hM1.md
  refine (?_ : V cL_law RL 9 room_1 D K 1883 _ _ G1 (n1 + 1, n2 + 6))
  rcases hk with ⟨hk, hok⟩ | ⟨hk, herr, hs9, hx1, hx2⟩
  · subst hk
    obtain ⟨hval, hx1, hx2, hs9, hk0⟩ := hok
    refine v_istore (pc := 1883) dL_law_1883 rfl (by decide) ?_
    refine v_aload_n (pc := 1885) dL_law_1885 rfl rfl ?_
    refine v_aload_n (pc := 1886) dL_law_1886 rfl rfl ?_
    refine v_iload (pc := 1887) dL_law_1887 rfl ?_
    refine v_iconst (pc := 1889) (v := 1) dL_law_1889 (by decide) ?_
    refine v_iadd (pc := 1890) dL_law_1890 ?_
    refine v_sld (pc := 1891) (j := 5 * q + 1) hS dL_law_1891 (by rw [show (1 : Int32) = nI 1 from rfl, nI_add]) (by omega) hL ?_
    refine vm_callV1 (pc := 1892) (n1 + 1, n2 + 6) hG dL_law_1892 cw_L_213 im_yX9_use se_yX9_use (c_X9_use D m _ _ c _ (i5.CV i1.2.1) i5.1 i5.2.1) rfl (Nat.le_of_ble_eq_true rfl) ⟨Nat.le_of_ble_eq_true rfl, Nat.le_of_ble_eq_true rfl⟩ ⟨by show n1 + 1 + 0 ≤ 601024; omega, by show n2 + 6 + 0 ≤ 7293034; omega⟩ rfl (fun v s1 G hp hG => ?_)
    obtain ⟨hv1, hs1⟩ := hp
    first | rw [if_pos hk0] at hv1 hs1 | (rw [if_pos hk0] at hv1; rw [hk0] at hs1)
    subst hv1
    have t38 : s1.1 38 0 = 0 := by
      rw [hs1]; simp [gUse, sI, sJ, u2]
    refine v_istore (pc := 1895) dL_law_1895 rfl (by decide) ?_
    refine v_aload_n (pc := 1897) dL_law_1897 rfl rfl ?_
    refine vm_callV0 (pc := 1898) (n1 + 1, n2 + 6) hG dL_law_1898 cw_L_124 im_yX9_thrown se_yX9_thrown (c_X9_thrown D m _ _ ) rfl (Nat.le_of_ble_eq_true rfl) ⟨Nat.le_of_ble_eq_true rfl, Nat.le_of_ble_eq_true rfl⟩ ⟨by show n1 + 1 + 0 ≤ 601024; omega, by show n2 + 6 + 0 ≤ 7293034; omega⟩ rfl (fun v s1 G hp hG => ?_)
    have hG9 := hG
    obtain ⟨hv1, hs2⟩ := hp
    subst hv1
    subst hs2
    rw [t38]
    obtain ⟨⟨hTo, hNo, hJo⟩, hTd, hNd, hEd⟩ := hM1.at hG9
    have hAG : AG s9 s1 := by
      refine ⟨fun k hk hk16 => ?_, ?_, ?_⟩
      · rw [hs1, hs9]; refine funext fun j => ?_; simp [gUse, noteS, sI, sJ, u2, show k ≠ 38 by omega, show k ≠ 39 by omega, show k ≠ 40 by omega, show k ≠ 41 by omega, show k ≠ 42 by omega, show k ≠ 43 by omega, show k ≠ 44 by omega, show k ≠ 45 by omega, show k ≠ 46 by omega]
      · rw [hs1, hs9]; first | rfl | (refine funext fun j => ?_; simp [gUse, noteS, sI, sJ, u2])
      · rw [hs1, hs9]; first | rfl | (refine funext fun j => ?_; simp [gUse, noteS, sI, sJ, u2])
    have hIN : INV X1 s9 (q + 1) := by
      rw [hs9]; obtain ⟨x9, hx9, ex9⟩ := kUse_0 hk0 i5.2.1; rw [ex9, nat_nI (by have := i5.2.1; omega)]; exact inv_use (p0 := 0) hI0 i5.1 i5.2.1 i6.1 hn512 (by omega) hx9 hx1 hx2
    have hfin := hM1.fin hG9 hAG hIN
    refine v_iload (pc := 1901) dL_law_1901 rfl ?_
    refine v_icmp_eq (pc := 1903) (tgt := 1908) dL_law_1903 (by decide) (fun c1903 => ?_) (fun c1903 => absurd c1903 (not_not_intro rfl))
    refine v_iload (pc := 1908) dL_law_1908 rfl ?_
    refine v_if_ne (pc := 1910) (tgt := 1925) dL_law_1910 (by decide) (fun c1910 => absurd c1910 (by decide)) (fun c1910 => ?_)
    obtain ⟨T, N, I, J, E, Rf⟩ := G
    refine v_aload_n (pc := 1913) dL_law_1913 rfl rfl ?_
    refine v_iconst (pc := 1914) (v := 0) dL_law_1914 (by decide) ?_
    refine v_lald (pc := 1915) (j := 0) dL_law_1915 hTo hNo rfl (by decide) (by decide) ?_
    refine v_iload (pc := 1916) dL_law_1916 rfl ?_
    refine v_i2l (pc := 1918) dL_law_1918 ?_
    refine v_lcmp (pc := 1919) dL_law_1919 ?_
    refine v_if_eq (pc := 1920) (tgt := 1925) dL_law_1920 (by decide) (fun c1920 => ?_) (fun c1920 => absurd c1920 (not_not_intro (cmp_eq0.mpr ((congrFun hJo 0).trans (hval.trans rfl)))))
    refine v_goto (pc := 1925) (tgt := 2232) dL_law_1925 (by decide) ?_
    refine v_forget 6 ?_
    refine v_forget 7 ?_
    refine v_forget 8 ?_
    exact kk _ _ _ _ hfin ⟨by show n1 + 1 ≤ 60 + 2 * (q + 1); omega, by show n2 + 6 ≤ 2000 + 20 * (q + 1); omega⟩
  · refine v_istore (pc := 1883) dL_law_1883 rfl (by decide) ?_
    refine v_aload_n (pc := 1885) dL_law_1885 rfl rfl ?_
    refine v_aload_n (pc := 1886) dL_law_1886 rfl rfl ?_
    refine v_iload (pc := 1887) dL_law_1887 rfl ?_
    refine v_iconst (pc := 1889) (v := 1) dL_law_1889 (by decide) ?_
    refine v_iadd (pc := 1890) dL_law_1890 ?_
    refine v_sld (pc := 1891) (j := 5 * q + 1) hS dL_law_1891 (by rw [show (1 : Int32) = nI 1 from rfl, nI_add]) (by omega) hL ?_
    refine vm_callV1 (pc := 1892) (n1 + 1, n2 + 6) hG dL_law_1892 cw_L_213 im_yX9_use se_yX9_use (c_X9_use D m _ _ c _ (i5.CV i1.2.1) i5.1 i5.2.1) rfl (Nat.le_of_ble_eq_true rfl) ⟨Nat.le_of_ble_eq_true rfl, Nat.le_of_ble_eq_true rfl⟩ ⟨by show n1 + 1 + 0 ≤ 601024; omega, by show n2 + 6 + 0 ≤ 7293034; omega⟩ rfl (fun v s1 G hp hG => ?_)
    obtain ⟨hv1, hs1⟩ := hp
    first | rw [if_neg (by rw [herr]; exact hk)] at hv1 hs1 | rw [if_neg (by rw [herr]; exact hk)] at hv1
    rw [herr] at hs1
    subst hv1
    have t38 : s1.1 38 0 = k := by
      rw [hs1]; exact sI_s _ _ _ _
    refine v_istore (pc := 1895) dL_law_1895 rfl (by decide) ?_
    refine v_aload_n (pc := 1897) dL_law_1897 rfl rfl ?_
    refine vm_callV0 (pc := 1898) (n1 + 1, n2 + 6) hG dL_law_1898 cw_L_124 im_yX9_thrown se_yX9_thrown (c_X9_thrown D m _ _ ) rfl (Nat.le_of_ble_eq_true rfl) ⟨Nat.le_of_ble_eq_true rfl, Nat.le_of_ble_eq_true rfl⟩ ⟨by show n1 + 1 + 0 ≤ 601024; omega, by show n2 + 6 + 0 ≤ 7293034; omega⟩ rfl (fun v s1 G hp hG => ?_)
    have hG9 := hG
    obtain ⟨hv1, hs2⟩ := hp
    subst hv1
    subst hs2
    rw [t38]
    have hAG : AG s9 s1 := by
      rw [hs1, hs9]; exact AG_thr s k
    have hIN : INV X1 s9 (q + 1) := by
      rw [hs9]; exact INV.q1 (Nat.le_succ q) hI0 (fun _ _ _ _ _ _ _ _ => rfl) rfl hx1 hx2
    have hfin := hM1.fin hG9 hAG hIN
    refine v_iload (pc := 1901) dL_law_1901 rfl ?_
    refine v_icmp_eq (pc := 1903) (tgt := 1908) dL_law_1903 (by decide) (fun c1903 => ?_) (fun c1903 => absurd c1903 (not_not_intro rfl))
    refine v_iload (pc := 1908) dL_law_1908 rfl ?_
    refine v_if_ne (pc := 1910) (tgt := 1925) dL_law_1910 (by decide) (fun c1910 => ?_) (fun c1910 => absurd c1910 hk)
    refine v_goto (pc := 1925) (tgt := 2232) dL_law_1925 (by decide) ?_
    refine v_forget 6 ?_
    refine v_forget 7 ?_
    refine v_forget 8 ?_
    exact kk _ _ _ _ hfin ⟨by show n1 + 1 ≤ 60 + 2 * (q + 1); omega, by show n2 + 6 ≤ 2000 + 20 * (q + 1); omega⟩
theorem ll_wet : Cond.methodLink "BroadseamLoftLaw" 214 yL_wet ∈ lw_all ∧ Cond.initialized yL_wet.cls ∈ lw_all ∧ Cond.static yL_wet ∈ lw_all ∧ (yL_wet.cls ≠ "java/lang/invoke/MethodHandle" ∧ yL_wet.cls ≠ "java/lang/invoke/VarHandle" ∧ (parseMethodDescriptor yL_wet.desc).map (fun d => d.parameters.length) = some 4) := ⟨(lw_mem 771 (by decide +kernel) rfl), (lw_mem 32 (by decide +kernel) rfl), (lw_mem 772 (by decide +kernel) rfl), by decide +kernel, by decide +kernel, by decide +kernel⟩
set_option maxRecDepth 100000 in
set_option maxHeartbeats 1000000 in
theorem k_wet {D : DT} {K : KT} {b L : Nat} {xs : Nat → Int32} (hS : SC K b L xs) (hNC : NC3 K.2.2.2.1) (hL : L ≤ 2560) {m o oD x0 : Nat} {ad : Nat → Nat} (q : Nat) (hq : 5 * q + 5 ≤ L) {X : XT} {s : SG} {G : GT} {n : Nat × Nat} (hW : HW X s m ad o oD x0 q G) (hn : n.1 ≤ 60 + 2 * q ∧ n.2 ≤ 2000 + 20 * q) (kk : ∀ (X' : XT) (s' : SG) (G' : GT) (n' : Nat × Nat), HW X' s' m ad o oD x0 (q + 1) G' → (n'.1 ≤ 60 + 2 * (q + 1) ∧ n'.2 ≤ 2000 + 20 * (q + 1)) → V cL_law RL 9 room_1 D K 2232 [some (.ref b), some (.ref x0), some (.ref m), some (.ref o), some (.ref oD), some (.int (nI (5 * q))), none, none, none] [] G' n') : V cL_law RL 9 room_1 D K 1928 [some (.ref b), some (.ref x0), some (.ref m), some (.ref o), some (.ref oD), some (.int (nI (5 * q))), none, none, none] [] G n := by
  obtain ⟨hM, hI⟩ := hW
  have hI0 := hI
  obtain ⟨a, b1, c, g, ns, nl, i1, i2, i3, i4, i5, i6, i7, i8, i9⟩ := hI
  have hx0 : X.1 0 0 = x0 := hM.2.2.2.2.2.2
  subst hx0
  obtain ⟨n1, n2⟩ := n
  have hn1 : n1 ≤ 60 + 2 * q := hn.1
  have hn2 : n2 ≤ 2000 + 20 * q := hn.2
  have hn511 : nl < 512 := by have := i6.2.1; omega
  have hn512 : nl ≤ 512 := by omega
  by_cases hzq : xs (5 * q + 2) = 0
  · have hz9 : (0 : Int32) = 0 ∨ (0 : Int32) = 1 := Or.inl rfl
    refine v_aload_n (pc := 1928) dL_law_1928 rfl rfl ?_
    refine v_aload_n (pc := 1929) dL_law_1929 rfl rfl ?_
    refine v_iload (pc := 1930) dL_law_1930 rfl ?_
    refine v_iconst (pc := 1932) (v := 1) dL_law_1932 (by decide) ?_
    refine v_iadd (pc := 1933) dL_law_1933 ?_
    refine v_sld (pc := 1934) (j := 5 * q + 1) hS dL_law_1934 (by rw [show (1 : Int32) = nI 1 from rfl, nI_add]) (by omega) hL ?_
    refine v_aload_n (pc := 1935) dL_law_1935 rfl rfl ?_
    refine v_iload (pc := 1936) dL_law_1936 rfl ?_
    refine v_iconst (pc := 1938) (v := 2) dL_law_1938 (by decide) ?_
    refine v_iadd (pc := 1939) dL_law_1939 ?_
    refine v_sld (pc := 1940) (j := 5 * q + 2) hS dL_law_1940 (by rw [show (2 : Int32) = nI 2 from rfl, nI_add]) (by omega) hL ?_
    refine v_if_eq (pc := 1941) (tgt := 1948) dL_law_1941 (by decide) (fun c1941 => ?_) (fun c1941 => absurd c1941 (not_not_intro hzq))
    refine v_iconst (pc := 1948) (v := 0) dL_law_1948 (by decide) ?_
    refine v_aload_n (pc := 1949) dL_law_1949 rfl rfl ?_
    refine v_callL (pc := 1950) (As := [.ref (X.1 0 0), .int _, .int _, .ref o]) (rest := []) hNC dL_law_1950 ll_wet.1 ll_wet.2.1 wl_wet ll_wet.2.2.2 ll_wet.2.2.1 (c_L_wet D G (X.1, X.2.1, X.2.2.1, RESTP m ad o oD, G) s (RESTP m ad o oD) o c nl _ _ hM.re rfl (Or.inr (Or.inr (Or.inl rfl))) hM.2.2.1 (i5.CV i1.2.1) i5.2.2.2.2.2 i6.1 hn511 i5.1 i5.2.1 i5.2.2.1) rfl rfl (Nat.le_of_ble_eq_true rfl) ⟨Nat.le_of_ble_eq_true rfl, Nat.le_of_ble_eq_true rfl⟩ ⟨by show n1 + 1 ≤ 601024; omega, by show n2 + 6 ≤ 7293034; omega⟩ (fun v G1 hp => ?_)
    obtain ⟨X1, s9, hL1, hA1, h01, hF1, hT1, k, hv, hk⟩ := hp
    subst hv
    have hM1 := hM.mid (Or.inl ⟨rfl, rfl⟩) hL1 hA1 (h01 0 (by decide)) hF1 hT1
    have hG := hM1.md
    refine (?_ : V cL_law RL 9 room_1 D K 1953 _ _ G1 (n1 + 1, n2 + 6))
    rcases hk with ⟨hk, hok⟩ | ⟨hk, herr, hs9, hx1, hx2⟩
    · subst hk
      obtain ⟨hval, hx1, hx2, hs9, hk0⟩ := hok
      refine v_istore (pc := 1953) dL_law_1953 rfl (by decide) ?_
      refine v_aload_n (pc := 1955) dL_law_1955 rfl rfl ?_
      refine v_aload_n (pc := 1956) dL_law_1956 rfl rfl ?_
      refine v_iload (pc := 1957) dL_law_1957 rfl ?_
      refine v_iconst (pc := 1959) (v := 1) dL_law_1959 (by decide) ?_
      refine v_iadd (pc := 1960) dL_law_1960 ?_
      refine v_sld (pc := 1961) (j := 5 * q + 1) hS dL_law_1961 (by rw [show (1 : Int32) = nI 1 from rfl, nI_add]) (by omega) hL ?_
      refine v_aload_n (pc := 1962) dL_law_1962 rfl rfl ?_
      refine v_iload (pc := 1963) dL_law_1963 rfl ?_
      refine v_iconst (pc := 1965) (v := 2) dL_law_1965 (by decide) ?_
      refine v_iadd (pc := 1966) dL_law_1966 ?_
      refine v_sld (pc := 1967) (j := 5 * q + 2) hS dL_law_1967 (by rw [show (2 : Int32) = nI 2 from rfl, nI_add]) (by omega) hL ?_
      refine v_if_eq (pc := 1968) (tgt := 1975) dL_law_1968 (by decide) (fun c1968 => ?_) (fun c1968 => absurd c1968 (not_not_intro hzq))
      refine v_iconst (pc := 1975) (v := 0) dL_law_1975 (by decide) ?_
      refine vm_callV2 (pc := 1976) (n1 + 1, n2 + 6) hG dL_law_1976 cw_L_217 im_yX9_wet se_yX9_wet (c_X9_wet D m _ _ c _ _ i5.1 i5.2.1) rfl (Nat.le_of_ble_eq_true rfl) ⟨Nat.le_of_ble_eq_true rfl, Nat.le_of_ble_eq_true rfl⟩ ⟨by show n1 + 1 + 0 ≤ 601024; omega, by show n2 + 6 + 0 ≤ 7293034; omega⟩ rfl (fun v s1 G hp hG => ?_)
      obtain ⟨hv1, hs1⟩ := hp
      first | rw [if_pos hk0] at hv1 hs1 | (rw [if_pos hk0] at hv1; rw [hk0] at hs1)
      subst hv1
      have t38 : s1.1 38 0 = 0 := by
        rw [hs1]; simp [gWet, sI, sJ, u2]
      refine v_istore (pc := 1979) dL_law_1979 rfl (by decide) ?_
      refine v_aload_n (pc := 1981) dL_law_1981 rfl rfl ?_
      refine vm_callV0 (pc := 1982) (n1 + 1, n2 + 6) hG dL_law_1982 cw_L_124 im_yX9_thrown se_yX9_thrown (c_X9_thrown D m _ _ ) rfl (Nat.le_of_ble_eq_true rfl) ⟨Nat.le_of_ble_eq_true rfl, Nat.le_of_ble_eq_true rfl⟩ ⟨by show n1 + 1 + 0 ≤ 601024; omega, by show n2 + 6 + 0 ≤ 7293034; omega⟩ rfl (fun v s1 G hp hG => ?_)
      have hG9 := hG
      obtain ⟨hv1, hs2⟩ := hp
      subst hv1
      subst hs2
      rw [t38]
      obtain ⟨⟨hTo, hNo, hJo⟩, hTd, hNd, hEd⟩ := hM1.at hG9
      have hAG : AG s9 s1 := by
        rw [if_pos rfl] at hs9
        refine ⟨fun k hk hk16 => ?_, ?_, ?_⟩
        · rw [hs1, hs9]; refine funext fun j => ?_; simp [gWet, noteS, sI, sJ, u2, show k ≠ 38 by omega, show k ≠ 39 by omega, show k ≠ 40 by omega, show k ≠ 41 by omega, show k ≠ 42 by omega, show k ≠ 43 by omega, show k ≠ 44 by omega, show k ≠ 45 by omega, show k ≠ 46 by omega]
        · rw [hs1, hs9]; first | rfl | (split <;> rfl)
        · rw [hs1, hs9]; first | rfl | (split <;> rfl)
      have hIN : INV X1 s9 (q + 1) := by
        rw [hs9, if_pos rfl]; obtain ⟨x9, hx9, ex9⟩ := kWet_0 hk0 i5.2.1; rw [ex9, nat_nI (by have := i5.2.1; omega)]; exact inv_wet (p0 := 0) hI0 i5.1 i5.2.1 i6.1 hn512 (by omega) hx9 rfl hx1 hx2
      have hfin := hM1.fin hG9 hAG hIN
      refine v_iload (pc := 1985) dL_law_1985 rfl ?_
      refine v_icmp_eq (pc := 1987) (tgt := 1992) dL_law_1987 (by decide) (fun c1987 => ?_) (fun c1987 => absurd c1987 (not_not_intro rfl))
      refine v_iload (pc := 1992) dL_law_1992 rfl ?_
      refine v_if_ne (pc := 1994) (tgt := 2009) dL_law_1994 (by decide) (fun c1994 => absurd c1994 (by decide)) (fun c1994 => ?_)
      obtain ⟨T, N, I, J, E, Rf⟩ := G
      refine v_aload_n (pc := 1997) dL_law_1997 rfl rfl ?_
      refine v_iconst (pc := 1998) (v := 0) dL_law_1998 (by decide) ?_
      refine v_lald (pc := 1999) (j := 0) dL_law_1999 hTo hNo rfl (by decide) (by decide) ?_
      refine v_iload (pc := 2000) dL_law_2000 rfl ?_
      refine v_i2l (pc := 2002) dL_law_2002 ?_
      refine v_lcmp (pc := 2003) dL_law_2003 ?_
      refine v_if_eq (pc := 2004) (tgt := 2009) dL_law_2004 (by decide) (fun c2004 => ?_) (fun c2004 => absurd c2004 (not_not_intro (cmp_eq0.mpr ((congrFun hJo 0).trans (hval.trans rfl)))))
      refine v_goto (pc := 2009) (tgt := 2232) dL_law_2009 (by decide) ?_
      refine v_forget 6 ?_
      refine v_forget 7 ?_
      refine v_forget 8 ?_
      exact kk _ _ _ _ hfin ⟨by show n1 + 1 ≤ 60 + 2 * (q + 1); omega, by show n2 + 6 ≤ 2000 + 20 * (q + 1); omega⟩
    · refine v_istore (pc := 1953) dL_law_1953 rfl (by decide) ?_
      refine v_aload_n (pc := 1955) dL_law_1955 rfl rfl ?_
      refine v_aload_n (pc := 1956) dL_law_1956 rfl rfl ?_
      refine v_iload (pc := 1957) dL_law_1957 rfl ?_
      refine v_iconst (pc := 1959) (v := 1) dL_law_1959 (by decide) ?_
      refine v_iadd (pc := 1960) dL_law_1960 ?_
      refine v_sld (pc := 1961) (j := 5 * q + 1) hS dL_law_1961 (by rw [show (1 : Int32) = nI 1 from rfl, nI_add]) (by omega) hL ?_
      refine v_aload_n (pc := 1962) dL_law_1962 rfl rfl ?_
      refine v_iload (pc := 1963) dL_law_1963 rfl ?_
      refine v_iconst (pc := 1965) (v := 2) dL_law_1965 (by decide) ?_
      refine v_iadd (pc := 1966) dL_law_1966 ?_
      refine v_sld (pc := 1967) (j := 5 * q + 2) hS dL_law_1967 (by rw [show (2 : Int32) = nI 2 from rfl, nI_add]) (by omega) hL ?_
      refine v_if_eq (pc := 1968) (tgt := 1975) dL_law_1968 (by decide) (fun c1968 => ?_) (fun c1968 => absurd c1968 (not_not_intro hzq))
      refine v_iconst (pc := 1975) (v := 0) dL_law_1975 (by decide) ?_
      refine vm_callV2 (pc := 1976) (n1 + 1, n2 + 6) hG dL_law_1976 cw_L_217 im_yX9_wet se_yX9_wet (c_X9_wet D m _ _ c _ _ i5.1 i5.2.1) rfl (Nat.le_of_ble_eq_true rfl) ⟨Nat.le_of_ble_eq_true rfl, Nat.le_of_ble_eq_true rfl⟩ ⟨by show n1 + 1 + 0 ≤ 601024; omega, by show n2 + 6 + 0 ≤ 7293034; omega⟩ rfl (fun v s1 G hp hG => ?_)
      obtain ⟨hv1, hs1⟩ := hp
      first | rw [if_neg (by rw [herr]; exact hk)] at hv1 hs1 | rw [if_neg (by rw [herr]; exact hk)] at hv1
      rw [herr] at hs1
      subst hv1
      have t38 : s1.1 38 0 = k := by
        rw [hs1]; exact sI_s _ _ _ _
      refine v_istore (pc := 1979) dL_law_1979 rfl (by decide) ?_
      refine v_aload_n (pc := 1981) dL_law_1981 rfl rfl ?_
      refine vm_callV0 (pc := 1982) (n1 + 1, n2 + 6) hG dL_law_1982 cw_L_124 im_yX9_thrown se_yX9_thrown (c_X9_thrown D m _ _ ) rfl (Nat.le_of_ble_eq_true rfl) ⟨Nat.le_of_ble_eq_true rfl, Nat.le_of_ble_eq_true rfl⟩ ⟨by show n1 + 1 + 0 ≤ 601024; omega, by show n2 + 6 + 0 ≤ 7293034; omega⟩ rfl (fun v s1 G hp hG => ?_)
      have hG9 := hG
      obtain ⟨hv1, hs2⟩ := hp
      subst hv1
      subst hs2
      rw [t38]
      have hAG : AG s9 s1 := by
        rw [hs1, hs9]; exact AG_thr s k
      have hIN : INV X1 s9 (q + 1) := by
        rw [hs9]; exact INV.q1 (Nat.le_succ q) hI0 (fun _ _ _ _ _ _ _ _ => rfl) rfl hx1 hx2
      have hfin := hM1.fin hG9 hAG hIN
      refine v_iload (pc := 1985) dL_law_1985 rfl ?_
      refine v_icmp_eq (pc := 1987) (tgt := 1992) dL_law_1987 (by decide) (fun c1987 => ?_) (fun c1987 => absurd c1987 (not_not_intro rfl))
      refine v_iload (pc := 1992) dL_law_1992 rfl ?_
      refine v_if_ne (pc := 1994) (tgt := 2009) dL_law_1994 (by decide) (fun c1994 => ?_) (fun c1994 => absurd c1994 hk)
      refine v_goto (pc := 2009) (tgt := 2232) dL_law_2009 (by decide) ?_
      refine v_forget 6 ?_
      refine v_forget 7 ?_
      refine v_forget 8 ?_
      exact kk _ _ _ _ hfin ⟨by show n1 + 1 ≤ 60 + 2 * (q + 1); omega, by show n2 + 6 ≤ 2000 + 20 * (q + 1); omega⟩
  · have hz9 : (1 : Int32) = 0 ∨ (1 : Int32) = 1 := Or.inr rfl
    refine v_aload_n (pc := 1928) dL_law_1928 rfl rfl ?_
    refine v_aload_n (pc := 1929) dL_law_1929 rfl rfl ?_
    refine v_iload (pc := 1930) dL_law_1930 rfl ?_
    refine v_iconst (pc := 1932) (v := 1) dL_law_1932 (by decide) ?_
    refine v_iadd (pc := 1933) dL_law_1933 ?_
    refine v_sld (pc := 1934) (j := 5 * q + 1) hS dL_law_1934 (by rw [show (1 : Int32) = nI 1 from rfl, nI_add]) (by omega) hL ?_
    refine v_aload_n (pc := 1935) dL_law_1935 rfl rfl ?_
    refine v_iload (pc := 1936) dL_law_1936 rfl ?_
    refine v_iconst (pc := 1938) (v := 2) dL_law_1938 (by decide) ?_
    refine v_iadd (pc := 1939) dL_law_1939 ?_
    refine v_sld (pc := 1940) (j := 5 * q + 2) hS dL_law_1940 (by rw [show (2 : Int32) = nI 2 from rfl, nI_add]) (by omega) hL ?_
    refine v_if_eq (pc := 1941) (tgt := 1948) dL_law_1941 (by decide) (fun c1941 => absurd c1941 hzq) (fun c1941 => ?_)
    refine v_iconst (pc := 1944) (v := 1) dL_law_1944 (by decide) ?_
    refine v_goto (pc := 1945) (tgt := 1949) dL_law_1945 (by decide) ?_
    refine v_aload_n (pc := 1949) dL_law_1949 rfl rfl ?_
    refine v_callL (pc := 1950) (As := [.ref (X.1 0 0), .int _, .int _, .ref o]) (rest := []) hNC dL_law_1950 ll_wet.1 ll_wet.2.1 wl_wet ll_wet.2.2.2 ll_wet.2.2.1 (c_L_wet D G (X.1, X.2.1, X.2.2.1, RESTP m ad o oD, G) s (RESTP m ad o oD) o c nl _ _ hM.re rfl (Or.inr (Or.inr (Or.inl rfl))) hM.2.2.1 (i5.CV i1.2.1) i5.2.2.2.2.2 i6.1 hn511 i5.1 i5.2.1 i5.2.2.1) rfl rfl (Nat.le_of_ble_eq_true rfl) ⟨Nat.le_of_ble_eq_true rfl, Nat.le_of_ble_eq_true rfl⟩ ⟨by show n1 + 1 ≤ 601024; omega, by show n2 + 6 ≤ 7293034; omega⟩ (fun v G1 hp => ?_)
    obtain ⟨X1, s9, hL1, hA1, h01, hF1, hT1, k, hv, hk⟩ := hp
    subst hv
    have hM1 := hM.mid (Or.inl ⟨rfl, rfl⟩) hL1 hA1 (h01 0 (by decide)) hF1 hT1
    have hG := hM1.md
    refine (?_ : V cL_law RL 9 room_1 D K 1953 _ _ G1 (n1 + 1, n2 + 6))
    rcases hk with ⟨hk, hok⟩ | ⟨hk, herr, hs9, hx1, hx2⟩
    · subst hk
      obtain ⟨hval, hx1, hx2, hs9, hk0⟩ := hok
      refine v_istore (pc := 1953) dL_law_1953 rfl (by decide) ?_
      refine v_aload_n (pc := 1955) dL_law_1955 rfl rfl ?_
      refine v_aload_n (pc := 1956) dL_law_1956 rfl rfl ?_
      refine v_iload (pc := 1957) dL_law_1957 rfl ?_
      refine v_iconst (pc := 1959) (v := 1) dL_law_1959 (by decide) ?_
      refine v_iadd (pc := 1960) dL_law_1960 ?_
      refine v_sld (pc := 1961) (j := 5 * q + 1) hS dL_law_1961 (by rw [show (1 : Int32) = nI 1 from rfl, nI_add]) (by omega) hL ?_
      refine v_aload_n (pc := 1962) dL_law_1962 rfl rfl ?_
      refine v_iload (pc := 1963) dL_law_1963 rfl ?_
      refine v_iconst (pc := 1965) (v := 2) dL_law_1965 (by decide) ?_
      refine v_iadd (pc := 1966) dL_law_1966 ?_
      refine v_sld (pc := 1967) (j := 5 * q + 2) hS dL_law_1967 (by rw [show (2 : Int32) = nI 2 from rfl, nI_add]) (by omega) hL ?_
      refine v_if_eq (pc := 1968) (tgt := 1975) dL_law_1968 (by decide) (fun c1968 => absurd c1968 hzq) (fun c1968 => ?_)
      refine v_iconst (pc := 1971) (v := 1) dL_law_1971 (by decide) ?_
      refine v_goto (pc := 1972) (tgt := 1976) dL_law_1972 (by decide) ?_
      refine vm_callV2 (pc := 1976) (n1 + 1, n2 + 6) hG dL_law_1976 cw_L_217 im_yX9_wet se_yX9_wet (c_X9_wet D m _ _ c _ _ i5.1 i5.2.1) rfl (Nat.le_of_ble_eq_true rfl) ⟨Nat.le_of_ble_eq_true rfl, Nat.le_of_ble_eq_true rfl⟩ ⟨by show n1 + 1 + 0 ≤ 601024; omega, by show n2 + 6 + 0 ≤ 7293034; omega⟩ rfl (fun v s1 G hp hG => ?_)
      obtain ⟨hv1, hs1⟩ := hp
      first | rw [if_pos hk0] at hv1 hs1 | (rw [if_pos hk0] at hv1; rw [hk0] at hs1)
      subst hv1
      have t38 : s1.1 38 0 = 0 := by
        rw [hs1]; simp [gWet, sI, sJ, u2]
      refine v_istore (pc := 1979) dL_law_1979 rfl (by decide) ?_
      refine v_aload_n (pc := 1981) dL_law_1981 rfl rfl ?_
      refine vm_callV0 (pc := 1982) (n1 + 1, n2 + 6) hG dL_law_1982 cw_L_124 im_yX9_thrown se_yX9_thrown (c_X9_thrown D m _ _ ) rfl (Nat.le_of_ble_eq_true rfl) ⟨Nat.le_of_ble_eq_true rfl, Nat.le_of_ble_eq_true rfl⟩ ⟨by show n1 + 1 + 0 ≤ 601024; omega, by show n2 + 6 + 0 ≤ 7293034; omega⟩ rfl (fun v s1 G hp hG => ?_)
      have hG9 := hG
      obtain ⟨hv1, hs2⟩ := hp
      subst hv1
      subst hs2
      rw [t38]
      obtain ⟨⟨hTo, hNo, hJo⟩, hTd, hNd, hEd⟩ := hM1.at hG9
      have hAG : AG s9 s1 := by
        rw [if_neg (by decide)] at hs9
        refine ⟨fun k hk hk16 => ?_, ?_, ?_⟩
        · rw [hs1, hs9]; refine funext fun j => ?_
          by_cases z1 : k = 37 ∧ j = nat (xs (5 * q + 1))
          · obtain ⟨rfl, rfl⟩ := z1; simp [gWet, sI, u2]
          · by_cases z2 : k = 36 ∧ j = nat (xs (5 * q + 1))
            · obtain ⟨rfl, rfl⟩ := z2; simp [gWet, sI, u2]
            · simp only [gWet, sI, u2]; rw [if_neg z1, if_neg z2, if_neg (fun z => by omega), if_neg z1]
        · rw [hs1, hs9]; rfl
        · rw [hs1, hs9]; rfl
      have hIN : INV X1 s9 (q + 1) := by
        rw [hs9, if_neg (by decide)]; obtain ⟨x9, hx9, ex9⟩ := kWet_0 hk0 i5.2.1; rw [ex9, nat_nI (by have := i5.2.1; omega)]; exact inv_air hI0 i5.1 i5.2.1 hx9 hx1 hx2
      have hfin := hM1.fin hG9 hAG hIN
      refine v_iload (pc := 1985) dL_law_1985 rfl ?_
      refine v_icmp_eq (pc := 1987) (tgt := 1992) dL_law_1987 (by decide) (fun c1987 => ?_) (fun c1987 => absurd c1987 (not_not_intro rfl))
      refine v_iload (pc := 1992) dL_law_1992 rfl ?_
      refine v_if_ne (pc := 1994) (tgt := 2009) dL_law_1994 (by decide) (fun c1994 => absurd c1994 (by decide)) (fun c1994 => ?_)
      obtain ⟨T, N, I, J, E, Rf⟩ := G
      refine v_aload_n (pc := 1997) dL_law_1997 rfl rfl ?_
      refine v_iconst (pc := 1998) (v := 0) dL_law_1998 (by decide) ?_
      refine v_lald (pc := 1999) (j := 0) dL_law_1999 hTo hNo rfl (by decide) (by decide) ?_
      refine v_iload (pc := 2000) dL_law_2000 rfl ?_
      refine v_i2l (pc := 2002) dL_law_2002 ?_
      refine v_lcmp (pc := 2003) dL_law_2003 ?_
      refine v_if_eq (pc := 2004) (tgt := 2009) dL_law_2004 (by decide) (fun c2004 => ?_) (fun c2004 => absurd c2004 (not_not_intro (cmp_eq0.mpr ((congrFun hJo 0).trans (hval.trans rfl)))))
      refine v_goto (pc := 2009) (tgt := 2232) dL_law_2009 (by decide) ?_
      refine v_forget 6 ?_
      refine v_forget 7 ?_
      refine v_forget 8 ?_
      exact kk _ _ _ _ hfin ⟨by show n1 + 1 ≤ 60 + 2 * (q + 1); omega, by show n2 + 6 ≤ 2000 + 20 * (q + 1); omega⟩
    · refine v_istore (pc := 1953) dL_law_1953 rfl (by decide) ?_
      refine v_aload_n (pc := 1955) dL_law_1955 rfl rfl ?_
      refine v_aload_n (pc := 1956) dL_law_1956 rfl rfl ?_
      refine v_iload (pc := 1957) dL_law_1957 rfl ?_
      refine v_iconst (pc := 1959) (v := 1) dL_law_1959 (by decide) ?_
      refine v_iadd (pc := 1960) dL_law_1960 ?_
      refine v_sld (pc := 1961) (j := 5 * q + 1) hS dL_law_1961 (by rw [show (1 : Int32) = nI 1 from rfl, nI_add]) (by omega) hL ?_
      refine v_aload_n (pc := 1962) dL_law_1962 rfl rfl ?_
      refine v_iload (pc := 1963) dL_law_1963 rfl ?_
      refine v_iconst (pc := 1965) (v := 2) dL_law_1965 (by decide) ?_
      refine v_iadd (pc := 1966) dL_law_1966 ?_
      refine v_sld (pc := 1967) (j := 5 * q + 2) hS dL_law_1967 (by rw [show (2 : Int32) = nI 2 from rfl, nI_add]) (by omega) hL ?_
      refine v_if_eq (pc := 1968) (tgt := 1975) dL_law_1968 (by decide) (fun c1968 => absurd c1968 hzq) (fun c1968 => ?_)
      refine v_iconst (pc := 1971) (v := 1) dL_law_1971 (by decide) ?_
      refine v_goto (pc := 1972) (tgt := 1976) dL_law_1972 (by decide) ?_
      refine vm_callV2 (pc := 1976) (n1 + 1, n2 + 6) hG dL_law_1976 cw_L_217 im_yX9_wet se_yX9_wet (c_X9_wet D m _ _ c _ _ i5.1 i5.2.1) rfl (Nat.le_of_ble_eq_true rfl) ⟨Nat.le_of_ble_eq_true rfl, Nat.le_of_ble_eq_true rfl⟩ ⟨by show n1 + 1 + 0 ≤ 601024; omega, by show n2 + 6 + 0 ≤ 7293034; omega⟩ rfl (fun v s1 G hp hG => ?_)
      obtain ⟨hv1, hs1⟩ := hp
      first | rw [if_neg (by rw [herr]; exact hk)] at hv1 hs1 | rw [if_neg (by rw [herr]; exact hk)] at hv1
      rw [herr] at hs1
      subst hv1
      have t38 : s1.1 38 0 = k := by
        rw [hs1]; exact sI_s _ _ _ _
      refine v_istore (pc := 1979) dL_law_1979 rfl (by decide) ?_
      refine v_aload_n (pc := 1981) dL_law_1981 rfl rfl ?_
      refine vm_callV0 (pc := 1982) (n1 + 1, n2 + 6) hG dL_law_1982 cw_L_124 im_yX9_thrown se_yX9_thrown (c_X9_thrown D m _ _ ) rfl (Nat.le_of_ble_eq_true rfl) ⟨Nat.le_of_ble_eq_true rfl, Nat.le_of_ble_eq_true rfl⟩ ⟨by show n1 + 1 + 0 ≤ 601024; omega, by show n2 + 6 + 0 ≤ 7293034; omega⟩ rfl (fun v s1 G hp hG => ?_)
      have hG9 := hG
      obtain ⟨hv1, hs2⟩ := hp
      subst hv1
      subst hs2
      rw [t38]
      have hAG : AG s9 s1 := by
        rw [hs1, hs9]; exact AG_thr s k
      have hIN : INV X1 s9 (q + 1) := by
        rw [hs9]; exact INV.q1 (Nat.le_succ q) hI0 (fun _ _ _ _ _ _ _ _ => rfl) rfl hx1 hx2
      have hfin := hM1.fin hG9 hAG hIN
      refine v_iload (pc := 1985) dL_law_1985 rfl ?_
      refine v_icmp_eq (pc := 1987) (tgt := 1992) dL_law_1987 (by decide) (fun c1987 => ?_) (fun c1987 => absurd c1987 (not_not_intro rfl))
      refine v_iload (pc := 1992) dL_law_1992 rfl ?_
      refine v_if_ne (pc := 1994) (tgt := 2009) dL_law_1994 (by decide) (fun c1994 => ?_) (fun c1994 => absurd c1994 hk)
      refine v_goto (pc := 2009) (tgt := 2232) dL_law_2009 (by decide) ?_
      refine v_forget 6 ?_
      refine v_forget 7 ?_
      refine v_forget 8 ?_
      exact kk _ _ _ _ hfin ⟨by show n1 + 1 ≤ 60 + 2 * (q + 1); omega, by show n2 + 6 ≤ 2000 + 20 * (q + 1); omega⟩
theorem ll_find : Cond.methodLink "BroadseamLoftLaw" 218 yL_find ∈ lw_all ∧ Cond.initialized yL_find.cls ∈ lw_all ∧ Cond.static yL_find ∈ lw_all ∧ (yL_find.cls ≠ "java/lang/invoke/MethodHandle" ∧ yL_find.cls ≠ "java/lang/invoke/VarHandle" ∧ (parseMethodDescriptor yL_find.desc).map (fun d => d.parameters.length) = some 4) := ⟨(lw_mem 779 (by decide +kernel) rfl), (lw_mem 32 (by decide +kernel) rfl), (lw_mem 780 (by decide +kernel) rfl), by decide +kernel, by decide +kernel, by decide +kernel⟩
set_option maxRecDepth 100000 in
set_option maxHeartbeats 1000000 in
theorem k_find {D : DT} {K : KT} {b L : Nat} {xs : Nat → Int32} (hS : SC K b L xs) (hNC : NC3 K.2.2.2.1) (hL : L ≤ 2560) {m o oD x0 : Nat} {ad : Nat → Nat} (q : Nat) (hq : 5 * q + 5 ≤ L) {X : XT} {s : SG} {G : GT} {n : Nat × Nat} (hW : HW X s m ad o oD x0 q G) (hn : n.1 ≤ 60 + 2 * q ∧ n.2 ≤ 2000 + 20 * q) (kk : ∀ (X' : XT) (s' : SG) (G' : GT) (n' : Nat × Nat), HW X' s' m ad o oD x0 (q + 1) G' → (n'.1 ≤ 60 + 2 * (q + 1) ∧ n'.2 ≤ 2000 + 20 * (q + 1)) → V cL_law RL 9 room_1 D K 2232 [some (.ref b), some (.ref x0), some (.ref m), some (.ref o), some (.ref oD), some (.int (nI (5 * q))), none, none, none] [] G' n') : V cL_law RL 9 room_1 D K 2012 [some (.ref b), some (.ref x0), some (.ref m), some (.ref o), some (.ref oD), some (.int (nI (5 * q))), none, none, none] [] G n := by
  obtain ⟨hM, hI⟩ := hW
  have hI0 := hI
  obtain ⟨a, b1, c, g, ns, nl, i1, i2, i3, i4, i5, i6, i7, i8, i9⟩ := hI
  have hx0 : X.1 0 0 = x0 := hM.2.2.2.2.2.2
  subst hx0
  obtain ⟨n1, n2⟩ := n
  have hn1 : n1 ≤ 60 + 2 * q := hn.1
  have hn2 : n2 ≤ 2000 + 20 * q := hn.2
  have hn511 : nl < 512 := by have := i6.2.1; omega
  have hn512 : nl ≤ 512 := by omega
  by_cases hzq : xs (5 * q + 2) = 0
  · have hz9 : (0 : Int32) = 0 ∨ (0 : Int32) = 1 := Or.inl rfl
    refine v_aload_n (pc := 2012) dL_law_2012 rfl rfl ?_
    refine v_aload_n (pc := 2013) dL_law_2013 rfl rfl ?_
    refine v_iload (pc := 2014) dL_law_2014 rfl ?_
    refine v_iconst (pc := 2016) (v := 1) dL_law_2016 (by decide) ?_
    refine v_iadd (pc := 2017) dL_law_2017 ?_
    refine v_sld (pc := 2018) (j := 5 * q + 1) hS dL_law_2018 (by rw [show (1 : Int32) = nI 1 from rfl, nI_add]) (by omega) hL ?_
    refine v_aload_n (pc := 2019) dL_law_2019 rfl rfl ?_
    refine v_iload (pc := 2020) dL_law_2020 rfl ?_
    refine v_iconst (pc := 2022) (v := 2) dL_law_2022 (by decide) ?_
    refine v_iadd (pc := 2023) dL_law_2023 ?_
    refine v_sld (pc := 2024) (j := 5 * q + 2) hS dL_law_2024 (by rw [show (2 : Int32) = nI 2 from rfl, nI_add]) (by omega) hL ?_
    refine v_if_eq (pc := 2025) (tgt := 2032) dL_law_2025 (by decide) (fun c2025 => ?_) (fun c2025 => absurd c2025 (not_not_intro hzq))
    refine v_iconst (pc := 2032) (v := 0) dL_law_2032 (by decide) ?_
    refine v_aload_n (pc := 2033) dL_law_2033 rfl rfl ?_
    refine v_callL (pc := 2034) (As := [.ref (X.1 0 0), .int _, .int _, .ref o]) (rest := []) hNC dL_law_2034 ll_find.1 ll_find.2.1 wl_find ll_find.2.2.2 ll_find.2.2.1 (c_L_find D G (X.1, X.2.1, X.2.2.1, RESTP m ad o oD, G) s (RESTP m ad o oD) o a c _ _ hM.re rfl (Or.inr (Or.inr (Or.inl rfl))) hM.2.2.1 hz9 i5.2.2.2.2.2 i1.1 i1.2.1 i1.2.2.1 i5.2.1 i5.2.2.1) rfl rfl (Nat.le_of_ble_eq_true rfl) ⟨Nat.le_of_ble_eq_true rfl, Nat.le_of_ble_eq_true rfl⟩ ⟨by show n1 + 1 ≤ 601024; omega, by show n2 + 6 ≤ 7293034; omega⟩ (fun v G1 hp => ?_)
    obtain ⟨X1, s9, hL1, hA1, h01, hF1, hT1, k, hv, hk⟩ := hp
    subst hv
    have hM1 := hM.mid (Or.inl ⟨rfl, rfl⟩) hL1 hA1 (h01 0 (by decide)) hF1 hT1
    have hG := hM1.md
    refine (?_ : V cL_law RL 9 room_1 D K 2037 _ _ G1 (n1 + 1, n2 + 6))
    rcases hk with ⟨hk, hok⟩ | ⟨hk, herr, hs9, hx1, hx2⟩
    · subst hk
      obtain ⟨hval, hx1, hx2, hs9, hk0⟩ := hok
      refine v_istore (pc := 2037) dL_law_2037 rfl (by decide) ?_
      refine v_aload_n (pc := 2039) dL_law_2039 rfl rfl ?_
      refine v_aload_n (pc := 2040) dL_law_2040 rfl rfl ?_
      refine v_iload (pc := 2041) dL_law_2041 rfl ?_
      refine v_iconst (pc := 2043) (v := 1) dL_law_2043 (by decide) ?_
      refine v_iadd (pc := 2044) dL_law_2044 ?_
      refine v_sld (pc := 2045) (j := 5 * q + 1) hS dL_law_2045 (by rw [show (1 : Int32) = nI 1 from rfl, nI_add]) (by omega) hL ?_
      refine v_aload_n (pc := 2046) dL_law_2046 rfl rfl ?_
      refine v_iload (pc := 2047) dL_law_2047 rfl ?_
      refine v_iconst (pc := 2049) (v := 2) dL_law_2049 (by decide) ?_
      refine v_iadd (pc := 2050) dL_law_2050 ?_
      refine v_sld (pc := 2051) (j := 5 * q + 2) hS dL_law_2051 (by rw [show (2 : Int32) = nI 2 from rfl, nI_add]) (by omega) hL ?_
      refine v_if_eq (pc := 2052) (tgt := 2059) dL_law_2052 (by decide) (fun c2052 => ?_) (fun c2052 => absurd c2052 (not_not_intro hzq))
      refine v_iconst (pc := 2059) (v := 0) dL_law_2059 (by decide) ?_
      refine vm_callV2 (pc := 2060) (n1 + 1, n2 + 6) hG dL_law_2060 cw_L_220 im_yX9_find se_yX9_find (c_X9_find D m _ _ a c _ _ hz9 i1.1 i1.2.1 i5.1 i5.2.1) rfl (Nat.le_of_ble_eq_true rfl) ⟨Nat.le_of_ble_eq_true rfl, Nat.le_of_ble_eq_true rfl⟩ ⟨by show n1 + 1 + 0 ≤ 601024; omega, by show n2 + 6 + 0 ≤ 7293034; omega⟩ rfl (fun v s1 G hp hG => ?_)
      obtain ⟨hv1, hs1⟩ := hp
      first | rw [if_pos hk0] at hv1 hs1 | (rw [if_pos hk0] at hv1; rw [hk0] at hs1)
      subst hv1
      have t38 : s1.1 38 0 = 0 := by
        rw [hs1, gFind_thr]; rfl
      refine v_istore (pc := 2063) dL_law_2063 rfl (by decide) ?_
      refine v_aload_n (pc := 2065) dL_law_2065 rfl rfl ?_
      refine vm_callV0 (pc := 2066) (n1 + 1, n2 + 6) hG dL_law_2066 cw_L_124 im_yX9_thrown se_yX9_thrown (c_X9_thrown D m _ _ ) rfl (Nat.le_of_ble_eq_true rfl) ⟨Nat.le_of_ble_eq_true rfl, Nat.le_of_ble_eq_true rfl⟩ ⟨by show n1 + 1 + 0 ≤ 601024; omega, by show n2 + 6 + 0 ≤ 7293034; omega⟩ rfl (fun v s1 G hp hG => ?_)
      have hG9 := hG
      obtain ⟨hv1, hs2⟩ := hp
      subst hv1
      subst hs2
      rw [t38]
      obtain ⟨⟨hTo, hNo, hJo⟩, hTd, hNd, hEd⟩ := hM1.at hG9
      have hAG : AG s9 s1 := by
        rw [hs1, hs9, gFind_thr]; exact AG_thr _ 0
      have hIN : INV X1 s9 (q + 1) := by
        rw [hs9]; exact inv_find hI0 i1.1 i1.2.1 i5.1 i5.2.1 hk0 hx1 hx2
      have hfin := hM1.fin hG9 hAG hIN
      refine v_iload (pc := 2069) dL_law_2069 rfl ?_
      refine v_icmp_eq (pc := 2071) (tgt := 2076) dL_law_2071 (by decide) (fun c2071 => ?_) (fun c2071 => absurd c2071 (not_not_intro rfl))
      refine v_iload (pc := 2076) dL_law_2076 rfl ?_
      refine v_if_ne (pc := 2078) (tgt := 2093) dL_law_2078 (by decide) (fun c2078 => absurd c2078 (by decide)) (fun c2078 => ?_)
      obtain ⟨T, N, I, J, E, Rf⟩ := G
      refine v_aload_n (pc := 2081) dL_law_2081 rfl rfl ?_
      refine v_iconst (pc := 2082) (v := 0) dL_law_2082 (by decide) ?_
      refine v_lald (pc := 2083) (j := 0) dL_law_2083 hTo hNo rfl (by decide) (by decide) ?_
      refine v_iload (pc := 2084) dL_law_2084 rfl ?_
      refine v_i2l (pc := 2086) dL_law_2086 ?_
      refine v_lcmp (pc := 2087) dL_law_2087 ?_
      refine v_if_eq (pc := 2088) (tgt := 2093) dL_law_2088 (by decide) (fun c2088 => ?_) (fun c2088 => absurd c2088 (not_not_intro (cmp_eq0.mpr ((congrFun hJo 0).trans (hval.trans (by rw [gFind_thr]))))))
      refine v_goto (pc := 2093) (tgt := 2232) dL_law_2093 (by decide) ?_
      refine v_forget 6 ?_
      refine v_forget 7 ?_
      refine v_forget 8 ?_
      exact kk _ _ _ _ hfin ⟨by show n1 + 1 ≤ 60 + 2 * (q + 1); omega, by show n2 + 6 ≤ 2000 + 20 * (q + 1); omega⟩
    · refine v_istore (pc := 2037) dL_law_2037 rfl (by decide) ?_
      refine v_aload_n (pc := 2039) dL_law_2039 rfl rfl ?_
      refine v_aload_n (pc := 2040) dL_law_2040 rfl rfl ?_
      refine v_iload (pc := 2041) dL_law_2041 rfl ?_
      refine v_iconst (pc := 2043) (v := 1) dL_law_2043 (by decide) ?_
      refine v_iadd (pc := 2044) dL_law_2044 ?_
      refine v_sld (pc := 2045) (j := 5 * q + 1) hS dL_law_2045 (by rw [show (1 : Int32) = nI 1 from rfl, nI_add]) (by omega) hL ?_
      refine v_aload_n (pc := 2046) dL_law_2046 rfl rfl ?_
      refine v_iload (pc := 2047) dL_law_2047 rfl ?_
      refine v_iconst (pc := 2049) (v := 2) dL_law_2049 (by decide) ?_
      refine v_iadd (pc := 2050) dL_law_2050 ?_
      refine v_sld (pc := 2051) (j := 5 * q + 2) hS dL_law_2051 (by rw [show (2 : Int32) = nI 2 from rfl, nI_add]) (by omega) hL ?_
      refine v_if_eq (pc := 2052) (tgt := 2059) dL_law_2052 (by decide) (fun c2052 => ?_) (fun c2052 => absurd c2052 (not_not_intro hzq))
      refine v_iconst (pc := 2059) (v := 0) dL_law_2059 (by decide) ?_
      refine vm_callV2 (pc := 2060) (n1 + 1, n2 + 6) hG dL_law_2060 cw_L_220 im_yX9_find se_yX9_find (c_X9_find D m _ _ a c _ _ hz9 i1.1 i1.2.1 i5.1 i5.2.1) rfl (Nat.le_of_ble_eq_true rfl) ⟨Nat.le_of_ble_eq_true rfl, Nat.le_of_ble_eq_true rfl⟩ ⟨by show n1 + 1 + 0 ≤ 601024; omega, by show n2 + 6 + 0 ≤ 7293034; omega⟩ rfl (fun v s1 G hp hG => ?_)
      obtain ⟨hv1, hs1⟩ := hp
      first | rw [if_neg (by rw [herr]; exact hk)] at hv1 hs1 | rw [if_neg (by rw [herr]; exact hk)] at hv1
      rw [herr] at hs1
      subst hv1
      have t38 : s1.1 38 0 = k := by
        rw [hs1]; exact sI_s _ _ _ _
      refine v_istore (pc := 2063) dL_law_2063 rfl (by decide) ?_
      refine v_aload_n (pc := 2065) dL_law_2065 rfl rfl ?_
      refine vm_callV0 (pc := 2066) (n1 + 1, n2 + 6) hG dL_law_2066 cw_L_124 im_yX9_thrown se_yX9_thrown (c_X9_thrown D m _ _ ) rfl (Nat.le_of_ble_eq_true rfl) ⟨Nat.le_of_ble_eq_true rfl, Nat.le_of_ble_eq_true rfl⟩ ⟨by show n1 + 1 + 0 ≤ 601024; omega, by show n2 + 6 + 0 ≤ 7293034; omega⟩ rfl (fun v s1 G hp hG => ?_)
      have hG9 := hG
      obtain ⟨hv1, hs2⟩ := hp
      subst hv1
      subst hs2
      rw [t38]
      have hAG : AG s9 s1 := by
        rw [hs1, hs9]; exact AG_thr s k
      have hIN : INV X1 s9 (q + 1) := by
        rw [hs9]; exact INV.q1 (Nat.le_succ q) hI0 (fun _ _ _ _ _ _ _ _ => rfl) rfl hx1 hx2
      have hfin := hM1.fin hG9 hAG hIN
      refine v_iload (pc := 2069) dL_law_2069 rfl ?_
      refine v_icmp_eq (pc := 2071) (tgt := 2076) dL_law_2071 (by decide) (fun c2071 => ?_) (fun c2071 => absurd c2071 (not_not_intro rfl))
      refine v_iload (pc := 2076) dL_law_2076 rfl ?_
      refine v_if_ne (pc := 2078) (tgt := 2093) dL_law_2078 (by decide) (fun c2078 => ?_) (fun c2078 => absurd c2078 hk)
      refine v_goto (pc := 2093) (tgt := 2232) dL_law_2093 (by decide) ?_
      refine v_forget 6 ?_
      refine v_forget 7 ?_
      refine v_forget 8 ?_
      exact kk _ _ _ _ hfin ⟨by show n1 + 1 ≤ 60 + 2 * (q + 1); omega, by show n2 + 6 ≤ 2000 + 20 * (q + 1); omega⟩
  · have hz9 : (1 : Int32) = 0 ∨ (1 : Int32) = 1 := Or.inr rfl
    refine v_aload_n (pc := 2012) dL_law_2012 rfl rfl ?_
    refine v_aload_n (pc := 2013) dL_law_2013 rfl rfl ?_
    refine v_iload (pc := 2014) dL_law_2014 rfl ?_
    refine v_iconst (pc := 2016) (v := 1) dL_law_2016 (by decide) ?_
    refine v_iadd (pc := 2017) dL_law_2017 ?_
    refine v_sld (pc := 2018) (j := 5 * q + 1) hS dL_law_2018 (by rw [show (1 : Int32) = nI 1 from rfl, nI_add]) (by omega) hL ?_
    refine v_aload_n (pc := 2019) dL_law_2019 rfl rfl ?_
    refine v_iload (pc := 2020) dL_law_2020 rfl ?_
    refine v_iconst (pc := 2022) (v := 2) dL_law_2022 (by decide) ?_
    refine v_iadd (pc := 2023) dL_law_2023 ?_
    refine v_sld (pc := 2024) (j := 5 * q + 2) hS dL_law_2024 (by rw [show (2 : Int32) = nI 2 from rfl, nI_add]) (by omega) hL ?_
    refine v_if_eq (pc := 2025) (tgt := 2032) dL_law_2025 (by decide) (fun c2025 => absurd c2025 hzq) (fun c2025 => ?_)
    refine v_iconst (pc := 2028) (v := 1) dL_law_2028 (by decide) ?_
    refine v_goto (pc := 2029) (tgt := 2033) dL_law_2029 (by decide) ?_
    refine v_aload_n (pc := 2033) dL_law_2033 rfl rfl ?_
    refine v_callL (pc := 2034) (As := [.ref (X.1 0 0), .int _, .int _, .ref o]) (rest := []) hNC dL_law_2034 ll_find.1 ll_find.2.1 wl_find ll_find.2.2.2 ll_find.2.2.1 (c_L_find D G (X.1, X.2.1, X.2.2.1, RESTP m ad o oD, G) s (RESTP m ad o oD) o a c _ _ hM.re rfl (Or.inr (Or.inr (Or.inl rfl))) hM.2.2.1 hz9 i5.2.2.2.2.2 i1.1 i1.2.1 i1.2.2.1 i5.2.1 i5.2.2.1) rfl rfl (Nat.le_of_ble_eq_true rfl) ⟨Nat.le_of_ble_eq_true rfl, Nat.le_of_ble_eq_true rfl⟩ ⟨by show n1 + 1 ≤ 601024; omega, by show n2 + 6 ≤ 7293034; omega⟩ (fun v G1 hp => ?_)
    obtain ⟨X1, s9, hL1, hA1, h01, hF1, hT1, k, hv, hk⟩ := hp
    subst hv
    have hM1 := hM.mid (Or.inl ⟨rfl, rfl⟩) hL1 hA1 (h01 0 (by decide)) hF1 hT1
    have hG := hM1.md
    refine (?_ : V cL_law RL 9 room_1 D K 2037 _ _ G1 (n1 + 1, n2 + 6))
    rcases hk with ⟨hk, hok⟩ | ⟨hk, herr, hs9, hx1, hx2⟩
    · subst hk
      obtain ⟨hval, hx1, hx2, hs9, hk0⟩ := hok
      refine v_istore (pc := 2037) dL_law_2037 rfl (by decide) ?_
      refine v_aload_n (pc := 2039) dL_law_2039 rfl rfl ?_
      refine v_aload_n (pc := 2040) dL_law_2040 rfl rfl ?_
      refine v_iload (pc := 2041) dL_law_2041 rfl ?_
      refine v_iconst (pc := 2043) (v := 1) dL_law_2043 (by decide) ?_
      refine v_iadd (pc := 2044) dL_law_2044 ?_
      refine v_sld (pc := 2045) (j := 5 * q + 1) hS dL_law_2045 (by rw [show (1 : Int32) = nI 1 from rfl, nI_add]) (by omega) hL ?_
      refine v_aload_n (pc := 2046) dL_law_2046 rfl rfl ?_
      refine v_iload (pc := 2047) dL_law_2047 rfl ?_
      refine v_iconst (pc := 2049) (v := 2) dL_law_2049 (by decide) ?_
      refine v_iadd (pc := 2050) dL_law_2050 ?_
      refine v_sld (pc := 2051) (j := 5 * q + 2) hS dL_law_2051 (by rw [show (2 : Int32) = nI 2 from rfl, nI_add]) (by omega) hL ?_
      refine v_if_eq (pc := 2052) (tgt := 2059) dL_law_2052 (by decide) (fun c2052 => absurd c2052 hzq) (fun c2052 => ?_)
      refine v_iconst (pc := 2055) (v := 1) dL_law_2055 (by decide) ?_
      refine v_goto (pc := 2056) (tgt := 2060) dL_law_2056 (by decide) ?_
      refine vm_callV2 (pc := 2060) (n1 + 1, n2 + 6) hG dL_law_2060 cw_L_220 im_yX9_find se_yX9_find (c_X9_find D m _ _ a c _ _ hz9 i1.1 i1.2.1 i5.1 i5.2.1) rfl (Nat.le_of_ble_eq_true rfl) ⟨Nat.le_of_ble_eq_true rfl, Nat.le_of_ble_eq_true rfl⟩ ⟨by show n1 + 1 + 0 ≤ 601024; omega, by show n2 + 6 + 0 ≤ 7293034; omega⟩ rfl (fun v s1 G hp hG => ?_)
      obtain ⟨hv1, hs1⟩ := hp
      first | rw [if_pos hk0] at hv1 hs1 | (rw [if_pos hk0] at hv1; rw [hk0] at hs1)
      subst hv1
      have t38 : s1.1 38 0 = 0 := by
        rw [hs1, gFind_thr]; rfl
      refine v_istore (pc := 2063) dL_law_2063 rfl (by decide) ?_
      refine v_aload_n (pc := 2065) dL_law_2065 rfl rfl ?_
      refine vm_callV0 (pc := 2066) (n1 + 1, n2 + 6) hG dL_law_2066 cw_L_124 im_yX9_thrown se_yX9_thrown (c_X9_thrown D m _ _ ) rfl (Nat.le_of_ble_eq_true rfl) ⟨Nat.le_of_ble_eq_true rfl, Nat.le_of_ble_eq_true rfl⟩ ⟨by show n1 + 1 + 0 ≤ 601024; omega, by show n2 + 6 + 0 ≤ 7293034; omega⟩ rfl (fun v s1 G hp hG => ?_)
      have hG9 := hG
      obtain ⟨hv1, hs2⟩ := hp
      subst hv1
      subst hs2
      rw [t38]
      obtain ⟨⟨hTo, hNo, hJo⟩, hTd, hNd, hEd⟩ := hM1.at hG9
      have hAG : AG s9 s1 := by
        rw [hs1, hs9, gFind_thr]; exact AG_thr _ 0
      have hIN : INV X1 s9 (q + 1) := by
        rw [hs9]; exact inv_find hI0 i1.1 i1.2.1 i5.1 i5.2.1 hk0 hx1 hx2
      have hfin := hM1.fin hG9 hAG hIN
      refine v_iload (pc := 2069) dL_law_2069 rfl ?_
      refine v_icmp_eq (pc := 2071) (tgt := 2076) dL_law_2071 (by decide) (fun c2071 => ?_) (fun c2071 => absurd c2071 (not_not_intro rfl))
      refine v_iload (pc := 2076) dL_law_2076 rfl ?_
      refine v_if_ne (pc := 2078) (tgt := 2093) dL_law_2078 (by decide) (fun c2078 => absurd c2078 (by decide)) (fun c2078 => ?_)
      obtain ⟨T, N, I, J, E, Rf⟩ := G
      refine v_aload_n (pc := 2081) dL_law_2081 rfl rfl ?_
      refine v_iconst (pc := 2082) (v := 0) dL_law_2082 (by decide) ?_
      refine v_lald (pc := 2083) (j := 0) dL_law_2083 hTo hNo rfl (by decide) (by decide) ?_
      refine v_iload (pc := 2084) dL_law_2084 rfl ?_
      refine v_i2l (pc := 2086) dL_law_2086 ?_
      refine v_lcmp (pc := 2087) dL_law_2087 ?_
      refine v_if_eq (pc := 2088) (tgt := 2093) dL_law_2088 (by decide) (fun c2088 => ?_) (fun c2088 => absurd c2088 (not_not_intro (cmp_eq0.mpr ((congrFun hJo 0).trans (hval.trans (by rw [gFind_thr]))))))
      refine v_goto (pc := 2093) (tgt := 2232) dL_law_2093 (by decide) ?_
      refine v_forget 6 ?_
      refine v_forget 7 ?_
      refine v_forget 8 ?_
      exact kk _ _ _ _ hfin ⟨by show n1 + 1 ≤ 60 + 2 * (q + 1); omega, by show n2 + 6 ≤ 2000 + 20 * (q + 1); omega⟩
    · refine v_istore (pc := 2037) dL_law_2037 rfl (by decide) ?_
      refine v_aload_n (pc := 2039) dL_law_2039 rfl rfl ?_
      refine v_aload_n (pc := 2040) dL_law_2040 rfl rfl ?_
      refine v_iload (pc := 2041) dL_law_2041 rfl ?_
      refine v_iconst (pc := 2043) (v := 1) dL_law_2043 (by decide) ?_
      refine v_iadd (pc := 2044) dL_law_2044 ?_
      refine v_sld (pc := 2045) (j := 5 * q + 1) hS dL_law_2045 (by rw [show (1 : Int32) = nI 1 from rfl, nI_add]) (by omega) hL ?_
      refine v_aload_n (pc := 2046) dL_law_2046 rfl rfl ?_
      refine v_iload (pc := 2047) dL_law_2047 rfl ?_
      refine v_iconst (pc := 2049) (v := 2) dL_law_2049 (by decide) ?_
      refine v_iadd (pc := 2050) dL_law_2050 ?_
      refine v_sld (pc := 2051) (j := 5 * q + 2) hS dL_law_2051 (by rw [show (2 : Int32) = nI 2 from rfl, nI_add]) (by omega) hL ?_
      refine v_if_eq (pc := 2052) (tgt := 2059) dL_law_2052 (by decide) (fun c2052 => absurd c2052 hzq) (fun c2052 => ?_)
      refine v_iconst (pc := 2055) (v := 1) dL_law_2055 (by decide) ?_
      refine v_goto (pc := 2056) (tgt := 2060) dL_law_2056 (by decide) ?_
      refine vm_callV2 (pc := 2060) (n1 + 1, n2 + 6) hG dL_law_2060 cw_L_220 im_yX9_find se_yX9_find (c_X9_find D m _ _ a c _ _ hz9 i1.1 i1.2.1 i5.1 i5.2.1) rfl (Nat.le_of_ble_eq_true rfl) ⟨Nat.le_of_ble_eq_true rfl, Nat.le_of_ble_eq_true rfl⟩ ⟨by show n1 + 1 + 0 ≤ 601024; omega, by show n2 + 6 + 0 ≤ 7293034; omega⟩ rfl (fun v s1 G hp hG => ?_)
      obtain ⟨hv1, hs1⟩ := hp
      first | rw [if_neg (by rw [herr]; exact hk)] at hv1 hs1 | rw [if_neg (by rw [herr]; exact hk)] at hv1
      rw [herr] at hs1
      subst hv1
      have t38 : s1.1 38 0 = k := by
        rw [hs1]; exact sI_s _ _ _ _
      refine v_istore (pc := 2063) dL_law_2063 rfl (by decide) ?_
      refine v_aload_n (pc := 2065) dL_law_2065 rfl rfl ?_
      refine vm_callV0 (pc := 2066) (n1 + 1, n2 + 6) hG dL_law_2066 cw_L_124 im_yX9_thrown se_yX9_thrown (c_X9_thrown D m _ _ ) rfl (Nat.le_of_ble_eq_true rfl) ⟨Nat.le_of_ble_eq_true rfl, Nat.le_of_ble_eq_true rfl⟩ ⟨by show n1 + 1 + 0 ≤ 601024; omega, by show n2 + 6 + 0 ≤ 7293034; omega⟩ rfl (fun v s1 G hp hG => ?_)
      have hG9 := hG
      obtain ⟨hv1, hs2⟩ := hp
      subst hv1
      subst hs2
      rw [t38]
      have hAG : AG s9 s1 := by
        rw [hs1, hs9]; exact AG_thr s k
      have hIN : INV X1 s9 (q + 1) := by
        rw [hs9]; exact INV.q1 (Nat.le_succ q) hI0 (fun _ _ _ _ _ _ _ _ => rfl) rfl hx1 hx2
      have hfin := hM1.fin hG9 hAG hIN
      refine v_iload (pc := 2069) dL_law_2069 rfl ?_
      refine v_icmp_eq (pc := 2071) (tgt := 2076) dL_law_2071 (by decide) (fun c2071 => ?_) (fun c2071 => absurd c2071 (not_not_intro rfl))
      refine v_iload (pc := 2076) dL_law_2076 rfl ?_
      refine v_if_ne (pc := 2078) (tgt := 2093) dL_law_2078 (by decide) (fun c2078 => ?_) (fun c2078 => absurd c2078 hk)
      refine v_goto (pc := 2093) (tgt := 2232) dL_law_2093 (by decide) ?_
      refine v_forget 6 ?_
      refine v_forget 7 ?_
      refine v_forget 8 ?_
      exact kk _ _ _ _ hfin ⟨by show n1 + 1 ≤ 60 + 2 * (q + 1); omega, by show n2 + 6 ≤ 2000 + 20 * (q + 1); omega⟩
theorem ll_ofCanopy : Cond.methodLink "BroadseamLoftLaw" 221 yL_ofCanopy ∈ lw_all ∧ Cond.initialized yL_ofCanopy.cls ∈ lw_all ∧ Cond.static yL_ofCanopy ∈ lw_all ∧ (yL_ofCanopy.cls ≠ "java/lang/invoke/MethodHandle" ∧ yL_ofCanopy.cls ≠ "java/lang/invoke/VarHandle" ∧ (parseMethodDescriptor yL_ofCanopy.desc).map (fun d => d.parameters.length) = some 4) := ⟨(lw_mem 791 (by decide +kernel) rfl), (lw_mem 32 (by decide +kernel) rfl), (lw_mem 792 (by decide +kernel) rfl), by decide +kernel, by decide +kernel, by decide +kernel⟩
set_option maxRecDepth 100000 in
set_option maxHeartbeats 1000000 in
theorem k_ofCanopy {D : DT} {K : KT} {b L : Nat} {xs : Nat → Int32} (hS : SC K b L xs) (hNC : NC3 K.2.2.2.1) (hL : L ≤ 2560) {m o oD x0 : Nat} {ad : Nat → Nat} (q : Nat) (hq : 5 * q + 5 ≤ L) {X : XT} {s : SG} {G : GT} {n : Nat × Nat} (hW : HW X s m ad o oD x0 q G) (hn : n.1 ≤ 60 + 2 * q ∧ n.2 ≤ 2000 + 20 * q) (kk : ∀ (X' : XT) (s' : SG) (G' : GT) (n' : Nat × Nat), HW X' s' m ad o oD x0 (q + 1) G' → (n'.1 ≤ 60 + 2 * (q + 1) ∧ n'.2 ≤ 2000 + 20 * (q + 1)) → V cL_law RL 9 room_1 D K 2232 [some (.ref b), some (.ref x0), some (.ref m), some (.ref o), some (.ref oD), some (.int (nI (5 * q))), none, none, none] [] G' n') : V cL_law RL 9 room_1 D K 2096 [some (.ref b), some (.ref x0), some (.ref m), some (.ref o), some (.ref oD), some (.int (nI (5 * q))), none, none, none] [] G n := by
  obtain ⟨hM, hI⟩ := hW
  have hI0 := hI
  obtain ⟨a, b1, c, g, ns, nl, i1, i2, i3, i4, i5, i6, i7, i8, i9⟩ := hI
  have hx0 : X.1 0 0 = x0 := hM.2.2.2.2.2.2
  subst hx0
  obtain ⟨n1, n2⟩ := n
  have hn1 : n1 ≤ 60 + 2 * q := hn.1
  have hn2 : n2 ≤ 2000 + 20 * q := hn.2
  have hn511 : nl < 512 := by have := i6.2.1; omega
  have hn512 : nl ≤ 512 := by omega
  refine v_aload_n (pc := 2096) dL_law_2096 rfl rfl ?_
  refine v_aload_n (pc := 2097) dL_law_2097 rfl rfl ?_
  refine v_iload (pc := 2098) dL_law_2098 rfl ?_
  refine v_iconst (pc := 2100) (v := 1) dL_law_2100 (by decide) ?_
  refine v_iadd (pc := 2101) dL_law_2101 ?_
  refine v_sld (pc := 2102) (j := 5 * q + 1) hS dL_law_2102 (by rw [show (1 : Int32) = nI 1 from rfl, nI_add]) (by omega) hL ?_
  refine v_aload_n (pc := 2103) dL_law_2103 rfl rfl ?_
  refine v_iload (pc := 2104) dL_law_2104 rfl ?_
  refine v_iconst (pc := 2106) (v := 2) dL_law_2106 (by decide) ?_
  refine v_iadd (pc := 2107) dL_law_2107 ?_
  refine v_sld (pc := 2108) (j := 5 * q + 2) hS dL_law_2108 (by rw [show (2 : Int32) = nI 2 from rfl, nI_add]) (by omega) hL ?_
  refine v_aload_n (pc := 2109) dL_law_2109 rfl rfl ?_
  refine v_callL (pc := 2110) (As := [.ref (X.1 0 0), .int _, .int _, .ref o]) (rest := []) hNC dL_law_2110 ll_ofCanopy.1 ll_ofCanopy.2.1 wl_ofCanopy ll_ofCanopy.2.2.2 ll_ofCanopy.2.2.1 (c_L_ofCanopy D G (X.1, X.2.1, X.2.2.1, RESTP m ad o oD, G) s (RESTP m ad o oD) o c _ _ hM.re rfl (Or.inr (Or.inr (Or.inl rfl))) hM.2.2.1 (i5.CV i1.2.1) i5.1 i5.2.1 i5.2.2.1) rfl rfl (Nat.le_of_ble_eq_true rfl) ⟨Nat.le_of_ble_eq_true rfl, Nat.le_of_ble_eq_true rfl⟩ ⟨by show n1 + 1 ≤ 601024; omega, by show n2 + 6 ≤ 7293034; omega⟩ (fun v G1 hp => ?_)
  obtain ⟨X1, s9, hL1, hA1, h01, hF1, hT1, k, hv, hk⟩ := hp
  subst hv
  have hM1 := hM.mid (Or.inl ⟨rfl, rfl⟩) hL1 hA1 (h01 0 (by decide)) hF1 hT1
  have hG := hM1.md
  refine (?_ : V cL_law RL 9 room_1 D K 2113 _ _ G1 (n1 + 1, n2 + 6))
  rcases hk with ⟨hk, hok⟩ | ⟨hk, herr, hs9, hx1, hx2⟩
  · subst hk
    obtain ⟨hval, hx1, hx2, hs9, hk0⟩ := hok
    refine v_istore (pc := 2113) dL_law_2113 rfl (by decide) ?_
    refine v_aload_n (pc := 2115) dL_law_2115 rfl rfl ?_
    refine v_aload_n (pc := 2116) dL_law_2116 rfl rfl ?_
    refine v_iload (pc := 2117) dL_law_2117 rfl ?_
    refine v_iconst (pc := 2119) (v := 1) dL_law_2119 (by decide) ?_
    refine v_iadd (pc := 2120) dL_law_2120 ?_
    refine v_sld (pc := 2121) (j := 5 * q + 1) hS dL_law_2121 (by rw [show (1 : Int32) = nI 1 from rfl, nI_add]) (by omega) hL ?_
    refine v_aload_n (pc := 2122) dL_law_2122 rfl rfl ?_
    refine v_iload (pc := 2123) dL_law_2123 rfl ?_
    refine v_iconst (pc := 2125) (v := 2) dL_law_2125 (by decide) ?_
    refine v_iadd (pc := 2126) dL_law_2126 ?_
    refine v_sld (pc := 2127) (j := 5 * q + 2) hS dL_law_2127 (by rw [show (2 : Int32) = nI 2 from rfl, nI_add]) (by omega) hL ?_
    refine vm_callV2 (pc := 2128) (n1 + 1, n2 + 6) hG dL_law_2128 cw_L_223 im_yX9_ofCanopy se_yX9_ofCanopy (c_X9_ofCanopy D m _ _ c _ _ i5.1 i5.2.1) rfl (Nat.le_of_ble_eq_true rfl) ⟨Nat.le_of_ble_eq_true rfl, Nat.le_of_ble_eq_true rfl⟩ ⟨by show n1 + 1 + 0 ≤ 601024; omega, by show n2 + 6 + 0 ≤ 7293034; omega⟩ rfl (fun v s1 G hp hG => ?_)
    obtain ⟨hv1, hs1⟩ := hp
    first | rw [if_pos hk0] at hv1 hs1 | (rw [if_pos hk0] at hv1; rw [hk0] at hs1)
    subst hv1
    have t38 : s1.1 38 0 = 0 := by
      rw [hs1]; simp [thr, sI, sJ, u2]
    refine v_istore (pc := 2131) dL_law_2131 rfl (by decide) ?_
    refine v_aload_n (pc := 2133) dL_law_2133 rfl rfl ?_
    refine vm_callV0 (pc := 2134) (n1 + 1, n2 + 6) hG dL_law_2134 cw_L_124 im_yX9_thrown se_yX9_thrown (c_X9_thrown D m _ _ ) rfl (Nat.le_of_ble_eq_true rfl) ⟨Nat.le_of_ble_eq_true rfl, Nat.le_of_ble_eq_true rfl⟩ ⟨by show n1 + 1 + 0 ≤ 601024; omega, by show n2 + 6 + 0 ≤ 7293034; omega⟩ rfl (fun v s1 G hp hG => ?_)
    have hG9 := hG
    obtain ⟨hv1, hs2⟩ := hp
    subst hv1
    subst hs2
    rw [t38]
    obtain ⟨⟨hTo, hNo, hJo⟩, hTd, hNd, hEd⟩ := hM1.at hG9
    have hAG : AG s9 s1 := by
      rw [hs1, hs9]; exact AG_thr s 0
    have hIN : INV X1 s9 (q + 1) := by
      rw [hs9]; exact INV.q1 (Nat.le_succ q) hI0 (fun _ _ _ _ _ _ _ _ => rfl) rfl hx1 hx2
    have hfin := hM1.fin hG9 hAG hIN
    refine v_iload (pc := 2137) dL_law_2137 rfl ?_
    refine v_icmp_eq (pc := 2139) (tgt := 2144) dL_law_2139 (by decide) (fun c2139 => ?_) (fun c2139 => absurd c2139 (not_not_intro rfl))
    refine v_iload (pc := 2144) dL_law_2144 rfl ?_
    refine v_if_ne (pc := 2146) (tgt := 2161) dL_law_2146 (by decide) (fun c2146 => absurd c2146 (by decide)) (fun c2146 => ?_)
    obtain ⟨T, N, I, J, E, Rf⟩ := G
    refine v_aload_n (pc := 2149) dL_law_2149 rfl rfl ?_
    refine v_iconst (pc := 2150) (v := 0) dL_law_2150 (by decide) ?_
    refine v_lald (pc := 2151) (j := 0) dL_law_2151 hTo hNo rfl (by decide) (by decide) ?_
    refine v_iload (pc := 2152) dL_law_2152 rfl ?_
    refine v_i2l (pc := 2154) dL_law_2154 ?_
    refine v_lcmp (pc := 2155) dL_law_2155 ?_
    refine v_if_eq (pc := 2156) (tgt := 2161) dL_law_2156 (by decide) (fun c2156 => ?_) (fun c2156 => absurd c2156 (not_not_intro (cmp_eq0.mpr ((congrFun hJo 0).trans (hval.trans rfl)))))
    refine v_goto (pc := 2161) (tgt := 2232) dL_law_2161 (by decide) ?_
    refine v_forget 6 ?_
    refine v_forget 7 ?_
    refine v_forget 8 ?_
    exact kk _ _ _ _ hfin ⟨by show n1 + 1 ≤ 60 + 2 * (q + 1); omega, by show n2 + 6 ≤ 2000 + 20 * (q + 1); omega⟩
  · refine v_istore (pc := 2113) dL_law_2113 rfl (by decide) ?_
    refine v_aload_n (pc := 2115) dL_law_2115 rfl rfl ?_
    refine v_aload_n (pc := 2116) dL_law_2116 rfl rfl ?_
    refine v_iload (pc := 2117) dL_law_2117 rfl ?_
    refine v_iconst (pc := 2119) (v := 1) dL_law_2119 (by decide) ?_
    refine v_iadd (pc := 2120) dL_law_2120 ?_
    refine v_sld (pc := 2121) (j := 5 * q + 1) hS dL_law_2121 (by rw [show (1 : Int32) = nI 1 from rfl, nI_add]) (by omega) hL ?_
    refine v_aload_n (pc := 2122) dL_law_2122 rfl rfl ?_
    refine v_iload (pc := 2123) dL_law_2123 rfl ?_
    refine v_iconst (pc := 2125) (v := 2) dL_law_2125 (by decide) ?_
    refine v_iadd (pc := 2126) dL_law_2126 ?_
    refine v_sld (pc := 2127) (j := 5 * q + 2) hS dL_law_2127 (by rw [show (2 : Int32) = nI 2 from rfl, nI_add]) (by omega) hL ?_
    refine vm_callV2 (pc := 2128) (n1 + 1, n2 + 6) hG dL_law_2128 cw_L_223 im_yX9_ofCanopy se_yX9_ofCanopy (c_X9_ofCanopy D m _ _ c _ _ i5.1 i5.2.1) rfl (Nat.le_of_ble_eq_true rfl) ⟨Nat.le_of_ble_eq_true rfl, Nat.le_of_ble_eq_true rfl⟩ ⟨by show n1 + 1 + 0 ≤ 601024; omega, by show n2 + 6 + 0 ≤ 7293034; omega⟩ rfl (fun v s1 G hp hG => ?_)
    obtain ⟨hv1, hs1⟩ := hp
    first | rw [if_neg (by rw [herr]; exact hk)] at hv1 hs1 | rw [if_neg (by rw [herr]; exact hk)] at hv1
    rw [herr] at hs1
    subst hv1
    have t38 : s1.1 38 0 = k := by
      rw [hs1]; exact sI_s _ _ _ _
    refine v_istore (pc := 2131) dL_law_2131 rfl (by decide) ?_
    refine v_aload_n (pc := 2133) dL_law_2133 rfl rfl ?_
    refine vm_callV0 (pc := 2134) (n1 + 1, n2 + 6) hG dL_law_2134 cw_L_124 im_yX9_thrown se_yX9_thrown (c_X9_thrown D m _ _ ) rfl (Nat.le_of_ble_eq_true rfl) ⟨Nat.le_of_ble_eq_true rfl, Nat.le_of_ble_eq_true rfl⟩ ⟨by show n1 + 1 + 0 ≤ 601024; omega, by show n2 + 6 + 0 ≤ 7293034; omega⟩ rfl (fun v s1 G hp hG => ?_)
    have hG9 := hG
    obtain ⟨hv1, hs2⟩ := hp
    subst hv1
    subst hs2
    rw [t38]
    have hAG : AG s9 s1 := by
      rw [hs1, hs9]; exact AG_thr s k
    have hIN : INV X1 s9 (q + 1) := by
      rw [hs9]; exact INV.q1 (Nat.le_succ q) hI0 (fun _ _ _ _ _ _ _ _ => rfl) rfl hx1 hx2
    have hfin := hM1.fin hG9 hAG hIN
    refine v_iload (pc := 2137) dL_law_2137 rfl ?_
    refine v_icmp_eq (pc := 2139) (tgt := 2144) dL_law_2139 (by decide) (fun c2139 => ?_) (fun c2139 => absurd c2139 (not_not_intro rfl))
    refine v_iload (pc := 2144) dL_law_2144 rfl ?_
    refine v_if_ne (pc := 2146) (tgt := 2161) dL_law_2146 (by decide) (fun c2146 => ?_) (fun c2146 => absurd c2146 hk)
    refine v_goto (pc := 2161) (tgt := 2232) dL_law_2161 (by decide) ?_
    refine v_forget 6 ?_
    refine v_forget 7 ?_
    refine v_forget 8 ?_
    exact kk _ _ _ _ hfin ⟨by show n1 + 1 ≤ 60 + 2 * (q + 1); omega, by show n2 + 6 ≤ 2000 + 20 * (q + 1); omega⟩
theorem ll_lifeAnew : Cond.methodLink "BroadseamLoftLaw" 224 yL_lifeAnew ∈ lw_all ∧ Cond.initialized yL_lifeAnew.cls ∈ lw_all ∧ Cond.static yL_lifeAnew ∈ lw_all ∧ (yL_lifeAnew.cls ≠ "java/lang/invoke/MethodHandle" ∧ yL_lifeAnew.cls ≠ "java/lang/invoke/VarHandle" ∧ (parseMethodDescriptor yL_lifeAnew.desc).map (fun d => d.parameters.length) = some 4) := ⟨(lw_mem 804 (by decide +kernel) rfl), (lw_mem 32 (by decide +kernel) rfl), (lw_mem 805 (by decide +kernel) rfl), by decide +kernel, by decide +kernel, by decide +kernel⟩
set_option maxRecDepth 100000 in
set_option maxHeartbeats 1000000 in
theorem k_lifeAnew {D : DT} {K : KT} {b L : Nat} {xs : Nat → Int32} (hS : SC K b L xs) (hNC : NC3 K.2.2.2.1) (hL : L ≤ 2560) {m o oD x0 : Nat} {ad : Nat → Nat} (q : Nat) (hq : 5 * q + 5 ≤ L) {X : XT} {s : SG} {G : GT} {n : Nat × Nat} (hW : HW X s m ad o oD x0 q G) (hn : n.1 ≤ 60 + 2 * q ∧ n.2 ≤ 2000 + 20 * q) (kk : ∀ (X' : XT) (s' : SG) (G' : GT) (n' : Nat × Nat), HW X' s' m ad o oD x0 (q + 1) G' → (n'.1 ≤ 60 + 2 * (q + 1) ∧ n'.2 ≤ 2000 + 20 * (q + 1)) → V cL_law RL 9 room_1 D K 2232 [some (.ref b), some (.ref x0), some (.ref m), some (.ref o), some (.ref oD), some (.int (nI (5 * q))), none, none, none] [] G' n') : V cL_law RL 9 room_1 D K 2164 [some (.ref b), some (.ref x0), some (.ref m), some (.ref o), some (.ref oD), some (.int (nI (5 * q))), none, none, none] [] G n := by
  obtain ⟨hM, hI⟩ := hW
  have hI0 := hI
  obtain ⟨a, b1, c, g, ns, nl, i1, i2, i3, i4, i5, i6, i7, i8, i9⟩ := hI
  have hx0 : X.1 0 0 = x0 := hM.2.2.2.2.2.2
  subst hx0
  obtain ⟨n1, n2⟩ := n
  have hn1 : n1 ≤ 60 + 2 * q := hn.1
  have hn2 : n2 ≤ 2000 + 20 * q := hn.2
  have hn511 : nl < 512 := by have := i6.2.1; omega
  have hn512 : nl ≤ 512 := by omega
  refine v_aload_n (pc := 2164) dL_law_2164 rfl rfl ?_
  refine v_aload_n (pc := 2165) dL_law_2165 rfl rfl ?_
  refine v_iload (pc := 2166) dL_law_2166 rfl ?_
  refine v_iconst (pc := 2168) (v := 1) dL_law_2168 (by decide) ?_
  refine v_iadd (pc := 2169) dL_law_2169 ?_
  refine v_sld (pc := 2170) (j := 5 * q + 1) hS dL_law_2170 (by rw [show (1 : Int32) = nI 1 from rfl, nI_add]) (by omega) hL ?_
  refine v_aload_n (pc := 2171) dL_law_2171 rfl rfl ?_
  refine v_iload (pc := 2172) dL_law_2172 rfl ?_
  refine v_iconst (pc := 2174) (v := 2) dL_law_2174 (by decide) ?_
  refine v_iadd (pc := 2175) dL_law_2175 ?_
  refine v_sld (pc := 2176) (j := 5 * q + 2) hS dL_law_2176 (by rw [show (2 : Int32) = nI 2 from rfl, nI_add]) (by omega) hL ?_
  refine v_aload_n (pc := 2177) dL_law_2177 rfl rfl ?_
  refine v_callL (pc := 2178) (As := [.ref (X.1 0 0), .int _, .int _, .ref o]) (rest := []) hNC dL_law_2178 ll_lifeAnew.1 ll_lifeAnew.2.1 wl_lifeAnew ll_lifeAnew.2.2.2 ll_lifeAnew.2.2.1 (c_L_lifeAnew D G (X.1, X.2.1, X.2.2.1, RESTP m ad o oD, G) s (RESTP m ad o oD) o c nl _ _ hM.re rfl (Or.inr (Or.inr (Or.inl rfl))) hM.2.2.1 (i5.CV i1.2.1) i6.LG i6.1 hn512 i5.1 i5.2.1 i5.2.2.1) rfl rfl (Nat.le_of_ble_eq_true rfl) ⟨Nat.le_of_ble_eq_true rfl, Nat.le_of_ble_eq_true rfl⟩ ⟨by show n1 + 1 ≤ 601024; omega, by show n2 + 6 ≤ 7293034; omega⟩ (fun v G1 hp => ?_)
  obtain ⟨X1, s9, hL1, hA1, h01, hF1, hT1, k, hv, hk⟩ := hp
  subst hv
  have hM1 := hM.mid (Or.inl ⟨rfl, rfl⟩) hL1 hA1 (h01 0 (by decide)) hF1 hT1
  have hG := hM1.md
  refine (?_ : V cL_law RL 9 room_1 D K 2181 _ _ G1 (n1 + 1, n2 + 6))
  rcases hk with ⟨hk, hok⟩ | ⟨hk, herr, hs9, hx1, hx2⟩
  · subst hk
    obtain ⟨hval, hx1, hx2, hs9, hk0⟩ := hok
    refine v_istore (pc := 2181) dL_law_2181 rfl (by decide) ?_
    refine v_aload_n (pc := 2183) dL_law_2183 rfl rfl ?_
    refine v_aload_n (pc := 2184) dL_law_2184 rfl rfl ?_
    refine v_iload (pc := 2185) dL_law_2185 rfl ?_
    refine v_iconst (pc := 2187) (v := 1) dL_law_2187 (by decide) ?_
    refine v_iadd (pc := 2188) dL_law_2188 ?_
    refine v_sld (pc := 2189) (j := 5 * q + 1) hS dL_law_2189 (by rw [show (1 : Int32) = nI 1 from rfl, nI_add]) (by omega) hL ?_
    refine v_aload_n (pc := 2190) dL_law_2190 rfl rfl ?_
    refine v_iload (pc := 2191) dL_law_2191 rfl ?_
    refine v_iconst (pc := 2193) (v := 2) dL_law_2193 (by decide) ?_
    refine v_iadd (pc := 2194) dL_law_2194 ?_
    refine v_sld (pc := 2195) (j := 5 * q + 2) hS dL_law_2195 (by rw [show (2 : Int32) = nI 2 from rfl, nI_add]) (by omega) hL ?_
    refine vm_callV2 (pc := 2196) (n1 + 1, n2 + 6) hG dL_law_2196 cw_L_226 im_yX9_lifeAnew se_yX9_lifeAnew (c_X9_lifeAnew D m _ _ c _ _ i5.1 i5.2.1) rfl (Nat.le_of_ble_eq_true rfl) ⟨Nat.le_of_ble_eq_true rfl, Nat.le_of_ble_eq_true rfl⟩ ⟨by show n1 + 1 + 0 ≤ 601024; omega, by show n2 + 6 + 0 ≤ 7293034; omega⟩ rfl (fun v s1 G hp hG => ?_)
    obtain ⟨hv1, hs1⟩ := hp
    first | rw [if_pos hk0] at hv1 hs1 | (rw [if_pos hk0] at hv1; rw [hk0] at hs1)
    subst hv1
    have t38 : s1.1 38 0 = 0 := by
      rw [hs1]; simp [thr, sI, sJ, u2]
    refine v_istore (pc := 2199) dL_law_2199 rfl (by decide) ?_
    refine v_aload_n (pc := 2201) dL_law_2201 rfl rfl ?_
    refine vm_callV0 (pc := 2202) (n1 + 1, n2 + 6) hG dL_law_2202 cw_L_124 im_yX9_thrown se_yX9_thrown (c_X9_thrown D m _ _ ) rfl (Nat.le_of_ble_eq_true rfl) ⟨Nat.le_of_ble_eq_true rfl, Nat.le_of_ble_eq_true rfl⟩ ⟨by show n1 + 1 + 0 ≤ 601024; omega, by show n2 + 6 + 0 ≤ 7293034; omega⟩ rfl (fun v s1 G hp hG => ?_)
    have hG9 := hG
    obtain ⟨hv1, hs2⟩ := hp
    subst hv1
    subst hs2
    rw [t38]
    obtain ⟨⟨hTo, hNo, hJo⟩, hTd, hNd, hEd⟩ := hM1.at hG9
    have hAG : AG s9 s1 := by
      rw [hs1, hs9]; exact AG_thr s 0
    have hIN : INV X1 s9 (q + 1) := by
      rw [hs9]; exact INV.q1 (Nat.le_succ q) hI0 (fun _ _ _ _ _ _ _ _ => rfl) rfl hx1 hx2
    have hfin := hM1.fin hG9 hAG hIN
    refine v_iload (pc := 2205) dL_law_2205 rfl ?_
    refine v_icmp_eq (pc := 2207) (tgt := 2212) dL_law_2207 (by decide) (fun c2207 => ?_) (fun c2207 => absurd c2207 (not_not_intro rfl))
    refine v_iload (pc := 2212) dL_law_2212 rfl ?_
    refine v_if_ne (pc := 2214) (tgt := 2229) dL_law_2214 (by decide) (fun c2214 => absurd c2214 (by decide)) (fun c2214 => ?_)
    obtain ⟨T, N, I, J, E, Rf⟩ := G
    refine v_aload_n (pc := 2217) dL_law_2217 rfl rfl ?_
    refine v_iconst (pc := 2218) (v := 0) dL_law_2218 (by decide) ?_
    refine v_lald (pc := 2219) (j := 0) dL_law_2219 hTo hNo rfl (by decide) (by decide) ?_
    refine v_iload (pc := 2220) dL_law_2220 rfl ?_
    refine v_i2l (pc := 2222) dL_law_2222 ?_
    refine v_lcmp (pc := 2223) dL_law_2223 ?_
    refine v_if_eq (pc := 2224) (tgt := 2229) dL_law_2224 (by decide) (fun c2224 => ?_) (fun c2224 => absurd c2224 (not_not_intro (cmp_eq0.mpr ((congrFun hJo 0).trans (hval.trans rfl)))))
    refine v_goto (pc := 2229) (tgt := 2232) dL_law_2229 (by decide) ?_
    refine v_forget 6 ?_
    refine v_forget 7 ?_
    refine v_forget 8 ?_
    exact kk _ _ _ _ hfin ⟨by show n1 + 1 ≤ 60 + 2 * (q + 1); omega, by show n2 + 6 ≤ 2000 + 20 * (q + 1); omega⟩
  · refine v_istore (pc := 2181) dL_law_2181 rfl (by decide) ?_
    refine v_aload_n (pc := 2183) dL_law_2183 rfl rfl ?_
    refine v_aload_n (pc := 2184) dL_law_2184 rfl rfl ?_
    refine v_iload (pc := 2185) dL_law_2185 rfl ?_
    refine v_iconst (pc := 2187) (v := 1) dL_law_2187 (by decide) ?_
    refine v_iadd (pc := 2188) dL_law_2188 ?_
    refine v_sld (pc := 2189) (j := 5 * q + 1) hS dL_law_2189 (by rw [show (1 : Int32) = nI 1 from rfl, nI_add]) (by omega) hL ?_
    refine v_aload_n (pc := 2190) dL_law_2190 rfl rfl ?_
    refine v_iload (pc := 2191) dL_law_2191 rfl ?_
    refine v_iconst (pc := 2193) (v := 2) dL_law_2193 (by decide) ?_
    refine v_iadd (pc := 2194) dL_law_2194 ?_
    refine v_sld (pc := 2195) (j := 5 * q + 2) hS dL_law_2195 (by rw [show (2 : Int32) = nI 2 from rfl, nI_add]) (by omega) hL ?_
    refine vm_callV2 (pc := 2196) (n1 + 1, n2 + 6) hG dL_law_2196 cw_L_226 im_yX9_lifeAnew se_yX9_lifeAnew (c_X9_lifeAnew D m _ _ c _ _ i5.1 i5.2.1) rfl (Nat.le_of_ble_eq_true rfl) ⟨Nat.le_of_ble_eq_true rfl, Nat.le_of_ble_eq_true rfl⟩ ⟨by show n1 + 1 + 0 ≤ 601024; omega, by show n2 + 6 + 0 ≤ 7293034; omega⟩ rfl (fun v s1 G hp hG => ?_)
    obtain ⟨hv1, hs1⟩ := hp
    first | rw [if_neg (by rw [herr]; exact hk)] at hv1 hs1 | rw [if_neg (by rw [herr]; exact hk)] at hv1
    rw [herr] at hs1
    subst hv1
    have t38 : s1.1 38 0 = k := by
      rw [hs1]; exact sI_s _ _ _ _
    refine v_istore (pc := 2199) dL_law_2199 rfl (by decide) ?_
    refine v_aload_n (pc := 2201) dL_law_2201 rfl rfl ?_
    refine vm_callV0 (pc := 2202) (n1 + 1, n2 + 6) hG dL_law_2202 cw_L_124 im_yX9_thrown se_yX9_thrown (c_X9_thrown D m _ _ ) rfl (Nat.le_of_ble_eq_true rfl) ⟨Nat.le_of_ble_eq_true rfl, Nat.le_of_ble_eq_true rfl⟩ ⟨by show n1 + 1 + 0 ≤ 601024; omega, by show n2 + 6 + 0 ≤ 7293034; omega⟩ rfl (fun v s1 G hp hG => ?_)
    have hG9 := hG
    obtain ⟨hv1, hs2⟩ := hp
    subst hv1
    subst hs2
    rw [t38]
    have hAG : AG s9 s1 := by
      rw [hs1, hs9]; exact AG_thr s k
    have hIN : INV X1 s9 (q + 1) := by
      rw [hs9]; exact INV.q1 (Nat.le_succ q) hI0 (fun _ _ _ _ _ _ _ _ => rfl) rfl hx1 hx2
    have hfin := hM1.fin hG9 hAG hIN
    refine v_iload (pc := 2205) dL_law_2205 rfl ?_
    refine v_icmp_eq (pc := 2207) (tgt := 2212) dL_law_2207 (by decide) (fun c2207 => ?_) (fun c2207 => absurd c2207 (not_not_intro rfl))
    refine v_iload (pc := 2212) dL_law_2212 rfl ?_
    refine v_if_ne (pc := 2214) (tgt := 2229) dL_law_2214 (by decide) (fun c2214 => ?_) (fun c2214 => absurd c2214 hk)
    refine v_goto (pc := 2229) (tgt := 2232) dL_law_2229 (by decide) ?_
    refine v_forget 6 ?_
    refine v_forget 7 ?_
    refine v_forget 8 ?_
    exact kk _ _ _ _ hfin ⟨by show n1 + 1 ≤ 60 + 2 * (q + 1); omega, by show n2 + 6 ≤ 2000 + 20 * (q + 1); omega⟩
