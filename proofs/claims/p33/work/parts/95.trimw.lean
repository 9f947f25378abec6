abbrev rm_isTrimmed : Room := { frames := 10, cells := 2 * 20, slots := 18 * 20, locals := 320 }
theorem d_hal {h t r k : Nat} {p : Int32} (hh : h < 101) (ht : t < 101) (hr : r < 4) (hk : k < 101) (hp : halP t r k p h) : ¬ Op.cmpValue (FP.fcmp (pwI h t r k) (FP.i2f p)) .l ≤ 0 := by
  rw [cmp_lg (f6 hh ht hr hk).2 (i2f_n p)]
  exact n_nle.mpr hp
theorem w_100 {h : Nat} (hh : h < 101) : (nI h).toInt64 ≤ 100 := by
  rw [Int64.le_iff_toInt_le, Int32.toInt_toInt64, nI_toInt (by omega)]
  have : (100 : Int64).toInt = 100 := rfl
  omega
theorem ne_m1 {x : Int64} (h : (0 : Int64) ≤ x) : ¬ x = -1 := fun z => by rw [z] at h; exact absurd h (by decide)
set_option maxRecDepth 100000 in
set_option maxHeartbeats 1000000 in
theorem e_trim {D : DT} {K : KT} {X : XT} {M : MT} {t xx sz : Nat} {G0 : GT} (hR : Rt rm_isTrimmed D K (some .boolean) yL_isTrimmed.name sz G0 (LPq X M (t + 1))) (hNC : NC3 K.2.2.2.1) (hxx : xx < 2147483648) (ht : t < 200) {S1 : SG} (hL1 : LI X S1 (mS (mS M 6 (nI (xx % 101))) 7 (nI (xx / 101 % 4))) t) (G : GT) (hW : WD X S1 (mS (mS M 6 (nI (xx % 101))) 7 (nI (xx / 101 % 4))) G) : V cL_isTrimmed yL_isTrimmed.cls 11 rm_isTrimmed D K 126 [some (.ref (X.1 0 0)), some (.ref M.1.1), some (.int (nI xx)), some (.int (nI (xx % 101))), some (.int (nI (xx / 101 % 4))), some (.int (nI (xx / 404 % 101))), some (.int (nI (xx / 7 % 101))), some (.int (nI (xx / 11 % 9000))), some (.int 1), some (.long (halF (xx % 101) (xx / 101 % 4) (xx / 7 % 101) (nI (xx / 11 % 9000)) 101 0).toInt64), none] [] G (nu 5) := by
  have hq : 2 * t < 512 := by omega
  rcases hal_c (t := xx % 101) (r := xx / 101 % 4) (k := xx / 7 % 101) (p := nI (xx / 11 % 9000)) 101 0 with ⟨hf, hall⟩ | ⟨h, hlo, hhi, hf, hno, hpre⟩
  · rw [hf]
    refine v_lload (pc := 126) dL_isTrimmed_126 rfl ?_
    refine v_ldcL (pc := 128) dL_isTrimmed_128 k_L_151 ?_
    refine v_lcmp (pc := 131) dL_isTrimmed_131 ?_
    refine v_if_ne (pc := 132) (tgt := 178) dL_isTrimmed_132 (by decide) (fun c132 => absurd c132 (d_ne rfl)) (fun c132 => ?_)
    refine v_iload (pc := 135) dL_isTrimmed_135 rfl ?_
    refine v_if_eq (pc := 137) (tgt := 176) dL_isTrimmed_137 (by decide) (fun c137 => absurd c137 (by decide)) (fun c137 => ?_)
    refine v_aload_n (pc := 140) dL_isTrimmed_140 rfl rfl ?_
    refine v_bipush (pc := 141) (v := 14) dL_isTrimmed_141 (by decide) ?_
    refine v_bipush (pc := 143) (v := nI 100) dL_isTrimmed_143 (by decide) ?_
    refine v_iload_n (pc := 145) dL_isTrimmed_145 rfl rfl ?_
    refine v_iload (pc := 146) dL_isTrimmed_146 rfl ?_
    refine v_iconst (pc := 148) (v := 0) dL_isTrimmed_148 (by decide) ?_
    refine vqL (pc := 149) (u := 5) (j := 1) (U := 20) (As := [.ref (X.1 0 0), .int _, .int _, .int _, .int _, .int _]) hNC dL_isTrimmed_149 ll_act.1 ll_act.2.1 wl_act ll_act.2.2.2 ll_act.2.2.1 (sw_trim _ _ _ 0 hW hL1.1 hq (kTrim_n (a := 100) (b := xx % 101) (c := xx / 101 % 4) (by omega) (by omega) (by omega))) rfl rfl (Nat.le_of_ble_eq_true rfl) ⟨Nat.le_of_ble_eq_true rfl, Nat.le_of_ble_eq_true rfl⟩ ⟨by decide, by decide⟩ ⟨rfl, rfl⟩ (by omega) (fun v G hp => ?_)
    obtain ⟨z1, s', e, rfl, hW, rfl⟩ := hp
    rw [nat_nI (show 100 < 2147483648 by omega), nat_nI (show xx % 101 < 2147483648 by omega)]
    have htr := (tr_ok (h := 100) (t := xx % 101) (r := xx / 101 % 4) (by omega) (by omega) (by omega)).1
    obtain ⟨hL2, d24, d25, d26⟩ := hL1.trim (a := 100) (b := xx % 101) (c := xx / 101 % 4) ht e G (by omega) (by omega) (by omega)
    generalize gTrim z1 _ _ _ = S2 at *
    refine v_ldcL (pc := 152) dL_isTrimmed_152 k_L_181 ?_
    refine v_lcmp (pc := 155) dL_isTrimmed_155 ?_
    refine v_if_lt (pc := 156) (tgt := 176) dL_isTrimmed_156 (by decide) (fun c156 => absurd c156 (d_lt htr)) (fun c156 => ?_)
    refine v_aload_n (pc := 159) dL_isTrimmed_159 rfl rfl ?_
    refine v_iload (pc := 160) dL_isTrimmed_160 rfl ?_
    refine vqV (pc := 162) (u := 5 + 1) (j := 1) (U := 20) (As := [.int _]) hW dL_isTrimmed_162 cw_L_65 im_yX8_power se_yX8_power rfl (q_power _ hW d24 d25 d26 (by omega) (by omega) (by omega) (kPow_n (by omega))) rfl rfl (Nat.le_of_ble_eq_true rfl) ⟨Nat.le_of_ble_eq_true rfl, Nat.le_of_ble_eq_true rfl⟩ ⟨by decide, by decide⟩ ⟨rfl, rfl⟩ (by omega) (fun v G hp => ?_)
    obtain ⟨rfl, hW⟩ := hp
    rw [nat_nI (show xx / 7 % 101 < 2147483648 by omega)]
    refine v_iload (pc := 165) dL_isTrimmed_165 rfl ?_
    refine v_i2f (pc := 167) dL_isTrimmed_167 ?_
    refine v_fcmp (pc := 168) dL_isTrimmed_168 ?_
    refine v_if_le (pc := 169) (tgt := 176) dL_isTrimmed_169 (by decide) (fun c169 => absurd c169 (d_hal (by omega) (by omega) (by omega) (by omega) (hall 100 (by omega) (by omega)))) (fun c169 => ?_)
    refine v_iconst (pc := 172) (v := 1) dL_isTrimmed_172 (by decide) ?_
    refine v_goto (pc := 173) (tgt := 177) dL_isTrimmed_173 (by decide) ?_
    refine vq_zret (pc := 177) (U := 20) hR dL_isTrimmed_177 rfl ⟨rfl, rfl⟩ (by omega) ?_
    exact ⟨rfl, X, _, (mS (mS M 6 (nI (xx % 101))) 7 (nI (xx / 101 % 4))), rfl, rfl, hW, hL2.up (EQ.rf _) rfl rfl, fun z => z⟩
  · rw [hf]
    refine v_lload (pc := 126) dL_isTrimmed_126 rfl ?_
    refine v_ldcL (pc := 128) dL_isTrimmed_128 k_L_151 ?_
    refine v_lcmp (pc := 131) dL_isTrimmed_131 ?_
    refine v_if_ne (pc := 132) (tgt := 178) dL_isTrimmed_132 (by decide) (fun c132 => ?_) (fun c132 => absurd c132 (d_eq (ne_m1 (w_ge0 (nI_ps (by omega))))))
    refine v_iload (pc := 178) dL_isTrimmed_178 rfl ?_
    refine v_if_eq (pc := 180) (tgt := 236) dL_isTrimmed_180 (by decide) (fun c180 => absurd c180 (by decide)) (fun c180 => ?_)
    refine v_lload (pc := 183) dL_isTrimmed_183 rfl ?_
    refine v_lconst (pc := 185) (v := 0) dL_isTrimmed_185 (by decide) ?_
    refine v_lcmp (pc := 186) dL_isTrimmed_186 ?_
    refine v_if_lt (pc := 187) (tgt := 236) dL_isTrimmed_187 (by decide) (fun c187 => absurd c187 (d_lt (w_ge0 (nI_ps (by omega))))) (fun c187 => ?_)
    refine v_lload (pc := 190) dL_isTrimmed_190 rfl ?_
    refine v_ldcL (pc := 192) dL_isTrimmed_192 k_L_174 ?_
    refine v_lcmp (pc := 195) dL_isTrimmed_195 ?_
    refine v_if_gt (pc := 196) (tgt := 236) dL_isTrimmed_196 (by decide) (fun c196 => absurd c196 (d_gt (w_100 (by omega)))) (fun c196 => ?_)
    refine v_aload_n (pc := 199) dL_isTrimmed_199 rfl rfl ?_
    refine v_bipush (pc := 200) (v := 14) dL_isTrimmed_200 (by decide) ?_
    refine v_lload (pc := 202) dL_isTrimmed_202 rfl ?_
    refine v_l2i (pc := 204) dL_isTrimmed_204 ?_
    rw [l2i_n]
    refine v_iload_n (pc := 205) dL_isTrimmed_205 rfl rfl ?_
    refine v_iload (pc := 206) dL_isTrimmed_206 rfl ?_
    refine v_iconst (pc := 208) (v := 0) dL_isTrimmed_208 (by decide) ?_
    refine vqL (pc := 209) (u := 5) (j := 1) (U := 20) (As := [.ref (X.1 0 0), .int _, .int _, .int _, .int _, .int _]) hNC dL_isTrimmed_209 ll_act.1 ll_act.2.1 wl_act ll_act.2.2.2 ll_act.2.2.1 (sw_trim _ _ _ 0 hW hL1.1 hq (kTrim_n (a := h) (b := xx % 101) (c := xx / 101 % 4) (by omega) (by omega) (by omega))) rfl rfl (Nat.le_of_ble_eq_true rfl) ⟨Nat.le_of_ble_eq_true rfl, Nat.le_of_ble_eq_true rfl⟩ ⟨by decide, by decide⟩ ⟨rfl, rfl⟩ (by omega) (fun v G hp => ?_)
    obtain ⟨z1, s', e, rfl, hW, rfl⟩ := hp
    rw [nat_nI (show h < 2147483648 by omega), nat_nI (show xx % 101 < 2147483648 by omega)]
    have htr := (tr_ok (h := h) (t := xx % 101) (r := xx / 101 % 4) (by omega) (by omega) (by omega)).1
    obtain ⟨hL2, d24, d25, d26⟩ := hL1.trim (a := h) (b := xx % 101) (c := xx / 101 % 4) ht e G (by omega) (by omega) (by omega)
    generalize gTrim z1 _ _ _ = S2 at *
    refine v_ldcL (pc := 212) dL_isTrimmed_212 k_L_181 ?_
    refine v_lcmp (pc := 215) dL_isTrimmed_215 ?_
    refine v_if_lt (pc := 216) (tgt := 236) dL_isTrimmed_216 (by decide) (fun c216 => absurd c216 (d_lt htr)) (fun c216 => ?_)
    refine v_aload_n (pc := 219) dL_isTrimmed_219 rfl rfl ?_
    refine v_iload (pc := 220) dL_isTrimmed_220 rfl ?_
    refine vqV (pc := 222) (u := 5 + 1) (j := 1) (U := 20) (As := [.int _]) hW dL_isTrimmed_222 cw_L_65 im_yX8_power se_yX8_power rfl (q_power _ hW d24 d25 d26 (by omega) (by omega) (by omega) (kPow_n (by omega))) rfl rfl (Nat.le_of_ble_eq_true rfl) ⟨Nat.le_of_ble_eq_true rfl, Nat.le_of_ble_eq_true rfl⟩ ⟨by decide, by decide⟩ ⟨rfl, rfl⟩ (by omega) (fun v G hp => ?_)
    obtain ⟨rfl, hW⟩ := hp
    rw [nat_nI (show xx / 7 % 101 < 2147483648 by omega)]
    refine v_iload (pc := 225) dL_isTrimmed_225 rfl ?_
    refine v_i2f (pc := 227) dL_isTrimmed_227 ?_
    refine v_fcmp (pc := 228) dL_isTrimmed_228 ?_
    refine v_if_gt (pc := 229) (tgt := 236) dL_isTrimmed_229 (by decide) (fun c229 => absurd c229 hno) (fun c229 => ?_)
    refine v_iconst (pc := 232) (v := 1) dL_isTrimmed_232 (by decide) ?_
    refine v_goto (pc := 233) (tgt := 237) dL_isTrimmed_233 (by decide) ?_
    refine v_istore (pc := 237) dL_isTrimmed_237 rfl (by decide) ?_
    refine v_iload (pc := 239) dL_isTrimmed_239 rfl ?_
    refine v_if_eq (pc := 241) (tgt := 290) dL_isTrimmed_241 (by decide) (fun c241 => absurd c241 (by decide)) (fun c241 => ?_)
    refine v_lload (pc := 244) dL_isTrimmed_244 rfl ?_
    refine v_lconst (pc := 246) (v := 0) dL_isTrimmed_246 (by decide) ?_
    refine v_lcmp (pc := 247) dL_isTrimmed_247 ?_
    refine v_if_eq (pc := 248) (tgt := 286) dL_isTrimmed_248 (by decide) (fun c248 => ?_) (fun c248 => ?_)
    · refine v_iconst (pc := 286) (v := 1) dL_isTrimmed_286 (by decide) ?_
      refine v_goto (pc := 287) (tgt := 291) dL_isTrimmed_287 (by decide) ?_
      refine vq_zret (pc := 291) (U := 20) hR dL_isTrimmed_291 rfl ⟨rfl, rfl⟩ (by omega) ?_
      first | exact ⟨rfl, X, _, (mS (mS M 6 (nI (xx % 101))) 7 (nI (xx / 101 % 4))), rfl, rfl, hW, hL3.up (EQ.rf _) rfl rfl, fun z => z⟩ | exact ⟨rfl, X, _, (mS (mS M 6 (nI (xx % 101))) 7 (nI (xx / 101 % 4))), rfl, rfl, hW, hL2.up (EQ.rf _) rfl rfl, fun z => z⟩
    · have h0 : 0 < h := Nat.pos_of_ne_zero (fun z => c248 (by rw [z]; rfl))
      refine v_aload_n (pc := 251) dL_isTrimmed_251 rfl rfl ?_
      refine v_bipush (pc := 252) (v := 14) dL_isTrimmed_252 (by decide) ?_
      refine v_lload (pc := 254) dL_isTrimmed_254 rfl ?_
      refine v_l2i (pc := 256) dL_isTrimmed_256 ?_
      rw [l2i_n]
      refine v_iconst (pc := 257) (v := 1) dL_isTrimmed_257 (by decide) ?_
      refine v_isub (pc := 258) dL_isTrimmed_258 ?_
      rw [n_m1 h0]
      refine v_iload_n (pc := 259) dL_isTrimmed_259 rfl rfl ?_
      refine v_iload (pc := 260) dL_isTrimmed_260 rfl ?_
      refine v_iconst (pc := 262) (v := 0) dL_isTrimmed_262 (by decide) ?_
      refine vqL (pc := 263) (u := 5 + 1 + 1) (j := 1) (U := 20) (As := [.ref (X.1 0 0), .int _, .int _, .int _, .int _, .int _]) hNC dL_isTrimmed_263 ll_act.1 ll_act.2.1 wl_act ll_act.2.2.2 ll_act.2.2.1 (sw_trim _ _ _ 0 hW hL2.1 hq (kTrim_n (a := h - 1) (b := xx % 101) (c := xx / 101 % 4) (by omega) (by omega) (by omega))) rfl rfl (Nat.le_of_ble_eq_true rfl) ⟨Nat.le_of_ble_eq_true rfl, Nat.le_of_ble_eq_true rfl⟩ ⟨by decide, by decide⟩ ⟨rfl, rfl⟩ (by omega) (fun v G hp => ?_)
      obtain ⟨z1, s', e, rfl, hW, rfl⟩ := hp
      rw [nat_nI (show h - 1 < 2147483648 by omega), nat_nI (show xx % 101 < 2147483648 by omega)]
      have htr := (tr_ok (h := h - 1) (t := xx % 101) (r := xx / 101 % 4) (by omega) (by omega) (by omega)).1
      obtain ⟨hL3, d24, d25, d26⟩ := hL2.trim (a := h - 1) (b := xx % 101) (c := xx / 101 % 4) ht e G (by omega) (by omega) (by omega)
      generalize gTrim z1 _ _ _ = S3 at *
      refine v_ldcL (pc := 266) dL_isTrimmed_266 k_L_181 ?_
      refine v_lcmp (pc := 269) dL_isTrimmed_269 ?_
      refine v_if_lt (pc := 270) (tgt := 290) dL_isTrimmed_270 (by decide) (fun c270 => absurd c270 (d_lt htr)) (fun c270 => ?_)
      refine v_aload_n (pc := 273) dL_isTrimmed_273 rfl rfl ?_
      refine v_iload (pc := 274) dL_isTrimmed_274 rfl ?_
      refine vqV (pc := 276) (u := 5 + 1 + 1 + 1) (j := 1) (U := 20) (As := [.int _]) hW dL_isTrimmed_276 cw_L_65 im_yX8_power se_yX8_power rfl (q_power _ hW d24 d25 d26 (by omega) (by omega) (by omega) (kPow_n (by omega))) rfl rfl (Nat.le_of_ble_eq_true rfl) ⟨Nat.le_of_ble_eq_true rfl, Nat.le_of_ble_eq_true rfl⟩ ⟨by decide, by decide⟩ ⟨rfl, rfl⟩ (by omega) (fun v G hp => ?_)
      obtain ⟨rfl, hW⟩ := hp
      rw [nat_nI (show xx / 7 % 101 < 2147483648 by omega)]
      refine v_iload (pc := 279) dL_isTrimmed_279 rfl ?_
      refine v_i2f (pc := 281) dL_isTrimmed_281 ?_
      refine v_fcmp (pc := 282) dL_isTrimmed_282 ?_
      refine v_if_le (pc := 283) (tgt := 290) dL_isTrimmed_283 (by decide) (fun c283 => absurd c283 (d_hal (by omega) (by omega) (by omega) (by omega) (hpre (h - 1) (by omega) (by omega)))) (fun c283 => ?_)
      refine v_iconst (pc := 286) (v := 1) dL_isTrimmed_286 (by decide) ?_
      refine v_goto (pc := 287) (tgt := 291) dL_isTrimmed_287 (by decide) ?_
      refine vq_zret (pc := 291) (U := 20) hR dL_isTrimmed_291 rfl ⟨rfl, rfl⟩ (by omega) ?_
      first | exact ⟨rfl, X, _, (mS (mS M 6 (nI (xx % 101))) 7 (nI (xx / 101 % 4))), rfl, rfl, hW, hL3.up (EQ.rf _) rfl rfl, fun z => z⟩ | exact ⟨rfl, X, _, (mS (mS M 6 (nI (xx % 101))) 7 (nI (xx / 101 % 4))), rfl, rfl, hW, hL2.up (EQ.rf _) rfl rfl, fun z => z⟩
set_option maxRecDepth 100000 in
set_option maxHeartbeats 1000000 in
theorem c_L_isTrimmed (D : DT) (X : XT) (s : SG) (M : MT) (G : GT) (t xx : Nat) (hxx : xx < 2147483648) (hW : WD X s M G) (hL : LI X s M t) (ht : t < 200) : MN yL_isTrimmed cL_isTrimmed 11 (Option.some Jvm.ClassFile.FieldType.boolean) rm_isTrimmed D [.ref (X.1 0 0), .ref M.1.1, .int (nI xx)] G (LPq X M (t + 1)) := by
  have hq : 2 * t < 512 := by omega
  have hLm : LI X s (mS (mS M 6 (nI (xx % 101))) 7 (nI (xx / 101 % 4))) t := hL.m67
  refine MN_of (by decide +kernel) (Nat.le_of_ble_eq_true rfl) (fun K sz hR hNC => ?_)
  show V cL_isTrimmed _ 11 _ D K 0 [some (.ref (X.1 0 0)), some (.ref M.1.1), some (.int (nI xx)), none, none, none, none, none, none, none, none] [] G (nu 0)
  refine v_iload_n (pc := 0) dL_isTrimmed_0 rfl rfl ?_
  refine v_bipush (pc := 1) (v := 101) dL_isTrimmed_1 (by decide) ?_
  refine v_nrem (pc := 3) (xx) 101 dL_isTrimmed_3 (by omega) (by decide) rfl rfl ?_
  refine v_istore_n (pc := 4) dL_isTrimmed_4 rfl rfl (by decide) ?_
  refine v_iload_n (pc := 5) dL_isTrimmed_5 rfl rfl ?_
  refine v_bipush (pc := 6) (v := 101) dL_isTrimmed_6 (by decide) ?_
  refine v_ndiv (pc := 8) (xx) 101 dL_isTrimmed_8 (by omega) (by decide) rfl rfl ?_
  refine v_iconst (pc := 9) (v := 4) dL_isTrimmed_9 (by decide) ?_
  refine v_nrem (pc := 10) (xx / 101) 4 dL_isTrimmed_10 (by omega) (by decide) rfl rfl ?_
  refine v_istore (pc := 11) dL_isTrimmed_11 rfl (by decide) ?_
  refine v_iload_n (pc := 13) dL_isTrimmed_13 rfl rfl ?_
  refine v_sipush (pc := 14) (v := 404) dL_isTrimmed_14 (by decide) ?_
  refine v_ndiv (pc := 17) (xx) 404 dL_isTrimmed_17 (by omega) (by decide) rfl rfl ?_
  refine v_bipush (pc := 18) (v := 101) dL_isTrimmed_18 (by decide) ?_
  refine v_nrem (pc := 20) (xx / 404) 101 dL_isTrimmed_20 (by omega) (by decide) rfl rfl ?_
  refine v_istore (pc := 21) dL_isTrimmed_21 rfl (by decide) ?_
  refine v_aload_n (pc := 23) dL_isTrimmed_23 rfl rfl ?_
  refine v_bipush (pc := 24) (v := 6) dL_isTrimmed_24 (by decide) ?_
  refine v_iload_n (pc := 26) dL_isTrimmed_26 rfl rfl ?_
  refine vw_mS (pc := 27) (j := 6) hW dL_isTrimmed_27 rfl (by decide) (fun G hW => ?_)
  refine v_aload_n (pc := 28) dL_isTrimmed_28 rfl rfl ?_
  refine v_bipush (pc := 29) (v := 7) dL_isTrimmed_29 (by decide) ?_
  refine v_iload (pc := 31) dL_isTrimmed_31 rfl ?_
  refine vw_mS (pc := 33) (M := mS M 6 (nI (xx % 101))) (j := 7) hW dL_isTrimmed_33 rfl (by decide) (fun G hW => ?_)
  refine v_iload_n (pc := 34) dL_isTrimmed_34 rfl rfl ?_
  refine v_bipush (pc := 35) (v := 7) dL_isTrimmed_35 (by decide) ?_
  refine v_ndiv (pc := 37) (xx) 7 dL_isTrimmed_37 (by omega) (by decide) rfl rfl ?_
  refine v_bipush (pc := 38) (v := 101) dL_isTrimmed_38 (by decide) ?_
  refine v_nrem (pc := 40) (xx / 7) 101 dL_isTrimmed_40 (by omega) (by decide) rfl rfl ?_
  refine v_istore (pc := 41) dL_isTrimmed_41 rfl (by decide) ?_
  refine v_iload_n (pc := 43) dL_isTrimmed_43 rfl rfl ?_
  refine v_bipush (pc := 44) (v := 11) dL_isTrimmed_44 (by decide) ?_
  refine v_ndiv (pc := 46) (xx) 11 dL_isTrimmed_46 (by omega) (by decide) rfl rfl ?_
  refine v_sipush (pc := 47) (v := 9000) dL_isTrimmed_47 (by decide) ?_
  refine v_nrem (pc := 50) (xx / 11) 9000 dL_isTrimmed_50 (by omega) (by decide) rfl rfl ?_
  refine v_istore (pc := 51) dL_isTrimmed_51 rfl (by decide) ?_
  refine v_aload_n (pc := 53) dL_isTrimmed_53 rfl rfl ?_
  refine v_bipush (pc := 54) (v := 14) dL_isTrimmed_54 (by decide) ?_
  refine v_iload (pc := 56) dL_isTrimmed_56 rfl ?_
  refine v_iload_n (pc := 58) dL_isTrimmed_58 rfl rfl ?_
  refine v_iload (pc := 59) dL_isTrimmed_59 rfl ?_
  refine v_iconst (pc := 61) (v := 0) dL_isTrimmed_61 (by decide) ?_
  refine vqL (pc := 62) (u := 0) (j := 1) (U := 20) (As := [.ref (X.1 0 0), .int _, .int _, .int _, .int _, .int _]) hNC dL_isTrimmed_62 ll_act.1 ll_act.2.1 wl_act ll_act.2.2.2 ll_act.2.2.1 (sw_trim _ _ _ 0 hW hLm.1 hq (kTrim_n (a := xx / 404 % 101) (b := xx % 101) (c := xx / 101 % 4) (by omega) (by omega) (by omega))) rfl rfl (Nat.le_of_ble_eq_true rfl) ⟨Nat.le_of_ble_eq_true rfl, Nat.le_of_ble_eq_true rfl⟩ ⟨by decide, by decide⟩ ⟨rfl, rfl⟩ (by omega) (fun v G hp => ?_)
  obtain ⟨z1, s', e, rfl, hW, rfl⟩ := hp
  rw [nat_nI (show xx / 404 % 101 < 2147483648 by omega), nat_nI (show xx % 101 < 2147483648 by omega)]
  have htr := (tr_ok (h := xx / 404 % 101) (t := xx % 101) (r := xx / 101 % 4) (by omega) (by omega) (by omega)).1
  obtain ⟨hL1, d24, d25, d26⟩ := hLm.trim (a := xx / 404 % 101) (b := xx % 101) (c := xx / 101 % 4) ht e G (by omega) (by omega) (by omega)
  generalize gTrim z1 _ _ _ = S1 at *
  refine v_ldcL (pc := 65) dL_isTrimmed_65 k_L_181 ?_
  refine v_lcmp (pc := 68) dL_isTrimmed_68 ?_
  refine v_if_lt (pc := 69) (tgt := 109) dL_isTrimmed_69 (by decide) (fun c69 => absurd c69 (d_lt htr)) (fun c69 => ?_)
  refine v_iload (pc := 72) dL_isTrimmed_72 rfl ?_
  refine v_if_eq (pc := 74) (tgt := 105) dL_isTrimmed_74 (by decide) (fun c74 => ?_) (fun c74 => ?_)
  · refine v_iconst (pc := 105) (v := 1) dL_isTrimmed_105 (by decide) ?_
    refine v_goto (pc := 106) (tgt := 110) dL_isTrimmed_106 (by decide) ?_
    refine v_istore (pc := 110) dL_isTrimmed_110 rfl (by decide) ?_
    refine v_aload_n (pc := 112) dL_isTrimmed_112 rfl rfl ?_
    refine v_bipush (pc := 113) (v := 16) dL_isTrimmed_113 (by decide) ?_
    refine v_iload (pc := 115) dL_isTrimmed_115 rfl ?_
    refine v_iload (pc := 117) dL_isTrimmed_117 rfl ?_
    refine v_iconst (pc := 119) (v := 0) dL_isTrimmed_119 (by decide) ?_
    refine v_iconst (pc := 120) (v := 0) dL_isTrimmed_120 (by decide) ?_
    refine vqL (pc := 121) (u := 0 + 1) (j := 1) (U := 20) (As := [.ref (X.1 0 0), .int _, .int _, .int _, .int _, .int _]) hNC dL_isTrimmed_121 ll_act.1 ll_act.2.1 wl_act ll_act.2.2.2 ll_act.2.2.1 (sw_halyard _ _ 0 0 d25 d26 (by omega) (by omega) hW hL1.1 hq (by unfold kHal; exact if_pos ⟨bt_n (a := 0) (b := 100) (by omega) (by decide), bt_n (a := 0) (b := 100000) (by omega) (by decide)⟩)) rfl rfl (Nat.le_of_ble_eq_true rfl) ⟨Nat.le_of_ble_eq_true rfl, Nat.le_of_ble_eq_true rfl⟩ ⟨by decide, by decide⟩ ⟨rfl, rfl⟩ (by omega) (fun v G hp => ?_)
    obtain ⟨z2, s', e2, rfl, hW', rfl⟩ := hp
    have hW := hW'.eq e2
    rw [nat_nI (show xx / 7 % 101 < 2147483648 by omega)]
    refine v_lstore (pc := 124) dL_isTrimmed_124 rfl (by decide) ?_
    refine vq_u (u' := 5) (by omega) ?_
    exact e_trim hR hNC hxx ht hL1 G hW
  · have hwp : 0 < xx / 7 % 101 := Nat.pos_of_ne_zero (fun z => c74 (by rw [z]; rfl))
    have hmo := pw_mono (h := xx / 404 % 101) (t := xx % 101) (r := xx / 101 % 4) (k := xx / 7 % 101 - 1) (by omega) (by omega) (by omega) (by omega)
    rw [Nat.sub_add_cancel hwp] at hmo
    refine v_aload_n (pc := 77) dL_isTrimmed_77 rfl rfl ?_
    refine v_bipush (pc := 78) (v := 15) dL_isTrimmed_78 (by decide) ?_
    refine v_iload (pc := 80) dL_isTrimmed_80 rfl ?_
    refine v_iconst (pc := 82) (v := 0) dL_isTrimmed_82 (by decide) ?_
    refine v_iconst (pc := 83) (v := 0) dL_isTrimmed_83 (by decide) ?_
    refine v_iconst (pc := 84) (v := 0) dL_isTrimmed_84 (by decide) ?_
    refine vqL (pc := 85) (u := 0 + 1) (j := 1) (U := 20) (As := [.ref (X.1 0 0), .int _, .int _, .int _, .int _, .int _]) hNC dL_isTrimmed_85 ll_act.1 ll_act.2.1 wl_act ll_act.2.2.2 ll_act.2.2.1 (sw_power _ 0 0 0 d24 d25 d26 (by omega) (by omega) (by omega) hW hL1.1 hq (kPow_n (by omega))) rfl rfl (Nat.le_of_ble_eq_true rfl) ⟨Nat.le_of_ble_eq_true rfl, Nat.le_of_ble_eq_true rfl⟩ ⟨by decide, by decide⟩ ⟨rfl, rfl⟩ (by omega) (fun v G hp => ?_)
    obtain ⟨z2, s', e2, rfl, hW', rfl⟩ := hp
    have hW := hW'.eq e2
    rw [nat_nI (show xx / 7 % 101 < 2147483648 by omega)]
    refine v_aload_n (pc := 88) dL_isTrimmed_88 rfl rfl ?_
    refine v_bipush (pc := 89) (v := 15) dL_isTrimmed_89 (by decide) ?_
    refine v_iload (pc := 91) dL_isTrimmed_91 rfl ?_
    refine v_iconst (pc := 93) (v := 1) dL_isTrimmed_93 (by decide) ?_
    refine v_isub (pc := 94) dL_isTrimmed_94 ?_
    rw [n_m1 hwp]
    refine v_iconst (pc := 95) (v := 0) dL_isTrimmed_95 (by decide) ?_
    refine v_iconst (pc := 96) (v := 0) dL_isTrimmed_96 (by decide) ?_
    refine v_iconst (pc := 97) (v := 0) dL_isTrimmed_97 (by decide) ?_
    refine vqL (pc := 98) (u := 0 + 1 + 1) (j := 1) (U := 20) (As := [.ref (X.1 0 0), .int _, .int _, .int _, .int _, .int _]) hNC dL_isTrimmed_98 ll_act.1 ll_act.2.1 wl_act ll_act.2.2.2 ll_act.2.2.1 (sw_power _ 0 0 0 d24 d25 d26 (by omega) (by omega) (by omega) hW hL1.1 hq (kPow_n (by omega))) rfl rfl (Nat.le_of_ble_eq_true rfl) ⟨Nat.le_of_ble_eq_true rfl, Nat.le_of_ble_eq_true rfl⟩ ⟨by decide, by decide⟩ ⟨rfl, rfl⟩ (by omega) (fun v G hp => ?_)
    obtain ⟨z2, s', e2, rfl, hW', rfl⟩ := hp
    have hW := hW'.eq e2
    rw [nat_nI (show xx / 7 % 101 - 1 < 2147483648 by omega)]
    refine v_lcmp (pc := 101) dL_isTrimmed_101 ?_
    refine v_if_lt (pc := 102) (tgt := 109) dL_isTrimmed_102 (by decide) (fun c102 => absurd c102 (d_lt hmo)) (fun c102 => ?_)
    refine v_iconst (pc := 105) (v := 1) dL_isTrimmed_105 (by decide) ?_
    refine v_goto (pc := 106) (tgt := 110) dL_isTrimmed_106 (by decide) ?_
    refine v_istore (pc := 110) dL_isTrimmed_110 rfl (by decide) ?_
    refine v_aload_n (pc := 112) dL_isTrimmed_112 rfl rfl ?_
    refine v_bipush (pc := 113) (v := 16) dL_isTrimmed_113 (by decide) ?_
    refine v_iload (pc := 115) dL_isTrimmed_115 rfl ?_
    refine v_iload (pc := 117) dL_isTrimmed_117 rfl ?_
    refine v_iconst (pc := 119) (v := 0) dL_isTrimmed_119 (by decide) ?_
    refine v_iconst (pc := 120) (v := 0) dL_isTrimmed_120 (by decide) ?_
    refine vqL (pc := 121) (u := 0 + 1 + 1 + 1) (j := 1) (U := 20) (As := [.ref (X.1 0 0), .int _, .int _, .int _, .int _, .int _]) hNC dL_isTrimmed_121 ll_act.1 ll_act.2.1 wl_act ll_act.2.2.2 ll_act.2.2.1 (sw_halyard _ _ 0 0 d25 d26 (by omega) (by omega) hW hL1.1 hq (by unfold kHal; exact if_pos ⟨bt_n (a := 0) (b := 100) (by omega) (by decide), bt_n (a := 0) (b := 100000) (by omega) (by decide)⟩)) rfl rfl (Nat.le_of_ble_eq_true rfl) ⟨Nat.le_of_ble_eq_true rfl, Nat.le_of_ble_eq_true rfl⟩ ⟨by decide, by decide⟩ ⟨rfl, rfl⟩ (by omega) (fun v G hp => ?_)
    obtain ⟨z2, s', e2, rfl, hW', rfl⟩ := hp
    have hW := hW'.eq e2
    rw [nat_nI (show xx / 7 % 101 < 2147483648 by omega)]
    refine v_lstore (pc := 124) dL_isTrimmed_124 rfl (by decide) ?_
    refine vq_u (u' := 5) (by omega) ?_
    exact e_trim hR hNC hxx ht hL1 G hW
