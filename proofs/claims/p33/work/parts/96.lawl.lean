/-! the turns of the law -/
theorem vqM {cc : ByteArray} {own : String} {nL : Nat} {R : Room} {D : DT} {K : KT} {pc : Nat} {lv : LV} {st : List Value} {G : GT} {u U j idx k maxL : Nat} {y : MethodName} {bytes : ByteArray} {ret : Option FieldType} {rm : Room} {As rest : List Value} {post : Option Value → GT → Prop} (hNC : NC3 K.2.2.2.1) (hd : decode cc pc = .ok (.invokestatic idx, 3)) (hC : CWm own idx y bytes maxL ret k) (hi : Cond.static y ∈ lw_all) (hM : MN y bytes maxL ret rm D As G post) (hst : st = As.reverse ++ rest) (hk : As.length = k) (hrest : (rest.map fun v => v.category).sum ≤ 8) (hR : rm.frames + 1 ≤ R.frames ∧ 8 + (maxL + 11) + rm.locals ≤ R.locals) (hrm : rm.cells ≤ 2 * j ∧ rm.slots ≤ 18 * j) (hRU : 2 * U ≤ R.cells ∧ 18 * U ≤ R.slots) (hu : u + j ≤ U) (kk : ∀ (v : Option Value) (G' : GT), post v G' → V cc own nL R D K (pc + 3) lv (vst v rest) G' (nu (u + j))) : V cc own nL R D K pc lv st G (nu u) := by
  have e1 : (nu u).1 + rm.cells ≤ (nu (u + j)).1 := by show 2 * u + rm.cells ≤ 2 * (u + j); omega
  have e2 : (nu u).2 + rm.slots ≤ (nu (u + j)).2 := by show 18 * u + rm.slots ≤ 18 * (u + j); omega
  have e3 : (nu (u + j)).1 ≤ R.cells := Nat.le_trans (by show 2 * (u + j) ≤ 2 * U; omega) hRU.1
  have e4 : (nu (u + j)).2 ≤ R.slots := Nat.le_trans (by show 18 * (u + j) ≤ 18 * U; omega) hRU.2
  exact v_callN hNC hd hC hi hM hst hk hrest hR ⟨Nat.le_trans e1 e3, Nat.le_trans e2 e4⟩ (fun v G' hp => v_widen (nu (u + j)) e1 e2 (kk v G' hp))
theorem vqR {cc : ByteArray} {own : String} {nL : Nat} {R : Room} {D : DT} {K : KT} {pc : Nat} {lv : LV} {st : List Value} {G : GT} {u U idx k maxL : Nat} {y : MethodName} {bytes : ByteArray} {ret : Option FieldType} {rm : Room} {As rest : List Value} {b L : Nat} {xs : Nat → Int32} {post : Option Value → Prop} (hS : SC K b L xs) (hd : decode cc pc = .ok (.invokestatic idx, 3)) (hC : CWm own idx y bytes maxL ret k) (hi : Cond.static y ∈ lw_all) (hM : MR y bytes maxL ret rm D As b L xs post) (hst : st = As.reverse ++ rest) (hk : As.length = k) (hrest : (rest.map fun v => v.category).sum ≤ 8) (hR : rm.frames + 1 ≤ R.frames ∧ 8 + (maxL + 11) + rm.locals ≤ R.locals) (hrm : rm.cells ≤ 2 ∧ rm.slots ≤ 18) (hRU : 2 * U ≤ R.cells ∧ 18 * U ≤ R.slots) (hu : u + 1 ≤ U) (kk : ∀ (v : Option Value), post v → V cc own nL R D K (pc + 3) lv (vst v rest) G (nu (u + 1))) : V cc own nL R D K pc lv st G (nu u) := by
  have e1 : (nu u).1 + rm.cells ≤ (nu (u + 1)).1 := by show 2 * u + rm.cells ≤ 2 * (u + 1); omega
  have e2 : (nu u).2 + rm.slots ≤ (nu (u + 1)).2 := by show 18 * u + rm.slots ≤ 18 * (u + 1); omega
  have e3 : (nu (u + 1)).1 ≤ R.cells := Nat.le_trans (by show 2 * (u + 1) ≤ 2 * U; omega) hRU.1
  have e4 : (nu (u + 1)).2 ≤ R.slots := Nat.le_trans (by show 18 * (u + 1) ≤ 18 * U; omega) hRU.2
  exact v_callR hS hd hC hi hM hst hk hrest hR ⟨Nat.le_trans e1 e3, Nat.le_trans e2 e4⟩ (fun v hp => v_widen (nu (u + 1)) e1 e2 (kk v hp))
theorem nI_subn {a b : Nat} (h : b ≤ a) : nI a - nI b = nI (a - b) := by
  have e : nI a = nI (a - b) + nI b := by rw [nI_add, Nat.sub_add_cancel h]
  rw [e, Int32.add_sub_cancel]
theorem nA_pos {X : XT} {s : SG} {M : MT} {t : Nat} (hL : LI X s M t) (ht : t ≤ 200) (h : ¬ M.2.1 0 = 0) : 0 < nA s := by
  obtain ⟨b1, b2, b3, b4, b5, n1, n2, n3, n4, n5⟩ := hL.1.six (by omega)
  refine Nat.pos_of_ne_zero (fun z => h ?_)
  rw [hL.2.2.2.2.2.1.1, n1, z]
  rfl
set_option maxRecDepth 100000 in
set_option maxHeartbeats 1000000 in
theorem e_after {D : DT} {K : KT} {b L : Nat} {xs : Nat → Int32} {t x : Nat} {hw : Int32} (hS : SC K b L xs) (hNC : NC3 K.2.2.2.1) (hLb : L ≤ 260) (ih : ∀ (X : XT) (s : SG) (M : MT) (G : GT), WD X s M G → LI X s M (t + 1) → 0 < nA s → V cL_law RL 10 room_1 D K 52 [some (.ref b), some (.ref (X.1 0 0)), some (.ref M.1.1), some (.ref M.1.2.1), some (.ref M.1.2.2), some (.int 1), some (.int (nI (t + 1))), none, none, none] [] G (nu (3000 + 1700 * (t + 1)))) (ht : t < 130) (hx : x < 2147483648) (X : XT) (s : SG) (M : MT) (G : GT) (hW : WD X s M G) (hL : LI X s M (t + 1)) (hA : 0 < nA s) : V cL_law RL 10 room_1 D K 227 [some (.ref b), some (.ref (X.1 0 0)), some (.ref M.1.1), some (.ref M.1.2.1), some (.ref M.1.2.2), some (.int 1), some (.int (nI t)), some (.int (nI x)), some (.int hw), some (.int (nI (x / 40)))] [.int 1] G (nu (3000 + 1700 * t + 200)) := by
  refine v_istore (pc := 227) dL_law_227 rfl (by decide) ?_
  refine v_iload (pc := 229) dL_law_229 rfl ?_
  refine v_if_eq (pc := 231) (tgt := 271) dL_law_231 (by decide) (fun c231 => absurd c231 (by decide)) (fun c231 => ?_)
  refine v_aload_n (pc := 234) dL_law_234 rfl rfl ?_
  refine v_aload_n (pc := 235) dL_law_235 rfl rfl ?_
  refine v_aload_n (pc := 236) dL_law_236 rfl rfl ?_
  refine v_aload (pc := 237) dL_law_237 rfl ?_
  refine v_iload (pc := 239) dL_law_239 rfl ?_
  refine vqM (pc := 241) (u := 3000 + 1700 * t + 200) (j := 250) (U := 300052) (As := [.ref (X.1 0 0), .ref M.1.1, .ref M.1.2.1, .ref M.1.2.2, .int _]) hNC dL_law_241 cw_L_212 sm_yL_areSound (c_L_areSound D X s M G (t + 1) (x / 40) (by omega) hW hL (by omega)) rfl rfl (Nat.le_of_ble_eq_true rfl) ⟨Nat.le_of_ble_eq_true rfl, Nat.le_of_ble_eq_true rfl⟩ ⟨Nat.le_of_ble_eq_true rfl, Nat.le_of_ble_eq_true rfl⟩ ⟨Nat.le_of_ble_eq_true rfl, Nat.le_of_ble_eq_true rfl⟩ (by omega) (fun v G hp => ?_)
  obtain ⟨rfl, hW⟩ := hp
  refine v_if_eq (pc := 244) (tgt := 271) dL_law_244 (by decide) (fun c244 => absurd c244 (by decide)) (fun c244 => ?_)
  refine v_iload (pc := 247) dL_law_247 rfl ?_
  refine v_bipush (pc := 249) (v := 45) dL_law_249 (by decide) ?_
  refine v_nrem (pc := 251) t 45 dL_law_251 (by omega) (by decide) rfl rfl ?_
  refine v_if_gt (pc := 252) (tgt := 267) dL_law_252 (by decide) (fun c252 => ?_) (fun c252 => ?_)
  · refine v_iconst (pc := 267) (v := 1) dL_law_267 (by decide) ?_
    refine v_goto (pc := 268) (tgt := 272) dL_law_268 (by decide) ?_
    refine v_istore (pc := 272) dL_law_272 rfl (by decide) ?_
    refine v_iinc (pc := 274) dL_law_274 rfl (nI_1 _) rfl (by decide) ?_
    refine v_goto (pc := 277) (tgt := 52) dL_law_277 (by decide) ?_
    refine vq_u (u' := 3000 + 1700 * (t + 1)) (by omega) ?_
    refine v_forget 7 ?_
    refine v_forget 8 ?_
    refine v_forget 9 ?_
    exact ih X s M G hW hL hA
  · refine v_aload_n (pc := 255) dL_law_255 rfl rfl ?_
    refine v_aload_n (pc := 256) dL_law_256 rfl rfl ?_
    refine v_iload (pc := 257) dL_law_257 rfl ?_
    refine v_iconst (pc := 259) (v := 3) dL_law_259 (by decide) ?_
    refine v_ndiv (pc := 260) x 3 dL_law_260 (by omega) (by decide) rfl rfl ?_
    refine vqM (pc := 261) (u := 3000 + 1700 * t + 200 + 250) (j := 1200) (U := 300052) (As := [.ref (X.1 0 0), .ref M.1.1, .int _]) hNC dL_law_261 cw_L_186 sm_yL_isRefused (c_L_isRefused D X s M G (t + 1) (x / 3) (by omega) hW hL (by omega)) rfl rfl (Nat.le_of_ble_eq_true rfl) ⟨Nat.le_of_ble_eq_true rfl, Nat.le_of_ble_eq_true rfl⟩ ⟨Nat.le_of_ble_eq_true rfl, Nat.le_of_ble_eq_true rfl⟩ ⟨Nat.le_of_ble_eq_true rfl, Nat.le_of_ble_eq_true rfl⟩ (by omega) (fun v G hp => ?_)
    obtain ⟨rfl, hW⟩ := hp
    refine v_if_eq (pc := 264) (tgt := 271) dL_law_264 (by decide) (fun c264 => absurd c264 (by decide)) (fun c264 => ?_)
    refine v_iconst (pc := 267) (v := 1) dL_law_267 (by decide) ?_
    refine v_goto (pc := 268) (tgt := 272) dL_law_268 (by decide) ?_
    refine v_istore (pc := 272) dL_law_272 rfl (by decide) ?_
    refine v_iinc (pc := 274) dL_law_274 rfl (nI_1 _) rfl (by decide) ?_
    refine v_goto (pc := 277) (tgt := 52) dL_law_277 (by decide) ?_
    refine vq_u (u' := 3000 + 1700 * (t + 1)) (by omega) ?_
    refine v_forget 7 ?_
    refine v_forget 8 ?_
    refine v_forget 9 ?_
    exact ih X s M G hW hL hA
set_option maxRecDepth 100000 in
set_option maxHeartbeats 1000000 in
theorem e_turn {D : DT} {K : KT} {b L : Nat} {xs : Nat → Int32} {t : Nat} (hS : SC K b L xs) (hNC : NC3 K.2.2.2.1) (hLb : L ≤ 260) (ih : ∀ (X : XT) (s : SG) (M : MT) (G : GT), WD X s M G → LI X s M (t + 1) → 0 < nA s → V cL_law RL 10 room_1 D K 52 [some (.ref b), some (.ref (X.1 0 0)), some (.ref M.1.1), some (.ref M.1.2.1), some (.ref M.1.2.2), some (.int 1), some (.int (nI (t + 1))), none, none, none] [] G (nu (3000 + 1700 * (t + 1)))) (ht : t < 130) (X : XT) (s : SG) (M : MT) (G : GT) (hW : WD X s M G) (hL : LI X s M t) (hA : 0 < t → 0 < nA s) : V cL_law RL 10 room_1 D K 52 [some (.ref b), some (.ref (X.1 0 0)), some (.ref M.1.1), some (.ref M.1.2.1), some (.ref M.1.2.2), some (.int 1), some (.int (nI t)), none, none, none] [] G (nu (3000 + 1700 * t)) := by
  refine v_iload (pc := 52) dL_law_52 rfl ?_
  refine v_sipush (pc := 54) (v := 130) dL_law_54 (by decide) ?_
  refine v_icmp_ge (pc := 57) (tgt := 280) dL_law_57 (by decide) (fun c57 => absurd c57 (nI_ge (by omega) (by decide))) (fun c57 => ?_)
  refine v_iload (pc := 60) dL_law_60 rfl ?_
  refine v_if_eq (pc := 62) (tgt := 280) dL_law_62 (by decide) (fun c62 => absurd c62 (by decide)) (fun c62 => ?_)
  refine v_aload_n (pc := 65) dL_law_65 rfl rfl ?_
  refine v_iload (pc := 66) dL_law_66 rfl ?_
  refine vqR (pc := 68) (u := 3000 + 1700 * t) (U := 300052) (As := [.ref b, .int _]) hS dL_law_68 cw_L_190 sm_yL_roll (c_L_roll D b L xs t hLb (by omega)) rfl rfl (Nat.le_of_ble_eq_true rfl) ⟨Nat.le_of_ble_eq_true rfl, Nat.le_of_ble_eq_true rfl⟩ ⟨Nat.le_of_ble_eq_true rfl, Nat.le_of_ble_eq_true rfl⟩ ⟨Nat.le_of_ble_eq_true rfl, Nat.le_of_ble_eq_true rfl⟩ (by omega) (fun v hp => ?_)
  obtain ⟨x, hx, rfl⟩ := hp
  refine v_istore (pc := 71) dL_law_71 rfl (by decide) ?_
  refine v_iload (pc := 73) dL_law_73 rfl ?_
  refine v_iconst (pc := 75) (v := 2) dL_law_75 (by decide) ?_
  refine v_icmp_ge (pc := 76) (tgt := 83) dL_law_76 (by decide) (fun c76 => ?_) (fun c76 => ?_)
  · have h2 : 2 ≤ t := (nI_leI (a := 2) (by decide) (by omega)).mp c76
    have hA1 : 0 < nA s := hA (by omega)
    have hA0 : ¬ M.2.1 0 = 0 := by
      obtain ⟨b1, b2, b3, b4, b5, n1, n2, n3, n4, n5⟩ := hL.1.six (by omega)
      rw [hL.2.2.2.2.2.1.1, n1]; exact nI_ne0 hA1 (by omega)
    refine v_iload (pc := 83) dL_law_83 rfl ?_
    refine v_bipush (pc := 85) (v := 40) dL_law_85 (by decide) ?_
    refine v_nrem (pc := 87) x 40 dL_law_87 (by omega) (by decide) rfl rfl ?_
    refine v_istore (pc := 88) dL_law_88 rfl (by decide) ?_
    refine v_iload (pc := 90) dL_law_90 rfl ?_
    refine v_bipush (pc := 92) (v := 40) dL_law_92 (by decide) ?_
    refine v_ndiv (pc := 94) x 40 dL_law_94 (by omega) (by decide) rfl rfl ?_
    refine v_istore (pc := 95) dL_law_95 rfl (by decide) ?_
    refine v_iload (pc := 97) dL_law_97 rfl ?_
    refine v_bipush (pc := 99) (v := 10) dL_law_99 (by decide) ?_
    refine v_icmp_ge (pc := 101) (tgt := 128) dL_law_101 (by decide) (fun c101 => ?_) (fun c101 => ?_)
    · have h10 : 10 ≤ x % 40 := (nI_leI (a := 10) (by decide) (by omega)).mp c101
      refine v_iload (pc := 128) dL_law_128 rfl ?_
      refine v_bipush (pc := 130) (v := 17) dL_law_130 (by decide) ?_
      refine v_icmp_ge (pc := 132) (tgt := 149) dL_law_132 (by decide) (fun c132 => ?_) (fun c132 => ?_)
      · refine v_iload (pc := 149) dL_law_149 rfl ?_
        refine v_bipush (pc := 151) (v := 21) dL_law_151 (by decide) ?_
        refine v_icmp_ge (pc := 153) (tgt := 180) dL_law_153 (by decide) (fun c153 => ?_) (fun c153 => ?_)
        · refine v_iload (pc := 180) dL_law_180 rfl ?_
          refine v_bipush (pc := 182) (v := 25) dL_law_182 (by decide) ?_
          refine v_icmp_ge (pc := 184) (tgt := 197) dL_law_184 (by decide) (fun c184 => ?_) (fun c184 => ?_)
          · have h25 : 25 ≤ x % 40 := (nI_leI (a := 25) (by decide) (by omega)).mp c184
            refine v_aload_n (pc := 197) dL_law_197 rfl rfl ?_
            refine v_aload_n (pc := 198) dL_law_198 rfl rfl ?_
            refine v_iload (pc := 199) dL_law_199 rfl ?_
            refine v_bipush (pc := 201) (v := 25) dL_law_201 (by decide) ?_
            refine v_isub (pc := 203) dL_law_203 ?_
            rw [show nI (x % 40) - 25 = nI (x % 40 - 25) from nI_subn (b := 25) (by omega)]
            refine v_bipush (pc := 204) (v := 12) dL_law_204 (by decide) ?_
            refine v_icmp_le (pc := 206) (tgt := 217) dL_law_206 (by decide) (fun c206 => ?_) (fun c206 => ?_)
            · refine v_iload (pc := 217) dL_law_217 rfl ?_
              refine v_bipush (pc := 219) (v := 25) dL_law_219 (by decide) ?_
              refine v_isub (pc := 221) dL_law_221 ?_
              rw [show nI (x % 40) - 25 = nI (x % 40 - 25) from nI_subn (b := 25) (by omega)]
              refine v_iload (pc := 222) dL_law_222 rfl ?_
              refine vqM (pc := 224) (u := 3000 + 1700 * t + 1) (j := 100) (U := 300052) (As := [.ref (X.1 0 0), .ref M.1.1, .int _, .int _]) hNC dL_law_224 cw_L_208 sm_yL_isRigged (c_L_isRigged D X s M G t _ (x / 40) (by omega) (by omega) hW hL (by omega) hA1) rfl rfl (Nat.le_of_ble_eq_true rfl) ⟨Nat.le_of_ble_eq_true rfl, Nat.le_of_ble_eq_true rfl⟩ ⟨Nat.le_of_ble_eq_true rfl, Nat.le_of_ble_eq_true rfl⟩ ⟨Nat.le_of_ble_eq_true rfl, Nat.le_of_ble_eq_true rfl⟩ (by omega) (fun v G hp => ?_)
              obtain ⟨rfl, X1, s1, M1, h0x, hM1, hW, hL2, hA2⟩ := hp
              rw [← h0x, ← hM1]
              have hA3 := nA_pos hL2 (by omega) (hA2 hA0)
              refine vq_u (u' := 3000 + 1700 * t + 200) (by omega) ?_
              exact e_after hS hNC hLb ih ht hx X1 s1 M1 G hW hL2 hA3
            · have h37 : 12 < x % 40 - 25 := Nat.lt_of_not_le (fun z => c206 ((nI_leI (b := 12) (by omega) (by decide)).mpr z))
              refine v_iload (pc := 209) dL_law_209 rfl ?_
              refine v_bipush (pc := 211) (v := 32) dL_law_211 (by decide) ?_
              refine v_isub (pc := 213) dL_law_213 ?_
              rw [show nI (x % 40) - 32 = nI (x % 40 - 32) from nI_subn (b := 32) (by omega)]
              refine v_goto (pc := 214) (tgt := 222) dL_law_214 (by decide) ?_
              refine v_iload (pc := 222) dL_law_222 rfl ?_
              refine vqM (pc := 224) (u := 3000 + 1700 * t + 1) (j := 100) (U := 300052) (As := [.ref (X.1 0 0), .ref M.1.1, .int _, .int _]) hNC dL_law_224 cw_L_208 sm_yL_isRigged (c_L_isRigged D X s M G t _ (x / 40) (by omega) (by omega) hW hL (by omega) hA1) rfl rfl (Nat.le_of_ble_eq_true rfl) ⟨Nat.le_of_ble_eq_true rfl, Nat.le_of_ble_eq_true rfl⟩ ⟨Nat.le_of_ble_eq_true rfl, Nat.le_of_ble_eq_true rfl⟩ ⟨Nat.le_of_ble_eq_true rfl, Nat.le_of_ble_eq_true rfl⟩ (by omega) (fun v G hp => ?_)
              obtain ⟨rfl, X1, s1, M1, h0x, hM1, hW, hL2, hA2⟩ := hp
              rw [← h0x, ← hM1]
              have hA3 := nA_pos hL2 (by omega) (hA2 hA0)
              refine vq_u (u' := 3000 + 1700 * t + 200) (by omega) ?_
              exact e_after hS hNC hLb ih ht hx X1 s1 M1 G hW hL2 hA3
          · refine v_aload_n (pc := 187) dL_law_187 rfl rfl ?_
            refine v_aload_n (pc := 188) dL_law_188 rfl rfl ?_
            refine v_iload (pc := 189) dL_law_189 rfl ?_
            refine vqM (pc := 191) (u := 3000 + 1700 * t + 1) (j := 20) (U := 300052) (As := [.ref (X.1 0 0), .ref M.1.1, .int _]) hNC dL_law_191 cw_L_205 sm_yL_isTrimmed (c_L_isTrimmed D X s M G t (x / 40) (by omega) hW hL (by omega)) rfl rfl (Nat.le_of_ble_eq_true rfl) ⟨Nat.le_of_ble_eq_true rfl, Nat.le_of_ble_eq_true rfl⟩ ⟨Nat.le_of_ble_eq_true rfl, Nat.le_of_ble_eq_true rfl⟩ ⟨Nat.le_of_ble_eq_true rfl, Nat.le_of_ble_eq_true rfl⟩ (by omega) (fun v G hp => ?_)
            obtain ⟨rfl, X1, s1, M1, h0x, hM1, hW, hL2, hA2⟩ := hp
            rw [← h0x, ← hM1]
            have hA3 := nA_pos hL2 (by omega) (hA2 hA0)
            refine v_goto (pc := 194) (tgt := 227) dL_law_194 (by decide) ?_
            refine vq_u (u' := 3000 + 1700 * t + 200) (by omega) ?_
            exact e_after hS hNC hLb ih ht hx X1 s1 M1 G hW hL2 hA3
        · refine v_aload_n (pc := 156) dL_law_156 rfl rfl ?_
          refine v_aload_n (pc := 157) dL_law_157 rfl rfl ?_
          refine v_aload (pc := 158) dL_law_158 rfl ?_
          refine v_iload (pc := 160) dL_law_160 rfl ?_
          refine v_bipush (pc := 162) (v := 19) dL_law_162 (by decide) ?_
          refine v_icmp_ge (pc := 164) (tgt := 171) dL_law_164 (by decide) (fun c164 => ?_) (fun c164 => ?_)
          · refine v_iconst (pc := 171) (v := nI 1) dL_law_171 (by decide) ?_
            refine v_iload (pc := 172) dL_law_172 rfl ?_
            refine vqM (pc := 174) (u := 3000 + 1700 * t + 1) (j := 100) (U := 300052) (As := [.ref (X.1 0 0), .ref M.1.1, .ref M.1.2.2, .int _, .int _]) hNC dL_law_174 cw_L_201 sm_yL_isGust (c_L_isGust D X s M G t 1 (x / 40) (by decide) (by omega) hW hL (by omega)) rfl rfl (Nat.le_of_ble_eq_true rfl) ⟨Nat.le_of_ble_eq_true rfl, Nat.le_of_ble_eq_true rfl⟩ ⟨Nat.le_of_ble_eq_true rfl, Nat.le_of_ble_eq_true rfl⟩ ⟨Nat.le_of_ble_eq_true rfl, Nat.le_of_ble_eq_true rfl⟩ (by omega) (fun v G hp => ?_)
            obtain ⟨rfl, X1, s1, M1, h0x, hM1, hW, hL2, hA2⟩ := hp
            rw [← h0x, ← hM1]
            have hA3 := nA_pos hL2 (by omega) (hA2 hA0)
            refine v_goto (pc := 177) (tgt := 227) dL_law_177 (by decide) ?_
            refine vq_u (u' := 3000 + 1700 * t + 200) (by omega) ?_
            exact e_after hS hNC hLb ih ht hx X1 s1 M1 G hW hL2 hA3
          · refine v_iconst (pc := 167) (v := nI 0) dL_law_167 (by decide) ?_
            refine v_goto (pc := 168) (tgt := 172) dL_law_168 (by decide) ?_
            refine v_iload (pc := 172) dL_law_172 rfl ?_
            refine vqM (pc := 174) (u := 3000 + 1700 * t + 1) (j := 100) (U := 300052) (As := [.ref (X.1 0 0), .ref M.1.1, .ref M.1.2.2, .int _, .int _]) hNC dL_law_174 cw_L_201 sm_yL_isGust (c_L_isGust D X s M G t 0 (x / 40) (by decide) (by omega) hW hL (by omega)) rfl rfl (Nat.le_of_ble_eq_true rfl) ⟨Nat.le_of_ble_eq_true rfl, Nat.le_of_ble_eq_true rfl⟩ ⟨Nat.le_of_ble_eq_true rfl, Nat.le_of_ble_eq_true rfl⟩ ⟨Nat.le_of_ble_eq_true rfl, Nat.le_of_ble_eq_true rfl⟩ (by omega) (fun v G hp => ?_)
            obtain ⟨rfl, X1, s1, M1, h0x, hM1, hW, hL2, hA2⟩ := hp
            rw [← h0x, ← hM1]
            have hA3 := nA_pos hL2 (by omega) (hA2 hA0)
            refine v_goto (pc := 177) (tgt := 227) dL_law_177 (by decide) ?_
            refine vq_u (u' := 3000 + 1700 * t + 200) (by omega) ?_
            exact e_after hS hNC hLb ih ht hx X1 s1 M1 G hW hL2 hA3
      · refine v_aload_n (pc := 135) dL_law_135 rfl rfl ?_
        refine v_iload (pc := 136) dL_law_136 rfl ?_
        refine v_bipush (pc := 138) (v := 10) dL_law_138 (by decide) ?_
        refine v_isub (pc := 140) dL_law_140 ?_
        rw [show nI (x % 40) - 10 = nI (x % 40 - 10) from nI_subn (b := 10) (by omega)]
        refine v_iload (pc := 141) dL_law_141 rfl ?_
        refine vqM (pc := 143) (u := 3000 + 1700 * t + 1) (j := 150) (U := 300052) (As := [.ref (X.1 0 0), .int _, .int _]) hNC dL_law_143 cw_L_197 sm_yL_isNet (c_L_isNet D X s M G t (x % 40 - 10) (x / 40) (by omega) (by omega) hW hL (by omega)) rfl rfl (Nat.le_of_ble_eq_true rfl) ⟨Nat.le_of_ble_eq_true rfl, Nat.le_of_ble_eq_true rfl⟩ ⟨Nat.le_of_ble_eq_true rfl, Nat.le_of_ble_eq_true rfl⟩ ⟨Nat.le_of_ble_eq_true rfl, Nat.le_of_ble_eq_true rfl⟩ (by omega) (fun v G hp => ?_)
        obtain ⟨rfl, X1, s1, M1, h0x, hM1, hW, hL2, hA2⟩ := hp
        rw [← h0x, ← hM1]
        have hA3 := nA_pos hL2 (by omega) (hA2 hA0)
        refine v_goto (pc := 146) (tgt := 227) dL_law_146 (by decide) ?_
        refine vq_u (u' := 3000 + 1700 * t + 200) (by omega) ?_
        exact e_after hS hNC hLb ih ht hx X1 s1 M1 G hW hL2 hA3
    · refine v_aload_n (pc := 104) dL_law_104 rfl rfl ?_
      refine v_aload_n (pc := 105) dL_law_105 rfl rfl ?_
      refine v_aload_n (pc := 106) dL_law_106 rfl rfl ?_
      refine v_iload (pc := 107) dL_law_107 rfl ?_
      refine v_bipush (pc := 109) (v := 8) dL_law_109 (by decide) ?_
      refine v_icmp_ge (pc := 111) (tgt := 119) dL_law_111 (by decide) (fun c111 => ?_) (fun c111 => ?_)
      · refine v_iconst (pc := 119) (v := nI 4) dL_law_119 (by decide) ?_
        refine v_iload (pc := 120) dL_law_120 rfl ?_
        refine vqM (pc := 122) (u := 3000 + 1700 * t + 1) (j := 100) (U := 300052) (As := [.ref (X.1 0 0), .ref M.1.1, .ref M.1.2.1, .int _, .int _]) hNC dL_law_122 cw_L_193 sm_yL_isSewn (c_L_isSewn D X s M G t 4 (x / 40) (by omega) (by omega) hW hL (by omega)) rfl rfl (Nat.le_of_ble_eq_true rfl) ⟨Nat.le_of_ble_eq_true rfl, Nat.le_of_ble_eq_true rfl⟩ ⟨Nat.le_of_ble_eq_true rfl, Nat.le_of_ble_eq_true rfl⟩ ⟨Nat.le_of_ble_eq_true rfl, Nat.le_of_ble_eq_true rfl⟩ (by omega) (fun v G hp => ?_)
        obtain ⟨rfl, X1, s1, M1, h0x, hM1, hW, hL2, hA2⟩ := hp
        rw [← h0x, ← hM1]
        have hA3 := nA_pos hL2 (by omega) hA2
        refine v_goto (pc := 125) (tgt := 227) dL_law_125 (by decide) ?_
        refine vq_u (u' := 3000 + 1700 * t + 200) (by omega) ?_
        exact e_after hS hNC hLb ih ht hx X1 s1 M1 G hW hL2 hA3
      · refine v_iload (pc := 114) dL_law_114 rfl ?_
        refine v_goto (pc := 116) (tgt := 120) dL_law_116 (by decide) ?_
        refine v_iload (pc := 120) dL_law_120 rfl ?_
        refine vqM (pc := 122) (u := 3000 + 1700 * t + 1) (j := 100) (U := 300052) (As := [.ref (X.1 0 0), .ref M.1.1, .ref M.1.2.1, .int _, .int _]) hNC dL_law_122 cw_L_193 sm_yL_isSewn (c_L_isSewn D X s M G t (x % 40) (x / 40) (by omega) (by omega) hW hL (by omega)) rfl rfl (Nat.le_of_ble_eq_true rfl) ⟨Nat.le_of_ble_eq_true rfl, Nat.le_of_ble_eq_true rfl⟩ ⟨Nat.le_of_ble_eq_true rfl, Nat.le_of_ble_eq_true rfl⟩ ⟨Nat.le_of_ble_eq_true rfl, Nat.le_of_ble_eq_true rfl⟩ (by omega) (fun v G hp => ?_)
        obtain ⟨rfl, X1, s1, M1, h0x, hM1, hW, hL2, hA2⟩ := hp
        rw [← h0x, ← hM1]
        have hA3 := nA_pos hL2 (by omega) hA2
        refine v_goto (pc := 125) (tgt := 227) dL_law_125 (by decide) ?_
        refine vq_u (u' := 3000 + 1700 * t + 200) (by omega) ?_
        exact e_after hS hNC hLb ih ht hx X1 s1 M1 G hW hL2 hA3
  · refine v_iconst (pc := 79) (v := nI 0) dL_law_79 (by decide) ?_
    refine v_goto (pc := 80) (tgt := 88) dL_law_80 (by decide) ?_
    refine v_istore (pc := 88) dL_law_88 rfl (by decide) ?_
    refine v_iload (pc := 90) dL_law_90 rfl ?_
    refine v_bipush (pc := 92) (v := 40) dL_law_92 (by decide) ?_
    refine v_ndiv (pc := 94) x 40 dL_law_94 (by omega) (by decide) rfl rfl ?_
    refine v_istore (pc := 95) dL_law_95 rfl (by decide) ?_
    refine v_iload (pc := 97) dL_law_97 rfl ?_
    refine v_bipush (pc := 99) (v := 10) dL_law_99 (by decide) ?_
    refine v_icmp_ge (pc := 101) (tgt := 128) dL_law_101 (by decide) (fun c101 => absurd c101 (by decide)) (fun c101 => ?_)
    refine v_aload_n (pc := 104) dL_law_104 rfl rfl ?_
    refine v_aload_n (pc := 105) dL_law_105 rfl rfl ?_
    refine v_aload_n (pc := 106) dL_law_106 rfl rfl ?_
    refine v_iload (pc := 107) dL_law_107 rfl ?_
    refine v_bipush (pc := 109) (v := 8) dL_law_109 (by decide) ?_
    refine v_icmp_ge (pc := 111) (tgt := 119) dL_law_111 (by decide) (fun c111 => absurd c111 (by decide)) (fun c111 => ?_)
    refine v_iload (pc := 114) dL_law_114 rfl ?_
    refine v_goto (pc := 116) (tgt := 120) dL_law_116 (by decide) ?_
    refine v_iload (pc := 120) dL_law_120 rfl ?_
    refine vqM (pc := 122) (u := 3000 + 1700 * t + 1) (j := 100) (U := 300052) (As := [.ref (X.1 0 0), .ref M.1.1, .ref M.1.2.1, .int _, .int _]) hNC dL_law_122 cw_L_193 sm_yL_isSewn (c_L_isSewn D X s M G t 0 (x / 40) (by omega) (by omega) hW hL (by omega)) rfl rfl (Nat.le_of_ble_eq_true rfl) ⟨Nat.le_of_ble_eq_true rfl, Nat.le_of_ble_eq_true rfl⟩ ⟨Nat.le_of_ble_eq_true rfl, Nat.le_of_ble_eq_true rfl⟩ ⟨Nat.le_of_ble_eq_true rfl, Nat.le_of_ble_eq_true rfl⟩ (by omega) (fun v G hp => ?_)
    obtain ⟨rfl, X1, s1, M1, h0x, hM1, hW, hL2, hA2⟩ := hp
    rw [← h0x, ← hM1]
    have hA3 := nA_pos hL2 (by omega) hA2
    refine v_goto (pc := 125) (tgt := 227) dL_law_125 (by decide) ?_
    refine vq_u (u' := 3000 + 1700 * t + 200) (by omega) ?_
    exact e_after hS hNC hLb ih ht hx X1 s1 M1 G hW hL2 hA3
theorem lw_loop {D : DT} {K : KT} {b L : Nat} {xs : Nat → Int32} (hS : SC K b L xs) (hNC : NC3 K.2.2.2.1) (hLb : L ≤ 260) (hend : ∀ (X : XT) (M : MT) (G : GT), V cL_law RL 10 room_1 D K 280 [some (.ref b), some (.ref (X.1 0 0)), some (.ref M.1.1), some (.ref M.1.2.1), some (.ref M.1.2.2), some (.int 1), some (.int (nI 130)), none, none, none] [] G (nu 300000)) : ∀ (d t : Nat) (X : XT) (s : SG) (M : MT) (G : GT), t + d = 130 → WD X s M G → LI X s M t → (0 < t → 0 < nA s) → V cL_law RL 10 room_1 D K 52 [some (.ref b), some (.ref (X.1 0 0)), some (.ref M.1.1), some (.ref M.1.2.1), some (.ref M.1.2.2), some (.int 1), some (.int (nI t)), none, none, none] [] G (nu (3000 + 1700 * t)) := by
  intro d
  induction d with
  | zero =>
    intro t X s M G he hW hL hA
    obtain rfl : t = 130 := by omega
    refine v_iload (pc := 52) dL_law_52 rfl ?_
    refine v_sipush (pc := 54) (v := 130) dL_law_54 (by decide) ?_
    refine v_icmp_ge (pc := 57) (tgt := 280) dL_law_57 (by decide) (fun c57 => ?_) (fun c57 => absurd c57 (by decide))
    refine vq_u (u' := 300000) (by decide) ?_
    exact hend X M G
  | succ d ih =>
    intro t X s M G he hW hL hA
    exact e_turn hS hNC hLb (fun X s M G hW hL hA => ih (t + 1) X s M G (by omega) hW hL (fun _ => hA)) (by omega) X s M G hW hL hA
