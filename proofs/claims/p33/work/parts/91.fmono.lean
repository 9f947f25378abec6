/-! floats: what is greater stays so, rounded -/
theorem nr_dn (A B : Nat) : A / B ≤ FP.Core.nearest A B := by
  unfold FP.Core.nearest
  generalize A / B = a
  generalize A % B = r
  split
  · omega
  · split <;> omega
theorem nr_up (A B : Nat) : FP.Core.nearest A B ≤ A / B + 1 := by
  unfold FP.Core.nearest
  generalize A / B = a
  generalize A % B = r
  split
  · omega
  · split <;> omega
theorem nr_mono {A A' B : Nat} (h : A ≤ A') : FP.Core.nearest A B ≤ FP.Core.nearest A' B := by
  have hd : A / B ≤ A' / B := Nat.div_le_div_right h
  by_cases c : A / B = A' / B
  · have hm : A % B ≤ A' % B := by
      have h1 := Nat.div_add_mod A B
      have h2 := Nat.div_add_mod A' B
      rw [c] at h1
      generalize B * (A' / B) = x at h1 h2
      omega
    unfold FP.Core.nearest
    rw [c]
    generalize A' / B = a
    generalize A % B = r at hm ⊢
    generalize A' % B = r' at hm ⊢
    split
    · split
      · omega
      · split <;> omega
    · split
      · split
        · omega
        · split <;> omega
      · split
        · omega
        · split <;> omega
  · have h1 := nr_up A B
    have h2 := nr_dn A' B
    omega
theorem nr_scale (A B m : Nat) (hm : 0 < m) : FP.Core.nearest (A * m) (B * m) = FP.Core.nearest A B := by
  unfold FP.Core.nearest
  rw [Nat.mul_div_mul_right _ _ hm, Nat.mul_mod_mul_right]
  have e1 : (2 * (A % B * m) < B * m) = (2 * (A % B) < B) := by
    rw [← Nat.mul_assoc]
    exact propext ⟨fun z => Nat.lt_of_mul_lt_mul_right z, fun z => Nat.mul_lt_mul_of_pos_right z hm⟩
  have e2 : (B * m < 2 * (A % B * m)) = (B < 2 * (A % B)) := by
    rw [← Nat.mul_assoc]
    exact propext ⟨fun z => Nat.lt_of_mul_lt_mul_right z, fun z => Nat.mul_lt_mul_of_pos_right z hm⟩
  simp only [e1, e2]
theorem nr_le {A B N : Nat} (hB : 0 < B) (h : A < N * B) : FP.Core.nearest A B ≤ N := by
  have := (Nat.div_lt_iff_lt_mul hB).mpr h
  have := nr_up A B
  omega
theorem nr_ge {A B N : Nat} (hB : 0 < B) (h : N * B ≤ A) : N ≤ FP.Core.nearest A B := by
  have := (Nat.le_div_iff_mul_le hB).mpr h
  have := nr_dn A B
  omega
def rvQ (V : Nat) : Nat := max 251 (V.log2 - 23)
def rvN (V : Nat) : Nat := FP.Core.nearest V (2 ^ rvQ V)
def rvV (V : Nat) : Nat := rvN V * 2 ^ rvQ V
theorem rvN_le (V : Nat) : rvN V ≤ 2 ^ 24 := by
  refine nr_le (Nat.two_pow_pos _) ?_
  rw [← Nat.pow_add]
  refine Nat.lt_of_lt_of_le (Nat.lt_log2_self (n := V)) (Nat.pow_le_pow_right (by decide) ?_)
  unfold rvQ
  omega
theorem rvN_ge {V : Nat} (hV : 0 < V) (h : 251 < rvQ V) : 2 ^ 23 ≤ rvN V := by
  refine nr_ge (Nat.two_pow_pos _) ?_
  rw [← Nat.pow_add]
  refine Nat.le_trans (Nat.pow_le_pow_right (by decide) ?_) (Nat.log2_self_le (by omega))
  unfold rvQ at h ⊢
  omega
theorem lg_mono {V V' : Nat} (h : V ≤ V') (hV : 0 < V) : V.log2 ≤ V'.log2 := by
  refine Classical.byContradiction fun z => ?_
  have h1 := Nat.log2_self_le (n := V) (by omega)
  have h2 := Nat.lt_log2_self (n := V')
  have h3 : 2 ^ (V'.log2 + 1) ≤ 2 ^ V.log2 := Nat.pow_le_pow_right (by decide) (by omega)
  omega
theorem rv_mono {V V' : Nat} (hV : 0 < V) (h : V ≤ V') : rvV V ≤ rvV V' := by
  have hl := lg_mono h hV
  unfold rvV
  by_cases c : rvQ V = rvQ V'
  · have : rvN V ≤ rvN V' := by unfold rvN; rw [c]; exact nr_mono h
    rw [c]
    exact Nat.mul_le_mul_right _ this
  · have hQ : rvQ V < rvQ V' := by unfold rvQ at c ⊢; omega
    have h1 := rvN_le V
    have h2 := rvN_ge (V := V') (by omega) (by unfold rvQ at hQ ⊢; omega)
    refine Nat.le_trans (Nat.mul_le_mul_right _ h1) (Nat.le_trans ?_ (Nat.mul_le_mul_right _ h2))
    rw [← Nat.pow_add, ← Nat.pow_add]
    exact Nat.pow_le_pow_right (by decide) (by omega)
theorem rv_dn {V j : Nat} (hj : 300 ≤ j) (h : 2 ^ j ≤ V) : 2 ^ j ≤ rvV V := by
  have hp := Nat.two_pow_pos j
  have hV : V.log2 ≥ j := by
    refine Classical.byContradiction fun z => ?_
    have h2 := Nat.lt_log2_self (n := V)
    have h3 : 2 ^ (V.log2 + 1) ≤ 2 ^ j := Nat.pow_le_pow_right (by decide) (by omega)
    omega
  have hq : rvQ V = V.log2 - 23 := by unfold rvQ; omega
  have h2 := rvN_ge (V := V) (by omega) (by omega)
  unfold rvV
  refine Nat.le_trans ?_ (Nat.mul_le_mul_right _ h2)
  rw [← Nat.pow_add]
  exact Nat.pow_le_pow_right (by decide) (by omega)
theorem rv_ups {V j : Nat} (hj : 300 ≤ j) (h : V < 2 ^ j) : rvV V ≤ 2 ^ j := by
  have hV : V.log2 < j := by
    refine Classical.byContradiction fun z => ?_
    have hV0 : V ≠ 0 := fun e => by rw [e] at z; exact z (by rw [Nat.log2_zero]; omega)
    have h2 := Nat.log2_self_le hV0
    have h3 : 2 ^ j ≤ 2 ^ V.log2 := Nat.pow_le_pow_right (by decide) (by omega)
    omega
  unfold rvV
  refine Nat.le_trans (Nat.mul_le_mul_right _ (rvN_le V)) ?_
  rw [← Nat.pow_add]
  refine Nat.pow_le_pow_right (by decide) ?_
  unfold rvQ
  omega
theorem lead_1 {N : Nat} (hN : 0 < N) : FP.Core.leading N 1 = (N.log2 : Int) := by
  unfold FP.Core.leading
  have h1 : (1 : Nat).log2 = 0 := by decide
  rw [h1]
  have e1 : ((N.log2 : Int) - ((0 : Nat) : Int)) = (N.log2 : Int) := by omega
  rw [e1]
  have e2 : ((N.log2 : Int)).toNat = N.log2 := rfl
  have e3 : (-(N.log2 : Int)).toNat = 0 := by omega
  show (if 1 * 2 ^ ((N.log2 : Int)).toNat ≤ N * 2 ^ (-(N.log2 : Int)).toNat then (N.log2 : Int) else _) = _
  rw [e2, e3, Nat.one_mul, Nat.pow_zero, Nat.mul_one, if_pos (Nat.log2_self_le (by omega))]
theorem lg_shift {N E : Nat} (hN : 0 < N) : (N * 2 ^ E).log2 = N.log2 + E := by
  have h1 := Nat.log2_self_le (n := N) (by omega)
  have h2 := Nat.lt_log2_self (n := N)
  have hE := Nat.two_pow_pos E
  have hV : N * 2 ^ E ≠ 0 := by
    have := Nat.mul_pos hN hE
    omega
  have a1 : 2 ^ (N.log2 + E) ≤ N * 2 ^ E := by rw [Nat.pow_add]; exact Nat.mul_le_mul_right _ h1
  have a2 : N * 2 ^ E < 2 ^ (N.log2 + 1 + E) := by rw [Nat.pow_add]; exact Nat.mul_lt_mul_of_pos_right h2 hE
  have b1 := Nat.log2_self_le hV
  have b2 := Nat.lt_log2_self (n := N * 2 ^ E)
  have c1 : N.log2 + E < (N * 2 ^ E).log2 + 1 := (Nat.pow_lt_pow_iff_right (a := 2) (by decide)).mp (by omega)
  have c2 : (N * 2 ^ E).log2 < N.log2 + 1 + E := (Nat.pow_lt_pow_iff_right (a := 2) (by decide)).mp (by omega)
  omega
theorem rr_v {s : Bool} {N : Nat} {e : Int} (hN : 0 < N) (he : -400 ≤ e) (hu : N.log2 + e ≤ 100) : ∃ c q, FP.Core.roundRatio FP.Core.b32 s N 1 e = .fin s c q ∧ -149 ≤ q ∧ q ≤ 104 ∧ c < 2 ^ 24 ∧ (2 ^ 23 ≤ c ∨ q = -149) ∧ c * 2 ^ (q + 400).toNat = rvV (N * 2 ^ (e + 400).toNat) := by
  obtain ⟨E, hE⟩ : ∃ E : Nat, e + 400 = (E : Int) := ⟨(e + 400).toNat, by omega⟩
  have hEt : (e + 400).toNat = E := by omega
  rw [hEt]
  have hlg := lg_shift (E := E) hN
  have hV : 0 < N * 2 ^ E := Nat.mul_pos hN (Nat.two_pow_pos E)
  obtain ⟨q, hq⟩ : ∃ q, q = FP.Core.quantum FP.Core.b32 N 1 e := ⟨_, rfl⟩
  have hqv : q = max (-149) ((N.log2 : Int) + e - 23) := by
    rw [hq]
    unfold FP.Core.quantum
    rw [lead_1 hN, b32_qmin]
    rfl
  have hQ : (q + 400).toNat = rvQ (N * 2 ^ E) := by
    unfold rvQ
    rw [hlg]
    omega
  have hn : FP.Core.nearest (FP.Core.unitsNum N e q) (FP.Core.unitsDen 1 e q) = rvN (N * 2 ^ E) := by
    unfold rvN FP.Core.unitsNum FP.Core.unitsDen
    rw [← hQ]
    by_cases c : q ≤ e
    · have e1 : (q - e).toNat = 0 := by omega
      have e2 : E = (e - q).toNat + (q + 400).toNat := by omega
      rw [e1, Nat.pow_zero, Nat.mul_one, ← nr_scale _ 1 (2 ^ (q + 400).toNat) (Nat.two_pow_pos _), Nat.one_mul, Nat.mul_assoc, ← Nat.pow_add, ← e2]
    · have e1 : (e - q).toNat = 0 := by omega
      have e2 : (q + 400).toNat = (q - e).toNat + E := by omega
      rw [e1, Nat.pow_zero, Nat.mul_one, ← nr_scale _ (1 * 2 ^ (q - e).toNat) (2 ^ E) (Nat.two_pow_pos _), Nat.one_mul, ← Nat.pow_add, ← e2]
  unfold FP.Core.roundRatio
  rw [if_neg (by omega), ← hq]
  unfold FP.Core.roundAt FP.Core.settle FP.Core.bound
  rw [hn, b32_qmax, b32_tails]
  have hp : (2 : Nat) ^ FP.Core.Fmt.p FP.Core.b32 = 2 ^ 24 := rfl
  rw [hp]
  have hle := rvN_le (N * 2 ^ E)
  have hge := rvN_ge hV
  by_cases c : rvN (N * 2 ^ E) < 2 ^ 24
  · rw [if_pos c, if_pos (by omega)]
    refine ⟨_, _, rfl, by omega, by omega, c, ?_, by rw [hQ]; rfl⟩
    by_cases d : 251 < rvQ (N * 2 ^ E)
    · exact Or.inl (hge d)
    · refine Or.inr ?_
      omega
  · rw [if_neg c, if_pos (by omega)]
    refine ⟨_, _, rfl, by omega, by omega, by decide, Or.inl (by decide), ?_⟩
    have e24 : rvN (N * 2 ^ E) = 2 ^ 24 := by omega
    unfold rvV
    rw [e24, ← hQ, show (q + 1 + 400).toNat = 1 + (q + 400).toNat by omega, Nat.pow_add, ← Nat.mul_assoc]
theorem dec_n (n : Nat) : FP.Core.decode FP.Core.b32 n = if n / 8388608 % 256 = 255 then (if n % 8388608 = 0 then .inf (n / 8388608 / 256 % 2 == 1) else .nan) else if n / 8388608 % 256 = 0 then .fin (n / 8388608 / 256 % 2 == 1) (n % 8388608) (-149) else .fin (n / 8388608 / 256 % 2 == 1) (8388608 + n % 8388608) (-149 + (((n / 8388608 % 256 : Nat) : Int) - 1)) := by
  simp only [FP.Core.decode, FP.Core.fieldE, FP.Core.fieldT, FP.Core.fieldS, b32_tails, b32_exps, b32_qmin]
theorem dec_enc {c : Nat} {q : Int} (h1 : -149 ≤ q) (h2 : q ≤ 104) (hc : c < 2 ^ 24) (h3 : 2 ^ 23 ≤ c ∨ q = -149) : FP.Core.decode FP.Core.b32 (FP.Core.encode FP.Core.b32 (.fin false c q)) = .fin false c q := by
  have hc' : c < 16777216 := hc
  simp only [FP.Core.encode]
  rw [b32_tails, b32_qmin]
  split
  · next hlt =>
    have hq : q = -149 := by
      rcases h3 with z | z
      · have : (8388608 : Nat) ≤ c := z
        omega
      · exact z
    have ea : FP.Core.assemble FP.Core.b32 false 0 c = c := by unfold FP.Core.assemble; rw [b32_tails, b32_exps]; show (0 * 256 + 0) * 8388608 + c = c; omega
    rw [ea, dec_n]
    rw [if_neg (by omega), if_pos (by omega), hq]
    have e1 : c % 8388608 = c := by omega
    have e2 : c / 8388608 / 256 % 2 = 0 := by omega
    rw [e1, e2]
    rfl
  · next hge =>
    obtain ⟨E, hE⟩ : ∃ E : Nat, q + 149 = (E : Int) := ⟨(q + 149).toNat, by omega⟩
    have et : (q - -149).toNat = E := by omega
    rw [et]
    have ea : FP.Core.assemble FP.Core.b32 false (E + 1) (c - 8388608) = (E + 1) * 8388608 + (c - 8388608) := by unfold FP.Core.assemble; rw [b32_tails, b32_exps]; show (0 * 256 + (E + 1)) * 8388608 + _ = _; omega
    rw [ea, dec_n]
    have e0 : ((E + 1) * 8388608 + (c - 8388608)) / 8388608 = E + 1 := by omega
    have e1 : ((E + 1) * 8388608 + (c - 8388608)) % 8388608 = c - 8388608 := by omega
    rw [e0, e1]
    have e2 : (E + 1) % 256 = E + 1 := by omega
    have e3 : (E + 1) / 256 % 2 = 0 := by omega
    rw [e2, e3, if_neg (by omega), if_neg (by omega)]
    have e4 : 8388608 + (c - 8388608) = c := by omega
    have e5 : (-149 : Int) + (((E + 1 : Nat) : Int) - 1) = q := by omega
    rw [e4, e5]
    rfl
/-- a float that is v units of 2^-200 -/
def FV (x : UInt32) (v : Nat) : Prop := ∃ c q, fdat x = .fin false c q ∧ -149 ≤ q ∧ v = c * 2 ^ (q + 200).toNat
theorem FV.mul {x y : UInt32} {v w : Nat} (hx : FV x v) (hy : FV y w) (hv : 0 < v) (hw : 0 < w) (hu : v * w < 2 ^ 480) : ∃ u, FV (FP.fmul x y) u ∧ u * 2 ^ 200 = rvV (v * w) := by
  obtain ⟨c, q, e1, h1, e2⟩ := hx
  obtain ⟨d, r, f1, g1, f2⟩ := hy
  have hc : 0 < c := Nat.pos_of_ne_zero (fun z => by rw [z, Nat.zero_mul] at e2; omega)
  have hd : 0 < d := Nat.pos_of_ne_zero (fun z => by rw [z, Nat.zero_mul] at f2; omega)
  have hcd : 0 < c * d := Nat.mul_pos hc hd
  have hV : c * d * 2 ^ (q + r + 400).toNat = v * w := by
    rw [e2, f2, show (q + r + 400).toNat = (q + 200).toNat + (r + 200).toNat by omega, Nat.pow_add]
    exact Nat.mul_mul_mul_comm _ _ _ _
  have hl := lg_shift (N := c * d) (E := (q + r + 400).toNat) hcd
  rw [hV] at hl
  have hlt : (v * w).log2 < 480 := by
    refine (Nat.pow_lt_pow_iff_right (a := 2) (by decide)).mp ?_
    exact Nat.lt_of_le_of_lt (Nat.log2_self_le (by have := Nat.mul_pos hv hw; omega)) hu
  obtain ⟨c', q', k1, k2, k3, k4, k5, k6⟩ := rr_v (s := false) hcd (show -400 ≤ q + r by omega) (by omega)
  rw [hV] at k6
  refine ⟨c' * 2 ^ (q' + 200).toNat, ⟨c', q', ?_, k2, rfl⟩, ?_⟩
  · show FP.Core.decode FP.Core.b32 (UInt32.ofNat (FP.Core.encode FP.Core.b32 (FP.Core.round FP.Core.b32 (FP.Core.exactProduct (fdat x) (fdat y))))).toNat = _
    rw [UInt32.toNat_ofNat_of_lt' (enc_lt _), e1, f1]
    show FP.Core.decode FP.Core.b32 (FP.Core.encode FP.Core.b32 (FP.Core.roundRatio FP.Core.b32 false (c * d) 1 (q + r))) = _
    rw [k1]
    exact dec_enc k2 k3 k4 k5
  · rw [← k6, Nat.mul_assoc, ← Nat.pow_add, show (q' + 200).toNat + 200 = (q' + 400).toNat by omega]
theorem FV.f2i {x : UInt32} {u : Nat} (h : FV x u) (hu : u < 2 ^ 230) : FP.f2i x = nI (u / 2 ^ 200) ∧ u / 2 ^ 200 < 2 ^ 30 := by
  obtain ⟨c, q, e1, h1, e2⟩ := h
  have hb : u / 2 ^ 200 < 2 ^ 30 := (Nat.div_lt_iff_lt_mul (Nat.two_pow_pos _)).mpr (by rw [← Nat.pow_add]; exact hu)
  refine ⟨?_, hb⟩
  have ed : c * 2 ^ q.toNat / 2 ^ (-q).toNat = u / 2 ^ 200 := by
    rw [e2]
    by_cases z : 0 ≤ q
    · rw [show (-q).toNat = 0 by omega, Nat.pow_zero, Nat.div_one, show (q + 200).toNat = q.toNat + 200 by omega, Nat.pow_add, ← Nat.mul_assoc, Nat.mul_div_cancel _ (Nat.two_pow_pos 200)]
    · rw [show q.toNat = 0 by omega, Nat.pow_zero, Nat.mul_one, show (2 : Nat) ^ 200 = 2 ^ ((-q).toNat + (q + 200).toNat) by rw [show (-q).toNat + (q + 200).toNat = 200 by omega], Nat.pow_add]
      exact (Nat.mul_div_mul_right _ _ (Nat.two_pow_pos _)).symm
  show FP.Core.toI (fdat x) = _
  rw [e1]
  unfold FP.Core.toI
  simp only [FP.Core.toInt, FP.Core.truncate, FP.Core.signed]
  rw [ed]
  generalize u / 2 ^ 200 = m at hb ⊢
  have hm : (2 : Nat) ^ 30 = 1073741824 := rfl
  have e3 : max (-2 ^ 31 : Int) (min (2 ^ 31 - 1) (if false = true then -(m : Int) else (m : Int))) = (m : Int) := by
    rw [if_neg (by decide)]
    omega
  rw [e3]
  rfl
def dEq (x : UInt32) (c : Nat) (q : Int) : Bool := decide (fdat x = .fin false c q)
theorem i2f_d : ∀ k, k < 101 → 0 < k → dEq (FP.i2f (nI k)) (k * 2 ^ (23 - k.log2)) ((k.log2 : Int) - 23) = true := by decide +kernel
theorem FV.i2f {k : Nat} (h : k < 101) (h0 : 0 < k) : FV (FP.i2f (nI k)) (k * 2 ^ 200) := by
  have h7 : k.log2 < 7 := (Nat.pow_lt_pow_iff_right (a := 2) (by decide)).mp (Nat.lt_of_le_of_lt (Nat.log2_self_le (by omega)) (by omega))
  refine ⟨_, _, of_decide_eq_true (i2f_d k h h0), by omega, ?_⟩
  rw [Nat.mul_assoc, ← Nat.pow_add, show 23 - k.log2 + ((k.log2 : Int) - 23 + 200).toNat = 200 by omega]
def fLo : Nat := 897581056
def fHi : Nat := 1149239296
theorem FV.rng {z : UInt32} (h1 : fLo ≤ z.toNat) (h2 : z.toNat < fHi) : ∃ v, FV z v ∧ 2 ^ 180 ≤ v ∧ v < 2 ^ 210 := by
  unfold fLo at h1
  unfold fHi at h2
  obtain ⟨E, hE⟩ : ∃ E, E = z.toNat / 8388608 := ⟨_, rfl⟩
  have hr : 107 ≤ E ∧ E ≤ 136 := by omega
  refine ⟨_, ⟨8388608 + z.toNat % 8388608, (E : Int) - 150, ?_, by omega, rfl⟩, ?_, ?_⟩
  · rw [fdat, dec_n, ← hE]
    have e2 : E % 256 = E := by omega
    have e3 : E / 256 % 2 = 0 := by omega
    rw [e2, e3, if_neg (by omega), if_neg (by omega)]
    have e5 : (-149 : Int) + ((E : Int) - 1) = (E : Int) - 150 := by omega
    rw [e5]
    rfl
  · refine Nat.le_trans (show 2 ^ 180 ≤ 2 ^ (23 + ((E : Int) - 150 + 200).toNat) from Nat.pow_le_pow_right (by decide) (by omega)) ?_
    rw [Nat.pow_add]
    exact Nat.mul_le_mul_right _ (by show (8388608 : Nat) ≤ _; omega)
  · refine Nat.lt_of_lt_of_le ?_ (show 2 ^ (24 + ((E : Int) - 150 + 200).toNat) ≤ 2 ^ 210 from Nat.pow_le_pow_right (by decide) (by omega))
    rw [Nat.pow_add]
    refine Nat.mul_lt_mul_of_pos_right ?_ (Nat.two_pow_pos _)
    show _ < 16777216
    omega
theorem pw_v {C : UInt32} {v k : Nat} (hC : FV C v) (h1 : 2 ^ 180 ≤ v) (h2 : v < 2 ^ 210) (hk : k < 101) (hk0 : 0 < k) : ∃ u w, u * 2 ^ 200 = rvV (v * (k * 2 ^ 200)) ∧ FV (FP.fmul (FP.fmul C (FP.i2f (nI k))) (FP.i2f (nI k))) w ∧ w * 2 ^ 200 = rvV (u * (k * 2 ^ 200)) ∧ w < 2 ^ 230 ∧ 0 < u := by
  have hK := FV.i2f hk hk0
  have hp2 := Nat.two_pow_pos 200
  have hkp : 0 < k * 2 ^ 200 := Nat.mul_pos hk0 hp2
  have hkl : 2 ^ 200 ≤ k * 2 ^ 200 := Nat.le_mul_of_pos_left _ hk0
  have hku : k * 2 ^ 200 < 2 ^ 207 := by
    rw [show (2 : Nat) ^ 207 = 2 ^ 7 * 2 ^ 200 by rw [← Nat.pow_add]]
    exact Nat.mul_lt_mul_of_pos_right (by omega) hp2
  have hv : 0 < v := Nat.lt_of_lt_of_le (Nat.two_pow_pos 180) h1
  have a1 : v * (k * 2 ^ 200) < 2 ^ 417 := by
    rw [show (2 : Nat) ^ 417 = 2 ^ 210 * 2 ^ 207 by rw [← Nat.pow_add]]
    exact Nat.lt_of_le_of_lt (Nat.mul_le_mul_right _ (Nat.le_of_lt h2)) (Nat.mul_lt_mul_of_pos_left hku (Nat.two_pow_pos 210))
  have a2 : 2 ^ 380 ≤ v * (k * 2 ^ 200) := by
    rw [show (2 : Nat) ^ 380 = 2 ^ 180 * 2 ^ 200 by rw [← Nat.pow_add]]
    exact Nat.mul_le_mul h1 hkl
  obtain ⟨u, hu, eu⟩ := FV.mul hC hK hv hkp (Nat.lt_of_lt_of_le a1 (Nat.pow_le_pow_right (by decide) (by decide)))
  have b1 := rv_dn (j := 380) (by decide) a2
  have b2 := rv_ups (j := 417) (by decide) a1
  rw [← eu] at b1 b2
  have u1 : 2 ^ 180 ≤ u := by
    rw [show (2 : Nat) ^ 380 = 2 ^ 180 * 2 ^ 200 by rw [← Nat.pow_add]] at b1
    exact Nat.le_of_mul_le_mul_right b1 hp2
  have u2 : u ≤ 2 ^ 217 := by
    rw [show (2 : Nat) ^ 417 = 2 ^ 217 * 2 ^ 200 by rw [← Nat.pow_add]] at b2
    exact Nat.le_of_mul_le_mul_right b2 hp2
  have hu0 : 0 < u := Nat.lt_of_lt_of_le (Nat.two_pow_pos 180) u1
  have c1 : u * (k * 2 ^ 200) < 2 ^ 424 := by
    refine Nat.lt_of_le_of_lt (Nat.mul_le_mul_right _ u2) ?_
    rw [show (2 : Nat) ^ 424 = 2 ^ 217 * 2 ^ 207 by rw [← Nat.pow_add]]
    exact Nat.mul_lt_mul_of_pos_left hku (Nat.two_pow_pos 217)
  obtain ⟨w, hw, ew⟩ := FV.mul hu hK hu0 hkp (Nat.lt_of_lt_of_le c1 (Nat.pow_le_pow_right (by decide) (by decide)))
  have d2 := rv_ups (j := 424) (by decide) c1
  rw [← ew] at d2
  have w2 : w ≤ 2 ^ 224 := by
    rw [show (2 : Nat) ^ 424 = 2 ^ 224 * 2 ^ 200 by rw [← Nat.pow_add]] at d2
    exact Nat.le_of_mul_le_mul_right d2 hp2
  exact ⟨u, w, eu, hw, ew, Nat.lt_of_le_of_lt w2 (Nat.pow_lt_pow_right (by decide) (by decide)), hu0⟩
theorem pw_up {C : UInt32} {v k : Nat} (hC : FV C v) (h1 : 2 ^ 180 ≤ v) (h2 : v < 2 ^ 210) (hk : k + 1 < 101) : FP.f2i (FP.fmul (FP.fmul C (FP.i2f (nI k))) (FP.i2f (nI k))) ≤ FP.f2i (FP.fmul (FP.fmul C (FP.i2f (nI (k + 1)))) (FP.i2f (nI (k + 1)))) := by
  obtain ⟨u', w', p1, p2, p3, p4, p5⟩ := pw_v hC h1 h2 hk (Nat.succ_pos k)
  obtain ⟨q1, q2⟩ := FV.f2i p2 p4
  have e30 : (2 : Nat) ^ 30 = 1073741824 := rfl
  rw [q1]
  rcases Nat.eq_zero_or_pos k with rfl | hk0
  · have e0 : FP.i2f (nI 0) = 0 := by decide +kernel
    obtain ⟨c, q, ec, -, -⟩ := hC
    rw [e0]
    have z : FP.f2i (FP.fmul (FP.fmul C 0) 0) = 0 := by
      rcases mul_0 ec with z | z <;> rw [z] <;> decide +kernel
    rw [z]
    exact (nI_leI (a := 0) (by decide) (by omega)).mpr (Nat.zero_le _)
  · obtain ⟨u, w, r1, r2, r3, r4, r5⟩ := pw_v hC h1 h2 (show k < 101 by omega) hk0
    obtain ⟨t1, t2⟩ := FV.f2i r2 r4
    rw [t1]
    have hp2 := Nat.two_pow_pos 200
    have hv : 0 < v := Nat.lt_of_lt_of_le (Nat.two_pow_pos 180) h1
    have hkk : k * 2 ^ 200 ≤ (k + 1) * 2 ^ 200 := Nat.mul_le_mul_right _ (by omega)
    have g1 : u ≤ u' := by
      have := rv_mono (Nat.mul_pos hv (Nat.mul_pos hk0 hp2)) (Nat.mul_le_mul_left v hkk)
      rw [← r1, ← p1] at this
      exact Nat.le_of_mul_le_mul_right this hp2
    have g2 : w ≤ w' := by
      have := rv_mono (Nat.mul_pos r5 (Nat.mul_pos hk0 hp2)) (Nat.mul_le_mul g1 hkk)
      rw [← r3, ← p3] at this
      exact Nat.le_of_mul_le_mul_right this hp2
    exact (nI_leI (by omega) (by omega)).mpr (Nat.div_le_div_right g2)
