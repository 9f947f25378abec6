theorem vg_of {n : Nat} (h : n < 18446744073709551616) (h2 : n % 9223372036854775808 ≤ 9218868437227405312) : vf_n64 (UInt64.ofNat n) := by
  unfold vf_n64
  rw [UInt64.le_iff_toNat_le, UInt64.toNat_and, UInt64.toNat_ofNat_of_lt' h]
  show n &&& 9223372036854775807 ≤ 9218868437227405312
  rw [show (9223372036854775807 : Nat) = 2 ^ 63 - 1 from rfl, Nat.and_two_pow_sub_one_eq_mod]
  exact h2
def okE (d : FP.Core.Datum) : Prop := match d with
  | .nan => False
  | .inf _ => True
  | .fin _ c q => c < 9007199254740992 ∧ q ≤ 971
theorem b64_tails : FP.Core.Fmt.tails FP.Core.b64 = 4503599627370496 := by decide
theorem b64_exps : FP.Core.Fmt.exps FP.Core.b64 = 2048 := by decide
theorem b64_qmin : FP.Core.Fmt.qmin FP.Core.b64 = -1074 := by decide
theorem b64_qmax : FP.Core.Fmt.qmax FP.Core.b64 = 971 := by decide
theorem asm_okE (s : Bool) {e t : Nat} (he : e ≤ 2047) (ht : t < 4503599627370496) (h : e = 2047 → t = 0) : FP.Core.assemble FP.Core.b64 s e t < 18446744073709551616 ∧ FP.Core.assemble FP.Core.b64 s e t % 9223372036854775808 ≤ 9218868437227405312 := by
  unfold FP.Core.assemble
  rw [b64_tails, b64_exps]
  have hs : s.toNat ≤ 1 := by cases s <;> decide
  constructor
  · omega
  · rcases (show s.toNat = 0 ∨ s.toNat = 1 by omega) with z | z <;> rw [z] <;> omega
theorem enc_okE {d : FP.Core.Datum} (h : okE d) : FP.Core.encode FP.Core.b64 d < 18446744073709551616 ∧ FP.Core.encode FP.Core.b64 d % 9223372036854775808 ≤ 9218868437227405312 := by
  cases d with
  | nan => exact h.elim
  | inf s =>
    show FP.Core.assemble FP.Core.b64 s (FP.Core.Fmt.exps FP.Core.b64 - 1) 0 < _ ∧ _
    rw [b64_exps]
    exact asm_okE s (by decide) (by decide) (fun _ => rfl)
  | fin s c q =>
    obtain ⟨h1, h2⟩ := h
    simp only [FP.Core.encode]
    rw [b64_tails, b64_qmin]
    split
    · next hc => exact asm_okE s (by decide) hc (fun z => absurd z (by decide))
    · next hc => exact asm_okE s (by omega) (by omega) (fun z => absurd z (by omega))
theorem rnd_okE {d : FP.Core.Datum} (h : d ≠ .nan) : okE (FP.Core.round FP.Core.b64 d) := by
  cases d with
  | nan => exact absurd rfl h
  | inf s => trivial
  | fin s c q =>
    simp only [FP.Core.round, FP.Core.roundRatio]
    split
    · exact ⟨by decide, by rw [b64_qmin]; decide⟩
    · simp only [FP.Core.roundAt, FP.Core.settle, FP.Core.bound]
      rw [b64_qmax, b64_tails]
      split
      · next hc =>
        split
        · next hq => exact ⟨hc, hq⟩
        · trivial
      · split
        · next hq => exact ⟨by decide, hq⟩
        · trivial
theorem f2d_nn {x : UInt32} (h : vf_n32 x) : vf_n64 (FP.f2d x) := by
  have h1 := dat_nn h
  have h2 : FP.Core.fIsNaN x = false := decide_eq_false h1
  unfold FP.f2d
  rw [h2]
  have h4 := enc_okE (rnd_okE h1)
  exact vg_of h4.1 h4.2
