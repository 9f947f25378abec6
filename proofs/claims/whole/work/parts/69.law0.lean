theorem AG_thr (s : SG) (x : Int32) : AG s (thr s x) := ⟨fun k hk _ => u2_rown _ _ _ (by omega), rfl, rfl⟩
/-! what was thrown before means nothing -/
theorem step_k {s : SG} {k : Nat} (h15 : k ≠ 15) (h16 : k ≠ 16) : (stepS s).1 k = s.1 k := funext fun j => by
  show (if k = 15 ∧ j < 36 then _ else if k = 16 ∧ j < 36 then _ else s.1 k j) = s.1 k j
  rw [if_neg (fun z => h15 z.1), if_neg (fun z => h16 z.1)]
theorem stC_k {s : SG} {k : Nat} (h15 : k ≠ 15) (h46 : k ≠ 46) : (stC s 36).1 k = s.1 k := funext fun j => by
  show (if k = 46 then _ else if k = 15 ∧ j < 36 then _ else s.1 k j) = s.1 k j
  rw [if_neg h46, if_neg (fun z => h15 z.1)]
/-- alike in what the net's reckonings read -/
def NE (s t : SG) : Prop := (∀ k, k < 38 → k ≠ 16 → t.1 k = s.1 k) ∧ t.2 = s.2
theorem NE.nx {s t : SG} (h : NE s t) (i : Nat) : nxS t i = nxS s i := by
  rw [nxS, nxS, h.1 17 (by decide) (by decide), h.1 15 (by decide) (by decide), cmS_eq (s := s) (s' := t) (h.1 15 (by decide) (by decide)) (by rw [h.1 18 (by decide) (by decide)]) i]
theorem NE.mv {s t : SG} (h : NE s t) : ∀ i, mvF t i = mvF s i := by
  intro i
  induction i with
  | zero => rfl
  | succ i ih => rw [mvF, mvF, ih, h.nx i, h.1 15 (by decide) (by decide)]
theorem NE.st {s t : SG} (h : NE s t) : NE (stC s 36) (stepS t) := by
  refine ⟨fun k hk h16 => ?_, h.2⟩
  by_cases h15 : k = 15
  · subst h15
    refine funext fun j => ?_
    show (if 15 = 15 ∧ j < 36 then nxS t j else if 15 = 16 ∧ j < 36 then nxS t j else t.1 15 j) = if 15 = 46 then s.1 15 j else if 15 = 15 ∧ j < 36 then nxS s j else s.1 15 j
    rw [if_neg (show ¬ (15 = 46) by decide), h.nx j, h.1 15 hk h16, if_neg (show ¬ (15 = 16 ∧ j < 36) from fun z => absurd z.1 (by decide))]
  · rw [step_k h15 h16, stC_k h15 (by omega)]
    exact h.1 k hk h16
theorem NE.run : ∀ (n : Nat) {s t : SG}, NE s t → NE (runC s n).1 (runS t n).1 ∧ (runC s n).2 = (runS t n).2 := by
  intro n
  induction n with
  | zero => intro s t h; exact ⟨h, rfl⟩
  | succ n ih =>
    intro s t h
    rw [runC, runS, h.mv 36]
    by_cases c : mvF s 36 = true
    · rw [if_pos c, if_pos c]
      obtain ⟨g1, g2⟩ := ih h.st
      exact ⟨g1, by rw [g2]⟩
    · rw [if_neg c, if_neg c]
      exact ⟨h.st, rfl⟩
theorem NE.thr (s : SG) (x : Int32) : NE s (thr s x) := ⟨fun k hk _ => u2_rown _ _ _ (by omega), rfl⟩
theorem NE.ag {s t : SG} (h : NE s t) : AG s t := ⟨h.1, by rw [h.2], by rw [h.2]⟩
theorem run_38 : ∀ (n : Nat) (s : SG), (runS s n).1.1 38 = s.1 38 := by
  intro n
  induction n with
  | zero => intro s; rfl
  | succ n ih =>
    intro s
    rw [runS]
    split
    · show (runS (stepS s) n).1.1 38 = _
      rw [ih]; exact step_k (by decide) (by decide)
    · exact step_k (by decide) (by decide)
theorem runC_k : ∀ (n : Nat) (s : SG) (k : Nat), k ≠ 15 → k ≠ 46 → (runC s n).1.1 k = s.1 k := by
  intro n
  induction n with
  | zero => intro s k _ _; rfl
  | succ n ih =>
    intro s k h1 h2
    rw [runC]
    split
    · show (runC (stC s 36) n).1.1 k = _
      rw [ih _ _ h1 h2]; exact stC_k h1 h2
    · exact stC_k h1 h2
theorem runC_2 : ∀ (n : Nat) (s : SG), (runC s n).1.2 = s.2 := by
  intro n
  induction n with
  | zero => intro s; rfl
  | succ n ih =>
    intro s
    rw [runC]
    split
    · show (runC (stC s 36) n).1.2 = _
      rw [ih]; rfl
    · rfl
theorem alF_thr (s : SG) (x : Int32) : ∀ i, alF (thr s x) i = alF s i := by
  intro i
  induction i with
  | zero => rfl
  | succ i ih => rw [alF, alF, ih]; rfl
theorem lowA_thr (s : SG) (x : Int32) : ∀ i, lowA (thr s x) i = lowA s i := by
  intro i
  induction i with
  | zero => rfl
  | succ i ih => rw [lowA, lowA, ih]; rfl
theorem lfF_thr (s : SG) (x : Int32) (f : Int64) (al : Int32) : ∀ i, lfF (thr s x) f al i = lfF s f al i := by
  intro i
  induction i with
  | zero => rfl
  | succ i ih => rw [lfF, lfF, ih]; rfl
theorem otF_thr (s : SG) (x : Int32) : ∀ i, otF (thr s x) i = otF s i := by
  intro i
  induction i with
  | zero => rfl
  | succ i ih => rw [otF, otF, ih]; rfl
theorem shr2_thr (s : SG) (x : Int32) (f : Int64) (g : Nat) : shr2 (thr s x) f g = thr (shr2 s f g) x := by
  unfold shr2
  rw [lowA_thr, alF_thr, lfF_thr]
  cases lowA s g with
  | none => rfl
  | some k => rfl
theorem shO_thr (s : SG) (x : Int32) (i : Nat) : shO (thr s x) i = thr (shO s i) x := by
  refine Prod.ext (funext fun k => funext fun j => ?_) rfl
  show (if k = 22 ∧ j < i ∧ ¬ s.1 22 j = 0 ∧ s.2 20 j < s.2 23 j then 0 else u2 s.1 38 0 x k j) = u2 (shO s i).1 38 0 x k j
  simp only [u2]
  by_cases h : k = 38 ∧ j = 0
  · rw [if_neg (fun z => by omega), if_pos h, if_pos h]
  · rw [if_neg h, if_neg h]; rfl
theorem shr_thr (s : SG) (x : Int32) (f : Int64) (g : Nat) : shr (thr s x) f g = thr (shr s f g) x := by
  rw [shr, shr2_thr, shO_thr]; rfl
theorem shrN_thr (s : SG) (x : Int32) (f : Int64) (g : Nat) : shrN (thr s x) f g = shrN s f g := by
  rw [shrN, shr2_thr, otF_thr]; rfl
theorem gus_thr (f : Int64) (g : Nat) (x : Int32) : ∀ (n : Nat) (s : SG), gusF (thr s x) f g n = (thr (gusF s f g n).1 x, (gusF s f g n).2) := by
  intro n
  induction n with
  | zero => intro s; rfl
  | succ n ih =>
    intro s
    rw [gusF, gusF, shrN_thr, shr_thr]
    split
    · rfl
    · rw [ih]
theorem los_thr (s : SG) (x : Int32) (l : Nat) : ∀ n, losF (thr s x) l n = (thr (losF s l n).1 x, (losF s l n).2) := by
  intro n
  induction n with
  | zero => rfl
  | succ n ih =>
    rw [losF, losF, ih]
    by_cases c : s.1 29 n = nI l ∧ ¬ s.1 32 n = -1
    · rw [if_pos c, if_pos (show (thr s x).1 29 n = nI l ∧ ¬ (thr s x).1 32 n = -1 from c)]
      refine Prod.ext ?_ rfl
      show sI (sI (thr (losF s l n).1 x) 32 n (-1)) 33 n (-1) = thr (sI (sI (losF s l n).1 32 n (-1)) 33 n (-1)) x
      rw [thr, sI_sw (a := 38) (b := 32) (by decide), sI_sw (a := 38) (b := 33) (by decide)]
    · rw [if_neg c, if_neg (show ¬ ((thr s x).1 29 n = nI l ∧ ¬ (thr s x).1 32 n = -1) from c)]
theorem gFind_thr (s : SG) (x : Int32) (c j : Nat) (p1 : Int32) : gFind (thr s x) c j p1 = (thr (gFind s c j p1).1 x, (gFind s c j p1).2) := by
  unfold gFind
  split
  · refine Prod.ext ?_ rfl
    show sI (thr s x) 3 j p1 = thr (sI s 3 j p1) x
    rw [thr, sI_sw (a := 38) (b := 3) (by decide)]
  · rw [show sI (thr s x) 3 j p1 = thr (sI s 3 j p1) x from by rw [thr, sI_sw (a := 38) (b := 3) (by decide)], los_thr]
theorem roll_eq {s : SG} {a b : Nat} {r39 r40 r41 r4 : Nat → Int32} {sl lv : Nat → Bool} {p0 : Int32} (h : iPan r4 (s.1 5) (s.1 6) (s.1 7) (s.1 8) (s.1 39) r40 (s.1 41) sl lv a b) (ha : a ≤ 6) (hk : kRoll a p0 = 0) : s.1 39 (nat p0) + s.1 41 (nat p0) = rollS s (nat p0) b := by
  unfold kRoll at hk
  by_cases z : btw p0 0 (nI a - 1)
  · obtain ⟨j, hj, rfl⟩ := (btw_ix (a := a) (by omega)).mp z
    rw [nat_nI (by omega), rollS, roll_RS, h.2.2.2.2.2 j hj]
  · rw [if_neg z] at hk; exact absurd hk (by decide)
theorem ord_self {d : FP.Core.Datum} (h : d ≠ .nan) : FP.Core.order d d = some .eq := by
  cases d with
  | nan => exact absurd rfl h
  | inf s => simp [FP.Core.order]
  | fin s c q => simp [FP.Core.order]
theorem dat_nnE {x : UInt64} (h : vf_n64 x) : FP.Core.decode FP.Core.b64 x.toNat ≠ .nan := by
  have h1 : x.toNat % 9223372036854775808 ≤ 9218868437227405312 := by
    unfold vf_n64 at h
    rw [UInt64.le_iff_toNat_le, UInt64.toNat_and] at h
    have h1 : x.toNat &&& 9223372036854775807 ≤ 9218868437227405312 := h
    rw [show (9223372036854775807 : Nat) = 2 ^ 63 - 1 from rfl, Nat.and_two_pow_sub_one_eq_mod] at h1
    exact h1
  simp only [FP.Core.decode, FP.Core.fieldE, FP.Core.fieldT, b64_tails, b64_exps]
  split
  · next he =>
    rw [if_pos (by omega)]
    intro z; cases z
  · split <;> (intro z; cases z)
theorem dcmp_self {x : UInt64} (h : vf_n64 x) : Op.cmpValue (FP.dcmp x x) .l = 0 := by
  have e : FP.dcmp x x = some .eq := ord_self (dat_nnE h)
  rw [e]
  rfl
