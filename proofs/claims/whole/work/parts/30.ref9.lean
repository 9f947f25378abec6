/-- a gust: sharings, n at most -/
def gusF (s : SG) (f : Int64) (g : Nat) : Nat → SG × Nat
  | 0 => (s, 0)
  | n + 1 => if shrN s f g = 0 then (shr s f g, 0) else ((gusF (shr s f g) f g n).1, (gusF (shr s f g) f g n).2 + shrN s f g)
def inN (s : SG) : Nat → Nat
  | 0 => 0
  | i + 1 => inN s i + (if s.1 22 i = 0 then 0 else 1)
theorem inN_le (s : SG) : ∀ i, inN s i ≤ i := by
  intro i
  induction i with
  | zero => exact Nat.le_refl 0
  | succ i ih => rw [inN]; split <;> omega
theorem otF_le (s : SG) : ∀ i, otF s i ≤ i := by
  intro i
  induction i with
  | zero => exact Nat.le_refl 0
  | succ i ih => rw [otF]; split <;> omega
theorem shr2_1 (s : SG) (f : Int64) (g : Nat) : (shr2 s f g).1 = s.1 := by
  unfold shr2
  cases lowA s g <;> rfl
theorem inN_shO (t : SG) (g : Nat) : ∀ i, i ≤ g → inN (shO t g) i + otF t i = inN t i := by
  intro i
  induction i with
  | zero => intro _; rfl
  | succ i ih =>
    intro hi
    have h := ih (by omega)
    have hg : i < g := by omega
    by_cases c : ¬ t.1 22 i = 0 ∧ t.2 20 i < t.2 23 i
    · have e : (shO t g).1 22 i = 0 := by simp [shO, hg, c]
      rw [inN, inN, otF, if_pos e, if_pos c, if_neg c.1]
      omega
    · have e : (shO t g).1 22 i = t.1 22 i := by
        show (if 22 = 22 ∧ i < g ∧ ¬ t.1 22 i = 0 ∧ t.2 20 i < t.2 23 i then (0 : Int32) else t.1 22 i) = t.1 22 i
        rw [if_neg (fun z => c ⟨z.2.2.1, z.2.2.2⟩)]
      rw [inN, inN, otF, e, if_neg c]
      omega
theorem inN_eq {s s' : SG} (h : s'.1 22 = s.1 22) : ∀ i, inN s' i = inN s i := by
  intro i
  induction i with
  | zero => rfl
  | succ i ih => rw [inN, inN, ih, h]
theorem inN_shr (s : SG) (f : Int64) (g : Nat) : inN (shr s f g) g + shrN s f g = inN s g := by
  rw [shr, shrN, inN_shO _ g g (Nat.le_refl g)]
  exact inN_eq (by rw [shr2_1]) g
theorem shr_k (s : SG) (f : Int64) (g : Nat) {k : Nat} (hk : k ≠ 22) : (shr s f g).1 k = s.1 k := by
  have e : (shr s f g).1 k = (shr2 s f g).1 k := by
    funext j
    show (if k = 22 ∧ _ then (0 : Int32) else (shr2 s f g).1 k j) = _
    rw [if_neg (fun z => hk z.1)]
  rw [e, shr2_1]
theorem GV_shr {s : SG} {g : Nat} (f : Int64) (h : GV s g) : GV (shr s f g) g := by
  intro i hi
  rw [shr_k s f g (by decide)]
  exact h i hi
def kGust (f : Int64) : Int32 := if 0 ≤ f ∧ f ≤ 40000000000000 then 0 else 1
set_option maxRecDepth 100000 in
set_option maxHeartbeats 4000000 in
theorem l_X9_gust {D : DT} {K : KT} {m : Nat} {ad : AdT} (g : Nat) (f : Int64) (R9 : SG × Nat) (hg8 : g ≤ 8) (kk : ∀ (w4 : Int32) (G : GT), MD m ad R9.1 G → V cX9_gust yX9_gust.cls 5 rm_X9_gust D K 57 [some (.ref m), some (.long f), none, some (.int (nI R9.2)), some (.int w4)] [] G (0, 0)) : ∀ (d i : Nat) (s : SG) (G : GT), GV s g → s.1 19 0 = nI g → inN s g < d → R9 = ((gusF s f g d).1, i + (gusF s f g d).2) → MD m ad (shr s f g) G → V cX9_gust yX9_gust.cls 5 rm_X9_gust D K 37 [some (.ref m), some (.long f), none, some (.int (nI i)), some (.int (nI (shrN s f g)))] [] G (0, 0) := by
  intro d
  induction d with
  | zero =>
    intro i s G he0 he1 he2 he3 he4 
    exact absurd he2 (by omega)
  | succ d ih =>
    intro i s G he0 he1 he2 he3 he4 
    have hG := he4
    have ho : shrN s f g ≤ 8 := Nat.le_trans (otF_le _ g) hg8
    have hin := inN_shr s f g
    refine v_iload (pc := 37) dX9_gust_37 rfl ?_
    refine v_if_le (pc := 39) (tgt := 57) dX9_gust_39 (by decide) (fun c39 => ?_) (fun c39 => ?_)
    · have h0 : shrN s f g = 0 := (by rcases Nat.eq_zero_or_pos (shrN s f g) with z | z; exact z; exact absurd c39 (by rw [n_nle]; exact nI_lt (a := 0) z (by omega)))
      have e9 : R9 = (shr s f g, i) := by rw [he3, gusF, if_pos h0]; rfl
      have e8 := kk (nI (shrN s f g)) G (by rw [e9]; exact hG)
      rw [e9] at e8
      exact e8
    · have h0 : ¬ shrN s f g = 0 := fun z => c39 (by rw [z]; decide)
      have e9 : R9 = ((gusF (shr s f g) f g d).1, i + shrN s f g + (gusF (shr s f g) f g d).2) := by rw [he3, gusF, if_neg h0]; exact Prod.ext rfl (by show i + (_ + shrN s f g) = i + shrN s f g + _; omega)
      refine v_iload_n (pc := 42) dX9_gust_42 rfl rfl ?_
      refine v_iload (pc := 43) dX9_gust_43 rfl ?_
      refine v_iadd (pc := 45) dX9_gust_45 ?_
      refine v_istore_n (pc := 46) dX9_gust_46 rfl rfl (by decide) ?_
      refine v_aload_n (pc := 47) dX9_gust_47 rfl rfl ?_
      refine v_lload_n (pc := 48) dX9_gust_48 rfl rfl ?_
      refine vm_callV1 (pc := 49) (0, 0) hG dX9_gust_49 cw_X9_178 im_yX9_shares se_yX9_shares (c_X9_shares D m ad _ g _ (GV_shr f he0) (by rw [shr_k s f g (by decide)]; exact he1) hg8) rfl (Nat.le_of_ble_eq_true rfl) ⟨Nat.le_of_ble_eq_true rfl, Nat.le_of_ble_eq_true rfl⟩ ⟨by decide, by decide⟩ rfl (fun v s1 G hp hG => ?_)
      obtain ⟨hv1, hs1⟩ := hp
      subst hv1
      subst s1
      refine v_istore (pc := 52) dX9_gust_52 rfl (by decide) ?_
      refine v_goto (pc := 54) (tgt := 37) dX9_gust_54 (by decide) ?_
      rw [nI_add]
      exact ih (i + shrN s f g) (shr s f g) G (GV_shr f he0) (by rw [shr_k s f g (by decide)]; exact he1) (by omega) e9 hG
set_option maxRecDepth 100000 in
set_option maxHeartbeats 4000000 in
theorem c_X9_gust (D : DT) (m : Nat) (ad : AdT) (s : SG) (g : Nat) (f : Int64) (hv : GV s g) (hg : s.1 19 0 = nI g) (hg8 : g ≤ 8) : MM yX9_gust cX9_gust 5 (Option.some Jvm.ClassFile.FieldType.int) rm_X9_gust D [.ref m, .long f] m ad s (fun v s' => v = some (.int (if kGust f = 0 then nI (gusF (thr s 0) f g 9).2 else 0)) ∧ s' = if kGust f = 0 then (gusF (thr s 0) f g 9).1 else thr s (kGust f)) := by
  intro G hG
  refine MC_of (by decide +kernel) (Nat.le_of_ble_eq_true rfl) (fun K sz hR => ?_)
  show V cX9_gust _ 5 _ D K 0 [some (.ref m), some (.long f), none, none, none] [] G (0, 0)
  refine v_aload_n (pc := 0) dX9_gust_0 rfl rfl ?_
  refine v_lload_n (pc := 1) dX9_gust_1 rfl rfl ?_
  refine v_lconst (pc := 2) (v := 0) dX9_gust_2 (by decide) ?_
  refine v_lcmp (pc := 3) dX9_gust_3 ?_
  refine v_if_lt (pc := 4) (tgt := 19) dX9_gust_4 (by decide) (fun c4 => ?_) (fun c4 => ?_)
  · rw [cmp_lt0, ← l_nle] at c4
    have hk : kGust f = 1 := by rw [kGust, if_neg (fun z => c4 z.1)]
    refine v_iconst (pc := 19) (v := 1) dX9_gust_19 (by decide) ?_
    refine vm_callV1 (pc := 20) (0, 0) hG dX9_gust_20 cw_X9_111 im_yX9_goes se_yX9_goes (c_X9_goes D m ad _ _ ) rfl (Nat.le_of_ble_eq_true rfl) ⟨Nat.le_of_ble_eq_true rfl, Nat.le_of_ble_eq_true rfl⟩ ⟨by decide, by decide⟩ rfl (fun v s1 G hp hG => ?_)
    obtain ⟨hv1, hs1⟩ := hp
    subst hv1
    subst s1
    refine v_if_ne (pc := 23) (tgt := 28) dX9_gust_23 (by decide) (fun c23 => absurd c23 (by decide)) (fun c23 => ?_)
    refine v_iconst (pc := 26) (v := 0) dX9_gust_26 (by decide) ?_
    refine v_iret (pc := 27) hR dX9_gust_27 ⟨by decide, by decide⟩ ?_
    exact ⟨_, hG, by simp [hk], by simp [hk]⟩
  · rw [cmp_lt0, l_nlt] at c4
    refine v_lload_n (pc := 7) dX9_gust_7 rfl rfl ?_
    refine v_ldcL (pc := 8) dX9_gust_8 k_X9_176 ?_
    refine v_lcmp (pc := 11) dX9_gust_11 ?_
    refine v_if_gt (pc := 12) (tgt := 19) dX9_gust_12 (by decide) (fun c12 => ?_) (fun c12 => ?_)
    · rw [cmp_gt0, ← l_nle] at c12
      have hk : kGust f = 1 := by rw [kGust, if_neg (fun z => c12 z.2)]
      refine v_iconst (pc := 19) (v := 1) dX9_gust_19 (by decide) ?_
      refine vm_callV1 (pc := 20) (0, 0) hG dX9_gust_20 cw_X9_111 im_yX9_goes se_yX9_goes (c_X9_goes D m ad _ _ ) rfl (Nat.le_of_ble_eq_true rfl) ⟨Nat.le_of_ble_eq_true rfl, Nat.le_of_ble_eq_true rfl⟩ ⟨by decide, by decide⟩ rfl (fun v s1 G hp hG => ?_)
      obtain ⟨hv1, hs1⟩ := hp
      subst hv1
      subst s1
      refine v_if_ne (pc := 23) (tgt := 28) dX9_gust_23 (by decide) (fun c23 => absurd c23 (by decide)) (fun c23 => ?_)
      refine v_iconst (pc := 26) (v := 0) dX9_gust_26 (by decide) ?_
      refine v_iret (pc := 27) hR dX9_gust_27 ⟨by decide, by decide⟩ ?_
      exact ⟨_, hG, by simp [hk], by simp [hk]⟩
    · rw [cmp_gt0, l_nlt] at c12
      have hk : kGust f = 0 := by rw [kGust, if_pos ⟨c4, c12⟩]
      refine v_iconst (pc := 15) (v := 0) dX9_gust_15 (by decide) ?_
      refine v_goto (pc := 16) (tgt := 20) dX9_gust_16 (by decide) ?_
      refine vm_callV1 (pc := 20) (0, 0) hG dX9_gust_20 cw_X9_111 im_yX9_goes se_yX9_goes (c_X9_goes D m ad _ _ ) rfl (Nat.le_of_ble_eq_true rfl) ⟨Nat.le_of_ble_eq_true rfl, Nat.le_of_ble_eq_true rfl⟩ ⟨by decide, by decide⟩ rfl (fun v s1 G hp hG => ?_)
      obtain ⟨hv1, hs1⟩ := hp
      subst hv1
      subst s1
      refine v_if_ne (pc := 23) (tgt := 28) dX9_gust_23 (by decide) (fun c23 => ?_) (fun c23 => absurd c23 (by decide))
      refine v_iconst (pc := 28) (v := 0) dX9_gust_28 (by decide) ?_
      refine v_istore_n (pc := 29) dX9_gust_29 rfl rfl (by decide) ?_
      refine v_aload_n (pc := 30) dX9_gust_30 rfl rfl ?_
      refine v_lload_n (pc := 31) dX9_gust_31 rfl rfl ?_
      refine vm_callV1 (pc := 32) (0, 0) hG dX9_gust_32 cw_X9_178 im_yX9_shares se_yX9_shares (c_X9_shares D m ad _ g _ hv hg hg8) rfl (Nat.le_of_ble_eq_true rfl) ⟨Nat.le_of_ble_eq_true rfl, Nat.le_of_ble_eq_true rfl⟩ ⟨by decide, by decide⟩ rfl (fun v s1 G hp hG => ?_)
      obtain ⟨hv1, hs1⟩ := hp
      subst hv1
      subst s1
      refine v_istore (pc := 35) dX9_gust_35 rfl (by decide) ?_
      have hi0 := inN_le (thr s 0) g
      refine l_X9_gust g f (gusF (thr s 0) f g 9) hg8 (fun w4 G hG => ?_) 9 0 (thr s 0) G hv hg (by omega) (Prod.ext rfl (Nat.zero_add _).symm) hG
      refine v_iload_n (pc := 57) dX9_gust_57 rfl rfl ?_
      refine v_iret (pc := 58) hR dX9_gust_58 ⟨by decide, by decide⟩ ?_
      exact ⟨_, hG, by rw [if_pos hk], by rw [if_pos hk]⟩
