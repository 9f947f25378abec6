/-- loads that come: the reference's edges, a seam's two ways -/
def sL (s : SG) (L : LT) : SG := (s.1, fun k => if k = 14 then L else s.2 k)
theorem sL_14 (s : SG) (L : LT) : (sL s L).2 14 = L := rfl
theorem sL_sL (s : SG) (L M : LT) : sL (sL s L) M = sL s M := Prod.ext rfl (funext fun k => by by_cases h : k = 14 <;> simp [sL, h])
theorem sL_self (s : SG) : sL s (s.2 14) = s := Prod.ext rfl (funext fun k => by by_cases h : k = 14 <;> simp [sL, h])
def capS (s : SG) (i b : Nat) : Int64 := lessL (seamS s i) (strS s b)
abbrev enA (s : SG) (i : Nat) : Nat := nat (s.1 10 i)
abbrev enB (s : SG) (i : Nat) : Nat := nat (s.1 11 i)
def esM (s : SG) : Nat → ET
  | 0 => []
  | i + 1 => esM s i ++ (if s.1 13 i = 0 then [(enA s i, enB s i, capS s i (enB s i)), (enB s i, enA s i, capS s i (enA s i))] else [])
theorem rel_sJ {s : SG} {a b : Nat} {c : Int64} (L : LT) (h : L b < lessL (L a) c) : sJ (sL s L) 14 b (lessL (L a) c) = sL s (rel a b c L) := by
  refine Prod.ext rfl (funext fun k => ?_)
  show u2 (sL s L).2 14 b (lessL (L a) c) k = (sL s (rel a b c L)).2 k
  by_cases hk : k = 14
  · subst hk
    rw [u2_row, sL_14, sL_14, rel, if_pos h]
    rfl
  · rw [u2_rown _ _ _ hk]; simp [sL, hk]
theorem rel_sJn {s : SG} {a b : Nat} {c : Int64} (L : LT) (h : ¬ L b < lessL (L a) c) : sJ (sL s L) 14 b (L b) = sL s (rel a b c L) := by
  refine Prod.ext rfl (funext fun k => ?_)
  show u2 (sL s L).2 14 b (L b) k = (sL s (rel a b c L)).2 k
  by_cases hk : k = 14
  · subst hk
    rw [u2_row, sL_14, sL_14, rel, if_neg h]
    exact funext fun j => by by_cases hj : j = b <;> simp [hj]
  · rw [u2_rown _ _ _ hk]; simp [sL, hk]
set_option maxRecDepth 100000 in
set_option maxHeartbeats 4000000 in
theorem c_X9_comes (D : DT) (m : Nat) (ad : AdT) (s : SG) (a b i np ns : Nat) (s0 : SG) (L : LT)  (h : PV s np) (h2 : SV s np ns) (ha : a < np) (hb : b < np) (hi : i < ns) (hnp : np ≤ 12) (hns : ns ≤ 30) (hL : s = sL s0 L) : MM yX9_comes cX9_comes 7 (Option.some Jvm.ClassFile.FieldType.boolean) rm_X9_comes D [.ref m, .int (nI a), .int (nI b), .int (nI i)] m ad s (fun v s' => v = some (.int (b2i (L b < lessL (L a) (capS s i b)))) ∧ s' = sL s0 (rel a b (capS s i b) L)) := by
  intro G hG
  refine MC_of (by decide +kernel) (Nat.le_of_ble_eq_true rfl) (fun K sz hR => ?_)
  show V cX9_comes _ 7 _ D K 0 [some (.ref m), some (.int (nI a)), some (.int (nI b)), some (.int (nI i)), none, none, none] [] G (0, 0)
  refine v_aload_n (pc := 0) dX9_comes_0 rfl rfl ?_
  refine vm_getA (pc := 1) (k := 14) hG dX9_comes_1 fl_X9_44 (by decide) ?_
  refine v_iload_n (pc := 4) dX9_comes_4 rfl rfl ?_
  refine vm_lald (pc := 5) (k := 14) (j := a) hG dX9_comes_5 rfl rfl (by have h0 : ml 14 = 12 := rfl; omega) (x := L a) (by rw [hL]; rfl) ?_
  refine v_aload_n (pc := 6) dX9_comes_6 rfl rfl ?_
  refine v_iload_n (pc := 7) dX9_comes_7 rfl rfl ?_
  refine vm_callV1 (pc := 8) (0, 0) hG dX9_comes_8 cw_X9_144 im_yX9_seamOf se_yX9_seamOf (c_X9_seamOf D m ad _ i np ns h h2 hi hnp hns) rfl (Nat.le_of_ble_eq_true rfl) ⟨Nat.le_of_ble_eq_true rfl, Nat.le_of_ble_eq_true rfl⟩ ⟨by decide, by decide⟩ rfl (fun v s1 G hp hG => ?_)
  obtain ⟨hv1, hs1⟩ := hp
  subst hv1
  subst s1
  refine v_aload_n (pc := 11) dX9_comes_11 rfl rfl ?_
  refine v_iload_n (pc := 12) dX9_comes_12 rfl rfl ?_
  refine vm_callV1 (pc := 13) (0, 0) hG dX9_comes_13 cw_X9_124 im_yX9_strengthOf se_yX9_strengthOf (c_X9_strengthOf D m ad _ b np h hb hnp) rfl (Nat.le_of_ble_eq_true rfl) ⟨Nat.le_of_ble_eq_true rfl, Nat.le_of_ble_eq_true rfl⟩ ⟨by decide, by decide⟩ rfl (fun v s1 G hp hG => ?_)
  obtain ⟨hv1, hs1⟩ := hp
  subst hv1
  subst s1
  refine v_callS2 (pc := 16) (0, 0) dX9_comes_16 cw_X9_138 sm_yX9_lesser (c_X9_lesser D _ _ _ ) (Nat.le_of_ble_eq_true rfl) ⟨Nat.le_of_ble_eq_true rfl, Nat.le_of_ble_eq_true rfl⟩ ⟨by decide, by decide⟩ rfl (fun v G1 hp => ?_)
  obtain ⟨hv1, hs1⟩ := hp
  subst hv1
  subst G1
  refine v_callS2 (pc := 19) (0, 0) dX9_comes_19 cw_X9_138 sm_yX9_lesser (c_X9_lesser D _ _ _ ) (Nat.le_of_ble_eq_true rfl) ⟨Nat.le_of_ble_eq_true rfl, Nat.le_of_ble_eq_true rfl⟩ ⟨by decide, by decide⟩ rfl (fun v G1 hp => ?_)
  obtain ⟨hv1, hs1⟩ := hp
  subst hv1
  subst G1
  refine v_lstore (pc := 22) dX9_comes_22 rfl (by decide) ?_
  refine v_lload (pc := 24) dX9_comes_24 rfl ?_
  refine v_aload_n (pc := 26) dX9_comes_26 rfl rfl ?_
  refine vm_getA (pc := 27) (k := 14) hG dX9_comes_27 fl_X9_44 (by decide) ?_
  refine v_iload_n (pc := 30) dX9_comes_30 rfl rfl ?_
  refine vm_lald (pc := 31) (k := 14) (j := b) hG dX9_comes_31 rfl rfl (by have h0 : ml 14 = 12 := rfl; omega) (x := L b) (by rw [hL]; rfl) ?_
  refine v_lcmp (pc := 32) dX9_comes_32 ?_
  refine v_if_le (pc := 33) (tgt := 40) dX9_comes_33 (by decide) (fun c33 => ?_) (fun c33 => ?_)
  · rw [cmp_le0, ← l_nlt] at c33
    have e9 : ¬ L b < lessL (L a) (capS s i b) := c33
    refine v_iconst (pc := 40) (v := 0) dX9_comes_40 (by decide) ?_
    refine v_istore (pc := 41) dX9_comes_41 rfl (by decide) ?_
    refine v_aload_n (pc := 43) dX9_comes_43 rfl rfl ?_
    refine vm_getA (pc := 44) (k := 14) hG dX9_comes_44 fl_X9_44 (by decide) ?_
    refine v_iload_n (pc := 47) dX9_comes_47 rfl rfl ?_
    refine v_iload (pc := 48) dX9_comes_48 rfl ?_
    refine v_if_eq (pc := 50) (tgt := 58) dX9_comes_50 (by decide) (fun c50 => ?_) (fun c50 => absurd c50 (by decide))
    refine v_aload_n (pc := 58) dX9_comes_58 rfl rfl ?_
    refine vm_getA (pc := 59) (k := 14) hG dX9_comes_59 fl_X9_44 (by decide) ?_
    refine v_iload_n (pc := 62) dX9_comes_62 rfl rfl ?_
    refine vm_lald (pc := 63) (k := 14) (j := b) hG dX9_comes_63 rfl rfl (by have h0 : ml 14 = 12 := rfl; omega) (x := L b) (by rw [hL]; rfl) ?_
    refine vm_last (pc := 64) (k := 14) (j := b) hG dX9_comes_64 rfl rfl (by have h0 : ml 14 = 12 := rfl; omega) (fun G hG => ?_)
    refine v_iload (pc := 65) dX9_comes_65 rfl ?_
    refine v_zret (pc := 67) hR dX9_comes_67 (by first | rfl | exact b2i_nar) ⟨by decide, by decide⟩ ?_
    first
      | exact ⟨_, hG, by rw [b2i_t e9], by rw [hL, ← hL]; exact (congrArg (fun z => sJ z 14 b _) hL).trans (rel_sJ L e9)⟩
      | exact ⟨_, hG, by rw [b2i_f e9], by rw [hL, ← hL]; exact (congrArg (fun z => sJ z 14 b _) hL).trans (rel_sJn L e9)⟩
  · rw [cmp_le0, l_nle] at c33
    have e9 : L b < lessL (L a) (capS s i b) := c33
    refine v_iconst (pc := 36) (v := 1) dX9_comes_36 (by decide) ?_
    refine v_goto (pc := 37) (tgt := 41) dX9_comes_37 (by decide) ?_
    refine v_istore (pc := 41) dX9_comes_41 rfl (by decide) ?_
    refine v_aload_n (pc := 43) dX9_comes_43 rfl rfl ?_
    refine vm_getA (pc := 44) (k := 14) hG dX9_comes_44 fl_X9_44 (by decide) ?_
    refine v_iload_n (pc := 47) dX9_comes_47 rfl rfl ?_
    refine v_iload (pc := 48) dX9_comes_48 rfl ?_
    refine v_if_eq (pc := 50) (tgt := 58) dX9_comes_50 (by decide) (fun c50 => absurd c50 (by decide)) (fun c50 => ?_)
    refine v_lload (pc := 53) dX9_comes_53 rfl ?_
    refine v_goto (pc := 55) (tgt := 64) dX9_comes_55 (by decide) ?_
    refine vm_last (pc := 64) (k := 14) (j := b) hG dX9_comes_64 rfl rfl (by have h0 : ml 14 = 12 := rfl; omega) (fun G hG => ?_)
    refine v_iload (pc := 65) dX9_comes_65 rfl ?_
    refine v_zret (pc := 67) hR dX9_comes_67 (by first | rfl | exact b2i_nar) ⟨by decide, by decide⟩ ?_
    first
      | exact ⟨_, hG, by rw [b2i_t e9], by rw [hL, ← hL]; exact (congrArg (fun z => sJ z 14 b _) hL).trans (rel_sJ L e9)⟩
      | exact ⟨_, hG, by rw [b2i_f e9], by rw [hL, ← hL]; exact (congrArg (fun z => sJ z 14 b _) hL).trans (rel_sJn L e9)⟩
