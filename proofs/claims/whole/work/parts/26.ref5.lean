/-- the net goes by steps, n at most -/
def runS : SG → Nat → SG × Nat
  | s, 0 => (s, 0)
  | s, n + 1 => if mvF s 36 = true then ((runS (stepS s) n).1, (runS (stepS s) n).2 + 1) else (stepS s, 0)
def kRest (p0 : Int32) : Int32 := if btw p0 1 50 then 0 else 1
theorem b01_n0 {b : Bool} (h : ¬ b01 b = 0) : b = true := by cases b <;> simp [b01] at h ⊢
set_option maxRecDepth 100000 in
set_option maxHeartbeats 4000000 in
theorem l_X9_rest {D : DT} {K : KT} {m : Nat} {ad : AdT} {s0 : SG} (b : Nat) (hb : b ≤ 50) (kk : ∀ (w1 : Int32) (G : GT), MD m ad (runS s0 b).1 G → V cX9_rest yX9_rest.cls 4 rm_X9_rest D K 57 [some (.ref m), some (.int (nI b)), some (.int (nI (runS s0 b).2)), some (.int w1)] [] G (0, 0)) : ∀ (d i : Nat) (s : SG) (G : GT), i + d = b → runS s0 b = ((runS s d).1, i + (runS s d).2) → MD m ad s G → V cX9_rest yX9_rest.cls 4 rm_X9_rest D K 28 [some (.ref m), some (.int (nI b)), some (.int (nI i)), some (.int 1)] [] G (0, 0) := by
  intro d
  induction d with
  | zero =>
    intro i s G he0 he1 hG
    refine v_iload_n (pc := 28) dX9_rest_28 rfl rfl ?_
    refine v_if_eq (pc := 29) (tgt := 57) dX9_rest_29 (by decide) (fun c29 => absurd c29 (by decide)) (fun c29 => ?_)
    refine v_iload_n (pc := 32) dX9_rest_32 rfl rfl ?_
    refine v_iload_n (pc := 33) dX9_rest_33 rfl rfl ?_
    refine v_icmp_ge (pc := 34) (tgt := 57) dX9_rest_34 (by decide) (fun c34 => ?_) (fun c34 => absurd c34 (not_not_intro (by rw [show i = b by omega]; exact Int32.le_refl _)))
    have e8 := kk 1 G (by rw [he1]; exact hG)
    rw [he1] at e8
    exact e8
  | succ d ih =>
    intro i s G he0 he1 hG
    refine v_iload_n (pc := 28) dX9_rest_28 rfl rfl ?_
    refine v_if_eq (pc := 29) (tgt := 57) dX9_rest_29 (by decide) (fun c29 => absurd c29 (by decide)) (fun c29 => ?_)
    refine v_iload_n (pc := 32) dX9_rest_32 rfl rfl ?_
    refine v_iload_n (pc := 33) dX9_rest_33 rfl rfl ?_
    refine v_icmp_ge (pc := 34) (tgt := 57) dX9_rest_34 (by decide) (fun c34 => absurd c34 (nI_ge (by omega) (by omega))) (fun c34 => ?_)
    refine v_aload_n (pc := 37) dX9_rest_37 rfl rfl ?_
    refine vm_callV0 (pc := 38) (0, 0) hG dX9_rest_38 cw_X9_167 im_yX9_steps se_yX9_steps (c_X9_steps D m ad _ ) rfl (Nat.le_of_ble_eq_true rfl) ⟨Nat.le_of_ble_eq_true rfl, Nat.le_of_ble_eq_true rfl⟩ ⟨by decide, by decide⟩ rfl (fun v s1 G hp hG => ?_)
    obtain ⟨hv1, hs1⟩ := hp
    subst hv1
    subst s1
    refine v_istore_n (pc := 41) dX9_rest_41 rfl rfl (by decide) ?_
    refine v_iload_n (pc := 42) dX9_rest_42 rfl rfl ?_
    refine v_iload_n (pc := 43) dX9_rest_43 rfl rfl ?_
    refine v_if_eq (pc := 44) (tgt := 51) dX9_rest_44 (by decide) (fun c44 => ?_) (fun c44 => ?_)
    · rw [c44]
      refine v_iconst (pc := 51) (v := 0) dX9_rest_51 (by decide) ?_
      refine v_iadd (pc := 52) dX9_rest_52 ?_
      refine v_istore_n (pc := 53) dX9_rest_53 rfl rfl (by decide) ?_
      refine v_goto (pc := 54) (tgt := 28) dX9_rest_54 (by decide) ?_
      refine v_iload_n (pc := 28) dX9_rest_28 rfl rfl ?_
      refine v_if_eq (pc := 29) (tgt := 57) dX9_rest_29 (by decide) (fun c29 => ?_) (fun c29 => absurd c29 (by decide))
      have e9 : runS s0 b = (stepS s, i) := by rw [he1, runS, if_neg (by rw [b01_0.mp c44]; decide)]; rfl
      have e8 := kk 0 G (by rw [e9]; exact hG)
      rw [e9] at e8
      rw [Int32.add_zero]
      exact e8
    · have hm : mvF s 36 = true := b01_n0 c44
      rw [hm]
      refine v_iconst (pc := 47) (v := 1) dX9_rest_47 (by decide) ?_
      refine v_goto (pc := 48) (tgt := 52) dX9_rest_48 (by decide) ?_
      refine v_iadd (pc := 52) dX9_rest_52 ?_
      refine v_istore_n (pc := 53) dX9_rest_53 rfl rfl (by decide) ?_
      refine v_goto (pc := 54) (tgt := 28) dX9_rest_54 (by decide) ?_
      rw [nI_1]
      exact ih (i + 1) (stepS s) G (by omega) (by rw [he1, runS, if_pos hm]; exact Prod.ext rfl (by show i + (_ + 1) = i + 1 + _; omega)) hG
set_option maxRecDepth 100000 in
set_option maxHeartbeats 4000000 in
theorem c_X9_rest (D : DT) (m : Nat) (ad : AdT) (s : SG)  (p0 : Int32)  : MM yX9_rest cX9_rest 4 (Option.some Jvm.ClassFile.FieldType.int) rm_X9_rest D [.ref m, .int p0] m ad s (fun v s' => v = some (.int (if kRest p0 = 0 then nI (runS (thr s 0) (nat p0)).2 else 0)) ∧ s' = if kRest p0 = 0 then (runS (thr s 0) (nat p0)).1 else thr s (kRest p0)) := by
  intro G hG
  refine MC_of (by decide +kernel) (Nat.le_of_ble_eq_true rfl) (fun K sz hR => ?_)
  show V cX9_rest _ 4 _ D K 0 [some (.ref m), some (.int p0), none, none] [] G (0, 0)
  refine v_aload_n (pc := 0) dX9_rest_0 rfl rfl ?_
  refine v_iload_n (pc := 1) dX9_rest_1 rfl rfl ?_
  refine v_iconst (pc := 2) (v := 1) dX9_rest_2 (by decide) ?_
  refine v_bipush (pc := 3) (v := 50) dX9_rest_3 (by decide) ?_
  refine v_callS3 (pc := 5) (0, 0) dX9_rest_5 cw_X9_103 sm_yX9_isBetween (c_X9_isBetween D _ _ _ _ ) (Nat.le_of_ble_eq_true rfl) ⟨Nat.le_of_ble_eq_true rfl, Nat.le_of_ble_eq_true rfl⟩ ⟨by decide, by decide⟩ rfl (fun v G1 hp => ?_)
  obtain ⟨hv1, hs1⟩ := hp
  subst hv1
  subst G1
  refine v_if_eq (pc := 8) (tgt := 15) dX9_rest_8 (by decide) (fun c8 => ?_) (fun c8 => ?_)
  · rw [b2i_0] at c8
    have hk : kRest p0 = 1 := by rw [kRest, if_neg c8]
    refine v_iconst (pc := 15) (v := 1) dX9_rest_15 (by decide) ?_
    refine vm_callV1 (pc := 16) (0, 0) hG dX9_rest_16 cw_X9_111 im_yX9_goes se_yX9_goes (c_X9_goes D m ad _ _ ) rfl (Nat.le_of_ble_eq_true rfl) ⟨Nat.le_of_ble_eq_true rfl, Nat.le_of_ble_eq_true rfl⟩ ⟨by decide, by decide⟩ rfl (fun v s1 G hp hG => ?_)
    obtain ⟨hv1, hs1⟩ := hp
    subst hv1
    subst s1
    refine v_if_ne (pc := 19) (tgt := 24) dX9_rest_19 (by decide) (fun c19 => absurd c19 (by decide)) (fun c19 => ?_)
    refine v_iconst (pc := 22) (v := 0) dX9_rest_22 (by decide) ?_
    refine v_iret (pc := 23) hR dX9_rest_23 ⟨by decide, by decide⟩ ?_
    exact ⟨_, hG, by simp [hk], by simp [hk]⟩
  · rw [b2i_0, Decidable.not_not] at c8
    have hk : kRest p0 = 0 := by rw [kRest, if_pos c8]
    obtain ⟨b, hb, rfl⟩ := (btw_lit (M := 50) (N := 50) rfl).mp ⟨Int32.le_trans (by decide) c8.1, c8.2⟩
    have en : nat (nI b) = b := nat_nI (by omega)
    refine v_iconst (pc := 11) (v := 0) dX9_rest_11 (by decide) ?_
    refine v_goto (pc := 12) (tgt := 16) dX9_rest_12 (by decide) ?_
    refine vm_callV1 (pc := 16) (0, 0) hG dX9_rest_16 cw_X9_111 im_yX9_goes se_yX9_goes (c_X9_goes D m ad _ _ ) rfl (Nat.le_of_ble_eq_true rfl) ⟨Nat.le_of_ble_eq_true rfl, Nat.le_of_ble_eq_true rfl⟩ ⟨by decide, by decide⟩ rfl (fun v s1 G hp hG => ?_)
    obtain ⟨hv1, hs1⟩ := hp
    subst hv1
    subst s1
    refine v_if_ne (pc := 19) (tgt := 24) dX9_rest_19 (by decide) (fun c19 => ?_) (fun c19 => absurd c19 (by decide))
    refine v_iconst (pc := 24) (v := 0) dX9_rest_24 (by decide) ?_
    refine v_istore_n (pc := 25) dX9_rest_25 rfl rfl (by decide) ?_
    refine v_iconst (pc := 26) (v := 1) dX9_rest_26 (by decide) ?_
    refine v_istore_n (pc := 27) dX9_rest_27 rfl rfl (by decide) ?_
    refine l_X9_rest (s0 := thr s 0) b hb (fun w1 G hG => ?_) b 0 (thr s 0) G (by omega) (by rw [Nat.zero_add]) hG
    refine v_iload_n (pc := 57) dX9_rest_57 rfl rfl ?_
    refine v_iret (pc := 58) hR dX9_rest_58 ⟨by decide, by decide⟩ ?_
    exact ⟨_, hG, by rw [if_pos hk, en], by rw [if_pos hk, en]⟩
def kPass (s : SG) (p0 : Int32) : Int32 := if btw p0 1 400 then (if s.1 27 0 + p0 ≤ 100000 then 0 else 2) else 1
set_option maxRecDepth 100000 in
set_option maxHeartbeats 4000000 in
theorem c_X9_pass (D : DT) (m : Nat) (ad : AdT) (s : SG)  (p0 : Int32)  : MM yX9_pass cX9_pass 3 (Option.some Jvm.ClassFile.FieldType.int) rm_X9_pass D [.ref m, .int p0] m ad s (fun v s' => v = some (.int (if kPass s p0 = 0 then s.1 27 0 + p0 else 0)) ∧ s' = if kPass s p0 = 0 then sI (thr s 0) 27 0 (s.1 27 0 + p0) else thr s (kPass s p0)) := by
  intro G hG
  refine MC_of (by decide +kernel) (Nat.le_of_ble_eq_true rfl) (fun K sz hR => ?_)
  show V cX9_pass _ 3 _ D K 0 [some (.ref m), some (.int p0), none] [] G (0, 0)
  refine v_iload_n (pc := 0) dX9_pass_0 rfl rfl ?_
  refine v_iconst (pc := 1) (v := 1) dX9_pass_1 (by decide) ?_
  refine v_sipush (pc := 2) (v := 400) dX9_pass_2 (by decide) ?_
  refine v_callS3 (pc := 5) (0, 0) dX9_pass_5 cw_X9_103 sm_yX9_isBetween (c_X9_isBetween D _ _ _ _ ) (Nat.le_of_ble_eq_true rfl) ⟨Nat.le_of_ble_eq_true rfl, Nat.le_of_ble_eq_true rfl⟩ ⟨by decide, by decide⟩ rfl (fun v G1 hp => ?_)
  obtain ⟨hv1, hs1⟩ := hp
  subst hv1
  subst G1
  refine v_istore_n (pc := 8) dX9_pass_8 rfl rfl (by decide) ?_
  refine v_aload_n (pc := 9) dX9_pass_9 rfl rfl ?_
  refine v_iload_n (pc := 10) dX9_pass_10 rfl rfl ?_
  refine v_if_ne (pc := 11) (tgt := 18) dX9_pass_11 (by decide) (fun c11 => ?_) (fun c11 => ?_)
  · rw [b2i_0, Decidable.not_not] at c11
    refine v_aload_n (pc := 18) dX9_pass_18 rfl rfl ?_
    refine vm_getI (pc := 19) (k := 27) hG dX9_pass_19 fl_X9_207 rfl (by decide) rfl ?_
    refine v_iload_n (pc := 22) dX9_pass_22 rfl rfl ?_
    refine v_iadd (pc := 23) dX9_pass_23 ?_
    refine v_ldc (pc := 24) dX9_pass_24 k_X9_203 ?_
    refine v_icmp_le (pc := 26) (tgt := 33) dX9_pass_26 (by decide) (fun c26 => ?_) (fun c26 => ?_)
    · have hk : kPass s p0 = 0 := by rw [kPass, if_pos c11, if_pos c26]
      refine v_iconst (pc := 33) (v := 0) dX9_pass_33 (by decide) ?_
      refine vm_callV1 (pc := 34) (0, 0) hG dX9_pass_34 cw_X9_111 im_yX9_goes se_yX9_goes (c_X9_goes D m ad _ _ ) rfl (Nat.le_of_ble_eq_true rfl) ⟨Nat.le_of_ble_eq_true rfl, Nat.le_of_ble_eq_true rfl⟩ ⟨by decide, by decide⟩ rfl (fun v s1 G hp hG => ?_)
      obtain ⟨hv1, hs1⟩ := hp
      subst hv1
      subst s1
      refine v_if_ne (pc := 37) (tgt := 42) dX9_pass_37 (by decide) (fun c37 => ?_) (fun c37 => absurd c37 (by decide))
      refine v_aload_n (pc := 42) dX9_pass_42 rfl rfl ?_
      refine v_dup (pc := 43) dX9_pass_43 rfl ?_
      refine vm_getI (pc := 44) (k := 27) hG dX9_pass_44 fl_X9_207 rfl (by decide) (x := s.1 27 0) rfl ?_
      refine v_iload_n (pc := 47) dX9_pass_47 rfl rfl ?_
      refine v_iadd (pc := 48) dX9_pass_48 ?_
      refine vm_putI (pc := 49) (k := 27) hG dX9_pass_49 fw_X9_207 rfl (by decide) (fun G hG => ?_)
      refine v_aload_n (pc := 52) dX9_pass_52 rfl rfl ?_
      refine vm_getI (pc := 53) (k := 27) hG dX9_pass_53 fl_X9_207 rfl (by decide) (x := s.1 27 0 + p0) (by simp [sI, u2]) ?_
      refine v_iret (pc := 56) hR dX9_pass_56 ⟨by decide, by decide⟩ ?_
      exact ⟨_, hG, by rw [if_pos hk], by rw [if_pos hk]⟩
    · have hk : kPass s p0 = 2 := by rw [kPass, if_pos c11, if_neg c26]
      refine v_iconst (pc := 29) (v := 2) dX9_pass_29 (by decide) ?_
      refine v_goto (pc := 30) (tgt := 34) dX9_pass_30 (by decide) ?_
      refine vm_callV1 (pc := 34) (0, 0) hG dX9_pass_34 cw_X9_111 im_yX9_goes se_yX9_goes (c_X9_goes D m ad _ _ ) rfl (Nat.le_of_ble_eq_true rfl) ⟨Nat.le_of_ble_eq_true rfl, Nat.le_of_ble_eq_true rfl⟩ ⟨by decide, by decide⟩ rfl (fun v s1 G hp hG => ?_)
      obtain ⟨hv1, hs1⟩ := hp
      subst hv1
      subst s1
      refine v_if_ne (pc := 37) (tgt := 42) dX9_pass_37 (by decide) (fun c37 => absurd c37 (by decide)) (fun c37 => ?_)
      refine v_iconst (pc := 40) (v := 0) dX9_pass_40 (by decide) ?_
      refine v_iret (pc := 41) hR dX9_pass_41 ⟨by decide, by decide⟩ ?_
      exact ⟨_, hG, by simp [hk], by simp [hk]⟩
  · rw [b2i_0] at c11
    have hk : kPass s p0 = 1 := by rw [kPass, if_neg c11]
    refine v_iconst (pc := 14) (v := 1) dX9_pass_14 (by decide) ?_
    refine v_goto (pc := 15) (tgt := 34) dX9_pass_15 (by decide) ?_
    refine vm_callV1 (pc := 34) (0, 0) hG dX9_pass_34 cw_X9_111 im_yX9_goes se_yX9_goes (c_X9_goes D m ad _ _ ) rfl (Nat.le_of_ble_eq_true rfl) ⟨Nat.le_of_ble_eq_true rfl, Nat.le_of_ble_eq_true rfl⟩ ⟨by decide, by decide⟩ rfl (fun v s1 G hp hG => ?_)
    obtain ⟨hv1, hs1⟩ := hp
    subst hv1
    subst s1
    refine v_if_ne (pc := 37) (tgt := 42) dX9_pass_37 (by decide) (fun c37 => absurd c37 (by decide)) (fun c37 => ?_)
    refine v_iconst (pc := 40) (v := 0) dX9_pass_40 (by decide) ?_
    refine v_iret (pc := 41) hR dX9_pass_41 ⟨by decide, by decide⟩ ?_
    exact ⟨_, hG, by simp [hk], by simp [hk]⟩
def kCan (a c : Nat) (p0 : Int32) : Int32 := if btw p0 0 (nI a - 1) then (if c = 6 then 2 else 0) else 1
def gCan (s : SG) (c : Nat) (p0 : Int32) : SG := sI (sI (sI (sI s 29 c p0) 32 c (-1)) 33 c (-1)) 28 0 (nI (c + 1))
set_option maxRecDepth 100000 in
set_option maxHeartbeats 4000000 in
theorem c_X9_canopy (D : DT) (m : Nat) (ad : AdT) (s : SG) (a c : Nat) (p0 : Int32) (hn : s.1 0 0 = nI a) (hc : s.1 28 0 = nI c) (hc2 : c ≤ 6) : MM yX9_canopy cX9_canopy 2 (Option.some Jvm.ClassFile.FieldType.int) rm_X9_canopy D [.ref m, .int p0] m ad s (fun v s' => v = some (.int (if kCan a c p0 = 0 then nI c else 0)) ∧ s' = if kCan a c p0 = 0 then gCan (thr s 0) c p0 else thr s (kCan a c p0)) := by
  intro G hG
  refine MC_of (by decide +kernel) (Nat.le_of_ble_eq_true rfl) (fun K sz hR => ?_)
  show V cX9_canopy _ 2 _ D K 0 [some (.ref m), some (.int p0)] [] G (0, 0)
  refine v_aload_n (pc := 0) dX9_canopy_0 rfl rfl ?_
  refine v_aload_n (pc := 1) dX9_canopy_1 rfl rfl ?_
  refine v_iload_n (pc := 2) dX9_canopy_2 rfl rfl ?_
  refine vm_callV1 (pc := 3) (0, 0) hG dX9_canopy_3 cw_X9_115 im_yX9_isLot se_yX9_isLot (c_X9_isLot D m ad _ _ ) rfl (Nat.le_of_ble_eq_true rfl) ⟨Nat.le_of_ble_eq_true rfl, Nat.le_of_ble_eq_true rfl⟩ ⟨by decide, by decide⟩ rfl (fun v s1 G hp hG => ?_)
  obtain ⟨hv1, hs1⟩ := hp
  subst hv1
  subst s1
  refine v_if_ne (pc := 6) (tgt := 13) dX9_canopy_6 (by decide) (fun c6 => ?_) (fun c6 => ?_)
  · rw [b2i_0, Decidable.not_not] at c6
    rw [hn] at c6
    refine v_aload_n (pc := 13) dX9_canopy_13 rfl rfl ?_
    refine vm_getI (pc := 14) (k := 28) hG dX9_canopy_14 fl_X9_204 rfl (by decide) (x := nI c) hc ?_
    refine v_bipush (pc := 17) (v := 6) dX9_canopy_17 (by decide) ?_
    refine v_icmp_ne (pc := 19) (tgt := 26) dX9_canopy_19 (by decide) (fun c19 => ?_) (fun c19 => ?_)
    · have h6 : c ≠ 6 := fun e => c19 (by rw [e]; rfl)
      have hk : kCan a c p0 = 0 := by rw [kCan, if_pos c6, if_neg h6]
      refine v_iconst (pc := 26) (v := 0) dX9_canopy_26 (by decide) ?_
      refine vm_callV1 (pc := 27) (0, 0) hG dX9_canopy_27 cw_X9_111 im_yX9_goes se_yX9_goes (c_X9_goes D m ad _ _ ) rfl (Nat.le_of_ble_eq_true rfl) ⟨Nat.le_of_ble_eq_true rfl, Nat.le_of_ble_eq_true rfl⟩ ⟨by decide, by decide⟩ rfl (fun v s1 G hp hG => ?_)
      obtain ⟨hv1, hs1⟩ := hp
      subst hv1
      subst s1
      refine v_if_ne (pc := 30) (tgt := 35) dX9_canopy_30 (by decide) (fun c30 => ?_) (fun c30 => absurd c30 (by decide))
      refine v_aload_n (pc := 35) dX9_canopy_35 rfl rfl ?_
      refine vm_getA (pc := 36) (k := 29) hG dX9_canopy_36 fl_X9_69 (by decide) ?_
      refine v_aload_n (pc := 39) dX9_canopy_39 rfl rfl ?_
      refine vm_getI (pc := 40) (k := 28) hG dX9_canopy_40 fl_X9_204 rfl (by decide) (x := nI c) hc ?_
      refine v_iload_n (pc := 43) dX9_canopy_43 rfl rfl ?_
      refine vm_iast (pc := 44) (k := 29) (j := c) hG dX9_canopy_44 rfl rfl (by have h0 : ml 29 = 6 := rfl; omega) (fun G hG => ?_)
      refine v_aload_n (pc := 45) dX9_canopy_45 rfl rfl ?_
      refine vm_getA (pc := 46) (k := 32) hG dX9_canopy_46 fl_X9_78 (by decide) ?_
      refine v_aload_n (pc := 49) dX9_canopy_49 rfl rfl ?_
      refine vm_getI (pc := 50) (k := 28) hG dX9_canopy_50 fl_X9_204 rfl (by decide) (x := nI c) hc ?_
      refine v_iconst (pc := 53) (v := (-1)) dX9_canopy_53 (by decide) ?_
      refine vm_iast (pc := 54) (k := 32) (j := c) hG dX9_canopy_54 rfl rfl (by have h0 : ml 32 = 6 := rfl; omega) (fun G hG => ?_)
      refine v_aload_n (pc := 55) dX9_canopy_55 rfl rfl ?_
      refine vm_getA (pc := 56) (k := 33) hG dX9_canopy_56 fl_X9_81 (by decide) ?_
      refine v_aload_n (pc := 59) dX9_canopy_59 rfl rfl ?_
      refine vm_getI (pc := 60) (k := 28) hG dX9_canopy_60 fl_X9_204 rfl (by decide) (x := nI c) hc ?_
      refine v_iconst (pc := 63) (v := (-1)) dX9_canopy_63 (by decide) ?_
      refine vm_iast (pc := 64) (k := 33) (j := c) hG dX9_canopy_64 rfl rfl (by have h0 : ml 33 = 6 := rfl; omega) (fun G hG => ?_)
      refine v_aload_n (pc := 65) dX9_canopy_65 rfl rfl ?_
      refine v_dup (pc := 66) dX9_canopy_66 rfl ?_
      refine vm_getI (pc := 67) (k := 28) hG dX9_canopy_67 fl_X9_204 rfl (by decide) (x := nI c) hc ?_
      refine v_iconst (pc := 70) (v := 1) dX9_canopy_70 (by decide) ?_
      refine v_iadd (pc := 71) dX9_canopy_71 ?_
      refine vm_putI (pc := 72) (k := 28) hG dX9_canopy_72 fw_X9_204 rfl (by decide) (fun G hG => ?_)
      refine v_aload_n (pc := 75) dX9_canopy_75 rfl rfl ?_
      refine vm_getI (pc := 76) (k := 28) hG dX9_canopy_76 fl_X9_204 rfl (by decide) (x := nI (c + 1)) (by simp [sI, u2, nI_1]) ?_
      refine v_iconst (pc := 79) (v := 1) dX9_canopy_79 (by decide) ?_
      refine v_isub (pc := 80) dX9_canopy_80 ?_
      refine v_iret (pc := 81) hR dX9_canopy_81 ⟨by decide, by decide⟩ ?_
      exact ⟨_, hG, by rw [if_pos hk, nI_pred], by rw [if_pos hk, gCan, nI_1]⟩
    · have h6 : c = 6 := (nI_eq (by omega) (by decide)).mp (c19.trans rfl)
      have hk : kCan a c p0 = 2 := by rw [kCan, if_pos c6, if_pos h6]
      refine v_iconst (pc := 22) (v := 2) dX9_canopy_22 (by decide) ?_
      refine v_goto (pc := 23) (tgt := 27) dX9_canopy_23 (by decide) ?_
      refine vm_callV1 (pc := 27) (0, 0) hG dX9_canopy_27 cw_X9_111 im_yX9_goes se_yX9_goes (c_X9_goes D m ad _ _ ) rfl (Nat.le_of_ble_eq_true rfl) ⟨Nat.le_of_ble_eq_true rfl, Nat.le_of_ble_eq_true rfl⟩ ⟨by decide, by decide⟩ rfl (fun v s1 G hp hG => ?_)
      obtain ⟨hv1, hs1⟩ := hp
      subst hv1
      subst s1
      refine v_if_ne (pc := 30) (tgt := 35) dX9_canopy_30 (by decide) (fun c30 => absurd c30 (by decide)) (fun c30 => ?_)
      refine v_iconst (pc := 33) (v := 0) dX9_canopy_33 (by decide) ?_
      refine v_iret (pc := 34) hR dX9_canopy_34 ⟨by decide, by decide⟩ ?_
      exact ⟨_, hG, by simp [hk], by simp [hk]⟩
  · rw [b2i_0] at c6
    rw [hn] at c6
    have hk : kCan a c p0 = 1 := by rw [kCan, if_neg c6]
    refine v_iconst (pc := 9) (v := 1) dX9_canopy_9 (by decide) ?_
    refine v_goto (pc := 10) (tgt := 27) dX9_canopy_10 (by decide) ?_
    refine vm_callV1 (pc := 27) (0, 0) hG dX9_canopy_27 cw_X9_111 im_yX9_goes se_yX9_goes (c_X9_goes D m ad _ _ ) rfl (Nat.le_of_ble_eq_true rfl) ⟨Nat.le_of_ble_eq_true rfl, Nat.le_of_ble_eq_true rfl⟩ ⟨by decide, by decide⟩ rfl (fun v s1 G hp hG => ?_)
    obtain ⟨hv1, hs1⟩ := hp
    subst hv1
    subst s1
    refine v_if_ne (pc := 30) (tgt := 35) dX9_canopy_30 (by decide) (fun c30 => absurd c30 (by decide)) (fun c30 => ?_)
    refine v_iconst (pc := 33) (v := 0) dX9_canopy_33 (by decide) ?_
    refine v_iret (pc := 34) hR dX9_canopy_34 ⟨by decide, by decide⟩ ?_
    exact ⟨_, hG, by simp [hk], by simp [hk]⟩
/-- how many parts every canopy has -/
def CV (s : SG) (nc : Nat) : Prop := ∀ i, i < nc → ∃ p l, p ≤ 8 ∧ s.1 30 i = nI p ∧ l < 6 ∧ s.1 29 i = nI l
def kPart (s : SG) (c : Nat) (p0 p1 : Int32) : Int32 := if btw p0 0 (nI c - 1) then (if btw p1 0 255 then (if s.1 30 (nat p0) = 8 ∨ ¬ s.1 32 (nat p0) = -1 then 3 else 0) else 2) else 1
def gPart (s : SG) (j p : Nat) (p1 : Int32) : SG := sI (sI s 31 (8 * j + p) p1) 30 j (nI (p + 1))
set_option maxRecDepth 100000 in
set_option maxHeartbeats 4000000 in
theorem c_X9_part (D : DT) (m : Nat) (ad : AdT) (s : SG) (c : Nat) (p0 : Int32) (p1 : Int32) (h : CV s c) (hc : s.1 28 0 = nI c) (hc2 : c ≤ 6) : MM yX9_part cX9_part 4 (Option.some Jvm.ClassFile.FieldType.int) rm_X9_part D [.ref m, .int p0, .int p1] m ad s (fun v s' => v = some (.int (if kPart s c p0 p1 = 0 then s.1 30 (nat p0) else 0)) ∧ s' = if kPart s c p0 p1 = 0 then gPart (thr s 0) (nat p0) (nat (s.1 30 (nat p0))) p1 else thr s (kPart s c p0 p1)) := by
  intro G hG
  refine MC_of (by decide +kernel) (Nat.le_of_ble_eq_true rfl) (fun K sz hR => ?_)
  show V cX9_part _ 4 _ D K 0 [some (.ref m), some (.int p0), some (.int p1), none] [] G (0, 0)
  refine v_aload_n (pc := 0) dX9_part_0 rfl rfl ?_
  refine v_iload_n (pc := 1) dX9_part_1 rfl rfl ?_
  refine vm_callV1 (pc := 2) (0, 0) hG dX9_part_2 cw_X9_210 im_yX9_isCanopy se_yX9_isCanopy (c_X9_isCanopy D m ad _ _ ) rfl (Nat.le_of_ble_eq_true rfl) ⟨Nat.le_of_ble_eq_true rfl, Nat.le_of_ble_eq_true rfl⟩ ⟨by decide, by decide⟩ rfl (fun v s1 G hp hG => ?_)
  obtain ⟨hv1, hs1⟩ := hp
  subst hv1
  subst s1
  refine v_istore_n (pc := 5) dX9_part_5 rfl rfl (by decide) ?_
  refine v_aload_n (pc := 6) dX9_part_6 rfl rfl ?_
  refine v_iload_n (pc := 7) dX9_part_7 rfl rfl ?_
  refine v_if_ne (pc := 8) (tgt := 15) dX9_part_8 (by decide) (fun c8 => ?_) (fun c8 => ?_)
  · rw [b2i_0, Decidable.not_not] at c8
    rw [hc] at c8
    obtain ⟨j, hj, rfl⟩ := (btw_ix (a := c) (by omega)).mp c8
    have en : nat (nI j) = j := nat_nI (by omega)
    obtain ⟨p, l, hp8, ep, -, -⟩ := h j hj
    refine v_iload_n (pc := 15) dX9_part_15 rfl rfl ?_
    refine v_iconst (pc := 16) (v := 0) dX9_part_16 (by decide) ?_
    refine v_sipush (pc := 17) (v := 255) dX9_part_17 (by decide) ?_
    refine v_callS3 (pc := 20) (0, 0) dX9_part_20 cw_X9_103 sm_yX9_isBetween (c_X9_isBetween D _ _ _ _ ) (Nat.le_of_ble_eq_true rfl) ⟨Nat.le_of_ble_eq_true rfl, Nat.le_of_ble_eq_true rfl⟩ ⟨by decide, by decide⟩ rfl (fun v G1 hp => ?_)
    obtain ⟨hv1, hs1⟩ := hp
    subst hv1
    subst G1
    refine v_if_ne (pc := 23) (tgt := 30) dX9_part_23 (by decide) (fun c23 => ?_) (fun c23 => ?_)
    · rw [b2i_0, Decidable.not_not] at c23
      refine v_aload_n (pc := 30) dX9_part_30 rfl rfl ?_
      refine vm_getA (pc := 31) (k := 30) hG dX9_part_31 fl_X9_72 (by decide) ?_
      refine v_iload_n (pc := 34) dX9_part_34 rfl rfl ?_
      refine vm_iald (pc := 35) (k := 30) (j := j) hG dX9_part_35 rfl rfl (by have h0 : ml 30 = 6 := rfl; omega) (x := nI p) ep ?_
      refine v_bipush (pc := 36) (v := 8) dX9_part_36 (by decide) ?_
      refine v_icmp_eq (pc := 38) (tgt := 49) dX9_part_38 (by decide) (fun c38 => ?_) (fun c38 => ?_)
      · have hk : kPart s c (nI j) p1 = 3 := by rw [kPart, if_pos c8, if_pos c23, if_pos (Or.inl (by rw [en, ep]; exact c38))]
        refine v_iconst (pc := 49) (v := 3) dX9_part_49 (by decide) ?_
        refine v_goto (pc := 50) (tgt := 54) dX9_part_50 (by decide) ?_
        refine vm_callV1 (pc := 54) (0, 0) hG dX9_part_54 cw_X9_111 im_yX9_goes se_yX9_goes (c_X9_goes D m ad _ _ ) rfl (Nat.le_of_ble_eq_true rfl) ⟨Nat.le_of_ble_eq_true rfl, Nat.le_of_ble_eq_true rfl⟩ ⟨by decide, by decide⟩ rfl (fun v s1 G hp hG => ?_)
        obtain ⟨hv1, hs1⟩ := hp
        subst hv1
        subst s1
        refine v_if_ne (pc := 57) (tgt := 62) dX9_part_57 (by decide) (fun c57 => absurd c57 (by decide)) (fun c57 => ?_)
        refine v_iconst (pc := 60) (v := 0) dX9_part_60 (by decide) ?_
        refine v_iret (pc := 61) hR dX9_part_61 ⟨by decide, by decide⟩ ?_
        exact ⟨_, hG, by simp [hk], by simp [hk]⟩
      · refine v_aload_n (pc := 41) dX9_part_41 rfl rfl ?_
        refine v_iload_n (pc := 42) dX9_part_42 rfl rfl ?_
        refine vm_callV1 (pc := 43) (0, 0) hG dX9_part_43 cw_X9_213 im_yX9_hasSeal se_yX9_hasSeal (c_X9_hasSeal D m ad _ _ j (by omega) rfl) rfl (Nat.le_of_ble_eq_true rfl) ⟨Nat.le_of_ble_eq_true rfl, Nat.le_of_ble_eq_true rfl⟩ ⟨by decide, by decide⟩ rfl (fun v s1 G hp hG => ?_)
        obtain ⟨hv1, hs1⟩ := hp
        subst hv1
        subst s1
        refine v_if_eq (pc := 46) (tgt := 53) dX9_part_46 (by decide) (fun c46 => ?_) (fun c46 => ?_)
        · rw [b2i_0] at c46
          have hk : kPart s c (nI j) p1 = 0 := by rw [kPart, if_pos c8, if_pos c23, if_neg (by rw [en, ep]; exact fun z => z.elim c38 c46)]
          refine v_iconst (pc := 53) (v := 0) dX9_part_53 (by decide) ?_
          refine vm_callV1 (pc := 54) (0, 0) hG dX9_part_54 cw_X9_111 im_yX9_goes se_yX9_goes (c_X9_goes D m ad _ _ ) rfl (Nat.le_of_ble_eq_true rfl) ⟨Nat.le_of_ble_eq_true rfl, Nat.le_of_ble_eq_true rfl⟩ ⟨by decide, by decide⟩ rfl (fun v s1 G hp hG => ?_)
          obtain ⟨hv1, hs1⟩ := hp
          subst hv1
          subst s1
          refine v_if_ne (pc := 57) (tgt := 62) dX9_part_57 (by decide) (fun c57 => ?_) (fun c57 => absurd c57 (by decide))
          refine v_aload_n (pc := 62) dX9_part_62 rfl rfl ?_
          refine vm_getA (pc := 63) (k := 31) hG dX9_part_63 fl_X9_75 (by decide) ?_
          refine v_bipush (pc := 66) (v := 8) dX9_part_66 (by decide) ?_
          refine v_iload_n (pc := 68) dX9_part_68 rfl rfl ?_
          refine v_imul (pc := 69) dX9_part_69 ?_
          refine v_aload_n (pc := 70) dX9_part_70 rfl rfl ?_
          refine vm_getA (pc := 71) (k := 30) hG dX9_part_71 fl_X9_72 (by decide) ?_
          refine v_iload_n (pc := 74) dX9_part_74 rfl rfl ?_
          refine vm_iald (pc := 75) (k := 30) (j := j) hG dX9_part_75 rfl rfl (by have h0 : ml 30 = 6 := rfl; omega) (x := nI p) ep ?_
          refine v_iadd (pc := 76) dX9_part_76 ?_
          refine v_iload_n (pc := 77) dX9_part_77 rfl rfl ?_
          refine vm_iast (pc := 78) (k := 31) (j := 8 * j + p) hG dX9_part_78 rfl (by rw [show (8 : Int32) = nI 8 from rfl, n_mul, nI_add]) (by have h0 : ml 31 = 48 := rfl; have : p ≠ 8 := (fun e => c38 (by rw [e]; rfl)); omega) (fun G hG => ?_)
          refine v_aload_n (pc := 79) dX9_part_79 rfl rfl ?_
          refine vm_getA (pc := 80) (k := 30) hG dX9_part_80 fl_X9_72 (by decide) ?_
          refine v_iload_n (pc := 83) dX9_part_83 rfl rfl ?_
          refine v_dup2 (pc := 84) dX9_part_84 rfl rfl ?_
          refine vm_iald (pc := 85) (k := 30) (j := j) hG dX9_part_85 rfl rfl (by have h0 : ml 30 = 6 := rfl; omega) (x := nI p) ep ?_
          refine v_iconst (pc := 86) (v := 1) dX9_part_86 (by decide) ?_
          refine v_iadd (pc := 87) dX9_part_87 ?_
          refine vm_iast (pc := 88) (k := 30) (j := j) hG dX9_part_88 rfl rfl (by have h0 : ml 30 = 6 := rfl; omega) (fun G hG => ?_)
          refine v_aload_n (pc := 89) dX9_part_89 rfl rfl ?_
          refine vm_getA (pc := 90) (k := 30) hG dX9_part_90 fl_X9_72 (by decide) ?_
          refine v_iload_n (pc := 93) dX9_part_93 rfl rfl ?_
          refine vm_iald (pc := 94) (k := 30) (j := j) hG dX9_part_94 rfl rfl (by have h0 : ml 30 = 6 := rfl; omega) (x := nI (p + 1)) (by simp [sI, u2, nI_1]) ?_
          refine v_iconst (pc := 95) (v := 1) dX9_part_95 (by decide) ?_
          refine v_isub (pc := 96) dX9_part_96 ?_
          refine v_iret (pc := 97) hR dX9_part_97 ⟨by decide, by decide⟩ ?_
          have ep2 : nat (s.1 30 j) = p := by rw [ep]; exact nat_nI (by omega)
          exact ⟨_, hG, by rw [if_pos hk, nI_pred, en, ep], by rw [if_pos hk, en, ep2, gPart, nI_1]⟩
        · rw [b2i_0, Decidable.not_not] at c46
          have hk : kPart s c (nI j) p1 = 3 := by rw [kPart, if_pos c8, if_pos c23, if_pos (Or.inr (by rw [en]; exact c46))]
          refine v_iconst (pc := 49) (v := 3) dX9_part_49 (by decide) ?_
          refine v_goto (pc := 50) (tgt := 54) dX9_part_50 (by decide) ?_
          refine vm_callV1 (pc := 54) (0, 0) hG dX9_part_54 cw_X9_111 im_yX9_goes se_yX9_goes (c_X9_goes D m ad _ _ ) rfl (Nat.le_of_ble_eq_true rfl) ⟨Nat.le_of_ble_eq_true rfl, Nat.le_of_ble_eq_true rfl⟩ ⟨by decide, by decide⟩ rfl (fun v s1 G hp hG => ?_)
          obtain ⟨hv1, hs1⟩ := hp
          subst hv1
          subst s1
          refine v_if_ne (pc := 57) (tgt := 62) dX9_part_57 (by decide) (fun c57 => absurd c57 (by decide)) (fun c57 => ?_)
          refine v_iconst (pc := 60) (v := 0) dX9_part_60 (by decide) ?_
          refine v_iret (pc := 61) hR dX9_part_61 ⟨by decide, by decide⟩ ?_
          exact ⟨_, hG, by simp [hk], by simp [hk]⟩
    · rw [b2i_0] at c23
      have hk : kPart s c (nI j) p1 = 2 := by rw [kPart, if_pos c8, if_neg c23]
      refine v_iconst (pc := 26) (v := 2) dX9_part_26 (by decide) ?_
      refine v_goto (pc := 27) (tgt := 54) dX9_part_27 (by decide) ?_
      refine vm_callV1 (pc := 54) (0, 0) hG dX9_part_54 cw_X9_111 im_yX9_goes se_yX9_goes (c_X9_goes D m ad _ _ ) rfl (Nat.le_of_ble_eq_true rfl) ⟨Nat.le_of_ble_eq_true rfl, Nat.le_of_ble_eq_true rfl⟩ ⟨by decide, by decide⟩ rfl (fun v s1 G hp hG => ?_)
      obtain ⟨hv1, hs1⟩ := hp
      subst hv1
      subst s1
      refine v_if_ne (pc := 57) (tgt := 62) dX9_part_57 (by decide) (fun c57 => absurd c57 (by decide)) (fun c57 => ?_)
      refine v_iconst (pc := 60) (v := 0) dX9_part_60 (by decide) ?_
      refine v_iret (pc := 61) hR dX9_part_61 ⟨by decide, by decide⟩ ?_
      exact ⟨_, hG, by simp [hk], by simp [hk]⟩
  · rw [b2i_0] at c8
    rw [hc] at c8
    have hk : kPart s c p0 p1 = 1 := by rw [kPart, if_neg c8]
    refine v_iconst (pc := 11) (v := 1) dX9_part_11 (by decide) ?_
    refine v_goto (pc := 12) (tgt := 54) dX9_part_12 (by decide) ?_
    refine vm_callV1 (pc := 54) (0, 0) hG dX9_part_54 cw_X9_111 im_yX9_goes se_yX9_goes (c_X9_goes D m ad _ _ ) rfl (Nat.le_of_ble_eq_true rfl) ⟨Nat.le_of_ble_eq_true rfl, Nat.le_of_ble_eq_true rfl⟩ ⟨by decide, by decide⟩ rfl (fun v s1 G hp hG => ?_)
    obtain ⟨hv1, hs1⟩ := hp
    subst hv1
    subst s1
    refine v_if_ne (pc := 57) (tgt := 62) dX9_part_57 (by decide) (fun c57 => absurd c57 (by decide)) (fun c57 => ?_)
    refine v_iconst (pc := 60) (v := 0) dX9_part_60 (by decide) ?_
    refine v_iret (pc := 61) hR dX9_part_61 ⟨by decide, by decide⟩ ?_
    exact ⟨_, hG, by simp [hk], by simp [hk]⟩
set_option maxRecDepth 100000 in
set_option maxHeartbeats 4000000 in
theorem c_X9_unseals (D : DT) (m : Nat) (ad : AdT) (s : SG) (j : Nat)  (hj : j < 6) : MM yX9_unseals cX9_unseals 2 (Option.none : Option Jvm.ClassFile.FieldType) rm_X9_unseals D [.ref m, .int (nI j)] m ad s (fun v s' => v = none ∧ s' = sI (sI s 32 j (-1)) 33 j (-1)) := by
  intro G hG
  refine MC_of (by decide +kernel) (Nat.le_of_ble_eq_true rfl) (fun K sz hR => ?_)
  show V cX9_unseals _ 2 _ D K 0 [some (.ref m), some (.int (nI j))] [] G (0, 0)
  refine v_aload_n (pc := 0) dX9_unseals_0 rfl rfl ?_
  refine vm_getA (pc := 1) (k := 32) hG dX9_unseals_1 fl_X9_78 (by decide) ?_
  refine v_iload_n (pc := 4) dX9_unseals_4 rfl rfl ?_
  refine v_iconst (pc := 5) (v := (-1)) dX9_unseals_5 (by decide) ?_
  refine vm_iast (pc := 6) (k := 32) (j := j) hG dX9_unseals_6 rfl rfl (by have h0 : ml 32 = 6 := rfl; omega) (fun G hG => ?_)
  refine v_aload_n (pc := 7) dX9_unseals_7 rfl rfl ?_
  refine vm_getA (pc := 8) (k := 33) hG dX9_unseals_8 fl_X9_81 (by decide) ?_
  refine v_iload_n (pc := 11) dX9_unseals_11 rfl rfl ?_
  refine v_iconst (pc := 12) (v := (-1)) dX9_unseals_12 (by decide) ?_
  refine vm_iast (pc := 13) (k := 33) (j := j) hG dX9_unseals_13 rfl rfl (by have h0 : ml 33 = 6 := rfl; omega) (fun G hG => ?_)
  refine v_vret (pc := 14) hR dX9_unseals_14 ⟨by decide, by decide⟩ ?_
  exact ⟨_, hG, rfl, rfl⟩
def lifeS (s : SG) (j : Nat) (p1 : Int32) : Int32 := if p1 = 3 then s.1 34 j else if p1 = 4 then s.1 35 j else s.1 36 j
set_option maxRecDepth 100000 in
set_option maxHeartbeats 4000000 in
theorem c_X9_lifeOf (D : DT) (m : Nat) (ad : AdT) (s : SG) (j : Nat) (p1 : Int32) (hj : j < 6) : MM yX9_lifeOf cX9_lifeOf 3 (Option.some Jvm.ClassFile.FieldType.int) rm_X9_lifeOf D [.ref m, .int (nI j), .int p1] m ad s (fun v s' => v = some (.int (lifeS s j p1)) ∧ s' = s) := by
  intro G hG
  refine MC_of (by decide +kernel) (Nat.le_of_ble_eq_true rfl) (fun K sz hR => ?_)
  show V cX9_lifeOf _ 3 _ D K 0 [some (.ref m), some (.int (nI j)), some (.int p1)] [] G (0, 0)
  refine v_iload_n (pc := 0) dX9_lifeOf_0 rfl rfl ?_
  refine v_iconst (pc := 1) (v := 3) dX9_lifeOf_1 (by decide) ?_
  refine v_icmp_ne (pc := 2) (tgt := 14) dX9_lifeOf_2 (by decide) (fun c2 => ?_) (fun c2 => ?_)
  · refine v_iload_n (pc := 14) dX9_lifeOf_14 rfl rfl ?_
    refine v_iconst (pc := 15) (v := 4) dX9_lifeOf_15 (by decide) ?_
    refine v_icmp_ne (pc := 16) (tgt := 28) dX9_lifeOf_16 (by decide) (fun c16 => ?_) (fun c16 => ?_)
    · refine v_aload_n (pc := 28) dX9_lifeOf_28 rfl rfl ?_
      refine vm_getA (pc := 29) (k := 36) hG dX9_lifeOf_29 fl_X9_90 (by decide) ?_
      refine v_iload_n (pc := 32) dX9_lifeOf_32 rfl rfl ?_
      refine vm_iald (pc := 33) (k := 36) (j := j) hG dX9_lifeOf_33 rfl rfl (by have h0 : ml 36 = 6 := rfl; omega) rfl ?_
      refine v_iret (pc := 34) hR dX9_lifeOf_34 ⟨by decide, by decide⟩ ?_
      exact ⟨_, hG, by simp [lifeS, *], rfl⟩
    · refine v_aload_n (pc := 19) dX9_lifeOf_19 rfl rfl ?_
      refine vm_getA (pc := 20) (k := 35) hG dX9_lifeOf_20 fl_X9_87 (by decide) ?_
      refine v_iload_n (pc := 23) dX9_lifeOf_23 rfl rfl ?_
      refine vm_iald (pc := 24) (k := 35) (j := j) hG dX9_lifeOf_24 rfl rfl (by have h0 : ml 35 = 6 := rfl; omega) rfl ?_
      refine v_goto (pc := 25) (tgt := 34) dX9_lifeOf_25 (by decide) ?_
      refine v_iret (pc := 34) hR dX9_lifeOf_34 ⟨by decide, by decide⟩ ?_
      exact ⟨_, hG, by simp [lifeS, *], rfl⟩
  · refine v_aload_n (pc := 5) dX9_lifeOf_5 rfl rfl ?_
    refine vm_getA (pc := 6) (k := 34) hG dX9_lifeOf_6 fl_X9_84 (by decide) ?_
    refine v_iload_n (pc := 9) dX9_lifeOf_9 rfl rfl ?_
    refine vm_iald (pc := 10) (k := 34) (j := j) hG dX9_lifeOf_10 rfl rfl (by have h0 : ml 34 = 6 := rfl; omega) rfl ?_
    refine v_goto (pc := 11) (tgt := 34) dX9_lifeOf_11 (by decide) ?_
    refine v_iret (pc := 34) hR dX9_lifeOf_34 ⟨by decide, by decide⟩ ?_
    exact ⟨_, hG, by simp [lifeS, *], rfl⟩
def kOf (c : Nat) (p0 p1 a b : Int32) : Int32 := if btw p0 0 (nI c - 1) then (if btw p1 a b then 0 else 2) else 1
def ofS (s : SG) (j : Nat) (p1 : Int32) : Int32 := if p1 = 0 then s.1 29 j else if p1 = 1 then s.1 32 j else if p1 = 2 then s.1 33 j else lifeS s j p1
set_option maxRecDepth 100000 in
set_option maxHeartbeats 4000000 in
theorem c_X9_ofCanopy (D : DT) (m : Nat) (ad : AdT) (s : SG) (c : Nat) (p0 : Int32) (p1 : Int32) (hc : s.1 28 0 = nI c) (hc2 : c ≤ 6) : MM yX9_ofCanopy cX9_ofCanopy 3 (Option.some Jvm.ClassFile.FieldType.int) rm_X9_ofCanopy D [.ref m, .int p0, .int p1] m ad s (fun v s' => v = some (.int (if kOf c p0 p1 0 5 = 0 then ofS s (nat p0) p1 else 0)) ∧ s' = thr s (kOf c p0 p1 0 5)) := by
  intro G hG
  refine MC_of (by decide +kernel) (Nat.le_of_ble_eq_true rfl) (fun K sz hR => ?_)
  show V cX9_ofCanopy _ 3 _ D K 0 [some (.ref m), some (.int p0), some (.int p1)] [] G (0, 0)
  refine v_aload_n (pc := 0) dX9_ofCanopy_0 rfl rfl ?_
  refine v_aload_n (pc := 1) dX9_ofCanopy_1 rfl rfl ?_
  refine v_iload_n (pc := 2) dX9_ofCanopy_2 rfl rfl ?_
  refine vm_callV1 (pc := 3) (0, 0) hG dX9_ofCanopy_3 cw_X9_210 im_yX9_isCanopy se_yX9_isCanopy (c_X9_isCanopy D m ad _ _ ) rfl (Nat.le_of_ble_eq_true rfl) ⟨Nat.le_of_ble_eq_true rfl, Nat.le_of_ble_eq_true rfl⟩ ⟨by decide, by decide⟩ rfl (fun v s1 G hp hG => ?_)
  obtain ⟨hv1, hs1⟩ := hp
  subst hv1
  subst s1
  refine v_if_ne (pc := 6) (tgt := 13) dX9_ofCanopy_6 (by decide) (fun c6 => ?_) (fun c6 => ?_)
  · rw [b2i_0, Decidable.not_not] at c6
    rw [hc] at c6
    obtain ⟨j, hj, rfl⟩ := (btw_ix (a := c) (by omega)).mp c6
    have en : nat (nI j) = j := nat_nI (by omega)
    refine v_iload_n (pc := 13) dX9_ofCanopy_13 rfl rfl ?_
    refine v_iconst (pc := 14) (v := 0) dX9_ofCanopy_14 (by decide) ?_
    refine v_iconst (pc := 15) (v := 5) dX9_ofCanopy_15 (by decide) ?_
    refine v_callS3 (pc := 16) (0, 0) dX9_ofCanopy_16 cw_X9_103 sm_yX9_isBetween (c_X9_isBetween D _ _ _ _ ) (Nat.le_of_ble_eq_true rfl) ⟨Nat.le_of_ble_eq_true rfl, Nat.le_of_ble_eq_true rfl⟩ ⟨by decide, by decide⟩ rfl (fun v G1 hp => ?_)
    obtain ⟨hv1, hs1⟩ := hp
    subst hv1
    subst G1
    refine v_if_eq (pc := 19) (tgt := 26) dX9_ofCanopy_19 (by decide) (fun c19 => ?_) (fun c19 => ?_)
    · rw [b2i_0] at c19
      have hk : kOf c (nI j) p1 0 5 = 2 := by rw [kOf, if_pos c6, if_neg c19]
      refine v_iconst (pc := 26) (v := 2) dX9_ofCanopy_26 (by decide) ?_
      refine vm_callV1 (pc := 27) (0, 0) hG dX9_ofCanopy_27 cw_X9_111 im_yX9_goes se_yX9_goes (c_X9_goes D m ad _ _ ) rfl (Nat.le_of_ble_eq_true rfl) ⟨Nat.le_of_ble_eq_true rfl, Nat.le_of_ble_eq_true rfl⟩ ⟨by decide, by decide⟩ rfl (fun v s1 G hp hG => ?_)
      obtain ⟨hv1, hs1⟩ := hp
      subst hv1
      subst s1
      refine v_if_ne (pc := 30) (tgt := 35) dX9_ofCanopy_30 (by decide) (fun c30 => absurd c30 (by decide)) (fun c30 => ?_)
      refine v_iconst (pc := 33) (v := 0) dX9_ofCanopy_33 (by decide) ?_
      refine v_iret (pc := 34) hR dX9_ofCanopy_34 ⟨by decide, by decide⟩ ?_
      exact ⟨_, hG, by simp [hk], by rw [hk]⟩
    · rw [b2i_0, Decidable.not_not] at c19
      have hk : kOf c (nI j) p1 0 5 = 0 := by rw [kOf, if_pos c6, if_pos c19]
      refine v_iconst (pc := 22) (v := 0) dX9_ofCanopy_22 (by decide) ?_
      refine v_goto (pc := 23) (tgt := 27) dX9_ofCanopy_23 (by decide) ?_
      refine vm_callV1 (pc := 27) (0, 0) hG dX9_ofCanopy_27 cw_X9_111 im_yX9_goes se_yX9_goes (c_X9_goes D m ad _ _ ) rfl (Nat.le_of_ble_eq_true rfl) ⟨Nat.le_of_ble_eq_true rfl, Nat.le_of_ble_eq_true rfl⟩ ⟨by decide, by decide⟩ rfl (fun v s1 G hp hG => ?_)
      obtain ⟨hv1, hs1⟩ := hp
      subst hv1
      subst s1
      refine v_if_ne (pc := 30) (tgt := 35) dX9_ofCanopy_30 (by decide) (fun c30 => ?_) (fun c30 => absurd c30 (by decide))
      refine v_iload_n (pc := 35) dX9_ofCanopy_35 rfl rfl ?_
      refine v_if_ne (pc := 36) (tgt := 48) dX9_ofCanopy_36 (by decide) (fun c36 => ?_) (fun c36 => ?_)
      · refine v_iload_n (pc := 48) dX9_ofCanopy_48 rfl rfl ?_
        refine v_iconst (pc := 49) (v := 1) dX9_ofCanopy_49 (by decide) ?_
        refine v_icmp_ne (pc := 50) (tgt := 62) dX9_ofCanopy_50 (by decide) (fun c50 => ?_) (fun c50 => ?_)
        · refine v_iload_n (pc := 62) dX9_ofCanopy_62 rfl rfl ?_
          refine v_iconst (pc := 63) (v := 2) dX9_ofCanopy_63 (by decide) ?_
          refine v_icmp_ne (pc := 64) (tgt := 76) dX9_ofCanopy_64 (by decide) (fun c64 => ?_) (fun c64 => ?_)
          · refine v_aload_n (pc := 76) dX9_ofCanopy_76 rfl rfl ?_
            refine v_iload_n (pc := 77) dX9_ofCanopy_77 rfl rfl ?_
            refine v_iload_n (pc := 78) dX9_ofCanopy_78 rfl rfl ?_
            refine vm_callV2 (pc := 79) (0, 0) hG dX9_ofCanopy_79 cw_X9_226 im_yX9_lifeOf se_yX9_lifeOf (c_X9_lifeOf D m ad _ j _ (by omega)) rfl (Nat.le_of_ble_eq_true rfl) ⟨Nat.le_of_ble_eq_true rfl, Nat.le_of_ble_eq_true rfl⟩ ⟨by decide, by decide⟩ rfl (fun v s1 G hp hG => ?_)
            obtain ⟨hv1, hs1⟩ := hp
            subst hv1
            subst s1
            refine v_iret (pc := 82) hR dX9_ofCanopy_82 ⟨by decide, by decide⟩ ?_
            exact ⟨_, hG, by rw [if_pos hk, en]; simp [ofS, *]; try rfl, by rw [hk]⟩
          · refine v_aload_n (pc := 67) dX9_ofCanopy_67 rfl rfl ?_
            refine vm_getA (pc := 68) (k := 33) hG dX9_ofCanopy_68 fl_X9_81 (by decide) ?_
            refine v_iload_n (pc := 71) dX9_ofCanopy_71 rfl rfl ?_
            refine vm_iald (pc := 72) (k := 33) (j := j) hG dX9_ofCanopy_72 rfl rfl (by have h0 : ml 33 = 6 := rfl; omega) rfl ?_
            refine v_goto (pc := 73) (tgt := 82) dX9_ofCanopy_73 (by decide) ?_
            refine v_iret (pc := 82) hR dX9_ofCanopy_82 ⟨by decide, by decide⟩ ?_
            exact ⟨_, hG, by rw [if_pos hk, en]; simp [ofS, *]; try rfl, by rw [hk]⟩
        · refine v_aload_n (pc := 53) dX9_ofCanopy_53 rfl rfl ?_
          refine vm_getA (pc := 54) (k := 32) hG dX9_ofCanopy_54 fl_X9_78 (by decide) ?_
          refine v_iload_n (pc := 57) dX9_ofCanopy_57 rfl rfl ?_
          refine vm_iald (pc := 58) (k := 32) (j := j) hG dX9_ofCanopy_58 rfl rfl (by have h0 : ml 32 = 6 := rfl; omega) rfl ?_
          refine v_goto (pc := 59) (tgt := 82) dX9_ofCanopy_59 (by decide) ?_
          refine v_iret (pc := 82) hR dX9_ofCanopy_82 ⟨by decide, by decide⟩ ?_
          exact ⟨_, hG, by rw [if_pos hk, en]; simp [ofS, *]; try rfl, by rw [hk]⟩
      · refine v_aload_n (pc := 39) dX9_ofCanopy_39 rfl rfl ?_
        refine vm_getA (pc := 40) (k := 29) hG dX9_ofCanopy_40 fl_X9_69 (by decide) ?_
        refine v_iload_n (pc := 43) dX9_ofCanopy_43 rfl rfl ?_
        refine vm_iald (pc := 44) (k := 29) (j := j) hG dX9_ofCanopy_44 rfl rfl (by have h0 : ml 29 = 6 := rfl; omega) rfl ?_
        refine v_goto (pc := 45) (tgt := 82) dX9_ofCanopy_45 (by decide) ?_
        refine v_iret (pc := 82) hR dX9_ofCanopy_82 ⟨by decide, by decide⟩ ?_
        exact ⟨_, hG, by rw [if_pos hk, en]; simp [ofS, *]; try rfl, by rw [hk]⟩
  · rw [b2i_0] at c6
    rw [hc] at c6
    have hk : kOf c p0 p1 0 5 = 1 := by rw [kOf, if_neg c6]
    refine v_iconst (pc := 9) (v := 1) dX9_ofCanopy_9 (by decide) ?_
    refine v_goto (pc := 10) (tgt := 27) dX9_ofCanopy_10 (by decide) ?_
    refine vm_callV1 (pc := 27) (0, 0) hG dX9_ofCanopy_27 cw_X9_111 im_yX9_goes se_yX9_goes (c_X9_goes D m ad _ _ ) rfl (Nat.le_of_ble_eq_true rfl) ⟨Nat.le_of_ble_eq_true rfl, Nat.le_of_ble_eq_true rfl⟩ ⟨by decide, by decide⟩ rfl (fun v s1 G hp hG => ?_)
    obtain ⟨hv1, hs1⟩ := hp
    subst hv1
    subst s1
    refine v_if_ne (pc := 30) (tgt := 35) dX9_ofCanopy_30 (by decide) (fun c30 => absurd c30 (by decide)) (fun c30 => ?_)
    refine v_iconst (pc := 33) (v := 0) dX9_ofCanopy_33 (by decide) ?_
    refine v_iret (pc := 34) hR dX9_ofCanopy_34 ⟨by decide, by decide⟩ ?_
    exact ⟨_, hG, by simp [hk], by rw [hk]⟩
set_option maxRecDepth 100000 in
set_option maxHeartbeats 4000000 in
theorem c_X9_lifeAnew (D : DT) (m : Nat) (ad : AdT) (s : SG) (c : Nat) (p0 : Int32) (p1 : Int32) (hc : s.1 28 0 = nI c) (hc2 : c ≤ 6) : MM yX9_lifeAnew cX9_lifeAnew 3 (Option.some Jvm.ClassFile.FieldType.int) rm_X9_lifeAnew D [.ref m, .int p0, .int p1] m ad s (fun v s' => v = some (.int (if kOf c p0 p1 3 5 = 0 then lifeS s (nat p0) p1 else 0)) ∧ s' = thr s (kOf c p0 p1 3 5)) := by
  intro G hG
  refine MC_of (by decide +kernel) (Nat.le_of_ble_eq_true rfl) (fun K sz hR => ?_)
  show V cX9_lifeAnew _ 3 _ D K 0 [some (.ref m), some (.int p0), some (.int p1)] [] G (0, 0)
  refine v_aload_n (pc := 0) dX9_lifeAnew_0 rfl rfl ?_
  refine v_aload_n (pc := 1) dX9_lifeAnew_1 rfl rfl ?_
  refine v_iload_n (pc := 2) dX9_lifeAnew_2 rfl rfl ?_
  refine vm_callV1 (pc := 3) (0, 0) hG dX9_lifeAnew_3 cw_X9_210 im_yX9_isCanopy se_yX9_isCanopy (c_X9_isCanopy D m ad _ _ ) rfl (Nat.le_of_ble_eq_true rfl) ⟨Nat.le_of_ble_eq_true rfl, Nat.le_of_ble_eq_true rfl⟩ ⟨by decide, by decide⟩ rfl (fun v s1 G hp hG => ?_)
  obtain ⟨hv1, hs1⟩ := hp
  subst hv1
  subst s1
  refine v_if_ne (pc := 6) (tgt := 13) dX9_lifeAnew_6 (by decide) (fun c6 => ?_) (fun c6 => ?_)
  · rw [b2i_0, Decidable.not_not] at c6
    rw [hc] at c6
    obtain ⟨j, hj, rfl⟩ := (btw_ix (a := c) (by omega)).mp c6
    have en : nat (nI j) = j := nat_nI (by omega)
    refine v_iload_n (pc := 13) dX9_lifeAnew_13 rfl rfl ?_
    refine v_iconst (pc := 14) (v := 3) dX9_lifeAnew_14 (by decide) ?_
    refine v_iconst (pc := 15) (v := 5) dX9_lifeAnew_15 (by decide) ?_
    refine v_callS3 (pc := 16) (0, 0) dX9_lifeAnew_16 cw_X9_103 sm_yX9_isBetween (c_X9_isBetween D _ _ _ _ ) (Nat.le_of_ble_eq_true rfl) ⟨Nat.le_of_ble_eq_true rfl, Nat.le_of_ble_eq_true rfl⟩ ⟨by decide, by decide⟩ rfl (fun v G1 hp => ?_)
    obtain ⟨hv1, hs1⟩ := hp
    subst hv1
    subst G1
    refine v_if_eq (pc := 19) (tgt := 26) dX9_lifeAnew_19 (by decide) (fun c19 => ?_) (fun c19 => ?_)
    · rw [b2i_0] at c19
      have hk : kOf c (nI j) p1 3 5 = 2 := by rw [kOf, if_pos c6, if_neg c19]
      refine v_iconst (pc := 26) (v := 2) dX9_lifeAnew_26 (by decide) ?_
      refine vm_callV1 (pc := 27) (0, 0) hG dX9_lifeAnew_27 cw_X9_111 im_yX9_goes se_yX9_goes (c_X9_goes D m ad _ _ ) rfl (Nat.le_of_ble_eq_true rfl) ⟨Nat.le_of_ble_eq_true rfl, Nat.le_of_ble_eq_true rfl⟩ ⟨by decide, by decide⟩ rfl (fun v s1 G hp hG => ?_)
      obtain ⟨hv1, hs1⟩ := hp
      subst hv1
      subst s1
      refine v_if_eq (pc := 30) (tgt := 42) dX9_lifeAnew_30 (by decide) (fun c30 => ?_) (fun c30 => absurd c30 (by decide))
      refine v_iconst (pc := 42) (v := 0) dX9_lifeAnew_42 (by decide) ?_
      refine v_iret (pc := 43) hR dX9_lifeAnew_43 ⟨by decide, by decide⟩ ?_
      first | exact ⟨_, hG, by rw [if_pos hk, en]; rfl, by rw [hk]⟩ | exact ⟨_, hG, by simp [hk], by rw [hk]⟩
    · rw [b2i_0, Decidable.not_not] at c19
      have hk : kOf c (nI j) p1 3 5 = 0 := by rw [kOf, if_pos c6, if_pos c19]
      refine v_iconst (pc := 22) (v := 0) dX9_lifeAnew_22 (by decide) ?_
      refine v_goto (pc := 23) (tgt := 27) dX9_lifeAnew_23 (by decide) ?_
      refine vm_callV1 (pc := 27) (0, 0) hG dX9_lifeAnew_27 cw_X9_111 im_yX9_goes se_yX9_goes (c_X9_goes D m ad _ _ ) rfl (Nat.le_of_ble_eq_true rfl) ⟨Nat.le_of_ble_eq_true rfl, Nat.le_of_ble_eq_true rfl⟩ ⟨by decide, by decide⟩ rfl (fun v s1 G hp hG => ?_)
      obtain ⟨hv1, hs1⟩ := hp
      subst hv1
      subst s1
      refine v_if_eq (pc := 30) (tgt := 42) dX9_lifeAnew_30 (by decide) (fun c30 => absurd c30 (by decide)) (fun c30 => ?_)
      refine v_aload_n (pc := 33) dX9_lifeAnew_33 rfl rfl ?_
      refine v_iload_n (pc := 34) dX9_lifeAnew_34 rfl rfl ?_
      refine v_iload_n (pc := 35) dX9_lifeAnew_35 rfl rfl ?_
      refine vm_callV2 (pc := 36) (0, 0) hG dX9_lifeAnew_36 cw_X9_226 im_yX9_lifeOf se_yX9_lifeOf (c_X9_lifeOf D m ad _ j _ (by omega)) rfl (Nat.le_of_ble_eq_true rfl) ⟨Nat.le_of_ble_eq_true rfl, Nat.le_of_ble_eq_true rfl⟩ ⟨by decide, by decide⟩ rfl (fun v s1 G hp hG => ?_)
      obtain ⟨hv1, hs1⟩ := hp
      subst hv1
      subst s1
      refine v_goto (pc := 39) (tgt := 43) dX9_lifeAnew_39 (by decide) ?_
      refine v_iret (pc := 43) hR dX9_lifeAnew_43 ⟨by decide, by decide⟩ ?_
      first | exact ⟨_, hG, by rw [if_pos hk, en]; rfl, by rw [hk]⟩ | exact ⟨_, hG, by simp [hk], by rw [hk]⟩
  · rw [b2i_0] at c6
    rw [hc] at c6
    have hk : kOf c p0 p1 3 5 = 1 := by rw [kOf, if_neg c6]
    refine v_iconst (pc := 9) (v := 1) dX9_lifeAnew_9 (by decide) ?_
    refine v_goto (pc := 10) (tgt := 27) dX9_lifeAnew_10 (by decide) ?_
    refine vm_callV1 (pc := 27) (0, 0) hG dX9_lifeAnew_27 cw_X9_111 im_yX9_goes se_yX9_goes (c_X9_goes D m ad _ _ ) rfl (Nat.le_of_ble_eq_true rfl) ⟨Nat.le_of_ble_eq_true rfl, Nat.le_of_ble_eq_true rfl⟩ ⟨by decide, by decide⟩ rfl (fun v s1 G hp hG => ?_)
    obtain ⟨hv1, hs1⟩ := hp
    subst hv1
    subst s1
    refine v_if_eq (pc := 30) (tgt := 42) dX9_lifeAnew_30 (by decide) (fun c30 => ?_) (fun c30 => absurd c30 (by decide))
    refine v_iconst (pc := 42) (v := 0) dX9_lifeAnew_42 (by decide) ?_
    refine v_iret (pc := 43) hR dX9_lifeAnew_43 ⟨by decide, by decide⟩ ?_
    first | exact ⟨_, hG, by rw [if_pos hk, en]; rfl, by rw [hk]⟩ | exact ⟨_, hG, by simp [hk], by rw [hk]⟩
def kWet (s : SG) (c : Nat) (p0 : Int32) : Int32 := if btw p0 0 (nI c - 1) then (if s.1 32 (nat p0) = -1 then 0 else 2) else 1
def gWet (s : SG) (j : Nat) (p1 : Int32) : SG := sI (sI s 36 j (s.1 36 j + if p1 = 0 then 1 else 0)) 37 j (if p1 = 0 then s.1 37 j + 1 else 0)
set_option maxRecDepth 100000 in
set_option maxHeartbeats 4000000 in
theorem c_X9_wet (D : DT) (m : Nat) (ad : AdT) (s : SG) (c : Nat) (p0 : Int32) (p1 : Int32) (hc : s.1 28 0 = nI c) (hc2 : c ≤ 6) : MM yX9_wet cX9_wet 4 (Option.some Jvm.ClassFile.FieldType.int) rm_X9_wet D [.ref m, .int p0, .int p1] m ad s (fun v s' => v = some (.int (if kWet s c p0 = 0 then (gWet s (nat p0) p1).1 37 (nat p0) else 0)) ∧ s' = if kWet s c p0 = 0 then gWet (thr s 0) (nat p0) p1 else thr s (kWet s c p0)) := by
  intro G hG
  refine MC_of (by decide +kernel) (Nat.le_of_ble_eq_true rfl) (fun K sz hR => ?_)
  show V cX9_wet _ 4 _ D K 0 [some (.ref m), some (.int p0), some (.int p1), none] [] G (0, 0)
  refine v_aload_n (pc := 0) dX9_wet_0 rfl rfl ?_
  refine v_iload_n (pc := 1) dX9_wet_1 rfl rfl ?_
  refine vm_callV1 (pc := 2) (0, 0) hG dX9_wet_2 cw_X9_210 im_yX9_isCanopy se_yX9_isCanopy (c_X9_isCanopy D m ad _ _ ) rfl (Nat.le_of_ble_eq_true rfl) ⟨Nat.le_of_ble_eq_true rfl, Nat.le_of_ble_eq_true rfl⟩ ⟨by decide, by decide⟩ rfl (fun v s1 G hp hG => ?_)
  obtain ⟨hv1, hs1⟩ := hp
  subst hv1
  subst s1
  refine v_istore_n (pc := 5) dX9_wet_5 rfl rfl (by decide) ?_
  refine v_aload_n (pc := 6) dX9_wet_6 rfl rfl ?_
  refine v_iload_n (pc := 7) dX9_wet_7 rfl rfl ?_
  refine v_if_ne (pc := 8) (tgt := 15) dX9_wet_8 (by decide) (fun c8 => ?_) (fun c8 => ?_)
  · rw [b2i_0, Decidable.not_not] at c8
    rw [hc] at c8
    obtain ⟨j, hj, rfl⟩ := (btw_ix (a := c) (by omega)).mp c8
    have en : nat (nI j) = j := nat_nI (by omega)
    refine v_aload_n (pc := 15) dX9_wet_15 rfl rfl ?_
    refine v_iload_n (pc := 16) dX9_wet_16 rfl rfl ?_
    refine vm_callV1 (pc := 17) (0, 0) hG dX9_wet_17 cw_X9_213 im_yX9_hasSeal se_yX9_hasSeal (c_X9_hasSeal D m ad _ _ j (by omega) rfl) rfl (Nat.le_of_ble_eq_true rfl) ⟨Nat.le_of_ble_eq_true rfl, Nat.le_of_ble_eq_true rfl⟩ ⟨by decide, by decide⟩ rfl (fun v s1 G hp hG => ?_)
    obtain ⟨hv1, hs1⟩ := hp
    subst hv1
    subst s1
    refine v_if_eq (pc := 20) (tgt := 27) dX9_wet_20 (by decide) (fun c20 => ?_) (fun c20 => ?_)
    · rw [b2i_0] at c20
      rw [Decidable.not_not] at c20
      have hk : kWet s c (nI j) = 0 := by rw [kWet, if_pos c8, if_pos (by rw [en]; exact c20)]
      refine v_iconst (pc := 27) (v := 0) dX9_wet_27 (by decide) ?_
      refine vm_callV1 (pc := 28) (0, 0) hG dX9_wet_28 cw_X9_111 im_yX9_goes se_yX9_goes (c_X9_goes D m ad _ _ ) rfl (Nat.le_of_ble_eq_true rfl) ⟨Nat.le_of_ble_eq_true rfl, Nat.le_of_ble_eq_true rfl⟩ ⟨by decide, by decide⟩ rfl (fun v s1 G hp hG => ?_)
      obtain ⟨hv1, hs1⟩ := hp
      subst hv1
      subst s1
      refine v_if_ne (pc := 31) (tgt := 36) dX9_wet_31 (by decide) (fun c31 => ?_) (fun c31 => absurd c31 (by decide))
      refine v_aload_n (pc := 36) dX9_wet_36 rfl rfl ?_
      refine vm_getA (pc := 37) (k := 36) hG dX9_wet_37 fl_X9_90 (by decide) ?_
      refine v_iload_n (pc := 40) dX9_wet_40 rfl rfl ?_
      refine v_dup2 (pc := 41) dX9_wet_41 rfl rfl ?_
      refine vm_iald (pc := 42) (k := 36) (j := j) hG dX9_wet_42 rfl rfl (by have h0 : ml 36 = 6 := rfl; omega) (x := s.1 36 j) rfl ?_
      refine v_iload_n (pc := 43) dX9_wet_43 rfl rfl ?_
      refine v_if_eq (pc := 44) (tgt := 51) dX9_wet_44 (by decide) (fun c44 => ?_) (fun c44 => ?_)
      · have q1 : gWet (thr s 0) j p1 = sI (sI (thr s 0) 36 j (s.1 36 j + 1)) 37 j (s.1 37 j + 1) := by simp only [gWet, if_pos c44]; rfl
        refine v_iconst (pc := 51) (v := 1) dX9_wet_51 (by decide) ?_
        refine v_iadd (pc := 52) dX9_wet_52 ?_
        refine vm_iast (pc := 53) (k := 36) (j := j) hG dX9_wet_53 rfl rfl (by have h0 : ml 36 = 6 := rfl; omega) (fun G hG => ?_)
        refine v_aload_n (pc := 54) dX9_wet_54 rfl rfl ?_
        refine vm_getA (pc := 55) (k := 37) hG dX9_wet_55 fl_X9_93 (by decide) ?_
        refine v_iload_n (pc := 58) dX9_wet_58 rfl rfl ?_
        refine v_iload_n (pc := 59) dX9_wet_59 rfl rfl ?_
        refine v_if_eq (pc := 60) (tgt := 67) dX9_wet_60 (by decide) (fun c60 => ?_) (fun c60 => ?_)
        · refine v_aload_n (pc := 67) dX9_wet_67 rfl rfl ?_
          refine vm_getA (pc := 68) (k := 37) hG dX9_wet_68 fl_X9_93 (by decide) ?_
          refine v_iload_n (pc := 71) dX9_wet_71 rfl rfl ?_
          refine vm_iald (pc := 72) (k := 37) (j := j) hG dX9_wet_72 rfl rfl (by have h0 : ml 37 = 6 := rfl; omega) (x := s.1 37 j) (by simp [sI, u2]) ?_
          refine v_iconst (pc := 73) (v := 1) dX9_wet_73 (by decide) ?_
          refine v_iadd (pc := 74) dX9_wet_74 ?_
          refine vm_iast (pc := 75) (k := 37) (j := j) hG dX9_wet_75 rfl rfl (by have h0 : ml 37 = 6 := rfl; omega) (fun G hG => ?_)
          refine v_aload_n (pc := 76) dX9_wet_76 rfl rfl ?_
          refine vm_getA (pc := 77) (k := 37) hG dX9_wet_77 fl_X9_93 (by decide) ?_
          refine v_iload_n (pc := 80) dX9_wet_80 rfl rfl ?_
          refine vm_iald (pc := 81) (k := 37) (j := j) hG dX9_wet_81 rfl rfl (by have h0 : ml 37 = 6 := rfl; omega) (x := (gWet (thr s 0) j p1).1 37 j) (by first | exact absurd c44 c60 | exact absurd c60 c44 | rw [q1]) ?_
          refine v_iret (pc := 82) hR dX9_wet_82 ⟨by decide, by decide⟩ ?_
          first
            | exact absurd c44 c60
            | exact absurd c60 c44
            | exact ⟨_, hG, by rw [if_pos hk, en]; rfl, by rw [if_pos hk, en, q1]⟩
        · refine v_iconst (pc := 63) (v := 0) dX9_wet_63 (by decide) ?_
          refine v_goto (pc := 64) (tgt := 75) dX9_wet_64 (by decide) ?_
          refine vm_iast (pc := 75) (k := 37) (j := j) hG dX9_wet_75 rfl rfl (by have h0 : ml 37 = 6 := rfl; omega) (fun G hG => ?_)
          refine v_aload_n (pc := 76) dX9_wet_76 rfl rfl ?_
          refine vm_getA (pc := 77) (k := 37) hG dX9_wet_77 fl_X9_93 (by decide) ?_
          refine v_iload_n (pc := 80) dX9_wet_80 rfl rfl ?_
          refine vm_iald (pc := 81) (k := 37) (j := j) hG dX9_wet_81 rfl rfl (by have h0 : ml 37 = 6 := rfl; omega) (x := (gWet (thr s 0) j p1).1 37 j) (by first | exact absurd c44 c60 | exact absurd c60 c44 | rw [q1]) ?_
          refine v_iret (pc := 82) hR dX9_wet_82 ⟨by decide, by decide⟩ ?_
          first
            | exact absurd c44 c60
            | exact absurd c60 c44
            | exact ⟨_, hG, by rw [if_pos hk, en]; rfl, by rw [if_pos hk, en, q1]⟩
      · have q1 : gWet (thr s 0) j p1 = sI (sI (thr s 0) 36 j (s.1 36 j + 0)) 37 j 0 := by simp only [gWet, if_neg c44]; rfl
        refine v_iconst (pc := 47) (v := 0) dX9_wet_47 (by decide) ?_
        refine v_goto (pc := 48) (tgt := 52) dX9_wet_48 (by decide) ?_
        refine v_iadd (pc := 52) dX9_wet_52 ?_
        refine vm_iast (pc := 53) (k := 36) (j := j) hG dX9_wet_53 rfl rfl (by have h0 : ml 36 = 6 := rfl; omega) (fun G hG => ?_)
        refine v_aload_n (pc := 54) dX9_wet_54 rfl rfl ?_
        refine vm_getA (pc := 55) (k := 37) hG dX9_wet_55 fl_X9_93 (by decide) ?_
        refine v_iload_n (pc := 58) dX9_wet_58 rfl rfl ?_
        refine v_iload_n (pc := 59) dX9_wet_59 rfl rfl ?_
        refine v_if_eq (pc := 60) (tgt := 67) dX9_wet_60 (by decide) (fun c60 => ?_) (fun c60 => ?_)
        · refine v_aload_n (pc := 67) dX9_wet_67 rfl rfl ?_
          refine vm_getA (pc := 68) (k := 37) hG dX9_wet_68 fl_X9_93 (by decide) ?_
          refine v_iload_n (pc := 71) dX9_wet_71 rfl rfl ?_
          refine vm_iald (pc := 72) (k := 37) (j := j) hG dX9_wet_72 rfl rfl (by have h0 : ml 37 = 6 := rfl; omega) (x := s.1 37 j) (by simp [sI, u2]) ?_
          refine v_iconst (pc := 73) (v := 1) dX9_wet_73 (by decide) ?_
          refine v_iadd (pc := 74) dX9_wet_74 ?_
          refine vm_iast (pc := 75) (k := 37) (j := j) hG dX9_wet_75 rfl rfl (by have h0 : ml 37 = 6 := rfl; omega) (fun G hG => ?_)
          refine v_aload_n (pc := 76) dX9_wet_76 rfl rfl ?_
          refine vm_getA (pc := 77) (k := 37) hG dX9_wet_77 fl_X9_93 (by decide) ?_
          refine v_iload_n (pc := 80) dX9_wet_80 rfl rfl ?_
          refine vm_iald (pc := 81) (k := 37) (j := j) hG dX9_wet_81 rfl rfl (by have h0 : ml 37 = 6 := rfl; omega) (x := (gWet (thr s 0) j p1).1 37 j) (by first | exact absurd c44 c60 | exact absurd c60 c44 | rw [q1]) ?_
          refine v_iret (pc := 82) hR dX9_wet_82 ⟨by decide, by decide⟩ ?_
          first
            | exact absurd c44 c60
            | exact absurd c60 c44
            | exact ⟨_, hG, by rw [if_pos hk, en]; rfl, by rw [if_pos hk, en, q1]⟩
        · refine v_iconst (pc := 63) (v := 0) dX9_wet_63 (by decide) ?_
          refine v_goto (pc := 64) (tgt := 75) dX9_wet_64 (by decide) ?_
          refine vm_iast (pc := 75) (k := 37) (j := j) hG dX9_wet_75 rfl rfl (by have h0 : ml 37 = 6 := rfl; omega) (fun G hG => ?_)
          refine v_aload_n (pc := 76) dX9_wet_76 rfl rfl ?_
          refine vm_getA (pc := 77) (k := 37) hG dX9_wet_77 fl_X9_93 (by decide) ?_
          refine v_iload_n (pc := 80) dX9_wet_80 rfl rfl ?_
          refine vm_iald (pc := 81) (k := 37) (j := j) hG dX9_wet_81 rfl rfl (by have h0 : ml 37 = 6 := rfl; omega) (x := (gWet (thr s 0) j p1).1 37 j) (by first | exact absurd c44 c60 | exact absurd c60 c44 | rw [q1]) ?_
          refine v_iret (pc := 82) hR dX9_wet_82 ⟨by decide, by decide⟩ ?_
          first
            | exact absurd c44 c60
            | exact absurd c60 c44
            | exact ⟨_, hG, by rw [if_pos hk, en]; rfl, by rw [if_pos hk, en, q1]⟩
    · rw [b2i_0, Decidable.not_not] at c20
      have hk : kWet s c (nI j) = 2 := by rw [kWet, if_pos c8, if_neg (by rw [en]; exact c20)]
      refine v_iconst (pc := 23) (v := 2) dX9_wet_23 (by decide) ?_
      refine v_goto (pc := 24) (tgt := 28) dX9_wet_24 (by decide) ?_
      refine vm_callV1 (pc := 28) (0, 0) hG dX9_wet_28 cw_X9_111 im_yX9_goes se_yX9_goes (c_X9_goes D m ad _ _ ) rfl (Nat.le_of_ble_eq_true rfl) ⟨Nat.le_of_ble_eq_true rfl, Nat.le_of_ble_eq_true rfl⟩ ⟨by decide, by decide⟩ rfl (fun v s1 G hp hG => ?_)
      obtain ⟨hv1, hs1⟩ := hp
      subst hv1
      subst s1
      refine v_if_ne (pc := 31) (tgt := 36) dX9_wet_31 (by decide) (fun c31 => absurd c31 (by decide)) (fun c31 => ?_)
      refine v_iconst (pc := 34) (v := 0) dX9_wet_34 (by decide) ?_
      refine v_iret (pc := 35) hR dX9_wet_35 ⟨by decide, by decide⟩ ?_
      exact ⟨_, hG, by simp [hk], by simp [hk]⟩
  · rw [b2i_0] at c8
    rw [hc] at c8
    have hk : kWet s c p0 = 1 := by rw [kWet, if_neg c8]
    refine v_iconst (pc := 11) (v := 1) dX9_wet_11 (by decide) ?_
    refine v_goto (pc := 12) (tgt := 28) dX9_wet_12 (by decide) ?_
    refine vm_callV1 (pc := 28) (0, 0) hG dX9_wet_28 cw_X9_111 im_yX9_goes se_yX9_goes (c_X9_goes D m ad _ _ ) rfl (Nat.le_of_ble_eq_true rfl) ⟨Nat.le_of_ble_eq_true rfl, Nat.le_of_ble_eq_true rfl⟩ ⟨by decide, by decide⟩ rfl (fun v s1 G hp hG => ?_)
    obtain ⟨hv1, hs1⟩ := hp
    subst hv1
    subst s1
    refine v_if_ne (pc := 31) (tgt := 36) dX9_wet_31 (by decide) (fun c31 => absurd c31 (by decide)) (fun c31 => ?_)
    refine v_iconst (pc := 34) (v := 0) dX9_wet_34 (by decide) ?_
    refine v_iret (pc := 35) hR dX9_wet_35 ⟨by decide, by decide⟩ ?_
    exact ⟨_, hG, by simp [hk], by simp [hk]⟩
