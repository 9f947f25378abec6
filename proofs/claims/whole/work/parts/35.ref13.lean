/-- the sail -/
theorem n100 : ∀ i, i < 101 → ¬ (100 : Int32) < nI i := by decide +kernel
abbrev oTrim (p0 p1 p2 : Int32) : Prop := btw p0 0 100 ∧ btw p1 0 100 ∧ btw p2 0 3
def kTrim (p0 p1 p2 : Int32) : Int32 := if oTrim p0 p1 p2 then 0 else 1
def gTrim (s : SG) (p0 p1 p2 : Int32) : SG := sI (sI (sI s 24 0 p0) 25 0 p1) 26 0 p2
def kPow (p0 : Int32) : Int32 := if btw p0 0 100 then 0 else 1
def kHal (p0 p1 : Int32) : Int32 := if btw p0 0 100 ∧ btw p1 0 100000 then 0 else 1
/-- the first halyard with which the sail pulls no more than so much -/
abbrev halP (t r k : Nat) (p : Int32) (i : Nat) : Prop := 0 < Op.cmpValue (FP.fcmp (pwI i t r k) (FP.i2f p)) .g
def halF (t r k : Nat) (p : Int32) : Nat → Nat → Int32
  | 0, _ => -1
  | d + 1, i => if halP t r k p i then halF t r k p d (i + 1) else nI i
set_option maxRecDepth 100000 in
set_option maxHeartbeats 4000000 in
theorem c_X9_draft (D : DT) (m : Nat) (ad : AdT) (s : SG) (h t : Nat)  (hh : h < 101) (ht : t < 101) (hT : s.1 25 0 = nI t) : MM yX9_draft cX9_draft 4 (Option.some Jvm.ClassFile.FieldType.float) rm_X9_draft D [.ref m, .int (nI h)] m ad s (fun v s' => v = some (.float (drI h t)) ∧ s' = s) := by
  intro G hG
  refine MC_of (by decide +kernel) (Nat.le_of_ble_eq_true rfl) (fun K sz hR => ?_)
  show V cX9_draft _ 4 _ D K 0 [some (.ref m), some (.int (nI h)), none, none] [] G (0, 0)
  refine v_iload_n (pc := 0) dX9_draft_0 rfl rfl ?_
  refine v_i2f (pc := 1) dX9_draft_1 ?_
  refine v_fstore_n (pc := 2) dX9_draft_2 rfl rfl (by decide) ?_
  refine v_aload_n (pc := 3) dX9_draft_3 rfl rfl ?_
  refine vm_getI (pc := 4) (k := 25) hG dX9_draft_4 fl_X9_182 rfl (by decide) (x := nI t) hT ?_
  refine v_i2f (pc := 7) dX9_draft_7 ?_
  refine v_fstore_n (pc := 8) dX9_draft_8 rfl rfl (by decide) ?_
  refine v_ldcf (pc := 9) dX9_draft_9 k_X9_185 ?_
  refine v_ldcf (pc := 11) dX9_draft_11 k_X9_186 ?_
  refine v_fload_n (pc := 13) dX9_draft_13 rfl rfl ?_
  refine v_fmul (pc := 14) dX9_draft_14 (vf_B (f1 h hh).1) ?_
  refine v_fsub (pc := 15) dX9_draft_15 (vf_B (f1 h hh).2.1) ?_
  refine v_ldcf (pc := 16) dX9_draft_16 k_X9_187 ?_
  refine v_fload_n (pc := 18) dX9_draft_18 rfl rfl ?_
  refine v_fmul (pc := 19) dX9_draft_19 (vf_B (f1 t ht).2.2) ?_
  refine v_fadd (pc := 20) dX9_draft_20 (f4 (r := 0) hh ht (by decide)).1 ?_
  refine v_fret (pc := 21) hR dX9_draft_21 ⟨by decide, by decide⟩ ?_
  exact ⟨_, hG, rfl, rfl⟩
set_option maxRecDepth 100000 in
set_option maxHeartbeats 4000000 in
theorem c_X9_powerWith (D : DT) (m : Nat) (ad : AdT) (s : SG) (h k t r : Nat)  (hh : h < 101) (hk : k < 101) (ht : t < 101) (hr : r < 4) (hT : s.1 25 0 = nI t) (hr2 : s.1 26 0 = nI r) : MM yX9_powerWith cX9_powerWith 6 (Option.some Jvm.ClassFile.FieldType.float) rm_X9_powerWith D [.ref m, .int (nI h), .int (nI k)] m ad s (fun v s' => v = some (.float (pwI h t r k)) ∧ s' = s) := by
  intro G hG
  refine MC_of (by decide +kernel) (Nat.le_of_ble_eq_true rfl) (fun K sz hR => ?_)
  show V cX9_powerWith _ 6 _ D K 0 [some (.ref m), some (.int (nI h)), some (.int (nI k)), none, none, none] [] G (0, 0)
  refine v_aload_n (pc := 0) dX9_powerWith_0 rfl rfl ?_
  refine vm_getI (pc := 1) (k := 26) hG dX9_powerWith_1 fl_X9_188 rfl (by decide) (x := nI r) hr2 ?_
  refine v_i2f (pc := 4) dX9_powerWith_4 ?_
  refine v_fstore_n (pc := 5) dX9_powerWith_5 rfl rfl (by decide) ?_
  refine v_ldcf (pc := 6) dX9_powerWith_6 k_X9_191 ?_
  refine v_fconst1 (pc := 8) dX9_powerWith_8 ?_
  refine v_fload_n (pc := 9) dX9_powerWith_9 rfl rfl ?_
  refine v_fadd (pc := 10) dX9_powerWith_10 (vf_B (f3 r hr).1) ?_
  refine v_fdiv (pc := 11) dX9_powerWith_11 (vf_B (f3 r hr).2) ?_
  refine v_fstore (pc := 12) dX9_powerWith_12 rfl (by decide) ?_
  refine v_iload_n (pc := 14) dX9_powerWith_14 rfl rfl ?_
  refine v_i2f (pc := 15) dX9_powerWith_15 ?_
  refine v_fstore (pc := 16) dX9_powerWith_16 rfl (by decide) ?_
  refine v_aload_n (pc := 18) dX9_powerWith_18 rfl rfl ?_
  refine v_iload_n (pc := 19) dX9_powerWith_19 rfl rfl ?_
  refine vm_callV1 (pc := 20) (0, 0) hG dX9_powerWith_20 cw_X9_192 im_yX9_draft se_yX9_draft (c_X9_draft D m ad _ h t hh ht hT) rfl (Nat.le_of_ble_eq_true rfl) ⟨Nat.le_of_ble_eq_true rfl, Nat.le_of_ble_eq_true rfl⟩ ⟨by decide, by decide⟩ rfl (fun v s1 G hp hG => ?_)
  obtain ⟨hv1, hs1⟩ := hp
  subst hv1
  subst s1
  refine v_fload (pc := 23) dX9_powerWith_23 rfl ?_
  refine v_fmul (pc := 25) dX9_powerWith_25 (f4 hh ht hr).2.1 ?_
  refine v_fload (pc := 26) dX9_powerWith_26 rfl ?_
  refine v_fmul (pc := 28) dX9_powerWith_28 (f6 hh ht hr hk).1 ?_
  refine v_fload (pc := 29) dX9_powerWith_29 rfl ?_
  refine v_fmul (pc := 31) dX9_powerWith_31 (f6 hh ht hr hk).2 ?_
  refine v_fret (pc := 32) hR dX9_powerWith_32 ⟨by decide, by decide⟩ ?_
  exact ⟨_, hG, rfl, rfl⟩
set_option maxRecDepth 100000 in
set_option maxHeartbeats 4000000 in
theorem c_X9_trim (D : DT) (m : Nat) (ad : AdT) (s : SG)  (p0 : Int32) (p1 : Int32) (p2 : Int32)  : MM yX9_trim cX9_trim 5 (Option.some Jvm.ClassFile.FieldType.float) rm_X9_trim D [.ref m, .int p0, .int p1, .int p2] m ad s (fun v s' => v = some (.float (if kTrim p0 p1 p2 = 0 then drI (nat p0) (nat p1) else FP.fconst0)) ∧ s' = if kTrim p0 p1 p2 = 0 then gTrim (thr s 0) p0 p1 p2 else thr s (kTrim p0 p1 p2)) := by
  intro G hG
  refine MC_of (by decide +kernel) (Nat.le_of_ble_eq_true rfl) (fun K sz hR => ?_)
  show V cX9_trim _ 5 _ D K 0 [some (.ref m), some (.int p0), some (.int p1), some (.int p2), none] [] G (0, 0)
  refine v_iload_n (pc := 0) dX9_trim_0 rfl rfl ?_
  refine v_iconst (pc := 1) (v := 0) dX9_trim_1 (by decide) ?_
  refine v_bipush (pc := 2) (v := 100) dX9_trim_2 (by decide) ?_
  refine v_callS3 (pc := 4) (0, 0) dX9_trim_4 cw_X9_103 sm_yX9_isBetween (c_X9_isBetween D _ _ _ _ ) (Nat.le_of_ble_eq_true rfl) ⟨Nat.le_of_ble_eq_true rfl, Nat.le_of_ble_eq_true rfl⟩ ⟨by decide, by decide⟩ rfl (fun v G1 hp => ?_)
  obtain ⟨hv1, hs1⟩ := hp
  subst hv1
  subst G1
  refine v_if_eq (pc := 7) (tgt := 33) dX9_trim_7 (by decide) (fun c7 => ?_) (fun c7 => ?_)
  · rw [b2i_0] at c7
    have hk : kTrim p0 p1 p2 = 1 := by rw [kTrim, if_neg (fun z => c7 z.1)]
    refine v_iconst (pc := 33) (v := 0) dX9_trim_33 (by decide) ?_
    refine v_istore (pc := 34) dX9_trim_34 rfl (by decide) ?_
    refine v_aload_n (pc := 36) dX9_trim_36 rfl rfl ?_
    refine v_iload (pc := 37) dX9_trim_37 rfl ?_
    refine v_if_eq (pc := 39) (tgt := 46) dX9_trim_39 (by decide) (fun c39 => ?_) (fun c39 => absurd c39 (by decide))
    refine v_iconst (pc := 46) (v := 1) dX9_trim_46 (by decide) ?_
    refine vm_callV1 (pc := 47) (0, 0) hG dX9_trim_47 cw_X9_111 im_yX9_goes se_yX9_goes (c_X9_goes D m ad _ _ ) rfl (Nat.le_of_ble_eq_true rfl) ⟨Nat.le_of_ble_eq_true rfl, Nat.le_of_ble_eq_true rfl⟩ ⟨by decide, by decide⟩ rfl (fun v s1 G hp hG => ?_)
    obtain ⟨hv1, hs1⟩ := hp
    subst hv1
    subst s1
    refine v_if_ne (pc := 50) (tgt := 55) dX9_trim_50 (by decide) (fun c50 => absurd c50 (by decide)) (fun c50 => ?_)
    refine v_fconst0 (pc := 53) dX9_trim_53 ?_
    refine v_fret (pc := 54) hR dX9_trim_54 ⟨by decide, by decide⟩ ?_
    exact ⟨_, hG, by simp [hk], by simp [hk]⟩
  · rw [b2i_0, Decidable.not_not] at c7
    refine v_iload_n (pc := 10) dX9_trim_10 rfl rfl ?_
    refine v_iconst (pc := 11) (v := 0) dX9_trim_11 (by decide) ?_
    refine v_bipush (pc := 12) (v := 100) dX9_trim_12 (by decide) ?_
    refine v_callS3 (pc := 14) (0, 0) dX9_trim_14 cw_X9_103 sm_yX9_isBetween (c_X9_isBetween D _ _ _ _ ) (Nat.le_of_ble_eq_true rfl) ⟨Nat.le_of_ble_eq_true rfl, Nat.le_of_ble_eq_true rfl⟩ ⟨by decide, by decide⟩ rfl (fun v G1 hp => ?_)
    obtain ⟨hv1, hs1⟩ := hp
    subst hv1
    subst G1
    refine v_if_eq (pc := 17) (tgt := 33) dX9_trim_17 (by decide) (fun c17 => ?_) (fun c17 => ?_)
    · rw [b2i_0] at c17
      have hk : kTrim p0 p1 p2 = 1 := by rw [kTrim, if_neg (fun z => c17 z.2.1)]
      refine v_iconst (pc := 33) (v := 0) dX9_trim_33 (by decide) ?_
      refine v_istore (pc := 34) dX9_trim_34 rfl (by decide) ?_
      refine v_aload_n (pc := 36) dX9_trim_36 rfl rfl ?_
      refine v_iload (pc := 37) dX9_trim_37 rfl ?_
      refine v_if_eq (pc := 39) (tgt := 46) dX9_trim_39 (by decide) (fun c39 => ?_) (fun c39 => absurd c39 (by decide))
      refine v_iconst (pc := 46) (v := 1) dX9_trim_46 (by decide) ?_
      refine vm_callV1 (pc := 47) (0, 0) hG dX9_trim_47 cw_X9_111 im_yX9_goes se_yX9_goes (c_X9_goes D m ad _ _ ) rfl (Nat.le_of_ble_eq_true rfl) ⟨Nat.le_of_ble_eq_true rfl, Nat.le_of_ble_eq_true rfl⟩ ⟨by decide, by decide⟩ rfl (fun v s1 G hp hG => ?_)
      obtain ⟨hv1, hs1⟩ := hp
      subst hv1
      subst s1
      refine v_if_ne (pc := 50) (tgt := 55) dX9_trim_50 (by decide) (fun c50 => absurd c50 (by decide)) (fun c50 => ?_)
      refine v_fconst0 (pc := 53) dX9_trim_53 ?_
      refine v_fret (pc := 54) hR dX9_trim_54 ⟨by decide, by decide⟩ ?_
      exact ⟨_, hG, by simp [hk], by simp [hk]⟩
    · rw [b2i_0, Decidable.not_not] at c17
      refine v_iload_n (pc := 20) dX9_trim_20 rfl rfl ?_
      refine v_iconst (pc := 21) (v := 0) dX9_trim_21 (by decide) ?_
      refine v_iconst (pc := 22) (v := 3) dX9_trim_22 (by decide) ?_
      refine v_callS3 (pc := 23) (0, 0) dX9_trim_23 cw_X9_103 sm_yX9_isBetween (c_X9_isBetween D _ _ _ _ ) (Nat.le_of_ble_eq_true rfl) ⟨Nat.le_of_ble_eq_true rfl, Nat.le_of_ble_eq_true rfl⟩ ⟨by decide, by decide⟩ rfl (fun v G1 hp => ?_)
      obtain ⟨hv1, hs1⟩ := hp
      subst hv1
      subst G1
      refine v_if_eq (pc := 26) (tgt := 33) dX9_trim_26 (by decide) (fun c26 => ?_) (fun c26 => ?_)
      · rw [b2i_0] at c26
        have hk : kTrim p0 p1 p2 = 1 := by rw [kTrim, if_neg (fun z => c26 z.2.2)]
        refine v_iconst (pc := 33) (v := 0) dX9_trim_33 (by decide) ?_
        refine v_istore (pc := 34) dX9_trim_34 rfl (by decide) ?_
        refine v_aload_n (pc := 36) dX9_trim_36 rfl rfl ?_
        refine v_iload (pc := 37) dX9_trim_37 rfl ?_
        refine v_if_eq (pc := 39) (tgt := 46) dX9_trim_39 (by decide) (fun c39 => ?_) (fun c39 => absurd c39 (by decide))
        refine v_iconst (pc := 46) (v := 1) dX9_trim_46 (by decide) ?_
        refine vm_callV1 (pc := 47) (0, 0) hG dX9_trim_47 cw_X9_111 im_yX9_goes se_yX9_goes (c_X9_goes D m ad _ _ ) rfl (Nat.le_of_ble_eq_true rfl) ⟨Nat.le_of_ble_eq_true rfl, Nat.le_of_ble_eq_true rfl⟩ ⟨by decide, by decide⟩ rfl (fun v s1 G hp hG => ?_)
        obtain ⟨hv1, hs1⟩ := hp
        subst hv1
        subst s1
        refine v_if_ne (pc := 50) (tgt := 55) dX9_trim_50 (by decide) (fun c50 => absurd c50 (by decide)) (fun c50 => ?_)
        refine v_fconst0 (pc := 53) dX9_trim_53 ?_
        refine v_fret (pc := 54) hR dX9_trim_54 ⟨by decide, by decide⟩ ?_
        exact ⟨_, hG, by simp [hk], by simp [hk]⟩
      · rw [b2i_0, Decidable.not_not] at c26
        have hk : kTrim p0 p1 p2 = 0 := by rw [kTrim, if_pos ⟨c7, c17, c26⟩]
        obtain ⟨h, hh, rfl⟩ := (btw_lit (M := 100) (N := 100) rfl).mp c7
        obtain ⟨t, ht, rfl⟩ := (btw_lit (M := 100) (N := 100) rfl).mp c17
        have en : nat (nI h) = h := nat_nI (by omega)
        have et : nat (nI t) = t := nat_nI (by omega)
        refine v_iconst (pc := 29) (v := 1) dX9_trim_29 (by decide) ?_
        refine v_goto (pc := 30) (tgt := 34) dX9_trim_30 (by decide) ?_
        refine v_istore (pc := 34) dX9_trim_34 rfl (by decide) ?_
        refine v_aload_n (pc := 36) dX9_trim_36 rfl rfl ?_
        refine v_iload (pc := 37) dX9_trim_37 rfl ?_
        refine v_if_eq (pc := 39) (tgt := 46) dX9_trim_39 (by decide) (fun c39 => absurd c39 (by decide)) (fun c39 => ?_)
        refine v_iconst (pc := 42) (v := 0) dX9_trim_42 (by decide) ?_
        refine v_goto (pc := 43) (tgt := 47) dX9_trim_43 (by decide) ?_
        refine vm_callV1 (pc := 47) (0, 0) hG dX9_trim_47 cw_X9_111 im_yX9_goes se_yX9_goes (c_X9_goes D m ad _ _ ) rfl (Nat.le_of_ble_eq_true rfl) ⟨Nat.le_of_ble_eq_true rfl, Nat.le_of_ble_eq_true rfl⟩ ⟨by decide, by decide⟩ rfl (fun v s1 G hp hG => ?_)
        obtain ⟨hv1, hs1⟩ := hp
        subst hv1
        subst s1
        refine v_if_ne (pc := 50) (tgt := 55) dX9_trim_50 (by decide) (fun c50 => ?_) (fun c50 => absurd c50 (by decide))
        refine v_aload_n (pc := 55) dX9_trim_55 rfl rfl ?_
        refine v_iload_n (pc := 56) dX9_trim_56 rfl rfl ?_
        refine vm_putI (pc := 57) (k := 24) hG dX9_trim_57 fw_X9_196 rfl (by decide) (fun G hG => ?_)
        refine v_aload_n (pc := 60) dX9_trim_60 rfl rfl ?_
        refine v_iload_n (pc := 61) dX9_trim_61 rfl rfl ?_
        refine vm_putI (pc := 62) (k := 25) hG dX9_trim_62 fw_X9_182 rfl (by decide) (fun G hG => ?_)
        refine v_aload_n (pc := 65) dX9_trim_65 rfl rfl ?_
        refine v_iload_n (pc := 66) dX9_trim_66 rfl rfl ?_
        refine vm_putI (pc := 67) (k := 26) hG dX9_trim_67 fw_X9_188 rfl (by decide) (fun G hG => ?_)
        refine v_aload_n (pc := 70) dX9_trim_70 rfl rfl ?_
        refine v_aload_n (pc := 71) dX9_trim_71 rfl rfl ?_
        refine vm_getI (pc := 72) (k := 24) hG dX9_trim_72 fl_X9_196 rfl (by decide) (x := nI h) (by simp [sI, u2]) ?_
        refine vm_callV1 (pc := 75) (0, 0) hG dX9_trim_75 cw_X9_192 im_yX9_draft se_yX9_draft (c_X9_draft D m ad _ h t (by omega) (by omega) (by simp [sI, u2])) rfl (Nat.le_of_ble_eq_true rfl) ⟨Nat.le_of_ble_eq_true rfl, Nat.le_of_ble_eq_true rfl⟩ ⟨by decide, by decide⟩ rfl (fun v s1 G hp hG => ?_)
        obtain ⟨hv1, hs1⟩ := hp
        subst hv1
        subst s1
        refine v_fret (pc := 78) hR dX9_trim_78 ⟨by decide, by decide⟩ ?_
        exact ⟨_, hG, by rw [if_pos hk, en, et], by rw [if_pos hk, gTrim]⟩
set_option maxRecDepth 100000 in
set_option maxHeartbeats 4000000 in
theorem c_X9_power (D : DT) (m : Nat) (ad : AdT) (s : SG) (h t r : Nat) (p0 : Int32) (e1 : s.1 24 0 = nI h) (e2 : s.1 25 0 = nI t) (e3 : s.1 26 0 = nI r) (hh : h < 101) (ht : t < 101) (hr : r < 4) : MM yX9_power cX9_power 2 (Option.some Jvm.ClassFile.FieldType.float) rm_X9_power D [.ref m, .int p0] m ad s (fun v s' => v = some (.float (if kPow p0 = 0 then pwI h t r (nat p0) else FP.fconst0)) ∧ s' = thr s (kPow p0)) := by
  intro G hG
  refine MC_of (by decide +kernel) (Nat.le_of_ble_eq_true rfl) (fun K sz hR => ?_)
  show V cX9_power _ 2 _ D K 0 [some (.ref m), some (.int p0)] [] G (0, 0)
  refine v_aload_n (pc := 0) dX9_power_0 rfl rfl ?_
  refine v_iload_n (pc := 1) dX9_power_1 rfl rfl ?_
  refine v_iconst (pc := 2) (v := 0) dX9_power_2 (by decide) ?_
  refine v_bipush (pc := 3) (v := 100) dX9_power_3 (by decide) ?_
  refine v_callS3 (pc := 5) (0, 0) dX9_power_5 cw_X9_103 sm_yX9_isBetween (c_X9_isBetween D _ _ _ _ ) (Nat.le_of_ble_eq_true rfl) ⟨Nat.le_of_ble_eq_true rfl, Nat.le_of_ble_eq_true rfl⟩ ⟨by decide, by decide⟩ rfl (fun v G1 hp => ?_)
  obtain ⟨hv1, hs1⟩ := hp
  subst hv1
  subst G1
  refine v_if_eq (pc := 8) (tgt := 15) dX9_power_8 (by decide) (fun c8 => ?_) (fun c8 => ?_)
  · rw [b2i_0] at c8
    have hk : kPow p0 = 1 := by rw [kPow, if_neg c8]
    refine v_iconst (pc := 15) (v := 1) dX9_power_15 (by decide) ?_
    refine vm_callV1 (pc := 16) (0, 0) hG dX9_power_16 cw_X9_111 im_yX9_goes se_yX9_goes (c_X9_goes D m ad _ _ ) rfl (Nat.le_of_ble_eq_true rfl) ⟨Nat.le_of_ble_eq_true rfl, Nat.le_of_ble_eq_true rfl⟩ ⟨by decide, by decide⟩ rfl (fun v s1 G hp hG => ?_)
    obtain ⟨hv1, hs1⟩ := hp
    subst hv1
    subst s1
    refine v_if_eq (pc := 19) (tgt := 34) dX9_power_19 (by decide) (fun c19 => ?_) (fun c19 => absurd c19 (by decide))
    refine v_fconst0 (pc := 34) dX9_power_34 ?_
    refine v_fret (pc := 35) hR dX9_power_35 ⟨by decide, by decide⟩ ?_
    first | exact ⟨_, hG, by rw [if_pos hk, en], by rw [hk]⟩ | exact ⟨_, hG, by simp [hk], by rw [hk]⟩
  · rw [b2i_0, Decidable.not_not] at c8
    have hk : kPow p0 = 0 := by rw [kPow, if_pos c8]
    obtain ⟨k, hk1, rfl⟩ := (btw_lit (M := 100) (N := 100) rfl).mp c8
    have en : nat (nI k) = k := nat_nI (by omega)
    refine v_iconst (pc := 11) (v := 0) dX9_power_11 (by decide) ?_
    refine v_goto (pc := 12) (tgt := 16) dX9_power_12 (by decide) ?_
    refine vm_callV1 (pc := 16) (0, 0) hG dX9_power_16 cw_X9_111 im_yX9_goes se_yX9_goes (c_X9_goes D m ad _ _ ) rfl (Nat.le_of_ble_eq_true rfl) ⟨Nat.le_of_ble_eq_true rfl, Nat.le_of_ble_eq_true rfl⟩ ⟨by decide, by decide⟩ rfl (fun v s1 G hp hG => ?_)
    obtain ⟨hv1, hs1⟩ := hp
    subst hv1
    subst s1
    refine v_if_eq (pc := 19) (tgt := 34) dX9_power_19 (by decide) (fun c19 => absurd c19 (by decide)) (fun c19 => ?_)
    refine v_aload_n (pc := 22) dX9_power_22 rfl rfl ?_
    refine v_aload_n (pc := 23) dX9_power_23 rfl rfl ?_
    refine vm_getI (pc := 24) (k := 24) hG dX9_power_24 fl_X9_196 rfl (by decide) (x := nI h) e1 ?_
    refine v_iload_n (pc := 27) dX9_power_27 rfl rfl ?_
    refine vm_callV2 (pc := 28) (0, 0) hG dX9_power_28 cw_X9_199 im_yX9_powerWith se_yX9_powerWith (c_X9_powerWith D m ad _ h k t r hh (by omega) ht hr e2 e3) rfl (Nat.le_of_ble_eq_true rfl) ⟨Nat.le_of_ble_eq_true rfl, Nat.le_of_ble_eq_true rfl⟩ ⟨by decide, by decide⟩ rfl (fun v s1 G hp hG => ?_)
    obtain ⟨hv1, hs1⟩ := hp
    subst hv1
    subst s1
    refine v_goto (pc := 31) (tgt := 35) dX9_power_31 (by decide) ?_
    refine v_fret (pc := 35) hR dX9_power_35 ⟨by decide, by decide⟩ ?_
    first | exact ⟨_, hG, by rw [if_pos hk, en], by rw [hk]⟩ | exact ⟨_, hG, by simp [hk], by rw [hk]⟩
set_option maxRecDepth 100000 in
set_option maxHeartbeats 4000000 in
theorem l_X9_halyard {D : DT} {K : KT} {m : Nat} {ad : AdT} {s : SG} (k t r : Nat) (p z : Int32) (hk : k < 101) (ht : t < 101) (hr : r < 4) (e2 : s.1 25 0 = nI t) (e3 : s.1 26 0 = nI r) (kk2 : ∀ (i : Nat) (G : GT), z = nI i → MD m ad s G → V cX9_halyard yX9_halyard.cls 5 rm_X9_halyard D K 59 [some (.ref m), some (.int (nI k)), some (.int p), some (.float (FP.i2f p)), some (.int (nI i))] [] G (0, 0)) (kk : ∀ (G : GT), z = -1 → MD m ad s G → V cX9_halyard yX9_halyard.cls 5 rm_X9_halyard D K 68 [some (.ref m), some (.int (nI k)), some (.int p), some (.float (FP.i2f p)), some (.int (nI 101))] [] G (0, 0)) : ∀ (d i : Nat)  (G : GT), i + d = 101 → halF t r k p d i = z → MD m ad s G → V cX9_halyard yX9_halyard.cls 5 rm_X9_halyard D K 40 [some (.ref m), some (.int (nI k)), some (.int p), some (.float (FP.i2f p)), some (.int (nI i))] [] G (0, 0) := by
  intro d
  induction d with
  | zero =>
    intro i  G he0 he1 hG
    refine v_iload (pc := 40) dX9_halyard_40 rfl ?_
    refine v_bipush (pc := 42) (v := 100) dX9_halyard_42 (by decide) ?_
    refine v_icmp_gt (pc := 44) (tgt := 68) dX9_halyard_44 (by decide) (fun c44 => ?_) (fun c44 => absurd c44 (not_not_intro (by rw [show i = 101 by omega]; decide)))
    have e : i = 101 := by omega
    subst e
    exact kk G he1.symm hG
  | succ d ih =>
    intro i  G he0 he1 hG
    refine v_iload (pc := 40) dX9_halyard_40 rfl ?_
    refine v_bipush (pc := 42) (v := 100) dX9_halyard_42 (by decide) ?_
    refine v_icmp_gt (pc := 44) (tgt := 68) dX9_halyard_44 (by decide) (fun c44 => absurd c44 (n100 i (by omega))) (fun c44 => ?_)
    refine v_aload_n (pc := 47) dX9_halyard_47 rfl rfl ?_
    refine v_iload (pc := 48) dX9_halyard_48 rfl ?_
    refine v_iload_n (pc := 50) dX9_halyard_50 rfl rfl ?_
    refine vm_callV2 (pc := 51) (0, 0) hG dX9_halyard_51 cw_X9_199 im_yX9_powerWith se_yX9_powerWith (c_X9_powerWith D m ad _ i k t r (by omega) hk ht hr e2 e3) rfl (Nat.le_of_ble_eq_true rfl) ⟨Nat.le_of_ble_eq_true rfl, Nat.le_of_ble_eq_true rfl⟩ ⟨by decide, by decide⟩ rfl (fun v s1 G hp hG => ?_)
    obtain ⟨hv1, hs1⟩ := hp
    subst hv1
    subst s1
    refine v_fload_n (pc := 54) dX9_halyard_54 rfl rfl ?_
    refine v_fcmp (pc := 55) dX9_halyard_55 ?_
    refine v_if_gt (pc := 56) (tgt := 62) dX9_halyard_56 (by decide) (fun c56 => ?_) (fun c56 => ?_)
    · refine v_iinc (pc := 62) dX9_halyard_62 rfl (nI_1 i) rfl (by decide) ?_
      refine v_goto (pc := 65) (tgt := 40) dX9_halyard_65 (by decide) ?_
      exact ih (i + 1) G (by omega) (by rw [← he1, halF, if_pos c56]) hG
    · exact kk2 i G (by rw [← he1, halF, if_neg c56]) hG
set_option maxRecDepth 100000 in
set_option maxHeartbeats 4000000 in
theorem c_X9_halyard (D : DT) (m : Nat) (ad : AdT) (s : SG) (t r : Nat) (p0 : Int32) (p1 : Int32) (e2 : s.1 25 0 = nI t) (e3 : s.1 26 0 = nI r) (ht : t < 101) (hr : r < 4) : MM yX9_halyard cX9_halyard 5 (Option.some Jvm.ClassFile.FieldType.int) rm_X9_halyard D [.ref m, .int p0, .int p1] m ad s (fun v s' => v = some (.int (if kHal p0 p1 = 0 then halF t r (nat p0) p1 101 0 else 0)) ∧ s' = thr s (kHal p0 p1)) := by
  intro G hG
  refine MC_of (by decide +kernel) (Nat.le_of_ble_eq_true rfl) (fun K sz hR => ?_)
  show V cX9_halyard _ 5 _ D K 0 [some (.ref m), some (.int p0), some (.int p1), none, none] [] G (0, 0)
  refine v_aload_n (pc := 0) dX9_halyard_0 rfl rfl ?_
  refine v_iload_n (pc := 1) dX9_halyard_1 rfl rfl ?_
  refine v_iconst (pc := 2) (v := 0) dX9_halyard_2 (by decide) ?_
  refine v_bipush (pc := 3) (v := 100) dX9_halyard_3 (by decide) ?_
  refine v_callS3 (pc := 5) (0, 0) dX9_halyard_5 cw_X9_103 sm_yX9_isBetween (c_X9_isBetween D _ _ _ _ ) (Nat.le_of_ble_eq_true rfl) ⟨Nat.le_of_ble_eq_true rfl, Nat.le_of_ble_eq_true rfl⟩ ⟨by decide, by decide⟩ rfl (fun v G1 hp => ?_)
  obtain ⟨hv1, hs1⟩ := hp
  subst hv1
  subst G1
  refine v_if_eq (pc := 8) (tgt := 25) dX9_halyard_8 (by decide) (fun c8 => ?_) (fun c8 => ?_)
  · rw [b2i_0] at c8
    have hk : kHal p0 p1 = 1 := by rw [kHal, if_neg (fun z => c8 z.1)]
    refine v_iconst (pc := 25) (v := 1) dX9_halyard_25 (by decide) ?_
    refine vm_callV1 (pc := 26) (0, 0) hG dX9_halyard_26 cw_X9_111 im_yX9_goes se_yX9_goes (c_X9_goes D m ad _ _ ) rfl (Nat.le_of_ble_eq_true rfl) ⟨Nat.le_of_ble_eq_true rfl, Nat.le_of_ble_eq_true rfl⟩ ⟨by decide, by decide⟩ rfl (fun v s1 G hp hG => ?_)
    obtain ⟨hv1, hs1⟩ := hp
    subst hv1
    subst s1
    refine v_if_ne (pc := 29) (tgt := 34) dX9_halyard_29 (by decide) (fun c29 => absurd c29 (by decide)) (fun c29 => ?_)
    refine v_iconst (pc := 32) (v := 0) dX9_halyard_32 (by decide) ?_
    refine v_iret (pc := 33) hR dX9_halyard_33 ⟨by decide, by decide⟩ ?_
    exact ⟨_, hG, by simp [hk], by simp [hk]⟩
  · rw [b2i_0, Decidable.not_not] at c8
    refine v_iload_n (pc := 11) dX9_halyard_11 rfl rfl ?_
    refine v_iconst (pc := 12) (v := 0) dX9_halyard_12 (by decide) ?_
    refine v_ldc (pc := 13) dX9_halyard_13 k_X9_203 ?_
    refine v_callS3 (pc := 15) (0, 0) dX9_halyard_15 cw_X9_103 sm_yX9_isBetween (c_X9_isBetween D _ _ _ _ ) (Nat.le_of_ble_eq_true rfl) ⟨Nat.le_of_ble_eq_true rfl, Nat.le_of_ble_eq_true rfl⟩ ⟨by decide, by decide⟩ rfl (fun v G1 hp => ?_)
    obtain ⟨hv1, hs1⟩ := hp
    subst hv1
    subst G1
    refine v_if_eq (pc := 18) (tgt := 25) dX9_halyard_18 (by decide) (fun c18 => ?_) (fun c18 => ?_)
    · rw [b2i_0] at c18
      have hk : kHal p0 p1 = 1 := by rw [kHal, if_neg (fun z => c18 z.2)]
      refine v_iconst (pc := 25) (v := 1) dX9_halyard_25 (by decide) ?_
      refine vm_callV1 (pc := 26) (0, 0) hG dX9_halyard_26 cw_X9_111 im_yX9_goes se_yX9_goes (c_X9_goes D m ad _ _ ) rfl (Nat.le_of_ble_eq_true rfl) ⟨Nat.le_of_ble_eq_true rfl, Nat.le_of_ble_eq_true rfl⟩ ⟨by decide, by decide⟩ rfl (fun v s1 G hp hG => ?_)
      obtain ⟨hv1, hs1⟩ := hp
      subst hv1
      subst s1
      refine v_if_ne (pc := 29) (tgt := 34) dX9_halyard_29 (by decide) (fun c29 => absurd c29 (by decide)) (fun c29 => ?_)
      refine v_iconst (pc := 32) (v := 0) dX9_halyard_32 (by decide) ?_
      refine v_iret (pc := 33) hR dX9_halyard_33 ⟨by decide, by decide⟩ ?_
      exact ⟨_, hG, by simp [hk], by simp [hk]⟩
    · rw [b2i_0, Decidable.not_not] at c18
      have hk : kHal p0 p1 = 0 := by rw [kHal, if_pos ⟨c8, c18⟩]
      obtain ⟨k, hk1, rfl⟩ := (btw_lit (M := 100) (N := 100) rfl).mp c8
      have en : nat (nI k) = k := nat_nI (by omega)
      refine v_iconst (pc := 21) (v := 0) dX9_halyard_21 (by decide) ?_
      refine v_goto (pc := 22) (tgt := 26) dX9_halyard_22 (by decide) ?_
      refine vm_callV1 (pc := 26) (0, 0) hG dX9_halyard_26 cw_X9_111 im_yX9_goes se_yX9_goes (c_X9_goes D m ad _ _ ) rfl (Nat.le_of_ble_eq_true rfl) ⟨Nat.le_of_ble_eq_true rfl, Nat.le_of_ble_eq_true rfl⟩ ⟨by decide, by decide⟩ rfl (fun v s1 G hp hG => ?_)
      obtain ⟨hv1, hs1⟩ := hp
      subst hv1
      subst s1
      refine v_if_ne (pc := 29) (tgt := 34) dX9_halyard_29 (by decide) (fun c29 => ?_) (fun c29 => absurd c29 (by decide))
      refine v_iload_n (pc := 34) dX9_halyard_34 rfl rfl ?_
      refine v_i2f (pc := 35) dX9_halyard_35 ?_
      refine v_fstore_n (pc := 36) dX9_halyard_36 rfl rfl (by decide) ?_
      refine v_iconst (pc := 37) (v := 0) dX9_halyard_37 (by decide) ?_
      refine v_istore (pc := 38) dX9_halyard_38 rfl (by decide) ?_
      refine l_X9_halyard (s := thr s 0) k t r p1 _ (by omega) ht hr e2 e3 (fun i G hz hG => ?_) (fun G hz hG => ?_) 101 0 G (by omega) rfl hG
      · refine v_iload (pc := 59) dX9_halyard_59 rfl ?_
        refine v_iret (pc := 61) hR dX9_halyard_61 ⟨by decide, by decide⟩ ?_
        exact ⟨_, hG, by rw [if_pos hk, en, hz], by rw [hk]⟩
      · refine v_iconst (pc := 68) (v := (-1)) dX9_halyard_68 (by decide) ?_
        refine v_iret (pc := 69) hR dX9_halyard_69 ⟨by decide, by decide⟩ ?_
        exact ⟨_, hG, by rw [if_pos hk, en, hz], by rw [hk]⟩
