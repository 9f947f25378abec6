abbrev oSeal (s : SG) (j : Nat) : Prop := s.1 32 j = -1 ∧ s.1 3 (nat (s.1 29 j)) = 0 ∧ 0 < s.1 30 j ∧ ¬ opS s j = -1 ∧ s.1 37 j < 3
set_option maxRecDepth 100000 in
set_option maxHeartbeats 4000000 in
theorem c_X9_canSeal (D : DT) (m : Nat) (ad : AdT) (s : SG) (j c : Nat)  (h : CV s c) (hj : j < c) (hc2 : c ≤ 6) : MM yX9_canSeal cX9_canSeal 2 (Option.some Jvm.ClassFile.FieldType.boolean) rm_X9_canSeal D [.ref m, .int (nI j)] m ad s (fun v s' => v = some (.int (b2i (oSeal s j))) ∧ s' = s) := by
  intro G hG
  refine MC_of (by decide +kernel) (Nat.le_of_ble_eq_true rfl) (fun K sz hR => ?_)
  show V cX9_canSeal _ 2 _ D K 0 [some (.ref m), some (.int (nI j))] [] G (0, 0)
  obtain ⟨p, l, hp8, ep, hl6, el⟩ := h j hj
  have ep2 : nat (s.1 30 j) = p := by rw [ep]; exact nat_nI (by omega)
  have el2 : nat (s.1 29 j) = l := by rw [el]; exact nat_nI (by omega)
  refine v_aload_n (pc := 0) dX9_canSeal_0 rfl rfl ?_
  refine v_iload_n (pc := 1) dX9_canSeal_1 rfl rfl ?_
  refine vm_callV1 (pc := 2) (0, 0) hG dX9_canSeal_2 cw_X9_213 im_yX9_hasSeal se_yX9_hasSeal (c_X9_hasSeal D m ad _ _ j (by omega) rfl) rfl (Nat.le_of_ble_eq_true rfl) ⟨Nat.le_of_ble_eq_true rfl, Nat.le_of_ble_eq_true rfl⟩ ⟨by decide, by decide⟩ rfl (fun v s1 G hp hG => ?_)
  obtain ⟨hv1, hs1⟩ := hp
  subst hv1
  subst s1
  refine v_if_ne (pc := 5) (tgt := 54) dX9_canSeal_5 (by decide) (fun c5 => ?_) (fun c5 => ?_)
  · rw [b2i_0, Decidable.not_not] at c5
    have e9 : ¬ oSeal s j := fun z => c5 z.1
    refine v_iconst (pc := 54) (v := 0) dX9_canSeal_54 (by decide) ?_
    refine v_zret (pc := 55) hR dX9_canSeal_55 (by first | rfl | exact b2i_nar) ⟨by decide, by decide⟩ ?_
    first
      | exact ⟨_, hG, by rw [b2i_f e9], rfl⟩
      | exact ⟨_, hG, by rw [b2i_t e9], rfl⟩
  · rw [b2i_0] at c5
    refine v_aload_n (pc := 8) dX9_canSeal_8 rfl rfl ?_
    refine vm_getA (pc := 9) (k := 3) hG dX9_canSeal_9 fl_X9_16 (by decide) ?_
    refine v_aload_n (pc := 12) dX9_canSeal_12 rfl rfl ?_
    refine vm_getA (pc := 13) (k := 29) hG dX9_canSeal_13 fl_X9_69 (by decide) ?_
    refine v_iload_n (pc := 16) dX9_canSeal_16 rfl rfl ?_
    refine vm_iald (pc := 17) (k := 29) (j := j) hG dX9_canSeal_17 rfl rfl (by have h0 : ml 29 = 6 := rfl; omega) el ?_
    refine vm_zald (pc := 18) (k := 3) (j := l) hG dX9_canSeal_18 rfl rfl (by have h0 : ml 3 = 6 := rfl; omega) rfl ?_
    refine v_if_ne (pc := 19) (tgt := 54) dX9_canSeal_19 (by decide) (fun c19 => ?_) (fun c19 => ?_)
    · have e9 : ¬ oSeal s j := fun z => c19 (by rw [← z.2.1, el2])
      refine v_iconst (pc := 54) (v := 0) dX9_canSeal_54 (by decide) ?_
      refine v_zret (pc := 55) hR dX9_canSeal_55 (by first | rfl | exact b2i_nar) ⟨by decide, by decide⟩ ?_
      first
        | exact ⟨_, hG, by rw [b2i_f e9], rfl⟩
        | exact ⟨_, hG, by rw [b2i_t e9], rfl⟩
    · refine v_aload_n (pc := 22) dX9_canSeal_22 rfl rfl ?_
      refine vm_getA (pc := 23) (k := 30) hG dX9_canSeal_23 fl_X9_72 (by decide) ?_
      refine v_iload_n (pc := 26) dX9_canSeal_26 rfl rfl ?_
      refine vm_iald (pc := 27) (k := 30) (j := j) hG dX9_canSeal_27 rfl rfl (by have h0 : ml 30 = 6 := rfl; omega) rfl ?_
      refine v_if_le (pc := 28) (tgt := 54) dX9_canSeal_28 (by decide) (fun c28 => ?_) (fun c28 => ?_)
      · have e9 : ¬ oSeal s j := fun z => absurd z.2.2.1 (n_nlt.mpr c28)
        refine v_iconst (pc := 54) (v := 0) dX9_canSeal_54 (by decide) ?_
        refine v_zret (pc := 55) hR dX9_canSeal_55 (by first | rfl | exact b2i_nar) ⟨by decide, by decide⟩ ?_
        first
          | exact ⟨_, hG, by rw [b2i_f e9], rfl⟩
          | exact ⟨_, hG, by rw [b2i_t e9], rfl⟩
      · refine v_aload_n (pc := 31) dX9_canSeal_31 rfl rfl ?_
        refine v_iload_n (pc := 32) dX9_canSeal_32 rfl rfl ?_
        refine vm_callV1 (pc := 33) (0, 0) hG dX9_canSeal_33 cw_X9_216 im_yX9_rounds se_yX9_rounds (c_X9_rounds D m ad _ j p (by omega) ep hp8) rfl (Nat.le_of_ble_eq_true rfl) ⟨Nat.le_of_ble_eq_true rfl, Nat.le_of_ble_eq_true rfl⟩ ⟨by decide, by decide⟩ rfl (fun v s1 G hp hG => ?_)
        obtain ⟨hv1, hs1⟩ := hp
        subst hv1
        subst s1
        refine v_iconst (pc := 36) (v := (-1)) dX9_canSeal_36 (by decide) ?_
        refine v_icmp_eq (pc := 37) (tgt := 54) dX9_canSeal_37 (by decide) (fun c37 => ?_) (fun c37 => ?_)
        · have e9 : ¬ oSeal s j := fun z => z.2.2.2.1 (by rw [opS, ep2]; exact c37)
          refine v_iconst (pc := 54) (v := 0) dX9_canSeal_54 (by decide) ?_
          refine v_zret (pc := 55) hR dX9_canSeal_55 (by first | rfl | exact b2i_nar) ⟨by decide, by decide⟩ ?_
          first
            | exact ⟨_, hG, by rw [b2i_f e9], rfl⟩
            | exact ⟨_, hG, by rw [b2i_t e9], rfl⟩
        · refine v_aload_n (pc := 40) dX9_canSeal_40 rfl rfl ?_
          refine vm_getA (pc := 41) (k := 37) hG dX9_canSeal_41 fl_X9_93 (by decide) ?_
          refine v_iload_n (pc := 44) dX9_canSeal_44 rfl rfl ?_
          refine vm_iald (pc := 45) (k := 37) (j := j) hG dX9_canSeal_45 rfl rfl (by have h0 : ml 37 = 6 := rfl; omega) rfl ?_
          refine v_iconst (pc := 46) (v := 3) dX9_canSeal_46 (by decide) ?_
          refine v_icmp_ge (pc := 47) (tgt := 54) dX9_canSeal_47 (by decide) (fun c47 => ?_) (fun c47 => ?_)
          · have e9 : ¬ oSeal s j := fun z => absurd z.2.2.2.2 (n_nlt.mpr c47)
            refine v_iconst (pc := 54) (v := 0) dX9_canSeal_54 (by decide) ?_
            refine v_zret (pc := 55) hR dX9_canSeal_55 (by first | rfl | exact b2i_nar) ⟨by decide, by decide⟩ ?_
            first
              | exact ⟨_, hG, by rw [b2i_f e9], rfl⟩
              | exact ⟨_, hG, by rw [b2i_t e9], rfl⟩
          · have e9 : oSeal s j := ⟨by first | exact Decidable.not_not.mp c5 | exact c5, by rw [el2]; exact c19, n_nle.mp c28, by rw [opS, ep2]; exact c37, n_nle.mp c47⟩
            refine v_iconst (pc := 50) (v := 1) dX9_canSeal_50 (by decide) ?_
            refine v_goto (pc := 51) (tgt := 55) dX9_canSeal_51 (by decide) ?_
            refine v_zret (pc := 55) hR dX9_canSeal_55 (by first | rfl | exact b2i_nar) ⟨by decide, by decide⟩ ?_
            first
              | exact ⟨_, hG, by rw [b2i_f e9], rfl⟩
              | exact ⟨_, hG, by rw [b2i_t e9], rfl⟩
def kSeal (s : SG) (c : Nat) (p0 p1 : Int32) : Int32 := if btw p0 0 (nI c - 1) ∧ btw p1 0 4 then (if oSeal s (nat p0) then 0 else 2) else 1
def gSeal (s : SG) (j : Nat) (p1 : Int32) : SG := sI (sI (sI s 32 j p1) 33 j (s.1 27 0)) 34 j (s.1 34 j + 1)
theorem oSeal_thr {s : SG} {x : Int32} {j : Nat} : oSeal (thr s x) j ↔ oSeal s j := by
  have e : opS (thr s x) j = opS s j := by rw [opS, opS, rndS, rndS, rndF_thr]; rfl
  show ((thr s x).1 32 j = -1 ∧ (thr s x).1 3 (nat ((thr s x).1 29 j)) = 0 ∧ 0 < (thr s x).1 30 j ∧ ¬ opS (thr s x) j = -1 ∧ (thr s x).1 37 j < 3) ↔ _
  rw [e]
  exact Iff.rfl
set_option maxRecDepth 100000 in
set_option maxHeartbeats 4000000 in
theorem c_X9_seal (D : DT) (m : Nat) (ad : AdT) (s : SG) (c : Nat) (p0 : Int32) (p1 : Int32) (h : CV s c) (hc : s.1 28 0 = nI c) (hc2 : c ≤ 6) : MM yX9_seal cX9_seal 4 (Option.some Jvm.ClassFile.FieldType.int) rm_X9_seal D [.ref m, .int p0, .int p1] m ad s (fun v s' => v = some (.int (if kSeal s c p0 p1 = 0 then s.1 34 (nat p0) + 1 else 0)) ∧ s' = if kSeal s c p0 p1 = 0 then gSeal (thr s 0) (nat p0) p1 else thr s (kSeal s c p0 p1)) := by
  intro G hG
  refine MC_of (by decide +kernel) (Nat.le_of_ble_eq_true rfl) (fun K sz hR => ?_)
  show V cX9_seal _ 4 _ D K 0 [some (.ref m), some (.int p0), some (.int p1), none] [] G (0, 0)
  refine v_aload_n (pc := 0) dX9_seal_0 rfl rfl ?_
  refine v_iload_n (pc := 1) dX9_seal_1 rfl rfl ?_
  refine vm_callV1 (pc := 2) (0, 0) hG dX9_seal_2 cw_X9_210 im_yX9_isCanopy se_yX9_isCanopy (c_X9_isCanopy D m ad _ _ ) rfl (Nat.le_of_ble_eq_true rfl) ⟨Nat.le_of_ble_eq_true rfl, Nat.le_of_ble_eq_true rfl⟩ ⟨by decide, by decide⟩ rfl (fun v s1 G hp hG => ?_)
  obtain ⟨hv1, hs1⟩ := hp
  subst hv1
  subst s1
  refine v_if_eq (pc := 5) (tgt := 21) dX9_seal_5 (by decide) (fun c5 => ?_) (fun c5 => ?_)
  · rw [b2i_0] at c5
    rw [hc] at c5
    have hk : kSeal s c p0 p1 = 1 := by rw [kSeal, if_neg (fun z => c5 z.1)]
    refine v_iconst (pc := 21) (v := 0) dX9_seal_21 (by decide) ?_
    refine v_istore_n (pc := 22) dX9_seal_22 rfl rfl (by decide) ?_
    refine v_aload_n (pc := 23) dX9_seal_23 rfl rfl ?_
    refine v_iload_n (pc := 24) dX9_seal_24 rfl rfl ?_
    refine v_if_ne (pc := 25) (tgt := 32) dX9_seal_25 (by decide) (fun c25 => absurd c25 (by decide)) (fun c25 => ?_)
    refine v_iconst (pc := 28) (v := 1) dX9_seal_28 (by decide) ?_
    refine v_goto (pc := 29) (tgt := 45) dX9_seal_29 (by decide) ?_
    refine vm_callV1 (pc := 45) (0, 0) hG dX9_seal_45 cw_X9_111 im_yX9_goes se_yX9_goes (c_X9_goes D m ad _ _ ) rfl (Nat.le_of_ble_eq_true rfl) ⟨Nat.le_of_ble_eq_true rfl, Nat.le_of_ble_eq_true rfl⟩ ⟨by decide, by decide⟩ rfl (fun v s1 G hp hG => ?_)
    obtain ⟨hv1, hs1⟩ := hp
    subst hv1
    subst s1
    refine v_if_ne (pc := 48) (tgt := 53) dX9_seal_48 (by decide) (fun c48 => absurd c48 (by decide)) (fun c48 => ?_)
    refine v_iconst (pc := 51) (v := 0) dX9_seal_51 (by decide) ?_
    refine v_iret (pc := 52) hR dX9_seal_52 ⟨by decide, by decide⟩ ?_
    exact ⟨_, hG, by simp [hk], by simp [hk]⟩
  · rw [b2i_0, Decidable.not_not] at c5
    rw [hc] at c5
    refine v_iload_n (pc := 8) dX9_seal_8 rfl rfl ?_
    refine v_iconst (pc := 9) (v := 0) dX9_seal_9 (by decide) ?_
    refine v_iconst (pc := 10) (v := 4) dX9_seal_10 (by decide) ?_
    refine v_callS3 (pc := 11) (0, 0) dX9_seal_11 cw_X9_103 sm_yX9_isBetween (c_X9_isBetween D _ _ _ _ ) (Nat.le_of_ble_eq_true rfl) ⟨Nat.le_of_ble_eq_true rfl, Nat.le_of_ble_eq_true rfl⟩ ⟨by decide, by decide⟩ rfl (fun v G1 hp => ?_)
    obtain ⟨hv1, hs1⟩ := hp
    subst hv1
    subst G1
    refine v_if_eq (pc := 14) (tgt := 21) dX9_seal_14 (by decide) (fun c14 => ?_) (fun c14 => ?_)
    · rw [b2i_0] at c14
      have hk : kSeal s c p0 p1 = 1 := by rw [kSeal, if_neg (fun z => c14 z.2)]
      refine v_iconst (pc := 21) (v := 0) dX9_seal_21 (by decide) ?_
      refine v_istore_n (pc := 22) dX9_seal_22 rfl rfl (by decide) ?_
      refine v_aload_n (pc := 23) dX9_seal_23 rfl rfl ?_
      refine v_iload_n (pc := 24) dX9_seal_24 rfl rfl ?_
      refine v_if_ne (pc := 25) (tgt := 32) dX9_seal_25 (by decide) (fun c25 => absurd c25 (by decide)) (fun c25 => ?_)
      refine v_iconst (pc := 28) (v := 1) dX9_seal_28 (by decide) ?_
      refine v_goto (pc := 29) (tgt := 45) dX9_seal_29 (by decide) ?_
      refine vm_callV1 (pc := 45) (0, 0) hG dX9_seal_45 cw_X9_111 im_yX9_goes se_yX9_goes (c_X9_goes D m ad _ _ ) rfl (Nat.le_of_ble_eq_true rfl) ⟨Nat.le_of_ble_eq_true rfl, Nat.le_of_ble_eq_true rfl⟩ ⟨by decide, by decide⟩ rfl (fun v s1 G hp hG => ?_)
      obtain ⟨hv1, hs1⟩ := hp
      subst hv1
      subst s1
      refine v_if_ne (pc := 48) (tgt := 53) dX9_seal_48 (by decide) (fun c48 => absurd c48 (by decide)) (fun c48 => ?_)
      refine v_iconst (pc := 51) (v := 0) dX9_seal_51 (by decide) ?_
      refine v_iret (pc := 52) hR dX9_seal_52 ⟨by decide, by decide⟩ ?_
      exact ⟨_, hG, by simp [hk], by simp [hk]⟩
    · rw [b2i_0, Decidable.not_not] at c14
      have c6 := c5
      obtain ⟨j, hj, rfl⟩ := (btw_ix (a := c) (by omega)).mp c6
      have en : nat (nI j) = j := nat_nI (by omega)
      refine v_iconst (pc := 17) (v := 1) dX9_seal_17 (by decide) ?_
      refine v_goto (pc := 18) (tgt := 22) dX9_seal_18 (by decide) ?_
      refine v_istore_n (pc := 22) dX9_seal_22 rfl rfl (by decide) ?_
      refine v_aload_n (pc := 23) dX9_seal_23 rfl rfl ?_
      refine v_iload_n (pc := 24) dX9_seal_24 rfl rfl ?_
      refine v_if_ne (pc := 25) (tgt := 32) dX9_seal_25 (by decide) (fun c25 => ?_) (fun c25 => absurd c25 (by decide))
      refine v_aload_n (pc := 32) dX9_seal_32 rfl rfl ?_
      refine v_iload_n (pc := 33) dX9_seal_33 rfl rfl ?_
      refine vm_callV1 (pc := 34) (0, 0) hG dX9_seal_34 cw_X9_219 im_yX9_canSeal se_yX9_canSeal (c_X9_canSeal D m ad _ j c h hj hc2) rfl (Nat.le_of_ble_eq_true rfl) ⟨Nat.le_of_ble_eq_true rfl, Nat.le_of_ble_eq_true rfl⟩ ⟨by decide, by decide⟩ rfl (fun v s1 G hp hG => ?_)
      obtain ⟨hv1, hs1⟩ := hp
      subst hv1
      subst s1
      refine v_if_eq (pc := 37) (tgt := 44) dX9_seal_37 (by decide) (fun c37 => ?_) (fun c37 => ?_)
      · rw [b2i_0] at c37
        have hk : kSeal s c (nI j) p1 = 2 := by rw [kSeal, if_pos ⟨c5, c14⟩, if_neg (by rw [en]; exact c37)]
        refine v_iconst (pc := 44) (v := 2) dX9_seal_44 (by decide) ?_
        refine vm_callV1 (pc := 45) (0, 0) hG dX9_seal_45 cw_X9_111 im_yX9_goes se_yX9_goes (c_X9_goes D m ad _ _ ) rfl (Nat.le_of_ble_eq_true rfl) ⟨Nat.le_of_ble_eq_true rfl, Nat.le_of_ble_eq_true rfl⟩ ⟨by decide, by decide⟩ rfl (fun v s1 G hp hG => ?_)
        obtain ⟨hv1, hs1⟩ := hp
        subst hv1
        subst s1
        refine v_if_ne (pc := 48) (tgt := 53) dX9_seal_48 (by decide) (fun c48 => absurd c48 (by decide)) (fun c48 => ?_)
        refine v_iconst (pc := 51) (v := 0) dX9_seal_51 (by decide) ?_
        refine v_iret (pc := 52) hR dX9_seal_52 ⟨by decide, by decide⟩ ?_
        exact ⟨_, hG, by simp [hk], by simp [hk]⟩
      · rw [b2i_0, Decidable.not_not] at c37
        have hk : kSeal s c (nI j) p1 = 0 := by rw [kSeal, if_pos ⟨c5, c14⟩, if_pos (by rw [en]; exact c37)]
        refine v_iconst (pc := 40) (v := 0) dX9_seal_40 (by decide) ?_
        refine v_goto (pc := 41) (tgt := 45) dX9_seal_41 (by decide) ?_
        refine vm_callV1 (pc := 45) (0, 0) hG dX9_seal_45 cw_X9_111 im_yX9_goes se_yX9_goes (c_X9_goes D m ad _ _ ) rfl (Nat.le_of_ble_eq_true rfl) ⟨Nat.le_of_ble_eq_true rfl, Nat.le_of_ble_eq_true rfl⟩ ⟨by decide, by decide⟩ rfl (fun v s1 G hp hG => ?_)
        obtain ⟨hv1, hs1⟩ := hp
        subst hv1
        subst s1
        refine v_if_ne (pc := 48) (tgt := 53) dX9_seal_48 (by decide) (fun c48 => ?_) (fun c48 => absurd c48 (by decide))
        refine v_aload_n (pc := 53) dX9_seal_53 rfl rfl ?_
        refine vm_getA (pc := 54) (k := 32) hG dX9_seal_54 fl_X9_78 (by decide) ?_
        refine v_iload_n (pc := 57) dX9_seal_57 rfl rfl ?_
        refine v_iload_n (pc := 58) dX9_seal_58 rfl rfl ?_
        refine vm_iast (pc := 59) (k := 32) (j := j) hG dX9_seal_59 rfl rfl (by have h0 : ml 32 = 6 := rfl; omega) (fun G hG => ?_)
        refine v_aload_n (pc := 60) dX9_seal_60 rfl rfl ?_
        refine vm_getA (pc := 61) (k := 33) hG dX9_seal_61 fl_X9_81 (by decide) ?_
        refine v_iload_n (pc := 64) dX9_seal_64 rfl rfl ?_
        refine v_aload_n (pc := 65) dX9_seal_65 rfl rfl ?_
        refine vm_getI (pc := 66) (k := 27) hG dX9_seal_66 fl_X9_207 rfl (by decide) (x := s.1 27 0) rfl ?_
        refine vm_iast (pc := 69) (k := 33) (j := j) hG dX9_seal_69 rfl rfl (by have h0 : ml 33 = 6 := rfl; omega) (fun G hG => ?_)
        refine v_aload_n (pc := 70) dX9_seal_70 rfl rfl ?_
        refine vm_getA (pc := 71) (k := 34) hG dX9_seal_71 fl_X9_84 (by decide) ?_
        refine v_iload_n (pc := 74) dX9_seal_74 rfl rfl ?_
        refine v_dup2 (pc := 75) dX9_seal_75 rfl rfl ?_
        refine vm_iald (pc := 76) (k := 34) (j := j) hG dX9_seal_76 rfl rfl (by have h0 : ml 34 = 6 := rfl; omega) (x := s.1 34 j) (by simp [sI, u2]) ?_
        refine v_iconst (pc := 77) (v := 1) dX9_seal_77 (by decide) ?_
        refine v_iadd (pc := 78) dX9_seal_78 ?_
        refine vm_iast (pc := 79) (k := 34) (j := j) hG dX9_seal_79 rfl rfl (by have h0 : ml 34 = 6 := rfl; omega) (fun G hG => ?_)
        refine v_aload_n (pc := 80) dX9_seal_80 rfl rfl ?_
        refine vm_getA (pc := 81) (k := 34) hG dX9_seal_81 fl_X9_84 (by decide) ?_
        refine v_iload_n (pc := 84) dX9_seal_84 rfl rfl ?_
        refine vm_iald (pc := 85) (k := 34) (j := j) hG dX9_seal_85 rfl rfl (by have h0 : ml 34 = 6 := rfl; omega) (x := s.1 34 j + 1) (by simp [sI, u2]) ?_
        refine v_iret (pc := 86) hR dX9_seal_86 ⟨by decide, by decide⟩ ?_
        exact ⟨_, hG, by rw [if_pos hk, en], by rw [if_pos hk, en, gSeal]; rfl⟩
abbrev oUse (s : SG) (j : Nat) : Prop := ¬ s.1 32 j = -1 ∧ s.1 27 0 - s.1 33 j ≤ 180 ∧ s.1 3 (nat (s.1 29 j)) = 0
def kUse (s : SG) (c : Nat) (p0 : Int32) : Int32 := if btw p0 0 (nI c - 1) then (if oUse s (nat p0) then 0 else 2) else 1
def gUse (s : SG) (j : Nat) : SG := sI (sI (sI s 32 j (-1)) 33 j (-1)) 35 j (s.1 35 j + 1)
set_option maxRecDepth 100000 in
set_option maxHeartbeats 4000000 in
theorem c_X9_use (D : DT) (m : Nat) (ad : AdT) (s : SG) (c : Nat) (p0 : Int32) (h : CV s c) (hc : s.1 28 0 = nI c) (hc2 : c ≤ 6) : MM yX9_use cX9_use 4 (Option.some Jvm.ClassFile.FieldType.int) rm_X9_use D [.ref m, .int p0] m ad s (fun v s' => v = some (.int (if kUse s c p0 = 0 then s.1 32 (nat p0) else 0)) ∧ s' = if kUse s c p0 = 0 then gUse (thr s 0) (nat p0) else thr s (kUse s c p0)) := by
  intro G hG
  refine MC_of (by decide +kernel) (Nat.le_of_ble_eq_true rfl) (fun K sz hR => ?_)
  show V cX9_use _ 4 _ D K 0 [some (.ref m), some (.int p0), none, none] [] G (0, 0)
  refine v_aload_n (pc := 0) dX9_use_0 rfl rfl ?_
  refine v_iload_n (pc := 1) dX9_use_1 rfl rfl ?_
  refine vm_callV1 (pc := 2) (0, 0) hG dX9_use_2 cw_X9_210 im_yX9_isCanopy se_yX9_isCanopy (c_X9_isCanopy D m ad _ _ ) rfl (Nat.le_of_ble_eq_true rfl) ⟨Nat.le_of_ble_eq_true rfl, Nat.le_of_ble_eq_true rfl⟩ ⟨by decide, by decide⟩ rfl (fun v s1 G hp hG => ?_)
  obtain ⟨hv1, hs1⟩ := hp
  subst hv1
  subst s1
  refine v_istore_n (pc := 5) dX9_use_5 rfl rfl (by decide) ?_
  refine v_aload_n (pc := 6) dX9_use_6 rfl rfl ?_
  refine v_iload_n (pc := 7) dX9_use_7 rfl rfl ?_
  refine v_if_ne (pc := 8) (tgt := 15) dX9_use_8 (by decide) (fun c8 => ?_) (fun c8 => ?_)
  · rw [b2i_0, Decidable.not_not] at c8
    rw [hc] at c8
    have c6 := c8
    obtain ⟨j, hj, rfl⟩ := (btw_ix (a := c) (by omega)).mp c6
    have en : nat (nI j) = j := nat_nI (by omega)
    obtain ⟨p, l, hp8, ep, hl6, el⟩ := h j hj
    have el2 : nat (s.1 29 j) = l := by rw [el]; exact nat_nI (by omega)
    refine v_aload_n (pc := 15) dX9_use_15 rfl rfl ?_
    refine v_iload_n (pc := 16) dX9_use_16 rfl rfl ?_
    refine vm_callV1 (pc := 17) (0, 0) hG dX9_use_17 cw_X9_213 im_yX9_hasSeal se_yX9_hasSeal (c_X9_hasSeal D m ad _ _ j (by omega) rfl) rfl (Nat.le_of_ble_eq_true rfl) ⟨Nat.le_of_ble_eq_true rfl, Nat.le_of_ble_eq_true rfl⟩ ⟨by decide, by decide⟩ rfl (fun v s1 G hp hG => ?_)
    obtain ⟨hv1, hs1⟩ := hp
    subst hv1
    subst s1
    refine v_if_eq (pc := 20) (tgt := 54) dX9_use_20 (by decide) (fun c20 => ?_) (fun c20 => ?_)
    · rw [b2i_0] at c20
      have hk : kUse s c (nI j) = 2 := by rw [kUse, if_pos c8, if_neg (by rw [en]; exact fun z => c20 z.1)]
      refine v_iconst (pc := 54) (v := 2) dX9_use_54 (by decide) ?_
      refine v_goto (pc := 55) (tgt := 59) dX9_use_55 (by decide) ?_
      refine vm_callV1 (pc := 59) (0, 0) hG dX9_use_59 cw_X9_111 im_yX9_goes se_yX9_goes (c_X9_goes D m ad _ _ ) rfl (Nat.le_of_ble_eq_true rfl) ⟨Nat.le_of_ble_eq_true rfl, Nat.le_of_ble_eq_true rfl⟩ ⟨by decide, by decide⟩ rfl (fun v s1 G hp hG => ?_)
      obtain ⟨hv1, hs1⟩ := hp
      subst hv1
      subst s1
      refine v_if_ne (pc := 62) (tgt := 67) dX9_use_62 (by decide) (fun c62 => absurd c62 (by decide)) (fun c62 => ?_)
      refine v_iconst (pc := 65) (v := 0) dX9_use_65 (by decide) ?_
      refine v_iret (pc := 66) hR dX9_use_66 ⟨by decide, by decide⟩ ?_
      exact ⟨_, hG, by simp [hk], by simp [hk]⟩
    · rw [b2i_0, Decidable.not_not] at c20
      refine v_aload_n (pc := 23) dX9_use_23 rfl rfl ?_
      refine vm_getI (pc := 24) (k := 27) hG dX9_use_24 fl_X9_207 rfl (by decide) (x := s.1 27 0) rfl ?_
      refine v_aload_n (pc := 27) dX9_use_27 rfl rfl ?_
      refine vm_getA (pc := 28) (k := 33) hG dX9_use_28 fl_X9_81 (by decide) ?_
      refine v_iload_n (pc := 31) dX9_use_31 rfl rfl ?_
      refine vm_iald (pc := 32) (k := 33) (j := j) hG dX9_use_32 rfl rfl (by have h0 : ml 33 = 6 := rfl; omega) (x := s.1 33 j) rfl ?_
      refine v_isub (pc := 33) dX9_use_33 ?_
      refine v_sipush (pc := 34) (v := 180) dX9_use_34 (by decide) ?_
      refine v_icmp_gt (pc := 37) (tgt := 54) dX9_use_37 (by decide) (fun c37 => ?_) (fun c37 => ?_)
      · have hk : kUse s c (nI j) = 2 := by rw [kUse, if_pos c8, if_neg (by rw [en]; exact fun z => absurd z.2.1 (n_nle.mpr c37))]
        refine v_iconst (pc := 54) (v := 2) dX9_use_54 (by decide) ?_
        refine v_goto (pc := 55) (tgt := 59) dX9_use_55 (by decide) ?_
        refine vm_callV1 (pc := 59) (0, 0) hG dX9_use_59 cw_X9_111 im_yX9_goes se_yX9_goes (c_X9_goes D m ad _ _ ) rfl (Nat.le_of_ble_eq_true rfl) ⟨Nat.le_of_ble_eq_true rfl, Nat.le_of_ble_eq_true rfl⟩ ⟨by decide, by decide⟩ rfl (fun v s1 G hp hG => ?_)
        obtain ⟨hv1, hs1⟩ := hp
        subst hv1
        subst s1
        refine v_if_ne (pc := 62) (tgt := 67) dX9_use_62 (by decide) (fun c62 => absurd c62 (by decide)) (fun c62 => ?_)
        refine v_iconst (pc := 65) (v := 0) dX9_use_65 (by decide) ?_
        refine v_iret (pc := 66) hR dX9_use_66 ⟨by decide, by decide⟩ ?_
        exact ⟨_, hG, by simp [hk], by simp [hk]⟩
      · refine v_aload_n (pc := 40) dX9_use_40 rfl rfl ?_
        refine vm_getA (pc := 41) (k := 3) hG dX9_use_41 fl_X9_16 (by decide) ?_
        refine v_aload_n (pc := 44) dX9_use_44 rfl rfl ?_
        refine vm_getA (pc := 45) (k := 29) hG dX9_use_45 fl_X9_69 (by decide) ?_
        refine v_iload_n (pc := 48) dX9_use_48 rfl rfl ?_
        refine vm_iald (pc := 49) (k := 29) (j := j) hG dX9_use_49 rfl rfl (by have h0 : ml 29 = 6 := rfl; omega) el ?_
        refine vm_zald (pc := 50) (k := 3) (j := l) hG dX9_use_50 rfl rfl (by have h0 : ml 3 = 6 := rfl; omega) (x := s.1 3 l) rfl ?_
        refine v_if_eq (pc := 51) (tgt := 58) dX9_use_51 (by decide) (fun c51 => ?_) (fun c51 => ?_)
        · have hk : kUse s c (nI j) = 0 := by rw [kUse, if_pos c8, if_pos (by rw [en]; exact ⟨c20, n_nlt.mp c37, by rw [el2]; exact c51⟩)]
          refine v_iconst (pc := 58) (v := 0) dX9_use_58 (by decide) ?_
          refine vm_callV1 (pc := 59) (0, 0) hG dX9_use_59 cw_X9_111 im_yX9_goes se_yX9_goes (c_X9_goes D m ad _ _ ) rfl (Nat.le_of_ble_eq_true rfl) ⟨Nat.le_of_ble_eq_true rfl, Nat.le_of_ble_eq_true rfl⟩ ⟨by decide, by decide⟩ rfl (fun v s1 G hp hG => ?_)
          obtain ⟨hv1, hs1⟩ := hp
          subst hv1
          subst s1
          refine v_if_ne (pc := 62) (tgt := 67) dX9_use_62 (by decide) (fun c62 => ?_) (fun c62 => absurd c62 (by decide))
          refine v_aload_n (pc := 67) dX9_use_67 rfl rfl ?_
          refine vm_getA (pc := 68) (k := 32) hG dX9_use_68 fl_X9_78 (by decide) ?_
          refine v_iload_n (pc := 71) dX9_use_71 rfl rfl ?_
          refine vm_iald (pc := 72) (k := 32) (j := j) hG dX9_use_72 rfl rfl (by have h0 : ml 32 = 6 := rfl; omega) (x := s.1 32 j) rfl ?_
          refine v_istore_n (pc := 73) dX9_use_73 rfl rfl (by decide) ?_
          refine v_aload_n (pc := 74) dX9_use_74 rfl rfl ?_
          refine v_iload_n (pc := 75) dX9_use_75 rfl rfl ?_
          refine vm_callV1 (pc := 76) (0, 0) hG dX9_use_76 cw_X9_222 im_yX9_unseals se_yX9_unseals (c_X9_unseals D m ad _ j (by omega)) rfl (Nat.le_of_ble_eq_true rfl) ⟨Nat.le_of_ble_eq_true rfl, Nat.le_of_ble_eq_true rfl⟩ ⟨by decide, by decide⟩ rfl (fun v s1 G hp hG => ?_)
          obtain ⟨hv1, hs1⟩ := hp
          subst hv1
          subst s1
          refine v_aload_n (pc := 79) dX9_use_79 rfl rfl ?_
          refine vm_getA (pc := 80) (k := 35) hG dX9_use_80 fl_X9_87 (by decide) ?_
          refine v_iload_n (pc := 83) dX9_use_83 rfl rfl ?_
          refine v_dup2 (pc := 84) dX9_use_84 rfl rfl ?_
          refine vm_iald (pc := 85) (k := 35) (j := j) hG dX9_use_85 rfl rfl (by have h0 : ml 35 = 6 := rfl; omega) (x := s.1 35 j) (by simp [sI, u2]) ?_
          refine v_iconst (pc := 86) (v := 1) dX9_use_86 (by decide) ?_
          refine v_iadd (pc := 87) dX9_use_87 ?_
          refine vm_iast (pc := 88) (k := 35) (j := j) hG dX9_use_88 rfl rfl (by have h0 : ml 35 = 6 := rfl; omega) (fun G hG => ?_)
          refine v_iload_n (pc := 89) dX9_use_89 rfl rfl ?_
          refine v_iret (pc := 90) hR dX9_use_90 ⟨by decide, by decide⟩ ?_
          exact ⟨_, hG, by rw [if_pos hk, en], by rw [if_pos hk, en, gUse]; rfl⟩
        · have hk : kUse s c (nI j) = 2 := by rw [kUse, if_pos c8, if_neg (by rw [en]; exact fun z => c51 (by rw [← z.2.2, el2]))]
          refine v_iconst (pc := 54) (v := 2) dX9_use_54 (by decide) ?_
          refine v_goto (pc := 55) (tgt := 59) dX9_use_55 (by decide) ?_
          refine vm_callV1 (pc := 59) (0, 0) hG dX9_use_59 cw_X9_111 im_yX9_goes se_yX9_goes (c_X9_goes D m ad _ _ ) rfl (Nat.le_of_ble_eq_true rfl) ⟨Nat.le_of_ble_eq_true rfl, Nat.le_of_ble_eq_true rfl⟩ ⟨by decide, by decide⟩ rfl (fun v s1 G hp hG => ?_)
          obtain ⟨hv1, hs1⟩ := hp
          subst hv1
          subst s1
          refine v_if_ne (pc := 62) (tgt := 67) dX9_use_62 (by decide) (fun c62 => absurd c62 (by decide)) (fun c62 => ?_)
          refine v_iconst (pc := 65) (v := 0) dX9_use_65 (by decide) ?_
          refine v_iret (pc := 66) hR dX9_use_66 ⟨by decide, by decide⟩ ?_
          exact ⟨_, hG, by simp [hk], by simp [hk]⟩
  · rw [b2i_0] at c8
    rw [hc] at c8
    have hk : kUse s c p0 = 1 := by rw [kUse, if_neg c8]
    refine v_iconst (pc := 11) (v := 1) dX9_use_11 (by decide) ?_
    refine v_goto (pc := 12) (tgt := 59) dX9_use_12 (by decide) ?_
    refine vm_callV1 (pc := 59) (0, 0) hG dX9_use_59 cw_X9_111 im_yX9_goes se_yX9_goes (c_X9_goes D m ad _ _ ) rfl (Nat.le_of_ble_eq_true rfl) ⟨Nat.le_of_ble_eq_true rfl, Nat.le_of_ble_eq_true rfl⟩ ⟨by decide, by decide⟩ rfl (fun v s1 G hp hG => ?_)
    obtain ⟨hv1, hs1⟩ := hp
    subst hv1
    subst s1
    refine v_if_ne (pc := 62) (tgt := 67) dX9_use_62 (by decide) (fun c62 => absurd c62 (by decide)) (fun c62 => ?_)
    refine v_iconst (pc := 65) (v := 0) dX9_use_65 (by decide) ?_
    refine v_iret (pc := 66) hR dX9_use_66 ⟨by decide, by decide⟩ ?_
    exact ⟨_, hG, by simp [hk], by simp [hk]⟩
/-- find: canopies below i of the lot l lose their seals -/
def losF (s : SG) (l : Nat) : Nat → SG × Nat
  | 0 => (s, 0)
  | i + 1 => if s.1 29 i = nI l ∧ ¬ s.1 32 i = -1 then (sI (sI (losF s l i).1 32 i (-1)) 33 i (-1), (losF s l i).2 + 1) else losF s l i
theorem losF_n (s : SG) (l : Nat) : ∀ i k j, (k = 32 ∨ k = 33 → i ≤ j) → (losF s l i).1.1 k j = s.1 k j := by
  intro i
  induction i with
  | zero => intro k j _; rfl
  | succ i ih =>
    intro k j h
    rw [losF]
    split
    · show u2 (u2 (losF s l i).1.1 32 i (-1)) 33 i (-1) k j = _
      have h1 : ¬ (k = 33 ∧ j = i) := fun z => by have := h (Or.inr z.1); omega
      have h2 : ¬ (k = 32 ∧ j = i) := fun z => by have := h (Or.inl z.1); omega
      rw [u2, if_neg h1, u2, if_neg h2]
      exact ih k j (fun z => by have := h z; omega)
    · exact ih k j (fun z => by have := h z; omega)
theorem losF_2 (s : SG) (l : Nat) : ∀ i, (losF s l i).2 ≤ i := by
  intro i
  induction i with
  | zero => exact Nat.le_refl 0
  | succ i ih =>
    rw [losF]
    split
    · show (losF s l i).2 + 1 ≤ i + 1; omega
    · omega
def kFind (s : SG) (a : Nat) (p0 p1 : Int32) : Int32 := if btw p0 0 (nI a - 1) then (if s.1 3 (nat p0) = p1 then 2 else 0) else 1
def gFind (s : SG) (c j : Nat) (p1 : Int32) : SG × Nat := if p1 = 0 then (sI s 3 j p1, 0) else losF (sI s 3 j p1) j c
set_option maxRecDepth 100000 in
set_option maxHeartbeats 4000000 in
theorem l_X9_find {D : DT} {K : KT} {m : Nat} {ad : AdT} {s : SG} (l c : Nat) (hl : l < 6) (hc : s.1 28 0 = nI c) (hc2 : c ≤ 6) (kk : ∀ (G : GT), MD m ad (losF s l c).1 G → V cX9_find yX9_find.cls 5 rm_X9_find D K 96 [some (.ref m), some (.int (nI l)), some (.int 1), some (.int (nI (losF s l c).2)), some (.int (nI c))] [] G (0, 0)) : ∀ (d i : Nat)  (G : GT), i + d = c → MD m ad (losF s l i).1 G → V cX9_find yX9_find.cls 5 rm_X9_find D K 48 [some (.ref m), some (.int (nI l)), some (.int 1), some (.int (nI (losF s l i).2)), some (.int (nI i))] [] G (0, 0) := by
  intro d
  induction d with
  | zero =>
    intro i  G he0 he1 
    have hG := he1
    refine v_iload (pc := 48) dX9_find_48 rfl ?_
    refine v_aload_n (pc := 50) dX9_find_50 rfl rfl ?_
    refine vm_getI (pc := 51) (k := 28) hG dX9_find_51 fl_X9_204 rfl (by decide) (x := nI c) (by rw [losF_n s l i 28 0 (by omega), hc]) ?_
    refine v_icmp_ge (pc := 54) (tgt := 96) dX9_find_54 (by decide) (fun c54 => ?_) (fun c54 => absurd c54 (not_not_intro (by rw [show i = c by omega]; exact Int32.le_refl _)))
    have e : i = c := by omega
    subst e
    exact kk G he1
  | succ d ih =>
    intro i  G he0 he1 
    have hG := he1
    refine v_iload (pc := 48) dX9_find_48 rfl ?_
    refine v_aload_n (pc := 50) dX9_find_50 rfl rfl ?_
    refine vm_getI (pc := 51) (k := 28) hG dX9_find_51 fl_X9_204 rfl (by decide) (x := nI c) (by rw [losF_n s l i 28 0 (by omega), hc]) ?_
    refine v_icmp_ge (pc := 54) (tgt := 96) dX9_find_54 (by decide) (fun c54 => absurd c54 (nI_ge (by omega) (by omega))) (fun c54 => ?_)
    refine v_iload_n (pc := 57) dX9_find_57 rfl rfl ?_
    refine v_if_eq (pc := 58) (tgt := 96) dX9_find_58 (by decide) (fun c58 => absurd c58 (by decide)) (fun c58 => ?_)
    refine v_aload_n (pc := 61) dX9_find_61 rfl rfl ?_
    refine vm_getA (pc := 62) (k := 29) hG dX9_find_62 fl_X9_69 (by decide) ?_
    refine v_iload (pc := 65) dX9_find_65 rfl ?_
    refine vm_iald (pc := 67) (k := 29) (j := i) hG dX9_find_67 rfl rfl (by have h0 : ml 29 = 6 := rfl; omega) (x := s.1 29 i) (losF_n s l i 29 i (by omega)) ?_
    refine v_iload_n (pc := 68) dX9_find_68 rfl rfl ?_
    refine v_icmp_ne (pc := 69) (tgt := 90) dX9_find_69 (by decide) (fun c69 => ?_) (fun c69 => ?_)
    · have e9 : losF s l (i + 1) = losF s l i := by rw [losF, if_neg (fun z => c69 z.1)]
      refine v_iinc (pc := 90) dX9_find_90 rfl (nI_1 i) rfl (by decide) ?_
      refine v_goto (pc := 93) (tgt := 48) dX9_find_93 (by decide) ?_
      have e8 := ih (i + 1) G (by omega) (by rw [e9]; exact hG)
      rw [e9] at e8
      exact e8
    · refine v_aload_n (pc := 72) dX9_find_72 rfl rfl ?_
      refine v_iload (pc := 73) dX9_find_73 rfl ?_
      refine vm_callV1 (pc := 75) (0, 0) hG dX9_find_75 cw_X9_213 im_yX9_hasSeal se_yX9_hasSeal (c_X9_hasSeal D m ad _ _ i (by omega) rfl) rfl (Nat.le_of_ble_eq_true rfl) ⟨Nat.le_of_ble_eq_true rfl, Nat.le_of_ble_eq_true rfl⟩ ⟨by decide, by decide⟩ rfl (fun v s1 G hp hG => ?_)
      obtain ⟨hv1, hs1⟩ := hp
      subst hv1
      subst s1
      refine v_if_eq (pc := 78) (tgt := 90) dX9_find_78 (by decide) (fun c78 => ?_) (fun c78 => ?_)
      · rw [b2i_0] at c78
        rw [losF_n s l i 32 i (fun _ => Nat.le_refl i)] at c78
        have e9 : losF s l (i + 1) = losF s l i := by rw [losF, if_neg (fun z => c78 z.2)]
        refine v_iinc (pc := 90) dX9_find_90 rfl (nI_1 i) rfl (by decide) ?_
        refine v_goto (pc := 93) (tgt := 48) dX9_find_93 (by decide) ?_
        have e8 := ih (i + 1) G (by omega) (by rw [e9]; exact hG)
        rw [e9] at e8
        exact e8
      · rw [b2i_0, Decidable.not_not] at c78
        rw [losF_n s l i 32 i (fun _ => Nat.le_refl i)] at c78
        have e9 : losF s l (i + 1) = (sI (sI (losF s l i).1 32 i (-1)) 33 i (-1), (losF s l i).2 + 1) := by rw [losF, if_pos ⟨c69, c78⟩]
        refine v_aload_n (pc := 81) dX9_find_81 rfl rfl ?_
        refine v_iload (pc := 82) dX9_find_82 rfl ?_
        refine vm_callV1 (pc := 84) (0, 0) hG dX9_find_84 cw_X9_222 im_yX9_unseals se_yX9_unseals (c_X9_unseals D m ad _ i (by omega)) rfl (Nat.le_of_ble_eq_true rfl) ⟨Nat.le_of_ble_eq_true rfl, Nat.le_of_ble_eq_true rfl⟩ ⟨by decide, by decide⟩ rfl (fun v s1 G hp hG => ?_)
        obtain ⟨hv1, hs1⟩ := hp
        subst hv1
        subst s1
        refine v_iinc (pc := 87) dX9_find_87 rfl (nI_1 _) rfl (by decide) ?_
        refine v_iinc (pc := 90) dX9_find_90 rfl (nI_1 i) rfl (by decide) ?_
        refine v_goto (pc := 93) (tgt := 48) dX9_find_93 (by decide) ?_
        have e8 := ih (i + 1) G (by omega) (by rw [e9]; exact hG)
        rw [e9] at e8
        exact e8
set_option maxRecDepth 100000 in
set_option maxHeartbeats 4000000 in
theorem c_X9_find (D : DT) (m : Nat) (ad : AdT) (s : SG) (a c : Nat) (p0 : Int32) (p1 : Int32) (hz : p1 = 0 ∨ p1 = 1) (hn : s.1 0 0 = nI a) (ha : a ≤ 6) (hc : s.1 28 0 = nI c) (hc2 : c ≤ 6) : MM yX9_find cX9_find 5 (Option.some Jvm.ClassFile.FieldType.int) rm_X9_find D [.ref m, .int p0, .int p1] m ad s (fun v s' => v = some (.int (if kFind s a p0 p1 = 0 then nI (gFind (thr s 0) c (nat p0) p1).2 else 0)) ∧ s' = if kFind s a p0 p1 = 0 then (gFind (thr s 0) c (nat p0) p1).1 else thr s (kFind s a p0 p1)) := by
  intro G hG
  refine MC_of (by decide +kernel) (Nat.le_of_ble_eq_true rfl) (fun K sz hR => ?_)
  show V cX9_find _ 5 _ D K 0 [some (.ref m), some (.int p0), some (.int p1), none, none] [] G (0, 0)
  refine v_aload_n (pc := 0) dX9_find_0 rfl rfl ?_
  refine v_aload_n (pc := 1) dX9_find_1 rfl rfl ?_
  refine v_iload_n (pc := 2) dX9_find_2 rfl rfl ?_
  refine vm_callV1 (pc := 3) (0, 0) hG dX9_find_3 cw_X9_115 im_yX9_isLot se_yX9_isLot (c_X9_isLot D m ad _ _ ) rfl (Nat.le_of_ble_eq_true rfl) ⟨Nat.le_of_ble_eq_true rfl, Nat.le_of_ble_eq_true rfl⟩ ⟨by decide, by decide⟩ rfl (fun v s1 G hp hG => ?_)
  obtain ⟨hv1, hs1⟩ := hp
  subst hv1
  subst s1
  refine v_if_ne (pc := 6) (tgt := 13) dX9_find_6 (by decide) (fun c6 => ?_) (fun c6 => ?_)
  · rw [b2i_0, Decidable.not_not] at c6
    rw [hn] at c6
    obtain ⟨l, hl, rfl⟩ := (btw_ix (a := a) (by omega)).mp c6
    have en : nat (nI l) = l := nat_nI (by omega)
    refine v_aload_n (pc := 13) dX9_find_13 rfl rfl ?_
    refine vm_getA (pc := 14) (k := 3) hG dX9_find_14 fl_X9_16 (by decide) ?_
    refine v_iload_n (pc := 17) dX9_find_17 rfl rfl ?_
    refine vm_zald (pc := 18) (k := 3) (j := l) hG dX9_find_18 rfl rfl (by have h0 : ml 3 = 6 := rfl; omega) rfl ?_
    refine v_iload_n (pc := 19) dX9_find_19 rfl rfl ?_
    refine v_icmp_ne (pc := 20) (tgt := 27) dX9_find_20 (by decide) (fun c20 => ?_) (fun c20 => ?_)
    · have hk : kFind s a (nI l) p1 = 0 := by rw [kFind, if_pos c6, if_neg (by rw [en]; exact c20)]
      refine v_iconst (pc := 27) (v := 0) dX9_find_27 (by decide) ?_
      refine vm_callV1 (pc := 28) (0, 0) hG dX9_find_28 cw_X9_111 im_yX9_goes se_yX9_goes (c_X9_goes D m ad _ _ ) rfl (Nat.le_of_ble_eq_true rfl) ⟨Nat.le_of_ble_eq_true rfl, Nat.le_of_ble_eq_true rfl⟩ ⟨by decide, by decide⟩ rfl (fun v s1 G hp hG => ?_)
      obtain ⟨hv1, hs1⟩ := hp
      subst hv1
      subst s1
      refine v_if_ne (pc := 31) (tgt := 36) dX9_find_31 (by decide) (fun c31 => ?_) (fun c31 => absurd c31 (by decide))
      refine v_aload_n (pc := 36) dX9_find_36 rfl rfl ?_
      refine vm_getA (pc := 37) (k := 3) hG dX9_find_37 fl_X9_16 (by decide) ?_
      refine v_iload_n (pc := 40) dX9_find_40 rfl rfl ?_
      refine v_iload_n (pc := 41) dX9_find_41 rfl rfl ?_
      refine vm_zast (pc := 42) (k := 3) (j := l) hG dX9_find_42 rfl rfl (by have h0 : ml 3 = 6 := rfl; omega) (by rcases hz with rfl | rfl <;> rfl) (fun G hG => ?_)
      refine v_iconst (pc := 43) (v := 0) dX9_find_43 (by decide) ?_
      refine v_istore_n (pc := 44) dX9_find_44 rfl rfl (by decide) ?_
      refine v_iconst (pc := 45) (v := 0) dX9_find_45 (by decide) ?_
      refine v_istore (pc := 46) dX9_find_46 rfl (by decide) ?_
      rcases hz with rfl | rfl
      · by_cases hc0 : c = 0
        · refine v_iload (pc := 48) dX9_find_48 rfl ?_
          refine v_aload_n (pc := 50) dX9_find_50 rfl rfl ?_
          refine vm_getI (pc := 51) (k := 28) hG dX9_find_51 fl_X9_204 rfl (by decide) (x := nI c) hc ?_
          refine v_icmp_ge (pc := 54) (tgt := 96) dX9_find_54 (by decide) (fun c54 => ?_) (fun c54 => absurd c54 (not_not_intro (by rw [hc0]; decide)))
          refine v_iload_n (pc := 96) dX9_find_96 rfl rfl ?_
          refine v_iret (pc := 97) hR dX9_find_97 ⟨by decide, by decide⟩ ?_
          have e9 : gFind (thr s 0) c l 0 = (sI (thr s 0) 3 l 0, 0) := by rw [gFind, if_pos rfl]
          exact ⟨_, hG, by rw [if_pos hk, en, e9]; rfl, by rw [if_pos hk, en, e9]⟩
        · refine v_iload (pc := 48) dX9_find_48 rfl ?_
          refine v_aload_n (pc := 50) dX9_find_50 rfl rfl ?_
          refine vm_getI (pc := 51) (k := 28) hG dX9_find_51 fl_X9_204 rfl (by decide) (x := nI c) hc ?_
          refine v_icmp_ge (pc := 54) (tgt := 96) dX9_find_54 (by decide) (fun c54 => absurd c54 (nI_ge (a := 0) (by omega) (by omega))) (fun c54 => ?_)
          refine v_iload_n (pc := 57) dX9_find_57 rfl rfl ?_
          refine v_if_eq (pc := 58) (tgt := 96) dX9_find_58 (by decide) (fun c58 => ?_) (fun c58 => absurd c58 (by decide))
          refine v_iload_n (pc := 96) dX9_find_96 rfl rfl ?_
          refine v_iret (pc := 97) hR dX9_find_97 ⟨by decide, by decide⟩ ?_
          have e9 : gFind (thr s 0) c l 0 = (sI (thr s 0) 3 l 0, 0) := by rw [gFind, if_pos rfl]
          exact ⟨_, hG, by rw [if_pos hk, en, e9]; rfl, by rw [if_pos hk, en, e9]⟩
      · refine l_X9_find (s := sI (thr s 0) 3 l 1) l c (by omega) hc hc2 (fun G hG => ?_) c 0 G (by omega) hG
        refine v_iload_n (pc := 96) dX9_find_96 rfl rfl ?_
        refine v_iret (pc := 97) hR dX9_find_97 ⟨by decide, by decide⟩ ?_
        have e9 : gFind (thr s 0) c l 1 = losF (sI (thr s 0) 3 l 1) l c := by rw [gFind, if_neg (by decide)]
        exact ⟨_, hG, by rw [if_pos hk, en, e9], by rw [if_pos hk, en, e9]⟩
    · have hk : kFind s a (nI l) p1 = 2 := by rw [kFind, if_pos c6, if_pos (by rw [en]; exact c20)]
      refine v_iconst (pc := 23) (v := 2) dX9_find_23 (by decide) ?_
      refine v_goto (pc := 24) (tgt := 28) dX9_find_24 (by decide) ?_
      refine vm_callV1 (pc := 28) (0, 0) hG dX9_find_28 cw_X9_111 im_yX9_goes se_yX9_goes (c_X9_goes D m ad _ _ ) rfl (Nat.le_of_ble_eq_true rfl) ⟨Nat.le_of_ble_eq_true rfl, Nat.le_of_ble_eq_true rfl⟩ ⟨by decide, by decide⟩ rfl (fun v s1 G hp hG => ?_)
      obtain ⟨hv1, hs1⟩ := hp
      subst hv1
      subst s1
      refine v_if_ne (pc := 31) (tgt := 36) dX9_find_31 (by decide) (fun c31 => absurd c31 (by decide)) (fun c31 => ?_)
      refine v_iconst (pc := 34) (v := 0) dX9_find_34 (by decide) ?_
      refine v_iret (pc := 35) hR dX9_find_35 ⟨by decide, by decide⟩ ?_
      exact ⟨_, hG, by simp [hk], by simp [hk]⟩
  · rw [b2i_0] at c6
    rw [hn] at c6
    have hk : kFind s a p0 p1 = 1 := by rw [kFind, if_neg c6]
    refine v_iconst (pc := 9) (v := 1) dX9_find_9 (by decide) ?_
    refine v_goto (pc := 10) (tgt := 28) dX9_find_10 (by decide) ?_
    refine vm_callV1 (pc := 28) (0, 0) hG dX9_find_28 cw_X9_111 im_yX9_goes se_yX9_goes (c_X9_goes D m ad _ _ ) rfl (Nat.le_of_ble_eq_true rfl) ⟨Nat.le_of_ble_eq_true rfl, Nat.le_of_ble_eq_true rfl⟩ ⟨by decide, by decide⟩ rfl (fun v s1 G hp hG => ?_)
    obtain ⟨hv1, hs1⟩ := hp
    subst hv1
    subst s1
    refine v_if_ne (pc := 31) (tgt := 36) dX9_find_31 (by decide) (fun c31 => absurd c31 (by decide)) (fun c31 => ?_)
    refine v_iconst (pc := 34) (v := 0) dX9_find_34 (by decide) ?_
    refine v_iret (pc := 35) hR dX9_find_35 ⟨by decide, by decide⟩ ?_
    exact ⟨_, hG, by simp [hk], by simp [hk]⟩
