/-- what every panel's place holds: a lot's number, a direction -/
def PV (s : SG) (np : Nat) : Prop := ∀ i, i < np → ∃ l a, l < 6 ∧ a < 3 ∧ s.1 5 i = nI l ∧ s.1 8 i = nI a
def SV (s : SG) (np ns : Nat) : Prop := ∀ i, i < ns → ∃ a b, a < np ∧ b < np ∧ s.1 10 i = nI a ∧ s.1 11 i = nI b
abbrev nat (x : Int32) : Nat := x.toNatClampNeg
def leftS (s : SG) (l : Nat) : Int32 := if 100 ≤ 1000 - s.1 2 l then 1000 - s.1 2 l else 100
def lotStr (s : SG) (l a : Nat) : Int64 := (s.1 1 (3 * l + a)).toInt64 * (leftS s l).toInt64 / 1000
def strS (s : SG) (j : Nat) : Int64 := lotStr s (nat (s.1 5 j)) (nat (s.1 8 j)) * (s.1 6 j).toInt64
def acrS (s : SG) (j : Nat) : Int32 := if s.1 8 j = 0 then s.1 6 j else if s.1 8 j = 1 then s.1 7 j else s.1 6 j + s.1 7 j
def lenS (s : SG) (j : Nat) : Int32 := if s.1 8 j = 0 then s.1 7 j else if s.1 8 j = 1 then s.1 6 j else s.1 6 j + s.1 7 j
def lessL (a b : Int64) : Int64 := if a < b then a else b
def pctS (s : SG) (i : Nat) : Int32 := if s.1 12 i = 0 then 60 else if s.1 12 i = 1 then 80 else 40
def seamS (s : SG) (i : Nat) : Int64 := lessL (strS s (nat (s.1 10 i))) (strS s (nat (s.1 11 i))) * (pctS s i).toInt64 / 100
theorem nat_nI {j : Nat} (h : j < 2147483648) : nat (nI j) = j := nI_clamp h
/-- sun -/
def kSun (a : Nat) (p0 p1 : Int32) : Int32 := if btw p0 0 (nI a - 1) then (if btw p1 1 10000 then 0 else 2) else 1
def hSun (h p : Int32) : Int32 := if h + p ≤ 1000000 then h + p else 1000000
def gSun (s : SG) (j : Nat) (p1 : Int32) : SG := sI s 2 j (hSun (s.1 2 j) p1)
set_option maxRecDepth 100000 in
set_option maxHeartbeats 4000000 in
theorem c_X9_sun (D : DT) (m : Nat) (ad : AdT) (s : SG) (a : Nat) (p0 : Int32) (p1 : Int32) (hn : s.1 0 0 = nI a) (ha : a ≤ 6) : MM yX9_sun cX9_sun 3 (Option.some Jvm.ClassFile.FieldType.int) rm_X9_sun D [.ref m, .int p0, .int p1] m ad s (fun v s' => v = some (.int (if kSun a p0 p1 = 0 then (gSun s (nat p0) p1).1 2 (nat p0) else 0)) ∧ s' = if kSun a p0 p1 = 0 then gSun (thr s 0) (nat p0) p1 else thr s (kSun a p0 p1)) := by
  intro G hG
  refine MC_of (by decide +kernel) (Nat.le_of_ble_eq_true rfl) (fun K sz hR => ?_)
  show V cX9_sun _ 3 _ D K 0 [some (.ref m), some (.int p0), some (.int p1)] [] G (0, 0)
  refine v_aload_n (pc := 0) dX9_sun_0 rfl rfl ?_
  refine v_aload_n (pc := 1) dX9_sun_1 rfl rfl ?_
  refine v_iload_n (pc := 2) dX9_sun_2 rfl rfl ?_
  refine vm_callV1 (pc := 3) (0, 0) hG dX9_sun_3 cw_X9_115 im_yX9_isLot se_yX9_isLot (c_X9_isLot D m ad _ _ ) rfl (Nat.le_of_ble_eq_true rfl) ⟨Nat.le_of_ble_eq_true rfl, Nat.le_of_ble_eq_true rfl⟩ ⟨by decide, by decide⟩ rfl (fun v s1 G hp hG => ?_)
  obtain ⟨hv1, hs1⟩ := hp
  subst hv1
  subst s1
  refine v_if_ne (pc := 6) (tgt := 13) dX9_sun_6 (by decide) (fun c6 => ?_) (fun c6 => ?_)
  · rw [b2i_0, Decidable.not_not] at c6
    rw [hn] at c6
    refine v_iload_n (pc := 13) dX9_sun_13 rfl rfl ?_
    refine v_iconst (pc := 14) (v := 1) dX9_sun_14 (by decide) ?_
    refine v_sipush (pc := 15) (v := 10000) dX9_sun_15 (by decide) ?_
    refine v_callS3 (pc := 18) (0, 0) dX9_sun_18 cw_X9_103 sm_yX9_isBetween (c_X9_isBetween D _ _ _ _ ) (Nat.le_of_ble_eq_true rfl) ⟨Nat.le_of_ble_eq_true rfl, Nat.le_of_ble_eq_true rfl⟩ ⟨by decide, by decide⟩ rfl (fun v G1 hp => ?_)
    obtain ⟨hv1, hs1⟩ := hp
    subst hv1
    subst G1
    refine v_if_eq (pc := 21) (tgt := 28) dX9_sun_21 (by decide) (fun c21 => ?_) (fun c21 => ?_)
    · rw [b2i_0] at c21
      have hk : kSun a p0 p1 = 2 := by rw [kSun, if_pos c6, if_neg c21]
      refine v_iconst (pc := 28) (v := 2) dX9_sun_28 (by decide) ?_
      refine vm_callV1 (pc := 29) (0, 0) hG dX9_sun_29 cw_X9_111 im_yX9_goes se_yX9_goes (c_X9_goes D m ad _ _ ) rfl (Nat.le_of_ble_eq_true rfl) ⟨Nat.le_of_ble_eq_true rfl, Nat.le_of_ble_eq_true rfl⟩ ⟨by decide, by decide⟩ rfl (fun v s1 G hp hG => ?_)
      obtain ⟨hv1, hs1⟩ := hp
      subst hv1
      subst s1
      refine v_if_ne (pc := 32) (tgt := 37) dX9_sun_32 (by decide) (fun c32 => absurd c32 (by decide)) (fun c32 => ?_)
      refine v_iconst (pc := 35) (v := 0) dX9_sun_35 (by decide) ?_
      refine v_iret (pc := 36) hR dX9_sun_36 ⟨by decide, by decide⟩ ?_
      exact ⟨_, hG, by simp [hk], by simp [hk]⟩
    · rw [b2i_0, Decidable.not_not] at c21
      have hk : kSun a p0 p1 = 0 := by rw [kSun, if_pos c6, if_pos c21]
      obtain ⟨j, hj, rfl⟩ := (btw_ix (a := a) (by omega)).mp c6
      refine v_iconst (pc := 24) (v := 0) dX9_sun_24 (by decide) ?_
      refine v_goto (pc := 25) (tgt := 29) dX9_sun_25 (by decide) ?_
      refine vm_callV1 (pc := 29) (0, 0) hG dX9_sun_29 cw_X9_111 im_yX9_goes se_yX9_goes (c_X9_goes D m ad _ _ ) rfl (Nat.le_of_ble_eq_true rfl) ⟨Nat.le_of_ble_eq_true rfl, Nat.le_of_ble_eq_true rfl⟩ ⟨by decide, by decide⟩ rfl (fun v s1 G hp hG => ?_)
      obtain ⟨hv1, hs1⟩ := hp
      subst hv1
      subst s1
      refine v_if_ne (pc := 32) (tgt := 37) dX9_sun_32 (by decide) (fun c32 => ?_) (fun c32 => absurd c32 (by decide))
      refine v_aload_n (pc := 37) dX9_sun_37 rfl rfl ?_
      refine vm_getA (pc := 38) (k := 2) hG dX9_sun_38 fl_X9_13 (by decide) ?_
      refine v_iload_n (pc := 41) dX9_sun_41 rfl rfl ?_
      refine v_aload_n (pc := 42) dX9_sun_42 rfl rfl ?_
      refine vm_getA (pc := 43) (k := 2) hG dX9_sun_43 fl_X9_13 (by decide) ?_
      refine v_iload_n (pc := 46) dX9_sun_46 rfl rfl ?_
      refine vm_iald (pc := 47) (k := 2) (j := j) hG dX9_sun_47 rfl rfl (by have h0 : ml 2 = 6 := rfl; omega) (x := s.1 2 j) rfl ?_
      refine v_iload_n (pc := 48) dX9_sun_48 rfl rfl ?_
      refine v_iadd (pc := 49) dX9_sun_49 ?_
      refine v_ldc (pc := 50) dX9_sun_50 k_X9_118 ?_
      refine v_icmp_le (pc := 52) (tgt := 60) dX9_sun_52 (by decide) (fun c52 => ?_) (fun c52 => ?_)
      · have h9 : hSun (s.1 2 j) p1 = s.1 2 j + p1 := by rw [hSun, if_pos c52]
        refine v_aload_n (pc := 60) dX9_sun_60 rfl rfl ?_
        refine vm_getA (pc := 61) (k := 2) hG dX9_sun_61 fl_X9_13 (by decide) ?_
        refine v_iload_n (pc := 64) dX9_sun_64 rfl rfl ?_
        refine vm_iald (pc := 65) (k := 2) (j := j) hG dX9_sun_65 rfl rfl (by have h0 : ml 2 = 6 := rfl; omega) (x := s.1 2 j) rfl ?_
        refine v_iload_n (pc := 66) dX9_sun_66 rfl rfl ?_
        refine v_iadd (pc := 67) dX9_sun_67 ?_
        refine vm_iast (pc := 68) (k := 2) (j := j) hG dX9_sun_68 rfl rfl (by have h0 : ml 2 = 6 := rfl; omega) (fun G hG => ?_)
        refine v_aload_n (pc := 69) dX9_sun_69 rfl rfl ?_
        refine vm_getA (pc := 70) (k := 2) hG dX9_sun_70 fl_X9_13 (by decide) ?_
        refine v_iload_n (pc := 73) dX9_sun_73 rfl rfl ?_
        refine vm_iald (pc := 74) (k := 2) (j := j) hG dX9_sun_74 rfl rfl (by have h0 : ml 2 = 6 := rfl; omega) (x := hSun (s.1 2 j) p1) (by rw [h9]; simp [sI, u2]) ?_
        refine v_iret (pc := 75) hR dX9_sun_75 ⟨by decide, by decide⟩ ?_
        have e : nat (nI j) = j := nat_nI (by omega)
        exact ⟨_, hG, by rw [if_pos hk, e, gSun, sI_s], by rw [if_pos hk, e, gSun, show (thr s 0).1 2 j = s.1 2 j from rfl, h9]⟩
      · have h9 : hSun (s.1 2 j) p1 = 1000000 := by rw [hSun, if_neg c52]
        refine v_ldc (pc := 55) dX9_sun_55 k_X9_118 ?_
        refine v_goto (pc := 57) (tgt := 68) dX9_sun_57 (by decide) ?_
        refine vm_iast (pc := 68) (k := 2) (j := j) hG dX9_sun_68 rfl rfl (by have h0 : ml 2 = 6 := rfl; omega) (fun G hG => ?_)
        refine v_aload_n (pc := 69) dX9_sun_69 rfl rfl ?_
        refine vm_getA (pc := 70) (k := 2) hG dX9_sun_70 fl_X9_13 (by decide) ?_
        refine v_iload_n (pc := 73) dX9_sun_73 rfl rfl ?_
        refine vm_iald (pc := 74) (k := 2) (j := j) hG dX9_sun_74 rfl rfl (by have h0 : ml 2 = 6 := rfl; omega) (x := hSun (s.1 2 j) p1) (by rw [h9]; simp [sI, u2]) ?_
        refine v_iret (pc := 75) hR dX9_sun_75 ⟨by decide, by decide⟩ ?_
        have e : nat (nI j) = j := nat_nI (by omega)
        exact ⟨_, hG, by rw [if_pos hk, e, gSun, sI_s], by rw [if_pos hk, e, gSun, show (thr s 0).1 2 j = s.1 2 j from rfl, h9]⟩
  · rw [b2i_0] at c6
    rw [hn] at c6
    have hk : kSun a p0 p1 = 1 := by rw [kSun, if_neg c6]
    refine v_iconst (pc := 9) (v := 1) dX9_sun_9 (by decide) ?_
    refine v_goto (pc := 10) (tgt := 29) dX9_sun_10 (by decide) ?_
    refine vm_callV1 (pc := 29) (0, 0) hG dX9_sun_29 cw_X9_111 im_yX9_goes se_yX9_goes (c_X9_goes D m ad _ _ ) rfl (Nat.le_of_ble_eq_true rfl) ⟨Nat.le_of_ble_eq_true rfl, Nat.le_of_ble_eq_true rfl⟩ ⟨by decide, by decide⟩ rfl (fun v s1 G hp hG => ?_)
    obtain ⟨hv1, hs1⟩ := hp
    subst hv1
    subst s1
    refine v_if_ne (pc := 32) (tgt := 37) dX9_sun_32 (by decide) (fun c32 => absurd c32 (by decide)) (fun c32 => ?_)
    refine v_iconst (pc := 35) (v := 0) dX9_sun_35 (by decide) ?_
    refine v_iret (pc := 36) hR dX9_sun_36 ⟨by decide, by decide⟩ ?_
    exact ⟨_, hG, by simp [hk], by simp [hk]⟩
/-- panel -/
abbrev oPan (w h al : Int32) : Prop := (btw w 1 150 ∧ btw h 1 150 ∧ btw al 0 2) ∧ ¬ (al = 2 ∧ ¬ w + h ≤ 150)
def kPan (a b : Nat) (p0 w h al : Int32) : Int32 := if btw p0 0 (nI a - 1) then (if oPan w h al then (if b = 12 then 3 else 0) else 2) else 1
def gPan (s : SG) (b : Nat) (p0 w h al : Int32) : SG := sI (sI (sI (sI (sI s 5 b p0) 6 b w) 7 b h) 8 b al) 4 0 (nI (b + 1))
set_option maxRecDepth 100000 in
set_option maxHeartbeats 4000000 in
theorem c_X9_panel (D : DT) (m : Nat) (ad : AdT) (s : SG) (a b : Nat) (p0 : Int32) (p1 : Int32) (p2 : Int32) (p3 : Int32) (hn : s.1 0 0 = nI a) (ha : a ≤ 6) (hb : s.1 4 0 = nI b) (hb2 : b ≤ 12) : MM yX9_panel cX9_panel 7 (Option.some Jvm.ClassFile.FieldType.int) rm_X9_panel D [.ref m, .int p0, .int p1, .int p2, .int p3] m ad s (fun v s' => v = some (.int (if kPan a b p0 p1 p2 p3 = 0 then nI b else 0)) ∧ s' = if kPan a b p0 p1 p2 p3 = 0 then gPan (thr s 0) b p0 p1 p2 p3 else thr s (kPan a b p0 p1 p2 p3)) := by
  intro G hG
  refine MC_of (by decide +kernel) (Nat.le_of_ble_eq_true rfl) (fun K sz hR => ?_)
  show V cX9_panel _ 7 _ D K 0 [some (.ref m), some (.int p0), some (.int p1), some (.int p2), some (.int p3), none, none] [] G (0, 0)
  refine v_iload_n (pc := 0) dX9_panel_0 rfl rfl ?_
  refine v_iconst (pc := 1) (v := 1) dX9_panel_1 (by decide) ?_
  refine v_sipush (pc := 2) (v := 150) dX9_panel_2 (by decide) ?_
  refine v_callS3 (pc := 5) (0, 0) dX9_panel_5 cw_X9_103 sm_yX9_isBetween (c_X9_isBetween D _ _ _ _ ) (Nat.le_of_ble_eq_true rfl) ⟨Nat.le_of_ble_eq_true rfl, Nat.le_of_ble_eq_true rfl⟩ ⟨by decide, by decide⟩ rfl (fun v G1 hp => ?_)
  obtain ⟨hv1, hs1⟩ := hp
  subst hv1
  subst G1
  refine v_if_eq (pc := 8) (tgt := 36) dX9_panel_8 (by decide) (fun c8 => ?_) (fun c8 => ?_)
  · rw [b2i_0] at c8
    have hx : ¬ oPan p1 p2 p3 := fun h => c8 h.1.1
    refine v_iconst (pc := 36) (v := 0) dX9_panel_36 (by decide) ?_
    refine v_istore (pc := 37) dX9_panel_37 rfl (by decide) ?_
    refine v_iload (pc := 39) dX9_panel_39 rfl ?_
    refine v_iconst (pc := 41) (v := 2) dX9_panel_41 (by decide) ?_
    refine v_icmp_ne (pc := 42) (tgt := 58) dX9_panel_42 (by decide) (fun c42 => ?_) (fun c42 => ?_)
    · refine v_iconst (pc := 58) (v := 0) dX9_panel_58 (by decide) ?_
      refine v_istore (pc := 59) dX9_panel_59 rfl (by decide) ?_
      refine v_aload_n (pc := 61) dX9_panel_61 rfl rfl ?_
      refine v_aload_n (pc := 62) dX9_panel_62 rfl rfl ?_
      refine v_iload_n (pc := 63) dX9_panel_63 rfl rfl ?_
      refine vm_callV1 (pc := 64) (0, 0) hG dX9_panel_64 cw_X9_115 im_yX9_isLot se_yX9_isLot (c_X9_isLot D m ad _ _ ) rfl (Nat.le_of_ble_eq_true rfl) ⟨Nat.le_of_ble_eq_true rfl, Nat.le_of_ble_eq_true rfl⟩ ⟨by decide, by decide⟩ rfl (fun v s1 G hp hG => ?_)
      obtain ⟨hv1, hs1⟩ := hp
      subst hv1
      subst s1
      refine v_if_ne (pc := 67) (tgt := 74) dX9_panel_67 (by decide) (fun c67 => ?_) (fun c67 => ?_)
      · rw [b2i_0, Decidable.not_not] at c67
        rw [hn] at c67
        refine v_iload (pc := 74) dX9_panel_74 rfl ?_
        refine v_if_eq (pc := 76) (tgt := 84) dX9_panel_76 (by decide) (fun c76 => ?_) (fun c76 => absurd c76 (by decide))
        have hk : kPan a b p0 p1 p2 p3 = 2 := by rw [kPan, if_pos c67, if_neg (by first | exact hx | exact fun h => h.2 ⟨c42, c51⟩)]
        refine v_iconst (pc := 84) (v := 2) dX9_panel_84 (by decide) ?_
        refine v_goto (pc := 85) (tgt := 102) dX9_panel_85 (by decide) ?_
        refine vm_callV1 (pc := 102) (0, 0) hG dX9_panel_102 cw_X9_111 im_yX9_goes se_yX9_goes (c_X9_goes D m ad _ _ ) rfl (Nat.le_of_ble_eq_true rfl) ⟨Nat.le_of_ble_eq_true rfl, Nat.le_of_ble_eq_true rfl⟩ ⟨by decide, by decide⟩ rfl (fun v s1 G hp hG => ?_)
        obtain ⟨hv1, hs1⟩ := hp
        subst hv1
        subst s1
        refine v_if_ne (pc := 105) (tgt := 110) dX9_panel_105 (by decide) (fun c105 => absurd c105 (by decide)) (fun c105 => ?_)
        refine v_iconst (pc := 108) (v := 0) dX9_panel_108 (by decide) ?_
        refine v_iret (pc := 109) hR dX9_panel_109 ⟨by decide, by decide⟩ ?_
        exact ⟨_, hG, by simp [hk], by simp [hk]⟩
      · rw [b2i_0] at c67
        rw [hn] at c67
        have hk : kPan a b p0 p1 p2 p3 = 1 := by rw [kPan, if_neg c67]
        refine v_iconst (pc := 70) (v := 1) dX9_panel_70 (by decide) ?_
        refine v_goto (pc := 71) (tgt := 102) dX9_panel_71 (by decide) ?_
        refine vm_callV1 (pc := 102) (0, 0) hG dX9_panel_102 cw_X9_111 im_yX9_goes se_yX9_goes (c_X9_goes D m ad _ _ ) rfl (Nat.le_of_ble_eq_true rfl) ⟨Nat.le_of_ble_eq_true rfl, Nat.le_of_ble_eq_true rfl⟩ ⟨by decide, by decide⟩ rfl (fun v s1 G hp hG => ?_)
        obtain ⟨hv1, hs1⟩ := hp
        subst hv1
        subst s1
        refine v_if_ne (pc := 105) (tgt := 110) dX9_panel_105 (by decide) (fun c105 => absurd c105 (by decide)) (fun c105 => ?_)
        refine v_iconst (pc := 108) (v := 0) dX9_panel_108 (by decide) ?_
        refine v_iret (pc := 109) hR dX9_panel_109 ⟨by decide, by decide⟩ ?_
        exact ⟨_, hG, by simp [hk], by simp [hk]⟩
    · refine v_iload_n (pc := 45) dX9_panel_45 rfl rfl ?_
      refine v_iload_n (pc := 46) dX9_panel_46 rfl rfl ?_
      refine v_iadd (pc := 47) dX9_panel_47 ?_
      refine v_sipush (pc := 48) (v := 150) dX9_panel_48 (by decide) ?_
      refine v_icmp_le (pc := 51) (tgt := 58) dX9_panel_51 (by decide) (fun c51 => ?_) (fun c51 => ?_)
      · refine v_iconst (pc := 58) (v := 0) dX9_panel_58 (by decide) ?_
        refine v_istore (pc := 59) dX9_panel_59 rfl (by decide) ?_
        refine v_aload_n (pc := 61) dX9_panel_61 rfl rfl ?_
        refine v_aload_n (pc := 62) dX9_panel_62 rfl rfl ?_
        refine v_iload_n (pc := 63) dX9_panel_63 rfl rfl ?_
        refine vm_callV1 (pc := 64) (0, 0) hG dX9_panel_64 cw_X9_115 im_yX9_isLot se_yX9_isLot (c_X9_isLot D m ad _ _ ) rfl (Nat.le_of_ble_eq_true rfl) ⟨Nat.le_of_ble_eq_true rfl, Nat.le_of_ble_eq_true rfl⟩ ⟨by decide, by decide⟩ rfl (fun v s1 G hp hG => ?_)
        obtain ⟨hv1, hs1⟩ := hp
        subst hv1
        subst s1
        refine v_if_ne (pc := 67) (tgt := 74) dX9_panel_67 (by decide) (fun c67 => ?_) (fun c67 => ?_)
        · rw [b2i_0, Decidable.not_not] at c67
          rw [hn] at c67
          refine v_iload (pc := 74) dX9_panel_74 rfl ?_
          refine v_if_eq (pc := 76) (tgt := 84) dX9_panel_76 (by decide) (fun c76 => ?_) (fun c76 => absurd c76 (by decide))
          have hk : kPan a b p0 p1 p2 p3 = 2 := by rw [kPan, if_pos c67, if_neg (by first | exact hx | exact fun h => h.2 ⟨c42, c51⟩)]
          refine v_iconst (pc := 84) (v := 2) dX9_panel_84 (by decide) ?_
          refine v_goto (pc := 85) (tgt := 102) dX9_panel_85 (by decide) ?_
          refine vm_callV1 (pc := 102) (0, 0) hG dX9_panel_102 cw_X9_111 im_yX9_goes se_yX9_goes (c_X9_goes D m ad _ _ ) rfl (Nat.le_of_ble_eq_true rfl) ⟨Nat.le_of_ble_eq_true rfl, Nat.le_of_ble_eq_true rfl⟩ ⟨by decide, by decide⟩ rfl (fun v s1 G hp hG => ?_)
          obtain ⟨hv1, hs1⟩ := hp
          subst hv1
          subst s1
          refine v_if_ne (pc := 105) (tgt := 110) dX9_panel_105 (by decide) (fun c105 => absurd c105 (by decide)) (fun c105 => ?_)
          refine v_iconst (pc := 108) (v := 0) dX9_panel_108 (by decide) ?_
          refine v_iret (pc := 109) hR dX9_panel_109 ⟨by decide, by decide⟩ ?_
          exact ⟨_, hG, by simp [hk], by simp [hk]⟩
        · rw [b2i_0] at c67
          rw [hn] at c67
          have hk : kPan a b p0 p1 p2 p3 = 1 := by rw [kPan, if_neg c67]
          refine v_iconst (pc := 70) (v := 1) dX9_panel_70 (by decide) ?_
          refine v_goto (pc := 71) (tgt := 102) dX9_panel_71 (by decide) ?_
          refine vm_callV1 (pc := 102) (0, 0) hG dX9_panel_102 cw_X9_111 im_yX9_goes se_yX9_goes (c_X9_goes D m ad _ _ ) rfl (Nat.le_of_ble_eq_true rfl) ⟨Nat.le_of_ble_eq_true rfl, Nat.le_of_ble_eq_true rfl⟩ ⟨by decide, by decide⟩ rfl (fun v s1 G hp hG => ?_)
          obtain ⟨hv1, hs1⟩ := hp
          subst hv1
          subst s1
          refine v_if_ne (pc := 105) (tgt := 110) dX9_panel_105 (by decide) (fun c105 => absurd c105 (by decide)) (fun c105 => ?_)
          refine v_iconst (pc := 108) (v := 0) dX9_panel_108 (by decide) ?_
          refine v_iret (pc := 109) hR dX9_panel_109 ⟨by decide, by decide⟩ ?_
          exact ⟨_, hG, by simp [hk], by simp [hk]⟩
      · refine v_iconst (pc := 54) (v := 1) dX9_panel_54 (by decide) ?_
        refine v_goto (pc := 55) (tgt := 59) dX9_panel_55 (by decide) ?_
        refine v_istore (pc := 59) dX9_panel_59 rfl (by decide) ?_
        refine v_aload_n (pc := 61) dX9_panel_61 rfl rfl ?_
        refine v_aload_n (pc := 62) dX9_panel_62 rfl rfl ?_
        refine v_iload_n (pc := 63) dX9_panel_63 rfl rfl ?_
        refine vm_callV1 (pc := 64) (0, 0) hG dX9_panel_64 cw_X9_115 im_yX9_isLot se_yX9_isLot (c_X9_isLot D m ad _ _ ) rfl (Nat.le_of_ble_eq_true rfl) ⟨Nat.le_of_ble_eq_true rfl, Nat.le_of_ble_eq_true rfl⟩ ⟨by decide, by decide⟩ rfl (fun v s1 G hp hG => ?_)
        obtain ⟨hv1, hs1⟩ := hp
        subst hv1
        subst s1
        refine v_if_ne (pc := 67) (tgt := 74) dX9_panel_67 (by decide) (fun c67 => ?_) (fun c67 => ?_)
        · rw [b2i_0, Decidable.not_not] at c67
          rw [hn] at c67
          refine v_iload (pc := 74) dX9_panel_74 rfl ?_
          refine v_if_eq (pc := 76) (tgt := 84) dX9_panel_76 (by decide) (fun c76 => ?_) (fun c76 => absurd c76 (by decide))
          have hk : kPan a b p0 p1 p2 p3 = 2 := by rw [kPan, if_pos c67, if_neg (by first | exact hx | exact fun h => h.2 ⟨c42, c51⟩)]
          refine v_iconst (pc := 84) (v := 2) dX9_panel_84 (by decide) ?_
          refine v_goto (pc := 85) (tgt := 102) dX9_panel_85 (by decide) ?_
          refine vm_callV1 (pc := 102) (0, 0) hG dX9_panel_102 cw_X9_111 im_yX9_goes se_yX9_goes (c_X9_goes D m ad _ _ ) rfl (Nat.le_of_ble_eq_true rfl) ⟨Nat.le_of_ble_eq_true rfl, Nat.le_of_ble_eq_true rfl⟩ ⟨by decide, by decide⟩ rfl (fun v s1 G hp hG => ?_)
          obtain ⟨hv1, hs1⟩ := hp
          subst hv1
          subst s1
          refine v_if_ne (pc := 105) (tgt := 110) dX9_panel_105 (by decide) (fun c105 => absurd c105 (by decide)) (fun c105 => ?_)
          refine v_iconst (pc := 108) (v := 0) dX9_panel_108 (by decide) ?_
          refine v_iret (pc := 109) hR dX9_panel_109 ⟨by decide, by decide⟩ ?_
          exact ⟨_, hG, by simp [hk], by simp [hk]⟩
        · rw [b2i_0] at c67
          rw [hn] at c67
          have hk : kPan a b p0 p1 p2 p3 = 1 := by rw [kPan, if_neg c67]
          refine v_iconst (pc := 70) (v := 1) dX9_panel_70 (by decide) ?_
          refine v_goto (pc := 71) (tgt := 102) dX9_panel_71 (by decide) ?_
          refine vm_callV1 (pc := 102) (0, 0) hG dX9_panel_102 cw_X9_111 im_yX9_goes se_yX9_goes (c_X9_goes D m ad _ _ ) rfl (Nat.le_of_ble_eq_true rfl) ⟨Nat.le_of_ble_eq_true rfl, Nat.le_of_ble_eq_true rfl⟩ ⟨by decide, by decide⟩ rfl (fun v s1 G hp hG => ?_)
          obtain ⟨hv1, hs1⟩ := hp
          subst hv1
          subst s1
          refine v_if_ne (pc := 105) (tgt := 110) dX9_panel_105 (by decide) (fun c105 => absurd c105 (by decide)) (fun c105 => ?_)
          refine v_iconst (pc := 108) (v := 0) dX9_panel_108 (by decide) ?_
          refine v_iret (pc := 109) hR dX9_panel_109 ⟨by decide, by decide⟩ ?_
          exact ⟨_, hG, by simp [hk], by simp [hk]⟩
  · rw [b2i_0, Decidable.not_not] at c8
    refine v_iload_n (pc := 11) dX9_panel_11 rfl rfl ?_
    refine v_iconst (pc := 12) (v := 1) dX9_panel_12 (by decide) ?_
    refine v_sipush (pc := 13) (v := 150) dX9_panel_13 (by decide) ?_
    refine v_callS3 (pc := 16) (0, 0) dX9_panel_16 cw_X9_103 sm_yX9_isBetween (c_X9_isBetween D _ _ _ _ ) (Nat.le_of_ble_eq_true rfl) ⟨Nat.le_of_ble_eq_true rfl, Nat.le_of_ble_eq_true rfl⟩ ⟨by decide, by decide⟩ rfl (fun v G1 hp => ?_)
    obtain ⟨hv1, hs1⟩ := hp
    subst hv1
    subst G1
    refine v_if_eq (pc := 19) (tgt := 36) dX9_panel_19 (by decide) (fun c19 => ?_) (fun c19 => ?_)
    · rw [b2i_0] at c19
      have hx : ¬ oPan p1 p2 p3 := fun h => c19 h.1.2.1
      refine v_iconst (pc := 36) (v := 0) dX9_panel_36 (by decide) ?_
      refine v_istore (pc := 37) dX9_panel_37 rfl (by decide) ?_
      refine v_iload (pc := 39) dX9_panel_39 rfl ?_
      refine v_iconst (pc := 41) (v := 2) dX9_panel_41 (by decide) ?_
      refine v_icmp_ne (pc := 42) (tgt := 58) dX9_panel_42 (by decide) (fun c42 => ?_) (fun c42 => ?_)
      · refine v_iconst (pc := 58) (v := 0) dX9_panel_58 (by decide) ?_
        refine v_istore (pc := 59) dX9_panel_59 rfl (by decide) ?_
        refine v_aload_n (pc := 61) dX9_panel_61 rfl rfl ?_
        refine v_aload_n (pc := 62) dX9_panel_62 rfl rfl ?_
        refine v_iload_n (pc := 63) dX9_panel_63 rfl rfl ?_
        refine vm_callV1 (pc := 64) (0, 0) hG dX9_panel_64 cw_X9_115 im_yX9_isLot se_yX9_isLot (c_X9_isLot D m ad _ _ ) rfl (Nat.le_of_ble_eq_true rfl) ⟨Nat.le_of_ble_eq_true rfl, Nat.le_of_ble_eq_true rfl⟩ ⟨by decide, by decide⟩ rfl (fun v s1 G hp hG => ?_)
        obtain ⟨hv1, hs1⟩ := hp
        subst hv1
        subst s1
        refine v_if_ne (pc := 67) (tgt := 74) dX9_panel_67 (by decide) (fun c67 => ?_) (fun c67 => ?_)
        · rw [b2i_0, Decidable.not_not] at c67
          rw [hn] at c67
          refine v_iload (pc := 74) dX9_panel_74 rfl ?_
          refine v_if_eq (pc := 76) (tgt := 84) dX9_panel_76 (by decide) (fun c76 => ?_) (fun c76 => absurd c76 (by decide))
          have hk : kPan a b p0 p1 p2 p3 = 2 := by rw [kPan, if_pos c67, if_neg (by first | exact hx | exact fun h => h.2 ⟨c42, c51⟩)]
          refine v_iconst (pc := 84) (v := 2) dX9_panel_84 (by decide) ?_
          refine v_goto (pc := 85) (tgt := 102) dX9_panel_85 (by decide) ?_
          refine vm_callV1 (pc := 102) (0, 0) hG dX9_panel_102 cw_X9_111 im_yX9_goes se_yX9_goes (c_X9_goes D m ad _ _ ) rfl (Nat.le_of_ble_eq_true rfl) ⟨Nat.le_of_ble_eq_true rfl, Nat.le_of_ble_eq_true rfl⟩ ⟨by decide, by decide⟩ rfl (fun v s1 G hp hG => ?_)
          obtain ⟨hv1, hs1⟩ := hp
          subst hv1
          subst s1
          refine v_if_ne (pc := 105) (tgt := 110) dX9_panel_105 (by decide) (fun c105 => absurd c105 (by decide)) (fun c105 => ?_)
          refine v_iconst (pc := 108) (v := 0) dX9_panel_108 (by decide) ?_
          refine v_iret (pc := 109) hR dX9_panel_109 ⟨by decide, by decide⟩ ?_
          exact ⟨_, hG, by simp [hk], by simp [hk]⟩
        · rw [b2i_0] at c67
          rw [hn] at c67
          have hk : kPan a b p0 p1 p2 p3 = 1 := by rw [kPan, if_neg c67]
          refine v_iconst (pc := 70) (v := 1) dX9_panel_70 (by decide) ?_
          refine v_goto (pc := 71) (tgt := 102) dX9_panel_71 (by decide) ?_
          refine vm_callV1 (pc := 102) (0, 0) hG dX9_panel_102 cw_X9_111 im_yX9_goes se_yX9_goes (c_X9_goes D m ad _ _ ) rfl (Nat.le_of_ble_eq_true rfl) ⟨Nat.le_of_ble_eq_true rfl, Nat.le_of_ble_eq_true rfl⟩ ⟨by decide, by decide⟩ rfl (fun v s1 G hp hG => ?_)
          obtain ⟨hv1, hs1⟩ := hp
          subst hv1
          subst s1
          refine v_if_ne (pc := 105) (tgt := 110) dX9_panel_105 (by decide) (fun c105 => absurd c105 (by decide)) (fun c105 => ?_)
          refine v_iconst (pc := 108) (v := 0) dX9_panel_108 (by decide) ?_
          refine v_iret (pc := 109) hR dX9_panel_109 ⟨by decide, by decide⟩ ?_
          exact ⟨_, hG, by simp [hk], by simp [hk]⟩
      · refine v_iload_n (pc := 45) dX9_panel_45 rfl rfl ?_
        refine v_iload_n (pc := 46) dX9_panel_46 rfl rfl ?_
        refine v_iadd (pc := 47) dX9_panel_47 ?_
        refine v_sipush (pc := 48) (v := 150) dX9_panel_48 (by decide) ?_
        refine v_icmp_le (pc := 51) (tgt := 58) dX9_panel_51 (by decide) (fun c51 => ?_) (fun c51 => ?_)
        · refine v_iconst (pc := 58) (v := 0) dX9_panel_58 (by decide) ?_
          refine v_istore (pc := 59) dX9_panel_59 rfl (by decide) ?_
          refine v_aload_n (pc := 61) dX9_panel_61 rfl rfl ?_
          refine v_aload_n (pc := 62) dX9_panel_62 rfl rfl ?_
          refine v_iload_n (pc := 63) dX9_panel_63 rfl rfl ?_
          refine vm_callV1 (pc := 64) (0, 0) hG dX9_panel_64 cw_X9_115 im_yX9_isLot se_yX9_isLot (c_X9_isLot D m ad _ _ ) rfl (Nat.le_of_ble_eq_true rfl) ⟨Nat.le_of_ble_eq_true rfl, Nat.le_of_ble_eq_true rfl⟩ ⟨by decide, by decide⟩ rfl (fun v s1 G hp hG => ?_)
          obtain ⟨hv1, hs1⟩ := hp
          subst hv1
          subst s1
          refine v_if_ne (pc := 67) (tgt := 74) dX9_panel_67 (by decide) (fun c67 => ?_) (fun c67 => ?_)
          · rw [b2i_0, Decidable.not_not] at c67
            rw [hn] at c67
            refine v_iload (pc := 74) dX9_panel_74 rfl ?_
            refine v_if_eq (pc := 76) (tgt := 84) dX9_panel_76 (by decide) (fun c76 => ?_) (fun c76 => absurd c76 (by decide))
            have hk : kPan a b p0 p1 p2 p3 = 2 := by rw [kPan, if_pos c67, if_neg (by first | exact hx | exact fun h => h.2 ⟨c42, c51⟩)]
            refine v_iconst (pc := 84) (v := 2) dX9_panel_84 (by decide) ?_
            refine v_goto (pc := 85) (tgt := 102) dX9_panel_85 (by decide) ?_
            refine vm_callV1 (pc := 102) (0, 0) hG dX9_panel_102 cw_X9_111 im_yX9_goes se_yX9_goes (c_X9_goes D m ad _ _ ) rfl (Nat.le_of_ble_eq_true rfl) ⟨Nat.le_of_ble_eq_true rfl, Nat.le_of_ble_eq_true rfl⟩ ⟨by decide, by decide⟩ rfl (fun v s1 G hp hG => ?_)
            obtain ⟨hv1, hs1⟩ := hp
            subst hv1
            subst s1
            refine v_if_ne (pc := 105) (tgt := 110) dX9_panel_105 (by decide) (fun c105 => absurd c105 (by decide)) (fun c105 => ?_)
            refine v_iconst (pc := 108) (v := 0) dX9_panel_108 (by decide) ?_
            refine v_iret (pc := 109) hR dX9_panel_109 ⟨by decide, by decide⟩ ?_
            exact ⟨_, hG, by simp [hk], by simp [hk]⟩
          · rw [b2i_0] at c67
            rw [hn] at c67
            have hk : kPan a b p0 p1 p2 p3 = 1 := by rw [kPan, if_neg c67]
            refine v_iconst (pc := 70) (v := 1) dX9_panel_70 (by decide) ?_
            refine v_goto (pc := 71) (tgt := 102) dX9_panel_71 (by decide) ?_
            refine vm_callV1 (pc := 102) (0, 0) hG dX9_panel_102 cw_X9_111 im_yX9_goes se_yX9_goes (c_X9_goes D m ad _ _ ) rfl (Nat.le_of_ble_eq_true rfl) ⟨Nat.le_of_ble_eq_true rfl, Nat.le_of_ble_eq_true rfl⟩ ⟨by decide, by decide⟩ rfl (fun v s1 G hp hG => ?_)
            obtain ⟨hv1, hs1⟩ := hp
            subst hv1
            subst s1
            refine v_if_ne (pc := 105) (tgt := 110) dX9_panel_105 (by decide) (fun c105 => absurd c105 (by decide)) (fun c105 => ?_)
            refine v_iconst (pc := 108) (v := 0) dX9_panel_108 (by decide) ?_
            refine v_iret (pc := 109) hR dX9_panel_109 ⟨by decide, by decide⟩ ?_
            exact ⟨_, hG, by simp [hk], by simp [hk]⟩
        · refine v_iconst (pc := 54) (v := 1) dX9_panel_54 (by decide) ?_
          refine v_goto (pc := 55) (tgt := 59) dX9_panel_55 (by decide) ?_
          refine v_istore (pc := 59) dX9_panel_59 rfl (by decide) ?_
          refine v_aload_n (pc := 61) dX9_panel_61 rfl rfl ?_
          refine v_aload_n (pc := 62) dX9_panel_62 rfl rfl ?_
          refine v_iload_n (pc := 63) dX9_panel_63 rfl rfl ?_
          refine vm_callV1 (pc := 64) (0, 0) hG dX9_panel_64 cw_X9_115 im_yX9_isLot se_yX9_isLot (c_X9_isLot D m ad _ _ ) rfl (Nat.le_of_ble_eq_true rfl) ⟨Nat.le_of_ble_eq_true rfl, Nat.le_of_ble_eq_true rfl⟩ ⟨by decide, by decide⟩ rfl (fun v s1 G hp hG => ?_)
          obtain ⟨hv1, hs1⟩ := hp
          subst hv1
          subst s1
          refine v_if_ne (pc := 67) (tgt := 74) dX9_panel_67 (by decide) (fun c67 => ?_) (fun c67 => ?_)
          · rw [b2i_0, Decidable.not_not] at c67
            rw [hn] at c67
            refine v_iload (pc := 74) dX9_panel_74 rfl ?_
            refine v_if_eq (pc := 76) (tgt := 84) dX9_panel_76 (by decide) (fun c76 => ?_) (fun c76 => absurd c76 (by decide))
            have hk : kPan a b p0 p1 p2 p3 = 2 := by rw [kPan, if_pos c67, if_neg (by first | exact hx | exact fun h => h.2 ⟨c42, c51⟩)]
            refine v_iconst (pc := 84) (v := 2) dX9_panel_84 (by decide) ?_
            refine v_goto (pc := 85) (tgt := 102) dX9_panel_85 (by decide) ?_
            refine vm_callV1 (pc := 102) (0, 0) hG dX9_panel_102 cw_X9_111 im_yX9_goes se_yX9_goes (c_X9_goes D m ad _ _ ) rfl (Nat.le_of_ble_eq_true rfl) ⟨Nat.le_of_ble_eq_true rfl, Nat.le_of_ble_eq_true rfl⟩ ⟨by decide, by decide⟩ rfl (fun v s1 G hp hG => ?_)
            obtain ⟨hv1, hs1⟩ := hp
            subst hv1
            subst s1
            refine v_if_ne (pc := 105) (tgt := 110) dX9_panel_105 (by decide) (fun c105 => absurd c105 (by decide)) (fun c105 => ?_)
            refine v_iconst (pc := 108) (v := 0) dX9_panel_108 (by decide) ?_
            refine v_iret (pc := 109) hR dX9_panel_109 ⟨by decide, by decide⟩ ?_
            exact ⟨_, hG, by simp [hk], by simp [hk]⟩
          · rw [b2i_0] at c67
            rw [hn] at c67
            have hk : kPan a b p0 p1 p2 p3 = 1 := by rw [kPan, if_neg c67]
            refine v_iconst (pc := 70) (v := 1) dX9_panel_70 (by decide) ?_
            refine v_goto (pc := 71) (tgt := 102) dX9_panel_71 (by decide) ?_
            refine vm_callV1 (pc := 102) (0, 0) hG dX9_panel_102 cw_X9_111 im_yX9_goes se_yX9_goes (c_X9_goes D m ad _ _ ) rfl (Nat.le_of_ble_eq_true rfl) ⟨Nat.le_of_ble_eq_true rfl, Nat.le_of_ble_eq_true rfl⟩ ⟨by decide, by decide⟩ rfl (fun v s1 G hp hG => ?_)
            obtain ⟨hv1, hs1⟩ := hp
            subst hv1
            subst s1
            refine v_if_ne (pc := 105) (tgt := 110) dX9_panel_105 (by decide) (fun c105 => absurd c105 (by decide)) (fun c105 => ?_)
            refine v_iconst (pc := 108) (v := 0) dX9_panel_108 (by decide) ?_
            refine v_iret (pc := 109) hR dX9_panel_109 ⟨by decide, by decide⟩ ?_
            exact ⟨_, hG, by simp [hk], by simp [hk]⟩
    · rw [b2i_0, Decidable.not_not] at c19
      refine v_iload (pc := 22) dX9_panel_22 rfl ?_
      refine v_iconst (pc := 24) (v := 0) dX9_panel_24 (by decide) ?_
      refine v_iconst (pc := 25) (v := 2) dX9_panel_25 (by decide) ?_
      refine v_callS3 (pc := 26) (0, 0) dX9_panel_26 cw_X9_103 sm_yX9_isBetween (c_X9_isBetween D _ _ _ _ ) (Nat.le_of_ble_eq_true rfl) ⟨Nat.le_of_ble_eq_true rfl, Nat.le_of_ble_eq_true rfl⟩ ⟨by decide, by decide⟩ rfl (fun v G1 hp => ?_)
      obtain ⟨hv1, hs1⟩ := hp
      subst hv1
      subst G1
      refine v_if_eq (pc := 29) (tgt := 36) dX9_panel_29 (by decide) (fun c29 => ?_) (fun c29 => ?_)
      · rw [b2i_0] at c29
        have hx : ¬ oPan p1 p2 p3 := fun h => c29 h.1.2.2
        refine v_iconst (pc := 36) (v := 0) dX9_panel_36 (by decide) ?_
        refine v_istore (pc := 37) dX9_panel_37 rfl (by decide) ?_
        refine v_iload (pc := 39) dX9_panel_39 rfl ?_
        refine v_iconst (pc := 41) (v := 2) dX9_panel_41 (by decide) ?_
        refine v_icmp_ne (pc := 42) (tgt := 58) dX9_panel_42 (by decide) (fun c42 => ?_) (fun c42 => ?_)
        · refine v_iconst (pc := 58) (v := 0) dX9_panel_58 (by decide) ?_
          refine v_istore (pc := 59) dX9_panel_59 rfl (by decide) ?_
          refine v_aload_n (pc := 61) dX9_panel_61 rfl rfl ?_
          refine v_aload_n (pc := 62) dX9_panel_62 rfl rfl ?_
          refine v_iload_n (pc := 63) dX9_panel_63 rfl rfl ?_
          refine vm_callV1 (pc := 64) (0, 0) hG dX9_panel_64 cw_X9_115 im_yX9_isLot se_yX9_isLot (c_X9_isLot D m ad _ _ ) rfl (Nat.le_of_ble_eq_true rfl) ⟨Nat.le_of_ble_eq_true rfl, Nat.le_of_ble_eq_true rfl⟩ ⟨by decide, by decide⟩ rfl (fun v s1 G hp hG => ?_)
          obtain ⟨hv1, hs1⟩ := hp
          subst hv1
          subst s1
          refine v_if_ne (pc := 67) (tgt := 74) dX9_panel_67 (by decide) (fun c67 => ?_) (fun c67 => ?_)
          · rw [b2i_0, Decidable.not_not] at c67
            rw [hn] at c67
            refine v_iload (pc := 74) dX9_panel_74 rfl ?_
            refine v_if_eq (pc := 76) (tgt := 84) dX9_panel_76 (by decide) (fun c76 => ?_) (fun c76 => absurd c76 (by decide))
            have hk : kPan a b p0 p1 p2 p3 = 2 := by rw [kPan, if_pos c67, if_neg (by first | exact hx | exact fun h => h.2 ⟨c42, c51⟩)]
            refine v_iconst (pc := 84) (v := 2) dX9_panel_84 (by decide) ?_
            refine v_goto (pc := 85) (tgt := 102) dX9_panel_85 (by decide) ?_
            refine vm_callV1 (pc := 102) (0, 0) hG dX9_panel_102 cw_X9_111 im_yX9_goes se_yX9_goes (c_X9_goes D m ad _ _ ) rfl (Nat.le_of_ble_eq_true rfl) ⟨Nat.le_of_ble_eq_true rfl, Nat.le_of_ble_eq_true rfl⟩ ⟨by decide, by decide⟩ rfl (fun v s1 G hp hG => ?_)
            obtain ⟨hv1, hs1⟩ := hp
            subst hv1
            subst s1
            refine v_if_ne (pc := 105) (tgt := 110) dX9_panel_105 (by decide) (fun c105 => absurd c105 (by decide)) (fun c105 => ?_)
            refine v_iconst (pc := 108) (v := 0) dX9_panel_108 (by decide) ?_
            refine v_iret (pc := 109) hR dX9_panel_109 ⟨by decide, by decide⟩ ?_
            exact ⟨_, hG, by simp [hk], by simp [hk]⟩
          · rw [b2i_0] at c67
            rw [hn] at c67
            have hk : kPan a b p0 p1 p2 p3 = 1 := by rw [kPan, if_neg c67]
            refine v_iconst (pc := 70) (v := 1) dX9_panel_70 (by decide) ?_
            refine v_goto (pc := 71) (tgt := 102) dX9_panel_71 (by decide) ?_
            refine vm_callV1 (pc := 102) (0, 0) hG dX9_panel_102 cw_X9_111 im_yX9_goes se_yX9_goes (c_X9_goes D m ad _ _ ) rfl (Nat.le_of_ble_eq_true rfl) ⟨Nat.le_of_ble_eq_true rfl, Nat.le_of_ble_eq_true rfl⟩ ⟨by decide, by decide⟩ rfl (fun v s1 G hp hG => ?_)
            obtain ⟨hv1, hs1⟩ := hp
            subst hv1
            subst s1
            refine v_if_ne (pc := 105) (tgt := 110) dX9_panel_105 (by decide) (fun c105 => absurd c105 (by decide)) (fun c105 => ?_)
            refine v_iconst (pc := 108) (v := 0) dX9_panel_108 (by decide) ?_
            refine v_iret (pc := 109) hR dX9_panel_109 ⟨by decide, by decide⟩ ?_
            exact ⟨_, hG, by simp [hk], by simp [hk]⟩
        · refine v_iload_n (pc := 45) dX9_panel_45 rfl rfl ?_
          refine v_iload_n (pc := 46) dX9_panel_46 rfl rfl ?_
          refine v_iadd (pc := 47) dX9_panel_47 ?_
          refine v_sipush (pc := 48) (v := 150) dX9_panel_48 (by decide) ?_
          refine v_icmp_le (pc := 51) (tgt := 58) dX9_panel_51 (by decide) (fun c51 => ?_) (fun c51 => ?_)
          · refine v_iconst (pc := 58) (v := 0) dX9_panel_58 (by decide) ?_
            refine v_istore (pc := 59) dX9_panel_59 rfl (by decide) ?_
            refine v_aload_n (pc := 61) dX9_panel_61 rfl rfl ?_
            refine v_aload_n (pc := 62) dX9_panel_62 rfl rfl ?_
            refine v_iload_n (pc := 63) dX9_panel_63 rfl rfl ?_
            refine vm_callV1 (pc := 64) (0, 0) hG dX9_panel_64 cw_X9_115 im_yX9_isLot se_yX9_isLot (c_X9_isLot D m ad _ _ ) rfl (Nat.le_of_ble_eq_true rfl) ⟨Nat.le_of_ble_eq_true rfl, Nat.le_of_ble_eq_true rfl⟩ ⟨by decide, by decide⟩ rfl (fun v s1 G hp hG => ?_)
            obtain ⟨hv1, hs1⟩ := hp
            subst hv1
            subst s1
            refine v_if_ne (pc := 67) (tgt := 74) dX9_panel_67 (by decide) (fun c67 => ?_) (fun c67 => ?_)
            · rw [b2i_0, Decidable.not_not] at c67
              rw [hn] at c67
              refine v_iload (pc := 74) dX9_panel_74 rfl ?_
              refine v_if_eq (pc := 76) (tgt := 84) dX9_panel_76 (by decide) (fun c76 => ?_) (fun c76 => absurd c76 (by decide))
              have hk : kPan a b p0 p1 p2 p3 = 2 := by rw [kPan, if_pos c67, if_neg (by first | exact hx | exact fun h => h.2 ⟨c42, c51⟩)]
              refine v_iconst (pc := 84) (v := 2) dX9_panel_84 (by decide) ?_
              refine v_goto (pc := 85) (tgt := 102) dX9_panel_85 (by decide) ?_
              refine vm_callV1 (pc := 102) (0, 0) hG dX9_panel_102 cw_X9_111 im_yX9_goes se_yX9_goes (c_X9_goes D m ad _ _ ) rfl (Nat.le_of_ble_eq_true rfl) ⟨Nat.le_of_ble_eq_true rfl, Nat.le_of_ble_eq_true rfl⟩ ⟨by decide, by decide⟩ rfl (fun v s1 G hp hG => ?_)
              obtain ⟨hv1, hs1⟩ := hp
              subst hv1
              subst s1
              refine v_if_ne (pc := 105) (tgt := 110) dX9_panel_105 (by decide) (fun c105 => absurd c105 (by decide)) (fun c105 => ?_)
              refine v_iconst (pc := 108) (v := 0) dX9_panel_108 (by decide) ?_
              refine v_iret (pc := 109) hR dX9_panel_109 ⟨by decide, by decide⟩ ?_
              exact ⟨_, hG, by simp [hk], by simp [hk]⟩
            · rw [b2i_0] at c67
              rw [hn] at c67
              have hk : kPan a b p0 p1 p2 p3 = 1 := by rw [kPan, if_neg c67]
              refine v_iconst (pc := 70) (v := 1) dX9_panel_70 (by decide) ?_
              refine v_goto (pc := 71) (tgt := 102) dX9_panel_71 (by decide) ?_
              refine vm_callV1 (pc := 102) (0, 0) hG dX9_panel_102 cw_X9_111 im_yX9_goes se_yX9_goes (c_X9_goes D m ad _ _ ) rfl (Nat.le_of_ble_eq_true rfl) ⟨Nat.le_of_ble_eq_true rfl, Nat.le_of_ble_eq_true rfl⟩ ⟨by decide, by decide⟩ rfl (fun v s1 G hp hG => ?_)
              obtain ⟨hv1, hs1⟩ := hp
              subst hv1
              subst s1
              refine v_if_ne (pc := 105) (tgt := 110) dX9_panel_105 (by decide) (fun c105 => absurd c105 (by decide)) (fun c105 => ?_)
              refine v_iconst (pc := 108) (v := 0) dX9_panel_108 (by decide) ?_
              refine v_iret (pc := 109) hR dX9_panel_109 ⟨by decide, by decide⟩ ?_
              exact ⟨_, hG, by simp [hk], by simp [hk]⟩
          · refine v_iconst (pc := 54) (v := 1) dX9_panel_54 (by decide) ?_
            refine v_goto (pc := 55) (tgt := 59) dX9_panel_55 (by decide) ?_
            refine v_istore (pc := 59) dX9_panel_59 rfl (by decide) ?_
            refine v_aload_n (pc := 61) dX9_panel_61 rfl rfl ?_
            refine v_aload_n (pc := 62) dX9_panel_62 rfl rfl ?_
            refine v_iload_n (pc := 63) dX9_panel_63 rfl rfl ?_
            refine vm_callV1 (pc := 64) (0, 0) hG dX9_panel_64 cw_X9_115 im_yX9_isLot se_yX9_isLot (c_X9_isLot D m ad _ _ ) rfl (Nat.le_of_ble_eq_true rfl) ⟨Nat.le_of_ble_eq_true rfl, Nat.le_of_ble_eq_true rfl⟩ ⟨by decide, by decide⟩ rfl (fun v s1 G hp hG => ?_)
            obtain ⟨hv1, hs1⟩ := hp
            subst hv1
            subst s1
            refine v_if_ne (pc := 67) (tgt := 74) dX9_panel_67 (by decide) (fun c67 => ?_) (fun c67 => ?_)
            · rw [b2i_0, Decidable.not_not] at c67
              rw [hn] at c67
              refine v_iload (pc := 74) dX9_panel_74 rfl ?_
              refine v_if_eq (pc := 76) (tgt := 84) dX9_panel_76 (by decide) (fun c76 => ?_) (fun c76 => absurd c76 (by decide))
              have hk : kPan a b p0 p1 p2 p3 = 2 := by rw [kPan, if_pos c67, if_neg (by first | exact hx | exact fun h => h.2 ⟨c42, c51⟩)]
              refine v_iconst (pc := 84) (v := 2) dX9_panel_84 (by decide) ?_
              refine v_goto (pc := 85) (tgt := 102) dX9_panel_85 (by decide) ?_
              refine vm_callV1 (pc := 102) (0, 0) hG dX9_panel_102 cw_X9_111 im_yX9_goes se_yX9_goes (c_X9_goes D m ad _ _ ) rfl (Nat.le_of_ble_eq_true rfl) ⟨Nat.le_of_ble_eq_true rfl, Nat.le_of_ble_eq_true rfl⟩ ⟨by decide, by decide⟩ rfl (fun v s1 G hp hG => ?_)
              obtain ⟨hv1, hs1⟩ := hp
              subst hv1
              subst s1
              refine v_if_ne (pc := 105) (tgt := 110) dX9_panel_105 (by decide) (fun c105 => absurd c105 (by decide)) (fun c105 => ?_)
              refine v_iconst (pc := 108) (v := 0) dX9_panel_108 (by decide) ?_
              refine v_iret (pc := 109) hR dX9_panel_109 ⟨by decide, by decide⟩ ?_
              exact ⟨_, hG, by simp [hk], by simp [hk]⟩
            · rw [b2i_0] at c67
              rw [hn] at c67
              have hk : kPan a b p0 p1 p2 p3 = 1 := by rw [kPan, if_neg c67]
              refine v_iconst (pc := 70) (v := 1) dX9_panel_70 (by decide) ?_
              refine v_goto (pc := 71) (tgt := 102) dX9_panel_71 (by decide) ?_
              refine vm_callV1 (pc := 102) (0, 0) hG dX9_panel_102 cw_X9_111 im_yX9_goes se_yX9_goes (c_X9_goes D m ad _ _ ) rfl (Nat.le_of_ble_eq_true rfl) ⟨Nat.le_of_ble_eq_true rfl, Nat.le_of_ble_eq_true rfl⟩ ⟨by decide, by decide⟩ rfl (fun v s1 G hp hG => ?_)
              obtain ⟨hv1, hs1⟩ := hp
              subst hv1
              subst s1
              refine v_if_ne (pc := 105) (tgt := 110) dX9_panel_105 (by decide) (fun c105 => absurd c105 (by decide)) (fun c105 => ?_)
              refine v_iconst (pc := 108) (v := 0) dX9_panel_108 (by decide) ?_
              refine v_iret (pc := 109) hR dX9_panel_109 ⟨by decide, by decide⟩ ?_
              exact ⟨_, hG, by simp [hk], by simp [hk]⟩
      · rw [b2i_0, Decidable.not_not] at c29
        refine v_iconst (pc := 32) (v := 1) dX9_panel_32 (by decide) ?_
        refine v_goto (pc := 33) (tgt := 37) dX9_panel_33 (by decide) ?_
        refine v_istore (pc := 37) dX9_panel_37 rfl (by decide) ?_
        refine v_iload (pc := 39) dX9_panel_39 rfl ?_
        refine v_iconst (pc := 41) (v := 2) dX9_panel_41 (by decide) ?_
        refine v_icmp_ne (pc := 42) (tgt := 58) dX9_panel_42 (by decide) (fun c42 => ?_) (fun c42 => ?_)
        · refine v_iconst (pc := 58) (v := 0) dX9_panel_58 (by decide) ?_
          refine v_istore (pc := 59) dX9_panel_59 rfl (by decide) ?_
          refine v_aload_n (pc := 61) dX9_panel_61 rfl rfl ?_
          refine v_aload_n (pc := 62) dX9_panel_62 rfl rfl ?_
          refine v_iload_n (pc := 63) dX9_panel_63 rfl rfl ?_
          refine vm_callV1 (pc := 64) (0, 0) hG dX9_panel_64 cw_X9_115 im_yX9_isLot se_yX9_isLot (c_X9_isLot D m ad _ _ ) rfl (Nat.le_of_ble_eq_true rfl) ⟨Nat.le_of_ble_eq_true rfl, Nat.le_of_ble_eq_true rfl⟩ ⟨by decide, by decide⟩ rfl (fun v s1 G hp hG => ?_)
          obtain ⟨hv1, hs1⟩ := hp
          subst hv1
          subst s1
          refine v_if_ne (pc := 67) (tgt := 74) dX9_panel_67 (by decide) (fun c67 => ?_) (fun c67 => ?_)
          · rw [b2i_0, Decidable.not_not] at c67
            rw [hn] at c67
            refine v_iload (pc := 74) dX9_panel_74 rfl ?_
            refine v_if_eq (pc := 76) (tgt := 84) dX9_panel_76 (by decide) (fun c76 => absurd c76 (by decide)) (fun c76 => ?_)
            refine v_iload (pc := 79) dX9_panel_79 rfl ?_
            refine v_if_eq (pc := 81) (tgt := 88) dX9_panel_81 (by decide) (fun c81 => ?_) (fun c81 => absurd c81 (by decide))
            refine v_aload_n (pc := 88) dX9_panel_88 rfl rfl ?_
            refine vm_getI (pc := 89) (k := 4) hG dX9_panel_89 fl_X9_107 rfl (by decide) (x := nI b) hb ?_
            refine v_bipush (pc := 92) (v := 12) dX9_panel_92 (by decide) ?_
            refine v_icmp_ne (pc := 94) (tgt := 101) dX9_panel_94 (by decide) (fun c94 => ?_) (fun c94 => ?_)
            · have h6 : b ≠ 12 := fun e => c94 (by rw [e]; rfl)
              have hk : kPan a b p0 p1 p2 p3 = 0 := by rw [kPan, if_pos c67, if_pos (by first | exact ⟨⟨c8, c19, c29⟩, fun z => c42 z.1⟩ | exact ⟨⟨c8, c19, c29⟩, fun z => z.2 c51⟩), if_neg h6]
              refine v_iconst (pc := 101) (v := 0) dX9_panel_101 (by decide) ?_
              refine vm_callV1 (pc := 102) (0, 0) hG dX9_panel_102 cw_X9_111 im_yX9_goes se_yX9_goes (c_X9_goes D m ad _ _ ) rfl (Nat.le_of_ble_eq_true rfl) ⟨Nat.le_of_ble_eq_true rfl, Nat.le_of_ble_eq_true rfl⟩ ⟨by decide, by decide⟩ rfl (fun v s1 G hp hG => ?_)
              obtain ⟨hv1, hs1⟩ := hp
              subst hv1
              subst s1
              refine v_if_ne (pc := 105) (tgt := 110) dX9_panel_105 (by decide) (fun c105 => ?_) (fun c105 => absurd c105 (by decide))
              refine v_aload_n (pc := 110) dX9_panel_110 rfl rfl ?_
              refine vm_getA (pc := 111) (k := 5) hG dX9_panel_111 fl_X9_20 (by decide) ?_
              refine v_aload_n (pc := 114) dX9_panel_114 rfl rfl ?_
              refine vm_getI (pc := 115) (k := 4) hG dX9_panel_115 fl_X9_107 rfl (by decide) (x := nI b) hb ?_
              refine v_iload_n (pc := 118) dX9_panel_118 rfl rfl ?_
              refine vm_iast (pc := 119) (k := 5) (j := b) hG dX9_panel_119 rfl rfl (by have h0 : ml 5 = 12 := rfl; omega) (fun G hG => ?_)
              refine v_aload_n (pc := 120) dX9_panel_120 rfl rfl ?_
              refine vm_getA (pc := 121) (k := 6) hG dX9_panel_121 fl_X9_23 (by decide) ?_
              refine v_aload_n (pc := 124) dX9_panel_124 rfl rfl ?_
              refine vm_getI (pc := 125) (k := 4) hG dX9_panel_125 fl_X9_107 rfl (by decide) (x := nI b) hb ?_
              refine v_iload_n (pc := 128) dX9_panel_128 rfl rfl ?_
              refine vm_iast (pc := 129) (k := 6) (j := b) hG dX9_panel_129 rfl rfl (by have h0 : ml 6 = 12 := rfl; omega) (fun G hG => ?_)
              refine v_aload_n (pc := 130) dX9_panel_130 rfl rfl ?_
              refine vm_getA (pc := 131) (k := 7) hG dX9_panel_131 fl_X9_26 (by decide) ?_
              refine v_aload_n (pc := 134) dX9_panel_134 rfl rfl ?_
              refine vm_getI (pc := 135) (k := 4) hG dX9_panel_135 fl_X9_107 rfl (by decide) (x := nI b) hb ?_
              refine v_iload_n (pc := 138) dX9_panel_138 rfl rfl ?_
              refine vm_iast (pc := 139) (k := 7) (j := b) hG dX9_panel_139 rfl rfl (by have h0 : ml 7 = 12 := rfl; omega) (fun G hG => ?_)
              refine v_aload_n (pc := 140) dX9_panel_140 rfl rfl ?_
              refine vm_getA (pc := 141) (k := 8) hG dX9_panel_141 fl_X9_29 (by decide) ?_
              refine v_aload_n (pc := 144) dX9_panel_144 rfl rfl ?_
              refine vm_getI (pc := 145) (k := 4) hG dX9_panel_145 fl_X9_107 rfl (by decide) (x := nI b) hb ?_
              refine v_iload (pc := 148) dX9_panel_148 rfl ?_
              refine vm_iast (pc := 150) (k := 8) (j := b) hG dX9_panel_150 rfl rfl (by have h0 : ml 8 = 12 := rfl; omega) (fun G hG => ?_)
              refine v_aload_n (pc := 151) dX9_panel_151 rfl rfl ?_
              refine v_dup (pc := 152) dX9_panel_152 rfl ?_
              refine vm_getI (pc := 153) (k := 4) hG dX9_panel_153 fl_X9_107 rfl (by decide) (x := nI b) hb ?_
              refine v_iconst (pc := 156) (v := 1) dX9_panel_156 (by decide) ?_
              refine v_iadd (pc := 157) dX9_panel_157 ?_
              refine vm_putI (pc := 158) (k := 4) hG dX9_panel_158 fw_X9_107 rfl (by decide) (fun G hG => ?_)
              refine v_aload_n (pc := 161) dX9_panel_161 rfl rfl ?_
              refine vm_getI (pc := 162) (k := 4) hG dX9_panel_162 fl_X9_107 rfl (by decide) (x := nI (b + 1)) (by simp [sI, u2, nI_1]) ?_
              refine v_iconst (pc := 165) (v := 1) dX9_panel_165 (by decide) ?_
              refine v_isub (pc := 166) dX9_panel_166 ?_
              refine v_iret (pc := 167) hR dX9_panel_167 ⟨by decide, by decide⟩ ?_
              exact ⟨_, hG, by rw [if_pos hk, nI_pred], by rw [if_pos hk, gPan, nI_1]⟩
            · have h6 : b = 12 := (nI_eq (by omega) (by decide)).mp (c94.trans rfl)
              have hk : kPan a b p0 p1 p2 p3 = 3 := by rw [kPan, if_pos c67, if_pos (by first | exact ⟨⟨c8, c19, c29⟩, fun z => c42 z.1⟩ | exact ⟨⟨c8, c19, c29⟩, fun z => z.2 c51⟩), if_pos h6]
              refine v_iconst (pc := 97) (v := 3) dX9_panel_97 (by decide) ?_
              refine v_goto (pc := 98) (tgt := 102) dX9_panel_98 (by decide) ?_
              refine vm_callV1 (pc := 102) (0, 0) hG dX9_panel_102 cw_X9_111 im_yX9_goes se_yX9_goes (c_X9_goes D m ad _ _ ) rfl (Nat.le_of_ble_eq_true rfl) ⟨Nat.le_of_ble_eq_true rfl, Nat.le_of_ble_eq_true rfl⟩ ⟨by decide, by decide⟩ rfl (fun v s1 G hp hG => ?_)
              obtain ⟨hv1, hs1⟩ := hp
              subst hv1
              subst s1
              refine v_if_ne (pc := 105) (tgt := 110) dX9_panel_105 (by decide) (fun c105 => absurd c105 (by decide)) (fun c105 => ?_)
              refine v_iconst (pc := 108) (v := 0) dX9_panel_108 (by decide) ?_
              refine v_iret (pc := 109) hR dX9_panel_109 ⟨by decide, by decide⟩ ?_
              exact ⟨_, hG, by simp [hk], by simp [hk]⟩
          · rw [b2i_0] at c67
            rw [hn] at c67
            have hk : kPan a b p0 p1 p2 p3 = 1 := by rw [kPan, if_neg c67]
            refine v_iconst (pc := 70) (v := 1) dX9_panel_70 (by decide) ?_
            refine v_goto (pc := 71) (tgt := 102) dX9_panel_71 (by decide) ?_
            refine vm_callV1 (pc := 102) (0, 0) hG dX9_panel_102 cw_X9_111 im_yX9_goes se_yX9_goes (c_X9_goes D m ad _ _ ) rfl (Nat.le_of_ble_eq_true rfl) ⟨Nat.le_of_ble_eq_true rfl, Nat.le_of_ble_eq_true rfl⟩ ⟨by decide, by decide⟩ rfl (fun v s1 G hp hG => ?_)
            obtain ⟨hv1, hs1⟩ := hp
            subst hv1
            subst s1
            refine v_if_ne (pc := 105) (tgt := 110) dX9_panel_105 (by decide) (fun c105 => absurd c105 (by decide)) (fun c105 => ?_)
            refine v_iconst (pc := 108) (v := 0) dX9_panel_108 (by decide) ?_
            refine v_iret (pc := 109) hR dX9_panel_109 ⟨by decide, by decide⟩ ?_
            exact ⟨_, hG, by simp [hk], by simp [hk]⟩
        · refine v_iload_n (pc := 45) dX9_panel_45 rfl rfl ?_
          refine v_iload_n (pc := 46) dX9_panel_46 rfl rfl ?_
          refine v_iadd (pc := 47) dX9_panel_47 ?_
          refine v_sipush (pc := 48) (v := 150) dX9_panel_48 (by decide) ?_
          refine v_icmp_le (pc := 51) (tgt := 58) dX9_panel_51 (by decide) (fun c51 => ?_) (fun c51 => ?_)
          · refine v_iconst (pc := 58) (v := 0) dX9_panel_58 (by decide) ?_
            refine v_istore (pc := 59) dX9_panel_59 rfl (by decide) ?_
            refine v_aload_n (pc := 61) dX9_panel_61 rfl rfl ?_
            refine v_aload_n (pc := 62) dX9_panel_62 rfl rfl ?_
            refine v_iload_n (pc := 63) dX9_panel_63 rfl rfl ?_
            refine vm_callV1 (pc := 64) (0, 0) hG dX9_panel_64 cw_X9_115 im_yX9_isLot se_yX9_isLot (c_X9_isLot D m ad _ _ ) rfl (Nat.le_of_ble_eq_true rfl) ⟨Nat.le_of_ble_eq_true rfl, Nat.le_of_ble_eq_true rfl⟩ ⟨by decide, by decide⟩ rfl (fun v s1 G hp hG => ?_)
            obtain ⟨hv1, hs1⟩ := hp
            subst hv1
            subst s1
            refine v_if_ne (pc := 67) (tgt := 74) dX9_panel_67 (by decide) (fun c67 => ?_) (fun c67 => ?_)
            · rw [b2i_0, Decidable.not_not] at c67
              rw [hn] at c67
              refine v_iload (pc := 74) dX9_panel_74 rfl ?_
              refine v_if_eq (pc := 76) (tgt := 84) dX9_panel_76 (by decide) (fun c76 => absurd c76 (by decide)) (fun c76 => ?_)
              refine v_iload (pc := 79) dX9_panel_79 rfl ?_
              refine v_if_eq (pc := 81) (tgt := 88) dX9_panel_81 (by decide) (fun c81 => ?_) (fun c81 => absurd c81 (by decide))
              refine v_aload_n (pc := 88) dX9_panel_88 rfl rfl ?_
              refine vm_getI (pc := 89) (k := 4) hG dX9_panel_89 fl_X9_107 rfl (by decide) (x := nI b) hb ?_
              refine v_bipush (pc := 92) (v := 12) dX9_panel_92 (by decide) ?_
              refine v_icmp_ne (pc := 94) (tgt := 101) dX9_panel_94 (by decide) (fun c94 => ?_) (fun c94 => ?_)
              · have h6 : b ≠ 12 := fun e => c94 (by rw [e]; rfl)
                have hk : kPan a b p0 p1 p2 p3 = 0 := by rw [kPan, if_pos c67, if_pos (by first | exact ⟨⟨c8, c19, c29⟩, fun z => c42 z.1⟩ | exact ⟨⟨c8, c19, c29⟩, fun z => z.2 c51⟩), if_neg h6]
                refine v_iconst (pc := 101) (v := 0) dX9_panel_101 (by decide) ?_
                refine vm_callV1 (pc := 102) (0, 0) hG dX9_panel_102 cw_X9_111 im_yX9_goes se_yX9_goes (c_X9_goes D m ad _ _ ) rfl (Nat.le_of_ble_eq_true rfl) ⟨Nat.le_of_ble_eq_true rfl, Nat.le_of_ble_eq_true rfl⟩ ⟨by decide, by decide⟩ rfl (fun v s1 G hp hG => ?_)
                obtain ⟨hv1, hs1⟩ := hp
                subst hv1
                subst s1
                refine v_if_ne (pc := 105) (tgt := 110) dX9_panel_105 (by decide) (fun c105 => ?_) (fun c105 => absurd c105 (by decide))
                refine v_aload_n (pc := 110) dX9_panel_110 rfl rfl ?_
                refine vm_getA (pc := 111) (k := 5) hG dX9_panel_111 fl_X9_20 (by decide) ?_
                refine v_aload_n (pc := 114) dX9_panel_114 rfl rfl ?_
                refine vm_getI (pc := 115) (k := 4) hG dX9_panel_115 fl_X9_107 rfl (by decide) (x := nI b) hb ?_
                refine v_iload_n (pc := 118) dX9_panel_118 rfl rfl ?_
                refine vm_iast (pc := 119) (k := 5) (j := b) hG dX9_panel_119 rfl rfl (by have h0 : ml 5 = 12 := rfl; omega) (fun G hG => ?_)
                refine v_aload_n (pc := 120) dX9_panel_120 rfl rfl ?_
                refine vm_getA (pc := 121) (k := 6) hG dX9_panel_121 fl_X9_23 (by decide) ?_
                refine v_aload_n (pc := 124) dX9_panel_124 rfl rfl ?_
                refine vm_getI (pc := 125) (k := 4) hG dX9_panel_125 fl_X9_107 rfl (by decide) (x := nI b) hb ?_
                refine v_iload_n (pc := 128) dX9_panel_128 rfl rfl ?_
                refine vm_iast (pc := 129) (k := 6) (j := b) hG dX9_panel_129 rfl rfl (by have h0 : ml 6 = 12 := rfl; omega) (fun G hG => ?_)
                refine v_aload_n (pc := 130) dX9_panel_130 rfl rfl ?_
                refine vm_getA (pc := 131) (k := 7) hG dX9_panel_131 fl_X9_26 (by decide) ?_
                refine v_aload_n (pc := 134) dX9_panel_134 rfl rfl ?_
                refine vm_getI (pc := 135) (k := 4) hG dX9_panel_135 fl_X9_107 rfl (by decide) (x := nI b) hb ?_
                refine v_iload_n (pc := 138) dX9_panel_138 rfl rfl ?_
                refine vm_iast (pc := 139) (k := 7) (j := b) hG dX9_panel_139 rfl rfl (by have h0 : ml 7 = 12 := rfl; omega) (fun G hG => ?_)
                refine v_aload_n (pc := 140) dX9_panel_140 rfl rfl ?_
                refine vm_getA (pc := 141) (k := 8) hG dX9_panel_141 fl_X9_29 (by decide) ?_
                refine v_aload_n (pc := 144) dX9_panel_144 rfl rfl ?_
                refine vm_getI (pc := 145) (k := 4) hG dX9_panel_145 fl_X9_107 rfl (by decide) (x := nI b) hb ?_
                refine v_iload (pc := 148) dX9_panel_148 rfl ?_
                refine vm_iast (pc := 150) (k := 8) (j := b) hG dX9_panel_150 rfl rfl (by have h0 : ml 8 = 12 := rfl; omega) (fun G hG => ?_)
                refine v_aload_n (pc := 151) dX9_panel_151 rfl rfl ?_
                refine v_dup (pc := 152) dX9_panel_152 rfl ?_
                refine vm_getI (pc := 153) (k := 4) hG dX9_panel_153 fl_X9_107 rfl (by decide) (x := nI b) hb ?_
                refine v_iconst (pc := 156) (v := 1) dX9_panel_156 (by decide) ?_
                refine v_iadd (pc := 157) dX9_panel_157 ?_
                refine vm_putI (pc := 158) (k := 4) hG dX9_panel_158 fw_X9_107 rfl (by decide) (fun G hG => ?_)
                refine v_aload_n (pc := 161) dX9_panel_161 rfl rfl ?_
                refine vm_getI (pc := 162) (k := 4) hG dX9_panel_162 fl_X9_107 rfl (by decide) (x := nI (b + 1)) (by simp [sI, u2, nI_1]) ?_
                refine v_iconst (pc := 165) (v := 1) dX9_panel_165 (by decide) ?_
                refine v_isub (pc := 166) dX9_panel_166 ?_
                refine v_iret (pc := 167) hR dX9_panel_167 ⟨by decide, by decide⟩ ?_
                exact ⟨_, hG, by rw [if_pos hk, nI_pred], by rw [if_pos hk, gPan, nI_1]⟩
              · have h6 : b = 12 := (nI_eq (by omega) (by decide)).mp (c94.trans rfl)
                have hk : kPan a b p0 p1 p2 p3 = 3 := by rw [kPan, if_pos c67, if_pos (by first | exact ⟨⟨c8, c19, c29⟩, fun z => c42 z.1⟩ | exact ⟨⟨c8, c19, c29⟩, fun z => z.2 c51⟩), if_pos h6]
                refine v_iconst (pc := 97) (v := 3) dX9_panel_97 (by decide) ?_
                refine v_goto (pc := 98) (tgt := 102) dX9_panel_98 (by decide) ?_
                refine vm_callV1 (pc := 102) (0, 0) hG dX9_panel_102 cw_X9_111 im_yX9_goes se_yX9_goes (c_X9_goes D m ad _ _ ) rfl (Nat.le_of_ble_eq_true rfl) ⟨Nat.le_of_ble_eq_true rfl, Nat.le_of_ble_eq_true rfl⟩ ⟨by decide, by decide⟩ rfl (fun v s1 G hp hG => ?_)
                obtain ⟨hv1, hs1⟩ := hp
                subst hv1
                subst s1
                refine v_if_ne (pc := 105) (tgt := 110) dX9_panel_105 (by decide) (fun c105 => absurd c105 (by decide)) (fun c105 => ?_)
                refine v_iconst (pc := 108) (v := 0) dX9_panel_108 (by decide) ?_
                refine v_iret (pc := 109) hR dX9_panel_109 ⟨by decide, by decide⟩ ?_
                exact ⟨_, hG, by simp [hk], by simp [hk]⟩
            · rw [b2i_0] at c67
              rw [hn] at c67
              have hk : kPan a b p0 p1 p2 p3 = 1 := by rw [kPan, if_neg c67]
              refine v_iconst (pc := 70) (v := 1) dX9_panel_70 (by decide) ?_
              refine v_goto (pc := 71) (tgt := 102) dX9_panel_71 (by decide) ?_
              refine vm_callV1 (pc := 102) (0, 0) hG dX9_panel_102 cw_X9_111 im_yX9_goes se_yX9_goes (c_X9_goes D m ad _ _ ) rfl (Nat.le_of_ble_eq_true rfl) ⟨Nat.le_of_ble_eq_true rfl, Nat.le_of_ble_eq_true rfl⟩ ⟨by decide, by decide⟩ rfl (fun v s1 G hp hG => ?_)
              obtain ⟨hv1, hs1⟩ := hp
              subst hv1
              subst s1
              refine v_if_ne (pc := 105) (tgt := 110) dX9_panel_105 (by decide) (fun c105 => absurd c105 (by decide)) (fun c105 => ?_)
              refine v_iconst (pc := 108) (v := 0) dX9_panel_108 (by decide) ?_
              refine v_iret (pc := 109) hR dX9_panel_109 ⟨by decide, by decide⟩ ?_
              exact ⟨_, hG, by simp [hk], by simp [hk]⟩
          · refine v_iconst (pc := 54) (v := 1) dX9_panel_54 (by decide) ?_
            refine v_goto (pc := 55) (tgt := 59) dX9_panel_55 (by decide) ?_
            refine v_istore (pc := 59) dX9_panel_59 rfl (by decide) ?_
            refine v_aload_n (pc := 61) dX9_panel_61 rfl rfl ?_
            refine v_aload_n (pc := 62) dX9_panel_62 rfl rfl ?_
            refine v_iload_n (pc := 63) dX9_panel_63 rfl rfl ?_
            refine vm_callV1 (pc := 64) (0, 0) hG dX9_panel_64 cw_X9_115 im_yX9_isLot se_yX9_isLot (c_X9_isLot D m ad _ _ ) rfl (Nat.le_of_ble_eq_true rfl) ⟨Nat.le_of_ble_eq_true rfl, Nat.le_of_ble_eq_true rfl⟩ ⟨by decide, by decide⟩ rfl (fun v s1 G hp hG => ?_)
            obtain ⟨hv1, hs1⟩ := hp
            subst hv1
            subst s1
            refine v_if_ne (pc := 67) (tgt := 74) dX9_panel_67 (by decide) (fun c67 => ?_) (fun c67 => ?_)
            · rw [b2i_0, Decidable.not_not] at c67
              rw [hn] at c67
              refine v_iload (pc := 74) dX9_panel_74 rfl ?_
              refine v_if_eq (pc := 76) (tgt := 84) dX9_panel_76 (by decide) (fun c76 => absurd c76 (by decide)) (fun c76 => ?_)
              refine v_iload (pc := 79) dX9_panel_79 rfl ?_
              refine v_if_eq (pc := 81) (tgt := 88) dX9_panel_81 (by decide) (fun c81 => absurd c81 (by decide)) (fun c81 => ?_)
              have hk : kPan a b p0 p1 p2 p3 = 2 := by rw [kPan, if_pos c67, if_neg (by first | exact hx | exact fun h => h.2 ⟨c42, c51⟩)]
              refine v_iconst (pc := 84) (v := 2) dX9_panel_84 (by decide) ?_
              refine v_goto (pc := 85) (tgt := 102) dX9_panel_85 (by decide) ?_
              refine vm_callV1 (pc := 102) (0, 0) hG dX9_panel_102 cw_X9_111 im_yX9_goes se_yX9_goes (c_X9_goes D m ad _ _ ) rfl (Nat.le_of_ble_eq_true rfl) ⟨Nat.le_of_ble_eq_true rfl, Nat.le_of_ble_eq_true rfl⟩ ⟨by decide, by decide⟩ rfl (fun v s1 G hp hG => ?_)
              obtain ⟨hv1, hs1⟩ := hp
              subst hv1
              subst s1
              refine v_if_ne (pc := 105) (tgt := 110) dX9_panel_105 (by decide) (fun c105 => absurd c105 (by decide)) (fun c105 => ?_)
              refine v_iconst (pc := 108) (v := 0) dX9_panel_108 (by decide) ?_
              refine v_iret (pc := 109) hR dX9_panel_109 ⟨by decide, by decide⟩ ?_
              exact ⟨_, hG, by simp [hk], by simp [hk]⟩
            · rw [b2i_0] at c67
              rw [hn] at c67
              have hk : kPan a b p0 p1 p2 p3 = 1 := by rw [kPan, if_neg c67]
              refine v_iconst (pc := 70) (v := 1) dX9_panel_70 (by decide) ?_
              refine v_goto (pc := 71) (tgt := 102) dX9_panel_71 (by decide) ?_
              refine vm_callV1 (pc := 102) (0, 0) hG dX9_panel_102 cw_X9_111 im_yX9_goes se_yX9_goes (c_X9_goes D m ad _ _ ) rfl (Nat.le_of_ble_eq_true rfl) ⟨Nat.le_of_ble_eq_true rfl, Nat.le_of_ble_eq_true rfl⟩ ⟨by decide, by decide⟩ rfl (fun v s1 G hp hG => ?_)
              obtain ⟨hv1, hs1⟩ := hp
              subst hv1
              subst s1
              refine v_if_ne (pc := 105) (tgt := 110) dX9_panel_105 (by decide) (fun c105 => absurd c105 (by decide)) (fun c105 => ?_)
              refine v_iconst (pc := 108) (v := 0) dX9_panel_108 (by decide) ?_
              refine v_iret (pc := 109) hR dX9_panel_109 ⟨by decide, by decide⟩ ?_
              exact ⟨_, hG, by simp [hk], by simp [hk]⟩
set_option maxRecDepth 100000 in
set_option maxHeartbeats 4000000 in
theorem c_X9_strengthOf (D : DT) (m : Nat) (ad : AdT) (s : SG) (j np : Nat)  (h : PV s np) (hj : j < np) (hnp : np ≤ 12) : MM yX9_strengthOf cX9_strengthOf 6 (Option.some Jvm.ClassFile.FieldType.long) rm_X9_strengthOf D [.ref m, .int (nI j)] m ad s (fun v s' => v = some (.long (strS s j)) ∧ s' = s) := by
  intro G hG
  refine MC_of (by decide +kernel) (Nat.le_of_ble_eq_true rfl) (fun K sz hR => ?_)
  show V cX9_strengthOf _ 6 _ D K 0 [some (.ref m), some (.int (nI j)), none, none, none, none] [] G (0, 0)
  obtain ⟨l, a, hl, ha, h1, h2⟩ := h j hj
  refine v_aload_n (pc := 0) dX9_strengthOf_0 rfl rfl ?_
  refine vm_getA (pc := 1) (k := 5) hG dX9_strengthOf_1 fl_X9_20 (by decide) ?_
  refine v_iload_n (pc := 4) dX9_strengthOf_4 rfl rfl ?_
  refine vm_iald (pc := 5) (k := 5) (j := j) hG dX9_strengthOf_5 rfl rfl (by have h0 : ml 5 = 12 := rfl; omega) h1 ?_
  refine v_istore_n (pc := 6) dX9_strengthOf_6 rfl rfl (by decide) ?_
  refine v_sipush (pc := 7) (v := 1000) dX9_strengthOf_7 (by decide) ?_
  refine v_aload_n (pc := 10) dX9_strengthOf_10 rfl rfl ?_
  refine vm_getA (pc := 11) (k := 2) hG dX9_strengthOf_11 fl_X9_13 (by decide) ?_
  refine v_iload_n (pc := 14) dX9_strengthOf_14 rfl rfl ?_
  refine vm_iald (pc := 15) (k := 2) (j := l) hG dX9_strengthOf_15 rfl rfl (by have h0 : ml 2 = 6 := rfl; omega) rfl ?_
  refine v_isub (pc := 16) dX9_strengthOf_16 ?_
  refine v_bipush (pc := 17) (v := 100) dX9_strengthOf_17 (by decide) ?_
  refine v_icmp_ge (pc := 19) (tgt := 27) dX9_strengthOf_19 (by decide) (fun c19 => ?_) (fun c19 => ?_)
  · have h9 : leftS s l = 1000 - s.1 2 l := by rw [leftS, if_pos c19]
    refine v_sipush (pc := 27) (v := 1000) dX9_strengthOf_27 (by decide) ?_
    refine v_aload_n (pc := 30) dX9_strengthOf_30 rfl rfl ?_
    refine vm_getA (pc := 31) (k := 2) hG dX9_strengthOf_31 fl_X9_13 (by decide) ?_
    refine v_iload_n (pc := 34) dX9_strengthOf_34 rfl rfl ?_
    refine vm_iald (pc := 35) (k := 2) (j := l) hG dX9_strengthOf_35 rfl rfl (by have h0 : ml 2 = 6 := rfl; omega) rfl ?_
    refine v_isub (pc := 36) dX9_strengthOf_36 ?_
    refine v_istore_n (pc := 37) dX9_strengthOf_37 rfl rfl (by decide) ?_
    refine v_aload_n (pc := 38) dX9_strengthOf_38 rfl rfl ?_
    refine vm_getA (pc := 39) (k := 1) hG dX9_strengthOf_39 fl_X9_7 (by decide) ?_
    refine v_iconst (pc := 42) (v := 3) dX9_strengthOf_42 (by decide) ?_
    refine v_iload_n (pc := 43) dX9_strengthOf_43 rfl rfl ?_
    refine v_imul (pc := 44) dX9_strengthOf_44 ?_
    refine v_aload_n (pc := 45) dX9_strengthOf_45 rfl rfl ?_
    refine vm_getA (pc := 46) (k := 8) hG dX9_strengthOf_46 fl_X9_29 (by decide) ?_
    refine v_iload_n (pc := 49) dX9_strengthOf_49 rfl rfl ?_
    refine vm_iald (pc := 50) (k := 8) (j := j) hG dX9_strengthOf_50 rfl rfl (by have h0 : ml 8 = 12 := rfl; omega) h2 ?_
    refine v_iadd (pc := 51) dX9_strengthOf_51 ?_
    refine vm_iald (pc := 52) (k := 1) (j := 3 * l + a) hG dX9_strengthOf_52 rfl (by rw [show (3 : Int32) = nI 3 from rfl, n_mul, nI_add]) (by have h0 : ml 1 = 18 := rfl; omega) rfl ?_
    refine v_i2l (pc := 53) dX9_strengthOf_53 ?_
    refine v_iload_n (pc := 54) dX9_strengthOf_54 rfl rfl ?_
    refine v_i2l (pc := 55) dX9_strengthOf_55 ?_
    refine v_lmul (pc := 56) dX9_strengthOf_56 ?_
    refine v_ldcL (pc := 57) dX9_strengthOf_57 k_X9_119 ?_
    refine v_ldiv (pc := 60) dX9_strengthOf_60 (by decide) ?_
    refine v_lstore (pc := 61) dX9_strengthOf_61 rfl (by decide) ?_
    refine v_lload (pc := 63) dX9_strengthOf_63 rfl ?_
    refine v_aload_n (pc := 65) dX9_strengthOf_65 rfl rfl ?_
    refine vm_getA (pc := 66) (k := 6) hG dX9_strengthOf_66 fl_X9_23 (by decide) ?_
    refine v_iload_n (pc := 69) dX9_strengthOf_69 rfl rfl ?_
    refine vm_iald (pc := 70) (k := 6) (j := j) hG dX9_strengthOf_70 rfl rfl (by have h0 : ml 6 = 12 := rfl; omega) rfl ?_
    refine v_i2l (pc := 71) dX9_strengthOf_71 ?_
    refine v_lmul (pc := 72) dX9_strengthOf_72 ?_
    refine v_lret (pc := 73) hR dX9_strengthOf_73 ⟨by decide, by decide⟩ ?_
    exact ⟨_, hG, by rw [strS, h1, h2, nat_nI (by omega), nat_nI (by omega), lotStr, h9], rfl⟩
  · have h9 : leftS s l = 100 := by rw [leftS, if_neg c19]
    refine v_bipush (pc := 22) (v := 100) dX9_strengthOf_22 (by decide) ?_
    refine v_goto (pc := 24) (tgt := 37) dX9_strengthOf_24 (by decide) ?_
    refine v_istore_n (pc := 37) dX9_strengthOf_37 rfl rfl (by decide) ?_
    refine v_aload_n (pc := 38) dX9_strengthOf_38 rfl rfl ?_
    refine vm_getA (pc := 39) (k := 1) hG dX9_strengthOf_39 fl_X9_7 (by decide) ?_
    refine v_iconst (pc := 42) (v := 3) dX9_strengthOf_42 (by decide) ?_
    refine v_iload_n (pc := 43) dX9_strengthOf_43 rfl rfl ?_
    refine v_imul (pc := 44) dX9_strengthOf_44 ?_
    refine v_aload_n (pc := 45) dX9_strengthOf_45 rfl rfl ?_
    refine vm_getA (pc := 46) (k := 8) hG dX9_strengthOf_46 fl_X9_29 (by decide) ?_
    refine v_iload_n (pc := 49) dX9_strengthOf_49 rfl rfl ?_
    refine vm_iald (pc := 50) (k := 8) (j := j) hG dX9_strengthOf_50 rfl rfl (by have h0 : ml 8 = 12 := rfl; omega) h2 ?_
    refine v_iadd (pc := 51) dX9_strengthOf_51 ?_
    refine vm_iald (pc := 52) (k := 1) (j := 3 * l + a) hG dX9_strengthOf_52 rfl (by rw [show (3 : Int32) = nI 3 from rfl, n_mul, nI_add]) (by have h0 : ml 1 = 18 := rfl; omega) rfl ?_
    refine v_i2l (pc := 53) dX9_strengthOf_53 ?_
    refine v_iload_n (pc := 54) dX9_strengthOf_54 rfl rfl ?_
    refine v_i2l (pc := 55) dX9_strengthOf_55 ?_
    refine v_lmul (pc := 56) dX9_strengthOf_56 ?_
    refine v_ldcL (pc := 57) dX9_strengthOf_57 k_X9_119 ?_
    refine v_ldiv (pc := 60) dX9_strengthOf_60 (by decide) ?_
    refine v_lstore (pc := 61) dX9_strengthOf_61 rfl (by decide) ?_
    refine v_lload (pc := 63) dX9_strengthOf_63 rfl ?_
    refine v_aload_n (pc := 65) dX9_strengthOf_65 rfl rfl ?_
    refine vm_getA (pc := 66) (k := 6) hG dX9_strengthOf_66 fl_X9_23 (by decide) ?_
    refine v_iload_n (pc := 69) dX9_strengthOf_69 rfl rfl ?_
    refine vm_iald (pc := 70) (k := 6) (j := j) hG dX9_strengthOf_70 rfl rfl (by have h0 : ml 6 = 12 := rfl; omega) rfl ?_
    refine v_i2l (pc := 71) dX9_strengthOf_71 ?_
    refine v_lmul (pc := 72) dX9_strengthOf_72 ?_
    refine v_lret (pc := 73) hR dX9_strengthOf_73 ⟨by decide, by decide⟩ ?_
    exact ⟨_, hG, by rw [strS, h1, h2, nat_nI (by omega), nat_nI (by omega), lotStr, h9], rfl⟩
def kPl (b : Nat) (p0 : Int32) : Int32 := if btw p0 0 (nI b - 1) then 0 else 1
set_option maxRecDepth 100000 in
set_option maxHeartbeats 4000000 in
theorem c_X9_strength (D : DT) (m : Nat) (ad : AdT) (s : SG) (b : Nat) (p0 : Int32) (h : PV s b) (hb : s.1 4 0 = nI b) (hb2 : b ≤ 12) : MM yX9_strength cX9_strength 2 (Option.some Jvm.ClassFile.FieldType.long) rm_X9_strength D [.ref m, .int p0] m ad s (fun v s' => v = some (.long (if kPl b p0 = 0 then strS s (nat p0) else 0)) ∧ s' = thr s (kPl b p0)) := by
  intro G hG
  refine MC_of (by decide +kernel) (Nat.le_of_ble_eq_true rfl) (fun K sz hR => ?_)
  show V cX9_strength _ 2 _ D K 0 [some (.ref m), some (.int p0)] [] G (0, 0)
  refine v_aload_n (pc := 0) dX9_strength_0 rfl rfl ?_
  refine v_aload_n (pc := 1) dX9_strength_1 rfl rfl ?_
  refine v_iload_n (pc := 2) dX9_strength_2 rfl rfl ?_
  refine vm_callV1 (pc := 3) (0, 0) hG dX9_strength_3 cw_X9_121 im_yX9_isPanel se_yX9_isPanel (c_X9_isPanel D m ad _ _ ) rfl (Nat.le_of_ble_eq_true rfl) ⟨Nat.le_of_ble_eq_true rfl, Nat.le_of_ble_eq_true rfl⟩ ⟨by decide, by decide⟩ rfl (fun v s1 G hp hG => ?_)
  obtain ⟨hv1, hs1⟩ := hp
  subst hv1
  subst s1
  refine v_if_eq (pc := 6) (tgt := 13) dX9_strength_6 (by decide) (fun c6 => ?_) (fun c6 => ?_)
  · rw [b2i_0] at c6
    rw [hb] at c6
    have hk : kPl b p0 = 1 := by rw [kPl, if_neg c6]
    refine v_iconst (pc := 13) (v := 1) dX9_strength_13 (by decide) ?_
    refine vm_callV1 (pc := 14) (0, 0) hG dX9_strength_14 cw_X9_111 im_yX9_goes se_yX9_goes (c_X9_goes D m ad _ _ ) rfl (Nat.le_of_ble_eq_true rfl) ⟨Nat.le_of_ble_eq_true rfl, Nat.le_of_ble_eq_true rfl⟩ ⟨by decide, by decide⟩ rfl (fun v s1 G hp hG => ?_)
    obtain ⟨hv1, hs1⟩ := hp
    subst hv1
    subst s1
    refine v_if_eq (pc := 17) (tgt := 28) dX9_strength_17 (by decide) (fun c17 => ?_) (fun c17 => absurd c17 (by decide))
    refine v_lconst (pc := 28) (v := 0) dX9_strength_28 (by decide) ?_
    refine v_lret (pc := 29) hR dX9_strength_29 ⟨by decide, by decide⟩ ?_
    first | exact ⟨_, hG, by rw [if_pos hk, nat_nI (by omega)]; rfl, by rw [hk]⟩ | exact ⟨_, hG, by simp [hk], by rw [hk]⟩
  · rw [b2i_0, Decidable.not_not] at c6
    rw [hb] at c6
    have hk : kPl b p0 = 0 := by rw [kPl, if_pos c6]
    obtain ⟨j, hj, rfl⟩ := (btw_ix (a := b) (by omega)).mp c6
    refine v_iconst (pc := 9) (v := 0) dX9_strength_9 (by decide) ?_
    refine v_goto (pc := 10) (tgt := 14) dX9_strength_10 (by decide) ?_
    refine vm_callV1 (pc := 14) (0, 0) hG dX9_strength_14 cw_X9_111 im_yX9_goes se_yX9_goes (c_X9_goes D m ad _ _ ) rfl (Nat.le_of_ble_eq_true rfl) ⟨Nat.le_of_ble_eq_true rfl, Nat.le_of_ble_eq_true rfl⟩ ⟨by decide, by decide⟩ rfl (fun v s1 G hp hG => ?_)
    obtain ⟨hv1, hs1⟩ := hp
    subst hv1
    subst s1
    refine v_if_eq (pc := 17) (tgt := 28) dX9_strength_17 (by decide) (fun c17 => absurd c17 (by decide)) (fun c17 => ?_)
    refine v_aload_n (pc := 20) dX9_strength_20 rfl rfl ?_
    refine v_iload_n (pc := 21) dX9_strength_21 rfl rfl ?_
    refine vm_callV1 (pc := 22) (0, 0) hG dX9_strength_22 cw_X9_124 im_yX9_strengthOf se_yX9_strengthOf (c_X9_strengthOf D m ad _ j b h hj hb2) rfl (Nat.le_of_ble_eq_true rfl) ⟨Nat.le_of_ble_eq_true rfl, Nat.le_of_ble_eq_true rfl⟩ ⟨by decide, by decide⟩ rfl (fun v s1 G hp hG => ?_)
    obtain ⟨hv1, hs1⟩ := hp
    subst hv1
    subst s1
    refine v_goto (pc := 25) (tgt := 29) dX9_strength_25 (by decide) ?_
    refine v_lret (pc := 29) hR dX9_strength_29 ⟨by decide, by decide⟩ ?_
    first | exact ⟨_, hG, by rw [if_pos hk, nat_nI (by omega)]; rfl, by rw [hk]⟩ | exact ⟨_, hG, by simp [hk], by rw [hk]⟩
set_option maxRecDepth 100000 in
set_option maxHeartbeats 4000000 in
theorem c_X9_across (D : DT) (m : Nat) (ad : AdT) (s : SG) (j : Nat)  (hj : j < 12) : MM yX9_across cX9_across 2 (Option.some Jvm.ClassFile.FieldType.int) rm_X9_across D [.ref m, .int (nI j)] m ad s (fun v s' => v = some (.int (acrS s j)) ∧ s' = s) := by
  intro G hG
  refine MC_of (by decide +kernel) (Nat.le_of_ble_eq_true rfl) (fun K sz hR => ?_)
  show V cX9_across _ 2 _ D K 0 [some (.ref m), some (.int (nI j))] [] G (0, 0)
  refine v_aload_n (pc := 0) dX9_across_0 rfl rfl ?_
  refine vm_getA (pc := 1) (k := 8) hG dX9_across_1 fl_X9_29 (by decide) ?_
  refine v_iload_n (pc := 4) dX9_across_4 rfl rfl ?_
  refine vm_iald (pc := 5) (k := 8) (j := j) hG dX9_across_5 rfl rfl (by have h0 : ml 8 = 12 := rfl; omega) rfl ?_
  refine v_if_ne (pc := 6) (tgt := 18) dX9_across_6 (by decide) (fun c6 => ?_) (fun c6 => ?_)
  · refine v_aload_n (pc := 18) dX9_across_18 rfl rfl ?_
    refine vm_getA (pc := 19) (k := 8) hG dX9_across_19 fl_X9_29 (by decide) ?_
    refine v_iload_n (pc := 22) dX9_across_22 rfl rfl ?_
    refine vm_iald (pc := 23) (k := 8) hG dX9_across_23 rfl rfl (by have h0 : ml 8 = 12 := rfl; omega) rfl ?_
    refine v_iconst (pc := 24) (v := 1) dX9_across_24 (by decide) ?_
    refine v_icmp_ne (pc := 25) (tgt := 37) dX9_across_25 (by decide) (fun c25 => ?_) (fun c25 => ?_)
    · refine v_aload_n (pc := 37) dX9_across_37 rfl rfl ?_
      refine vm_getA (pc := 38) (k := 6) hG dX9_across_38 fl_X9_23 (by decide) ?_
      refine v_iload_n (pc := 41) dX9_across_41 rfl rfl ?_
      refine vm_iald (pc := 42) (k := 6) hG dX9_across_42 rfl rfl (by have h0 : ml 6 = 12 := rfl; omega) rfl ?_
      refine v_aload_n (pc := 43) dX9_across_43 rfl rfl ?_
      refine vm_getA (pc := 44) (k := 7) hG dX9_across_44 fl_X9_26 (by decide) ?_
      refine v_iload_n (pc := 47) dX9_across_47 rfl rfl ?_
      refine vm_iald (pc := 48) (k := 7) hG dX9_across_48 rfl rfl (by have h0 : ml 7 = 12 := rfl; omega) rfl ?_
      refine v_iadd (pc := 49) dX9_across_49 ?_
      refine v_iret (pc := 50) hR dX9_across_50 ⟨by decide, by decide⟩ ?_
      exact ⟨_, hG, by simp [acrS, *], rfl⟩
    · refine v_aload_n (pc := 28) dX9_across_28 rfl rfl ?_
      refine vm_getA (pc := 29) (k := 7) hG dX9_across_29 fl_X9_26 (by decide) ?_
      refine v_iload_n (pc := 32) dX9_across_32 rfl rfl ?_
      refine vm_iald (pc := 33) (k := 7) hG dX9_across_33 rfl rfl (by have h0 : ml 7 = 12 := rfl; omega) rfl ?_
      refine v_goto (pc := 34) (tgt := 50) dX9_across_34 (by decide) ?_
      refine v_iret (pc := 50) hR dX9_across_50 ⟨by decide, by decide⟩ ?_
      exact ⟨_, hG, by simp [acrS, *], rfl⟩
  · refine v_aload_n (pc := 9) dX9_across_9 rfl rfl ?_
    refine vm_getA (pc := 10) (k := 6) hG dX9_across_10 fl_X9_23 (by decide) ?_
    refine v_iload_n (pc := 13) dX9_across_13 rfl rfl ?_
    refine vm_iald (pc := 14) (k := 6) (j := j) hG dX9_across_14 rfl rfl (by have h0 : ml 6 = 12 := rfl; omega) rfl ?_
    refine v_goto (pc := 15) (tgt := 50) dX9_across_15 (by decide) ?_
    refine v_iret (pc := 50) hR dX9_across_50 ⟨by decide, by decide⟩ ?_
    exact ⟨_, hG, by simp [acrS, *], rfl⟩
set_option maxRecDepth 100000 in
set_option maxHeartbeats 4000000 in
theorem c_X9_length (D : DT) (m : Nat) (ad : AdT) (s : SG) (j : Nat)  (hj : j < 12) : MM yX9_length cX9_length 2 (Option.some Jvm.ClassFile.FieldType.int) rm_X9_length D [.ref m, .int (nI j)] m ad s (fun v s' => v = some (.int (lenS s j)) ∧ s' = s) := by
  intro G hG
  refine MC_of (by decide +kernel) (Nat.le_of_ble_eq_true rfl) (fun K sz hR => ?_)
  show V cX9_length _ 2 _ D K 0 [some (.ref m), some (.int (nI j))] [] G (0, 0)
  refine v_aload_n (pc := 0) dX9_length_0 rfl rfl ?_
  refine vm_getA (pc := 1) (k := 8) hG dX9_length_1 fl_X9_29 (by decide) ?_
  refine v_iload_n (pc := 4) dX9_length_4 rfl rfl ?_
  refine vm_iald (pc := 5) (k := 8) (j := j) hG dX9_length_5 rfl rfl (by have h0 : ml 8 = 12 := rfl; omega) rfl ?_
  refine v_if_ne (pc := 6) (tgt := 18) dX9_length_6 (by decide) (fun c6 => ?_) (fun c6 => ?_)
  · refine v_aload_n (pc := 18) dX9_length_18 rfl rfl ?_
    refine vm_getA (pc := 19) (k := 8) hG dX9_length_19 fl_X9_29 (by decide) ?_
    refine v_iload_n (pc := 22) dX9_length_22 rfl rfl ?_
    refine vm_iald (pc := 23) (k := 8) hG dX9_length_23 rfl rfl (by have h0 : ml 8 = 12 := rfl; omega) rfl ?_
    refine v_iconst (pc := 24) (v := 1) dX9_length_24 (by decide) ?_
    refine v_icmp_ne (pc := 25) (tgt := 37) dX9_length_25 (by decide) (fun c25 => ?_) (fun c25 => ?_)
    · refine v_aload_n (pc := 37) dX9_length_37 rfl rfl ?_
      refine vm_getA (pc := 38) (k := 6) hG dX9_length_38 fl_X9_23 (by decide) ?_
      refine v_iload_n (pc := 41) dX9_length_41 rfl rfl ?_
      refine vm_iald (pc := 42) (k := 6) hG dX9_length_42 rfl rfl (by have h0 : ml 6 = 12 := rfl; omega) rfl ?_
      refine v_aload_n (pc := 43) dX9_length_43 rfl rfl ?_
      refine vm_getA (pc := 44) (k := 7) hG dX9_length_44 fl_X9_26 (by decide) ?_
      refine v_iload_n (pc := 47) dX9_length_47 rfl rfl ?_
      refine vm_iald (pc := 48) (k := 7) hG dX9_length_48 rfl rfl (by have h0 : ml 7 = 12 := rfl; omega) rfl ?_
      refine v_iadd (pc := 49) dX9_length_49 ?_
      refine v_iret (pc := 50) hR dX9_length_50 ⟨by decide, by decide⟩ ?_
      exact ⟨_, hG, by simp [lenS, *], rfl⟩
    · refine v_aload_n (pc := 28) dX9_length_28 rfl rfl ?_
      refine vm_getA (pc := 29) (k := 6) hG dX9_length_29 fl_X9_23 (by decide) ?_
      refine v_iload_n (pc := 32) dX9_length_32 rfl rfl ?_
      refine vm_iald (pc := 33) (k := 6) hG dX9_length_33 rfl rfl (by have h0 : ml 6 = 12 := rfl; omega) rfl ?_
      refine v_goto (pc := 34) (tgt := 50) dX9_length_34 (by decide) ?_
      refine v_iret (pc := 50) hR dX9_length_50 ⟨by decide, by decide⟩ ?_
      exact ⟨_, hG, by simp [lenS, *], rfl⟩
  · refine v_aload_n (pc := 9) dX9_length_9 rfl rfl ?_
    refine vm_getA (pc := 10) (k := 7) hG dX9_length_10 fl_X9_26 (by decide) ?_
    refine v_iload_n (pc := 13) dX9_length_13 rfl rfl ?_
    refine vm_iald (pc := 14) (k := 7) (j := j) hG dX9_length_14 rfl rfl (by have h0 : ml 7 = 12 := rfl; omega) rfl ?_
    refine v_goto (pc := 15) (tgt := 50) dX9_length_15 (by decide) ?_
    refine v_iret (pc := 50) hR dX9_length_50 ⟨by decide, by decide⟩ ?_
    exact ⟨_, hG, by simp [lenS, *], rfl⟩
/-- seam -/
def kSeam (b c : Nat) (p0 p1 p2 : Int32) : Int32 := if btw p0 0 (nI b - 1) ∧ btw p1 0 (nI b - 1) then (if p0 ≠ p1 ∧ btw p2 0 2 then (if c = 30 then 3 else 0) else 2) else 1
def gSeam (s : SG) (c : Nat) (p0 p1 p2 : Int32) : SG := sI (sI (sI (sI s 10 c p0) 11 c p1) 12 c p2) 9 0 (nI (c + 1))
set_option maxRecDepth 100000 in
set_option maxHeartbeats 4000000 in
theorem c_X9_seam (D : DT) (m : Nat) (ad : AdT) (s : SG) (b c : Nat) (p0 : Int32) (p1 : Int32) (p2 : Int32) (hb : s.1 4 0 = nI b) (hc : s.1 9 0 = nI c) (hc2 : c ≤ 30) : MM yX9_seam cX9_seam 5 (Option.some Jvm.ClassFile.FieldType.int) rm_X9_seam D [.ref m, .int p0, .int p1, .int p2] m ad s (fun v s' => v = some (.int (if kSeam b c p0 p1 p2 = 0 then nI c else 0)) ∧ s' = if kSeam b c p0 p1 p2 = 0 then gSeam (thr s 0) c p0 p1 p2 else thr s (kSeam b c p0 p1 p2)) := by
  intro G hG
  refine MC_of (by decide +kernel) (Nat.le_of_ble_eq_true rfl) (fun K sz hR => ?_)
  show V cX9_seam _ 5 _ D K 0 [some (.ref m), some (.int p0), some (.int p1), some (.int p2), none] [] G (0, 0)
  refine v_aload_n (pc := 0) dX9_seam_0 rfl rfl ?_
  refine v_iload_n (pc := 1) dX9_seam_1 rfl rfl ?_
  refine vm_callV1 (pc := 2) (0, 0) hG dX9_seam_2 cw_X9_121 im_yX9_isPanel se_yX9_isPanel (c_X9_isPanel D m ad _ _ ) rfl (Nat.le_of_ble_eq_true rfl) ⟨Nat.le_of_ble_eq_true rfl, Nat.le_of_ble_eq_true rfl⟩ ⟨by decide, by decide⟩ rfl (fun v s1 G hp hG => ?_)
  obtain ⟨hv1, hs1⟩ := hp
  subst hv1
  subst s1
  refine v_if_eq (pc := 5) (tgt := 20) dX9_seam_5 (by decide) (fun c5 => ?_) (fun c5 => ?_)
  · rw [b2i_0] at c5
    rw [hb] at c5
    have hk : kSeam b c p0 p1 p2 = 1 := by rw [kSeam, if_neg (fun h => c5 h.1)]
    refine v_iconst (pc := 20) (v := 0) dX9_seam_20 (by decide) ?_
    refine v_istore (pc := 21) dX9_seam_21 rfl (by decide) ?_
    refine v_aload_n (pc := 23) dX9_seam_23 rfl rfl ?_
    refine v_iload (pc := 24) dX9_seam_24 rfl ?_
    refine v_if_ne (pc := 26) (tgt := 33) dX9_seam_26 (by decide) (fun c26 => absurd c26 (by decide)) (fun c26 => ?_)
    refine v_iconst (pc := 29) (v := 1) dX9_seam_29 (by decide) ?_
    refine v_goto (pc := 30) (tgt := 65) dX9_seam_30 (by decide) ?_
    refine vm_callV1 (pc := 65) (0, 0) hG dX9_seam_65 cw_X9_111 im_yX9_goes se_yX9_goes (c_X9_goes D m ad _ _ ) rfl (Nat.le_of_ble_eq_true rfl) ⟨Nat.le_of_ble_eq_true rfl, Nat.le_of_ble_eq_true rfl⟩ ⟨by decide, by decide⟩ rfl (fun v s1 G hp hG => ?_)
    obtain ⟨hv1, hs1⟩ := hp
    subst hv1
    subst s1
    refine v_if_ne (pc := 68) (tgt := 73) dX9_seam_68 (by decide) (fun c68 => absurd c68 (by decide)) (fun c68 => ?_)
    refine v_iconst (pc := 71) (v := 0) dX9_seam_71 (by decide) ?_
    refine v_iret (pc := 72) hR dX9_seam_72 ⟨by decide, by decide⟩ ?_
    exact ⟨_, hG, by simp [hk], by simp [hk]⟩
  · rw [b2i_0, Decidable.not_not] at c5
    rw [hb] at c5
    refine v_aload_n (pc := 8) dX9_seam_8 rfl rfl ?_
    refine v_iload_n (pc := 9) dX9_seam_9 rfl rfl ?_
    refine vm_callV1 (pc := 10) (0, 0) hG dX9_seam_10 cw_X9_121 im_yX9_isPanel se_yX9_isPanel (c_X9_isPanel D m ad _ _ ) rfl (Nat.le_of_ble_eq_true rfl) ⟨Nat.le_of_ble_eq_true rfl, Nat.le_of_ble_eq_true rfl⟩ ⟨by decide, by decide⟩ rfl (fun v s1 G hp hG => ?_)
    obtain ⟨hv1, hs1⟩ := hp
    subst hv1
    subst s1
    refine v_if_eq (pc := 13) (tgt := 20) dX9_seam_13 (by decide) (fun c13 => ?_) (fun c13 => ?_)
    · rw [b2i_0] at c13
      rw [hb] at c13
      have hk : kSeam b c p0 p1 p2 = 1 := by rw [kSeam, if_neg (fun h => c13 h.2)]
      refine v_iconst (pc := 20) (v := 0) dX9_seam_20 (by decide) ?_
      refine v_istore (pc := 21) dX9_seam_21 rfl (by decide) ?_
      refine v_aload_n (pc := 23) dX9_seam_23 rfl rfl ?_
      refine v_iload (pc := 24) dX9_seam_24 rfl ?_
      refine v_if_ne (pc := 26) (tgt := 33) dX9_seam_26 (by decide) (fun c26 => absurd c26 (by decide)) (fun c26 => ?_)
      refine v_iconst (pc := 29) (v := 1) dX9_seam_29 (by decide) ?_
      refine v_goto (pc := 30) (tgt := 65) dX9_seam_30 (by decide) ?_
      refine vm_callV1 (pc := 65) (0, 0) hG dX9_seam_65 cw_X9_111 im_yX9_goes se_yX9_goes (c_X9_goes D m ad _ _ ) rfl (Nat.le_of_ble_eq_true rfl) ⟨Nat.le_of_ble_eq_true rfl, Nat.le_of_ble_eq_true rfl⟩ ⟨by decide, by decide⟩ rfl (fun v s1 G hp hG => ?_)
      obtain ⟨hv1, hs1⟩ := hp
      subst hv1
      subst s1
      refine v_if_ne (pc := 68) (tgt := 73) dX9_seam_68 (by decide) (fun c68 => absurd c68 (by decide)) (fun c68 => ?_)
      refine v_iconst (pc := 71) (v := 0) dX9_seam_71 (by decide) ?_
      refine v_iret (pc := 72) hR dX9_seam_72 ⟨by decide, by decide⟩ ?_
      exact ⟨_, hG, by simp [hk], by simp [hk]⟩
    · rw [b2i_0, Decidable.not_not] at c13
      rw [hb] at c13
      refine v_iconst (pc := 16) (v := 1) dX9_seam_16 (by decide) ?_
      refine v_goto (pc := 17) (tgt := 21) dX9_seam_17 (by decide) ?_
      refine v_istore (pc := 21) dX9_seam_21 rfl (by decide) ?_
      refine v_aload_n (pc := 23) dX9_seam_23 rfl rfl ?_
      refine v_iload (pc := 24) dX9_seam_24 rfl ?_
      refine v_if_ne (pc := 26) (tgt := 33) dX9_seam_26 (by decide) (fun c26 => ?_) (fun c26 => absurd c26 (by decide))
      refine v_iload_n (pc := 33) dX9_seam_33 rfl rfl ?_
      refine v_iload_n (pc := 34) dX9_seam_34 rfl rfl ?_
      refine v_icmp_eq (pc := 35) (tgt := 47) dX9_seam_35 (by decide) (fun c35 => ?_) (fun c35 => ?_)
      · have hk : kSeam b c p0 p1 p2 = 2 := by rw [kSeam, if_pos ⟨c5, c13⟩, if_neg (fun h => h.1 c35)]
        refine v_iconst (pc := 47) (v := 2) dX9_seam_47 (by decide) ?_
        refine v_goto (pc := 48) (tgt := 65) dX9_seam_48 (by decide) ?_
        refine vm_callV1 (pc := 65) (0, 0) hG dX9_seam_65 cw_X9_111 im_yX9_goes se_yX9_goes (c_X9_goes D m ad _ _ ) rfl (Nat.le_of_ble_eq_true rfl) ⟨Nat.le_of_ble_eq_true rfl, Nat.le_of_ble_eq_true rfl⟩ ⟨by decide, by decide⟩ rfl (fun v s1 G hp hG => ?_)
        obtain ⟨hv1, hs1⟩ := hp
        subst hv1
        subst s1
        refine v_if_ne (pc := 68) (tgt := 73) dX9_seam_68 (by decide) (fun c68 => absurd c68 (by decide)) (fun c68 => ?_)
        refine v_iconst (pc := 71) (v := 0) dX9_seam_71 (by decide) ?_
        refine v_iret (pc := 72) hR dX9_seam_72 ⟨by decide, by decide⟩ ?_
        exact ⟨_, hG, by simp [hk], by simp [hk]⟩
      · refine v_iload_n (pc := 38) dX9_seam_38 rfl rfl ?_
        refine v_iconst (pc := 39) (v := 0) dX9_seam_39 (by decide) ?_
        refine v_iconst (pc := 40) (v := 2) dX9_seam_40 (by decide) ?_
        refine v_callS3 (pc := 41) (0, 0) dX9_seam_41 cw_X9_103 sm_yX9_isBetween (c_X9_isBetween D _ _ _ _ ) (Nat.le_of_ble_eq_true rfl) ⟨Nat.le_of_ble_eq_true rfl, Nat.le_of_ble_eq_true rfl⟩ ⟨by decide, by decide⟩ rfl (fun v G1 hp => ?_)
        obtain ⟨hv1, hs1⟩ := hp
        subst hv1
        subst G1
        refine v_if_ne (pc := 44) (tgt := 51) dX9_seam_44 (by decide) (fun c44 => ?_) (fun c44 => ?_)
        · rw [b2i_0, Decidable.not_not] at c44
          refine v_aload_n (pc := 51) dX9_seam_51 rfl rfl ?_
          refine vm_getI (pc := 52) (k := 9) hG dX9_seam_52 fl_X9_135 rfl (by decide) (x := nI c) hc ?_
          refine v_bipush (pc := 55) (v := 30) dX9_seam_55 (by decide) ?_
          refine v_icmp_ne (pc := 57) (tgt := 64) dX9_seam_57 (by decide) (fun c57 => ?_) (fun c57 => ?_)
          · have h6 : c ≠ 30 := fun e => c57 (by rw [e]; rfl)
            have hk : kSeam b c p0 p1 p2 = 0 := by rw [kSeam, if_pos ⟨c5, c13⟩, if_pos ⟨c35, c44⟩, if_neg h6]
            refine v_iconst (pc := 64) (v := 0) dX9_seam_64 (by decide) ?_
            refine vm_callV1 (pc := 65) (0, 0) hG dX9_seam_65 cw_X9_111 im_yX9_goes se_yX9_goes (c_X9_goes D m ad _ _ ) rfl (Nat.le_of_ble_eq_true rfl) ⟨Nat.le_of_ble_eq_true rfl, Nat.le_of_ble_eq_true rfl⟩ ⟨by decide, by decide⟩ rfl (fun v s1 G hp hG => ?_)
            obtain ⟨hv1, hs1⟩ := hp
            subst hv1
            subst s1
            refine v_if_ne (pc := 68) (tgt := 73) dX9_seam_68 (by decide) (fun c68 => ?_) (fun c68 => absurd c68 (by decide))
            refine v_aload_n (pc := 73) dX9_seam_73 rfl rfl ?_
            refine vm_getA (pc := 74) (k := 10) hG dX9_seam_74 fl_X9_32 (by decide) ?_
            refine v_aload_n (pc := 77) dX9_seam_77 rfl rfl ?_
            refine vm_getI (pc := 78) (k := 9) hG dX9_seam_78 fl_X9_135 rfl (by decide) (x := nI c) hc ?_
            refine v_iload_n (pc := 81) dX9_seam_81 rfl rfl ?_
            refine vm_iast (pc := 82) (k := 10) (j := c) hG dX9_seam_82 rfl rfl (by have h0 : ml 10 = 30 := rfl; omega) (fun G hG => ?_)
            refine v_aload_n (pc := 83) dX9_seam_83 rfl rfl ?_
            refine vm_getA (pc := 84) (k := 11) hG dX9_seam_84 fl_X9_35 (by decide) ?_
            refine v_aload_n (pc := 87) dX9_seam_87 rfl rfl ?_
            refine vm_getI (pc := 88) (k := 9) hG dX9_seam_88 fl_X9_135 rfl (by decide) (x := nI c) hc ?_
            refine v_iload_n (pc := 91) dX9_seam_91 rfl rfl ?_
            refine vm_iast (pc := 92) (k := 11) (j := c) hG dX9_seam_92 rfl rfl (by have h0 : ml 11 = 30 := rfl; omega) (fun G hG => ?_)
            refine v_aload_n (pc := 93) dX9_seam_93 rfl rfl ?_
            refine vm_getA (pc := 94) (k := 12) hG dX9_seam_94 fl_X9_38 (by decide) ?_
            refine v_aload_n (pc := 97) dX9_seam_97 rfl rfl ?_
            refine vm_getI (pc := 98) (k := 9) hG dX9_seam_98 fl_X9_135 rfl (by decide) (x := nI c) hc ?_
            refine v_iload_n (pc := 101) dX9_seam_101 rfl rfl ?_
            refine vm_iast (pc := 102) (k := 12) (j := c) hG dX9_seam_102 rfl rfl (by have h0 : ml 12 = 30 := rfl; omega) (fun G hG => ?_)
            refine v_aload_n (pc := 103) dX9_seam_103 rfl rfl ?_
            refine v_dup (pc := 104) dX9_seam_104 rfl ?_
            refine vm_getI (pc := 105) (k := 9) hG dX9_seam_105 fl_X9_135 rfl (by decide) (x := nI c) hc ?_
            refine v_iconst (pc := 108) (v := 1) dX9_seam_108 (by decide) ?_
            refine v_iadd (pc := 109) dX9_seam_109 ?_
            refine vm_putI (pc := 110) (k := 9) hG dX9_seam_110 fw_X9_135 rfl (by decide) (fun G hG => ?_)
            refine v_aload_n (pc := 113) dX9_seam_113 rfl rfl ?_
            refine vm_getI (pc := 114) (k := 9) hG dX9_seam_114 fl_X9_135 rfl (by decide) (x := nI (c + 1)) (by simp [sI, u2, nI_1]) ?_
            refine v_iconst (pc := 117) (v := 1) dX9_seam_117 (by decide) ?_
            refine v_isub (pc := 118) dX9_seam_118 ?_
            refine v_iret (pc := 119) hR dX9_seam_119 ⟨by decide, by decide⟩ ?_
            exact ⟨_, hG, by rw [if_pos hk, nI_pred], by rw [if_pos hk, gSeam, nI_1]⟩
          · have h6 : c = 30 := (nI_eq (by omega) (by decide)).mp (c57.trans rfl)
            have hk : kSeam b c p0 p1 p2 = 3 := by rw [kSeam, if_pos ⟨c5, c13⟩, if_pos ⟨c35, c44⟩, if_pos h6]
            refine v_iconst (pc := 60) (v := 3) dX9_seam_60 (by decide) ?_
            refine v_goto (pc := 61) (tgt := 65) dX9_seam_61 (by decide) ?_
            refine vm_callV1 (pc := 65) (0, 0) hG dX9_seam_65 cw_X9_111 im_yX9_goes se_yX9_goes (c_X9_goes D m ad _ _ ) rfl (Nat.le_of_ble_eq_true rfl) ⟨Nat.le_of_ble_eq_true rfl, Nat.le_of_ble_eq_true rfl⟩ ⟨by decide, by decide⟩ rfl (fun v s1 G hp hG => ?_)
            obtain ⟨hv1, hs1⟩ := hp
            subst hv1
            subst s1
            refine v_if_ne (pc := 68) (tgt := 73) dX9_seam_68 (by decide) (fun c68 => absurd c68 (by decide)) (fun c68 => ?_)
            refine v_iconst (pc := 71) (v := 0) dX9_seam_71 (by decide) ?_
            refine v_iret (pc := 72) hR dX9_seam_72 ⟨by decide, by decide⟩ ?_
            exact ⟨_, hG, by simp [hk], by simp [hk]⟩
        · rw [b2i_0] at c44
          have hk : kSeam b c p0 p1 p2 = 2 := by rw [kSeam, if_pos ⟨c5, c13⟩, if_neg (fun h => c44 h.2)]
          refine v_iconst (pc := 47) (v := 2) dX9_seam_47 (by decide) ?_
          refine v_goto (pc := 48) (tgt := 65) dX9_seam_48 (by decide) ?_
          refine vm_callV1 (pc := 65) (0, 0) hG dX9_seam_65 cw_X9_111 im_yX9_goes se_yX9_goes (c_X9_goes D m ad _ _ ) rfl (Nat.le_of_ble_eq_true rfl) ⟨Nat.le_of_ble_eq_true rfl, Nat.le_of_ble_eq_true rfl⟩ ⟨by decide, by decide⟩ rfl (fun v s1 G hp hG => ?_)
          obtain ⟨hv1, hs1⟩ := hp
          subst hv1
          subst s1
          refine v_if_ne (pc := 68) (tgt := 73) dX9_seam_68 (by decide) (fun c68 => absurd c68 (by decide)) (fun c68 => ?_)
          refine v_iconst (pc := 71) (v := 0) dX9_seam_71 (by decide) ?_
          refine v_iret (pc := 72) hR dX9_seam_72 ⟨by decide, by decide⟩ ?_
          exact ⟨_, hG, by simp [hk], by simp [hk]⟩
set_option maxRecDepth 100000 in
set_option maxHeartbeats 4000000 in
theorem c_X9_seamOf (D : DT) (m : Nat) (ad : AdT) (s : SG) (i np ns : Nat)  (h : PV s np) (h2 : SV s np ns) (hi : i < ns) (hnp : np ≤ 12) (hns : ns ≤ 30) : MM yX9_seamOf cX9_seamOf 3 (Option.some Jvm.ClassFile.FieldType.long) rm_X9_seamOf D [.ref m, .int (nI i)] m ad s (fun v s' => v = some (.long (seamS s i)) ∧ s' = s) := by
  intro G hG
  refine MC_of (by decide +kernel) (Nat.le_of_ble_eq_true rfl) (fun K sz hR => ?_)
  show V cX9_seamOf _ 3 _ D K 0 [some (.ref m), some (.int (nI i)), none] [] G (0, 0)
  obtain ⟨a, b, ha, hb, e1, e2⟩ := h2 i hi
  refine v_aload_n (pc := 0) dX9_seamOf_0 rfl rfl ?_
  refine vm_getA (pc := 1) (k := 12) hG dX9_seamOf_1 fl_X9_38 (by decide) ?_
  refine v_iload_n (pc := 4) dX9_seamOf_4 rfl rfl ?_
  refine vm_iald (pc := 5) (k := 12) (j := i) hG dX9_seamOf_5 rfl rfl (by have h0 : ml 12 = 30 := rfl; omega) rfl ?_
  refine v_if_ne (pc := 6) (tgt := 14) dX9_seamOf_6 (by decide) (fun c6 => ?_) (fun c6 => ?_)
  · refine v_aload_n (pc := 14) dX9_seamOf_14 rfl rfl ?_
    refine vm_getA (pc := 15) (k := 12) hG dX9_seamOf_15 fl_X9_38 (by decide) ?_
    refine v_iload_n (pc := 18) dX9_seamOf_18 rfl rfl ?_
    refine vm_iald (pc := 19) (k := 12) (j := i) hG dX9_seamOf_19 rfl rfl (by have h0 : ml 12 = 30 := rfl; omega) rfl ?_
    refine v_iconst (pc := 20) (v := 1) dX9_seamOf_20 (by decide) ?_
    refine v_icmp_ne (pc := 21) (tgt := 29) dX9_seamOf_21 (by decide) (fun c21 => ?_) (fun c21 => ?_)
    · refine v_bipush (pc := 29) (v := 40) dX9_seamOf_29 (by decide) ?_
      refine v_istore_n (pc := 31) dX9_seamOf_31 rfl rfl (by decide) ?_
      refine v_aload_n (pc := 32) dX9_seamOf_32 rfl rfl ?_
      refine v_aload_n (pc := 33) dX9_seamOf_33 rfl rfl ?_
      refine vm_getA (pc := 34) (k := 10) hG dX9_seamOf_34 fl_X9_32 (by decide) ?_
      refine v_iload_n (pc := 37) dX9_seamOf_37 rfl rfl ?_
      refine vm_iald (pc := 38) (k := 10) (j := i) hG dX9_seamOf_38 rfl rfl (by have h0 : ml 10 = 30 := rfl; omega) e1 ?_
      refine vm_callV1 (pc := 39) (0, 0) hG dX9_seamOf_39 cw_X9_124 im_yX9_strengthOf se_yX9_strengthOf (c_X9_strengthOf D m ad _ a np h ha hnp) rfl (Nat.le_of_ble_eq_true rfl) ⟨Nat.le_of_ble_eq_true rfl, Nat.le_of_ble_eq_true rfl⟩ ⟨by decide, by decide⟩ rfl (fun v s1 G hp hG => ?_)
      obtain ⟨hv1, hs1⟩ := hp
      subst hv1
      subst s1
      refine v_aload_n (pc := 42) dX9_seamOf_42 rfl rfl ?_
      refine v_aload_n (pc := 43) dX9_seamOf_43 rfl rfl ?_
      refine vm_getA (pc := 44) (k := 11) hG dX9_seamOf_44 fl_X9_35 (by decide) ?_
      refine v_iload_n (pc := 47) dX9_seamOf_47 rfl rfl ?_
      refine vm_iald (pc := 48) (k := 11) (j := i) hG dX9_seamOf_48 rfl rfl (by have h0 : ml 11 = 30 := rfl; omega) e2 ?_
      refine vm_callV1 (pc := 49) (0, 0) hG dX9_seamOf_49 cw_X9_124 im_yX9_strengthOf se_yX9_strengthOf (c_X9_strengthOf D m ad _ b np h hb hnp) rfl (Nat.le_of_ble_eq_true rfl) ⟨Nat.le_of_ble_eq_true rfl, Nat.le_of_ble_eq_true rfl⟩ ⟨by decide, by decide⟩ rfl (fun v s1 G hp hG => ?_)
      obtain ⟨hv1, hs1⟩ := hp
      subst hv1
      subst s1
      refine v_callS2 (pc := 52) (0, 0) dX9_seamOf_52 cw_X9_138 sm_yX9_lesser (c_X9_lesser D _ _ _ ) (Nat.le_of_ble_eq_true rfl) ⟨Nat.le_of_ble_eq_true rfl, Nat.le_of_ble_eq_true rfl⟩ ⟨by decide, by decide⟩ rfl (fun v G1 hp => ?_)
      obtain ⟨hv1, hs1⟩ := hp
      subst hv1
      subst G1
      refine v_iload_n (pc := 55) dX9_seamOf_55 rfl rfl ?_
      refine v_i2l (pc := 56) dX9_seamOf_56 ?_
      refine v_lmul (pc := 57) dX9_seamOf_57 ?_
      refine v_ldcL (pc := 58) dX9_seamOf_58 k_X9_142 ?_
      refine v_ldiv (pc := 61) dX9_seamOf_61 (by decide) ?_
      refine v_lret (pc := 62) hR dX9_seamOf_62 ⟨by decide, by decide⟩ ?_
      exact ⟨_, hG, by rw [seamS, e1, e2, nat_nI (by omega), nat_nI (by omega), lessL]; simp [pctS, *], rfl⟩
    · refine v_bipush (pc := 24) (v := 80) dX9_seamOf_24 (by decide) ?_
      refine v_goto (pc := 26) (tgt := 31) dX9_seamOf_26 (by decide) ?_
      refine v_istore_n (pc := 31) dX9_seamOf_31 rfl rfl (by decide) ?_
      refine v_aload_n (pc := 32) dX9_seamOf_32 rfl rfl ?_
      refine v_aload_n (pc := 33) dX9_seamOf_33 rfl rfl ?_
      refine vm_getA (pc := 34) (k := 10) hG dX9_seamOf_34 fl_X9_32 (by decide) ?_
      refine v_iload_n (pc := 37) dX9_seamOf_37 rfl rfl ?_
      refine vm_iald (pc := 38) (k := 10) (j := i) hG dX9_seamOf_38 rfl rfl (by have h0 : ml 10 = 30 := rfl; omega) e1 ?_
      refine vm_callV1 (pc := 39) (0, 0) hG dX9_seamOf_39 cw_X9_124 im_yX9_strengthOf se_yX9_strengthOf (c_X9_strengthOf D m ad _ a np h ha hnp) rfl (Nat.le_of_ble_eq_true rfl) ⟨Nat.le_of_ble_eq_true rfl, Nat.le_of_ble_eq_true rfl⟩ ⟨by decide, by decide⟩ rfl (fun v s1 G hp hG => ?_)
      obtain ⟨hv1, hs1⟩ := hp
      subst hv1
      subst s1
      refine v_aload_n (pc := 42) dX9_seamOf_42 rfl rfl ?_
      refine v_aload_n (pc := 43) dX9_seamOf_43 rfl rfl ?_
      refine vm_getA (pc := 44) (k := 11) hG dX9_seamOf_44 fl_X9_35 (by decide) ?_
      refine v_iload_n (pc := 47) dX9_seamOf_47 rfl rfl ?_
      refine vm_iald (pc := 48) (k := 11) (j := i) hG dX9_seamOf_48 rfl rfl (by have h0 : ml 11 = 30 := rfl; omega) e2 ?_
      refine vm_callV1 (pc := 49) (0, 0) hG dX9_seamOf_49 cw_X9_124 im_yX9_strengthOf se_yX9_strengthOf (c_X9_strengthOf D m ad _ b np h hb hnp) rfl (Nat.le_of_ble_eq_true rfl) ⟨Nat.le_of_ble_eq_true rfl, Nat.le_of_ble_eq_true rfl⟩ ⟨by decide, by decide⟩ rfl (fun v s1 G hp hG => ?_)
      obtain ⟨hv1, hs1⟩ := hp
      subst hv1
      subst s1
      refine v_callS2 (pc := 52) (0, 0) dX9_seamOf_52 cw_X9_138 sm_yX9_lesser (c_X9_lesser D _ _ _ ) (Nat.le_of_ble_eq_true rfl) ⟨Nat.le_of_ble_eq_true rfl, Nat.le_of_ble_eq_true rfl⟩ ⟨by decide, by decide⟩ rfl (fun v G1 hp => ?_)
      obtain ⟨hv1, hs1⟩ := hp
      subst hv1
      subst G1
      refine v_iload_n (pc := 55) dX9_seamOf_55 rfl rfl ?_
      refine v_i2l (pc := 56) dX9_seamOf_56 ?_
      refine v_lmul (pc := 57) dX9_seamOf_57 ?_
      refine v_ldcL (pc := 58) dX9_seamOf_58 k_X9_142 ?_
      refine v_ldiv (pc := 61) dX9_seamOf_61 (by decide) ?_
      refine v_lret (pc := 62) hR dX9_seamOf_62 ⟨by decide, by decide⟩ ?_
      exact ⟨_, hG, by rw [seamS, e1, e2, nat_nI (by omega), nat_nI (by omega), lessL]; simp [pctS, *], rfl⟩
  · refine v_bipush (pc := 9) (v := 60) dX9_seamOf_9 (by decide) ?_
    refine v_goto (pc := 11) (tgt := 31) dX9_seamOf_11 (by decide) ?_
    refine v_istore_n (pc := 31) dX9_seamOf_31 rfl rfl (by decide) ?_
    refine v_aload_n (pc := 32) dX9_seamOf_32 rfl rfl ?_
    refine v_aload_n (pc := 33) dX9_seamOf_33 rfl rfl ?_
    refine vm_getA (pc := 34) (k := 10) hG dX9_seamOf_34 fl_X9_32 (by decide) ?_
    refine v_iload_n (pc := 37) dX9_seamOf_37 rfl rfl ?_
    refine vm_iald (pc := 38) (k := 10) (j := i) hG dX9_seamOf_38 rfl rfl (by have h0 : ml 10 = 30 := rfl; omega) e1 ?_
    refine vm_callV1 (pc := 39) (0, 0) hG dX9_seamOf_39 cw_X9_124 im_yX9_strengthOf se_yX9_strengthOf (c_X9_strengthOf D m ad _ a np h ha hnp) rfl (Nat.le_of_ble_eq_true rfl) ⟨Nat.le_of_ble_eq_true rfl, Nat.le_of_ble_eq_true rfl⟩ ⟨by decide, by decide⟩ rfl (fun v s1 G hp hG => ?_)
    obtain ⟨hv1, hs1⟩ := hp
    subst hv1
    subst s1
    refine v_aload_n (pc := 42) dX9_seamOf_42 rfl rfl ?_
    refine v_aload_n (pc := 43) dX9_seamOf_43 rfl rfl ?_
    refine vm_getA (pc := 44) (k := 11) hG dX9_seamOf_44 fl_X9_35 (by decide) ?_
    refine v_iload_n (pc := 47) dX9_seamOf_47 rfl rfl ?_
    refine vm_iald (pc := 48) (k := 11) (j := i) hG dX9_seamOf_48 rfl rfl (by have h0 : ml 11 = 30 := rfl; omega) e2 ?_
    refine vm_callV1 (pc := 49) (0, 0) hG dX9_seamOf_49 cw_X9_124 im_yX9_strengthOf se_yX9_strengthOf (c_X9_strengthOf D m ad _ b np h hb hnp) rfl (Nat.le_of_ble_eq_true rfl) ⟨Nat.le_of_ble_eq_true rfl, Nat.le_of_ble_eq_true rfl⟩ ⟨by decide, by decide⟩ rfl (fun v s1 G hp hG => ?_)
    obtain ⟨hv1, hs1⟩ := hp
    subst hv1
    subst s1
    refine v_callS2 (pc := 52) (0, 0) dX9_seamOf_52 cw_X9_138 sm_yX9_lesser (c_X9_lesser D _ _ _ ) (Nat.le_of_ble_eq_true rfl) ⟨Nat.le_of_ble_eq_true rfl, Nat.le_of_ble_eq_true rfl⟩ ⟨by decide, by decide⟩ rfl (fun v G1 hp => ?_)
    obtain ⟨hv1, hs1⟩ := hp
    subst hv1
    subst G1
    refine v_iload_n (pc := 55) dX9_seamOf_55 rfl rfl ?_
    refine v_i2l (pc := 56) dX9_seamOf_56 ?_
    refine v_lmul (pc := 57) dX9_seamOf_57 ?_
    refine v_ldcL (pc := 58) dX9_seamOf_58 k_X9_142 ?_
    refine v_ldiv (pc := 61) dX9_seamOf_61 (by decide) ?_
    refine v_lret (pc := 62) hR dX9_seamOf_62 ⟨by decide, by decide⟩ ?_
    exact ⟨_, hG, by rw [seamS, e1, e2, nat_nI (by omega), nat_nI (by omega), lessL]; simp [pctS, *], rfl⟩
/-- rip -/
def kRip (s : SG) (c : Nat) (p0 : Int32) : Int32 := if btw p0 0 (nI c - 1) ∧ s.1 13 (nat p0) = 0 then 0 else 1
set_option maxRecDepth 100000 in
set_option maxHeartbeats 4000000 in
theorem c_X9_rip (D : DT) (m : Nat) (ad : AdT) (s : SG) (np c : Nat) (p0 : Int32) (h : PV s np) (h2 : SV s np c) (hnp : np ≤ 12) (hc : s.1 9 0 = nI c) (hc2 : c ≤ 30) : MM yX9_rip cX9_rip 3 (Option.some Jvm.ClassFile.FieldType.long) rm_X9_rip D [.ref m, .int p0] m ad s (fun v s' => v = some (.long (if kRip s c p0 = 0 then seamS s (nat p0) else 0)) ∧ s' = if kRip s c p0 = 0 then sI (thr s 0) 13 (nat p0) 1 else thr s (kRip s c p0)) := by
  intro G hG
  refine MC_of (by decide +kernel) (Nat.le_of_ble_eq_true rfl) (fun K sz hR => ?_)
  show V cX9_rip _ 3 _ D K 0 [some (.ref m), some (.int p0), none] [] G (0, 0)
  refine v_iload_n (pc := 0) dX9_rip_0 rfl rfl ?_
  refine v_iconst (pc := 1) (v := 0) dX9_rip_1 (by decide) ?_
  refine v_aload_n (pc := 2) dX9_rip_2 rfl rfl ?_
  refine vm_getI (pc := 3) (k := 9) hG dX9_rip_3 fl_X9_135 rfl (by decide) hc ?_
  refine v_iconst (pc := 6) (v := 1) dX9_rip_6 (by decide) ?_
  refine v_isub (pc := 7) dX9_rip_7 ?_
  refine v_callS3 (pc := 8) (0, 0) dX9_rip_8 cw_X9_103 sm_yX9_isBetween (c_X9_isBetween D _ _ _ _ ) (Nat.le_of_ble_eq_true rfl) ⟨Nat.le_of_ble_eq_true rfl, Nat.le_of_ble_eq_true rfl⟩ ⟨by decide, by decide⟩ rfl (fun v G1 hp => ?_)
  obtain ⟨hv1, hs1⟩ := hp
  subst hv1
  subst G1
  refine v_if_eq (pc := 11) (tgt := 27) dX9_rip_11 (by decide) (fun c11 => ?_) (fun c11 => ?_)
  · rw [b2i_0] at c11
    have hk : kRip s c p0 = 1 := by rw [kRip, if_neg (fun h => c11 h.1)]
    refine v_iconst (pc := 27) (v := 0) dX9_rip_27 (by decide) ?_
    refine v_istore_n (pc := 28) dX9_rip_28 rfl rfl (by decide) ?_
    refine v_aload_n (pc := 29) dX9_rip_29 rfl rfl ?_
    refine v_iload_n (pc := 30) dX9_rip_30 rfl rfl ?_
    refine v_if_eq (pc := 31) (tgt := 38) dX9_rip_31 (by decide) (fun c31 => ?_) (fun c31 => absurd c31 (by decide))
    refine v_iconst (pc := 38) (v := 1) dX9_rip_38 (by decide) ?_
    refine vm_callV1 (pc := 39) (0, 0) hG dX9_rip_39 cw_X9_111 im_yX9_goes se_yX9_goes (c_X9_goes D m ad _ _ ) rfl (Nat.le_of_ble_eq_true rfl) ⟨Nat.le_of_ble_eq_true rfl, Nat.le_of_ble_eq_true rfl⟩ ⟨by decide, by decide⟩ rfl (fun v s1 G hp hG => ?_)
    obtain ⟨hv1, hs1⟩ := hp
    subst hv1
    subst s1
    refine v_if_ne (pc := 42) (tgt := 47) dX9_rip_42 (by decide) (fun c42 => absurd c42 (by decide)) (fun c42 => ?_)
    refine v_lconst (pc := 45) (v := 0) dX9_rip_45 (by decide) ?_
    refine v_lret (pc := 46) hR dX9_rip_46 ⟨by decide, by decide⟩ ?_
    exact ⟨_, hG, by simp [hk], by simp [hk]⟩
  · rw [b2i_0, Decidable.not_not] at c11
    obtain ⟨i, hi, rfl⟩ := (btw_ix (a := c) (by omega)).mp c11
    have en : nat (nI i) = i := nat_nI (by omega)
    refine v_aload_n (pc := 14) dX9_rip_14 rfl rfl ?_
    refine vm_getA (pc := 15) (k := 13) hG dX9_rip_15 fl_X9_41 (by decide) ?_
    refine v_iload_n (pc := 18) dX9_rip_18 rfl rfl ?_
    refine vm_zald (pc := 19) (k := 13) (j := i) hG dX9_rip_19 rfl rfl (by have h0 : ml 13 = 30 := rfl; omega) rfl ?_
    refine v_if_ne (pc := 20) (tgt := 27) dX9_rip_20 (by decide) (fun c20 => ?_) (fun c20 => ?_)
    · have hk : kRip s c (nI i) = 1 := by rw [kRip, if_neg (fun h => c20 (by rw [← h.2, en]))]
      refine v_iconst (pc := 27) (v := 0) dX9_rip_27 (by decide) ?_
      refine v_istore_n (pc := 28) dX9_rip_28 rfl rfl (by decide) ?_
      refine v_aload_n (pc := 29) dX9_rip_29 rfl rfl ?_
      refine v_iload_n (pc := 30) dX9_rip_30 rfl rfl ?_
      refine v_if_eq (pc := 31) (tgt := 38) dX9_rip_31 (by decide) (fun c31 => ?_) (fun c31 => absurd c31 (by decide))
      refine v_iconst (pc := 38) (v := 1) dX9_rip_38 (by decide) ?_
      refine vm_callV1 (pc := 39) (0, 0) hG dX9_rip_39 cw_X9_111 im_yX9_goes se_yX9_goes (c_X9_goes D m ad _ _ ) rfl (Nat.le_of_ble_eq_true rfl) ⟨Nat.le_of_ble_eq_true rfl, Nat.le_of_ble_eq_true rfl⟩ ⟨by decide, by decide⟩ rfl (fun v s1 G hp hG => ?_)
      obtain ⟨hv1, hs1⟩ := hp
      subst hv1
      subst s1
      refine v_if_ne (pc := 42) (tgt := 47) dX9_rip_42 (by decide) (fun c42 => absurd c42 (by decide)) (fun c42 => ?_)
      refine v_lconst (pc := 45) (v := 0) dX9_rip_45 (by decide) ?_
      refine v_lret (pc := 46) hR dX9_rip_46 ⟨by decide, by decide⟩ ?_
      exact ⟨_, hG, by simp [hk], by simp [hk]⟩
    · have hk : kRip s c (nI i) = 0 := by rw [kRip, if_pos ⟨c11, by rw [en]; exact c20⟩]
      refine v_iconst (pc := 23) (v := 1) dX9_rip_23 (by decide) ?_
      refine v_goto (pc := 24) (tgt := 28) dX9_rip_24 (by decide) ?_
      refine v_istore_n (pc := 28) dX9_rip_28 rfl rfl (by decide) ?_
      refine v_aload_n (pc := 29) dX9_rip_29 rfl rfl ?_
      refine v_iload_n (pc := 30) dX9_rip_30 rfl rfl ?_
      refine v_if_eq (pc := 31) (tgt := 38) dX9_rip_31 (by decide) (fun c31 => absurd c31 (by decide)) (fun c31 => ?_)
      refine v_iconst (pc := 34) (v := 0) dX9_rip_34 (by decide) ?_
      refine v_goto (pc := 35) (tgt := 39) dX9_rip_35 (by decide) ?_
      refine vm_callV1 (pc := 39) (0, 0) hG dX9_rip_39 cw_X9_111 im_yX9_goes se_yX9_goes (c_X9_goes D m ad _ _ ) rfl (Nat.le_of_ble_eq_true rfl) ⟨Nat.le_of_ble_eq_true rfl, Nat.le_of_ble_eq_true rfl⟩ ⟨by decide, by decide⟩ rfl (fun v s1 G hp hG => ?_)
      obtain ⟨hv1, hs1⟩ := hp
      subst hv1
      subst s1
      refine v_if_ne (pc := 42) (tgt := 47) dX9_rip_42 (by decide) (fun c42 => ?_) (fun c42 => absurd c42 (by decide))
      refine v_aload_n (pc := 47) dX9_rip_47 rfl rfl ?_
      refine vm_getA (pc := 48) (k := 13) hG dX9_rip_48 fl_X9_41 (by decide) ?_
      refine v_iload_n (pc := 51) dX9_rip_51 rfl rfl ?_
      refine v_iconst (pc := 52) (v := 1) dX9_rip_52 (by decide) ?_
      refine vm_zast (pc := 53) (k := 13) (j := i) hG dX9_rip_53 rfl rfl (by have h0 : ml 13 = 30 := rfl; omega) (by first | rfl | exact b2i_vnar) (fun G hG => ?_)
      refine v_aload_n (pc := 54) dX9_rip_54 rfl rfl ?_
      refine v_iload_n (pc := 55) dX9_rip_55 rfl rfl ?_
      refine vm_callV1 (pc := 56) (0, 0) hG dX9_rip_56 cw_X9_144 im_yX9_seamOf se_yX9_seamOf (c_X9_seamOf D m ad _ i np c h h2 hi hnp hc2) rfl (Nat.le_of_ble_eq_true rfl) ⟨Nat.le_of_ble_eq_true rfl, Nat.le_of_ble_eq_true rfl⟩ ⟨by decide, by decide⟩ rfl (fun v s1 G hp hG => ?_)
      obtain ⟨hv1, hs1⟩ := hp
      subst hv1
      subst s1
      refine v_lret (pc := 59) hR dX9_rip_59 ⟨by decide, by decide⟩ ?_
      exact ⟨_, hG, by rw [if_pos hk, en]; rfl, by rw [if_pos hk, en]⟩
/-- knots -/
def kKnot (p0 p1 : Int32) : Int32 := if btw p0 0 35 then (if btw p1 (-10000) 10000 then 0 else 2) else 1
def gKnot (s : SG) (j : Nat) (p1 p2 : Int32) : SG := sI (sI s 15 j p1) 17 j p2
def kHt (p0 : Int32) : Int32 := if btw p0 0 35 then 0 else 1
def kLoad (p0 : Int32) : Int32 := if btw p0 0 100 then 0 else 1
set_option maxRecDepth 100000 in
set_option maxHeartbeats 4000000 in
theorem c_X9_knot (D : DT) (m : Nat) (ad : AdT) (s : SG)  (p0 : Int32) (p1 : Int32) (p2 : Int32) (hz : p2 = 0 ∨ p2 = 1) : MM yX9_knot cX9_knot 5 (Option.some Jvm.ClassFile.FieldType.int) rm_X9_knot D [.ref m, .int p0, .int p1, .int p2] m ad s (fun v s' => v = some (.int (if kKnot p0 p1 = 0 then s.1 15 (nat p0) else 0)) ∧ s' = if kKnot p0 p1 = 0 then gKnot (thr s 0) (nat p0) p1 p2 else thr s (kKnot p0 p1)) := by
  intro G hG
  refine MC_of (by decide +kernel) (Nat.le_of_ble_eq_true rfl) (fun K sz hR => ?_)
  show V cX9_knot _ 5 _ D K 0 [some (.ref m), some (.int p0), some (.int p1), some (.int p2), none] [] G (0, 0)
  refine v_aload_n (pc := 0) dX9_knot_0 rfl rfl ?_
  refine v_iload_n (pc := 1) dX9_knot_1 rfl rfl ?_
  refine v_callS1 (pc := 2) (0, 0) dX9_knot_2 cw_X9_154 sm_yX9_isKnot (c_X9_isKnot D _ _ ) (Nat.le_of_ble_eq_true rfl) ⟨Nat.le_of_ble_eq_true rfl, Nat.le_of_ble_eq_true rfl⟩ ⟨by decide, by decide⟩ rfl (fun v G1 hp => ?_)
  obtain ⟨hv1, hs1⟩ := hp
  subst hv1
  subst G1
  refine v_if_ne (pc := 5) (tgt := 12) dX9_knot_5 (by decide) (fun c5 => ?_) (fun c5 => ?_)
  · rw [b2i_0, Decidable.not_not] at c5
    refine v_iload_n (pc := 12) dX9_knot_12 rfl rfl ?_
    refine v_sipush (pc := 13) (v := (-10000)) dX9_knot_13 (by decide) ?_
    refine v_sipush (pc := 16) (v := 10000) dX9_knot_16 (by decide) ?_
    refine v_callS3 (pc := 19) (0, 0) dX9_knot_19 cw_X9_103 sm_yX9_isBetween (c_X9_isBetween D _ _ _ _ ) (Nat.le_of_ble_eq_true rfl) ⟨Nat.le_of_ble_eq_true rfl, Nat.le_of_ble_eq_true rfl⟩ ⟨by decide, by decide⟩ rfl (fun v G1 hp => ?_)
    obtain ⟨hv1, hs1⟩ := hp
    subst hv1
    subst G1
    refine v_if_eq (pc := 22) (tgt := 29) dX9_knot_22 (by decide) (fun c22 => ?_) (fun c22 => ?_)
    · rw [b2i_0] at c22
      have hk : kKnot p0 p1 = 2 := by rw [kKnot, if_pos c5, if_neg c22]
      refine v_iconst (pc := 29) (v := 2) dX9_knot_29 (by decide) ?_
      refine vm_callV1 (pc := 30) (0, 0) hG dX9_knot_30 cw_X9_111 im_yX9_goes se_yX9_goes (c_X9_goes D m ad _ _ ) rfl (Nat.le_of_ble_eq_true rfl) ⟨Nat.le_of_ble_eq_true rfl, Nat.le_of_ble_eq_true rfl⟩ ⟨by decide, by decide⟩ rfl (fun v s1 G hp hG => ?_)
      obtain ⟨hv1, hs1⟩ := hp
      subst hv1
      subst s1
      refine v_if_ne (pc := 33) (tgt := 38) dX9_knot_33 (by decide) (fun c33 => absurd c33 (by decide)) (fun c33 => ?_)
      refine v_iconst (pc := 36) (v := 0) dX9_knot_36 (by decide) ?_
      refine v_iret (pc := 37) hR dX9_knot_37 ⟨by decide, by decide⟩ ?_
      exact ⟨_, hG, by simp [hk], by simp [hk]⟩
    · rw [b2i_0, Decidable.not_not] at c22
      have hk : kKnot p0 p1 = 0 := by rw [kKnot, if_pos c5, if_pos c22]
      obtain ⟨j, hj, rfl⟩ := (btw_lit (M := 35) (N := 35) rfl).mp c5
      have en : nat (nI j) = j := nat_nI (by omega)
      refine v_iconst (pc := 25) (v := 0) dX9_knot_25 (by decide) ?_
      refine v_goto (pc := 26) (tgt := 30) dX9_knot_26 (by decide) ?_
      refine vm_callV1 (pc := 30) (0, 0) hG dX9_knot_30 cw_X9_111 im_yX9_goes se_yX9_goes (c_X9_goes D m ad _ _ ) rfl (Nat.le_of_ble_eq_true rfl) ⟨Nat.le_of_ble_eq_true rfl, Nat.le_of_ble_eq_true rfl⟩ ⟨by decide, by decide⟩ rfl (fun v s1 G hp hG => ?_)
      obtain ⟨hv1, hs1⟩ := hp
      subst hv1
      subst s1
      refine v_if_ne (pc := 33) (tgt := 38) dX9_knot_33 (by decide) (fun c33 => ?_) (fun c33 => absurd c33 (by decide))
      refine v_aload_n (pc := 38) dX9_knot_38 rfl rfl ?_
      refine vm_getA (pc := 39) (k := 15) hG dX9_knot_39 fl_X9_48 (by decide) ?_
      refine v_iload_n (pc := 42) dX9_knot_42 rfl rfl ?_
      refine vm_iald (pc := 43) (k := 15) (j := j) hG dX9_knot_43 rfl rfl (by have h0 : ml 15 = 36 := rfl; omega) (x := s.1 15 j) rfl ?_
      refine v_istore (pc := 44) dX9_knot_44 rfl (by decide) ?_
      refine v_aload_n (pc := 46) dX9_knot_46 rfl rfl ?_
      refine vm_getA (pc := 47) (k := 15) hG dX9_knot_47 fl_X9_48 (by decide) ?_
      refine v_iload_n (pc := 50) dX9_knot_50 rfl rfl ?_
      refine v_iload_n (pc := 51) dX9_knot_51 rfl rfl ?_
      refine vm_iast (pc := 52) (k := 15) (j := j) hG dX9_knot_52 rfl rfl (by have h0 : ml 15 = 36 := rfl; omega) (fun G hG => ?_)
      refine v_aload_n (pc := 53) dX9_knot_53 rfl rfl ?_
      refine vm_getA (pc := 54) (k := 17) hG dX9_knot_54 fl_X9_54 (by decide) ?_
      refine v_iload_n (pc := 57) dX9_knot_57 rfl rfl ?_
      refine v_iload_n (pc := 58) dX9_knot_58 rfl rfl ?_
      refine vm_zast (pc := 59) (k := 17) (j := j) hG dX9_knot_59 rfl rfl (by have h0 : ml 17 = 36 := rfl; omega) (by rcases hz with rfl | rfl <;> rfl) (fun G hG => ?_)
      refine v_iload (pc := 60) dX9_knot_60 rfl ?_
      refine v_iret (pc := 62) hR dX9_knot_62 ⟨by decide, by decide⟩ ?_
      exact ⟨_, hG, by rw [if_pos hk, en], by rw [if_pos hk, en, gKnot]⟩
  · rw [b2i_0] at c5
    have hk : kKnot p0 p1 = 1 := by rw [kKnot, if_neg c5]
    refine v_iconst (pc := 8) (v := 1) dX9_knot_8 (by decide) ?_
    refine v_goto (pc := 9) (tgt := 30) dX9_knot_9 (by decide) ?_
    refine vm_callV1 (pc := 30) (0, 0) hG dX9_knot_30 cw_X9_111 im_yX9_goes se_yX9_goes (c_X9_goes D m ad _ _ ) rfl (Nat.le_of_ble_eq_true rfl) ⟨Nat.le_of_ble_eq_true rfl, Nat.le_of_ble_eq_true rfl⟩ ⟨by decide, by decide⟩ rfl (fun v s1 G hp hG => ?_)
    obtain ⟨hv1, hs1⟩ := hp
    subst hv1
    subst s1
    refine v_if_ne (pc := 33) (tgt := 38) dX9_knot_33 (by decide) (fun c33 => absurd c33 (by decide)) (fun c33 => ?_)
    refine v_iconst (pc := 36) (v := 0) dX9_knot_36 (by decide) ?_
    refine v_iret (pc := 37) hR dX9_knot_37 ⟨by decide, by decide⟩ ?_
    exact ⟨_, hG, by simp [hk], by simp [hk]⟩
set_option maxRecDepth 100000 in
set_option maxHeartbeats 4000000 in
theorem c_X9_load (D : DT) (m : Nat) (ad : AdT) (s : SG)  (p0 : Int32)  : MM yX9_load cX9_load 3 (Option.some Jvm.ClassFile.FieldType.int) rm_X9_load D [.ref m, .int p0] m ad s (fun v s' => v = some (.int (if kLoad p0 = 0 then s.1 18 0 else 0)) ∧ s' = if kLoad p0 = 0 then sI (thr s 0) 18 0 p0 else thr s (kLoad p0)) := by
  intro G hG
  refine MC_of (by decide +kernel) (Nat.le_of_ble_eq_true rfl) (fun K sz hR => ?_)
  show V cX9_load _ 3 _ D K 0 [some (.ref m), some (.int p0), none] [] G (0, 0)
  refine v_aload_n (pc := 0) dX9_load_0 rfl rfl ?_
  refine v_iload_n (pc := 1) dX9_load_1 rfl rfl ?_
  refine v_iconst (pc := 2) (v := 0) dX9_load_2 (by decide) ?_
  refine v_bipush (pc := 3) (v := 100) dX9_load_3 (by decide) ?_
  refine v_callS3 (pc := 5) (0, 0) dX9_load_5 cw_X9_103 sm_yX9_isBetween (c_X9_isBetween D _ _ _ _ ) (Nat.le_of_ble_eq_true rfl) ⟨Nat.le_of_ble_eq_true rfl, Nat.le_of_ble_eq_true rfl⟩ ⟨by decide, by decide⟩ rfl (fun v G1 hp => ?_)
  obtain ⟨hv1, hs1⟩ := hp
  subst hv1
  subst G1
  refine v_if_eq (pc := 8) (tgt := 15) dX9_load_8 (by decide) (fun c8 => ?_) (fun c8 => ?_)
  · rw [b2i_0] at c8
    have hk : kLoad p0 = 1 := by rw [kLoad, if_neg c8]
    refine v_iconst (pc := 15) (v := 1) dX9_load_15 (by decide) ?_
    refine vm_callV1 (pc := 16) (0, 0) hG dX9_load_16 cw_X9_111 im_yX9_goes se_yX9_goes (c_X9_goes D m ad _ _ ) rfl (Nat.le_of_ble_eq_true rfl) ⟨Nat.le_of_ble_eq_true rfl, Nat.le_of_ble_eq_true rfl⟩ ⟨by decide, by decide⟩ rfl (fun v s1 G hp hG => ?_)
    obtain ⟨hv1, hs1⟩ := hp
    subst hv1
    subst s1
    refine v_if_ne (pc := 19) (tgt := 24) dX9_load_19 (by decide) (fun c19 => absurd c19 (by decide)) (fun c19 => ?_)
    refine v_iconst (pc := 22) (v := 0) dX9_load_22 (by decide) ?_
    refine v_iret (pc := 23) hR dX9_load_23 ⟨by decide, by decide⟩ ?_
    exact ⟨_, hG, by simp [hk], by simp [hk]⟩
  · rw [b2i_0, Decidable.not_not] at c8
    have hk : kLoad p0 = 0 := by rw [kLoad, if_pos c8]
    refine v_iconst (pc := 11) (v := 0) dX9_load_11 (by decide) ?_
    refine v_goto (pc := 12) (tgt := 16) dX9_load_12 (by decide) ?_
    refine vm_callV1 (pc := 16) (0, 0) hG dX9_load_16 cw_X9_111 im_yX9_goes se_yX9_goes (c_X9_goes D m ad _ _ ) rfl (Nat.le_of_ble_eq_true rfl) ⟨Nat.le_of_ble_eq_true rfl, Nat.le_of_ble_eq_true rfl⟩ ⟨by decide, by decide⟩ rfl (fun v s1 G hp hG => ?_)
    obtain ⟨hv1, hs1⟩ := hp
    subst hv1
    subst s1
    refine v_if_ne (pc := 19) (tgt := 24) dX9_load_19 (by decide) (fun c19 => ?_) (fun c19 => absurd c19 (by decide))
    refine v_aload_n (pc := 24) dX9_load_24 rfl rfl ?_
    refine vm_getI (pc := 25) (k := 18) hG dX9_load_25 fl_X9_157 rfl (by decide) (x := s.1 18 0) rfl ?_
    refine v_istore_n (pc := 28) dX9_load_28 rfl rfl (by decide) ?_
    refine v_aload_n (pc := 29) dX9_load_29 rfl rfl ?_
    refine v_iload_n (pc := 30) dX9_load_30 rfl rfl ?_
    refine vm_putI (pc := 31) (k := 18) hG dX9_load_31 fw_X9_157 rfl (by decide) (fun G hG => ?_)
    refine v_iload_n (pc := 34) dX9_load_34 rfl rfl ?_
    refine v_iret (pc := 35) hR dX9_load_35 ⟨by decide, by decide⟩ ?_
    exact ⟨_, hG, by rw [if_pos hk], by rw [if_pos hk]⟩
set_option maxRecDepth 100000 in
set_option maxHeartbeats 4000000 in
theorem c_X9_height (D : DT) (m : Nat) (ad : AdT) (s : SG)  (p0 : Int32)  : MM yX9_height cX9_height 2 (Option.some Jvm.ClassFile.FieldType.int) rm_X9_height D [.ref m, .int p0] m ad s (fun v s' => v = some (.int (if kHt p0 = 0 then s.1 15 (nat p0) else 0)) ∧ s' = thr s (kHt p0)) := by
  intro G hG
  refine MC_of (by decide +kernel) (Nat.le_of_ble_eq_true rfl) (fun K sz hR => ?_)
  show V cX9_height _ 2 _ D K 0 [some (.ref m), some (.int p0)] [] G (0, 0)
  refine v_aload_n (pc := 0) dX9_height_0 rfl rfl ?_
  refine v_iload_n (pc := 1) dX9_height_1 rfl rfl ?_
  refine v_callS1 (pc := 2) (0, 0) dX9_height_2 cw_X9_154 sm_yX9_isKnot (c_X9_isKnot D _ _ ) (Nat.le_of_ble_eq_true rfl) ⟨Nat.le_of_ble_eq_true rfl, Nat.le_of_ble_eq_true rfl⟩ ⟨by decide, by decide⟩ rfl (fun v G1 hp => ?_)
  obtain ⟨hv1, hs1⟩ := hp
  subst hv1
  subst G1
  refine v_if_eq (pc := 5) (tgt := 12) dX9_height_5 (by decide) (fun c5 => ?_) (fun c5 => ?_)
  · rw [b2i_0] at c5
    have hk : kHt p0 = 1 := by rw [kHt, if_neg c5]
    refine v_iconst (pc := 12) (v := 1) dX9_height_12 (by decide) ?_
    refine vm_callV1 (pc := 13) (0, 0) hG dX9_height_13 cw_X9_111 im_yX9_goes se_yX9_goes (c_X9_goes D m ad _ _ ) rfl (Nat.le_of_ble_eq_true rfl) ⟨Nat.le_of_ble_eq_true rfl, Nat.le_of_ble_eq_true rfl⟩ ⟨by decide, by decide⟩ rfl (fun v s1 G hp hG => ?_)
    obtain ⟨hv1, hs1⟩ := hp
    subst hv1
    subst s1
    refine v_if_eq (pc := 16) (tgt := 28) dX9_height_16 (by decide) (fun c16 => ?_) (fun c16 => absurd c16 (by decide))
    refine v_iconst (pc := 28) (v := 0) dX9_height_28 (by decide) ?_
    refine v_iret (pc := 29) hR dX9_height_29 ⟨by decide, by decide⟩ ?_
    first | exact ⟨_, hG, by rw [if_pos hk, en]; rfl, by rw [hk]⟩ | exact ⟨_, hG, by simp [hk], by rw [hk]⟩
  · rw [b2i_0, Decidable.not_not] at c5
    have hk : kHt p0 = 0 := by rw [kHt, if_pos c5]
    obtain ⟨j, hj, rfl⟩ := (btw_lit (M := 35) (N := 35) rfl).mp c5
    have en : nat (nI j) = j := nat_nI (by omega)
    refine v_iconst (pc := 8) (v := 0) dX9_height_8 (by decide) ?_
    refine v_goto (pc := 9) (tgt := 13) dX9_height_9 (by decide) ?_
    refine vm_callV1 (pc := 13) (0, 0) hG dX9_height_13 cw_X9_111 im_yX9_goes se_yX9_goes (c_X9_goes D m ad _ _ ) rfl (Nat.le_of_ble_eq_true rfl) ⟨Nat.le_of_ble_eq_true rfl, Nat.le_of_ble_eq_true rfl⟩ ⟨by decide, by decide⟩ rfl (fun v s1 G hp hG => ?_)
    obtain ⟨hv1, hs1⟩ := hp
    subst hv1
    subst s1
    refine v_if_eq (pc := 16) (tgt := 28) dX9_height_16 (by decide) (fun c16 => absurd c16 (by decide)) (fun c16 => ?_)
    refine v_aload_n (pc := 19) dX9_height_19 rfl rfl ?_
    refine vm_getA (pc := 20) (k := 15) hG dX9_height_20 fl_X9_48 (by decide) ?_
    refine v_iload_n (pc := 23) dX9_height_23 rfl rfl ?_
    refine vm_iald (pc := 24) (k := 15) (j := j) hG dX9_height_24 rfl rfl (by have h0 : ml 15 = 36 := rfl; omega) rfl ?_
    refine v_goto (pc := 25) (tgt := 29) dX9_height_25 (by decide) ?_
    refine v_iret (pc := 29) hR dX9_height_29 ⟨by decide, by decide⟩ ?_
    first | exact ⟨_, hG, by rw [if_pos hk, en]; rfl, by rw [hk]⟩ | exact ⟨_, hG, by simp [hk], by rw [hk]⟩
