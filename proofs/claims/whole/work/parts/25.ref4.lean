/-- the knot beside one: above, below, to the left, to the right -/
def nb (k w : Nat) : Option Nat := if w = 0 then (if k < 6 then none else some (k - 6)) else if w = 1 then (if 30 ≤ k then none else some (k + 6)) else if w = 2 then (if k % 6 = 0 then none else some (k - 1)) else (if k % 6 = 5 then none else some (k + 1))
def bsI (k w : Nat) : Int32 := match nb k w with
  | none => -1
  | some q => nI q
theorem nb_lt : ∀ k, k < 36 → ∀ w, w < 4 → (nb k w).all (fun q => decide (q < 36)) = true := by decide +kernel
theorem bs_some {k w : Nat} (hk : k < 36) (hw : w < 4) (h : ¬ bsI k w = -1) : ∃ q, nb k w = some q ∧ q < 36 ∧ bsI k w = nI q := by
  have h1 := nb_lt k hk w hw
  cases hn : nb k w with
  | none => exact absurd (by simp [bsI, hn]) h
  | some q =>
    rw [hn] at h1
    exact ⟨q, rfl, by simpa using h1, by simp [bsI, hn]⟩
theorem bs_none {k w : Nat} (hk : k < 36) (hw : w < 4) (h : bsI k w = -1) : nb k w = none := by
  have h1 := nb_lt k hk w hw
  cases hn : nb k w with
  | none => rfl
  | some q =>
    rw [hn] at h1
    have hq : q < 36 := by simpa using h1
    have h2 : nI q = -1 := by simpa [bsI, hn] using h
    have h3 : ∀ q, q < 36 → ¬ nI q = -1 := by decide +kernel
    exact absurd h2 (h3 q hq)
theorem bs_0 : ∀ k, k < 36 → bsI k 0 = if btw (nI k / 6 + (-1)) 0 5 ∧ btw (nI k - nI k / 6 * 6 + 0) 0 5 then 6 * (nI k / 6 + (-1)) + (nI k - nI k / 6 * 6 + 0) else -1 := by decide +kernel
theorem bs_1 : ∀ k, k < 36 → bsI k 1 = if btw (nI k / 6 + 1) 0 5 ∧ btw (nI k - nI k / 6 * 6 + 0) 0 5 then 6 * (nI k / 6 + 1) + (nI k - nI k / 6 * 6 + 0) else -1 := by decide +kernel
theorem bs_2 : ∀ k, k < 36 → bsI k 2 = if btw (nI k / 6 + 0) 0 5 ∧ btw (nI k - nI k / 6 * 6 + (-1)) 0 5 then 6 * (nI k / 6 + 0) + (nI k - nI k / 6 * 6 + (-1)) else -1 := by decide +kernel
theorem bs_3 : ∀ k, k < 36 → bsI k 3 = if btw (nI k / 6 + 0) 0 5 ∧ btw (nI k - nI k / 6 * 6 + 1) 0 5 then 6 * (nI k / 6 + 0) + (nI k - nI k / 6 * 6 + 1) else -1 := by decide +kernel
set_option maxRecDepth 100000 in
set_option maxHeartbeats 4000000 in
theorem c_X9_beside (D : DT) (G : GT) (k w : Nat) (hk : k < 36) (hw : w < 4) : MC yX9_beside cX9_beside 4 (Option.some Jvm.ClassFile.FieldType.int) rm_X9_beside D [.int (nI k), .int (nI w)] G (fun v G' => v = some (.int (bsI k w)) ∧ G' = G) := by
  refine MC_of (by decide +kernel) (Nat.le_of_ble_eq_true rfl) (fun K sz hR => ?_)
  rcases (show w = 0 ∨ w = 1 ∨ w = 2 ∨ w = 3 by omega) with rfl | rfl | rfl | rfl
  · show V cX9_beside _ 4 _ D K 0 [some (.int (nI k)), some (.int (nI 0)), none, none] [] G (0, 0)
    refine v_iload_n (pc := 0) dX9_beside_0 rfl rfl ?_
    refine v_bipush (pc := 1) (v := 6) dX9_beside_1 (by decide) ?_
    refine v_idiv (pc := 3) dX9_beside_3 (by decide) ?_
    refine v_iload_n (pc := 4) dX9_beside_4 rfl rfl ?_
    refine v_if_ne (pc := 5) (tgt := 12) dX9_beside_5 (by decide) (fun c5 => absurd c5 (by decide)) (fun c5 => ?_)
    refine v_iconst (pc := 8) (v := (-1)) dX9_beside_8 (by decide) ?_
    refine v_goto (pc := 9) (tgt := 22) dX9_beside_9 (by decide) ?_
    refine v_iadd (pc := 22) dX9_beside_22 ?_
    refine v_istore_n (pc := 23) dX9_beside_23 rfl rfl (by decide) ?_
    refine v_iload_n (pc := 24) dX9_beside_24 rfl rfl ?_
    refine v_bipush (pc := 25) (v := 6) dX9_beside_25 (by decide) ?_
    refine v_irem (pc := 27) dX9_beside_27 (by decide) ?_
    refine v_iload_n (pc := 28) dX9_beside_28 rfl rfl ?_
    refine v_iconst (pc := 29) (v := 2) dX9_beside_29 (by decide) ?_
    refine v_icmp_ne (pc := 30) (tgt := 37) dX9_beside_30 (by decide) (fun c30 => ?_) (fun c30 => absurd c30 (by decide))
    refine v_iload_n (pc := 37) dX9_beside_37 rfl rfl ?_
    refine v_iconst (pc := 38) (v := 3) dX9_beside_38 (by decide) ?_
    refine v_icmp_ne (pc := 39) (tgt := 46) dX9_beside_39 (by decide) (fun c39 => ?_) (fun c39 => absurd c39 (by decide))
    refine v_iconst (pc := 46) (v := 0) dX9_beside_46 (by decide) ?_
    refine v_iadd (pc := 47) dX9_beside_47 ?_
    refine v_istore_n (pc := 48) dX9_beside_48 rfl rfl (by decide) ?_
    refine v_iload_n (pc := 49) dX9_beside_49 rfl rfl ?_
    refine v_iconst (pc := 50) (v := 0) dX9_beside_50 (by decide) ?_
    refine v_iconst (pc := 51) (v := 5) dX9_beside_51 (by decide) ?_
    refine v_callS3 (pc := 52) (0, 0) dX9_beside_52 cw_X9_103 sm_yX9_isBetween (c_X9_isBetween D _ _ _ _ ) (Nat.le_of_ble_eq_true rfl) ⟨Nat.le_of_ble_eq_true rfl, Nat.le_of_ble_eq_true rfl⟩ ⟨by decide, by decide⟩ rfl (fun v G1 hp => ?_)
    obtain ⟨hv1, hs1⟩ := hp
    subst hv1
    subst G1
    refine v_if_eq (pc := 55) (tgt := 76) dX9_beside_55 (by decide) (fun c55 => ?_) (fun c55 => ?_)
    · rw [b2i_0] at c55
      have e9 : bsI k 0 = -1 := by rw [bs_0 k hk, if_neg (fun h => c55 h.1)]
      refine v_iconst (pc := 76) (v := (-1)) dX9_beside_76 (by decide) ?_
      refine v_iret (pc := 77) hR dX9_beside_77 ⟨by decide, by decide⟩ ?_
      refine ⟨?_, rfl⟩
      rw [e9]
    · rw [b2i_0, Decidable.not_not] at c55
      refine v_iload_n (pc := 58) dX9_beside_58 rfl rfl ?_
      refine v_iconst (pc := 59) (v := 0) dX9_beside_59 (by decide) ?_
      refine v_iconst (pc := 60) (v := 5) dX9_beside_60 (by decide) ?_
      refine v_callS3 (pc := 61) (0, 0) dX9_beside_61 cw_X9_103 sm_yX9_isBetween (c_X9_isBetween D _ _ _ _ ) (Nat.le_of_ble_eq_true rfl) ⟨Nat.le_of_ble_eq_true rfl, Nat.le_of_ble_eq_true rfl⟩ ⟨by decide, by decide⟩ rfl (fun v G1 hp => ?_)
      obtain ⟨hv1, hs1⟩ := hp
      subst hv1
      subst G1
      refine v_if_eq (pc := 64) (tgt := 76) dX9_beside_64 (by decide) (fun c64 => ?_) (fun c64 => ?_)
      · rw [b2i_0] at c64
        have e9 : bsI k 0 = -1 := by rw [bs_0 k hk, if_neg (fun h => c64 h.2)]
        refine v_iconst (pc := 76) (v := (-1)) dX9_beside_76 (by decide) ?_
        refine v_iret (pc := 77) hR dX9_beside_77 ⟨by decide, by decide⟩ ?_
        refine ⟨?_, rfl⟩
        rw [e9]
      · rw [b2i_0, Decidable.not_not] at c64
        have e9 : bsI k 0 = 6 * (nI k / 6 + (-1)) + (nI k - nI k / 6 * 6 + 0) := by rw [bs_0 k hk, if_pos ⟨c55, c64⟩]
        refine v_bipush (pc := 67) (v := 6) dX9_beside_67 (by decide) ?_
        refine v_iload_n (pc := 69) dX9_beside_69 rfl rfl ?_
        refine v_imul (pc := 70) dX9_beside_70 ?_
        refine v_iload_n (pc := 71) dX9_beside_71 rfl rfl ?_
        refine v_iadd (pc := 72) dX9_beside_72 ?_
        refine v_goto (pc := 73) (tgt := 77) dX9_beside_73 (by decide) ?_
        refine v_iret (pc := 77) hR dX9_beside_77 ⟨by decide, by decide⟩ ?_
        refine ⟨?_, rfl⟩
        rw [e9]
  · show V cX9_beside _ 4 _ D K 0 [some (.int (nI k)), some (.int (nI 1)), none, none] [] G (0, 0)
    refine v_iload_n (pc := 0) dX9_beside_0 rfl rfl ?_
    refine v_bipush (pc := 1) (v := 6) dX9_beside_1 (by decide) ?_
    refine v_idiv (pc := 3) dX9_beside_3 (by decide) ?_
    refine v_iload_n (pc := 4) dX9_beside_4 rfl rfl ?_
    refine v_if_ne (pc := 5) (tgt := 12) dX9_beside_5 (by decide) (fun c5 => ?_) (fun c5 => absurd c5 (by decide))
    refine v_iload_n (pc := 12) dX9_beside_12 rfl rfl ?_
    refine v_iconst (pc := 13) (v := 1) dX9_beside_13 (by decide) ?_
    refine v_icmp_ne (pc := 14) (tgt := 21) dX9_beside_14 (by decide) (fun c14 => absurd c14 (by decide)) (fun c14 => ?_)
    refine v_iconst (pc := 17) (v := 1) dX9_beside_17 (by decide) ?_
    refine v_goto (pc := 18) (tgt := 22) dX9_beside_18 (by decide) ?_
    refine v_iadd (pc := 22) dX9_beside_22 ?_
    refine v_istore_n (pc := 23) dX9_beside_23 rfl rfl (by decide) ?_
    refine v_iload_n (pc := 24) dX9_beside_24 rfl rfl ?_
    refine v_bipush (pc := 25) (v := 6) dX9_beside_25 (by decide) ?_
    refine v_irem (pc := 27) dX9_beside_27 (by decide) ?_
    refine v_iload_n (pc := 28) dX9_beside_28 rfl rfl ?_
    refine v_iconst (pc := 29) (v := 2) dX9_beside_29 (by decide) ?_
    refine v_icmp_ne (pc := 30) (tgt := 37) dX9_beside_30 (by decide) (fun c30 => ?_) (fun c30 => absurd c30 (by decide))
    refine v_iload_n (pc := 37) dX9_beside_37 rfl rfl ?_
    refine v_iconst (pc := 38) (v := 3) dX9_beside_38 (by decide) ?_
    refine v_icmp_ne (pc := 39) (tgt := 46) dX9_beside_39 (by decide) (fun c39 => ?_) (fun c39 => absurd c39 (by decide))
    refine v_iconst (pc := 46) (v := 0) dX9_beside_46 (by decide) ?_
    refine v_iadd (pc := 47) dX9_beside_47 ?_
    refine v_istore_n (pc := 48) dX9_beside_48 rfl rfl (by decide) ?_
    refine v_iload_n (pc := 49) dX9_beside_49 rfl rfl ?_
    refine v_iconst (pc := 50) (v := 0) dX9_beside_50 (by decide) ?_
    refine v_iconst (pc := 51) (v := 5) dX9_beside_51 (by decide) ?_
    refine v_callS3 (pc := 52) (0, 0) dX9_beside_52 cw_X9_103 sm_yX9_isBetween (c_X9_isBetween D _ _ _ _ ) (Nat.le_of_ble_eq_true rfl) ⟨Nat.le_of_ble_eq_true rfl, Nat.le_of_ble_eq_true rfl⟩ ⟨by decide, by decide⟩ rfl (fun v G1 hp => ?_)
    obtain ⟨hv1, hs1⟩ := hp
    subst hv1
    subst G1
    refine v_if_eq (pc := 55) (tgt := 76) dX9_beside_55 (by decide) (fun c55 => ?_) (fun c55 => ?_)
    · rw [b2i_0] at c55
      have e9 : bsI k 1 = -1 := by rw [bs_1 k hk, if_neg (fun h => c55 h.1)]
      refine v_iconst (pc := 76) (v := (-1)) dX9_beside_76 (by decide) ?_
      refine v_iret (pc := 77) hR dX9_beside_77 ⟨by decide, by decide⟩ ?_
      refine ⟨?_, rfl⟩
      rw [e9]
    · rw [b2i_0, Decidable.not_not] at c55
      refine v_iload_n (pc := 58) dX9_beside_58 rfl rfl ?_
      refine v_iconst (pc := 59) (v := 0) dX9_beside_59 (by decide) ?_
      refine v_iconst (pc := 60) (v := 5) dX9_beside_60 (by decide) ?_
      refine v_callS3 (pc := 61) (0, 0) dX9_beside_61 cw_X9_103 sm_yX9_isBetween (c_X9_isBetween D _ _ _ _ ) (Nat.le_of_ble_eq_true rfl) ⟨Nat.le_of_ble_eq_true rfl, Nat.le_of_ble_eq_true rfl⟩ ⟨by decide, by decide⟩ rfl (fun v G1 hp => ?_)
      obtain ⟨hv1, hs1⟩ := hp
      subst hv1
      subst G1
      refine v_if_eq (pc := 64) (tgt := 76) dX9_beside_64 (by decide) (fun c64 => ?_) (fun c64 => ?_)
      · rw [b2i_0] at c64
        have e9 : bsI k 1 = -1 := by rw [bs_1 k hk, if_neg (fun h => c64 h.2)]
        refine v_iconst (pc := 76) (v := (-1)) dX9_beside_76 (by decide) ?_
        refine v_iret (pc := 77) hR dX9_beside_77 ⟨by decide, by decide⟩ ?_
        refine ⟨?_, rfl⟩
        rw [e9]
      · rw [b2i_0, Decidable.not_not] at c64
        have e9 : bsI k 1 = 6 * (nI k / 6 + 1) + (nI k - nI k / 6 * 6 + 0) := by rw [bs_1 k hk, if_pos ⟨c55, c64⟩]
        refine v_bipush (pc := 67) (v := 6) dX9_beside_67 (by decide) ?_
        refine v_iload_n (pc := 69) dX9_beside_69 rfl rfl ?_
        refine v_imul (pc := 70) dX9_beside_70 ?_
        refine v_iload_n (pc := 71) dX9_beside_71 rfl rfl ?_
        refine v_iadd (pc := 72) dX9_beside_72 ?_
        refine v_goto (pc := 73) (tgt := 77) dX9_beside_73 (by decide) ?_
        refine v_iret (pc := 77) hR dX9_beside_77 ⟨by decide, by decide⟩ ?_
        refine ⟨?_, rfl⟩
        rw [e9]
  · show V cX9_beside _ 4 _ D K 0 [some (.int (nI k)), some (.int (nI 2)), none, none] [] G (0, 0)
    refine v_iload_n (pc := 0) dX9_beside_0 rfl rfl ?_
    refine v_bipush (pc := 1) (v := 6) dX9_beside_1 (by decide) ?_
    refine v_idiv (pc := 3) dX9_beside_3 (by decide) ?_
    refine v_iload_n (pc := 4) dX9_beside_4 rfl rfl ?_
    refine v_if_ne (pc := 5) (tgt := 12) dX9_beside_5 (by decide) (fun c5 => ?_) (fun c5 => absurd c5 (by decide))
    refine v_iload_n (pc := 12) dX9_beside_12 rfl rfl ?_
    refine v_iconst (pc := 13) (v := 1) dX9_beside_13 (by decide) ?_
    refine v_icmp_ne (pc := 14) (tgt := 21) dX9_beside_14 (by decide) (fun c14 => ?_) (fun c14 => absurd c14 (by decide))
    refine v_iconst (pc := 21) (v := 0) dX9_beside_21 (by decide) ?_
    refine v_iadd (pc := 22) dX9_beside_22 ?_
    refine v_istore_n (pc := 23) dX9_beside_23 rfl rfl (by decide) ?_
    refine v_iload_n (pc := 24) dX9_beside_24 rfl rfl ?_
    refine v_bipush (pc := 25) (v := 6) dX9_beside_25 (by decide) ?_
    refine v_irem (pc := 27) dX9_beside_27 (by decide) ?_
    refine v_iload_n (pc := 28) dX9_beside_28 rfl rfl ?_
    refine v_iconst (pc := 29) (v := 2) dX9_beside_29 (by decide) ?_
    refine v_icmp_ne (pc := 30) (tgt := 37) dX9_beside_30 (by decide) (fun c30 => absurd c30 (by decide)) (fun c30 => ?_)
    refine v_iconst (pc := 33) (v := (-1)) dX9_beside_33 (by decide) ?_
    refine v_goto (pc := 34) (tgt := 47) dX9_beside_34 (by decide) ?_
    refine v_iadd (pc := 47) dX9_beside_47 ?_
    refine v_istore_n (pc := 48) dX9_beside_48 rfl rfl (by decide) ?_
    refine v_iload_n (pc := 49) dX9_beside_49 rfl rfl ?_
    refine v_iconst (pc := 50) (v := 0) dX9_beside_50 (by decide) ?_
    refine v_iconst (pc := 51) (v := 5) dX9_beside_51 (by decide) ?_
    refine v_callS3 (pc := 52) (0, 0) dX9_beside_52 cw_X9_103 sm_yX9_isBetween (c_X9_isBetween D _ _ _ _ ) (Nat.le_of_ble_eq_true rfl) ⟨Nat.le_of_ble_eq_true rfl, Nat.le_of_ble_eq_true rfl⟩ ⟨by decide, by decide⟩ rfl (fun v G1 hp => ?_)
    obtain ⟨hv1, hs1⟩ := hp
    subst hv1
    subst G1
    refine v_if_eq (pc := 55) (tgt := 76) dX9_beside_55 (by decide) (fun c55 => ?_) (fun c55 => ?_)
    · rw [b2i_0] at c55
      have e9 : bsI k 2 = -1 := by rw [bs_2 k hk, if_neg (fun h => c55 h.1)]
      refine v_iconst (pc := 76) (v := (-1)) dX9_beside_76 (by decide) ?_
      refine v_iret (pc := 77) hR dX9_beside_77 ⟨by decide, by decide⟩ ?_
      refine ⟨?_, rfl⟩
      rw [e9]
    · rw [b2i_0, Decidable.not_not] at c55
      refine v_iload_n (pc := 58) dX9_beside_58 rfl rfl ?_
      refine v_iconst (pc := 59) (v := 0) dX9_beside_59 (by decide) ?_
      refine v_iconst (pc := 60) (v := 5) dX9_beside_60 (by decide) ?_
      refine v_callS3 (pc := 61) (0, 0) dX9_beside_61 cw_X9_103 sm_yX9_isBetween (c_X9_isBetween D _ _ _ _ ) (Nat.le_of_ble_eq_true rfl) ⟨Nat.le_of_ble_eq_true rfl, Nat.le_of_ble_eq_true rfl⟩ ⟨by decide, by decide⟩ rfl (fun v G1 hp => ?_)
      obtain ⟨hv1, hs1⟩ := hp
      subst hv1
      subst G1
      refine v_if_eq (pc := 64) (tgt := 76) dX9_beside_64 (by decide) (fun c64 => ?_) (fun c64 => ?_)
      · rw [b2i_0] at c64
        have e9 : bsI k 2 = -1 := by rw [bs_2 k hk, if_neg (fun h => c64 h.2)]
        refine v_iconst (pc := 76) (v := (-1)) dX9_beside_76 (by decide) ?_
        refine v_iret (pc := 77) hR dX9_beside_77 ⟨by decide, by decide⟩ ?_
        refine ⟨?_, rfl⟩
        rw [e9]
      · rw [b2i_0, Decidable.not_not] at c64
        have e9 : bsI k 2 = 6 * (nI k / 6 + 0) + (nI k - nI k / 6 * 6 + (-1)) := by rw [bs_2 k hk, if_pos ⟨c55, c64⟩]
        refine v_bipush (pc := 67) (v := 6) dX9_beside_67 (by decide) ?_
        refine v_iload_n (pc := 69) dX9_beside_69 rfl rfl ?_
        refine v_imul (pc := 70) dX9_beside_70 ?_
        refine v_iload_n (pc := 71) dX9_beside_71 rfl rfl ?_
        refine v_iadd (pc := 72) dX9_beside_72 ?_
        refine v_goto (pc := 73) (tgt := 77) dX9_beside_73 (by decide) ?_
        refine v_iret (pc := 77) hR dX9_beside_77 ⟨by decide, by decide⟩ ?_
        refine ⟨?_, rfl⟩
        rw [e9]
  · show V cX9_beside _ 4 _ D K 0 [some (.int (nI k)), some (.int (nI 3)), none, none] [] G (0, 0)
    refine v_iload_n (pc := 0) dX9_beside_0 rfl rfl ?_
    refine v_bipush (pc := 1) (v := 6) dX9_beside_1 (by decide) ?_
    refine v_idiv (pc := 3) dX9_beside_3 (by decide) ?_
    refine v_iload_n (pc := 4) dX9_beside_4 rfl rfl ?_
    refine v_if_ne (pc := 5) (tgt := 12) dX9_beside_5 (by decide) (fun c5 => ?_) (fun c5 => absurd c5 (by decide))
    refine v_iload_n (pc := 12) dX9_beside_12 rfl rfl ?_
    refine v_iconst (pc := 13) (v := 1) dX9_beside_13 (by decide) ?_
    refine v_icmp_ne (pc := 14) (tgt := 21) dX9_beside_14 (by decide) (fun c14 => ?_) (fun c14 => absurd c14 (by decide))
    refine v_iconst (pc := 21) (v := 0) dX9_beside_21 (by decide) ?_
    refine v_iadd (pc := 22) dX9_beside_22 ?_
    refine v_istore_n (pc := 23) dX9_beside_23 rfl rfl (by decide) ?_
    refine v_iload_n (pc := 24) dX9_beside_24 rfl rfl ?_
    refine v_bipush (pc := 25) (v := 6) dX9_beside_25 (by decide) ?_
    refine v_irem (pc := 27) dX9_beside_27 (by decide) ?_
    refine v_iload_n (pc := 28) dX9_beside_28 rfl rfl ?_
    refine v_iconst (pc := 29) (v := 2) dX9_beside_29 (by decide) ?_
    refine v_icmp_ne (pc := 30) (tgt := 37) dX9_beside_30 (by decide) (fun c30 => ?_) (fun c30 => absurd c30 (by decide))
    refine v_iload_n (pc := 37) dX9_beside_37 rfl rfl ?_
    refine v_iconst (pc := 38) (v := 3) dX9_beside_38 (by decide) ?_
    refine v_icmp_ne (pc := 39) (tgt := 46) dX9_beside_39 (by decide) (fun c39 => absurd c39 (by decide)) (fun c39 => ?_)
    refine v_iconst (pc := 42) (v := 1) dX9_beside_42 (by decide) ?_
    refine v_goto (pc := 43) (tgt := 47) dX9_beside_43 (by decide) ?_
    refine v_iadd (pc := 47) dX9_beside_47 ?_
    refine v_istore_n (pc := 48) dX9_beside_48 rfl rfl (by decide) ?_
    refine v_iload_n (pc := 49) dX9_beside_49 rfl rfl ?_
    refine v_iconst (pc := 50) (v := 0) dX9_beside_50 (by decide) ?_
    refine v_iconst (pc := 51) (v := 5) dX9_beside_51 (by decide) ?_
    refine v_callS3 (pc := 52) (0, 0) dX9_beside_52 cw_X9_103 sm_yX9_isBetween (c_X9_isBetween D _ _ _ _ ) (Nat.le_of_ble_eq_true rfl) ⟨Nat.le_of_ble_eq_true rfl, Nat.le_of_ble_eq_true rfl⟩ ⟨by decide, by decide⟩ rfl (fun v G1 hp => ?_)
    obtain ⟨hv1, hs1⟩ := hp
    subst hv1
    subst G1
    refine v_if_eq (pc := 55) (tgt := 76) dX9_beside_55 (by decide) (fun c55 => ?_) (fun c55 => ?_)
    · rw [b2i_0] at c55
      have e9 : bsI k 3 = -1 := by rw [bs_3 k hk, if_neg (fun h => c55 h.1)]
      refine v_iconst (pc := 76) (v := (-1)) dX9_beside_76 (by decide) ?_
      refine v_iret (pc := 77) hR dX9_beside_77 ⟨by decide, by decide⟩ ?_
      refine ⟨?_, rfl⟩
      rw [e9]
    · rw [b2i_0, Decidable.not_not] at c55
      refine v_iload_n (pc := 58) dX9_beside_58 rfl rfl ?_
      refine v_iconst (pc := 59) (v := 0) dX9_beside_59 (by decide) ?_
      refine v_iconst (pc := 60) (v := 5) dX9_beside_60 (by decide) ?_
      refine v_callS3 (pc := 61) (0, 0) dX9_beside_61 cw_X9_103 sm_yX9_isBetween (c_X9_isBetween D _ _ _ _ ) (Nat.le_of_ble_eq_true rfl) ⟨Nat.le_of_ble_eq_true rfl, Nat.le_of_ble_eq_true rfl⟩ ⟨by decide, by decide⟩ rfl (fun v G1 hp => ?_)
      obtain ⟨hv1, hs1⟩ := hp
      subst hv1
      subst G1
      refine v_if_eq (pc := 64) (tgt := 76) dX9_beside_64 (by decide) (fun c64 => ?_) (fun c64 => ?_)
      · rw [b2i_0] at c64
        have e9 : bsI k 3 = -1 := by rw [bs_3 k hk, if_neg (fun h => c64 h.2)]
        refine v_iconst (pc := 76) (v := (-1)) dX9_beside_76 (by decide) ?_
        refine v_iret (pc := 77) hR dX9_beside_77 ⟨by decide, by decide⟩ ?_
        refine ⟨?_, rfl⟩
        rw [e9]
      · rw [b2i_0, Decidable.not_not] at c64
        have e9 : bsI k 3 = 6 * (nI k / 6 + 0) + (nI k - nI k / 6 * 6 + 1) := by rw [bs_3 k hk, if_pos ⟨c55, c64⟩]
        refine v_bipush (pc := 67) (v := 6) dX9_beside_67 (by decide) ?_
        refine v_iload_n (pc := 69) dX9_beside_69 rfl rfl ?_
        refine v_imul (pc := 70) dX9_beside_70 ?_
        refine v_iload_n (pc := 71) dX9_beside_71 rfl rfl ?_
        refine v_iadd (pc := 72) dX9_beside_72 ?_
        refine v_goto (pc := 73) (tgt := 77) dX9_beside_73 (by decide) ?_
        refine v_iret (pc := 77) hR dX9_beside_77 ⟨by decide, by decide⟩ ?_
        refine ⟨?_, rfl⟩
        rw [e9]
/-- the heights beside a knot: their sum, how many, the highest -/
def cmF (s : SG) (k : Nat) : Nat → Int32 × Int32 × Int32
  | 0 => (0, 0, 0)
  | w + 1 => match nb k w with
    | none => cmF s k w
    | some q => ((cmF s k w).1 + s.1 15 q, (cmF s k w).2.1 + 1, if (cmF s k w).2.1 = 0 ∨ (cmF s k w).2.2 < s.1 15 q then s.1 15 q else (cmF s k w).2.2)
def cmN (k : Nat) : Nat → Nat
  | 0 => 0
  | w + 1 => match nb k w with
    | none => cmN k w
    | some _ => cmN k w + 1
theorem cmF_n (s : SG) (k : Nat) : ∀ w, (cmF s k w).2.1 = nI (cmN k w) := by
  intro w
  induction w with
  | zero => rfl
  | succ w ih =>
    simp only [cmF, cmN]
    cases nb k w with
    | none => exact ih
    | some q => show (cmF s k w).2.1 + 1 = _; rw [ih, nI_1]
theorem cmN_4 : ∀ k, k < 36 → ¬ nI (cmN k 4) = 0 := by decide +kernel
def mean (x y : Int32) : Int32 := if x < 0 ∧ ¬ x - x / y * y = 0 then x / y - 1 else x / y
def cmS (s : SG) (k : Nat) : Int32 := if mean (cmF s k 4).1 (cmF s k 4).2.1 - s.1 18 0 ≤ (cmF s k 4).2.2 then mean (cmF s k 4).1 (cmF s k 4).2.1 - s.1 18 0 else (cmF s k 4).2.2
theorem cmF_eq {s s' : SG} (h : s'.1 15 = s.1 15) (k : Nat) : ∀ w, cmF s' k w = cmF s k w := by
  intro w
  induction w with
  | zero => rfl
  | succ w ih =>
    simp only [cmF]
    cases nb k w with
    | none => exact ih
    | some q => show _ = _; rw [ih, h]
theorem cmS_eq {s s' : SG} (h : s'.1 15 = s.1 15) (h2 : s'.1 18 0 = s.1 18 0) (k : Nat) : cmS s' k = cmS s k := by
  simp only [cmS, cmF_eq h, h2]
set_option maxRecDepth 100000 in
set_option maxHeartbeats 4000000 in
theorem l_X9_comesTo {D : DT} {K : KT} {m : Nat} {ad : AdT} {s : SG} (k : Nat) (hk : k < 36) (kk : ∀ (x2 x3 x4 : Int32) (G : GT), cmF s k 4 = (x2, x3, x4) → MD m ad s G → V cX9_comesTo yX9_comesTo.cls 7 rm_X9_comesTo D K 79 [some (.ref m), some (.int (nI k)), some (.int x2), some (.int x3), some (.int x4), some (.int (nI 4)), none] [] G (0, 0)) : ∀ (d i : Nat) (x2 x3 x4 : Int32) (G : GT), i + d = 4 → cmF s k i = (x2, x3, x4) → MD m ad s G → V cX9_comesTo yX9_comesTo.cls 7 rm_X9_comesTo D K 10 [some (.ref m), some (.int (nI k)), some (.int x2), some (.int x3), some (.int x4), some (.int (nI i)), none] [] G (0, 0) := by
  intro d
  induction d with
  | zero =>
    intro i x2 x3 x4 G he0 he1 hG
    refine v_iload (pc := 10) dX9_comesTo_10 rfl ?_
    refine v_iconst (pc := 12) (v := 4) dX9_comesTo_12 (by decide) ?_
    refine v_icmp_ge (pc := 13) (tgt := 79) dX9_comesTo_13 (by decide) (fun c13 => ?_) (fun c13 => absurd c13 (not_not_intro (by rw [show i = 4 by omega]; decide)))
    have e : i = 4 := by omega
    subst e
    exact kk _ _ _ G he1 hG
  | succ d ih =>
    intro i x2 x3 x4 G he0 he1 hG
    refine v_iload (pc := 10) dX9_comesTo_10 rfl ?_
    refine v_iconst (pc := 12) (v := 4) dX9_comesTo_12 (by decide) ?_
    refine v_icmp_ge (pc := 13) (tgt := 79) dX9_comesTo_13 (by decide) (fun c13 => absurd c13 (by rcases (show i = 0 ∨ i = 1 ∨ i = 2 ∨ i = 3 by omega) with rfl | rfl | rfl | rfl <;> decide)) (fun c13 => ?_)
    refine v_iload_n (pc := 16) dX9_comesTo_16 rfl rfl ?_
    refine v_iload (pc := 17) dX9_comesTo_17 rfl ?_
    refine v_callS2 (pc := 19) (0, 0) dX9_comesTo_19 cw_X9_160 sm_yX9_beside (c_X9_beside D _ k i hk (by omega)) (Nat.le_of_ble_eq_true rfl) ⟨Nat.le_of_ble_eq_true rfl, Nat.le_of_ble_eq_true rfl⟩ ⟨by decide, by decide⟩ rfl (fun v G1 hp => ?_)
    obtain ⟨hv1, hs1⟩ := hp
    subst hv1
    subst G1
    refine v_istore (pc := 22) dX9_comesTo_22 rfl (by decide) ?_
    refine v_iload (pc := 24) dX9_comesTo_24 rfl ?_
    refine v_iconst (pc := 26) (v := (-1)) dX9_comesTo_26 (by decide) ?_
    refine v_icmp_eq (pc := 27) (tgt := 73) dX9_comesTo_27 (by decide) (fun c27 => ?_) (fun c27 => ?_)
    · have hnb := bs_none hk (by omega) c27
      have e9 : cmF s k (i + 1) = (x2, x3, x4) := by rw [cmF, hnb]; exact he1
      refine v_iinc (pc := 73) dX9_comesTo_73 rfl (nI_1 i) rfl (by decide) ?_
      refine v_goto (pc := 76) (tgt := 10) dX9_comesTo_76 (by decide) ?_
      refine v_forget 6 ?_
      exact ih (i + 1) _ _ _ G (by omega) e9 hG
    · obtain ⟨q, hnb, hq, e6⟩ := bs_some hk (by omega) c27
      refine v_iload_n (pc := 30) dX9_comesTo_30 rfl rfl ?_
      refine v_aload_n (pc := 31) dX9_comesTo_31 rfl rfl ?_
      refine vm_getA (pc := 32) (k := 15) hG dX9_comesTo_32 fl_X9_48 (by decide) ?_
      refine v_iload (pc := 35) dX9_comesTo_35 rfl ?_
      refine vm_iald (pc := 37) (k := 15) (j := q) hG dX9_comesTo_37 rfl e6 (by have h0 : ml 15 = 36 := rfl; omega) rfl ?_
      refine v_iadd (pc := 38) dX9_comesTo_38 ?_
      refine v_istore_n (pc := 39) dX9_comesTo_39 rfl rfl (by decide) ?_
      refine v_iload_n (pc := 40) dX9_comesTo_40 rfl rfl ?_
      refine v_if_eq (pc := 41) (tgt := 56) dX9_comesTo_41 (by decide) (fun c41 => ?_) (fun c41 => ?_)
      · have e9 : cmF s k (i + 1) = (x2 + s.1 15 q, x3 + 1, s.1 15 q) := by rw [cmF, hnb]; simp only [he1]; rw [if_pos (Or.inl c41)]
        refine v_aload_n (pc := 56) dX9_comesTo_56 rfl rfl ?_
        refine vm_getA (pc := 57) (k := 15) hG dX9_comesTo_57 fl_X9_48 (by decide) ?_
        refine v_iload (pc := 60) dX9_comesTo_60 rfl ?_
        refine vm_iald (pc := 62) (k := 15) (j := q) hG dX9_comesTo_62 rfl e6 (by have h0 : ml 15 = 36 := rfl; omega) rfl ?_
        refine v_goto (pc := 63) (tgt := 68) dX9_comesTo_63 (by decide) ?_
        refine v_istore (pc := 68) dX9_comesTo_68 rfl (by decide) ?_
        refine v_iinc (pc := 70) dX9_comesTo_70 rfl rfl rfl (by decide) ?_
        refine v_iinc (pc := 73) dX9_comesTo_73 rfl (nI_1 i) rfl (by decide) ?_
        refine v_goto (pc := 76) (tgt := 10) dX9_comesTo_76 (by decide) ?_
        refine v_forget 6 ?_
        exact ih (i + 1) _ _ _ G (by omega) e9 hG
      · refine v_aload_n (pc := 44) dX9_comesTo_44 rfl rfl ?_
        refine vm_getA (pc := 45) (k := 15) hG dX9_comesTo_45 fl_X9_48 (by decide) ?_
        refine v_iload (pc := 48) dX9_comesTo_48 rfl ?_
        refine vm_iald (pc := 50) (k := 15) (j := q) hG dX9_comesTo_50 rfl e6 (by have h0 : ml 15 = 36 := rfl; omega) rfl ?_
        refine v_iload (pc := 51) dX9_comesTo_51 rfl ?_
        refine v_icmp_le (pc := 53) (tgt := 66) dX9_comesTo_53 (by decide) (fun c53 => ?_) (fun c53 => ?_)
        · have e9 : cmF s k (i + 1) = (x2 + s.1 15 q, x3 + 1, x4) := by rw [cmF, hnb]; simp only [he1]; rw [if_neg (fun z => z.elim c41 (n_nlt.mpr c53))]
          refine v_iload (pc := 66) dX9_comesTo_66 rfl ?_
          refine v_istore (pc := 68) dX9_comesTo_68 rfl (by decide) ?_
          refine v_iinc (pc := 70) dX9_comesTo_70 rfl rfl rfl (by decide) ?_
          refine v_iinc (pc := 73) dX9_comesTo_73 rfl (nI_1 i) rfl (by decide) ?_
          refine v_goto (pc := 76) (tgt := 10) dX9_comesTo_76 (by decide) ?_
          refine v_forget 6 ?_
          exact ih (i + 1) _ _ _ G (by omega) e9 hG
        · have e9 : cmF s k (i + 1) = (x2 + s.1 15 q, x3 + 1, s.1 15 q) := by rw [cmF, hnb]; simp only [he1]; rw [if_pos (Or.inr (n_nle.mp c53))]
          refine v_aload_n (pc := 56) dX9_comesTo_56 rfl rfl ?_
          refine vm_getA (pc := 57) (k := 15) hG dX9_comesTo_57 fl_X9_48 (by decide) ?_
          refine v_iload (pc := 60) dX9_comesTo_60 rfl ?_
          refine vm_iald (pc := 62) (k := 15) (j := q) hG dX9_comesTo_62 rfl e6 (by have h0 : ml 15 = 36 := rfl; omega) rfl ?_
          refine v_goto (pc := 63) (tgt := 68) dX9_comesTo_63 (by decide) ?_
          refine v_istore (pc := 68) dX9_comesTo_68 rfl (by decide) ?_
          refine v_iinc (pc := 70) dX9_comesTo_70 rfl rfl rfl (by decide) ?_
          refine v_iinc (pc := 73) dX9_comesTo_73 rfl (nI_1 i) rfl (by decide) ?_
          refine v_goto (pc := 76) (tgt := 10) dX9_comesTo_76 (by decide) ?_
          refine v_forget 6 ?_
          exact ih (i + 1) _ _ _ G (by omega) e9 hG
set_option maxRecDepth 100000 in
set_option maxHeartbeats 4000000 in
theorem c_X9_comesTo (D : DT) (m : Nat) (ad : AdT) (s : SG) (k : Nat)  (hk : k < 36) : MM yX9_comesTo cX9_comesTo 7 (Option.some Jvm.ClassFile.FieldType.int) rm_X9_comesTo D [.ref m, .int (nI k)] m ad s (fun v s' => v = some (.int (cmS s k)) ∧ s' = s) := by
  intro G hG
  refine MC_of (by decide +kernel) (Nat.le_of_ble_eq_true rfl) (fun K sz hR => ?_)
  show V cX9_comesTo _ 7 _ D K 0 [some (.ref m), some (.int (nI k)), none, none, none, none, none] [] G (0, 0)
  refine v_iconst (pc := 0) (v := 0) dX9_comesTo_0 (by decide) ?_
  refine v_istore_n (pc := 1) dX9_comesTo_1 rfl rfl (by decide) ?_
  refine v_iconst (pc := 2) (v := 0) dX9_comesTo_2 (by decide) ?_
  refine v_istore_n (pc := 3) dX9_comesTo_3 rfl rfl (by decide) ?_
  refine v_iconst (pc := 4) (v := 0) dX9_comesTo_4 (by decide) ?_
  refine v_istore (pc := 5) dX9_comesTo_5 rfl (by decide) ?_
  refine v_iconst (pc := 7) (v := 0) dX9_comesTo_7 (by decide) ?_
  refine v_istore (pc := 8) dX9_comesTo_8 rfl (by decide) ?_
  refine l_X9_comesTo k hk (fun x2 x3 x4 G he hG => ?_) 4 0 0 0 0 G (by omega) rfl hG
  have hx3 : x3 = nI (cmN k 4) := by rw [← cmF_n s k 4, he]
  have hne : ¬ x3 = 0 := by rw [hx3]; exact cmN_4 k hk
  refine v_iload_n (pc := 79) dX9_comesTo_79 rfl rfl ?_
  refine v_iload_n (pc := 80) dX9_comesTo_80 rfl rfl ?_
  refine v_idiv (pc := 81) dX9_comesTo_81 hne ?_
  refine v_istore (pc := 82) dX9_comesTo_82 rfl (by decide) ?_
  refine v_iload_n (pc := 84) dX9_comesTo_84 rfl rfl ?_
  refine v_if_ge (pc := 85) (tgt := 101) dX9_comesTo_85 (by decide) (fun c85 => ?_) (fun c85 => ?_)
  · have hm : mean x2 x3 = x2 / x3 := by rw [mean, if_neg (fun z => (n_nlt.mpr c85) z.1)]
    refine v_iload (pc := 101) dX9_comesTo_101 rfl ?_
    refine v_istore (pc := 103) dX9_comesTo_103 rfl (by decide) ?_
    refine v_iload (pc := 105) dX9_comesTo_105 rfl ?_
    refine v_aload_n (pc := 107) dX9_comesTo_107 rfl rfl ?_
    refine vm_getI (pc := 108) (k := 18) hG dX9_comesTo_108 fl_X9_157 rfl (by decide) rfl ?_
    refine v_isub (pc := 111) dX9_comesTo_111 ?_
    refine v_istore (pc := 112) dX9_comesTo_112 rfl (by decide) ?_
    refine v_iload (pc := 114) dX9_comesTo_114 rfl ?_
    refine v_iload (pc := 116) dX9_comesTo_116 rfl ?_
    refine v_icmp_le (pc := 118) (tgt := 126) dX9_comesTo_118 (by decide) (fun c118 => ?_) (fun c118 => ?_)
    · refine v_iload (pc := 126) dX9_comesTo_126 rfl ?_
      refine v_iret (pc := 128) hR dX9_comesTo_128 ⟨by decide, by decide⟩ ?_
      refine ⟨_, hG, ?_, rfl⟩
      rw [cmS, he]
      simp only [hm]
      first | rw [if_pos c118] | rw [if_neg c118]
    · refine v_iload (pc := 121) dX9_comesTo_121 rfl ?_
      refine v_goto (pc := 123) (tgt := 128) dX9_comesTo_123 (by decide) ?_
      refine v_iret (pc := 128) hR dX9_comesTo_128 ⟨by decide, by decide⟩ ?_
      refine ⟨_, hG, ?_, rfl⟩
      rw [cmS, he]
      simp only [hm]
      first | rw [if_pos c118] | rw [if_neg c118]
  · refine v_iload_n (pc := 88) dX9_comesTo_88 rfl rfl ?_
    refine v_iload_n (pc := 89) dX9_comesTo_89 rfl rfl ?_
    refine v_irem (pc := 90) dX9_comesTo_90 hne ?_
    refine v_if_eq (pc := 91) (tgt := 101) dX9_comesTo_91 (by decide) (fun c91 => ?_) (fun c91 => ?_)
    · have hm : mean x2 x3 = x2 / x3 := by rw [mean, if_neg (fun z => z.2 c91)]
      refine v_iload (pc := 101) dX9_comesTo_101 rfl ?_
      refine v_istore (pc := 103) dX9_comesTo_103 rfl (by decide) ?_
      refine v_iload (pc := 105) dX9_comesTo_105 rfl ?_
      refine v_aload_n (pc := 107) dX9_comesTo_107 rfl rfl ?_
      refine vm_getI (pc := 108) (k := 18) hG dX9_comesTo_108 fl_X9_157 rfl (by decide) rfl ?_
      refine v_isub (pc := 111) dX9_comesTo_111 ?_
      refine v_istore (pc := 112) dX9_comesTo_112 rfl (by decide) ?_
      refine v_iload (pc := 114) dX9_comesTo_114 rfl ?_
      refine v_iload (pc := 116) dX9_comesTo_116 rfl ?_
      refine v_icmp_le (pc := 118) (tgt := 126) dX9_comesTo_118 (by decide) (fun c118 => ?_) (fun c118 => ?_)
      · refine v_iload (pc := 126) dX9_comesTo_126 rfl ?_
        refine v_iret (pc := 128) hR dX9_comesTo_128 ⟨by decide, by decide⟩ ?_
        refine ⟨_, hG, ?_, rfl⟩
        rw [cmS, he]
        simp only [hm]
        first | rw [if_pos c118] | rw [if_neg c118]
      · refine v_iload (pc := 121) dX9_comesTo_121 rfl ?_
        refine v_goto (pc := 123) (tgt := 128) dX9_comesTo_123 (by decide) ?_
        refine v_iret (pc := 128) hR dX9_comesTo_128 ⟨by decide, by decide⟩ ?_
        refine ⟨_, hG, ?_, rfl⟩
        rw [cmS, he]
        simp only [hm]
        first | rw [if_pos c118] | rw [if_neg c118]
    · have hm : mean x2 x3 = x2 / x3 - 1 := by rw [mean, if_pos ⟨n_nle.mp c85, c91⟩]
      refine v_iload (pc := 94) dX9_comesTo_94 rfl ?_
      refine v_iconst (pc := 96) (v := 1) dX9_comesTo_96 (by decide) ?_
      refine v_isub (pc := 97) dX9_comesTo_97 ?_
      refine v_goto (pc := 98) (tgt := 103) dX9_comesTo_98 (by decide) ?_
      refine v_istore (pc := 103) dX9_comesTo_103 rfl (by decide) ?_
      refine v_iload (pc := 105) dX9_comesTo_105 rfl ?_
      refine v_aload_n (pc := 107) dX9_comesTo_107 rfl rfl ?_
      refine vm_getI (pc := 108) (k := 18) hG dX9_comesTo_108 fl_X9_157 rfl (by decide) rfl ?_
      refine v_isub (pc := 111) dX9_comesTo_111 ?_
      refine v_istore (pc := 112) dX9_comesTo_112 rfl (by decide) ?_
      refine v_iload (pc := 114) dX9_comesTo_114 rfl ?_
      refine v_iload (pc := 116) dX9_comesTo_116 rfl ?_
      refine v_icmp_le (pc := 118) (tgt := 126) dX9_comesTo_118 (by decide) (fun c118 => ?_) (fun c118 => ?_)
      · refine v_iload (pc := 126) dX9_comesTo_126 rfl ?_
        refine v_iret (pc := 128) hR dX9_comesTo_128 ⟨by decide, by decide⟩ ?_
        refine ⟨_, hG, ?_, rfl⟩
        rw [cmS, he]
        simp only [hm]
        first | rw [if_pos c118] | rw [if_neg c118]
      · refine v_iload (pc := 121) dX9_comesTo_121 rfl ?_
        refine v_goto (pc := 123) (tgt := 128) dX9_comesTo_123 (by decide) ?_
        refine v_iret (pc := 128) hR dX9_comesTo_128 ⟨by decide, by decide⟩ ?_
        refine ⟨_, hG, ?_, rfl⟩
        rw [cmS, he]
        simp only [hm]
        first | rw [if_pos c118] | rw [if_neg c118]
/-- a step of the net -/
def nxS (s : SG) (k : Nat) : Int32 := if s.1 17 k = 0 then cmS s k else s.1 15 k
def mvF (s : SG) : Nat → Bool
  | 0 => false
  | i + 1 => mvF s i || decide (¬ nxS s i = s.1 15 i)
def ph1 (s : SG) (i : Nat) : SG := (fun k j => if k = 16 ∧ j < i then nxS s j else s.1 k j, s.2)
def ph2 (s : SG) (i : Nat) : SG := (fun k j => if k = 15 ∧ j < i then nxS s j else (ph1 s 36).1 k j, s.2)
def stepS (s : SG) : SG := ph2 s 36
theorem ph1_s (s : SG) (i : Nat) : sI (ph1 s i) 16 i (nxS s i) = ph1 s (i + 1) := by
  refine Prod.ext (funext fun k => funext fun j => ?_) rfl
  simp only [sI, u2, ph1]
  by_cases h1 : k = 16
  · by_cases h2 : j = i
    · subst h2; simp [h1]
    · have h3 : (j < i + 1) = (j < i) := by simp; omega
      simp [h1, h2, h3]
  · simp [h1]
theorem ph2_s (s : SG) (i : Nat) : sI (ph2 s i) 15 i (nxS s i) = ph2 s (i + 1) := by
  refine Prod.ext (funext fun k => funext fun j => ?_) rfl
  simp only [sI, u2, ph2]
  by_cases h1 : k = 15
  · by_cases h2 : j = i
    · subst h2; simp [h1]
    · have h3 : (j < i + 1) = (j < i) := by simp; omega
      simp [h1, h2, h3]
  · simp [h1]
theorem ph1_0 (s : SG) : ph1 s 0 = s := by
  refine Prod.ext (funext fun k => funext fun j => ?_) rfl
  simp [ph1]
theorem ph2_0 (s : SG) : ph2 s 0 = ph1 s 36 := by
  refine Prod.ext (funext fun k => funext fun j => ?_) rfl
  simp [ph2]
theorem ph1_15 (s : SG) (i : Nat) : (ph1 s i).1 15 = s.1 15 := funext fun j => by simp [ph1]
theorem ph1_17 (s : SG) (i : Nat) : (ph1 s i).1 17 = s.1 17 := funext fun j => by simp [ph1]
theorem ph1_18 (s : SG) (i : Nat) : (ph1 s i).1 18 0 = s.1 18 0 := by simp [ph1]
theorem ph2_16 (s : SG) {i j : Nat} (h : j < 36) : (ph2 s i).1 16 j = nxS s j := by simp [ph2, ph1, h]
def b01 (b : Bool) : Int32 := if b then 1 else 0
theorem b01_0 {b : Bool} : b01 b = 0 ↔ b = false := by cases b <;> simp [b01]
theorem b01_nar (b : Bool) : narrow .boolean (.int (b01 b)) = .int (b01 b) := by cases b <;> rfl
set_option maxRecDepth 100000 in
set_option maxHeartbeats 4000000 in
theorem l_X9_steps1 {D : DT} {K : KT} {m : Nat} {ad : AdT} {s : SG}  (kk : ∀ (G : GT), MD m ad (ph1 s 36) G → V cX9_steps yX9_steps.cls 3 rm_X9_steps D K 70 [some (.ref m), some (.int (b01 (mvF s 36))), some (.int (nI 36))] [] G (0, 0)) : ∀ (d i : Nat)  (G : GT), i + d = 36 → MD m ad (ph1 s i) G → V cX9_steps yX9_steps.cls 3 rm_X9_steps D K 4 [some (.ref m), some (.int (b01 (mvF s i))), some (.int (nI i))] [] G (0, 0) := by
  intro d
  induction d with
  | zero =>
    intro i  G he0 he1 
    refine v_iload_n (pc := 4) dX9_steps_4 rfl rfl ?_
    refine v_bipush (pc := 5) (v := 36) dX9_steps_5 (by decide) ?_
    refine v_icmp_ge (pc := 7) (tgt := 70) dX9_steps_7 (by decide) (fun c7 => ?_) (fun c7 => absurd c7 (not_not_intro (by rw [show i = 36 by omega]; decide)))
    have e : i = 36 := by omega
    subst e
    exact kk G he1
  | succ d ih =>
    intro i  G he0 he1 
    have hG := he1
    refine v_iload_n (pc := 4) dX9_steps_4 rfl rfl ?_
    refine v_bipush (pc := 5) (v := 36) dX9_steps_5 (by decide) ?_
    refine v_icmp_ge (pc := 7) (tgt := 70) dX9_steps_7 (by decide) (fun c7 => absurd c7 (nI_ge (b := 36) (by omega) (by decide))) (fun c7 => ?_)
    refine v_aload_n (pc := 10) dX9_steps_10 rfl rfl ?_
    refine vm_getA (pc := 11) (k := 16) hG dX9_steps_11 fl_X9_51 (by decide) ?_
    refine v_iload_n (pc := 14) dX9_steps_14 rfl rfl ?_
    refine v_aload_n (pc := 15) dX9_steps_15 rfl rfl ?_
    refine vm_getA (pc := 16) (k := 17) hG dX9_steps_16 fl_X9_54 (by decide) ?_
    refine v_iload_n (pc := 19) dX9_steps_19 rfl rfl ?_
    refine vm_zald (pc := 20) (k := 17) (j := i) hG dX9_steps_20 rfl rfl (by have h0 : ml 17 = 36 := rfl; omega) (x := s.1 17 i) (by rw [ph1_17]) ?_
    refine v_if_eq (pc := 21) (tgt := 33) dX9_steps_21 (by decide) (fun c21 => ?_) (fun c21 => ?_)
    · have e8 : cmS (ph1 s i) i = nxS s i := by rw [nxS, if_pos c21, cmS_eq (ph1_15 s i) (ph1_18 s i)]
      refine v_aload_n (pc := 33) dX9_steps_33 rfl rfl ?_
      refine v_iload_n (pc := 34) dX9_steps_34 rfl rfl ?_
      refine vm_callV1 (pc := 35) (0, 0) hG dX9_steps_35 cw_X9_164 im_yX9_comesTo se_yX9_comesTo (c_X9_comesTo D m ad _ i (by omega)) rfl (Nat.le_of_ble_eq_true rfl) ⟨Nat.le_of_ble_eq_true rfl, Nat.le_of_ble_eq_true rfl⟩ ⟨by decide, by decide⟩ rfl (fun v s1 G hp hG => ?_)
      obtain ⟨hv1, hs1⟩ := hp
      subst hv1
      subst s1
      refine vm_iast (pc := 38) (k := 16) (j := i) hG dX9_steps_38 rfl rfl (by have h0 : ml 16 = 36 := rfl; omega) (fun G hG => ?_)
      refine v_iload_n (pc := 39) dX9_steps_39 rfl rfl ?_
      refine v_if_ne (pc := 40) (tgt := 58) dX9_steps_40 (by decide) (fun c40 => ?_) (fun c40 => ?_)
      · have e7 : b01 (mvF s (i + 1)) = 1 := by have z : mvF s i = true := (by cases hz : mvF s i with | true => rfl | false => exact absurd (b01_0.mpr hz) c40); simp [mvF, z, b01]
        refine v_iconst (pc := 58) (v := 1) dX9_steps_58 (by decide) ?_
        refine v_goto (pc := 59) (tgt := 63) dX9_steps_59 (by decide) ?_
        refine v_istore_n (pc := 63) dX9_steps_63 rfl rfl (by decide) ?_
        refine v_iinc (pc := 64) dX9_steps_64 rfl (nI_1 i) rfl (by decide) ?_
        refine v_goto (pc := 67) (tgt := 4) dX9_steps_67 (by decide) ?_
        rw [e8, ph1_s] at hG
        rw [← e7]
        exact ih (i + 1) G (by omega) hG
      · have z : mvF s i = false := b01_0.mp c40
        refine v_aload_n (pc := 43) dX9_steps_43 rfl rfl ?_
        refine vm_getA (pc := 44) (k := 16) hG dX9_steps_44 fl_X9_51 (by decide) ?_
        refine v_iload_n (pc := 47) dX9_steps_47 rfl rfl ?_
        refine vm_iald (pc := 48) (k := 16) (j := i) hG dX9_steps_48 rfl rfl (by have h0 : ml 16 = 36 := rfl; omega) (x := nxS s i) (by rw [e8, ph1_s]; simp [ph1]) ?_
        refine v_aload_n (pc := 49) dX9_steps_49 rfl rfl ?_
        refine vm_getA (pc := 50) (k := 15) hG dX9_steps_50 fl_X9_48 (by decide) ?_
        refine v_iload_n (pc := 53) dX9_steps_53 rfl rfl ?_
        refine vm_iald (pc := 54) (k := 15) (j := i) hG dX9_steps_54 rfl rfl (by have h0 : ml 15 = 36 := rfl; omega) (x := s.1 15 i) (by simp [sI, u2, ph1_15]) ?_
        refine v_icmp_eq (pc := 55) (tgt := 62) dX9_steps_55 (by decide) (fun c55 => ?_) (fun c55 => ?_)
        · have e7 : b01 (mvF s (i + 1)) = 0 := by simp [mvF, z, b01, c55]
          refine v_iconst (pc := 62) (v := 0) dX9_steps_62 (by decide) ?_
          refine v_istore_n (pc := 63) dX9_steps_63 rfl rfl (by decide) ?_
          refine v_iinc (pc := 64) dX9_steps_64 rfl (nI_1 i) rfl (by decide) ?_
          refine v_goto (pc := 67) (tgt := 4) dX9_steps_67 (by decide) ?_
          rw [e8, ph1_s] at hG
          rw [← e7]
          exact ih (i + 1) G (by omega) hG
        · have e7 : b01 (mvF s (i + 1)) = 1 := by simp [mvF, z, b01, c55]
          refine v_iconst (pc := 58) (v := 1) dX9_steps_58 (by decide) ?_
          refine v_goto (pc := 59) (tgt := 63) dX9_steps_59 (by decide) ?_
          refine v_istore_n (pc := 63) dX9_steps_63 rfl rfl (by decide) ?_
          refine v_iinc (pc := 64) dX9_steps_64 rfl (nI_1 i) rfl (by decide) ?_
          refine v_goto (pc := 67) (tgt := 4) dX9_steps_67 (by decide) ?_
          rw [e8, ph1_s] at hG
          rw [← e7]
          exact ih (i + 1) G (by omega) hG
    · have e8 : s.1 15 i = nxS s i := by rw [nxS, if_neg c21]
      refine v_aload_n (pc := 24) dX9_steps_24 rfl rfl ?_
      refine vm_getA (pc := 25) (k := 15) hG dX9_steps_25 fl_X9_48 (by decide) ?_
      refine v_iload_n (pc := 28) dX9_steps_28 rfl rfl ?_
      refine vm_iald (pc := 29) (k := 15) (j := i) hG dX9_steps_29 rfl rfl (by have h0 : ml 15 = 36 := rfl; omega) (x := s.1 15 i) (by rw [ph1_15]) ?_
      refine v_goto (pc := 30) (tgt := 38) dX9_steps_30 (by decide) ?_
      refine vm_iast (pc := 38) (k := 16) (j := i) hG dX9_steps_38 rfl rfl (by have h0 : ml 16 = 36 := rfl; omega) (fun G hG => ?_)
      refine v_iload_n (pc := 39) dX9_steps_39 rfl rfl ?_
      refine v_if_ne (pc := 40) (tgt := 58) dX9_steps_40 (by decide) (fun c40 => ?_) (fun c40 => ?_)
      · have e7 : b01 (mvF s (i + 1)) = 1 := by have z : mvF s i = true := (by cases hz : mvF s i with | true => rfl | false => exact absurd (b01_0.mpr hz) c40); simp [mvF, z, b01]
        refine v_iconst (pc := 58) (v := 1) dX9_steps_58 (by decide) ?_
        refine v_goto (pc := 59) (tgt := 63) dX9_steps_59 (by decide) ?_
        refine v_istore_n (pc := 63) dX9_steps_63 rfl rfl (by decide) ?_
        refine v_iinc (pc := 64) dX9_steps_64 rfl (nI_1 i) rfl (by decide) ?_
        refine v_goto (pc := 67) (tgt := 4) dX9_steps_67 (by decide) ?_
        rw [e8, ph1_s] at hG
        rw [← e7]
        exact ih (i + 1) G (by omega) hG
      · have z : mvF s i = false := b01_0.mp c40
        refine v_aload_n (pc := 43) dX9_steps_43 rfl rfl ?_
        refine vm_getA (pc := 44) (k := 16) hG dX9_steps_44 fl_X9_51 (by decide) ?_
        refine v_iload_n (pc := 47) dX9_steps_47 rfl rfl ?_
        refine vm_iald (pc := 48) (k := 16) (j := i) hG dX9_steps_48 rfl rfl (by have h0 : ml 16 = 36 := rfl; omega) (x := nxS s i) (by rw [e8, ph1_s]; simp [ph1]) ?_
        refine v_aload_n (pc := 49) dX9_steps_49 rfl rfl ?_
        refine vm_getA (pc := 50) (k := 15) hG dX9_steps_50 fl_X9_48 (by decide) ?_
        refine v_iload_n (pc := 53) dX9_steps_53 rfl rfl ?_
        refine vm_iald (pc := 54) (k := 15) (j := i) hG dX9_steps_54 rfl rfl (by have h0 : ml 15 = 36 := rfl; omega) (x := s.1 15 i) (by simp [sI, u2, ph1_15]) ?_
        refine v_icmp_eq (pc := 55) (tgt := 62) dX9_steps_55 (by decide) (fun c55 => ?_) (fun c55 => ?_)
        · have e7 : b01 (mvF s (i + 1)) = 0 := by simp [mvF, z, b01, c55]
          refine v_iconst (pc := 62) (v := 0) dX9_steps_62 (by decide) ?_
          refine v_istore_n (pc := 63) dX9_steps_63 rfl rfl (by decide) ?_
          refine v_iinc (pc := 64) dX9_steps_64 rfl (nI_1 i) rfl (by decide) ?_
          refine v_goto (pc := 67) (tgt := 4) dX9_steps_67 (by decide) ?_
          rw [e8, ph1_s] at hG
          rw [← e7]
          exact ih (i + 1) G (by omega) hG
        · have e7 : b01 (mvF s (i + 1)) = 1 := by simp [mvF, z, b01, c55]
          refine v_iconst (pc := 58) (v := 1) dX9_steps_58 (by decide) ?_
          refine v_goto (pc := 59) (tgt := 63) dX9_steps_59 (by decide) ?_
          refine v_istore_n (pc := 63) dX9_steps_63 rfl rfl (by decide) ?_
          refine v_iinc (pc := 64) dX9_steps_64 rfl (nI_1 i) rfl (by decide) ?_
          refine v_goto (pc := 67) (tgt := 4) dX9_steps_67 (by decide) ?_
          rw [e8, ph1_s] at hG
          rw [← e7]
          exact ih (i + 1) G (by omega) hG
set_option maxRecDepth 100000 in
set_option maxHeartbeats 4000000 in
theorem l_X9_steps2 {D : DT} {K : KT} {m : Nat} {ad : AdT} {s : SG} {w1 : Int32}  (kk : ∀ (G : GT), MD m ad (stepS s) G → V cX9_steps yX9_steps.cls 3 rm_X9_steps D K 96 [some (.ref m), some (.int w1), some (.int (nI 36))] [] G (0, 0)) : ∀ (d i : Nat)  (G : GT), i + d = 36 → MD m ad (ph2 s i) G → V cX9_steps yX9_steps.cls 3 rm_X9_steps D K 72 [some (.ref m), some (.int w1), some (.int (nI i))] [] G (0, 0) := by
  intro d
  induction d with
  | zero =>
    intro i  G he0 he1 
    refine v_iload_n (pc := 72) dX9_steps_72 rfl rfl ?_
    refine v_bipush (pc := 73) (v := 36) dX9_steps_73 (by decide) ?_
    refine v_icmp_ge (pc := 75) (tgt := 96) dX9_steps_75 (by decide) (fun c75 => ?_) (fun c75 => absurd c75 (not_not_intro (by rw [show i = 36 by omega]; decide)))
    have e : i = 36 := by omega
    subst e
    exact kk G he1
  | succ d ih =>
    intro i  G he0 he1 
    have hG := he1
    refine v_iload_n (pc := 72) dX9_steps_72 rfl rfl ?_
    refine v_bipush (pc := 73) (v := 36) dX9_steps_73 (by decide) ?_
    refine v_icmp_ge (pc := 75) (tgt := 96) dX9_steps_75 (by decide) (fun c75 => absurd c75 (nI_ge (b := 36) (by omega) (by decide))) (fun c75 => ?_)
    refine v_aload_n (pc := 78) dX9_steps_78 rfl rfl ?_
    refine vm_getA (pc := 79) (k := 15) hG dX9_steps_79 fl_X9_48 (by decide) ?_
    refine v_iload_n (pc := 82) dX9_steps_82 rfl rfl ?_
    refine v_aload_n (pc := 83) dX9_steps_83 rfl rfl ?_
    refine vm_getA (pc := 84) (k := 16) hG dX9_steps_84 fl_X9_51 (by decide) ?_
    refine v_iload_n (pc := 87) dX9_steps_87 rfl rfl ?_
    refine vm_iald (pc := 88) (k := 16) (j := i) hG dX9_steps_88 rfl rfl (by have h0 : ml 16 = 36 := rfl; omega) (x := nxS s i) (ph2_16 s (by omega)) ?_
    refine vm_iast (pc := 89) (k := 15) (j := i) hG dX9_steps_89 rfl rfl (by have h0 : ml 15 = 36 := rfl; omega) (fun G hG => ?_)
    refine v_iinc (pc := 90) dX9_steps_90 rfl (nI_1 i) rfl (by decide) ?_
    refine v_goto (pc := 93) (tgt := 72) dX9_steps_93 (by decide) ?_
    rw [ph2_s] at hG
    exact ih (i + 1) G (by omega) hG
set_option maxRecDepth 100000 in
set_option maxHeartbeats 4000000 in
theorem c_X9_steps (D : DT) (m : Nat) (ad : AdT) (s : SG)    : MM yX9_steps cX9_steps 3 (Option.some Jvm.ClassFile.FieldType.boolean) rm_X9_steps D [.ref m] m ad s (fun v s' => v = some (.int (b01 (mvF s 36))) ∧ s' = stepS s) := by
  intro G hG
  refine MC_of (by decide +kernel) (Nat.le_of_ble_eq_true rfl) (fun K sz hR => ?_)
  show V cX9_steps _ 3 _ D K 0 [some (.ref m), none, none] [] G (0, 0)
  refine v_iconst (pc := 0) (v := 0) dX9_steps_0 (by decide) ?_
  refine v_istore_n (pc := 1) dX9_steps_1 rfl rfl (by decide) ?_
  refine v_iconst (pc := 2) (v := 0) dX9_steps_2 (by decide) ?_
  refine v_istore_n (pc := 3) dX9_steps_3 rfl rfl (by decide) ?_
  refine l_X9_steps1 (s := s) (fun G hG => ?_) 36 0 G (by omega) (by rw [ph1_0]; exact hG)
  refine v_iconst (pc := 70) (v := 0) dX9_steps_70 (by decide) ?_
  refine v_istore_n (pc := 71) dX9_steps_71 rfl rfl (by decide) ?_
  refine l_X9_steps2 (s := s) (fun G hG => ?_) 36 0 G (by omega) (by rw [ph2_0]; exact hG)
  refine v_iload_n (pc := 96) dX9_steps_96 rfl rfl ?_
  refine v_zret (pc := 97) hR dX9_steps_97 (b01_nar _) ⟨by decide, by decide⟩ ?_
  exact ⟨_, hG, rfl, rfl⟩
