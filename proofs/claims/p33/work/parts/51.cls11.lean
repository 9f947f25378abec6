/-- the class' state with the loads L that came to its panels -/
def sK (s : SG) (L : LT) : SG := (s.1, fun k => if k = 42 then L else s.2 k)
theorem sK_sJ (s : SG) (L : LT) (b : Nat) (x : Int64) : sJ (sK s L) 42 b x = sK s (u1 L b x) := by
  refine Prod.ext rfl (funext fun k => funext fun j => ?_)
  simp only [sJ, sK, u2, u1]
  by_cases h : k = 42
  · subst h
    by_cases h2 : j = b <;> simp [h2, u1]
  · simp [h]
theorem sK_self (s : SG) : sK s (s.2 42) = s := Prod.ext rfl (funext fun k => by by_cases h : k = 42 <;> simp [sK, h])
theorem u1_self {α : Type} (f : Nat → α) (a : Nat) : u1 f a (f a) = f := funext fun b => by by_cases h : b = a <;> simp [u1, h]
theorem sK_rel (s : SG) (L : LT) (a b : Nat) (c : Int64) : sJ (sK s L) 42 b (if (if c < L a then c else L a) < L b then L b else (if c < L a then c else L a)) = sK s (rel a b c L) := by
  rw [lM_eq, sK_sJ, rel]
  by_cases h : L b < lessL (L a) c
  · rw [if_pos h, if_neg (l_nlt.mpr (Int64.le_of_lt h))]
  · rw [if_neg h]
    by_cases h2 : lessL (L a) c < L b
    · rw [if_pos h2, u1_self]
    · rw [if_neg h2, show lessL (L a) c = L b from Int64.le_antisymm (l_nlt.mp h) (l_nlt.mp h2), u1_self]
set_option maxRecDepth 100000 in
set_option maxHeartbeats 400000 in
theorem c_X7_passOnLoad (D : DT) (X : XT) (s : SG) (i np ns : Nat) (s0 : SG) (L : LT)  (hL0 : X.2.1 15 i = true) (h : PV s0 np) (h2 : SV s0 np ns) (hi : i < ns) (hnp : np ≤ 12) (hns : ns ≤ 30) (hL : s = sK s0 L) : CC yX7_passOnLoad cX7_passOnLoad 3 (Option.none : Option Jvm.ClassFile.FieldType) rm_X7_passOnLoad D [.ref (X.1 15 i)] X s (fun v s' => v = none ∧ s' = sK s0 (rel (enB s0 i) (enA s0 i) (seamS s0 i) (rel (enA s0 i) (enB s0 i) (seamS s0 i) L))) := by
  intro G hG
  refine MC_of (by decide +kernel) (Nat.le_of_ble_eq_true rfl) (fun K sz hR => ?_)
  show V cX7_passOnLoad _ 3 _ D K 0 [some (.ref (X.1 15 i)), none, none] [] G (0, 0)
  subst hL
  obtain ⟨a, b, ha, hb, e1, e2⟩ := h2 i hi
  have ea : nat (s0.1 10 i) = a := by rw [e1]; exact nat_nI (by omega)
  have eb : nat (s0.1 11 i) = b := by rw [e2]; exact nat_nI (by omega)
  refine v_aload_n (pc := 0) dX7_passOnLoad_0 rfl rfl ?_
  refine vc_callV0 (pc := 1) (0, 0) hG dX7_passOnLoad_1 cw_X7_36 im_yX7_strengthNow se_yX7_strengthNow (c_X7_strengthNow D X _ i np ns (by assumption) h h2 hi hnp hns) (by assumption) rfl rfl (Nat.le_of_ble_eq_true rfl) ⟨Nat.le_of_ble_eq_true rfl, Nat.le_of_ble_eq_true rfl⟩ ⟨by decide, by decide⟩ rfl (fun v s1 G hp hG => ?_)
  obtain ⟨hv1, hs1⟩ := hp
  subst hv1
  subst s1
  refine v_lstore_n (pc := 4) dX7_passOnLoad_4 rfl rfl (by decide) ?_
  refine v_aload_n (pc := 5) dX7_passOnLoad_5 rfl rfl ?_
  refine vc_getR (pc := 6) (f := 1) hG dX7_passOnLoad_6 fl_X7_15 rfl (by assumption) rfl (by decide) (c' := 14) (i' := b) (by rw [rvL_15_1]; exact congrArg (fun z => some (14, z)) eb) (fun hL6 => ?_)
  refine v_aload_n (pc := 9) dX7_passOnLoad_9 rfl rfl ?_
  refine vc_getR (pc := 10) (f := 1) hG dX7_passOnLoad_10 fl_X7_15 rfl (by assumption) rfl (by decide) (c' := 14) (i' := b) (by rw [rvL_15_1]; exact congrArg (fun z => some (14, z)) eb) (fun hL10 => ?_)
  refine vc_getJ (pc := 13) (f := 3) hG dX7_passOnLoad_13 fl_X7_37 rfl (by assumption) rfl (by decide) (show jv _ 14 b 3 = L b from rfl) ?_
  refine v_aload_n (pc := 16) dX7_passOnLoad_16 rfl rfl ?_
  refine vc_getR (pc := 17) (f := 0) hG dX7_passOnLoad_17 fl_X7_9 rfl (by assumption) rfl (by decide) (c' := 14) (i' := a) (by rw [rvL_15_0]; exact congrArg (fun z => some (14, z)) ea) (fun hL17 => ?_)
  refine vc_getJ (pc := 20) (f := 3) hG dX7_passOnLoad_20 fl_X7_37 rfl (by assumption) rfl (by decide) (show jv _ 14 a 3 = L a from rfl) ?_
  refine v_lload_n (pc := 23) dX7_passOnLoad_23 rfl rfl ?_
  refine v_lmin (pc := 24) dX7_passOnLoad_24 ml_X7_28 mc_lmin.1 mc_lmin.2.1 mc_lmin.2.2 (by decide) (Nat.le_of_ble_eq_true rfl) (by decide) ⟨by decide, by decide⟩ ?_
  refine v_lmax (pc := 27) dX7_passOnLoad_27 ml_X7_41 mc_lmax.1 mc_lmax.2.1 mc_lmax.2.2 (by decide) (Nat.le_of_ble_eq_true rfl) (by decide) ⟨by decide, by decide⟩ ?_
  refine vc_putJ (pc := 30) hG dX7_passOnLoad_30 fw_X7_37 rfl (by assumption) rfl (uJ_14_3 _ _ _) (fun G hG => ?_)
  rw [show seamS (sK s0 L) i = seamS s0 i from rfl, sK_rel] at hG
  refine v_aload_n (pc := 33) dX7_passOnLoad_33 rfl rfl ?_
  refine vc_getR (pc := 34) (f := 0) hG dX7_passOnLoad_34 fl_X7_9 rfl (by assumption) rfl (by decide) (c' := 14) (i' := a) (by rw [rvL_15_0]; exact congrArg (fun z => some (14, z)) ea) (fun hL34 => ?_)
  refine v_aload_n (pc := 37) dX7_passOnLoad_37 rfl rfl ?_
  refine vc_getR (pc := 38) (f := 0) hG dX7_passOnLoad_38 fl_X7_9 rfl (by assumption) rfl (by decide) (c' := 14) (i' := a) (by rw [rvL_15_0]; exact congrArg (fun z => some (14, z)) ea) (fun hL38 => ?_)
  refine vc_getJ (pc := 41) (f := 3) hG dX7_passOnLoad_41 fl_X7_37 rfl (by assumption) rfl (by decide) (show jv _ 14 a 3 = rel a b (seamS s0 i) L a from rfl) ?_
  refine v_aload_n (pc := 44) dX7_passOnLoad_44 rfl rfl ?_
  refine vc_getR (pc := 45) (f := 1) hG dX7_passOnLoad_45 fl_X7_15 rfl (by assumption) rfl (by decide) (c' := 14) (i' := b) (by rw [rvL_15_1]; exact congrArg (fun z => some (14, z)) eb) (fun hL45 => ?_)
  refine vc_getJ (pc := 48) (f := 3) hG dX7_passOnLoad_48 fl_X7_37 rfl (by assumption) rfl (by decide) (show jv _ 14 b 3 = rel a b (seamS s0 i) L b from rfl) ?_
  refine v_lload_n (pc := 51) dX7_passOnLoad_51 rfl rfl ?_
  refine v_lmin (pc := 52) dX7_passOnLoad_52 ml_X7_28 mc_lmin.1 mc_lmin.2.1 mc_lmin.2.2 (by decide) (Nat.le_of_ble_eq_true rfl) (by decide) ⟨by decide, by decide⟩ ?_
  refine v_lmax (pc := 55) dX7_passOnLoad_55 ml_X7_41 mc_lmax.1 mc_lmax.2.1 mc_lmax.2.2 (by decide) (Nat.le_of_ble_eq_true rfl) (by decide) ⟨by decide, by decide⟩ ?_
  refine vc_putJ (pc := 58) hG dX7_passOnLoad_58 fw_X7_37 rfl (by assumption) rfl (uJ_14_3 _ _ _) (fun G hG => ?_)
  rw [show seamS (sK s0 L) i = seamS s0 i from rfl, sK_rel] at hG
  refine v_vret (pc := 61) hR dX7_passOnLoad_61 ⟨by decide, by decide⟩ ?_
  exact ⟨_, hG, rfl, by rw [show enA s0 i = a from ea, show enB s0 i = b from eb]⟩
def zL (L : LT) (i : Nat) : LT := fun v => if v < i then 0 else L v
theorem zL_0 (L : LT) : zL L 0 = L := funext fun v => by simp [zL]
theorem zL_s (L : LT) (i : Nat) : u1 (zL L i) i 0 = zL L (i + 1) := funext fun v => by
  simp only [u1, zL]
  by_cases h : v = i
  · subst h; simp
  · by_cases h2 : v < i
    · simp [h, h2, show v < i + 1 by omega]
    · simp [h, h2, show ¬ v < i + 1 by omega]
theorem zL_ini (s : SG) (L : LT) {np x : Nat} (hx : x < np) : u1 (zL L np) x (strS s x) = iniL s x L np := funext fun v => by
  simp only [u1, zL, iniL]
  by_cases h : v = x
  · subst h; simp [hx]
  · simp [h]
def capOK (s : SG) (ns : Nat) : Prop := ∀ i, i < ns → seamS s i ≤ strS s (enA s i) ∧ seamS s i ≤ strS s (enB s i)
theorem less_l {a b : Int64} (h : a ≤ b) : lessL a b = a := by
  unfold lessL
  by_cases c : a < b
  · rw [if_pos c]
  · rw [if_neg c]; exact Int64.le_antisymm (l_nlt.mp c) h
theorem rnd_p {s : SG} {ns : Nat} (hc : capOK s ns) (L : LT) {i : Nat} (hi : i < ns) (h : s.1 13 i = 0) : rnd (esM s (i + 1)) L = rel (enB s i) (enA s i) (seamS s i) (rel (enA s i) (enB s i) (seamS s i) (rnd (esM s i) L)) := by
  rw [rnd_s s L i h, capS, capS, less_l (hc i hi).1, less_l (hc i hi).2]
set_option maxRecDepth 100000 in
set_option maxHeartbeats 400000 in
theorem l_X8_spread1 {D : DT} {K : KT} {X : XT} {s : SG} (np x : Nat) (hnp : np ≤ 12) (hsl2 : ∀ f, f < 12 → X.2.2.1 2 f = decide (f < np)) (kk : ∀ (G : GT), LF X (sK s (zL (s.2 42) np)) G → V cX8_spreadLoadFrom yX8_spreadLoadFrom.cls 7 rm_X8_spreadLoadFrom D K 40 [some (.ref (X.1 0 0)), some (.ref (X.1 14 x)), some (.ref (X.1 2 0)), some (.int 12), some (.int (nI 12)), none, none] [] G (0, 0)) : ∀ (d i : Nat)  (G : GT), i + d = 12 → LF X (sK s (zL (s.2 42) (min i np))) G → V cX8_spreadLoadFrom yX8_spreadLoadFrom.cls 7 rm_X8_spreadLoadFrom D K 11 [some (.ref (X.1 0 0)), some (.ref (X.1 14 x)), some (.ref (X.1 2 0)), some (.int 12), some (.int (nI i)), none, none] [] G (0, 0) := by
  intro d
  induction d with
  | zero =>
    intro i  G he0 he1 
    refine v_iload (pc := 11) dX8_spreadLoadFrom_11 rfl ?_
    refine v_iload_n (pc := 13) dX8_spreadLoadFrom_13 rfl rfl ?_
    refine v_icmp_ge (pc := 14) (tgt := 40) dX8_spreadLoadFrom_14 (by decide) (fun c14 => ?_) (fun c14 => absurd c14 (not_not_intro (by rw [show i = 12 by omega]; decide)))
    have e : i = 12 := by omega
    subst e
    rw [show min 12 np = np by omega] at he1
    exact kk G he1
  | succ d ih =>
    intro i  G he0 he1 
    have hG := he1
    refine v_iload (pc := 11) dX8_spreadLoadFrom_11 rfl ?_
    refine v_iload_n (pc := 13) dX8_spreadLoadFrom_13 rfl rfl ?_
    refine v_icmp_ge (pc := 14) (tgt := 40) dX8_spreadLoadFrom_14 (by decide) (fun c14 => absurd c14 (nI_ge (b := 12) (by omega) (by decide))) (fun c14 => ?_)
    by_cases c21 : i < np
    · have m0 : min i np = i := by omega
      have m1 : min (i + 1) np = i + 1 := by omega
      rw [m0] at hG
      refine v_aload_n (pc := 17) dX8_spreadLoadFrom_17 rfl rfl ?_
      refine v_iload (pc := 18) dX8_spreadLoadFrom_18 rfl ?_
      refine vc_aald (pc := 20) (k := 6) (j := i) hG dX8_spreadLoadFrom_20 (hG.2.2.1 2 (by decide)) rfl (by decide) rfl rfl (by show _ < 12; omega) (c' := 14) (i' := i) (by show (if X.2.2.1 2 i then some (14, i) else none) = _; rw [hsl2 i (by omega), if_pos (decide_eq_true c21)]) (fun hL20 => ?_)
      refine v_astore (pc := 21) dX8_spreadLoadFrom_21 rfl (by decide) ?_
      refine v_aload (pc := 23) dX8_spreadLoadFrom_23 rfl ?_
      refine v_ifnull (pc := 25) dX8_spreadLoadFrom_25 ?_
      refine v_aload (pc := 28) dX8_spreadLoadFrom_28 rfl ?_
      refine v_lconst (pc := 30) (v := 0) dX8_spreadLoadFrom_30 (by decide) ?_
      refine vc_putJ (pc := 31) hG dX8_spreadLoadFrom_31 fw_X8_156 rfl (by assumption) rfl (uJ_14_3 _ _ _) (fun G hG => ?_)
      refine v_iinc (pc := 34) dX8_spreadLoadFrom_34 rfl (nI_1 i) rfl (by decide) ?_
      refine v_goto (pc := 37) (tgt := 11) dX8_spreadLoadFrom_37 (by decide) ?_
      rw [sK_sJ, zL_s] at hG
      have e8 := ih (i + 1) G (by omega) (by rw [m1]; exact hG)
      refine v_forget 5 ?_
      exact e8
    · have m0 : min i np = np := by omega
      have m1 : min (i + 1) np = np := by omega
      rw [m0] at hG
      refine v_aload_n (pc := 17) dX8_spreadLoadFrom_17 rfl rfl ?_
      refine v_iload (pc := 18) dX8_spreadLoadFrom_18 rfl ?_
      refine vc_aaldN (pc := 20) (k := 6) (j := i) hG dX8_spreadLoadFrom_20 (hG.2.2.1 2 (by decide)) rfl (by decide) rfl rfl (by show _ < 12; omega) (by show (if X.2.2.1 2 i then some (14, i) else none) = _; rw [hsl2 i (by omega), if_neg (by rw [decide_eq_true_eq]; omega)]) ?_
      refine v_astoreN (pc := 21) dX8_spreadLoadFrom_21 rfl (by decide) ?_
      refine v_aloadN (pc := 23) dX8_spreadLoadFrom_23 rfl ?_
      refine v_ifnullN (pc := 25) (tgt := 34) dX8_spreadLoadFrom_25 (by decide) ?_
      refine v_iinc (pc := 34) dX8_spreadLoadFrom_34 rfl (nI_1 i) rfl (by decide) ?_
      refine v_goto (pc := 37) (tgt := 11) dX8_spreadLoadFrom_37 (by decide) ?_
      refine v_forget 5 ?_
      exact ih (i + 1) G (by omega) (by rw [m1]; exact hG)
set_option maxRecDepth 100000 in
set_option maxHeartbeats 400000 in
theorem l_X8_spread2 {D : DT} {K : KT} {X : XT} {s : SG} (np ns x r : Nat) (L : LT) (h : PV s np) (h2 : SV s np ns) (hnp : np ≤ 12) (hns : ns ≤ 30) (hcap : capOK s ns) (hsl3 : ∀ f, f < 30 → X.2.2.1 3 f = decide (f < ns ∧ s.1 13 f = 0)) (kk : ∀ (G : GT), LF X (sK s (rnd (esM s ns) L)) G → V cX8_spreadLoadFrom yX8_spreadLoadFrom.cls 7 rm_X8_spreadLoadFrom D K 99 [some (.ref (X.1 0 0)), some (.ref (X.1 14 x)), some (.int (nI r)), some (.ref (X.1 3 0)), some (.int 30), some (.int (nI 30)), none] [] G (0, 0)) : ∀ (d i : Nat)  (G : GT), i + d = 30 → LF X (sK s (rnd (esM s (min i ns)) L)) G → V cX8_spreadLoadFrom yX8_spreadLoadFrom.cls 7 rm_X8_spreadLoadFrom D K 70 [some (.ref (X.1 0 0)), some (.ref (X.1 14 x)), some (.int (nI r)), some (.ref (X.1 3 0)), some (.int 30), some (.int (nI i)), none] [] G (0, 0) := by
  intro d
  induction d with
  | zero =>
    intro i  G he0 he1 
    refine v_iload (pc := 70) dX8_spreadLoadFrom_70 rfl ?_
    refine v_iload (pc := 72) dX8_spreadLoadFrom_72 rfl ?_
    refine v_icmp_ge (pc := 74) (tgt := 99) dX8_spreadLoadFrom_74 (by decide) (fun c74 => ?_) (fun c74 => absurd c74 (not_not_intro (by rw [show i = 30 by omega]; decide)))
    have e : i = 30 := by omega
    subst e
    rw [show min 30 ns = ns by omega] at he1
    exact kk G he1
  | succ d ih =>
    intro i  G he0 he1 
    have hG := he1
    refine v_iload (pc := 70) dX8_spreadLoadFrom_70 rfl ?_
    refine v_iload (pc := 72) dX8_spreadLoadFrom_72 rfl ?_
    refine v_icmp_ge (pc := 74) (tgt := 99) dX8_spreadLoadFrom_74 (by decide) (fun c74 => absurd c74 (nI_ge (b := 30) (by omega) (by decide))) (fun c74 => ?_)
    by_cases c21 : i < ns ∧ s.1 13 i = 0
    · have m0 : min i ns = i := by omega
      have m1 : min (i + 1) ns = i + 1 := by omega
      rw [m0] at hG
      refine v_aload_n (pc := 77) dX8_spreadLoadFrom_77 rfl rfl ?_
      refine v_iload (pc := 78) dX8_spreadLoadFrom_78 rfl ?_
      refine vc_aald (pc := 80) (k := 7) (j := i) hG dX8_spreadLoadFrom_80 (hG.2.2.1 3 (by decide)) rfl (by decide) rfl rfl (by show _ < 30; omega) (c' := 15) (i' := i) (by show (if X.2.2.1 3 i then some (15, i) else none) = _; rw [hsl3 i (by omega), if_pos (decide_eq_true c21)]) (fun hL80 => ?_)
      refine v_astore (pc := 81) dX8_spreadLoadFrom_81 rfl (by decide) ?_
      refine v_aload (pc := 83) dX8_spreadLoadFrom_83 rfl ?_
      refine v_ifnull (pc := 85) dX8_spreadLoadFrom_85 ?_
      refine v_aload (pc := 88) dX8_spreadLoadFrom_88 rfl ?_
      refine vc_callV0 (pc := 90) (0, 0) hG dX8_spreadLoadFrom_90 cw_X8_164 im_yX7_passOnLoad se_yX7_passOnLoad (c_X7_passOnLoad D X _ i np ns s (rnd (esM s i) L) (by assumption) h h2 c21.1 hnp hns rfl) (by assumption) rfl rfl (Nat.le_of_ble_eq_true rfl) ⟨Nat.le_of_ble_eq_true rfl, Nat.le_of_ble_eq_true rfl⟩ ⟨by decide, by decide⟩ rfl (fun v s1 G hp hG => ?_)
      obtain ⟨hv1, hs1⟩ := hp
      subst hv1
      subst s1
      refine v_iinc (pc := 93) dX8_spreadLoadFrom_93 rfl (nI_1 i) rfl (by decide) ?_
      refine v_goto (pc := 96) (tgt := 70) dX8_spreadLoadFrom_96 (by decide) ?_
      refine v_forget 6 ?_
      exact ih (i + 1) G (by omega) (by rw [m1, rnd_p hcap L c21.1 c21.2]; exact hG)
    · have m2 : rnd (esM s (min (i + 1) ns)) L = rnd (esM s (min i ns)) L := by
        rcases Nat.lt_or_ge i ns with q | q
        · rw [show min (i + 1) ns = i + 1 by omega, show min i ns = i by omega]; exact rnd_n s L i (fun z => c21 ⟨q, z⟩)
        · rw [show min (i + 1) ns = ns by omega, show min i ns = ns by omega]
      refine v_aload_n (pc := 77) dX8_spreadLoadFrom_77 rfl rfl ?_
      refine v_iload (pc := 78) dX8_spreadLoadFrom_78 rfl ?_
      refine vc_aaldN (pc := 80) (k := 7) (j := i) hG dX8_spreadLoadFrom_80 (hG.2.2.1 3 (by decide)) rfl (by decide) rfl rfl (by show _ < 30; omega) (by show (if X.2.2.1 3 i then some (15, i) else none) = _; rw [hsl3 i (by omega), if_neg (by rw [decide_eq_true_eq]; exact c21)]) ?_
      refine v_astoreN (pc := 81) dX8_spreadLoadFrom_81 rfl (by decide) ?_
      refine v_aloadN (pc := 83) dX8_spreadLoadFrom_83 rfl ?_
      refine v_ifnullN (pc := 85) (tgt := 93) dX8_spreadLoadFrom_85 (by decide) ?_
      refine v_iinc (pc := 93) dX8_spreadLoadFrom_93 rfl (nI_1 i) rfl (by decide) ?_
      refine v_goto (pc := 96) (tgt := 70) dX8_spreadLoadFrom_96 (by decide) ?_
      refine v_forget 6 ?_
      exact ih (i + 1) G (by omega) (by rw [m2]; exact hG)
set_option maxRecDepth 100000 in
set_option maxHeartbeats 400000 in
theorem l_X8_spread3 {D : DT} {K : KT} {X : XT} {s : SG} (np ns x : Nat) (L0 : LT) (h : PV s np) (h2 : SV s np ns) (hnp : np ≤ 12) (hns : ns ≤ 30) (hcap : capOK s ns) (hb : s.1 4 0 = nI np) (hsl3 : ∀ f, f < 30 → X.2.2.1 3 f = decide (f < ns ∧ s.1 13 f = 0)) (kk : ∀ (w3 w4 w5 : Option Value) (G : GT), LF X (sK s (itR (esM s ns) (np - 1) L0)) G → V cX8_spreadLoadFrom yX8_spreadLoadFrom.cls 7 rm_X8_spreadLoadFrom D K 105 [some (.ref (X.1 0 0)), some (.ref (X.1 14 x)), some (.int (nI np)), w3, w4, w5, none] [] G (0, 0)) : ∀ (d i : Nat) (w3 w4 w5 : Option Value) (G : GT), i + d = np → 1 ≤ i → LF X (sK s (itR (esM s ns) (i - 1) L0)) G → V cX8_spreadLoadFrom yX8_spreadLoadFrom.cls 7 rm_X8_spreadLoadFrom D K 50 [some (.ref (X.1 0 0)), some (.ref (X.1 14 x)), some (.int (nI i)), w3, w4, w5, none] [] G (0, 0) := by
  intro d
  induction d with
  | zero =>
    intro i w3 w4 w5 G he0 he1 he2 
    have hG := he2
    refine v_iload_n (pc := 50) dX8_spreadLoadFrom_50 rfl rfl ?_
    refine v_aload_n (pc := 51) dX8_spreadLoadFrom_51 rfl rfl ?_
    refine vc_getI (pc := 52) (f := 3) hG dX8_spreadLoadFrom_52 fl_X8_114 (Or.inl rfl) (hG.2.2.1 0 (by decide)) rfl (by decide) ((ivL_0_3 _ _).trans hb) ?_
    refine v_icmp_ge (pc := 55) (tgt := 105) dX8_spreadLoadFrom_55 (by decide) (fun c55 => ?_) (fun c55 => absurd c55 (not_not_intro (by rw [show i = np by omega]; exact Int32.le_refl _)))
    have e : i = np := by omega
    subst e
    exact kk _ _ _ G hG
  | succ d ih =>
    intro i w3 w4 w5 G he0 he1 he2 
    have hG := he2
    refine v_iload_n (pc := 50) dX8_spreadLoadFrom_50 rfl rfl ?_
    refine v_aload_n (pc := 51) dX8_spreadLoadFrom_51 rfl rfl ?_
    refine vc_getI (pc := 52) (f := 3) hG dX8_spreadLoadFrom_52 fl_X8_114 (Or.inl rfl) (hG.2.2.1 0 (by decide)) rfl (by decide) ((ivL_0_3 _ _).trans hb) ?_
    refine v_icmp_ge (pc := 55) (tgt := 105) dX8_spreadLoadFrom_55 (by decide) (fun c55 => absurd c55 (nI_ge (by omega) (by omega))) (fun c55 => ?_)
    refine v_aload_n (pc := 58) dX8_spreadLoadFrom_58 rfl rfl ?_
    refine vc_getR (pc := 59) (f := 4) hG dX8_spreadLoadFrom_59 fl_X8_23 rfl (hG.2.2.1 0 (by decide)) rfl (by decide) (rvL_0_4 _ _ _) (fun hL59 => ?_)
    refine v_astore_n (pc := 62) dX8_spreadLoadFrom_62 rfl rfl (by decide) ?_
    refine v_aload_n (pc := 63) dX8_spreadLoadFrom_63 rfl rfl ?_
    refine vc_alen (pc := 64) (k := 7) (x := 30) hG dX8_spreadLoadFrom_64 (hG.2.2.1 3 (by decide)) rfl rfl rfl ?_
    refine v_istore (pc := 65) dX8_spreadLoadFrom_65 rfl (by decide) ?_
    refine v_iconst (pc := 67) (v := 0) dX8_spreadLoadFrom_67 (by decide) ?_
    refine v_istore (pc := 68) dX8_spreadLoadFrom_68 rfl (by decide) ?_
    refine l_X8_spread2 (s := s) np ns x i (itR (esM s ns) (i - 1) L0) h h2 hnp hns hcap hsl3 (fun G hG => ?_) 30 0 G (by omega) (by rw [Nat.zero_min]; exact hG)
    refine v_iinc (pc := 99) dX8_spreadLoadFrom_99 rfl (nI_1 i) rfl (by decide) ?_
    refine v_goto (pc := 102) (tgt := 50) dX8_spreadLoadFrom_102 (by decide) ?_
    refine ih (i + 1) _ _ _ G (by omega) (by omega) ?_
    rw [show i + 1 - 1 = (i - 1) + 1 by omega]
    exact hG
set_option maxRecDepth 100000 in
set_option maxHeartbeats 400000 in
theorem c_X8_spreadLoadFrom (D : DT) (X : XT) (s : SG) (np ns x : Nat)  (h : PV s np) (h2 : SV s np ns) (hnp : np ≤ 12) (hns : ns ≤ 30) (hcap : capOK s ns) (hb : s.1 4 0 = nI np) (hx : x < np) (hLx : X.2.1 14 x = true) (hsl2 : ∀ f, f < 12 → X.2.2.1 2 f = decide (f < np)) (hsl3 : ∀ f, f < 30 → X.2.2.1 3 f = decide (f < ns ∧ s.1 13 f = 0)) : CC yX8_spreadLoadFrom cX8_spreadLoadFrom 7 (Option.none : Option Jvm.ClassFile.FieldType) rm_X8_spreadLoadFrom D [.ref (X.1 0 0), .ref (X.1 14 x)] X s (fun v s' => v = none ∧ s' = sK s (itR (esM s ns) (np - 1) (iniL s x (s.2 42) np))) := by
  intro G hG
  refine MC_of (by decide +kernel) (Nat.le_of_ble_eq_true rfl) (fun K sz hR => ?_)
  show V cX8_spreadLoadFrom _ 7 _ D K 0 [some (.ref (X.1 0 0)), some (.ref (X.1 14 x)), none, none, none, none, none] [] G (0, 0)
  refine v_aload_n (pc := 0) dX8_spreadLoadFrom_0 rfl rfl ?_
  refine vc_getR (pc := 1) (f := 2) hG dX8_spreadLoadFrom_1 fl_X8_17 rfl (hG.2.2.1 0 (by decide)) rfl (by decide) (rvL_0_2 _ _ _) (fun hL1 => ?_)
  refine v_astore_n (pc := 4) dX8_spreadLoadFrom_4 rfl rfl (by decide) ?_
  refine v_aload_n (pc := 5) dX8_spreadLoadFrom_5 rfl rfl ?_
  refine vc_alen (pc := 6) (k := 6) (x := 12) hG dX8_spreadLoadFrom_6 (hG.2.2.1 2 (by decide)) rfl rfl rfl ?_
  refine v_istore_n (pc := 7) dX8_spreadLoadFrom_7 rfl rfl (by decide) ?_
  refine v_iconst (pc := 8) (v := 0) dX8_spreadLoadFrom_8 (by decide) ?_
  refine v_istore (pc := 9) dX8_spreadLoadFrom_9 rfl (by decide) ?_
  refine l_X8_spread1 (s := s) np x hnp hsl2 (fun G hG => ?_) 12 0 G (by omega) (by rw [Nat.zero_min, zL_0, sK_self]; exact hG)
  refine v_aload_n (pc := 40) dX8_spreadLoadFrom_40 rfl rfl ?_
  refine v_aload_n (pc := 41) dX8_spreadLoadFrom_41 rfl rfl ?_
  refine vc_callV0 (pc := 42) (0, 0) hG dX8_spreadLoadFrom_42 cw_X8_131 im_yX4_strengthNow se_yX4_strengthNow (c_X4_strengthNow D X _ x np hLx h hx hnp) hLx rfl rfl (Nat.le_of_ble_eq_true rfl) ⟨Nat.le_of_ble_eq_true rfl, Nat.le_of_ble_eq_true rfl⟩ ⟨by decide, by decide⟩ rfl (fun v s1 G hp hG => ?_)
  obtain ⟨hv1, hs1⟩ := hp
  subst hv1
  subst s1
  refine vc_putJ (pc := 45) hG dX8_spreadLoadFrom_45 fw_X8_156 rfl hLx rfl (uJ_14_3 _ _ _) (fun G hG => ?_)
  refine v_iconst (pc := 48) (v := 1) dX8_spreadLoadFrom_48 (by decide) ?_
  refine v_istore_n (pc := 49) dX8_spreadLoadFrom_49 rfl rfl (by decide) ?_
  rw [show strS (sK s (zL (s.2 42) np)) x = strS s x from rfl, sK_sJ, zL_ini s _ hx] at hG
  refine l_X8_spread3 (s := s) np ns x (iniL s x (s.2 42) np) h h2 hnp hns hcap hb hsl3 (fun w3 w4 w5 G hG => ?_) (np - 1) 1 _ _ _ G (by omega) (by decide) hG
  refine v_vret (pc := 105) hR dX8_spreadLoadFrom_105 ⟨by decide, by decide⟩ ?_
  exact ⟨_, hG, rfl, rfl⟩
theorem bears_eq {s : SG} {np ns : Nat} (h2 : SV s np ns) (hnp : np ≤ 12) (x y : Nat) (hy : y < np) : itR (esM s ns) (np - 1) (iniL s x (s.2 42) np) y = finL s np ns x y := by
  refine itR_congr (n := np) (esM_lt h2 hnp ns (Nat.le_refl ns)) (fun v hv => ?_) _ y hy
  simp [iniL, hv]
set_option maxRecDepth 100000 in
set_option maxHeartbeats 400000 in
theorem c_X8_bears (D : DT) (X : XT) (s : SG) (np ns : Nat) (p0 : Int32) (p1 : Int32) (h : PV s np) (h2 : SV s np ns) (hnp : np ≤ 12) (hns : ns ≤ 30) (hcap : capOK s ns) (hb : s.1 4 0 = nI np) (hsl2 : ∀ f, f < 12 → X.2.2.1 2 f = decide (f < np)) (hsl3 : ∀ f, f < 30 → X.2.2.1 3 f = decide (f < ns ∧ s.1 13 f = 0)) : CX yX8_bears cX8_bears 5 (Option.some Jvm.ClassFile.FieldType.long) rm_X8_bears D [.ref (X.1 0 0), .int p0, .int p1] X s (fun v s' => v = some (.long (finL s np ns (nat p0) (nat p1))) ∧ (∃ L, s' = sK s L) ∧ kBe np p0 p1 = 0) (fun e => e = xIO ∧ kBe np p0 p1 = 1) := by
  intro G hG
  refine MX_of (by decide +kernel) (Nat.le_of_ble_eq_true rfl) (fun K sz hR hX => ?_)
  show V cX8_bears _ 5 _ D K 0 [some (.ref (X.1 0 0)), some (.int p0), some (.int p1), none, none] [] G (0, 0)
  refine v_aload_n (pc := 0) dX8_bears_0 rfl rfl ?_
  refine v_iload_n (pc := 1) dX8_bears_1 rfl rfl ?_
  refine vc_callV1 (pc := 2) (0, 0) hG dX8_bears_2 cw_X8_125 im_yX8_panelAt se_yX8_panelAt (c_X8_panelAt D X _ np _ hb hnp hsl2) (hG.2.2.1 0 (by decide)) rfl rfl (Nat.le_of_ble_eq_true rfl) ⟨Nat.le_of_ble_eq_true rfl, Nat.le_of_ble_eq_true rfl⟩ ⟨by decide, by decide⟩ rfl (fun v s1 G hp hG => ?_)
  obtain ⟨hs1, hp⟩ := hp
  subst s1
  rcases hp with ⟨c2, hv1⟩ | ⟨jA, hjA, hpA, hL2, hv1⟩
  · subst hv1
    refine v_astore_nN (pc := 5) dX8_bears_5 rfl rfl (by decide) ?_
    refine v_aload_n (pc := 6) dX8_bears_6 rfl rfl ?_
    refine v_iload_n (pc := 7) dX8_bears_7 rfl rfl ?_
    refine vc_callV1 (pc := 8) (0, 0) hG dX8_bears_8 cw_X8_125 im_yX8_panelAt se_yX8_panelAt (c_X8_panelAt D X _ np _ hb hnp hsl2) (hG.2.2.1 0 (by decide)) rfl rfl (Nat.le_of_ble_eq_true rfl) ⟨Nat.le_of_ble_eq_true rfl, Nat.le_of_ble_eq_true rfl⟩ ⟨by decide, by decide⟩ rfl (fun v s1 G hp hG => ?_)
    obtain ⟨hs1, hp⟩ := hp
    subst s1
    rcases hp with ⟨c8, hv1⟩ | ⟨jB, hjB, hpB, hL8, hv1⟩
    · subst hv1
      refine v_astoreN (pc := 11) dX8_bears_11 rfl (by decide) ?_
      refine v_aload_nN (pc := 13) dX8_bears_13 rfl rfl ?_
      refine v_ifnullN (pc := 14) (tgt := 22) dX8_bears_14 (by decide) ?_
      refine v_throw (pc := 22) hX tw_X8_89_129_93 dX8_bears_22 dX8_bears_25 dX8_bears_26 dX8_bears_28 dX8_bears_31 (Nat.le_of_ble_eq_true rfl) ⟨by decide, by decide⟩ ⟨by decide, by decide⟩ ?_
      exact ⟨hG, rfl, by rw [kBe, if_neg (fun z => by first | exact c2 z.1 | exact c8 z.2)]⟩
    · subst hpB
      subst hv1
      refine v_astore (pc := 11) dX8_bears_11 rfl (by decide) ?_
      refine v_aload_nN (pc := 13) dX8_bears_13 rfl rfl ?_
      refine v_ifnullN (pc := 14) (tgt := 22) dX8_bears_14 (by decide) ?_
      refine v_throw (pc := 22) hX tw_X8_89_129_93 dX8_bears_22 dX8_bears_25 dX8_bears_26 dX8_bears_28 dX8_bears_31 (Nat.le_of_ble_eq_true rfl) ⟨by decide, by decide⟩ ⟨by decide, by decide⟩ ?_
      exact ⟨hG, rfl, by rw [kBe, if_neg (fun z => by first | exact c2 z.1 | exact c8 z.2)]⟩
  · subst hpA
    subst hv1
    refine v_astore_n (pc := 5) dX8_bears_5 rfl rfl (by decide) ?_
    refine v_aload_n (pc := 6) dX8_bears_6 rfl rfl ?_
    refine v_iload_n (pc := 7) dX8_bears_7 rfl rfl ?_
    refine vc_callV1 (pc := 8) (0, 0) hG dX8_bears_8 cw_X8_125 im_yX8_panelAt se_yX8_panelAt (c_X8_panelAt D X _ np _ hb hnp hsl2) (hG.2.2.1 0 (by decide)) rfl rfl (Nat.le_of_ble_eq_true rfl) ⟨Nat.le_of_ble_eq_true rfl, Nat.le_of_ble_eq_true rfl⟩ ⟨by decide, by decide⟩ rfl (fun v s1 G hp hG => ?_)
    obtain ⟨hs1, hp⟩ := hp
    subst s1
    rcases hp with ⟨c8, hv1⟩ | ⟨jB, hjB, hpB, hL8, hv1⟩
    · subst hv1
      refine v_astoreN (pc := 11) dX8_bears_11 rfl (by decide) ?_
      refine v_aload_n (pc := 13) dX8_bears_13 rfl rfl ?_
      refine v_ifnull (pc := 14) dX8_bears_14 ?_
      refine v_aloadN (pc := 17) dX8_bears_17 rfl ?_
      refine v_ifnonnullN (pc := 19) dX8_bears_19 ?_
      refine v_throw (pc := 22) hX tw_X8_89_129_93 dX8_bears_22 dX8_bears_25 dX8_bears_26 dX8_bears_28 dX8_bears_31 (Nat.le_of_ble_eq_true rfl) ⟨by decide, by decide⟩ ⟨by decide, by decide⟩ ?_
      exact ⟨hG, rfl, by rw [kBe, if_neg (fun z => by first | exact c2 z.1 | exact c8 z.2)]⟩
    · subst hpB
      subst hv1
      refine v_astore (pc := 11) dX8_bears_11 rfl (by decide) ?_
      refine v_aload_n (pc := 13) dX8_bears_13 rfl rfl ?_
      refine v_ifnull (pc := 14) dX8_bears_14 ?_
      refine v_aload (pc := 17) dX8_bears_17 rfl ?_
      refine v_ifnonnull (pc := 19) (tgt := 32) dX8_bears_19 (by decide) ?_
      refine v_aload_n (pc := 32) dX8_bears_32 rfl rfl ?_
      refine v_aload_n (pc := 33) dX8_bears_33 rfl rfl ?_
      refine vc_callV1 (pc := 34) (0, 0) hG dX8_bears_34 cw_X8_152 im_yX8_spreadLoadFrom se_yX8_spreadLoadFrom (c_X8_spreadLoadFrom D X _ np ns jA h h2 hnp hns hcap hb hjA hL2 hsl2 hsl3) (hG.2.2.1 0 (by decide)) rfl rfl (Nat.le_of_ble_eq_true rfl) ⟨Nat.le_of_ble_eq_true rfl, Nat.le_of_ble_eq_true rfl⟩ ⟨by decide, by decide⟩ rfl (fun v s1 G hp hG => ?_)
      obtain ⟨hv1, hs1⟩ := hp
      subst hv1
      subst s1
      refine v_aload (pc := 37) dX8_bears_37 rfl ?_
      refine vc_getJ (pc := 39) (f := 3) hG dX8_bears_39 fl_X8_156 rfl hL8 rfl (by decide) (show jv _ 14 jB 3 = finL s np ns jA jB by rw [jvL_14_3]; exact bears_eq h2 hnp jA jB hjB) ?_
      refine v_lret (pc := 42) hR dX8_bears_42 ⟨by decide, by decide⟩ ?_
      exact ⟨_, hG, by rw [nat_nI (by omega), nat_nI (by omega)], ⟨_, rfl⟩, by rw [kBe, if_pos ⟨((btw_ix (a := np) (by omega)).mpr ⟨jA, hjA, rfl⟩), ((btw_ix (a := np) (by omega)).mpr ⟨jB, hjB, rfl⟩)⟩]⟩
