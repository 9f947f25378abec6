theorem EQ.oSeal_ {s s1 : SG} (e : EQ s s1) (j : Nat) : oSeal s1 j ↔ oSeal s j := by
  unfold oSeal
  rw [e.op, e.1 3 (by decide) (by decide), e.1 29 (by decide) (by decide), e.1 30 (by decide) (by decide), e.1 32 (by decide) (by decide), e.1 37 (by decide) (by decide)]
theorem EQ.oUse_ {s s1 : SG} (e : EQ s s1) (j : Nat) : oUse s1 j ↔ oUse s j := by
  unfold oUse
  rw [e.1 3 (by decide) (by decide), e.1 29 (by decide) (by decide), e.1 27 (by decide) (by decide), e.1 32 (by decide) (by decide), e.1 33 (by decide) (by decide)]
theorem EQ.kRip_ {s s1 : SG} (e : EQ s s1) (c : Nat) (p : Int32) : kRip s1 c p = kRip s c p := by
  unfold kRip; rw [e.1 13 (by decide) (by decide)]
theorem EQ.kPass_ {s s1 : SG} (e : EQ s s1) (p : Int32) : kPass s1 p = kPass s p := by
  unfold kPass; rw [e.1 27 (by decide) (by decide)]
theorem EQ.kPart_ {s s1 : SG} (e : EQ s s1) (c : Nat) (p : Int32) (p2 : Int32) : kPart s1 c p p2 = kPart s c p p2 := by
  unfold kPart; rw [e.1 30 (by decide) (by decide), e.1 32 (by decide) (by decide)]
theorem EQ.kSeal_ {s s1 : SG} (e : EQ s s1) (c : Nat) (p : Int32) (p2 : Int32) : kSeal s1 c p p2 = kSeal s c p p2 := by
  unfold kSeal
  simp only [e.oSeal_]
theorem EQ.kUse_ {s s1 : SG} (e : EQ s s1) (c : Nat) (p : Int32) : kUse s1 c p = kUse s c p := by
  unfold kUse
  simp only [e.oUse_]
theorem EQ.kWet_ {s s1 : SG} (e : EQ s s1) (c : Nat) (p : Int32) : kWet s1 c p = kWet s c p := by
  unfold kWet; rw [e.1 32 (by decide) (by decide)]
theorem EQ.kFind_ {s s1 : SG} (e : EQ s s1) (a : Nat) (p : Int32) (p2 : Int32) : kFind s1 a p p2 = kFind s a p p2 := by
  unfold kFind; rw [e.1 3 (by decide) (by decide)]
theorem sw_lot {D : DT} {X : XT} {s : SG} {M : MT} {G : GT} {q : Nat} (p0 : Int32) (p1 : Int32) (p2 : Int32) (y3 : Int32) (hW : WD X s M G) (hI : INV X s q) (hq : q < 512) (hk : kLot (nA s) p0 p1 p2 = 0) : ML yL_act cL_act 7 (Option.some Jvm.ClassFile.FieldType.long) [(0, 443, 444, 103), (0, 443, 450, 107), (0, 443, 456, 111)] rw_act_lot D [.ref (X.1 0 0), .int 0, .int p0, .int p1, .int p2, .int y3] G (fun v G' => ∃ s1 X' s', EQ s s1 ∧ v = some (.long (((nI (nA s1))).toInt64)) ∧ WD X' s' M G' ∧ X'.1 0 0 = X.1 0 0 ∧ s' = gLot (ow3 s1 (nA s1)) (nA s1) p0 p1 p2 ∧ X'.2.1 = u2 X.2.1 13 (nA s1) true ∧ X'.2.2.1 = u2 X.2.2.1 1 (nA s1) true) := by
  obtain ⟨⟨s1, e, hL⟩, hR⟩ := hW
  have ek : kLot (nA s1) p0 p1 p2 = kLot (nA s) p0 p1 p2 := by rw [e.nA]
  refine ML.imp (a_lot (X := xA X M G) p0 p1 p2 y3  hL (hI.eq e M G) hq) (fun v G' hp => ?_)
  obtain ⟨X', s', w, hv, hG1, hA1, h01, hok | ⟨her, -, -⟩⟩ := hp
  · obtain ⟨hw, hr⟩ := hok
    subst hw
    exact ⟨s1, _, s', e, hv, WD.to hR hG1 hA1 (EQ.rf s'), h01 0 (by decide), ⟨hr.1, hr.2.1, hr.2.2.1⟩⟩
  · rcases her with ⟨hz, -⟩ | ⟨hz, -⟩
    · exact absurd (hk.symm.trans (ek.symm.trans hz)) (by decide)
    · exact absurd (hk.symm.trans (ek.symm.trans hz)) (by decide)
theorem xIA_lot {D : DT} {X : XT} {s : SG} {M : MT} {G : GT} {q : Nat} (p0 : Int32) (p1 : Int32) (p2 : Int32) (y3 : Int32) (hW : WD X s M G) (hI : INV X s q) (hq : q < 512) (hk : kLot (nA s) p0 p1 p2 = 1) : ML yL_act cL_act 7 (Option.some Jvm.ClassFile.FieldType.long) [(0, 443, 444, 103), (0, 443, 450, 107), (0, 443, 456, 111)] rw_act_lot D [.ref (X.1 0 0), .int 0, .int p0, .int p1, .int p2, .int y3] G (fun v G' => v = some (.long (-1732000000000)) ∧ WD X s M G') := by
  obtain ⟨⟨s1, e, hL⟩, hR⟩ := hW
  have ek : kLot (nA s1) p0 p1 p2 = kLot (nA s) p0 p1 p2 := by rw [e.nA]
  refine ML.imp (a_lot (X := xA X M G) p0 p1 p2 y3  hL (hI.eq e M G) hq) (fun v G' hp => ?_)
  obtain ⟨X', s', w, hv, hG1, hA1, h01, hok | ⟨her, rfl, rfl⟩⟩ := hp
  · exact absurd (hk.symm.trans (ek.symm.trans hok.2.2.2.2)) (by decide)
  · skip
    have hw9 : w = (-1732000000000) := by
      rcases her with ⟨hz, hw⟩ | ⟨hz, hw⟩
      · exact hw
      · exact absurd (hk.symm.trans (ek.symm.trans hz)) (by decide)
    subst hw9
    exact ⟨hv, WD.to (X1 := xA X M G) hR hG1 hA1 e⟩
theorem xIS_lot {D : DT} {X : XT} {s : SG} {M : MT} {G : GT} {q : Nat} (p0 : Int32) (p1 : Int32) (p2 : Int32) (y3 : Int32) (hW : WD X s M G) (hI : INV X s q) (hq : q < 512) (hk : kLot (nA s) p0 p1 p2 = 2) : ML yL_act cL_act 7 (Option.some Jvm.ClassFile.FieldType.long) [(0, 443, 444, 103), (0, 443, 450, 107), (0, 443, 456, 111)] rw_act_lot D [.ref (X.1 0 0), .int 0, .int p0, .int p1, .int p2, .int y3] G (fun v G' => v = some (.long (-1733000000000)) ∧ WD X s M G') := by
  obtain ⟨⟨s1, e, hL⟩, hR⟩ := hW
  have ek : kLot (nA s1) p0 p1 p2 = kLot (nA s) p0 p1 p2 := by rw [e.nA]
  refine ML.imp (a_lot (X := xA X M G) p0 p1 p2 y3  hL (hI.eq e M G) hq) (fun v G' hp => ?_)
  obtain ⟨X', s', w, hv, hG1, hA1, h01, hok | ⟨her, rfl, rfl⟩⟩ := hp
  · exact absurd (hk.symm.trans (ek.symm.trans hok.2.2.2.2)) (by decide)
  · skip
    have hw9 : w = (-1733000000000) := by
      rcases her with ⟨hz, hw⟩ | ⟨hz, hw⟩
      · exact absurd (hk.symm.trans (ek.symm.trans hz)) (by decide)
      · exact hw
    subst hw9
    exact ⟨hv, WD.to (X1 := xA X M G) hR hG1 hA1 e⟩
theorem ow_lot {D : DT} {X : XT} {s : SG} {M : MT} {G : GT} {q : Nat} (p0 : Int32) (p1 : Int32) (p2 : Int32) (y3 : Int32) (hW : WD X s M G) (hI : INV X s q) (hq : q < 512) (hk : kLot (nA s) p0 p1 p2 = 1) : MN yL_off cL_off 6 (Option.some Jvm.ClassFile.FieldType.boolean) rm_no D [.ref (X.1 0 0), .int 0, .int p0, .int p1, .int p2, .int y3] G (fun v G' => v = some (.int 1) ∧ WD X s M G') := by
  obtain ⟨⟨s1, e, hL⟩, hR⟩ := hW
  have ek : kLot (nA s1) p0 p1 p2 = kLot (nA s) p0 p1 p2 := by rw [e.nA]
  exact MN.imp (off_lot (X := xA X M G) p0 p1 p2 y3  hL (hI.eq e M G) hq (ek.trans hk)) (fun v G' hp => ⟨hp.1, WD.to (X1 := xA X M G) hR hp.2 rfl e⟩)
theorem sw_sun {D : DT} {X : XT} {s : SG} {M : MT} {G : GT} {q : Nat} (p0 : Int32) (p1 : Int32) (y2 : Int32) (y3 : Int32) (hW : WD X s M G) (hI : INV X s q) (hq : q < 512) (hk : kSun (nA s) p0 p1 = 0) : ML yL_act cL_act 7 (Option.some Jvm.ClassFile.FieldType.long) [(0, 443, 444, 103), (0, 443, 450, 107), (0, 443, 456, 111)] rw_act_sun D [.ref (X.1 0 0), .int 1, .int p0, .int p1, .int y2, .int y3] G (fun v G' => ∃ s1 s', EQ s s1 ∧ v = some (.long ((((gSun s1 (nat p0) p1).1 2 (nat p0))).toInt64)) ∧ WD X s' M G' ∧ s' = gSun s1 (nat p0) p1) := by
  obtain ⟨⟨s1, e, hL⟩, hR⟩ := hW
  have ek : kSun (nA s1) p0 p1 = kSun (nA s) p0 p1 := by rw [e.nA]
  refine ML.imp (a_sun (X := xA X M G) p0 p1 y2 y3  hL (hI.eq e M G) hq) (fun v G' hp => ?_)
  obtain ⟨X', s', w, hv, hG1, hA1, h01, hok | ⟨her, -, -⟩⟩ := hp
  · obtain ⟨hw, hx, hr⟩ := hok
    subst hw
    subst hx
    exact ⟨s1, s', e, hv, WD.to (X1 := xA X M G) hR hG1 hA1 (EQ.rf s'), hr.1⟩
  · rcases her with ⟨hz, -⟩ | ⟨hz, -⟩
    · exact absurd (hk.symm.trans (ek.symm.trans hz)) (by decide)
    · exact absurd (hk.symm.trans (ek.symm.trans hz)) (by decide)
theorem xIO_sun {D : DT} {X : XT} {s : SG} {M : MT} {G : GT} {q : Nat} (p0 : Int32) (p1 : Int32) (y2 : Int32) (y3 : Int32) (hW : WD X s M G) (hI : INV X s q) (hq : q < 512) (hk : kSun (nA s) p0 p1 = 1) : ML yL_act cL_act 7 (Option.some Jvm.ClassFile.FieldType.long) [(0, 443, 444, 103), (0, 443, 450, 107), (0, 443, 456, 111)] rw_act_sun D [.ref (X.1 0 0), .int 1, .int p0, .int p1, .int y2, .int y3] G (fun v G' => v = some (.long (-1731000000000)) ∧ WD X s M G') := by
  obtain ⟨⟨s1, e, hL⟩, hR⟩ := hW
  have ek : kSun (nA s1) p0 p1 = kSun (nA s) p0 p1 := by rw [e.nA]
  refine ML.imp (a_sun (X := xA X M G) p0 p1 y2 y3  hL (hI.eq e M G) hq) (fun v G' hp => ?_)
  obtain ⟨X', s', w, hv, hG1, hA1, h01, hok | ⟨her, rfl, rfl⟩⟩ := hp
  · exact absurd (hk.symm.trans (ek.symm.trans hok.2.2.2)) (by decide)
  · skip
    have hw9 : w = (-1731000000000) := by
      rcases her with ⟨hz, hw⟩ | ⟨hz, hw⟩
      · exact hw
      · exact absurd (hk.symm.trans (ek.symm.trans hz)) (by decide)
    subst hw9
    exact ⟨hv, WD.to (X1 := xA X M G) hR hG1 hA1 e⟩
theorem xIA_sun {D : DT} {X : XT} {s : SG} {M : MT} {G : GT} {q : Nat} (p0 : Int32) (p1 : Int32) (y2 : Int32) (y3 : Int32) (hW : WD X s M G) (hI : INV X s q) (hq : q < 512) (hk : kSun (nA s) p0 p1 = 2) : ML yL_act cL_act 7 (Option.some Jvm.ClassFile.FieldType.long) [(0, 443, 444, 103), (0, 443, 450, 107), (0, 443, 456, 111)] rw_act_sun D [.ref (X.1 0 0), .int 1, .int p0, .int p1, .int y2, .int y3] G (fun v G' => v = some (.long (-1732000000000)) ∧ WD X s M G') := by
  obtain ⟨⟨s1, e, hL⟩, hR⟩ := hW
  have ek : kSun (nA s1) p0 p1 = kSun (nA s) p0 p1 := by rw [e.nA]
  refine ML.imp (a_sun (X := xA X M G) p0 p1 y2 y3  hL (hI.eq e M G) hq) (fun v G' hp => ?_)
  obtain ⟨X', s', w, hv, hG1, hA1, h01, hok | ⟨her, rfl, rfl⟩⟩ := hp
  · exact absurd (hk.symm.trans (ek.symm.trans hok.2.2.2)) (by decide)
  · skip
    have hw9 : w = (-1732000000000) := by
      rcases her with ⟨hz, hw⟩ | ⟨hz, hw⟩
      · exact absurd (hk.symm.trans (ek.symm.trans hz)) (by decide)
      · exact hw
    subst hw9
    exact ⟨hv, WD.to (X1 := xA X M G) hR hG1 hA1 e⟩
theorem nw_sun {D : DT} {X : XT} {s : SG} {M : MT} {G : GT} {q : Nat} (p0 : Int32) (p1 : Int32) (y2 : Int32) (y3 : Int32) (hW : WD X s M G) (hI : INV X s q) (hq : q < 512) (hk : kSun (nA s) p0 p1 = 1) : MN yL_no cL_no 6 (Option.some Jvm.ClassFile.FieldType.boolean) rm_no D [.ref (X.1 0 0), .int 1, .int p0, .int p1, .int y2, .int y3] G (fun v G' => v = some (.int 1) ∧ WD X s M G') := by
  obtain ⟨⟨s1, e, hL⟩, hR⟩ := hW
  have ek : kSun (nA s1) p0 p1 = kSun (nA s) p0 p1 := by rw [e.nA]
  exact MN.imp (no_sun (X := xA X M G) p0 p1 y2 y3  hL (hI.eq e M G) hq (ek.trans hk)) (fun v G' hp => ⟨hp.1, WD.to (X1 := xA X M G) hR hp.2 rfl e⟩)
theorem ow_sun {D : DT} {X : XT} {s : SG} {M : MT} {G : GT} {q : Nat} (p0 : Int32) (p1 : Int32) (y2 : Int32) (y3 : Int32) (hW : WD X s M G) (hI : INV X s q) (hq : q < 512) (hk : kSun (nA s) p0 p1 = 2) : MN yL_off cL_off 6 (Option.some Jvm.ClassFile.FieldType.boolean) rm_no D [.ref (X.1 0 0), .int 1, .int p0, .int p1, .int y2, .int y3] G (fun v G' => v = some (.int 1) ∧ WD X s M G') := by
  obtain ⟨⟨s1, e, hL⟩, hR⟩ := hW
  have ek : kSun (nA s1) p0 p1 = kSun (nA s) p0 p1 := by rw [e.nA]
  exact MN.imp (off_sun (X := xA X M G) p0 p1 y2 y3  hL (hI.eq e M G) hq (ek.trans hk)) (fun v G' hp => ⟨hp.1, WD.to (X1 := xA X M G) hR hp.2 rfl e⟩)
theorem sw_panel {D : DT} {X : XT} {s : SG} {M : MT} {G : GT} {q : Nat} (p0 : Int32) (p1 : Int32) (p2 : Int32) (p3 : Int32) (hW : WD X s M G) (hI : INV X s q) (hq : q < 512) (hk : kPan (nA s) (nB s) p0 p1 p2 p3 = 0) : ML yL_act cL_act 7 (Option.some Jvm.ClassFile.FieldType.long) [(0, 443, 444, 103), (0, 443, 450, 107), (0, 443, 456, 111)] rw_act_panel D [.ref (X.1 0 0), .int 2, .int p0, .int p1, .int p2, .int p3] G (fun v G' => ∃ s1 X' s', EQ s s1 ∧ v = some (.long (((nI (nB s1))).toInt64)) ∧ WD X' s' M G' ∧ X'.1 0 0 = X.1 0 0 ∧ s' = sI (lyS (pan1 s1 (nB s1) p0 p1 p2 p3) (nat p0) (acK p1 p2 p3) (lnK p1 p2 p3)) 4 0 (nI ((nB s1) + 1)) ∧ X'.2.1 = u2 X.2.1 14 (nB s1) true ∧ X'.2.2.1 = u2 X.2.2.1 2 (nB s1) true) := by
  obtain ⟨⟨s1, e, hL⟩, hR⟩ := hW
  have ek : kPan (nA s1) (nB s1) p0 p1 p2 p3 = kPan (nA s) (nB s) p0 p1 p2 p3 := by rw [e.nA, e.nB]
  refine ML.imp (a_panel (X := xA X M G) p0 p1 p2 p3  hL (hI.eq e M G) hq) (fun v G' hp => ?_)
  obtain ⟨X', s', w, hv, hG1, hA1, h01, hok | ⟨her, -, -⟩⟩ := hp
  · obtain ⟨hw, hr⟩ := hok
    subst hw
    exact ⟨s1, _, s', e, hv, WD.to hR hG1 hA1 (EQ.rf s'), h01 0 (by decide), ⟨hr.1, hr.2.1, hr.2.2.1⟩⟩
  · rcases her with ⟨hz, -⟩ | ⟨hz, -⟩ | ⟨hz, -⟩
    · exact absurd (hk.symm.trans (ek.symm.trans hz)) (by decide)
    · exact absurd (hk.symm.trans (ek.symm.trans hz)) (by decide)
    · exact absurd (hk.symm.trans (ek.symm.trans hz)) (by decide)
theorem xIO_panel {D : DT} {X : XT} {s : SG} {M : MT} {G : GT} {q : Nat} (p0 : Int32) (p1 : Int32) (p2 : Int32) (p3 : Int32) (hW : WD X s M G) (hI : INV X s q) (hq : q < 512) (hk : kPan (nA s) (nB s) p0 p1 p2 p3 = 1) : ML yL_act cL_act 7 (Option.some Jvm.ClassFile.FieldType.long) [(0, 443, 444, 103), (0, 443, 450, 107), (0, 443, 456, 111)] rw_act_panel D [.ref (X.1 0 0), .int 2, .int p0, .int p1, .int p2, .int p3] G (fun v G' => v = some (.long (-1731000000000)) ∧ WD X s M G') := by
  obtain ⟨⟨s1, e, hL⟩, hR⟩ := hW
  have ek : kPan (nA s1) (nB s1) p0 p1 p2 p3 = kPan (nA s) (nB s) p0 p1 p2 p3 := by rw [e.nA, e.nB]
  refine ML.imp (a_panel (X := xA X M G) p0 p1 p2 p3  hL (hI.eq e M G) hq) (fun v G' hp => ?_)
  obtain ⟨X', s', w, hv, hG1, hA1, h01, hok | ⟨her, rfl, rfl⟩⟩ := hp
  · exact absurd (hk.symm.trans (ek.symm.trans hok.2.2.2.2)) (by decide)
  · skip
    have hw9 : w = (-1731000000000) := by
      rcases her with ⟨hz, hw⟩ | ⟨hz, hw⟩ | ⟨hz, hw⟩
      · exact hw
      · exact absurd (hk.symm.trans (ek.symm.trans hz)) (by decide)
      · exact absurd (hk.symm.trans (ek.symm.trans hz)) (by decide)
    subst hw9
    exact ⟨hv, WD.to (X1 := xA X M G) hR hG1 hA1 e⟩
theorem xIA_panel {D : DT} {X : XT} {s : SG} {M : MT} {G : GT} {q : Nat} (p0 : Int32) (p1 : Int32) (p2 : Int32) (p3 : Int32) (hW : WD X s M G) (hI : INV X s q) (hq : q < 512) (hk : kPan (nA s) (nB s) p0 p1 p2 p3 = 2) : ML yL_act cL_act 7 (Option.some Jvm.ClassFile.FieldType.long) [(0, 443, 444, 103), (0, 443, 450, 107), (0, 443, 456, 111)] rw_act_panel D [.ref (X.1 0 0), .int 2, .int p0, .int p1, .int p2, .int p3] G (fun v G' => v = some (.long (-1732000000000)) ∧ WD X s M G') := by
  obtain ⟨⟨s1, e, hL⟩, hR⟩ := hW
  have ek : kPan (nA s1) (nB s1) p0 p1 p2 p3 = kPan (nA s) (nB s) p0 p1 p2 p3 := by rw [e.nA, e.nB]
  refine ML.imp (a_panel (X := xA X M G) p0 p1 p2 p3  hL (hI.eq e M G) hq) (fun v G' hp => ?_)
  obtain ⟨X', s', w, hv, hG1, hA1, h01, hok | ⟨her, rfl, rfl⟩⟩ := hp
  · exact absurd (hk.symm.trans (ek.symm.trans hok.2.2.2.2)) (by decide)
  · skip
    have hw9 : w = (-1732000000000) := by
      rcases her with ⟨hz, hw⟩ | ⟨hz, hw⟩ | ⟨hz, hw⟩
      · exact absurd (hk.symm.trans (ek.symm.trans hz)) (by decide)
      · exact hw
      · exact absurd (hk.symm.trans (ek.symm.trans hz)) (by decide)
    subst hw9
    exact ⟨hv, WD.to (X1 := xA X M G) hR hG1 hA1 e⟩
theorem xIS_panel {D : DT} {X : XT} {s : SG} {M : MT} {G : GT} {q : Nat} (p0 : Int32) (p1 : Int32) (p2 : Int32) (p3 : Int32) (hW : WD X s M G) (hI : INV X s q) (hq : q < 512) (hk : kPan (nA s) (nB s) p0 p1 p2 p3 = 3) : ML yL_act cL_act 7 (Option.some Jvm.ClassFile.FieldType.long) [(0, 443, 444, 103), (0, 443, 450, 107), (0, 443, 456, 111)] rw_act_panel D [.ref (X.1 0 0), .int 2, .int p0, .int p1, .int p2, .int p3] G (fun v G' => v = some (.long (-1733000000000)) ∧ WD X s M G') := by
  obtain ⟨⟨s1, e, hL⟩, hR⟩ := hW
  have ek : kPan (nA s1) (nB s1) p0 p1 p2 p3 = kPan (nA s) (nB s) p0 p1 p2 p3 := by rw [e.nA, e.nB]
  refine ML.imp (a_panel (X := xA X M G) p0 p1 p2 p3  hL (hI.eq e M G) hq) (fun v G' hp => ?_)
  obtain ⟨X', s', w, hv, hG1, hA1, h01, hok | ⟨her, rfl, rfl⟩⟩ := hp
  · exact absurd (hk.symm.trans (ek.symm.trans hok.2.2.2.2)) (by decide)
  · skip
    have hw9 : w = (-1733000000000) := by
      rcases her with ⟨hz, hw⟩ | ⟨hz, hw⟩ | ⟨hz, hw⟩
      · exact absurd (hk.symm.trans (ek.symm.trans hz)) (by decide)
      · exact absurd (hk.symm.trans (ek.symm.trans hz)) (by decide)
      · exact hw
    subst hw9
    exact ⟨hv, WD.to (X1 := xA X M G) hR hG1 hA1 e⟩
theorem nw_panel {D : DT} {X : XT} {s : SG} {M : MT} {G : GT} {q : Nat} (p0 : Int32) (p1 : Int32) (p2 : Int32) (p3 : Int32) (hW : WD X s M G) (hI : INV X s q) (hq : q < 512) (hk : kPan (nA s) (nB s) p0 p1 p2 p3 = 1) : MN yL_no cL_no 6 (Option.some Jvm.ClassFile.FieldType.boolean) rm_no D [.ref (X.1 0 0), .int 2, .int p0, .int p1, .int p2, .int p3] G (fun v G' => v = some (.int 1) ∧ WD X s M G') := by
  obtain ⟨⟨s1, e, hL⟩, hR⟩ := hW
  have ek : kPan (nA s1) (nB s1) p0 p1 p2 p3 = kPan (nA s) (nB s) p0 p1 p2 p3 := by rw [e.nA, e.nB]
  exact MN.imp (no_panel (X := xA X M G) p0 p1 p2 p3  hL (hI.eq e M G) hq (ek.trans hk)) (fun v G' hp => ⟨hp.1, WD.to (X1 := xA X M G) hR hp.2 rfl e⟩)
theorem ow_panel {D : DT} {X : XT} {s : SG} {M : MT} {G : GT} {q : Nat} (p0 : Int32) (p1 : Int32) (p2 : Int32) (p3 : Int32) (hW : WD X s M G) (hI : INV X s q) (hq : q < 512) (hk : kPan (nA s) (nB s) p0 p1 p2 p3 = 2) : MN yL_off cL_off 6 (Option.some Jvm.ClassFile.FieldType.boolean) rm_no D [.ref (X.1 0 0), .int 2, .int p0, .int p1, .int p2, .int p3] G (fun v G' => v = some (.int 1) ∧ WD X s M G') := by
  obtain ⟨⟨s1, e, hL⟩, hR⟩ := hW
  have ek : kPan (nA s1) (nB s1) p0 p1 p2 p3 = kPan (nA s) (nB s) p0 p1 p2 p3 := by rw [e.nA, e.nB]
  exact MN.imp (off_panel (X := xA X M G) p0 p1 p2 p3  hL (hI.eq e M G) hq (ek.trans hk)) (fun v G' hp => ⟨hp.1, WD.to (X1 := xA X M G) hR hp.2 rfl e⟩)
theorem sw_strength {D : DT} {X : XT} {s : SG} {M : MT} {G : GT} {q : Nat} (p0 : Int32) (y1 : Int32) (y2 : Int32) (y3 : Int32) (hW : WD X s M G) (hI : INV X s q) (hq : q < 512) (hk : kPl (nB s) p0 = 0) : ML yL_act cL_act 7 (Option.some Jvm.ClassFile.FieldType.long) [(0, 443, 444, 103), (0, 443, 450, 107), (0, 443, 456, 111)] rw_act_strength D [.ref (X.1 0 0), .int 3, .int p0, .int y1, .int y2, .int y3] G (fun v G' => ∃ s1 s', EQ s s1 ∧ v = some (.long ((strS s1 (nat p0)))) ∧ WD X s' M G' ∧ s' = s1) := by
  obtain ⟨⟨s1, e, hL⟩, hR⟩ := hW
  have ek : kPl (nB s1) p0 = kPl (nB s) p0 := by rw [e.nB]
  refine ML.imp (a_strength (X := xA X M G) p0 y1 y2 y3  hL (hI.eq e M G) hq) (fun v G' hp => ?_)
  obtain ⟨X', s', w, hv, hG1, hA1, h01, hok | ⟨her, -, -⟩⟩ := hp
  · obtain ⟨hw, hx, hr⟩ := hok
    subst hw
    subst hx
    exact ⟨s1, s', e, hv, WD.to (X1 := xA X M G) hR hG1 hA1 (EQ.rf s'), hr.1⟩
  · rcases her with ⟨hz, -⟩
    exact absurd (hk.symm.trans (ek.symm.trans hz)) (by decide)
theorem xIO_strength {D : DT} {X : XT} {s : SG} {M : MT} {G : GT} {q : Nat} (p0 : Int32) (y1 : Int32) (y2 : Int32) (y3 : Int32) (hW : WD X s M G) (hI : INV X s q) (hq : q < 512) (hk : kPl (nB s) p0 = 1) : ML yL_act cL_act 7 (Option.some Jvm.ClassFile.FieldType.long) [(0, 443, 444, 103), (0, 443, 450, 107), (0, 443, 456, 111)] rw_act_strength D [.ref (X.1 0 0), .int 3, .int p0, .int y1, .int y2, .int y3] G (fun v G' => v = some (.long (-1731000000000)) ∧ WD X s M G') := by
  obtain ⟨⟨s1, e, hL⟩, hR⟩ := hW
  have ek : kPl (nB s1) p0 = kPl (nB s) p0 := by rw [e.nB]
  refine ML.imp (a_strength (X := xA X M G) p0 y1 y2 y3  hL (hI.eq e M G) hq) (fun v G' hp => ?_)
  obtain ⟨X', s', w, hv, hG1, hA1, h01, hok | ⟨her, rfl, rfl⟩⟩ := hp
  · exact absurd (hk.symm.trans (ek.symm.trans hok.2.2.2)) (by decide)
  · skip
    have hw9 : w = (-1731000000000) := her.2
    subst hw9
    exact ⟨hv, WD.to (X1 := xA X M G) hR hG1 hA1 e⟩
theorem nw_strength {D : DT} {X : XT} {s : SG} {M : MT} {G : GT} {q : Nat} (p0 : Int32) (y1 : Int32) (y2 : Int32) (y3 : Int32) (hW : WD X s M G) (hI : INV X s q) (hq : q < 512) (hk : kPl (nB s) p0 = 1) : MN yL_no cL_no 6 (Option.some Jvm.ClassFile.FieldType.boolean) rm_no D [.ref (X.1 0 0), .int 3, .int p0, .int y1, .int y2, .int y3] G (fun v G' => v = some (.int 1) ∧ WD X s M G') := by
  obtain ⟨⟨s1, e, hL⟩, hR⟩ := hW
  have ek : kPl (nB s1) p0 = kPl (nB s) p0 := by rw [e.nB]
  exact MN.imp (no_strength (X := xA X M G) p0 y1 y2 y3  hL (hI.eq e M G) hq (ek.trans hk)) (fun v G' hp => ⟨hp.1, WD.to (X1 := xA X M G) hR hp.2 rfl e⟩)
theorem sw_roll {D : DT} {X : XT} {s : SG} {M : MT} {G : GT} {q : Nat} (p0 : Int32) (y1 : Int32) (y2 : Int32) (y3 : Int32) (hW : WD X s M G) (hI : INV X s q) (hq : q < 512) (hk : kRoll (nA s) p0 = 0) : ML yL_act cL_act 7 (Option.some Jvm.ClassFile.FieldType.long) [(0, 443, 444, 103), (0, 443, 450, 107), (0, 443, 456, 111)] rw_act_roll D [.ref (X.1 0 0), .int 4, .int p0, .int y1, .int y2, .int y3] G (fun v G' => ∃ s1 s', EQ s s1 ∧ v = some (.long (((s1.1 39 (nat p0) + s1.1 41 (nat p0))).toInt64)) ∧ WD X s' M G' ∧ s' = s1) := by
  obtain ⟨⟨s1, e, hL⟩, hR⟩ := hW
  have ek : kRoll (nA s1) p0 = kRoll (nA s) p0 := by rw [e.nA]
  refine ML.imp (a_roll (X := xA X M G) p0 y1 y2 y3  hL (hI.eq e M G) hq) (fun v G' hp => ?_)
  obtain ⟨X', s', w, hv, hG1, hA1, h01, hok | ⟨her, -, -⟩⟩ := hp
  · obtain ⟨hw, hx, hr⟩ := hok
    subst hw
    subst hx
    exact ⟨s1, s', e, hv, WD.to (X1 := xA X M G) hR hG1 hA1 (EQ.rf s'), hr.1⟩
  · rcases her with ⟨hz, -⟩
    exact absurd (hk.symm.trans (ek.symm.trans hz)) (by decide)
theorem xIO_roll {D : DT} {X : XT} {s : SG} {M : MT} {G : GT} {q : Nat} (p0 : Int32) (y1 : Int32) (y2 : Int32) (y3 : Int32) (hW : WD X s M G) (hI : INV X s q) (hq : q < 512) (hk : kRoll (nA s) p0 = 1) : ML yL_act cL_act 7 (Option.some Jvm.ClassFile.FieldType.long) [(0, 443, 444, 103), (0, 443, 450, 107), (0, 443, 456, 111)] rw_act_roll D [.ref (X.1 0 0), .int 4, .int p0, .int y1, .int y2, .int y3] G (fun v G' => v = some (.long (-1731000000000)) ∧ WD X s M G') := by
  obtain ⟨⟨s1, e, hL⟩, hR⟩ := hW
  have ek : kRoll (nA s1) p0 = kRoll (nA s) p0 := by rw [e.nA]
  refine ML.imp (a_roll (X := xA X M G) p0 y1 y2 y3  hL (hI.eq e M G) hq) (fun v G' hp => ?_)
  obtain ⟨X', s', w, hv, hG1, hA1, h01, hok | ⟨her, rfl, rfl⟩⟩ := hp
  · exact absurd (hk.symm.trans (ek.symm.trans hok.2.2.2)) (by decide)
  · skip
    have hw9 : w = (-1731000000000) := her.2
    subst hw9
    exact ⟨hv, WD.to (X1 := xA X M G) hR hG1 hA1 e⟩
theorem nw_roll {D : DT} {X : XT} {s : SG} {M : MT} {G : GT} {q : Nat} (p0 : Int32) (y1 : Int32) (y2 : Int32) (y3 : Int32) (hW : WD X s M G) (hI : INV X s q) (hq : q < 512) (hk : kRoll (nA s) p0 = 1) : MN yL_no cL_no 6 (Option.some Jvm.ClassFile.FieldType.boolean) rm_no D [.ref (X.1 0 0), .int 4, .int p0, .int y1, .int y2, .int y3] G (fun v G' => v = some (.int 1) ∧ WD X s M G') := by
  obtain ⟨⟨s1, e, hL⟩, hR⟩ := hW
  have ek : kRoll (nA s1) p0 = kRoll (nA s) p0 := by rw [e.nA]
  exact MN.imp (no_roll (X := xA X M G) p0 y1 y2 y3  hL (hI.eq e M G) hq (ek.trans hk)) (fun v G' hp => ⟨hp.1, WD.to (X1 := xA X M G) hR hp.2 rfl e⟩)
theorem sw_seam {D : DT} {X : XT} {s : SG} {M : MT} {G : GT} {q : Nat} (p0 : Int32) (p1 : Int32) (p2 : Int32) (y3 : Int32) (hW : WD X s M G) (hI : INV X s q) (hq : q < 512) (hk : kSeam (nB s) (nS s) p0 p1 p2 = 0) : ML yL_act cL_act 7 (Option.some Jvm.ClassFile.FieldType.long) [(0, 443, 444, 103), (0, 443, 450, 107), (0, 443, 456, 111)] rw_act_seam D [.ref (X.1 0 0), .int 5, .int p0, .int p1, .int p2, .int y3] G (fun v G' => ∃ s1 X' s', EQ s s1 ∧ v = some (.long (((nI (nS s1))).toInt64)) ∧ WD X' s' M G' ∧ X'.1 0 0 = X.1 0 0 ∧ s' = gSeam s1 (nS s1) p0 p1 p2 ∧ X'.2.1 = u2 X.2.1 15 (nS s1) true ∧ X'.2.2.1 = u2 X.2.2.1 3 (nS s1) true) := by
  obtain ⟨⟨s1, e, hL⟩, hR⟩ := hW
  have ek : kSeam (nB s1) (nS s1) p0 p1 p2 = kSeam (nB s) (nS s) p0 p1 p2 := by rw [e.nB, e.nS]
  refine ML.imp (a_seam (X := xA X M G) p0 p1 p2 y3  hL (hI.eq e M G) hq) (fun v G' hp => ?_)
  obtain ⟨X', s', w, hv, hG1, hA1, h01, hok | ⟨her, -, -⟩⟩ := hp
  · obtain ⟨hw, hr⟩ := hok
    subst hw
    exact ⟨s1, _, s', e, hv, WD.to hR hG1 hA1 (EQ.rf s'), h01 0 (by decide), ⟨hr.1, hr.2.1, hr.2.2.1⟩⟩
  · rcases her with ⟨hz, -⟩ | ⟨hz, -⟩ | ⟨hz, -⟩
    · exact absurd (hk.symm.trans (ek.symm.trans hz)) (by decide)
    · exact absurd (hk.symm.trans (ek.symm.trans hz)) (by decide)
    · exact absurd (hk.symm.trans (ek.symm.trans hz)) (by decide)
theorem xIO_seam {D : DT} {X : XT} {s : SG} {M : MT} {G : GT} {q : Nat} (p0 : Int32) (p1 : Int32) (p2 : Int32) (y3 : Int32) (hW : WD X s M G) (hI : INV X s q) (hq : q < 512) (hk : kSeam (nB s) (nS s) p0 p1 p2 = 1) : ML yL_act cL_act 7 (Option.some Jvm.ClassFile.FieldType.long) [(0, 443, 444, 103), (0, 443, 450, 107), (0, 443, 456, 111)] rw_act_seam D [.ref (X.1 0 0), .int 5, .int p0, .int p1, .int p2, .int y3] G (fun v G' => v = some (.long (-1731000000000)) ∧ WD X s M G') := by
  obtain ⟨⟨s1, e, hL⟩, hR⟩ := hW
  have ek : kSeam (nB s1) (nS s1) p0 p1 p2 = kSeam (nB s) (nS s) p0 p1 p2 := by rw [e.nB, e.nS]
  refine ML.imp (a_seam (X := xA X M G) p0 p1 p2 y3  hL (hI.eq e M G) hq) (fun v G' hp => ?_)
  obtain ⟨X', s', w, hv, hG1, hA1, h01, hok | ⟨her, rfl, rfl⟩⟩ := hp
  · exact absurd (hk.symm.trans (ek.symm.trans hok.2.2.2.2)) (by decide)
  · skip
    have hw9 : w = (-1731000000000) := by
      rcases her with ⟨hz, hw⟩ | ⟨hz, hw⟩ | ⟨hz, hw⟩
      · exact hw
      · exact absurd (hk.symm.trans (ek.symm.trans hz)) (by decide)
      · exact absurd (hk.symm.trans (ek.symm.trans hz)) (by decide)
    subst hw9
    exact ⟨hv, WD.to (X1 := xA X M G) hR hG1 hA1 e⟩
theorem xIA_seam {D : DT} {X : XT} {s : SG} {M : MT} {G : GT} {q : Nat} (p0 : Int32) (p1 : Int32) (p2 : Int32) (y3 : Int32) (hW : WD X s M G) (hI : INV X s q) (hq : q < 512) (hk : kSeam (nB s) (nS s) p0 p1 p2 = 2) : ML yL_act cL_act 7 (Option.some Jvm.ClassFile.FieldType.long) [(0, 443, 444, 103), (0, 443, 450, 107), (0, 443, 456, 111)] rw_act_seam D [.ref (X.1 0 0), .int 5, .int p0, .int p1, .int p2, .int y3] G (fun v G' => v = some (.long (-1732000000000)) ∧ WD X s M G') := by
  obtain ⟨⟨s1, e, hL⟩, hR⟩ := hW
  have ek : kSeam (nB s1) (nS s1) p0 p1 p2 = kSeam (nB s) (nS s) p0 p1 p2 := by rw [e.nB, e.nS]
  refine ML.imp (a_seam (X := xA X M G) p0 p1 p2 y3  hL (hI.eq e M G) hq) (fun v G' hp => ?_)
  obtain ⟨X', s', w, hv, hG1, hA1, h01, hok | ⟨her, rfl, rfl⟩⟩ := hp
  · exact absurd (hk.symm.trans (ek.symm.trans hok.2.2.2.2)) (by decide)
  · skip
    have hw9 : w = (-1732000000000) := by
      rcases her with ⟨hz, hw⟩ | ⟨hz, hw⟩ | ⟨hz, hw⟩
      · exact absurd (hk.symm.trans (ek.symm.trans hz)) (by decide)
      · exact hw
      · exact absurd (hk.symm.trans (ek.symm.trans hz)) (by decide)
    subst hw9
    exact ⟨hv, WD.to (X1 := xA X M G) hR hG1 hA1 e⟩
theorem xIS_seam {D : DT} {X : XT} {s : SG} {M : MT} {G : GT} {q : Nat} (p0 : Int32) (p1 : Int32) (p2 : Int32) (y3 : Int32) (hW : WD X s M G) (hI : INV X s q) (hq : q < 512) (hk : kSeam (nB s) (nS s) p0 p1 p2 = 3) : ML yL_act cL_act 7 (Option.some Jvm.ClassFile.FieldType.long) [(0, 443, 444, 103), (0, 443, 450, 107), (0, 443, 456, 111)] rw_act_seam D [.ref (X.1 0 0), .int 5, .int p0, .int p1, .int p2, .int y3] G (fun v G' => v = some (.long (-1733000000000)) ∧ WD X s M G') := by
  obtain ⟨⟨s1, e, hL⟩, hR⟩ := hW
  have ek : kSeam (nB s1) (nS s1) p0 p1 p2 = kSeam (nB s) (nS s) p0 p1 p2 := by rw [e.nB, e.nS]
  refine ML.imp (a_seam (X := xA X M G) p0 p1 p2 y3  hL (hI.eq e M G) hq) (fun v G' hp => ?_)
  obtain ⟨X', s', w, hv, hG1, hA1, h01, hok | ⟨her, rfl, rfl⟩⟩ := hp
  · exact absurd (hk.symm.trans (ek.symm.trans hok.2.2.2.2)) (by decide)
  · skip
    have hw9 : w = (-1733000000000) := by
      rcases her with ⟨hz, hw⟩ | ⟨hz, hw⟩ | ⟨hz, hw⟩
      · exact absurd (hk.symm.trans (ek.symm.trans hz)) (by decide)
      · exact absurd (hk.symm.trans (ek.symm.trans hz)) (by decide)
      · exact hw
    subst hw9
    exact ⟨hv, WD.to (X1 := xA X M G) hR hG1 hA1 e⟩
theorem nw_seam {D : DT} {X : XT} {s : SG} {M : MT} {G : GT} {q : Nat} (p0 : Int32) (p1 : Int32) (p2 : Int32) (y3 : Int32) (hW : WD X s M G) (hI : INV X s q) (hq : q < 512) (hk : kSeam (nB s) (nS s) p0 p1 p2 = 1) : MN yL_no cL_no 6 (Option.some Jvm.ClassFile.FieldType.boolean) rm_no D [.ref (X.1 0 0), .int 5, .int p0, .int p1, .int p2, .int y3] G (fun v G' => v = some (.int 1) ∧ WD X s M G') := by
  obtain ⟨⟨s1, e, hL⟩, hR⟩ := hW
  have ek : kSeam (nB s1) (nS s1) p0 p1 p2 = kSeam (nB s) (nS s) p0 p1 p2 := by rw [e.nB, e.nS]
  exact MN.imp (no_seam (X := xA X M G) p0 p1 p2 y3  hL (hI.eq e M G) hq (ek.trans hk)) (fun v G' hp => ⟨hp.1, WD.to (X1 := xA X M G) hR hp.2 rfl e⟩)
theorem ow_seam {D : DT} {X : XT} {s : SG} {M : MT} {G : GT} {q : Nat} (p0 : Int32) (p1 : Int32) (p2 : Int32) (y3 : Int32) (hW : WD X s M G) (hI : INV X s q) (hq : q < 512) (hk : kSeam (nB s) (nS s) p0 p1 p2 = 2) : MN yL_off cL_off 6 (Option.some Jvm.ClassFile.FieldType.boolean) rm_no D [.ref (X.1 0 0), .int 5, .int p0, .int p1, .int p2, .int y3] G (fun v G' => v = some (.int 1) ∧ WD X s M G') := by
  obtain ⟨⟨s1, e, hL⟩, hR⟩ := hW
  have ek : kSeam (nB s1) (nS s1) p0 p1 p2 = kSeam (nB s) (nS s) p0 p1 p2 := by rw [e.nB, e.nS]
  exact MN.imp (off_seam (X := xA X M G) p0 p1 p2 y3  hL (hI.eq e M G) hq (ek.trans hk)) (fun v G' hp => ⟨hp.1, WD.to (X1 := xA X M G) hR hp.2 rfl e⟩)
theorem sw_rip {D : DT} {X : XT} {s : SG} {M : MT} {G : GT} {q : Nat} (p0 : Int32) (y1 : Int32) (y2 : Int32) (y3 : Int32) (hW : WD X s M G) (hI : INV X s q) (hq : q < 512) (hk : kRip s (nS s) p0 = 0) : ML yL_act cL_act 7 (Option.some Jvm.ClassFile.FieldType.long) [(0, 443, 444, 103), (0, 443, 450, 107), (0, 443, 456, 111)] rw_act_rip D [.ref (X.1 0 0), .int 6, .int p0, .int y1, .int y2, .int y3] G (fun v G' => ∃ s1 X' s', EQ s s1 ∧ v = some (.long ((seamS s1 (nat p0)))) ∧ WD X' s' M G' ∧ X'.1 0 0 = X.1 0 0 ∧ s' = sI s1 13 (nat p0) 1 ∧ X'.2.1 = X.2.1 ∧ X'.2.2.1 = u2 X.2.2.1 3 (nat p0) false) := by
  obtain ⟨⟨s1, e, hL⟩, hR⟩ := hW
  have ek : kRip s1 (nS s1) p0 = kRip s (nS s) p0 := by rw [e.kRip_, e.nS]
  refine ML.imp (a_rip (X := xA X M G) p0 y1 y2 y3  hL (hI.eq e M G) hq) (fun v G' hp => ?_)
  obtain ⟨X', s', w, hv, hG1, hA1, h01, hok | ⟨her, -, -⟩⟩ := hp
  · obtain ⟨hw, hr⟩ := hok
    subst hw
    exact ⟨s1, _, s', e, hv, WD.to hR hG1 hA1 (EQ.rf s'), h01 0 (by decide), ⟨hr.1, hr.2.1, hr.2.2.1⟩⟩
  · rcases her with ⟨hz, -⟩
    exact absurd (hk.symm.trans (ek.symm.trans hz)) (by decide)
theorem xIO_rip {D : DT} {X : XT} {s : SG} {M : MT} {G : GT} {q : Nat} (p0 : Int32) (y1 : Int32) (y2 : Int32) (y3 : Int32) (hW : WD X s M G) (hI : INV X s q) (hq : q < 512) (hk : kRip s (nS s) p0 = 1) : ML yL_act cL_act 7 (Option.some Jvm.ClassFile.FieldType.long) [(0, 443, 444, 103), (0, 443, 450, 107), (0, 443, 456, 111)] rw_act_rip D [.ref (X.1 0 0), .int 6, .int p0, .int y1, .int y2, .int y3] G (fun v G' => v = some (.long (-1731000000000)) ∧ WD X s M G') := by
  obtain ⟨⟨s1, e, hL⟩, hR⟩ := hW
  have ek : kRip s1 (nS s1) p0 = kRip s (nS s) p0 := by rw [e.kRip_, e.nS]
  refine ML.imp (a_rip (X := xA X M G) p0 y1 y2 y3  hL (hI.eq e M G) hq) (fun v G' hp => ?_)
  obtain ⟨X', s', w, hv, hG1, hA1, h01, hok | ⟨her, rfl, rfl⟩⟩ := hp
  · exact absurd (hk.symm.trans (ek.symm.trans hok.2.2.2.2)) (by decide)
  · skip
    have hw9 : w = (-1731000000000) := her.2
    subst hw9
    exact ⟨hv, WD.to (X1 := xA X M G) hR hG1 hA1 e⟩
theorem nw_rip {D : DT} {X : XT} {s : SG} {M : MT} {G : GT} {q : Nat} (p0 : Int32) (y1 : Int32) (y2 : Int32) (y3 : Int32) (hW : WD X s M G) (hI : INV X s q) (hq : q < 512) (hk : kRip s (nS s) p0 = 1) : MN yL_no cL_no 6 (Option.some Jvm.ClassFile.FieldType.boolean) rm_no D [.ref (X.1 0 0), .int 6, .int p0, .int y1, .int y2, .int y3] G (fun v G' => v = some (.int 1) ∧ WD X s M G') := by
  obtain ⟨⟨s1, e, hL⟩, hR⟩ := hW
  have ek : kRip s1 (nS s1) p0 = kRip s (nS s) p0 := by rw [e.kRip_, e.nS]
  exact MN.imp (no_rip (X := xA X M G) p0 y1 y2 y3  hL (hI.eq e M G) hq (ek.trans hk)) (fun v G' hp => ⟨hp.1, WD.to (X1 := xA X M G) hR hp.2 rfl e⟩)
theorem sw_bears {D : DT} {X : XT} {s : SG} {M : MT} {G : GT} {q : Nat} (p0 : Int32) (p1 : Int32) (y2 : Int32) (y3 : Int32) (hW : WD X s M G) (hI : INV X s q) (hq : q < 512) (hk : kBe (nB s) p0 p1 = 0) : ML yL_act cL_act 7 (Option.some Jvm.ClassFile.FieldType.long) [(0, 443, 444, 103), (0, 443, 450, 107), (0, 443, 456, 111)] rw_act_bears D [.ref (X.1 0 0), .int 7, .int p0, .int p1, .int y2, .int y3] G (fun v G' => ∃ s1 s', EQ s s1 ∧ v = some (.long ((finL s1 (nB s1) (nS s1) (nat p0) (nat p1)))) ∧ WD X s' M G' ∧ (∃ L, s' = sK s1 L)) := by
  obtain ⟨⟨s1, e, hL⟩, hR⟩ := hW
  have ek : kBe (nB s1) p0 p1 = kBe (nB s) p0 p1 := by rw [e.nB]
  refine ML.imp (a_bears (X := xA X M G) p0 p1 y2 y3  hL (hI.eq e M G) hq) (fun v G' hp => ?_)
  obtain ⟨X', s', w, hv, hG1, hA1, h01, hok | ⟨her, -, -⟩⟩ := hp
  · obtain ⟨hw, hx, hr⟩ := hok
    subst hw
    subst hx
    exact ⟨s1, s', e, hv, WD.to (X1 := xA X M G) hR hG1 hA1 (EQ.rf s'), hr.1⟩
  · rcases her with ⟨hz, -⟩
    exact absurd (hk.symm.trans (ek.symm.trans hz)) (by decide)
theorem xIO_bears {D : DT} {X : XT} {s : SG} {M : MT} {G : GT} {q : Nat} (p0 : Int32) (p1 : Int32) (y2 : Int32) (y3 : Int32) (hW : WD X s M G) (hI : INV X s q) (hq : q < 512) (hk : kBe (nB s) p0 p1 = 1) : ML yL_act cL_act 7 (Option.some Jvm.ClassFile.FieldType.long) [(0, 443, 444, 103), (0, 443, 450, 107), (0, 443, 456, 111)] rw_act_bears D [.ref (X.1 0 0), .int 7, .int p0, .int p1, .int y2, .int y3] G (fun v G' => v = some (.long (-1731000000000)) ∧ WD X s M G') := by
  obtain ⟨⟨s1, e, hL⟩, hR⟩ := hW
  have ek : kBe (nB s1) p0 p1 = kBe (nB s) p0 p1 := by rw [e.nB]
  refine ML.imp (a_bears (X := xA X M G) p0 p1 y2 y3  hL (hI.eq e M G) hq) (fun v G' hp => ?_)
  obtain ⟨X', s', w, hv, hG1, hA1, h01, hok | ⟨her, rfl, rfl⟩⟩ := hp
  · exact absurd (hk.symm.trans (ek.symm.trans hok.2.2.2)) (by decide)
  · skip
    have hw9 : w = (-1731000000000) := her.2
    subst hw9
    exact ⟨hv, WD.to (X1 := xA X M G) hR hG1 hA1 e⟩
theorem nw_bears {D : DT} {X : XT} {s : SG} {M : MT} {G : GT} {q : Nat} (p0 : Int32) (p1 : Int32) (y2 : Int32) (y3 : Int32) (hW : WD X s M G) (hI : INV X s q) (hq : q < 512) (hk : kBe (nB s) p0 p1 = 1) : MN yL_no cL_no 6 (Option.some Jvm.ClassFile.FieldType.boolean) rm_no D [.ref (X.1 0 0), .int 7, .int p0, .int p1, .int y2, .int y3] G (fun v G' => v = some (.int 1) ∧ WD X s M G') := by
  obtain ⟨⟨s1, e, hL⟩, hR⟩ := hW
  have ek : kBe (nB s1) p0 p1 = kBe (nB s) p0 p1 := by rw [e.nB]
  exact MN.imp (no_bears (X := xA X M G) p0 p1 y2 y3  hL (hI.eq e M G) hq (ek.trans hk)) (fun v G' hp => ⟨hp.1, WD.to (X1 := xA X M G) hR hp.2 rfl e⟩)
theorem sw_bearsAnew {D : DT} {X : XT} {s : SG} {M : MT} {G : GT} {q : Nat} (p0 : Int32) (p1 : Int32) (y2 : Int32) (y3 : Int32) (hW : WD X s M G) (hI : INV X s q) (hq : q < 512) (hk : kBe (nB s) p0 p1 = 0) : ML yL_act cL_act 7 (Option.some Jvm.ClassFile.FieldType.long) [(0, 443, 444, 103), (0, 443, 450, 107), (0, 443, 456, 111)] rw_act_bearsAnew D [.ref (X.1 0 0), .int 8, .int p0, .int p1, .int y2, .int y3] G (fun v G' => ∃ s1 s', EQ s s1 ∧ v = some (.long ((finL s1 (nB s1) (nS s1) (nat p0) (nat p1)))) ∧ WD X s' M G' ∧ (∃ g, s' = sG s1 g)) := by
  obtain ⟨⟨s1, e, hL⟩, hR⟩ := hW
  have ek : kBe (nB s1) p0 p1 = kBe (nB s) p0 p1 := by rw [e.nB]
  refine ML.imp (a_bearsAnew (X := xA X M G) p0 p1 y2 y3  hL (hI.eq e M G) hq) (fun v G' hp => ?_)
  obtain ⟨X', s', w, hv, hG1, hA1, h01, hok | ⟨her, -, -⟩⟩ := hp
  · obtain ⟨hw, hx, hr⟩ := hok
    subst hw
    subst hx
    exact ⟨s1, s', e, hv, WD.to (X1 := xA X M G) hR hG1 hA1 (EQ.rf s'), hr.1⟩
  · rcases her with ⟨hz, -⟩
    exact absurd (hk.symm.trans (ek.symm.trans hz)) (by decide)
theorem xIO_bearsAnew {D : DT} {X : XT} {s : SG} {M : MT} {G : GT} {q : Nat} (p0 : Int32) (p1 : Int32) (y2 : Int32) (y3 : Int32) (hW : WD X s M G) (hI : INV X s q) (hq : q < 512) (hk : kBe (nB s) p0 p1 = 1) : ML yL_act cL_act 7 (Option.some Jvm.ClassFile.FieldType.long) [(0, 443, 444, 103), (0, 443, 450, 107), (0, 443, 456, 111)] rw_act_bearsAnew D [.ref (X.1 0 0), .int 8, .int p0, .int p1, .int y2, .int y3] G (fun v G' => v = some (.long (-1731000000000)) ∧ WD X s M G') := by
  obtain ⟨⟨s1, e, hL⟩, hR⟩ := hW
  have ek : kBe (nB s1) p0 p1 = kBe (nB s) p0 p1 := by rw [e.nB]
  refine ML.imp (a_bearsAnew (X := xA X M G) p0 p1 y2 y3  hL (hI.eq e M G) hq) (fun v G' hp => ?_)
  obtain ⟨X', s', w, hv, hG1, hA1, h01, hok | ⟨her, rfl, rfl⟩⟩ := hp
  · exact absurd (hk.symm.trans (ek.symm.trans hok.2.2.2)) (by decide)
  · skip
    have hw9 : w = (-1731000000000) := her.2
    subst hw9
    exact ⟨hv, WD.to (X1 := xA X M G) hR hG1 hA1 e⟩
theorem nw_bearsAnew {D : DT} {X : XT} {s : SG} {M : MT} {G : GT} {q : Nat} (p0 : Int32) (p1 : Int32) (y2 : Int32) (y3 : Int32) (hW : WD X s M G) (hI : INV X s q) (hq : q < 512) (hk : kBe (nB s) p0 p1 = 1) : MN yL_no cL_no 6 (Option.some Jvm.ClassFile.FieldType.boolean) rm_no D [.ref (X.1 0 0), .int 8, .int p0, .int p1, .int y2, .int y3] G (fun v G' => v = some (.int 1) ∧ WD X s M G') := by
  obtain ⟨⟨s1, e, hL⟩, hR⟩ := hW
  have ek : kBe (nB s1) p0 p1 = kBe (nB s) p0 p1 := by rw [e.nB]
  exact MN.imp (no_bearsAnew (X := xA X M G) p0 p1 y2 y3  hL (hI.eq e M G) hq (ek.trans hk)) (fun v G' hp => ⟨hp.1, WD.to (X1 := xA X M G) hR hp.2 rfl e⟩)
theorem sw_knot0 {D : DT} {X : XT} {s : SG} {M : MT} {G : GT} {q : Nat} (p0 : Int32) (p1 : Int32) (y3 : Int32) (hW : WD X s M G) (hI : INV X s q) (hq : q < 512) (hk : kKnot p0 p1 = 0) : ML yL_act cL_act 7 (Option.some Jvm.ClassFile.FieldType.long) [(0, 443, 444, 103), (0, 443, 450, 107), (0, 443, 456, 111)] rw_act_knot0 D [.ref (X.1 0 0), .int 9, .int p0, .int p1, .int 0, .int y3] G (fun v G' => ∃ s1 s', EQ s s1 ∧ v = some (.long (((s1.1 15 (nat p0))).toInt64)) ∧ WD X s' M G' ∧ s' = gKnot s1 (nat p0) p1 0) := by
  obtain ⟨⟨s1, e, hL⟩, hR⟩ := hW
  have ek : kKnot p0 p1 = kKnot p0 p1 := rfl
  refine ML.imp (a_knot0 (X := xA X M G) p0 p1 y3  hL (hI.eq e M G) hq) (fun v G' hp => ?_)
  obtain ⟨X', s', w, hv, hG1, hA1, h01, hok | ⟨her, -, -⟩⟩ := hp
  · obtain ⟨hw, hx, hr⟩ := hok
    subst hw
    subst hx
    exact ⟨s1, s', e, hv, WD.to (X1 := xA X M G) hR hG1 hA1 (EQ.rf s'), hr.1⟩
  · rcases her with ⟨hz, -⟩ | ⟨hz, -⟩
    · exact absurd (hk.symm.trans (ek.symm.trans hz)) (by decide)
    · exact absurd (hk.symm.trans (ek.symm.trans hz)) (by decide)
theorem xIO_knot0 {D : DT} {X : XT} {s : SG} {M : MT} {G : GT} {q : Nat} (p0 : Int32) (p1 : Int32) (y3 : Int32) (hW : WD X s M G) (hI : INV X s q) (hq : q < 512) (hk : kKnot p0 p1 = 1) : ML yL_act cL_act 7 (Option.some Jvm.ClassFile.FieldType.long) [(0, 443, 444, 103), (0, 443, 450, 107), (0, 443, 456, 111)] rw_act_knot0 D [.ref (X.1 0 0), .int 9, .int p0, .int p1, .int 0, .int y3] G (fun v G' => v = some (.long (-1731000000000)) ∧ WD X s M G') := by
  obtain ⟨⟨s1, e, hL⟩, hR⟩ := hW
  have ek : kKnot p0 p1 = kKnot p0 p1 := rfl
  refine ML.imp (a_knot0 (X := xA X M G) p0 p1 y3  hL (hI.eq e M G) hq) (fun v G' hp => ?_)
  obtain ⟨X', s', w, hv, hG1, hA1, h01, hok | ⟨her, rfl, rfl⟩⟩ := hp
  · exact absurd (hk.symm.trans (ek.symm.trans hok.2.2.2)) (by decide)
  · skip
    have hw9 : w = (-1731000000000) := by
      rcases her with ⟨hz, hw⟩ | ⟨hz, hw⟩
      · exact hw
      · exact absurd (hk.symm.trans (ek.symm.trans hz)) (by decide)
    subst hw9
    exact ⟨hv, WD.to (X1 := xA X M G) hR hG1 hA1 e⟩
theorem xIA_knot0 {D : DT} {X : XT} {s : SG} {M : MT} {G : GT} {q : Nat} (p0 : Int32) (p1 : Int32) (y3 : Int32) (hW : WD X s M G) (hI : INV X s q) (hq : q < 512) (hk : kKnot p0 p1 = 2) : ML yL_act cL_act 7 (Option.some Jvm.ClassFile.FieldType.long) [(0, 443, 444, 103), (0, 443, 450, 107), (0, 443, 456, 111)] rw_act_knot0 D [.ref (X.1 0 0), .int 9, .int p0, .int p1, .int 0, .int y3] G (fun v G' => v = some (.long (-1732000000000)) ∧ WD X s M G') := by
  obtain ⟨⟨s1, e, hL⟩, hR⟩ := hW
  have ek : kKnot p0 p1 = kKnot p0 p1 := rfl
  refine ML.imp (a_knot0 (X := xA X M G) p0 p1 y3  hL (hI.eq e M G) hq) (fun v G' hp => ?_)
  obtain ⟨X', s', w, hv, hG1, hA1, h01, hok | ⟨her, rfl, rfl⟩⟩ := hp
  · exact absurd (hk.symm.trans (ek.symm.trans hok.2.2.2)) (by decide)
  · skip
    have hw9 : w = (-1732000000000) := by
      rcases her with ⟨hz, hw⟩ | ⟨hz, hw⟩
      · exact absurd (hk.symm.trans (ek.symm.trans hz)) (by decide)
      · exact hw
    subst hw9
    exact ⟨hv, WD.to (X1 := xA X M G) hR hG1 hA1 e⟩
theorem nw_knot0 {D : DT} {X : XT} {s : SG} {M : MT} {G : GT} {q : Nat} (p0 : Int32) (p1 : Int32) (y3 : Int32) (hW : WD X s M G) (hI : INV X s q) (hq : q < 512) (hk : kKnot p0 p1 = 1) : MN yL_no cL_no 6 (Option.some Jvm.ClassFile.FieldType.boolean) rm_no D [.ref (X.1 0 0), .int 9, .int p0, .int p1, .int 0, .int y3] G (fun v G' => v = some (.int 1) ∧ WD X s M G') := by
  obtain ⟨⟨s1, e, hL⟩, hR⟩ := hW
  have ek : kKnot p0 p1 = kKnot p0 p1 := rfl
  exact MN.imp (no_knot0 (X := xA X M G) p0 p1 y3  hL (hI.eq e M G) hq (ek.trans hk)) (fun v G' hp => ⟨hp.1, WD.to (X1 := xA X M G) hR hp.2 rfl e⟩)
theorem ow_knot0 {D : DT} {X : XT} {s : SG} {M : MT} {G : GT} {q : Nat} (p0 : Int32) (p1 : Int32) (y3 : Int32) (hW : WD X s M G) (hI : INV X s q) (hq : q < 512) (hk : kKnot p0 p1 = 2) : MN yL_off cL_off 6 (Option.some Jvm.ClassFile.FieldType.boolean) rm_no D [.ref (X.1 0 0), .int 9, .int p0, .int p1, .int 0, .int y3] G (fun v G' => v = some (.int 1) ∧ WD X s M G') := by
  obtain ⟨⟨s1, e, hL⟩, hR⟩ := hW
  have ek : kKnot p0 p1 = kKnot p0 p1 := rfl
  exact MN.imp (off_knot0 (X := xA X M G) p0 p1 y3  hL (hI.eq e M G) hq (ek.trans hk)) (fun v G' hp => ⟨hp.1, WD.to (X1 := xA X M G) hR hp.2 rfl e⟩)
theorem sw_knot1 {D : DT} {X : XT} {s : SG} {M : MT} {G : GT} {q : Nat} (p0 : Int32) (p1 : Int32) (y3 : Int32) (hW : WD X s M G) (hI : INV X s q) (hq : q < 512) (hk : kKnot p0 p1 = 0) : ML yL_act cL_act 7 (Option.some Jvm.ClassFile.FieldType.long) [(0, 443, 444, 103), (0, 443, 450, 107), (0, 443, 456, 111)] rw_act_knot1 D [.ref (X.1 0 0), .int 9, .int p0, .int p1, .int 1, .int y3] G (fun v G' => ∃ s1 s', EQ s s1 ∧ v = some (.long (((s1.1 15 (nat p0))).toInt64)) ∧ WD X s' M G' ∧ s' = gKnot s1 (nat p0) p1 1) := by
  obtain ⟨⟨s1, e, hL⟩, hR⟩ := hW
  have ek : kKnot p0 p1 = kKnot p0 p1 := rfl
  refine ML.imp (a_knot1 (X := xA X M G) p0 p1 y3  hL (hI.eq e M G) hq) (fun v G' hp => ?_)
  obtain ⟨X', s', w, hv, hG1, hA1, h01, hok | ⟨her, -, -⟩⟩ := hp
  · obtain ⟨hw, hx, hr⟩ := hok
    subst hw
    subst hx
    exact ⟨s1, s', e, hv, WD.to (X1 := xA X M G) hR hG1 hA1 (EQ.rf s'), hr.1⟩
  · rcases her with ⟨hz, -⟩ | ⟨hz, -⟩
    · exact absurd (hk.symm.trans (ek.symm.trans hz)) (by decide)
    · exact absurd (hk.symm.trans (ek.symm.trans hz)) (by decide)
theorem xIO_knot1 {D : DT} {X : XT} {s : SG} {M : MT} {G : GT} {q : Nat} (p0 : Int32) (p1 : Int32) (y3 : Int32) (hW : WD X s M G) (hI : INV X s q) (hq : q < 512) (hk : kKnot p0 p1 = 1) : ML yL_act cL_act 7 (Option.some Jvm.ClassFile.FieldType.long) [(0, 443, 444, 103), (0, 443, 450, 107), (0, 443, 456, 111)] rw_act_knot1 D [.ref (X.1 0 0), .int 9, .int p0, .int p1, .int 1, .int y3] G (fun v G' => v = some (.long (-1731000000000)) ∧ WD X s M G') := by
  obtain ⟨⟨s1, e, hL⟩, hR⟩ := hW
  have ek : kKnot p0 p1 = kKnot p0 p1 := rfl
  refine ML.imp (a_knot1 (X := xA X M G) p0 p1 y3  hL (hI.eq e M G) hq) (fun v G' hp => ?_)
  obtain ⟨X', s', w, hv, hG1, hA1, h01, hok | ⟨her, rfl, rfl⟩⟩ := hp
  · exact absurd (hk.symm.trans (ek.symm.trans hok.2.2.2)) (by decide)
  · skip
    have hw9 : w = (-1731000000000) := by
      rcases her with ⟨hz, hw⟩ | ⟨hz, hw⟩
      · exact hw
      · exact absurd (hk.symm.trans (ek.symm.trans hz)) (by decide)
    subst hw9
    exact ⟨hv, WD.to (X1 := xA X M G) hR hG1 hA1 e⟩
theorem xIA_knot1 {D : DT} {X : XT} {s : SG} {M : MT} {G : GT} {q : Nat} (p0 : Int32) (p1 : Int32) (y3 : Int32) (hW : WD X s M G) (hI : INV X s q) (hq : q < 512) (hk : kKnot p0 p1 = 2) : ML yL_act cL_act 7 (Option.some Jvm.ClassFile.FieldType.long) [(0, 443, 444, 103), (0, 443, 450, 107), (0, 443, 456, 111)] rw_act_knot1 D [.ref (X.1 0 0), .int 9, .int p0, .int p1, .int 1, .int y3] G (fun v G' => v = some (.long (-1732000000000)) ∧ WD X s M G') := by
  obtain ⟨⟨s1, e, hL⟩, hR⟩ := hW
  have ek : kKnot p0 p1 = kKnot p0 p1 := rfl
  refine ML.imp (a_knot1 (X := xA X M G) p0 p1 y3  hL (hI.eq e M G) hq) (fun v G' hp => ?_)
  obtain ⟨X', s', w, hv, hG1, hA1, h01, hok | ⟨her, rfl, rfl⟩⟩ := hp
  · exact absurd (hk.symm.trans (ek.symm.trans hok.2.2.2)) (by decide)
  · skip
    have hw9 : w = (-1732000000000) := by
      rcases her with ⟨hz, hw⟩ | ⟨hz, hw⟩
      · exact absurd (hk.symm.trans (ek.symm.trans hz)) (by decide)
      · exact hw
    subst hw9
    exact ⟨hv, WD.to (X1 := xA X M G) hR hG1 hA1 e⟩
theorem nw_knot1 {D : DT} {X : XT} {s : SG} {M : MT} {G : GT} {q : Nat} (p0 : Int32) (p1 : Int32) (y3 : Int32) (hW : WD X s M G) (hI : INV X s q) (hq : q < 512) (hk : kKnot p0 p1 = 1) : MN yL_no cL_no 6 (Option.some Jvm.ClassFile.FieldType.boolean) rm_no D [.ref (X.1 0 0), .int 9, .int p0, .int p1, .int 1, .int y3] G (fun v G' => v = some (.int 1) ∧ WD X s M G') := by
  obtain ⟨⟨s1, e, hL⟩, hR⟩ := hW
  have ek : kKnot p0 p1 = kKnot p0 p1 := rfl
  exact MN.imp (no_knot1 (X := xA X M G) p0 p1 y3  hL (hI.eq e M G) hq (ek.trans hk)) (fun v G' hp => ⟨hp.1, WD.to (X1 := xA X M G) hR hp.2 rfl e⟩)
theorem ow_knot1 {D : DT} {X : XT} {s : SG} {M : MT} {G : GT} {q : Nat} (p0 : Int32) (p1 : Int32) (y3 : Int32) (hW : WD X s M G) (hI : INV X s q) (hq : q < 512) (hk : kKnot p0 p1 = 2) : MN yL_off cL_off 6 (Option.some Jvm.ClassFile.FieldType.boolean) rm_no D [.ref (X.1 0 0), .int 9, .int p0, .int p1, .int 1, .int y3] G (fun v G' => v = some (.int 1) ∧ WD X s M G') := by
  obtain ⟨⟨s1, e, hL⟩, hR⟩ := hW
  have ek : kKnot p0 p1 = kKnot p0 p1 := rfl
  exact MN.imp (off_knot1 (X := xA X M G) p0 p1 y3  hL (hI.eq e M G) hq (ek.trans hk)) (fun v G' hp => ⟨hp.1, WD.to (X1 := xA X M G) hR hp.2 rfl e⟩)
theorem sw_load {D : DT} {X : XT} {s : SG} {M : MT} {G : GT} {q : Nat} (p0 : Int32) (y1 : Int32) (y2 : Int32) (y3 : Int32) (hW : WD X s M G) (hI : INV X s q) (hq : q < 512) (hk : kLoad p0 = 0) : ML yL_act cL_act 7 (Option.some Jvm.ClassFile.FieldType.long) [(0, 443, 444, 103), (0, 443, 450, 107), (0, 443, 456, 111)] rw_act_load D [.ref (X.1 0 0), .int 10, .int p0, .int y1, .int y2, .int y3] G (fun v G' => ∃ s1 s', EQ s s1 ∧ v = some (.long (((s1.1 18 0)).toInt64)) ∧ WD X s' M G' ∧ s' = sI s1 18 0 p0) := by
  obtain ⟨⟨s1, e, hL⟩, hR⟩ := hW
  have ek : kLoad p0 = kLoad p0 := rfl
  refine ML.imp (a_load (X := xA X M G) p0 y1 y2 y3  hL (hI.eq e M G) hq) (fun v G' hp => ?_)
  obtain ⟨X', s', w, hv, hG1, hA1, h01, hok | ⟨her, -, -⟩⟩ := hp
  · obtain ⟨hw, hx, hr⟩ := hok
    subst hw
    subst hx
    exact ⟨s1, s', e, hv, WD.to (X1 := xA X M G) hR hG1 hA1 (EQ.rf s'), hr.1⟩
  · rcases her with ⟨hz, -⟩
    exact absurd (hk.symm.trans (ek.symm.trans hz)) (by decide)
theorem xIA_load {D : DT} {X : XT} {s : SG} {M : MT} {G : GT} {q : Nat} (p0 : Int32) (y1 : Int32) (y2 : Int32) (y3 : Int32) (hW : WD X s M G) (hI : INV X s q) (hq : q < 512) (hk : kLoad p0 = 1) : ML yL_act cL_act 7 (Option.some Jvm.ClassFile.FieldType.long) [(0, 443, 444, 103), (0, 443, 450, 107), (0, 443, 456, 111)] rw_act_load D [.ref (X.1 0 0), .int 10, .int p0, .int y1, .int y2, .int y3] G (fun v G' => v = some (.long (-1732000000000)) ∧ WD X s M G') := by
  obtain ⟨⟨s1, e, hL⟩, hR⟩ := hW
  have ek : kLoad p0 = kLoad p0 := rfl
  refine ML.imp (a_load (X := xA X M G) p0 y1 y2 y3  hL (hI.eq e M G) hq) (fun v G' hp => ?_)
  obtain ⟨X', s', w, hv, hG1, hA1, h01, hok | ⟨her, rfl, rfl⟩⟩ := hp
  · exact absurd (hk.symm.trans (ek.symm.trans hok.2.2.2)) (by decide)
  · skip
    have hw9 : w = (-1732000000000) := her.2
    subst hw9
    exact ⟨hv, WD.to (X1 := xA X M G) hR hG1 hA1 e⟩
theorem ow_load {D : DT} {X : XT} {s : SG} {M : MT} {G : GT} {q : Nat} (p0 : Int32) (y1 : Int32) (y2 : Int32) (y3 : Int32) (hW : WD X s M G) (hI : INV X s q) (hq : q < 512) (hk : kLoad p0 = 1) : MN yL_off cL_off 6 (Option.some Jvm.ClassFile.FieldType.boolean) rm_no D [.ref (X.1 0 0), .int 10, .int p0, .int y1, .int y2, .int y3] G (fun v G' => v = some (.int 1) ∧ WD X s M G') := by
  obtain ⟨⟨s1, e, hL⟩, hR⟩ := hW
  have ek : kLoad p0 = kLoad p0 := rfl
  exact MN.imp (off_load (X := xA X M G) p0 y1 y2 y3  hL (hI.eq e M G) hq (ek.trans hk)) (fun v G' hp => ⟨hp.1, WD.to (X1 := xA X M G) hR hp.2 rfl e⟩)
theorem sw_rest {D : DT} {X : XT} {s : SG} {M : MT} {G : GT} {q : Nat} (p0 : Int32) (y1 : Int32) (y2 : Int32) (y3 : Int32) (hW : WD X s M G) (hI : INV X s q) (hq : q < 512) (hk : kRest p0 = 0) : ML yL_act cL_act 7 (Option.some Jvm.ClassFile.FieldType.long) [(0, 443, 444, 103), (0, 443, 450, 107), (0, 443, 456, 111)] rw_act_rest D [.ref (X.1 0 0), .int 11, .int p0, .int y1, .int y2, .int y3] G (fun v G' => ∃ s1 s', EQ s s1 ∧ v = some (.long (((nI (runC s1 (nat p0)).2)).toInt64)) ∧ WD X s' M G' ∧ s' = (runC s1 (nat p0)).1) := by
  obtain ⟨⟨s1, e, hL⟩, hR⟩ := hW
  have ek : kRest p0 = kRest p0 := rfl
  refine ML.imp (a_rest (X := xA X M G) p0 y1 y2 y3  hL (hI.eq e M G) hq) (fun v G' hp => ?_)
  obtain ⟨X', s', w, hv, hG1, hA1, h01, hok | ⟨her, -, -⟩⟩ := hp
  · obtain ⟨hw, hx, hr⟩ := hok
    subst hw
    subst hx
    exact ⟨s1, s', e, hv, WD.to (X1 := xA X M G) hR hG1 hA1 (EQ.rf s'), hr.1⟩
  · rcases her with ⟨hz, -⟩
    exact absurd (hk.symm.trans (ek.symm.trans hz)) (by decide)
theorem xIA_rest {D : DT} {X : XT} {s : SG} {M : MT} {G : GT} {q : Nat} (p0 : Int32) (y1 : Int32) (y2 : Int32) (y3 : Int32) (hW : WD X s M G) (hI : INV X s q) (hq : q < 512) (hk : kRest p0 = 1) : ML yL_act cL_act 7 (Option.some Jvm.ClassFile.FieldType.long) [(0, 443, 444, 103), (0, 443, 450, 107), (0, 443, 456, 111)] rw_act_rest D [.ref (X.1 0 0), .int 11, .int p0, .int y1, .int y2, .int y3] G (fun v G' => v = some (.long (-1732000000000)) ∧ WD X s M G') := by
  obtain ⟨⟨s1, e, hL⟩, hR⟩ := hW
  have ek : kRest p0 = kRest p0 := rfl
  refine ML.imp (a_rest (X := xA X M G) p0 y1 y2 y3  hL (hI.eq e M G) hq) (fun v G' hp => ?_)
  obtain ⟨X', s', w, hv, hG1, hA1, h01, hok | ⟨her, rfl, rfl⟩⟩ := hp
  · exact absurd (hk.symm.trans (ek.symm.trans hok.2.2.2)) (by decide)
  · skip
    have hw9 : w = (-1732000000000) := her.2
    subst hw9
    exact ⟨hv, WD.to (X1 := xA X M G) hR hG1 hA1 e⟩
theorem ow_rest {D : DT} {X : XT} {s : SG} {M : MT} {G : GT} {q : Nat} (p0 : Int32) (y1 : Int32) (y2 : Int32) (y3 : Int32) (hW : WD X s M G) (hI : INV X s q) (hq : q < 512) (hk : kRest p0 = 1) : MN yL_off cL_off 6 (Option.some Jvm.ClassFile.FieldType.boolean) rm_no D [.ref (X.1 0 0), .int 11, .int p0, .int y1, .int y2, .int y3] G (fun v G' => v = some (.int 1) ∧ WD X s M G') := by
  obtain ⟨⟨s1, e, hL⟩, hR⟩ := hW
  have ek : kRest p0 = kRest p0 := rfl
  exact MN.imp (off_rest (X := xA X M G) p0 y1 y2 y3  hL (hI.eq e M G) hq (ek.trans hk)) (fun v G' hp => ⟨hp.1, WD.to (X1 := xA X M G) hR hp.2 rfl e⟩)
theorem sw_height {D : DT} {X : XT} {s : SG} {M : MT} {G : GT} {q : Nat} (p0 : Int32) (y1 : Int32) (y2 : Int32) (y3 : Int32) (hW : WD X s M G) (hI : INV X s q) (hq : q < 512) (hk : kHt p0 = 0) : ML yL_act cL_act 7 (Option.some Jvm.ClassFile.FieldType.long) [(0, 443, 444, 103), (0, 443, 450, 107), (0, 443, 456, 111)] rw_act_height D [.ref (X.1 0 0), .int 12, .int p0, .int y1, .int y2, .int y3] G (fun v G' => ∃ s1 s', EQ s s1 ∧ v = some (.long (((s1.1 15 (nat p0))).toInt64)) ∧ WD X s' M G' ∧ s' = s1) := by
  obtain ⟨⟨s1, e, hL⟩, hR⟩ := hW
  have ek : kHt p0 = kHt p0 := rfl
  refine ML.imp (a_height (X := xA X M G) p0 y1 y2 y3  hL (hI.eq e M G) hq) (fun v G' hp => ?_)
  obtain ⟨X', s', w, hv, hG1, hA1, h01, hok | ⟨her, -, -⟩⟩ := hp
  · obtain ⟨hw, hx, hr⟩ := hok
    subst hw
    subst hx
    exact ⟨s1, s', e, hv, WD.to (X1 := xA X M G) hR hG1 hA1 (EQ.rf s'), hr.1⟩
  · rcases her with ⟨hz, -⟩
    exact absurd (hk.symm.trans (ek.symm.trans hz)) (by decide)
theorem xIO_height {D : DT} {X : XT} {s : SG} {M : MT} {G : GT} {q : Nat} (p0 : Int32) (y1 : Int32) (y2 : Int32) (y3 : Int32) (hW : WD X s M G) (hI : INV X s q) (hq : q < 512) (hk : kHt p0 = 1) : ML yL_act cL_act 7 (Option.some Jvm.ClassFile.FieldType.long) [(0, 443, 444, 103), (0, 443, 450, 107), (0, 443, 456, 111)] rw_act_height D [.ref (X.1 0 0), .int 12, .int p0, .int y1, .int y2, .int y3] G (fun v G' => v = some (.long (-1731000000000)) ∧ WD X s M G') := by
  obtain ⟨⟨s1, e, hL⟩, hR⟩ := hW
  have ek : kHt p0 = kHt p0 := rfl
  refine ML.imp (a_height (X := xA X M G) p0 y1 y2 y3  hL (hI.eq e M G) hq) (fun v G' hp => ?_)
  obtain ⟨X', s', w, hv, hG1, hA1, h01, hok | ⟨her, rfl, rfl⟩⟩ := hp
  · exact absurd (hk.symm.trans (ek.symm.trans hok.2.2.2)) (by decide)
  · skip
    have hw9 : w = (-1731000000000) := her.2
    subst hw9
    exact ⟨hv, WD.to (X1 := xA X M G) hR hG1 hA1 e⟩
theorem nw_height {D : DT} {X : XT} {s : SG} {M : MT} {G : GT} {q : Nat} (p0 : Int32) (y1 : Int32) (y2 : Int32) (y3 : Int32) (hW : WD X s M G) (hI : INV X s q) (hq : q < 512) (hk : kHt p0 = 1) : MN yL_no cL_no 6 (Option.some Jvm.ClassFile.FieldType.boolean) rm_no D [.ref (X.1 0 0), .int 12, .int p0, .int y1, .int y2, .int y3] G (fun v G' => v = some (.int 1) ∧ WD X s M G') := by
  obtain ⟨⟨s1, e, hL⟩, hR⟩ := hW
  have ek : kHt p0 = kHt p0 := rfl
  exact MN.imp (no_height (X := xA X M G) p0 y1 y2 y3  hL (hI.eq e M G) hq (ek.trans hk)) (fun v G' hp => ⟨hp.1, WD.to (X1 := xA X M G) hR hp.2 rfl e⟩)
theorem sw_pulled {D : DT} {X : XT} {s : SG} {M : MT} {G : GT} {q : Nat} (p0 : Int32) (y1 : Int32) (y2 : Int32) (y3 : Int32) (hW : WD X s M G) (hI : INV X s q) (hq : q < 512) (hk : kPul (nG s) p0 = 0) : ML yL_act cL_act 7 (Option.some Jvm.ClassFile.FieldType.long) [(0, 443, 444, 103), (0, 443, 450, 107), (0, 443, 456, 111)] rw_act_pulled D [.ref (X.1 0 0), .int 13, .int p0, .int y1, .int y2, .int y3] G (fun v G' => ∃ s1 s', EQ s s1 ∧ v = some (.long ((s1.2 23 (nat p0)))) ∧ WD X s' M G' ∧ s' = s1) := by
  obtain ⟨⟨s1, e, hL⟩, hR⟩ := hW
  have ek : kPul (nG s1) p0 = kPul (nG s) p0 := by rw [e.nG]
  refine ML.imp (a_pulled (X := xA X M G) p0 y1 y2 y3  hL (hI.eq e M G) hq) (fun v G' hp => ?_)
  obtain ⟨X', s', w, hv, hG1, hA1, h01, hok | ⟨her, -, -⟩⟩ := hp
  · obtain ⟨hw, hx, hr⟩ := hok
    subst hw
    subst hx
    exact ⟨s1, s', e, hv, WD.to (X1 := xA X M G) hR hG1 hA1 (EQ.rf s'), hr.1⟩
  · rcases her with ⟨hz, -⟩
    exact absurd (hk.symm.trans (ek.symm.trans hz)) (by decide)
theorem xIO_pulled {D : DT} {X : XT} {s : SG} {M : MT} {G : GT} {q : Nat} (p0 : Int32) (y1 : Int32) (y2 : Int32) (y3 : Int32) (hW : WD X s M G) (hI : INV X s q) (hq : q < 512) (hk : kPul (nG s) p0 = 1) : ML yL_act cL_act 7 (Option.some Jvm.ClassFile.FieldType.long) [(0, 443, 444, 103), (0, 443, 450, 107), (0, 443, 456, 111)] rw_act_pulled D [.ref (X.1 0 0), .int 13, .int p0, .int y1, .int y2, .int y3] G (fun v G' => v = some (.long (-1731000000000)) ∧ WD X s M G') := by
  obtain ⟨⟨s1, e, hL⟩, hR⟩ := hW
  have ek : kPul (nG s1) p0 = kPul (nG s) p0 := by rw [e.nG]
  refine ML.imp (a_pulled (X := xA X M G) p0 y1 y2 y3  hL (hI.eq e M G) hq) (fun v G' hp => ?_)
  obtain ⟨X', s', w, hv, hG1, hA1, h01, hok | ⟨her, rfl, rfl⟩⟩ := hp
  · exact absurd (hk.symm.trans (ek.symm.trans hok.2.2.2)) (by decide)
  · skip
    have hw9 : w = (-1731000000000) := her.2
    subst hw9
    exact ⟨hv, WD.to (X1 := xA X M G) hR hG1 hA1 e⟩
theorem nw_pulled {D : DT} {X : XT} {s : SG} {M : MT} {G : GT} {q : Nat} (p0 : Int32) (y1 : Int32) (y2 : Int32) (y3 : Int32) (hW : WD X s M G) (hI : INV X s q) (hq : q < 512) (hk : kPul (nG s) p0 = 1) : MN yL_no cL_no 6 (Option.some Jvm.ClassFile.FieldType.boolean) rm_no D [.ref (X.1 0 0), .int 13, .int p0, .int y1, .int y2, .int y3] G (fun v G' => v = some (.int 1) ∧ WD X s M G') := by
  obtain ⟨⟨s1, e, hL⟩, hR⟩ := hW
  have ek : kPul (nG s1) p0 = kPul (nG s) p0 := by rw [e.nG]
  exact MN.imp (no_pulled (X := xA X M G) p0 y1 y2 y3  hL (hI.eq e M G) hq (ek.trans hk)) (fun v G' hp => ⟨hp.1, WD.to (X1 := xA X M G) hR hp.2 rfl e⟩)
theorem sw_trim {D : DT} {X : XT} {s : SG} {M : MT} {G : GT} {q : Nat} (p0 : Int32) (p1 : Int32) (p2 : Int32) (y3 : Int32) (hW : WD X s M G) (hI : INV X s q) (hq : q < 512) (hk : kTrim p0 p1 p2 = 0) : ML yL_act cL_act 7 (Option.some Jvm.ClassFile.FieldType.long) [(0, 443, 444, 103), (0, 443, 450, 107), (0, 443, 456, 111)] rw_act_trim D [.ref (X.1 0 0), .int 14, .int p0, .int p1, .int p2, .int y3] G (fun v G' => ∃ s1 s', EQ s s1 ∧ v = some (.long ((FP.f2i (FP.fmul ((drI (nat p0) (nat p1))) 1148846080)).toInt64)) ∧ WD X s' M G' ∧ s' = gTrim s1 p0 p1 p2) := by
  obtain ⟨⟨s1, e, hL⟩, hR⟩ := hW
  have ek : kTrim p0 p1 p2 = kTrim p0 p1 p2 := rfl
  refine ML.imp (a_trim (X := xA X M G) p0 p1 p2 y3  hL (hI.eq e M G) hq) (fun v G' hp => ?_)
  obtain ⟨X', s', w, hv, hG1, hA1, h01, hok | ⟨her, -, -⟩⟩ := hp
  · obtain ⟨hw, hx, hr⟩ := hok
    subst hw
    subst hx
    exact ⟨s1, s', e, hv, WD.to (X1 := xA X M G) hR hG1 hA1 (EQ.rf s'), hr.1⟩
  · rcases her with ⟨hz, -⟩
    exact absurd (hk.symm.trans (ek.symm.trans hz)) (by decide)
theorem xIA_trim {D : DT} {X : XT} {s : SG} {M : MT} {G : GT} {q : Nat} (p0 : Int32) (p1 : Int32) (p2 : Int32) (y3 : Int32) (hW : WD X s M G) (hI : INV X s q) (hq : q < 512) (hk : kTrim p0 p1 p2 = 1) : ML yL_act cL_act 7 (Option.some Jvm.ClassFile.FieldType.long) [(0, 443, 444, 103), (0, 443, 450, 107), (0, 443, 456, 111)] rw_act_trim D [.ref (X.1 0 0), .int 14, .int p0, .int p1, .int p2, .int y3] G (fun v G' => v = some (.long (-1732000000000)) ∧ WD X s M G') := by
  obtain ⟨⟨s1, e, hL⟩, hR⟩ := hW
  have ek : kTrim p0 p1 p2 = kTrim p0 p1 p2 := rfl
  refine ML.imp (a_trim (X := xA X M G) p0 p1 p2 y3  hL (hI.eq e M G) hq) (fun v G' hp => ?_)
  obtain ⟨X', s', w, hv, hG1, hA1, h01, hok | ⟨her, rfl, rfl⟩⟩ := hp
  · exact absurd (hk.symm.trans (ek.symm.trans hok.2.2.2)) (by decide)
  · skip
    have hw9 : w = (-1732000000000) := her.2
    subst hw9
    exact ⟨hv, WD.to (X1 := xA X M G) hR hG1 hA1 e⟩
theorem ow_trim {D : DT} {X : XT} {s : SG} {M : MT} {G : GT} {q : Nat} (p0 : Int32) (p1 : Int32) (p2 : Int32) (y3 : Int32) (hW : WD X s M G) (hI : INV X s q) (hq : q < 512) (hk : kTrim p0 p1 p2 = 1) : MN yL_off cL_off 6 (Option.some Jvm.ClassFile.FieldType.boolean) rm_no D [.ref (X.1 0 0), .int 14, .int p0, .int p1, .int p2, .int y3] G (fun v G' => v = some (.int 1) ∧ WD X s M G') := by
  obtain ⟨⟨s1, e, hL⟩, hR⟩ := hW
  have ek : kTrim p0 p1 p2 = kTrim p0 p1 p2 := rfl
  exact MN.imp (off_trim (X := xA X M G) p0 p1 p2 y3  hL (hI.eq e M G) hq (ek.trans hk)) (fun v G' hp => ⟨hp.1, WD.to (X1 := xA X M G) hR hp.2 rfl e⟩)
theorem sw_power {D : DT} {X : XT} {s : SG} {M : MT} {G : GT} {q : Nat} (p0 : Int32) (y1 : Int32) (y2 : Int32) (y3 : Int32) {h t r : Nat} (e1 : s.1 24 0 = nI h) (e2 : s.1 25 0 = nI t) (e3 : s.1 26 0 = nI r) (hh : h < 101) (ht : t < 101) (hr : r < 4) (hW : WD X s M G) (hI : INV X s q) (hq : q < 512) (hk : kPow p0 = 0) : ML yL_act cL_act 7 (Option.some Jvm.ClassFile.FieldType.long) [(0, 443, 444, 103), (0, 443, 450, 107), (0, 443, 456, 111)] rw_act_power D [.ref (X.1 0 0), .int 15, .int p0, .int y1, .int y2, .int y3] G (fun v G' => ∃ s1 s', EQ s s1 ∧ v = some (.long ((FP.f2i ((pwI h t r (nat p0)))).toInt64)) ∧ WD X s' M G' ∧ s' = s1) := by
  obtain ⟨⟨s1, e, hL⟩, hR⟩ := hW
  have ek : kPow p0 = kPow p0 := rfl
  refine ML.imp (a_power (X := xA X M G) p0 y1 y2 y3 ((congrFun (e.1 24 (by decide) (by decide)) 0).trans e1) ((congrFun (e.1 25 (by decide) (by decide)) 0).trans e2) ((congrFun (e.1 26 (by decide) (by decide)) 0).trans e3) hh ht hr hL (hI.eq e M G) hq) (fun v G' hp => ?_)
  obtain ⟨X', s', w, hv, hG1, hA1, h01, hok | ⟨her, -, -⟩⟩ := hp
  · obtain ⟨hw, hx, hr⟩ := hok
    subst hw
    subst hx
    exact ⟨s1, s', e, hv, WD.to (X1 := xA X M G) hR hG1 hA1 (EQ.rf s'), hr.1⟩
  · rcases her with ⟨hz, -⟩
    exact absurd (hk.symm.trans (ek.symm.trans hz)) (by decide)
theorem xIA_power {D : DT} {X : XT} {s : SG} {M : MT} {G : GT} {q : Nat} (p0 : Int32) (y1 : Int32) (y2 : Int32) (y3 : Int32) {h t r : Nat} (e1 : s.1 24 0 = nI h) (e2 : s.1 25 0 = nI t) (e3 : s.1 26 0 = nI r) (hh : h < 101) (ht : t < 101) (hr : r < 4) (hW : WD X s M G) (hI : INV X s q) (hq : q < 512) (hk : kPow p0 = 1) : ML yL_act cL_act 7 (Option.some Jvm.ClassFile.FieldType.long) [(0, 443, 444, 103), (0, 443, 450, 107), (0, 443, 456, 111)] rw_act_power D [.ref (X.1 0 0), .int 15, .int p0, .int y1, .int y2, .int y3] G (fun v G' => v = some (.long (-1732000000000)) ∧ WD X s M G') := by
  obtain ⟨⟨s1, e, hL⟩, hR⟩ := hW
  have ek : kPow p0 = kPow p0 := rfl
  refine ML.imp (a_power (X := xA X M G) p0 y1 y2 y3 ((congrFun (e.1 24 (by decide) (by decide)) 0).trans e1) ((congrFun (e.1 25 (by decide) (by decide)) 0).trans e2) ((congrFun (e.1 26 (by decide) (by decide)) 0).trans e3) hh ht hr hL (hI.eq e M G) hq) (fun v G' hp => ?_)
  obtain ⟨X', s', w, hv, hG1, hA1, h01, hok | ⟨her, rfl, rfl⟩⟩ := hp
  · exact absurd (hk.symm.trans (ek.symm.trans hok.2.2.2)) (by decide)
  · skip
    have hw9 : w = (-1732000000000) := her.2
    subst hw9
    exact ⟨hv, WD.to (X1 := xA X M G) hR hG1 hA1 e⟩
theorem ow_power {D : DT} {X : XT} {s : SG} {M : MT} {G : GT} {q : Nat} (p0 : Int32) (y1 : Int32) (y2 : Int32) (y3 : Int32) {h t r : Nat} (e1 : s.1 24 0 = nI h) (e2 : s.1 25 0 = nI t) (e3 : s.1 26 0 = nI r) (hh : h < 101) (ht : t < 101) (hr : r < 4) (hW : WD X s M G) (hI : INV X s q) (hq : q < 512) (hk : kPow p0 = 1) : MN yL_off cL_off 6 (Option.some Jvm.ClassFile.FieldType.boolean) rm_no D [.ref (X.1 0 0), .int 15, .int p0, .int y1, .int y2, .int y3] G (fun v G' => v = some (.int 1) ∧ WD X s M G') := by
  obtain ⟨⟨s1, e, hL⟩, hR⟩ := hW
  have ek : kPow p0 = kPow p0 := rfl
  exact MN.imp (off_power (X := xA X M G) p0 y1 y2 y3 ((congrFun (e.1 24 (by decide) (by decide)) 0).trans e1) ((congrFun (e.1 25 (by decide) (by decide)) 0).trans e2) ((congrFun (e.1 26 (by decide) (by decide)) 0).trans e3) hh ht hr hL (hI.eq e M G) hq (ek.trans hk)) (fun v G' hp => ⟨hp.1, WD.to (X1 := xA X M G) hR hp.2 rfl e⟩)
theorem sw_halyard {D : DT} {X : XT} {s : SG} {M : MT} {G : GT} {q : Nat} (p0 : Int32) (p1 : Int32) (y2 : Int32) (y3 : Int32) {t r : Nat} (e2 : s.1 25 0 = nI t) (e3 : s.1 26 0 = nI r) (ht : t < 101) (hr : r < 4) (hW : WD X s M G) (hI : INV X s q) (hq : q < 512) (hk : kHal p0 p1 = 0) : ML yL_act cL_act 7 (Option.some Jvm.ClassFile.FieldType.long) [(0, 443, 444, 103), (0, 443, 450, 107), (0, 443, 456, 111)] rw_act_halyard D [.ref (X.1 0 0), .int 16, .int p0, .int p1, .int y2, .int y3] G (fun v G' => ∃ s1 s', EQ s s1 ∧ v = some (.long (((halF t r (nat p0) p1 101 0)).toInt64)) ∧ WD X s' M G' ∧ s' = s1) := by
  obtain ⟨⟨s1, e, hL⟩, hR⟩ := hW
  have ek : kHal p0 p1 = kHal p0 p1 := rfl
  refine ML.imp (a_halyard (X := xA X M G) p0 p1 y2 y3 ((congrFun (e.1 25 (by decide) (by decide)) 0).trans e2) ((congrFun (e.1 26 (by decide) (by decide)) 0).trans e3) ht hr hL (hI.eq e M G) hq) (fun v G' hp => ?_)
  obtain ⟨X', s', w, hv, hG1, hA1, h01, hok | ⟨her, -, -⟩⟩ := hp
  · obtain ⟨hw, hx, hr⟩ := hok
    subst hw
    subst hx
    exact ⟨s1, s', e, hv, WD.to (X1 := xA X M G) hR hG1 hA1 (EQ.rf s'), hr.1⟩
  · rcases her with ⟨hz, -⟩
    exact absurd (hk.symm.trans (ek.symm.trans hz)) (by decide)
theorem xIA_halyard {D : DT} {X : XT} {s : SG} {M : MT} {G : GT} {q : Nat} (p0 : Int32) (p1 : Int32) (y2 : Int32) (y3 : Int32) {t r : Nat} (e2 : s.1 25 0 = nI t) (e3 : s.1 26 0 = nI r) (ht : t < 101) (hr : r < 4) (hW : WD X s M G) (hI : INV X s q) (hq : q < 512) (hk : kHal p0 p1 = 1) : ML yL_act cL_act 7 (Option.some Jvm.ClassFile.FieldType.long) [(0, 443, 444, 103), (0, 443, 450, 107), (0, 443, 456, 111)] rw_act_halyard D [.ref (X.1 0 0), .int 16, .int p0, .int p1, .int y2, .int y3] G (fun v G' => v = some (.long (-1732000000000)) ∧ WD X s M G') := by
  obtain ⟨⟨s1, e, hL⟩, hR⟩ := hW
  have ek : kHal p0 p1 = kHal p0 p1 := rfl
  refine ML.imp (a_halyard (X := xA X M G) p0 p1 y2 y3 ((congrFun (e.1 25 (by decide) (by decide)) 0).trans e2) ((congrFun (e.1 26 (by decide) (by decide)) 0).trans e3) ht hr hL (hI.eq e M G) hq) (fun v G' hp => ?_)
  obtain ⟨X', s', w, hv, hG1, hA1, h01, hok | ⟨her, rfl, rfl⟩⟩ := hp
  · exact absurd (hk.symm.trans (ek.symm.trans hok.2.2.2)) (by decide)
  · skip
    have hw9 : w = (-1732000000000) := her.2
    subst hw9
    exact ⟨hv, WD.to (X1 := xA X M G) hR hG1 hA1 e⟩
theorem ow_halyard {D : DT} {X : XT} {s : SG} {M : MT} {G : GT} {q : Nat} (p0 : Int32) (p1 : Int32) (y2 : Int32) (y3 : Int32) {t r : Nat} (e2 : s.1 25 0 = nI t) (e3 : s.1 26 0 = nI r) (ht : t < 101) (hr : r < 4) (hW : WD X s M G) (hI : INV X s q) (hq : q < 512) (hk : kHal p0 p1 = 1) : MN yL_off cL_off 6 (Option.some Jvm.ClassFile.FieldType.boolean) rm_no D [.ref (X.1 0 0), .int 16, .int p0, .int p1, .int y2, .int y3] G (fun v G' => v = some (.int 1) ∧ WD X s M G') := by
  obtain ⟨⟨s1, e, hL⟩, hR⟩ := hW
  have ek : kHal p0 p1 = kHal p0 p1 := rfl
  exact MN.imp (off_halyard (X := xA X M G) p0 p1 y2 y3 ((congrFun (e.1 25 (by decide) (by decide)) 0).trans e2) ((congrFun (e.1 26 (by decide) (by decide)) 0).trans e3) ht hr hL (hI.eq e M G) hq (ek.trans hk)) (fun v G' hp => ⟨hp.1, WD.to (X1 := xA X M G) hR hp.2 rfl e⟩)
theorem sw_pass {D : DT} {X : XT} {s : SG} {M : MT} {G : GT} {q : Nat} (p0 : Int32) (y1 : Int32) (y2 : Int32) (y3 : Int32) (hW : WD X s M G) (hI : INV X s q) (hq : q < 512) (hk : kPass s p0 = 0) : ML yL_act cL_act 7 (Option.some Jvm.ClassFile.FieldType.long) [(0, 443, 444, 103), (0, 443, 450, 107), (0, 443, 456, 111)] rw_act_pass D [.ref (X.1 0 0), .int 17, .int p0, .int y1, .int y2, .int y3] G (fun v G' => ∃ s1 s', EQ s s1 ∧ v = some (.long (((s1.1 27 0 + p0)).toInt64)) ∧ WD X s' M G' ∧ s' = sI s1 27 0 (s1.1 27 0 + p0)) := by
  obtain ⟨⟨s1, e, hL⟩, hR⟩ := hW
  have ek : kPass s1 p0 = kPass s p0 := by rw [e.kPass_]
  refine ML.imp (a_pass (X := xA X M G) p0 y1 y2 y3  hL (hI.eq e M G) hq) (fun v G' hp => ?_)
  obtain ⟨X', s', w, hv, hG1, hA1, h01, hok | ⟨her, -, -⟩⟩ := hp
  · obtain ⟨hw, hx, hr⟩ := hok
    subst hw
    subst hx
    exact ⟨s1, s', e, hv, WD.to (X1 := xA X M G) hR hG1 hA1 (EQ.rf s'), hr.1⟩
  · rcases her with ⟨hz, -⟩ | ⟨hz, -⟩
    · exact absurd (hk.symm.trans (ek.symm.trans hz)) (by decide)
    · exact absurd (hk.symm.trans (ek.symm.trans hz)) (by decide)
theorem xIA_pass {D : DT} {X : XT} {s : SG} {M : MT} {G : GT} {q : Nat} (p0 : Int32) (y1 : Int32) (y2 : Int32) (y3 : Int32) (hW : WD X s M G) (hI : INV X s q) (hq : q < 512) (hk : kPass s p0 = 1) : ML yL_act cL_act 7 (Option.some Jvm.ClassFile.FieldType.long) [(0, 443, 444, 103), (0, 443, 450, 107), (0, 443, 456, 111)] rw_act_pass D [.ref (X.1 0 0), .int 17, .int p0, .int y1, .int y2, .int y3] G (fun v G' => v = some (.long (-1732000000000)) ∧ WD X s M G') := by
  obtain ⟨⟨s1, e, hL⟩, hR⟩ := hW
  have ek : kPass s1 p0 = kPass s p0 := by rw [e.kPass_]
  refine ML.imp (a_pass (X := xA X M G) p0 y1 y2 y3  hL (hI.eq e M G) hq) (fun v G' hp => ?_)
  obtain ⟨X', s', w, hv, hG1, hA1, h01, hok | ⟨her, rfl, rfl⟩⟩ := hp
  · exact absurd (hk.symm.trans (ek.symm.trans hok.2.2.2)) (by decide)
  · skip
    have hw9 : w = (-1732000000000) := by
      rcases her with ⟨hz, hw⟩ | ⟨hz, hw⟩
      · exact hw
      · exact absurd (hk.symm.trans (ek.symm.trans hz)) (by decide)
    subst hw9
    exact ⟨hv, WD.to (X1 := xA X M G) hR hG1 hA1 e⟩
theorem xIS_pass {D : DT} {X : XT} {s : SG} {M : MT} {G : GT} {q : Nat} (p0 : Int32) (y1 : Int32) (y2 : Int32) (y3 : Int32) (hW : WD X s M G) (hI : INV X s q) (hq : q < 512) (hk : kPass s p0 = 2) : ML yL_act cL_act 7 (Option.some Jvm.ClassFile.FieldType.long) [(0, 443, 444, 103), (0, 443, 450, 107), (0, 443, 456, 111)] rw_act_pass D [.ref (X.1 0 0), .int 17, .int p0, .int y1, .int y2, .int y3] G (fun v G' => v = some (.long (-1733000000000)) ∧ WD X s M G') := by
  obtain ⟨⟨s1, e, hL⟩, hR⟩ := hW
  have ek : kPass s1 p0 = kPass s p0 := by rw [e.kPass_]
  refine ML.imp (a_pass (X := xA X M G) p0 y1 y2 y3  hL (hI.eq e M G) hq) (fun v G' hp => ?_)
  obtain ⟨X', s', w, hv, hG1, hA1, h01, hok | ⟨her, rfl, rfl⟩⟩ := hp
  · exact absurd (hk.symm.trans (ek.symm.trans hok.2.2.2)) (by decide)
  · skip
    have hw9 : w = (-1733000000000) := by
      rcases her with ⟨hz, hw⟩ | ⟨hz, hw⟩
      · exact absurd (hk.symm.trans (ek.symm.trans hz)) (by decide)
      · exact hw
    subst hw9
    exact ⟨hv, WD.to (X1 := xA X M G) hR hG1 hA1 e⟩
theorem ow_pass {D : DT} {X : XT} {s : SG} {M : MT} {G : GT} {q : Nat} (p0 : Int32) (y1 : Int32) (y2 : Int32) (y3 : Int32) (hW : WD X s M G) (hI : INV X s q) (hq : q < 512) (hk : kPass s p0 = 1) : MN yL_off cL_off 6 (Option.some Jvm.ClassFile.FieldType.boolean) rm_no D [.ref (X.1 0 0), .int 17, .int p0, .int y1, .int y2, .int y3] G (fun v G' => v = some (.int 1) ∧ WD X s M G') := by
  obtain ⟨⟨s1, e, hL⟩, hR⟩ := hW
  have ek : kPass s1 p0 = kPass s p0 := by rw [e.kPass_]
  exact MN.imp (off_pass (X := xA X M G) p0 y1 y2 y3  hL (hI.eq e M G) hq (ek.trans hk)) (fun v G' hp => ⟨hp.1, WD.to (X1 := xA X M G) hR hp.2 rfl e⟩)
theorem sw_canopy {D : DT} {X : XT} {s : SG} {M : MT} {G : GT} {q : Nat} (p0 : Int32) (y1 : Int32) (y2 : Int32) (y3 : Int32) (hW : WD X s M G) (hI : INV X s q) (hq : q < 512) (hk : kCan (nA s) (nC s) p0 = 0) : ML yL_act cL_act 7 (Option.some Jvm.ClassFile.FieldType.long) [(0, 443, 444, 103), (0, 443, 450, 107), (0, 443, 456, 111)] rw_act_canopy D [.ref (X.1 0 0), .int 18, .int p0, .int y1, .int y2, .int y3] G (fun v G' => ∃ s1 X' s', EQ s s1 ∧ v = some (.long (((nI (nC s1))).toInt64)) ∧ WD X' s' M G' ∧ X'.1 0 0 = X.1 0 0 ∧ s' = gCan s1 (nC s1) p0 ∧ X'.2.1 = u2 (u2 X.2.1 18 (nC s1) true) 17 (nC s1) true ∧ X'.2.2.1 = u2 X.2.2.1 5 (nC s1) true) := by
  obtain ⟨⟨s1, e, hL⟩, hR⟩ := hW
  have ek : kCan (nA s1) (nC s1) p0 = kCan (nA s) (nC s) p0 := by rw [e.nA, e.nC]
  refine ML.imp (a_canopy (X := xA X M G) p0 y1 y2 y3  hL (hI.eq e M G) hq) (fun v G' hp => ?_)
  obtain ⟨X', s', w, hv, hG1, hA1, h01, hok | ⟨her, -, -⟩⟩ := hp
  · obtain ⟨hw, hr⟩ := hok
    subst hw
    exact ⟨s1, _, s', e, hv, WD.to hR hG1 hA1 (EQ.rf s'), h01 0 (by decide), ⟨hr.1, hr.2.1, hr.2.2.1⟩⟩
  · rcases her with ⟨hz, -⟩ | ⟨hz, -⟩
    · exact absurd (hk.symm.trans (ek.symm.trans hz)) (by decide)
    · exact absurd (hk.symm.trans (ek.symm.trans hz)) (by decide)
theorem xIO_canopy {D : DT} {X : XT} {s : SG} {M : MT} {G : GT} {q : Nat} (p0 : Int32) (y1 : Int32) (y2 : Int32) (y3 : Int32) (hW : WD X s M G) (hI : INV X s q) (hq : q < 512) (hk : kCan (nA s) (nC s) p0 = 1) : ML yL_act cL_act 7 (Option.some Jvm.ClassFile.FieldType.long) [(0, 443, 444, 103), (0, 443, 450, 107), (0, 443, 456, 111)] rw_act_canopy D [.ref (X.1 0 0), .int 18, .int p0, .int y1, .int y2, .int y3] G (fun v G' => v = some (.long (-1731000000000)) ∧ WD X s M G') := by
  obtain ⟨⟨s1, e, hL⟩, hR⟩ := hW
  have ek : kCan (nA s1) (nC s1) p0 = kCan (nA s) (nC s) p0 := by rw [e.nA, e.nC]
  refine ML.imp (a_canopy (X := xA X M G) p0 y1 y2 y3  hL (hI.eq e M G) hq) (fun v G' hp => ?_)
  obtain ⟨X', s', w, hv, hG1, hA1, h01, hok | ⟨her, rfl, rfl⟩⟩ := hp
  · exact absurd (hk.symm.trans (ek.symm.trans hok.2.2.2.2)) (by decide)
  · skip
    have hw9 : w = (-1731000000000) := by
      rcases her with ⟨hz, hw⟩ | ⟨hz, hw⟩
      · exact hw
      · exact absurd (hk.symm.trans (ek.symm.trans hz)) (by decide)
    subst hw9
    exact ⟨hv, WD.to (X1 := xA X M G) hR hG1 hA1 e⟩
theorem xIS_canopy {D : DT} {X : XT} {s : SG} {M : MT} {G : GT} {q : Nat} (p0 : Int32) (y1 : Int32) (y2 : Int32) (y3 : Int32) (hW : WD X s M G) (hI : INV X s q) (hq : q < 512) (hk : kCan (nA s) (nC s) p0 = 2) : ML yL_act cL_act 7 (Option.some Jvm.ClassFile.FieldType.long) [(0, 443, 444, 103), (0, 443, 450, 107), (0, 443, 456, 111)] rw_act_canopy D [.ref (X.1 0 0), .int 18, .int p0, .int y1, .int y2, .int y3] G (fun v G' => v = some (.long (-1733000000000)) ∧ WD X s M G') := by
  obtain ⟨⟨s1, e, hL⟩, hR⟩ := hW
  have ek : kCan (nA s1) (nC s1) p0 = kCan (nA s) (nC s) p0 := by rw [e.nA, e.nC]
  refine ML.imp (a_canopy (X := xA X M G) p0 y1 y2 y3  hL (hI.eq e M G) hq) (fun v G' hp => ?_)
  obtain ⟨X', s', w, hv, hG1, hA1, h01, hok | ⟨her, rfl, rfl⟩⟩ := hp
  · exact absurd (hk.symm.trans (ek.symm.trans hok.2.2.2.2)) (by decide)
  · skip
    have hw9 : w = (-1733000000000) := by
      rcases her with ⟨hz, hw⟩ | ⟨hz, hw⟩
      · exact absurd (hk.symm.trans (ek.symm.trans hz)) (by decide)
      · exact hw
    subst hw9
    exact ⟨hv, WD.to (X1 := xA X M G) hR hG1 hA1 e⟩
theorem nw_canopy {D : DT} {X : XT} {s : SG} {M : MT} {G : GT} {q : Nat} (p0 : Int32) (y1 : Int32) (y2 : Int32) (y3 : Int32) (hW : WD X s M G) (hI : INV X s q) (hq : q < 512) (hk : kCan (nA s) (nC s) p0 = 1) : MN yL_no cL_no 6 (Option.some Jvm.ClassFile.FieldType.boolean) rm_no D [.ref (X.1 0 0), .int 18, .int p0, .int y1, .int y2, .int y3] G (fun v G' => v = some (.int 1) ∧ WD X s M G') := by
  obtain ⟨⟨s1, e, hL⟩, hR⟩ := hW
  have ek : kCan (nA s1) (nC s1) p0 = kCan (nA s) (nC s) p0 := by rw [e.nA, e.nC]
  exact MN.imp (no_canopy (X := xA X M G) p0 y1 y2 y3  hL (hI.eq e M G) hq (ek.trans hk)) (fun v G' hp => ⟨hp.1, WD.to (X1 := xA X M G) hR hp.2 rfl e⟩)
theorem sw_part {D : DT} {X : XT} {s : SG} {M : MT} {G : GT} {q : Nat} (p0 : Int32) (p1 : Int32) (y2 : Int32) (y3 : Int32) (hW : WD X s M G) (hI : INV X s q) (hq : q < 512) (hk : kPart s (nC s) p0 p1 = 0) : ML yL_act cL_act 7 (Option.some Jvm.ClassFile.FieldType.long) [(0, 443, 444, 103), (0, 443, 450, 107), (0, 443, 456, 111)] rw_act_part D [.ref (X.1 0 0), .int 19, .int p0, .int p1, .int y2, .int y3] G (fun v G' => ∃ s1 s', EQ s s1 ∧ v = some (.long (((s1.1 30 (nat p0))).toInt64)) ∧ WD X s' M G' ∧ s' = gPart s1 (nat p0) (nat (s1.1 30 (nat p0))) p1) := by
  obtain ⟨⟨s1, e, hL⟩, hR⟩ := hW
  have ek : kPart s1 (nC s1) p0 p1 = kPart s (nC s) p0 p1 := by rw [e.kPart_, e.nC]
  refine ML.imp (a_part (X := xA X M G) p0 p1 y2 y3  hL (hI.eq e M G) hq) (fun v G' hp => ?_)
  obtain ⟨X', s', w, hv, hG1, hA1, h01, hok | ⟨her, -, -⟩⟩ := hp
  · obtain ⟨hw, hx, hr⟩ := hok
    subst hw
    subst hx
    exact ⟨s1, s', e, hv, WD.to (X1 := xA X M G) hR hG1 hA1 (EQ.rf s'), hr.1⟩
  · rcases her with ⟨hz, -⟩ | ⟨hz, -⟩ | ⟨hz, -⟩
    · exact absurd (hk.symm.trans (ek.symm.trans hz)) (by decide)
    · exact absurd (hk.symm.trans (ek.symm.trans hz)) (by decide)
    · exact absurd (hk.symm.trans (ek.symm.trans hz)) (by decide)
theorem xIO_part {D : DT} {X : XT} {s : SG} {M : MT} {G : GT} {q : Nat} (p0 : Int32) (p1 : Int32) (y2 : Int32) (y3 : Int32) (hW : WD X s M G) (hI : INV X s q) (hq : q < 512) (hk : kPart s (nC s) p0 p1 = 1) : ML yL_act cL_act 7 (Option.some Jvm.ClassFile.FieldType.long) [(0, 443, 444, 103), (0, 443, 450, 107), (0, 443, 456, 111)] rw_act_part D [.ref (X.1 0 0), .int 19, .int p0, .int p1, .int y2, .int y3] G (fun v G' => v = some (.long (-1731000000000)) ∧ WD X s M G') := by
  obtain ⟨⟨s1, e, hL⟩, hR⟩ := hW
  have ek : kPart s1 (nC s1) p0 p1 = kPart s (nC s) p0 p1 := by rw [e.kPart_, e.nC]
  refine ML.imp (a_part (X := xA X M G) p0 p1 y2 y3  hL (hI.eq e M G) hq) (fun v G' hp => ?_)
  obtain ⟨X', s', w, hv, hG1, hA1, h01, hok | ⟨her, rfl, rfl⟩⟩ := hp
  · exact absurd (hk.symm.trans (ek.symm.trans hok.2.2.2)) (by decide)
  · skip
    have hw9 : w = (-1731000000000) := by
      rcases her with ⟨hz, hw⟩ | ⟨hz, hw⟩ | ⟨hz, hw⟩
      · exact hw
      · exact absurd (hk.symm.trans (ek.symm.trans hz)) (by decide)
      · exact absurd (hk.symm.trans (ek.symm.trans hz)) (by decide)
    subst hw9
    exact ⟨hv, WD.to (X1 := xA X M G) hR hG1 hA1 e⟩
theorem xIA_part {D : DT} {X : XT} {s : SG} {M : MT} {G : GT} {q : Nat} (p0 : Int32) (p1 : Int32) (y2 : Int32) (y3 : Int32) (hW : WD X s M G) (hI : INV X s q) (hq : q < 512) (hk : kPart s (nC s) p0 p1 = 2) : ML yL_act cL_act 7 (Option.some Jvm.ClassFile.FieldType.long) [(0, 443, 444, 103), (0, 443, 450, 107), (0, 443, 456, 111)] rw_act_part D [.ref (X.1 0 0), .int 19, .int p0, .int p1, .int y2, .int y3] G (fun v G' => v = some (.long (-1732000000000)) ∧ WD X s M G') := by
  obtain ⟨⟨s1, e, hL⟩, hR⟩ := hW
  have ek : kPart s1 (nC s1) p0 p1 = kPart s (nC s) p0 p1 := by rw [e.kPart_, e.nC]
  refine ML.imp (a_part (X := xA X M G) p0 p1 y2 y3  hL (hI.eq e M G) hq) (fun v G' hp => ?_)
  obtain ⟨X', s', w, hv, hG1, hA1, h01, hok | ⟨her, rfl, rfl⟩⟩ := hp
  · exact absurd (hk.symm.trans (ek.symm.trans hok.2.2.2)) (by decide)
  · skip
    have hw9 : w = (-1732000000000) := by
      rcases her with ⟨hz, hw⟩ | ⟨hz, hw⟩ | ⟨hz, hw⟩
      · exact absurd (hk.symm.trans (ek.symm.trans hz)) (by decide)
      · exact hw
      · exact absurd (hk.symm.trans (ek.symm.trans hz)) (by decide)
    subst hw9
    exact ⟨hv, WD.to (X1 := xA X M G) hR hG1 hA1 e⟩
theorem xIS_part {D : DT} {X : XT} {s : SG} {M : MT} {G : GT} {q : Nat} (p0 : Int32) (p1 : Int32) (y2 : Int32) (y3 : Int32) (hW : WD X s M G) (hI : INV X s q) (hq : q < 512) (hk : kPart s (nC s) p0 p1 = 3) : ML yL_act cL_act 7 (Option.some Jvm.ClassFile.FieldType.long) [(0, 443, 444, 103), (0, 443, 450, 107), (0, 443, 456, 111)] rw_act_part D [.ref (X.1 0 0), .int 19, .int p0, .int p1, .int y2, .int y3] G (fun v G' => v = some (.long (-1733000000000)) ∧ WD X s M G') := by
  obtain ⟨⟨s1, e, hL⟩, hR⟩ := hW
  have ek : kPart s1 (nC s1) p0 p1 = kPart s (nC s) p0 p1 := by rw [e.kPart_, e.nC]
  refine ML.imp (a_part (X := xA X M G) p0 p1 y2 y3  hL (hI.eq e M G) hq) (fun v G' hp => ?_)
  obtain ⟨X', s', w, hv, hG1, hA1, h01, hok | ⟨her, rfl, rfl⟩⟩ := hp
  · exact absurd (hk.symm.trans (ek.symm.trans hok.2.2.2)) (by decide)
  · skip
    have hw9 : w = (-1733000000000) := by
      rcases her with ⟨hz, hw⟩ | ⟨hz, hw⟩ | ⟨hz, hw⟩
      · exact absurd (hk.symm.trans (ek.symm.trans hz)) (by decide)
      · exact absurd (hk.symm.trans (ek.symm.trans hz)) (by decide)
      · exact hw
    subst hw9
    exact ⟨hv, WD.to (X1 := xA X M G) hR hG1 hA1 e⟩
theorem nw_part {D : DT} {X : XT} {s : SG} {M : MT} {G : GT} {q : Nat} (p0 : Int32) (p1 : Int32) (y2 : Int32) (y3 : Int32) (hW : WD X s M G) (hI : INV X s q) (hq : q < 512) (hk : kPart s (nC s) p0 p1 = 1) : MN yL_no cL_no 6 (Option.some Jvm.ClassFile.FieldType.boolean) rm_no D [.ref (X.1 0 0), .int 19, .int p0, .int p1, .int y2, .int y3] G (fun v G' => v = some (.int 1) ∧ WD X s M G') := by
  obtain ⟨⟨s1, e, hL⟩, hR⟩ := hW
  have ek : kPart s1 (nC s1) p0 p1 = kPart s (nC s) p0 p1 := by rw [e.kPart_, e.nC]
  exact MN.imp (no_part (X := xA X M G) p0 p1 y2 y3  hL (hI.eq e M G) hq (ek.trans hk)) (fun v G' hp => ⟨hp.1, WD.to (X1 := xA X M G) hR hp.2 rfl e⟩)
theorem ow_part {D : DT} {X : XT} {s : SG} {M : MT} {G : GT} {q : Nat} (p0 : Int32) (p1 : Int32) (y2 : Int32) (y3 : Int32) (hW : WD X s M G) (hI : INV X s q) (hq : q < 512) (hk : kPart s (nC s) p0 p1 = 2) : MN yL_off cL_off 6 (Option.some Jvm.ClassFile.FieldType.boolean) rm_no D [.ref (X.1 0 0), .int 19, .int p0, .int p1, .int y2, .int y3] G (fun v G' => v = some (.int 1) ∧ WD X s M G') := by
  obtain ⟨⟨s1, e, hL⟩, hR⟩ := hW
  have ek : kPart s1 (nC s1) p0 p1 = kPart s (nC s) p0 p1 := by rw [e.kPart_, e.nC]
  exact MN.imp (off_part (X := xA X M G) p0 p1 y2 y3  hL (hI.eq e M G) hq (ek.trans hk)) (fun v G' hp => ⟨hp.1, WD.to (X1 := xA X M G) hR hp.2 rfl e⟩)
theorem sw_opens {D : DT} {X : XT} {s : SG} {M : MT} {G : GT} {q : Nat} (p0 : Int32) (y1 : Int32) (y2 : Int32) (y3 : Int32) (hW : WD X s M G) (hI : INV X s q) (hq : q < 512) (hk : kOp (nC s) p0 = 0) : ML yL_act cL_act 7 (Option.some Jvm.ClassFile.FieldType.long) [(0, 443, 444, 103), (0, 443, 450, 107), (0, 443, 456, 111)] rw_act_opens D [.ref (X.1 0 0), .int 20, .int p0, .int y1, .int y2, .int y3] G (fun v G' => ∃ s1 s', EQ s s1 ∧ v = some (.long (((opS s1 (nat p0))).toInt64)) ∧ WD X s' M G' ∧ s' = s1) := by
  obtain ⟨⟨s1, e, hL⟩, hR⟩ := hW
  have ek : kOp (nC s1) p0 = kOp (nC s) p0 := by rw [e.nC]
  refine ML.imp (a_opens (X := xA X M G) p0 y1 y2 y3  hL (hI.eq e M G) hq) (fun v G' hp => ?_)
  obtain ⟨X', s', w, hv, hG1, hA1, h01, hok | ⟨her, -, -⟩⟩ := hp
  · obtain ⟨hw, hx, hr⟩ := hok
    subst hw
    subst hx
    exact ⟨s1, s', e, hv, WD.to (X1 := xA X M G) hR hG1 hA1 (EQ.rf s'), hr.1⟩
  · rcases her with ⟨hz, -⟩
    exact absurd (hk.symm.trans (ek.symm.trans hz)) (by decide)
theorem xIO_opens {D : DT} {X : XT} {s : SG} {M : MT} {G : GT} {q : Nat} (p0 : Int32) (y1 : Int32) (y2 : Int32) (y3 : Int32) (hW : WD X s M G) (hI : INV X s q) (hq : q < 512) (hk : kOp (nC s) p0 = 1) : ML yL_act cL_act 7 (Option.some Jvm.ClassFile.FieldType.long) [(0, 443, 444, 103), (0, 443, 450, 107), (0, 443, 456, 111)] rw_act_opens D [.ref (X.1 0 0), .int 20, .int p0, .int y1, .int y2, .int y3] G (fun v G' => v = some (.long (-1731000000000)) ∧ WD X s M G') := by
  obtain ⟨⟨s1, e, hL⟩, hR⟩ := hW
  have ek : kOp (nC s1) p0 = kOp (nC s) p0 := by rw [e.nC]
  refine ML.imp (a_opens (X := xA X M G) p0 y1 y2 y3  hL (hI.eq e M G) hq) (fun v G' hp => ?_)
  obtain ⟨X', s', w, hv, hG1, hA1, h01, hok | ⟨her, rfl, rfl⟩⟩ := hp
  · exact absurd (hk.symm.trans (ek.symm.trans hok.2.2.2)) (by decide)
  · skip
    have hw9 : w = (-1731000000000) := her.2
    subst hw9
    exact ⟨hv, WD.to (X1 := xA X M G) hR hG1 hA1 e⟩
theorem nw_opens {D : DT} {X : XT} {s : SG} {M : MT} {G : GT} {q : Nat} (p0 : Int32) (y1 : Int32) (y2 : Int32) (y3 : Int32) (hW : WD X s M G) (hI : INV X s q) (hq : q < 512) (hk : kOp (nC s) p0 = 1) : MN yL_no cL_no 6 (Option.some Jvm.ClassFile.FieldType.boolean) rm_no D [.ref (X.1 0 0), .int 20, .int p0, .int y1, .int y2, .int y3] G (fun v G' => v = some (.int 1) ∧ WD X s M G') := by
  obtain ⟨⟨s1, e, hL⟩, hR⟩ := hW
  have ek : kOp (nC s1) p0 = kOp (nC s) p0 := by rw [e.nC]
  exact MN.imp (no_opens (X := xA X M G) p0 y1 y2 y3  hL (hI.eq e M G) hq (ek.trans hk)) (fun v G' hp => ⟨hp.1, WD.to (X1 := xA X M G) hR hp.2 rfl e⟩)
theorem sw_seal {D : DT} {X : XT} {s : SG} {M : MT} {G : GT} {q : Nat} (p0 : Int32) (p1 : Int32) (y2 : Int32) (y3 : Int32) (hW : WD X s M G) (hI : INV X s q) (hq : q < 512) (hk : kSeal s (nC s) p0 p1 = 0) : ML yL_act cL_act 7 (Option.some Jvm.ClassFile.FieldType.long) [(0, 443, 444, 103), (0, 443, 450, 107), (0, 443, 456, 111)] rw_act_seal D [.ref (X.1 0 0), .int 21, .int p0, .int p1, .int y2, .int y3] G (fun v G' => ∃ s1 s', EQ s s1 ∧ v = some (.long (((s1.1 34 (nat p0) + 1)).toInt64)) ∧ WD X s' M G' ∧ s' = noteS (gSeal s1 (nat p0) p1) (nat p0) 3 (nN s1)) := by
  obtain ⟨⟨s1, e, hL⟩, hR⟩ := hW
  have ek : kSeal s1 (nC s1) p0 p1 = kSeal s (nC s) p0 p1 := by rw [e.kSeal_, e.nC]
  refine ML.imp (a_seal (X := xA X M G) p0 p1 y2 y3  hL (hI.eq e M G) hq) (fun v G' hp => ?_)
  obtain ⟨X', s', w, hv, hG1, hA1, h01, hok | ⟨her, -, -⟩⟩ := hp
  · obtain ⟨hw, hx, hr⟩ := hok
    subst hw
    subst hx
    exact ⟨s1, s', e, hv, WD.to (X1 := xA X M G) hR hG1 hA1 (EQ.rf s'), hr.1⟩
  · rcases her with ⟨hz, -⟩ | ⟨hz, -⟩
    · exact absurd (hk.symm.trans (ek.symm.trans hz)) (by decide)
    · exact absurd (hk.symm.trans (ek.symm.trans hz)) (by decide)
theorem xIO_seal {D : DT} {X : XT} {s : SG} {M : MT} {G : GT} {q : Nat} (p0 : Int32) (p1 : Int32) (y2 : Int32) (y3 : Int32) (hW : WD X s M G) (hI : INV X s q) (hq : q < 512) (hk : kSeal s (nC s) p0 p1 = 1) : ML yL_act cL_act 7 (Option.some Jvm.ClassFile.FieldType.long) [(0, 443, 444, 103), (0, 443, 450, 107), (0, 443, 456, 111)] rw_act_seal D [.ref (X.1 0 0), .int 21, .int p0, .int p1, .int y2, .int y3] G (fun v G' => v = some (.long (-1731000000000)) ∧ WD X s M G') := by
  obtain ⟨⟨s1, e, hL⟩, hR⟩ := hW
  have ek : kSeal s1 (nC s1) p0 p1 = kSeal s (nC s) p0 p1 := by rw [e.kSeal_, e.nC]
  refine ML.imp (a_seal (X := xA X M G) p0 p1 y2 y3  hL (hI.eq e M G) hq) (fun v G' hp => ?_)
  obtain ⟨X', s', w, hv, hG1, hA1, h01, hok | ⟨her, rfl, rfl⟩⟩ := hp
  · exact absurd (hk.symm.trans (ek.symm.trans hok.2.2.2)) (by decide)
  · skip
    have hw9 : w = (-1731000000000) := by
      rcases her with ⟨hz, hw⟩ | ⟨hz, hw⟩
      · exact hw
      · exact absurd (hk.symm.trans (ek.symm.trans hz)) (by decide)
    subst hw9
    exact ⟨hv, WD.to (X1 := xA X M G) hR hG1 hA1 e⟩
theorem xIS_seal {D : DT} {X : XT} {s : SG} {M : MT} {G : GT} {q : Nat} (p0 : Int32) (p1 : Int32) (y2 : Int32) (y3 : Int32) (hW : WD X s M G) (hI : INV X s q) (hq : q < 512) (hk : kSeal s (nC s) p0 p1 = 2) : ML yL_act cL_act 7 (Option.some Jvm.ClassFile.FieldType.long) [(0, 443, 444, 103), (0, 443, 450, 107), (0, 443, 456, 111)] rw_act_seal D [.ref (X.1 0 0), .int 21, .int p0, .int p1, .int y2, .int y3] G (fun v G' => v = some (.long (-1733000000000)) ∧ WD X s M G') := by
  obtain ⟨⟨s1, e, hL⟩, hR⟩ := hW
  have ek : kSeal s1 (nC s1) p0 p1 = kSeal s (nC s) p0 p1 := by rw [e.kSeal_, e.nC]
  refine ML.imp (a_seal (X := xA X M G) p0 p1 y2 y3  hL (hI.eq e M G) hq) (fun v G' hp => ?_)
  obtain ⟨X', s', w, hv, hG1, hA1, h01, hok | ⟨her, rfl, rfl⟩⟩ := hp
  · exact absurd (hk.symm.trans (ek.symm.trans hok.2.2.2)) (by decide)
  · skip
    have hw9 : w = (-1733000000000) := by
      rcases her with ⟨hz, hw⟩ | ⟨hz, hw⟩
      · exact absurd (hk.symm.trans (ek.symm.trans hz)) (by decide)
      · exact hw
    subst hw9
    exact ⟨hv, WD.to (X1 := xA X M G) hR hG1 hA1 e⟩
theorem nw_seal {D : DT} {X : XT} {s : SG} {M : MT} {G : GT} {q : Nat} (p0 : Int32) (p1 : Int32) (y2 : Int32) (y3 : Int32) (hW : WD X s M G) (hI : INV X s q) (hq : q < 512) (hk : kSeal s (nC s) p0 p1 = 1) : MN yL_no cL_no 6 (Option.some Jvm.ClassFile.FieldType.boolean) rm_no D [.ref (X.1 0 0), .int 21, .int p0, .int p1, .int y2, .int y3] G (fun v G' => v = some (.int 1) ∧ WD X s M G') := by
  obtain ⟨⟨s1, e, hL⟩, hR⟩ := hW
  have ek : kSeal s1 (nC s1) p0 p1 = kSeal s (nC s) p0 p1 := by rw [e.kSeal_, e.nC]
  exact MN.imp (no_seal (X := xA X M G) p0 p1 y2 y3  hL (hI.eq e M G) hq (ek.trans hk)) (fun v G' hp => ⟨hp.1, WD.to (X1 := xA X M G) hR hp.2 rfl e⟩)
theorem sw_use {D : DT} {X : XT} {s : SG} {M : MT} {G : GT} {q : Nat} (p0 : Int32) (y1 : Int32) (y2 : Int32) (y3 : Int32) (hW : WD X s M G) (hI : INV X s q) (hq : q < 512) (hk : kUse s (nC s) p0 = 0) : ML yL_act cL_act 7 (Option.some Jvm.ClassFile.FieldType.long) [(0, 443, 444, 103), (0, 443, 450, 107), (0, 443, 456, 111)] rw_act_use D [.ref (X.1 0 0), .int 22, .int p0, .int y1, .int y2, .int y3] G (fun v G' => ∃ s1 s', EQ s s1 ∧ v = some (.long (((s1.1 32 (nat p0))).toInt64)) ∧ WD X s' M G' ∧ s' = noteS (gUse s1 (nat p0)) (nat p0) 4 (nN s1)) := by
  obtain ⟨⟨s1, e, hL⟩, hR⟩ := hW
  have ek : kUse s1 (nC s1) p0 = kUse s (nC s) p0 := by rw [e.kUse_, e.nC]
  refine ML.imp (a_use (X := xA X M G) p0 y1 y2 y3  hL (hI.eq e M G) hq) (fun v G' hp => ?_)
  obtain ⟨X', s', w, hv, hG1, hA1, h01, hok | ⟨her, -, -⟩⟩ := hp
  · obtain ⟨hw, hx, hr⟩ := hok
    subst hw
    subst hx
    exact ⟨s1, s', e, hv, WD.to (X1 := xA X M G) hR hG1 hA1 (EQ.rf s'), hr.1⟩
  · rcases her with ⟨hz, -⟩ | ⟨hz, -⟩
    · exact absurd (hk.symm.trans (ek.symm.trans hz)) (by decide)
    · exact absurd (hk.symm.trans (ek.symm.trans hz)) (by decide)
theorem xIO_use {D : DT} {X : XT} {s : SG} {M : MT} {G : GT} {q : Nat} (p0 : Int32) (y1 : Int32) (y2 : Int32) (y3 : Int32) (hW : WD X s M G) (hI : INV X s q) (hq : q < 512) (hk : kUse s (nC s) p0 = 1) : ML yL_act cL_act 7 (Option.some Jvm.ClassFile.FieldType.long) [(0, 443, 444, 103), (0, 443, 450, 107), (0, 443, 456, 111)] rw_act_use D [.ref (X.1 0 0), .int 22, .int p0, .int y1, .int y2, .int y3] G (fun v G' => v = some (.long (-1731000000000)) ∧ WD X s M G') := by
  obtain ⟨⟨s1, e, hL⟩, hR⟩ := hW
  have ek : kUse s1 (nC s1) p0 = kUse s (nC s) p0 := by rw [e.kUse_, e.nC]
  refine ML.imp (a_use (X := xA X M G) p0 y1 y2 y3  hL (hI.eq e M G) hq) (fun v G' hp => ?_)
  obtain ⟨X', s', w, hv, hG1, hA1, h01, hok | ⟨her, rfl, rfl⟩⟩ := hp
  · exact absurd (hk.symm.trans (ek.symm.trans hok.2.2.2)) (by decide)
  · skip
    have hw9 : w = (-1731000000000) := by
      rcases her with ⟨hz, hw⟩ | ⟨hz, hw⟩
      · exact hw
      · exact absurd (hk.symm.trans (ek.symm.trans hz)) (by decide)
    subst hw9
    exact ⟨hv, WD.to (X1 := xA X M G) hR hG1 hA1 e⟩
theorem xIS_use {D : DT} {X : XT} {s : SG} {M : MT} {G : GT} {q : Nat} (p0 : Int32) (y1 : Int32) (y2 : Int32) (y3 : Int32) (hW : WD X s M G) (hI : INV X s q) (hq : q < 512) (hk : kUse s (nC s) p0 = 2) : ML yL_act cL_act 7 (Option.some Jvm.ClassFile.FieldType.long) [(0, 443, 444, 103), (0, 443, 450, 107), (0, 443, 456, 111)] rw_act_use D [.ref (X.1 0 0), .int 22, .int p0, .int y1, .int y2, .int y3] G (fun v G' => v = some (.long (-1733000000000)) ∧ WD X s M G') := by
  obtain ⟨⟨s1, e, hL⟩, hR⟩ := hW
  have ek : kUse s1 (nC s1) p0 = kUse s (nC s) p0 := by rw [e.kUse_, e.nC]
  refine ML.imp (a_use (X := xA X M G) p0 y1 y2 y3  hL (hI.eq e M G) hq) (fun v G' hp => ?_)
  obtain ⟨X', s', w, hv, hG1, hA1, h01, hok | ⟨her, rfl, rfl⟩⟩ := hp
  · exact absurd (hk.symm.trans (ek.symm.trans hok.2.2.2)) (by decide)
  · skip
    have hw9 : w = (-1733000000000) := by
      rcases her with ⟨hz, hw⟩ | ⟨hz, hw⟩
      · exact absurd (hk.symm.trans (ek.symm.trans hz)) (by decide)
      · exact hw
    subst hw9
    exact ⟨hv, WD.to (X1 := xA X M G) hR hG1 hA1 e⟩
theorem nw_use {D : DT} {X : XT} {s : SG} {M : MT} {G : GT} {q : Nat} (p0 : Int32) (y1 : Int32) (y2 : Int32) (y3 : Int32) (hW : WD X s M G) (hI : INV X s q) (hq : q < 512) (hk : kUse s (nC s) p0 = 1) : MN yL_no cL_no 6 (Option.some Jvm.ClassFile.FieldType.boolean) rm_no D [.ref (X.1 0 0), .int 22, .int p0, .int y1, .int y2, .int y3] G (fun v G' => v = some (.int 1) ∧ WD X s M G') := by
  obtain ⟨⟨s1, e, hL⟩, hR⟩ := hW
  have ek : kUse s1 (nC s1) p0 = kUse s (nC s) p0 := by rw [e.kUse_, e.nC]
  exact MN.imp (no_use (X := xA X M G) p0 y1 y2 y3  hL (hI.eq e M G) hq (ek.trans hk)) (fun v G' hp => ⟨hp.1, WD.to (X1 := xA X M G) hR hp.2 rfl e⟩)
theorem sw_wet0 {D : DT} {X : XT} {s : SG} {M : MT} {G : GT} {q : Nat} (p0 : Int32) (y2 : Int32) (y3 : Int32) (hW : WD X s M G) (hI : INV X s q) (hq : q < 512) (hk : kWet s (nC s) p0 = 0) : ML yL_act cL_act 7 (Option.some Jvm.ClassFile.FieldType.long) [(0, 443, 444, 103), (0, 443, 450, 107), (0, 443, 456, 111)] rw_act_wet0 D [.ref (X.1 0 0), .int 23, .int p0, .int 0, .int y2, .int y3] G (fun v G' => ∃ s1 s', EQ s s1 ∧ v = some (.long ((((gWet s1 (nat p0) 0).1 37 (nat p0))).toInt64)) ∧ WD X s' M G' ∧ s' = (if 0 = 0 then noteS (gWet s1 (nat p0) 0) (nat p0) 5 (nN s1) else sI s1 37 (nat p0) 0)) := by
  obtain ⟨⟨s1, e, hL⟩, hR⟩ := hW
  have ek : kWet s1 (nC s1) p0 = kWet s (nC s) p0 := by rw [e.kWet_, e.nC]
  refine ML.imp (a_wet0 (X := xA X M G) p0 y2 y3  hL (hI.eq e M G) hq) (fun v G' hp => ?_)
  obtain ⟨X', s', w, hv, hG1, hA1, h01, hok | ⟨her, -, -⟩⟩ := hp
  · obtain ⟨hw, hx, hr⟩ := hok
    subst hw
    subst hx
    exact ⟨s1, s', e, hv, WD.to (X1 := xA X M G) hR hG1 hA1 (EQ.rf s'), hr.1⟩
  · rcases her with ⟨hz, -⟩ | ⟨hz, -⟩
    · exact absurd (hk.symm.trans (ek.symm.trans hz)) (by decide)
    · exact absurd (hk.symm.trans (ek.symm.trans hz)) (by decide)
theorem xIO_wet0 {D : DT} {X : XT} {s : SG} {M : MT} {G : GT} {q : Nat} (p0 : Int32) (y2 : Int32) (y3 : Int32) (hW : WD X s M G) (hI : INV X s q) (hq : q < 512) (hk : kWet s (nC s) p0 = 1) : ML yL_act cL_act 7 (Option.some Jvm.ClassFile.FieldType.long) [(0, 443, 444, 103), (0, 443, 450, 107), (0, 443, 456, 111)] rw_act_wet0 D [.ref (X.1 0 0), .int 23, .int p0, .int 0, .int y2, .int y3] G (fun v G' => v = some (.long (-1731000000000)) ∧ WD X s M G') := by
  obtain ⟨⟨s1, e, hL⟩, hR⟩ := hW
  have ek : kWet s1 (nC s1) p0 = kWet s (nC s) p0 := by rw [e.kWet_, e.nC]
  refine ML.imp (a_wet0 (X := xA X M G) p0 y2 y3  hL (hI.eq e M G) hq) (fun v G' hp => ?_)
  obtain ⟨X', s', w, hv, hG1, hA1, h01, hok | ⟨her, rfl, rfl⟩⟩ := hp
  · exact absurd (hk.symm.trans (ek.symm.trans hok.2.2.2)) (by decide)
  · skip
    have hw9 : w = (-1731000000000) := by
      rcases her with ⟨hz, hw⟩ | ⟨hz, hw⟩
      · exact hw
      · exact absurd (hk.symm.trans (ek.symm.trans hz)) (by decide)
    subst hw9
    exact ⟨hv, WD.to (X1 := xA X M G) hR hG1 hA1 e⟩
theorem xIS_wet0 {D : DT} {X : XT} {s : SG} {M : MT} {G : GT} {q : Nat} (p0 : Int32) (y2 : Int32) (y3 : Int32) (hW : WD X s M G) (hI : INV X s q) (hq : q < 512) (hk : kWet s (nC s) p0 = 2) : ML yL_act cL_act 7 (Option.some Jvm.ClassFile.FieldType.long) [(0, 443, 444, 103), (0, 443, 450, 107), (0, 443, 456, 111)] rw_act_wet0 D [.ref (X.1 0 0), .int 23, .int p0, .int 0, .int y2, .int y3] G (fun v G' => v = some (.long (-1733000000000)) ∧ WD X s M G') := by
  obtain ⟨⟨s1, e, hL⟩, hR⟩ := hW
  have ek : kWet s1 (nC s1) p0 = kWet s (nC s) p0 := by rw [e.kWet_, e.nC]
  refine ML.imp (a_wet0 (X := xA X M G) p0 y2 y3  hL (hI.eq e M G) hq) (fun v G' hp => ?_)
  obtain ⟨X', s', w, hv, hG1, hA1, h01, hok | ⟨her, rfl, rfl⟩⟩ := hp
  · exact absurd (hk.symm.trans (ek.symm.trans hok.2.2.2)) (by decide)
  · skip
    have hw9 : w = (-1733000000000) := by
      rcases her with ⟨hz, hw⟩ | ⟨hz, hw⟩
      · exact absurd (hk.symm.trans (ek.symm.trans hz)) (by decide)
      · exact hw
    subst hw9
    exact ⟨hv, WD.to (X1 := xA X M G) hR hG1 hA1 e⟩
theorem nw_wet0 {D : DT} {X : XT} {s : SG} {M : MT} {G : GT} {q : Nat} (p0 : Int32) (y2 : Int32) (y3 : Int32) (hW : WD X s M G) (hI : INV X s q) (hq : q < 512) (hk : kWet s (nC s) p0 = 1) : MN yL_no cL_no 6 (Option.some Jvm.ClassFile.FieldType.boolean) rm_no D [.ref (X.1 0 0), .int 23, .int p0, .int 0, .int y2, .int y3] G (fun v G' => v = some (.int 1) ∧ WD X s M G') := by
  obtain ⟨⟨s1, e, hL⟩, hR⟩ := hW
  have ek : kWet s1 (nC s1) p0 = kWet s (nC s) p0 := by rw [e.kWet_, e.nC]
  exact MN.imp (no_wet0 (X := xA X M G) p0 y2 y3  hL (hI.eq e M G) hq (ek.trans hk)) (fun v G' hp => ⟨hp.1, WD.to (X1 := xA X M G) hR hp.2 rfl e⟩)
theorem sw_wet1 {D : DT} {X : XT} {s : SG} {M : MT} {G : GT} {q : Nat} (p0 : Int32) (y2 : Int32) (y3 : Int32) (hW : WD X s M G) (hI : INV X s q) (hq : q < 512) (hk : kWet s (nC s) p0 = 0) : ML yL_act cL_act 7 (Option.some Jvm.ClassFile.FieldType.long) [(0, 443, 444, 103), (0, 443, 450, 107), (0, 443, 456, 111)] rw_act_wet1 D [.ref (X.1 0 0), .int 23, .int p0, .int 1, .int y2, .int y3] G (fun v G' => ∃ s1 s', EQ s s1 ∧ v = some (.long ((((gWet s1 (nat p0) 1).1 37 (nat p0))).toInt64)) ∧ WD X s' M G' ∧ s' = (if 1 = 0 then noteS (gWet s1 (nat p0) 1) (nat p0) 5 (nN s1) else sI s1 37 (nat p0) 0)) := by
  obtain ⟨⟨s1, e, hL⟩, hR⟩ := hW
  have ek : kWet s1 (nC s1) p0 = kWet s (nC s) p0 := by rw [e.kWet_, e.nC]
  refine ML.imp (a_wet1 (X := xA X M G) p0 y2 y3  hL (hI.eq e M G) hq) (fun v G' hp => ?_)
  obtain ⟨X', s', w, hv, hG1, hA1, h01, hok | ⟨her, -, -⟩⟩ := hp
  · obtain ⟨hw, hx, hr⟩ := hok
    subst hw
    subst hx
    exact ⟨s1, s', e, hv, WD.to (X1 := xA X M G) hR hG1 hA1 (EQ.rf s'), hr.1⟩
  · rcases her with ⟨hz, -⟩ | ⟨hz, -⟩
    · exact absurd (hk.symm.trans (ek.symm.trans hz)) (by decide)
    · exact absurd (hk.symm.trans (ek.symm.trans hz)) (by decide)
theorem xIO_wet1 {D : DT} {X : XT} {s : SG} {M : MT} {G : GT} {q : Nat} (p0 : Int32) (y2 : Int32) (y3 : Int32) (hW : WD X s M G) (hI : INV X s q) (hq : q < 512) (hk : kWet s (nC s) p0 = 1) : ML yL_act cL_act 7 (Option.some Jvm.ClassFile.FieldType.long) [(0, 443, 444, 103), (0, 443, 450, 107), (0, 443, 456, 111)] rw_act_wet1 D [.ref (X.1 0 0), .int 23, .int p0, .int 1, .int y2, .int y3] G (fun v G' => v = some (.long (-1731000000000)) ∧ WD X s M G') := by
  obtain ⟨⟨s1, e, hL⟩, hR⟩ := hW
  have ek : kWet s1 (nC s1) p0 = kWet s (nC s) p0 := by rw [e.kWet_, e.nC]
  refine ML.imp (a_wet1 (X := xA X M G) p0 y2 y3  hL (hI.eq e M G) hq) (fun v G' hp => ?_)
  obtain ⟨X', s', w, hv, hG1, hA1, h01, hok | ⟨her, rfl, rfl⟩⟩ := hp
  · exact absurd (hk.symm.trans (ek.symm.trans hok.2.2.2)) (by decide)
  · skip
    have hw9 : w = (-1731000000000) := by
      rcases her with ⟨hz, hw⟩ | ⟨hz, hw⟩
      · exact hw
      · exact absurd (hk.symm.trans (ek.symm.trans hz)) (by decide)
    subst hw9
    exact ⟨hv, WD.to (X1 := xA X M G) hR hG1 hA1 e⟩
theorem xIS_wet1 {D : DT} {X : XT} {s : SG} {M : MT} {G : GT} {q : Nat} (p0 : Int32) (y2 : Int32) (y3 : Int32) (hW : WD X s M G) (hI : INV X s q) (hq : q < 512) (hk : kWet s (nC s) p0 = 2) : ML yL_act cL_act 7 (Option.some Jvm.ClassFile.FieldType.long) [(0, 443, 444, 103), (0, 443, 450, 107), (0, 443, 456, 111)] rw_act_wet1 D [.ref (X.1 0 0), .int 23, .int p0, .int 1, .int y2, .int y3] G (fun v G' => v = some (.long (-1733000000000)) ∧ WD X s M G') := by
  obtain ⟨⟨s1, e, hL⟩, hR⟩ := hW
  have ek : kWet s1 (nC s1) p0 = kWet s (nC s) p0 := by rw [e.kWet_, e.nC]
  refine ML.imp (a_wet1 (X := xA X M G) p0 y2 y3  hL (hI.eq e M G) hq) (fun v G' hp => ?_)
  obtain ⟨X', s', w, hv, hG1, hA1, h01, hok | ⟨her, rfl, rfl⟩⟩ := hp
  · exact absurd (hk.symm.trans (ek.symm.trans hok.2.2.2)) (by decide)
  · skip
    have hw9 : w = (-1733000000000) := by
      rcases her with ⟨hz, hw⟩ | ⟨hz, hw⟩
      · exact absurd (hk.symm.trans (ek.symm.trans hz)) (by decide)
      · exact hw
    subst hw9
    exact ⟨hv, WD.to (X1 := xA X M G) hR hG1 hA1 e⟩
theorem nw_wet1 {D : DT} {X : XT} {s : SG} {M : MT} {G : GT} {q : Nat} (p0 : Int32) (y2 : Int32) (y3 : Int32) (hW : WD X s M G) (hI : INV X s q) (hq : q < 512) (hk : kWet s (nC s) p0 = 1) : MN yL_no cL_no 6 (Option.some Jvm.ClassFile.FieldType.boolean) rm_no D [.ref (X.1 0 0), .int 23, .int p0, .int 1, .int y2, .int y3] G (fun v G' => v = some (.int 1) ∧ WD X s M G') := by
  obtain ⟨⟨s1, e, hL⟩, hR⟩ := hW
  have ek : kWet s1 (nC s1) p0 = kWet s (nC s) p0 := by rw [e.kWet_, e.nC]
  exact MN.imp (no_wet1 (X := xA X M G) p0 y2 y3  hL (hI.eq e M G) hq (ek.trans hk)) (fun v G' hp => ⟨hp.1, WD.to (X1 := xA X M G) hR hp.2 rfl e⟩)
theorem sw_find0 {D : DT} {X : XT} {s : SG} {M : MT} {G : GT} {q : Nat} (p0 : Int32) (y2 : Int32) (y3 : Int32) (hW : WD X s M G) (hI : INV X s q) (hq : q < 512) (hk : kFind s (nA s) p0 0 = 0) : ML yL_act cL_act 7 (Option.some Jvm.ClassFile.FieldType.long) [(0, 443, 444, 103), (0, 443, 450, 107), (0, 443, 456, 111)] rw_act_find0 D [.ref (X.1 0 0), .int 24, .int p0, .int 0, .int y2, .int y3] G (fun v G' => ∃ s1 s', EQ s s1 ∧ v = some (.long (((nI (gFind s1 (nC s1) (nat p0) 0).2)).toInt64)) ∧ WD X s' M G' ∧ s' = (gFind s1 (nC s1) (nat p0) 0).1) := by
  obtain ⟨⟨s1, e, hL⟩, hR⟩ := hW
  have ek : kFind s1 (nA s1) p0 0 = kFind s (nA s) p0 0 := by rw [e.kFind_, e.nA]
  refine ML.imp (a_find0 (X := xA X M G) p0 y2 y3  hL (hI.eq e M G) hq) (fun v G' hp => ?_)
  obtain ⟨X', s', w, hv, hG1, hA1, h01, hok | ⟨her, -, -⟩⟩ := hp
  · obtain ⟨hw, hx, hr⟩ := hok
    subst hw
    subst hx
    exact ⟨s1, s', e, hv, WD.to (X1 := xA X M G) hR hG1 hA1 (EQ.rf s'), hr.1⟩
  · rcases her with ⟨hz, -⟩ | ⟨hz, -⟩
    · exact absurd (hk.symm.trans (ek.symm.trans hz)) (by decide)
    · exact absurd (hk.symm.trans (ek.symm.trans hz)) (by decide)
theorem xIO_find0 {D : DT} {X : XT} {s : SG} {M : MT} {G : GT} {q : Nat} (p0 : Int32) (y2 : Int32) (y3 : Int32) (hW : WD X s M G) (hI : INV X s q) (hq : q < 512) (hk : kFind s (nA s) p0 0 = 1) : ML yL_act cL_act 7 (Option.some Jvm.ClassFile.FieldType.long) [(0, 443, 444, 103), (0, 443, 450, 107), (0, 443, 456, 111)] rw_act_find0 D [.ref (X.1 0 0), .int 24, .int p0, .int 0, .int y2, .int y3] G (fun v G' => v = some (.long (-1731000000000)) ∧ WD X s M G') := by
  obtain ⟨⟨s1, e, hL⟩, hR⟩ := hW
  have ek : kFind s1 (nA s1) p0 0 = kFind s (nA s) p0 0 := by rw [e.kFind_, e.nA]
  refine ML.imp (a_find0 (X := xA X M G) p0 y2 y3  hL (hI.eq e M G) hq) (fun v G' hp => ?_)
  obtain ⟨X', s', w, hv, hG1, hA1, h01, hok | ⟨her, rfl, rfl⟩⟩ := hp
  · exact absurd (hk.symm.trans (ek.symm.trans hok.2.2.2)) (by decide)
  · skip
    have hw9 : w = (-1731000000000) := by
      rcases her with ⟨hz, hw⟩ | ⟨hz, hw⟩
      · exact hw
      · exact absurd (hk.symm.trans (ek.symm.trans hz)) (by decide)
    subst hw9
    exact ⟨hv, WD.to (X1 := xA X M G) hR hG1 hA1 e⟩
theorem xIS_find0 {D : DT} {X : XT} {s : SG} {M : MT} {G : GT} {q : Nat} (p0 : Int32) (y2 : Int32) (y3 : Int32) (hW : WD X s M G) (hI : INV X s q) (hq : q < 512) (hk : kFind s (nA s) p0 0 = 2) : ML yL_act cL_act 7 (Option.some Jvm.ClassFile.FieldType.long) [(0, 443, 444, 103), (0, 443, 450, 107), (0, 443, 456, 111)] rw_act_find0 D [.ref (X.1 0 0), .int 24, .int p0, .int 0, .int y2, .int y3] G (fun v G' => v = some (.long (-1733000000000)) ∧ WD X s M G') := by
  obtain ⟨⟨s1, e, hL⟩, hR⟩ := hW
  have ek : kFind s1 (nA s1) p0 0 = kFind s (nA s) p0 0 := by rw [e.kFind_, e.nA]
  refine ML.imp (a_find0 (X := xA X M G) p0 y2 y3  hL (hI.eq e M G) hq) (fun v G' hp => ?_)
  obtain ⟨X', s', w, hv, hG1, hA1, h01, hok | ⟨her, rfl, rfl⟩⟩ := hp
  · exact absurd (hk.symm.trans (ek.symm.trans hok.2.2.2)) (by decide)
  · skip
    have hw9 : w = (-1733000000000) := by
      rcases her with ⟨hz, hw⟩ | ⟨hz, hw⟩
      · exact absurd (hk.symm.trans (ek.symm.trans hz)) (by decide)
      · exact hw
    subst hw9
    exact ⟨hv, WD.to (X1 := xA X M G) hR hG1 hA1 e⟩
theorem nw_find0 {D : DT} {X : XT} {s : SG} {M : MT} {G : GT} {q : Nat} (p0 : Int32) (y2 : Int32) (y3 : Int32) (hW : WD X s M G) (hI : INV X s q) (hq : q < 512) (hk : kFind s (nA s) p0 0 = 1) : MN yL_no cL_no 6 (Option.some Jvm.ClassFile.FieldType.boolean) rm_no D [.ref (X.1 0 0), .int 24, .int p0, .int 0, .int y2, .int y3] G (fun v G' => v = some (.int 1) ∧ WD X s M G') := by
  obtain ⟨⟨s1, e, hL⟩, hR⟩ := hW
  have ek : kFind s1 (nA s1) p0 0 = kFind s (nA s) p0 0 := by rw [e.kFind_, e.nA]
  exact MN.imp (no_find0 (X := xA X M G) p0 y2 y3  hL (hI.eq e M G) hq (ek.trans hk)) (fun v G' hp => ⟨hp.1, WD.to (X1 := xA X M G) hR hp.2 rfl e⟩)
theorem sw_find1 {D : DT} {X : XT} {s : SG} {M : MT} {G : GT} {q : Nat} (p0 : Int32) (y2 : Int32) (y3 : Int32) (hW : WD X s M G) (hI : INV X s q) (hq : q < 512) (hk : kFind s (nA s) p0 1 = 0) : ML yL_act cL_act 7 (Option.some Jvm.ClassFile.FieldType.long) [(0, 443, 444, 103), (0, 443, 450, 107), (0, 443, 456, 111)] rw_act_find1 D [.ref (X.1 0 0), .int 24, .int p0, .int 1, .int y2, .int y3] G (fun v G' => ∃ s1 s', EQ s s1 ∧ v = some (.long (((nI (gFind s1 (nC s1) (nat p0) 1).2)).toInt64)) ∧ WD X s' M G' ∧ s' = (gFind s1 (nC s1) (nat p0) 1).1) := by
  obtain ⟨⟨s1, e, hL⟩, hR⟩ := hW
  have ek : kFind s1 (nA s1) p0 1 = kFind s (nA s) p0 1 := by rw [e.kFind_, e.nA]
  refine ML.imp (a_find1 (X := xA X M G) p0 y2 y3  hL (hI.eq e M G) hq) (fun v G' hp => ?_)
  obtain ⟨X', s', w, hv, hG1, hA1, h01, hok | ⟨her, -, -⟩⟩ := hp
  · obtain ⟨hw, hx, hr⟩ := hok
    subst hw
    subst hx
    exact ⟨s1, s', e, hv, WD.to (X1 := xA X M G) hR hG1 hA1 (EQ.rf s'), hr.1⟩
  · rcases her with ⟨hz, -⟩ | ⟨hz, -⟩
    · exact absurd (hk.symm.trans (ek.symm.trans hz)) (by decide)
    · exact absurd (hk.symm.trans (ek.symm.trans hz)) (by decide)
theorem xIO_find1 {D : DT} {X : XT} {s : SG} {M : MT} {G : GT} {q : Nat} (p0 : Int32) (y2 : Int32) (y3 : Int32) (hW : WD X s M G) (hI : INV X s q) (hq : q < 512) (hk : kFind s (nA s) p0 1 = 1) : ML yL_act cL_act 7 (Option.some Jvm.ClassFile.FieldType.long) [(0, 443, 444, 103), (0, 443, 450, 107), (0, 443, 456, 111)] rw_act_find1 D [.ref (X.1 0 0), .int 24, .int p0, .int 1, .int y2, .int y3] G (fun v G' => v = some (.long (-1731000000000)) ∧ WD X s M G') := by
  obtain ⟨⟨s1, e, hL⟩, hR⟩ := hW
  have ek : kFind s1 (nA s1) p0 1 = kFind s (nA s) p0 1 := by rw [e.kFind_, e.nA]
  refine ML.imp (a_find1 (X := xA X M G) p0 y2 y3  hL (hI.eq e M G) hq) (fun v G' hp => ?_)
  obtain ⟨X', s', w, hv, hG1, hA1, h01, hok | ⟨her, rfl, rfl⟩⟩ := hp
  · exact absurd (hk.symm.trans (ek.symm.trans hok.2.2.2)) (by decide)
  · skip
    have hw9 : w = (-1731000000000) := by
      rcases her with ⟨hz, hw⟩ | ⟨hz, hw⟩
      · exact hw
      · exact absurd (hk.symm.trans (ek.symm.trans hz)) (by decide)
    subst hw9
    exact ⟨hv, WD.to (X1 := xA X M G) hR hG1 hA1 e⟩
theorem xIS_find1 {D : DT} {X : XT} {s : SG} {M : MT} {G : GT} {q : Nat} (p0 : Int32) (y2 : Int32) (y3 : Int32) (hW : WD X s M G) (hI : INV X s q) (hq : q < 512) (hk : kFind s (nA s) p0 1 = 2) : ML yL_act cL_act 7 (Option.some Jvm.ClassFile.FieldType.long) [(0, 443, 444, 103), (0, 443, 450, 107), (0, 443, 456, 111)] rw_act_find1 D [.ref (X.1 0 0), .int 24, .int p0, .int 1, .int y2, .int y3] G (fun v G' => v = some (.long (-1733000000000)) ∧ WD X s M G') := by
  obtain ⟨⟨s1, e, hL⟩, hR⟩ := hW
  have ek : kFind s1 (nA s1) p0 1 = kFind s (nA s) p0 1 := by rw [e.kFind_, e.nA]
  refine ML.imp (a_find1 (X := xA X M G) p0 y2 y3  hL (hI.eq e M G) hq) (fun v G' hp => ?_)
  obtain ⟨X', s', w, hv, hG1, hA1, h01, hok | ⟨her, rfl, rfl⟩⟩ := hp
  · exact absurd (hk.symm.trans (ek.symm.trans hok.2.2.2)) (by decide)
  · skip
    have hw9 : w = (-1733000000000) := by
      rcases her with ⟨hz, hw⟩ | ⟨hz, hw⟩
      · exact absurd (hk.symm.trans (ek.symm.trans hz)) (by decide)
      · exact hw
    subst hw9
    exact ⟨hv, WD.to (X1 := xA X M G) hR hG1 hA1 e⟩
theorem nw_find1 {D : DT} {X : XT} {s : SG} {M : MT} {G : GT} {q : Nat} (p0 : Int32) (y2 : Int32) (y3 : Int32) (hW : WD X s M G) (hI : INV X s q) (hq : q < 512) (hk : kFind s (nA s) p0 1 = 1) : MN yL_no cL_no 6 (Option.some Jvm.ClassFile.FieldType.boolean) rm_no D [.ref (X.1 0 0), .int 24, .int p0, .int 1, .int y2, .int y3] G (fun v G' => v = some (.int 1) ∧ WD X s M G') := by
  obtain ⟨⟨s1, e, hL⟩, hR⟩ := hW
  have ek : kFind s1 (nA s1) p0 1 = kFind s (nA s) p0 1 := by rw [e.kFind_, e.nA]
  exact MN.imp (no_find1 (X := xA X M G) p0 y2 y3  hL (hI.eq e M G) hq (ek.trans hk)) (fun v G' hp => ⟨hp.1, WD.to (X1 := xA X M G) hR hp.2 rfl e⟩)
theorem sw_ofCanopy {D : DT} {X : XT} {s : SG} {M : MT} {G : GT} {q : Nat} (p0 : Int32) (p1 : Int32) (y2 : Int32) (y3 : Int32) (hW : WD X s M G) (hI : INV X s q) (hq : q < 512) (hk : kOf (nC s) p0 p1 0 5 = 0) : ML yL_act cL_act 7 (Option.some Jvm.ClassFile.FieldType.long) [(0, 443, 444, 103), (0, 443, 450, 107), (0, 443, 456, 111)] rw_act_ofCanopy D [.ref (X.1 0 0), .int 25, .int p0, .int p1, .int y2, .int y3] G (fun v G' => ∃ s1 s', EQ s s1 ∧ v = some (.long (((ofS s1 (nat p0) p1)).toInt64)) ∧ WD X s' M G' ∧ s' = s1) := by
  obtain ⟨⟨s1, e, hL⟩, hR⟩ := hW
  have ek : kOf (nC s1) p0 p1 0 5 = kOf (nC s) p0 p1 0 5 := by rw [e.nC]
  refine ML.imp (a_ofCanopy (X := xA X M G) p0 p1 y2 y3  hL (hI.eq e M G) hq) (fun v G' hp => ?_)
  obtain ⟨X', s', w, hv, hG1, hA1, h01, hok | ⟨her, -, -⟩⟩ := hp
  · obtain ⟨hw, hx, hr⟩ := hok
    subst hw
    subst hx
    exact ⟨s1, s', e, hv, WD.to (X1 := xA X M G) hR hG1 hA1 (EQ.rf s'), hr.1⟩
  · rcases her with ⟨hz, -⟩ | ⟨hz, -⟩
    · exact absurd (hk.symm.trans (ek.symm.trans hz)) (by decide)
    · exact absurd (hk.symm.trans (ek.symm.trans hz)) (by decide)
theorem xIO_ofCanopy {D : DT} {X : XT} {s : SG} {M : MT} {G : GT} {q : Nat} (p0 : Int32) (p1 : Int32) (y2 : Int32) (y3 : Int32) (hW : WD X s M G) (hI : INV X s q) (hq : q < 512) (hk : kOf (nC s) p0 p1 0 5 = 1) : ML yL_act cL_act 7 (Option.some Jvm.ClassFile.FieldType.long) [(0, 443, 444, 103), (0, 443, 450, 107), (0, 443, 456, 111)] rw_act_ofCanopy D [.ref (X.1 0 0), .int 25, .int p0, .int p1, .int y2, .int y3] G (fun v G' => v = some (.long (-1731000000000)) ∧ WD X s M G') := by
  obtain ⟨⟨s1, e, hL⟩, hR⟩ := hW
  have ek : kOf (nC s1) p0 p1 0 5 = kOf (nC s) p0 p1 0 5 := by rw [e.nC]
  refine ML.imp (a_ofCanopy (X := xA X M G) p0 p1 y2 y3  hL (hI.eq e M G) hq) (fun v G' hp => ?_)
  obtain ⟨X', s', w, hv, hG1, hA1, h01, hok | ⟨her, rfl, rfl⟩⟩ := hp
  · exact absurd (hk.symm.trans (ek.symm.trans hok.2.2.2)) (by decide)
  · skip
    have hw9 : w = (-1731000000000) := by
      rcases her with ⟨hz, hw⟩ | ⟨hz, hw⟩
      · exact hw
      · exact absurd (hk.symm.trans (ek.symm.trans hz)) (by decide)
    subst hw9
    exact ⟨hv, WD.to (X1 := xA X M G) hR hG1 hA1 e⟩
theorem xIA_ofCanopy {D : DT} {X : XT} {s : SG} {M : MT} {G : GT} {q : Nat} (p0 : Int32) (p1 : Int32) (y2 : Int32) (y3 : Int32) (hW : WD X s M G) (hI : INV X s q) (hq : q < 512) (hk : kOf (nC s) p0 p1 0 5 = 2) : ML yL_act cL_act 7 (Option.some Jvm.ClassFile.FieldType.long) [(0, 443, 444, 103), (0, 443, 450, 107), (0, 443, 456, 111)] rw_act_ofCanopy D [.ref (X.1 0 0), .int 25, .int p0, .int p1, .int y2, .int y3] G (fun v G' => v = some (.long (-1732000000000)) ∧ WD X s M G') := by
  obtain ⟨⟨s1, e, hL⟩, hR⟩ := hW
  have ek : kOf (nC s1) p0 p1 0 5 = kOf (nC s) p0 p1 0 5 := by rw [e.nC]
  refine ML.imp (a_ofCanopy (X := xA X M G) p0 p1 y2 y3  hL (hI.eq e M G) hq) (fun v G' hp => ?_)
  obtain ⟨X', s', w, hv, hG1, hA1, h01, hok | ⟨her, rfl, rfl⟩⟩ := hp
  · exact absurd (hk.symm.trans (ek.symm.trans hok.2.2.2)) (by decide)
  · skip
    have hw9 : w = (-1732000000000) := by
      rcases her with ⟨hz, hw⟩ | ⟨hz, hw⟩
      · exact absurd (hk.symm.trans (ek.symm.trans hz)) (by decide)
      · exact hw
    subst hw9
    exact ⟨hv, WD.to (X1 := xA X M G) hR hG1 hA1 e⟩
theorem nw_ofCanopy {D : DT} {X : XT} {s : SG} {M : MT} {G : GT} {q : Nat} (p0 : Int32) (p1 : Int32) (y2 : Int32) (y3 : Int32) (hW : WD X s M G) (hI : INV X s q) (hq : q < 512) (hk : kOf (nC s) p0 p1 0 5 = 1) : MN yL_no cL_no 6 (Option.some Jvm.ClassFile.FieldType.boolean) rm_no D [.ref (X.1 0 0), .int 25, .int p0, .int p1, .int y2, .int y3] G (fun v G' => v = some (.int 1) ∧ WD X s M G') := by
  obtain ⟨⟨s1, e, hL⟩, hR⟩ := hW
  have ek : kOf (nC s1) p0 p1 0 5 = kOf (nC s) p0 p1 0 5 := by rw [e.nC]
  exact MN.imp (no_ofCanopy (X := xA X M G) p0 p1 y2 y3  hL (hI.eq e M G) hq (ek.trans hk)) (fun v G' hp => ⟨hp.1, WD.to (X1 := xA X M G) hR hp.2 rfl e⟩)
theorem ow_ofCanopy {D : DT} {X : XT} {s : SG} {M : MT} {G : GT} {q : Nat} (p0 : Int32) (p1 : Int32) (y2 : Int32) (y3 : Int32) (hW : WD X s M G) (hI : INV X s q) (hq : q < 512) (hk : kOf (nC s) p0 p1 0 5 = 2) : MN yL_off cL_off 6 (Option.some Jvm.ClassFile.FieldType.boolean) rm_no D [.ref (X.1 0 0), .int 25, .int p0, .int p1, .int y2, .int y3] G (fun v G' => v = some (.int 1) ∧ WD X s M G') := by
  obtain ⟨⟨s1, e, hL⟩, hR⟩ := hW
  have ek : kOf (nC s1) p0 p1 0 5 = kOf (nC s) p0 p1 0 5 := by rw [e.nC]
  exact MN.imp (off_ofCanopy (X := xA X M G) p0 p1 y2 y3  hL (hI.eq e M G) hq (ek.trans hk)) (fun v G' hp => ⟨hp.1, WD.to (X1 := xA X M G) hR hp.2 rfl e⟩)
theorem sw_lifeAnew {D : DT} {X : XT} {s : SG} {M : MT} {G : GT} {q : Nat} (p0 : Int32) (p1 : Int32) (y2 : Int32) (y3 : Int32) (hW : WD X s M G) (hI : INV X s q) (hq : q < 512) (hk : kOf (nC s) p0 p1 3 5 = 0) : ML yL_act cL_act 7 (Option.some Jvm.ClassFile.FieldType.long) [(0, 443, 444, 103), (0, 443, 450, 107), (0, 443, 456, 111)] rw_act_lifeAnew D [.ref (X.1 0 0), .int 26, .int p0, .int p1, .int y2, .int y3] G (fun v G' => ∃ s1 s', EQ s s1 ∧ v = some (.long (((lifeS s1 (nat p0) p1)).toInt64)) ∧ WD X s' M G' ∧ s' = s1) := by
  obtain ⟨⟨s1, e, hL⟩, hR⟩ := hW
  have ek : kOf (nC s1) p0 p1 3 5 = kOf (nC s) p0 p1 3 5 := by rw [e.nC]
  refine ML.imp (a_lifeAnew (X := xA X M G) p0 p1 y2 y3  hL (hI.eq e M G) hq) (fun v G' hp => ?_)
  obtain ⟨X', s', w, hv, hG1, hA1, h01, hok | ⟨her, -, -⟩⟩ := hp
  · obtain ⟨hw, hx, hr⟩ := hok
    subst hw
    subst hx
    exact ⟨s1, s', e, hv, WD.to (X1 := xA X M G) hR hG1 hA1 (EQ.rf s'), hr.1⟩
  · rcases her with ⟨hz, -⟩ | ⟨hz, -⟩
    · exact absurd (hk.symm.trans (ek.symm.trans hz)) (by decide)
    · exact absurd (hk.symm.trans (ek.symm.trans hz)) (by decide)
theorem xIO_lifeAnew {D : DT} {X : XT} {s : SG} {M : MT} {G : GT} {q : Nat} (p0 : Int32) (p1 : Int32) (y2 : Int32) (y3 : Int32) (hW : WD X s M G) (hI : INV X s q) (hq : q < 512) (hk : kOf (nC s) p0 p1 3 5 = 1) : ML yL_act cL_act 7 (Option.some Jvm.ClassFile.FieldType.long) [(0, 443, 444, 103), (0, 443, 450, 107), (0, 443, 456, 111)] rw_act_lifeAnew D [.ref (X.1 0 0), .int 26, .int p0, .int p1, .int y2, .int y3] G (fun v G' => v = some (.long (-1731000000000)) ∧ WD X s M G') := by
  obtain ⟨⟨s1, e, hL⟩, hR⟩ := hW
  have ek : kOf (nC s1) p0 p1 3 5 = kOf (nC s) p0 p1 3 5 := by rw [e.nC]
  refine ML.imp (a_lifeAnew (X := xA X M G) p0 p1 y2 y3  hL (hI.eq e M G) hq) (fun v G' hp => ?_)
  obtain ⟨X', s', w, hv, hG1, hA1, h01, hok | ⟨her, rfl, rfl⟩⟩ := hp
  · exact absurd (hk.symm.trans (ek.symm.trans hok.2.2.2)) (by decide)
  · skip
    have hw9 : w = (-1731000000000) := by
      rcases her with ⟨hz, hw⟩ | ⟨hz, hw⟩
      · exact hw
      · exact absurd (hk.symm.trans (ek.symm.trans hz)) (by decide)
    subst hw9
    exact ⟨hv, WD.to (X1 := xA X M G) hR hG1 hA1 e⟩
theorem xIA_lifeAnew {D : DT} {X : XT} {s : SG} {M : MT} {G : GT} {q : Nat} (p0 : Int32) (p1 : Int32) (y2 : Int32) (y3 : Int32) (hW : WD X s M G) (hI : INV X s q) (hq : q < 512) (hk : kOf (nC s) p0 p1 3 5 = 2) : ML yL_act cL_act 7 (Option.some Jvm.ClassFile.FieldType.long) [(0, 443, 444, 103), (0, 443, 450, 107), (0, 443, 456, 111)] rw_act_lifeAnew D [.ref (X.1 0 0), .int 26, .int p0, .int p1, .int y2, .int y3] G (fun v G' => v = some (.long (-1732000000000)) ∧ WD X s M G') := by
  obtain ⟨⟨s1, e, hL⟩, hR⟩ := hW
  have ek : kOf (nC s1) p0 p1 3 5 = kOf (nC s) p0 p1 3 5 := by rw [e.nC]
  refine ML.imp (a_lifeAnew (X := xA X M G) p0 p1 y2 y3  hL (hI.eq e M G) hq) (fun v G' hp => ?_)
  obtain ⟨X', s', w, hv, hG1, hA1, h01, hok | ⟨her, rfl, rfl⟩⟩ := hp
  · exact absurd (hk.symm.trans (ek.symm.trans hok.2.2.2)) (by decide)
  · skip
    have hw9 : w = (-1732000000000) := by
      rcases her with ⟨hz, hw⟩ | ⟨hz, hw⟩
      · exact absurd (hk.symm.trans (ek.symm.trans hz)) (by decide)
      · exact hw
    subst hw9
    exact ⟨hv, WD.to (X1 := xA X M G) hR hG1 hA1 e⟩
theorem nw_lifeAnew {D : DT} {X : XT} {s : SG} {M : MT} {G : GT} {q : Nat} (p0 : Int32) (p1 : Int32) (y2 : Int32) (y3 : Int32) (hW : WD X s M G) (hI : INV X s q) (hq : q < 512) (hk : kOf (nC s) p0 p1 3 5 = 1) : MN yL_no cL_no 6 (Option.some Jvm.ClassFile.FieldType.boolean) rm_no D [.ref (X.1 0 0), .int 26, .int p0, .int p1, .int y2, .int y3] G (fun v G' => v = some (.int 1) ∧ WD X s M G') := by
  obtain ⟨⟨s1, e, hL⟩, hR⟩ := hW
  have ek : kOf (nC s1) p0 p1 3 5 = kOf (nC s) p0 p1 3 5 := by rw [e.nC]
  exact MN.imp (no_lifeAnew (X := xA X M G) p0 p1 y2 y3  hL (hI.eq e M G) hq (ek.trans hk)) (fun v G' hp => ⟨hp.1, WD.to (X1 := xA X M G) hR hp.2 rfl e⟩)
theorem ow_lifeAnew {D : DT} {X : XT} {s : SG} {M : MT} {G : GT} {q : Nat} (p0 : Int32) (p1 : Int32) (y2 : Int32) (y3 : Int32) (hW : WD X s M G) (hI : INV X s q) (hq : q < 512) (hk : kOf (nC s) p0 p1 3 5 = 2) : MN yL_off cL_off 6 (Option.some Jvm.ClassFile.FieldType.boolean) rm_no D [.ref (X.1 0 0), .int 26, .int p0, .int p1, .int y2, .int y3] G (fun v G' => v = some (.int 1) ∧ WD X s M G') := by
  obtain ⟨⟨s1, e, hL⟩, hR⟩ := hW
  have ek : kOf (nC s1) p0 p1 3 5 = kOf (nC s) p0 p1 3 5 := by rw [e.nC]
  exact MN.imp (off_lifeAnew (X := xA X M G) p0 p1 y2 y3  hL (hI.eq e M G) hq (ek.trans hk)) (fun v G' hp => ⟨hp.1, WD.to (X1 := xA X M G) hR hp.2 rfl e⟩)
theorem sw_gust {D : DT} {X : XT} {s : SG} {M : MT} {G : GT} {q : Nat} (p0 : Int64) (hW : WD X s M G) (hI : INV X s q) (hq : q < 512) (hk : kGust p0 = 0) : ML yL_pegs cL_pegs 5 (Option.some Jvm.ClassFile.FieldType.long) [(0, 22, 23, 107), (0, 22, 29, 111)] rw_pegs_gust D [.ref (X.1 0 0), .int (-9), .long p0] G (fun v G' => ∃ s1 s', EQ s s1 ∧ v = some (.long (((nI (gusF s1 p0 (nG s1) 9).2)).toInt64)) ∧ WD X s' M G' ∧ s' = (gusF s1 p0 (nG s1) 9).1) := by
  obtain ⟨⟨s1, e, hL⟩, hR⟩ := hW
  have ek : kGust p0 = kGust p0 := rfl
  refine ML.imp (a_gust (X := xA X M G) p0  hL (hI.eq e M G) hq) (fun v G' hp => ?_)
  obtain ⟨X', s', w, hv, hG1, hA1, h01, hok | ⟨her, -, -⟩⟩ := hp
  · obtain ⟨hw, hx, hr⟩ := hok
    subst hw
    subst hx
    exact ⟨s1, s', e, hv, WD.to (X1 := xA X M G) hR hG1 hA1 (EQ.rf s'), hr.1⟩
  · rcases her with ⟨hz, -⟩
    exact absurd (hk.symm.trans (ek.symm.trans hz)) (by decide)
theorem xIA_gust {D : DT} {X : XT} {s : SG} {M : MT} {G : GT} {q : Nat} (p0 : Int64) (hW : WD X s M G) (hI : INV X s q) (hq : q < 512) (hk : kGust p0 = 1) : ML yL_pegs cL_pegs 5 (Option.some Jvm.ClassFile.FieldType.long) [(0, 22, 23, 107), (0, 22, 29, 111)] rw_pegs_gust D [.ref (X.1 0 0), .int (-9), .long p0] G (fun v G' => v = some (.long (-1732000000000)) ∧ WD X s M G') := by
  obtain ⟨⟨s1, e, hL⟩, hR⟩ := hW
  have ek : kGust p0 = kGust p0 := rfl
  refine ML.imp (a_gust (X := xA X M G) p0  hL (hI.eq e M G) hq) (fun v G' hp => ?_)
  obtain ⟨X', s', w, hv, hG1, hA1, h01, hok | ⟨her, rfl, rfl⟩⟩ := hp
  · exact absurd (hk.symm.trans (ek.symm.trans hok.2.2.2)) (by decide)
  · skip
    have hw9 : w = (-1732000000000) := her.2
    subst hw9
    exact ⟨hv, WD.to (X1 := xA X M G) hR hG1 hA1 e⟩
theorem sw_peg {D : DT} {X : XT} {s : SG} {M : MT} {G : GT} {q : Nat} (p0 : Int64) (p1 : Int32) (hW : WD X s M G) (hI : INV X s q) (hq : q < 512) (h9 : ¬ p1 = -9) (hk : kPeg (nG s) p0 p1 = 0) : ML yL_pegs cL_pegs 5 (Option.some Jvm.ClassFile.FieldType.long) [(0, 22, 23, 107), (0, 22, 29, 111)] rw_pegs_peg D [.ref (X.1 0 0), .int p1, .long p0] G (fun v G' => ∃ s1 X' s', EQ s s1 ∧ v = some (.long (((nI (nG s1))).toInt64)) ∧ WD X' s' M G' ∧ X'.1 0 0 = X.1 0 0 ∧ s' = gPeg s1 (nG s1) p0 p1 ∧ X'.2.1 = u2 X.2.1 16 (nG s1) true ∧ X'.2.2.1 = u2 X.2.2.1 4 (nG s1) true) := by
  obtain ⟨⟨s1, e, hL⟩, hR⟩ := hW
  have ek : kPeg (nG s1) p0 p1 = kPeg (nG s) p0 p1 := by rw [e.nG]
  refine ML.imp (a_peg (X := xA X M G) p0 p1  hL (hI.eq e M G) hq h9) (fun v G' hp => ?_)
  obtain ⟨X', s', w, hv, hG1, hA1, h01, hok | ⟨her, -, -⟩⟩ := hp
  · obtain ⟨hw, hr⟩ := hok
    subst hw
    exact ⟨s1, _, s', e, hv, WD.to hR hG1 hA1 (EQ.rf s'), h01 0 (by decide), ⟨hr.1, hr.2.1, hr.2.2.1⟩⟩
  · rcases her with ⟨hz, -⟩ | ⟨hz, -⟩
    · exact absurd (hk.symm.trans (ek.symm.trans hz)) (by decide)
    · exact absurd (hk.symm.trans (ek.symm.trans hz)) (by decide)
theorem xIA_peg {D : DT} {X : XT} {s : SG} {M : MT} {G : GT} {q : Nat} (p0 : Int64) (p1 : Int32) (hW : WD X s M G) (hI : INV X s q) (hq : q < 512) (h9 : ¬ p1 = -9) (hk : kPeg (nG s) p0 p1 = 1) : ML yL_pegs cL_pegs 5 (Option.some Jvm.ClassFile.FieldType.long) [(0, 22, 23, 107), (0, 22, 29, 111)] rw_pegs_peg D [.ref (X.1 0 0), .int p1, .long p0] G (fun v G' => v = some (.long (-1732000000000)) ∧ WD X s M G') := by
  obtain ⟨⟨s1, e, hL⟩, hR⟩ := hW
  have ek : kPeg (nG s1) p0 p1 = kPeg (nG s) p0 p1 := by rw [e.nG]
  refine ML.imp (a_peg (X := xA X M G) p0 p1  hL (hI.eq e M G) hq h9) (fun v G' hp => ?_)
  obtain ⟨X', s', w, hv, hG1, hA1, h01, hok | ⟨her, rfl, rfl⟩⟩ := hp
  · exact absurd (hk.symm.trans (ek.symm.trans hok.2.2.2.2)) (by decide)
  · skip
    have hw9 : w = (-1732000000000) := by
      rcases her with ⟨hz, hw⟩ | ⟨hz, hw⟩
      · exact hw
      · exact absurd (hk.symm.trans (ek.symm.trans hz)) (by decide)
    subst hw9
    exact ⟨hv, WD.to (X1 := xA X M G) hR hG1 hA1 e⟩
theorem xIS_peg {D : DT} {X : XT} {s : SG} {M : MT} {G : GT} {q : Nat} (p0 : Int64) (p1 : Int32) (hW : WD X s M G) (hI : INV X s q) (hq : q < 512) (h9 : ¬ p1 = -9) (hk : kPeg (nG s) p0 p1 = 2) : ML yL_pegs cL_pegs 5 (Option.some Jvm.ClassFile.FieldType.long) [(0, 22, 23, 107), (0, 22, 29, 111)] rw_pegs_peg D [.ref (X.1 0 0), .int p1, .long p0] G (fun v G' => v = some (.long (-1733000000000)) ∧ WD X s M G') := by
  obtain ⟨⟨s1, e, hL⟩, hR⟩ := hW
  have ek : kPeg (nG s1) p0 p1 = kPeg (nG s) p0 p1 := by rw [e.nG]
  refine ML.imp (a_peg (X := xA X M G) p0 p1  hL (hI.eq e M G) hq h9) (fun v G' hp => ?_)
  obtain ⟨X', s', w, hv, hG1, hA1, h01, hok | ⟨her, rfl, rfl⟩⟩ := hp
  · exact absurd (hk.symm.trans (ek.symm.trans hok.2.2.2.2)) (by decide)
  · skip
    have hw9 : w = (-1733000000000) := by
      rcases her with ⟨hz, hw⟩ | ⟨hz, hw⟩
      · exact absurd (hk.symm.trans (ek.symm.trans hz)) (by decide)
      · exact hw
    subst hw9
    exact ⟨hv, WD.to (X1 := xA X M G) hR hG1 hA1 e⟩
