theorem ipw {r39 r40 r41 : Nat → Int32} {sl lv : Nat → Bool} {a b : Nat} {s : SG} (h : iPan (s.1 4) (s.1 5) (s.1 6) (s.1 7) (s.1 8) r39 r40 r41 sl lv a b) (ha : a ≤ 6) : PV s b := iPan.PV (r4 := fun _ => 0) (r5 := fun _ => 0) (r6 := fun _ => 0) (r7 := fun _ => 0) (r8 := fun _ => 0) h ha
/-! how many there are, by the rows -/
abbrev nA (s : SG) : Nat := nat (s.1 0 0)
abbrev nB (s : SG) : Nat := nat (s.1 4 0)
abbrev nS (s : SG) : Nat := nat (s.1 9 0)
abbrev nG (s : SG) : Nat := nat (s.1 19 0)
abbrev nC (s : SG) : Nat := nat (s.1 28 0)
abbrev nN (s : SG) : Nat := nat (s.1 45 0)
def INVn (X : XT) (s : SG) (q : Nat) (a b c g ns n : Nat) : Prop := iLot (s.1 0) (s.1 1) (s.1 2) (s.1 3) (X.2.2.1 1) (X.2.1 13) a ∧ iPan (s.1 4) (s.1 5) (s.1 6) (s.1 7) (s.1 8) (s.1 39) (s.1 40) (s.1 41) (X.2.2.1 2) (X.2.1 14) a b ∧ iSea (s.1 9) (s.1 10) (s.1 11) (s.1 13) (X.2.2.1 3) (X.2.1 15) b ns ∧ iPeg (s.1 19) (s.1 21) (s.2 23) (X.2.2.1 4) (X.2.1 16) g ∧ iCan (s.1 28) (s.1 29) (s.1 30) (s.1 31) (s.1 32) (s.1 33) (s.1 34) (s.1 35) (s.1 36) (s.1 37) (X.2.2.1 5) (X.2.1 17) (X.2.1 18) a c ∧ iLog (s.1 34) (s.1 35) (s.1 36) (s.1 44) (s.1 45) c n q ∧ iSail (s.1 24) (s.1 25) (s.1 26) ∧ btw (s.1 27 0) 0 100000 ∧ XV X
theorem INV.num {X : XT} {s : SG} {q : Nat} (hq : q ≤ 512) (h : INV X s q) : INVn X s q (nA s) (nB s) (nC s) (nG s) (nS s) (nN s) := by
  obtain ⟨a, b, c, g, ns, n, i1, i2, i3, i4, i5, i6, i7, i8, i9⟩ := h
  have e1 : nA s = a := by rw [nA, i1.1]; exact nat_nI (by have := i1.2.1; omega)
  have e2 : nB s = b := by rw [nB, i2.1]; exact nat_nI (by have := i2.2.1; omega)
  have e3 : nC s = c := by rw [nC, i5.1]; exact nat_nI (by have := i5.2.1; omega)
  have e4 : nG s = g := by rw [nG, i4.1]; exact nat_nI (by have := i4.2.1; omega)
  have e5 : nS s = ns := by rw [nS, i3.1]; exact nat_nI (by have := i3.2.1; omega)
  have e6 : nN s = n := by rw [nN, i6.1]; exact nat_nI (by have := i6.2.1; omega)
  rw [e1, e2, e3, e4, e5, e6]
  exact ⟨i1, i2, i3, i4, i5, i6, i7, i8, i9⟩
theorem INV.eq {X : XT} {s s1 : SG} {q : Nat} (h : INV X s q) (e : EQ s s1) (M : MT) (G : GT) : INV (xA X M G) s1 q :=
  INV.q1 (Nat.le_refl q) h (fun k _ _ _ _ _ h43 h46 => e.1 k h43 h46) (e.2 23 (by decide)) rfl rfl
theorem INV.xA {X : XT} {s : SG} {q : Nat} (h : INV X s q) (M : MT) (G : GT) : INV (xA X M G) s q := h.eq (EQ.rf s) M G
theorem a_lot {D : DT} {G : GT} {X : XT} {s : SG} {q : Nat} (p0 : Int32) (p1 : Int32) (p2 : Int32) (y3 : Int32) (hG : LF X s G) (hI : INV X s q) (hq : q < 512) : ML yL_act cL_act 7 (Option.some Jvm.ClassFile.FieldType.long) [(0, 443, 444, 103), (0, 443, 450, 107), (0, 443, 456, 111)] rw_act_lot D [.ref (X.1 0 0), .int 0, .int p0, .int p1, .int p2, .int y3] G (AP X s (fun X' s' w => w = ((nI (nA s))).toInt64 ∧ s' = gLot (ow3 s (nA s)) (nA s) p0 p1 p2 ∧ X'.2.1 = u2 X.2.1 13 (nA s) true ∧ X'.2.2.1 = u2 X.2.2.1 1 (nA s) true ∧ kLot (nA s) p0 p1 p2 = 0) (fun w => (kLot (nA s) p0 p1 p2 = 1 ∧ w = (-1732000000000)) ∨ (kLot (nA s) p0 p1 p2 = 2 ∧ w = (-1733000000000)))) := by
  have i0 := INV.num (by omega) hI
  obtain ⟨i1, i2, i3, i4, i5, i6, i7, i8, i9⟩ := i0
  have hn511 : nN s < 512 := by have := i6.2.1; omega
  have hn512 : nN s ≤ 512 := by omega
  exact c_A_lot D G X s _ p0 p1 p2 y3 hG i1.1 i1.2.1 (i1.2.2.2.1 _ (Nat.le_refl _)).1 (i1.2.2.2.1 _ (Nat.le_refl _)).2.1 (i1.2.2.2.1 _ (Nat.le_refl _)).2.2 i9
theorem a_sun {D : DT} {G : GT} {X : XT} {s : SG} {q : Nat} (p0 : Int32) (p1 : Int32) (y2 : Int32) (y3 : Int32) (hG : LF X s G) (hI : INV X s q) (hq : q < 512) : ML yL_act cL_act 7 (Option.some Jvm.ClassFile.FieldType.long) [(0, 443, 444, 103), (0, 443, 450, 107), (0, 443, 456, 111)] rw_act_sun D [.ref (X.1 0 0), .int 1, .int p0, .int p1, .int y2, .int y3] G (AP X s (fun X' s' w => w = (((gSun s (nat p0) p1).1 2 (nat p0))).toInt64 ∧ X' = X ∧ s' = gSun s (nat p0) p1 ∧ kSun (nA s) p0 p1 = 0) (fun w => (kSun (nA s) p0 p1 = 1 ∧ w = (-1731000000000)) ∨ (kSun (nA s) p0 p1 = 2 ∧ w = (-1732000000000)))) := by
  have i0 := INV.num (by omega) hI
  obtain ⟨i1, i2, i3, i4, i5, i6, i7, i8, i9⟩ := i0
  have hn511 : nN s < 512 := by have := i6.2.1; omega
  have hn512 : nN s ≤ 512 := by omega
  exact c_A_sun D G X s _ p0 p1 y2 y3 hG i1.1 i1.2.1 i1.2.2.1
theorem a_panel {D : DT} {G : GT} {X : XT} {s : SG} {q : Nat} (p0 : Int32) (p1 : Int32) (p2 : Int32) (p3 : Int32) (hG : LF X s G) (hI : INV X s q) (hq : q < 512) : ML yL_act cL_act 7 (Option.some Jvm.ClassFile.FieldType.long) [(0, 443, 444, 103), (0, 443, 450, 107), (0, 443, 456, 111)] rw_act_panel D [.ref (X.1 0 0), .int 2, .int p0, .int p1, .int p2, .int p3] G (AP X s (fun X' s' w => w = ((nI (nB s))).toInt64 ∧ s' = sI (lyS (pan1 s (nB s) p0 p1 p2 p3) (nat p0) (acK p1 p2 p3) (lnK p1 p2 p3)) 4 0 (nI ((nB s) + 1)) ∧ X'.2.1 = u2 X.2.1 14 (nB s) true ∧ X'.2.2.1 = u2 X.2.2.1 2 (nB s) true ∧ kPan (nA s) (nB s) p0 p1 p2 p3 = 0) (fun w => (kPan (nA s) (nB s) p0 p1 p2 p3 = 1 ∧ w = (-1731000000000)) ∨ (kPan (nA s) (nB s) p0 p1 p2 p3 = 2 ∧ w = (-1732000000000)) ∨ (kPan (nA s) (nB s) p0 p1 p2 p3 = 3 ∧ w = (-1733000000000)))) := by
  have i0 := INV.num (by omega) hI
  obtain ⟨i1, i2, i3, i4, i5, i6, i7, i8, i9⟩ := i0
  have hn511 : nN s < 512 := by have := i6.2.1; omega
  have hn512 : nN s ≤ 512 := by omega
  exact c_A_panel D G X s _ _ p0 p1 p2 p3 hG i1.1 i1.2.1 i1.2.2.1 i2.1 i2.2.1 (i2.2.2.2.1 _ (Nat.le_refl _)) i9
theorem a_strength {D : DT} {G : GT} {X : XT} {s : SG} {q : Nat} (p0 : Int32) (y1 : Int32) (y2 : Int32) (y3 : Int32) (hG : LF X s G) (hI : INV X s q) (hq : q < 512) : ML yL_act cL_act 7 (Option.some Jvm.ClassFile.FieldType.long) [(0, 443, 444, 103), (0, 443, 450, 107), (0, 443, 456, 111)] rw_act_strength D [.ref (X.1 0 0), .int 3, .int p0, .int y1, .int y2, .int y3] G (AP X s (fun X' s' w => w = (strS s (nat p0)) ∧ X' = X ∧ s' = s ∧ kPl (nB s) p0 = 0) (fun w => (kPl (nB s) p0 = 1 ∧ w = (-1731000000000)))) := by
  have i0 := INV.num (by omega) hI
  obtain ⟨i1, i2, i3, i4, i5, i6, i7, i8, i9⟩ := i0
  have hn511 : nN s < 512 := by have := i6.2.1; omega
  have hn512 : nN s ≤ 512 := by omega
  exact c_A_strength D G X s _ p0 y1 y2 y3 hG (ipw i2 i1.2.1) i2.1 i2.2.1 i2.2.2.1
theorem a_roll {D : DT} {G : GT} {X : XT} {s : SG} {q : Nat} (p0 : Int32) (y1 : Int32) (y2 : Int32) (y3 : Int32) (hG : LF X s G) (hI : INV X s q) (hq : q < 512) : ML yL_act cL_act 7 (Option.some Jvm.ClassFile.FieldType.long) [(0, 443, 444, 103), (0, 443, 450, 107), (0, 443, 456, 111)] rw_act_roll D [.ref (X.1 0 0), .int 4, .int p0, .int y1, .int y2, .int y3] G (AP X s (fun X' s' w => w = ((s.1 39 (nat p0) + s.1 41 (nat p0))).toInt64 ∧ X' = X ∧ s' = s ∧ kRoll (nA s) p0 = 0) (fun w => (kRoll (nA s) p0 = 1 ∧ w = (-1731000000000)))) := by
  have i0 := INV.num (by omega) hI
  obtain ⟨i1, i2, i3, i4, i5, i6, i7, i8, i9⟩ := i0
  have hn511 : nN s < 512 := by have := i6.2.1; omega
  have hn512 : nN s ≤ 512 := by omega
  exact c_A_roll D G X s _ p0 y1 y2 y3 hG i1.1 i1.2.1 i1.2.2.1
theorem a_seam {D : DT} {G : GT} {X : XT} {s : SG} {q : Nat} (p0 : Int32) (p1 : Int32) (p2 : Int32) (y3 : Int32) (hG : LF X s G) (hI : INV X s q) (hq : q < 512) : ML yL_act cL_act 7 (Option.some Jvm.ClassFile.FieldType.long) [(0, 443, 444, 103), (0, 443, 450, 107), (0, 443, 456, 111)] rw_act_seam D [.ref (X.1 0 0), .int 5, .int p0, .int p1, .int p2, .int y3] G (AP X s (fun X' s' w => w = ((nI (nS s))).toInt64 ∧ s' = gSeam s (nS s) p0 p1 p2 ∧ X'.2.1 = u2 X.2.1 15 (nS s) true ∧ X'.2.2.1 = u2 X.2.2.1 3 (nS s) true ∧ kSeam (nB s) (nS s) p0 p1 p2 = 0) (fun w => (kSeam (nB s) (nS s) p0 p1 p2 = 1 ∧ w = (-1731000000000)) ∨ (kSeam (nB s) (nS s) p0 p1 p2 = 2 ∧ w = (-1732000000000)) ∨ (kSeam (nB s) (nS s) p0 p1 p2 = 3 ∧ w = (-1733000000000)))) := by
  have i0 := INV.num (by omega) hI
  obtain ⟨i1, i2, i3, i4, i5, i6, i7, i8, i9⟩ := i0
  have hn511 : nN s < 512 := by have := i6.2.1; omega
  have hn512 : nN s ≤ 512 := by omega
  exact c_A_seam D G X s _ _ p0 p1 p2 y3 hG i2.1 i2.2.1 i2.2.2.1 i3.1 i3.2.1 (i3.2.2.2.1 _ (Nat.le_refl _)).1 i9
theorem a_rip {D : DT} {G : GT} {X : XT} {s : SG} {q : Nat} (p0 : Int32) (y1 : Int32) (y2 : Int32) (y3 : Int32) (hG : LF X s G) (hI : INV X s q) (hq : q < 512) : ML yL_act cL_act 7 (Option.some Jvm.ClassFile.FieldType.long) [(0, 443, 444, 103), (0, 443, 450, 107), (0, 443, 456, 111)] rw_act_rip D [.ref (X.1 0 0), .int 6, .int p0, .int y1, .int y2, .int y3] G (AP X s (fun X' s' w => w = (seamS s (nat p0)) ∧ s' = sI s 13 (nat p0) 1 ∧ X'.2.1 = X.2.1 ∧ X'.2.2.1 = u2 X.2.2.1 3 (nat p0) false ∧ kRip s (nS s) p0 = 0) (fun w => (kRip s (nS s) p0 = 1 ∧ w = (-1731000000000)))) := by
  have i0 := INV.num (by omega) hI
  obtain ⟨i1, i2, i3, i4, i5, i6, i7, i8, i9⟩ := i0
  have hn511 : nN s < 512 := by have := i6.2.1; omega
  have hn512 : nN s ≤ 512 := by omega
  exact c_A_rip D G X s _ _ p0 y1 y2 y3 hG (ipw i2 i1.2.1) i3.SV i2.2.1 i3.1 i3.2.1 i3.2.2.1 i9
theorem a_bears {D : DT} {G : GT} {X : XT} {s : SG} {q : Nat} (p0 : Int32) (p1 : Int32) (y2 : Int32) (y3 : Int32) (hG : LF X s G) (hI : INV X s q) (hq : q < 512) : ML yL_act cL_act 7 (Option.some Jvm.ClassFile.FieldType.long) [(0, 443, 444, 103), (0, 443, 450, 107), (0, 443, 456, 111)] rw_act_bears D [.ref (X.1 0 0), .int 7, .int p0, .int p1, .int y2, .int y3] G (AP X s (fun X' s' w => w = (finL s (nB s) (nS s) (nat p0) (nat p1)) ∧ X' = X ∧ (∃ L, s' = sK s L) ∧ kBe (nB s) p0 p1 = 0) (fun w => (kBe (nB s) p0 p1 = 1 ∧ w = (-1731000000000)))) := by
  have i0 := INV.num (by omega) hI
  obtain ⟨i1, i2, i3, i4, i5, i6, i7, i8, i9⟩ := i0
  have hn511 : nN s < 512 := by have := i6.2.1; omega
  have hn512 : nN s ≤ 512 := by omega
  exact c_A_bears D G X s _ _ p0 p1 y2 y3 hG (ipw i2 i1.2.1) i3.SV i2.2.1 i3.2.1 (inv_gok i1 i2 i3).2.2.2.1 i2.1 i2.2.2.1 i3.2.2.1
theorem a_bearsAnew {D : DT} {G : GT} {X : XT} {s : SG} {q : Nat} (p0 : Int32) (p1 : Int32) (y2 : Int32) (y3 : Int32) (hG : LF X s G) (hI : INV X s q) (hq : q < 512) : ML yL_act cL_act 7 (Option.some Jvm.ClassFile.FieldType.long) [(0, 443, 444, 103), (0, 443, 450, 107), (0, 443, 456, 111)] rw_act_bearsAnew D [.ref (X.1 0 0), .int 8, .int p0, .int p1, .int y2, .int y3] G (AP X s (fun X' s' w => w = (finL s (nB s) (nS s) (nat p0) (nat p1)) ∧ X' = X ∧ (∃ g, s' = sG s g) ∧ kBe (nB s) p0 p1 = 0) (fun w => (kBe (nB s) p0 p1 = 1 ∧ w = (-1731000000000)))) := by
  have i0 := INV.num (by omega) hI
  obtain ⟨i1, i2, i3, i4, i5, i6, i7, i8, i9⟩ := i0
  have hn511 : nN s < 512 := by have := i6.2.1; omega
  have hn512 : nN s ≤ 512 := by omega
  exact c_A_bearsAnew D G X s _ _ p0 p1 y2 y3 hG (ipw i2 i1.2.1) (inv_gok i1 i2 i3) i2.1 i2.2.1 i2.2.2.1 i3.2.2.1
theorem a_knot0 {D : DT} {G : GT} {X : XT} {s : SG} {q : Nat} (p0 : Int32) (p1 : Int32) (y3 : Int32) (hG : LF X s G) (hI : INV X s q) (hq : q < 512) : ML yL_act cL_act 7 (Option.some Jvm.ClassFile.FieldType.long) [(0, 443, 444, 103), (0, 443, 450, 107), (0, 443, 456, 111)] rw_act_knot0 D [.ref (X.1 0 0), .int 9, .int p0, .int p1, .int 0, .int y3] G (AP X s (fun X' s' w => w = ((s.1 15 (nat p0))).toInt64 ∧ X' = X ∧ s' = gKnot s (nat p0) p1 0 ∧ kKnot p0 p1 = 0) (fun w => (kKnot p0 p1 = 1 ∧ w = (-1731000000000)) ∨ (kKnot p0 p1 = 2 ∧ w = (-1732000000000)))) := by
  have i0 := INV.num (by omega) hI
  obtain ⟨i1, i2, i3, i4, i5, i6, i7, i8, i9⟩ := i0
  have hn511 : nN s < 512 := by have := i6.2.1; omega
  have hn512 : nN s ≤ 512 := by omega
  exact c_A_knot0 D G X s p0 p1 y3 hG 
theorem a_knot1 {D : DT} {G : GT} {X : XT} {s : SG} {q : Nat} (p0 : Int32) (p1 : Int32) (y3 : Int32) (hG : LF X s G) (hI : INV X s q) (hq : q < 512) : ML yL_act cL_act 7 (Option.some Jvm.ClassFile.FieldType.long) [(0, 443, 444, 103), (0, 443, 450, 107), (0, 443, 456, 111)] rw_act_knot1 D [.ref (X.1 0 0), .int 9, .int p0, .int p1, .int 1, .int y3] G (AP X s (fun X' s' w => w = ((s.1 15 (nat p0))).toInt64 ∧ X' = X ∧ s' = gKnot s (nat p0) p1 1 ∧ kKnot p0 p1 = 0) (fun w => (kKnot p0 p1 = 1 ∧ w = (-1731000000000)) ∨ (kKnot p0 p1 = 2 ∧ w = (-1732000000000)))) := by
  have i0 := INV.num (by omega) hI
  obtain ⟨i1, i2, i3, i4, i5, i6, i7, i8, i9⟩ := i0
  have hn511 : nN s < 512 := by have := i6.2.1; omega
  have hn512 : nN s ≤ 512 := by omega
  exact c_A_knot1 D G X s p0 p1 y3 hG 
theorem a_load {D : DT} {G : GT} {X : XT} {s : SG} {q : Nat} (p0 : Int32) (y1 : Int32) (y2 : Int32) (y3 : Int32) (hG : LF X s G) (hI : INV X s q) (hq : q < 512) : ML yL_act cL_act 7 (Option.some Jvm.ClassFile.FieldType.long) [(0, 443, 444, 103), (0, 443, 450, 107), (0, 443, 456, 111)] rw_act_load D [.ref (X.1 0 0), .int 10, .int p0, .int y1, .int y2, .int y3] G (AP X s (fun X' s' w => w = ((s.1 18 0)).toInt64 ∧ X' = X ∧ s' = sI s 18 0 p0 ∧ kLoad p0 = 0) (fun w => (kLoad p0 = 1 ∧ w = (-1732000000000)))) := by
  have i0 := INV.num (by omega) hI
  obtain ⟨i1, i2, i3, i4, i5, i6, i7, i8, i9⟩ := i0
  have hn511 : nN s < 512 := by have := i6.2.1; omega
  have hn512 : nN s ≤ 512 := by omega
  exact c_A_load D G X s p0 y1 y2 y3 hG 
theorem a_rest {D : DT} {G : GT} {X : XT} {s : SG} {q : Nat} (p0 : Int32) (y1 : Int32) (y2 : Int32) (y3 : Int32) (hG : LF X s G) (hI : INV X s q) (hq : q < 512) : ML yL_act cL_act 7 (Option.some Jvm.ClassFile.FieldType.long) [(0, 443, 444, 103), (0, 443, 450, 107), (0, 443, 456, 111)] rw_act_rest D [.ref (X.1 0 0), .int 11, .int p0, .int y1, .int y2, .int y3] G (AP X s (fun X' s' w => w = ((nI (runC s (nat p0)).2)).toInt64 ∧ X' = X ∧ s' = (runC s (nat p0)).1 ∧ kRest p0 = 0) (fun w => (kRest p0 = 1 ∧ w = (-1732000000000)))) := by
  have i0 := INV.num (by omega) hI
  obtain ⟨i1, i2, i3, i4, i5, i6, i7, i8, i9⟩ := i0
  have hn511 : nN s < 512 := by have := i6.2.1; omega
  have hn512 : nN s ≤ 512 := by omega
  exact c_A_rest D G X s p0 y1 y2 y3 hG 
theorem a_height {D : DT} {G : GT} {X : XT} {s : SG} {q : Nat} (p0 : Int32) (y1 : Int32) (y2 : Int32) (y3 : Int32) (hG : LF X s G) (hI : INV X s q) (hq : q < 512) : ML yL_act cL_act 7 (Option.some Jvm.ClassFile.FieldType.long) [(0, 443, 444, 103), (0, 443, 450, 107), (0, 443, 456, 111)] rw_act_height D [.ref (X.1 0 0), .int 12, .int p0, .int y1, .int y2, .int y3] G (AP X s (fun X' s' w => w = ((s.1 15 (nat p0))).toInt64 ∧ X' = X ∧ s' = s ∧ kHt p0 = 0) (fun w => (kHt p0 = 1 ∧ w = (-1731000000000)))) := by
  have i0 := INV.num (by omega) hI
  obtain ⟨i1, i2, i3, i4, i5, i6, i7, i8, i9⟩ := i0
  have hn511 : nN s < 512 := by have := i6.2.1; omega
  have hn512 : nN s ≤ 512 := by omega
  exact c_A_height D G X s p0 y1 y2 y3 hG 
theorem a_pulled {D : DT} {G : GT} {X : XT} {s : SG} {q : Nat} (p0 : Int32) (y1 : Int32) (y2 : Int32) (y3 : Int32) (hG : LF X s G) (hI : INV X s q) (hq : q < 512) : ML yL_act cL_act 7 (Option.some Jvm.ClassFile.FieldType.long) [(0, 443, 444, 103), (0, 443, 450, 107), (0, 443, 456, 111)] rw_act_pulled D [.ref (X.1 0 0), .int 13, .int p0, .int y1, .int y2, .int y3] G (AP X s (fun X' s' w => w = (s.2 23 (nat p0)) ∧ X' = X ∧ s' = s ∧ kPul (nG s) p0 = 0) (fun w => (kPul (nG s) p0 = 1 ∧ w = (-1731000000000)))) := by
  have i0 := INV.num (by omega) hI
  obtain ⟨i1, i2, i3, i4, i5, i6, i7, i8, i9⟩ := i0
  have hn511 : nN s < 512 := by have := i6.2.1; omega
  have hn512 : nN s ≤ 512 := by omega
  exact c_A_pulled D G X s _ p0 y1 y2 y3 hG i4.1 i4.2.1 i4.2.2.1
theorem a_trim {D : DT} {G : GT} {X : XT} {s : SG} {q : Nat} (p0 : Int32) (p1 : Int32) (p2 : Int32) (y3 : Int32) (hG : LF X s G) (hI : INV X s q) (hq : q < 512) : ML yL_act cL_act 7 (Option.some Jvm.ClassFile.FieldType.long) [(0, 443, 444, 103), (0, 443, 450, 107), (0, 443, 456, 111)] rw_act_trim D [.ref (X.1 0 0), .int 14, .int p0, .int p1, .int p2, .int y3] G (AP X s (fun X' s' w => w = (FP.f2i (FP.fmul ((drI (nat p0) (nat p1))) 1148846080)).toInt64 ∧ X' = X ∧ s' = gTrim s p0 p1 p2 ∧ kTrim p0 p1 p2 = 0) (fun w => (kTrim p0 p1 p2 = 1 ∧ w = (-1732000000000)))) := by
  have i0 := INV.num (by omega) hI
  obtain ⟨i1, i2, i3, i4, i5, i6, i7, i8, i9⟩ := i0
  have hn511 : nN s < 512 := by have := i6.2.1; omega
  have hn512 : nN s ≤ 512 := by omega
  exact c_A_trim D G X s p0 p1 p2 y3 hG 
theorem a_power {D : DT} {G : GT} {X : XT} {s : SG} {q : Nat} (p0 : Int32) (y1 : Int32) (y2 : Int32) (y3 : Int32) {h t r : Nat} (e1 : s.1 24 0 = nI h) (e2 : s.1 25 0 = nI t) (e3 : s.1 26 0 = nI r) (hh : h < 101) (ht : t < 101) (hr : r < 4) (hG : LF X s G) (hI : INV X s q) (hq : q < 512) : ML yL_act cL_act 7 (Option.some Jvm.ClassFile.FieldType.long) [(0, 443, 444, 103), (0, 443, 450, 107), (0, 443, 456, 111)] rw_act_power D [.ref (X.1 0 0), .int 15, .int p0, .int y1, .int y2, .int y3] G (AP X s (fun X' s' w => w = (FP.f2i ((pwI h t r (nat p0)))).toInt64 ∧ X' = X ∧ s' = s ∧ kPow p0 = 0) (fun w => (kPow p0 = 1 ∧ w = (-1732000000000)))) := by
  have i0 := INV.num (by omega) hI
  obtain ⟨i1, i2, i3, i4, i5, i6, i7, i8, i9⟩ := i0
  have hn511 : nN s < 512 := by have := i6.2.1; omega
  have hn512 : nN s ≤ 512 := by omega
  exact c_A_power D G X s _ _ _ p0 y1 y2 y3 hG e1 e2 e3 hh ht hr
theorem a_halyard {D : DT} {G : GT} {X : XT} {s : SG} {q : Nat} (p0 : Int32) (p1 : Int32) (y2 : Int32) (y3 : Int32) {t r : Nat} (e2 : s.1 25 0 = nI t) (e3 : s.1 26 0 = nI r) (ht : t < 101) (hr : r < 4) (hG : LF X s G) (hI : INV X s q) (hq : q < 512) : ML yL_act cL_act 7 (Option.some Jvm.ClassFile.FieldType.long) [(0, 443, 444, 103), (0, 443, 450, 107), (0, 443, 456, 111)] rw_act_halyard D [.ref (X.1 0 0), .int 16, .int p0, .int p1, .int y2, .int y3] G (AP X s (fun X' s' w => w = ((halF t r (nat p0) p1 101 0)).toInt64 ∧ X' = X ∧ s' = s ∧ kHal p0 p1 = 0) (fun w => (kHal p0 p1 = 1 ∧ w = (-1732000000000)))) := by
  have i0 := INV.num (by omega) hI
  obtain ⟨i1, i2, i3, i4, i5, i6, i7, i8, i9⟩ := i0
  have hn511 : nN s < 512 := by have := i6.2.1; omega
  have hn512 : nN s ≤ 512 := by omega
  exact c_A_halyard D G X s _ _ p0 p1 y2 y3 hG e2 e3 ht hr
theorem a_pass {D : DT} {G : GT} {X : XT} {s : SG} {q : Nat} (p0 : Int32) (y1 : Int32) (y2 : Int32) (y3 : Int32) (hG : LF X s G) (hI : INV X s q) (hq : q < 512) : ML yL_act cL_act 7 (Option.some Jvm.ClassFile.FieldType.long) [(0, 443, 444, 103), (0, 443, 450, 107), (0, 443, 456, 111)] rw_act_pass D [.ref (X.1 0 0), .int 17, .int p0, .int y1, .int y2, .int y3] G (AP X s (fun X' s' w => w = ((s.1 27 0 + p0)).toInt64 ∧ X' = X ∧ s' = sI s 27 0 (s.1 27 0 + p0) ∧ kPass s p0 = 0) (fun w => (kPass s p0 = 1 ∧ w = (-1732000000000)) ∨ (kPass s p0 = 2 ∧ w = (-1733000000000)))) := by
  have i0 := INV.num (by omega) hI
  obtain ⟨i1, i2, i3, i4, i5, i6, i7, i8, i9⟩ := i0
  have hn511 : nN s < 512 := by have := i6.2.1; omega
  have hn512 : nN s ≤ 512 := by omega
  exact c_A_pass D G X s p0 y1 y2 y3 hG 
theorem a_canopy {D : DT} {G : GT} {X : XT} {s : SG} {q : Nat} (p0 : Int32) (y1 : Int32) (y2 : Int32) (y3 : Int32) (hG : LF X s G) (hI : INV X s q) (hq : q < 512) : ML yL_act cL_act 7 (Option.some Jvm.ClassFile.FieldType.long) [(0, 443, 444, 103), (0, 443, 450, 107), (0, 443, 456, 111)] rw_act_canopy D [.ref (X.1 0 0), .int 18, .int p0, .int y1, .int y2, .int y3] G (AP X s (fun X' s' w => w = ((nI (nC s))).toInt64 ∧ s' = gCan s (nC s) p0 ∧ X'.2.1 = u2 (u2 X.2.1 18 (nC s) true) 17 (nC s) true ∧ X'.2.2.1 = u2 X.2.2.1 5 (nC s) true ∧ kCan (nA s) (nC s) p0 = 0) (fun w => (kCan (nA s) (nC s) p0 = 1 ∧ w = (-1731000000000)) ∨ (kCan (nA s) (nC s) p0 = 2 ∧ w = (-1733000000000)))) := by
  have i0 := INV.num (by omega) hI
  obtain ⟨i1, i2, i3, i4, i5, i6, i7, i8, i9⟩ := i0
  have hn511 : nN s < 512 := by have := i6.2.1; omega
  have hn512 : nN s ≤ 512 := by omega
  exact c_A_canopy D G X s _ _ p0 y1 y2 y3 hG i1.1 i1.2.1 i1.2.2.1 i5.1 i5.2.1 (i5.2.2.2.1 _ (Nat.le_refl _)).1 (i5.2.2.2.1 _ (Nat.le_refl _)).2.1 (i5.2.2.2.1 _ (Nat.le_refl _)).2.2.1 (i5.2.2.2.1 _ (Nat.le_refl _)).2.2.2.1 (i5.2.2.2.1 _ (Nat.le_refl _)).2.2.2.2.1 (i5.2.2.2.1 _ (Nat.le_refl _)).2.2.2.2.2.1 (i5.2.2.2.1 _ (Nat.le_refl _)).2.2.2.2.2.2.1 (i5.2.2.2.1 _ (Nat.le_refl _)).2.2.2.2.2.2.2 i9
theorem a_part {D : DT} {G : GT} {X : XT} {s : SG} {q : Nat} (p0 : Int32) (p1 : Int32) (y2 : Int32) (y3 : Int32) (hG : LF X s G) (hI : INV X s q) (hq : q < 512) : ML yL_act cL_act 7 (Option.some Jvm.ClassFile.FieldType.long) [(0, 443, 444, 103), (0, 443, 450, 107), (0, 443, 456, 111)] rw_act_part D [.ref (X.1 0 0), .int 19, .int p0, .int p1, .int y2, .int y3] G (AP X s (fun X' s' w => w = ((s.1 30 (nat p0))).toInt64 ∧ X' = X ∧ s' = gPart s (nat p0) (nat (s.1 30 (nat p0))) p1 ∧ kPart s (nC s) p0 p1 = 0) (fun w => (kPart s (nC s) p0 p1 = 1 ∧ w = (-1731000000000)) ∨ (kPart s (nC s) p0 p1 = 2 ∧ w = (-1732000000000)) ∨ (kPart s (nC s) p0 p1 = 3 ∧ w = (-1733000000000)))) := by
  have i0 := INV.num (by omega) hI
  obtain ⟨i1, i2, i3, i4, i5, i6, i7, i8, i9⟩ := i0
  have hn511 : nN s < 512 := by have := i6.2.1; omega
  have hn512 : nN s ≤ 512 := by omega
  exact c_A_part D G X s _ p0 p1 y2 y3 hG (i5.CV i1.2.1) i5.2.2.2.2.2 i5.1 i5.2.1 i5.2.2.1
theorem a_opens {D : DT} {G : GT} {X : XT} {s : SG} {q : Nat} (p0 : Int32) (y1 : Int32) (y2 : Int32) (y3 : Int32) (hG : LF X s G) (hI : INV X s q) (hq : q < 512) : ML yL_act cL_act 7 (Option.some Jvm.ClassFile.FieldType.long) [(0, 443, 444, 103), (0, 443, 450, 107), (0, 443, 456, 111)] rw_act_opens D [.ref (X.1 0 0), .int 20, .int p0, .int y1, .int y2, .int y3] G (AP X s (fun X' s' w => w = ((opS s (nat p0))).toInt64 ∧ X' = X ∧ s' = s ∧ kOp (nC s) p0 = 0) (fun w => (kOp (nC s) p0 = 1 ∧ w = (-1731000000000)))) := by
  have i0 := INV.num (by omega) hI
  obtain ⟨i1, i2, i3, i4, i5, i6, i7, i8, i9⟩ := i0
  have hn511 : nN s < 512 := by have := i6.2.1; omega
  have hn512 : nN s ≤ 512 := by omega
  exact c_A_opens D G X s _ p0 y1 y2 y3 hG (i5.CV i1.2.1) i5.1 i5.2.1 i5.2.2.1
theorem a_seal {D : DT} {G : GT} {X : XT} {s : SG} {q : Nat} (p0 : Int32) (p1 : Int32) (y2 : Int32) (y3 : Int32) (hG : LF X s G) (hI : INV X s q) (hq : q < 512) : ML yL_act cL_act 7 (Option.some Jvm.ClassFile.FieldType.long) [(0, 443, 444, 103), (0, 443, 450, 107), (0, 443, 456, 111)] rw_act_seal D [.ref (X.1 0 0), .int 21, .int p0, .int p1, .int y2, .int y3] G (AP X s (fun X' s' w => w = ((s.1 34 (nat p0) + 1)).toInt64 ∧ X' = X ∧ s' = noteS (gSeal s (nat p0) p1) (nat p0) 3 (nN s) ∧ kSeal s (nC s) p0 p1 = 0) (fun w => (kSeal s (nC s) p0 p1 = 1 ∧ w = (-1731000000000)) ∨ (kSeal s (nC s) p0 p1 = 2 ∧ w = (-1733000000000)))) := by
  have i0 := INV.num (by omega) hI
  obtain ⟨i1, i2, i3, i4, i5, i6, i7, i8, i9⟩ := i0
  have hn511 : nN s < 512 := by have := i6.2.1; omega
  have hn512 : nN s ≤ 512 := by omega
  exact c_A_seal D G X s _ _ p0 p1 y2 y3 hG (i5.CV i1.2.1) i5.2.2.2.2.2 i6.1 hn511 i5.1 i5.2.1 i5.2.2.1
theorem a_use {D : DT} {G : GT} {X : XT} {s : SG} {q : Nat} (p0 : Int32) (y1 : Int32) (y2 : Int32) (y3 : Int32) (hG : LF X s G) (hI : INV X s q) (hq : q < 512) : ML yL_act cL_act 7 (Option.some Jvm.ClassFile.FieldType.long) [(0, 443, 444, 103), (0, 443, 450, 107), (0, 443, 456, 111)] rw_act_use D [.ref (X.1 0 0), .int 22, .int p0, .int y1, .int y2, .int y3] G (AP X s (fun X' s' w => w = ((s.1 32 (nat p0))).toInt64 ∧ X' = X ∧ s' = noteS (gUse s (nat p0)) (nat p0) 4 (nN s) ∧ kUse s (nC s) p0 = 0) (fun w => (kUse s (nC s) p0 = 1 ∧ w = (-1731000000000)) ∨ (kUse s (nC s) p0 = 2 ∧ w = (-1733000000000)))) := by
  have i0 := INV.num (by omega) hI
  obtain ⟨i1, i2, i3, i4, i5, i6, i7, i8, i9⟩ := i0
  have hn511 : nN s < 512 := by have := i6.2.1; omega
  have hn512 : nN s ≤ 512 := by omega
  exact c_A_use D G X s _ _ p0 y1 y2 y3 hG (i5.CV i1.2.1) i5.2.2.2.2.2 i6.1 hn511 i5.1 i5.2.1 i5.2.2.1
theorem a_wet0 {D : DT} {G : GT} {X : XT} {s : SG} {q : Nat} (p0 : Int32) (y2 : Int32) (y3 : Int32) (hG : LF X s G) (hI : INV X s q) (hq : q < 512) : ML yL_act cL_act 7 (Option.some Jvm.ClassFile.FieldType.long) [(0, 443, 444, 103), (0, 443, 450, 107), (0, 443, 456, 111)] rw_act_wet0 D [.ref (X.1 0 0), .int 23, .int p0, .int 0, .int y2, .int y3] G (AP X s (fun X' s' w => w = (((gWet s (nat p0) 0).1 37 (nat p0))).toInt64 ∧ X' = X ∧ s' = (if 0 = 0 then noteS (gWet s (nat p0) 0) (nat p0) 5 (nN s) else sI s 37 (nat p0) 0) ∧ kWet s (nC s) p0 = 0) (fun w => (kWet s (nC s) p0 = 1 ∧ w = (-1731000000000)) ∨ (kWet s (nC s) p0 = 2 ∧ w = (-1733000000000)))) := by
  have i0 := INV.num (by omega) hI
  obtain ⟨i1, i2, i3, i4, i5, i6, i7, i8, i9⟩ := i0
  have hn511 : nN s < 512 := by have := i6.2.1; omega
  have hn512 : nN s ≤ 512 := by omega
  exact c_A_wet0 D G X s _ _ p0 y2 y3 hG (i5.CV i1.2.1) i5.2.2.2.2.2 i6.1 hn511 i5.1 i5.2.1 i5.2.2.1
theorem a_wet1 {D : DT} {G : GT} {X : XT} {s : SG} {q : Nat} (p0 : Int32) (y2 : Int32) (y3 : Int32) (hG : LF X s G) (hI : INV X s q) (hq : q < 512) : ML yL_act cL_act 7 (Option.some Jvm.ClassFile.FieldType.long) [(0, 443, 444, 103), (0, 443, 450, 107), (0, 443, 456, 111)] rw_act_wet1 D [.ref (X.1 0 0), .int 23, .int p0, .int 1, .int y2, .int y3] G (AP X s (fun X' s' w => w = (((gWet s (nat p0) 1).1 37 (nat p0))).toInt64 ∧ X' = X ∧ s' = (if 1 = 0 then noteS (gWet s (nat p0) 1) (nat p0) 5 (nN s) else sI s 37 (nat p0) 0) ∧ kWet s (nC s) p0 = 0) (fun w => (kWet s (nC s) p0 = 1 ∧ w = (-1731000000000)) ∨ (kWet s (nC s) p0 = 2 ∧ w = (-1733000000000)))) := by
  have i0 := INV.num (by omega) hI
  obtain ⟨i1, i2, i3, i4, i5, i6, i7, i8, i9⟩ := i0
  have hn511 : nN s < 512 := by have := i6.2.1; omega
  have hn512 : nN s ≤ 512 := by omega
  exact c_A_wet1 D G X s _ _ p0 y2 y3 hG (i5.CV i1.2.1) i5.2.2.2.2.2 i6.1 hn511 i5.1 i5.2.1 i5.2.2.1
theorem a_find0 {D : DT} {G : GT} {X : XT} {s : SG} {q : Nat} (p0 : Int32) (y2 : Int32) (y3 : Int32) (hG : LF X s G) (hI : INV X s q) (hq : q < 512) : ML yL_act cL_act 7 (Option.some Jvm.ClassFile.FieldType.long) [(0, 443, 444, 103), (0, 443, 450, 107), (0, 443, 456, 111)] rw_act_find0 D [.ref (X.1 0 0), .int 24, .int p0, .int 0, .int y2, .int y3] G (AP X s (fun X' s' w => w = ((nI (gFind s (nC s) (nat p0) 0).2)).toInt64 ∧ X' = X ∧ s' = (gFind s (nC s) (nat p0) 0).1 ∧ kFind s (nA s) p0 0 = 0) (fun w => (kFind s (nA s) p0 0 = 1 ∧ w = (-1731000000000)) ∨ (kFind s (nA s) p0 0 = 2 ∧ w = (-1733000000000)))) := by
  have i0 := INV.num (by omega) hI
  obtain ⟨i1, i2, i3, i4, i5, i6, i7, i8, i9⟩ := i0
  have hn511 : nN s < 512 := by have := i6.2.1; omega
  have hn512 : nN s ≤ 512 := by omega
  exact c_A_find0 D G X s _ _ p0 y2 y3 hG i5.2.2.2.2.2 i1.1 i1.2.1 i1.2.2.1 i5.2.1 i5.2.2.1
theorem a_find1 {D : DT} {G : GT} {X : XT} {s : SG} {q : Nat} (p0 : Int32) (y2 : Int32) (y3 : Int32) (hG : LF X s G) (hI : INV X s q) (hq : q < 512) : ML yL_act cL_act 7 (Option.some Jvm.ClassFile.FieldType.long) [(0, 443, 444, 103), (0, 443, 450, 107), (0, 443, 456, 111)] rw_act_find1 D [.ref (X.1 0 0), .int 24, .int p0, .int 1, .int y2, .int y3] G (AP X s (fun X' s' w => w = ((nI (gFind s (nC s) (nat p0) 1).2)).toInt64 ∧ X' = X ∧ s' = (gFind s (nC s) (nat p0) 1).1 ∧ kFind s (nA s) p0 1 = 0) (fun w => (kFind s (nA s) p0 1 = 1 ∧ w = (-1731000000000)) ∨ (kFind s (nA s) p0 1 = 2 ∧ w = (-1733000000000)))) := by
  have i0 := INV.num (by omega) hI
  obtain ⟨i1, i2, i3, i4, i5, i6, i7, i8, i9⟩ := i0
  have hn511 : nN s < 512 := by have := i6.2.1; omega
  have hn512 : nN s ≤ 512 := by omega
  exact c_A_find1 D G X s _ _ p0 y2 y3 hG i5.2.2.2.2.2 i1.1 i1.2.1 i1.2.2.1 i5.2.1 i5.2.2.1
theorem a_ofCanopy {D : DT} {G : GT} {X : XT} {s : SG} {q : Nat} (p0 : Int32) (p1 : Int32) (y2 : Int32) (y3 : Int32) (hG : LF X s G) (hI : INV X s q) (hq : q < 512) : ML yL_act cL_act 7 (Option.some Jvm.ClassFile.FieldType.long) [(0, 443, 444, 103), (0, 443, 450, 107), (0, 443, 456, 111)] rw_act_ofCanopy D [.ref (X.1 0 0), .int 25, .int p0, .int p1, .int y2, .int y3] G (AP X s (fun X' s' w => w = ((ofS s (nat p0) p1)).toInt64 ∧ X' = X ∧ s' = s ∧ kOf (nC s) p0 p1 0 5 = 0) (fun w => (kOf (nC s) p0 p1 0 5 = 1 ∧ w = (-1731000000000)) ∨ (kOf (nC s) p0 p1 0 5 = 2 ∧ w = (-1732000000000)))) := by
  have i0 := INV.num (by omega) hI
  obtain ⟨i1, i2, i3, i4, i5, i6, i7, i8, i9⟩ := i0
  have hn511 : nN s < 512 := by have := i6.2.1; omega
  have hn512 : nN s ≤ 512 := by omega
  exact c_A_ofCanopy D G X s _ p0 p1 y2 y3 hG (i5.CV i1.2.1) i5.1 i5.2.1 i5.2.2.1
theorem a_lifeAnew {D : DT} {G : GT} {X : XT} {s : SG} {q : Nat} (p0 : Int32) (p1 : Int32) (y2 : Int32) (y3 : Int32) (hG : LF X s G) (hI : INV X s q) (hq : q < 512) : ML yL_act cL_act 7 (Option.some Jvm.ClassFile.FieldType.long) [(0, 443, 444, 103), (0, 443, 450, 107), (0, 443, 456, 111)] rw_act_lifeAnew D [.ref (X.1 0 0), .int 26, .int p0, .int p1, .int y2, .int y3] G (AP X s (fun X' s' w => w = ((lifeS s (nat p0) p1)).toInt64 ∧ X' = X ∧ s' = s ∧ kOf (nC s) p0 p1 3 5 = 0) (fun w => (kOf (nC s) p0 p1 3 5 = 1 ∧ w = (-1731000000000)) ∨ (kOf (nC s) p0 p1 3 5 = 2 ∧ w = (-1732000000000)))) := by
  have i0 := INV.num (by omega) hI
  obtain ⟨i1, i2, i3, i4, i5, i6, i7, i8, i9⟩ := i0
  have hn511 : nN s < 512 := by have := i6.2.1; omega
  have hn512 : nN s ≤ 512 := by omega
  exact c_A_lifeAnew D G X s _ _ p0 p1 y2 y3 hG (i5.CV i1.2.1) i6.LG i6.1 hn512 i5.1 i5.2.1 i5.2.2.1
theorem a_gust {D : DT} {G : GT} {X : XT} {s : SG} {q : Nat} (p0 : Int64) (hG : LF X s G) (hI : INV X s q) (hq : q < 512) : ML yL_pegs cL_pegs 5 (Option.some Jvm.ClassFile.FieldType.long) [(0, 22, 23, 107), (0, 22, 29, 111)] rw_pegs_gust D [.ref (X.1 0 0), .int (-9), .long p0] G (AP X s (fun X' s' w => w = ((nI (gusF s p0 (nG s) 9).2)).toInt64 ∧ X' = X ∧ s' = (gusF s p0 (nG s) 9).1 ∧ kGust p0 = 0) (fun w => (kGust p0 = 1 ∧ w = (-1732000000000)))) := by
  have i0 := INV.num (by omega) hI
  obtain ⟨i1, i2, i3, i4, i5, i6, i7, i8, i9⟩ := i0
  have hn511 : nN s < 512 := by have := i6.2.1; omega
  have hn512 : nN s ≤ 512 := by omega
  exact c_A_gust D G X s _ p0 hG i4.2.2.2.2 i4.2.1 i4.2.2.1
theorem a_peg {D : DT} {G : GT} {X : XT} {s : SG} {q : Nat} (p0 : Int64) (p1 : Int32) (hG : LF X s G) (hI : INV X s q) (hq : q < 512) (h9 : ¬ p1 = -9) : ML yL_pegs cL_pegs 5 (Option.some Jvm.ClassFile.FieldType.long) [(0, 22, 23, 107), (0, 22, 29, 111)] rw_pegs_peg D [.ref (X.1 0 0), .int p1, .long p0] G (AP X s (fun X' s' w => w = ((nI (nG s))).toInt64 ∧ s' = gPeg s (nG s) p0 p1 ∧ X'.2.1 = u2 X.2.1 16 (nG s) true ∧ X'.2.2.1 = u2 X.2.2.1 4 (nG s) true ∧ kPeg (nG s) p0 p1 = 0) (fun w => (kPeg (nG s) p0 p1 = 1 ∧ w = (-1732000000000)) ∨ (kPeg (nG s) p0 p1 = 2 ∧ w = (-1733000000000)))) := by
  have i0 := INV.num (by omega) hI
  obtain ⟨i1, i2, i3, i4, i5, i6, i7, i8, i9⟩ := i0
  have hn511 : nN s < 512 := by have := i6.2.1; omega
  have hn512 : nN s ≤ 512 := by omega
  exact c_A_peg D G X s _ p0 p1 hG i4.1 i4.2.1 (i4.2.2.2.1 _ (Nat.le_refl _)).1 (i4.2.2.2.1 _ (Nat.le_refl _)).2 i9 h9
abbrev rm_no : Room := { frames := 10, cells := 2, slots := 18, locals := 260 }
set_option maxRecDepth 100000 in
set_option maxHeartbeats 400000 in
theorem off_lot {D : DT} {G : GT} {X : XT} {s : SG} {q : Nat} (p0 : Int32) (p1 : Int32) (p2 : Int32) (y3 : Int32) (hG : LF X s G) (hI : INV X s q) (hq : q < 512) (hk : kLot (nA s) p0 p1 p2 = 1) : MN yL_off cL_off 6 (Option.some Jvm.ClassFile.FieldType.boolean) rm_no D [.ref (X.1 0 0), .int 0, .int p0, .int p1, .int p2, .int y3] G (fun v G' => v = some (.int 1) ∧ LF X s G') := by
  refine MN_of (by decide +kernel) (Nat.le_of_ble_eq_true rfl) (fun K sz hR hNC => ?_)
  show V cL_off _ 6 _ D K 0 [some (.ref (X.1 0 0)), some (.int 0), some (.int p0), some (.int p1), some (.int p2), some (.int y3)] [] G (0, 0)
  refine v_aload_n (pc := 0) dL_off_0 rfl rfl ?_
  refine v_iload_n (pc := 1) dL_off_1 rfl rfl ?_
  refine v_iload_n (pc := 2) dL_off_2 rfl rfl ?_
  refine v_iload_n (pc := 3) dL_off_3 rfl rfl ?_
  refine v_iload (pc := 4) dL_off_4 rfl ?_
  refine v_iload (pc := 6) dL_off_6 rfl ?_
  refine v_callL (pc := 8) (As := [.ref (X.1 0 0), .int 0, .int p0, .int p1, .int p2, .int y3]) (rest := []) hNC dL_off_8 ll_act.1 ll_act.2.1 wl_act ll_act.2.2.2 ll_act.2.2.1 (a_lot p0 p1 p2 y3  hG hI hq) rfl rfl (Nat.le_of_ble_eq_true rfl) ⟨Nat.le_of_ble_eq_true rfl, Nat.le_of_ble_eq_true rfl⟩ ⟨by decide, by decide⟩ (fun v G1 hp => ?_)
  obtain ⟨X', s', w, rfl, hG1, hA1, h01, hok | ⟨her, rfl, rfl⟩⟩ := hp
  · exfalso
    have hz := hok.2.2.2.2
    rw [hk] at hz
    exact absurd hz (by decide)
  · have hw : w = (-1732000000000) := by
      rcases her with ⟨hz0, hw⟩ | ⟨hz1, hw⟩
      · exact hw
      · rw [hk] at hz1; exact absurd hz1 (by decide)
    subst hw
    refine v_ldcL (pc := 11) dL_off_11 k_L_109 ?_
    refine v_lcmp (pc := 14) dL_off_14 ?_
    refine v_if_ne (pc := 15) (tgt := 22) dL_off_15 (by decide) (fun c => absurd c (by decide)) (fun _ => ?_)
    refine v_iconst (pc := 18) (v := 1) dL_off_18 (by decide) ?_
    refine v_goto (pc := 19) (tgt := 23) dL_off_19 (by decide) ?_
    refine v_zret (pc := 23) hR dL_off_23 rfl ⟨by decide, by decide⟩ ?_
    exact ⟨rfl, hG1⟩
set_option maxRecDepth 100000 in
set_option maxHeartbeats 400000 in
theorem no_sun {D : DT} {G : GT} {X : XT} {s : SG} {q : Nat} (p0 : Int32) (p1 : Int32) (y2 : Int32) (y3 : Int32) (hG : LF X s G) (hI : INV X s q) (hq : q < 512) (hk : kSun (nA s) p0 p1 = 1) : MN yL_no cL_no 6 (Option.some Jvm.ClassFile.FieldType.boolean) rm_no D [.ref (X.1 0 0), .int 1, .int p0, .int p1, .int y2, .int y3] G (fun v G' => v = some (.int 1) ∧ LF X s G') := by
  refine MN_of (by decide +kernel) (Nat.le_of_ble_eq_true rfl) (fun K sz hR hNC => ?_)
  show V cL_no _ 6 _ D K 0 [some (.ref (X.1 0 0)), some (.int 1), some (.int p0), some (.int p1), some (.int y2), some (.int y3)] [] G (0, 0)
  refine v_aload_n (pc := 0) dL_no_0 rfl rfl ?_
  refine v_iload_n (pc := 1) dL_no_1 rfl rfl ?_
  refine v_iload_n (pc := 2) dL_no_2 rfl rfl ?_
  refine v_iload_n (pc := 3) dL_no_3 rfl rfl ?_
  refine v_iload (pc := 4) dL_no_4 rfl ?_
  refine v_iload (pc := 6) dL_no_6 rfl ?_
  refine v_callL (pc := 8) (As := [.ref (X.1 0 0), .int 1, .int p0, .int p1, .int y2, .int y3]) (rest := []) hNC dL_no_8 ll_act.1 ll_act.2.1 wl_act ll_act.2.2.2 ll_act.2.2.1 (a_sun p0 p1 y2 y3  hG hI hq) rfl rfl (Nat.le_of_ble_eq_true rfl) ⟨Nat.le_of_ble_eq_true rfl, Nat.le_of_ble_eq_true rfl⟩ ⟨by decide, by decide⟩ (fun v G1 hp => ?_)
  obtain ⟨X', s', w, rfl, hG1, hA1, h01, hok | ⟨her, rfl, rfl⟩⟩ := hp
  · exfalso
    have hz := hok.2.2.2
    rw [hk] at hz
    exact absurd hz (by decide)
  · have hw : w = (-1731000000000) := by
      rcases her with ⟨hz0, hw⟩ | ⟨hz1, hw⟩
      · exact hw
      · rw [hk] at hz1; exact absurd hz1 (by decide)
    subst hw
    refine v_ldcL (pc := 11) dL_no_11 k_L_105 ?_
    refine v_lcmp (pc := 14) dL_no_14 ?_
    refine v_if_ne (pc := 15) (tgt := 22) dL_no_15 (by decide) (fun c => absurd c (by decide)) (fun _ => ?_)
    refine v_iconst (pc := 18) (v := 1) dL_no_18 (by decide) ?_
    refine v_goto (pc := 19) (tgt := 23) dL_no_19 (by decide) ?_
    refine v_zret (pc := 23) hR dL_no_23 rfl ⟨by decide, by decide⟩ ?_
    exact ⟨rfl, hG1⟩
set_option maxRecDepth 100000 in
set_option maxHeartbeats 400000 in
theorem off_sun {D : DT} {G : GT} {X : XT} {s : SG} {q : Nat} (p0 : Int32) (p1 : Int32) (y2 : Int32) (y3 : Int32) (hG : LF X s G) (hI : INV X s q) (hq : q < 512) (hk : kSun (nA s) p0 p1 = 2) : MN yL_off cL_off 6 (Option.some Jvm.ClassFile.FieldType.boolean) rm_no D [.ref (X.1 0 0), .int 1, .int p0, .int p1, .int y2, .int y3] G (fun v G' => v = some (.int 1) ∧ LF X s G') := by
  refine MN_of (by decide +kernel) (Nat.le_of_ble_eq_true rfl) (fun K sz hR hNC => ?_)
  show V cL_off _ 6 _ D K 0 [some (.ref (X.1 0 0)), some (.int 1), some (.int p0), some (.int p1), some (.int y2), some (.int y3)] [] G (0, 0)
  refine v_aload_n (pc := 0) dL_off_0 rfl rfl ?_
  refine v_iload_n (pc := 1) dL_off_1 rfl rfl ?_
  refine v_iload_n (pc := 2) dL_off_2 rfl rfl ?_
  refine v_iload_n (pc := 3) dL_off_3 rfl rfl ?_
  refine v_iload (pc := 4) dL_off_4 rfl ?_
  refine v_iload (pc := 6) dL_off_6 rfl ?_
  refine v_callL (pc := 8) (As := [.ref (X.1 0 0), .int 1, .int p0, .int p1, .int y2, .int y3]) (rest := []) hNC dL_off_8 ll_act.1 ll_act.2.1 wl_act ll_act.2.2.2 ll_act.2.2.1 (a_sun p0 p1 y2 y3  hG hI hq) rfl rfl (Nat.le_of_ble_eq_true rfl) ⟨Nat.le_of_ble_eq_true rfl, Nat.le_of_ble_eq_true rfl⟩ ⟨by decide, by decide⟩ (fun v G1 hp => ?_)
  obtain ⟨X', s', w, rfl, hG1, hA1, h01, hok | ⟨her, rfl, rfl⟩⟩ := hp
  · exfalso
    have hz := hok.2.2.2
    rw [hk] at hz
    exact absurd hz (by decide)
  · have hw : w = (-1732000000000) := by
      rcases her with ⟨hz0, hw⟩ | ⟨hz1, hw⟩
      · rw [hk] at hz0; exact absurd hz0 (by decide)
      · exact hw
    subst hw
    refine v_ldcL (pc := 11) dL_off_11 k_L_109 ?_
    refine v_lcmp (pc := 14) dL_off_14 ?_
    refine v_if_ne (pc := 15) (tgt := 22) dL_off_15 (by decide) (fun c => absurd c (by decide)) (fun _ => ?_)
    refine v_iconst (pc := 18) (v := 1) dL_off_18 (by decide) ?_
    refine v_goto (pc := 19) (tgt := 23) dL_off_19 (by decide) ?_
    refine v_zret (pc := 23) hR dL_off_23 rfl ⟨by decide, by decide⟩ ?_
    exact ⟨rfl, hG1⟩
set_option maxRecDepth 100000 in
set_option maxHeartbeats 400000 in
theorem no_panel {D : DT} {G : GT} {X : XT} {s : SG} {q : Nat} (p0 : Int32) (p1 : Int32) (p2 : Int32) (p3 : Int32) (hG : LF X s G) (hI : INV X s q) (hq : q < 512) (hk : kPan (nA s) (nB s) p0 p1 p2 p3 = 1) : MN yL_no cL_no 6 (Option.some Jvm.ClassFile.FieldType.boolean) rm_no D [.ref (X.1 0 0), .int 2, .int p0, .int p1, .int p2, .int p3] G (fun v G' => v = some (.int 1) ∧ LF X s G') := by
  refine MN_of (by decide +kernel) (Nat.le_of_ble_eq_true rfl) (fun K sz hR hNC => ?_)
  show V cL_no _ 6 _ D K 0 [some (.ref (X.1 0 0)), some (.int 2), some (.int p0), some (.int p1), some (.int p2), some (.int p3)] [] G (0, 0)
  refine v_aload_n (pc := 0) dL_no_0 rfl rfl ?_
  refine v_iload_n (pc := 1) dL_no_1 rfl rfl ?_
  refine v_iload_n (pc := 2) dL_no_2 rfl rfl ?_
  refine v_iload_n (pc := 3) dL_no_3 rfl rfl ?_
  refine v_iload (pc := 4) dL_no_4 rfl ?_
  refine v_iload (pc := 6) dL_no_6 rfl ?_
  refine v_callL (pc := 8) (As := [.ref (X.1 0 0), .int 2, .int p0, .int p1, .int p2, .int p3]) (rest := []) hNC dL_no_8 ll_act.1 ll_act.2.1 wl_act ll_act.2.2.2 ll_act.2.2.1 (a_panel p0 p1 p2 p3  hG hI hq) rfl rfl (Nat.le_of_ble_eq_true rfl) ⟨Nat.le_of_ble_eq_true rfl, Nat.le_of_ble_eq_true rfl⟩ ⟨by decide, by decide⟩ (fun v G1 hp => ?_)
  obtain ⟨X', s', w, rfl, hG1, hA1, h01, hok | ⟨her, rfl, rfl⟩⟩ := hp
  · exfalso
    have hz := hok.2.2.2.2
    rw [hk] at hz
    exact absurd hz (by decide)
  · have hw : w = (-1731000000000) := by
      rcases her with ⟨hz0, hw⟩ | ⟨hz1, hw⟩ | ⟨hz2, hw⟩
      · exact hw
      · rw [hk] at hz1; exact absurd hz1 (by decide)
      · rw [hk] at hz2; exact absurd hz2 (by decide)
    subst hw
    refine v_ldcL (pc := 11) dL_no_11 k_L_105 ?_
    refine v_lcmp (pc := 14) dL_no_14 ?_
    refine v_if_ne (pc := 15) (tgt := 22) dL_no_15 (by decide) (fun c => absurd c (by decide)) (fun _ => ?_)
    refine v_iconst (pc := 18) (v := 1) dL_no_18 (by decide) ?_
    refine v_goto (pc := 19) (tgt := 23) dL_no_19 (by decide) ?_
    refine v_zret (pc := 23) hR dL_no_23 rfl ⟨by decide, by decide⟩ ?_
    exact ⟨rfl, hG1⟩
set_option maxRecDepth 100000 in
set_option maxHeartbeats 400000 in
theorem off_panel {D : DT} {G : GT} {X : XT} {s : SG} {q : Nat} (p0 : Int32) (p1 : Int32) (p2 : Int32) (p3 : Int32) (hG : LF X s G) (hI : INV X s q) (hq : q < 512) (hk : kPan (nA s) (nB s) p0 p1 p2 p3 = 2) : MN yL_off cL_off 6 (Option.some Jvm.ClassFile.FieldType.boolean) rm_no D [.ref (X.1 0 0), .int 2, .int p0, .int p1, .int p2, .int p3] G (fun v G' => v = some (.int 1) ∧ LF X s G') := by
  refine MN_of (by decide +kernel) (Nat.le_of_ble_eq_true rfl) (fun K sz hR hNC => ?_)
  show V cL_off _ 6 _ D K 0 [some (.ref (X.1 0 0)), some (.int 2), some (.int p0), some (.int p1), some (.int p2), some (.int p3)] [] G (0, 0)
  refine v_aload_n (pc := 0) dL_off_0 rfl rfl ?_
  refine v_iload_n (pc := 1) dL_off_1 rfl rfl ?_
  refine v_iload_n (pc := 2) dL_off_2 rfl rfl ?_
  refine v_iload_n (pc := 3) dL_off_3 rfl rfl ?_
  refine v_iload (pc := 4) dL_off_4 rfl ?_
  refine v_iload (pc := 6) dL_off_6 rfl ?_
  refine v_callL (pc := 8) (As := [.ref (X.1 0 0), .int 2, .int p0, .int p1, .int p2, .int p3]) (rest := []) hNC dL_off_8 ll_act.1 ll_act.2.1 wl_act ll_act.2.2.2 ll_act.2.2.1 (a_panel p0 p1 p2 p3  hG hI hq) rfl rfl (Nat.le_of_ble_eq_true rfl) ⟨Nat.le_of_ble_eq_true rfl, Nat.le_of_ble_eq_true rfl⟩ ⟨by decide, by decide⟩ (fun v G1 hp => ?_)
  obtain ⟨X', s', w, rfl, hG1, hA1, h01, hok | ⟨her, rfl, rfl⟩⟩ := hp
  · exfalso
    have hz := hok.2.2.2.2
    rw [hk] at hz
    exact absurd hz (by decide)
  · have hw : w = (-1732000000000) := by
      rcases her with ⟨hz0, hw⟩ | ⟨hz1, hw⟩ | ⟨hz2, hw⟩
      · rw [hk] at hz0; exact absurd hz0 (by decide)
      · exact hw
      · rw [hk] at hz2; exact absurd hz2 (by decide)
    subst hw
    refine v_ldcL (pc := 11) dL_off_11 k_L_109 ?_
    refine v_lcmp (pc := 14) dL_off_14 ?_
    refine v_if_ne (pc := 15) (tgt := 22) dL_off_15 (by decide) (fun c => absurd c (by decide)) (fun _ => ?_)
    refine v_iconst (pc := 18) (v := 1) dL_off_18 (by decide) ?_
    refine v_goto (pc := 19) (tgt := 23) dL_off_19 (by decide) ?_
    refine v_zret (pc := 23) hR dL_off_23 rfl ⟨by decide, by decide⟩ ?_
    exact ⟨rfl, hG1⟩
set_option maxRecDepth 100000 in
set_option maxHeartbeats 400000 in
theorem no_strength {D : DT} {G : GT} {X : XT} {s : SG} {q : Nat} (p0 : Int32) (y1 : Int32) (y2 : Int32) (y3 : Int32) (hG : LF X s G) (hI : INV X s q) (hq : q < 512) (hk : kPl (nB s) p0 = 1) : MN yL_no cL_no 6 (Option.some Jvm.ClassFile.FieldType.boolean) rm_no D [.ref (X.1 0 0), .int 3, .int p0, .int y1, .int y2, .int y3] G (fun v G' => v = some (.int 1) ∧ LF X s G') := by
  refine MN_of (by decide +kernel) (Nat.le_of_ble_eq_true rfl) (fun K sz hR hNC => ?_)
  show V cL_no _ 6 _ D K 0 [some (.ref (X.1 0 0)), some (.int 3), some (.int p0), some (.int y1), some (.int y2), some (.int y3)] [] G (0, 0)
  refine v_aload_n (pc := 0) dL_no_0 rfl rfl ?_
  refine v_iload_n (pc := 1) dL_no_1 rfl rfl ?_
  refine v_iload_n (pc := 2) dL_no_2 rfl rfl ?_
  refine v_iload_n (pc := 3) dL_no_3 rfl rfl ?_
  refine v_iload (pc := 4) dL_no_4 rfl ?_
  refine v_iload (pc := 6) dL_no_6 rfl ?_
  refine v_callL (pc := 8) (As := [.ref (X.1 0 0), .int 3, .int p0, .int y1, .int y2, .int y3]) (rest := []) hNC dL_no_8 ll_act.1 ll_act.2.1 wl_act ll_act.2.2.2 ll_act.2.2.1 (a_strength p0 y1 y2 y3  hG hI hq) rfl rfl (Nat.le_of_ble_eq_true rfl) ⟨Nat.le_of_ble_eq_true rfl, Nat.le_of_ble_eq_true rfl⟩ ⟨by decide, by decide⟩ (fun v G1 hp => ?_)
  obtain ⟨X', s', w, rfl, hG1, hA1, h01, hok | ⟨her, rfl, rfl⟩⟩ := hp
  · exfalso
    have hz := hok.2.2.2
    rw [hk] at hz
    exact absurd hz (by decide)
  · have hw : w = (-1731000000000) := her.2
    subst hw
    refine v_ldcL (pc := 11) dL_no_11 k_L_105 ?_
    refine v_lcmp (pc := 14) dL_no_14 ?_
    refine v_if_ne (pc := 15) (tgt := 22) dL_no_15 (by decide) (fun c => absurd c (by decide)) (fun _ => ?_)
    refine v_iconst (pc := 18) (v := 1) dL_no_18 (by decide) ?_
    refine v_goto (pc := 19) (tgt := 23) dL_no_19 (by decide) ?_
    refine v_zret (pc := 23) hR dL_no_23 rfl ⟨by decide, by decide⟩ ?_
    exact ⟨rfl, hG1⟩
set_option maxRecDepth 100000 in
set_option maxHeartbeats 400000 in
theorem no_roll {D : DT} {G : GT} {X : XT} {s : SG} {q : Nat} (p0 : Int32) (y1 : Int32) (y2 : Int32) (y3 : Int32) (hG : LF X s G) (hI : INV X s q) (hq : q < 512) (hk : kRoll (nA s) p0 = 1) : MN yL_no cL_no 6 (Option.some Jvm.ClassFile.FieldType.boolean) rm_no D [.ref (X.1 0 0), .int 4, .int p0, .int y1, .int y2, .int y3] G (fun v G' => v = some (.int 1) ∧ LF X s G') := by
  refine MN_of (by decide +kernel) (Nat.le_of_ble_eq_true rfl) (fun K sz hR hNC => ?_)
  show V cL_no _ 6 _ D K 0 [some (.ref (X.1 0 0)), some (.int 4), some (.int p0), some (.int y1), some (.int y2), some (.int y3)] [] G (0, 0)
  refine v_aload_n (pc := 0) dL_no_0 rfl rfl ?_
  refine v_iload_n (pc := 1) dL_no_1 rfl rfl ?_
  refine v_iload_n (pc := 2) dL_no_2 rfl rfl ?_
  refine v_iload_n (pc := 3) dL_no_3 rfl rfl ?_
  refine v_iload (pc := 4) dL_no_4 rfl ?_
  refine v_iload (pc := 6) dL_no_6 rfl ?_
  refine v_callL (pc := 8) (As := [.ref (X.1 0 0), .int 4, .int p0, .int y1, .int y2, .int y3]) (rest := []) hNC dL_no_8 ll_act.1 ll_act.2.1 wl_act ll_act.2.2.2 ll_act.2.2.1 (a_roll p0 y1 y2 y3  hG hI hq) rfl rfl (Nat.le_of_ble_eq_true rfl) ⟨Nat.le_of_ble_eq_true rfl, Nat.le_of_ble_eq_true rfl⟩ ⟨by decide, by decide⟩ (fun v G1 hp => ?_)
  obtain ⟨X', s', w, rfl, hG1, hA1, h01, hok | ⟨her, rfl, rfl⟩⟩ := hp
  · exfalso
    have hz := hok.2.2.2
    rw [hk] at hz
    exact absurd hz (by decide)
  · have hw : w = (-1731000000000) := her.2
    subst hw
    refine v_ldcL (pc := 11) dL_no_11 k_L_105 ?_
    refine v_lcmp (pc := 14) dL_no_14 ?_
    refine v_if_ne (pc := 15) (tgt := 22) dL_no_15 (by decide) (fun c => absurd c (by decide)) (fun _ => ?_)
    refine v_iconst (pc := 18) (v := 1) dL_no_18 (by decide) ?_
    refine v_goto (pc := 19) (tgt := 23) dL_no_19 (by decide) ?_
    refine v_zret (pc := 23) hR dL_no_23 rfl ⟨by decide, by decide⟩ ?_
    exact ⟨rfl, hG1⟩
set_option maxRecDepth 100000 in
set_option maxHeartbeats 400000 in
theorem no_seam {D : DT} {G : GT} {X : XT} {s : SG} {q : Nat} (p0 : Int32) (p1 : Int32) (p2 : Int32) (y3 : Int32) (hG : LF X s G) (hI : INV X s q) (hq : q < 512) (hk : kSeam (nB s) (nS s) p0 p1 p2 = 1) : MN yL_no cL_no 6 (Option.some Jvm.ClassFile.FieldType.boolean) rm_no D [.ref (X.1 0 0), .int 5, .int p0, .int p1, .int p2, .int y3] G (fun v G' => v = some (.int 1) ∧ LF X s G') := by
  refine MN_of (by decide +kernel) (Nat.le_of_ble_eq_true rfl) (fun K sz hR hNC => ?_)
  show V cL_no _ 6 _ D K 0 [some (.ref (X.1 0 0)), some (.int 5), some (.int p0), some (.int p1), some (.int p2), some (.int y3)] [] G (0, 0)
  refine v_aload_n (pc := 0) dL_no_0 rfl rfl ?_
  refine v_iload_n (pc := 1) dL_no_1 rfl rfl ?_
  refine v_iload_n (pc := 2) dL_no_2 rfl rfl ?_
  refine v_iload_n (pc := 3) dL_no_3 rfl rfl ?_
  refine v_iload (pc := 4) dL_no_4 rfl ?_
  refine v_iload (pc := 6) dL_no_6 rfl ?_
  refine v_callL (pc := 8) (As := [.ref (X.1 0 0), .int 5, .int p0, .int p1, .int p2, .int y3]) (rest := []) hNC dL_no_8 ll_act.1 ll_act.2.1 wl_act ll_act.2.2.2 ll_act.2.2.1 (a_seam p0 p1 p2 y3  hG hI hq) rfl rfl (Nat.le_of_ble_eq_true rfl) ⟨Nat.le_of_ble_eq_true rfl, Nat.le_of_ble_eq_true rfl⟩ ⟨by decide, by decide⟩ (fun v G1 hp => ?_)
  obtain ⟨X', s', w, rfl, hG1, hA1, h01, hok | ⟨her, rfl, rfl⟩⟩ := hp
  · exfalso
    have hz := hok.2.2.2.2
    rw [hk] at hz
    exact absurd hz (by decide)
  · have hw : w = (-1731000000000) := by
      rcases her with ⟨hz0, hw⟩ | ⟨hz1, hw⟩ | ⟨hz2, hw⟩
      · exact hw
      · rw [hk] at hz1; exact absurd hz1 (by decide)
      · rw [hk] at hz2; exact absurd hz2 (by decide)
    subst hw
    refine v_ldcL (pc := 11) dL_no_11 k_L_105 ?_
    refine v_lcmp (pc := 14) dL_no_14 ?_
    refine v_if_ne (pc := 15) (tgt := 22) dL_no_15 (by decide) (fun c => absurd c (by decide)) (fun _ => ?_)
    refine v_iconst (pc := 18) (v := 1) dL_no_18 (by decide) ?_
    refine v_goto (pc := 19) (tgt := 23) dL_no_19 (by decide) ?_
    refine v_zret (pc := 23) hR dL_no_23 rfl ⟨by decide, by decide⟩ ?_
    exact ⟨rfl, hG1⟩
set_option maxRecDepth 100000 in
set_option maxHeartbeats 400000 in
theorem off_seam {D : DT} {G : GT} {X : XT} {s : SG} {q : Nat} (p0 : Int32) (p1 : Int32) (p2 : Int32) (y3 : Int32) (hG : LF X s G) (hI : INV X s q) (hq : q < 512) (hk : kSeam (nB s) (nS s) p0 p1 p2 = 2) : MN yL_off cL_off 6 (Option.some Jvm.ClassFile.FieldType.boolean) rm_no D [.ref (X.1 0 0), .int 5, .int p0, .int p1, .int p2, .int y3] G (fun v G' => v = some (.int 1) ∧ LF X s G') := by
  refine MN_of (by decide +kernel) (Nat.le_of_ble_eq_true rfl) (fun K sz hR hNC => ?_)
  show V cL_off _ 6 _ D K 0 [some (.ref (X.1 0 0)), some (.int 5), some (.int p0), some (.int p1), some (.int p2), some (.int y3)] [] G (0, 0)
  refine v_aload_n (pc := 0) dL_off_0 rfl rfl ?_
  refine v_iload_n (pc := 1) dL_off_1 rfl rfl ?_
  refine v_iload_n (pc := 2) dL_off_2 rfl rfl ?_
  refine v_iload_n (pc := 3) dL_off_3 rfl rfl ?_
  refine v_iload (pc := 4) dL_off_4 rfl ?_
  refine v_iload (pc := 6) dL_off_6 rfl ?_
  refine v_callL (pc := 8) (As := [.ref (X.1 0 0), .int 5, .int p0, .int p1, .int p2, .int y3]) (rest := []) hNC dL_off_8 ll_act.1 ll_act.2.1 wl_act ll_act.2.2.2 ll_act.2.2.1 (a_seam p0 p1 p2 y3  hG hI hq) rfl rfl (Nat.le_of_ble_eq_true rfl) ⟨Nat.le_of_ble_eq_true rfl, Nat.le_of_ble_eq_true rfl⟩ ⟨by decide, by decide⟩ (fun v G1 hp => ?_)
  obtain ⟨X', s', w, rfl, hG1, hA1, h01, hok | ⟨her, rfl, rfl⟩⟩ := hp
  · exfalso
    have hz := hok.2.2.2.2
    rw [hk] at hz
    exact absurd hz (by decide)
  · have hw : w = (-1732000000000) := by
      rcases her with ⟨hz0, hw⟩ | ⟨hz1, hw⟩ | ⟨hz2, hw⟩
      · rw [hk] at hz0; exact absurd hz0 (by decide)
      · exact hw
      · rw [hk] at hz2; exact absurd hz2 (by decide)
    subst hw
    refine v_ldcL (pc := 11) dL_off_11 k_L_109 ?_
    refine v_lcmp (pc := 14) dL_off_14 ?_
    refine v_if_ne (pc := 15) (tgt := 22) dL_off_15 (by decide) (fun c => absurd c (by decide)) (fun _ => ?_)
    refine v_iconst (pc := 18) (v := 1) dL_off_18 (by decide) ?_
    refine v_goto (pc := 19) (tgt := 23) dL_off_19 (by decide) ?_
    refine v_zret (pc := 23) hR dL_off_23 rfl ⟨by decide, by decide⟩ ?_
    exact ⟨rfl, hG1⟩
set_option maxRecDepth 100000 in
set_option maxHeartbeats 400000 in
theorem no_rip {D : DT} {G : GT} {X : XT} {s : SG} {q : Nat} (p0 : Int32) (y1 : Int32) (y2 : Int32) (y3 : Int32) (hG : LF X s G) (hI : INV X s q) (hq : q < 512) (hk : kRip s (nS s) p0 = 1) : MN yL_no cL_no 6 (Option.some Jvm.ClassFile.FieldType.boolean) rm_no D [.ref (X.1 0 0), .int 6, .int p0, .int y1, .int y2, .int y3] G (fun v G' => v = some (.int 1) ∧ LF X s G') := by
  refine MN_of (by decide +kernel) (Nat.le_of_ble_eq_true rfl) (fun K sz hR hNC => ?_)
  show V cL_no _ 6 _ D K 0 [some (.ref (X.1 0 0)), some (.int 6), some (.int p0), some (.int y1), some (.int y2), some (.int y3)] [] G (0, 0)
  refine v_aload_n (pc := 0) dL_no_0 rfl rfl ?_
  refine v_iload_n (pc := 1) dL_no_1 rfl rfl ?_
  refine v_iload_n (pc := 2) dL_no_2 rfl rfl ?_
  refine v_iload_n (pc := 3) dL_no_3 rfl rfl ?_
  refine v_iload (pc := 4) dL_no_4 rfl ?_
  refine v_iload (pc := 6) dL_no_6 rfl ?_
  refine v_callL (pc := 8) (As := [.ref (X.1 0 0), .int 6, .int p0, .int y1, .int y2, .int y3]) (rest := []) hNC dL_no_8 ll_act.1 ll_act.2.1 wl_act ll_act.2.2.2 ll_act.2.2.1 (a_rip p0 y1 y2 y3  hG hI hq) rfl rfl (Nat.le_of_ble_eq_true rfl) ⟨Nat.le_of_ble_eq_true rfl, Nat.le_of_ble_eq_true rfl⟩ ⟨by decide, by decide⟩ (fun v G1 hp => ?_)
  obtain ⟨X', s', w, rfl, hG1, hA1, h01, hok | ⟨her, rfl, rfl⟩⟩ := hp
  · exfalso
    have hz := hok.2.2.2.2
    rw [hk] at hz
    exact absurd hz (by decide)
  · have hw : w = (-1731000000000) := her.2
    subst hw
    refine v_ldcL (pc := 11) dL_no_11 k_L_105 ?_
    refine v_lcmp (pc := 14) dL_no_14 ?_
    refine v_if_ne (pc := 15) (tgt := 22) dL_no_15 (by decide) (fun c => absurd c (by decide)) (fun _ => ?_)
    refine v_iconst (pc := 18) (v := 1) dL_no_18 (by decide) ?_
    refine v_goto (pc := 19) (tgt := 23) dL_no_19 (by decide) ?_
    refine v_zret (pc := 23) hR dL_no_23 rfl ⟨by decide, by decide⟩ ?_
    exact ⟨rfl, hG1⟩
set_option maxRecDepth 100000 in
set_option maxHeartbeats 400000 in
theorem no_bears {D : DT} {G : GT} {X : XT} {s : SG} {q : Nat} (p0 : Int32) (p1 : Int32) (y2 : Int32) (y3 : Int32) (hG : LF X s G) (hI : INV X s q) (hq : q < 512) (hk : kBe (nB s) p0 p1 = 1) : MN yL_no cL_no 6 (Option.some Jvm.ClassFile.FieldType.boolean) rm_no D [.ref (X.1 0 0), .int 7, .int p0, .int p1, .int y2, .int y3] G (fun v G' => v = some (.int 1) ∧ LF X s G') := by
  refine MN_of (by decide +kernel) (Nat.le_of_ble_eq_true rfl) (fun K sz hR hNC => ?_)
  show V cL_no _ 6 _ D K 0 [some (.ref (X.1 0 0)), some (.int 7), some (.int p0), some (.int p1), some (.int y2), some (.int y3)] [] G (0, 0)
  refine v_aload_n (pc := 0) dL_no_0 rfl rfl ?_
  refine v_iload_n (pc := 1) dL_no_1 rfl rfl ?_
  refine v_iload_n (pc := 2) dL_no_2 rfl rfl ?_
  refine v_iload_n (pc := 3) dL_no_3 rfl rfl ?_
  refine v_iload (pc := 4) dL_no_4 rfl ?_
  refine v_iload (pc := 6) dL_no_6 rfl ?_
  refine v_callL (pc := 8) (As := [.ref (X.1 0 0), .int 7, .int p0, .int p1, .int y2, .int y3]) (rest := []) hNC dL_no_8 ll_act.1 ll_act.2.1 wl_act ll_act.2.2.2 ll_act.2.2.1 (a_bears p0 p1 y2 y3  hG hI hq) rfl rfl (Nat.le_of_ble_eq_true rfl) ⟨Nat.le_of_ble_eq_true rfl, Nat.le_of_ble_eq_true rfl⟩ ⟨by decide, by decide⟩ (fun v G1 hp => ?_)
  obtain ⟨X', s', w, rfl, hG1, hA1, h01, hok | ⟨her, rfl, rfl⟩⟩ := hp
  · exfalso
    have hz := hok.2.2.2
    rw [hk] at hz
    exact absurd hz (by decide)
  · have hw : w = (-1731000000000) := her.2
    subst hw
    refine v_ldcL (pc := 11) dL_no_11 k_L_105 ?_
    refine v_lcmp (pc := 14) dL_no_14 ?_
    refine v_if_ne (pc := 15) (tgt := 22) dL_no_15 (by decide) (fun c => absurd c (by decide)) (fun _ => ?_)
    refine v_iconst (pc := 18) (v := 1) dL_no_18 (by decide) ?_
    refine v_goto (pc := 19) (tgt := 23) dL_no_19 (by decide) ?_
    refine v_zret (pc := 23) hR dL_no_23 rfl ⟨by decide, by decide⟩ ?_
    exact ⟨rfl, hG1⟩
set_option maxRecDepth 100000 in
set_option maxHeartbeats 400000 in
theorem no_bearsAnew {D : DT} {G : GT} {X : XT} {s : SG} {q : Nat} (p0 : Int32) (p1 : Int32) (y2 : Int32) (y3 : Int32) (hG : LF X s G) (hI : INV X s q) (hq : q < 512) (hk : kBe (nB s) p0 p1 = 1) : MN yL_no cL_no 6 (Option.some Jvm.ClassFile.FieldType.boolean) rm_no D [.ref (X.1 0 0), .int 8, .int p0, .int p1, .int y2, .int y3] G (fun v G' => v = some (.int 1) ∧ LF X s G') := by
  refine MN_of (by decide +kernel) (Nat.le_of_ble_eq_true rfl) (fun K sz hR hNC => ?_)
  show V cL_no _ 6 _ D K 0 [some (.ref (X.1 0 0)), some (.int 8), some (.int p0), some (.int p1), some (.int y2), some (.int y3)] [] G (0, 0)
  refine v_aload_n (pc := 0) dL_no_0 rfl rfl ?_
  refine v_iload_n (pc := 1) dL_no_1 rfl rfl ?_
  refine v_iload_n (pc := 2) dL_no_2 rfl rfl ?_
  refine v_iload_n (pc := 3) dL_no_3 rfl rfl ?_
  refine v_iload (pc := 4) dL_no_4 rfl ?_
  refine v_iload (pc := 6) dL_no_6 rfl ?_
  refine v_callL (pc := 8) (As := [.ref (X.1 0 0), .int 8, .int p0, .int p1, .int y2, .int y3]) (rest := []) hNC dL_no_8 ll_act.1 ll_act.2.1 wl_act ll_act.2.2.2 ll_act.2.2.1 (a_bearsAnew p0 p1 y2 y3  hG hI hq) rfl rfl (Nat.le_of_ble_eq_true rfl) ⟨Nat.le_of_ble_eq_true rfl, Nat.le_of_ble_eq_true rfl⟩ ⟨by decide, by decide⟩ (fun v G1 hp => ?_)
  obtain ⟨X', s', w, rfl, hG1, hA1, h01, hok | ⟨her, rfl, rfl⟩⟩ := hp
  · exfalso
    have hz := hok.2.2.2
    rw [hk] at hz
    exact absurd hz (by decide)
  · have hw : w = (-1731000000000) := her.2
    subst hw
    refine v_ldcL (pc := 11) dL_no_11 k_L_105 ?_
    refine v_lcmp (pc := 14) dL_no_14 ?_
    refine v_if_ne (pc := 15) (tgt := 22) dL_no_15 (by decide) (fun c => absurd c (by decide)) (fun _ => ?_)
    refine v_iconst (pc := 18) (v := 1) dL_no_18 (by decide) ?_
    refine v_goto (pc := 19) (tgt := 23) dL_no_19 (by decide) ?_
    refine v_zret (pc := 23) hR dL_no_23 rfl ⟨by decide, by decide⟩ ?_
    exact ⟨rfl, hG1⟩
set_option maxRecDepth 100000 in
set_option maxHeartbeats 400000 in
theorem no_knot0 {D : DT} {G : GT} {X : XT} {s : SG} {q : Nat} (p0 : Int32) (p1 : Int32) (y3 : Int32) (hG : LF X s G) (hI : INV X s q) (hq : q < 512) (hk : kKnot p0 p1 = 1) : MN yL_no cL_no 6 (Option.some Jvm.ClassFile.FieldType.boolean) rm_no D [.ref (X.1 0 0), .int 9, .int p0, .int p1, .int 0, .int y3] G (fun v G' => v = some (.int 1) ∧ LF X s G') := by
  refine MN_of (by decide +kernel) (Nat.le_of_ble_eq_true rfl) (fun K sz hR hNC => ?_)
  show V cL_no _ 6 _ D K 0 [some (.ref (X.1 0 0)), some (.int 9), some (.int p0), some (.int p1), some (.int 0), some (.int y3)] [] G (0, 0)
  refine v_aload_n (pc := 0) dL_no_0 rfl rfl ?_
  refine v_iload_n (pc := 1) dL_no_1 rfl rfl ?_
  refine v_iload_n (pc := 2) dL_no_2 rfl rfl ?_
  refine v_iload_n (pc := 3) dL_no_3 rfl rfl ?_
  refine v_iload (pc := 4) dL_no_4 rfl ?_
  refine v_iload (pc := 6) dL_no_6 rfl ?_
  refine v_callL (pc := 8) (As := [.ref (X.1 0 0), .int 9, .int p0, .int p1, .int 0, .int y3]) (rest := []) hNC dL_no_8 ll_act.1 ll_act.2.1 wl_act ll_act.2.2.2 ll_act.2.2.1 (a_knot0 p0 p1 y3  hG hI hq) rfl rfl (Nat.le_of_ble_eq_true rfl) ⟨Nat.le_of_ble_eq_true rfl, Nat.le_of_ble_eq_true rfl⟩ ⟨by decide, by decide⟩ (fun v G1 hp => ?_)
  obtain ⟨X', s', w, rfl, hG1, hA1, h01, hok | ⟨her, rfl, rfl⟩⟩ := hp
  · exfalso
    have hz := hok.2.2.2
    rw [hk] at hz
    exact absurd hz (by decide)
  · have hw : w = (-1731000000000) := by
      rcases her with ⟨hz0, hw⟩ | ⟨hz1, hw⟩
      · exact hw
      · rw [hk] at hz1; exact absurd hz1 (by decide)
    subst hw
    refine v_ldcL (pc := 11) dL_no_11 k_L_105 ?_
    refine v_lcmp (pc := 14) dL_no_14 ?_
    refine v_if_ne (pc := 15) (tgt := 22) dL_no_15 (by decide) (fun c => absurd c (by decide)) (fun _ => ?_)
    refine v_iconst (pc := 18) (v := 1) dL_no_18 (by decide) ?_
    refine v_goto (pc := 19) (tgt := 23) dL_no_19 (by decide) ?_
    refine v_zret (pc := 23) hR dL_no_23 rfl ⟨by decide, by decide⟩ ?_
    exact ⟨rfl, hG1⟩
set_option maxRecDepth 100000 in
set_option maxHeartbeats 400000 in
theorem off_knot0 {D : DT} {G : GT} {X : XT} {s : SG} {q : Nat} (p0 : Int32) (p1 : Int32) (y3 : Int32) (hG : LF X s G) (hI : INV X s q) (hq : q < 512) (hk : kKnot p0 p1 = 2) : MN yL_off cL_off 6 (Option.some Jvm.ClassFile.FieldType.boolean) rm_no D [.ref (X.1 0 0), .int 9, .int p0, .int p1, .int 0, .int y3] G (fun v G' => v = some (.int 1) ∧ LF X s G') := by
  refine MN_of (by decide +kernel) (Nat.le_of_ble_eq_true rfl) (fun K sz hR hNC => ?_)
  show V cL_off _ 6 _ D K 0 [some (.ref (X.1 0 0)), some (.int 9), some (.int p0), some (.int p1), some (.int 0), some (.int y3)] [] G (0, 0)
  refine v_aload_n (pc := 0) dL_off_0 rfl rfl ?_
  refine v_iload_n (pc := 1) dL_off_1 rfl rfl ?_
  refine v_iload_n (pc := 2) dL_off_2 rfl rfl ?_
  refine v_iload_n (pc := 3) dL_off_3 rfl rfl ?_
  refine v_iload (pc := 4) dL_off_4 rfl ?_
  refine v_iload (pc := 6) dL_off_6 rfl ?_
  refine v_callL (pc := 8) (As := [.ref (X.1 0 0), .int 9, .int p0, .int p1, .int 0, .int y3]) (rest := []) hNC dL_off_8 ll_act.1 ll_act.2.1 wl_act ll_act.2.2.2 ll_act.2.2.1 (a_knot0 p0 p1 y3  hG hI hq) rfl rfl (Nat.le_of_ble_eq_true rfl) ⟨Nat.le_of_ble_eq_true rfl, Nat.le_of_ble_eq_true rfl⟩ ⟨by decide, by decide⟩ (fun v G1 hp => ?_)
  obtain ⟨X', s', w, rfl, hG1, hA1, h01, hok | ⟨her, rfl, rfl⟩⟩ := hp
  · exfalso
    have hz := hok.2.2.2
    rw [hk] at hz
    exact absurd hz (by decide)
  · have hw : w = (-1732000000000) := by
      rcases her with ⟨hz0, hw⟩ | ⟨hz1, hw⟩
      · rw [hk] at hz0; exact absurd hz0 (by decide)
      · exact hw
    subst hw
    refine v_ldcL (pc := 11) dL_off_11 k_L_109 ?_
    refine v_lcmp (pc := 14) dL_off_14 ?_
    refine v_if_ne (pc := 15) (tgt := 22) dL_off_15 (by decide) (fun c => absurd c (by decide)) (fun _ => ?_)
    refine v_iconst (pc := 18) (v := 1) dL_off_18 (by decide) ?_
    refine v_goto (pc := 19) (tgt := 23) dL_off_19 (by decide) ?_
    refine v_zret (pc := 23) hR dL_off_23 rfl ⟨by decide, by decide⟩ ?_
    exact ⟨rfl, hG1⟩
set_option maxRecDepth 100000 in
set_option maxHeartbeats 400000 in
theorem no_knot1 {D : DT} {G : GT} {X : XT} {s : SG} {q : Nat} (p0 : Int32) (p1 : Int32) (y3 : Int32) (hG : LF X s G) (hI : INV X s q) (hq : q < 512) (hk : kKnot p0 p1 = 1) : MN yL_no cL_no 6 (Option.some Jvm.ClassFile.FieldType.boolean) rm_no D [.ref (X.1 0 0), .int 9, .int p0, .int p1, .int 1, .int y3] G (fun v G' => v = some (.int 1) ∧ LF X s G') := by
  refine MN_of (by decide +kernel) (Nat.le_of_ble_eq_true rfl) (fun K sz hR hNC => ?_)
  show V cL_no _ 6 _ D K 0 [some (.ref (X.1 0 0)), some (.int 9), some (.int p0), some (.int p1), some (.int 1), some (.int y3)] [] G (0, 0)
  refine v_aload_n (pc := 0) dL_no_0 rfl rfl ?_
  refine v_iload_n (pc := 1) dL_no_1 rfl rfl ?_
  refine v_iload_n (pc := 2) dL_no_2 rfl rfl ?_
  refine v_iload_n (pc := 3) dL_no_3 rfl rfl ?_
  refine v_iload (pc := 4) dL_no_4 rfl ?_
  refine v_iload (pc := 6) dL_no_6 rfl ?_
  refine v_callL (pc := 8) (As := [.ref (X.1 0 0), .int 9, .int p0, .int p1, .int 1, .int y3]) (rest := []) hNC dL_no_8 ll_act.1 ll_act.2.1 wl_act ll_act.2.2.2 ll_act.2.2.1 (a_knot1 p0 p1 y3  hG hI hq) rfl rfl (Nat.le_of_ble_eq_true rfl) ⟨Nat.le_of_ble_eq_true rfl, Nat.le_of_ble_eq_true rfl⟩ ⟨by decide, by decide⟩ (fun v G1 hp => ?_)
  obtain ⟨X', s', w, rfl, hG1, hA1, h01, hok | ⟨her, rfl, rfl⟩⟩ := hp
  · exfalso
    have hz := hok.2.2.2
    rw [hk] at hz
    exact absurd hz (by decide)
  · have hw : w = (-1731000000000) := by
      rcases her with ⟨hz0, hw⟩ | ⟨hz1, hw⟩
      · exact hw
      · rw [hk] at hz1; exact absurd hz1 (by decide)
    subst hw
    refine v_ldcL (pc := 11) dL_no_11 k_L_105 ?_
    refine v_lcmp (pc := 14) dL_no_14 ?_
    refine v_if_ne (pc := 15) (tgt := 22) dL_no_15 (by decide) (fun c => absurd c (by decide)) (fun _ => ?_)
    refine v_iconst (pc := 18) (v := 1) dL_no_18 (by decide) ?_
    refine v_goto (pc := 19) (tgt := 23) dL_no_19 (by decide) ?_
    refine v_zret (pc := 23) hR dL_no_23 rfl ⟨by decide, by decide⟩ ?_
    exact ⟨rfl, hG1⟩
set_option maxRecDepth 100000 in
set_option maxHeartbeats 400000 in
theorem off_knot1 {D : DT} {G : GT} {X : XT} {s : SG} {q : Nat} (p0 : Int32) (p1 : Int32) (y3 : Int32) (hG : LF X s G) (hI : INV X s q) (hq : q < 512) (hk : kKnot p0 p1 = 2) : MN yL_off cL_off 6 (Option.some Jvm.ClassFile.FieldType.boolean) rm_no D [.ref (X.1 0 0), .int 9, .int p0, .int p1, .int 1, .int y3] G (fun v G' => v = some (.int 1) ∧ LF X s G') := by
  refine MN_of (by decide +kernel) (Nat.le_of_ble_eq_true rfl) (fun K sz hR hNC => ?_)
  show V cL_off _ 6 _ D K 0 [some (.ref (X.1 0 0)), some (.int 9), some (.int p0), some (.int p1), some (.int 1), some (.int y3)] [] G (0, 0)
  refine v_aload_n (pc := 0) dL_off_0 rfl rfl ?_
  refine v_iload_n (pc := 1) dL_off_1 rfl rfl ?_
  refine v_iload_n (pc := 2) dL_off_2 rfl rfl ?_
  refine v_iload_n (pc := 3) dL_off_3 rfl rfl ?_
  refine v_iload (pc := 4) dL_off_4 rfl ?_
  refine v_iload (pc := 6) dL_off_6 rfl ?_
  refine v_callL (pc := 8) (As := [.ref (X.1 0 0), .int 9, .int p0, .int p1, .int 1, .int y3]) (rest := []) hNC dL_off_8 ll_act.1 ll_act.2.1 wl_act ll_act.2.2.2 ll_act.2.2.1 (a_knot1 p0 p1 y3  hG hI hq) rfl rfl (Nat.le_of_ble_eq_true rfl) ⟨Nat.le_of_ble_eq_true rfl, Nat.le_of_ble_eq_true rfl⟩ ⟨by decide, by decide⟩ (fun v G1 hp => ?_)
  obtain ⟨X', s', w, rfl, hG1, hA1, h01, hok | ⟨her, rfl, rfl⟩⟩ := hp
  · exfalso
    have hz := hok.2.2.2
    rw [hk] at hz
    exact absurd hz (by decide)
  · have hw : w = (-1732000000000) := by
      rcases her with ⟨hz0, hw⟩ | ⟨hz1, hw⟩
      · rw [hk] at hz0; exact absurd hz0 (by decide)
      · exact hw
    subst hw
    refine v_ldcL (pc := 11) dL_off_11 k_L_109 ?_
    refine v_lcmp (pc := 14) dL_off_14 ?_
    refine v_if_ne (pc := 15) (tgt := 22) dL_off_15 (by decide) (fun c => absurd c (by decide)) (fun _ => ?_)
    refine v_iconst (pc := 18) (v := 1) dL_off_18 (by decide) ?_
    refine v_goto (pc := 19) (tgt := 23) dL_off_19 (by decide) ?_
    refine v_zret (pc := 23) hR dL_off_23 rfl ⟨by decide, by decide⟩ ?_
    exact ⟨rfl, hG1⟩
set_option maxRecDepth 100000 in
set_option maxHeartbeats 400000 in
theorem off_load {D : DT} {G : GT} {X : XT} {s : SG} {q : Nat} (p0 : Int32) (y1 : Int32) (y2 : Int32) (y3 : Int32) (hG : LF X s G) (hI : INV X s q) (hq : q < 512) (hk : kLoad p0 = 1) : MN yL_off cL_off 6 (Option.some Jvm.ClassFile.FieldType.boolean) rm_no D [.ref (X.1 0 0), .int 10, .int p0, .int y1, .int y2, .int y3] G (fun v G' => v = some (.int 1) ∧ LF X s G') := by
  refine MN_of (by decide +kernel) (Nat.le_of_ble_eq_true rfl) (fun K sz hR hNC => ?_)
  show V cL_off _ 6 _ D K 0 [some (.ref (X.1 0 0)), some (.int 10), some (.int p0), some (.int y1), some (.int y2), some (.int y3)] [] G (0, 0)
  refine v_aload_n (pc := 0) dL_off_0 rfl rfl ?_
  refine v_iload_n (pc := 1) dL_off_1 rfl rfl ?_
  refine v_iload_n (pc := 2) dL_off_2 rfl rfl ?_
  refine v_iload_n (pc := 3) dL_off_3 rfl rfl ?_
  refine v_iload (pc := 4) dL_off_4 rfl ?_
  refine v_iload (pc := 6) dL_off_6 rfl ?_
  refine v_callL (pc := 8) (As := [.ref (X.1 0 0), .int 10, .int p0, .int y1, .int y2, .int y3]) (rest := []) hNC dL_off_8 ll_act.1 ll_act.2.1 wl_act ll_act.2.2.2 ll_act.2.2.1 (a_load p0 y1 y2 y3  hG hI hq) rfl rfl (Nat.le_of_ble_eq_true rfl) ⟨Nat.le_of_ble_eq_true rfl, Nat.le_of_ble_eq_true rfl⟩ ⟨by decide, by decide⟩ (fun v G1 hp => ?_)
  obtain ⟨X', s', w, rfl, hG1, hA1, h01, hok | ⟨her, rfl, rfl⟩⟩ := hp
  · exfalso
    have hz := hok.2.2.2
    rw [hk] at hz
    exact absurd hz (by decide)
  · have hw : w = (-1732000000000) := her.2
    subst hw
    refine v_ldcL (pc := 11) dL_off_11 k_L_109 ?_
    refine v_lcmp (pc := 14) dL_off_14 ?_
    refine v_if_ne (pc := 15) (tgt := 22) dL_off_15 (by decide) (fun c => absurd c (by decide)) (fun _ => ?_)
    refine v_iconst (pc := 18) (v := 1) dL_off_18 (by decide) ?_
    refine v_goto (pc := 19) (tgt := 23) dL_off_19 (by decide) ?_
    refine v_zret (pc := 23) hR dL_off_23 rfl ⟨by decide, by decide⟩ ?_
    exact ⟨rfl, hG1⟩
set_option maxRecDepth 100000 in
set_option maxHeartbeats 400000 in
theorem off_rest {D : DT} {G : GT} {X : XT} {s : SG} {q : Nat} (p0 : Int32) (y1 : Int32) (y2 : Int32) (y3 : Int32) (hG : LF X s G) (hI : INV X s q) (hq : q < 512) (hk : kRest p0 = 1) : MN yL_off cL_off 6 (Option.some Jvm.ClassFile.FieldType.boolean) rm_no D [.ref (X.1 0 0), .int 11, .int p0, .int y1, .int y2, .int y3] G (fun v G' => v = some (.int 1) ∧ LF X s G') := by
  refine MN_of (by decide +kernel) (Nat.le_of_ble_eq_true rfl) (fun K sz hR hNC => ?_)
  show V cL_off _ 6 _ D K 0 [some (.ref (X.1 0 0)), some (.int 11), some (.int p0), some (.int y1), some (.int y2), some (.int y3)] [] G (0, 0)
  refine v_aload_n (pc := 0) dL_off_0 rfl rfl ?_
  refine v_iload_n (pc := 1) dL_off_1 rfl rfl ?_
  refine v_iload_n (pc := 2) dL_off_2 rfl rfl ?_
  refine v_iload_n (pc := 3) dL_off_3 rfl rfl ?_
  refine v_iload (pc := 4) dL_off_4 rfl ?_
  refine v_iload (pc := 6) dL_off_6 rfl ?_
  refine v_callL (pc := 8) (As := [.ref (X.1 0 0), .int 11, .int p0, .int y1, .int y2, .int y3]) (rest := []) hNC dL_off_8 ll_act.1 ll_act.2.1 wl_act ll_act.2.2.2 ll_act.2.2.1 (a_rest p0 y1 y2 y3  hG hI hq) rfl rfl (Nat.le_of_ble_eq_true rfl) ⟨Nat.le_of_ble_eq_true rfl, Nat.le_of_ble_eq_true rfl⟩ ⟨by decide, by decide⟩ (fun v G1 hp => ?_)
  obtain ⟨X', s', w, rfl, hG1, hA1, h01, hok | ⟨her, rfl, rfl⟩⟩ := hp
  · exfalso
    have hz := hok.2.2.2
    rw [hk] at hz
    exact absurd hz (by decide)
  · have hw : w = (-1732000000000) := her.2
    subst hw
    refine v_ldcL (pc := 11) dL_off_11 k_L_109 ?_
    refine v_lcmp (pc := 14) dL_off_14 ?_
    refine v_if_ne (pc := 15) (tgt := 22) dL_off_15 (by decide) (fun c => absurd c (by decide)) (fun _ => ?_)
    refine v_iconst (pc := 18) (v := 1) dL_off_18 (by decide) ?_
    refine v_goto (pc := 19) (tgt := 23) dL_off_19 (by decide) ?_
    refine v_zret (pc := 23) hR dL_off_23 rfl ⟨by decide, by decide⟩ ?_
    exact ⟨rfl, hG1⟩
set_option maxRecDepth 100000 in
set_option maxHeartbeats 400000 in
theorem no_height {D : DT} {G : GT} {X : XT} {s : SG} {q : Nat} (p0 : Int32) (y1 : Int32) (y2 : Int32) (y3 : Int32) (hG : LF X s G) (hI : INV X s q) (hq : q < 512) (hk : kHt p0 = 1) : MN yL_no cL_no 6 (Option.some Jvm.ClassFile.FieldType.boolean) rm_no D [.ref (X.1 0 0), .int 12, .int p0, .int y1, .int y2, .int y3] G (fun v G' => v = some (.int 1) ∧ LF X s G') := by
  refine MN_of (by decide +kernel) (Nat.le_of_ble_eq_true rfl) (fun K sz hR hNC => ?_)
  show V cL_no _ 6 _ D K 0 [some (.ref (X.1 0 0)), some (.int 12), some (.int p0), some (.int y1), some (.int y2), some (.int y3)] [] G (0, 0)
  refine v_aload_n (pc := 0) dL_no_0 rfl rfl ?_
  refine v_iload_n (pc := 1) dL_no_1 rfl rfl ?_
  refine v_iload_n (pc := 2) dL_no_2 rfl rfl ?_
  refine v_iload_n (pc := 3) dL_no_3 rfl rfl ?_
  refine v_iload (pc := 4) dL_no_4 rfl ?_
  refine v_iload (pc := 6) dL_no_6 rfl ?_
  refine v_callL (pc := 8) (As := [.ref (X.1 0 0), .int 12, .int p0, .int y1, .int y2, .int y3]) (rest := []) hNC dL_no_8 ll_act.1 ll_act.2.1 wl_act ll_act.2.2.2 ll_act.2.2.1 (a_height p0 y1 y2 y3  hG hI hq) rfl rfl (Nat.le_of_ble_eq_true rfl) ⟨Nat.le_of_ble_eq_true rfl, Nat.le_of_ble_eq_true rfl⟩ ⟨by decide, by decide⟩ (fun v G1 hp => ?_)
  obtain ⟨X', s', w, rfl, hG1, hA1, h01, hok | ⟨her, rfl, rfl⟩⟩ := hp
  · exfalso
    have hz := hok.2.2.2
    rw [hk] at hz
    exact absurd hz (by decide)
  · have hw : w = (-1731000000000) := her.2
    subst hw
    refine v_ldcL (pc := 11) dL_no_11 k_L_105 ?_
    refine v_lcmp (pc := 14) dL_no_14 ?_
    refine v_if_ne (pc := 15) (tgt := 22) dL_no_15 (by decide) (fun c => absurd c (by decide)) (fun _ => ?_)
    refine v_iconst (pc := 18) (v := 1) dL_no_18 (by decide) ?_
    refine v_goto (pc := 19) (tgt := 23) dL_no_19 (by decide) ?_
    refine v_zret (pc := 23) hR dL_no_23 rfl ⟨by decide, by decide⟩ ?_
    exact ⟨rfl, hG1⟩
set_option maxRecDepth 100000 in
set_option maxHeartbeats 400000 in
theorem no_pulled {D : DT} {G : GT} {X : XT} {s : SG} {q : Nat} (p0 : Int32) (y1 : Int32) (y2 : Int32) (y3 : Int32) (hG : LF X s G) (hI : INV X s q) (hq : q < 512) (hk : kPul (nG s) p0 = 1) : MN yL_no cL_no 6 (Option.some Jvm.ClassFile.FieldType.boolean) rm_no D [.ref (X.1 0 0), .int 13, .int p0, .int y1, .int y2, .int y3] G (fun v G' => v = some (.int 1) ∧ LF X s G') := by
  refine MN_of (by decide +kernel) (Nat.le_of_ble_eq_true rfl) (fun K sz hR hNC => ?_)
  show V cL_no _ 6 _ D K 0 [some (.ref (X.1 0 0)), some (.int 13), some (.int p0), some (.int y1), some (.int y2), some (.int y3)] [] G (0, 0)
  refine v_aload_n (pc := 0) dL_no_0 rfl rfl ?_
  refine v_iload_n (pc := 1) dL_no_1 rfl rfl ?_
  refine v_iload_n (pc := 2) dL_no_2 rfl rfl ?_
  refine v_iload_n (pc := 3) dL_no_3 rfl rfl ?_
  refine v_iload (pc := 4) dL_no_4 rfl ?_
  refine v_iload (pc := 6) dL_no_6 rfl ?_
  refine v_callL (pc := 8) (As := [.ref (X.1 0 0), .int 13, .int p0, .int y1, .int y2, .int y3]) (rest := []) hNC dL_no_8 ll_act.1 ll_act.2.1 wl_act ll_act.2.2.2 ll_act.2.2.1 (a_pulled p0 y1 y2 y3  hG hI hq) rfl rfl (Nat.le_of_ble_eq_true rfl) ⟨Nat.le_of_ble_eq_true rfl, Nat.le_of_ble_eq_true rfl⟩ ⟨by decide, by decide⟩ (fun v G1 hp => ?_)
  obtain ⟨X', s', w, rfl, hG1, hA1, h01, hok | ⟨her, rfl, rfl⟩⟩ := hp
  · exfalso
    have hz := hok.2.2.2
    rw [hk] at hz
    exact absurd hz (by decide)
  · have hw : w = (-1731000000000) := her.2
    subst hw
    refine v_ldcL (pc := 11) dL_no_11 k_L_105 ?_
    refine v_lcmp (pc := 14) dL_no_14 ?_
    refine v_if_ne (pc := 15) (tgt := 22) dL_no_15 (by decide) (fun c => absurd c (by decide)) (fun _ => ?_)
    refine v_iconst (pc := 18) (v := 1) dL_no_18 (by decide) ?_
    refine v_goto (pc := 19) (tgt := 23) dL_no_19 (by decide) ?_
    refine v_zret (pc := 23) hR dL_no_23 rfl ⟨by decide, by decide⟩ ?_
    exact ⟨rfl, hG1⟩
set_option maxRecDepth 100000 in
set_option maxHeartbeats 400000 in
theorem off_trim {D : DT} {G : GT} {X : XT} {s : SG} {q : Nat} (p0 : Int32) (p1 : Int32) (p2 : Int32) (y3 : Int32) (hG : LF X s G) (hI : INV X s q) (hq : q < 512) (hk : kTrim p0 p1 p2 = 1) : MN yL_off cL_off 6 (Option.some Jvm.ClassFile.FieldType.boolean) rm_no D [.ref (X.1 0 0), .int 14, .int p0, .int p1, .int p2, .int y3] G (fun v G' => v = some (.int 1) ∧ LF X s G') := by
  refine MN_of (by decide +kernel) (Nat.le_of_ble_eq_true rfl) (fun K sz hR hNC => ?_)
  show V cL_off _ 6 _ D K 0 [some (.ref (X.1 0 0)), some (.int 14), some (.int p0), some (.int p1), some (.int p2), some (.int y3)] [] G (0, 0)
  refine v_aload_n (pc := 0) dL_off_0 rfl rfl ?_
  refine v_iload_n (pc := 1) dL_off_1 rfl rfl ?_
  refine v_iload_n (pc := 2) dL_off_2 rfl rfl ?_
  refine v_iload_n (pc := 3) dL_off_3 rfl rfl ?_
  refine v_iload (pc := 4) dL_off_4 rfl ?_
  refine v_iload (pc := 6) dL_off_6 rfl ?_
  refine v_callL (pc := 8) (As := [.ref (X.1 0 0), .int 14, .int p0, .int p1, .int p2, .int y3]) (rest := []) hNC dL_off_8 ll_act.1 ll_act.2.1 wl_act ll_act.2.2.2 ll_act.2.2.1 (a_trim p0 p1 p2 y3  hG hI hq) rfl rfl (Nat.le_of_ble_eq_true rfl) ⟨Nat.le_of_ble_eq_true rfl, Nat.le_of_ble_eq_true rfl⟩ ⟨by decide, by decide⟩ (fun v G1 hp => ?_)
  obtain ⟨X', s', w, rfl, hG1, hA1, h01, hok | ⟨her, rfl, rfl⟩⟩ := hp
  · exfalso
    have hz := hok.2.2.2
    rw [hk] at hz
    exact absurd hz (by decide)
  · have hw : w = (-1732000000000) := her.2
    subst hw
    refine v_ldcL (pc := 11) dL_off_11 k_L_109 ?_
    refine v_lcmp (pc := 14) dL_off_14 ?_
    refine v_if_ne (pc := 15) (tgt := 22) dL_off_15 (by decide) (fun c => absurd c (by decide)) (fun _ => ?_)
    refine v_iconst (pc := 18) (v := 1) dL_off_18 (by decide) ?_
    refine v_goto (pc := 19) (tgt := 23) dL_off_19 (by decide) ?_
    refine v_zret (pc := 23) hR dL_off_23 rfl ⟨by decide, by decide⟩ ?_
    exact ⟨rfl, hG1⟩
set_option maxRecDepth 100000 in
set_option maxHeartbeats 400000 in
theorem off_power {D : DT} {G : GT} {X : XT} {s : SG} {q : Nat} (p0 : Int32) (y1 : Int32) (y2 : Int32) (y3 : Int32) {h t r : Nat} (e1 : s.1 24 0 = nI h) (e2 : s.1 25 0 = nI t) (e3 : s.1 26 0 = nI r) (hh : h < 101) (ht : t < 101) (hr : r < 4) (hG : LF X s G) (hI : INV X s q) (hq : q < 512) (hk : kPow p0 = 1) : MN yL_off cL_off 6 (Option.some Jvm.ClassFile.FieldType.boolean) rm_no D [.ref (X.1 0 0), .int 15, .int p0, .int y1, .int y2, .int y3] G (fun v G' => v = some (.int 1) ∧ LF X s G') := by
  refine MN_of (by decide +kernel) (Nat.le_of_ble_eq_true rfl) (fun K sz hR hNC => ?_)
  show V cL_off _ 6 _ D K 0 [some (.ref (X.1 0 0)), some (.int 15), some (.int p0), some (.int y1), some (.int y2), some (.int y3)] [] G (0, 0)
  refine v_aload_n (pc := 0) dL_off_0 rfl rfl ?_
  refine v_iload_n (pc := 1) dL_off_1 rfl rfl ?_
  refine v_iload_n (pc := 2) dL_off_2 rfl rfl ?_
  refine v_iload_n (pc := 3) dL_off_3 rfl rfl ?_
  refine v_iload (pc := 4) dL_off_4 rfl ?_
  refine v_iload (pc := 6) dL_off_6 rfl ?_
  refine v_callL (pc := 8) (As := [.ref (X.1 0 0), .int 15, .int p0, .int y1, .int y2, .int y3]) (rest := []) hNC dL_off_8 ll_act.1 ll_act.2.1 wl_act ll_act.2.2.2 ll_act.2.2.1 (a_power p0 y1 y2 y3 e1 e2 e3 hh ht hr hG hI hq) rfl rfl (Nat.le_of_ble_eq_true rfl) ⟨Nat.le_of_ble_eq_true rfl, Nat.le_of_ble_eq_true rfl⟩ ⟨by decide, by decide⟩ (fun v G1 hp => ?_)
  obtain ⟨X', s', w, rfl, hG1, hA1, h01, hok | ⟨her, rfl, rfl⟩⟩ := hp
  · exfalso
    have hz := hok.2.2.2
    rw [hk] at hz
    exact absurd hz (by decide)
  · have hw : w = (-1732000000000) := her.2
    subst hw
    refine v_ldcL (pc := 11) dL_off_11 k_L_109 ?_
    refine v_lcmp (pc := 14) dL_off_14 ?_
    refine v_if_ne (pc := 15) (tgt := 22) dL_off_15 (by decide) (fun c => absurd c (by decide)) (fun _ => ?_)
    refine v_iconst (pc := 18) (v := 1) dL_off_18 (by decide) ?_
    refine v_goto (pc := 19) (tgt := 23) dL_off_19 (by decide) ?_
    refine v_zret (pc := 23) hR dL_off_23 rfl ⟨by decide, by decide⟩ ?_
    exact ⟨rfl, hG1⟩
set_option maxRecDepth 100000 in
set_option maxHeartbeats 400000 in
theorem off_halyard {D : DT} {G : GT} {X : XT} {s : SG} {q : Nat} (p0 : Int32) (p1 : Int32) (y2 : Int32) (y3 : Int32) {t r : Nat} (e2 : s.1 25 0 = nI t) (e3 : s.1 26 0 = nI r) (ht : t < 101) (hr : r < 4) (hG : LF X s G) (hI : INV X s q) (hq : q < 512) (hk : kHal p0 p1 = 1) : MN yL_off cL_off 6 (Option.some Jvm.ClassFile.FieldType.boolean) rm_no D [.ref (X.1 0 0), .int 16, .int p0, .int p1, .int y2, .int y3] G (fun v G' => v = some (.int 1) ∧ LF X s G') := by
  refine MN_of (by decide +kernel) (Nat.le_of_ble_eq_true rfl) (fun K sz hR hNC => ?_)
  show V cL_off _ 6 _ D K 0 [some (.ref (X.1 0 0)), some (.int 16), some (.int p0), some (.int p1), some (.int y2), some (.int y3)] [] G (0, 0)
  refine v_aload_n (pc := 0) dL_off_0 rfl rfl ?_
  refine v_iload_n (pc := 1) dL_off_1 rfl rfl ?_
  refine v_iload_n (pc := 2) dL_off_2 rfl rfl ?_
  refine v_iload_n (pc := 3) dL_off_3 rfl rfl ?_
  refine v_iload (pc := 4) dL_off_4 rfl ?_
  refine v_iload (pc := 6) dL_off_6 rfl ?_
  refine v_callL (pc := 8) (As := [.ref (X.1 0 0), .int 16, .int p0, .int p1, .int y2, .int y3]) (rest := []) hNC dL_off_8 ll_act.1 ll_act.2.1 wl_act ll_act.2.2.2 ll_act.2.2.1 (a_halyard p0 p1 y2 y3 e2 e3 ht hr hG hI hq) rfl rfl (Nat.le_of_ble_eq_true rfl) ⟨Nat.le_of_ble_eq_true rfl, Nat.le_of_ble_eq_true rfl⟩ ⟨by decide, by decide⟩ (fun v G1 hp => ?_)
  obtain ⟨X', s', w, rfl, hG1, hA1, h01, hok | ⟨her, rfl, rfl⟩⟩ := hp
  · exfalso
    have hz := hok.2.2.2
    rw [hk] at hz
    exact absurd hz (by decide)
  · have hw : w = (-1732000000000) := her.2
    subst hw
    refine v_ldcL (pc := 11) dL_off_11 k_L_109 ?_
    refine v_lcmp (pc := 14) dL_off_14 ?_
    refine v_if_ne (pc := 15) (tgt := 22) dL_off_15 (by decide) (fun c => absurd c (by decide)) (fun _ => ?_)
    refine v_iconst (pc := 18) (v := 1) dL_off_18 (by decide) ?_
    refine v_goto (pc := 19) (tgt := 23) dL_off_19 (by decide) ?_
    refine v_zret (pc := 23) hR dL_off_23 rfl ⟨by decide, by decide⟩ ?_
    exact ⟨rfl, hG1⟩
set_option maxRecDepth 100000 in
set_option maxHeartbeats 400000 in
theorem off_pass {D : DT} {G : GT} {X : XT} {s : SG} {q : Nat} (p0 : Int32) (y1 : Int32) (y2 : Int32) (y3 : Int32) (hG : LF X s G) (hI : INV X s q) (hq : q < 512) (hk : kPass s p0 = 1) : MN yL_off cL_off 6 (Option.some Jvm.ClassFile.FieldType.boolean) rm_no D [.ref (X.1 0 0), .int 17, .int p0, .int y1, .int y2, .int y3] G (fun v G' => v = some (.int 1) ∧ LF X s G') := by
  refine MN_of (by decide +kernel) (Nat.le_of_ble_eq_true rfl) (fun K sz hR hNC => ?_)
  show V cL_off _ 6 _ D K 0 [some (.ref (X.1 0 0)), some (.int 17), some (.int p0), some (.int y1), some (.int y2), some (.int y3)] [] G (0, 0)
  refine v_aload_n (pc := 0) dL_off_0 rfl rfl ?_
  refine v_iload_n (pc := 1) dL_off_1 rfl rfl ?_
  refine v_iload_n (pc := 2) dL_off_2 rfl rfl ?_
  refine v_iload_n (pc := 3) dL_off_3 rfl rfl ?_
  refine v_iload (pc := 4) dL_off_4 rfl ?_
  refine v_iload (pc := 6) dL_off_6 rfl ?_
  refine v_callL (pc := 8) (As := [.ref (X.1 0 0), .int 17, .int p0, .int y1, .int y2, .int y3]) (rest := []) hNC dL_off_8 ll_act.1 ll_act.2.1 wl_act ll_act.2.2.2 ll_act.2.2.1 (a_pass p0 y1 y2 y3  hG hI hq) rfl rfl (Nat.le_of_ble_eq_true rfl) ⟨Nat.le_of_ble_eq_true rfl, Nat.le_of_ble_eq_true rfl⟩ ⟨by decide, by decide⟩ (fun v G1 hp => ?_)
  obtain ⟨X', s', w, rfl, hG1, hA1, h01, hok | ⟨her, rfl, rfl⟩⟩ := hp
  · exfalso
    have hz := hok.2.2.2
    rw [hk] at hz
    exact absurd hz (by decide)
  · have hw : w = (-1732000000000) := by
      rcases her with ⟨hz0, hw⟩ | ⟨hz1, hw⟩
      · exact hw
      · rw [hk] at hz1; exact absurd hz1 (by decide)
    subst hw
    refine v_ldcL (pc := 11) dL_off_11 k_L_109 ?_
    refine v_lcmp (pc := 14) dL_off_14 ?_
    refine v_if_ne (pc := 15) (tgt := 22) dL_off_15 (by decide) (fun c => absurd c (by decide)) (fun _ => ?_)
    refine v_iconst (pc := 18) (v := 1) dL_off_18 (by decide) ?_
    refine v_goto (pc := 19) (tgt := 23) dL_off_19 (by decide) ?_
    refine v_zret (pc := 23) hR dL_off_23 rfl ⟨by decide, by decide⟩ ?_
    exact ⟨rfl, hG1⟩
set_option maxRecDepth 100000 in
set_option maxHeartbeats 400000 in
theorem no_canopy {D : DT} {G : GT} {X : XT} {s : SG} {q : Nat} (p0 : Int32) (y1 : Int32) (y2 : Int32) (y3 : Int32) (hG : LF X s G) (hI : INV X s q) (hq : q < 512) (hk : kCan (nA s) (nC s) p0 = 1) : MN yL_no cL_no 6 (Option.some Jvm.ClassFile.FieldType.boolean) rm_no D [.ref (X.1 0 0), .int 18, .int p0, .int y1, .int y2, .int y3] G (fun v G' => v = some (.int 1) ∧ LF X s G') := by
  refine MN_of (by decide +kernel) (Nat.le_of_ble_eq_true rfl) (fun K sz hR hNC => ?_)
  show V cL_no _ 6 _ D K 0 [some (.ref (X.1 0 0)), some (.int 18), some (.int p0), some (.int y1), some (.int y2), some (.int y3)] [] G (0, 0)
  refine v_aload_n (pc := 0) dL_no_0 rfl rfl ?_
  refine v_iload_n (pc := 1) dL_no_1 rfl rfl ?_
  refine v_iload_n (pc := 2) dL_no_2 rfl rfl ?_
  refine v_iload_n (pc := 3) dL_no_3 rfl rfl ?_
  refine v_iload (pc := 4) dL_no_4 rfl ?_
  refine v_iload (pc := 6) dL_no_6 rfl ?_
  refine v_callL (pc := 8) (As := [.ref (X.1 0 0), .int 18, .int p0, .int y1, .int y2, .int y3]) (rest := []) hNC dL_no_8 ll_act.1 ll_act.2.1 wl_act ll_act.2.2.2 ll_act.2.2.1 (a_canopy p0 y1 y2 y3  hG hI hq) rfl rfl (Nat.le_of_ble_eq_true rfl) ⟨Nat.le_of_ble_eq_true rfl, Nat.le_of_ble_eq_true rfl⟩ ⟨by decide, by decide⟩ (fun v G1 hp => ?_)
  obtain ⟨X', s', w, rfl, hG1, hA1, h01, hok | ⟨her, rfl, rfl⟩⟩ := hp
  · exfalso
    have hz := hok.2.2.2.2
    rw [hk] at hz
    exact absurd hz (by decide)
  · have hw : w = (-1731000000000) := by
      rcases her with ⟨hz0, hw⟩ | ⟨hz1, hw⟩
      · exact hw
      · rw [hk] at hz1; exact absurd hz1 (by decide)
    subst hw
    refine v_ldcL (pc := 11) dL_no_11 k_L_105 ?_
    refine v_lcmp (pc := 14) dL_no_14 ?_
    refine v_if_ne (pc := 15) (tgt := 22) dL_no_15 (by decide) (fun c => absurd c (by decide)) (fun _ => ?_)
    refine v_iconst (pc := 18) (v := 1) dL_no_18 (by decide) ?_
    refine v_goto (pc := 19) (tgt := 23) dL_no_19 (by decide) ?_
    refine v_zret (pc := 23) hR dL_no_23 rfl ⟨by decide, by decide⟩ ?_
    exact ⟨rfl, hG1⟩
set_option maxRecDepth 100000 in
set_option maxHeartbeats 400000 in
theorem no_part {D : DT} {G : GT} {X : XT} {s : SG} {q : Nat} (p0 : Int32) (p1 : Int32) (y2 : Int32) (y3 : Int32) (hG : LF X s G) (hI : INV X s q) (hq : q < 512) (hk : kPart s (nC s) p0 p1 = 1) : MN yL_no cL_no 6 (Option.some Jvm.ClassFile.FieldType.boolean) rm_no D [.ref (X.1 0 0), .int 19, .int p0, .int p1, .int y2, .int y3] G (fun v G' => v = some (.int 1) ∧ LF X s G') := by
  refine MN_of (by decide +kernel) (Nat.le_of_ble_eq_true rfl) (fun K sz hR hNC => ?_)
  show V cL_no _ 6 _ D K 0 [some (.ref (X.1 0 0)), some (.int 19), some (.int p0), some (.int p1), some (.int y2), some (.int y3)] [] G (0, 0)
  refine v_aload_n (pc := 0) dL_no_0 rfl rfl ?_
  refine v_iload_n (pc := 1) dL_no_1 rfl rfl ?_
  refine v_iload_n (pc := 2) dL_no_2 rfl rfl ?_
  refine v_iload_n (pc := 3) dL_no_3 rfl rfl ?_
  refine v_iload (pc := 4) dL_no_4 rfl ?_
  refine v_iload (pc := 6) dL_no_6 rfl ?_
  refine v_callL (pc := 8) (As := [.ref (X.1 0 0), .int 19, .int p0, .int p1, .int y2, .int y3]) (rest := []) hNC dL_no_8 ll_act.1 ll_act.2.1 wl_act ll_act.2.2.2 ll_act.2.2.1 (a_part p0 p1 y2 y3  hG hI hq) rfl rfl (Nat.le_of_ble_eq_true rfl) ⟨Nat.le_of_ble_eq_true rfl, Nat.le_of_ble_eq_true rfl⟩ ⟨by decide, by decide⟩ (fun v G1 hp => ?_)
  obtain ⟨X', s', w, rfl, hG1, hA1, h01, hok | ⟨her, rfl, rfl⟩⟩ := hp
  · exfalso
    have hz := hok.2.2.2
    rw [hk] at hz
    exact absurd hz (by decide)
  · have hw : w = (-1731000000000) := by
      rcases her with ⟨hz0, hw⟩ | ⟨hz1, hw⟩ | ⟨hz2, hw⟩
      · exact hw
      · rw [hk] at hz1; exact absurd hz1 (by decide)
      · rw [hk] at hz2; exact absurd hz2 (by decide)
    subst hw
    refine v_ldcL (pc := 11) dL_no_11 k_L_105 ?_
    refine v_lcmp (pc := 14) dL_no_14 ?_
    refine v_if_ne (pc := 15) (tgt := 22) dL_no_15 (by decide) (fun c => absurd c (by decide)) (fun _ => ?_)
    refine v_iconst (pc := 18) (v := 1) dL_no_18 (by decide) ?_
    refine v_goto (pc := 19) (tgt := 23) dL_no_19 (by decide) ?_
    refine v_zret (pc := 23) hR dL_no_23 rfl ⟨by decide, by decide⟩ ?_
    exact ⟨rfl, hG1⟩
set_option maxRecDepth 100000 in
set_option maxHeartbeats 400000 in
theorem off_part {D : DT} {G : GT} {X : XT} {s : SG} {q : Nat} (p0 : Int32) (p1 : Int32) (y2 : Int32) (y3 : Int32) (hG : LF X s G) (hI : INV X s q) (hq : q < 512) (hk : kPart s (nC s) p0 p1 = 2) : MN yL_off cL_off 6 (Option.some Jvm.ClassFile.FieldType.boolean) rm_no D [.ref (X.1 0 0), .int 19, .int p0, .int p1, .int y2, .int y3] G (fun v G' => v = some (.int 1) ∧ LF X s G') := by
  refine MN_of (by decide +kernel) (Nat.le_of_ble_eq_true rfl) (fun K sz hR hNC => ?_)
  show V cL_off _ 6 _ D K 0 [some (.ref (X.1 0 0)), some (.int 19), some (.int p0), some (.int p1), some (.int y2), some (.int y3)] [] G (0, 0)
  refine v_aload_n (pc := 0) dL_off_0 rfl rfl ?_
  refine v_iload_n (pc := 1) dL_off_1 rfl rfl ?_
  refine v_iload_n (pc := 2) dL_off_2 rfl rfl ?_
  refine v_iload_n (pc := 3) dL_off_3 rfl rfl ?_
  refine v_iload (pc := 4) dL_off_4 rfl ?_
  refine v_iload (pc := 6) dL_off_6 rfl ?_
  refine v_callL (pc := 8) (As := [.ref (X.1 0 0), .int 19, .int p0, .int p1, .int y2, .int y3]) (rest := []) hNC dL_off_8 ll_act.1 ll_act.2.1 wl_act ll_act.2.2.2 ll_act.2.2.1 (a_part p0 p1 y2 y3  hG hI hq) rfl rfl (Nat.le_of_ble_eq_true rfl) ⟨Nat.le_of_ble_eq_true rfl, Nat.le_of_ble_eq_true rfl⟩ ⟨by decide, by decide⟩ (fun v G1 hp => ?_)
  obtain ⟨X', s', w, rfl, hG1, hA1, h01, hok | ⟨her, rfl, rfl⟩⟩ := hp
  · exfalso
    have hz := hok.2.2.2
    rw [hk] at hz
    exact absurd hz (by decide)
  · have hw : w = (-1732000000000) := by
      rcases her with ⟨hz0, hw⟩ | ⟨hz1, hw⟩ | ⟨hz2, hw⟩
      · rw [hk] at hz0; exact absurd hz0 (by decide)
      · exact hw
      · rw [hk] at hz2; exact absurd hz2 (by decide)
    subst hw
    refine v_ldcL (pc := 11) dL_off_11 k_L_109 ?_
    refine v_lcmp (pc := 14) dL_off_14 ?_
    refine v_if_ne (pc := 15) (tgt := 22) dL_off_15 (by decide) (fun c => absurd c (by decide)) (fun _ => ?_)
    refine v_iconst (pc := 18) (v := 1) dL_off_18 (by decide) ?_
    refine v_goto (pc := 19) (tgt := 23) dL_off_19 (by decide) ?_
    refine v_zret (pc := 23) hR dL_off_23 rfl ⟨by decide, by decide⟩ ?_
    exact ⟨rfl, hG1⟩
set_option maxRecDepth 100000 in
set_option maxHeartbeats 400000 in
theorem no_opens {D : DT} {G : GT} {X : XT} {s : SG} {q : Nat} (p0 : Int32) (y1 : Int32) (y2 : Int32) (y3 : Int32) (hG : LF X s G) (hI : INV X s q) (hq : q < 512) (hk : kOp (nC s) p0 = 1) : MN yL_no cL_no 6 (Option.some Jvm.ClassFile.FieldType.boolean) rm_no D [.ref (X.1 0 0), .int 20, .int p0, .int y1, .int y2, .int y3] G (fun v G' => v = some (.int 1) ∧ LF X s G') := by
  refine MN_of (by decide +kernel) (Nat.le_of_ble_eq_true rfl) (fun K sz hR hNC => ?_)
  show V cL_no _ 6 _ D K 0 [some (.ref (X.1 0 0)), some (.int 20), some (.int p0), some (.int y1), some (.int y2), some (.int y3)] [] G (0, 0)
  refine v_aload_n (pc := 0) dL_no_0 rfl rfl ?_
  refine v_iload_n (pc := 1) dL_no_1 rfl rfl ?_
  refine v_iload_n (pc := 2) dL_no_2 rfl rfl ?_
  refine v_iload_n (pc := 3) dL_no_3 rfl rfl ?_
  refine v_iload (pc := 4) dL_no_4 rfl ?_
  refine v_iload (pc := 6) dL_no_6 rfl ?_
  refine v_callL (pc := 8) (As := [.ref (X.1 0 0), .int 20, .int p0, .int y1, .int y2, .int y3]) (rest := []) hNC dL_no_8 ll_act.1 ll_act.2.1 wl_act ll_act.2.2.2 ll_act.2.2.1 (a_opens p0 y1 y2 y3  hG hI hq) rfl rfl (Nat.le_of_ble_eq_true rfl) ⟨Nat.le_of_ble_eq_true rfl, Nat.le_of_ble_eq_true rfl⟩ ⟨by decide, by decide⟩ (fun v G1 hp => ?_)
  obtain ⟨X', s', w, rfl, hG1, hA1, h01, hok | ⟨her, rfl, rfl⟩⟩ := hp
  · exfalso
    have hz := hok.2.2.2
    rw [hk] at hz
    exact absurd hz (by decide)
  · have hw : w = (-1731000000000) := her.2
    subst hw
    refine v_ldcL (pc := 11) dL_no_11 k_L_105 ?_
    refine v_lcmp (pc := 14) dL_no_14 ?_
    refine v_if_ne (pc := 15) (tgt := 22) dL_no_15 (by decide) (fun c => absurd c (by decide)) (fun _ => ?_)
    refine v_iconst (pc := 18) (v := 1) dL_no_18 (by decide) ?_
    refine v_goto (pc := 19) (tgt := 23) dL_no_19 (by decide) ?_
    refine v_zret (pc := 23) hR dL_no_23 rfl ⟨by decide, by decide⟩ ?_
    exact ⟨rfl, hG1⟩
set_option maxRecDepth 100000 in
set_option maxHeartbeats 400000 in
theorem no_seal {D : DT} {G : GT} {X : XT} {s : SG} {q : Nat} (p0 : Int32) (p1 : Int32) (y2 : Int32) (y3 : Int32) (hG : LF X s G) (hI : INV X s q) (hq : q < 512) (hk : kSeal s (nC s) p0 p1 = 1) : MN yL_no cL_no 6 (Option.some Jvm.ClassFile.FieldType.boolean) rm_no D [.ref (X.1 0 0), .int 21, .int p0, .int p1, .int y2, .int y3] G (fun v G' => v = some (.int 1) ∧ LF X s G') := by
  refine MN_of (by decide +kernel) (Nat.le_of_ble_eq_true rfl) (fun K sz hR hNC => ?_)
  show V cL_no _ 6 _ D K 0 [some (.ref (X.1 0 0)), some (.int 21), some (.int p0), some (.int p1), some (.int y2), some (.int y3)] [] G (0, 0)
  refine v_aload_n (pc := 0) dL_no_0 rfl rfl ?_
  refine v_iload_n (pc := 1) dL_no_1 rfl rfl ?_
  refine v_iload_n (pc := 2) dL_no_2 rfl rfl ?_
  refine v_iload_n (pc := 3) dL_no_3 rfl rfl ?_
  refine v_iload (pc := 4) dL_no_4 rfl ?_
  refine v_iload (pc := 6) dL_no_6 rfl ?_
  refine v_callL (pc := 8) (As := [.ref (X.1 0 0), .int 21, .int p0, .int p1, .int y2, .int y3]) (rest := []) hNC dL_no_8 ll_act.1 ll_act.2.1 wl_act ll_act.2.2.2 ll_act.2.2.1 (a_seal p0 p1 y2 y3  hG hI hq) rfl rfl (Nat.le_of_ble_eq_true rfl) ⟨Nat.le_of_ble_eq_true rfl, Nat.le_of_ble_eq_true rfl⟩ ⟨by decide, by decide⟩ (fun v G1 hp => ?_)
  obtain ⟨X', s', w, rfl, hG1, hA1, h01, hok | ⟨her, rfl, rfl⟩⟩ := hp
  · exfalso
    have hz := hok.2.2.2
    rw [hk] at hz
    exact absurd hz (by decide)
  · have hw : w = (-1731000000000) := by
      rcases her with ⟨hz0, hw⟩ | ⟨hz1, hw⟩
      · exact hw
      · rw [hk] at hz1; exact absurd hz1 (by decide)
    subst hw
    refine v_ldcL (pc := 11) dL_no_11 k_L_105 ?_
    refine v_lcmp (pc := 14) dL_no_14 ?_
    refine v_if_ne (pc := 15) (tgt := 22) dL_no_15 (by decide) (fun c => absurd c (by decide)) (fun _ => ?_)
    refine v_iconst (pc := 18) (v := 1) dL_no_18 (by decide) ?_
    refine v_goto (pc := 19) (tgt := 23) dL_no_19 (by decide) ?_
    refine v_zret (pc := 23) hR dL_no_23 rfl ⟨by decide, by decide⟩ ?_
    exact ⟨rfl, hG1⟩
set_option maxRecDepth 100000 in
set_option maxHeartbeats 400000 in
theorem no_use {D : DT} {G : GT} {X : XT} {s : SG} {q : Nat} (p0 : Int32) (y1 : Int32) (y2 : Int32) (y3 : Int32) (hG : LF X s G) (hI : INV X s q) (hq : q < 512) (hk : kUse s (nC s) p0 = 1) : MN yL_no cL_no 6 (Option.some Jvm.ClassFile.FieldType.boolean) rm_no D [.ref (X.1 0 0), .int 22, .int p0, .int y1, .int y2, .int y3] G (fun v G' => v = some (.int 1) ∧ LF X s G') := by
  refine MN_of (by decide +kernel) (Nat.le_of_ble_eq_true rfl) (fun K sz hR hNC => ?_)
  show V cL_no _ 6 _ D K 0 [some (.ref (X.1 0 0)), some (.int 22), some (.int p0), some (.int y1), some (.int y2), some (.int y3)] [] G (0, 0)
  refine v_aload_n (pc := 0) dL_no_0 rfl rfl ?_
  refine v_iload_n (pc := 1) dL_no_1 rfl rfl ?_
  refine v_iload_n (pc := 2) dL_no_2 rfl rfl ?_
  refine v_iload_n (pc := 3) dL_no_3 rfl rfl ?_
  refine v_iload (pc := 4) dL_no_4 rfl ?_
  refine v_iload (pc := 6) dL_no_6 rfl ?_
  refine v_callL (pc := 8) (As := [.ref (X.1 0 0), .int 22, .int p0, .int y1, .int y2, .int y3]) (rest := []) hNC dL_no_8 ll_act.1 ll_act.2.1 wl_act ll_act.2.2.2 ll_act.2.2.1 (a_use p0 y1 y2 y3  hG hI hq) rfl rfl (Nat.le_of_ble_eq_true rfl) ⟨Nat.le_of_ble_eq_true rfl, Nat.le_of_ble_eq_true rfl⟩ ⟨by decide, by decide⟩ (fun v G1 hp => ?_)
  obtain ⟨X', s', w, rfl, hG1, hA1, h01, hok | ⟨her, rfl, rfl⟩⟩ := hp
  · exfalso
    have hz := hok.2.2.2
    rw [hk] at hz
    exact absurd hz (by decide)
  · have hw : w = (-1731000000000) := by
      rcases her with ⟨hz0, hw⟩ | ⟨hz1, hw⟩
      · exact hw
      · rw [hk] at hz1; exact absurd hz1 (by decide)
    subst hw
    refine v_ldcL (pc := 11) dL_no_11 k_L_105 ?_
    refine v_lcmp (pc := 14) dL_no_14 ?_
    refine v_if_ne (pc := 15) (tgt := 22) dL_no_15 (by decide) (fun c => absurd c (by decide)) (fun _ => ?_)
    refine v_iconst (pc := 18) (v := 1) dL_no_18 (by decide) ?_
    refine v_goto (pc := 19) (tgt := 23) dL_no_19 (by decide) ?_
    refine v_zret (pc := 23) hR dL_no_23 rfl ⟨by decide, by decide⟩ ?_
    exact ⟨rfl, hG1⟩
set_option maxRecDepth 100000 in
set_option maxHeartbeats 400000 in
theorem no_wet0 {D : DT} {G : GT} {X : XT} {s : SG} {q : Nat} (p0 : Int32) (y2 : Int32) (y3 : Int32) (hG : LF X s G) (hI : INV X s q) (hq : q < 512) (hk : kWet s (nC s) p0 = 1) : MN yL_no cL_no 6 (Option.some Jvm.ClassFile.FieldType.boolean) rm_no D [.ref (X.1 0 0), .int 23, .int p0, .int 0, .int y2, .int y3] G (fun v G' => v = some (.int 1) ∧ LF X s G') := by
  refine MN_of (by decide +kernel) (Nat.le_of_ble_eq_true rfl) (fun K sz hR hNC => ?_)
  show V cL_no _ 6 _ D K 0 [some (.ref (X.1 0 0)), some (.int 23), some (.int p0), some (.int 0), some (.int y2), some (.int y3)] [] G (0, 0)
  refine v_aload_n (pc := 0) dL_no_0 rfl rfl ?_
  refine v_iload_n (pc := 1) dL_no_1 rfl rfl ?_
  refine v_iload_n (pc := 2) dL_no_2 rfl rfl ?_
  refine v_iload_n (pc := 3) dL_no_3 rfl rfl ?_
  refine v_iload (pc := 4) dL_no_4 rfl ?_
  refine v_iload (pc := 6) dL_no_6 rfl ?_
  refine v_callL (pc := 8) (As := [.ref (X.1 0 0), .int 23, .int p0, .int 0, .int y2, .int y3]) (rest := []) hNC dL_no_8 ll_act.1 ll_act.2.1 wl_act ll_act.2.2.2 ll_act.2.2.1 (a_wet0 p0 y2 y3  hG hI hq) rfl rfl (Nat.le_of_ble_eq_true rfl) ⟨Nat.le_of_ble_eq_true rfl, Nat.le_of_ble_eq_true rfl⟩ ⟨by decide, by decide⟩ (fun v G1 hp => ?_)
  obtain ⟨X', s', w, rfl, hG1, hA1, h01, hok | ⟨her, rfl, rfl⟩⟩ := hp
  · exfalso
    have hz := hok.2.2.2
    rw [hk] at hz
    exact absurd hz (by decide)
  · have hw : w = (-1731000000000) := by
      rcases her with ⟨hz0, hw⟩ | ⟨hz1, hw⟩
      · exact hw
      · rw [hk] at hz1; exact absurd hz1 (by decide)
    subst hw
    refine v_ldcL (pc := 11) dL_no_11 k_L_105 ?_
    refine v_lcmp (pc := 14) dL_no_14 ?_
    refine v_if_ne (pc := 15) (tgt := 22) dL_no_15 (by decide) (fun c => absurd c (by decide)) (fun _ => ?_)
    refine v_iconst (pc := 18) (v := 1) dL_no_18 (by decide) ?_
    refine v_goto (pc := 19) (tgt := 23) dL_no_19 (by decide) ?_
    refine v_zret (pc := 23) hR dL_no_23 rfl ⟨by decide, by decide⟩ ?_
    exact ⟨rfl, hG1⟩
set_option maxRecDepth 100000 in
set_option maxHeartbeats 400000 in
theorem no_wet1 {D : DT} {G : GT} {X : XT} {s : SG} {q : Nat} (p0 : Int32) (y2 : Int32) (y3 : Int32) (hG : LF X s G) (hI : INV X s q) (hq : q < 512) (hk : kWet s (nC s) p0 = 1) : MN yL_no cL_no 6 (Option.some Jvm.ClassFile.FieldType.boolean) rm_no D [.ref (X.1 0 0), .int 23, .int p0, .int 1, .int y2, .int y3] G (fun v G' => v = some (.int 1) ∧ LF X s G') := by
  refine MN_of (by decide +kernel) (Nat.le_of_ble_eq_true rfl) (fun K sz hR hNC => ?_)
  show V cL_no _ 6 _ D K 0 [some (.ref (X.1 0 0)), some (.int 23), some (.int p0), some (.int 1), some (.int y2), some (.int y3)] [] G (0, 0)
  refine v_aload_n (pc := 0) dL_no_0 rfl rfl ?_
  refine v_iload_n (pc := 1) dL_no_1 rfl rfl ?_
  refine v_iload_n (pc := 2) dL_no_2 rfl rfl ?_
  refine v_iload_n (pc := 3) dL_no_3 rfl rfl ?_
  refine v_iload (pc := 4) dL_no_4 rfl ?_
  refine v_iload (pc := 6) dL_no_6 rfl ?_
  refine v_callL (pc := 8) (As := [.ref (X.1 0 0), .int 23, .int p0, .int 1, .int y2, .int y3]) (rest := []) hNC dL_no_8 ll_act.1 ll_act.2.1 wl_act ll_act.2.2.2 ll_act.2.2.1 (a_wet1 p0 y2 y3  hG hI hq) rfl rfl (Nat.le_of_ble_eq_true rfl) ⟨Nat.le_of_ble_eq_true rfl, Nat.le_of_ble_eq_true rfl⟩ ⟨by decide, by decide⟩ (fun v G1 hp => ?_)
  obtain ⟨X', s', w, rfl, hG1, hA1, h01, hok | ⟨her, rfl, rfl⟩⟩ := hp
  · exfalso
    have hz := hok.2.2.2
    rw [hk] at hz
    exact absurd hz (by decide)
  · have hw : w = (-1731000000000) := by
      rcases her with ⟨hz0, hw⟩ | ⟨hz1, hw⟩
      · exact hw
      · rw [hk] at hz1; exact absurd hz1 (by decide)
    subst hw
    refine v_ldcL (pc := 11) dL_no_11 k_L_105 ?_
    refine v_lcmp (pc := 14) dL_no_14 ?_
    refine v_if_ne (pc := 15) (tgt := 22) dL_no_15 (by decide) (fun c => absurd c (by decide)) (fun _ => ?_)
    refine v_iconst (pc := 18) (v := 1) dL_no_18 (by decide) ?_
    refine v_goto (pc := 19) (tgt := 23) dL_no_19 (by decide) ?_
    refine v_zret (pc := 23) hR dL_no_23 rfl ⟨by decide, by decide⟩ ?_
    exact ⟨rfl, hG1⟩
set_option maxRecDepth 100000 in
set_option maxHeartbeats 400000 in
theorem no_find0 {D : DT} {G : GT} {X : XT} {s : SG} {q : Nat} (p0 : Int32) (y2 : Int32) (y3 : Int32) (hG : LF X s G) (hI : INV X s q) (hq : q < 512) (hk : kFind s (nA s) p0 0 = 1) : MN yL_no cL_no 6 (Option.some Jvm.ClassFile.FieldType.boolean) rm_no D [.ref (X.1 0 0), .int 24, .int p0, .int 0, .int y2, .int y3] G (fun v G' => v = some (.int 1) ∧ LF X s G') := by
  refine MN_of (by decide +kernel) (Nat.le_of_ble_eq_true rfl) (fun K sz hR hNC => ?_)
  show V cL_no _ 6 _ D K 0 [some (.ref (X.1 0 0)), some (.int 24), some (.int p0), some (.int 0), some (.int y2), some (.int y3)] [] G (0, 0)
  refine v_aload_n (pc := 0) dL_no_0 rfl rfl ?_
  refine v_iload_n (pc := 1) dL_no_1 rfl rfl ?_
  refine v_iload_n (pc := 2) dL_no_2 rfl rfl ?_
  refine v_iload_n (pc := 3) dL_no_3 rfl rfl ?_
  refine v_iload (pc := 4) dL_no_4 rfl ?_
  refine v_iload (pc := 6) dL_no_6 rfl ?_
  refine v_callL (pc := 8) (As := [.ref (X.1 0 0), .int 24, .int p0, .int 0, .int y2, .int y3]) (rest := []) hNC dL_no_8 ll_act.1 ll_act.2.1 wl_act ll_act.2.2.2 ll_act.2.2.1 (a_find0 p0 y2 y3  hG hI hq) rfl rfl (Nat.le_of_ble_eq_true rfl) ⟨Nat.le_of_ble_eq_true rfl, Nat.le_of_ble_eq_true rfl⟩ ⟨by decide, by decide⟩ (fun v G1 hp => ?_)
  obtain ⟨X', s', w, rfl, hG1, hA1, h01, hok | ⟨her, rfl, rfl⟩⟩ := hp
  · exfalso
    have hz := hok.2.2.2
    rw [hk] at hz
    exact absurd hz (by decide)
  · have hw : w = (-1731000000000) := by
      rcases her with ⟨hz0, hw⟩ | ⟨hz1, hw⟩
      · exact hw
      · rw [hk] at hz1; exact absurd hz1 (by decide)
    subst hw
    refine v_ldcL (pc := 11) dL_no_11 k_L_105 ?_
    refine v_lcmp (pc := 14) dL_no_14 ?_
    refine v_if_ne (pc := 15) (tgt := 22) dL_no_15 (by decide) (fun c => absurd c (by decide)) (fun _ => ?_)
    refine v_iconst (pc := 18) (v := 1) dL_no_18 (by decide) ?_
    refine v_goto (pc := 19) (tgt := 23) dL_no_19 (by decide) ?_
    refine v_zret (pc := 23) hR dL_no_23 rfl ⟨by decide, by decide⟩ ?_
    exact ⟨rfl, hG1⟩
set_option maxRecDepth 100000 in
set_option maxHeartbeats 400000 in
theorem no_find1 {D : DT} {G : GT} {X : XT} {s : SG} {q : Nat} (p0 : Int32) (y2 : Int32) (y3 : Int32) (hG : LF X s G) (hI : INV X s q) (hq : q < 512) (hk : kFind s (nA s) p0 1 = 1) : MN yL_no cL_no 6 (Option.some Jvm.ClassFile.FieldType.boolean) rm_no D [.ref (X.1 0 0), .int 24, .int p0, .int 1, .int y2, .int y3] G (fun v G' => v = some (.int 1) ∧ LF X s G') := by
  refine MN_of (by decide +kernel) (Nat.le_of_ble_eq_true rfl) (fun K sz hR hNC => ?_)
  show V cL_no _ 6 _ D K 0 [some (.ref (X.1 0 0)), some (.int 24), some (.int p0), some (.int 1), some (.int y2), some (.int y3)] [] G (0, 0)
  refine v_aload_n (pc := 0) dL_no_0 rfl rfl ?_
  refine v_iload_n (pc := 1) dL_no_1 rfl rfl ?_
  refine v_iload_n (pc := 2) dL_no_2 rfl rfl ?_
  refine v_iload_n (pc := 3) dL_no_3 rfl rfl ?_
  refine v_iload (pc := 4) dL_no_4 rfl ?_
  refine v_iload (pc := 6) dL_no_6 rfl ?_
  refine v_callL (pc := 8) (As := [.ref (X.1 0 0), .int 24, .int p0, .int 1, .int y2, .int y3]) (rest := []) hNC dL_no_8 ll_act.1 ll_act.2.1 wl_act ll_act.2.2.2 ll_act.2.2.1 (a_find1 p0 y2 y3  hG hI hq) rfl rfl (Nat.le_of_ble_eq_true rfl) ⟨Nat.le_of_ble_eq_true rfl, Nat.le_of_ble_eq_true rfl⟩ ⟨by decide, by decide⟩ (fun v G1 hp => ?_)
  obtain ⟨X', s', w, rfl, hG1, hA1, h01, hok | ⟨her, rfl, rfl⟩⟩ := hp
  · exfalso
    have hz := hok.2.2.2
    rw [hk] at hz
    exact absurd hz (by decide)
  · have hw : w = (-1731000000000) := by
      rcases her with ⟨hz0, hw⟩ | ⟨hz1, hw⟩
      · exact hw
      · rw [hk] at hz1; exact absurd hz1 (by decide)
    subst hw
    refine v_ldcL (pc := 11) dL_no_11 k_L_105 ?_
    refine v_lcmp (pc := 14) dL_no_14 ?_
    refine v_if_ne (pc := 15) (tgt := 22) dL_no_15 (by decide) (fun c => absurd c (by decide)) (fun _ => ?_)
    refine v_iconst (pc := 18) (v := 1) dL_no_18 (by decide) ?_
    refine v_goto (pc := 19) (tgt := 23) dL_no_19 (by decide) ?_
    refine v_zret (pc := 23) hR dL_no_23 rfl ⟨by decide, by decide⟩ ?_
    exact ⟨rfl, hG1⟩
set_option maxRecDepth 100000 in
set_option maxHeartbeats 400000 in
theorem no_ofCanopy {D : DT} {G : GT} {X : XT} {s : SG} {q : Nat} (p0 : Int32) (p1 : Int32) (y2 : Int32) (y3 : Int32) (hG : LF X s G) (hI : INV X s q) (hq : q < 512) (hk : kOf (nC s) p0 p1 0 5 = 1) : MN yL_no cL_no 6 (Option.some Jvm.ClassFile.FieldType.boolean) rm_no D [.ref (X.1 0 0), .int 25, .int p0, .int p1, .int y2, .int y3] G (fun v G' => v = some (.int 1) ∧ LF X s G') := by
  refine MN_of (by decide +kernel) (Nat.le_of_ble_eq_true rfl) (fun K sz hR hNC => ?_)
  show V cL_no _ 6 _ D K 0 [some (.ref (X.1 0 0)), some (.int 25), some (.int p0), some (.int p1), some (.int y2), some (.int y3)] [] G (0, 0)
  refine v_aload_n (pc := 0) dL_no_0 rfl rfl ?_
  refine v_iload_n (pc := 1) dL_no_1 rfl rfl ?_
  refine v_iload_n (pc := 2) dL_no_2 rfl rfl ?_
  refine v_iload_n (pc := 3) dL_no_3 rfl rfl ?_
  refine v_iload (pc := 4) dL_no_4 rfl ?_
  refine v_iload (pc := 6) dL_no_6 rfl ?_
  refine v_callL (pc := 8) (As := [.ref (X.1 0 0), .int 25, .int p0, .int p1, .int y2, .int y3]) (rest := []) hNC dL_no_8 ll_act.1 ll_act.2.1 wl_act ll_act.2.2.2 ll_act.2.2.1 (a_ofCanopy p0 p1 y2 y3  hG hI hq) rfl rfl (Nat.le_of_ble_eq_true rfl) ⟨Nat.le_of_ble_eq_true rfl, Nat.le_of_ble_eq_true rfl⟩ ⟨by decide, by decide⟩ (fun v G1 hp => ?_)
  obtain ⟨X', s', w, rfl, hG1, hA1, h01, hok | ⟨her, rfl, rfl⟩⟩ := hp
  · exfalso
    have hz := hok.2.2.2
    rw [hk] at hz
    exact absurd hz (by decide)
  · have hw : w = (-1731000000000) := by
      rcases her with ⟨hz0, hw⟩ | ⟨hz1, hw⟩
      · exact hw
      · rw [hk] at hz1; exact absurd hz1 (by decide)
    subst hw
    refine v_ldcL (pc := 11) dL_no_11 k_L_105 ?_
    refine v_lcmp (pc := 14) dL_no_14 ?_
    refine v_if_ne (pc := 15) (tgt := 22) dL_no_15 (by decide) (fun c => absurd c (by decide)) (fun _ => ?_)
    refine v_iconst (pc := 18) (v := 1) dL_no_18 (by decide) ?_
    refine v_goto (pc := 19) (tgt := 23) dL_no_19 (by decide) ?_
    refine v_zret (pc := 23) hR dL_no_23 rfl ⟨by decide, by decide⟩ ?_
    exact ⟨rfl, hG1⟩
set_option maxRecDepth 100000 in
set_option maxHeartbeats 400000 in
theorem off_ofCanopy {D : DT} {G : GT} {X : XT} {s : SG} {q : Nat} (p0 : Int32) (p1 : Int32) (y2 : Int32) (y3 : Int32) (hG : LF X s G) (hI : INV X s q) (hq : q < 512) (hk : kOf (nC s) p0 p1 0 5 = 2) : MN yL_off cL_off 6 (Option.some Jvm.ClassFile.FieldType.boolean) rm_no D [.ref (X.1 0 0), .int 25, .int p0, .int p1, .int y2, .int y3] G (fun v G' => v = some (.int 1) ∧ LF X s G') := by
  refine MN_of (by decide +kernel) (Nat.le_of_ble_eq_true rfl) (fun K sz hR hNC => ?_)
  show V cL_off _ 6 _ D K 0 [some (.ref (X.1 0 0)), some (.int 25), some (.int p0), some (.int p1), some (.int y2), some (.int y3)] [] G (0, 0)
  refine v_aload_n (pc := 0) dL_off_0 rfl rfl ?_
  refine v_iload_n (pc := 1) dL_off_1 rfl rfl ?_
  refine v_iload_n (pc := 2) dL_off_2 rfl rfl ?_
  refine v_iload_n (pc := 3) dL_off_3 rfl rfl ?_
  refine v_iload (pc := 4) dL_off_4 rfl ?_
  refine v_iload (pc := 6) dL_off_6 rfl ?_
  refine v_callL (pc := 8) (As := [.ref (X.1 0 0), .int 25, .int p0, .int p1, .int y2, .int y3]) (rest := []) hNC dL_off_8 ll_act.1 ll_act.2.1 wl_act ll_act.2.2.2 ll_act.2.2.1 (a_ofCanopy p0 p1 y2 y3  hG hI hq) rfl rfl (Nat.le_of_ble_eq_true rfl) ⟨Nat.le_of_ble_eq_true rfl, Nat.le_of_ble_eq_true rfl⟩ ⟨by decide, by decide⟩ (fun v G1 hp => ?_)
  obtain ⟨X', s', w, rfl, hG1, hA1, h01, hok | ⟨her, rfl, rfl⟩⟩ := hp
  · exfalso
    have hz := hok.2.2.2
    rw [hk] at hz
    exact absurd hz (by decide)
  · have hw : w = (-1732000000000) := by
      rcases her with ⟨hz0, hw⟩ | ⟨hz1, hw⟩
      · rw [hk] at hz0; exact absurd hz0 (by decide)
      · exact hw
    subst hw
    refine v_ldcL (pc := 11) dL_off_11 k_L_109 ?_
    refine v_lcmp (pc := 14) dL_off_14 ?_
    refine v_if_ne (pc := 15) (tgt := 22) dL_off_15 (by decide) (fun c => absurd c (by decide)) (fun _ => ?_)
    refine v_iconst (pc := 18) (v := 1) dL_off_18 (by decide) ?_
    refine v_goto (pc := 19) (tgt := 23) dL_off_19 (by decide) ?_
    refine v_zret (pc := 23) hR dL_off_23 rfl ⟨by decide, by decide⟩ ?_
    exact ⟨rfl, hG1⟩
set_option maxRecDepth 100000 in
set_option maxHeartbeats 400000 in
theorem no_lifeAnew {D : DT} {G : GT} {X : XT} {s : SG} {q : Nat} (p0 : Int32) (p1 : Int32) (y2 : Int32) (y3 : Int32) (hG : LF X s G) (hI : INV X s q) (hq : q < 512) (hk : kOf (nC s) p0 p1 3 5 = 1) : MN yL_no cL_no 6 (Option.some Jvm.ClassFile.FieldType.boolean) rm_no D [.ref (X.1 0 0), .int 26, .int p0, .int p1, .int y2, .int y3] G (fun v G' => v = some (.int 1) ∧ LF X s G') := by
  refine MN_of (by decide +kernel) (Nat.le_of_ble_eq_true rfl) (fun K sz hR hNC => ?_)
  show V cL_no _ 6 _ D K 0 [some (.ref (X.1 0 0)), some (.int 26), some (.int p0), some (.int p1), some (.int y2), some (.int y3)] [] G (0, 0)
  refine v_aload_n (pc := 0) dL_no_0 rfl rfl ?_
  refine v_iload_n (pc := 1) dL_no_1 rfl rfl ?_
  refine v_iload_n (pc := 2) dL_no_2 rfl rfl ?_
  refine v_iload_n (pc := 3) dL_no_3 rfl rfl ?_
  refine v_iload (pc := 4) dL_no_4 rfl ?_
  refine v_iload (pc := 6) dL_no_6 rfl ?_
  refine v_callL (pc := 8) (As := [.ref (X.1 0 0), .int 26, .int p0, .int p1, .int y2, .int y3]) (rest := []) hNC dL_no_8 ll_act.1 ll_act.2.1 wl_act ll_act.2.2.2 ll_act.2.2.1 (a_lifeAnew p0 p1 y2 y3  hG hI hq) rfl rfl (Nat.le_of_ble_eq_true rfl) ⟨Nat.le_of_ble_eq_true rfl, Nat.le_of_ble_eq_true rfl⟩ ⟨by decide, by decide⟩ (fun v G1 hp => ?_)
  obtain ⟨X', s', w, rfl, hG1, hA1, h01, hok | ⟨her, rfl, rfl⟩⟩ := hp
  · exfalso
    have hz := hok.2.2.2
    rw [hk] at hz
    exact absurd hz (by decide)
  · have hw : w = (-1731000000000) := by
      rcases her with ⟨hz0, hw⟩ | ⟨hz1, hw⟩
      · exact hw
      · rw [hk] at hz1; exact absurd hz1 (by decide)
    subst hw
    refine v_ldcL (pc := 11) dL_no_11 k_L_105 ?_
    refine v_lcmp (pc := 14) dL_no_14 ?_
    refine v_if_ne (pc := 15) (tgt := 22) dL_no_15 (by decide) (fun c => absurd c (by decide)) (fun _ => ?_)
    refine v_iconst (pc := 18) (v := 1) dL_no_18 (by decide) ?_
    refine v_goto (pc := 19) (tgt := 23) dL_no_19 (by decide) ?_
    refine v_zret (pc := 23) hR dL_no_23 rfl ⟨by decide, by decide⟩ ?_
    exact ⟨rfl, hG1⟩
set_option maxRecDepth 100000 in
set_option maxHeartbeats 400000 in
theorem off_lifeAnew {D : DT} {G : GT} {X : XT} {s : SG} {q : Nat} (p0 : Int32) (p1 : Int32) (y2 : Int32) (y3 : Int32) (hG : LF X s G) (hI : INV X s q) (hq : q < 512) (hk : kOf (nC s) p0 p1 3 5 = 2) : MN yL_off cL_off 6 (Option.some Jvm.ClassFile.FieldType.boolean) rm_no D [.ref (X.1 0 0), .int 26, .int p0, .int p1, .int y2, .int y3] G (fun v G' => v = some (.int 1) ∧ LF X s G') := by
  refine MN_of (by decide +kernel) (Nat.le_of_ble_eq_true rfl) (fun K sz hR hNC => ?_)
  show V cL_off _ 6 _ D K 0 [some (.ref (X.1 0 0)), some (.int 26), some (.int p0), some (.int p1), some (.int y2), some (.int y3)] [] G (0, 0)
  refine v_aload_n (pc := 0) dL_off_0 rfl rfl ?_
  refine v_iload_n (pc := 1) dL_off_1 rfl rfl ?_
  refine v_iload_n (pc := 2) dL_off_2 rfl rfl ?_
  refine v_iload_n (pc := 3) dL_off_3 rfl rfl ?_
  refine v_iload (pc := 4) dL_off_4 rfl ?_
  refine v_iload (pc := 6) dL_off_6 rfl ?_
  refine v_callL (pc := 8) (As := [.ref (X.1 0 0), .int 26, .int p0, .int p1, .int y2, .int y3]) (rest := []) hNC dL_off_8 ll_act.1 ll_act.2.1 wl_act ll_act.2.2.2 ll_act.2.2.1 (a_lifeAnew p0 p1 y2 y3  hG hI hq) rfl rfl (Nat.le_of_ble_eq_true rfl) ⟨Nat.le_of_ble_eq_true rfl, Nat.le_of_ble_eq_true rfl⟩ ⟨by decide, by decide⟩ (fun v G1 hp => ?_)
  obtain ⟨X', s', w, rfl, hG1, hA1, h01, hok | ⟨her, rfl, rfl⟩⟩ := hp
  · exfalso
    have hz := hok.2.2.2
    rw [hk] at hz
    exact absurd hz (by decide)
  · have hw : w = (-1732000000000) := by
      rcases her with ⟨hz0, hw⟩ | ⟨hz1, hw⟩
      · rw [hk] at hz0; exact absurd hz0 (by decide)
      · exact hw
    subst hw
    refine v_ldcL (pc := 11) dL_off_11 k_L_109 ?_
    refine v_lcmp (pc := 14) dL_off_14 ?_
    refine v_if_ne (pc := 15) (tgt := 22) dL_off_15 (by decide) (fun c => absurd c (by decide)) (fun _ => ?_)
    refine v_iconst (pc := 18) (v := 1) dL_off_18 (by decide) ?_
    refine v_goto (pc := 19) (tgt := 23) dL_off_19 (by decide) ?_
    refine v_zret (pc := 23) hR dL_off_23 rfl ⟨by decide, by decide⟩ ?_
    exact ⟨rfl, hG1⟩
theorem EQ.nA {s s1 : SG} (e : EQ s s1) : nA s1 = nA s := congrArg nat (congrFun (e.1 0 (by decide) (by decide)) 0)
theorem EQ.nB {s s1 : SG} (e : EQ s s1) : nB s1 = nB s := congrArg nat (congrFun (e.1 4 (by decide) (by decide)) 0)
theorem EQ.nS {s s1 : SG} (e : EQ s s1) : nS s1 = nS s := congrArg nat (congrFun (e.1 9 (by decide) (by decide)) 0)
theorem EQ.nG {s s1 : SG} (e : EQ s s1) : nG s1 = nG s := congrArg nat (congrFun (e.1 19 (by decide) (by decide)) 0)
theorem EQ.nC {s s1 : SG} (e : EQ s s1) : nC s1 = nC s := congrArg nat (congrFun (e.1 28 (by decide) (by decide)) 0)
theorem EQ.opn {s s1 : SG} (e : EQ s s1) (j k : Nat) : ∀ i, opN s1 j k i = opN s j k i := by
  intro i
  induction i with
  | zero => rfl
  | succ i ih => simp only [opN, ih, e.1 31 (by decide) (by decide)]
theorem EQ.rnd {s s1 : SG} (e : EQ s s1) (j p : Nat) : ∀ f k, rndF s1 j p f k = rndF s j p f k := by
  intro f
  induction f with
  | zero => intro k; rfl
  | succ f ih =>
    intro k
    have h2 : nxK s1 j p k = nxK s j p k := by unfold nxK; rw [e.opn]
    show (if k = 0 then 0 else if opN s1 j k p = 0 then -1 else if rndF s1 j p f (nxK s1 j p k) = -1 then -1 else rndF s1 j p f (nxK s1 j p k) + 1) = _
    rw [e.opn, h2, ih]
    rfl
theorem EQ.op {s s1 : SG} (e : EQ s s1) (j : Nat) : opS s1 j = opS s j := by
  unfold opS rndS
  rw [e.rnd, e.1 30 (by decide) (by decide)]
theorem EQ.life {s s1 : SG} (e : EQ s s1) (j : Nat) (p : Int32) : lifeS s1 j p = lifeS s j p := by
  unfold lifeS
  rw [e.1 34 (by decide) (by decide), e.1 35 (by decide) (by decide), e.1 36 (by decide) (by decide)]
theorem EQ.of {s s1 : SG} (e : EQ s s1) (j : Nat) (p : Int32) : ofS s1 j p = ofS s j p := by
  unfold ofS
  rw [e.life, e.1 29 (by decide) (by decide), e.1 32 (by decide) (by decide), e.1 33 (by decide) (by decide)]
theorem EQ.set {s s1 : SG} (e : EQ s s1) : ∀ i, setF s1 i = setF s i := by
  intro i
  induction i with
  | zero => rfl
  | succ i ih => simp only [setF, ih, e.1 22 (by decide) (by decide)]
theorem q_height {D : DT} {X : XT} {s : SG} {M : MT} {G : GT} {q : Nat} (p0 : Int32) (hW : WD X s M G) (hI : INV X s q) (hq : q < 512) (hk : kHt p0 = 0) : MC yX8_height cX8_height 2 (Option.some Jvm.ClassFile.FieldType.int) rm_X8_height D [.ref (X.1 0 0), .int p0] G (fun v G' => v = some (.int (s.1 15 (nat p0))) ∧ WD X s M G') := by
  obtain ⟨⟨s1, e, hL⟩, hR⟩ := hW
  have i0 := INV.num (by omega) (hI.eq e M G)
  obtain ⟨i1, i2, i3, i4, i5, i6, i7, i8, i9⟩ := i0
  have hn511 : nN s1 < 512 := by have := i6.2.1; omega
  have hn512 : nN s1 ≤ 512 := by omega
  have ek : kHt p0 = kHt p0 := by rfl
  refine MX.mc (c_X8_height D (xA X M G) s1  p0  G hL) (fun v G' hp => ?_) (fun E G' hp => ?_)
  · obtain ⟨s', hL', hv, hs, -⟩ := hp
    subst hs
    exact ⟨hv.trans (by rw [e.1 15 (by decide) (by decide)]), WD.to (X1 := xA X M G) hR hL' rfl e⟩
  · obtain ⟨-, h1⟩ := hp
    exact absurd (hk.symm.trans (ek.symm.trans h1.2)) (by decide)
theorem q_strength {D : DT} {X : XT} {s : SG} {M : MT} {G : GT} {q : Nat} (p0 : Int32) (hW : WD X s M G) (hI : INV X s q) (hq : q < 512) (hk : kPl (nB s) p0 = 0) : MC yX8_strength cX8_strength 3 (Option.some Jvm.ClassFile.FieldType.long) rm_X8_strength D [.ref (X.1 0 0), .int p0] G (fun v G' => v = some (.long (strS s (nat p0))) ∧ WD X s M G') := by
  obtain ⟨⟨s1, e, hL⟩, hR⟩ := hW
  have i0 := INV.num (by omega) (hI.eq e M G)
  obtain ⟨i1, i2, i3, i4, i5, i6, i7, i8, i9⟩ := i0
  have hn511 : nN s1 < 512 := by have := i6.2.1; omega
  have hn512 : nN s1 ≤ 512 := by omega
  have ek : kPl (nB s1) p0 = kPl (nB s) p0 := by rw [e.nB]
  refine MX.mc (c_X8_strength D (xA X M G) s1 _ p0 (ipw i2 i1.2.1) i2.1 i2.2.1 i2.2.2.1 G hL) (fun v G' hp => ?_) (fun E G' hp => ?_)
  · obtain ⟨s', hL', hv, hs, -⟩ := hp
    subst hs
    exact ⟨hv.trans (by rw [e.str]), WD.to (X1 := xA X M G) hR hL' rfl e⟩
  · obtain ⟨-, h1⟩ := hp
    exact absurd (hk.symm.trans (ek.symm.trans h1.2)) (by decide)
theorem q_bears {D : DT} {X : XT} {s : SG} {M : MT} {G : GT} {q : Nat} (p0 : Int32) (p1 : Int32) (hW : WD X s M G) (hI : INV X s q) (hq : q < 512) (hk : kBe (nB s) p0 p1 = 0) : MC yX8_bears cX8_bears 5 (Option.some Jvm.ClassFile.FieldType.long) rm_X8_bears D [.ref (X.1 0 0), .int p0, .int p1] G (fun v G' => v = some (.long (finL s (nB s) (nS s) (nat p0) (nat p1))) ∧ WD X s M G') := by
  obtain ⟨⟨s1, e, hL⟩, hR⟩ := hW
  have i0 := INV.num (by omega) (hI.eq e M G)
  obtain ⟨i1, i2, i3, i4, i5, i6, i7, i8, i9⟩ := i0
  have hn511 : nN s1 < 512 := by have := i6.2.1; omega
  have hn512 : nN s1 ≤ 512 := by omega
  have ek : kBe (nB s1) p0 p1 = kBe (nB s) p0 p1 := by rw [e.nB]
  refine MX.mc (c_X8_bears D (xA X M G) s1 _ _ p0 p1 (ipw i2 i1.2.1) i3.SV i2.2.1 i3.2.1 (inv_gok i1 i2 i3).2.2.2.1 i2.1 i2.2.2.1 i3.2.2.1 G hL) (fun v G' hp => ?_) (fun E G' hp => ?_)
  · obtain ⟨s', hL', hv, hs, -⟩ := hp
    obtain ⟨L, rfl⟩ := hs
    exact ⟨hv.trans (by rw [e.fin, e.nB, e.nS]), WD.to (X1 := xA X M G) hR hL' rfl (e.tr (EQ.sK _ L))⟩
  · obtain ⟨-, h1⟩ := hp
    exact absurd (hk.symm.trans (ek.symm.trans h1.2)) (by decide)
theorem q_bearsAnew {D : DT} {X : XT} {s : SG} {M : MT} {G : GT} {q : Nat} (p0 : Int32) (p1 : Int32) (hW : WD X s M G) (hI : INV X s q) (hq : q < 512) (hk : kBe (nB s) p0 p1 = 0) : MC yX8_bearsAnew cX8_bearsAnew 5 (Option.some Jvm.ClassFile.FieldType.long) rm_X8_bearsAnew D [.ref (X.1 0 0), .int p0, .int p1] G (fun v G' => v = some (.long (finL s (nB s) (nS s) (nat p0) (nat p1))) ∧ WD X s M G') := by
  obtain ⟨⟨s1, e, hL⟩, hR⟩ := hW
  have i0 := INV.num (by omega) (hI.eq e M G)
  obtain ⟨i1, i2, i3, i4, i5, i6, i7, i8, i9⟩ := i0
  have hn511 : nN s1 < 512 := by have := i6.2.1; omega
  have hn512 : nN s1 ≤ 512 := by omega
  have ek : kBe (nB s1) p0 p1 = kBe (nB s) p0 p1 := by rw [e.nB]
  refine MX.mc (c_X8_bearsAnew D (xA X M G) s1 _ _ p0 p1 (ipw i2 i1.2.1) (inv_gok i1 i2 i3) i2.1 i2.2.1 i2.2.2.1 i3.2.2.1 G hL) (fun v G' hp => ?_) (fun E G' hp => ?_)
  · obtain ⟨s', hL', hv, hs, -⟩ := hp
    obtain ⟨g9, rfl⟩ := hs
    exact ⟨hv.trans (by rw [e.fin, e.nB, e.nS]), WD.to (X1 := xA X M G) hR hL' rfl (e.tr (EQ.sG _ g9))⟩
  · obtain ⟨-, h1⟩ := hp
    exact absurd (hk.symm.trans (ek.symm.trans h1.2)) (by decide)
theorem q_roll {D : DT} {X : XT} {s : SG} {M : MT} {G : GT} {q : Nat} (p0 : Int32) (hW : WD X s M G) (hI : INV X s q) (hq : q < 512) (hk : kRoll (nA s) p0 = 0) : MC yX8_roll cX8_roll 3 (Option.some Jvm.ClassFile.FieldType.int) rm_X8_roll D [.ref (X.1 0 0), .int p0] G (fun v G' => v = some (.int (s.1 39 (nat p0) + s.1 41 (nat p0))) ∧ WD X s M G') := by
  obtain ⟨⟨s1, e, hL⟩, hR⟩ := hW
  have i0 := INV.num (by omega) (hI.eq e M G)
  obtain ⟨i1, i2, i3, i4, i5, i6, i7, i8, i9⟩ := i0
  have hn511 : nN s1 < 512 := by have := i6.2.1; omega
  have hn512 : nN s1 ≤ 512 := by omega
  have ek : kRoll (nA s1) p0 = kRoll (nA s) p0 := by rw [e.nA]
  refine MX.mc (c_X8_roll D (xA X M G) s1 _ p0 i1.1 i1.2.1 i1.2.2.1 G hL) (fun v G' hp => ?_) (fun E G' hp => ?_)
  · obtain ⟨s', hL', hv, hs, -⟩ := hp
    subst hs
    exact ⟨hv.trans (by rw [e.1 39 (by decide) (by decide), e.1 41 (by decide) (by decide)]), WD.to (X1 := xA X M G) hR hL' rfl e⟩
  · obtain ⟨-, h1⟩ := hp
    exact absurd (hk.symm.trans (ek.symm.trans h1.2)) (by decide)
theorem q_pulled {D : DT} {X : XT} {s : SG} {M : MT} {G : GT} {q : Nat} (p0 : Int32) (hW : WD X s M G) (hI : INV X s q) (hq : q < 512) (hk : kPul (nG s) p0 = 0) : MC yX8_pulled cX8_pulled 3 (Option.some Jvm.ClassFile.FieldType.long) rm_X8_pulled D [.ref (X.1 0 0), .int p0] G (fun v G' => v = some (.long (s.2 23 (nat p0))) ∧ WD X s M G') := by
  obtain ⟨⟨s1, e, hL⟩, hR⟩ := hW
  have i0 := INV.num (by omega) (hI.eq e M G)
  obtain ⟨i1, i2, i3, i4, i5, i6, i7, i8, i9⟩ := i0
  have hn511 : nN s1 < 512 := by have := i6.2.1; omega
  have hn512 : nN s1 ≤ 512 := by omega
  have ek : kPul (nG s1) p0 = kPul (nG s) p0 := by rw [e.nG]
  refine MX.mc (c_X8_pulled D (xA X M G) s1 _ p0 i4.1 i4.2.1 i4.2.2.1 G hL) (fun v G' hp => ?_) (fun E G' hp => ?_)
  · obtain ⟨s', hL', hv, hs, -⟩ := hp
    subst hs
    exact ⟨hv.trans (by rw [e.2 23 (by decide)]), WD.to (X1 := xA X M G) hR hL' rfl e⟩
  · obtain ⟨-, h1⟩ := hp
    exact absurd (hk.symm.trans (ek.symm.trans h1.2)) (by decide)
theorem q_opens {D : DT} {X : XT} {s : SG} {M : MT} {G : GT} {q : Nat} (p0 : Int32) (hW : WD X s M G) (hI : INV X s q) (hq : q < 512) (hk : kOp (nC s) p0 = 0) : MC yX8_opens cX8_opens 3 (Option.some Jvm.ClassFile.FieldType.int) rm_X8_opens D [.ref (X.1 0 0), .int p0] G (fun v G' => v = some (.int (opS s (nat p0))) ∧ WD X s M G') := by
  obtain ⟨⟨s1, e, hL⟩, hR⟩ := hW
  have i0 := INV.num (by omega) (hI.eq e M G)
  obtain ⟨i1, i2, i3, i4, i5, i6, i7, i8, i9⟩ := i0
  have hn511 : nN s1 < 512 := by have := i6.2.1; omega
  have hn512 : nN s1 ≤ 512 := by omega
  have ek : kOp (nC s1) p0 = kOp (nC s) p0 := by rw [e.nC]
  refine MX.mc (c_X8_opens D (xA X M G) s1 _ p0 (i5.CV i1.2.1) i5.1 i5.2.1 i5.2.2.1 G hL) (fun v G' hp => ?_) (fun E G' hp => ?_)
  · obtain ⟨s', hL', hv, hs, -⟩ := hp
    subst hs
    exact ⟨hv.trans (by rw [e.op]), WD.to (X1 := xA X M G) hR hL' rfl e⟩
  · obtain ⟨-, h1⟩ := hp
    exact absurd (hk.symm.trans (ek.symm.trans h1.2)) (by decide)
theorem q_ofCanopy {D : DT} {X : XT} {s : SG} {M : MT} {G : GT} {q : Nat} (p0 : Int32) (p1 : Int32) (hW : WD X s M G) (hI : INV X s q) (hq : q < 512) (hk : kOf (nC s) p0 p1 0 5 = 0) : MC yX8_ofCanopy cX8_ofCanopy 4 (Option.some Jvm.ClassFile.FieldType.int) rm_X8_ofCanopy D [.ref (X.1 0 0), .int p0, .int p1] G (fun v G' => v = some (.int (ofS s (nat p0) p1)) ∧ WD X s M G') := by
  obtain ⟨⟨s1, e, hL⟩, hR⟩ := hW
  have i0 := INV.num (by omega) (hI.eq e M G)
  obtain ⟨i1, i2, i3, i4, i5, i6, i7, i8, i9⟩ := i0
  have hn511 : nN s1 < 512 := by have := i6.2.1; omega
  have hn512 : nN s1 ≤ 512 := by omega
  have ek : kOf (nC s1) p0 p1 0 5 = kOf (nC s) p0 p1 0 5 := by rw [e.nC]
  refine MX.mc (c_X8_ofCanopy D (xA X M G) s1 _ p0 p1 (i5.CV i1.2.1) i5.1 i5.2.1 i5.2.2.1 G hL) (fun v G' hp => ?_) (fun E G' hp => ?_)
  · obtain ⟨s', hL', hv, hs, -⟩ := hp
    subst hs
    exact ⟨hv.trans (by rw [e.of]), WD.to (X1 := xA X M G) hR hL' rfl e⟩
  · obtain ⟨-, h1 | h1⟩ := hp
    · exact absurd (hk.symm.trans (ek.symm.trans h1.2)) (by decide)
    · exact absurd (hk.symm.trans (ek.symm.trans h1.2)) (by decide)
theorem q_lifeAnew {D : DT} {X : XT} {s : SG} {M : MT} {G : GT} {q : Nat} (p0 : Int32) (p1 : Int32) (hW : WD X s M G) (hI : INV X s q) (hq : q < 512) (hk : kOf (nC s) p0 p1 3 5 = 0) : MC yX8_lifeAnew cX8_lifeAnew 3 (Option.some Jvm.ClassFile.FieldType.int) rm_X8_lifeAnew D [.ref (X.1 0 0), .int p0, .int p1] G (fun v G' => v = some (.int (lifeS s (nat p0) p1)) ∧ WD X s M G') := by
  obtain ⟨⟨s1, e, hL⟩, hR⟩ := hW
  have i0 := INV.num (by omega) (hI.eq e M G)
  obtain ⟨i1, i2, i3, i4, i5, i6, i7, i8, i9⟩ := i0
  have hn511 : nN s1 < 512 := by have := i6.2.1; omega
  have hn512 : nN s1 ≤ 512 := by omega
  have ek : kOf (nC s1) p0 p1 3 5 = kOf (nC s) p0 p1 3 5 := by rw [e.nC]
  refine MX.mc (c_X8_lifeAnew D (xA X M G) s1 _ _ p0 p1 (i5.CV i1.2.1) i6.LG i6.1 hn512 i5.1 i5.2.1 i5.2.2.1 G hL) (fun v G' hp => ?_) (fun E G' hp => ?_)
  · obtain ⟨s', hL', hv, hs, -⟩ := hp
    subst hs
    exact ⟨hv.trans (by rw [e.life]), WD.to (X1 := xA X M G) hR hL' rfl e⟩
  · obtain ⟨-, h1 | h1⟩ := hp
    · exact absurd (hk.symm.trans (ek.symm.trans h1.2)) (by decide)
    · exact absurd (hk.symm.trans (ek.symm.trans h1.2)) (by decide)
theorem q_pegs {D : DT} {X : XT} {s : SG} {M : MT} {G : GT} {q : Nat} (hW : WD X s M G) (hI : INV X s q) (hq : q < 512) : MC yX8_pegs cX8_pegs 4 (Option.some Jvm.ClassFile.FieldType.int) rm_X8_pegs D [.ref (X.1 0 0)] G (fun v G' => v = some (.int (setF s (nG s))) ∧ WD X s M G') := by
  obtain ⟨⟨s1, e, hL⟩, hR⟩ := hW
  have i0 := INV.num (by omega) (hI.eq e M G)
  obtain ⟨i1, i2, i3, i4, i5, i6, i7, i8, i9⟩ := i0
  refine MC.imp (c_X8_pegs D (xA X M G) s1 _ i4.1 i4.2.1 i4.2.2.1 G hL) (fun v G' hp => ?_)
  obtain ⟨s', hL', hv, hs⟩ := hp
  subst hs
  exact ⟨hv.trans (by rw [e.set, e.nG]), WD.to (X1 := xA X M G) hR hL' rfl e⟩
theorem q_power {D : DT} {X : XT} {s : SG} {M : MT} {G : GT} {h t r : Nat} (p0 : Int32) (hW : WD X s M G) (e1 : s.1 24 0 = nI h) (e2 : s.1 25 0 = nI t) (e3 : s.1 26 0 = nI r) (hh : h < 101) (ht : t < 101) (hr : r < 4) (hk : kPow p0 = 0) : MC yX8_power cX8_power 2 (Option.some Jvm.ClassFile.FieldType.float) rm_X8_power D [.ref (X.1 0 0), .int p0] G (fun v G' => v = some (.float (pwI h t r (nat p0))) ∧ WD X s M G') := by
  obtain ⟨⟨s1, e, hL⟩, hR⟩ := hW
  refine MX.mc (c_X8_power D (xA X M G) s1 h t r p0 ((congrFun (e.1 24 (by decide) (by decide)) 0).trans e1) ((congrFun (e.1 25 (by decide) (by decide)) 0).trans e2) ((congrFun (e.1 26 (by decide) (by decide)) 0).trans e3) hh ht hr G hL) (fun v G' hp => ?_) (fun E G' hp => ?_)
  · obtain ⟨s', hL', hv, hs, -⟩ := hp
    subst hs
    exact ⟨hv, WD.to (X1 := xA X M G) hR hL' rfl e⟩
  · obtain ⟨-, -, h1⟩ := hp
    exact absurd (hk.symm.trans h1) (by decide)
