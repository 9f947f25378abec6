theorem lw_in {ws : List Cond} (ps : List Nat) (h : ps.map (fun i => lw_tbl[i]?) = ws.map some) (hg : ws.all goodWord = true) : ∀ w ∈ ws, w ∈ lw_all := by
  intro w hw
  obtain ⟨k, hk⟩ := List.getElem?_of_mem hw
  have h1 : (ps.map (fun i => lw_tbl[i]?))[k]? = some (some w) := by rw [h, List.getElem?_map, hk]; rfl
  rw [List.getElem?_map] at h1
  cases hi : ps[k]? with
  | none => rw [hi] at h1; cases h1
  | some i =>
    rw [hi] at h1
    exact lw_mem i (Option.some.inj h1) (List.all_eq_true.mp hg w hw)
theorem inA0 : ∀ w ∈ u_ws RX0 TX0 10, w ∈ lw_all := lw_in [570, 572, 574, 576, 578, 580, 582, 584, 586, 588] (by decide +kernel) (by decide +kernel)
theorem inA1 : ∀ w ∈ u_ws RX1 TX1 2, w ∈ lw_all := lw_in [98, 100] (by decide +kernel) (by decide +kernel)
theorem inA2 : ∀ w ∈ u_ws RX2 TX2 8, w ∈ lw_all := lw_in [275, 277, 279, 281, 283, 285, 287, 289] (by decide +kernel) (by decide +kernel)
theorem inA3 : ∀ w ∈ u_ws RX3 TX3 4, w ∈ lw_all := lw_in [57, 59, 61, 63] (by decide +kernel) (by decide +kernel)
theorem inA4 : ∀ w ∈ u_ws RX4 TX4 5, w ∈ lw_all := lw_in [341, 343, 345, 347, 349] (by decide +kernel) (by decide +kernel)
theorem inA5 : ∀ w ∈ u_ws RX5 TX5 4, w ∈ lw_all := lw_in [732, 734, 736, 738] (by decide +kernel) (by decide +kernel)
theorem inA6 : ∀ w ∈ u_ws RX6 TX6 3, w ∈ lw_all := lw_in [81, 83, 85] (by decide +kernel) (by decide +kernel)
theorem inA7 : ∀ w ∈ u_ws RX7 TX7 3, w ∈ lw_all := lw_in [401, 403, 405] (by decide +kernel) (by decide +kernel)
theorem inA8 : ∀ w ∈ u_ws RX8 TX8 14, w ∈ lw_all := lw_in [118, 120, 122, 124, 126, 128, 130, 132, 134, 136, 138, 140, 142, 144] (by decide +kernel) (by decide +kernel)
theorem fw_X0_9 : FW "BroadseamLoft$Canopy" 9 0 2 (.array .int) true := ⟨RX0, TX0, 10, tyX0, rfl, by decide, (lw_mem 554 (by decide +kernel) rfl), inA0, tyX0_ok, nmX0, rfl, rfl, fun _ => rfl⟩
theorem fw_X0_15 : FW "BroadseamLoft$Canopy" 15 0 4 (.int) false := ⟨RX0, TX0, 10, tyX0, rfl, by decide, (lw_mem 558 (by decide +kernel) rfl), inA0, tyX0_ok, nmX0, rfl, rfl, by decide⟩
theorem fw_X0_19 : FW "BroadseamLoft$Canopy" 19 0 5 (.int) false := ⟨RX0, TX0, 10, tyX0, rfl, by decide, (lw_mem 560 (by decide +kernel) rfl), inA0, tyX0_ok, nmX0, rfl, rfl, by decide⟩
theorem fw_X0_22 : FW "BroadseamLoft$Canopy" 22 0 0 (.object "BroadseamLoft$Lot") true := ⟨RX0, TX0, 10, tyX0, rfl, by decide, (lw_mem 550 (by decide +kernel) rfl), inA0, tyX0_ok, nmX0, rfl, rfl, fun _ => rfl⟩
theorem fw_X0_26 : FW "BroadseamLoft$Canopy" 26 0 1 (.int) true := ⟨RX0, TX0, 10, tyX0, rfl, by decide, (lw_mem 552 (by decide +kernel) rfl), inA0, tyX0_ok, nmX0, rfl, rfl, fun _ => rfl⟩
theorem fl_X0_19 : FL "BroadseamLoft$Canopy" 19 0 5 := ⟨RX0, TX0, 10, rfl, by decide, (lw_mem 560 (by decide +kernel) rfl), inA0⟩
theorem cw_X0_29 : CWm "BroadseamLoft$Canopy" 29 yX0_isSealed cX0_isSealed 1 (Option.some Jvm.ClassFile.FieldType.boolean) 0 := ⟨(lw_mem 629 (by decide +kernel) rfl), (lw_mem 28 (by decide +kernel) rfl), (lw_mem 605 (by decide +kernel) rfl), by decide +kernel, by decide +kernel, by decide +kernel⟩
theorem im_yX0_isSealed : Cond.instanceMethod yX0_isSealed ∈ lw_all := (lw_mem 603 (by decide +kernel) rfl)
theorem se_yX0_isSealed : Cond.selects yX0_isSealed.cls yX0_isSealed yX0_isSealed ∈ lw_all := (lw_mem 604 (by decide +kernel) rfl)
theorem fl_X0_22 : FL "BroadseamLoft$Canopy" 22 0 0 := ⟨RX0, TX0, 10, rfl, by decide, (lw_mem 550 (by decide +kernel) rfl), inA0⟩
theorem fl_X0_33 : FL "BroadseamLoft$Canopy" 33 2 4 := ⟨RX2, TX2, 8, rfl, by decide, (lw_mem 270 (by decide +kernel) rfl), inA2⟩
theorem fl_X0_39 : FL "BroadseamLoft$Canopy" 39 0 3 := ⟨RX0, TX0, 10, rfl, by decide, (lw_mem 556 (by decide +kernel) rfl), inA0⟩
theorem fl_X0_42 : FL "BroadseamLoft$Canopy" 42 0 9 := ⟨RX0, TX0, 10, rfl, by decide, (lw_mem 568 (by decide +kernel) rfl), inA0⟩
theorem cw_X0_45 : CWm "BroadseamLoft$Canopy" 45 yX0_roundsToOpen cX0_roundsToOpen 3 (Option.some Jvm.ClassFile.FieldType.int) 0 := ⟨(lw_mem 630 (by decide +kernel) rfl), (lw_mem 28 (by decide +kernel) rfl), (lw_mem 614 (by decide +kernel) rfl), by decide +kernel, by decide +kernel, by decide +kernel⟩
theorem im_yX0_roundsToOpen : Cond.instanceMethod yX0_roundsToOpen ∈ lw_all := (lw_mem 612 (by decide +kernel) rfl)
theorem se_yX0_roundsToOpen : Cond.selects yX0_roundsToOpen.cls yX0_roundsToOpen yX0_roundsToOpen ∈ lw_all := (lw_mem 613 (by decide +kernel) rfl)
theorem cw_X0_49 : CWm "BroadseamLoft$Canopy" 49 yX0_shutAfterRound cX0_shutAfterRound 4 (Option.some Jvm.ClassFile.FieldType.int) 1 := ⟨(lw_mem 615 (by decide +kernel) rfl), (lw_mem 28 (by decide +kernel) rfl), (lw_mem 618 (by decide +kernel) rfl), by decide +kernel, by decide +kernel, by decide +kernel⟩
theorem im_yX0_shutAfterRound : Cond.instanceMethod yX0_shutAfterRound ∈ lw_all := (lw_mem 616 (by decide +kernel) rfl)
theorem se_yX0_shutAfterRound : Cond.selects yX0_shutAfterRound.cls yX0_shutAfterRound yX0_shutAfterRound ∈ lw_all := (lw_mem 617 (by decide +kernel) rfl)
theorem fl_X0_9 : FL "BroadseamLoft$Canopy" 9 0 2 := ⟨RX0, TX0, 10, rfl, by decide, (lw_mem 554 (by decide +kernel) rfl), inA0⟩
theorem fl_X0_26 : FL "BroadseamLoft$Canopy" 26 0 1 := ⟨RX0, TX0, 10, rfl, by decide, (lw_mem 552 (by decide +kernel) rfl), inA0⟩
theorem fl_X0_15 : FL "BroadseamLoft$Canopy" 15 0 4 := ⟨RX0, TX0, 10, rfl, by decide, (lw_mem 558 (by decide +kernel) rfl), inA0⟩
theorem fl_X0_53 : FL "BroadseamLoft$Canopy" 53 0 6 := ⟨RX0, TX0, 10, rfl, by decide, (lw_mem 562 (by decide +kernel) rfl), inA0⟩
theorem fl_X0_56 : FL "BroadseamLoft$Canopy" 56 0 7 := ⟨RX0, TX0, 10, rfl, by decide, (lw_mem 564 (by decide +kernel) rfl), inA0⟩
theorem fl_X0_59 : FL "BroadseamLoft$Canopy" 59 0 8 := ⟨RX0, TX0, 10, rfl, by decide, (lw_mem 566 (by decide +kernel) rfl), inA0⟩
theorem fw_X1_9 : FW "BroadseamLoft$Log" 9 1 0 (.array .byte) true := ⟨RX1, TX1, 2, tyX1, rfl, by decide, (lw_mem 96 (by decide +kernel) rfl), inA1, tyX1_ok, nmX1, rfl, rfl, fun _ => rfl⟩
theorem fl_X1_15 : FL "BroadseamLoft$Log" 15 1 1 := ⟨RX1, TX1, 2, rfl, by decide, (lw_mem 97 (by decide +kernel) rfl), inA1⟩
theorem fl_X1_9 : FL "BroadseamLoft$Log" 9 1 0 := ⟨RX1, TX1, 2, rfl, by decide, (lw_mem 96 (by decide +kernel) rfl), inA1⟩
theorem fw_X1_15 : FW "BroadseamLoft$Log" 15 1 1 (.int) false := ⟨RX1, TX1, 2, tyX1, rfl, by decide, (lw_mem 97 (by decide +kernel) rfl), inA1, tyX1_ok, nmX1, rfl, rfl, by decide⟩
theorem fw_X2_9 : FW "BroadseamLoft$Lot" 9 2 0 (.int) true := ⟨RX2, TX2, 8, tyX2, rfl, by decide, (lw_mem 265 (by decide +kernel) rfl), inA2, tyX2_ok, nmX2, rfl, rfl, fun _ => rfl⟩
theorem fw_X2_15 : FW "BroadseamLoft$Lot" 15 2 1 (.int) true := ⟨RX2, TX2, 8, tyX2, rfl, by decide, (lw_mem 266 (by decide +kernel) rfl), inA2, tyX2_ok, nmX2, rfl, rfl, fun _ => rfl⟩
theorem fw_X2_18 : FW "BroadseamLoft$Lot" 18 2 2 (.int) true := ⟨RX2, TX2, 8, tyX2, rfl, by decide, (lw_mem 267 (by decide +kernel) rfl), inA2, tyX2_ok, nmX2, rfl, rfl, fun _ => rfl⟩
theorem fl_X2_9 : FL "BroadseamLoft$Lot" 9 2 0 := ⟨RX2, TX2, 8, rfl, by decide, (lw_mem 265 (by decide +kernel) rfl), inA2⟩
theorem fl_X2_15 : FL "BroadseamLoft$Lot" 15 2 1 := ⟨RX2, TX2, 8, rfl, by decide, (lw_mem 266 (by decide +kernel) rfl), inA2⟩
theorem fl_X2_18 : FL "BroadseamLoft$Lot" 18 2 2 := ⟨RX2, TX2, 8, rfl, by decide, (lw_mem 267 (by decide +kernel) rfl), inA2⟩
theorem fl_X2_21 : FL "BroadseamLoft$Lot" 21 2 3 := ⟨RX2, TX2, 8, rfl, by decide, (lw_mem 268 (by decide +kernel) rfl), inA2⟩
theorem cw_X2_24 : CWm "BroadseamLoft$Lot" 24 yJ9_max_7cf53 cJ9_max_7cf53 2 (Option.some Jvm.ClassFile.FieldType.int) 2 := ⟨(lw_mem 356 (by decide +kernel) rfl), (lw_mem 24 (by decide +kernel) rfl), (lw_mem 358 (by decide +kernel) rfl), by decide +kernel, by decide +kernel, by decide +kernel⟩
theorem sm_yJ9_max_7cf53 : Cond.static yJ9_max_7cf53 ∈ lw_all := (lw_mem 357 (by decide +kernel) rfl)
theorem k_X2_30 : Cond.constantLong "BroadseamLoft$Lot" 30 (1000) ∈ lw_all := (lw_mem 376 (by decide +kernel) rfl)
theorem fl_X2_32 : FL "BroadseamLoft$Lot" 32 2 6 := ⟨RX2, TX2, 8, rfl, by decide, (lw_mem 273 (by decide +kernel) rfl), inA2⟩
theorem fl_X2_35 : FL "BroadseamLoft$Lot" 35 2 5 := ⟨RX2, TX2, 8, rfl, by decide, (lw_mem 272 (by decide +kernel) rfl), inA2⟩
theorem fl_X2_38 : FL "BroadseamLoft$Lot" 38 2 7 := ⟨RX2, TX2, 8, rfl, by decide, (lw_mem 274 (by decide +kernel) rfl), inA2⟩
theorem fw_X2_35 : FW "BroadseamLoft$Lot" 35 2 5 (.int) false := ⟨RX2, TX2, 8, tyX2, rfl, by decide, (lw_mem 272 (by decide +kernel) rfl), inA2, tyX2_ok, nmX2, rfl, rfl, by decide⟩
theorem fw_X2_32 : FW "BroadseamLoft$Lot" 32 2 6 (.int) false := ⟨RX2, TX2, 8, tyX2, rfl, by decide, (lw_mem 273 (by decide +kernel) rfl), inA2, tyX2_ok, nmX2, rfl, rfl, by decide⟩
theorem fw_X2_38 : FW "BroadseamLoft$Lot" 38 2 7 (.int) false := ⟨RX2, TX2, 8, tyX2, rfl, by decide, (lw_mem 274 (by decide +kernel) rfl), inA2, tyX2_ok, nmX2, rfl, rfl, by decide⟩
theorem fw_X3_9 : FW "BroadseamLoft$Net" 9 3 0 (.array .int) true := ⟨RX3, TX3, 4, tyX3, rfl, by decide, (lw_mem 50 (by decide +kernel) rfl), inA3, tyX3_ok, nmX3, rfl, rfl, fun _ => rfl⟩
theorem fw_X3_13 : FW "BroadseamLoft$Net" 13 3 1 (.array .int) true := ⟨RX3, TX3, 4, tyX3, rfl, by decide, (lw_mem 52 (by decide +kernel) rfl), inA3, tyX3_ok, nmX3, rfl, rfl, fun _ => rfl⟩
theorem fw_X3_16 : FW "BroadseamLoft$Net" 16 3 2 (.array .boolean) true := ⟨RX3, TX3, 4, tyX3, rfl, by decide, (lw_mem 53 (by decide +kernel) rfl), inA3, tyX3_ok, nmX3, rfl, rfl, fun _ => rfl⟩
theorem fl_X3_16 : FL "BroadseamLoft$Net" 16 3 2 := ⟨RX3, TX3, 4, rfl, by decide, (lw_mem 53 (by decide +kernel) rfl), inA3⟩
theorem fl_X3_9 : FL "BroadseamLoft$Net" 9 3 0 := ⟨RX3, TX3, 4, rfl, by decide, (lw_mem 50 (by decide +kernel) rfl), inA3⟩
theorem fl_X3_13 : FL "BroadseamLoft$Net" 13 3 1 := ⟨RX3, TX3, 4, rfl, by decide, (lw_mem 52 (by decide +kernel) rfl), inA3⟩
theorem cw_X3_26 : CWm "BroadseamLoft$Net" 26 yX3_pulledHeight cX3_pulledHeight 11 (Option.some Jvm.ClassFile.FieldType.int) 1 := ⟨(lw_mem 481 (by decide +kernel) rfl), (lw_mem 14 (by decide +kernel) rfl), (lw_mem 484 (by decide +kernel) rfl), by decide +kernel, by decide +kernel, by decide +kernel⟩
theorem im_yX3_pulledHeight : Cond.instanceMethod yX3_pulledHeight ∈ lw_all := (lw_mem 482 (by decide +kernel) rfl)
theorem se_yX3_pulledHeight : Cond.selects yX3_pulledHeight.cls yX3_pulledHeight yX3_pulledHeight ∈ lw_all := (lw_mem 483 (by decide +kernel) rfl)
theorem k_X3_30 : Cond.constantLong "BroadseamLoft$Net" 30 (5) ∈ lw_all := (lw_mem 485 (by decide +kernel) rfl)
theorem cn_X3_32 : Cond.methodLinkNest "BroadseamLoft$Net" 32 yX8_isOutside "BroadseamLoft" ∈ ngW := List.mem_of_getElem? (i := 16) rfl
theorem cm_yX8_isOutside : Cond.initialized yX8_isOutside.cls ∈ lw_all ∧ Cond.code yX8_isOutside cX8_isOutside 6 (Option.some Jvm.ClassFile.FieldType.boolean) ∈ lw_all ∧ yX8_isOutside.cls ≠ "java/lang/invoke/MethodHandle" ∧ yX8_isOutside.cls ≠ "java/lang/invoke/VarHandle" ∧ (parseMethodDescriptor yX8_isOutside.desc).map (fun d => d.parameters.length) = some 3 := ⟨(lw_mem 13 (by decide +kernel) rfl), (lw_mem 176 (by decide +kernel) rfl), by decide +kernel, by decide +kernel, by decide +kernel⟩
theorem sm_yX8_isOutside : Cond.static yX8_isOutside ∈ lw_all := (lw_mem 175 (by decide +kernel) rfl)
theorem cw_X3_38 : CWm "BroadseamLoft$Net" 38 yJ9_max_7cf53 cJ9_max_7cf53 2 (Option.some Jvm.ClassFile.FieldType.int) 2 := ⟨(lw_mem 487 (by decide +kernel) rfl), (lw_mem 24 (by decide +kernel) rfl), (lw_mem 358 (by decide +kernel) rfl), by decide +kernel, by decide +kernel, by decide +kernel⟩
theorem cw_X3_44 : CWm "BroadseamLoft$Net" 44 yJ9_floorDiv_7cf53 cJ9_floorDiv_7cf53 3 (Option.some Jvm.ClassFile.FieldType.int) 2 := ⟨(lw_mem 488 (by decide +kernel) rfl), (lw_mem 24 (by decide +kernel) rfl), (lw_mem 490 (by decide +kernel) rfl), by decide +kernel, by decide +kernel, by decide +kernel⟩
theorem sm_yJ9_floorDiv_7cf53 : Cond.static yJ9_floorDiv_7cf53 ∈ lw_all := (lw_mem 489 (by decide +kernel) rfl)
theorem fl_X3_47 : FL "BroadseamLoft$Net" 47 3 3 := ⟨RX3, TX3, 4, rfl, by decide, (lw_mem 55 (by decide +kernel) rfl), inA3⟩
theorem cw_X3_51 : CWm "BroadseamLoft$Net" 51 yJ9_min_7cf53 cJ9_min_7cf53 2 (Option.some Jvm.ClassFile.FieldType.int) 2 := ⟨(lw_mem 491 (by decide +kernel) rfl), (lw_mem 24 (by decide +kernel) rfl), (lw_mem 321 (by decide +kernel) rfl), by decide +kernel, by decide +kernel, by decide +kernel⟩
theorem sm_yJ9_min_7cf53 : Cond.static yJ9_min_7cf53 ∈ lw_all := (lw_mem 320 (by decide +kernel) rfl)
theorem fw_X4_7 : FW "BroadseamLoft$Panel" 7 4 0 (.object "BroadseamLoft$Lot") true := ⟨RX4, TX4, 5, tyX4, rfl, by decide, (lw_mem 335 (by decide +kernel) rfl), inA4, tyX4_ok, nmX4, rfl, rfl, fun _ => rfl⟩
theorem fw_X4_13 : FW "BroadseamLoft$Panel" 13 4 1 (.int) true := ⟨RX4, TX4, 5, tyX4, rfl, by decide, (lw_mem 336 (by decide +kernel) rfl), inA4, tyX4_ok, nmX4, rfl, rfl, fun _ => rfl⟩
theorem fw_X4_17 : FW "BroadseamLoft$Panel" 17 4 2 (.int) true := ⟨RX4, TX4, 5, tyX4, rfl, by decide, (lw_mem 337 (by decide +kernel) rfl), inA4, tyX4_ok, nmX4, rfl, rfl, fun _ => rfl⟩
theorem fl_X4_7 : FL "BroadseamLoft$Panel" 7 4 0 := ⟨RX4, TX4, 5, rfl, by decide, (lw_mem 335 (by decide +kernel) rfl), inA4⟩
theorem fl_X4_17 : FL "BroadseamLoft$Panel" 17 4 2 := ⟨RX4, TX4, 5, rfl, by decide, (lw_mem 337 (by decide +kernel) rfl), inA4⟩
theorem cw_X4_20 : CWm "BroadseamLoft$Panel" 20 yX2_strengthAlong cX2_strengthAlong 4 (Option.some Jvm.ClassFile.FieldType.long) 1 := ⟨(lw_mem 372 (by decide +kernel) rfl), (lw_mem 22 (by decide +kernel) rfl), (lw_mem 375 (by decide +kernel) rfl), by decide +kernel, by decide +kernel, by decide +kernel⟩
theorem im_yX2_strengthAlong : Cond.instanceMethod yX2_strengthAlong ∈ lw_all := (lw_mem 373 (by decide +kernel) rfl)
theorem se_yX2_strengthAlong : Cond.selects yX2_strengthAlong.cls yX2_strengthAlong yX2_strengthAlong ∈ lw_all := (lw_mem 374 (by decide +kernel) rfl)
theorem fl_X4_13 : FL "BroadseamLoft$Panel" 13 4 1 := ⟨RX4, TX4, 5, rfl, by decide, (lw_mem 336 (by decide +kernel) rfl), inA4⟩
theorem fw_X5_7 : FW "BroadseamLoft$Peg" 7 5 2 (.boolean) false := ⟨RX5, TX5, 4, tyX5, rfl, by decide, (lw_mem 729 (by decide +kernel) rfl), inA5, tyX5_ok, nmX5, rfl, rfl, by decide⟩
theorem fw_X5_13 : FW "BroadseamLoft$Peg" 13 5 0 (.long) true := ⟨RX5, TX5, 4, tyX5, rfl, by decide, (lw_mem 725 (by decide +kernel) rfl), inA5, tyX5_ok, nmX5, rfl, rfl, fun _ => rfl⟩
theorem fw_X5_17 : FW "BroadseamLoft$Peg" 17 5 1 (.int) true := ⟨RX5, TX5, 4, tyX5, rfl, by decide, (lw_mem 727 (by decide +kernel) rfl), inA5, tyX5_ok, nmX5, rfl, rfl, fun _ => rfl⟩
theorem k_X6_7 : Cond.constantFloat "BroadseamLoft$Sail" 7 (1041865114) ∈ lw_all := (lw_mem 511 (by decide +kernel) rfl)
theorem k_X6_8 : Cond.constantFloat "BroadseamLoft$Sail" 8 (981668463) ∈ lw_all := (lw_mem 512 (by decide +kernel) rfl)
theorem k_X6_9 : Cond.constantFloat "BroadseamLoft$Sail" 9 (973279855) ∈ lw_all := (lw_mem 513 (by decide +kernel) rfl)
theorem fl_X6_10 : FL "BroadseamLoft$Sail" 10 6 1 := ⟨RX6, TX6, 3, rfl, by decide, (lw_mem 77 (by decide +kernel) rfl), inA6⟩
theorem k_X6_16 : Cond.constantFloat "BroadseamLoft$Sail" 16 (1109393408) ∈ lw_all := (lw_mem 524 (by decide +kernel) rfl)
theorem fl_X6_17 : FL "BroadseamLoft$Sail" 17 6 2 := ⟨RX6, TX6, 3, rfl, by decide, (lw_mem 79 (by decide +kernel) rfl), inA6⟩
theorem cw_X6_20 : CWm "BroadseamLoft$Sail" 20 yX6_draftWith cX6_draftWith 2 (Option.some Jvm.ClassFile.FieldType.float) 1 := ⟨(lw_mem 525 (by decide +kernel) rfl), (lw_mem 15 (by decide +kernel) rfl), (lw_mem 510 (by decide +kernel) rfl), by decide +kernel, by decide +kernel, by decide +kernel⟩
theorem im_yX6_draftWith : Cond.instanceMethod yX6_draftWith ∈ lw_all := (lw_mem 508 (by decide +kernel) rfl)
theorem se_yX6_draftWith : Cond.selects yX6_draftWith.cls yX6_draftWith yX6_draftWith ∈ lw_all := (lw_mem 509 (by decide +kernel) rfl)
theorem fw_X7_9 : FW "BroadseamLoft$Seam" 9 7 0 (.object "BroadseamLoft$Panel") true := ⟨RX7, TX7, 3, tyX7, rfl, by decide, (lw_mem 396 (by decide +kernel) rfl), inA7, tyX7_ok, nmX7, rfl, rfl, fun _ => rfl⟩
theorem fw_X7_15 : FW "BroadseamLoft$Seam" 15 7 1 (.object "BroadseamLoft$Panel") true := ⟨RX7, TX7, 3, tyX7, rfl, by decide, (lw_mem 398 (by decide +kernel) rfl), inA7, tyX7_ok, nmX7, rfl, rfl, fun _ => rfl⟩
theorem fw_X7_18 : FW "BroadseamLoft$Seam" 18 7 2 (.int) true := ⟨RX7, TX7, 3, tyX7, rfl, by decide, (lw_mem 400 (by decide +kernel) rfl), inA7, tyX7_ok, nmX7, rfl, rfl, fun _ => rfl⟩
theorem fl_X7_9 : FL "BroadseamLoft$Seam" 9 7 0 := ⟨RX7, TX7, 3, rfl, by decide, (lw_mem 396 (by decide +kernel) rfl), inA7⟩
theorem cw_X7_22 : CWm "BroadseamLoft$Seam" 22 yX4_strengthNow cX4_strengthNow 1 (Option.some Jvm.ClassFile.FieldType.long) 0 := ⟨(lw_mem 417 (by decide +kernel) rfl), (lw_mem 25 (by decide +kernel) rfl), (lw_mem 371 (by decide +kernel) rfl), by decide +kernel, by decide +kernel, by decide +kernel⟩
theorem im_yX4_strengthNow : Cond.instanceMethod yX4_strengthNow ∈ lw_all := (lw_mem 369 (by decide +kernel) rfl)
theorem se_yX4_strengthNow : Cond.selects yX4_strengthNow.cls yX4_strengthNow yX4_strengthNow ∈ lw_all := (lw_mem 370 (by decide +kernel) rfl)
theorem fl_X7_15 : FL "BroadseamLoft$Seam" 15 7 1 := ⟨RX7, TX7, 3, rfl, by decide, (lw_mem 398 (by decide +kernel) rfl), inA7⟩
theorem cw_X7_28 : CWm "BroadseamLoft$Seam" 28 yJ9_min_f86c9 cJ9_min_f86c9 4 (Option.some Jvm.ClassFile.FieldType.long) 2 := ⟨(lw_mem 418 (by decide +kernel) rfl), (lw_mem 24 (by decide +kernel) rfl), (lw_mem 420 (by decide +kernel) rfl), by decide +kernel, by decide +kernel, by decide +kernel⟩
theorem sm_yJ9_min_f86c9 : Cond.static yJ9_min_f86c9 ∈ lw_all := (lw_mem 419 (by decide +kernel) rfl)
theorem fl_X7_18 : FL "BroadseamLoft$Seam" 18 7 2 := ⟨RX7, TX7, 3, rfl, by decide, (lw_mem 400 (by decide +kernel) rfl), inA7⟩
theorem k_X7_34 : Cond.constantLong "BroadseamLoft$Seam" 34 (100) ∈ lw_all := (lw_mem 421 (by decide +kernel) rfl)
theorem cw_X7_36 : CWm "BroadseamLoft$Seam" 36 yX7_strengthNow cX7_strengthNow 1 (Option.some Jvm.ClassFile.FieldType.long) 0 := ⟨(lw_mem 434 (by decide +kernel) rfl), (lw_mem 26 (by decide +kernel) rfl), (lw_mem 416 (by decide +kernel) rfl), by decide +kernel, by decide +kernel, by decide +kernel⟩
theorem im_yX7_strengthNow : Cond.instanceMethod yX7_strengthNow ∈ lw_all := (lw_mem 414 (by decide +kernel) rfl)
theorem se_yX7_strengthNow : Cond.selects yX7_strengthNow.cls yX7_strengthNow yX7_strengthNow ∈ lw_all := (lw_mem 415 (by decide +kernel) rfl)
theorem fl_X7_37 : FL "BroadseamLoft$Seam" 37 4 3 := ⟨RX4, TX4, 5, rfl, by decide, (lw_mem 338 (by decide +kernel) rfl), inA4⟩
theorem cw_X7_41 : CWm "BroadseamLoft$Seam" 41 yJ9_max_f86c9 cJ9_max_f86c9 4 (Option.some Jvm.ClassFile.FieldType.long) 2 := ⟨(lw_mem 435 (by decide +kernel) rfl), (lw_mem 24 (by decide +kernel) rfl), (lw_mem 437 (by decide +kernel) rfl), by decide +kernel, by decide +kernel, by decide +kernel⟩
theorem sm_yJ9_max_f86c9 : Cond.static yJ9_max_f86c9 ∈ lw_all := (lw_mem 436 (by decide +kernel) rfl)
theorem fw_X7_37 : FW "BroadseamLoft$Seam" 37 4 3 (.long) false := ⟨RX4, TX4, 5, tyX4, rfl, by decide, (lw_mem 338 (by decide +kernel) rfl), inA4, tyX4_ok, nmX4, rfl, rfl, by decide⟩
theorem cl_X8_9 : Cond.classLink "BroadseamLoft" 9 "BroadseamLoft$Lot" ∈ lw_all := (lw_mem 38 (by decide +kernel) rfl)
theorem fw_X8_11 : FW "BroadseamLoft" 11 8 0 (.array (.object "BroadseamLoft$Lot")) true := ⟨RX8, TX8, 14, tyX8, rfl, by decide, (lw_mem 104 (by decide +kernel) rfl), inA8, tyX8_ok, nmX8, rfl, rfl, fun _ => rfl⟩
theorem cl_X8_15 : Cond.classLink "BroadseamLoft" 15 "BroadseamLoft$Panel" ∈ lw_all := (lw_mem 40 (by decide +kernel) rfl)
theorem fw_X8_17 : FW "BroadseamLoft" 17 8 2 (.array (.object "BroadseamLoft$Panel")) true := ⟨RX8, TX8, 14, tyX8, rfl, by decide, (lw_mem 106 (by decide +kernel) rfl), inA8, tyX8_ok, nmX8, rfl, rfl, fun _ => rfl⟩
theorem cl_X8_21 : Cond.classLink "BroadseamLoft" 21 "BroadseamLoft$Seam" ∈ lw_all := (lw_mem 42 (by decide +kernel) rfl)
theorem fw_X8_23 : FW "BroadseamLoft" 23 8 4 (.array (.object "BroadseamLoft$Seam")) true := ⟨RX8, TX8, 14, tyX8, rfl, by decide, (lw_mem 108 (by decide +kernel) rfl), inA8, tyX8_ok, nmX8, rfl, rfl, fun _ => rfl⟩
theorem nw_X8_27 : NW "BroadseamLoft" 27 3 := ⟨RX3, TX3, 4, tyX3, rfl, rfl, inA3, tyX3_ok, by decide +kernel, (lw_mem 44 (by decide +kernel) rfl), (lw_mem 45 (by decide +kernel) rfl), (lw_mem 14 (by decide +kernel) rfl)⟩
theorem cw_X8_29 : CWm "BroadseamLoft" 29 yX3_init cX3_init 4 (Option.none : Option Jvm.ClassFile.FieldType) 0 := ⟨(lw_mem 46 (by decide +kernel) rfl), (lw_mem 14 (by decide +kernel) rfl), (lw_mem 48 (by decide +kernel) rfl), by decide +kernel, by decide +kernel, by decide +kernel⟩
theorem im_yX3_init : Cond.instanceMethod yX3_init ∈ lw_all := (lw_mem 47 (by decide +kernel) rfl)
theorem fw_X8_30 : FW "BroadseamLoft" 30 8 6 (.object "BroadseamLoft$Net") true := ⟨RX8, TX8, 14, tyX8, rfl, by decide, (lw_mem 110 (by decide +kernel) rfl), inA8, tyX8_ok, nmX8, rfl, rfl, fun _ => rfl⟩
theorem cl_X8_34 : Cond.classLink "BroadseamLoft" 34 "BroadseamLoft$Peg" ∈ lw_all := (lw_mem 68 (by decide +kernel) rfl)
theorem fw_X8_36 : FW "BroadseamLoft" 36 8 7 (.array (.object "BroadseamLoft$Peg")) true := ⟨RX8, TX8, 14, tyX8, rfl, by decide, (lw_mem 111 (by decide +kernel) rfl), inA8, tyX8_ok, nmX8, rfl, rfl, fun _ => rfl⟩
theorem nw_X8_40 : NW "BroadseamLoft" 40 6 := ⟨RX6, TX6, 3, tyX6, rfl, rfl, inA6, tyX6_ok, by decide +kernel, (lw_mem 70 (by decide +kernel) rfl), (lw_mem 71 (by decide +kernel) rfl), (lw_mem 15 (by decide +kernel) rfl)⟩
theorem cn_X8_42 : Cond.methodLinkNest "BroadseamLoft" 42 yX6_init "BroadseamLoft" ∈ ngW := List.mem_of_getElem? (i := 4) rfl
theorem cm_yX6_init : Cond.initialized yX6_init.cls ∈ lw_all ∧ Cond.code yX6_init cX6_init 1 (Option.none : Option Jvm.ClassFile.FieldType) ∈ lw_all ∧ yX6_init.cls ≠ "java/lang/invoke/MethodHandle" ∧ yX6_init.cls ≠ "java/lang/invoke/VarHandle" ∧ (parseMethodDescriptor yX6_init.desc).map (fun d => d.parameters.length) = some 0 := ⟨(lw_mem 15 (by decide +kernel) rfl), (lw_mem 74 (by decide +kernel) rfl), by decide +kernel, by decide +kernel, by decide +kernel⟩
theorem im_yX6_init : Cond.instanceMethod yX6_init ∈ lw_all := (lw_mem 73 (by decide +kernel) rfl)
theorem fw_X8_43 : FW "BroadseamLoft" 43 8 9 (.object "BroadseamLoft$Sail") true := ⟨RX8, TX8, 14, tyX8, rfl, by decide, (lw_mem 113 (by decide +kernel) rfl), inA8, tyX8_ok, nmX8, rfl, rfl, fun _ => rfl⟩
theorem cl_X8_47 : Cond.classLink "BroadseamLoft" 47 "BroadseamLoft$Canopy" ∈ lw_all := (lw_mem 88 (by decide +kernel) rfl)
theorem fw_X8_49 : FW "BroadseamLoft" 49 8 10 (.array (.object "BroadseamLoft$Canopy")) true := ⟨RX8, TX8, 14, tyX8, rfl, by decide, (lw_mem 114 (by decide +kernel) rfl), inA8, tyX8_ok, nmX8, rfl, rfl, fun _ => rfl⟩
theorem nw_X8_53 : NW "BroadseamLoft" 53 1 := ⟨RX1, TX1, 2, tyX1, rfl, rfl, inA1, tyX1_ok, by decide +kernel, (lw_mem 90 (by decide +kernel) rfl), (lw_mem 91 (by decide +kernel) rfl), (lw_mem 16 (by decide +kernel) rfl)⟩
theorem cn_X8_55 : Cond.methodLinkNest "BroadseamLoft" 55 yX1_init "BroadseamLoft" ∈ ngW := List.mem_of_getElem? (i := 6) rfl
theorem cm_yX1_init : Cond.initialized yX1_init.cls ∈ lw_all ∧ Cond.code yX1_init cX1_init 1 (Option.none : Option Jvm.ClassFile.FieldType) ∈ lw_all ∧ yX1_init.cls ≠ "java/lang/invoke/MethodHandle" ∧ yX1_init.cls ≠ "java/lang/invoke/VarHandle" ∧ (parseMethodDescriptor yX1_init.desc).map (fun d => d.parameters.length) = some 0 := ⟨(lw_mem 16 (by decide +kernel) rfl), (lw_mem 94 (by decide +kernel) rfl), by decide +kernel, by decide +kernel, by decide +kernel⟩
theorem im_yX1_init : Cond.instanceMethod yX1_init ∈ lw_all := (lw_mem 93 (by decide +kernel) rfl)
theorem fw_X8_56 : FW "BroadseamLoft" 56 8 12 (.object "BroadseamLoft$Log") true := ⟨RX8, TX8, 14, tyX8, rfl, by decide, (lw_mem 116 (by decide +kernel) rfl), inA8, tyX8_ok, nmX8, rfl, rfl, fun _ => rfl⟩
theorem k_X8_60 : Cond.constantLong "BroadseamLoft" 60 (2000000000) ∈ lw_all := (lw_mem 173 (by decide +kernel) rfl)
theorem cw_X8_62 : CWm "BroadseamLoft" 62 yX8_isOutside cX8_isOutside 6 (Option.some Jvm.ClassFile.FieldType.boolean) 3 := ⟨(lw_mem 174 (by decide +kernel) rfl), (lw_mem 13 (by decide +kernel) rfl), (lw_mem 176 (by decide +kernel) rfl), by decide +kernel, by decide +kernel, by decide +kernel⟩
theorem fl_X8_73 : FL "BroadseamLoft" 73 8 1 := ⟨RX8, TX8, 14, rfl, by decide, (lw_mem 105 (by decide +kernel) rfl), inA8⟩
theorem fl_X8_11 : FL "BroadseamLoft" 11 8 0 := ⟨RX8, TX8, 14, rfl, by decide, (lw_mem 104 (by decide +kernel) rfl), inA8⟩
theorem nw_X8_9 : NW "BroadseamLoft" 9 2 := ⟨RX2, TX2, 8, tyX2, rfl, rfl, inA2, tyX2_ok, by decide +kernel, (lw_mem 38 (by decide +kernel) rfl), (lw_mem 260 (by decide +kernel) rfl), (lw_mem 22 (by decide +kernel) rfl)⟩
theorem cw_X8_82 : CWm "BroadseamLoft" 82 yX2_init cX2_init 4 (Option.none : Option Jvm.ClassFile.FieldType) 3 := ⟨(lw_mem 261 (by decide +kernel) rfl), (lw_mem 22 (by decide +kernel) rfl), (lw_mem 263 (by decide +kernel) rfl), by decide +kernel, by decide +kernel, by decide +kernel⟩
theorem im_yX2_init : Cond.instanceMethod yX2_init ∈ lw_all := (lw_mem 262 (by decide +kernel) rfl)
theorem fw_X8_73 : FW "BroadseamLoft" 73 8 1 (.int) false := ⟨RX8, TX8, 14, tyX8, rfl, by decide, (lw_mem 105 (by decide +kernel) rfl), inA8, tyX8_ok, nmX8, rfl, rfl, by decide⟩
theorem cw_X8_85 : CWm "BroadseamLoft" 85 yX8_lotAt cX8_lotAt 2 (Option.some (Jvm.ClassFile.FieldType.object "BroadseamLoft$Lot")) 1 := ⟨(lw_mem 296 (by decide +kernel) rfl), (lw_mem 13 (by decide +kernel) rfl), (lw_mem 299 (by decide +kernel) rfl), by decide +kernel, by decide +kernel, by decide +kernel⟩
theorem im_yX8_lotAt : Cond.instanceMethod yX8_lotAt ∈ lw_all := (lw_mem 298 (by decide +kernel) rfl)
theorem se_yX8_lotAt : Cond.selects yX8_lotAt.cls yX8_lotAt yX8_lotAt ∈ lw_all := lw_mem 1 rfl rfl
theorem k_X8_94 : Cond.constantLong "BroadseamLoft" 94 (10000) ∈ lw_all := (lw_mem 316 (by decide +kernel) rfl)
theorem fl_X8_98 : FL "BroadseamLoft" 98 2 3 := ⟨RX2, TX2, 8, rfl, by decide, (lw_mem 269 (by decide +kernel) rfl), inA2⟩
theorem k_X8_101 : Cond.constant "BroadseamLoft" 101 (1000000) ∈ lw_all := (lw_mem 318 (by decide +kernel) rfl)
theorem cw_X8_102 : CWm "BroadseamLoft" 102 yJ9_min_7cf53 cJ9_min_7cf53 2 (Option.some Jvm.ClassFile.FieldType.int) 2 := ⟨(lw_mem 319 (by decide +kernel) rfl), (lw_mem 24 (by decide +kernel) rfl), (lw_mem 321 (by decide +kernel) rfl), by decide +kernel, by decide +kernel, by decide +kernel⟩
theorem fw_X8_98 : FW "BroadseamLoft" 98 2 3 (.int) false := ⟨RX2, TX2, 8, tyX2, rfl, by decide, (lw_mem 269 (by decide +kernel) rfl), inA2, tyX2_ok, nmX2, rfl, rfl, by decide⟩
theorem k_X8_108 : Cond.constantLong "BroadseamLoft" 108 (150) ∈ lw_all := (lw_mem 326 (by decide +kernel) rfl)
theorem k_X8_110 : Cond.constantLong "BroadseamLoft" 110 (2) ∈ lw_all := (lw_mem 327 (by decide +kernel) rfl)
theorem fl_X8_114 : FL "BroadseamLoft" 114 8 3 := ⟨RX8, TX8, 14, rfl, by decide, (lw_mem 107 (by decide +kernel) rfl), inA8⟩
theorem fl_X8_17 : FL "BroadseamLoft" 17 8 2 := ⟨RX8, TX8, 14, rfl, by decide, (lw_mem 106 (by decide +kernel) rfl), inA8⟩
theorem nw_X8_15 : NW "BroadseamLoft" 15 4 := ⟨RX4, TX4, 5, tyX4, rfl, rfl, inA4, tyX4_ok, by decide +kernel, (lw_mem 40 (by decide +kernel) rfl), (lw_mem 330 (by decide +kernel) rfl), (lw_mem 25 (by decide +kernel) rfl)⟩
theorem cw_X8_119 : CWm "BroadseamLoft" 119 yX4_init cX4_init 4 (Option.none : Option Jvm.ClassFile.FieldType) 3 := ⟨(lw_mem 331 (by decide +kernel) rfl), (lw_mem 25 (by decide +kernel) rfl), (lw_mem 333 (by decide +kernel) rfl), by decide +kernel, by decide +kernel, by decide +kernel⟩
theorem im_yX4_init : Cond.instanceMethod yX4_init ∈ lw_all := (lw_mem 332 (by decide +kernel) rfl)
theorem cw_X8_122 : CWm "BroadseamLoft" 122 yX2_layPanel cX2_layPanel 6 (Option.none : Option Jvm.ClassFile.FieldType) 3 := ⟨(lw_mem 352 (by decide +kernel) rfl), (lw_mem 22 (by decide +kernel) rfl), (lw_mem 355 (by decide +kernel) rfl), by decide +kernel, by decide +kernel, by decide +kernel⟩
theorem im_yX2_layPanel : Cond.instanceMethod yX2_layPanel ∈ lw_all := (lw_mem 353 (by decide +kernel) rfl)
theorem se_yX2_layPanel : Cond.selects yX2_layPanel.cls yX2_layPanel yX2_layPanel ∈ lw_all := (lw_mem 354 (by decide +kernel) rfl)
theorem fw_X8_114 : FW "BroadseamLoft" 114 8 3 (.int) false := ⟨RX8, TX8, 14, tyX8, rfl, by decide, (lw_mem 107 (by decide +kernel) rfl), inA8, tyX8_ok, nmX8, rfl, rfl, by decide⟩
theorem cw_X8_125 : CWm "BroadseamLoft" 125 yX8_panelAt cX8_panelAt 2 (Option.some (Jvm.ClassFile.FieldType.object "BroadseamLoft$Panel")) 1 := ⟨(lw_mem 363 (by decide +kernel) rfl), (lw_mem 13 (by decide +kernel) rfl), (lw_mem 366 (by decide +kernel) rfl), by decide +kernel, by decide +kernel, by decide +kernel⟩
theorem im_yX8_panelAt : Cond.instanceMethod yX8_panelAt ∈ lw_all := (lw_mem 365 (by decide +kernel) rfl)
theorem se_yX8_panelAt : Cond.selects yX8_panelAt.cls yX8_panelAt yX8_panelAt ∈ lw_all := lw_mem 2 rfl rfl
theorem cw_X8_131 : CWm "BroadseamLoft" 131 yX4_strengthNow cX4_strengthNow 1 (Option.some Jvm.ClassFile.FieldType.long) 0 := ⟨(lw_mem 368 (by decide +kernel) rfl), (lw_mem 25 (by decide +kernel) rfl), (lw_mem 371 (by decide +kernel) rfl), by decide +kernel, by decide +kernel, by decide +kernel⟩
theorem cw_X8_135 : CWm "BroadseamLoft" 135 yX2_rolledLength cX2_rolledLength 1 (Option.some Jvm.ClassFile.FieldType.int) 0 := ⟨(lw_mem 381 (by decide +kernel) rfl), (lw_mem 22 (by decide +kernel) rfl), (lw_mem 384 (by decide +kernel) rfl), by decide +kernel, by decide +kernel, by decide +kernel⟩
theorem im_yX2_rolledLength : Cond.instanceMethod yX2_rolledLength ∈ lw_all := (lw_mem 382 (by decide +kernel) rfl)
theorem se_yX2_rolledLength : Cond.selects yX2_rolledLength.cls yX2_rolledLength yX2_rolledLength ∈ lw_all := (lw_mem 383 (by decide +kernel) rfl)
theorem fl_X8_141 : FL "BroadseamLoft" 141 8 5 := ⟨RX8, TX8, 14, rfl, by decide, (lw_mem 109 (by decide +kernel) rfl), inA8⟩
theorem fl_X8_23 : FL "BroadseamLoft" 23 8 4 := ⟨RX8, TX8, 14, rfl, by decide, (lw_mem 108 (by decide +kernel) rfl), inA8⟩
theorem nw_X8_21 : NW "BroadseamLoft" 21 7 := ⟨RX7, TX7, 3, tyX7, rfl, rfl, inA7, tyX7_ok, by decide +kernel, (lw_mem 42 (by decide +kernel) rfl), (lw_mem 391 (by decide +kernel) rfl), (lw_mem 26 (by decide +kernel) rfl)⟩
theorem cw_X8_146 : CWm "BroadseamLoft" 146 yX7_init cX7_init 4 (Option.none : Option Jvm.ClassFile.FieldType) 3 := ⟨(lw_mem 392 (by decide +kernel) rfl), (lw_mem 26 (by decide +kernel) rfl), (lw_mem 394 (by decide +kernel) rfl), by decide +kernel, by decide +kernel, by decide +kernel⟩
theorem im_yX7_init : Cond.instanceMethod yX7_init ∈ lw_all := (lw_mem 393 (by decide +kernel) rfl)
theorem fw_X8_141 : FW "BroadseamLoft" 141 8 5 (.int) false := ⟨RX8, TX8, 14, tyX8, rfl, by decide, (lw_mem 109 (by decide +kernel) rfl), inA8, tyX8_ok, nmX8, rfl, rfl, by decide⟩
theorem cw_X8_151 : CWm "BroadseamLoft" 151 yX7_strengthNow cX7_strengthNow 1 (Option.some Jvm.ClassFile.FieldType.long) 0 := ⟨(lw_mem 413 (by decide +kernel) rfl), (lw_mem 26 (by decide +kernel) rfl), (lw_mem 416 (by decide +kernel) rfl), by decide +kernel, by decide +kernel, by decide +kernel⟩
theorem cw_X8_152 : CWm "BroadseamLoft" 152 yX8_spreadLoadFrom cX8_spreadLoadFrom 7 (Option.none : Option Jvm.ClassFile.FieldType) 1 := ⟨(lw_mem 426 (by decide +kernel) rfl), (lw_mem 13 (by decide +kernel) rfl), (lw_mem 429 (by decide +kernel) rfl), by decide +kernel, by decide +kernel, by decide +kernel⟩
theorem im_yX8_spreadLoadFrom : Cond.instanceMethod yX8_spreadLoadFrom ∈ lw_all := (lw_mem 428 (by decide +kernel) rfl)
theorem se_yX8_spreadLoadFrom : Cond.selects yX8_spreadLoadFrom.cls yX8_spreadLoadFrom yX8_spreadLoadFrom ∈ lw_all := lw_mem 3 rfl rfl
theorem fl_X8_156 : FL "BroadseamLoft" 156 4 3 := ⟨RX4, TX4, 5, rfl, by decide, (lw_mem 339 (by decide +kernel) rfl), inA4⟩
theorem cw_X8_160 : CWm "BroadseamLoft" 160 yX8_joinUntilTogether cX8_joinUntilTogether 5 (Option.some Jvm.ClassFile.FieldType.long) 2 := ⟨(lw_mem 442 (by decide +kernel) rfl), (lw_mem 13 (by decide +kernel) rfl), (lw_mem 445 (by decide +kernel) rfl), by decide +kernel, by decide +kernel, by decide +kernel⟩
theorem im_yX8_joinUntilTogether : Cond.instanceMethod yX8_joinUntilTogether ∈ lw_all := (lw_mem 444 (by decide +kernel) rfl)
theorem se_yX8_joinUntilTogether : Cond.selects yX8_joinUntilTogether.cls yX8_joinUntilTogether yX8_joinUntilTogether ∈ lw_all := lw_mem 4 rfl rfl
theorem fw_X8_156 : FW "BroadseamLoft" 156 4 3 (.long) false := ⟨RX4, TX4, 5, tyX4, rfl, by decide, (lw_mem 339 (by decide +kernel) rfl), inA4, tyX4_ok, nmX4, rfl, rfl, by decide⟩
theorem cw_X8_164 : CWm "BroadseamLoft" 164 yX7_passOnLoad cX7_passOnLoad 3 (Option.none : Option Jvm.ClassFile.FieldType) 0 := ⟨(lw_mem 430 (by decide +kernel) rfl), (lw_mem 26 (by decide +kernel) rfl), (lw_mem 433 (by decide +kernel) rfl), by decide +kernel, by decide +kernel, by decide +kernel⟩
theorem im_yX7_passOnLoad : Cond.instanceMethod yX7_passOnLoad ∈ lw_all := (lw_mem 431 (by decide +kernel) rfl)
theorem se_yX7_passOnLoad : Cond.selects yX7_passOnLoad.cls yX7_passOnLoad yX7_passOnLoad ∈ lw_all := (lw_mem 432 (by decide +kernel) rfl)
theorem fw_X8_167 : FW "BroadseamLoft" 167 4 4 (.int) false := ⟨RX4, TX4, 5, tyX4, rfl, by decide, (lw_mem 340 (by decide +kernel) rfl), inA4, tyX4_ok, nmX4, rfl, rfl, by decide⟩
theorem cw_X8_170 : CWm "BroadseamLoft" 170 yX8_strongestBetweenGroups cX8_strongestBetweenGroups 6 (Option.some (Jvm.ClassFile.FieldType.object "BroadseamLoft$Seam")) 0 := ⟨(lw_mem 446 (by decide +kernel) rfl), (lw_mem 13 (by decide +kernel) rfl), (lw_mem 449 (by decide +kernel) rfl), by decide +kernel, by decide +kernel, by decide +kernel⟩
theorem im_yX8_strongestBetweenGroups : Cond.instanceMethod yX8_strongestBetweenGroups ∈ lw_all := (lw_mem 448 (by decide +kernel) rfl)
theorem se_yX8_strongestBetweenGroups : Cond.selects yX8_strongestBetweenGroups.cls yX8_strongestBetweenGroups yX8_strongestBetweenGroups ∈ lw_all := lw_mem 5 rfl rfl
theorem fl_X8_174 : FL "BroadseamLoft" 174 7 1 := ⟨RX7, TX7, 3, rfl, by decide, (lw_mem 399 (by decide +kernel) rfl), inA7⟩
theorem fl_X8_167 : FL "BroadseamLoft" 167 4 4 := ⟨RX4, TX4, 5, rfl, by decide, (lw_mem 340 (by decide +kernel) rfl), inA4⟩
theorem fl_X8_178 : FL "BroadseamLoft" 178 7 0 := ⟨RX7, TX7, 3, rfl, by decide, (lw_mem 397 (by decide +kernel) rfl), inA7⟩
theorem cw_X8_181 : CWm "BroadseamLoft" 181 yX8_moveGroup cX8_moveGroup 7 (Option.none : Option Jvm.ClassFile.FieldType) 2 := ⟨(lw_mem 450 (by decide +kernel) rfl), (lw_mem 13 (by decide +kernel) rfl), (lw_mem 453 (by decide +kernel) rfl), by decide +kernel, by decide +kernel, by decide +kernel⟩
theorem im_yX8_moveGroup : Cond.instanceMethod yX8_moveGroup ∈ lw_all := (lw_mem 452 (by decide +kernel) rfl)
theorem se_yX8_moveGroup : Cond.selects yX8_moveGroup.cls yX8_moveGroup yX8_moveGroup ∈ lw_all := lw_mem 6 rfl rfl
theorem k_X8_185 : Cond.constantLong "BroadseamLoft" 185 (35) ∈ lw_all := (lw_mem 458 (by decide +kernel) rfl)
theorem k_X8_189 : Cond.constantLong "BroadseamLoft" 189 (-10000) ∈ lw_all := (lw_mem 460 (by decide +kernel) rfl)
theorem fl_X8_30 : FL "BroadseamLoft" 30 8 6 := ⟨RX8, TX8, 14, rfl, by decide, (lw_mem 110 (by decide +kernel) rfl), inA8⟩
theorem fl_X8_193 : FL "BroadseamLoft" 193 3 0 := ⟨RX3, TX3, 4, rfl, by decide, (lw_mem 51 (by decide +kernel) rfl), inA3⟩
theorem fl_X8_197 : FL "BroadseamLoft" 197 3 2 := ⟨RX3, TX3, 4, rfl, by decide, (lw_mem 54 (by decide +kernel) rfl), inA3⟩
theorem k_X8_201 : Cond.constantLong "BroadseamLoft" 201 (100) ∈ lw_all := (lw_mem 466 (by decide +kernel) rfl)
theorem fl_X8_205 : FL "BroadseamLoft" 205 3 3 := ⟨RX3, TX3, 4, rfl, by decide, (lw_mem 56 (by decide +kernel) rfl), inA3⟩
theorem fw_X8_205 : FW "BroadseamLoft" 205 3 3 (.int) false := ⟨RX3, TX3, 4, tyX3, rfl, by decide, (lw_mem 56 (by decide +kernel) rfl), inA3, tyX3_ok, nmX3, rfl, rfl, by decide⟩
theorem k_X8_208 : Cond.constantLong "BroadseamLoft" 208 (50) ∈ lw_all := (lw_mem 472 (by decide +kernel) rfl)
theorem cw_X8_212 : CWm "BroadseamLoft" 212 yX3_stepMoves cX3_stepMoves 3 (Option.some Jvm.ClassFile.FieldType.boolean) 0 := ⟨(lw_mem 474 (by decide +kernel) rfl), (lw_mem 14 (by decide +kernel) rfl), (lw_mem 477 (by decide +kernel) rfl), by decide +kernel, by decide +kernel, by decide +kernel⟩
theorem im_yX3_stepMoves : Cond.instanceMethod yX3_stepMoves ∈ lw_all := (lw_mem 475 (by decide +kernel) rfl)
theorem se_yX3_stepMoves : Cond.selects yX3_stepMoves.cls yX3_stepMoves yX3_stepMoves ∈ lw_all := (lw_mem 476 (by decide +kernel) rfl)
theorem k_X8_216 : Cond.constantLong "BroadseamLoft" 216 (4000000000000) ∈ lw_all := (lw_mem 717 (by decide +kernel) rfl)
theorem fl_X8_220 : FL "BroadseamLoft" 220 8 8 := ⟨RX8, TX8, 14, rfl, by decide, (lw_mem 112 (by decide +kernel) rfl), inA8⟩
theorem fl_X8_36 : FL "BroadseamLoft" 36 8 7 := ⟨RX8, TX8, 14, rfl, by decide, (lw_mem 111 (by decide +kernel) rfl), inA8⟩
theorem nw_X8_34 : NW "BroadseamLoft" 34 5 := ⟨RX5, TX5, 4, tyX5, rfl, rfl, inA5, tyX5_ok, by decide +kernel, (lw_mem 68 (by decide +kernel) rfl), (lw_mem 720 (by decide +kernel) rfl), (lw_mem 29 (by decide +kernel) rfl)⟩
theorem cw_X8_225 : CWm "BroadseamLoft" 225 yX5_init cX5_init 4 (Option.none : Option Jvm.ClassFile.FieldType) 2 := ⟨(lw_mem 721 (by decide +kernel) rfl), (lw_mem 29 (by decide +kernel) rfl), (lw_mem 723 (by decide +kernel) rfl), by decide +kernel, by decide +kernel, by decide +kernel⟩
theorem im_yX5_init : Cond.instanceMethod yX5_init ∈ lw_all := (lw_mem 722 (by decide +kernel) rfl)
theorem fw_X8_220 : FW "BroadseamLoft" 220 8 8 (.int) false := ⟨RX8, TX8, 14, tyX8, rfl, by decide, (lw_mem 112 (by decide +kernel) rfl), inA8, tyX8_ok, nmX8, rfl, rfl, by decide⟩
theorem k_X8_228 : Cond.constantLong "BroadseamLoft" 228 (40000000000000) ∈ lw_all := (lw_mem 699 (by decide +kernel) rfl)
theorem cw_X8_232 : CWm "BroadseamLoft" 232 yX8_shareForce cX8_shareForce 12 (Option.none : Option Jvm.ClassFile.FieldType) 1 := ⟨(lw_mem 701 (by decide +kernel) rfl), (lw_mem 13 (by decide +kernel) rfl), (lw_mem 704 (by decide +kernel) rfl), by decide +kernel, by decide +kernel, by decide +kernel⟩
theorem im_yX8_shareForce : Cond.instanceMethod yX8_shareForce ∈ lw_all := (lw_mem 703 (by decide +kernel) rfl)
theorem se_yX8_shareForce : Cond.selects yX8_shareForce.cls yX8_shareForce yX8_shareForce ∈ lw_all := lw_mem 9 rfl rfl
theorem cw_X8_236 : CWm "BroadseamLoft" 236 yX8_takeOutOverpulled cX8_takeOutOverpulled 6 (Option.some Jvm.ClassFile.FieldType.int) 0 := ⟨(lw_mem 709 (by decide +kernel) rfl), (lw_mem 13 (by decide +kernel) rfl), (lw_mem 712 (by decide +kernel) rfl), by decide +kernel, by decide +kernel, by decide +kernel⟩
theorem im_yX8_takeOutOverpulled : Cond.instanceMethod yX8_takeOutOverpulled ∈ lw_all := (lw_mem 711 (by decide +kernel) rfl)
theorem se_yX8_takeOutOverpulled : Cond.selects yX8_takeOutOverpulled.cls yX8_takeOutOverpulled yX8_takeOutOverpulled ∈ lw_all := lw_mem 11 rfl rfl
theorem fl_X8_241 : FL "BroadseamLoft" 241 5 3 := ⟨RX5, TX5, 4, rfl, by decide, (lw_mem 731 (by decide +kernel) rfl), inA5⟩
theorem fl_X8_244 : FL "BroadseamLoft" 244 5 2 := ⟨RX5, TX5, 4, rfl, by decide, (lw_mem 730 (by decide +kernel) rfl), inA5⟩
theorem cw_X8_248 : CWm "BroadseamLoft" 248 yX8_stiffnessTogether cX8_stiffnessTogether 7 (Option.some Jvm.ClassFile.FieldType.long) 0 := ⟨(lw_mem 705 (by decide +kernel) rfl), (lw_mem 13 (by decide +kernel) rfl), (lw_mem 708 (by decide +kernel) rfl), by decide +kernel, by decide +kernel, by decide +kernel⟩
theorem im_yX8_stiffnessTogether : Cond.instanceMethod yX8_stiffnessTogether ∈ lw_all := (lw_mem 707 (by decide +kernel) rfl)
theorem se_yX8_stiffnessTogether : Cond.selects yX8_stiffnessTogether.cls yX8_stiffnessTogether yX8_stiffnessTogether ∈ lw_all := lw_mem 10 rfl rfl
theorem fl_X8_251 : FL "BroadseamLoft" 251 5 1 := ⟨RX5, TX5, 4, rfl, by decide, (lw_mem 728 (by decide +kernel) rfl), inA5⟩
theorem fw_X8_241 : FW "BroadseamLoft" 241 5 3 (.long) false := ⟨RX5, TX5, 4, tyX5, rfl, by decide, (lw_mem 731 (by decide +kernel) rfl), inA5, tyX5_ok, nmX5, rfl, rfl, by decide⟩
theorem fl_X8_254 : FL "BroadseamLoft" 254 5 0 := ⟨RX5, TX5, 4, rfl, by decide, (lw_mem 726 (by decide +kernel) rfl), inA5⟩
theorem fw_X8_244 : FW "BroadseamLoft" 244 5 2 (.boolean) false := ⟨RX5, TX5, 4, tyX5, rfl, by decide, (lw_mem 730 (by decide +kernel) rfl), inA5, tyX5_ok, nmX5, rfl, rfl, by decide⟩
theorem k_X8_257 : Cond.constantLong "BroadseamLoft" 257 (3) ∈ lw_all := (lw_mem 505 (by decide +kernel) rfl)
theorem fl_X8_43 : FL "BroadseamLoft" 43 8 9 := ⟨RX8, TX8, 14, rfl, by decide, (lw_mem 113 (by decide +kernel) rfl), inA8⟩
theorem fw_X8_261 : FW "BroadseamLoft" 261 6 0 (.int) false := ⟨RX6, TX6, 3, tyX6, rfl, by decide, (lw_mem 76 (by decide +kernel) rfl), inA6, tyX6_ok, nmX6, rfl, rfl, by decide⟩
theorem fw_X8_264 : FW "BroadseamLoft" 264 6 1 (.int) false := ⟨RX6, TX6, 3, tyX6, rfl, by decide, (lw_mem 78 (by decide +kernel) rfl), inA6, tyX6_ok, nmX6, rfl, rfl, by decide⟩
theorem fw_X8_267 : FW "BroadseamLoft" 267 6 2 (.int) false := ⟨RX6, TX6, 3, tyX6, rfl, by decide, (lw_mem 80 (by decide +kernel) rfl), inA6, tyX6_ok, nmX6, rfl, rfl, by decide⟩
theorem cw_X8_270 : CWm "BroadseamLoft" 270 yX6_draftWith cX6_draftWith 2 (Option.some Jvm.ClassFile.FieldType.float) 1 := ⟨(lw_mem 507 (by decide +kernel) rfl), (lw_mem 15 (by decide +kernel) rfl), (lw_mem 510 (by decide +kernel) rfl), by decide +kernel, by decide +kernel, by decide +kernel⟩
theorem fl_X8_261 : FL "BroadseamLoft" 261 6 0 := ⟨RX6, TX6, 3, rfl, by decide, (lw_mem 76 (by decide +kernel) rfl), inA6⟩
theorem cw_X8_276 : CWm "BroadseamLoft" 276 yX6_powerWith cX6_powerWith 4 (Option.some Jvm.ClassFile.FieldType.float) 2 := ⟨(lw_mem 520 (by decide +kernel) rfl), (lw_mem 15 (by decide +kernel) rfl), (lw_mem 523 (by decide +kernel) rfl), by decide +kernel, by decide +kernel, by decide +kernel⟩
theorem im_yX6_powerWith : Cond.instanceMethod yX6_powerWith ∈ lw_all := (lw_mem 521 (by decide +kernel) rfl)
theorem se_yX6_powerWith : Cond.selects yX6_powerWith.cls yX6_powerWith yX6_powerWith ∈ lw_all := (lw_mem 522 (by decide +kernel) rfl)
theorem k_X8_280 : Cond.constantLong "BroadseamLoft" 280 (100000) ∈ lw_all := (lw_mem 530 (by decide +kernel) rfl)
theorem k_X8_284 : Cond.constantLong "BroadseamLoft" 284 (400) ∈ lw_all := (lw_mem 536 (by decide +kernel) rfl)
theorem fl_X8_288 : FL "BroadseamLoft" 288 8 13 := ⟨RX8, TX8, 14, rfl, by decide, (lw_mem 117 (by decide +kernel) rfl), inA8⟩
theorem k_X8_291 : Cond.constant "BroadseamLoft" 291 (100000) ∈ lw_all := (lw_mem 538 (by decide +kernel) rfl)
theorem fw_X8_288 : FW "BroadseamLoft" 288 8 13 (.int) false := ⟨RX8, TX8, 14, tyX8, rfl, by decide, (lw_mem 117 (by decide +kernel) rfl), inA8, tyX8_ok, nmX8, rfl, rfl, by decide⟩
theorem fl_X8_294 : FL "BroadseamLoft" 294 8 11 := ⟨RX8, TX8, 14, rfl, by decide, (lw_mem 115 (by decide +kernel) rfl), inA8⟩
theorem fl_X8_49 : FL "BroadseamLoft" 49 8 10 := ⟨RX8, TX8, 14, rfl, by decide, (lw_mem 114 (by decide +kernel) rfl), inA8⟩
theorem nw_X8_47 : NW "BroadseamLoft" 47 0 := ⟨RX0, TX0, 10, tyX0, rfl, rfl, inA0, tyX0_ok, by decide +kernel, (lw_mem 88 (by decide +kernel) rfl), (lw_mem 545 (by decide +kernel) rfl), (lw_mem 28 (by decide +kernel) rfl)⟩
theorem cw_X8_299 : CWm "BroadseamLoft" 299 yX0_init cX0_init 3 (Option.none : Option Jvm.ClassFile.FieldType) 2 := ⟨(lw_mem 546 (by decide +kernel) rfl), (lw_mem 28 (by decide +kernel) rfl), (lw_mem 548 (by decide +kernel) rfl), by decide +kernel, by decide +kernel, by decide +kernel⟩
theorem im_yX0_init : Cond.instanceMethod yX0_init ∈ lw_all := (lw_mem 547 (by decide +kernel) rfl)
theorem fw_X8_294 : FW "BroadseamLoft" 294 8 11 (.int) false := ⟨RX8, TX8, 14, tyX8, rfl, by decide, (lw_mem 115 (by decide +kernel) rfl), inA8, tyX8_ok, nmX8, rfl, rfl, by decide⟩
theorem cw_X8_302 : CWm "BroadseamLoft" 302 yX8_canopyAt cX8_canopyAt 2 (Option.some (Jvm.ClassFile.FieldType.object "BroadseamLoft$Canopy")) 1 := ⟨(lw_mem 595 (by decide +kernel) rfl), (lw_mem 13 (by decide +kernel) rfl), (lw_mem 598 (by decide +kernel) rfl), by decide +kernel, by decide +kernel, by decide +kernel⟩
theorem im_yX8_canopyAt : Cond.instanceMethod yX8_canopyAt ∈ lw_all := (lw_mem 597 (by decide +kernel) rfl)
theorem se_yX8_canopyAt : Cond.selects yX8_canopyAt.cls yX8_canopyAt yX8_canopyAt ∈ lw_all := lw_mem 7 rfl rfl
theorem k_X8_308 : Cond.constantLong "BroadseamLoft" 308 (255) ∈ lw_all := (lw_mem 600 (by decide +kernel) rfl)
theorem fl_X8_312 : FL "BroadseamLoft" 312 0 3 := ⟨RX0, TX0, 10, rfl, by decide, (lw_mem 557 (by decide +kernel) rfl), inA0⟩
theorem fl_X8_315 : FL "BroadseamLoft" 315 0 2 := ⟨RX0, TX0, 10, rfl, by decide, (lw_mem 555 (by decide +kernel) rfl), inA0⟩
theorem cw_X8_318 : CWm "BroadseamLoft" 318 yX0_isSealed cX0_isSealed 1 (Option.some Jvm.ClassFile.FieldType.boolean) 0 := ⟨(lw_mem 602 (by decide +kernel) rfl), (lw_mem 28 (by decide +kernel) rfl), (lw_mem 605 (by decide +kernel) rfl), by decide +kernel, by decide +kernel, by decide +kernel⟩
theorem fw_X8_312 : FW "BroadseamLoft" 312 0 3 (.int) false := ⟨RX0, TX0, 10, tyX0, rfl, by decide, (lw_mem 557 (by decide +kernel) rfl), inA0, tyX0_ok, nmX0, rfl, rfl, by decide⟩
theorem cw_X8_323 : CWm "BroadseamLoft" 323 yX0_roundsToOpen cX0_roundsToOpen 3 (Option.some Jvm.ClassFile.FieldType.int) 0 := ⟨(lw_mem 611 (by decide +kernel) rfl), (lw_mem 28 (by decide +kernel) rfl), (lw_mem 614 (by decide +kernel) rfl), by decide +kernel, by decide +kernel, by decide +kernel⟩
theorem k_X8_326 : Cond.constantLong "BroadseamLoft" 326 (4) ∈ lw_all := (lw_mem 623 (by decide +kernel) rfl)
theorem cw_X8_330 : CWm "BroadseamLoft" 330 yX0_isReadyToSeal cX0_isReadyToSeal 1 (Option.some Jvm.ClassFile.FieldType.boolean) 0 := ⟨(lw_mem 625 (by decide +kernel) rfl), (lw_mem 28 (by decide +kernel) rfl), (lw_mem 628 (by decide +kernel) rfl), by decide +kernel, by decide +kernel, by decide +kernel⟩
theorem im_yX0_isReadyToSeal : Cond.instanceMethod yX0_isReadyToSeal ∈ lw_all := (lw_mem 626 (by decide +kernel) rfl)
theorem se_yX0_isReadyToSeal : Cond.selects yX0_isReadyToSeal.cls yX0_isReadyToSeal yX0_isReadyToSeal ∈ lw_all := (lw_mem 627 (by decide +kernel) rfl)
theorem fw_X8_335 : FW "BroadseamLoft" 335 0 4 (.int) false := ⟨RX0, TX0, 10, tyX0, rfl, by decide, (lw_mem 559 (by decide +kernel) rfl), inA0, tyX0_ok, nmX0, rfl, rfl, by decide⟩
theorem fw_X8_338 : FW "BroadseamLoft" 338 0 5 (.int) false := ⟨RX0, TX0, 10, tyX0, rfl, by decide, (lw_mem 561 (by decide +kernel) rfl), inA0, tyX0_ok, nmX0, rfl, rfl, by decide⟩
theorem fl_X8_341 : FL "BroadseamLoft" 341 0 6 := ⟨RX0, TX0, 10, rfl, by decide, (lw_mem 563 (by decide +kernel) rfl), inA0⟩
theorem fw_X8_341 : FW "BroadseamLoft" 341 0 6 (.int) false := ⟨RX0, TX0, 10, tyX0, rfl, by decide, (lw_mem 563 (by decide +kernel) rfl), inA0, tyX0_ok, nmX0, rfl, rfl, by decide⟩
theorem fl_X8_56 : FL "BroadseamLoft" 56 8 12 := ⟨RX8, TX8, 14, rfl, by decide, (lw_mem 116 (by decide +kernel) rfl), inA8⟩
theorem cw_X8_344 : CWm "BroadseamLoft" 344 yX1_note cX1_note 3 (Option.none : Option Jvm.ClassFile.FieldType) 2 := ⟨(lw_mem 632 (by decide +kernel) rfl), (lw_mem 16 (by decide +kernel) rfl), (lw_mem 635 (by decide +kernel) rfl), by decide +kernel, by decide +kernel, by decide +kernel⟩
theorem im_yX1_note : Cond.instanceMethod yX1_note ∈ lw_all := (lw_mem 633 (by decide +kernel) rfl)
theorem se_yX1_note : Cond.selects yX1_note.cls yX1_note yX1_note ∈ lw_all := (lw_mem 634 (by decide +kernel) rfl)
theorem fl_X8_338 : FL "BroadseamLoft" 338 0 5 := ⟨RX0, TX0, 10, rfl, by decide, (lw_mem 561 (by decide +kernel) rfl), inA0⟩
theorem fl_X8_347 : FL "BroadseamLoft" 347 0 0 := ⟨RX0, TX0, 10, rfl, by decide, (lw_mem 551 (by decide +kernel) rfl), inA0⟩
theorem fl_X8_351 : FL "BroadseamLoft" 351 2 4 := ⟨RX2, TX2, 8, rfl, by decide, (lw_mem 271 (by decide +kernel) rfl), inA2⟩
theorem fl_X8_335 : FL "BroadseamLoft" 335 0 4 := ⟨RX0, TX0, 10, rfl, by decide, (lw_mem 559 (by decide +kernel) rfl), inA0⟩
theorem cw_X8_356 : CWm "BroadseamLoft" 356 yX0_loseSeal cX0_loseSeal 1 (Option.none : Option Jvm.ClassFile.FieldType) 0 := ⟨(lw_mem 641 (by decide +kernel) rfl), (lw_mem 28 (by decide +kernel) rfl), (lw_mem 644 (by decide +kernel) rfl), by decide +kernel, by decide +kernel, by decide +kernel⟩
theorem im_yX0_loseSeal : Cond.instanceMethod yX0_loseSeal ∈ lw_all := (lw_mem 642 (by decide +kernel) rfl)
theorem se_yX0_loseSeal : Cond.selects yX0_loseSeal.cls yX0_loseSeal yX0_loseSeal ∈ lw_all := (lw_mem 643 (by decide +kernel) rfl)
theorem fl_X8_359 : FL "BroadseamLoft" 359 0 7 := ⟨RX0, TX0, 10, rfl, by decide, (lw_mem 565 (by decide +kernel) rfl), inA0⟩
theorem fw_X8_359 : FW "BroadseamLoft" 359 0 7 (.int) false := ⟨RX0, TX0, 10, tyX0, rfl, by decide, (lw_mem 565 (by decide +kernel) rfl), inA0, tyX0_ok, nmX0, rfl, rfl, by decide⟩
theorem fw_X8_364 : FW "BroadseamLoft" 364 0 9 (.int) false := ⟨RX0, TX0, 10, tyX0, rfl, by decide, (lw_mem 569 (by decide +kernel) rfl), inA0, tyX0_ok, nmX0, rfl, rfl, by decide⟩
theorem fl_X8_364 : FL "BroadseamLoft" 364 0 9 := ⟨RX0, TX0, 10, rfl, by decide, (lw_mem 569 (by decide +kernel) rfl), inA0⟩
theorem fl_X8_367 : FL "BroadseamLoft" 367 0 8 := ⟨RX0, TX0, 10, rfl, by decide, (lw_mem 567 (by decide +kernel) rfl), inA0⟩
theorem fw_X8_367 : FW "BroadseamLoft" 367 0 8 (.int) false := ⟨RX0, TX0, 10, tyX0, rfl, by decide, (lw_mem 567 (by decide +kernel) rfl), inA0, tyX0_ok, nmX0, rfl, rfl, by decide⟩
theorem fw_X8_351 : FW "BroadseamLoft" 351 2 4 (.boolean) false := ⟨RX2, TX2, 8, tyX2, rfl, by decide, (lw_mem 271 (by decide +kernel) rfl), inA2, tyX2_ok, nmX2, rfl, rfl, by decide⟩
theorem cw_X8_372 : CWm "BroadseamLoft" 372 yX8_takeSealsAway cX8_takeSealsAway 7 (Option.some Jvm.ClassFile.FieldType.int) 1 := ⟨(lw_mem 655 (by decide +kernel) rfl), (lw_mem 13 (by decide +kernel) rfl), (lw_mem 658 (by decide +kernel) rfl), by decide +kernel, by decide +kernel, by decide +kernel⟩
theorem im_yX8_takeSealsAway : Cond.instanceMethod yX8_takeSealsAway ∈ lw_all := (lw_mem 657 (by decide +kernel) rfl)
theorem se_yX8_takeSealsAway : Cond.selects yX8_takeSealsAway.cls yX8_takeSealsAway yX8_takeSealsAway ∈ lw_all := lw_mem 8 rfl rfl
theorem k_X8_376 : Cond.constantLong "BroadseamLoft" 376 (5) ∈ lw_all := (lw_mem 663 (by decide +kernel) rfl)
theorem cw_X8_380 : CWm "BroadseamLoft" 380 yX0_numberOf cX0_numberOf 2 (Option.some Jvm.ClassFile.FieldType.int) 1 := ⟨(lw_mem 665 (by decide +kernel) rfl), (lw_mem 28 (by decide +kernel) rfl), (lw_mem 668 (by decide +kernel) rfl), by decide +kernel, by decide +kernel, by decide +kernel⟩
theorem im_yX0_numberOf : Cond.instanceMethod yX0_numberOf ∈ lw_all := (lw_mem 666 (by decide +kernel) rfl)
theorem se_yX0_numberOf : Cond.selects yX0_numberOf.cls yX0_numberOf yX0_numberOf ∈ lw_all := (lw_mem 667 (by decide +kernel) rfl)
theorem cw_X8_383 : CWm "BroadseamLoft" 383 yX1_timesNoted cX1_timesNoted 5 (Option.some Jvm.ClassFile.FieldType.int) 2 := ⟨(lw_mem 673 (by decide +kernel) rfl), (lw_mem 16 (by decide +kernel) rfl), (lw_mem 676 (by decide +kernel) rfl), by decide +kernel, by decide +kernel, by decide +kernel⟩
theorem im_yX1_timesNoted : Cond.instanceMethod yX1_timesNoted ∈ lw_all := (lw_mem 674 (by decide +kernel) rfl)
theorem se_yX1_timesNoted : Cond.selects yX1_timesNoted.cls yX1_timesNoted yX1_timesNoted ∈ lw_all := (lw_mem 675 (by decide +kernel) rfl)
theorem fl_X8_386 : FL "BroadseamLoft" 386 0 1 := ⟨RX0, TX0, 10, rfl, by decide, (lw_mem 553 (by decide +kernel) rfl), inA0⟩
theorem k_L_7 : Cond.constant "BroadseamLoftLaw" 7 (2142645289) ∈ lw_all := (lw_mem 150 (by decide +kernel) rfl)
theorem k_L_8 : Cond.constant "BroadseamLoftLaw" 8 (2147483647) ∈ lw_all := (lw_mem 151 (by decide +kernel) rfl)
theorem cw_L_9 : CWm "BroadseamLoftLaw" 9 yX8_lot cX8_lot 4 (Option.some Jvm.ClassFile.FieldType.int) 3 := ⟨(lw_mem 169 (by decide +kernel) rfl), (lw_mem 13 (by decide +kernel) rfl), (lw_mem 172 (by decide +kernel) rfl), by decide +kernel, by decide +kernel, by decide +kernel⟩
theorem im_yX8_lot : Cond.instanceMethod yX8_lot ∈ lw_all := (lw_mem 170 (by decide +kernel) rfl)
theorem se_yX8_lot : Cond.selects yX8_lot.cls yX8_lot yX8_lot ∈ lw_all := (lw_mem 171 (by decide +kernel) rfl)
theorem cw_L_15 : CWm "BroadseamLoftLaw" 15 yX8_sun cX8_sun 4 (Option.some Jvm.ClassFile.FieldType.int) 2 := ⟨(lw_mem 292 (by decide +kernel) rfl), (lw_mem 13 (by decide +kernel) rfl), (lw_mem 295 (by decide +kernel) rfl), by decide +kernel, by decide +kernel, by decide +kernel⟩
theorem im_yX8_sun : Cond.instanceMethod yX8_sun ∈ lw_all := (lw_mem 293 (by decide +kernel) rfl)
theorem se_yX8_sun : Cond.selects yX8_sun.cls yX8_sun yX8_sun ∈ lw_all := (lw_mem 294 (by decide +kernel) rfl)
theorem cw_L_19 : CWm "BroadseamLoftLaw" 19 yX8_panel cX8_panel 6 (Option.some Jvm.ClassFile.FieldType.int) 4 := ⟨(lw_mem 322 (by decide +kernel) rfl), (lw_mem 13 (by decide +kernel) rfl), (lw_mem 325 (by decide +kernel) rfl), by decide +kernel, by decide +kernel, by decide +kernel⟩
theorem im_yX8_panel : Cond.instanceMethod yX8_panel ∈ lw_all := (lw_mem 323 (by decide +kernel) rfl)
theorem se_yX8_panel : Cond.selects yX8_panel.cls yX8_panel yX8_panel ∈ lw_all := (lw_mem 324 (by decide +kernel) rfl)
theorem cw_L_23 : CWm "BroadseamLoftLaw" 23 yX8_strength cX8_strength 3 (Option.some Jvm.ClassFile.FieldType.long) 1 := ⟨(lw_mem 359 (by decide +kernel) rfl), (lw_mem 13 (by decide +kernel) rfl), (lw_mem 362 (by decide +kernel) rfl), by decide +kernel, by decide +kernel, by decide +kernel⟩
theorem im_yX8_strength : Cond.instanceMethod yX8_strength ∈ lw_all := (lw_mem 360 (by decide +kernel) rfl)
theorem se_yX8_strength : Cond.selects yX8_strength.cls yX8_strength yX8_strength ∈ lw_all := (lw_mem 361 (by decide +kernel) rfl)
theorem cw_L_27 : CWm "BroadseamLoftLaw" 27 yX8_roll cX8_roll 3 (Option.some Jvm.ClassFile.FieldType.int) 1 := ⟨(lw_mem 377 (by decide +kernel) rfl), (lw_mem 13 (by decide +kernel) rfl), (lw_mem 380 (by decide +kernel) rfl), by decide +kernel, by decide +kernel, by decide +kernel⟩
theorem im_yX8_roll : Cond.instanceMethod yX8_roll ∈ lw_all := (lw_mem 378 (by decide +kernel) rfl)
theorem se_yX8_roll : Cond.selects yX8_roll.cls yX8_roll yX8_roll ∈ lw_all := (lw_mem 379 (by decide +kernel) rfl)
theorem cw_L_31 : CWm "BroadseamLoftLaw" 31 yX8_seam cX8_seam 6 (Option.some Jvm.ClassFile.FieldType.int) 3 := ⟨(lw_mem 385 (by decide +kernel) rfl), (lw_mem 13 (by decide +kernel) rfl), (lw_mem 388 (by decide +kernel) rfl), by decide +kernel, by decide +kernel, by decide +kernel⟩
theorem im_yX8_seam : Cond.instanceMethod yX8_seam ∈ lw_all := (lw_mem 386 (by decide +kernel) rfl)
theorem se_yX8_seam : Cond.selects yX8_seam.cls yX8_seam yX8_seam ∈ lw_all := (lw_mem 387 (by decide +kernel) rfl)
theorem cw_L_34 : CWm "BroadseamLoftLaw" 34 yX8_rip cX8_rip 3 (Option.some Jvm.ClassFile.FieldType.long) 1 := ⟨(lw_mem 408 (by decide +kernel) rfl), (lw_mem 13 (by decide +kernel) rfl), (lw_mem 411 (by decide +kernel) rfl), by decide +kernel, by decide +kernel, by decide +kernel⟩
theorem im_yX8_rip : Cond.instanceMethod yX8_rip ∈ lw_all := (lw_mem 409 (by decide +kernel) rfl)
theorem se_yX8_rip : Cond.selects yX8_rip.cls yX8_rip yX8_rip ∈ lw_all := (lw_mem 410 (by decide +kernel) rfl)
theorem cw_L_37 : CWm "BroadseamLoftLaw" 37 yX8_bears cX8_bears 5 (Option.some Jvm.ClassFile.FieldType.long) 2 := ⟨(lw_mem 422 (by decide +kernel) rfl), (lw_mem 13 (by decide +kernel) rfl), (lw_mem 425 (by decide +kernel) rfl), by decide +kernel, by decide +kernel, by decide +kernel⟩
theorem im_yX8_bears : Cond.instanceMethod yX8_bears ∈ lw_all := (lw_mem 423 (by decide +kernel) rfl)
theorem se_yX8_bears : Cond.selects yX8_bears.cls yX8_bears yX8_bears ∈ lw_all := (lw_mem 424 (by decide +kernel) rfl)
theorem cw_L_41 : CWm "BroadseamLoftLaw" 41 yX8_bearsAnew cX8_bearsAnew 5 (Option.some Jvm.ClassFile.FieldType.long) 2 := ⟨(lw_mem 438 (by decide +kernel) rfl), (lw_mem 13 (by decide +kernel) rfl), (lw_mem 441 (by decide +kernel) rfl), by decide +kernel, by decide +kernel, by decide +kernel⟩
theorem im_yX8_bearsAnew : Cond.instanceMethod yX8_bearsAnew ∈ lw_all := (lw_mem 439 (by decide +kernel) rfl)
theorem se_yX8_bearsAnew : Cond.selects yX8_bearsAnew.cls yX8_bearsAnew yX8_bearsAnew ∈ lw_all := (lw_mem 440 (by decide +kernel) rfl)
theorem cw_L_44 : CWm "BroadseamLoftLaw" 44 yX8_knot cX8_knot 5 (Option.some Jvm.ClassFile.FieldType.int) 3 := ⟨(lw_mem 454 (by decide +kernel) rfl), (lw_mem 13 (by decide +kernel) rfl), (lw_mem 457 (by decide +kernel) rfl), by decide +kernel, by decide +kernel, by decide +kernel⟩
theorem im_yX8_knot : Cond.instanceMethod yX8_knot ∈ lw_all := (lw_mem 455 (by decide +kernel) rfl)
theorem se_yX8_knot : Cond.selects yX8_knot.cls yX8_knot yX8_knot ∈ lw_all := (lw_mem 456 (by decide +kernel) rfl)
theorem cw_L_48 : CWm "BroadseamLoftLaw" 48 yX8_load cX8_load 3 (Option.some Jvm.ClassFile.FieldType.int) 1 := ⟨(lw_mem 462 (by decide +kernel) rfl), (lw_mem 13 (by decide +kernel) rfl), (lw_mem 465 (by decide +kernel) rfl), by decide +kernel, by decide +kernel, by decide +kernel⟩
theorem im_yX8_load : Cond.instanceMethod yX8_load ∈ lw_all := (lw_mem 463 (by decide +kernel) rfl)
theorem se_yX8_load : Cond.selects yX8_load.cls yX8_load yX8_load ∈ lw_all := (lw_mem 464 (by decide +kernel) rfl)
theorem cw_L_51 : CWm "BroadseamLoftLaw" 51 yX8_rest cX8_rest 3 (Option.some Jvm.ClassFile.FieldType.int) 1 := ⟨(lw_mem 468 (by decide +kernel) rfl), (lw_mem 13 (by decide +kernel) rfl), (lw_mem 471 (by decide +kernel) rfl), by decide +kernel, by decide +kernel, by decide +kernel⟩
theorem im_yX8_rest : Cond.instanceMethod yX8_rest ∈ lw_all := (lw_mem 469 (by decide +kernel) rfl)
theorem se_yX8_rest : Cond.selects yX8_rest.cls yX8_rest yX8_rest ∈ lw_all := (lw_mem 470 (by decide +kernel) rfl)
theorem cw_L_54 : CWm "BroadseamLoftLaw" 54 yX8_height cX8_height 2 (Option.some Jvm.ClassFile.FieldType.int) 1 := ⟨(lw_mem 492 (by decide +kernel) rfl), (lw_mem 13 (by decide +kernel) rfl), (lw_mem 495 (by decide +kernel) rfl), by decide +kernel, by decide +kernel, by decide +kernel⟩
theorem im_yX8_height : Cond.instanceMethod yX8_height ∈ lw_all := (lw_mem 493 (by decide +kernel) rfl)
theorem se_yX8_height : Cond.selects yX8_height.cls yX8_height yX8_height ∈ lw_all := (lw_mem 494 (by decide +kernel) rfl)
theorem cw_L_57 : CWm "BroadseamLoftLaw" 57 yX8_pulled cX8_pulled 3 (Option.some Jvm.ClassFile.FieldType.long) 1 := ⟨(lw_mem 496 (by decide +kernel) rfl), (lw_mem 13 (by decide +kernel) rfl), (lw_mem 499 (by decide +kernel) rfl), by decide +kernel, by decide +kernel, by decide +kernel⟩
theorem im_yX8_pulled : Cond.instanceMethod yX8_pulled ∈ lw_all := (lw_mem 497 (by decide +kernel) rfl)
theorem se_yX8_pulled : Cond.selects yX8_pulled.cls yX8_pulled yX8_pulled ∈ lw_all := (lw_mem 498 (by decide +kernel) rfl)
theorem cw_L_60 : CWm "BroadseamLoftLaw" 60 yX8_trim cX8_trim 4 (Option.some Jvm.ClassFile.FieldType.float) 3 := ⟨(lw_mem 501 (by decide +kernel) rfl), (lw_mem 13 (by decide +kernel) rfl), (lw_mem 504 (by decide +kernel) rfl), by decide +kernel, by decide +kernel, by decide +kernel⟩
theorem im_yX8_trim : Cond.instanceMethod yX8_trim ∈ lw_all := (lw_mem 502 (by decide +kernel) rfl)
theorem se_yX8_trim : Cond.selects yX8_trim.cls yX8_trim yX8_trim ∈ lw_all := (lw_mem 503 (by decide +kernel) rfl)
theorem k_L_64 : Cond.constantFloat "BroadseamLoftLaw" 64 (1148846080) ∈ lw_all := (lw_mem 514 (by decide +kernel) rfl)
theorem cw_L_65 : CWm "BroadseamLoftLaw" 65 yX8_power cX8_power 2 (Option.some Jvm.ClassFile.FieldType.float) 1 := ⟨(lw_mem 515 (by decide +kernel) rfl), (lw_mem 13 (by decide +kernel) rfl), (lw_mem 518 (by decide +kernel) rfl), by decide +kernel, by decide +kernel, by decide +kernel⟩
theorem im_yX8_power : Cond.instanceMethod yX8_power ∈ lw_all := (lw_mem 516 (by decide +kernel) rfl)
theorem se_yX8_power : Cond.selects yX8_power.cls yX8_power yX8_power ∈ lw_all := (lw_mem 517 (by decide +kernel) rfl)
theorem cw_L_69 : CWm "BroadseamLoftLaw" 69 yX8_halyard cX8_halyard 4 (Option.some Jvm.ClassFile.FieldType.int) 2 := ⟨(lw_mem 526 (by decide +kernel) rfl), (lw_mem 13 (by decide +kernel) rfl), (lw_mem 529 (by decide +kernel) rfl), by decide +kernel, by decide +kernel, by decide +kernel⟩
theorem im_yX8_halyard : Cond.instanceMethod yX8_halyard ∈ lw_all := (lw_mem 527 (by decide +kernel) rfl)
theorem se_yX8_halyard : Cond.selects yX8_halyard.cls yX8_halyard yX8_halyard ∈ lw_all := (lw_mem 528 (by decide +kernel) rfl)
theorem cw_L_72 : CWm "BroadseamLoftLaw" 72 yX8_pass cX8_pass 2 (Option.some Jvm.ClassFile.FieldType.int) 1 := ⟨(lw_mem 532 (by decide +kernel) rfl), (lw_mem 13 (by decide +kernel) rfl), (lw_mem 535 (by decide +kernel) rfl), by decide +kernel, by decide +kernel, by decide +kernel⟩
theorem im_yX8_pass : Cond.instanceMethod yX8_pass ∈ lw_all := (lw_mem 533 (by decide +kernel) rfl)
theorem se_yX8_pass : Cond.selects yX8_pass.cls yX8_pass yX8_pass ∈ lw_all := (lw_mem 534 (by decide +kernel) rfl)
theorem cw_L_75 : CWm "BroadseamLoftLaw" 75 yX8_canopy cX8_canopy 3 (Option.some Jvm.ClassFile.FieldType.int) 1 := ⟨(lw_mem 540 (by decide +kernel) rfl), (lw_mem 13 (by decide +kernel) rfl), (lw_mem 543 (by decide +kernel) rfl), by decide +kernel, by decide +kernel, by decide +kernel⟩
theorem im_yX8_canopy : Cond.instanceMethod yX8_canopy ∈ lw_all := (lw_mem 541 (by decide +kernel) rfl)
theorem se_yX8_canopy : Cond.selects yX8_canopy.cls yX8_canopy yX8_canopy ∈ lw_all := (lw_mem 542 (by decide +kernel) rfl)
theorem cw_L_78 : CWm "BroadseamLoftLaw" 78 yX8_part cX8_part 4 (Option.some Jvm.ClassFile.FieldType.int) 2 := ⟨(lw_mem 591 (by decide +kernel) rfl), (lw_mem 13 (by decide +kernel) rfl), (lw_mem 594 (by decide +kernel) rfl), by decide +kernel, by decide +kernel, by decide +kernel⟩
theorem im_yX8_part : Cond.instanceMethod yX8_part ∈ lw_all := (lw_mem 592 (by decide +kernel) rfl)
theorem se_yX8_part : Cond.selects yX8_part.cls yX8_part yX8_part ∈ lw_all := (lw_mem 593 (by decide +kernel) rfl)
theorem cw_L_81 : CWm "BroadseamLoftLaw" 81 yX8_opens cX8_opens 3 (Option.some Jvm.ClassFile.FieldType.int) 1 := ⟨(lw_mem 607 (by decide +kernel) rfl), (lw_mem 13 (by decide +kernel) rfl), (lw_mem 610 (by decide +kernel) rfl), by decide +kernel, by decide +kernel, by decide +kernel⟩
theorem im_yX8_opens : Cond.instanceMethod yX8_opens ∈ lw_all := (lw_mem 608 (by decide +kernel) rfl)
theorem se_yX8_opens : Cond.selects yX8_opens.cls yX8_opens yX8_opens ∈ lw_all := (lw_mem 609 (by decide +kernel) rfl)
theorem cw_L_84 : CWm "BroadseamLoftLaw" 84 yX8_seal cX8_seal 4 (Option.some Jvm.ClassFile.FieldType.int) 2 := ⟨(lw_mem 619 (by decide +kernel) rfl), (lw_mem 13 (by decide +kernel) rfl), (lw_mem 622 (by decide +kernel) rfl), by decide +kernel, by decide +kernel, by decide +kernel⟩
theorem im_yX8_seal : Cond.instanceMethod yX8_seal ∈ lw_all := (lw_mem 620 (by decide +kernel) rfl)
theorem se_yX8_seal : Cond.selects yX8_seal.cls yX8_seal yX8_seal ∈ lw_all := (lw_mem 621 (by decide +kernel) rfl)
theorem cw_L_87 : CWm "BroadseamLoftLaw" 87 yX8_use cX8_use 4 (Option.some Jvm.ClassFile.FieldType.int) 1 := ⟨(lw_mem 636 (by decide +kernel) rfl), (lw_mem 13 (by decide +kernel) rfl), (lw_mem 639 (by decide +kernel) rfl), by decide +kernel, by decide +kernel, by decide +kernel⟩
theorem im_yX8_use : Cond.instanceMethod yX8_use ∈ lw_all := (lw_mem 637 (by decide +kernel) rfl)
theorem se_yX8_use : Cond.selects yX8_use.cls yX8_use yX8_use ∈ lw_all := (lw_mem 638 (by decide +kernel) rfl)
theorem cw_L_90 : CWm "BroadseamLoftLaw" 90 yX8_wet cX8_wet 4 (Option.some Jvm.ClassFile.FieldType.int) 2 := ⟨(lw_mem 645 (by decide +kernel) rfl), (lw_mem 13 (by decide +kernel) rfl), (lw_mem 648 (by decide +kernel) rfl), by decide +kernel, by decide +kernel, by decide +kernel⟩
theorem im_yX8_wet : Cond.instanceMethod yX8_wet ∈ lw_all := (lw_mem 646 (by decide +kernel) rfl)
theorem se_yX8_wet : Cond.selects yX8_wet.cls yX8_wet yX8_wet ∈ lw_all := (lw_mem 647 (by decide +kernel) rfl)
theorem cw_L_94 : CWm "BroadseamLoftLaw" 94 yX8_find cX8_find 4 (Option.some Jvm.ClassFile.FieldType.int) 2 := ⟨(lw_mem 650 (by decide +kernel) rfl), (lw_mem 13 (by decide +kernel) rfl), (lw_mem 653 (by decide +kernel) rfl), by decide +kernel, by decide +kernel, by decide +kernel⟩
theorem im_yX8_find : Cond.instanceMethod yX8_find ∈ lw_all := (lw_mem 651 (by decide +kernel) rfl)
theorem se_yX8_find : Cond.selects yX8_find.cls yX8_find yX8_find ∈ lw_all := (lw_mem 652 (by decide +kernel) rfl)
theorem cw_L_97 : CWm "BroadseamLoftLaw" 97 yX8_ofCanopy cX8_ofCanopy 4 (Option.some Jvm.ClassFile.FieldType.int) 2 := ⟨(lw_mem 659 (by decide +kernel) rfl), (lw_mem 13 (by decide +kernel) rfl), (lw_mem 662 (by decide +kernel) rfl), by decide +kernel, by decide +kernel, by decide +kernel⟩
theorem im_yX8_ofCanopy : Cond.instanceMethod yX8_ofCanopy ∈ lw_all := (lw_mem 660 (by decide +kernel) rfl)
theorem se_yX8_ofCanopy : Cond.selects yX8_ofCanopy.cls yX8_ofCanopy yX8_ofCanopy ∈ lw_all := (lw_mem 661 (by decide +kernel) rfl)
theorem cw_L_100 : CWm "BroadseamLoftLaw" 100 yX8_lifeAnew cX8_lifeAnew 3 (Option.some Jvm.ClassFile.FieldType.int) 2 := ⟨(lw_mem 669 (by decide +kernel) rfl), (lw_mem 13 (by decide +kernel) rfl), (lw_mem 672 (by decide +kernel) rfl), by decide +kernel, by decide +kernel, by decide +kernel⟩
theorem im_yX8_lifeAnew : Cond.instanceMethod yX8_lifeAnew ∈ lw_all := (lw_mem 670 (by decide +kernel) rfl)
theorem se_yX8_lifeAnew : Cond.selects yX8_lifeAnew.cls yX8_lifeAnew yX8_lifeAnew ∈ lw_all := (lw_mem 671 (by decide +kernel) rfl)
theorem k_L_105 : Cond.constantLong "BroadseamLoftLaw" 105 (-1731000000000) ∈ lw_all := (lw_mem 677 (by decide +kernel) rfl)
theorem k_L_109 : Cond.constantLong "BroadseamLoftLaw" 109 (-1732000000000) ∈ lw_all := (lw_mem 678 (by decide +kernel) rfl)
theorem k_L_113 : Cond.constantLong "BroadseamLoftLaw" 113 (-1733000000000) ∈ lw_all := (lw_mem 679 (by decide +kernel) rfl)
theorem cw_L_115 : CWm "BroadseamLoftLaw" 115 yX8_gust cX8_gust 6 (Option.some Jvm.ClassFile.FieldType.int) 1 := ⟨(lw_mem 695 (by decide +kernel) rfl), (lw_mem 13 (by decide +kernel) rfl), (lw_mem 698 (by decide +kernel) rfl), by decide +kernel, by decide +kernel, by decide +kernel⟩
theorem im_yX8_gust : Cond.instanceMethod yX8_gust ∈ lw_all := (lw_mem 696 (by decide +kernel) rfl)
theorem se_yX8_gust : Cond.selects yX8_gust.cls yX8_gust yX8_gust ∈ lw_all := (lw_mem 697 (by decide +kernel) rfl)
theorem cw_L_119 : CWm "BroadseamLoftLaw" 119 yX8_peg cX8_peg 4 (Option.some Jvm.ClassFile.FieldType.int) 2 := ⟨(lw_mem 713 (by decide +kernel) rfl), (lw_mem 13 (by decide +kernel) rfl), (lw_mem 716 (by decide +kernel) rfl), by decide +kernel, by decide +kernel, by decide +kernel⟩
theorem im_yX8_peg : Cond.instanceMethod yX8_peg ∈ lw_all := (lw_mem 714 (by decide +kernel) rfl)
theorem se_yX8_peg : Cond.selects yX8_peg.cls yX8_peg yX8_peg ∈ lw_all := (lw_mem 715 (by decide +kernel) rfl)
theorem cw_L_129 : CWm "BroadseamLoftLaw" 129 yX8_pegs cX8_pegs 4 (Option.some Jvm.ClassFile.FieldType.int) 0 := ⟨(lw_mem 159 (by decide +kernel) rfl), (lw_mem 13 (by decide +kernel) rfl), (lw_mem 162 (by decide +kernel) rfl), by decide +kernel, by decide +kernel, by decide +kernel⟩
theorem im_yX8_pegs : Cond.instanceMethod yX8_pegs ∈ lw_all := (lw_mem 160 (by decide +kernel) rfl)
theorem se_yX8_pegs : Cond.selects yX8_pegs.cls yX8_pegs yX8_pegs ∈ lw_all := (lw_mem 161 (by decide +kernel) rfl)
theorem k_L_133 : Cond.constantLong "BroadseamLoftLaw" 133 (31) ∈ lw_all := (lw_mem 680 (by decide +kernel) rfl)
theorem k_L_135 : Cond.constantLong "BroadseamLoftLaw" 135 (7) ∈ lw_all := (lw_mem 681 (by decide +kernel) rfl)
theorem k_L_137 : Cond.constant "BroadseamLoftLaw" 137 (2000000001) ∈ lw_all := (lw_mem 155 (by decide +kernel) rfl)
set_option maxRecDepth 100000 in
theorem cw_L_138 : CWm "BroadseamLoftLaw" 138 yL_all cL_all 5 (Option.some Jvm.ClassFile.FieldType.long) 2 := ⟨(lw_mem 156 (by decide +kernel) rfl), (lw_mem 12 (by decide +kernel) rfl), (lw_mem 158 rfl rfl), by decide +kernel, by decide +kernel, by decide +kernel⟩
theorem sm_yL_all : Cond.static yL_all ∈ lw_all := (lw_mem 157 (by decide +kernel) rfl)
set_option maxRecDepth 100000 in
theorem cw_L_142 : CWm "BroadseamLoftLaw" 142 yL_off cL_off 6 (Option.some Jvm.ClassFile.FieldType.boolean) 6 := ⟨(lw_mem 682 (by decide +kernel) rfl), (lw_mem 12 (by decide +kernel) rfl), (lw_mem 684 rfl rfl), by decide +kernel, by decide +kernel, by decide +kernel⟩
theorem sm_yL_off : Cond.static yL_off ∈ lw_all := (lw_mem 683 (by decide +kernel) rfl)
set_option maxRecDepth 100000 in
theorem cw_L_146 : CWm "BroadseamLoftLaw" 146 yL_no cL_no 6 (Option.some Jvm.ClassFile.FieldType.boolean) 6 := ⟨(lw_mem 685 (by decide +kernel) rfl), (lw_mem 12 (by decide +kernel) rfl), (lw_mem 687 rfl rfl), by decide +kernel, by decide +kernel, by decide +kernel⟩
theorem sm_yL_no : Cond.static yL_no ∈ lw_all := (lw_mem 686 (by decide +kernel) rfl)
theorem k_L_149 : Cond.constant "BroadseamLoftLaw" 149 (99999) ∈ lw_all := (lw_mem 688 (by decide +kernel) rfl)
theorem k_L_150 : Cond.constant "BroadseamLoftLaw" 150 (100001) ∈ lw_all := (lw_mem 689 (by decide +kernel) rfl)
theorem k_L_151 : Cond.constantLong "BroadseamLoftLaw" 151 (-1) ∈ lw_all := (lw_mem 690 (by decide +kernel) rfl)
theorem k_L_153 : Cond.constantLong "BroadseamLoftLaw" 153 (4000000000001) ∈ lw_all := (lw_mem 691 (by decide +kernel) rfl)
theorem k_L_158 : Cond.constantLong "BroadseamLoftLaw" 158 (5) ∈ lw_all := (lw_mem 741 (by decide +kernel) rfl)
theorem k_L_160 : Cond.constantLong "BroadseamLoftLaw" 160 (40000000000001) ∈ lw_all := (lw_mem 742 (by decide +kernel) rfl)
theorem k_L_162 : Cond.constantLong "BroadseamLoftLaw" 162 (1000000) ∈ lw_all := (lw_mem 749 (by decide +kernel) rfl)
theorem k_L_164 : Cond.constantLong "BroadseamLoftLaw" 164 (11) ∈ lw_all := (lw_mem 750 (by decide +kernel) rfl)
theorem k_L_166 : Cond.constantLong "BroadseamLoftLaw" 166 (1650) ∈ lw_all := (lw_mem 751 (by decide +kernel) rfl)
theorem k_L_168 : Cond.constantLong "BroadseamLoftLaw" 168 (60) ∈ lw_all := (lw_mem 752 (by decide +kernel) rfl)
theorem k_L_170 : Cond.constantLong "BroadseamLoftLaw" 170 (80) ∈ lw_all := (lw_mem 753 (by decide +kernel) rfl)
theorem k_L_172 : Cond.constantLong "BroadseamLoftLaw" 172 (40) ∈ lw_all := (lw_mem 754 (by decide +kernel) rfl)
theorem k_L_174 : Cond.constantLong "BroadseamLoftLaw" 174 (100) ∈ lw_all := (lw_mem 755 (by decide +kernel) rfl)
theorem k_L_176 : Cond.constant "BroadseamLoftLaw" 176 (-100000000) ∈ lw_all := (lw_mem 759 (by decide +kernel) rfl)
theorem k_L_177 : Cond.constantLong "BroadseamLoftLaw" 177 (1801) ∈ lw_all := (lw_mem 763 (by decide +kernel) rfl)
theorem k_L_179 : Cond.constantLong "BroadseamLoftLaw" 179 (18007) ∈ lw_all := (lw_mem 764 (by decide +kernel) rfl)
theorem k_L_181 : Cond.constantLong "BroadseamLoftLaw" 181 (49) ∈ lw_all := (lw_mem 768 (by decide +kernel) rfl)
theorem k_L_183 : Cond.constantLong "BroadseamLoftLaw" 183 (8) ∈ lw_all := (lw_mem 772 (by decide +kernel) rfl)
theorem nw_L_10 : NW "BroadseamLoftLaw" 10 8 := ⟨RX8, TX8, 14, tyX8, rfl, rfl, inA8, tyX8_ok, by decide +kernel, (lw_mem 30 (by decide +kernel) rfl), (lw_mem 31 (by decide +kernel) rfl), (lw_mem 13 (by decide +kernel) rfl)⟩
theorem cw_L_185 : CWm "BroadseamLoftLaw" 185 yX8_init cX8_init 1 (Option.none : Option Jvm.ClassFile.FieldType) 0 := ⟨(lw_mem 32 (by decide +kernel) rfl), (lw_mem 13 (by decide +kernel) rfl), (lw_mem 34 (by decide +kernel) rfl), by decide +kernel, by decide +kernel, by decide +kernel⟩
theorem im_yX8_init : Cond.instanceMethod yX8_init ∈ lw_all := (lw_mem 33 (by decide +kernel) rfl)
set_option maxRecDepth 100000 in
theorem cw_L_186 : CWm "BroadseamLoftLaw" 186 yL_isRefused cL_isRefused 15 (Option.some Jvm.ClassFile.FieldType.boolean) 3 := ⟨(lw_mem 152 (by decide +kernel) rfl), (lw_mem 12 (by decide +kernel) rfl), (lw_mem 154 rfl rfl), by decide +kernel, by decide +kernel, by decide +kernel⟩
theorem sm_yL_isRefused : Cond.static yL_isRefused ∈ lw_all := (lw_mem 153 (by decide +kernel) rfl)
set_option maxRecDepth 100000 in
theorem cw_L_190 : CWm "BroadseamLoftLaw" 190 yL_roll cL_roll 2 (Option.some Jvm.ClassFile.FieldType.int) 2 := ⟨(lw_mem 147 (by decide +kernel) rfl), (lw_mem 12 (by decide +kernel) rfl), (lw_mem 149 rfl rfl), by decide +kernel, by decide +kernel, by decide +kernel⟩
theorem sm_yL_roll : Cond.static yL_roll ∈ lw_all := (lw_mem 148 (by decide +kernel) rfl)
set_option maxRecDepth 100000 in
theorem cw_L_193 : CWm "BroadseamLoftLaw" 193 yL_isSewn cL_isSewn 19 (Option.some Jvm.ClassFile.FieldType.boolean) 5 := ⟨(lw_mem 746 (by decide +kernel) rfl), (lw_mem 12 (by decide +kernel) rfl), (lw_mem 748 rfl rfl), by decide +kernel, by decide +kernel, by decide +kernel⟩
theorem sm_yL_isSewn : Cond.static yL_isSewn ∈ lw_all := (lw_mem 747 (by decide +kernel) rfl)
set_option maxRecDepth 100000 in
theorem cw_L_197 : CWm "BroadseamLoftLaw" 197 yL_isNet cL_isNet 8 (Option.some Jvm.ClassFile.FieldType.boolean) 3 := ⟨(lw_mem 756 (by decide +kernel) rfl), (lw_mem 12 (by decide +kernel) rfl), (lw_mem 758 rfl rfl), by decide +kernel, by decide +kernel, by decide +kernel⟩
theorem sm_yL_isNet : Cond.static yL_isNet ∈ lw_all := (lw_mem 757 (by decide +kernel) rfl)
set_option maxRecDepth 100000 in
theorem cw_L_201 : CWm "BroadseamLoftLaw" 201 yL_isGust cL_isGust 15 (Option.some Jvm.ClassFile.FieldType.boolean) 5 := ⟨(lw_mem 760 (by decide +kernel) rfl), (lw_mem 12 (by decide +kernel) rfl), (lw_mem 762 rfl rfl), by decide +kernel, by decide +kernel, by decide +kernel⟩
theorem sm_yL_isGust : Cond.static yL_isGust ∈ lw_all := (lw_mem 761 (by decide +kernel) rfl)
set_option maxRecDepth 100000 in
theorem cw_L_205 : CWm "BroadseamLoftLaw" 205 yL_isTrimmed cL_isTrimmed 11 (Option.some Jvm.ClassFile.FieldType.boolean) 3 := ⟨(lw_mem 765 (by decide +kernel) rfl), (lw_mem 12 (by decide +kernel) rfl), (lw_mem 767 rfl rfl), by decide +kernel, by decide +kernel, by decide +kernel⟩
theorem sm_yL_isTrimmed : Cond.static yL_isTrimmed ∈ lw_all := (lw_mem 766 (by decide +kernel) rfl)
set_option maxRecDepth 100000 in
theorem cw_L_208 : CWm "BroadseamLoftLaw" 208 yL_isRigged cL_isRigged 14 (Option.some Jvm.ClassFile.FieldType.boolean) 4 := ⟨(lw_mem 769 (by decide +kernel) rfl), (lw_mem 12 (by decide +kernel) rfl), (lw_mem 771 rfl rfl), by decide +kernel, by decide +kernel, by decide +kernel⟩
theorem sm_yL_isRigged : Cond.static yL_isRigged ∈ lw_all := (lw_mem 770 (by decide +kernel) rfl)
set_option maxRecDepth 100000 in
theorem cw_L_212 : CWm "BroadseamLoftLaw" 212 yL_areSound cL_areSound 15 (Option.some Jvm.ClassFile.FieldType.boolean) 5 := ⟨(lw_mem 743 (by decide +kernel) rfl), (lw_mem 12 (by decide +kernel) rfl), (lw_mem 745 rfl rfl), by decide +kernel, by decide +kernel, by decide +kernel⟩
theorem sm_yL_areSound : Cond.static yL_areSound ∈ lw_all := (lw_mem 744 (by decide +kernel) rfl)
theorem mc_imax : Cond.static Lib.Math.max.name ∈ lw_all ∧ Cond.initialized "java/lang/Math" ∈ lw_all ∧ Cond.code Lib.Math.max.name Lib.Math.max.code 2 (some .int) ∈ lw_all := ⟨(lw_mem 357 (by decide +kernel) rfl), (lw_mem 24 (by decide +kernel) rfl), (lw_mem 358 (by decide +kernel) rfl)⟩
theorem mc_imin : Cond.static Lib.Math.min.name ∈ lw_all ∧ Cond.initialized "java/lang/Math" ∈ lw_all ∧ Cond.code Lib.Math.min.name Lib.Math.min.code 2 (some .int) ∈ lw_all := ⟨(lw_mem 320 (by decide +kernel) rfl), (lw_mem 24 (by decide +kernel) rfl), (lw_mem 321 (by decide +kernel) rfl)⟩
theorem mc_lmax : Cond.static Lib.MathLoose.max_long.x ∈ lw_all ∧ Cond.initialized "java/lang/Math" ∈ lw_all ∧ Cond.code Lib.MathLoose.max_long.x Lib.MathLoose.max_long.code 4 (some .long) ∈ lw_all := ⟨(lw_mem 436 (by decide +kernel) rfl), (lw_mem 24 (by decide +kernel) rfl), (lw_mem 437 (by decide +kernel) rfl)⟩
theorem mc_lmin : Cond.static Lib.MathLoose.min_long.x ∈ lw_all ∧ Cond.initialized "java/lang/Math" ∈ lw_all ∧ Cond.code Lib.MathLoose.min_long.x Lib.MathLoose.min_long.code 4 (some .long) ∈ lw_all := ⟨(lw_mem 419 (by decide +kernel) rfl), (lw_mem 24 (by decide +kernel) rfl), (lw_mem 420 (by decide +kernel) rfl)⟩
theorem oi_X8_1 : Cond.methodLink "BroadseamLoft" 1 objectInit ∈ lw_all := (lw_mem 35 (by decide +kernel) rfl)
theorem oi_X3_3 : Cond.methodLink "BroadseamLoft$Net" 3 objectInit ∈ lw_all := (lw_mem 49 (by decide +kernel) rfl)
theorem oi_X6_1 : Cond.methodLink "BroadseamLoft$Sail" 1 objectInit ∈ lw_all := (lw_mem 75 (by decide +kernel) rfl)
theorem oi_X1_3 : Cond.methodLink "BroadseamLoft$Log" 3 objectInit ∈ lw_all := (lw_mem 95 (by decide +kernel) rfl)
theorem oi_X2_3 : Cond.methodLink "BroadseamLoft$Lot" 3 objectInit ∈ lw_all := (lw_mem 264 (by decide +kernel) rfl)
theorem ml_X8_102 : Cond.methodLink "BroadseamLoft" 102 Lib.Math.min.name ∈ lw_all := (lw_mem 319 (by decide +kernel) rfl)
theorem oi_X4_1 : Cond.methodLink "BroadseamLoft$Panel" 1 objectInit ∈ lw_all := (lw_mem 334 (by decide +kernel) rfl)
theorem ml_X2_24 : Cond.methodLink "BroadseamLoft$Lot" 24 Lib.Math.max.name ∈ lw_all := (lw_mem 356 (by decide +kernel) rfl)
theorem oi_X7_3 : Cond.methodLink "BroadseamLoft$Seam" 3 objectInit ∈ lw_all := (lw_mem 395 (by decide +kernel) rfl)
theorem ml_X7_28 : Cond.methodLink "BroadseamLoft$Seam" 28 Lib.MathLoose.min_long.x ∈ lw_all := (lw_mem 418 (by decide +kernel) rfl)
theorem ml_X7_41 : Cond.methodLink "BroadseamLoft$Seam" 41 Lib.MathLoose.max_long.x ∈ lw_all := (lw_mem 435 (by decide +kernel) rfl)
theorem ac_X3_20 : Cond.methodLink "BroadseamLoft$Net" 20 arraycopyName ∈ lw_all ∧ Cond.native arraycopyName ∈ lw_all ∧ Cond.static arraycopyName ∈ lw_all ∧ Cond.initialized "java/lang/System" ∈ lw_all := ⟨(lw_mem 478 (by decide +kernel) rfl), (lw_mem 480 (by decide +kernel) rfl), (lw_mem 479 (by decide +kernel) rfl), (lw_mem 27 (by decide +kernel) rfl)⟩
theorem ml_X3_38 : Cond.methodLink "BroadseamLoft$Net" 38 Lib.Math.max.name ∈ lw_all := (lw_mem 487 (by decide +kernel) rfl)
theorem ml_X3_51 : Cond.methodLink "BroadseamLoft$Net" 51 Lib.Math.min.name ∈ lw_all := (lw_mem 491 (by decide +kernel) rfl)
theorem oi_X0_3 : Cond.methodLink "BroadseamLoft$Canopy" 3 objectInit ∈ lw_all := (lw_mem 549 (by decide +kernel) rfl)
theorem oi_X5_1 : Cond.methodLink "BroadseamLoft$Peg" 1 objectInit ∈ lw_all := (lw_mem 724 (by decide +kernel) rfl)
theorem oi_all : Cond.instanceMethod objectInit ∈ lw_all ∧ Cond.code objectInit ⟨#[0xb1]⟩ 1 none ∈ lw_all := ⟨(lw_mem 36 (by decide +kernel) rfl), (lw_mem 37 (by decide +kernel) rfl)⟩
theorem aw_int : Cond.arrayClass .int ∈ lw_all := (lw_mem 66 (by decide +kernel) rfl)
theorem aw_long : Cond.arrayClass .long ∈ lw_all := (lw_mem 773 (by decide +kernel) rfl)
theorem aw_boolean : Cond.arrayClass .boolean ∈ lw_all := (lw_mem 67 (by decide +kernel) rfl)
theorem aw_byte : Cond.arrayClass .byte ∈ lw_all := (lw_mem 103 (by decide +kernel) rfl)
theorem twg_X8_70 : ∀ w ∈ (vx_atS "BroadseamLoft" 70 "java/lang/IllegalArgumentException" ["java/lang/RuntimeException", "java/lang/Exception"]).filter goodWord, w ∈ lw_all := by
  have h : ∀ w ∈ (vx_atS "BroadseamLoft" 70 "java/lang/IllegalArgumentException" ["java/lang/RuntimeException", "java/lang/Exception"]).filter goodWord, w ∈ lw_tbl := by decide +kernel
  exact fun w hw => List.mem_filter.mpr ⟨h w hw, (List.mem_filter.mp hw).2⟩
theorem twn_X8_70 : ∀ w ∈ (vx_atS "BroadseamLoft" 70 "java/lang/IllegalArgumentException" ["java/lang/RuntimeException", "java/lang/Exception"]).filter (fun w => !goodWord w), w ∈ ngW := by decide +kernel
theorem twg_X8_81 : ∀ w ∈ (vx_atS "BroadseamLoft" 81 "java/lang/IllegalStateException" ["java/lang/RuntimeException", "java/lang/Exception"]).filter goodWord, w ∈ lw_all := by
  have h : ∀ w ∈ (vx_atS "BroadseamLoft" 81 "java/lang/IllegalStateException" ["java/lang/RuntimeException", "java/lang/Exception"]).filter goodWord, w ∈ lw_tbl := by decide +kernel
  exact fun w hw => List.mem_filter.mpr ⟨h w hw, (List.mem_filter.mp hw).2⟩
theorem twn_X8_81 : ∀ w ∈ (vx_atS "BroadseamLoft" 81 "java/lang/IllegalStateException" ["java/lang/RuntimeException", "java/lang/Exception"]).filter (fun w => !goodWord w), w ∈ ngW := by decide +kernel
theorem twg_X8_93 : ∀ w ∈ (vx_atS "BroadseamLoft" 93 "java/lang/IndexOutOfBoundsException" ["java/lang/RuntimeException", "java/lang/Exception"]).filter goodWord, w ∈ lw_all := by
  have h : ∀ w ∈ (vx_atS "BroadseamLoft" 93 "java/lang/IndexOutOfBoundsException" ["java/lang/RuntimeException", "java/lang/Exception"]).filter goodWord, w ∈ lw_tbl := by decide +kernel
  exact fun w hw => List.mem_filter.mpr ⟨h w hw, (List.mem_filter.mp hw).2⟩
theorem twn_X8_93 : ∀ w ∈ (vx_atS "BroadseamLoft" 93 "java/lang/IndexOutOfBoundsException" ["java/lang/RuntimeException", "java/lang/Exception"]).filter (fun w => !goodWord w), w ∈ ngW := by decide +kernel
theorem tw_X8_66_68_70 : TWm "BroadseamLoft" 66 68 70 "java/lang/IllegalArgumentException" "a strength is out of range" := ⟨by decide +kernel, (lw_mem 177 (by decide +kernel) rfl), (lw_mem 20 (by decide +kernel) rfl), List.mem_of_getElem? (i := 0) rfl, twg_X8_70, twn_X8_70, by decide +kernel⟩
theorem tw_X8_77_79_81 : TWm "BroadseamLoft" 77 79 81 "java/lang/IllegalStateException" "there are 6 lots" := ⟨by decide +kernel, (lw_mem 244 (by decide +kernel) rfl), (lw_mem 21 (by decide +kernel) rfl), List.mem_of_getElem? (i := 1) rfl, twg_X8_81, twn_X8_81, by decide +kernel⟩
theorem tw_X8_89_91_93 : TWm "BroadseamLoft" 89 91 93 "java/lang/IndexOutOfBoundsException" "no such lot" := ⟨by decide +kernel, (lw_mem 300 (by decide +kernel) rfl), (lw_mem 23 (by decide +kernel) rfl), List.mem_of_getElem? (i := 2) rfl, twg_X8_93, twn_X8_93, by decide +kernel⟩
theorem tw_X8_66_96_70 : TWm "BroadseamLoft" 66 96 70 "java/lang/IllegalArgumentException" "the hours are out of range" := ⟨by decide +kernel, (lw_mem 177 (by decide +kernel) rfl), (lw_mem 20 (by decide +kernel) rfl), List.mem_of_getElem? (i := 3) rfl, twg_X8_70, twn_X8_70, by decide +kernel⟩
theorem tw_X8_66_112_70 : TWm "BroadseamLoft" 66 112 70 "java/lang/IllegalArgumentException" "the panel does not lie on a roll so" := ⟨by decide +kernel, (lw_mem 177 (by decide +kernel) rfl), (lw_mem 20 (by decide +kernel) rfl), List.mem_of_getElem? (i := 4) rfl, twg_X8_70, twn_X8_70, by decide +kernel⟩
theorem tw_X8_77_117_81 : TWm "BroadseamLoft" 77 117 81 "java/lang/IllegalStateException" "there are 12 panels" := ⟨by decide +kernel, (lw_mem 244 (by decide +kernel) rfl), (lw_mem 21 (by decide +kernel) rfl), List.mem_of_getElem? (i := 5) rfl, twg_X8_81, twn_X8_81, by decide +kernel⟩
theorem tw_X8_89_129_93 : TWm "BroadseamLoft" 89 129 93 "java/lang/IndexOutOfBoundsException" "no such panel" := ⟨by decide +kernel, (lw_mem 300 (by decide +kernel) rfl), (lw_mem 23 (by decide +kernel) rfl), List.mem_of_getElem? (i := 6) rfl, twg_X8_93, twn_X8_93, by decide +kernel⟩
theorem tw_X8_66_139_70 : TWm "BroadseamLoft" 66 139 70 "java/lang/IllegalArgumentException" "both panels are one, or the kind is out of range" := ⟨by decide +kernel, (lw_mem 177 (by decide +kernel) rfl), (lw_mem 20 (by decide +kernel) rfl), List.mem_of_getElem? (i := 7) rfl, twg_X8_70, twn_X8_70, by decide +kernel⟩
theorem tw_X8_77_144_81 : TWm "BroadseamLoft" 77 144 81 "java/lang/IllegalStateException" "there were 30 seams" := ⟨by decide +kernel, (lw_mem 244 (by decide +kernel) rfl), (lw_mem 21 (by decide +kernel) rfl), List.mem_of_getElem? (i := 8) rfl, twg_X8_81, twn_X8_81, by decide +kernel⟩
theorem tw_X8_89_149_93 : TWm "BroadseamLoft" 89 149 93 "java/lang/IndexOutOfBoundsException" "no such seam" := ⟨by decide +kernel, (lw_mem 300 (by decide +kernel) rfl), (lw_mem 23 (by decide +kernel) rfl), List.mem_of_getElem? (i := 9) rfl, twg_X8_93, twn_X8_93, by decide +kernel⟩
theorem tw_X8_89_187_93 : TWm "BroadseamLoft" 89 187 93 "java/lang/IndexOutOfBoundsException" "no such knot" := ⟨by decide +kernel, (lw_mem 300 (by decide +kernel) rfl), (lw_mem 23 (by decide +kernel) rfl), List.mem_of_getElem? (i := 10) rfl, twg_X8_93, twn_X8_93, by decide +kernel⟩
theorem tw_X8_66_191_70 : TWm "BroadseamLoft" 66 191 70 "java/lang/IllegalArgumentException" "the height is out of range" := ⟨by decide +kernel, (lw_mem 177 (by decide +kernel) rfl), (lw_mem 20 (by decide +kernel) rfl), List.mem_of_getElem? (i := 11) rfl, twg_X8_70, twn_X8_70, by decide +kernel⟩
theorem tw_X8_66_203_70 : TWm "BroadseamLoft" 66 203 70 "java/lang/IllegalArgumentException" "the load is out of range" := ⟨by decide +kernel, (lw_mem 177 (by decide +kernel) rfl), (lw_mem 20 (by decide +kernel) rfl), List.mem_of_getElem? (i := 12) rfl, twg_X8_70, twn_X8_70, by decide +kernel⟩
theorem tw_X8_66_210_70 : TWm "BroadseamLoft" 66 210 70 "java/lang/IllegalArgumentException" "the steps are out of range" := ⟨by decide +kernel, (lw_mem 177 (by decide +kernel) rfl), (lw_mem 20 (by decide +kernel) rfl), List.mem_of_getElem? (i := 13) rfl, twg_X8_70, twn_X8_70, by decide +kernel⟩
theorem tw_X8_66_218_70 : TWm "BroadseamLoft" 66 218 70 "java/lang/IllegalArgumentException" "the hold or the stiffness is out of range" := ⟨by decide +kernel, (lw_mem 177 (by decide +kernel) rfl), (lw_mem 20 (by decide +kernel) rfl), List.mem_of_getElem? (i := 31) rfl, twg_X8_70, twn_X8_70, by decide +kernel⟩
theorem tw_X8_77_223_81 : TWm "BroadseamLoft" 77 223 81 "java/lang/IllegalStateException" "there were 8 pegs" := ⟨by decide +kernel, (lw_mem 244 (by decide +kernel) rfl), (lw_mem 21 (by decide +kernel) rfl), List.mem_of_getElem? (i := 32) rfl, twg_X8_81, twn_X8_81, by decide +kernel⟩
theorem tw_X8_66_230_70 : TWm "BroadseamLoft" 66 230 70 "java/lang/IllegalArgumentException" "the force is out of range" := ⟨by decide +kernel, (lw_mem 177 (by decide +kernel) rfl), (lw_mem 20 (by decide +kernel) rfl), List.mem_of_getElem? (i := 30) rfl, twg_X8_70, twn_X8_70, by decide +kernel⟩
theorem tw_X8_89_239_93 : TWm "BroadseamLoft" 89 239 93 "java/lang/IndexOutOfBoundsException" "there was no such peg" := ⟨by decide +kernel, (lw_mem 300 (by decide +kernel) rfl), (lw_mem 23 (by decide +kernel) rfl), List.mem_of_getElem? (i := 14) rfl, twg_X8_93, twn_X8_93, by decide +kernel⟩
theorem tw_X8_66_259_70 : TWm "BroadseamLoft" 66 259 70 "java/lang/IllegalArgumentException" "the halyard, the sheet or the reefs are out of range" := ⟨by decide +kernel, (lw_mem 177 (by decide +kernel) rfl), (lw_mem 20 (by decide +kernel) rfl), List.mem_of_getElem? (i := 15) rfl, twg_X8_70, twn_X8_70, by decide +kernel⟩
theorem tw_X8_66_274_70 : TWm "BroadseamLoft" 66 274 70 "java/lang/IllegalArgumentException" "the wind is out of range" := ⟨by decide +kernel, (lw_mem 177 (by decide +kernel) rfl), (lw_mem 20 (by decide +kernel) rfl), List.mem_of_getElem? (i := 16) rfl, twg_X8_70, twn_X8_70, by decide +kernel⟩
theorem tw_X8_66_282_70 : TWm "BroadseamLoft" 66 282 70 "java/lang/IllegalArgumentException" "the wind or the limit is out of range" := ⟨by decide +kernel, (lw_mem 177 (by decide +kernel) rfl), (lw_mem 20 (by decide +kernel) rfl), List.mem_of_getElem? (i := 17) rfl, twg_X8_70, twn_X8_70, by decide +kernel⟩
theorem tw_X8_66_286_70 : TWm "BroadseamLoft" 66 286 70 "java/lang/IllegalArgumentException" "the days are out of range" := ⟨by decide +kernel, (lw_mem 177 (by decide +kernel) rfl), (lw_mem 20 (by decide +kernel) rfl), List.mem_of_getElem? (i := 18) rfl, twg_X8_70, twn_X8_70, by decide +kernel⟩
theorem tw_X8_77_292_81 : TWm "BroadseamLoft" 77 292 81 "java/lang/IllegalStateException" "the day would be above 100000" := ⟨by decide +kernel, (lw_mem 244 (by decide +kernel) rfl), (lw_mem 21 (by decide +kernel) rfl), List.mem_of_getElem? (i := 19) rfl, twg_X8_81, twn_X8_81, by decide +kernel⟩
theorem tw_X8_77_297_81 : TWm "BroadseamLoft" 77 297 81 "java/lang/IllegalStateException" "there are 6 canopies" := ⟨by decide +kernel, (lw_mem 244 (by decide +kernel) rfl), (lw_mem 21 (by decide +kernel) rfl), List.mem_of_getElem? (i := 20) rfl, twg_X8_81, twn_X8_81, by decide +kernel⟩
theorem tw_X8_89_306_93 : TWm "BroadseamLoft" 89 306 93 "java/lang/IndexOutOfBoundsException" "no such canopy" := ⟨by decide +kernel, (lw_mem 300 (by decide +kernel) rfl), (lw_mem 23 (by decide +kernel) rfl), List.mem_of_getElem? (i := 21) rfl, twg_X8_93, twn_X8_93, by decide +kernel⟩
theorem tw_X8_66_310_70 : TWm "BroadseamLoft" 66 310 70 "java/lang/IllegalArgumentException" "what holds the part is out of range" := ⟨by decide +kernel, (lw_mem 177 (by decide +kernel) rfl), (lw_mem 20 (by decide +kernel) rfl), List.mem_of_getElem? (i := 22) rfl, twg_X8_70, twn_X8_70, by decide +kernel⟩
theorem tw_X8_77_321_81 : TWm "BroadseamLoft" 77 321 81 "java/lang/IllegalStateException" "the canopy has 8 parts, or is sealed" := ⟨by decide +kernel, (lw_mem 244 (by decide +kernel) rfl), (lw_mem 21 (by decide +kernel) rfl), List.mem_of_getElem? (i := 23) rfl, twg_X8_81, twn_X8_81, by decide +kernel⟩
theorem tw_X8_89_328_93 : TWm "BroadseamLoft" 89 328 93 "java/lang/IndexOutOfBoundsException" "no such canopy or rigger" := ⟨by decide +kernel, (lw_mem 300 (by decide +kernel) rfl), (lw_mem 23 (by decide +kernel) rfl), List.mem_of_getElem? (i := 24) rfl, twg_X8_93, twn_X8_93, by decide +kernel⟩
theorem tw_X8_77_333_81 : TWm "BroadseamLoft" 77 333 81 "java/lang/IllegalStateException" "the canopy cannot be sealed" := ⟨by decide +kernel, (lw_mem 244 (by decide +kernel) rfl), (lw_mem 21 (by decide +kernel) rfl), List.mem_of_getElem? (i := 25) rfl, twg_X8_81, twn_X8_81, by decide +kernel⟩
theorem tw_X8_77_354_81 : TWm "BroadseamLoft" 77 354 81 "java/lang/IllegalStateException" "the canopy has no seal, it is too old, or the lot is held" := ⟨by decide +kernel, (lw_mem 244 (by decide +kernel) rfl), (lw_mem 21 (by decide +kernel) rfl), List.mem_of_getElem? (i := 26) rfl, twg_X8_81, twn_X8_81, by decide +kernel⟩
theorem tw_X8_77_362_81 : TWm "BroadseamLoft" 77 362 81 "java/lang/IllegalStateException" "the canopy is sealed" := ⟨by decide +kernel, (lw_mem 244 (by decide +kernel) rfl), (lw_mem 21 (by decide +kernel) rfl), List.mem_of_getElem? (i := 27) rfl, twg_X8_81, twn_X8_81, by decide +kernel⟩
theorem tw_X8_77_370_81 : TWm "BroadseamLoft" 77 370 81 "java/lang/IllegalStateException" "the lot is so already" := ⟨by decide +kernel, (lw_mem 244 (by decide +kernel) rfl), (lw_mem 21 (by decide +kernel) rfl), List.mem_of_getElem? (i := 28) rfl, twg_X8_81, twn_X8_81, by decide +kernel⟩
theorem tw_X8_66_378_70 : TWm "BroadseamLoft" 66 378 70 "java/lang/IllegalArgumentException" "what is asked is out of range" := ⟨by decide +kernel, (lw_mem 177 (by decide +kernel) rfl), (lw_mem 20 (by decide +kernel) rfl), List.mem_of_getElem? (i := 29) rfl, twg_X8_70, twn_X8_70, by decide +kernel⟩
