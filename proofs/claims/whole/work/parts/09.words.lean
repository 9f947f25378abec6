theorem lw_in {ws : List Cond} (ps : List Nat) (h : ps.map (fun i => lw_tbl[i]?) = ws.map some) (hg : ws.all goodWord = true) : ∀ w ∈ ws, w ∈ lw_all := by
  intro w hw
  obtain ⟨k, hk⟩ := List.getElem?_of_mem hw
  have h1 : (ps.map (fun i => lw_tbl[i]?))[k]? = some (some w) := by rw [h, List.getElem?_map, hk]; rfl
  rw [List.getElem?_map] at h1
  cases hi : ps[k]? with
  | none => rw [hi] at h1; cases h1
  | some i =>
    rw [hi] at h1
    exact lw_mem i (Option.some.inj h1) (List.all_eq_true.mp hg w hw)
theorem inA0 : ∀ w ∈ u_ws RX0 TX0 10, w ∈ lw_all := lw_in [684, 686, 688, 690, 692, 694, 696, 698, 700, 702] (by decide +kernel) (by decide +kernel)
theorem inA1 : ∀ w ∈ u_ws RX1 TX1 2, w ∈ lw_all := lw_in [119, 121] (by decide +kernel) (by decide +kernel)
theorem inA2 : ∀ w ∈ u_ws RX2 TX2 8, w ∈ lw_all := lw_in [283, 285, 287, 289, 291, 293, 295, 297] (by decide +kernel) (by decide +kernel)
theorem inA3 : ∀ w ∈ u_ws RX3 TX3 4, w ∈ lw_all := lw_in [78, 80, 82, 84] (by decide +kernel) (by decide +kernel)
theorem inA4 : ∀ w ∈ u_ws RX4 TX4 5, w ∈ lw_all := lw_in [356, 358, 360, 362, 364] (by decide +kernel) (by decide +kernel)
theorem inA5 : ∀ w ∈ u_ws RX5 TX5 4, w ∈ lw_all := lw_in [563, 565, 567, 569] (by decide +kernel) (by decide +kernel)
theorem inA6 : ∀ w ∈ u_ws RX6 TX6 3, w ∈ lw_all := lw_in [102, 104, 106] (by decide +kernel) (by decide +kernel)
theorem inA7 : ∀ w ∈ u_ws RX7 TX7 3, w ∈ lw_all := lw_in [425, 427, 429] (by decide +kernel) (by decide +kernel)
theorem inA8 : ∀ w ∈ u_ws RX8 TX8 14, w ∈ lw_all := lw_in [139, 141, 143, 145, 147, 149, 151, 153, 155, 157, 159, 161, 163, 165] (by decide +kernel) (by decide +kernel)
theorem inA9 : ∀ w ∈ u_ws RX9 TX9 39, w ∈ lw_all := lw_in [860, 862, 864, 866, 868, 870, 872, 874, 876, 878, 880, 882, 884, 886, 888, 890, 892, 894, 896, 898, 900, 902, 904, 906, 908, 910, 912, 914, 916, 918, 920, 922, 924, 926, 928, 930, 932, 934, 936] (by decide +kernel) (by decide +kernel)
theorem fw_X0_9 : FW "BroadseamLoft$Canopy" 9 0 2 (.array .int) true := ⟨RX0, TX0, 10, tyX0, rfl, by decide, (lw_mem 668 (by decide +kernel) rfl), inA0, tyX0_ok, nmX0, rfl, rfl, fun _ => rfl⟩
theorem fw_X0_15 : FW "BroadseamLoft$Canopy" 15 0 4 (.int) false := ⟨RX0, TX0, 10, tyX0, rfl, by decide, (lw_mem 672 (by decide +kernel) rfl), inA0, tyX0_ok, nmX0, rfl, rfl, by decide⟩
theorem fw_X0_19 : FW "BroadseamLoft$Canopy" 19 0 5 (.int) false := ⟨RX0, TX0, 10, tyX0, rfl, by decide, (lw_mem 674 (by decide +kernel) rfl), inA0, tyX0_ok, nmX0, rfl, rfl, by decide⟩
theorem fw_X0_22 : FW "BroadseamLoft$Canopy" 22 0 0 (.object "BroadseamLoft$Lot") true := ⟨RX0, TX0, 10, tyX0, rfl, by decide, (lw_mem 664 (by decide +kernel) rfl), inA0, tyX0_ok, nmX0, rfl, rfl, fun _ => rfl⟩
theorem fw_X0_26 : FW "BroadseamLoft$Canopy" 26 0 1 (.int) true := ⟨RX0, TX0, 10, tyX0, rfl, by decide, (lw_mem 666 (by decide +kernel) rfl), inA0, tyX0_ok, nmX0, rfl, rfl, fun _ => rfl⟩
theorem fl_X0_19 : FL "BroadseamLoft$Canopy" 19 0 5 := ⟨RX0, TX0, 10, rfl, by decide, (lw_mem 674 (by decide +kernel) rfl), inA0⟩
theorem cw_X0_29 : CWm "BroadseamLoft$Canopy" 29 yX0_isSealed cX0_isSealed 1 (Option.some Jvm.ClassFile.FieldType.boolean) 0 := ⟨(lw_mem 752 (by decide +kernel) rfl), (lw_mem 50 (by decide +kernel) rfl), (lw_mem 722 (by decide +kernel) rfl), by decide +kernel, by decide +kernel, by decide +kernel⟩
theorem im_yX0_isSealed : Cond.instanceMethod yX0_isSealed ∈ lw_all := (lw_mem 720 (by decide +kernel) rfl)
theorem se_yX0_isSealed : Cond.selects yX0_isSealed.cls yX0_isSealed yX0_isSealed ∈ lw_all := (lw_mem 721 (by decide +kernel) rfl)
theorem fl_X0_22 : FL "BroadseamLoft$Canopy" 22 0 0 := ⟨RX0, TX0, 10, rfl, by decide, (lw_mem 664 (by decide +kernel) rfl), inA0⟩
theorem fl_X0_33 : FL "BroadseamLoft$Canopy" 33 2 4 := ⟨RX2, TX2, 8, rfl, by decide, (lw_mem 278 (by decide +kernel) rfl), inA2⟩
theorem fl_X0_39 : FL "BroadseamLoft$Canopy" 39 0 3 := ⟨RX0, TX0, 10, rfl, by decide, (lw_mem 670 (by decide +kernel) rfl), inA0⟩
theorem fl_X0_42 : FL "BroadseamLoft$Canopy" 42 0 9 := ⟨RX0, TX0, 10, rfl, by decide, (lw_mem 682 (by decide +kernel) rfl), inA0⟩
theorem cw_X0_45 : CWm "BroadseamLoft$Canopy" 45 yX0_roundsToOpen cX0_roundsToOpen 3 (Option.some Jvm.ClassFile.FieldType.int) 0 := ⟨(lw_mem 753 (by decide +kernel) rfl), (lw_mem 50 (by decide +kernel) rfl), (lw_mem 734 (by decide +kernel) rfl), by decide +kernel, by decide +kernel, by decide +kernel⟩
theorem im_yX0_roundsToOpen : Cond.instanceMethod yX0_roundsToOpen ∈ lw_all := (lw_mem 732 (by decide +kernel) rfl)
theorem se_yX0_roundsToOpen : Cond.selects yX0_roundsToOpen.cls yX0_roundsToOpen yX0_roundsToOpen ∈ lw_all := (lw_mem 733 (by decide +kernel) rfl)
theorem cw_X0_49 : CWm "BroadseamLoft$Canopy" 49 yX0_shutAfterRound cX0_shutAfterRound 4 (Option.some Jvm.ClassFile.FieldType.int) 1 := ⟨(lw_mem 735 (by decide +kernel) rfl), (lw_mem 50 (by decide +kernel) rfl), (lw_mem 738 (by decide +kernel) rfl), by decide +kernel, by decide +kernel, by decide +kernel⟩
theorem im_yX0_shutAfterRound : Cond.instanceMethod yX0_shutAfterRound ∈ lw_all := (lw_mem 736 (by decide +kernel) rfl)
theorem se_yX0_shutAfterRound : Cond.selects yX0_shutAfterRound.cls yX0_shutAfterRound yX0_shutAfterRound ∈ lw_all := (lw_mem 737 (by decide +kernel) rfl)
theorem fl_X0_9 : FL "BroadseamLoft$Canopy" 9 0 2 := ⟨RX0, TX0, 10, rfl, by decide, (lw_mem 668 (by decide +kernel) rfl), inA0⟩
theorem fl_X0_26 : FL "BroadseamLoft$Canopy" 26 0 1 := ⟨RX0, TX0, 10, rfl, by decide, (lw_mem 666 (by decide +kernel) rfl), inA0⟩
theorem fl_X0_15 : FL "BroadseamLoft$Canopy" 15 0 4 := ⟨RX0, TX0, 10, rfl, by decide, (lw_mem 672 (by decide +kernel) rfl), inA0⟩
theorem fl_X0_53 : FL "BroadseamLoft$Canopy" 53 0 6 := ⟨RX0, TX0, 10, rfl, by decide, (lw_mem 676 (by decide +kernel) rfl), inA0⟩
theorem fl_X0_56 : FL "BroadseamLoft$Canopy" 56 0 7 := ⟨RX0, TX0, 10, rfl, by decide, (lw_mem 678 (by decide +kernel) rfl), inA0⟩
theorem fl_X0_59 : FL "BroadseamLoft$Canopy" 59 0 8 := ⟨RX0, TX0, 10, rfl, by decide, (lw_mem 680 (by decide +kernel) rfl), inA0⟩
theorem fw_X1_9 : FW "BroadseamLoft$Log" 9 1 0 (.array .byte) true := ⟨RX1, TX1, 2, tyX1, rfl, by decide, (lw_mem 117 (by decide +kernel) rfl), inA1, tyX1_ok, nmX1, rfl, rfl, fun _ => rfl⟩
theorem fl_X1_15 : FL "BroadseamLoft$Log" 15 1 1 := ⟨RX1, TX1, 2, rfl, by decide, (lw_mem 118 (by decide +kernel) rfl), inA1⟩
theorem fl_X1_9 : FL "BroadseamLoft$Log" 9 1 0 := ⟨RX1, TX1, 2, rfl, by decide, (lw_mem 117 (by decide +kernel) rfl), inA1⟩
theorem fw_X1_15 : FW "BroadseamLoft$Log" 15 1 1 (.int) false := ⟨RX1, TX1, 2, tyX1, rfl, by decide, (lw_mem 118 (by decide +kernel) rfl), inA1, tyX1_ok, nmX1, rfl, rfl, by decide⟩
theorem fw_X2_9 : FW "BroadseamLoft$Lot" 9 2 0 (.int) true := ⟨RX2, TX2, 8, tyX2, rfl, by decide, (lw_mem 273 (by decide +kernel) rfl), inA2, tyX2_ok, nmX2, rfl, rfl, fun _ => rfl⟩
theorem fw_X2_15 : FW "BroadseamLoft$Lot" 15 2 1 (.int) true := ⟨RX2, TX2, 8, tyX2, rfl, by decide, (lw_mem 274 (by decide +kernel) rfl), inA2, tyX2_ok, nmX2, rfl, rfl, fun _ => rfl⟩
theorem fw_X2_18 : FW "BroadseamLoft$Lot" 18 2 2 (.int) true := ⟨RX2, TX2, 8, tyX2, rfl, by decide, (lw_mem 275 (by decide +kernel) rfl), inA2, tyX2_ok, nmX2, rfl, rfl, fun _ => rfl⟩
theorem fl_X2_9 : FL "BroadseamLoft$Lot" 9 2 0 := ⟨RX2, TX2, 8, rfl, by decide, (lw_mem 273 (by decide +kernel) rfl), inA2⟩
theorem fl_X2_15 : FL "BroadseamLoft$Lot" 15 2 1 := ⟨RX2, TX2, 8, rfl, by decide, (lw_mem 274 (by decide +kernel) rfl), inA2⟩
theorem fl_X2_18 : FL "BroadseamLoft$Lot" 18 2 2 := ⟨RX2, TX2, 8, rfl, by decide, (lw_mem 275 (by decide +kernel) rfl), inA2⟩
theorem fl_X2_21 : FL "BroadseamLoft$Lot" 21 2 3 := ⟨RX2, TX2, 8, rfl, by decide, (lw_mem 276 (by decide +kernel) rfl), inA2⟩
theorem cw_X2_24 : CWm "BroadseamLoft$Lot" 24 yJ9_max_7cf53 cJ9_max_7cf53 2 (Option.some Jvm.ClassFile.FieldType.int) 2 := ⟨(lw_mem 371 (by decide +kernel) rfl), (lw_mem 45 (by decide +kernel) rfl), (lw_mem 373 (by decide +kernel) rfl), by decide +kernel, by decide +kernel, by decide +kernel⟩
theorem sm_yJ9_max_7cf53 : Cond.static yJ9_max_7cf53 ∈ lw_all := (lw_mem 372 (by decide +kernel) rfl)
theorem k_X2_30 : Cond.constantLong "BroadseamLoft$Lot" 30 (1000) ∈ lw_all := (lw_mem 394 (by decide +kernel) rfl)
theorem fl_X2_32 : FL "BroadseamLoft$Lot" 32 2 6 := ⟨RX2, TX2, 8, rfl, by decide, (lw_mem 281 (by decide +kernel) rfl), inA2⟩
theorem fl_X2_35 : FL "BroadseamLoft$Lot" 35 2 5 := ⟨RX2, TX2, 8, rfl, by decide, (lw_mem 280 (by decide +kernel) rfl), inA2⟩
theorem fl_X2_38 : FL "BroadseamLoft$Lot" 38 2 7 := ⟨RX2, TX2, 8, rfl, by decide, (lw_mem 282 (by decide +kernel) rfl), inA2⟩
theorem fw_X2_35 : FW "BroadseamLoft$Lot" 35 2 5 (.int) false := ⟨RX2, TX2, 8, tyX2, rfl, by decide, (lw_mem 280 (by decide +kernel) rfl), inA2, tyX2_ok, nmX2, rfl, rfl, by decide⟩
theorem fw_X2_32 : FW "BroadseamLoft$Lot" 32 2 6 (.int) false := ⟨RX2, TX2, 8, tyX2, rfl, by decide, (lw_mem 281 (by decide +kernel) rfl), inA2, tyX2_ok, nmX2, rfl, rfl, by decide⟩
theorem fw_X2_38 : FW "BroadseamLoft$Lot" 38 2 7 (.int) false := ⟨RX2, TX2, 8, tyX2, rfl, by decide, (lw_mem 282 (by decide +kernel) rfl), inA2, tyX2_ok, nmX2, rfl, rfl, by decide⟩
theorem fw_X3_9 : FW "BroadseamLoft$Net" 9 3 0 (.array .int) true := ⟨RX3, TX3, 4, tyX3, rfl, by decide, (lw_mem 71 (by decide +kernel) rfl), inA3, tyX3_ok, nmX3, rfl, rfl, fun _ => rfl⟩
theorem fw_X3_13 : FW "BroadseamLoft$Net" 13 3 1 (.array .int) true := ⟨RX3, TX3, 4, tyX3, rfl, by decide, (lw_mem 73 (by decide +kernel) rfl), inA3, tyX3_ok, nmX3, rfl, rfl, fun _ => rfl⟩
theorem fw_X3_16 : FW "BroadseamLoft$Net" 16 3 2 (.array .boolean) true := ⟨RX3, TX3, 4, tyX3, rfl, by decide, (lw_mem 74 (by decide +kernel) rfl), inA3, tyX3_ok, nmX3, rfl, rfl, fun _ => rfl⟩
theorem fl_X3_16 : FL "BroadseamLoft$Net" 16 3 2 := ⟨RX3, TX3, 4, rfl, by decide, (lw_mem 74 (by decide +kernel) rfl), inA3⟩
theorem fl_X3_9 : FL "BroadseamLoft$Net" 9 3 0 := ⟨RX3, TX3, 4, rfl, by decide, (lw_mem 71 (by decide +kernel) rfl), inA3⟩
theorem fl_X3_13 : FL "BroadseamLoft$Net" 13 3 1 := ⟨RX3, TX3, 4, rfl, by decide, (lw_mem 73 (by decide +kernel) rfl), inA3⟩
theorem cw_X3_26 : CWm "BroadseamLoft$Net" 26 yX3_pulledHeight cX3_pulledHeight 11 (Option.some Jvm.ClassFile.FieldType.int) 1 := ⟨(lw_mem 523 (by decide +kernel) rfl), (lw_mem 34 (by decide +kernel) rfl), (lw_mem 526 (by decide +kernel) rfl), by decide +kernel, by decide +kernel, by decide +kernel⟩
theorem im_yX3_pulledHeight : Cond.instanceMethod yX3_pulledHeight ∈ lw_all := (lw_mem 524 (by decide +kernel) rfl)
theorem se_yX3_pulledHeight : Cond.selects yX3_pulledHeight.cls yX3_pulledHeight yX3_pulledHeight ∈ lw_all := (lw_mem 525 (by decide +kernel) rfl)
theorem k_X3_30 : Cond.constantLong "BroadseamLoft$Net" 30 (5) ∈ lw_all := (lw_mem 527 (by decide +kernel) rfl)
theorem cn_X3_32 : Cond.methodLinkNest "BroadseamLoft$Net" 32 yX8_isOutside "BroadseamLoft" ∈ ngW := List.mem_of_getElem? (i := 16) rfl
theorem cm_yX8_isOutside : Cond.initialized yX8_isOutside.cls ∈ lw_all ∧ Cond.code yX8_isOutside cX8_isOutside 6 (Option.some Jvm.ClassFile.FieldType.boolean) ∈ lw_all ∧ yX8_isOutside.cls ≠ "java/lang/invoke/MethodHandle" ∧ yX8_isOutside.cls ≠ "java/lang/invoke/VarHandle" ∧ (parseMethodDescriptor yX8_isOutside.desc).map (fun d => d.parameters.length) = some 3 := ⟨(lw_mem 33 (by decide +kernel) rfl), (lw_mem 184 (by decide +kernel) rfl), by decide +kernel, by decide +kernel, by decide +kernel⟩
theorem sm_yX8_isOutside : Cond.static yX8_isOutside ∈ lw_all := (lw_mem 183 (by decide +kernel) rfl)
theorem cw_X3_38 : CWm "BroadseamLoft$Net" 38 yJ9_max_7cf53 cJ9_max_7cf53 2 (Option.some Jvm.ClassFile.FieldType.int) 2 := ⟨(lw_mem 529 (by decide +kernel) rfl), (lw_mem 45 (by decide +kernel) rfl), (lw_mem 373 (by decide +kernel) rfl), by decide +kernel, by decide +kernel, by decide +kernel⟩
theorem cw_X3_44 : CWm "BroadseamLoft$Net" 44 yJ9_floorDiv_7cf53 cJ9_floorDiv_7cf53 3 (Option.some Jvm.ClassFile.FieldType.int) 2 := ⟨(lw_mem 530 (by decide +kernel) rfl), (lw_mem 45 (by decide +kernel) rfl), (lw_mem 532 (by decide +kernel) rfl), by decide +kernel, by decide +kernel, by decide +kernel⟩
theorem sm_yJ9_floorDiv_7cf53 : Cond.static yJ9_floorDiv_7cf53 ∈ lw_all := (lw_mem 531 (by decide +kernel) rfl)
theorem fl_X3_47 : FL "BroadseamLoft$Net" 47 3 3 := ⟨RX3, TX3, 4, rfl, by decide, (lw_mem 76 (by decide +kernel) rfl), inA3⟩
theorem cw_X3_51 : CWm "BroadseamLoft$Net" 51 yJ9_min_7cf53 cJ9_min_7cf53 2 (Option.some Jvm.ClassFile.FieldType.int) 2 := ⟨(lw_mem 533 (by decide +kernel) rfl), (lw_mem 45 (by decide +kernel) rfl), (lw_mem 333 (by decide +kernel) rfl), by decide +kernel, by decide +kernel, by decide +kernel⟩
theorem sm_yJ9_min_7cf53 : Cond.static yJ9_min_7cf53 ∈ lw_all := (lw_mem 332 (by decide +kernel) rfl)
theorem fw_X4_7 : FW "BroadseamLoft$Panel" 7 4 0 (.object "BroadseamLoft$Lot") true := ⟨RX4, TX4, 5, tyX4, rfl, by decide, (lw_mem 350 (by decide +kernel) rfl), inA4, tyX4_ok, nmX4, rfl, rfl, fun _ => rfl⟩
theorem fw_X4_13 : FW "BroadseamLoft$Panel" 13 4 1 (.int) true := ⟨RX4, TX4, 5, tyX4, rfl, by decide, (lw_mem 351 (by decide +kernel) rfl), inA4, tyX4_ok, nmX4, rfl, rfl, fun _ => rfl⟩
theorem fw_X4_17 : FW "BroadseamLoft$Panel" 17 4 2 (.int) true := ⟨RX4, TX4, 5, tyX4, rfl, by decide, (lw_mem 352 (by decide +kernel) rfl), inA4, tyX4_ok, nmX4, rfl, rfl, fun _ => rfl⟩
theorem fl_X4_7 : FL "BroadseamLoft$Panel" 7 4 0 := ⟨RX4, TX4, 5, rfl, by decide, (lw_mem 350 (by decide +kernel) rfl), inA4⟩
theorem fl_X4_17 : FL "BroadseamLoft$Panel" 17 4 2 := ⟨RX4, TX4, 5, rfl, by decide, (lw_mem 352 (by decide +kernel) rfl), inA4⟩
theorem cw_X4_20 : CWm "BroadseamLoft$Panel" 20 yX2_strengthAlong cX2_strengthAlong 4 (Option.some Jvm.ClassFile.FieldType.long) 1 := ⟨(lw_mem 390 (by decide +kernel) rfl), (lw_mem 43 (by decide +kernel) rfl), (lw_mem 393 (by decide +kernel) rfl), by decide +kernel, by decide +kernel, by decide +kernel⟩
theorem im_yX2_strengthAlong : Cond.instanceMethod yX2_strengthAlong ∈ lw_all := (lw_mem 391 (by decide +kernel) rfl)
theorem se_yX2_strengthAlong : Cond.selects yX2_strengthAlong.cls yX2_strengthAlong yX2_strengthAlong ∈ lw_all := (lw_mem 392 (by decide +kernel) rfl)
theorem fl_X4_13 : FL "BroadseamLoft$Panel" 13 4 1 := ⟨RX4, TX4, 5, rfl, by decide, (lw_mem 351 (by decide +kernel) rfl), inA4⟩
theorem fw_X5_7 : FW "BroadseamLoft$Peg" 7 5 2 (.boolean) false := ⟨RX5, TX5, 4, tyX5, rfl, by decide, (lw_mem 560 (by decide +kernel) rfl), inA5, tyX5_ok, nmX5, rfl, rfl, by decide⟩
theorem fw_X5_13 : FW "BroadseamLoft$Peg" 13 5 0 (.long) true := ⟨RX5, TX5, 4, tyX5, rfl, by decide, (lw_mem 556 (by decide +kernel) rfl), inA5, tyX5_ok, nmX5, rfl, rfl, fun _ => rfl⟩
theorem fw_X5_17 : FW "BroadseamLoft$Peg" 17 5 1 (.int) true := ⟨RX5, TX5, 4, tyX5, rfl, by decide, (lw_mem 558 (by decide +kernel) rfl), inA5, tyX5_ok, nmX5, rfl, rfl, fun _ => rfl⟩
theorem k_X6_7 : Cond.constantFloat "BroadseamLoft$Sail" 7 (1041865114) ∈ lw_all := (lw_mem 614 (by decide +kernel) rfl)
theorem k_X6_8 : Cond.constantFloat "BroadseamLoft$Sail" 8 (981668463) ∈ lw_all := (lw_mem 615 (by decide +kernel) rfl)
theorem k_X6_9 : Cond.constantFloat "BroadseamLoft$Sail" 9 (973279855) ∈ lw_all := (lw_mem 616 (by decide +kernel) rfl)
theorem fl_X6_10 : FL "BroadseamLoft$Sail" 10 6 1 := ⟨RX6, TX6, 3, rfl, by decide, (lw_mem 98 (by decide +kernel) rfl), inA6⟩
theorem k_X6_16 : Cond.constantFloat "BroadseamLoft$Sail" 16 (1109393408) ∈ lw_all := (lw_mem 629 (by decide +kernel) rfl)
theorem fl_X6_17 : FL "BroadseamLoft$Sail" 17 6 2 := ⟨RX6, TX6, 3, rfl, by decide, (lw_mem 100 (by decide +kernel) rfl), inA6⟩
theorem cw_X6_20 : CWm "BroadseamLoft$Sail" 20 yX6_draftWith cX6_draftWith 2 (Option.some Jvm.ClassFile.FieldType.float) 1 := ⟨(lw_mem 630 (by decide +kernel) rfl), (lw_mem 35 (by decide +kernel) rfl), (lw_mem 613 (by decide +kernel) rfl), by decide +kernel, by decide +kernel, by decide +kernel⟩
theorem im_yX6_draftWith : Cond.instanceMethod yX6_draftWith ∈ lw_all := (lw_mem 611 (by decide +kernel) rfl)
theorem se_yX6_draftWith : Cond.selects yX6_draftWith.cls yX6_draftWith yX6_draftWith ∈ lw_all := (lw_mem 612 (by decide +kernel) rfl)
theorem fw_X7_9 : FW "BroadseamLoft$Seam" 9 7 0 (.object "BroadseamLoft$Panel") true := ⟨RX7, TX7, 3, tyX7, rfl, by decide, (lw_mem 420 (by decide +kernel) rfl), inA7, tyX7_ok, nmX7, rfl, rfl, fun _ => rfl⟩
theorem fw_X7_15 : FW "BroadseamLoft$Seam" 15 7 1 (.object "BroadseamLoft$Panel") true := ⟨RX7, TX7, 3, tyX7, rfl, by decide, (lw_mem 422 (by decide +kernel) rfl), inA7, tyX7_ok, nmX7, rfl, rfl, fun _ => rfl⟩
theorem fw_X7_18 : FW "BroadseamLoft$Seam" 18 7 2 (.int) true := ⟨RX7, TX7, 3, tyX7, rfl, by decide, (lw_mem 424 (by decide +kernel) rfl), inA7, tyX7_ok, nmX7, rfl, rfl, fun _ => rfl⟩
theorem fl_X7_9 : FL "BroadseamLoft$Seam" 9 7 0 := ⟨RX7, TX7, 3, rfl, by decide, (lw_mem 420 (by decide +kernel) rfl), inA7⟩
theorem cw_X7_22 : CWm "BroadseamLoft$Seam" 22 yX4_strengthNow cX4_strengthNow 1 (Option.some Jvm.ClassFile.FieldType.long) 0 := ⟨(lw_mem 444 (by decide +kernel) rfl), (lw_mem 46 (by decide +kernel) rfl), (lw_mem 389 (by decide +kernel) rfl), by decide +kernel, by decide +kernel, by decide +kernel⟩
theorem im_yX4_strengthNow : Cond.instanceMethod yX4_strengthNow ∈ lw_all := (lw_mem 387 (by decide +kernel) rfl)
theorem se_yX4_strengthNow : Cond.selects yX4_strengthNow.cls yX4_strengthNow yX4_strengthNow ∈ lw_all := (lw_mem 388 (by decide +kernel) rfl)
theorem fl_X7_15 : FL "BroadseamLoft$Seam" 15 7 1 := ⟨RX7, TX7, 3, rfl, by decide, (lw_mem 422 (by decide +kernel) rfl), inA7⟩
theorem cw_X7_28 : CWm "BroadseamLoft$Seam" 28 yJ9_min_f86c9 cJ9_min_f86c9 4 (Option.some Jvm.ClassFile.FieldType.long) 2 := ⟨(lw_mem 445 (by decide +kernel) rfl), (lw_mem 45 (by decide +kernel) rfl), (lw_mem 447 (by decide +kernel) rfl), by decide +kernel, by decide +kernel, by decide +kernel⟩
theorem sm_yJ9_min_f86c9 : Cond.static yJ9_min_f86c9 ∈ lw_all := (lw_mem 446 (by decide +kernel) rfl)
theorem fl_X7_18 : FL "BroadseamLoft$Seam" 18 7 2 := ⟨RX7, TX7, 3, rfl, by decide, (lw_mem 424 (by decide +kernel) rfl), inA7⟩
theorem k_X7_34 : Cond.constantLong "BroadseamLoft$Seam" 34 (100) ∈ lw_all := (lw_mem 448 (by decide +kernel) rfl)
theorem cw_X7_36 : CWm "BroadseamLoft$Seam" 36 yX7_strengthNow cX7_strengthNow 1 (Option.some Jvm.ClassFile.FieldType.long) 0 := ⟨(lw_mem 464 (by decide +kernel) rfl), (lw_mem 47 (by decide +kernel) rfl), (lw_mem 443 (by decide +kernel) rfl), by decide +kernel, by decide +kernel, by decide +kernel⟩
theorem im_yX7_strengthNow : Cond.instanceMethod yX7_strengthNow ∈ lw_all := (lw_mem 441 (by decide +kernel) rfl)
theorem se_yX7_strengthNow : Cond.selects yX7_strengthNow.cls yX7_strengthNow yX7_strengthNow ∈ lw_all := (lw_mem 442 (by decide +kernel) rfl)
theorem fl_X7_37 : FL "BroadseamLoft$Seam" 37 4 3 := ⟨RX4, TX4, 5, rfl, by decide, (lw_mem 353 (by decide +kernel) rfl), inA4⟩
theorem cw_X7_41 : CWm "BroadseamLoft$Seam" 41 yJ9_max_f86c9 cJ9_max_f86c9 4 (Option.some Jvm.ClassFile.FieldType.long) 2 := ⟨(lw_mem 465 (by decide +kernel) rfl), (lw_mem 45 (by decide +kernel) rfl), (lw_mem 467 (by decide +kernel) rfl), by decide +kernel, by decide +kernel, by decide +kernel⟩
theorem sm_yJ9_max_f86c9 : Cond.static yJ9_max_f86c9 ∈ lw_all := (lw_mem 466 (by decide +kernel) rfl)
theorem fw_X7_37 : FW "BroadseamLoft$Seam" 37 4 3 (.long) false := ⟨RX4, TX4, 5, tyX4, rfl, by decide, (lw_mem 353 (by decide +kernel) rfl), inA4, tyX4_ok, nmX4, rfl, rfl, by decide⟩
theorem cl_X8_9 : Cond.classLink "BroadseamLoft" 9 "BroadseamLoft$Lot" ∈ lw_all := (lw_mem 59 (by decide +kernel) rfl)
theorem fw_X8_11 : FW "BroadseamLoft" 11 8 0 (.array (.object "BroadseamLoft$Lot")) true := ⟨RX8, TX8, 14, tyX8, rfl, by decide, (lw_mem 125 (by decide +kernel) rfl), inA8, tyX8_ok, nmX8, rfl, rfl, fun _ => rfl⟩
theorem cl_X8_15 : Cond.classLink "BroadseamLoft" 15 "BroadseamLoft$Panel" ∈ lw_all := (lw_mem 61 (by decide +kernel) rfl)
theorem fw_X8_17 : FW "BroadseamLoft" 17 8 2 (.array (.object "BroadseamLoft$Panel")) true := ⟨RX8, TX8, 14, tyX8, rfl, by decide, (lw_mem 127 (by decide +kernel) rfl), inA8, tyX8_ok, nmX8, rfl, rfl, fun _ => rfl⟩
theorem cl_X8_21 : Cond.classLink "BroadseamLoft" 21 "BroadseamLoft$Seam" ∈ lw_all := (lw_mem 63 (by decide +kernel) rfl)
theorem fw_X8_23 : FW "BroadseamLoft" 23 8 4 (.array (.object "BroadseamLoft$Seam")) true := ⟨RX8, TX8, 14, tyX8, rfl, by decide, (lw_mem 129 (by decide +kernel) rfl), inA8, tyX8_ok, nmX8, rfl, rfl, fun _ => rfl⟩
theorem nw_X8_27 : NW "BroadseamLoft" 27 3 := ⟨RX3, TX3, 4, tyX3, rfl, rfl, inA3, tyX3_ok, by decide +kernel, (lw_mem 65 (by decide +kernel) rfl), (lw_mem 66 (by decide +kernel) rfl), (lw_mem 34 (by decide +kernel) rfl)⟩
theorem cw_X8_29 : CWm "BroadseamLoft" 29 yX3_init cX3_init 4 (Option.none : Option Jvm.ClassFile.FieldType) 0 := ⟨(lw_mem 67 (by decide +kernel) rfl), (lw_mem 34 (by decide +kernel) rfl), (lw_mem 69 (by decide +kernel) rfl), by decide +kernel, by decide +kernel, by decide +kernel⟩
theorem im_yX3_init : Cond.instanceMethod yX3_init ∈ lw_all := (lw_mem 68 (by decide +kernel) rfl)
theorem fw_X8_30 : FW "BroadseamLoft" 30 8 6 (.object "BroadseamLoft$Net") true := ⟨RX8, TX8, 14, tyX8, rfl, by decide, (lw_mem 131 (by decide +kernel) rfl), inA8, tyX8_ok, nmX8, rfl, rfl, fun _ => rfl⟩
theorem cl_X8_34 : Cond.classLink "BroadseamLoft" 34 "BroadseamLoft$Peg" ∈ lw_all := (lw_mem 89 (by decide +kernel) rfl)
theorem fw_X8_36 : FW "BroadseamLoft" 36 8 7 (.array (.object "BroadseamLoft$Peg")) true := ⟨RX8, TX8, 14, tyX8, rfl, by decide, (lw_mem 132 (by decide +kernel) rfl), inA8, tyX8_ok, nmX8, rfl, rfl, fun _ => rfl⟩
theorem nw_X8_40 : NW "BroadseamLoft" 40 6 := ⟨RX6, TX6, 3, tyX6, rfl, rfl, inA6, tyX6_ok, by decide +kernel, (lw_mem 91 (by decide +kernel) rfl), (lw_mem 92 (by decide +kernel) rfl), (lw_mem 35 (by decide +kernel) rfl)⟩
theorem cn_X8_42 : Cond.methodLinkNest "BroadseamLoft" 42 yX6_init "BroadseamLoft" ∈ ngW := List.mem_of_getElem? (i := 4) rfl
theorem cm_yX6_init : Cond.initialized yX6_init.cls ∈ lw_all ∧ Cond.code yX6_init cX6_init 1 (Option.none : Option Jvm.ClassFile.FieldType) ∈ lw_all ∧ yX6_init.cls ≠ "java/lang/invoke/MethodHandle" ∧ yX6_init.cls ≠ "java/lang/invoke/VarHandle" ∧ (parseMethodDescriptor yX6_init.desc).map (fun d => d.parameters.length) = some 0 := ⟨(lw_mem 35 (by decide +kernel) rfl), (lw_mem 95 (by decide +kernel) rfl), by decide +kernel, by decide +kernel, by decide +kernel⟩
theorem im_yX6_init : Cond.instanceMethod yX6_init ∈ lw_all := (lw_mem 94 (by decide +kernel) rfl)
theorem fw_X8_43 : FW "BroadseamLoft" 43 8 9 (.object "BroadseamLoft$Sail") true := ⟨RX8, TX8, 14, tyX8, rfl, by decide, (lw_mem 134 (by decide +kernel) rfl), inA8, tyX8_ok, nmX8, rfl, rfl, fun _ => rfl⟩
theorem cl_X8_47 : Cond.classLink "BroadseamLoft" 47 "BroadseamLoft$Canopy" ∈ lw_all := (lw_mem 109 (by decide +kernel) rfl)
theorem fw_X8_49 : FW "BroadseamLoft" 49 8 10 (.array (.object "BroadseamLoft$Canopy")) true := ⟨RX8, TX8, 14, tyX8, rfl, by decide, (lw_mem 135 (by decide +kernel) rfl), inA8, tyX8_ok, nmX8, rfl, rfl, fun _ => rfl⟩
theorem nw_X8_53 : NW "BroadseamLoft" 53 1 := ⟨RX1, TX1, 2, tyX1, rfl, rfl, inA1, tyX1_ok, by decide +kernel, (lw_mem 111 (by decide +kernel) rfl), (lw_mem 112 (by decide +kernel) rfl), (lw_mem 36 (by decide +kernel) rfl)⟩
theorem cn_X8_55 : Cond.methodLinkNest "BroadseamLoft" 55 yX1_init "BroadseamLoft" ∈ ngW := List.mem_of_getElem? (i := 6) rfl
theorem cm_yX1_init : Cond.initialized yX1_init.cls ∈ lw_all ∧ Cond.code yX1_init cX1_init 1 (Option.none : Option Jvm.ClassFile.FieldType) ∈ lw_all ∧ yX1_init.cls ≠ "java/lang/invoke/MethodHandle" ∧ yX1_init.cls ≠ "java/lang/invoke/VarHandle" ∧ (parseMethodDescriptor yX1_init.desc).map (fun d => d.parameters.length) = some 0 := ⟨(lw_mem 36 (by decide +kernel) rfl), (lw_mem 115 (by decide +kernel) rfl), by decide +kernel, by decide +kernel, by decide +kernel⟩
theorem im_yX1_init : Cond.instanceMethod yX1_init ∈ lw_all := (lw_mem 114 (by decide +kernel) rfl)
theorem fw_X8_56 : FW "BroadseamLoft" 56 8 12 (.object "BroadseamLoft$Log") true := ⟨RX8, TX8, 14, tyX8, rfl, by decide, (lw_mem 137 (by decide +kernel) rfl), inA8, tyX8_ok, nmX8, rfl, rfl, fun _ => rfl⟩
theorem k_X8_60 : Cond.constantLong "BroadseamLoft" 60 (2000000000) ∈ lw_all := (lw_mem 181 (by decide +kernel) rfl)
theorem cw_X8_62 : CWm "BroadseamLoft" 62 yX8_isOutside cX8_isOutside 6 (Option.some Jvm.ClassFile.FieldType.boolean) 3 := ⟨(lw_mem 182 (by decide +kernel) rfl), (lw_mem 33 (by decide +kernel) rfl), (lw_mem 184 (by decide +kernel) rfl), by decide +kernel, by decide +kernel, by decide +kernel⟩
theorem fl_X8_73 : FL "BroadseamLoft" 73 8 1 := ⟨RX8, TX8, 14, rfl, by decide, (lw_mem 126 (by decide +kernel) rfl), inA8⟩
theorem fl_X8_11 : FL "BroadseamLoft" 11 8 0 := ⟨RX8, TX8, 14, rfl, by decide, (lw_mem 125 (by decide +kernel) rfl), inA8⟩
theorem nw_X8_9 : NW "BroadseamLoft" 9 2 := ⟨RX2, TX2, 8, tyX2, rfl, rfl, inA2, tyX2_ok, by decide +kernel, (lw_mem 59 (by decide +kernel) rfl), (lw_mem 268 (by decide +kernel) rfl), (lw_mem 43 (by decide +kernel) rfl)⟩
theorem cw_X8_82 : CWm "BroadseamLoft" 82 yX2_init cX2_init 4 (Option.none : Option Jvm.ClassFile.FieldType) 3 := ⟨(lw_mem 269 (by decide +kernel) rfl), (lw_mem 43 (by decide +kernel) rfl), (lw_mem 271 (by decide +kernel) rfl), by decide +kernel, by decide +kernel, by decide +kernel⟩
theorem im_yX2_init : Cond.instanceMethod yX2_init ∈ lw_all := (lw_mem 270 (by decide +kernel) rfl)
theorem fw_X8_73 : FW "BroadseamLoft" 73 8 1 (.int) false := ⟨RX8, TX8, 14, tyX8, rfl, by decide, (lw_mem 126 (by decide +kernel) rfl), inA8, tyX8_ok, nmX8, rfl, rfl, by decide⟩
theorem cw_X8_85 : CWm "BroadseamLoft" 85 yX8_lotAt cX8_lotAt 2 (Option.some (Jvm.ClassFile.FieldType.object "BroadseamLoft$Lot")) 1 := ⟨(lw_mem 308 (by decide +kernel) rfl), (lw_mem 33 (by decide +kernel) rfl), (lw_mem 311 (by decide +kernel) rfl), by decide +kernel, by decide +kernel, by decide +kernel⟩
theorem im_yX8_lotAt : Cond.instanceMethod yX8_lotAt ∈ lw_all := (lw_mem 310 (by decide +kernel) rfl)
theorem se_yX8_lotAt : Cond.selects yX8_lotAt.cls yX8_lotAt yX8_lotAt ∈ lw_all := lw_mem 1 rfl rfl
theorem k_X8_94 : Cond.constantLong "BroadseamLoft" 94 (10000) ∈ lw_all := (lw_mem 328 (by decide +kernel) rfl)
theorem fl_X8_98 : FL "BroadseamLoft" 98 2 3 := ⟨RX2, TX2, 8, rfl, by decide, (lw_mem 277 (by decide +kernel) rfl), inA2⟩
theorem k_X8_101 : Cond.constant "BroadseamLoft" 101 (1000000) ∈ lw_all := (lw_mem 330 (by decide +kernel) rfl)
theorem cw_X8_102 : CWm "BroadseamLoft" 102 yJ9_min_7cf53 cJ9_min_7cf53 2 (Option.some Jvm.ClassFile.FieldType.int) 2 := ⟨(lw_mem 331 (by decide +kernel) rfl), (lw_mem 45 (by decide +kernel) rfl), (lw_mem 333 (by decide +kernel) rfl), by decide +kernel, by decide +kernel, by decide +kernel⟩
theorem fw_X8_98 : FW "BroadseamLoft" 98 2 3 (.int) false := ⟨RX2, TX2, 8, tyX2, rfl, by decide, (lw_mem 277 (by decide +kernel) rfl), inA2, tyX2_ok, nmX2, rfl, rfl, by decide⟩
theorem k_X8_108 : Cond.constantLong "BroadseamLoft" 108 (150) ∈ lw_all := (lw_mem 341 (by decide +kernel) rfl)
theorem k_X8_110 : Cond.constantLong "BroadseamLoft" 110 (2) ∈ lw_all := (lw_mem 342 (by decide +kernel) rfl)
theorem fl_X8_114 : FL "BroadseamLoft" 114 8 3 := ⟨RX8, TX8, 14, rfl, by decide, (lw_mem 128 (by decide +kernel) rfl), inA8⟩
theorem fl_X8_17 : FL "BroadseamLoft" 17 8 2 := ⟨RX8, TX8, 14, rfl, by decide, (lw_mem 127 (by decide +kernel) rfl), inA8⟩
theorem nw_X8_15 : NW "BroadseamLoft" 15 4 := ⟨RX4, TX4, 5, tyX4, rfl, rfl, inA4, tyX4_ok, by decide +kernel, (lw_mem 61 (by decide +kernel) rfl), (lw_mem 345 (by decide +kernel) rfl), (lw_mem 46 (by decide +kernel) rfl)⟩
theorem cw_X8_119 : CWm "BroadseamLoft" 119 yX4_init cX4_init 4 (Option.none : Option Jvm.ClassFile.FieldType) 3 := ⟨(lw_mem 346 (by decide +kernel) rfl), (lw_mem 46 (by decide +kernel) rfl), (lw_mem 348 (by decide +kernel) rfl), by decide +kernel, by decide +kernel, by decide +kernel⟩
theorem im_yX4_init : Cond.instanceMethod yX4_init ∈ lw_all := (lw_mem 347 (by decide +kernel) rfl)
theorem cw_X8_122 : CWm "BroadseamLoft" 122 yX2_layPanel cX2_layPanel 6 (Option.none : Option Jvm.ClassFile.FieldType) 3 := ⟨(lw_mem 367 (by decide +kernel) rfl), (lw_mem 43 (by decide +kernel) rfl), (lw_mem 370 (by decide +kernel) rfl), by decide +kernel, by decide +kernel, by decide +kernel⟩
theorem im_yX2_layPanel : Cond.instanceMethod yX2_layPanel ∈ lw_all := (lw_mem 368 (by decide +kernel) rfl)
theorem se_yX2_layPanel : Cond.selects yX2_layPanel.cls yX2_layPanel yX2_layPanel ∈ lw_all := (lw_mem 369 (by decide +kernel) rfl)
theorem fw_X8_114 : FW "BroadseamLoft" 114 8 3 (.int) false := ⟨RX8, TX8, 14, tyX8, rfl, by decide, (lw_mem 128 (by decide +kernel) rfl), inA8, tyX8_ok, nmX8, rfl, rfl, by decide⟩
theorem cw_X8_125 : CWm "BroadseamLoft" 125 yX8_panelAt cX8_panelAt 2 (Option.some (Jvm.ClassFile.FieldType.object "BroadseamLoft$Panel")) 1 := ⟨(lw_mem 381 (by decide +kernel) rfl), (lw_mem 33 (by decide +kernel) rfl), (lw_mem 384 (by decide +kernel) rfl), by decide +kernel, by decide +kernel, by decide +kernel⟩
theorem im_yX8_panelAt : Cond.instanceMethod yX8_panelAt ∈ lw_all := (lw_mem 383 (by decide +kernel) rfl)
theorem se_yX8_panelAt : Cond.selects yX8_panelAt.cls yX8_panelAt yX8_panelAt ∈ lw_all := lw_mem 2 rfl rfl
theorem cw_X8_131 : CWm "BroadseamLoft" 131 yX4_strengthNow cX4_strengthNow 1 (Option.some Jvm.ClassFile.FieldType.long) 0 := ⟨(lw_mem 386 (by decide +kernel) rfl), (lw_mem 46 (by decide +kernel) rfl), (lw_mem 389 (by decide +kernel) rfl), by decide +kernel, by decide +kernel, by decide +kernel⟩
theorem cw_X8_135 : CWm "BroadseamLoft" 135 yX2_rolledLength cX2_rolledLength 1 (Option.some Jvm.ClassFile.FieldType.int) 0 := ⟨(lw_mem 402 (by decide +kernel) rfl), (lw_mem 43 (by decide +kernel) rfl), (lw_mem 405 (by decide +kernel) rfl), by decide +kernel, by decide +kernel, by decide +kernel⟩
theorem im_yX2_rolledLength : Cond.instanceMethod yX2_rolledLength ∈ lw_all := (lw_mem 403 (by decide +kernel) rfl)
theorem se_yX2_rolledLength : Cond.selects yX2_rolledLength.cls yX2_rolledLength yX2_rolledLength ∈ lw_all := (lw_mem 404 (by decide +kernel) rfl)
theorem fl_X8_141 : FL "BroadseamLoft" 141 8 5 := ⟨RX8, TX8, 14, rfl, by decide, (lw_mem 130 (by decide +kernel) rfl), inA8⟩
theorem fl_X8_23 : FL "BroadseamLoft" 23 8 4 := ⟨RX8, TX8, 14, rfl, by decide, (lw_mem 129 (by decide +kernel) rfl), inA8⟩
theorem nw_X8_21 : NW "BroadseamLoft" 21 7 := ⟨RX7, TX7, 3, tyX7, rfl, rfl, inA7, tyX7_ok, by decide +kernel, (lw_mem 63 (by decide +kernel) rfl), (lw_mem 415 (by decide +kernel) rfl), (lw_mem 47 (by decide +kernel) rfl)⟩
theorem cw_X8_146 : CWm "BroadseamLoft" 146 yX7_init cX7_init 4 (Option.none : Option Jvm.ClassFile.FieldType) 3 := ⟨(lw_mem 416 (by decide +kernel) rfl), (lw_mem 47 (by decide +kernel) rfl), (lw_mem 418 (by decide +kernel) rfl), by decide +kernel, by decide +kernel, by decide +kernel⟩
theorem im_yX7_init : Cond.instanceMethod yX7_init ∈ lw_all := (lw_mem 417 (by decide +kernel) rfl)
theorem fw_X8_141 : FW "BroadseamLoft" 141 8 5 (.int) false := ⟨RX8, TX8, 14, tyX8, rfl, by decide, (lw_mem 130 (by decide +kernel) rfl), inA8, tyX8_ok, nmX8, rfl, rfl, by decide⟩
theorem cw_X8_151 : CWm "BroadseamLoft" 151 yX7_strengthNow cX7_strengthNow 1 (Option.some Jvm.ClassFile.FieldType.long) 0 := ⟨(lw_mem 440 (by decide +kernel) rfl), (lw_mem 47 (by decide +kernel) rfl), (lw_mem 443 (by decide +kernel) rfl), by decide +kernel, by decide +kernel, by decide +kernel⟩
theorem cw_X8_152 : CWm "BroadseamLoft" 152 yX8_spreadLoadFrom cX8_spreadLoadFrom 7 (Option.none : Option Jvm.ClassFile.FieldType) 1 := ⟨(lw_mem 456 (by decide +kernel) rfl), (lw_mem 33 (by decide +kernel) rfl), (lw_mem 459 (by decide +kernel) rfl), by decide +kernel, by decide +kernel, by decide +kernel⟩
theorem im_yX8_spreadLoadFrom : Cond.instanceMethod yX8_spreadLoadFrom ∈ lw_all := (lw_mem 458 (by decide +kernel) rfl)
theorem se_yX8_spreadLoadFrom : Cond.selects yX8_spreadLoadFrom.cls yX8_spreadLoadFrom yX8_spreadLoadFrom ∈ lw_all := lw_mem 3 rfl rfl
theorem fl_X8_156 : FL "BroadseamLoft" 156 4 3 := ⟨RX4, TX4, 5, rfl, by decide, (lw_mem 354 (by decide +kernel) rfl), inA4⟩
theorem cw_X8_160 : CWm "BroadseamLoft" 160 yX8_joinUntilTogether cX8_joinUntilTogether 5 (Option.some Jvm.ClassFile.FieldType.long) 2 := ⟨(lw_mem 475 (by decide +kernel) rfl), (lw_mem 33 (by decide +kernel) rfl), (lw_mem 478 (by decide +kernel) rfl), by decide +kernel, by decide +kernel, by decide +kernel⟩
theorem im_yX8_joinUntilTogether : Cond.instanceMethod yX8_joinUntilTogether ∈ lw_all := (lw_mem 477 (by decide +kernel) rfl)
theorem se_yX8_joinUntilTogether : Cond.selects yX8_joinUntilTogether.cls yX8_joinUntilTogether yX8_joinUntilTogether ∈ lw_all := lw_mem 4 rfl rfl
theorem fw_X8_156 : FW "BroadseamLoft" 156 4 3 (.long) false := ⟨RX4, TX4, 5, tyX4, rfl, by decide, (lw_mem 354 (by decide +kernel) rfl), inA4, tyX4_ok, nmX4, rfl, rfl, by decide⟩
theorem cw_X8_164 : CWm "BroadseamLoft" 164 yX7_passOnLoad cX7_passOnLoad 3 (Option.none : Option Jvm.ClassFile.FieldType) 0 := ⟨(lw_mem 460 (by decide +kernel) rfl), (lw_mem 47 (by decide +kernel) rfl), (lw_mem 463 (by decide +kernel) rfl), by decide +kernel, by decide +kernel, by decide +kernel⟩
theorem im_yX7_passOnLoad : Cond.instanceMethod yX7_passOnLoad ∈ lw_all := (lw_mem 461 (by decide +kernel) rfl)
theorem se_yX7_passOnLoad : Cond.selects yX7_passOnLoad.cls yX7_passOnLoad yX7_passOnLoad ∈ lw_all := (lw_mem 462 (by decide +kernel) rfl)
theorem fw_X8_167 : FW "BroadseamLoft" 167 4 4 (.int) false := ⟨RX4, TX4, 5, tyX4, rfl, by decide, (lw_mem 355 (by decide +kernel) rfl), inA4, tyX4_ok, nmX4, rfl, rfl, by decide⟩
theorem cw_X8_170 : CWm "BroadseamLoft" 170 yX8_strongestBetweenGroups cX8_strongestBetweenGroups 6 (Option.some (Jvm.ClassFile.FieldType.object "BroadseamLoft$Seam")) 0 := ⟨(lw_mem 479 (by decide +kernel) rfl), (lw_mem 33 (by decide +kernel) rfl), (lw_mem 482 (by decide +kernel) rfl), by decide +kernel, by decide +kernel, by decide +kernel⟩
theorem im_yX8_strongestBetweenGroups : Cond.instanceMethod yX8_strongestBetweenGroups ∈ lw_all := (lw_mem 481 (by decide +kernel) rfl)
theorem se_yX8_strongestBetweenGroups : Cond.selects yX8_strongestBetweenGroups.cls yX8_strongestBetweenGroups yX8_strongestBetweenGroups ∈ lw_all := lw_mem 5 rfl rfl
theorem fl_X8_174 : FL "BroadseamLoft" 174 7 1 := ⟨RX7, TX7, 3, rfl, by decide, (lw_mem 423 (by decide +kernel) rfl), inA7⟩
theorem fl_X8_167 : FL "BroadseamLoft" 167 4 4 := ⟨RX4, TX4, 5, rfl, by decide, (lw_mem 355 (by decide +kernel) rfl), inA4⟩
theorem fl_X8_178 : FL "BroadseamLoft" 178 7 0 := ⟨RX7, TX7, 3, rfl, by decide, (lw_mem 421 (by decide +kernel) rfl), inA7⟩
theorem cw_X8_181 : CWm "BroadseamLoft" 181 yX8_moveGroup cX8_moveGroup 7 (Option.none : Option Jvm.ClassFile.FieldType) 2 := ⟨(lw_mem 483 (by decide +kernel) rfl), (lw_mem 33 (by decide +kernel) rfl), (lw_mem 486 (by decide +kernel) rfl), by decide +kernel, by decide +kernel, by decide +kernel⟩
theorem im_yX8_moveGroup : Cond.instanceMethod yX8_moveGroup ∈ lw_all := (lw_mem 485 (by decide +kernel) rfl)
theorem se_yX8_moveGroup : Cond.selects yX8_moveGroup.cls yX8_moveGroup yX8_moveGroup ∈ lw_all := lw_mem 6 rfl rfl
theorem k_X8_185 : Cond.constantLong "BroadseamLoft" 185 (35) ∈ lw_all := (lw_mem 494 (by decide +kernel) rfl)
theorem k_X8_189 : Cond.constantLong "BroadseamLoft" 189 (-10000) ∈ lw_all := (lw_mem 496 (by decide +kernel) rfl)
theorem fl_X8_30 : FL "BroadseamLoft" 30 8 6 := ⟨RX8, TX8, 14, rfl, by decide, (lw_mem 131 (by decide +kernel) rfl), inA8⟩
theorem fl_X8_193 : FL "BroadseamLoft" 193 3 0 := ⟨RX3, TX3, 4, rfl, by decide, (lw_mem 72 (by decide +kernel) rfl), inA3⟩
theorem fl_X8_197 : FL "BroadseamLoft" 197 3 2 := ⟨RX3, TX3, 4, rfl, by decide, (lw_mem 75 (by decide +kernel) rfl), inA3⟩
theorem k_X8_201 : Cond.constantLong "BroadseamLoft" 201 (100) ∈ lw_all := (lw_mem 505 (by decide +kernel) rfl)
theorem fl_X8_205 : FL "BroadseamLoft" 205 3 3 := ⟨RX3, TX3, 4, rfl, by decide, (lw_mem 77 (by decide +kernel) rfl), inA3⟩
theorem fw_X8_205 : FW "BroadseamLoft" 205 3 3 (.int) false := ⟨RX3, TX3, 4, tyX3, rfl, by decide, (lw_mem 77 (by decide +kernel) rfl), inA3, tyX3_ok, nmX3, rfl, rfl, by decide⟩
theorem k_X8_208 : Cond.constantLong "BroadseamLoft" 208 (50) ∈ lw_all := (lw_mem 514 (by decide +kernel) rfl)
theorem cw_X8_212 : CWm "BroadseamLoft" 212 yX3_stepMoves cX3_stepMoves 3 (Option.some Jvm.ClassFile.FieldType.boolean) 0 := ⟨(lw_mem 516 (by decide +kernel) rfl), (lw_mem 34 (by decide +kernel) rfl), (lw_mem 519 (by decide +kernel) rfl), by decide +kernel, by decide +kernel, by decide +kernel⟩
theorem im_yX3_stepMoves : Cond.instanceMethod yX3_stepMoves ∈ lw_all := (lw_mem 517 (by decide +kernel) rfl)
theorem se_yX3_stepMoves : Cond.selects yX3_stepMoves.cls yX3_stepMoves yX3_stepMoves ∈ lw_all := (lw_mem 518 (by decide +kernel) rfl)
theorem k_X8_216 : Cond.constantLong "BroadseamLoft" 216 (4000000000000) ∈ lw_all := (lw_mem 548 (by decide +kernel) rfl)
theorem fl_X8_220 : FL "BroadseamLoft" 220 8 8 := ⟨RX8, TX8, 14, rfl, by decide, (lw_mem 133 (by decide +kernel) rfl), inA8⟩
theorem fl_X8_36 : FL "BroadseamLoft" 36 8 7 := ⟨RX8, TX8, 14, rfl, by decide, (lw_mem 132 (by decide +kernel) rfl), inA8⟩
theorem nw_X8_34 : NW "BroadseamLoft" 34 5 := ⟨RX5, TX5, 4, tyX5, rfl, rfl, inA5, tyX5_ok, by decide +kernel, (lw_mem 89 (by decide +kernel) rfl), (lw_mem 551 (by decide +kernel) rfl), (lw_mem 49 (by decide +kernel) rfl)⟩
theorem cw_X8_225 : CWm "BroadseamLoft" 225 yX5_init cX5_init 4 (Option.none : Option Jvm.ClassFile.FieldType) 2 := ⟨(lw_mem 552 (by decide +kernel) rfl), (lw_mem 49 (by decide +kernel) rfl), (lw_mem 554 (by decide +kernel) rfl), by decide +kernel, by decide +kernel, by decide +kernel⟩
theorem im_yX5_init : Cond.instanceMethod yX5_init ∈ lw_all := (lw_mem 553 (by decide +kernel) rfl)
theorem fw_X8_220 : FW "BroadseamLoft" 220 8 8 (.int) false := ⟨RX8, TX8, 14, tyX8, rfl, by decide, (lw_mem 133 (by decide +kernel) rfl), inA8, tyX8_ok, nmX8, rfl, rfl, by decide⟩
theorem k_X8_228 : Cond.constantLong "BroadseamLoft" 228 (40000000000000) ∈ lw_all := (lw_mem 579 (by decide +kernel) rfl)
theorem cw_X8_232 : CWm "BroadseamLoft" 232 yX8_shareForce cX8_shareForce 12 (Option.none : Option Jvm.ClassFile.FieldType) 1 := ⟨(lw_mem 581 (by decide +kernel) rfl), (lw_mem 33 (by decide +kernel) rfl), (lw_mem 584 (by decide +kernel) rfl), by decide +kernel, by decide +kernel, by decide +kernel⟩
theorem im_yX8_shareForce : Cond.instanceMethod yX8_shareForce ∈ lw_all := (lw_mem 583 (by decide +kernel) rfl)
theorem se_yX8_shareForce : Cond.selects yX8_shareForce.cls yX8_shareForce yX8_shareForce ∈ lw_all := lw_mem 7 rfl rfl
theorem cw_X8_236 : CWm "BroadseamLoft" 236 yX8_takeOutOverpulled cX8_takeOutOverpulled 6 (Option.some Jvm.ClassFile.FieldType.int) 0 := ⟨(lw_mem 589 (by decide +kernel) rfl), (lw_mem 33 (by decide +kernel) rfl), (lw_mem 592 (by decide +kernel) rfl), by decide +kernel, by decide +kernel, by decide +kernel⟩
theorem im_yX8_takeOutOverpulled : Cond.instanceMethod yX8_takeOutOverpulled ∈ lw_all := (lw_mem 591 (by decide +kernel) rfl)
theorem se_yX8_takeOutOverpulled : Cond.selects yX8_takeOutOverpulled.cls yX8_takeOutOverpulled yX8_takeOutOverpulled ∈ lw_all := lw_mem 9 rfl rfl
theorem fl_X8_241 : FL "BroadseamLoft" 241 5 3 := ⟨RX5, TX5, 4, rfl, by decide, (lw_mem 562 (by decide +kernel) rfl), inA5⟩
theorem fl_X8_244 : FL "BroadseamLoft" 244 5 2 := ⟨RX5, TX5, 4, rfl, by decide, (lw_mem 561 (by decide +kernel) rfl), inA5⟩
theorem cw_X8_248 : CWm "BroadseamLoft" 248 yX8_stiffnessTogether cX8_stiffnessTogether 7 (Option.some Jvm.ClassFile.FieldType.long) 0 := ⟨(lw_mem 585 (by decide +kernel) rfl), (lw_mem 33 (by decide +kernel) rfl), (lw_mem 588 (by decide +kernel) rfl), by decide +kernel, by decide +kernel, by decide +kernel⟩
theorem im_yX8_stiffnessTogether : Cond.instanceMethod yX8_stiffnessTogether ∈ lw_all := (lw_mem 587 (by decide +kernel) rfl)
theorem se_yX8_stiffnessTogether : Cond.selects yX8_stiffnessTogether.cls yX8_stiffnessTogether yX8_stiffnessTogether ∈ lw_all := lw_mem 8 rfl rfl
theorem fl_X8_251 : FL "BroadseamLoft" 251 5 1 := ⟨RX5, TX5, 4, rfl, by decide, (lw_mem 559 (by decide +kernel) rfl), inA5⟩
theorem fw_X8_241 : FW "BroadseamLoft" 241 5 3 (.long) false := ⟨RX5, TX5, 4, tyX5, rfl, by decide, (lw_mem 562 (by decide +kernel) rfl), inA5, tyX5_ok, nmX5, rfl, rfl, by decide⟩
theorem fl_X8_254 : FL "BroadseamLoft" 254 5 0 := ⟨RX5, TX5, 4, rfl, by decide, (lw_mem 557 (by decide +kernel) rfl), inA5⟩
theorem fw_X8_244 : FW "BroadseamLoft" 244 5 2 (.boolean) false := ⟨RX5, TX5, 4, tyX5, rfl, by decide, (lw_mem 561 (by decide +kernel) rfl), inA5, tyX5_ok, nmX5, rfl, rfl, by decide⟩
theorem k_X8_257 : Cond.constantLong "BroadseamLoft" 257 (3) ∈ lw_all := (lw_mem 608 (by decide +kernel) rfl)
theorem fl_X8_43 : FL "BroadseamLoft" 43 8 9 := ⟨RX8, TX8, 14, rfl, by decide, (lw_mem 134 (by decide +kernel) rfl), inA8⟩
theorem fw_X8_261 : FW "BroadseamLoft" 261 6 0 (.int) false := ⟨RX6, TX6, 3, tyX6, rfl, by decide, (lw_mem 97 (by decide +kernel) rfl), inA6, tyX6_ok, nmX6, rfl, rfl, by decide⟩
theorem fw_X8_264 : FW "BroadseamLoft" 264 6 1 (.int) false := ⟨RX6, TX6, 3, tyX6, rfl, by decide, (lw_mem 99 (by decide +kernel) rfl), inA6, tyX6_ok, nmX6, rfl, rfl, by decide⟩
theorem fw_X8_267 : FW "BroadseamLoft" 267 6 2 (.int) false := ⟨RX6, TX6, 3, tyX6, rfl, by decide, (lw_mem 101 (by decide +kernel) rfl), inA6, tyX6_ok, nmX6, rfl, rfl, by decide⟩
theorem cw_X8_270 : CWm "BroadseamLoft" 270 yX6_draftWith cX6_draftWith 2 (Option.some Jvm.ClassFile.FieldType.float) 1 := ⟨(lw_mem 610 (by decide +kernel) rfl), (lw_mem 35 (by decide +kernel) rfl), (lw_mem 613 (by decide +kernel) rfl), by decide +kernel, by decide +kernel, by decide +kernel⟩
theorem fl_X8_261 : FL "BroadseamLoft" 261 6 0 := ⟨RX6, TX6, 3, rfl, by decide, (lw_mem 97 (by decide +kernel) rfl), inA6⟩
theorem cw_X8_276 : CWm "BroadseamLoft" 276 yX6_powerWith cX6_powerWith 4 (Option.some Jvm.ClassFile.FieldType.float) 2 := ⟨(lw_mem 625 (by decide +kernel) rfl), (lw_mem 35 (by decide +kernel) rfl), (lw_mem 628 (by decide +kernel) rfl), by decide +kernel, by decide +kernel, by decide +kernel⟩
theorem im_yX6_powerWith : Cond.instanceMethod yX6_powerWith ∈ lw_all := (lw_mem 626 (by decide +kernel) rfl)
theorem se_yX6_powerWith : Cond.selects yX6_powerWith.cls yX6_powerWith yX6_powerWith ∈ lw_all := (lw_mem 627 (by decide +kernel) rfl)
theorem k_X8_280 : Cond.constantLong "BroadseamLoft" 280 (100000) ∈ lw_all := (lw_mem 638 (by decide +kernel) rfl)
theorem k_X8_284 : Cond.constantLong "BroadseamLoft" 284 (400) ∈ lw_all := (lw_mem 647 (by decide +kernel) rfl)
theorem fl_X8_288 : FL "BroadseamLoft" 288 8 13 := ⟨RX8, TX8, 14, rfl, by decide, (lw_mem 138 (by decide +kernel) rfl), inA8⟩
theorem k_X8_291 : Cond.constant "BroadseamLoft" 291 (100000) ∈ lw_all := (lw_mem 649 (by decide +kernel) rfl)
theorem fw_X8_288 : FW "BroadseamLoft" 288 8 13 (.int) false := ⟨RX8, TX8, 14, tyX8, rfl, by decide, (lw_mem 138 (by decide +kernel) rfl), inA8, tyX8_ok, nmX8, rfl, rfl, by decide⟩
theorem fl_X8_294 : FL "BroadseamLoft" 294 8 11 := ⟨RX8, TX8, 14, rfl, by decide, (lw_mem 136 (by decide +kernel) rfl), inA8⟩
theorem fl_X8_49 : FL "BroadseamLoft" 49 8 10 := ⟨RX8, TX8, 14, rfl, by decide, (lw_mem 135 (by decide +kernel) rfl), inA8⟩
theorem nw_X8_47 : NW "BroadseamLoft" 47 0 := ⟨RX0, TX0, 10, tyX0, rfl, rfl, inA0, tyX0_ok, by decide +kernel, (lw_mem 109 (by decide +kernel) rfl), (lw_mem 659 (by decide +kernel) rfl), (lw_mem 50 (by decide +kernel) rfl)⟩
theorem cw_X8_299 : CWm "BroadseamLoft" 299 yX0_init cX0_init 3 (Option.none : Option Jvm.ClassFile.FieldType) 2 := ⟨(lw_mem 660 (by decide +kernel) rfl), (lw_mem 50 (by decide +kernel) rfl), (lw_mem 662 (by decide +kernel) rfl), by decide +kernel, by decide +kernel, by decide +kernel⟩
theorem im_yX0_init : Cond.instanceMethod yX0_init ∈ lw_all := (lw_mem 661 (by decide +kernel) rfl)
theorem fw_X8_294 : FW "BroadseamLoft" 294 8 11 (.int) false := ⟨RX8, TX8, 14, tyX8, rfl, by decide, (lw_mem 136 (by decide +kernel) rfl), inA8, tyX8_ok, nmX8, rfl, rfl, by decide⟩
theorem cw_X8_302 : CWm "BroadseamLoft" 302 yX8_canopyAt cX8_canopyAt 2 (Option.some (Jvm.ClassFile.FieldType.object "BroadseamLoft$Canopy")) 1 := ⟨(lw_mem 712 (by decide +kernel) rfl), (lw_mem 33 (by decide +kernel) rfl), (lw_mem 715 (by decide +kernel) rfl), by decide +kernel, by decide +kernel, by decide +kernel⟩
theorem im_yX8_canopyAt : Cond.instanceMethod yX8_canopyAt ∈ lw_all := (lw_mem 714 (by decide +kernel) rfl)
theorem se_yX8_canopyAt : Cond.selects yX8_canopyAt.cls yX8_canopyAt yX8_canopyAt ∈ lw_all := lw_mem 10 rfl rfl
theorem k_X8_308 : Cond.constantLong "BroadseamLoft" 308 (255) ∈ lw_all := (lw_mem 717 (by decide +kernel) rfl)
theorem fl_X8_312 : FL "BroadseamLoft" 312 0 3 := ⟨RX0, TX0, 10, rfl, by decide, (lw_mem 671 (by decide +kernel) rfl), inA0⟩
theorem fl_X8_315 : FL "BroadseamLoft" 315 0 2 := ⟨RX0, TX0, 10, rfl, by decide, (lw_mem 669 (by decide +kernel) rfl), inA0⟩
theorem cw_X8_318 : CWm "BroadseamLoft" 318 yX0_isSealed cX0_isSealed 1 (Option.some Jvm.ClassFile.FieldType.boolean) 0 := ⟨(lw_mem 719 (by decide +kernel) rfl), (lw_mem 50 (by decide +kernel) rfl), (lw_mem 722 (by decide +kernel) rfl), by decide +kernel, by decide +kernel, by decide +kernel⟩
theorem fw_X8_312 : FW "BroadseamLoft" 312 0 3 (.int) false := ⟨RX0, TX0, 10, tyX0, rfl, by decide, (lw_mem 671 (by decide +kernel) rfl), inA0, tyX0_ok, nmX0, rfl, rfl, by decide⟩
theorem cw_X8_323 : CWm "BroadseamLoft" 323 yX0_roundsToOpen cX0_roundsToOpen 3 (Option.some Jvm.ClassFile.FieldType.int) 0 := ⟨(lw_mem 731 (by decide +kernel) rfl), (lw_mem 50 (by decide +kernel) rfl), (lw_mem 734 (by decide +kernel) rfl), by decide +kernel, by decide +kernel, by decide +kernel⟩
theorem k_X8_326 : Cond.constantLong "BroadseamLoft" 326 (4) ∈ lw_all := (lw_mem 746 (by decide +kernel) rfl)
theorem cw_X8_330 : CWm "BroadseamLoft" 330 yX0_isReadyToSeal cX0_isReadyToSeal 1 (Option.some Jvm.ClassFile.FieldType.boolean) 0 := ⟨(lw_mem 748 (by decide +kernel) rfl), (lw_mem 50 (by decide +kernel) rfl), (lw_mem 751 (by decide +kernel) rfl), by decide +kernel, by decide +kernel, by decide +kernel⟩
theorem im_yX0_isReadyToSeal : Cond.instanceMethod yX0_isReadyToSeal ∈ lw_all := (lw_mem 749 (by decide +kernel) rfl)
theorem se_yX0_isReadyToSeal : Cond.selects yX0_isReadyToSeal.cls yX0_isReadyToSeal yX0_isReadyToSeal ∈ lw_all := (lw_mem 750 (by decide +kernel) rfl)
theorem fw_X8_335 : FW "BroadseamLoft" 335 0 4 (.int) false := ⟨RX0, TX0, 10, tyX0, rfl, by decide, (lw_mem 673 (by decide +kernel) rfl), inA0, tyX0_ok, nmX0, rfl, rfl, by decide⟩
theorem fw_X8_338 : FW "BroadseamLoft" 338 0 5 (.int) false := ⟨RX0, TX0, 10, tyX0, rfl, by decide, (lw_mem 675 (by decide +kernel) rfl), inA0, tyX0_ok, nmX0, rfl, rfl, by decide⟩
theorem fl_X8_341 : FL "BroadseamLoft" 341 0 6 := ⟨RX0, TX0, 10, rfl, by decide, (lw_mem 677 (by decide +kernel) rfl), inA0⟩
theorem fw_X8_341 : FW "BroadseamLoft" 341 0 6 (.int) false := ⟨RX0, TX0, 10, tyX0, rfl, by decide, (lw_mem 677 (by decide +kernel) rfl), inA0, tyX0_ok, nmX0, rfl, rfl, by decide⟩
theorem fl_X8_56 : FL "BroadseamLoft" 56 8 12 := ⟨RX8, TX8, 14, rfl, by decide, (lw_mem 137 (by decide +kernel) rfl), inA8⟩
theorem cw_X8_344 : CWm "BroadseamLoft" 344 yX1_note cX1_note 3 (Option.none : Option Jvm.ClassFile.FieldType) 2 := ⟨(lw_mem 755 (by decide +kernel) rfl), (lw_mem 36 (by decide +kernel) rfl), (lw_mem 758 (by decide +kernel) rfl), by decide +kernel, by decide +kernel, by decide +kernel⟩
theorem im_yX1_note : Cond.instanceMethod yX1_note ∈ lw_all := (lw_mem 756 (by decide +kernel) rfl)
theorem se_yX1_note : Cond.selects yX1_note.cls yX1_note yX1_note ∈ lw_all := (lw_mem 757 (by decide +kernel) rfl)
theorem fl_X8_338 : FL "BroadseamLoft" 338 0 5 := ⟨RX0, TX0, 10, rfl, by decide, (lw_mem 675 (by decide +kernel) rfl), inA0⟩
theorem fl_X8_347 : FL "BroadseamLoft" 347 0 0 := ⟨RX0, TX0, 10, rfl, by decide, (lw_mem 665 (by decide +kernel) rfl), inA0⟩
theorem fl_X8_351 : FL "BroadseamLoft" 351 2 4 := ⟨RX2, TX2, 8, rfl, by decide, (lw_mem 279 (by decide +kernel) rfl), inA2⟩
theorem fl_X8_335 : FL "BroadseamLoft" 335 0 4 := ⟨RX0, TX0, 10, rfl, by decide, (lw_mem 673 (by decide +kernel) rfl), inA0⟩
theorem cw_X8_356 : CWm "BroadseamLoft" 356 yX0_loseSeal cX0_loseSeal 1 (Option.none : Option Jvm.ClassFile.FieldType) 0 := ⟨(lw_mem 767 (by decide +kernel) rfl), (lw_mem 50 (by decide +kernel) rfl), (lw_mem 770 (by decide +kernel) rfl), by decide +kernel, by decide +kernel, by decide +kernel⟩
theorem im_yX0_loseSeal : Cond.instanceMethod yX0_loseSeal ∈ lw_all := (lw_mem 768 (by decide +kernel) rfl)
theorem se_yX0_loseSeal : Cond.selects yX0_loseSeal.cls yX0_loseSeal yX0_loseSeal ∈ lw_all := (lw_mem 769 (by decide +kernel) rfl)
theorem fl_X8_359 : FL "BroadseamLoft" 359 0 7 := ⟨RX0, TX0, 10, rfl, by decide, (lw_mem 679 (by decide +kernel) rfl), inA0⟩
theorem fw_X8_359 : FW "BroadseamLoft" 359 0 7 (.int) false := ⟨RX0, TX0, 10, tyX0, rfl, by decide, (lw_mem 679 (by decide +kernel) rfl), inA0, tyX0_ok, nmX0, rfl, rfl, by decide⟩
theorem fw_X8_364 : FW "BroadseamLoft" 364 0 9 (.int) false := ⟨RX0, TX0, 10, tyX0, rfl, by decide, (lw_mem 683 (by decide +kernel) rfl), inA0, tyX0_ok, nmX0, rfl, rfl, by decide⟩
theorem fl_X8_364 : FL "BroadseamLoft" 364 0 9 := ⟨RX0, TX0, 10, rfl, by decide, (lw_mem 683 (by decide +kernel) rfl), inA0⟩
theorem fl_X8_367 : FL "BroadseamLoft" 367 0 8 := ⟨RX0, TX0, 10, rfl, by decide, (lw_mem 681 (by decide +kernel) rfl), inA0⟩
theorem fw_X8_367 : FW "BroadseamLoft" 367 0 8 (.int) false := ⟨RX0, TX0, 10, tyX0, rfl, by decide, (lw_mem 681 (by decide +kernel) rfl), inA0, tyX0_ok, nmX0, rfl, rfl, by decide⟩
theorem fw_X8_351 : FW "BroadseamLoft" 351 2 4 (.boolean) false := ⟨RX2, TX2, 8, tyX2, rfl, by decide, (lw_mem 279 (by decide +kernel) rfl), inA2, tyX2_ok, nmX2, rfl, rfl, by decide⟩
theorem cw_X8_372 : CWm "BroadseamLoft" 372 yX8_takeSealsAway cX8_takeSealsAway 7 (Option.some Jvm.ClassFile.FieldType.int) 1 := ⟨(lw_mem 787 (by decide +kernel) rfl), (lw_mem 33 (by decide +kernel) rfl), (lw_mem 790 (by decide +kernel) rfl), by decide +kernel, by decide +kernel, by decide +kernel⟩
theorem im_yX8_takeSealsAway : Cond.instanceMethod yX8_takeSealsAway ∈ lw_all := (lw_mem 789 (by decide +kernel) rfl)
theorem se_yX8_takeSealsAway : Cond.selects yX8_takeSealsAway.cls yX8_takeSealsAway yX8_takeSealsAway ∈ lw_all := lw_mem 11 rfl rfl
theorem k_X8_376 : Cond.constantLong "BroadseamLoft" 376 (5) ∈ lw_all := (lw_mem 798 (by decide +kernel) rfl)
theorem cw_X8_380 : CWm "BroadseamLoft" 380 yX0_numberOf cX0_numberOf 2 (Option.some Jvm.ClassFile.FieldType.int) 1 := ⟨(lw_mem 800 (by decide +kernel) rfl), (lw_mem 50 (by decide +kernel) rfl), (lw_mem 803 (by decide +kernel) rfl), by decide +kernel, by decide +kernel, by decide +kernel⟩
theorem im_yX0_numberOf : Cond.instanceMethod yX0_numberOf ∈ lw_all := (lw_mem 801 (by decide +kernel) rfl)
theorem se_yX0_numberOf : Cond.selects yX0_numberOf.cls yX0_numberOf yX0_numberOf ∈ lw_all := (lw_mem 802 (by decide +kernel) rfl)
theorem cw_X8_383 : CWm "BroadseamLoft" 383 yX1_timesNoted cX1_timesNoted 5 (Option.some Jvm.ClassFile.FieldType.int) 2 := ⟨(lw_mem 811 (by decide +kernel) rfl), (lw_mem 36 (by decide +kernel) rfl), (lw_mem 814 (by decide +kernel) rfl), by decide +kernel, by decide +kernel, by decide +kernel⟩
theorem im_yX1_timesNoted : Cond.instanceMethod yX1_timesNoted ∈ lw_all := (lw_mem 812 (by decide +kernel) rfl)
theorem se_yX1_timesNoted : Cond.selects yX1_timesNoted.cls yX1_timesNoted yX1_timesNoted ∈ lw_all := (lw_mem 813 (by decide +kernel) rfl)
theorem fl_X8_386 : FL "BroadseamLoft" 386 0 1 := ⟨RX0, TX0, 10, rfl, by decide, (lw_mem 667 (by decide +kernel) rfl), inA0⟩
theorem fw_X9_7 : FW "BroadseamLoftModel" 7 9 1 (.array .int) true := ⟨RX9, TX9, 39, tyX9, rfl, by decide, (lw_mem 822 (by decide +kernel) rfl), inA9, tyX9_ok, nmX9, rfl, rfl, fun _ => rfl⟩
theorem fw_X9_13 : FW "BroadseamLoftModel" 13 9 2 (.array .int) true := ⟨RX9, TX9, 39, tyX9, rfl, by decide, (lw_mem 823 (by decide +kernel) rfl), inA9, tyX9_ok, nmX9, rfl, rfl, fun _ => rfl⟩
theorem fw_X9_16 : FW "BroadseamLoftModel" 16 9 3 (.array .boolean) true := ⟨RX9, TX9, 39, tyX9, rfl, by decide, (lw_mem 824 (by decide +kernel) rfl), inA9, tyX9_ok, nmX9, rfl, rfl, fun _ => rfl⟩
theorem fw_X9_20 : FW "BroadseamLoftModel" 20 9 5 (.array .int) true := ⟨RX9, TX9, 39, tyX9, rfl, by decide, (lw_mem 826 (by decide +kernel) rfl), inA9, tyX9_ok, nmX9, rfl, rfl, fun _ => rfl⟩
theorem fw_X9_23 : FW "BroadseamLoftModel" 23 9 6 (.array .int) true := ⟨RX9, TX9, 39, tyX9, rfl, by decide, (lw_mem 827 (by decide +kernel) rfl), inA9, tyX9_ok, nmX9, rfl, rfl, fun _ => rfl⟩
theorem fw_X9_26 : FW "BroadseamLoftModel" 26 9 7 (.array .int) true := ⟨RX9, TX9, 39, tyX9, rfl, by decide, (lw_mem 828 (by decide +kernel) rfl), inA9, tyX9_ok, nmX9, rfl, rfl, fun _ => rfl⟩
theorem fw_X9_29 : FW "BroadseamLoftModel" 29 9 8 (.array .int) true := ⟨RX9, TX9, 39, tyX9, rfl, by decide, (lw_mem 829 (by decide +kernel) rfl), inA9, tyX9_ok, nmX9, rfl, rfl, fun _ => rfl⟩
theorem fw_X9_32 : FW "BroadseamLoftModel" 32 9 10 (.array .int) true := ⟨RX9, TX9, 39, tyX9, rfl, by decide, (lw_mem 831 (by decide +kernel) rfl), inA9, tyX9_ok, nmX9, rfl, rfl, fun _ => rfl⟩
theorem fw_X9_35 : FW "BroadseamLoftModel" 35 9 11 (.array .int) true := ⟨RX9, TX9, 39, tyX9, rfl, by decide, (lw_mem 832 (by decide +kernel) rfl), inA9, tyX9_ok, nmX9, rfl, rfl, fun _ => rfl⟩
theorem fw_X9_38 : FW "BroadseamLoftModel" 38 9 12 (.array .int) true := ⟨RX9, TX9, 39, tyX9, rfl, by decide, (lw_mem 833 (by decide +kernel) rfl), inA9, tyX9_ok, nmX9, rfl, rfl, fun _ => rfl⟩
theorem fw_X9_41 : FW "BroadseamLoftModel" 41 9 13 (.array .boolean) true := ⟨RX9, TX9, 39, tyX9, rfl, by decide, (lw_mem 834 (by decide +kernel) rfl), inA9, tyX9_ok, nmX9, rfl, rfl, fun _ => rfl⟩
theorem fw_X9_44 : FW "BroadseamLoftModel" 44 9 14 (.array .long) true := ⟨RX9, TX9, 39, tyX9, rfl, by decide, (lw_mem 835 (by decide +kernel) rfl), inA9, tyX9_ok, nmX9, rfl, rfl, fun _ => rfl⟩
theorem fw_X9_48 : FW "BroadseamLoftModel" 48 9 15 (.array .int) true := ⟨RX9, TX9, 39, tyX9, rfl, by decide, (lw_mem 836 (by decide +kernel) rfl), inA9, tyX9_ok, nmX9, rfl, rfl, fun _ => rfl⟩
theorem fw_X9_51 : FW "BroadseamLoftModel" 51 9 16 (.array .int) true := ⟨RX9, TX9, 39, tyX9, rfl, by decide, (lw_mem 837 (by decide +kernel) rfl), inA9, tyX9_ok, nmX9, rfl, rfl, fun _ => rfl⟩
theorem fw_X9_54 : FW "BroadseamLoftModel" 54 9 17 (.array .boolean) true := ⟨RX9, TX9, 39, tyX9, rfl, by decide, (lw_mem 838 (by decide +kernel) rfl), inA9, tyX9_ok, nmX9, rfl, rfl, fun _ => rfl⟩
theorem fw_X9_57 : FW "BroadseamLoftModel" 57 9 20 (.array .long) true := ⟨RX9, TX9, 39, tyX9, rfl, by decide, (lw_mem 841 (by decide +kernel) rfl), inA9, tyX9_ok, nmX9, rfl, rfl, fun _ => rfl⟩
theorem fw_X9_60 : FW "BroadseamLoftModel" 60 9 21 (.array .int) true := ⟨RX9, TX9, 39, tyX9, rfl, by decide, (lw_mem 842 (by decide +kernel) rfl), inA9, tyX9_ok, nmX9, rfl, rfl, fun _ => rfl⟩
theorem fw_X9_63 : FW "BroadseamLoftModel" 63 9 22 (.array .boolean) true := ⟨RX9, TX9, 39, tyX9, rfl, by decide, (lw_mem 843 (by decide +kernel) rfl), inA9, tyX9_ok, nmX9, rfl, rfl, fun _ => rfl⟩
theorem fw_X9_66 : FW "BroadseamLoftModel" 66 9 23 (.array .long) true := ⟨RX9, TX9, 39, tyX9, rfl, by decide, (lw_mem 844 (by decide +kernel) rfl), inA9, tyX9_ok, nmX9, rfl, rfl, fun _ => rfl⟩
theorem fw_X9_69 : FW "BroadseamLoftModel" 69 9 29 (.array .int) true := ⟨RX9, TX9, 39, tyX9, rfl, by decide, (lw_mem 850 (by decide +kernel) rfl), inA9, tyX9_ok, nmX9, rfl, rfl, fun _ => rfl⟩
theorem fw_X9_72 : FW "BroadseamLoftModel" 72 9 30 (.array .int) true := ⟨RX9, TX9, 39, tyX9, rfl, by decide, (lw_mem 851 (by decide +kernel) rfl), inA9, tyX9_ok, nmX9, rfl, rfl, fun _ => rfl⟩
theorem fw_X9_75 : FW "BroadseamLoftModel" 75 9 31 (.array .int) true := ⟨RX9, TX9, 39, tyX9, rfl, by decide, (lw_mem 852 (by decide +kernel) rfl), inA9, tyX9_ok, nmX9, rfl, rfl, fun _ => rfl⟩
theorem fw_X9_78 : FW "BroadseamLoftModel" 78 9 32 (.array .int) true := ⟨RX9, TX9, 39, tyX9, rfl, by decide, (lw_mem 853 (by decide +kernel) rfl), inA9, tyX9_ok, nmX9, rfl, rfl, fun _ => rfl⟩
theorem fw_X9_81 : FW "BroadseamLoftModel" 81 9 33 (.array .int) true := ⟨RX9, TX9, 39, tyX9, rfl, by decide, (lw_mem 854 (by decide +kernel) rfl), inA9, tyX9_ok, nmX9, rfl, rfl, fun _ => rfl⟩
theorem fw_X9_84 : FW "BroadseamLoftModel" 84 9 34 (.array .int) true := ⟨RX9, TX9, 39, tyX9, rfl, by decide, (lw_mem 855 (by decide +kernel) rfl), inA9, tyX9_ok, nmX9, rfl, rfl, fun _ => rfl⟩
theorem fw_X9_87 : FW "BroadseamLoftModel" 87 9 35 (.array .int) true := ⟨RX9, TX9, 39, tyX9, rfl, by decide, (lw_mem 856 (by decide +kernel) rfl), inA9, tyX9_ok, nmX9, rfl, rfl, fun _ => rfl⟩
theorem fw_X9_90 : FW "BroadseamLoftModel" 90 9 36 (.array .int) true := ⟨RX9, TX9, 39, tyX9, rfl, by decide, (lw_mem 857 (by decide +kernel) rfl), inA9, tyX9_ok, nmX9, rfl, rfl, fun _ => rfl⟩
theorem fw_X9_93 : FW "BroadseamLoftModel" 93 9 37 (.array .int) true := ⟨RX9, TX9, 39, tyX9, rfl, by decide, (lw_mem 858 (by decide +kernel) rfl), inA9, tyX9_ok, nmX9, rfl, rfl, fun _ => rfl⟩
theorem fl_X9_54 : FL "BroadseamLoftModel" 54 9 17 := ⟨RX9, TX9, 39, rfl, by decide, (lw_mem 838 (by decide +kernel) rfl), inA9⟩
theorem fl_X9_96 : FL "BroadseamLoftModel" 96 9 38 := ⟨RX9, TX9, 39, rfl, by decide, (lw_mem 859 (by decide +kernel) rfl), inA9⟩
theorem fw_X9_96 : FW "BroadseamLoftModel" 96 9 38 (.int) false := ⟨RX9, TX9, 39, tyX9, rfl, by decide, (lw_mem 859 (by decide +kernel) rfl), inA9, tyX9_ok, nmX9, rfl, rfl, by decide⟩
theorem fl_X9_100 : FL "BroadseamLoftModel" 100 9 0 := ⟨RX9, TX9, 39, rfl, by decide, (lw_mem 821 (by decide +kernel) rfl), inA9⟩
theorem cw_X9_103 : CWm "BroadseamLoftModel" 103 yX9_isBetween cX9_isBetween 3 (Option.some Jvm.ClassFile.FieldType.boolean) 3 := ⟨(lw_mem 949 (by decide +kernel) rfl), (lw_mem 37 (by decide +kernel) rfl), (lw_mem 951 (by decide +kernel) rfl), by decide +kernel, by decide +kernel, by decide +kernel⟩
theorem sm_yX9_isBetween : Cond.static yX9_isBetween ∈ lw_all := (lw_mem 950 (by decide +kernel) rfl)
theorem fl_X9_107 : FL "BroadseamLoftModel" 107 9 4 := ⟨RX9, TX9, 39, rfl, by decide, (lw_mem 825 (by decide +kernel) rfl), inA9⟩
theorem k_X9_110 : Cond.constant "BroadseamLoftModel" 110 (2000000000) ∈ lw_all := (lw_mem 948 (by decide +kernel) rfl)
theorem cw_X9_111 : CWm "BroadseamLoftModel" 111 yX9_goes cX9_goes 2 (Option.some Jvm.ClassFile.FieldType.boolean) 1 := ⟨(lw_mem 952 (by decide +kernel) rfl), (lw_mem 37 (by decide +kernel) rfl), (lw_mem 955 (by decide +kernel) rfl), by decide +kernel, by decide +kernel, by decide +kernel⟩
theorem im_yX9_goes : Cond.instanceMethod yX9_goes ∈ lw_all := (lw_mem 954 (by decide +kernel) rfl)
theorem se_yX9_goes : Cond.selects yX9_goes.cls yX9_goes yX9_goes ∈ lw_all := lw_mem 12 rfl rfl
theorem fl_X9_7 : FL "BroadseamLoftModel" 7 9 1 := ⟨RX9, TX9, 39, rfl, by decide, (lw_mem 822 (by decide +kernel) rfl), inA9⟩
theorem fw_X9_100 : FW "BroadseamLoftModel" 100 9 0 (.int) false := ⟨RX9, TX9, 39, tyX9, rfl, by decide, (lw_mem 821 (by decide +kernel) rfl), inA9, tyX9_ok, nmX9, rfl, rfl, by decide⟩
theorem cw_X9_115 : CWm "BroadseamLoftModel" 115 yX9_isLot cX9_isLot 2 (Option.some Jvm.ClassFile.FieldType.boolean) 1 := ⟨(lw_mem 960 (by decide +kernel) rfl), (lw_mem 37 (by decide +kernel) rfl), (lw_mem 963 (by decide +kernel) rfl), by decide +kernel, by decide +kernel, by decide +kernel⟩
theorem im_yX9_isLot : Cond.instanceMethod yX9_isLot ∈ lw_all := (lw_mem 962 (by decide +kernel) rfl)
theorem se_yX9_isLot : Cond.selects yX9_isLot.cls yX9_isLot yX9_isLot ∈ lw_all := lw_mem 13 rfl rfl
theorem fl_X9_13 : FL "BroadseamLoftModel" 13 9 2 := ⟨RX9, TX9, 39, rfl, by decide, (lw_mem 823 (by decide +kernel) rfl), inA9⟩
theorem k_X9_118 : Cond.constant "BroadseamLoftModel" 118 (1000000) ∈ lw_all := (lw_mem 964 (by decide +kernel) rfl)
theorem fl_X9_20 : FL "BroadseamLoftModel" 20 9 5 := ⟨RX9, TX9, 39, rfl, by decide, (lw_mem 826 (by decide +kernel) rfl), inA9⟩
theorem fl_X9_23 : FL "BroadseamLoftModel" 23 9 6 := ⟨RX9, TX9, 39, rfl, by decide, (lw_mem 827 (by decide +kernel) rfl), inA9⟩
theorem fl_X9_26 : FL "BroadseamLoftModel" 26 9 7 := ⟨RX9, TX9, 39, rfl, by decide, (lw_mem 828 (by decide +kernel) rfl), inA9⟩
theorem fl_X9_29 : FL "BroadseamLoftModel" 29 9 8 := ⟨RX9, TX9, 39, rfl, by decide, (lw_mem 829 (by decide +kernel) rfl), inA9⟩
theorem fw_X9_107 : FW "BroadseamLoftModel" 107 9 4 (.int) false := ⟨RX9, TX9, 39, tyX9, rfl, by decide, (lw_mem 825 (by decide +kernel) rfl), inA9, tyX9_ok, nmX9, rfl, rfl, by decide⟩
theorem k_X9_119 : Cond.constantLong "BroadseamLoftModel" 119 (1000) ∈ lw_all := (lw_mem 981 (by decide +kernel) rfl)
theorem cw_X9_121 : CWm "BroadseamLoftModel" 121 yX9_isPanel cX9_isPanel 2 (Option.some Jvm.ClassFile.FieldType.boolean) 1 := ⟨(lw_mem 973 (by decide +kernel) rfl), (lw_mem 37 (by decide +kernel) rfl), (lw_mem 976 (by decide +kernel) rfl), by decide +kernel, by decide +kernel, by decide +kernel⟩
theorem im_yX9_isPanel : Cond.instanceMethod yX9_isPanel ∈ lw_all := (lw_mem 975 (by decide +kernel) rfl)
theorem se_yX9_isPanel : Cond.selects yX9_isPanel.cls yX9_isPanel yX9_isPanel ∈ lw_all := lw_mem 14 rfl rfl
theorem cw_X9_124 : CWm "BroadseamLoftModel" 124 yX9_strengthOf cX9_strengthOf 6 (Option.some Jvm.ClassFile.FieldType.long) 1 := ⟨(lw_mem 977 (by decide +kernel) rfl), (lw_mem 37 (by decide +kernel) rfl), (lw_mem 980 (by decide +kernel) rfl), by decide +kernel, by decide +kernel, by decide +kernel⟩
theorem im_yX9_strengthOf : Cond.instanceMethod yX9_strengthOf ∈ lw_all := (lw_mem 979 (by decide +kernel) rfl)
theorem se_yX9_strengthOf : Cond.selects yX9_strengthOf.cls yX9_strengthOf yX9_strengthOf ∈ lw_all := lw_mem 15 rfl rfl
theorem cw_X9_128 : CWm "BroadseamLoftModel" 128 yX9_across cX9_across 2 (Option.some Jvm.ClassFile.FieldType.int) 1 := ⟨(lw_mem 986 (by decide +kernel) rfl), (lw_mem 37 (by decide +kernel) rfl), (lw_mem 989 (by decide +kernel) rfl), by decide +kernel, by decide +kernel, by decide +kernel⟩
theorem im_yX9_across : Cond.instanceMethod yX9_across ∈ lw_all := (lw_mem 988 (by decide +kernel) rfl)
theorem se_yX9_across : Cond.selects yX9_across.cls yX9_across yX9_across ∈ lw_all := lw_mem 16 rfl rfl
theorem cw_X9_132 : CWm "BroadseamLoftModel" 132 yX9_length cX9_length 2 (Option.some Jvm.ClassFile.FieldType.int) 1 := ⟨(lw_mem 990 (by decide +kernel) rfl), (lw_mem 37 (by decide +kernel) rfl), (lw_mem 993 (by decide +kernel) rfl), by decide +kernel, by decide +kernel, by decide +kernel⟩
theorem im_yX9_length : Cond.instanceMethod yX9_length ∈ lw_all := (lw_mem 992 (by decide +kernel) rfl)
theorem se_yX9_length : Cond.selects yX9_length.cls yX9_length yX9_length ∈ lw_all := lw_mem 17 rfl rfl
theorem fl_X9_135 : FL "BroadseamLoftModel" 135 9 9 := ⟨RX9, TX9, 39, rfl, by decide, (lw_mem 830 (by decide +kernel) rfl), inA9⟩
theorem fl_X9_32 : FL "BroadseamLoftModel" 32 9 10 := ⟨RX9, TX9, 39, rfl, by decide, (lw_mem 831 (by decide +kernel) rfl), inA9⟩
theorem fl_X9_35 : FL "BroadseamLoftModel" 35 9 11 := ⟨RX9, TX9, 39, rfl, by decide, (lw_mem 832 (by decide +kernel) rfl), inA9⟩
theorem fl_X9_38 : FL "BroadseamLoftModel" 38 9 12 := ⟨RX9, TX9, 39, rfl, by decide, (lw_mem 833 (by decide +kernel) rfl), inA9⟩
theorem fw_X9_135 : FW "BroadseamLoftModel" 135 9 9 (.int) false := ⟨RX9, TX9, 39, tyX9, rfl, by decide, (lw_mem 830 (by decide +kernel) rfl), inA9, tyX9_ok, nmX9, rfl, rfl, by decide⟩
theorem cw_X9_138 : CWm "BroadseamLoftModel" 138 yX9_lesser cX9_lesser 4 (Option.some Jvm.ClassFile.FieldType.long) 2 := ⟨(lw_mem 1006 (by decide +kernel) rfl), (lw_mem 37 (by decide +kernel) rfl), (lw_mem 1008 (by decide +kernel) rfl), by decide +kernel, by decide +kernel, by decide +kernel⟩
theorem sm_yX9_lesser : Cond.static yX9_lesser ∈ lw_all := (lw_mem 1007 (by decide +kernel) rfl)
theorem k_X9_142 : Cond.constantLong "BroadseamLoftModel" 142 (100) ∈ lw_all := (lw_mem 1009 (by decide +kernel) rfl)
theorem fl_X9_41 : FL "BroadseamLoftModel" 41 9 13 := ⟨RX9, TX9, 39, rfl, by decide, (lw_mem 834 (by decide +kernel) rfl), inA9⟩
theorem cw_X9_144 : CWm "BroadseamLoftModel" 144 yX9_seamOf cX9_seamOf 3 (Option.some Jvm.ClassFile.FieldType.long) 1 := ⟨(lw_mem 1002 (by decide +kernel) rfl), (lw_mem 37 (by decide +kernel) rfl), (lw_mem 1005 (by decide +kernel) rfl), by decide +kernel, by decide +kernel, by decide +kernel⟩
theorem im_yX9_seamOf : Cond.instanceMethod yX9_seamOf ∈ lw_all := (lw_mem 1004 (by decide +kernel) rfl)
theorem se_yX9_seamOf : Cond.selects yX9_seamOf.cls yX9_seamOf yX9_seamOf ∈ lw_all := lw_mem 18 rfl rfl
theorem fl_X9_44 : FL "BroadseamLoftModel" 44 9 14 := ⟨RX9, TX9, 39, rfl, by decide, (lw_mem 835 (by decide +kernel) rfl), inA9⟩
theorem cw_X9_147 : CWm "BroadseamLoftModel" 147 yX9_comes cX9_comes 7 (Option.some Jvm.ClassFile.FieldType.boolean) 3 := ⟨(lw_mem 1018 (by decide +kernel) rfl), (lw_mem 37 (by decide +kernel) rfl), (lw_mem 1021 (by decide +kernel) rfl), by decide +kernel, by decide +kernel, by decide +kernel⟩
theorem im_yX9_comes : Cond.instanceMethod yX9_comes ∈ lw_all := (lw_mem 1020 (by decide +kernel) rfl)
theorem se_yX9_comes : Cond.selects yX9_comes.cls yX9_comes yX9_comes ∈ lw_all := lw_mem 20 rfl rfl
theorem cw_X9_150 : CWm "BroadseamLoftModel" 150 yX9_bearsOf cX9_bearsOf 7 (Option.some Jvm.ClassFile.FieldType.long) 2 := ⟨(lw_mem 1014 (by decide +kernel) rfl), (lw_mem 37 (by decide +kernel) rfl), (lw_mem 1017 (by decide +kernel) rfl), by decide +kernel, by decide +kernel, by decide +kernel⟩
theorem im_yX9_bearsOf : Cond.instanceMethod yX9_bearsOf ∈ lw_all := (lw_mem 1016 (by decide +kernel) rfl)
theorem se_yX9_bearsOf : Cond.selects yX9_bearsOf.cls yX9_bearsOf yX9_bearsOf ∈ lw_all := lw_mem 19 rfl rfl
theorem cw_X9_154 : CWm "BroadseamLoftModel" 154 yX9_isKnot cX9_isKnot 1 (Option.some Jvm.ClassFile.FieldType.boolean) 1 := ⟨(lw_mem 1030 (by decide +kernel) rfl), (lw_mem 37 (by decide +kernel) rfl), (lw_mem 1032 (by decide +kernel) rfl), by decide +kernel, by decide +kernel, by decide +kernel⟩
theorem sm_yX9_isKnot : Cond.static yX9_isKnot ∈ lw_all := (lw_mem 1031 (by decide +kernel) rfl)
theorem fl_X9_48 : FL "BroadseamLoftModel" 48 9 15 := ⟨RX9, TX9, 39, rfl, by decide, (lw_mem 836 (by decide +kernel) rfl), inA9⟩
theorem fl_X9_157 : FL "BroadseamLoftModel" 157 9 18 := ⟨RX9, TX9, 39, rfl, by decide, (lw_mem 839 (by decide +kernel) rfl), inA9⟩
theorem fw_X9_157 : FW "BroadseamLoftModel" 157 9 18 (.int) false := ⟨RX9, TX9, 39, tyX9, rfl, by decide, (lw_mem 839 (by decide +kernel) rfl), inA9, tyX9_ok, nmX9, rfl, rfl, by decide⟩
theorem cw_X9_160 : CWm "BroadseamLoftModel" 160 yX9_beside cX9_beside 4 (Option.some Jvm.ClassFile.FieldType.int) 2 := ⟨(lw_mem 1049 (by decide +kernel) rfl), (lw_mem 37 (by decide +kernel) rfl), (lw_mem 1051 (by decide +kernel) rfl), by decide +kernel, by decide +kernel, by decide +kernel⟩
theorem sm_yX9_beside : Cond.static yX9_beside ∈ lw_all := (lw_mem 1050 (by decide +kernel) rfl)
theorem fl_X9_51 : FL "BroadseamLoftModel" 51 9 16 := ⟨RX9, TX9, 39, rfl, by decide, (lw_mem 837 (by decide +kernel) rfl), inA9⟩
theorem cw_X9_164 : CWm "BroadseamLoftModel" 164 yX9_comesTo cX9_comesTo 7 (Option.some Jvm.ClassFile.FieldType.int) 1 := ⟨(lw_mem 1045 (by decide +kernel) rfl), (lw_mem 37 (by decide +kernel) rfl), (lw_mem 1048 (by decide +kernel) rfl), by decide +kernel, by decide +kernel, by decide +kernel⟩
theorem im_yX9_comesTo : Cond.instanceMethod yX9_comesTo ∈ lw_all := (lw_mem 1047 (by decide +kernel) rfl)
theorem se_yX9_comesTo : Cond.selects yX9_comesTo.cls yX9_comesTo yX9_comesTo ∈ lw_all := lw_mem 22 rfl rfl
theorem cw_X9_167 : CWm "BroadseamLoftModel" 167 yX9_steps cX9_steps 3 (Option.some Jvm.ClassFile.FieldType.boolean) 0 := ⟨(lw_mem 1041 (by decide +kernel) rfl), (lw_mem 37 (by decide +kernel) rfl), (lw_mem 1044 (by decide +kernel) rfl), by decide +kernel, by decide +kernel, by decide +kernel⟩
theorem im_yX9_steps : Cond.instanceMethod yX9_steps ∈ lw_all := (lw_mem 1043 (by decide +kernel) rfl)
theorem se_yX9_steps : Cond.selects yX9_steps.cls yX9_steps yX9_steps ∈ lw_all := lw_mem 21 rfl rfl
theorem k_X9_171 : Cond.constantLong "BroadseamLoftModel" 171 (4000000000000) ∈ lw_all := (lw_mem 1060 (by decide +kernel) rfl)
theorem fl_X9_173 : FL "BroadseamLoftModel" 173 9 19 := ⟨RX9, TX9, 39, rfl, by decide, (lw_mem 840 (by decide +kernel) rfl), inA9⟩
theorem fl_X9_57 : FL "BroadseamLoftModel" 57 9 20 := ⟨RX9, TX9, 39, rfl, by decide, (lw_mem 841 (by decide +kernel) rfl), inA9⟩
theorem fl_X9_60 : FL "BroadseamLoftModel" 60 9 21 := ⟨RX9, TX9, 39, rfl, by decide, (lw_mem 842 (by decide +kernel) rfl), inA9⟩
theorem fl_X9_63 : FL "BroadseamLoftModel" 63 9 22 := ⟨RX9, TX9, 39, rfl, by decide, (lw_mem 843 (by decide +kernel) rfl), inA9⟩
theorem fw_X9_173 : FW "BroadseamLoftModel" 173 9 19 (.int) false := ⟨RX9, TX9, 39, tyX9, rfl, by decide, (lw_mem 840 (by decide +kernel) rfl), inA9, tyX9_ok, nmX9, rfl, rfl, by decide⟩
theorem fl_X9_66 : FL "BroadseamLoftModel" 66 9 23 := ⟨RX9, TX9, 39, rfl, by decide, (lw_mem 844 (by decide +kernel) rfl), inA9⟩
theorem k_X9_176 : Cond.constantLong "BroadseamLoftModel" 176 (40000000000000) ∈ lw_all := (lw_mem 1065 (by decide +kernel) rfl)
theorem cw_X9_178 : CWm "BroadseamLoftModel" 178 yX9_shares cX9_shares 9 (Option.some Jvm.ClassFile.FieldType.int) 1 := ⟨(lw_mem 1066 (by decide +kernel) rfl), (lw_mem 37 (by decide +kernel) rfl), (lw_mem 1069 (by decide +kernel) rfl), by decide +kernel, by decide +kernel, by decide +kernel⟩
theorem im_yX9_shares : Cond.instanceMethod yX9_shares ∈ lw_all := (lw_mem 1068 (by decide +kernel) rfl)
theorem se_yX9_shares : Cond.selects yX9_shares.cls yX9_shares yX9_shares ∈ lw_all := lw_mem 23 rfl rfl
theorem fl_X9_182 : FL "BroadseamLoftModel" 182 9 25 := ⟨RX9, TX9, 39, rfl, by decide, (lw_mem 846 (by decide +kernel) rfl), inA9⟩
theorem k_X9_185 : Cond.constantFloat "BroadseamLoftModel" 185 (1041865114) ∈ lw_all := (lw_mem 1086 (by decide +kernel) rfl)
theorem k_X9_186 : Cond.constantFloat "BroadseamLoftModel" 186 (981668463) ∈ lw_all := (lw_mem 1087 (by decide +kernel) rfl)
theorem k_X9_187 : Cond.constantFloat "BroadseamLoftModel" 187 (973279855) ∈ lw_all := (lw_mem 1088 (by decide +kernel) rfl)
theorem fl_X9_188 : FL "BroadseamLoftModel" 188 9 26 := ⟨RX9, TX9, 39, rfl, by decide, (lw_mem 847 (by decide +kernel) rfl), inA9⟩
theorem k_X9_191 : Cond.constantFloat "BroadseamLoftModel" 191 (1109393408) ∈ lw_all := (lw_mem 1097 (by decide +kernel) rfl)
theorem cw_X9_192 : CWm "BroadseamLoftModel" 192 yX9_draft cX9_draft 4 (Option.some Jvm.ClassFile.FieldType.float) 1 := ⟨(lw_mem 1082 (by decide +kernel) rfl), (lw_mem 37 (by decide +kernel) rfl), (lw_mem 1085 (by decide +kernel) rfl), by decide +kernel, by decide +kernel, by decide +kernel⟩
theorem im_yX9_draft : Cond.instanceMethod yX9_draft ∈ lw_all := (lw_mem 1084 (by decide +kernel) rfl)
theorem se_yX9_draft : Cond.selects yX9_draft.cls yX9_draft yX9_draft ∈ lw_all := lw_mem 24 rfl rfl
theorem fw_X9_196 : FW "BroadseamLoftModel" 196 9 24 (.int) false := ⟨RX9, TX9, 39, tyX9, rfl, by decide, (lw_mem 845 (by decide +kernel) rfl), inA9, tyX9_ok, nmX9, rfl, rfl, by decide⟩
theorem fw_X9_182 : FW "BroadseamLoftModel" 182 9 25 (.int) false := ⟨RX9, TX9, 39, tyX9, rfl, by decide, (lw_mem 846 (by decide +kernel) rfl), inA9, tyX9_ok, nmX9, rfl, rfl, by decide⟩
theorem fw_X9_188 : FW "BroadseamLoftModel" 188 9 26 (.int) false := ⟨RX9, TX9, 39, tyX9, rfl, by decide, (lw_mem 847 (by decide +kernel) rfl), inA9, tyX9_ok, nmX9, rfl, rfl, by decide⟩
theorem fl_X9_196 : FL "BroadseamLoftModel" 196 9 24 := ⟨RX9, TX9, 39, rfl, by decide, (lw_mem 845 (by decide +kernel) rfl), inA9⟩
theorem cw_X9_199 : CWm "BroadseamLoftModel" 199 yX9_powerWith cX9_powerWith 6 (Option.some Jvm.ClassFile.FieldType.float) 2 := ⟨(lw_mem 1093 (by decide +kernel) rfl), (lw_mem 37 (by decide +kernel) rfl), (lw_mem 1096 (by decide +kernel) rfl), by decide +kernel, by decide +kernel, by decide +kernel⟩
theorem im_yX9_powerWith : Cond.instanceMethod yX9_powerWith ∈ lw_all := (lw_mem 1095 (by decide +kernel) rfl)
theorem se_yX9_powerWith : Cond.selects yX9_powerWith.cls yX9_powerWith yX9_powerWith ∈ lw_all := lw_mem 25 rfl rfl
theorem k_X9_203 : Cond.constant "BroadseamLoftModel" 203 (100000) ∈ lw_all := (lw_mem 1102 (by decide +kernel) rfl)
theorem fl_X9_204 : FL "BroadseamLoftModel" 204 9 28 := ⟨RX9, TX9, 39, rfl, by decide, (lw_mem 849 (by decide +kernel) rfl), inA9⟩
theorem fl_X9_78 : FL "BroadseamLoftModel" 78 9 32 := ⟨RX9, TX9, 39, rfl, by decide, (lw_mem 853 (by decide +kernel) rfl), inA9⟩
theorem fl_X9_207 : FL "BroadseamLoftModel" 207 9 27 := ⟨RX9, TX9, 39, rfl, by decide, (lw_mem 848 (by decide +kernel) rfl), inA9⟩
theorem fw_X9_207 : FW "BroadseamLoftModel" 207 9 27 (.int) false := ⟨RX9, TX9, 39, tyX9, rfl, by decide, (lw_mem 848 (by decide +kernel) rfl), inA9, tyX9_ok, nmX9, rfl, rfl, by decide⟩
theorem fl_X9_69 : FL "BroadseamLoftModel" 69 9 29 := ⟨RX9, TX9, 39, rfl, by decide, (lw_mem 850 (by decide +kernel) rfl), inA9⟩
theorem fl_X9_81 : FL "BroadseamLoftModel" 81 9 33 := ⟨RX9, TX9, 39, rfl, by decide, (lw_mem 854 (by decide +kernel) rfl), inA9⟩
theorem fw_X9_204 : FW "BroadseamLoftModel" 204 9 28 (.int) false := ⟨RX9, TX9, 39, tyX9, rfl, by decide, (lw_mem 849 (by decide +kernel) rfl), inA9, tyX9_ok, nmX9, rfl, rfl, by decide⟩
theorem cw_X9_210 : CWm "BroadseamLoftModel" 210 yX9_isCanopy cX9_isCanopy 2 (Option.some Jvm.ClassFile.FieldType.boolean) 1 := ⟨(lw_mem 1115 (by decide +kernel) rfl), (lw_mem 37 (by decide +kernel) rfl), (lw_mem 1118 (by decide +kernel) rfl), by decide +kernel, by decide +kernel, by decide +kernel⟩
theorem im_yX9_isCanopy : Cond.instanceMethod yX9_isCanopy ∈ lw_all := (lw_mem 1117 (by decide +kernel) rfl)
theorem se_yX9_isCanopy : Cond.selects yX9_isCanopy.cls yX9_isCanopy yX9_isCanopy ∈ lw_all := lw_mem 26 rfl rfl
theorem fl_X9_72 : FL "BroadseamLoftModel" 72 9 30 := ⟨RX9, TX9, 39, rfl, by decide, (lw_mem 851 (by decide +kernel) rfl), inA9⟩
theorem cw_X9_213 : CWm "BroadseamLoftModel" 213 yX9_hasSeal cX9_hasSeal 2 (Option.some Jvm.ClassFile.FieldType.boolean) 1 := ⟨(lw_mem 1119 (by decide +kernel) rfl), (lw_mem 37 (by decide +kernel) rfl), (lw_mem 1122 (by decide +kernel) rfl), by decide +kernel, by decide +kernel, by decide +kernel⟩
theorem im_yX9_hasSeal : Cond.instanceMethod yX9_hasSeal ∈ lw_all := (lw_mem 1121 (by decide +kernel) rfl)
theorem se_yX9_hasSeal : Cond.selects yX9_hasSeal.cls yX9_hasSeal yX9_hasSeal ∈ lw_all := lw_mem 27 rfl rfl
theorem fl_X9_75 : FL "BroadseamLoftModel" 75 9 31 := ⟨RX9, TX9, 39, rfl, by decide, (lw_mem 852 (by decide +kernel) rfl), inA9⟩
theorem cw_X9_216 : CWm "BroadseamLoftModel" 216 yX9_rounds cX9_rounds 8 (Option.some Jvm.ClassFile.FieldType.int) 1 := ⟨(lw_mem 1127 (by decide +kernel) rfl), (lw_mem 37 (by decide +kernel) rfl), (lw_mem 1130 (by decide +kernel) rfl), by decide +kernel, by decide +kernel, by decide +kernel⟩
theorem im_yX9_rounds : Cond.instanceMethod yX9_rounds ∈ lw_all := (lw_mem 1129 (by decide +kernel) rfl)
theorem se_yX9_rounds : Cond.selects yX9_rounds.cls yX9_rounds yX9_rounds ∈ lw_all := lw_mem 28 rfl rfl
theorem fl_X9_16 : FL "BroadseamLoftModel" 16 9 3 := ⟨RX9, TX9, 39, rfl, by decide, (lw_mem 824 (by decide +kernel) rfl), inA9⟩
theorem fl_X9_93 : FL "BroadseamLoftModel" 93 9 37 := ⟨RX9, TX9, 39, rfl, by decide, (lw_mem 858 (by decide +kernel) rfl), inA9⟩
theorem cw_X9_219 : CWm "BroadseamLoftModel" 219 yX9_canSeal cX9_canSeal 2 (Option.some Jvm.ClassFile.FieldType.boolean) 1 := ⟨(lw_mem 1135 (by decide +kernel) rfl), (lw_mem 37 (by decide +kernel) rfl), (lw_mem 1138 (by decide +kernel) rfl), by decide +kernel, by decide +kernel, by decide +kernel⟩
theorem im_yX9_canSeal : Cond.instanceMethod yX9_canSeal ∈ lw_all := (lw_mem 1137 (by decide +kernel) rfl)
theorem se_yX9_canSeal : Cond.selects yX9_canSeal.cls yX9_canSeal yX9_canSeal ∈ lw_all := lw_mem 29 rfl rfl
theorem fl_X9_84 : FL "BroadseamLoftModel" 84 9 34 := ⟨RX9, TX9, 39, rfl, by decide, (lw_mem 855 (by decide +kernel) rfl), inA9⟩
theorem cw_X9_222 : CWm "BroadseamLoftModel" 222 yX9_unseals cX9_unseals 2 (Option.none : Option Jvm.ClassFile.FieldType) 1 := ⟨(lw_mem 1143 (by decide +kernel) rfl), (lw_mem 37 (by decide +kernel) rfl), (lw_mem 1146 (by decide +kernel) rfl), by decide +kernel, by decide +kernel, by decide +kernel⟩
theorem im_yX9_unseals : Cond.instanceMethod yX9_unseals ∈ lw_all := (lw_mem 1145 (by decide +kernel) rfl)
theorem se_yX9_unseals : Cond.selects yX9_unseals.cls yX9_unseals yX9_unseals ∈ lw_all := lw_mem 30 rfl rfl
theorem fl_X9_87 : FL "BroadseamLoftModel" 87 9 35 := ⟨RX9, TX9, 39, rfl, by decide, (lw_mem 856 (by decide +kernel) rfl), inA9⟩
theorem fl_X9_90 : FL "BroadseamLoftModel" 90 9 36 := ⟨RX9, TX9, 39, rfl, by decide, (lw_mem 857 (by decide +kernel) rfl), inA9⟩
theorem cw_X9_226 : CWm "BroadseamLoftModel" 226 yX9_lifeOf cX9_lifeOf 3 (Option.some Jvm.ClassFile.FieldType.int) 2 := ⟨(lw_mem 1159 (by decide +kernel) rfl), (lw_mem 37 (by decide +kernel) rfl), (lw_mem 1162 (by decide +kernel) rfl), by decide +kernel, by decide +kernel, by decide +kernel⟩
theorem im_yX9_lifeOf : Cond.instanceMethod yX9_lifeOf ∈ lw_all := (lw_mem 1161 (by decide +kernel) rfl)
theorem se_yX9_lifeOf : Cond.selects yX9_lifeOf.cls yX9_lifeOf yX9_lifeOf ∈ lw_all := lw_mem 31 rfl rfl
theorem cw_L_7 : CWm "BroadseamLoftLaw" 7 yX8_lot cX8_lot 4 (Option.some Jvm.ClassFile.FieldType.int) 3 := ⟨(lw_mem 177 (by decide +kernel) rfl), (lw_mem 33 (by decide +kernel) rfl), (lw_mem 180 (by decide +kernel) rfl), by decide +kernel, by decide +kernel, by decide +kernel⟩
theorem im_yX8_lot : Cond.instanceMethod yX8_lot ∈ lw_all := (lw_mem 178 (by decide +kernel) rfl)
theorem se_yX8_lot : Cond.selects yX8_lot.cls yX8_lot yX8_lot ∈ lw_all := (lw_mem 179 (by decide +kernel) rfl)
theorem cw_L_17 : CWm "BroadseamLoftLaw" 17 yX8_sun cX8_sun 4 (Option.some Jvm.ClassFile.FieldType.int) 2 := ⟨(lw_mem 304 (by decide +kernel) rfl), (lw_mem 33 (by decide +kernel) rfl), (lw_mem 307 (by decide +kernel) rfl), by decide +kernel, by decide +kernel, by decide +kernel⟩
theorem im_yX8_sun : Cond.instanceMethod yX8_sun ∈ lw_all := (lw_mem 305 (by decide +kernel) rfl)
theorem se_yX8_sun : Cond.selects yX8_sun.cls yX8_sun yX8_sun ∈ lw_all := (lw_mem 306 (by decide +kernel) rfl)
theorem cw_L_23 : CWm "BroadseamLoftLaw" 23 yX8_panel cX8_panel 6 (Option.some Jvm.ClassFile.FieldType.int) 4 := ⟨(lw_mem 337 (by decide +kernel) rfl), (lw_mem 33 (by decide +kernel) rfl), (lw_mem 340 (by decide +kernel) rfl), by decide +kernel, by decide +kernel, by decide +kernel⟩
theorem im_yX8_panel : Cond.instanceMethod yX8_panel ∈ lw_all := (lw_mem 338 (by decide +kernel) rfl)
theorem se_yX8_panel : Cond.selects yX8_panel.cls yX8_panel yX8_panel ∈ lw_all := (lw_mem 339 (by decide +kernel) rfl)
theorem cw_L_27 : CWm "BroadseamLoftLaw" 27 yX8_strength cX8_strength 3 (Option.some Jvm.ClassFile.FieldType.long) 1 := ⟨(lw_mem 377 (by decide +kernel) rfl), (lw_mem 33 (by decide +kernel) rfl), (lw_mem 380 (by decide +kernel) rfl), by decide +kernel, by decide +kernel, by decide +kernel⟩
theorem im_yX8_strength : Cond.instanceMethod yX8_strength ∈ lw_all := (lw_mem 378 (by decide +kernel) rfl)
theorem se_yX8_strength : Cond.selects yX8_strength.cls yX8_strength yX8_strength ∈ lw_all := (lw_mem 379 (by decide +kernel) rfl)
theorem cw_L_31 : CWm "BroadseamLoftLaw" 31 yX8_roll cX8_roll 3 (Option.some Jvm.ClassFile.FieldType.int) 1 := ⟨(lw_mem 398 (by decide +kernel) rfl), (lw_mem 33 (by decide +kernel) rfl), (lw_mem 401 (by decide +kernel) rfl), by decide +kernel, by decide +kernel, by decide +kernel⟩
theorem im_yX8_roll : Cond.instanceMethod yX8_roll ∈ lw_all := (lw_mem 399 (by decide +kernel) rfl)
theorem se_yX8_roll : Cond.selects yX8_roll.cls yX8_roll yX8_roll ∈ lw_all := (lw_mem 400 (by decide +kernel) rfl)
theorem cw_L_35 : CWm "BroadseamLoftLaw" 35 yX8_seam cX8_seam 6 (Option.some Jvm.ClassFile.FieldType.int) 3 := ⟨(lw_mem 409 (by decide +kernel) rfl), (lw_mem 33 (by decide +kernel) rfl), (lw_mem 412 (by decide +kernel) rfl), by decide +kernel, by decide +kernel, by decide +kernel⟩
theorem im_yX8_seam : Cond.instanceMethod yX8_seam ∈ lw_all := (lw_mem 410 (by decide +kernel) rfl)
theorem se_yX8_seam : Cond.selects yX8_seam.cls yX8_seam yX8_seam ∈ lw_all := (lw_mem 411 (by decide +kernel) rfl)
theorem cw_L_38 : CWm "BroadseamLoftLaw" 38 yX8_rip cX8_rip 3 (Option.some Jvm.ClassFile.FieldType.long) 1 := ⟨(lw_mem 435 (by decide +kernel) rfl), (lw_mem 33 (by decide +kernel) rfl), (lw_mem 438 (by decide +kernel) rfl), by decide +kernel, by decide +kernel, by decide +kernel⟩
theorem im_yX8_rip : Cond.instanceMethod yX8_rip ∈ lw_all := (lw_mem 436 (by decide +kernel) rfl)
theorem se_yX8_rip : Cond.selects yX8_rip.cls yX8_rip yX8_rip ∈ lw_all := (lw_mem 437 (by decide +kernel) rfl)
theorem cw_L_41 : CWm "BroadseamLoftLaw" 41 yX8_bears cX8_bears 5 (Option.some Jvm.ClassFile.FieldType.long) 2 := ⟨(lw_mem 452 (by decide +kernel) rfl), (lw_mem 33 (by decide +kernel) rfl), (lw_mem 455 (by decide +kernel) rfl), by decide +kernel, by decide +kernel, by decide +kernel⟩
theorem im_yX8_bears : Cond.instanceMethod yX8_bears ∈ lw_all := (lw_mem 453 (by decide +kernel) rfl)
theorem se_yX8_bears : Cond.selects yX8_bears.cls yX8_bears yX8_bears ∈ lw_all := (lw_mem 454 (by decide +kernel) rfl)
theorem cw_L_45 : CWm "BroadseamLoftLaw" 45 yX8_bearsAnew cX8_bearsAnew 5 (Option.some Jvm.ClassFile.FieldType.long) 2 := ⟨(lw_mem 471 (by decide +kernel) rfl), (lw_mem 33 (by decide +kernel) rfl), (lw_mem 474 (by decide +kernel) rfl), by decide +kernel, by decide +kernel, by decide +kernel⟩
theorem im_yX8_bearsAnew : Cond.instanceMethod yX8_bearsAnew ∈ lw_all := (lw_mem 472 (by decide +kernel) rfl)
theorem se_yX8_bearsAnew : Cond.selects yX8_bearsAnew.cls yX8_bearsAnew yX8_bearsAnew ∈ lw_all := (lw_mem 473 (by decide +kernel) rfl)
theorem cw_L_48 : CWm "BroadseamLoftLaw" 48 yX8_knot cX8_knot 5 (Option.some Jvm.ClassFile.FieldType.int) 3 := ⟨(lw_mem 490 (by decide +kernel) rfl), (lw_mem 33 (by decide +kernel) rfl), (lw_mem 493 (by decide +kernel) rfl), by decide +kernel, by decide +kernel, by decide +kernel⟩
theorem im_yX8_knot : Cond.instanceMethod yX8_knot ∈ lw_all := (lw_mem 491 (by decide +kernel) rfl)
theorem se_yX8_knot : Cond.selects yX8_knot.cls yX8_knot yX8_knot ∈ lw_all := (lw_mem 492 (by decide +kernel) rfl)
theorem cw_L_52 : CWm "BroadseamLoftLaw" 52 yX8_load cX8_load 3 (Option.some Jvm.ClassFile.FieldType.int) 1 := ⟨(lw_mem 501 (by decide +kernel) rfl), (lw_mem 33 (by decide +kernel) rfl), (lw_mem 504 (by decide +kernel) rfl), by decide +kernel, by decide +kernel, by decide +kernel⟩
theorem im_yX8_load : Cond.instanceMethod yX8_load ∈ lw_all := (lw_mem 502 (by decide +kernel) rfl)
theorem se_yX8_load : Cond.selects yX8_load.cls yX8_load yX8_load ∈ lw_all := (lw_mem 503 (by decide +kernel) rfl)
theorem cw_L_55 : CWm "BroadseamLoftLaw" 55 yX8_rest cX8_rest 3 (Option.some Jvm.ClassFile.FieldType.int) 1 := ⟨(lw_mem 510 (by decide +kernel) rfl), (lw_mem 33 (by decide +kernel) rfl), (lw_mem 513 (by decide +kernel) rfl), by decide +kernel, by decide +kernel, by decide +kernel⟩
theorem im_yX8_rest : Cond.instanceMethod yX8_rest ∈ lw_all := (lw_mem 511 (by decide +kernel) rfl)
theorem se_yX8_rest : Cond.selects yX8_rest.cls yX8_rest yX8_rest ∈ lw_all := (lw_mem 512 (by decide +kernel) rfl)
theorem cw_L_58 : CWm "BroadseamLoftLaw" 58 yX8_height cX8_height 2 (Option.some Jvm.ClassFile.FieldType.int) 1 := ⟨(lw_mem 537 (by decide +kernel) rfl), (lw_mem 33 (by decide +kernel) rfl), (lw_mem 540 (by decide +kernel) rfl), by decide +kernel, by decide +kernel, by decide +kernel⟩
theorem im_yX8_height : Cond.instanceMethod yX8_height ∈ lw_all := (lw_mem 538 (by decide +kernel) rfl)
theorem se_yX8_height : Cond.selects yX8_height.cls yX8_height yX8_height ∈ lw_all := (lw_mem 539 (by decide +kernel) rfl)
theorem cw_L_61 : CWm "BroadseamLoftLaw" 61 yX8_peg cX8_peg 4 (Option.some Jvm.ClassFile.FieldType.int) 2 := ⟨(lw_mem 544 (by decide +kernel) rfl), (lw_mem 33 (by decide +kernel) rfl), (lw_mem 547 (by decide +kernel) rfl), by decide +kernel, by decide +kernel, by decide +kernel⟩
theorem im_yX8_peg : Cond.instanceMethod yX8_peg ∈ lw_all := (lw_mem 545 (by decide +kernel) rfl)
theorem se_yX8_peg : Cond.selects yX8_peg.cls yX8_peg yX8_peg ∈ lw_all := (lw_mem 546 (by decide +kernel) rfl)
theorem cw_L_65 : CWm "BroadseamLoftLaw" 65 yX8_gust cX8_gust 6 (Option.some Jvm.ClassFile.FieldType.int) 1 := ⟨(lw_mem 575 (by decide +kernel) rfl), (lw_mem 33 (by decide +kernel) rfl), (lw_mem 578 (by decide +kernel) rfl), by decide +kernel, by decide +kernel, by decide +kernel⟩
theorem im_yX8_gust : Cond.instanceMethod yX8_gust ∈ lw_all := (lw_mem 576 (by decide +kernel) rfl)
theorem se_yX8_gust : Cond.selects yX8_gust.cls yX8_gust yX8_gust ∈ lw_all := (lw_mem 577 (by decide +kernel) rfl)
theorem cw_L_69 : CWm "BroadseamLoftLaw" 69 yX8_pulled cX8_pulled 3 (Option.some Jvm.ClassFile.FieldType.long) 1 := ⟨(lw_mem 596 (by decide +kernel) rfl), (lw_mem 33 (by decide +kernel) rfl), (lw_mem 599 (by decide +kernel) rfl), by decide +kernel, by decide +kernel, by decide +kernel⟩
theorem im_yX8_pulled : Cond.instanceMethod yX8_pulled ∈ lw_all := (lw_mem 597 (by decide +kernel) rfl)
theorem se_yX8_pulled : Cond.selects yX8_pulled.cls yX8_pulled yX8_pulled ∈ lw_all := (lw_mem 598 (by decide +kernel) rfl)
theorem cw_L_72 : CWm "BroadseamLoftLaw" 72 yX8_trim cX8_trim 4 (Option.some Jvm.ClassFile.FieldType.float) 3 := ⟨(lw_mem 604 (by decide +kernel) rfl), (lw_mem 33 (by decide +kernel) rfl), (lw_mem 607 (by decide +kernel) rfl), by decide +kernel, by decide +kernel, by decide +kernel⟩
theorem im_yX8_trim : Cond.instanceMethod yX8_trim ∈ lw_all := (lw_mem 605 (by decide +kernel) rfl)
theorem se_yX8_trim : Cond.selects yX8_trim.cls yX8_trim yX8_trim ∈ lw_all := (lw_mem 606 (by decide +kernel) rfl)
theorem cw_L_76 : CWm "BroadseamLoftLaw" 76 yX8_power cX8_power 2 (Option.some Jvm.ClassFile.FieldType.float) 1 := ⟨(lw_mem 620 (by decide +kernel) rfl), (lw_mem 33 (by decide +kernel) rfl), (lw_mem 623 (by decide +kernel) rfl), by decide +kernel, by decide +kernel, by decide +kernel⟩
theorem im_yX8_power : Cond.instanceMethod yX8_power ∈ lw_all := (lw_mem 621 (by decide +kernel) rfl)
theorem se_yX8_power : Cond.selects yX8_power.cls yX8_power yX8_power ∈ lw_all := (lw_mem 622 (by decide +kernel) rfl)
theorem cw_L_80 : CWm "BroadseamLoftLaw" 80 yX8_halyard cX8_halyard 4 (Option.some Jvm.ClassFile.FieldType.int) 2 := ⟨(lw_mem 634 (by decide +kernel) rfl), (lw_mem 33 (by decide +kernel) rfl), (lw_mem 637 (by decide +kernel) rfl), by decide +kernel, by decide +kernel, by decide +kernel⟩
theorem im_yX8_halyard : Cond.instanceMethod yX8_halyard ∈ lw_all := (lw_mem 635 (by decide +kernel) rfl)
theorem se_yX8_halyard : Cond.selects yX8_halyard.cls yX8_halyard yX8_halyard ∈ lw_all := (lw_mem 636 (by decide +kernel) rfl)
theorem cw_L_83 : CWm "BroadseamLoftLaw" 83 yX8_pass cX8_pass 2 (Option.some Jvm.ClassFile.FieldType.int) 1 := ⟨(lw_mem 643 (by decide +kernel) rfl), (lw_mem 33 (by decide +kernel) rfl), (lw_mem 646 (by decide +kernel) rfl), by decide +kernel, by decide +kernel, by decide +kernel⟩
theorem im_yX8_pass : Cond.instanceMethod yX8_pass ∈ lw_all := (lw_mem 644 (by decide +kernel) rfl)
theorem se_yX8_pass : Cond.selects yX8_pass.cls yX8_pass yX8_pass ∈ lw_all := (lw_mem 645 (by decide +kernel) rfl)
theorem cw_L_86 : CWm "BroadseamLoftLaw" 86 yX8_canopy cX8_canopy 3 (Option.some Jvm.ClassFile.FieldType.int) 1 := ⟨(lw_mem 654 (by decide +kernel) rfl), (lw_mem 33 (by decide +kernel) rfl), (lw_mem 657 (by decide +kernel) rfl), by decide +kernel, by decide +kernel, by decide +kernel⟩
theorem im_yX8_canopy : Cond.instanceMethod yX8_canopy ∈ lw_all := (lw_mem 655 (by decide +kernel) rfl)
theorem se_yX8_canopy : Cond.selects yX8_canopy.cls yX8_canopy yX8_canopy ∈ lw_all := (lw_mem 656 (by decide +kernel) rfl)
theorem cw_L_89 : CWm "BroadseamLoftLaw" 89 yX8_part cX8_part 4 (Option.some Jvm.ClassFile.FieldType.int) 2 := ⟨(lw_mem 708 (by decide +kernel) rfl), (lw_mem 33 (by decide +kernel) rfl), (lw_mem 711 (by decide +kernel) rfl), by decide +kernel, by decide +kernel, by decide +kernel⟩
theorem im_yX8_part : Cond.instanceMethod yX8_part ∈ lw_all := (lw_mem 709 (by decide +kernel) rfl)
theorem se_yX8_part : Cond.selects yX8_part.cls yX8_part yX8_part ∈ lw_all := (lw_mem 710 (by decide +kernel) rfl)
theorem cw_L_92 : CWm "BroadseamLoftLaw" 92 yX8_opens cX8_opens 3 (Option.some Jvm.ClassFile.FieldType.int) 1 := ⟨(lw_mem 727 (by decide +kernel) rfl), (lw_mem 33 (by decide +kernel) rfl), (lw_mem 730 (by decide +kernel) rfl), by decide +kernel, by decide +kernel, by decide +kernel⟩
theorem im_yX8_opens : Cond.instanceMethod yX8_opens ∈ lw_all := (lw_mem 728 (by decide +kernel) rfl)
theorem se_yX8_opens : Cond.selects yX8_opens.cls yX8_opens yX8_opens ∈ lw_all := (lw_mem 729 (by decide +kernel) rfl)
theorem cw_L_95 : CWm "BroadseamLoftLaw" 95 yX8_seal cX8_seal 4 (Option.some Jvm.ClassFile.FieldType.int) 2 := ⟨(lw_mem 742 (by decide +kernel) rfl), (lw_mem 33 (by decide +kernel) rfl), (lw_mem 745 (by decide +kernel) rfl), by decide +kernel, by decide +kernel, by decide +kernel⟩
theorem im_yX8_seal : Cond.instanceMethod yX8_seal ∈ lw_all := (lw_mem 743 (by decide +kernel) rfl)
theorem se_yX8_seal : Cond.selects yX8_seal.cls yX8_seal yX8_seal ∈ lw_all := (lw_mem 744 (by decide +kernel) rfl)
theorem cw_L_98 : CWm "BroadseamLoftLaw" 98 yX8_use cX8_use 4 (Option.some Jvm.ClassFile.FieldType.int) 1 := ⟨(lw_mem 762 (by decide +kernel) rfl), (lw_mem 33 (by decide +kernel) rfl), (lw_mem 765 (by decide +kernel) rfl), by decide +kernel, by decide +kernel, by decide +kernel⟩
theorem im_yX8_use : Cond.instanceMethod yX8_use ∈ lw_all := (lw_mem 763 (by decide +kernel) rfl)
theorem se_yX8_use : Cond.selects yX8_use.cls yX8_use yX8_use ∈ lw_all := (lw_mem 764 (by decide +kernel) rfl)
theorem cw_L_101 : CWm "BroadseamLoftLaw" 101 yX8_wet cX8_wet 4 (Option.some Jvm.ClassFile.FieldType.int) 2 := ⟨(lw_mem 774 (by decide +kernel) rfl), (lw_mem 33 (by decide +kernel) rfl), (lw_mem 777 (by decide +kernel) rfl), by decide +kernel, by decide +kernel, by decide +kernel⟩
theorem im_yX8_wet : Cond.instanceMethod yX8_wet ∈ lw_all := (lw_mem 775 (by decide +kernel) rfl)
theorem se_yX8_wet : Cond.selects yX8_wet.cls yX8_wet yX8_wet ∈ lw_all := (lw_mem 776 (by decide +kernel) rfl)
theorem cw_L_105 : CWm "BroadseamLoftLaw" 105 yX8_find cX8_find 4 (Option.some Jvm.ClassFile.FieldType.int) 2 := ⟨(lw_mem 782 (by decide +kernel) rfl), (lw_mem 33 (by decide +kernel) rfl), (lw_mem 785 (by decide +kernel) rfl), by decide +kernel, by decide +kernel, by decide +kernel⟩
theorem im_yX8_find : Cond.instanceMethod yX8_find ∈ lw_all := (lw_mem 783 (by decide +kernel) rfl)
theorem se_yX8_find : Cond.selects yX8_find.cls yX8_find yX8_find ∈ lw_all := (lw_mem 784 (by decide +kernel) rfl)
theorem cw_L_108 : CWm "BroadseamLoftLaw" 108 yX8_ofCanopy cX8_ofCanopy 4 (Option.some Jvm.ClassFile.FieldType.int) 2 := ⟨(lw_mem 794 (by decide +kernel) rfl), (lw_mem 33 (by decide +kernel) rfl), (lw_mem 797 (by decide +kernel) rfl), by decide +kernel, by decide +kernel, by decide +kernel⟩
theorem im_yX8_ofCanopy : Cond.instanceMethod yX8_ofCanopy ∈ lw_all := (lw_mem 795 (by decide +kernel) rfl)
theorem se_yX8_ofCanopy : Cond.selects yX8_ofCanopy.cls yX8_ofCanopy yX8_ofCanopy ∈ lw_all := (lw_mem 796 (by decide +kernel) rfl)
theorem cw_L_111 : CWm "BroadseamLoftLaw" 111 yX8_lifeAnew cX8_lifeAnew 3 (Option.some Jvm.ClassFile.FieldType.int) 2 := ⟨(lw_mem 807 (by decide +kernel) rfl), (lw_mem 33 (by decide +kernel) rfl), (lw_mem 810 (by decide +kernel) rfl), by decide +kernel, by decide +kernel, by decide +kernel⟩
theorem im_yX8_lifeAnew : Cond.instanceMethod yX8_lifeAnew ∈ lw_all := (lw_mem 808 (by decide +kernel) rfl)
theorem se_yX8_lifeAnew : Cond.selects yX8_lifeAnew.cls yX8_lifeAnew yX8_lifeAnew ∈ lw_all := (lw_mem 809 (by decide +kernel) rfl)
theorem nw_L_8 : NW "BroadseamLoftLaw" 8 8 := ⟨RX8, TX8, 14, tyX8, rfl, rfl, inA8, tyX8_ok, by decide +kernel, (lw_mem 51 (by decide +kernel) rfl), (lw_mem 52 (by decide +kernel) rfl), (lw_mem 33 (by decide +kernel) rfl)⟩
theorem cw_L_114 : CWm "BroadseamLoftLaw" 114 yX8_init cX8_init 1 (Option.none : Option Jvm.ClassFile.FieldType) 0 := ⟨(lw_mem 53 (by decide +kernel) rfl), (lw_mem 33 (by decide +kernel) rfl), (lw_mem 55 (by decide +kernel) rfl), by decide +kernel, by decide +kernel, by decide +kernel⟩
theorem im_yX8_init : Cond.instanceMethod yX8_init ∈ lw_all := (lw_mem 54 (by decide +kernel) rfl)
theorem nw_L_115 : NW "BroadseamLoftLaw" 115 9 := ⟨RX9, TX9, 39, tyX9, rfl, rfl, inA9, tyX9_ok, by decide +kernel, (lw_mem 815 (by decide +kernel) rfl), (lw_mem 816 (by decide +kernel) rfl), (lw_mem 37 (by decide +kernel) rfl)⟩
theorem cw_L_117 : CWm "BroadseamLoftLaw" 117 yX9_init cX9_init 4 (Option.none : Option Jvm.ClassFile.FieldType) 0 := ⟨(lw_mem 817 (by decide +kernel) rfl), (lw_mem 37 (by decide +kernel) rfl), (lw_mem 819 (by decide +kernel) rfl), by decide +kernel, by decide +kernel, by decide +kernel⟩
theorem im_yX9_init : Cond.instanceMethod yX9_init ∈ lw_all := (lw_mem 818 (by decide +kernel) rfl)
theorem cw_L_123 : CWm "BroadseamLoftLaw" 123 yX9_lot cX9_lot 5 (Option.some Jvm.ClassFile.FieldType.int) 3 := ⟨(lw_mem 944 (by decide +kernel) rfl), (lw_mem 37 (by decide +kernel) rfl), (lw_mem 947 (by decide +kernel) rfl), by decide +kernel, by decide +kernel, by decide +kernel⟩
theorem im_yX9_lot : Cond.instanceMethod yX9_lot ∈ lw_all := (lw_mem 945 (by decide +kernel) rfl)
theorem se_yX9_lot : Cond.selects yX9_lot.cls yX9_lot yX9_lot ∈ lw_all := (lw_mem 946 (by decide +kernel) rfl)
theorem cw_L_124 : CWm "BroadseamLoftLaw" 124 yX9_thrown cX9_thrown 1 (Option.some Jvm.ClassFile.FieldType.int) 0 := ⟨(lw_mem 940 (by decide +kernel) rfl), (lw_mem 37 (by decide +kernel) rfl), (lw_mem 943 (by decide +kernel) rfl), by decide +kernel, by decide +kernel, by decide +kernel⟩
theorem im_yX9_thrown : Cond.instanceMethod yX9_thrown ∈ lw_all := (lw_mem 941 (by decide +kernel) rfl)
theorem se_yX9_thrown : Cond.selects yX9_thrown.cls yX9_thrown yX9_thrown ∈ lw_all := (lw_mem 942 (by decide +kernel) rfl)
theorem cw_L_131 : CWm "BroadseamLoftLaw" 131 yX9_sun cX9_sun 3 (Option.some Jvm.ClassFile.FieldType.int) 2 := ⟨(lw_mem 956 (by decide +kernel) rfl), (lw_mem 37 (by decide +kernel) rfl), (lw_mem 959 (by decide +kernel) rfl), by decide +kernel, by decide +kernel, by decide +kernel⟩
theorem im_yX9_sun : Cond.instanceMethod yX9_sun ∈ lw_all := (lw_mem 957 (by decide +kernel) rfl)
theorem se_yX9_sun : Cond.selects yX9_sun.cls yX9_sun yX9_sun ∈ lw_all := (lw_mem 958 (by decide +kernel) rfl)
theorem cw_L_135 : CWm "BroadseamLoftLaw" 135 yX9_panel cX9_panel 7 (Option.some Jvm.ClassFile.FieldType.int) 4 := ⟨(lw_mem 965 (by decide +kernel) rfl), (lw_mem 37 (by decide +kernel) rfl), (lw_mem 968 (by decide +kernel) rfl), by decide +kernel, by decide +kernel, by decide +kernel⟩
theorem im_yX9_panel : Cond.instanceMethod yX9_panel ∈ lw_all := (lw_mem 966 (by decide +kernel) rfl)
theorem se_yX9_panel : Cond.selects yX9_panel.cls yX9_panel yX9_panel ∈ lw_all := (lw_mem 967 (by decide +kernel) rfl)
theorem cw_L_139 : CWm "BroadseamLoftLaw" 139 yX9_strength cX9_strength 2 (Option.some Jvm.ClassFile.FieldType.long) 1 := ⟨(lw_mem 969 (by decide +kernel) rfl), (lw_mem 37 (by decide +kernel) rfl), (lw_mem 972 (by decide +kernel) rfl), by decide +kernel, by decide +kernel, by decide +kernel⟩
theorem im_yX9_strength : Cond.instanceMethod yX9_strength ∈ lw_all := (lw_mem 970 (by decide +kernel) rfl)
theorem se_yX9_strength : Cond.selects yX9_strength.cls yX9_strength yX9_strength ∈ lw_all := (lw_mem 971 (by decide +kernel) rfl)
theorem cw_L_142 : CWm "BroadseamLoftLaw" 142 yX9_roll cX9_roll 7 (Option.some Jvm.ClassFile.FieldType.int) 1 := ⟨(lw_mem 982 (by decide +kernel) rfl), (lw_mem 37 (by decide +kernel) rfl), (lw_mem 985 (by decide +kernel) rfl), by decide +kernel, by decide +kernel, by decide +kernel⟩
theorem im_yX9_roll : Cond.instanceMethod yX9_roll ∈ lw_all := (lw_mem 983 (by decide +kernel) rfl)
theorem se_yX9_roll : Cond.selects yX9_roll.cls yX9_roll yX9_roll ∈ lw_all := (lw_mem 984 (by decide +kernel) rfl)
theorem cw_L_145 : CWm "BroadseamLoftLaw" 145 yX9_seam cX9_seam 5 (Option.some Jvm.ClassFile.FieldType.int) 3 := ⟨(lw_mem 994 (by decide +kernel) rfl), (lw_mem 37 (by decide +kernel) rfl), (lw_mem 997 (by decide +kernel) rfl), by decide +kernel, by decide +kernel, by decide +kernel⟩
theorem im_yX9_seam : Cond.instanceMethod yX9_seam ∈ lw_all := (lw_mem 995 (by decide +kernel) rfl)
theorem se_yX9_seam : Cond.selects yX9_seam.cls yX9_seam yX9_seam ∈ lw_all := (lw_mem 996 (by decide +kernel) rfl)
theorem cw_L_148 : CWm "BroadseamLoftLaw" 148 yX9_rip cX9_rip 3 (Option.some Jvm.ClassFile.FieldType.long) 1 := ⟨(lw_mem 998 (by decide +kernel) rfl), (lw_mem 37 (by decide +kernel) rfl), (lw_mem 1001 (by decide +kernel) rfl), by decide +kernel, by decide +kernel, by decide +kernel⟩
theorem im_yX9_rip : Cond.instanceMethod yX9_rip ∈ lw_all := (lw_mem 999 (by decide +kernel) rfl)
theorem se_yX9_rip : Cond.selects yX9_rip.cls yX9_rip yX9_rip ∈ lw_all := (lw_mem 1000 (by decide +kernel) rfl)
theorem cw_L_151 : CWm "BroadseamLoftLaw" 151 yX9_bears cX9_bears 3 (Option.some Jvm.ClassFile.FieldType.long) 2 := ⟨(lw_mem 1010 (by decide +kernel) rfl), (lw_mem 37 (by decide +kernel) rfl), (lw_mem 1013 (by decide +kernel) rfl), by decide +kernel, by decide +kernel, by decide +kernel⟩
theorem im_yX9_bears : Cond.instanceMethod yX9_bears ∈ lw_all := (lw_mem 1011 (by decide +kernel) rfl)
theorem se_yX9_bears : Cond.selects yX9_bears.cls yX9_bears yX9_bears ∈ lw_all := (lw_mem 1012 (by decide +kernel) rfl)
theorem cw_L_154 : CWm "BroadseamLoftLaw" 154 yX9_bearsAnew cX9_bearsAnew 3 (Option.some Jvm.ClassFile.FieldType.long) 2 := ⟨(lw_mem 1022 (by decide +kernel) rfl), (lw_mem 37 (by decide +kernel) rfl), (lw_mem 1025 (by decide +kernel) rfl), by decide +kernel, by decide +kernel, by decide +kernel⟩
theorem im_yX9_bearsAnew : Cond.instanceMethod yX9_bearsAnew ∈ lw_all := (lw_mem 1023 (by decide +kernel) rfl)
theorem se_yX9_bearsAnew : Cond.selects yX9_bearsAnew.cls yX9_bearsAnew yX9_bearsAnew ∈ lw_all := (lw_mem 1024 (by decide +kernel) rfl)
theorem cw_L_158 : CWm "BroadseamLoftLaw" 158 yX9_knot cX9_knot 5 (Option.some Jvm.ClassFile.FieldType.int) 3 := ⟨(lw_mem 1026 (by decide +kernel) rfl), (lw_mem 37 (by decide +kernel) rfl), (lw_mem 1029 (by decide +kernel) rfl), by decide +kernel, by decide +kernel, by decide +kernel⟩
theorem im_yX9_knot : Cond.instanceMethod yX9_knot ∈ lw_all := (lw_mem 1027 (by decide +kernel) rfl)
theorem se_yX9_knot : Cond.selects yX9_knot.cls yX9_knot yX9_knot ∈ lw_all := (lw_mem 1028 (by decide +kernel) rfl)
theorem cw_L_161 : CWm "BroadseamLoftLaw" 161 yX9_load cX9_load 3 (Option.some Jvm.ClassFile.FieldType.int) 1 := ⟨(lw_mem 1033 (by decide +kernel) rfl), (lw_mem 37 (by decide +kernel) rfl), (lw_mem 1036 (by decide +kernel) rfl), by decide +kernel, by decide +kernel, by decide +kernel⟩
theorem im_yX9_load : Cond.instanceMethod yX9_load ∈ lw_all := (lw_mem 1034 (by decide +kernel) rfl)
theorem se_yX9_load : Cond.selects yX9_load.cls yX9_load yX9_load ∈ lw_all := (lw_mem 1035 (by decide +kernel) rfl)
theorem cw_L_164 : CWm "BroadseamLoftLaw" 164 yX9_rest cX9_rest 4 (Option.some Jvm.ClassFile.FieldType.int) 1 := ⟨(lw_mem 1037 (by decide +kernel) rfl), (lw_mem 37 (by decide +kernel) rfl), (lw_mem 1040 (by decide +kernel) rfl), by decide +kernel, by decide +kernel, by decide +kernel⟩
theorem im_yX9_rest : Cond.instanceMethod yX9_rest ∈ lw_all := (lw_mem 1038 (by decide +kernel) rfl)
theorem se_yX9_rest : Cond.selects yX9_rest.cls yX9_rest yX9_rest ∈ lw_all := (lw_mem 1039 (by decide +kernel) rfl)
theorem cw_L_167 : CWm "BroadseamLoftLaw" 167 yX9_height cX9_height 2 (Option.some Jvm.ClassFile.FieldType.int) 1 := ⟨(lw_mem 1052 (by decide +kernel) rfl), (lw_mem 37 (by decide +kernel) rfl), (lw_mem 1055 (by decide +kernel) rfl), by decide +kernel, by decide +kernel, by decide +kernel⟩
theorem im_yX9_height : Cond.instanceMethod yX9_height ∈ lw_all := (lw_mem 1053 (by decide +kernel) rfl)
theorem se_yX9_height : Cond.selects yX9_height.cls yX9_height yX9_height ∈ lw_all := (lw_mem 1054 (by decide +kernel) rfl)
theorem k_L_168 : Cond.constantLong "BroadseamLoftLaw" 168 (4294967295) ∈ lw_all := (lw_mem 1167 (by decide +kernel) rfl)
theorem cw_L_173 : CWm "BroadseamLoftLaw" 173 yX9_peg cX9_peg 5 (Option.some Jvm.ClassFile.FieldType.int) 2 := ⟨(lw_mem 1056 (by decide +kernel) rfl), (lw_mem 37 (by decide +kernel) rfl), (lw_mem 1059 (by decide +kernel) rfl), by decide +kernel, by decide +kernel, by decide +kernel⟩
theorem im_yX9_peg : Cond.instanceMethod yX9_peg ∈ lw_all := (lw_mem 1057 (by decide +kernel) rfl)
theorem se_yX9_peg : Cond.selects yX9_peg.cls yX9_peg yX9_peg ∈ lw_all := (lw_mem 1058 (by decide +kernel) rfl)
theorem cw_L_177 : CWm "BroadseamLoftLaw" 177 yX9_gust cX9_gust 5 (Option.some Jvm.ClassFile.FieldType.int) 1 := ⟨(lw_mem 1061 (by decide +kernel) rfl), (lw_mem 37 (by decide +kernel) rfl), (lw_mem 1064 (by decide +kernel) rfl), by decide +kernel, by decide +kernel, by decide +kernel⟩
theorem im_yX9_gust : Cond.instanceMethod yX9_gust ∈ lw_all := (lw_mem 1062 (by decide +kernel) rfl)
theorem se_yX9_gust : Cond.selects yX9_gust.cls yX9_gust yX9_gust ∈ lw_all := (lw_mem 1063 (by decide +kernel) rfl)
theorem cw_L_180 : CWm "BroadseamLoftLaw" 180 yX9_pulled cX9_pulled 2 (Option.some Jvm.ClassFile.FieldType.long) 1 := ⟨(lw_mem 1070 (by decide +kernel) rfl), (lw_mem 37 (by decide +kernel) rfl), (lw_mem 1073 (by decide +kernel) rfl), by decide +kernel, by decide +kernel, by decide +kernel⟩
theorem im_yX9_pulled : Cond.instanceMethod yX9_pulled ∈ lw_all := (lw_mem 1071 (by decide +kernel) rfl)
theorem se_yX9_pulled : Cond.selects yX9_pulled.cls yX9_pulled yX9_pulled ∈ lw_all := (lw_mem 1072 (by decide +kernel) rfl)
theorem cw_L_181 : CWm "BroadseamLoftLaw" 181 yX8_pegs cX8_pegs 4 (Option.some Jvm.ClassFile.FieldType.int) 0 := ⟨(lw_mem 168 (by decide +kernel) rfl), (lw_mem 33 (by decide +kernel) rfl), (lw_mem 171 (by decide +kernel) rfl), by decide +kernel, by decide +kernel, by decide +kernel⟩
theorem im_yX8_pegs : Cond.instanceMethod yX8_pegs ∈ lw_all := (lw_mem 169 (by decide +kernel) rfl)
theorem se_yX8_pegs : Cond.selects yX8_pegs.cls yX8_pegs yX8_pegs ∈ lw_all := (lw_mem 170 (by decide +kernel) rfl)
theorem cw_L_184 : CWm "BroadseamLoftLaw" 184 yX9_pegs cX9_pegs 3 (Option.some Jvm.ClassFile.FieldType.int) 0 := ⟨(lw_mem 1074 (by decide +kernel) rfl), (lw_mem 37 (by decide +kernel) rfl), (lw_mem 1077 (by decide +kernel) rfl), by decide +kernel, by decide +kernel, by decide +kernel⟩
theorem im_yX9_pegs : Cond.instanceMethod yX9_pegs ∈ lw_all := (lw_mem 1075 (by decide +kernel) rfl)
theorem se_yX9_pegs : Cond.selects yX9_pegs.cls yX9_pegs yX9_pegs ∈ lw_all := (lw_mem 1076 (by decide +kernel) rfl)
theorem cw_L_188 : CWm "BroadseamLoftLaw" 188 yX9_trim cX9_trim 5 (Option.some Jvm.ClassFile.FieldType.float) 3 := ⟨(lw_mem 1078 (by decide +kernel) rfl), (lw_mem 37 (by decide +kernel) rfl), (lw_mem 1081 (by decide +kernel) rfl), by decide +kernel, by decide +kernel, by decide +kernel⟩
theorem im_yX9_trim : Cond.instanceMethod yX9_trim ∈ lw_all := (lw_mem 1079 (by decide +kernel) rfl)
theorem se_yX9_trim : Cond.selects yX9_trim.cls yX9_trim yX9_trim ∈ lw_all := (lw_mem 1080 (by decide +kernel) rfl)
theorem cw_L_192 : CWm "BroadseamLoftLaw" 192 yX9_power cX9_power 2 (Option.some Jvm.ClassFile.FieldType.float) 1 := ⟨(lw_mem 1089 (by decide +kernel) rfl), (lw_mem 37 (by decide +kernel) rfl), (lw_mem 1092 (by decide +kernel) rfl), by decide +kernel, by decide +kernel, by decide +kernel⟩
theorem im_yX9_power : Cond.instanceMethod yX9_power ∈ lw_all := (lw_mem 1090 (by decide +kernel) rfl)
theorem se_yX9_power : Cond.selects yX9_power.cls yX9_power yX9_power ∈ lw_all := (lw_mem 1091 (by decide +kernel) rfl)
theorem cw_L_195 : CWm "BroadseamLoftLaw" 195 yX9_halyard cX9_halyard 5 (Option.some Jvm.ClassFile.FieldType.int) 2 := ⟨(lw_mem 1098 (by decide +kernel) rfl), (lw_mem 37 (by decide +kernel) rfl), (lw_mem 1101 (by decide +kernel) rfl), by decide +kernel, by decide +kernel, by decide +kernel⟩
theorem im_yX9_halyard : Cond.instanceMethod yX9_halyard ∈ lw_all := (lw_mem 1099 (by decide +kernel) rfl)
theorem se_yX9_halyard : Cond.selects yX9_halyard.cls yX9_halyard yX9_halyard ∈ lw_all := (lw_mem 1100 (by decide +kernel) rfl)
theorem cw_L_198 : CWm "BroadseamLoftLaw" 198 yX9_pass cX9_pass 3 (Option.some Jvm.ClassFile.FieldType.int) 1 := ⟨(lw_mem 1103 (by decide +kernel) rfl), (lw_mem 37 (by decide +kernel) rfl), (lw_mem 1106 (by decide +kernel) rfl), by decide +kernel, by decide +kernel, by decide +kernel⟩
theorem im_yX9_pass : Cond.instanceMethod yX9_pass ∈ lw_all := (lw_mem 1104 (by decide +kernel) rfl)
theorem se_yX9_pass : Cond.selects yX9_pass.cls yX9_pass yX9_pass ∈ lw_all := (lw_mem 1105 (by decide +kernel) rfl)
theorem cw_L_201 : CWm "BroadseamLoftLaw" 201 yX9_canopy cX9_canopy 2 (Option.some Jvm.ClassFile.FieldType.int) 1 := ⟨(lw_mem 1107 (by decide +kernel) rfl), (lw_mem 37 (by decide +kernel) rfl), (lw_mem 1110 (by decide +kernel) rfl), by decide +kernel, by decide +kernel, by decide +kernel⟩
theorem im_yX9_canopy : Cond.instanceMethod yX9_canopy ∈ lw_all := (lw_mem 1108 (by decide +kernel) rfl)
theorem se_yX9_canopy : Cond.selects yX9_canopy.cls yX9_canopy yX9_canopy ∈ lw_all := (lw_mem 1109 (by decide +kernel) rfl)
theorem cw_L_204 : CWm "BroadseamLoftLaw" 204 yX9_part cX9_part 4 (Option.some Jvm.ClassFile.FieldType.int) 2 := ⟨(lw_mem 1111 (by decide +kernel) rfl), (lw_mem 37 (by decide +kernel) rfl), (lw_mem 1114 (by decide +kernel) rfl), by decide +kernel, by decide +kernel, by decide +kernel⟩
theorem im_yX9_part : Cond.instanceMethod yX9_part ∈ lw_all := (lw_mem 1112 (by decide +kernel) rfl)
theorem se_yX9_part : Cond.selects yX9_part.cls yX9_part yX9_part ∈ lw_all := (lw_mem 1113 (by decide +kernel) rfl)
theorem cw_L_207 : CWm "BroadseamLoftLaw" 207 yX9_opens cX9_opens 2 (Option.some Jvm.ClassFile.FieldType.int) 1 := ⟨(lw_mem 1123 (by decide +kernel) rfl), (lw_mem 37 (by decide +kernel) rfl), (lw_mem 1126 (by decide +kernel) rfl), by decide +kernel, by decide +kernel, by decide +kernel⟩
theorem im_yX9_opens : Cond.instanceMethod yX9_opens ∈ lw_all := (lw_mem 1124 (by decide +kernel) rfl)
theorem se_yX9_opens : Cond.selects yX9_opens.cls yX9_opens yX9_opens ∈ lw_all := (lw_mem 1125 (by decide +kernel) rfl)
theorem cw_L_210 : CWm "BroadseamLoftLaw" 210 yX9_seal cX9_seal 4 (Option.some Jvm.ClassFile.FieldType.int) 2 := ⟨(lw_mem 1131 (by decide +kernel) rfl), (lw_mem 37 (by decide +kernel) rfl), (lw_mem 1134 (by decide +kernel) rfl), by decide +kernel, by decide +kernel, by decide +kernel⟩
theorem im_yX9_seal : Cond.instanceMethod yX9_seal ∈ lw_all := (lw_mem 1132 (by decide +kernel) rfl)
theorem se_yX9_seal : Cond.selects yX9_seal.cls yX9_seal yX9_seal ∈ lw_all := (lw_mem 1133 (by decide +kernel) rfl)
theorem cw_L_213 : CWm "BroadseamLoftLaw" 213 yX9_use cX9_use 4 (Option.some Jvm.ClassFile.FieldType.int) 1 := ⟨(lw_mem 1139 (by decide +kernel) rfl), (lw_mem 37 (by decide +kernel) rfl), (lw_mem 1142 (by decide +kernel) rfl), by decide +kernel, by decide +kernel, by decide +kernel⟩
theorem im_yX9_use : Cond.instanceMethod yX9_use ∈ lw_all := (lw_mem 1140 (by decide +kernel) rfl)
theorem se_yX9_use : Cond.selects yX9_use.cls yX9_use yX9_use ∈ lw_all := (lw_mem 1141 (by decide +kernel) rfl)
theorem cw_L_217 : CWm "BroadseamLoftLaw" 217 yX9_wet cX9_wet 4 (Option.some Jvm.ClassFile.FieldType.int) 2 := ⟨(lw_mem 1147 (by decide +kernel) rfl), (lw_mem 37 (by decide +kernel) rfl), (lw_mem 1150 (by decide +kernel) rfl), by decide +kernel, by decide +kernel, by decide +kernel⟩
theorem im_yX9_wet : Cond.instanceMethod yX9_wet ∈ lw_all := (lw_mem 1148 (by decide +kernel) rfl)
theorem se_yX9_wet : Cond.selects yX9_wet.cls yX9_wet yX9_wet ∈ lw_all := (lw_mem 1149 (by decide +kernel) rfl)
theorem cw_L_220 : CWm "BroadseamLoftLaw" 220 yX9_find cX9_find 5 (Option.some Jvm.ClassFile.FieldType.int) 2 := ⟨(lw_mem 1151 (by decide +kernel) rfl), (lw_mem 37 (by decide +kernel) rfl), (lw_mem 1154 (by decide +kernel) rfl), by decide +kernel, by decide +kernel, by decide +kernel⟩
theorem im_yX9_find : Cond.instanceMethod yX9_find ∈ lw_all := (lw_mem 1152 (by decide +kernel) rfl)
theorem se_yX9_find : Cond.selects yX9_find.cls yX9_find yX9_find ∈ lw_all := (lw_mem 1153 (by decide +kernel) rfl)
theorem cw_L_223 : CWm "BroadseamLoftLaw" 223 yX9_ofCanopy cX9_ofCanopy 3 (Option.some Jvm.ClassFile.FieldType.int) 2 := ⟨(lw_mem 1155 (by decide +kernel) rfl), (lw_mem 37 (by decide +kernel) rfl), (lw_mem 1158 (by decide +kernel) rfl), by decide +kernel, by decide +kernel, by decide +kernel⟩
theorem im_yX9_ofCanopy : Cond.instanceMethod yX9_ofCanopy ∈ lw_all := (lw_mem 1156 (by decide +kernel) rfl)
theorem se_yX9_ofCanopy : Cond.selects yX9_ofCanopy.cls yX9_ofCanopy yX9_ofCanopy ∈ lw_all := (lw_mem 1157 (by decide +kernel) rfl)
theorem cw_L_226 : CWm "BroadseamLoftLaw" 226 yX9_lifeAnew cX9_lifeAnew 3 (Option.some Jvm.ClassFile.FieldType.int) 2 := ⟨(lw_mem 1163 (by decide +kernel) rfl), (lw_mem 37 (by decide +kernel) rfl), (lw_mem 1166 (by decide +kernel) rfl), by decide +kernel, by decide +kernel, by decide +kernel⟩
theorem im_yX9_lifeAnew : Cond.instanceMethod yX9_lifeAnew ∈ lw_all := (lw_mem 1164 (by decide +kernel) rfl)
theorem se_yX9_lifeAnew : Cond.selects yX9_lifeAnew.cls yX9_lifeAnew yX9_lifeAnew ∈ lw_all := (lw_mem 1165 (by decide +kernel) rfl)
theorem mc_imax : Cond.static Lib.Math.max.name ∈ lw_all ∧ Cond.initialized "java/lang/Math" ∈ lw_all ∧ Cond.code Lib.Math.max.name Lib.Math.max.code 2 (some .int) ∈ lw_all := ⟨(lw_mem 372 (by decide +kernel) rfl), (lw_mem 45 (by decide +kernel) rfl), (lw_mem 373 (by decide +kernel) rfl)⟩
theorem mc_imin : Cond.static Lib.Math.min.name ∈ lw_all ∧ Cond.initialized "java/lang/Math" ∈ lw_all ∧ Cond.code Lib.Math.min.name Lib.Math.min.code 2 (some .int) ∈ lw_all := ⟨(lw_mem 332 (by decide +kernel) rfl), (lw_mem 45 (by decide +kernel) rfl), (lw_mem 333 (by decide +kernel) rfl)⟩
theorem mc_lmax : Cond.static Lib.MathLoose.max_long.x ∈ lw_all ∧ Cond.initialized "java/lang/Math" ∈ lw_all ∧ Cond.code Lib.MathLoose.max_long.x Lib.MathLoose.max_long.code 4 (some .long) ∈ lw_all := ⟨(lw_mem 466 (by decide +kernel) rfl), (lw_mem 45 (by decide +kernel) rfl), (lw_mem 467 (by decide +kernel) rfl)⟩
theorem mc_lmin : Cond.static Lib.MathLoose.min_long.x ∈ lw_all ∧ Cond.initialized "java/lang/Math" ∈ lw_all ∧ Cond.code Lib.MathLoose.min_long.x Lib.MathLoose.min_long.code 4 (some .long) ∈ lw_all := ⟨(lw_mem 446 (by decide +kernel) rfl), (lw_mem 45 (by decide +kernel) rfl), (lw_mem 447 (by decide +kernel) rfl)⟩
theorem oi_X8_1 : Cond.methodLink "BroadseamLoft" 1 objectInit ∈ lw_all := (lw_mem 56 (by decide +kernel) rfl)
theorem oi_X3_3 : Cond.methodLink "BroadseamLoft$Net" 3 objectInit ∈ lw_all := (lw_mem 70 (by decide +kernel) rfl)
theorem oi_X6_1 : Cond.methodLink "BroadseamLoft$Sail" 1 objectInit ∈ lw_all := (lw_mem 96 (by decide +kernel) rfl)
theorem oi_X1_3 : Cond.methodLink "BroadseamLoft$Log" 3 objectInit ∈ lw_all := (lw_mem 116 (by decide +kernel) rfl)
theorem oi_X2_3 : Cond.methodLink "BroadseamLoft$Lot" 3 objectInit ∈ lw_all := (lw_mem 272 (by decide +kernel) rfl)
theorem ml_X8_102 : Cond.methodLink "BroadseamLoft" 102 Lib.Math.min.name ∈ lw_all := (lw_mem 331 (by decide +kernel) rfl)
theorem oi_X4_1 : Cond.methodLink "BroadseamLoft$Panel" 1 objectInit ∈ lw_all := (lw_mem 349 (by decide +kernel) rfl)
theorem ml_X2_24 : Cond.methodLink "BroadseamLoft$Lot" 24 Lib.Math.max.name ∈ lw_all := (lw_mem 371 (by decide +kernel) rfl)
theorem oi_X7_3 : Cond.methodLink "BroadseamLoft$Seam" 3 objectInit ∈ lw_all := (lw_mem 419 (by decide +kernel) rfl)
theorem ml_X7_28 : Cond.methodLink "BroadseamLoft$Seam" 28 Lib.MathLoose.min_long.x ∈ lw_all := (lw_mem 445 (by decide +kernel) rfl)
theorem ml_X7_41 : Cond.methodLink "BroadseamLoft$Seam" 41 Lib.MathLoose.max_long.x ∈ lw_all := (lw_mem 465 (by decide +kernel) rfl)
theorem ac_X3_20 : Cond.methodLink "BroadseamLoft$Net" 20 arraycopyName ∈ lw_all ∧ Cond.native arraycopyName ∈ lw_all ∧ Cond.static arraycopyName ∈ lw_all ∧ Cond.initialized "java/lang/System" ∈ lw_all := ⟨(lw_mem 520 (by decide +kernel) rfl), (lw_mem 522 (by decide +kernel) rfl), (lw_mem 521 (by decide +kernel) rfl), (lw_mem 48 (by decide +kernel) rfl)⟩
theorem ml_X3_38 : Cond.methodLink "BroadseamLoft$Net" 38 Lib.Math.max.name ∈ lw_all := (lw_mem 529 (by decide +kernel) rfl)
theorem ml_X3_51 : Cond.methodLink "BroadseamLoft$Net" 51 Lib.Math.min.name ∈ lw_all := (lw_mem 533 (by decide +kernel) rfl)
theorem oi_X5_1 : Cond.methodLink "BroadseamLoft$Peg" 1 objectInit ∈ lw_all := (lw_mem 555 (by decide +kernel) rfl)
theorem oi_X0_3 : Cond.methodLink "BroadseamLoft$Canopy" 3 objectInit ∈ lw_all := (lw_mem 663 (by decide +kernel) rfl)
theorem oi_X9_1 : Cond.methodLink "BroadseamLoftModel" 1 objectInit ∈ lw_all := (lw_mem 820 (by decide +kernel) rfl)
theorem oi_all : Cond.instanceMethod objectInit ∈ lw_all ∧ Cond.code objectInit ⟨#[0xb1]⟩ 1 none ∈ lw_all := ⟨(lw_mem 57 (by decide +kernel) rfl), (lw_mem 58 (by decide +kernel) rfl)⟩
theorem aw_int : Cond.arrayClass .int ∈ lw_all := (lw_mem 87 (by decide +kernel) rfl)
theorem aw_long : Cond.arrayClass .long ∈ lw_all := (lw_mem 939 (by decide +kernel) rfl)
theorem aw_boolean : Cond.arrayClass .boolean ∈ lw_all := (lw_mem 88 (by decide +kernel) rfl)
theorem aw_byte : Cond.arrayClass .byte ∈ lw_all := (lw_mem 124 (by decide +kernel) rfl)
theorem aw_double : Cond.arrayClass .double ∈ lw_all := (lw_mem 1168 (by decide +kernel) rfl)
theorem twg_X8_70 : ∀ w ∈ (vx_atS "BroadseamLoft" 70 "java/lang/IllegalArgumentException" ["java/lang/RuntimeException", "java/lang/Exception"]).filter goodWord, w ∈ lw_all := by
  have h : ∀ w ∈ (vx_atS "BroadseamLoft" 70 "java/lang/IllegalArgumentException" ["java/lang/RuntimeException", "java/lang/Exception"]).filter goodWord, w ∈ lw_tbl := by decide +kernel
  exact fun w hw => List.mem_filter.mpr ⟨h w hw, (List.mem_filter.mp hw).2⟩
theorem twn_X8_70 : ∀ w ∈ (vx_atS "BroadseamLoft" 70 "java/lang/IllegalArgumentException" ["java/lang/RuntimeException", "java/lang/Exception"]).filter (fun w => !goodWord w), w ∈ ngW := by decide +kernel
theorem twg_X8_81 : ∀ w ∈ (vx_atS "BroadseamLoft" 81 "java/lang/IllegalStateException" ["java/lang/RuntimeException", "java/lang/Exception"]).filter goodWord, w ∈ lw_all := by
  have h : ∀ w ∈ (vx_atS "BroadseamLoft" 81 "java/lang/IllegalStateException" ["java/lang/RuntimeException", "java/lang/Exception"]).filter goodWord, w ∈ lw_tbl := by decide +kernel
  exact fun w hw => List.mem_filter.mpr ⟨h w hw, (List.mem_filter.mp hw).2⟩
theorem twn_X8_81 : ∀ w ∈ (vx_atS "BroadseamLoft" 81 "java/lang/IllegalStateException" ["java/lang/RuntimeException", "java/lang/Exception"]).filter (fun w => !goodWord w), w ∈ ngW := by decide +kernel
theorem twg_X8_93 : ∀ w ∈ (vx_atS "BroadseamLoft" 93 "java/lang/IndexOutOfBoundsException" ["java/lang/RuntimeException", "java/lang/Exception"]).filter goodWord, w ∈ lw_all := by
  have h : ∀ w ∈ (vx_atS "BroadseamLoft" 93 "java/lang/IndexOutOfBoundsException" ["java/lang/RuntimeException", "java/lang/Exception"]).filter goodWord, w ∈ lw_tbl := by decide +kernel
  exact fun w hw => List.mem_filter.mpr ⟨h w hw, (List.mem_filter.mp hw).2⟩
theorem twn_X8_93 : ∀ w ∈ (vx_atS "BroadseamLoft" 93 "java/lang/IndexOutOfBoundsException" ["java/lang/RuntimeException", "java/lang/Exception"]).filter (fun w => !goodWord w), w ∈ ngW := by decide +kernel
theorem tw_X8_66_68_70 : TWm "BroadseamLoft" 66 68 70 "java/lang/IllegalArgumentException" "a strength is out of range" := ⟨by decide +kernel, (lw_mem 185 (by decide +kernel) rfl), (lw_mem 41 (by decide +kernel) rfl), List.mem_of_getElem? (i := 0) rfl, twg_X8_70, twn_X8_70, by decide +kernel⟩
theorem tw_X8_77_79_81 : TWm "BroadseamLoft" 77 79 81 "java/lang/IllegalStateException" "there are 6 lots" := ⟨by decide +kernel, (lw_mem 252 (by decide +kernel) rfl), (lw_mem 42 (by decide +kernel) rfl), List.mem_of_getElem? (i := 1) rfl, twg_X8_81, twn_X8_81, by decide +kernel⟩
theorem tw_X8_89_91_93 : TWm "BroadseamLoft" 89 91 93 "java/lang/IndexOutOfBoundsException" "no such lot" := ⟨by decide +kernel, (lw_mem 312 (by decide +kernel) rfl), (lw_mem 44 (by decide +kernel) rfl), List.mem_of_getElem? (i := 2) rfl, twg_X8_93, twn_X8_93, by decide +kernel⟩
theorem tw_X8_66_96_70 : TWm "BroadseamLoft" 66 96 70 "java/lang/IllegalArgumentException" "the hours are out of range" := ⟨by decide +kernel, (lw_mem 185 (by decide +kernel) rfl), (lw_mem 41 (by decide +kernel) rfl), List.mem_of_getElem? (i := 3) rfl, twg_X8_70, twn_X8_70, by decide +kernel⟩
theorem tw_X8_66_112_70 : TWm "BroadseamLoft" 66 112 70 "java/lang/IllegalArgumentException" "the panel does not lie on a roll so" := ⟨by decide +kernel, (lw_mem 185 (by decide +kernel) rfl), (lw_mem 41 (by decide +kernel) rfl), List.mem_of_getElem? (i := 4) rfl, twg_X8_70, twn_X8_70, by decide +kernel⟩
theorem tw_X8_77_117_81 : TWm "BroadseamLoft" 77 117 81 "java/lang/IllegalStateException" "there are 12 panels" := ⟨by decide +kernel, (lw_mem 252 (by decide +kernel) rfl), (lw_mem 42 (by decide +kernel) rfl), List.mem_of_getElem? (i := 5) rfl, twg_X8_81, twn_X8_81, by decide +kernel⟩
theorem tw_X8_89_129_93 : TWm "BroadseamLoft" 89 129 93 "java/lang/IndexOutOfBoundsException" "no such panel" := ⟨by decide +kernel, (lw_mem 312 (by decide +kernel) rfl), (lw_mem 44 (by decide +kernel) rfl), List.mem_of_getElem? (i := 6) rfl, twg_X8_93, twn_X8_93, by decide +kernel⟩
theorem tw_X8_66_139_70 : TWm "BroadseamLoft" 66 139 70 "java/lang/IllegalArgumentException" "both panels are one, or the kind is out of range" := ⟨by decide +kernel, (lw_mem 185 (by decide +kernel) rfl), (lw_mem 41 (by decide +kernel) rfl), List.mem_of_getElem? (i := 7) rfl, twg_X8_70, twn_X8_70, by decide +kernel⟩
theorem tw_X8_77_144_81 : TWm "BroadseamLoft" 77 144 81 "java/lang/IllegalStateException" "there were 30 seams" := ⟨by decide +kernel, (lw_mem 252 (by decide +kernel) rfl), (lw_mem 42 (by decide +kernel) rfl), List.mem_of_getElem? (i := 8) rfl, twg_X8_81, twn_X8_81, by decide +kernel⟩
theorem tw_X8_89_149_93 : TWm "BroadseamLoft" 89 149 93 "java/lang/IndexOutOfBoundsException" "no such seam" := ⟨by decide +kernel, (lw_mem 312 (by decide +kernel) rfl), (lw_mem 44 (by decide +kernel) rfl), List.mem_of_getElem? (i := 9) rfl, twg_X8_93, twn_X8_93, by decide +kernel⟩
theorem tw_X8_89_187_93 : TWm "BroadseamLoft" 89 187 93 "java/lang/IndexOutOfBoundsException" "no such knot" := ⟨by decide +kernel, (lw_mem 312 (by decide +kernel) rfl), (lw_mem 44 (by decide +kernel) rfl), List.mem_of_getElem? (i := 10) rfl, twg_X8_93, twn_X8_93, by decide +kernel⟩
theorem tw_X8_66_191_70 : TWm "BroadseamLoft" 66 191 70 "java/lang/IllegalArgumentException" "the height is out of range" := ⟨by decide +kernel, (lw_mem 185 (by decide +kernel) rfl), (lw_mem 41 (by decide +kernel) rfl), List.mem_of_getElem? (i := 11) rfl, twg_X8_70, twn_X8_70, by decide +kernel⟩
theorem tw_X8_66_203_70 : TWm "BroadseamLoft" 66 203 70 "java/lang/IllegalArgumentException" "the load is out of range" := ⟨by decide +kernel, (lw_mem 185 (by decide +kernel) rfl), (lw_mem 41 (by decide +kernel) rfl), List.mem_of_getElem? (i := 12) rfl, twg_X8_70, twn_X8_70, by decide +kernel⟩
theorem tw_X8_66_210_70 : TWm "BroadseamLoft" 66 210 70 "java/lang/IllegalArgumentException" "the steps are out of range" := ⟨by decide +kernel, (lw_mem 185 (by decide +kernel) rfl), (lw_mem 41 (by decide +kernel) rfl), List.mem_of_getElem? (i := 13) rfl, twg_X8_70, twn_X8_70, by decide +kernel⟩
theorem tw_X8_66_218_70 : TWm "BroadseamLoft" 66 218 70 "java/lang/IllegalArgumentException" "the hold or the stiffness is out of range" := ⟨by decide +kernel, (lw_mem 185 (by decide +kernel) rfl), (lw_mem 41 (by decide +kernel) rfl), List.mem_of_getElem? (i := 14) rfl, twg_X8_70, twn_X8_70, by decide +kernel⟩
theorem tw_X8_77_223_81 : TWm "BroadseamLoft" 77 223 81 "java/lang/IllegalStateException" "there were 8 pegs" := ⟨by decide +kernel, (lw_mem 252 (by decide +kernel) rfl), (lw_mem 42 (by decide +kernel) rfl), List.mem_of_getElem? (i := 15) rfl, twg_X8_81, twn_X8_81, by decide +kernel⟩
theorem tw_X8_66_230_70 : TWm "BroadseamLoft" 66 230 70 "java/lang/IllegalArgumentException" "the force is out of range" := ⟨by decide +kernel, (lw_mem 185 (by decide +kernel) rfl), (lw_mem 41 (by decide +kernel) rfl), List.mem_of_getElem? (i := 16) rfl, twg_X8_70, twn_X8_70, by decide +kernel⟩
theorem tw_X8_89_239_93 : TWm "BroadseamLoft" 89 239 93 "java/lang/IndexOutOfBoundsException" "there was no such peg" := ⟨by decide +kernel, (lw_mem 312 (by decide +kernel) rfl), (lw_mem 44 (by decide +kernel) rfl), List.mem_of_getElem? (i := 17) rfl, twg_X8_93, twn_X8_93, by decide +kernel⟩
theorem tw_X8_66_259_70 : TWm "BroadseamLoft" 66 259 70 "java/lang/IllegalArgumentException" "the halyard, the sheet or the reefs are out of range" := ⟨by decide +kernel, (lw_mem 185 (by decide +kernel) rfl), (lw_mem 41 (by decide +kernel) rfl), List.mem_of_getElem? (i := 18) rfl, twg_X8_70, twn_X8_70, by decide +kernel⟩
theorem tw_X8_66_274_70 : TWm "BroadseamLoft" 66 274 70 "java/lang/IllegalArgumentException" "the wind is out of range" := ⟨by decide +kernel, (lw_mem 185 (by decide +kernel) rfl), (lw_mem 41 (by decide +kernel) rfl), List.mem_of_getElem? (i := 19) rfl, twg_X8_70, twn_X8_70, by decide +kernel⟩
theorem tw_X8_66_282_70 : TWm "BroadseamLoft" 66 282 70 "java/lang/IllegalArgumentException" "the wind or the limit is out of range" := ⟨by decide +kernel, (lw_mem 185 (by decide +kernel) rfl), (lw_mem 41 (by decide +kernel) rfl), List.mem_of_getElem? (i := 20) rfl, twg_X8_70, twn_X8_70, by decide +kernel⟩
theorem tw_X8_66_286_70 : TWm "BroadseamLoft" 66 286 70 "java/lang/IllegalArgumentException" "the days are out of range" := ⟨by decide +kernel, (lw_mem 185 (by decide +kernel) rfl), (lw_mem 41 (by decide +kernel) rfl), List.mem_of_getElem? (i := 21) rfl, twg_X8_70, twn_X8_70, by decide +kernel⟩
theorem tw_X8_77_292_81 : TWm "BroadseamLoft" 77 292 81 "java/lang/IllegalStateException" "the day would be above 100000" := ⟨by decide +kernel, (lw_mem 252 (by decide +kernel) rfl), (lw_mem 42 (by decide +kernel) rfl), List.mem_of_getElem? (i := 22) rfl, twg_X8_81, twn_X8_81, by decide +kernel⟩
theorem tw_X8_77_297_81 : TWm "BroadseamLoft" 77 297 81 "java/lang/IllegalStateException" "there are 6 canopies" := ⟨by decide +kernel, (lw_mem 252 (by decide +kernel) rfl), (lw_mem 42 (by decide +kernel) rfl), List.mem_of_getElem? (i := 23) rfl, twg_X8_81, twn_X8_81, by decide +kernel⟩
theorem tw_X8_89_306_93 : TWm "BroadseamLoft" 89 306 93 "java/lang/IndexOutOfBoundsException" "no such canopy" := ⟨by decide +kernel, (lw_mem 312 (by decide +kernel) rfl), (lw_mem 44 (by decide +kernel) rfl), List.mem_of_getElem? (i := 24) rfl, twg_X8_93, twn_X8_93, by decide +kernel⟩
theorem tw_X8_66_310_70 : TWm "BroadseamLoft" 66 310 70 "java/lang/IllegalArgumentException" "what holds the part is out of range" := ⟨by decide +kernel, (lw_mem 185 (by decide +kernel) rfl), (lw_mem 41 (by decide +kernel) rfl), List.mem_of_getElem? (i := 25) rfl, twg_X8_70, twn_X8_70, by decide +kernel⟩
theorem tw_X8_77_321_81 : TWm "BroadseamLoft" 77 321 81 "java/lang/IllegalStateException" "the canopy has 8 parts, or is sealed" := ⟨by decide +kernel, (lw_mem 252 (by decide +kernel) rfl), (lw_mem 42 (by decide +kernel) rfl), List.mem_of_getElem? (i := 26) rfl, twg_X8_81, twn_X8_81, by decide +kernel⟩
theorem tw_X8_89_328_93 : TWm "BroadseamLoft" 89 328 93 "java/lang/IndexOutOfBoundsException" "no such canopy or rigger" := ⟨by decide +kernel, (lw_mem 312 (by decide +kernel) rfl), (lw_mem 44 (by decide +kernel) rfl), List.mem_of_getElem? (i := 27) rfl, twg_X8_93, twn_X8_93, by decide +kernel⟩
theorem tw_X8_77_333_81 : TWm "BroadseamLoft" 77 333 81 "java/lang/IllegalStateException" "the canopy cannot be sealed" := ⟨by decide +kernel, (lw_mem 252 (by decide +kernel) rfl), (lw_mem 42 (by decide +kernel) rfl), List.mem_of_getElem? (i := 28) rfl, twg_X8_81, twn_X8_81, by decide +kernel⟩
theorem tw_X8_77_354_81 : TWm "BroadseamLoft" 77 354 81 "java/lang/IllegalStateException" "the canopy has no seal, it is too old, or the lot is held" := ⟨by decide +kernel, (lw_mem 252 (by decide +kernel) rfl), (lw_mem 42 (by decide +kernel) rfl), List.mem_of_getElem? (i := 29) rfl, twg_X8_81, twn_X8_81, by decide +kernel⟩
theorem tw_X8_77_362_81 : TWm "BroadseamLoft" 77 362 81 "java/lang/IllegalStateException" "the canopy is sealed" := ⟨by decide +kernel, (lw_mem 252 (by decide +kernel) rfl), (lw_mem 42 (by decide +kernel) rfl), List.mem_of_getElem? (i := 30) rfl, twg_X8_81, twn_X8_81, by decide +kernel⟩
theorem tw_X8_77_370_81 : TWm "BroadseamLoft" 77 370 81 "java/lang/IllegalStateException" "the lot is so already" := ⟨by decide +kernel, (lw_mem 252 (by decide +kernel) rfl), (lw_mem 42 (by decide +kernel) rfl), List.mem_of_getElem? (i := 31) rfl, twg_X8_81, twn_X8_81, by decide +kernel⟩
theorem tw_X8_66_378_70 : TWm "BroadseamLoft" 66 378 70 "java/lang/IllegalArgumentException" "what is asked is out of range" := ⟨by decide +kernel, (lw_mem 185 (by decide +kernel) rfl), (lw_mem 41 (by decide +kernel) rfl), List.mem_of_getElem? (i := 32) rfl, twg_X8_70, twn_X8_70, by decide +kernel⟩
