abbrev RX0 : String := "BroadseamLoft$Canopy"
def TX0 : u_T := fun k => match k with
  | 0 => ("BroadseamLoft$Canopy", "cloth", "LBroadseamLoft$Lot;", true)
  | 1 => ("BroadseamLoft$Canopy", "lot", "I", true)
  | 2 => ("BroadseamLoft$Canopy", "heldBy", "[I", true)
  | 3 => ("BroadseamLoft$Canopy", "partCount", "I", false)
  | 4 => ("BroadseamLoft$Canopy", "rigger", "I", false)
  | 5 => ("BroadseamLoft$Canopy", "sealDay", "I", false)
  | 6 => ("BroadseamLoft$Canopy", "sealedTimes", "I", false)
  | 7 => ("BroadseamLoft$Canopy", "usedTimes", "I", false)
  | 8 => ("BroadseamLoft$Canopy", "wetTimes", "I", false)
  | _ => ("BroadseamLoft$Canopy", "wetSinceAired", "I", false)
def tyX0 : Nat → FieldType := fun k => match k with
  | 0 => .object "BroadseamLoft$Lot"
  | 1 => .int
  | 2 => .array .int
  | 3 => .int
  | 4 => .int
  | 5 => .int
  | 6 => .int
  | 7 => .int
  | 8 => .int
  | _ => .int
theorem nmX0 : ∀ a, a < 10 → ∀ b, b < 10 → a ≠ b → (TX0 a).2.1 ≠ (TX0 b).2.1 := by decide +kernel
theorem tyX0_ok : ∀ k, k < 10 → parseFieldDescriptor (TX0 k).2.2.1 = some (tyX0 k) := by decide +kernel
abbrev cX0_init : ByteArray := prog_2_method_1_code
def yX0_init : MethodName := ⟨RX0, "<init>", "(LBroadseamLoft$Lot;I)V"⟩
abbrev cX0_isSealed : ByteArray := prog_2_method_2_code
def yX0_isSealed : MethodName := ⟨RX0, "isSealed", "()Z"⟩
abbrev cX0_loseSeal : ByteArray := prog_2_method_3_code
def yX0_loseSeal : MethodName := ⟨RX0, "loseSeal", "()V"⟩
abbrev cX0_isReadyToSeal : ByteArray := prog_2_method_4_code
def yX0_isReadyToSeal : MethodName := ⟨RX0, "isReadyToSeal", "()Z"⟩
abbrev cX0_roundsToOpen : ByteArray := prog_2_method_5_code
def yX0_roundsToOpen : MethodName := ⟨RX0, "roundsToOpen", "()I"⟩
abbrev cX0_shutAfterRound : ByteArray := prog_2_method_6_code
def yX0_shutAfterRound : MethodName := ⟨RX0, "shutAfterRound", "(I)I"⟩
abbrev cX0_numberOf : ByteArray := prog_2_method_7_code
def yX0_numberOf : MethodName := ⟨RX0, "numberOf", "(I)I"⟩
abbrev RX1 : String := "BroadseamLoft$Log"
def TX1 : u_T := fun k => match k with
  | 0 => ("BroadseamLoft$Log", "entries", "[B", true)
  | _ => ("BroadseamLoft$Log", "count", "I", false)
def tyX1 : Nat → FieldType := fun k => match k with
  | 0 => .array .byte
  | _ => .int
theorem nmX1 : ∀ a, a < 2 → ∀ b, b < 2 → a ≠ b → (TX1 a).2.1 ≠ (TX1 b).2.1 := by decide +kernel
theorem tyX1_ok : ∀ k, k < 2 → parseFieldDescriptor (TX1 k).2.2.1 = some (tyX1 k) := by decide +kernel
abbrev cX1_init : ByteArray := prog_3_method_1_code
def yX1_init : MethodName := ⟨RX1, "<init>", "()V"⟩
abbrev cX1_note : ByteArray := prog_3_method_2_code
def yX1_note : MethodName := ⟨RX1, "note", "(II)V"⟩
abbrev cX1_timesNoted : ByteArray := prog_3_method_3_code
def yX1_timesNoted : MethodName := ⟨RX1, "timesNoted", "(II)I"⟩
abbrev RX2 : String := "BroadseamLoft$Lot"
def TX2 : u_T := fun k => match k with
  | 0 => ("BroadseamLoft$Lot", "warp", "I", true)
  | 1 => ("BroadseamLoft$Lot", "weft", "I", true)
  | 2 => ("BroadseamLoft$Lot", "bias", "I", true)
  | 3 => ("BroadseamLoft$Lot", "hours", "I", false)
  | 4 => ("BroadseamLoft$Lot", "isHeld", "Z", false)
  | 5 => ("BroadseamLoft$Lot", "rowsBehind", "I", false)
  | 6 => ("BroadseamLoft$Lot", "rowAcross", "I", false)
  | _ => ("BroadseamLoft$Lot", "rowLength", "I", false)
def tyX2 : Nat → FieldType := fun k => match k with
  | 0 => .int
  | 1 => .int
  | 2 => .int
  | 3 => .int
  | 4 => .boolean
  | 5 => .int
  | 6 => .int
  | _ => .int
theorem nmX2 : ∀ a, a < 8 → ∀ b, b < 8 → a ≠ b → (TX2 a).2.1 ≠ (TX2 b).2.1 := by decide +kernel
theorem tyX2_ok : ∀ k, k < 8 → parseFieldDescriptor (TX2 k).2.2.1 = some (tyX2 k) := by decide +kernel
abbrev cX2_init : ByteArray := prog_4_method_1_code
def yX2_init : MethodName := ⟨RX2, "<init>", "(III)V"⟩
abbrev cX2_strengthAlong : ByteArray := prog_4_method_2_code
def yX2_strengthAlong : MethodName := ⟨RX2, "strengthAlong", "(I)J"⟩
abbrev cX2_layPanel : ByteArray := prog_4_method_3_code
def yX2_layPanel : MethodName := ⟨RX2, "layPanel", "(III)V"⟩
abbrev cX2_rolledLength : ByteArray := prog_4_method_4_code
def yX2_rolledLength : MethodName := ⟨RX2, "rolledLength", "()I"⟩
abbrev RX3 : String := "BroadseamLoft$Net"
def TX3 : u_T := fun k => match k with
  | 0 => ("BroadseamLoft$Net", "heights", "[I", true)
  | 1 => ("BroadseamLoft$Net", "heightsAhead", "[I", true)
  | 2 => ("BroadseamLoft$Net", "isFixed", "[Z", true)
  | _ => ("BroadseamLoft$Net", "load", "I", false)
def tyX3 : Nat → FieldType := fun k => match k with
  | 0 => .array .int
  | 1 => .array .int
  | 2 => .array .boolean
  | _ => .int
theorem nmX3 : ∀ a, a < 4 → ∀ b, b < 4 → a ≠ b → (TX3 a).2.1 ≠ (TX3 b).2.1 := by decide +kernel
theorem tyX3_ok : ∀ k, k < 4 → parseFieldDescriptor (TX3 k).2.2.1 = some (tyX3 k) := by decide +kernel
abbrev cX3_init : ByteArray := prog_5_method_1_code
def yX3_init : MethodName := ⟨RX3, "<init>", "()V"⟩
abbrev cX3_stepMoves : ByteArray := prog_5_method_2_code
def yX3_stepMoves : MethodName := ⟨RX3, "stepMoves", "()Z"⟩
abbrev cX3_pulledHeight : ByteArray := prog_5_method_3_code
def yX3_pulledHeight : MethodName := ⟨RX3, "pulledHeight", "(I)I"⟩
abbrev RX4 : String := "BroadseamLoft$Panel"
def TX4 : u_T := fun k => match k with
  | 0 => ("BroadseamLoft$Panel", "cloth", "LBroadseamLoft$Lot;", true)
  | 1 => ("BroadseamLoft$Panel", "width", "I", true)
  | 2 => ("BroadseamLoft$Panel", "along", "I", true)
  | 3 => ("BroadseamLoft$Panel", "borne", "J", false)
  | _ => ("BroadseamLoft$Panel", "group", "I", false)
def tyX4 : Nat → FieldType := fun k => match k with
  | 0 => .object "BroadseamLoft$Lot"
  | 1 => .int
  | 2 => .int
  | 3 => .long
  | _ => .int
theorem nmX4 : ∀ a, a < 5 → ∀ b, b < 5 → a ≠ b → (TX4 a).2.1 ≠ (TX4 b).2.1 := by decide +kernel
theorem tyX4_ok : ∀ k, k < 5 → parseFieldDescriptor (TX4 k).2.2.1 = some (tyX4 k) := by decide +kernel
abbrev cX4_init : ByteArray := prog_6_method_1_code
def yX4_init : MethodName := ⟨RX4, "<init>", "(LBroadseamLoft$Lot;II)V"⟩
abbrev cX4_strengthNow : ByteArray := prog_6_method_2_code
def yX4_strengthNow : MethodName := ⟨RX4, "strengthNow", "()J"⟩
abbrev RX5 : String := "BroadseamLoft$Peg"
def TX5 : u_T := fun k => match k with
  | 0 => ("BroadseamLoft$Peg", "hold", "J", true)
  | 1 => ("BroadseamLoft$Peg", "stiffness", "I", true)
  | 2 => ("BroadseamLoft$Peg", "isIn", "Z", false)
  | _ => ("BroadseamLoft$Peg", "got", "J", false)
def tyX5 : Nat → FieldType := fun k => match k with
  | 0 => .long
  | 1 => .int
  | 2 => .boolean
  | _ => .long
theorem nmX5 : ∀ a, a < 4 → ∀ b, b < 4 → a ≠ b → (TX5 a).2.1 ≠ (TX5 b).2.1 := by decide +kernel
theorem tyX5_ok : ∀ k, k < 4 → parseFieldDescriptor (TX5 k).2.2.1 = some (tyX5 k) := by decide +kernel
abbrev cX5_init : ByteArray := prog_7_method_1_code
def yX5_init : MethodName := ⟨RX5, "<init>", "(JI)V"⟩
abbrev RX6 : String := "BroadseamLoft$Sail"
def TX6 : u_T := fun k => match k with
  | 0 => ("BroadseamLoft$Sail", "halyard", "I", false)
  | 1 => ("BroadseamLoft$Sail", "sheet", "I", false)
  | _ => ("BroadseamLoft$Sail", "reefs", "I", false)
def tyX6 : Nat → FieldType := fun k => match k with
  | 0 => .int
  | 1 => .int
  | _ => .int
theorem nmX6 : ∀ a, a < 3 → ∀ b, b < 3 → a ≠ b → (TX6 a).2.1 ≠ (TX6 b).2.1 := by decide +kernel
theorem tyX6_ok : ∀ k, k < 3 → parseFieldDescriptor (TX6 k).2.2.1 = some (tyX6 k) := by decide +kernel
abbrev cX6_init : ByteArray := prog_8_method_1_code
def yX6_init : MethodName := ⟨RX6, "<init>", "()V"⟩
abbrev cX6_draftWith : ByteArray := prog_8_method_2_code
def yX6_draftWith : MethodName := ⟨RX6, "draftWith", "(I)F"⟩
abbrev cX6_powerWith : ByteArray := prog_8_method_3_code
def yX6_powerWith : MethodName := ⟨RX6, "powerWith", "(II)F"⟩
abbrev RX7 : String := "BroadseamLoft$Seam"
def TX7 : u_T := fun k => match k with
  | 0 => ("BroadseamLoft$Seam", "one", "LBroadseamLoft$Panel;", true)
  | 1 => ("BroadseamLoft$Seam", "other", "LBroadseamLoft$Panel;", true)
  | _ => ("BroadseamLoft$Seam", "hundredths", "I", true)
def tyX7 : Nat → FieldType := fun k => match k with
  | 0 => .object "BroadseamLoft$Panel"
  | 1 => .object "BroadseamLoft$Panel"
  | _ => .int
theorem nmX7 : ∀ a, a < 3 → ∀ b, b < 3 → a ≠ b → (TX7 a).2.1 ≠ (TX7 b).2.1 := by decide +kernel
theorem tyX7_ok : ∀ k, k < 3 → parseFieldDescriptor (TX7 k).2.2.1 = some (tyX7 k) := by decide +kernel
abbrev cX7_init : ByteArray := prog_9_method_1_code
def yX7_init : MethodName := ⟨RX7, "<init>", "(LBroadseamLoft$Panel;LBroadseamLoft$Panel;I)V"⟩
abbrev cX7_strengthNow : ByteArray := prog_9_method_2_code
def yX7_strengthNow : MethodName := ⟨RX7, "strengthNow", "()J"⟩
abbrev cX7_passOnLoad : ByteArray := prog_9_method_3_code
def yX7_passOnLoad : MethodName := ⟨RX7, "passOnLoad", "()V"⟩
abbrev RX8 : String := "BroadseamLoft"
def TX8 : u_T := fun k => match k with
  | 0 => ("BroadseamLoft", "lots", "[LBroadseamLoft$Lot;", true)
  | 1 => ("BroadseamLoft", "lotCount", "I", false)
  | 2 => ("BroadseamLoft", "panels", "[LBroadseamLoft$Panel;", true)
  | 3 => ("BroadseamLoft", "panelCount", "I", false)
  | 4 => ("BroadseamLoft", "seams", "[LBroadseamLoft$Seam;", true)
  | 5 => ("BroadseamLoft", "seamCount", "I", false)
  | 6 => ("BroadseamLoft", "net", "LBroadseamLoft$Net;", true)
  | 7 => ("BroadseamLoft", "pegs", "[LBroadseamLoft$Peg;", true)
  | 8 => ("BroadseamLoft", "pegCount", "I", false)
  | 9 => ("BroadseamLoft", "sail", "LBroadseamLoft$Sail;", true)
  | 10 => ("BroadseamLoft", "canopies", "[LBroadseamLoft$Canopy;", true)
  | 11 => ("BroadseamLoft", "canopyCount", "I", false)
  | 12 => ("BroadseamLoft", "log", "LBroadseamLoft$Log;", true)
  | _ => ("BroadseamLoft", "day", "I", false)
def tyX8 : Nat → FieldType := fun k => match k with
  | 0 => .array (.object "BroadseamLoft$Lot")
  | 1 => .int
  | 2 => .array (.object "BroadseamLoft$Panel")
  | 3 => .int
  | 4 => .array (.object "BroadseamLoft$Seam")
  | 5 => .int
  | 6 => .object "BroadseamLoft$Net"
  | 7 => .array (.object "BroadseamLoft$Peg")
  | 8 => .int
  | 9 => .object "BroadseamLoft$Sail"
  | 10 => .array (.object "BroadseamLoft$Canopy")
  | 11 => .int
  | 12 => .object "BroadseamLoft$Log"
  | _ => .int
theorem nmX8 : ∀ a, a < 14 → ∀ b, b < 14 → a ≠ b → (TX8 a).2.1 ≠ (TX8 b).2.1 := by decide +kernel
theorem tyX8_ok : ∀ k, k < 14 → parseFieldDescriptor (TX8 k).2.2.1 = some (tyX8 k) := by decide +kernel
abbrev cX8_init : ByteArray := prog_1_method_1_code
def yX8_init : MethodName := ⟨RX8, "<init>", "()V"⟩
abbrev cX8_isOutside : ByteArray := prog_1_method_2_code
def yX8_isOutside : MethodName := ⟨RX8, "isOutside", "(JJJ)Z"⟩
abbrev cX8_lot : ByteArray := prog_1_method_3_code
def yX8_lot : MethodName := ⟨RX8, "lot", "(III)I"⟩
abbrev cX8_sun : ByteArray := prog_1_method_4_code
def yX8_sun : MethodName := ⟨RX8, "sun", "(II)I"⟩
abbrev cX8_panel : ByteArray := prog_1_method_5_code
def yX8_panel : MethodName := ⟨RX8, "panel", "(IIII)I"⟩
abbrev cX8_strength : ByteArray := prog_1_method_6_code
def yX8_strength : MethodName := ⟨RX8, "strength", "(I)J"⟩
abbrev cX8_roll : ByteArray := prog_1_method_7_code
def yX8_roll : MethodName := ⟨RX8, "roll", "(I)I"⟩
abbrev cX8_lotAt : ByteArray := prog_1_method_8_code
def yX8_lotAt : MethodName := ⟨RX8, "lotAt", "(I)LBroadseamLoft$Lot;"⟩
abbrev cX8_panelAt : ByteArray := prog_1_method_9_code
def yX8_panelAt : MethodName := ⟨RX8, "panelAt", "(I)LBroadseamLoft$Panel;"⟩
abbrev cX8_seam : ByteArray := prog_1_method_10_code
def yX8_seam : MethodName := ⟨RX8, "seam", "(III)I"⟩
abbrev cX8_rip : ByteArray := prog_1_method_11_code
def yX8_rip : MethodName := ⟨RX8, "rip", "(I)J"⟩
abbrev cX8_bears : ByteArray := prog_1_method_12_code
def yX8_bears : MethodName := ⟨RX8, "bears", "(II)J"⟩
abbrev cX8_bearsAnew : ByteArray := prog_1_method_13_code
def yX8_bearsAnew : MethodName := ⟨RX8, "bearsAnew", "(II)J"⟩
abbrev cX8_spreadLoadFrom : ByteArray := prog_1_method_14_code
def yX8_spreadLoadFrom : MethodName := ⟨RX8, "spreadLoadFrom", "(LBroadseamLoft$Panel;)V"⟩
abbrev cX8_joinUntilTogether : ByteArray := prog_1_method_15_code
def yX8_joinUntilTogether : MethodName := ⟨RX8, "joinUntilTogether", "(LBroadseamLoft$Panel;LBroadseamLoft$Panel;)J"⟩
abbrev cX8_strongestBetweenGroups : ByteArray := prog_1_method_16_code
def yX8_strongestBetweenGroups : MethodName := ⟨RX8, "strongestBetweenGroups", "()LBroadseamLoft$Seam;"⟩
abbrev cX8_moveGroup : ByteArray := prog_1_method_17_code
def yX8_moveGroup : MethodName := ⟨RX8, "moveGroup", "(II)V"⟩
abbrev cX8_knot : ByteArray := prog_1_method_18_code
def yX8_knot : MethodName := ⟨RX8, "knot", "(IIZ)I"⟩
abbrev cX8_load : ByteArray := prog_1_method_19_code
def yX8_load : MethodName := ⟨RX8, "load", "(I)I"⟩
abbrev cX8_rest : ByteArray := prog_1_method_20_code
def yX8_rest : MethodName := ⟨RX8, "rest", "(I)I"⟩
abbrev cX8_height : ByteArray := prog_1_method_21_code
def yX8_height : MethodName := ⟨RX8, "height", "(I)I"⟩
abbrev cX8_peg : ByteArray := prog_1_method_22_code
def yX8_peg : MethodName := ⟨RX8, "peg", "(JI)I"⟩
abbrev cX8_gust : ByteArray := prog_1_method_23_code
def yX8_gust : MethodName := ⟨RX8, "gust", "(J)I"⟩
abbrev cX8_pulled : ByteArray := prog_1_method_24_code
def yX8_pulled : MethodName := ⟨RX8, "pulled", "(I)J"⟩
abbrev cX8_pegs : ByteArray := prog_1_method_25_code
def yX8_pegs : MethodName := ⟨RX8, "pegs", "()I"⟩
abbrev cX8_shareForce : ByteArray := prog_1_method_26_code
def yX8_shareForce : MethodName := ⟨RX8, "shareForce", "(J)V"⟩
abbrev cX8_stiffnessTogether : ByteArray := prog_1_method_27_code
def yX8_stiffnessTogether : MethodName := ⟨RX8, "stiffnessTogether", "()J"⟩
abbrev cX8_takeOutOverpulled : ByteArray := prog_1_method_28_code
def yX8_takeOutOverpulled : MethodName := ⟨RX8, "takeOutOverpulled", "()I"⟩
abbrev cX8_trim : ByteArray := prog_1_method_29_code
def yX8_trim : MethodName := ⟨RX8, "trim", "(III)F"⟩
abbrev cX8_power : ByteArray := prog_1_method_30_code
def yX8_power : MethodName := ⟨RX8, "power", "(I)F"⟩
abbrev cX8_halyard : ByteArray := prog_1_method_31_code
def yX8_halyard : MethodName := ⟨RX8, "halyard", "(II)I"⟩
abbrev cX8_pass : ByteArray := prog_1_method_32_code
def yX8_pass : MethodName := ⟨RX8, "pass", "(I)I"⟩
abbrev cX8_canopy : ByteArray := prog_1_method_33_code
def yX8_canopy : MethodName := ⟨RX8, "canopy", "(I)I"⟩
abbrev cX8_part : ByteArray := prog_1_method_34_code
def yX8_part : MethodName := ⟨RX8, "part", "(II)I"⟩
abbrev cX8_opens : ByteArray := prog_1_method_35_code
def yX8_opens : MethodName := ⟨RX8, "opens", "(I)I"⟩
abbrev cX8_seal : ByteArray := prog_1_method_36_code
def yX8_seal : MethodName := ⟨RX8, "seal", "(II)I"⟩
abbrev cX8_use : ByteArray := prog_1_method_37_code
def yX8_use : MethodName := ⟨RX8, "use", "(I)I"⟩
abbrev cX8_wet : ByteArray := prog_1_method_38_code
def yX8_wet : MethodName := ⟨RX8, "wet", "(IZ)I"⟩
abbrev cX8_find : ByteArray := prog_1_method_39_code
def yX8_find : MethodName := ⟨RX8, "find", "(IZ)I"⟩
abbrev cX8_ofCanopy : ByteArray := prog_1_method_40_code
def yX8_ofCanopy : MethodName := ⟨RX8, "ofCanopy", "(II)I"⟩
abbrev cX8_lifeAnew : ByteArray := prog_1_method_41_code
def yX8_lifeAnew : MethodName := ⟨RX8, "lifeAnew", "(II)I"⟩
abbrev cX8_canopyAt : ByteArray := prog_1_method_42_code
def yX8_canopyAt : MethodName := ⟨RX8, "canopyAt", "(I)LBroadseamLoft$Canopy;"⟩
abbrev cX8_takeSealsAway : ByteArray := prog_1_method_43_code
def yX8_takeSealsAway : MethodName := ⟨RX8, "takeSealsAway", "(I)I"⟩
abbrev RX9 : String := "BroadseamLoftModel"
def TX9 : u_T := fun k => match k with
  | _ => ("", "", "", false)
def tyX9 : Nat → FieldType := fun k => match k with
  | _ => .int
theorem nmX9 : ∀ a, a < 0 → ∀ b, b < 0 → a ≠ b → (TX9 a).2.1 ≠ (TX9 b).2.1 := by decide +kernel
theorem tyX9_ok : ∀ k, k < 0 → parseFieldDescriptor (TX9 k).2.2.1 = some (tyX9 k) := by decide +kernel
abbrev RJ9 : String := "java/lang/Math"
def TJ9 : u_T := fun k => match k with
  | _ => ("", "", "", false)
def tyJ9 : Nat → FieldType := fun k => match k with
  | _ => .int
theorem nmJ9 : ∀ a, a < 0 → ∀ b, b < 0 → a ≠ b → (TJ9 a).2.1 ≠ (TJ9 b).2.1 := by decide +kernel
theorem tyJ9_ok : ∀ k, k < 0 → parseFieldDescriptor (TJ9 k).2.2.1 = some (tyJ9 k) := by decide +kernel
abbrev cJ9_floorDiv_7cf53 : ByteArray := prog_16_method_47_code
def yJ9_floorDiv_7cf53 : MethodName := ⟨RJ9, "floorDiv", "(II)I"⟩
abbrev cJ9_max_7cf53 : ByteArray := prog_16_method_65_code
def yJ9_max_7cf53 : MethodName := ⟨RJ9, "max", "(II)I"⟩
abbrev cJ9_max_f86c9 : ByteArray := prog_16_method_66_code
def yJ9_max_f86c9 : MethodName := ⟨RJ9, "max", "(JJ)J"⟩
abbrev cJ9_min_7cf53 : ByteArray := prog_16_method_69_code
def yJ9_min_7cf53 : MethodName := ⟨RJ9, "min", "(II)I"⟩
abbrev cJ9_min_f86c9 : ByteArray := prog_16_method_70_code
def yJ9_min_f86c9 : MethodName := ⟨RJ9, "min", "(JJ)J"⟩
abbrev RJ0 : String := "java/lang/String"
def TJ0 : u_T := fun k => match k with
  | _ => ("", "", "", false)
def tyJ0 : Nat → FieldType := fun k => match k with
  | _ => .int
theorem nmJ0 : ∀ a, a < 0 → ∀ b, b < 0 → a ≠ b → (TJ0 a).2.1 ≠ (TJ0 b).2.1 := by decide +kernel
theorem tyJ0_ok : ∀ k, k < 0 → parseFieldDescriptor (TJ0 k).2.2.1 = some (tyJ0 k) := by decide +kernel
abbrev RJ10 : String := "java/lang/System"
def TJ10 : u_T := fun k => match k with
  | _ => ("", "", "", false)
def tyJ10 : Nat → FieldType := fun k => match k with
  | _ => .int
theorem nmJ10 : ∀ a, a < 0 → ∀ b, b < 0 → a ≠ b → (TJ10 a).2.1 ≠ (TJ10 b).2.1 := by decide +kernel
theorem tyJ10_ok : ∀ k, k < 0 → parseFieldDescriptor (TJ10 k).2.2.1 = some (tyJ10 k) := by decide +kernel
abbrev RL : String := "BroadseamLoftLaw"
abbrev cL_roll : ByteArray := method_2_code
def yL_roll : MethodName := ⟨RL, "roll", "([II)I"⟩
abbrev cL_act : ByteArray := method_3_code
def yL_act : MethodName := ⟨RL, "act", "(LBroadseamLoft;IIIII)J"⟩
abbrev cL_pegs : ByteArray := method_4_code
def yL_pegs : MethodName := ⟨RL, "pegs", "(LBroadseamLoft;IJ)J"⟩
abbrev cL_no : ByteArray := method_5_code
def yL_no : MethodName := ⟨RL, "no", "(LBroadseamLoft;IIIII)Z"⟩
abbrev cL_off : ByteArray := method_6_code
def yL_off : MethodName := ⟨RL, "off", "(LBroadseamLoft;IIIII)Z"⟩
abbrev cL_all : ByteArray := method_7_code
def yL_all : MethodName := ⟨RL, "all", "(LBroadseamLoft;[I)J"⟩
abbrev cL_isRefused : ByteArray := method_8_code
def yL_isRefused : MethodName := ⟨RL, "isRefused", "(LBroadseamLoft;[II)Z"⟩
abbrev cL_areSound : ByteArray := method_9_code
def yL_areSound : MethodName := ⟨RL, "areSound", "(LBroadseamLoft;[I[I[JI)Z"⟩
abbrev cL_isSewn : ByteArray := method_10_code
def yL_isSewn : MethodName := ⟨RL, "isSewn", "(LBroadseamLoft;[I[III)Z"⟩
abbrev cL_isNet : ByteArray := method_11_code
def yL_isNet : MethodName := ⟨RL, "isNet", "(LBroadseamLoft;II)Z"⟩
abbrev cL_isGust : ByteArray := method_12_code
def yL_isGust : MethodName := ⟨RL, "isGust", "(LBroadseamLoft;[I[JII)Z"⟩
abbrev cL_isTrimmed : ByteArray := method_13_code
def yL_isTrimmed : MethodName := ⟨RL, "isTrimmed", "(LBroadseamLoft;[II)Z"⟩
abbrev cL_isRigged : ByteArray := method_14_code
def yL_isRigged : MethodName := ⟨RL, "isRigged", "(LBroadseamLoft;[III)Z"⟩
abbrev cL_law : ByteArray := code
def yL_law : MethodName := ⟨RL, "law", "([I)Z"⟩
