def RX0 : String := "Pulsemesh$Cells"
def TX0 : u_T := fun k => match k with
  | 0 => ("Pulsemesh$Cells", "uses", "LPulsemesh$Table;", true)
  | 1 => ("Pulsemesh$Cells", "sums", "LPulsemesh$Table;", true)
  | 2 => ("Pulsemesh$Cells", "brokenSet", "I", false)
  | _ => ("Pulsemesh$Cells", "knownSet", "I", false)
def tyX0 : Nat → FieldType := fun k => match k with
  | 0 => .object "Pulsemesh$Table"
  | 1 => .object "Pulsemesh$Table"
  | 2 => .int
  | _ => .int
theorem nmX0 : ∀ a, a < 4 → ∀ b, b < 4 → a ≠ b → (TX0 a).2.1 ≠ (TX0 b).2.1 := by decide +kernel
theorem tyX0_ok : ∀ k, k < 4 → parseFieldDescriptor (TX0 k).2.2.1 = some (tyX0 k) := by decide +kernel
abbrev cX0_init : ByteArray := prog_2_method_1_code
def yX0_init : MethodName := ⟨RX0, "<init>", "()V"⟩
abbrev cX0_bitOf : ByteArray := prog_2_method_2_code
def yX0_bitOf : MethodName := ⟨RX0, "bitOf", "(II)I"⟩
abbrev cX0_mark : ByteArray := prog_2_method_3_code
def yX0_mark : MethodName := ⟨RX0, "mark", "(IIZ)V"⟩
abbrev cX0_isBrokenAt : ByteArray := prog_2_method_4_code
def yX0_isBrokenAt : MethodName := ⟨RX0, "isBrokenAt", "(II)Z"⟩
abbrev cX0_stateOf : ByteArray := prog_2_method_5_code
def yX0_stateOf : MethodName := ⟨RX0, "stateOf", "(II)I"⟩
abbrev cX0_findBroken : ByteArray := prog_2_method_6_code
def yX0_findBroken : MethodName := ⟨RX0, "findBroken", "()I"⟩
abbrev cX0_areKnownBroken : ByteArray := prog_2_method_7_code
def yX0_areKnownBroken : MethodName := ⟨RX0, "areKnownBroken", "()Z"⟩
abbrev cX0_knownColumns : ByteArray := prog_2_method_8_code
def yX0_knownColumns : MethodName := ⟨RX0, "knownColumns", "(I)I"⟩
abbrev cX0_crossKnown : ByteArray := prog_2_method_9_code
def yX0_crossKnown : MethodName := ⟨RX0, "crossKnown", "(II)Z"⟩
abbrev cX0_takeIn : ByteArray := prog_2_method_10_code
def yX0_takeIn : MethodName := ⟨RX0, "takeIn", "(III)V"⟩
abbrev cX0_sumOfUses : ByteArray := prog_2_method_11_code
def yX0_sumOfUses : MethodName := ⟨RX0, "sumOfUses", "()I"⟩
def RX1 : String := "Pulsemesh$Job"
def TX1 : u_T := fun k => match k with
  | 0 => ("Pulsemesh$Job", "a", "LPulsemesh$Table;", true)
  | 1 => ("Pulsemesh$Job", "b", "LPulsemesh$Table;", true)
  | 2 => ("Pulsemesh$Job", "\x72", "I", false)
  | 3 => ("Pulsemesh$Job", "k", "I", false)
  | 4 => ("Pulsemesh$Job", "c", "I", false)
  | 5 => ("Pulsemesh$Job", "reckoning", "I", false)
  | _ => ("Pulsemesh$Job", "hasSums", "Z", false)
def tyX1 : Nat → FieldType := fun k => match k with
  | 0 => .object "Pulsemesh$Table"
  | 1 => .object "Pulsemesh$Table"
  | 2 => .int
  | 3 => .int
  | 4 => .int
  | 5 => .int
  | _ => .boolean
theorem nmX1 : ∀ a, a < 7 → ∀ b, b < 7 → a ≠ b → (TX1 a).2.1 ≠ (TX1 b).2.1 := by decide +kernel
theorem tyX1_ok : ∀ k, k < 7 → parseFieldDescriptor (TX1 k).2.2.1 = some (tyX1 k) := by decide +kernel
abbrev cX1_init : ByteArray := prog_3_method_1_code
def yX1_init : MethodName := ⟨RX1, "<init>", "()V"⟩
abbrev cX1_reshape : ByteArray := prog_3_method_2_code
def yX1_reshape : MethodName := ⟨RX1, "reshape", "(III)V"⟩
abbrev cX1_copyFrom : ByteArray := prog_3_method_3_code
def yX1_copyFrom : MethodName := ⟨RX1, "copyFrom", "(LPulsemesh$Job;)V"⟩
abbrev cX1_rowsInAll : ByteArray := prog_3_method_4_code
def yX1_rowsInAll : MethodName := ⟨RX1, "rowsInAll", "()I"⟩
abbrev cX1_columnsInAll : ByteArray := prog_3_method_5_code
def yX1_columnsInAll : MethodName := ⟨RX1, "columnsInAll", "()I"⟩
abbrev cX1_countOperands : ByteArray := prog_3_method_6_code
def yX1_countOperands : MethodName := ⟨RX1, "countOperands", "()I"⟩
abbrev cX1_leftOperand : ByteArray := prog_3_method_7_code
def yX1_leftOperand : MethodName := ⟨RX1, "leftOperand", "(II)I"⟩
abbrev cX1_topOperand : ByteArray := prog_3_method_8_code
def yX1_topOperand : MethodName := ⟨RX1, "topOperand", "(II)I"⟩
abbrev cX1_firstSum : ByteArray := prog_3_method_9_code
def yX1_firstSum : MethodName := ⟨RX1, "firstSum", "()I"⟩
abbrev cX1_bringIn : ByteArray := prog_3_method_10_code
def yX1_bringIn : MethodName := ⟨RX1, "bringIn", "(IIII)I"⟩
abbrev cX1_plainOf : ByteArray := prog_3_method_11_code
def yX1_plainOf : MethodName := ⟨RX1, "plainOf", "(II)I"⟩
abbrev cX1_skippedSet : ByteArray := prog_3_method_12_code
def yX1_skippedSet : MethodName := ⟨RX1, "skippedSet", "()I"⟩
abbrev cX1_countSteps : ByteArray := prog_3_method_13_code
def yX1_countSteps : MethodName := ⟨RX1, "countSteps", "()I"⟩
abbrev cX1_isLeftNought : ByteArray := prog_3_method_14_code
def yX1_isLeftNought : MethodName := ⟨RX1, "isLeftNought", "(I)Z"⟩
abbrev cX1_isTopNought : ByteArray := prog_3_method_15_code
def yX1_isTopNought : MethodName := ⟨RX1, "isTopNought", "(I)Z"⟩
def RX2 : String := "Pulsemesh$Layout"
def TX2 : u_T := fun k => match k with
  | 0 => ("Pulsemesh$Layout", "jobRows", "I", false)
  | 1 => ("Pulsemesh$Layout", "jobColumns", "I", false)
  | 2 => ("Pulsemesh$Layout", "steps", "I", false)
  | 3 => ("Pulsemesh$Layout", "rows", "I", false)
  | 4 => ("Pulsemesh$Layout", "columns", "I", false)
  | 5 => ("Pulsemesh$Layout", "height", "I", false)
  | 6 => ("Pulsemesh$Layout", "width", "I", false)
  | 7 => ("Pulsemesh$Layout", "tilesDown", "I", false)
  | 8 => ("Pulsemesh$Layout", "tilesAcross", "I", false)
  | _ => ("Pulsemesh$Layout", "beatsInAll", "I", false)
def tyX2 : Nat → FieldType := fun k => match k with
  | 0 => .int
  | 1 => .int
  | 2 => .int
  | 3 => .int
  | 4 => .int
  | 5 => .int
  | 6 => .int
  | 7 => .int
  | 8 => .int
  | _ => .int
theorem nmX2 : ∀ a, a < 10 → ∀ b, b < 10 → a ≠ b → (TX2 a).2.1 ≠ (TX2 b).2.1 := by decide +kernel
theorem tyX2_ok : ∀ k, k < 10 → parseFieldDescriptor (TX2 k).2.2.1 = some (tyX2 k) := by decide +kernel
abbrev cX2_init : ByteArray := prog_4_method_1_code
def yX2_init : MethodName := ⟨RX2, "<init>", "()V"⟩
abbrev cX2_measure : ByteArray := prog_4_method_2_code
def yX2_measure : MethodName := ⟨RX2, "measure", "(LPulsemesh$Job;)V"⟩
abbrev cX2_lay : ByteArray := prog_4_method_3_code
def yX2_lay : MethodName := ⟨RX2, "lay", "(II)V"⟩
abbrev cX2_copyFrom : ByteArray := prog_4_method_4_code
def yX2_copyFrom : MethodName := ⟨RX2, "copyFrom", "(LPulsemesh$Layout;)V"⟩
abbrev cX2_isEmpty : ByteArray := prog_4_method_5_code
def yX2_isEmpty : MethodName := ⟨RX2, "isEmpty", "()Z"⟩
abbrev cX2_isBetterThan : ByteArray := prog_4_method_6_code
def yX2_isBetterThan : MethodName := ⟨RX2, "isBetterThan", "(LPulsemesh$Layout;)Z"⟩
abbrev cX2_countTiles : ByteArray := prog_4_method_7_code
def yX2_countTiles : MethodName := ⟨RX2, "countTiles", "()I"⟩
abbrev cX2_countEdges : ByteArray := prog_4_method_8_code
def yX2_countEdges : MethodName := ⟨RX2, "countEdges", "()I"⟩
abbrev cX2_countFed : ByteArray := prog_4_method_9_code
def yX2_countFed : MethodName := ⟨RX2, "countFed", "()I"⟩
abbrev cX2_countPieces : ByteArray := prog_4_method_10_code
def yX2_countPieces : MethodName := ⟨RX2, "countPieces", "(II)I"⟩
def RX3 : String := "Pulsemesh$Results"
def TX3 : u_T := fun k => match k with
  | 0 => ("Pulsemesh$Results", "values", "LPulsemesh$Table;", true)
  | 1 => ("Pulsemesh$Results", "rows", "I", false)
  | 2 => ("Pulsemesh$Results", "columns", "I", false)
  | _ => ("Pulsemesh$Results", "haveSums", "Z", false)
def tyX3 : Nat → FieldType := fun k => match k with
  | 0 => .object "Pulsemesh$Table"
  | 1 => .int
  | 2 => .int
  | _ => .boolean
theorem nmX3 : ∀ a, a < 4 → ∀ b, b < 4 → a ≠ b → (TX3 a).2.1 ≠ (TX3 b).2.1 := by decide +kernel
theorem tyX3_ok : ∀ k, k < 4 → parseFieldDescriptor (TX3 k).2.2.1 = some (tyX3 k) := by decide +kernel
abbrev cX3_init : ByteArray := prog_5_method_1_code
def yX3_init : MethodName := ⟨RX3, "<init>", "()V"⟩
abbrev cX3_clear : ByteArray := prog_5_method_2_code
def yX3_clear : MethodName := ⟨RX3, "clea\x72", "()V"⟩
abbrev cX3_open : ByteArray := prog_5_method_3_code
def yX3_open : MethodName := ⟨RX3, "open", "(LPulsemesh$Job;)V"⟩
abbrev cX3_has : ByteArray := prog_5_method_4_code
def yX3_has : MethodName := ⟨RX3, "has", "(II)Z"⟩
abbrev cX3_judge : ByteArray := prog_5_method_5_code
def yX3_judge : MethodName := ⟨RX3, "judge", "()I"⟩
abbrev cX3_mend : ByteArray := prog_5_method_6_code
def yX3_mend : MethodName := ⟨RX3, "mend", "(II)I"⟩
abbrev cX3_rowError : ByteArray := prog_5_method_7_code
def yX3_rowError : MethodName := ⟨RX3, "rowErro\x72", "(I)I"⟩
abbrev cX3_columnError : ByteArray := prog_5_method_8_code
def yX3_columnError : MethodName := ⟨RX3, "columnErro\x72", "(I)I"⟩
def RX4 : String := "Pulsemesh$Table"
def TX4 : u_T := fun k => match k with
  | _ => ("Pulsemesh$Table", "numbers", "[I", true)
def tyX4 : Nat → FieldType := fun k => match k with
  | _ => .array .int
theorem nmX4 : ∀ a, a < 1 → ∀ b, b < 1 → a ≠ b → (TX4 a).2.1 ≠ (TX4 b).2.1 := by decide +kernel
theorem tyX4_ok : ∀ k, k < 1 → parseFieldDescriptor (TX4 k).2.2.1 = some (tyX4 k) := by decide +kernel
abbrev cX4_init : ByteArray := prog_6_method_1_code
def yX4_init : MethodName := ⟨RX4, "<init>", "()V"⟩
abbrev cX4_get : ByteArray := prog_6_method_2_code
def yX4_get : MethodName := ⟨RX4, "get", "(II)I"⟩
abbrev cX4_set : ByteArray := prog_6_method_3_code
def yX4_set : MethodName := ⟨RX4, "set", "(III)V"⟩
abbrev cX4_fill : ByteArray := prog_6_method_4_code
def yX4_fill : MethodName := ⟨RX4, "fill", "(I)V"⟩
abbrev cX4_copyFrom : ByteArray := prog_6_method_5_code
def yX4_copyFrom : MethodName := ⟨RX4, "copyFrom", "(LPulsemesh$Table;)V"⟩
def RX5 : String := "Pulsemesh$Work"
def TX5 : u_T := fun k => match k with
  | 0 => ("Pulsemesh$Work", "job", "LPulsemesh$Job;", true)
  | 1 => ("Pulsemesh$Work", "layout", "LPulsemesh$Layout;", true)
  | 2 => ("Pulsemesh$Work", "skipped", "I", false)
  | 3 => ("Pulsemesh$Work", "tile", "I", false)
  | 4 => ("Pulsemesh$Work", "firstRow", "I", false)
  | 5 => ("Pulsemesh$Work", "firstColumn", "I", false)
  | 6 => ("Pulsemesh$Work", "beatOfTile", "I", false)
  | 7 => ("Pulsemesh$Work", "beatsLeft", "I", false)
  | 8 => ("Pulsemesh$Work", "beatsEve\x72", "I", false)
  | 9 => ("Pulsemesh$Work", "startsEve\x72", "I", false)
  | _ => ("Pulsemesh$Work", "takenByTilesDone", "I", false)
def tyX5 : Nat → FieldType := fun k => match k with
  | 0 => .object "Pulsemesh$Job"
  | 1 => .object "Pulsemesh$Layout"
  | 2 => .int
  | 3 => .int
  | 4 => .int
  | 5 => .int
  | 6 => .int
  | 7 => .int
  | 8 => .int
  | 9 => .int
  | _ => .int
theorem nmX5 : ∀ a, a < 11 → ∀ b, b < 11 → a ≠ b → (TX5 a).2.1 ≠ (TX5 b).2.1 := by decide +kernel
theorem tyX5_ok : ∀ k, k < 11 → parseFieldDescriptor (TX5 k).2.2.1 = some (tyX5 k) := by decide +kernel
abbrev cX5_init : ByteArray := prog_7_method_1_code
def yX5_init : MethodName := ⟨RX5, "<init>", "()V"⟩
abbrev cX5_runs : ByteArray := prog_7_method_2_code
def yX5_runs : MethodName := ⟨RX5, "runs", "()Z"⟩
abbrev cX5_begin : ByteArray := prog_7_method_3_code
def yX5_begin : MethodName := ⟨RX5, "begin", "(LPulsemesh$Job;LPulsemesh$Layout;LPulsemesh$Cells;)V"⟩
abbrev cX5_openTile : ByteArray := prog_7_method_4_code
def yX5_openTile : MethodName := ⟨RX5, "openTile", "(LPulsemesh$Cells;)V"⟩
abbrev cX5_tileRows : ByteArray := prog_7_method_5_code
def yX5_tileRows : MethodName := ⟨RX5, "tileRows", "()I"⟩
abbrev cX5_tileColumns : ByteArray := prog_7_method_6_code
def yX5_tileColumns : MethodName := ⟨RX5, "tileColumns", "()I"⟩
abbrev cX5_beatsOfTile : ByteArray := prog_7_method_7_code
def yX5_beatsOfTile : MethodName := ⟨RX5, "beatsOfTile", "()I"⟩
abbrev cX5_pulse : ByteArray := prog_7_method_8_code
def yX5_pulse : MethodName := ⟨RX5, "pulse", "(LPulsemesh$Cells;LPulsemesh$Results;)V"⟩
abbrev cX5_feed : ByteArray := prog_7_method_9_code
def yX5_feed : MethodName := ⟨RX5, "feed", "(LPulsemesh$Cells;II)V"⟩
abbrev cX5_closeTile : ByteArray := prog_7_method_10_code
def yX5_closeTile : MethodName := ⟨RX5, "closeTile", "(LPulsemesh$Cells;LPulsemesh$Results;)V"⟩
abbrev cX5_drain : ByteArray := prog_7_method_11_code
def yX5_drain : MethodName := ⟨RX5, "drain", "(LPulsemesh$Cells;LPulsemesh$Results;)V"⟩
abbrev cX5_isInLayout : ByteArray := prog_7_method_12_code
def yX5_isInLayout : MethodName := ⟨RX5, "isInLayout", "(II)Z"⟩
abbrev cX5_isInTile : ByteArray := prog_7_method_13_code
def yX5_isInTile : MethodName := ⟨RX5, "isInTile", "(II)Z"⟩
abbrev cX5_lastStepOf : ByteArray := prog_7_method_14_code
def yX5_lastStepOf : MethodName := ⟨RX5, "lastStepOf", "(II)I"⟩
abbrev cX5_takenInTile : ByteArray := prog_7_method_15_code
def yX5_takenInTile : MethodName := ⟨RX5, "takenInTile", "()I"⟩
abbrev cX5_isUnfinished : ByteArray := prog_7_method_16_code
def yX5_isUnfinished : MethodName := ⟨RX5, "isUnfinished", "()Z"⟩
abbrev cX5_memberOf : ByteArray := prog_7_method_17_code
def yX5_memberOf : MethodName := ⟨RX5, "memberOf", "(II)I"⟩
abbrev cX5_placeOf : ByteArray := prog_7_method_18_code
def yX5_placeOf : MethodName := ⟨RX5, "placeOf", "(II)I"⟩
def RX6 : String := "Pulsemesh"
def TX6 : u_T := fun k => match k with
  | 0 => ("Pulsemesh", "told", "LPulsemesh$Job;", true)
  | 1 => ("Pulsemesh", "cells", "LPulsemesh$Cells;", true)
  | 2 => ("Pulsemesh", "results", "LPulsemesh$Results;", true)
  | 3 => ("Pulsemesh", "work", "LPulsemesh$Work;", true)
  | 4 => ("Pulsemesh", "chosen", "LPulsemesh$Layout;", true)
  | _ => ("Pulsemesh", "tried", "LPulsemesh$Layout;", true)
def tyX6 : Nat → FieldType := fun k => match k with
  | 0 => .object "Pulsemesh$Job"
  | 1 => .object "Pulsemesh$Cells"
  | 2 => .object "Pulsemesh$Results"
  | 3 => .object "Pulsemesh$Work"
  | 4 => .object "Pulsemesh$Layout"
  | _ => .object "Pulsemesh$Layout"
theorem nmX6 : ∀ a, a < 6 → ∀ b, b < 6 → a ≠ b → (TX6 a).2.1 ≠ (TX6 b).2.1 := by decide +kernel
theorem tyX6_ok : ∀ k, k < 6 → parseFieldDescriptor (TX6 k).2.2.1 = some (tyX6 k) := by decide +kernel
abbrev cX6_init : ByteArray := prog_1_method_1_code
def yX6_init : MethodName := ⟨RX6, "<init>", "()V"⟩
abbrev cX6_shape : ByteArray := prog_1_method_2_code
def yX6_shape : MethodName := ⟨RX6, "shape", "(III)I"⟩
abbrev cX6_left : ByteArray := prog_1_method_3_code
def yX6_left : MethodName := ⟨RX6, "left", "(III)I"⟩
abbrev cX6_top : ByteArray := prog_1_method_4_code
def yX6_top : MethodName := ⟨RX6, "top", "(III)I"⟩
abbrev cX6_kind : ByteArray := prog_1_method_5_code
def yX6_kind : MethodName := ⟨RX6, "kind", "(I)I"⟩
abbrev cX6_checked : ByteArray := prog_1_method_6_code
def yX6_checked : MethodName := ⟨RX6, "checked", "(Z)Z"⟩
abbrev cX6_broken : ByteArray := prog_1_method_7_code
def yX6_broken : MethodName := ⟨RX6, "broken", "(IIZ)I"⟩
abbrev cX6_test : ByteArray := prog_1_method_8_code
def yX6_test : MethodName := ⟨RX6, "test", "()I"⟩
abbrev cX6_start : ByteArray := prog_1_method_9_code
def yX6_start : MethodName := ⟨RX6, "start", "()I"⟩
abbrev cX6_beat : ByteArray := prog_1_method_10_code
def yX6_beat : MethodName := ⟨RX6, "beat", "(I)I"⟩
abbrev cX6_bend : ByteArray := prog_1_method_11_code
def yX6_bend : MethodName := ⟨RX6, "bend", "(III)I"⟩
abbrev cX6_check : ByteArray := prog_1_method_12_code
def yX6_check : MethodName := ⟨RX6, "check", "()I"⟩
abbrev cX6_mesh : ByteArray := prog_1_method_13_code
def yX6_mesh : MethodName := ⟨RX6, "mesh", "(I)I"⟩
abbrev cX6_result : ByteArray := prog_1_method_15_code
def yX6_result : MethodName := ⟨RX6, "result", "(II)I"⟩
abbrev cX6_plain : ByteArray := prog_1_method_16_code
def yX6_plain : MethodName := ⟨RX6, "plain", "(II)I"⟩
abbrev cX6_beats : ByteArray := prog_1_method_18_code
def yX6_beats : MethodName := ⟨RX6, "beats", "(II)I"⟩
abbrev cX6_best : ByteArray := prog_1_method_19_code
def yX6_best : MethodName := ⟨RX6, "best", "(I)I"⟩
abbrev cX6_isSound : ByteArray := prog_1_method_21_code
def yX6_isSound : MethodName := ⟨RX6, "isSound", "()Z"⟩
abbrev cX6_digest : ByteArray := prog_1_method_22_code
def yX6_digest : MethodName := ⟨RX6, "digest", "()J"⟩
abbrev cX6_isOperand : ByteArray := prog_1_method_23_code
def yX6_isOperand : MethodName := ⟨RX6, "isOperand", "(I)Z"⟩
abbrev cX6_isOnMesh : ByteArray := prog_1_method_24_code
def yX6_isOnMesh : MethodName := ⟨RX6, "isOnMesh", "(II)Z"⟩
abbrev cX6_meshNumber : ByteArray := prog_1_method_25_code
def yX6_meshNumber : MethodName := ⟨RX6, "meshNumbe\x72", "(I)I"⟩
abbrev cX6_cellNumber : ByteArray := prog_1_method_26_code
def yX6_cellNumber : MethodName := ⟨RX6, "cellNumbe\x72", "(III)I"⟩
abbrev cX6_bestNumber : ByteArray := prog_1_method_28_code
def yX6_bestNumber : MethodName := ⟨RX6, "bestNumbe\x72", "(I)I"⟩
abbrev cX6_savedBeats : ByteArray := prog_1_method_29_code
def yX6_savedBeats : MethodName := ⟨RX6, "savedBeats", "()I"⟩
abbrev cX6_findBest : ByteArray := prog_1_method_30_code
def yX6_findBest : MethodName := ⟨RX6, "findBest", "()V"⟩
abbrev cX6_keepIfBetter : ByteArray := prog_1_method_31_code
def yX6_keepIfBetter : MethodName := ⟨RX6, "keepIfBette\x72", "()V"⟩
abbrev cX6_beatsOn : ByteArray := prog_1_method_32_code
def yX6_beatsOn : MethodName := ⟨RX6, "beatsOn", "(II)I"⟩
abbrev cX6_isAllSound : ByteArray := prog_1_method_33_code
def yX6_isAllSound : MethodName := ⟨RX6, "isAllSound", "()Z"⟩
abbrev cX6_isBestSound : ByteArray := prog_1_method_34_code
def yX6_isBestSound : MethodName := ⟨RX6, "isBestSound", "()Z"⟩
abbrev cX6_doUsesAddUp : ByteArray := prog_1_method_35_code
def yX6_doUsesAddUp : MethodName := ⟨RX6, "doUsesAddUp", "()Z"⟩
abbrev cX6_mix : ByteArray := prog_1_method_36_code
def yX6_mix : MethodName := ⟨RX6, "mix", "(JI)J"⟩
abbrev cX6_mixCells : ByteArray := prog_1_method_37_code
def yX6_mixCells : MethodName := ⟨RX6, "mixCells", "(J)J"⟩
abbrev cX6_mixResults : ByteArray := prog_1_method_38_code
def yX6_mixResults : MethodName := ⟨RX6, "mixResults", "(J)J"⟩
abbrev cX6_mixPlain : ByteArray := prog_1_method_39_code
def yX6_mixPlain : MethodName := ⟨RX6, "mixPlain", "(J)J"⟩
def RX7 : String := "PulsemeshModel$Work"
def TX7 : u_T := fun k => match k with
  | _ => ("", "", "", false)
def tyX7 : Nat → FieldType := fun k => match k with
  | _ => .int
theorem nmX7 : ∀ a, a < 0 → ∀ b, b < 0 → a ≠ b → (TX7 a).2.1 ≠ (TX7 b).2.1 := by decide +kernel
theorem tyX7_ok : ∀ k, k < 0 → parseFieldDescriptor (TX7 k).2.2.1 = some (tyX7 k) := by decide +kernel
def RX8 : String := "PulsemeshModel"
def TX8 : u_T := fun k => match k with
  | _ => ("", "", "", false)
def tyX8 : Nat → FieldType := fun k => match k with
  | _ => .int
theorem nmX8 : ∀ a, a < 0 → ∀ b, b < 0 → a ≠ b → (TX8 a).2.1 ≠ (TX8 b).2.1 := by decide +kernel
theorem tyX8_ok : ∀ k, k < 0 → parseFieldDescriptor (TX8 k).2.2.1 = some (tyX8 k) := by decide +kernel
def RJ6 : String := "java/lang/Intege\x72"
def TJ6 : u_T := fun k => match k with
  | _ => ("", "", "", false)
def tyJ6 : Nat → FieldType := fun k => match k with
  | _ => .int
theorem nmJ6 : ∀ a, a < 0 → ∀ b, b < 0 → a ≠ b → (TJ6 a).2.1 ≠ (TJ6 b).2.1 := by decide +kernel
theorem tyJ6_ok : ∀ k, k < 0 → parseFieldDescriptor (TJ6 k).2.2.1 = some (tyJ6 k) := by decide +kernel
abbrev cJ6_bitCount_0f7a4 : ByteArray := prog_15_method_49_code
def yJ6_bitCount_0f7a4 : MethodName := ⟨RJ6, "bitCount", "(I)I"⟩
def RJ9 : String := "java/lang/Math"
def TJ9 : u_T := fun k => match k with
  | _ => ("", "", "", false)
def tyJ9 : Nat → FieldType := fun k => match k with
  | _ => .int
theorem nmJ9 : ∀ a, a < 0 → ∀ b, b < 0 → a ≠ b → (TJ9 a).2.1 ≠ (TJ9 b).2.1 := by decide +kernel
theorem tyJ9_ok : ∀ k, k < 0 → parseFieldDescriptor (TJ9 k).2.2.1 = some (tyJ9 k) := by decide +kernel
abbrev cJ9_max_7cf53 : ByteArray := prog_16_method_65_code
def yJ9_max_7cf53 : MethodName := ⟨RJ9, "max", "(II)I"⟩
abbrev cJ9_min_7cf53 : ByteArray := prog_16_method_69_code
def yJ9_min_7cf53 : MethodName := ⟨RJ9, "min", "(II)I"⟩
def RJ0 : String := "java/lang/String"
def TJ0 : u_T := fun k => match k with
  | _ => ("", "", "", false)
def tyJ0 : Nat → FieldType := fun k => match k with
  | _ => .int
theorem nmJ0 : ∀ a, a < 0 → ∀ b, b < 0 → a ≠ b → (TJ0 a).2.1 ≠ (TJ0 b).2.1 := by decide +kernel
theorem tyJ0_ok : ∀ k, k < 0 → parseFieldDescriptor (TJ0 k).2.2.1 = some (tyJ0 k) := by decide +kernel
def RL : String := "PulsemeshLaw"
abbrev cL_below : ByteArray := method_2_code
def yL_below : MethodName := ⟨RL, "below", "(II)I"⟩
abbrev cL_cell : ByteArray := method_3_code
def yL_cell : MethodName := ⟨RL, "cell", "([II)I"⟩
abbrev cL_law : ByteArray := code
def yL_law : MethodName := ⟨RL, "law", "([I)Z"⟩
abbrev cL_act : ByteArray := method_5_code
def yL_act : MethodName := ⟨RL, "act", "(LPulsemesh;II)V"⟩
abbrev vwCl : List vw_C := [(RX0, TX0, 4), (RX1, TX1, 7), (RX2, TX2, 10), (RX3, TX3, 4), (RX4, TX4, 1), (RX5, TX5, 11), (RX6, TX6, 6)]
def xn_nw : List Cond := [.methodLinkNest RX6 9 yX1_init "Pulsemesh", .methodLinkNest RX1 11 yX4_init "Pulsemesh", .fieldLinkNest RX6 80 "Pulsemesh$Job" "a" "LPulsemesh$Table;" "Pulsemesh", .fieldLinkNest RX6 98 "Pulsemesh$Job" "b" "LPulsemesh$Table;" "Pulsemesh", .fieldLinkNest RX6 62 "Pulsemesh$Job" "\x72" "I" "Pulsemesh", .fieldLinkNest RX6 66 "Pulsemesh$Job" "k" "I" "Pulsemesh", .fieldLinkNest RX6 93 "Pulsemesh$Job" "c" "I" "Pulsemesh", .fieldLinkNest RX6 103 "Pulsemesh$Job" "reckoning" "I" "Pulsemesh", .fieldLinkNest RX3 38 "Pulsemesh$Job" "hasSums" "Z" "Pulsemesh", .fieldLinkNest RX6 106 "Pulsemesh$Job" "hasSums" "Z" "Pulsemesh", .methodLinkNest RX6 18 yX0_init "Pulsemesh", .methodLinkNest RX0 11 yX4_init "Pulsemesh", .fieldLinkNest RX6 289 "Pulsemesh$Cells" "uses" "LPulsemesh$Table;" "Pulsemesh", .fieldLinkNest RX5 71 "Pulsemesh$Cells" "sums" "LPulsemesh$Table;" "Pulsemesh", .fieldLinkNest RX6 295 "Pulsemesh$Cells" "sums" "LPulsemesh$Table;" "Pulsemesh", .fieldLinkNest RX6 125 "Pulsemesh$Cells" "brokenSet" "I" "Pulsemesh", .fieldLinkNest RX6 271 "Pulsemesh$Cells" "knownSet" "I" "Pulsemesh", .methodLinkNest RX6 25 yX3_init "Pulsemesh", .methodLinkNest RX3 11 yX4_init "Pulsemesh", .fieldLinkNest RX6 176 "Pulsemesh$Results" "values" "LPulsemesh$Table;" "Pulsemesh", .fieldLinkNest RX5 156 "Pulsemesh$Results" "values" "LPulsemesh$Table;" "Pulsemesh", .fieldLinkNest RX6 179 "Pulsemesh$Results" "rows" "I" "Pulsemesh", .fieldLinkNest RX6 283 "Pulsemesh$Results" "columns" "I" "Pulsemesh", .fieldLinkNest RX6 182 "Pulsemesh$Results" "haveSums" "Z" "Pulsemesh", .methodLinkNest RX6 32 yX5_init "Pulsemesh", .methodLinkNest RX5 11 yX1_init "Pulsemesh", .methodLinkNest RX5 20 yX2_init "Pulsemesh", .fieldLinkNest RX5 89 "Pulsemesh$Layout" "jobRows" "I" "Pulsemesh", .fieldLinkNest RX5 101 "Pulsemesh$Layout" "jobColumns" "I" "Pulsemesh", .fieldLinkNest RX5 110 "Pulsemesh$Layout" "steps" "I" "Pulsemesh", .fieldLinkNest RX6 315 "Pulsemesh$Layout" "steps" "I" "Pulsemesh", .fieldLinkNest RX5 127 "Pulsemesh$Layout" "rows" "I" "Pulsemesh", .fieldLinkNest RX6 307 "Pulsemesh$Layout" "rows" "I" "Pulsemesh", .fieldLinkNest RX5 130 "Pulsemesh$Layout" "columns" "I" "Pulsemesh", .fieldLinkNest RX6 308 "Pulsemesh$Layout" "columns" "I" "Pulsemesh", .fieldLinkNest RX5 86 "Pulsemesh$Layout" "height" "I" "Pulsemesh", .fieldLinkNest RX5 98 "Pulsemesh$Layout" "width" "I" "Pulsemesh", .fieldLinkNest RX5 64 "Pulsemesh$Layout" "beatsInAll" "I" "Pulsemesh", .fieldLinkNest RX6 304 "Pulsemesh$Layout" "beatsInAll" "I" "Pulsemesh", .fieldLinkNest RX6 280 "Pulsemesh$Work" "tile" "I" "Pulsemesh", .fieldLinkNest RX6 158 "Pulsemesh$Work" "beatsLeft" "I" "Pulsemesh", .fieldLinkNest RX6 274 "Pulsemesh$Work" "beatsEve\x72" "I" "Pulsemesh", .fieldLinkNest RX6 277 "Pulsemesh$Work" "startsEve\x72" "I" "Pulsemesh", .fieldLinkNest RX6 350 "Pulsemesh$Work" "takenByTilesDone" "I" "Pulsemesh", .methodLinkNest RX6 39 yX2_init "Pulsemesh", .castable "java/lang/IllegalStateException" "java/lang/IllegalStateException", .declares ⟨"java/lang/RuntimeException", "<init>", "()V"⟩, .declares ⟨"java/lang/RuntimeException", "<init>", "(Ljava/lang/String;)V"⟩, .declares ⟨"java/lang/Exception", "<init>", "()V"⟩, .declares ⟨"java/lang/Exception", "<init>", "(Ljava/lang/String;)V"⟩, .declares ⟨"java/lang/Throwable", "<init>", "()V"⟩, .declares ⟨"java/lang/Throwable", "<init>", "(Ljava/lang/String;)V"⟩, .castable "java/lang/IllegalArgumentException" "java/lang/IllegalArgumentException", .castable "java/lang/IndexOutOfBoundsException" "java/lang/IndexOutOfBoundsException"]
theorem xn_nw_tab : ∀ w, w ∈ xn_nw → w.onTables = true := by decide +kernel
theorem xn_nw_kind : ∀ w, w ∈ xn_nw → (∃ a i b n d h, w = .fieldLinkNest a i b n d h) ∨ (∃ a i x h, w = .methodLinkNest a i x h) ∨ (∃ a b, w = .castable a b) ∨ (∃ x, w = .declares x) := by
  unfold xn_nw
  refine List.forall_mem_cons.mpr ⟨Or.inr (Or.inl ⟨_, _, _, _, rfl⟩), ?_⟩
  refine List.forall_mem_cons.mpr ⟨Or.inr (Or.inl ⟨_, _, _, _, rfl⟩), ?_⟩
  refine List.forall_mem_cons.mpr ⟨Or.inl ⟨_, _, _, _, _, _, rfl⟩, ?_⟩
  refine List.forall_mem_cons.mpr ⟨Or.inl ⟨_, _, _, _, _, _, rfl⟩, ?_⟩
  refine List.forall_mem_cons.mpr ⟨Or.inl ⟨_, _, _, _, _, _, rfl⟩, ?_⟩
  refine List.forall_mem_cons.mpr ⟨Or.inl ⟨_, _, _, _, _, _, rfl⟩, ?_⟩
  refine List.forall_mem_cons.mpr ⟨Or.inl ⟨_, _, _, _, _, _, rfl⟩, ?_⟩
  refine List.forall_mem_cons.mpr ⟨Or.inl ⟨_, _, _, _, _, _, rfl⟩, ?_⟩
  refine List.forall_mem_cons.mpr ⟨Or.inl ⟨_, _, _, _, _, _, rfl⟩, ?_⟩
  refine List.forall_mem_cons.mpr ⟨Or.inl ⟨_, _, _, _, _, _, rfl⟩, ?_⟩
  refine List.forall_mem_cons.mpr ⟨Or.inr (Or.inl ⟨_, _, _, _, rfl⟩), ?_⟩
  refine List.forall_mem_cons.mpr ⟨Or.inr (Or.inl ⟨_, _, _, _, rfl⟩), ?_⟩
  refine List.forall_mem_cons.mpr ⟨Or.inl ⟨_, _, _, _, _, _, rfl⟩, ?_⟩
  refine List.forall_mem_cons.mpr ⟨Or.inl ⟨_, _, _, _, _, _, rfl⟩, ?_⟩
  refine List.forall_mem_cons.mpr ⟨Or.inl ⟨_, _, _, _, _, _, rfl⟩, ?_⟩
  refine List.forall_mem_cons.mpr ⟨Or.inl ⟨_, _, _, _, _, _, rfl⟩, ?_⟩
  refine List.forall_mem_cons.mpr ⟨Or.inl ⟨_, _, _, _, _, _, rfl⟩, ?_⟩
  refine List.forall_mem_cons.mpr ⟨Or.inr (Or.inl ⟨_, _, _, _, rfl⟩), ?_⟩
  refine List.forall_mem_cons.mpr ⟨Or.inr (Or.inl ⟨_, _, _, _, rfl⟩), ?_⟩
  refine List.forall_mem_cons.mpr ⟨Or.inl ⟨_, _, _, _, _, _, rfl⟩, ?_⟩
  refine List.forall_mem_cons.mpr ⟨Or.inl ⟨_, _, _, _, _, _, rfl⟩, ?_⟩
  refine List.forall_mem_cons.mpr ⟨Or.inl ⟨_, _, _, _, _, _, rfl⟩, ?_⟩
  refine List.forall_mem_cons.mpr ⟨Or.inl ⟨_, _, _, _, _, _, rfl⟩, ?_⟩
  refine List.forall_mem_cons.mpr ⟨Or.inl ⟨_, _, _, _, _, _, rfl⟩, ?_⟩
  refine List.forall_mem_cons.mpr ⟨Or.inr (Or.inl ⟨_, _, _, _, rfl⟩), ?_⟩
  refine List.forall_mem_cons.mpr ⟨Or.inr (Or.inl ⟨_, _, _, _, rfl⟩), ?_⟩
  refine List.forall_mem_cons.mpr ⟨Or.inr (Or.inl ⟨_, _, _, _, rfl⟩), ?_⟩
  refine List.forall_mem_cons.mpr ⟨Or.inl ⟨_, _, _, _, _, _, rfl⟩, ?_⟩
  refine List.forall_mem_cons.mpr ⟨Or.inl ⟨_, _, _, _, _, _, rfl⟩, ?_⟩
  refine List.forall_mem_cons.mpr ⟨Or.inl ⟨_, _, _, _, _, _, rfl⟩, ?_⟩
  refine List.forall_mem_cons.mpr ⟨Or.inl ⟨_, _, _, _, _, _, rfl⟩, ?_⟩
  refine List.forall_mem_cons.mpr ⟨Or.inl ⟨_, _, _, _, _, _, rfl⟩, ?_⟩
  refine List.forall_mem_cons.mpr ⟨Or.inl ⟨_, _, _, _, _, _, rfl⟩, ?_⟩
  refine List.forall_mem_cons.mpr ⟨Or.inl ⟨_, _, _, _, _, _, rfl⟩, ?_⟩
  refine List.forall_mem_cons.mpr ⟨Or.inl ⟨_, _, _, _, _, _, rfl⟩, ?_⟩
  refine List.forall_mem_cons.mpr ⟨Or.inl ⟨_, _, _, _, _, _, rfl⟩, ?_⟩
  refine List.forall_mem_cons.mpr ⟨Or.inl ⟨_, _, _, _, _, _, rfl⟩, ?_⟩
  refine List.forall_mem_cons.mpr ⟨Or.inl ⟨_, _, _, _, _, _, rfl⟩, ?_⟩
  refine List.forall_mem_cons.mpr ⟨Or.inl ⟨_, _, _, _, _, _, rfl⟩, ?_⟩
  refine List.forall_mem_cons.mpr ⟨Or.inl ⟨_, _, _, _, _, _, rfl⟩, ?_⟩
  refine List.forall_mem_cons.mpr ⟨Or.inl ⟨_, _, _, _, _, _, rfl⟩, ?_⟩
  refine List.forall_mem_cons.mpr ⟨Or.inl ⟨_, _, _, _, _, _, rfl⟩, ?_⟩
  refine List.forall_mem_cons.mpr ⟨Or.inl ⟨_, _, _, _, _, _, rfl⟩, ?_⟩
  refine List.forall_mem_cons.mpr ⟨Or.inl ⟨_, _, _, _, _, _, rfl⟩, ?_⟩
  refine List.forall_mem_cons.mpr ⟨Or.inr (Or.inl ⟨_, _, _, _, rfl⟩), ?_⟩
  refine List.forall_mem_cons.mpr ⟨Or.inr (Or.inr (Or.inl ⟨_, _, rfl⟩)), ?_⟩
  refine List.forall_mem_cons.mpr ⟨Or.inr (Or.inr (Or.inr ⟨_, rfl⟩)), ?_⟩
  refine List.forall_mem_cons.mpr ⟨Or.inr (Or.inr (Or.inr ⟨_, rfl⟩)), ?_⟩
  refine List.forall_mem_cons.mpr ⟨Or.inr (Or.inr (Or.inr ⟨_, rfl⟩)), ?_⟩
  refine List.forall_mem_cons.mpr ⟨Or.inr (Or.inr (Or.inr ⟨_, rfl⟩)), ?_⟩
  refine List.forall_mem_cons.mpr ⟨Or.inr (Or.inr (Or.inr ⟨_, rfl⟩)), ?_⟩
  refine List.forall_mem_cons.mpr ⟨Or.inr (Or.inr (Or.inr ⟨_, rfl⟩)), ?_⟩
  refine List.forall_mem_cons.mpr ⟨Or.inr (Or.inr (Or.inl ⟨_, _, rfl⟩)), ?_⟩
  refine List.forall_mem_cons.mpr ⟨Or.inr (Or.inr (Or.inl ⟨_, _, rfl⟩)), ?_⟩
  exact fun w h => absurd h List.not_mem_nil
theorem xn_nw_warm (w : Cond) (hw : w ∈ xn_nw) {s U : State} (hW : s.WarmedH U.vm) (h : va_Nw w s) : va_Nw w U := by
  rcases xn_nw_kind w hw with ⟨a, i, b, n, d, hh, rfl⟩ | ⟨a, i, x, hh, rfl⟩ | ⟨a, b, rfl⟩ | ⟨x, rfl⟩
  · exact va_Nw.warmF hW h
  · exact va_Nw.warmM hW h
  · exact va_Nw.warmC hW h
  · exact va_Nw.warmD hW h
def xn_nc : List (String × String) := [("java/lang/IllegalArgumentException", "java/lang/IndexOutOfBoundsException"), ("java/lang/IllegalArgumentException", "java/lang/IllegalStateException"), ("java/lang/IndexOutOfBoundsException", "java/lang/IllegalStateException"), ("java/lang/IllegalStateException", "java/lang/IndexOutOfBoundsException")]
def xn_sel : List Cond := []
theorem xn_sel_tab : ∀ w, w ∈ xn_sel → w.onTables = true := by decide +kernel
theorem xn_sel_warm (w : Cond) (hw : w ∈ xn_sel) {s U : State} (hW : s.WarmedH U.vm) (h : va_Nw w s) : va_Nw w U := by
  have hg : ∀ w ∈ xn_sel, goodWord w = true := by decide +kernel
  exact pay_in (args := #[]) (s := s) (big := [w]) (ws := [w]) (fun z hz => by rw [List.mem_singleton.mp hz]; exact h) (fun z hz => ⟨hz, good_of_word (by rw [List.mem_singleton.mp hz]; exact hg w hw)⟩) w List.mem_cons_self #[] U hW
def xn_str : List (String × Nat × String) := [(RX6, 138, "a work runs"), (RX6, 149, "there is no layout"), (RX6, 161, "beats are 1 to 300"), (RX6, 163, "no work runs"), (RX6, 172, "there is no such result"), (RX6, 174, "a result is bent by -999 to 999"), (RX6, 185, "there are no results of a checked work"), (RX6, 190, "what is 0 to 15"), (RX6, 207, "there is no such row or column"), (RX6, 229, "a set of rows or columns is 1 to 31"), (RX6, 238, "what is 0 to 4"), (RX6, 49, "r and c are 1 to 8, k is 1 to 6"), (RX6, 71, "A has no such row or column"), (RX6, 78, "an operand is -9 to 9"), (RX6, 96, "B has no such row or column"), (RX6, 101, "a kind is 0 to 2"), (RX6, 112, "only sums of products can be checked"), (RX6, 119, "the mesh has no such cell")]
