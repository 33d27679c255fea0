def RX0 : String := "Pulsemesh$Cells"
def TX0 : u_T := fun k => match k with
  | 0 => ("Pulsemesh$Cells", "uses", "LPulsemesh$Table;", true)
  | 1 => ("Pulsemesh$Cells", "sums", "LPulsemesh$Table;", true)
  | 2 => ("Pulsemesh$Cells", "brokenSet", "I", false)
  | _ => ("Pulsemesh$Cells", "knownSet", "I", false)
def tyX0 : Nat → FieldType := fun k => match k with
  | 0 => .object "Pulsemesh$Table"
  | 1 => .object "Pulsemesh$Table"
  | 2 => .int
  | _ => .int
theorem nmX0 : ∀ a, a < 4 → ∀ b, b < 4 → a ≠ b → (TX0 a).2.1 ≠ (TX0 b).2.1 := by decide +kernel
theorem tyX0_ok : ∀ k, k < 4 → parseFieldDescriptor (TX0 k).2.2.1 = some (tyX0 k) := by decide +kernel
abbrev cX0_init : ByteArray := prog_2_method_1_code
def yX0_init : MethodName := ⟨RX0, "<init>", "()V"⟩
abbrev cX0_bitOf : ByteArray := prog_2_method_2_code
def yX0_bitOf : MethodName := ⟨RX0, "bitOf", "(II)I"⟩
abbrev cX0_mark : ByteArray := prog_2_method_3_code
def yX0_mark : MethodName := ⟨RX0, "mark", "(IIZ)V"⟩
abbrev cX0_isBrokenAt : ByteArray := prog_2_method_4_code
def yX0_isBrokenAt : MethodName := ⟨RX0, "isBrokenAt", "(II)Z"⟩
abbrev cX0_stateOf : ByteArray := prog_2_method_5_code
def yX0_stateOf : MethodName := ⟨RX0, "stateOf", "(II)I"⟩
abbrev cX0_findBroken : ByteArray := prog_2_method_6_code
def yX0_findBroken : MethodName := ⟨RX0, "findBroken", "()I"⟩
abbrev cX0_areKnownBroken : ByteArray := prog_2_method_7_code
def yX0_areKnownBroken : MethodName := ⟨RX0, "areKnownBroken", "()Z"⟩
abbrev cX0_knownColumns : ByteArray := prog_2_method_8_code
def yX0_knownColumns : MethodName := ⟨RX0, "knownColumns", "(I)I"⟩
abbrev cX0_crossKnown : ByteArray := prog_2_method_9_code
def yX0_crossKnown : MethodName := ⟨RX0, "crossKnown", "(II)Z"⟩
abbrev cX0_takeIn : ByteArray := prog_2_method_10_code
def yX0_takeIn : MethodName := ⟨RX0, "takeIn", "(III)V"⟩
abbrev cX0_sumOfUses : ByteArray := prog_2_method_11_code
def yX0_sumOfUses : MethodName := ⟨RX0, "sumOfUses", "()I"⟩
def RX1 : String := "Pulsemesh$Job"
def TX1 : u_T := fun k => match k with
  | 0 => ("Pulsemesh$Job", "a", "LPulsemesh$Table;", true)
  | 1 => ("Pulsemesh$Job", "b", "LPulsemesh$Table;", true)
  | 2 => ("Pulsemesh$Job", "\x72", "I", false)
  | 3 => ("Pulsemesh$Job", "k", "I", false)
  | 4 => ("Pulsemesh$Job", "c", "I", false)
  | 5 => ("Pulsemesh$Job", "reckoning", "I", false)
  | _ => ("Pulsemesh$Job", "hasSums", "Z", false)
def tyX1 : Nat → FieldType := fun k => match k with
  | 0 => .object "Pulsemesh$Table"
  | 1 => .object "Pulsemesh$Table"
  | 2 => .int
  | 3 => .int
  | 4 => .int
  | 5 => .int
  | _ => .boolean
theorem nmX1 : ∀ a, a < 7 → ∀ b, b < 7 → a ≠ b → (TX1 a).2.1 ≠ (TX1 b).2.1 := by decide +kernel
theorem tyX1_ok : ∀ k, k < 7 → parseFieldDescriptor (TX1 k).2.2.1 = some (tyX1 k) := by decide +kernel
abbrev cX1_init : ByteArray := prog_3_method_1_code
def yX1_init : MethodName := ⟨RX1, "<init>", "()V"⟩
abbrev cX1_reshape : ByteArray := prog_3_method_2_code
def yX1_reshape : MethodName := ⟨RX1, "reshape", "(III)V"⟩
abbrev cX1_copyFrom : ByteArray := prog_3_method_3_code
def yX1_copyFrom : MethodName := ⟨RX1, "copyFrom", "(LPulsemesh$Job;)V"⟩
abbrev cX1_rowsInAll : ByteArray := prog_3_method_4_code
def yX1_rowsInAll : MethodName := ⟨RX1, "rowsInAll", "()I"⟩
abbrev cX1_columnsInAll : ByteArray := prog_3_method_5_code
def yX1_columnsInAll : MethodName := ⟨RX1, "columnsInAll", "()I"⟩
abbrev cX1_countOperands : ByteArray := prog_3_method_6_code
def yX1_countOperands : MethodName := ⟨RX1, "countOperands", "()I"⟩
abbrev cX1_leftOperand : ByteArray := prog_3_method_7_code
def yX1_leftOperand : MethodName := ⟨RX1, "leftOperand", "(II)I"⟩
abbrev cX1_topOperand : ByteArray := prog_3_method_8_code
def yX1_topOperand : MethodName := ⟨RX1, "topOperand", "(II)I"⟩
abbrev cX1_firstSum : ByteArray := prog_3_method_9_code
def yX1_firstSum : MethodName := ⟨RX1, "firstSum", "()I"⟩
abbrev cX1_bringIn : ByteArray := prog_3_method_10_code
def yX1_bringIn : MethodName := ⟨RX1, "bringIn", "(IIII)I"⟩
abbrev cX1_plainOf : ByteArray := prog_3_method_11_code
def yX1_plainOf : MethodName := ⟨RX1, "plainOf", "(II)I"⟩
abbrev cX1_skippedSet : ByteArray := prog_3_method_12_code
def yX1_skippedSet : MethodName := ⟨RX1, "skippedSet", "()I"⟩
abbrev cX1_countSteps : ByteArray := prog_3_method_13_code
def yX1_countSteps : MethodName := ⟨RX1, "countSteps", "()I"⟩
abbrev cX1_isLeftNought : ByteArray := prog_3_method_14_code
def yX1_isLeftNought : MethodName := ⟨RX1, "isLeftNought", "(I)Z"⟩
abbrev cX1_isTopNought : ByteArray := prog_3_method_15_code
def yX1_isTopNought : MethodName := ⟨RX1, "isTopNought", "(I)Z"⟩
def RX2 : String := "Pulsemesh$Layout"
def TX2 : u_T := fun k => match k with
  | 0 => ("Pulsemesh$Layout", "jobRows", "I", false)
  | 1 => ("Pulsemesh$Layout", "jobColumns", "I", false)
  | 2 => ("Pulsemesh$Layout", "steps", "I", false)
  | 3 => ("Pulsemesh$Layout", "rows", "I", false)
  | 4 => ("Pulsemesh$Layout", "columns", "I", false)
  | 5 => ("Pulsemesh$Layout", "height", "I", false)
  | 6 => ("Pulsemesh$Layout", "width", "I", false)
  | 7 => ("Pulsemesh$Layout", "tilesDown", "I", false)
  | 8 => ("Pulsemesh$Layout", "tilesAcross", "I", false)
  | _ => ("Pulsemesh$Layout", "beatsInAll", "I", false)
def tyX2 : Nat → FieldType := fun k => match k with
  | 0 => .int
  | 1 => .int
  | 2 => .int
  | 3 => .int
  | 4 => .int
  | 5 => .int
  | 6 => .int
  | 7 => .int
  | 8 => .int
  | _ => .int
theorem nmX2 : ∀ a, a < 10 → ∀ b, b < 10 → a ≠ b → (TX2 a).2.1 ≠ (TX2 b).2.1 := by decide +kernel
theorem tyX2_ok : ∀ k, k < 10 → parseFieldDescriptor (TX2 k).2.2.1 = some (tyX2 k) := by decide +kernel
abbrev cX2_init : ByteArray := prog_4_method_1_code
def yX2_init : MethodName := ⟨RX2, "<init>", "()V"⟩
abbrev cX2_measure : ByteArray := prog_4_method_2_code
def yX2_measure : MethodName := ⟨RX2, "measure", "(LPulsemesh$Job;)V"⟩
abbrev cX2_lay : ByteArray := prog_4_method_3_code
def yX2_lay : MethodName := ⟨RX2, "lay", "(II)V"⟩
abbrev cX2_copyFrom : ByteArray := prog_4_method_4_code
def yX2_copyFrom : MethodName := ⟨RX2, "copyFrom", "(LPulsemesh$Layout;)V"⟩
abbrev cX2_isEmpty : ByteArray := prog_4_method_5_code
def yX2_isEmpty : MethodName := ⟨RX2, "isEmpty", "()Z"⟩
abbrev cX2_isBetterThan : ByteArray := prog_4_method_6_code
def yX2_isBetterThan : MethodName := ⟨RX2, "isBetterThan", "(LPulsemesh$Layout;)Z"⟩
abbrev cX2_countTiles : ByteArray := prog_4_method_7_code
def yX2_countTiles : MethodName := ⟨RX2, "countTiles", "()I"⟩
abbrev cX2_countEdges : ByteArray := prog_4_method_8_code
def yX2_countEdges : MethodName := ⟨RX2, "countEdges", "()I"⟩
abbrev cX2_countFed : ByteArray := prog_4_method_9_code
def yX2_countFed : MethodName := ⟨RX2, "countFed", "()I"⟩
abbrev cX2_countPieces : ByteArray := prog_4_method_10_code
def yX2_countPieces : MethodName := ⟨RX2, "countPieces", "(II)I"⟩
def RX3 : String := "Pulsemesh$Results"
def TX3 : u_T := fun k => match k with
  | 0 => ("Pulsemesh$Results", "values", "LPulsemesh$Table;", true)
  | 1 => ("Pulsemesh$Results", "rows", "I", false)
  | 2 => ("Pulsemesh$Results", "columns", "I", false)
  | _ => ("Pulsemesh$Results", "haveSums", "Z", false)
def tyX3 : Nat → FieldType := fun k => match k with
  | 0 => .object "Pulsemesh$Table"
  | 1 => .int
  | 2 => .int
  | _ => .boolean
theorem nmX3 : ∀ a, a < 4 → ∀ b, b < 4 → a ≠ b → (TX3 a).2.1 ≠ (TX3 b).2.1 := by decide +kernel
theorem tyX3_ok : ∀ k, k < 4 → parseFieldDescriptor (TX3 k).2.2.1 = some (tyX3 k) := by decide +kernel
abbrev cX3_init : ByteArray := prog_5_method_1_code
def yX3_init : MethodName := ⟨RX3, "<init>", "()V"⟩
abbrev cX3_clear : ByteArray := prog_5_method_2_code
def yX3_clear : MethodName := ⟨RX3, "clea\x72", "()V"⟩
abbrev cX3_open : ByteArray := prog_5_method_3_code
def yX3_open : MethodName := ⟨RX3, "open", "(LPulsemesh$Job;)V"⟩
abbrev cX3_has : ByteArray := prog_5_method_4_code
def yX3_has : MethodName := ⟨RX3, "has", "(II)Z"⟩
abbrev cX3_judge : ByteArray := prog_5_method_5_code
def yX3_judge : MethodName := ⟨RX3, "judge", "()I"⟩
abbrev cX3_mend : ByteArray := prog_5_method_6_code
def yX3_mend : MethodName := ⟨RX3, "mend", "(II)I"⟩
abbrev cX3_rowError : ByteArray := prog_5_method_7_code
def yX3_rowError : MethodName := ⟨RX3, "rowErro\x72", "(I)I"⟩
abbrev cX3_columnError : ByteArray := prog_5_method_8_code
def yX3_columnError : MethodName := ⟨RX3, "columnErro\x72", "(I)I"⟩
def RX4 : String := "Pulsemesh$Table"
def TX4 : u_T := fun k => match k with
  | _ => ("Pulsemesh$Table", "numbers", "[I", true)
def tyX4 : Nat → FieldType := fun k => match k with
  | _ => .array .int
theorem nmX4 : ∀ a, a < 1 → ∀ b, b < 1 → a ≠ b → (TX4 a).2.1 ≠ (TX4 b).2.1 := by decide +kernel
theorem tyX4_ok : ∀ k, k < 1 → parseFieldDescriptor (TX4 k).2.2.1 = some (tyX4 k) := by decide +kernel
abbrev cX4_init : ByteArray := prog_6_method_1_code
def yX4_init : MethodName := ⟨RX4, "<init>", "()V"⟩
abbrev cX4_get : ByteArray := prog_6_method_2_code
def yX4_get : MethodName := ⟨RX4, "get", "(II)I"⟩
abbrev cX4_set : ByteArray := prog_6_method_3_code
def yX4_set : MethodName := ⟨RX4, "set", "(III)V"⟩
abbrev cX4_fill : ByteArray := prog_6_method_4_code
def yX4_fill : MethodName := ⟨RX4, "fill", "(I)V"⟩
abbrev cX4_copyFrom : ByteArray := prog_6_method_5_code
def yX4_copyFrom : MethodName := ⟨RX4, "copyFrom", "(LPulsemesh$Table;)V"⟩
def RX5 : String := "Pulsemesh$Work"
def TX5 : u_T := fun k => match k with
  | 0 => ("Pulsemesh$Work", "job", "LPulsemesh$Job;", true)
  | 1 => ("Pulsemesh$Work", "layout", "LPulsemesh$Layout;", true)
  | 2 => ("Pulsemesh$Work", "skipped", "I", false)
  | 3 => ("Pulsemesh$Work", "tile", "I", false)
  | 4 => ("Pulsemesh$Work", "firstRow", "I", false)
  | 5 => ("Pulsemesh$Work", "firstColumn", "I", false)
  | 6 => ("Pulsemesh$Work", "beatOfTile", "I", false)
  | 7 => ("Pulsemesh$Work", "beatsLeft", "I", false)
  | 8 => ("Pulsemesh$Work", "beatsEve\x72", "I", false)
  | 9 => ("Pulsemesh$Work", "startsEve\x72", "I", false)
  | _ => ("Pulsemesh$Work", "takenByTilesDone", "I", false)
def tyX5 : Nat → FieldType := fun k => match k with
  | 0 => .object "Pulsemesh$Job"
  | 1 => .object "Pulsemesh$Layout"
  | 2 => .int
  | 3 => .int
  | 4 => .int
  | 5 => .int
  | 6 => .int
  | 7 => .int
  | 8 => .int
  | 9 => .int
  | _ => .int
theorem nmX5 : ∀ a, a < 11 → ∀ b, b < 11 → a ≠ b → (TX5 a).2.1 ≠ (TX5 b).2.1 := by decide +kernel
theorem tyX5_ok : ∀ k, k < 11 → parseFieldDescriptor (TX5 k).2.2.1 = some (tyX5 k) := by decide +kernel
abbrev cX5_init : ByteArray := prog_7_method_1_code
def yX5_init : MethodName := ⟨RX5, "<init>", "()V"⟩
abbrev cX5_runs : ByteArray := prog_7_method_2_code
def yX5_runs : MethodName := ⟨RX5, "runs", "()Z"⟩
abbrev cX5_begin : ByteArray := prog_7_method_3_code
def yX5_begin : MethodName := ⟨RX5, "begin", "(LPulsemesh$Job;LPulsemesh$Layout;LPulsemesh$Cells;)V"⟩
abbrev cX5_openTile : ByteArray := prog_7_method_4_code
def yX5_openTile : MethodName := ⟨RX5, "openTile", "(LPulsemesh$Cells;)V"⟩
abbrev cX5_tileRows : ByteArray := prog_7_method_5_code
def yX5_tileRows : MethodName := ⟨RX5, "tileRows", "()I"⟩
abbrev cX5_tileColumns : ByteArray := prog_7_method_6_code
def yX5_tileColumns : MethodName := ⟨RX5, "tileColumns", "()I"⟩
abbrev cX5_beatsOfTile : ByteArray := prog_7_method_7_code
def yX5_beatsOfTile : MethodName := ⟨RX5, "beatsOfTile", "()I"⟩
abbrev cX5_pulse : ByteArray := prog_7_method_8_code
def yX5_pulse : MethodName := ⟨RX5, "pulse", "(LPulsemesh$Cells;LPulsemesh$Results;)V"⟩
abbrev cX5_feed : ByteArray := prog_7_method_9_code
def yX5_feed : MethodName := ⟨RX5, "feed", "(LPulsemesh$Cells;II)V"⟩
abbrev cX5_closeTile : ByteArray := prog_7_method_10_code
def yX5_closeTile : MethodName := ⟨RX5, "closeTile", "(LPulsemesh$Cells;LPulsemesh$Results;)V"⟩
abbrev cX5_drain : ByteArray := prog_7_method_11_code
def yX5_drain : MethodName := ⟨RX5, "drain", "(LPulsemesh$Cells;LPulsemesh$Results;)V"⟩
abbrev cX5_isInLayout : ByteArray := prog_7_method_12_code
def yX5_isInLayout : MethodName := ⟨RX5, "isInLayout", "(II)Z"⟩
abbrev cX5_isInTile : ByteArray := prog_7_method_13_code
def yX5_isInTile : MethodName := ⟨RX5, "isInTile", "(II)Z"⟩
abbrev cX5_lastStepOf : ByteArray := prog_7_method_14_code
def yX5_lastStepOf : MethodName := ⟨RX5, "lastStepOf", "(II)I"⟩
abbrev cX5_takenInTile : ByteArray := prog_7_method_15_code
def yX5_takenInTile : MethodName := ⟨RX5, "takenInTile", "()I"⟩
abbrev cX5_isUnfinished : ByteArray := prog_7_method_16_code
def yX5_isUnfinished : MethodName := ⟨RX5, "isUnfinished", "()Z"⟩
abbrev cX5_memberOf : ByteArray := prog_7_method_17_code
def yX5_memberOf : MethodName := ⟨RX5, "memberOf", "(II)I"⟩
abbrev cX5_placeOf : ByteArray := prog_7_method_18_code
def yX5_placeOf : MethodName := ⟨RX5, "placeOf", "(II)I"⟩
def RX6 : String := "Pulsemesh"
def TX6 : u_T := fun k => match k with
  | 0 => ("Pulsemesh", "told", "LPulsemesh$Job;", true)
  | 1 => ("Pulsemesh", "cells", "LPulsemesh$Cells;", true)
  | 2 => ("Pulsemesh", "results", "LPulsemesh$Results;", true)
  | 3 => ("Pulsemesh", "work", "LPulsemesh$Work;", true)
  | 4 => ("Pulsemesh", "chosen", "LPulsemesh$Layout;", true)
  | _ => ("Pulsemesh", "tried", "LPulsemesh$Layout;", true)
def tyX6 : Nat → FieldType := fun k => match k with
  | 0 => .object "Pulsemesh$Job"
  | 1 => .object "Pulsemesh$Cells"
  | 2 => .object "Pulsemesh$Results"
  | 3 => .object "Pulsemesh$Work"
  | 4 => .object "Pulsemesh$Layout"
  | _ => .object "Pulsemesh$Layout"
theorem nmX6 : ∀ a, a < 6 → ∀ b, b < 6 → a ≠ b → (TX6 a).2.1 ≠ (TX6 b).2.1 := by decide +kernel
theorem tyX6_ok : ∀ k, k < 6 → parseFieldDescriptor (TX6 k).2.2.1 = some (tyX6 k) := by decide +kernel
abbrev cX6_init : ByteArray := prog_1_method_1_code
def yX6_init : MethodName := ⟨RX6, "<init>", "()V"⟩
abbrev cX6_shape : ByteArray := prog_1_method_2_code
def yX6_shape : MethodName := ⟨RX6, "shape", "(III)I"⟩
abbrev cX6_left : ByteArray := prog_1_method_3_code
def yX6_left : MethodName := ⟨RX6, "left", "(III)I"⟩
abbrev cX6_top : ByteArray := prog_1_method_4_code
def yX6_top : MethodName := ⟨RX6, "top", "(III)I"⟩
abbrev cX6_kind : ByteArray := prog_1_method_5_code
def yX6_kind : MethodName := ⟨RX6, "kind", "(I)I"⟩
abbrev cX6_checked : ByteArray := prog_1_method_6_code
def yX6_checked : MethodName := ⟨RX6, "checked", "(Z)Z"⟩
abbrev cX6_broken : ByteArray := prog_1_method_7_code
def yX6_broken : MethodName := ⟨RX6, "broken", "(IIZ)I"⟩
abbrev cX6_test : ByteArray := prog_1_method_8_code
def yX6_test : MethodName := ⟨RX6, "test", "()I"⟩
abbrev cX6_start : ByteArray := prog_1_method_9_code
def yX6_start : MethodName := ⟨RX6, "start", "()I"⟩
abbrev cX6_beat : ByteArray := prog_1_method_10_code
def yX6_beat : MethodName := ⟨RX6, "beat", "(I)I"⟩
abbrev cX6_bend : ByteArray := prog_1_method_11_code
def yX6_bend : MethodName := ⟨RX6, "bend", "(III)I"⟩
abbrev cX6_check : ByteArray := prog_1_method_12_code
def yX6_check : MethodName := ⟨RX6, "check", "()I"⟩
abbrev cX6_mesh : ByteArray := prog_1_method_13_code
def yX6_mesh : MethodName := ⟨RX6, "mesh", "(I)I"⟩
abbrev cX6_ofCell : ByteArray := prog_1_method_14_code
def yX6_ofCell : MethodName := ⟨RX6, "ofCell", "(III)I"⟩
abbrev cX6_result : ByteArray := prog_1_method_15_code
def yX6_result : MethodName := ⟨RX6, "result", "(II)I"⟩
abbrev cX6_plain : ByteArray := prog_1_method_16_code
def yX6_plain : MethodName := ⟨RX6, "plain", "(II)I"⟩
abbrev cX6_row : ByteArray := prog_1_method_17_code
def yX6_row : MethodName := ⟨RX6, "row", "(I)Ljava/lang/String;"⟩
abbrev cX6_beats : ByteArray := prog_1_method_18_code
def yX6_beats : MethodName := ⟨RX6, "beats", "(II)I"⟩
abbrev cX6_best : ByteArray := prog_1_method_19_code
def yX6_best : MethodName := ⟨RX6, "best", "(I)I"⟩
abbrev cX6_saved : ByteArray := prog_1_method_20_code
def yX6_saved : MethodName := ⟨RX6, "saved", "()I"⟩
abbrev cX6_isSound : ByteArray := prog_1_method_21_code
def yX6_isSound : MethodName := ⟨RX6, "isSound", "()Z"⟩
abbrev cX6_digest : ByteArray := prog_1_method_22_code
def yX6_digest : MethodName := ⟨RX6, "digest", "()J"⟩
abbrev cX6_isOperand : ByteArray := prog_1_method_23_code
def yX6_isOperand : MethodName := ⟨RX6, "isOperand", "(I)Z"⟩
abbrev cX6_isOnMesh : ByteArray := prog_1_method_24_code
def yX6_isOnMesh : MethodName := ⟨RX6, "isOnMesh", "(II)Z"⟩
abbrev cX6_meshNumber : ByteArray := prog_1_method_25_code
def yX6_meshNumber : MethodName := ⟨RX6, "meshNumbe\x72", "(I)I"⟩
abbrev cX6_cellNumber : ByteArray := prog_1_method_26_code
def yX6_cellNumber : MethodName := ⟨RX6, "cellNumbe\x72", "(III)I"⟩
abbrev cX6_signOf : ByteArray := prog_1_method_27_code
def yX6_signOf : MethodName := ⟨RX6, "signOf", "(II)C"⟩
abbrev cX6_bestNumber : ByteArray := prog_1_method_28_code
def yX6_bestNumber : MethodName := ⟨RX6, "bestNumbe\x72", "(I)I"⟩
abbrev cX6_savedBeats : ByteArray := prog_1_method_29_code
def yX6_savedBeats : MethodName := ⟨RX6, "savedBeats", "()I"⟩
abbrev cX6_findBest : ByteArray := prog_1_method_30_code
def yX6_findBest : MethodName := ⟨RX6, "findBest", "()V"⟩
abbrev cX6_keepIfBetter : ByteArray := prog_1_method_31_code
def yX6_keepIfBetter : MethodName := ⟨RX6, "keepIfBette\x72", "()V"⟩
abbrev cX6_beatsOn : ByteArray := prog_1_method_32_code
def yX6_beatsOn : MethodName := ⟨RX6, "beatsOn", "(II)I"⟩
abbrev cX6_isAllSound : ByteArray := prog_1_method_33_code
def yX6_isAllSound : MethodName := ⟨RX6, "isAllSound", "()Z"⟩
abbrev cX6_isBestSound : ByteArray := prog_1_method_34_code
def yX6_isBestSound : MethodName := ⟨RX6, "isBestSound", "()Z"⟩
abbrev cX6_doUsesAddUp : ByteArray := prog_1_method_35_code
def yX6_doUsesAddUp : MethodName := ⟨RX6, "doUsesAddUp", "()Z"⟩
abbrev cX6_mix : ByteArray := prog_1_method_36_code
def yX6_mix : MethodName := ⟨RX6, "mix", "(JI)J"⟩
abbrev cX6_mixCells : ByteArray := prog_1_method_37_code
def yX6_mixCells : MethodName := ⟨RX6, "mixCells", "(J)J"⟩
abbrev cX6_mixResults : ByteArray := prog_1_method_38_code
def yX6_mixResults : MethodName := ⟨RX6, "mixResults", "(J)J"⟩
abbrev cX6_mixPlain : ByteArray := prog_1_method_39_code
def yX6_mixPlain : MethodName := ⟨RX6, "mixPlain", "(J)J"⟩
def RX7 : String := "PulsemeshLaw$Out"
def TX7 : u_T := fun k => match k with
  | 0 => ("PulsemeshLaw$Out", "n", "J", false)
  | _ => ("PulsemeshLaw$Out", "s", "Ljava/lang/String;", false)
def tyX7 : Nat → FieldType := fun k => match k with
  | 0 => .long
  | _ => .object "java/lang/String"
theorem nmX7 : ∀ a, a < 2 → ∀ b, b < 2 → a ≠ b → (TX7 a).2.1 ≠ (TX7 b).2.1 := by decide +kernel
theorem tyX7_ok : ∀ k, k < 2 → parseFieldDescriptor (TX7 k).2.2.1 = some (tyX7 k) := by decide +kernel
abbrev cX7_init : ByteArray := prog_9_method_1_code
def yX7_init : MethodName := ⟨RX7, "<init>", "()V"⟩
def RX8 : String := "PulsemeshModel$Work"
def TX8 : u_T := fun k => match k with
  | 0 => ("PulsemeshModel$Work", "\x72", "I", false)
  | 1 => ("PulsemeshModel$Work", "k", "I", false)
  | 2 => ("PulsemeshModel$Work", "c", "I", false)
  | 3 => ("PulsemeshModel$Work", "kind", "I", false)
  | 4 => ("PulsemeshModel$Work", "isChecked", "Z", false)
  | 5 => ("PulsemeshModel$Work", "a", "[[I", false)
  | _ => ("PulsemeshModel$Work", "b", "[[I", false)
def tyX8 : Nat → FieldType := fun k => match k with
  | 0 => .int
  | 1 => .int
  | 2 => .int
  | 3 => .int
  | 4 => .boolean
  | 5 => .array (.array .int)
  | _ => .array (.array .int)
theorem nmX8 : ∀ a, a < 7 → ∀ b, b < 7 → a ≠ b → (TX8 a).2.1 ≠ (TX8 b).2.1 := by decide +kernel
theorem tyX8_ok : ∀ k, k < 7 → parseFieldDescriptor (TX8 k).2.2.1 = some (tyX8 k) := by decide +kernel
abbrev cX8_init : ByteArray := prog_11_method_1_code
def yX8_init : MethodName := ⟨RX8, "<init>", "()V"⟩
abbrev cX8_rows : ByteArray := prog_11_method_2_code
def yX8_rows : MethodName := ⟨RX8, "rows", "()I"⟩
abbrev cX8_columns : ByteArray := prog_11_method_3_code
def yX8_columns : MethodName := ⟨RX8, "columns", "()I"⟩
abbrev cX8_a : ByteArray := prog_11_method_4_code
def yX8_a : MethodName := ⟨RX8, "a", "(II)I"⟩
abbrev cX8_b : ByteArray := prog_11_method_5_code
def yX8_b : MethodName := ⟨RX8, "b", "(II)I"⟩
abbrev cX8_isIdle : ByteArray := prog_11_method_6_code
def yX8_isIdle : MethodName := ⟨RX8, "isIdle", "(I)Z"⟩
abbrev cX8_skipped : ByteArray := prog_11_method_7_code
def yX8_skipped : MethodName := ⟨RX8, "skipped", "()I"⟩
abbrev cX8_steps : ByteArray := prog_11_method_8_code
def yX8_steps : MethodName := ⟨RX8, "steps", "()I"⟩
abbrev cX8_first : ByteArray := prog_11_method_9_code
def yX8_first : MethodName := ⟨RX8, "first", "()I"⟩
abbrev cX8_with : ByteArray := prog_11_method_10_code
def yX8_with : MethodName := ⟨RX8, "with", "(III)I"⟩
abbrev cX8_plain : ByteArray := prog_11_method_11_code
def yX8_plain : MethodName := ⟨RX8, "plain", "(II)I"⟩
abbrev cX8_copy : ByteArray := prog_11_method_12_code
def yX8_copy : MethodName := ⟨RX8, "copy", "()LPulsemeshModel$Work;"⟩
def RX9 : String := "PulsemeshModel"
def TX9 : u_T := fun k => match k with
  | 0 => ("PulsemeshModel", "thrown", "I", false)
  | 1 => ("PulsemeshModel", "work", "LPulsemeshModel$Work;", false)
  | 2 => ("PulsemeshModel", "areBroken", "[[Z", true)
  | 3 => ("PulsemeshModel", "areKnown", "[[Z", true)
  | 4 => ("PulsemeshModel", "uses", "[[I", true)
  | 5 => ("PulsemeshModel", "sums", "[[I", true)
  | 6 => ("PulsemeshModel", "beats", "I", false)
  | 7 => ("PulsemeshModel", "works", "I", false)
  | 8 => ("PulsemeshModel", "taken", "J", false)
  | 9 => ("PulsemeshModel", "now", "LPulsemeshModel$Work;", false)
  | 10 => ("PulsemeshModel", "layRows", "I", false)
  | 11 => ("PulsemeshModel", "layColumns", "I", false)
  | 12 => ("PulsemeshModel", "tile", "I", false)
  | 13 => ("PulsemeshModel", "gone", "I", false)
  | 14 => ("PulsemeshModel", "results", "[[I", false)
  | 15 => ("PulsemeshModel", "areChecked", "Z", false)
  | _ => ("PulsemeshModel", "drained", "[[I", false)
def tyX9 : Nat → FieldType := fun k => match k with
  | 0 => .int
  | 1 => .object "PulsemeshModel$Work"
  | 2 => .array (.array .boolean)
  | 3 => .array (.array .boolean)
  | 4 => .array (.array .int)
  | 5 => .array (.array .int)
  | 6 => .int
  | 7 => .int
  | 8 => .long
  | 9 => .object "PulsemeshModel$Work"
  | 10 => .int
  | 11 => .int
  | 12 => .int
  | 13 => .int
  | 14 => .array (.array .int)
  | 15 => .boolean
  | _ => .array (.array .int)
theorem nmX9 : ∀ a, a < 17 → ∀ b, b < 17 → a ≠ b → (TX9 a).2.1 ≠ (TX9 b).2.1 := by decide +kernel
theorem tyX9_ok : ∀ k, k < 17 → parseFieldDescriptor (TX9 k).2.2.1 = some (tyX9 k) := by decide +kernel
abbrev cX9_isIn : ByteArray := prog_10_method_1_code
def yX9_isIn : MethodName := ⟨RX9, "isIn", "(III)Z"⟩
abbrev cX9_one : ByteArray := prog_10_method_2_code
def yX9_one : MethodName := ⟨RX9, "one", "(Z)I"⟩
abbrev cX9_has : ByteArray := prog_10_method_3_code
def yX9_has : MethodName := ⟨RX9, "has", "(II)Z"⟩
abbrev cX9_nth : ByteArray := prog_10_method_4_code
def yX9_nth : MethodName := ⟨RX9, "nth", "(II)I"⟩
abbrev cX9_init : ByteArray := prog_10_method_5_code
def yX9_init : MethodName := ⟨RX9, "<init>", "()V"⟩
abbrev cX9_lay : ByteArray := prog_10_method_6_code
def yX9_lay : MethodName := ⟨RX9, "lay", "(III)V"⟩
abbrev cX9_thrown : ByteArray := prog_10_method_7_code
def yX9_thrown : MethodName := ⟨RX9, "thrown", "()I"⟩
abbrev cX9_refuse : ByteArray := prog_10_method_8_code
def yX9_refuse : MethodName := ⟨RX9, "refuse", "(ZI)Z"⟩
abbrev cX9_start : ByteArray := prog_10_method_9_code
def yX9_start : MethodName := ⟨RX9, "start", "(ZI)Z"⟩
abbrev cX9_others : ByteArray := prog_10_method_10_code
def yX9_others : MethodName := ⟨RX9, "others", "([[I)I"⟩
abbrev cX9_shape : ByteArray := prog_10_method_11_code
def yX9_shape : MethodName := ⟨RX9, "shape", "(III)I"⟩
abbrev cX9_left : ByteArray := prog_10_method_12_code
def yX9_left : MethodName := ⟨RX9, "left", "(III)I"⟩
abbrev cX9_top : ByteArray := prog_10_method_13_code
def yX9_top : MethodName := ⟨RX9, "top", "(III)I"⟩
abbrev cX9_kind : ByteArray := prog_10_method_14_code
def yX9_kind : MethodName := ⟨RX9, "kind", "(I)I"⟩
abbrev cX9_checked : ByteArray := prog_10_method_15_code
def yX9_checked : MethodName := ⟨RX9, "checked", "(Z)Z"⟩
abbrev cX9_crosses : ByteArray := prog_10_method_16_code
def yX9_crosses : MethodName := ⟨RX9, "crosses", "(II)Z"⟩
abbrev cX9_tiles : ByteArray := prog_10_method_17_code
def yX9_tiles : MethodName := ⟨RX9, "tiles", "(II)I"⟩
abbrev cX9_size : ByteArray := prog_10_method_18_code
def yX9_size : MethodName := ⟨RX9, "size", "(III)I"⟩
abbrev cX9_beatsOf : ByteArray := prog_10_method_19_code
def yX9_beatsOf : MethodName := ⟨RX9, "beatsOf", "(LPulsemeshModel$Work;III)I"⟩
abbrev cX9_bestLayout : ByteArray := prog_10_method_20_code
def yX9_bestLayout : MethodName := ⟨RX9, "bestLayout", "()[I"⟩
abbrev cX9_count : ByteArray := prog_10_method_21_code
def yX9_count : MethodName := ⟨RX9, "count", "([[Z)I"⟩
abbrev cX9_isNoCell : ByteArray := prog_10_method_22_code
def yX9_isNoCell : MethodName := ⟨RX9, "isNoCell", "(II)Z"⟩
abbrev cX9_broken : ByteArray := prog_10_method_23_code
def yX9_broken : MethodName := ⟨RX9, "broken", "(IIZ)I"⟩
abbrev cX9_test : ByteArray := prog_10_method_24_code
def yX9_test : MethodName := ⟨RX9, "test", "()I"⟩
abbrev cX9_h : ByteArray := prog_10_method_25_code
def yX9_h : MethodName := ⟨RX9, "h", "()I"⟩
abbrev cX9_w : ByteArray := prog_10_method_26_code
def yX9_w : MethodName := ⟨RX9, "w", "()I"⟩
abbrev cX9_tileRows : ByteArray := prog_10_method_27_code
def yX9_tileRows : MethodName := ⟨RX9, "tileRows", "()I"⟩
abbrev cX9_tileColumns : ByteArray := prog_10_method_28_code
def yX9_tileColumns : MethodName := ⟨RX9, "tileColumns", "()I"⟩
abbrev cX9_tileBeats : ByteArray := prog_10_method_29_code
def yX9_tileBeats : MethodName := ⟨RX9, "tileBeats", "()I"⟩
abbrev cX9_begin : ByteArray := prog_10_method_30_code
def yX9_begin : MethodName := ⟨RX9, "begin", "()V"⟩
abbrev cX9_start_ : ByteArray := prog_10_method_31_code
def yX9_start_ : MethodName := ⟨RX9, "start", "()I"⟩
abbrev cX9_left_ : ByteArray := prog_10_method_32_code
def yX9_left_ : MethodName := ⟨RX9, "left", "()I"⟩
abbrev cX9_beatsFrom : ByteArray := prog_10_method_33_code
def yX9_beatsFrom : MethodName := ⟨RX9, "beatsFrom", "()I"⟩
abbrev cX9_stepTaken : ByteArray := prog_10_method_34_code
def yX9_stepTaken : MethodName := ⟨RX9, "stepTaken", "(III)I"⟩
abbrev cX9_one_ : ByteArray := prog_10_method_35_code
def yX9_one_ : MethodName := ⟨RX9, "one", "()V"⟩
abbrev cX9_drain : ByteArray := prog_10_method_36_code
def yX9_drain : MethodName := ⟨RX9, "drain", "(II)V"⟩
abbrev cX9_beat : ByteArray := prog_10_method_37_code
def yX9_beat : MethodName := ⟨RX9, "beat", "(I)I"⟩
abbrev cX9_isNoResult : ByteArray := prog_10_method_38_code
def yX9_isNoResult : MethodName := ⟨RX9, "isNoResult", "(II)Z"⟩
abbrev cX9_bend : ByteArray := prog_10_method_39_code
def yX9_bend : MethodName := ⟨RX9, "bend", "(III)I"⟩
abbrev cX9_off : ByteArray := prog_10_method_40_code
def yX9_off : MethodName := ⟨RX9, "off", "(ZI)I"⟩
abbrev cX9_wrong : ByteArray := prog_10_method_41_code
def yX9_wrong : MethodName := ⟨RX9, "wrong", "(Z)I"⟩
abbrev cX9_check : ByteArray := prog_10_method_42_code
def yX9_check : MethodName := ⟨RX9, "check", "()I"⟩
abbrev cX9_severalOr : ByteArray := prog_10_method_43_code
def yX9_severalOr : MethodName := ⟨RX9, "severalO\x72", "(Z)I"⟩
abbrev cX9_meshTold : ByteArray := prog_10_method_44_code
def yX9_meshTold : MethodName := ⟨RX9, "meshTold", "(I)I"⟩
abbrev cX9_mesh : ByteArray := prog_10_method_45_code
def yX9_mesh : MethodName := ⟨RX9, "mesh", "(I)I"⟩
abbrev cX9_placeIn : ByteArray := prog_10_method_46_code
def yX9_placeIn : MethodName := ⟨RX9, "placeIn", "(II)I"⟩
abbrev cX9_does : ByteArray := prog_10_method_47_code
def yX9_does : MethodName := ⟨RX9, "does", "(II)Z"⟩
abbrev cX9_cellTold : ByteArray := prog_10_method_48_code
def yX9_cellTold : MethodName := ⟨RX9, "cellTold", "(III)I"⟩
abbrev cX9_ofCell : ByteArray := prog_10_method_49_code
def yX9_ofCell : MethodName := ⟨RX9, "ofCell", "(III)I"⟩
abbrev cX9_result : ByteArray := prog_10_method_50_code
def yX9_result : MethodName := ⟨RX9, "result", "(II)I"⟩
abbrev cX9_plain : ByteArray := prog_10_method_51_code
def yX9_plain : MethodName := ⟨RX9, "plain", "(II)I"⟩
abbrev cX9_row : ByteArray := prog_10_method_52_code
def yX9_row : MethodName := ⟨RX9, "row", "(I)Ljava/lang/String;"⟩
abbrev cX9_beats : ByteArray := prog_10_method_53_code
def yX9_beats : MethodName := ⟨RX9, "beats", "(II)I"⟩
abbrev cX9_bestTold : ByteArray := prog_10_method_54_code
def yX9_bestTold : MethodName := ⟨RX9, "bestTold", "(I)I"⟩
abbrev cX9_best : ByteArray := prog_10_method_55_code
def yX9_best : MethodName := ⟨RX9, "best", "(I)I"⟩
abbrev cX9_savedNow : ByteArray := prog_10_method_56_code
def yX9_savedNow : MethodName := ⟨RX9, "savedNow", "()I"⟩
abbrev cX9_saved : ByteArray := prog_10_method_57_code
def yX9_saved : MethodName := ⟨RX9, "saved", "()I"⟩
abbrev cX9_isWhole : ByteArray := prog_10_method_58_code
def yX9_isWhole : MethodName := ⟨RX9, "isWhole", "()Z"⟩
abbrev cX9_bestTold0 : ByteArray := prog_10_method_59_code
def yX9_bestTold0 : MethodName := ⟨RX9, "bestTold0", "([I)I"⟩
abbrev cX9_isSound : ByteArray := prog_10_method_60_code
def yX9_isSound : MethodName := ⟨RX9, "isSound", "()Z"⟩
abbrev cX9_add : ByteArray := prog_10_method_61_code
def yX9_add : MethodName := ⟨RX9, "add", "(JJ)J"⟩
abbrev cX9_digest : ByteArray := prog_10_method_62_code
def yX9_digest : MethodName := ⟨RX9, "digest", "()J"⟩
def RJ5 : String := "java/lang/AbstractStringBuilde\x72"
def TJ5 : u_T := fun k => match k with
  | _ => ("", "", "", false)
def tyJ5 : Nat → FieldType := fun k => match k with
  | _ => .int
theorem nmJ5 : ∀ a, a < 0 → ∀ b, b < 0 → a ≠ b → (TJ5 a).2.1 ≠ (TJ5 b).2.1 := by decide +kernel
theorem tyJ5_ok : ∀ k, k < 0 → parseFieldDescriptor (TJ5 k).2.2.1 = some (tyJ5 k) := by decide +kernel
abbrev cJ5_init_d00df : ByteArray := prog_12_method_2_code
def yJ5_init_d00df : MethodName := ⟨RJ5, "<init>", "(I)V"⟩
abbrev cJ5_length_8abf5 : ByteArray := prog_12_method_6_code
def yJ5_length_8abf5 : MethodName := ⟨RJ5, "length", "()I"⟩
abbrev cJ5_ensureCapacityInternal_d00df : ByteArray := prog_12_method_9_code
def yJ5_ensureCapacityInternal_d00df : MethodName := ⟨RJ5, "ensureCapacityInternal", "(I)V"⟩
abbrev cJ5_newCapacity_0f7a4 : ByteArray := prog_12_method_10_code
def yJ5_newCapacity_0f7a4 : MethodName := ⟨RJ5, "newCapacity", "(I)I"⟩
abbrev cJ5_inflate_da8c8 : ByteArray := prog_12_method_11_code
def yJ5_inflate_da8c8 : MethodName := ⟨RJ5, "inflate", "()V"⟩
abbrev cJ5_append_cf1ce : ByteArray := prog_12_method_22_code
def yJ5_append_cf1ce : MethodName := ⟨RJ5, "append", "(Ljava/lang/String;)Ljava/lang/AbstractStringBuilder;"⟩
abbrev cJ5_appendNull_278bc : ByteArray := prog_12_method_26_code
def yJ5_appendNull_278bc : MethodName := ⟨RJ5, "appendNull", "()Ljava/lang/AbstractStringBuilder;"⟩
abbrev cJ5_append_3fe6f : ByteArray := prog_12_method_31_code
def yJ5_append_3fe6f : MethodName := ⟨RJ5, "append", "(C)Ljava/lang/AbstractStringBuilder;"⟩
abbrev cJ5_append_c97b9 : ByteArray := prog_12_method_32_code
def yJ5_append_c97b9 : MethodName := ⟨RJ5, "append", "(I)Ljava/lang/AbstractStringBuilder;"⟩
abbrev cJ5_getValue_6d5f1 : ByteArray := prog_12_method_64_code
def yJ5_getValue_6d5f1 : MethodName := ⟨RJ5, "getValue", "()[B"⟩
abbrev cJ5_isLatin1_aae02 : ByteArray := prog_12_method_68_code
def yJ5_isLatin1_aae02 : MethodName := ⟨RJ5, "isLatin1", "()Z"⟩
abbrev cJ5_inflateIfNeededFor_a7421 : ByteArray := prog_12_method_71_code
def yJ5_inflateIfNeededFor_a7421 : MethodName := ⟨RJ5, "inflateIfNeededFo\x72", "(Ljava/lang/String;)V"⟩
abbrev cJ5_putStringAt_47b60 : ByteArray := prog_12_method_73_code
def yJ5_putStringAt_47b60 : MethodName := ⟨RJ5, "putStringAt", "(ILjava/lang/String;)V"⟩
def RJx8e188 : String := "java/lang/Cloneable"
def TJx8e188 : u_T := fun k => match k with
  | _ => ("", "", "", false)
def tyJx8e188 : Nat → FieldType := fun k => match k with
  | _ => .int
theorem nmJx8e188 : ∀ a, a < 0 → ∀ b, b < 0 → a ≠ b → (TJx8e188 a).2.1 ≠ (TJx8e188 b).2.1 := by decide +kernel
theorem tyJx8e188_ok : ∀ k, k < 0 → parseFieldDescriptor (TJx8e188 k).2.2.1 = some (tyJx8e188 k) := by decide +kernel
def RJ6 : String := "java/lang/Intege\x72"
def TJ6 : u_T := fun k => match k with
  | _ => ("", "", "", false)
def tyJ6 : Nat → FieldType := fun k => match k with
  | _ => .int
theorem nmJ6 : ∀ a, a < 0 → ∀ b, b < 0 → a ≠ b → (TJ6 a).2.1 ≠ (TJ6 b).2.1 := by decide +kernel
theorem tyJ6_ok : ∀ k, k < 0 → parseFieldDescriptor (TJ6 k).2.2.1 = some (tyJ6 k) := by decide +kernel
abbrev cJ6_getChars_ba4f3 : ByteArray := prog_18_method_12_code
def yJ6_getChars_ba4f3 : MethodName := ⟨RJ6, "getChars", "(II[B)I"⟩
abbrev cJ6_stringSize_0f7a4 : ByteArray := prog_18_method_13_code
def yJ6_stringSize_0f7a4 : MethodName := ⟨RJ6, "stringSize", "(I)I"⟩
abbrev cJ6_numberOfTrailingZeros_0f7a4 : ByteArray := prog_18_method_48_code
def yJ6_numberOfTrailingZeros_0f7a4 : MethodName := ⟨RJ6, "numberOfTrailingZeros", "(I)I"⟩
abbrev cJ6_bitCount_0f7a4 : ByteArray := prog_18_method_49_code
def yJ6_bitCount_0f7a4 : MethodName := ⟨RJ6, "bitCount", "(I)I"⟩
def RJ9 : String := "java/lang/Math"
def TJ9 : u_T := fun k => match k with
  | _ => ("", "", "", false)
def tyJ9 : Nat → FieldType := fun k => match k with
  | _ => .int
theorem nmJ9 : ∀ a, a < 0 → ∀ b, b < 0 → a ≠ b → (TJ9 a).2.1 ≠ (TJ9 b).2.1 := by decide +kernel
theorem tyJ9_ok : ∀ k, k < 0 → parseFieldDescriptor (TJ9 k).2.2.1 = some (tyJ9 k) := by decide +kernel
abbrev cJ9_max_7cf53 : ByteArray := prog_19_method_65_code
def yJ9_max_7cf53 : MethodName := ⟨RJ9, "max", "(II)I"⟩
abbrev cJ9_min_7cf53 : ByteArray := prog_19_method_69_code
def yJ9_min_7cf53 : MethodName := ⟨RJ9, "min", "(II)I"⟩
def RJ0 : String := "java/lang/String"
def TJ0 : u_T := fun k => match k with
  | 0 => ("java/lang/String", "value", "[B", true)
  | 1 => ("java/lang/String", "code\x72", "B", true)
  | 2 => ("java/lang/String", "hash", "I", false)
  | _ => ("java/lang/String", "hashIsZero", "Z", false)
def tyJ0 : Nat → FieldType := fun k => match k with
  | 0 => .array .byte
  | 1 => .byte
  | 2 => .int
  | _ => .boolean
theorem nmJ0 : ∀ a, a < 4 → ∀ b, b < 4 → a ≠ b → (TJ0 a).2.1 ≠ (TJ0 b).2.1 := by decide +kernel
theorem tyJ0_ok : ∀ k, k < 4 → parseFieldDescriptor (TJ0 k).2.2.1 = some (tyJ0 k) := by decide +kernel
abbrev cJ0_init_81219 : ByteArray := prog_21_method_53_code
def yJ0_init_81219 : MethodName := ⟨RJ0, "<init>", "(Ljava/lang/StringBuilder;)V"⟩
abbrev cJ0_length_8abf5 : ByteArray := prog_21_method_54_code
def yJ0_length_8abf5 : MethodName := ⟨RJ0, "length", "()I"⟩
abbrev cJ0_equals_9ea2d : ByteArray := prog_21_method_66_code
def yJ0_equals_9ea2d : MethodName := ⟨RJ0, "equals", "(Ljava/lang/Object;)Z"⟩
abbrev cJ0_getBytes_840e7 : ByteArray := prog_21_method_147_code
def yJ0_getBytes_840e7 : MethodName := ⟨RJ0, "getBytes", "([BIB)V"⟩
abbrev cJ0_init_db425 : ByteArray := prog_21_method_150_code
def yJ0_init_db425 : MethodName := ⟨RJ0, "<init>", "(Ljava/lang/AbstractStringBuilder;Ljava/lang/Void;)V"⟩
abbrev cJ0_coder_7d493 : ByteArray := prog_21_method_152_code
def yJ0_coder_7d493 : MethodName := ⟨RJ0, "code\x72", "()B"⟩
abbrev cJ0_checkIndex_df160 : ByteArray := prog_21_method_155_code
def yJ0_checkIndex_df160 : MethodName := ⟨RJ0, "checkIndex", "(II)V"⟩
abbrev cJ0_checkBoundsOffCount_cabcc : ByteArray := prog_21_method_157_code
def yJ0_checkBoundsOffCount_cabcc : MethodName := ⟨RJ0, "checkBoundsOffCount", "(III)I"⟩
abbrev cJ0_checkBoundsBeginEnd_23922 : ByteArray := prog_21_method_158_code
def yJ0_checkBoundsBeginEnd_23922 : MethodName := ⟨RJ0, "checkBoundsBeginEnd", "(III)V"⟩
def RJ4 : String := "java/lang/StringBuilde\x72"
def TJ4 : u_T := fun k => match k with
  | 0 => ("java/lang/AbstractStringBuilde\x72", "value", "[B", false)
  | 1 => ("java/lang/AbstractStringBuilde\x72", "code\x72", "B", false)
  | 2 => ("java/lang/AbstractStringBuilde\x72", "maybeLatin1", "Z", false)
  | _ => ("java/lang/AbstractStringBuilde\x72", "count", "I", false)
def tyJ4 : Nat → FieldType := fun k => match k with
  | 0 => .array .byte
  | 1 => .byte
  | 2 => .boolean
  | _ => .int
theorem nmJ4 : ∀ a, a < 4 → ∀ b, b < 4 → a ≠ b → (TJ4 a).2.1 ≠ (TJ4 b).2.1 := by decide +kernel
theorem tyJ4_ok : ∀ k, k < 4 → parseFieldDescriptor (TJ4 k).2.2.1 = some (tyJ4 k) := by decide +kernel
abbrev cJ4_init_da8c8 : ByteArray := prog_22_method_1_code
def yJ4_init_da8c8 : MethodName := ⟨RJ4, "<init>", "()V"⟩
abbrev cJ4_append_15ec4 : ByteArray := prog_22_method_7_code
def yJ4_append_15ec4 : MethodName := ⟨RJ4, "append", "(Ljava/lang/String;)Ljava/lang/StringBuilder;"⟩
abbrev cJ4_append_cf468 : ByteArray := prog_22_method_14_code
def yJ4_append_cf468 : MethodName := ⟨RJ4, "append", "(C)Ljava/lang/StringBuilder;"⟩
abbrev cJ4_append_bf812 : ByteArray := prog_22_method_15_code
def yJ4_append_bf812 : MethodName := ⟨RJ4, "append", "(I)Ljava/lang/StringBuilder;"⟩
abbrev cJ4_toString_0e30d : ByteArray := prog_22_method_42_code
def yJ4_toString_0e30d : MethodName := ⟨RJ4, "toString", "()Ljava/lang/String;"⟩
abbrev cJ4_length_8abf5 : ByteArray := prog_22_method_93_code
def yJ4_length_8abf5 : MethodName := ⟨RJ4, "length", "()I"⟩
def RJ1 : String := "java/lang/StringLatin1"
def TJ1 : u_T := fun k => match k with
  | _ => ("", "", "", false)
def tyJ1 : Nat → FieldType := fun k => match k with
  | _ => .int
theorem nmJ1 : ∀ a, a < 0 → ∀ b, b < 0 → a ≠ b → (TJ1 a).2.1 ≠ (TJ1 b).2.1 := by decide +kernel
theorem tyJ1_ok : ∀ k, k < 0 → parseFieldDescriptor (TJ1 k).2.2.1 = some (tyJ1 k) := by decide +kernel
abbrev cJ1_canEncode_fc78d : ByteArray := prog_23_method_3_code
def yJ1_canEncode_fc78d : MethodName := ⟨RJ1, "canEncode", "(C)Z"⟩
abbrev cJ1_equals_b5fdf : ByteArray := prog_23_method_13_code
def yJ1_equals_b5fdf : MethodName := ⟨RJ1, "equals", "([B[B)Z"⟩
abbrev cJ1_inflate_0e8fd : ByteArray := prog_23_method_50_code
def yJ1_inflate_0e8fd : MethodName := ⟨RJ1, "inflate", "([BI[BII)V"⟩
def RJ2 : String := "java/lang/StringUTF16"
def TJ2 : u_T := fun k => match k with
  | _ => ("", "", "", false)
def tyJ2 : Nat → FieldType := fun k => match k with
  | _ => .int
theorem nmJ2 : ∀ a, a < 0 → ∀ b, b < 0 → a ≠ b → (TJ2 a).2.1 ≠ (TJ2 b).2.1 := by decide +kernel
theorem tyJ2_ok : ∀ k, k < 0 → parseFieldDescriptor (TJ2 k).2.2.1 = some (tyJ2 k) := by decide +kernel
abbrev cJ2_newBytesFor_77867 : ByteArray := prog_24_method_2_code
def yJ2_newBytesFor_77867 : MethodName := ⟨RJ2, "newBytesFo\x72", "(I)[B"⟩
abbrev cJ2_newBytesLength_0f7a4 : ByteArray := prog_24_method_3_code
def yJ2_newBytesLength_0f7a4 : MethodName := ⟨RJ2, "newBytesLength", "(I)I"⟩
abbrev cJ2_putChar_b72d1 : ByteArray := prog_24_method_4_code
def yJ2_putChar_b72d1 : MethodName := ⟨RJ2, "putCha\x72", "([BII)V"⟩
abbrev cJ2_getChar_3b067 : ByteArray := prog_24_method_5_code
def yJ2_getChar_3b067 : MethodName := ⟨RJ2, "getCha\x72", "([BI)C"⟩
abbrev cJ2_length_9d52b : ByteArray := prog_24_method_6_code
def yJ2_length_9d52b : MethodName := ⟨RJ2, "length", "([B)I"⟩
abbrev cJ2_coderFromArrayLen_85cad : ByteArray := prog_24_method_15_code
def yJ2_coderFromArrayLen_85cad : MethodName := ⟨RJ2, "coderFromArrayLen", "([BI)B"⟩
abbrev cJ2_compress_39247 : ByteArray := prog_24_method_17_code
def yJ2_compress_39247 : MethodName := ⟨RJ2, "compress", "([BII)[B"⟩
abbrev cJ2_compress_5af95 : ByteArray := prog_24_method_22_code
def yJ2_compress_5af95 : MethodName := ⟨RJ2, "compress", "([BI[BII)I"⟩
abbrev cJ2_putCharSB_b72d1 : ByteArray := prog_24_method_71_code
def yJ2_putCharSB_b72d1 : MethodName := ⟨RJ2, "putCharSB", "([BII)V"⟩
abbrev cJ2_getChars_46870 : ByteArray := prog_24_method_77_code
def yJ2_getChars_46870 : MethodName := ⟨RJ2, "getChars", "(III[B)I"⟩
abbrev cJ2_putCharsAt_cd4e5 : ByteArray := prog_24_method_81_code
def yJ2_putCharsAt_cd4e5 : MethodName := ⟨RJ2, "putCharsAt", "([BICCCC)I"⟩
abbrev cJ2_inflate_0e8fd : ByteArray := prog_24_method_86_code
def yJ2_inflate_0e8fd : MethodName := ⟨RJ2, "inflate", "([BI[BII)V"⟩
abbrev cJ2_getChars_ba4f3 : ByteArray := prog_24_method_89_code
def yJ2_getChars_ba4f3 : MethodName := ⟨RJ2, "getChars", "(II[B)I"⟩
abbrev cJ2_checkIndex_2214a : ByteArray := prog_24_method_91_code
def yJ2_checkIndex_2214a : MethodName := ⟨RJ2, "checkIndex", "(I[B)V"⟩
abbrev cJ2_checkBoundsBeginEnd_d044e : ByteArray := prog_24_method_93_code
def yJ2_checkBoundsBeginEnd_d044e : MethodName := ⟨RJ2, "checkBoundsBeginEnd", "(II[B)V"⟩
abbrev cJ2_checkBoundsOffCount_d044e : ByteArray := prog_24_method_94_code
def yJ2_checkBoundsOffCount_d044e : MethodName := ⟨RJ2, "checkBoundsOffCount", "(II[B)V"⟩
def RJ10 : String := "java/lang/System"
def TJ10 : u_T := fun k => match k with
  | _ => ("", "", "", false)
def tyJ10 : Nat → FieldType := fun k => match k with
  | _ => .int
theorem nmJ10 : ∀ a, a < 0 → ∀ b, b < 0 → a ≠ b → (TJ10 a).2.1 ≠ (TJ10 b).2.1 := by decide +kernel
theorem tyJ10_ok : ∀ k, k < 0 → parseFieldDescriptor (TJ10 k).2.2.1 = some (tyJ10 k) := by decide +kernel
def RJ7 : String := "java/util/Arrays"
def TJ7 : u_T := fun k => match k with
  | _ => ("", "", "", false)
def tyJ7 : Nat → FieldType := fun k => match k with
  | _ => .int
theorem nmJ7 : ∀ a, a < 0 → ∀ b, b < 0 → a ≠ b → (TJ7 a).2.1 ≠ (TJ7 b).2.1 := by decide +kernel
theorem tyJ7_ok : ∀ k, k < 0 → parseFieldDescriptor (TJ7 k).2.2.1 = some (tyJ7 k) := by decide +kernel
abbrev cJ7_copyOf_9075b : ByteArray := prog_27_method_121_code
def yJ7_copyOf_9075b : MethodName := ⟨RJ7, "copyOf", "([BI)[B"⟩
abbrev cJ7_checkLength_df160 : ByteArray := prog_27_method_131_code
def yJ7_checkLength_df160 : MethodName := ⟨RJ7, "checkLength", "(II)V"⟩
abbrev cJ7_copyOfRange_39247 : ByteArray := prog_27_method_132_code
def yJ7_copyOfRange_39247 : MethodName := ⟨RJ7, "copyOfRange", "([BII)[B"⟩
abbrev cJ7_copyOfRangeByte_39247 : ByteArray := prog_27_method_133_code
def yJ7_copyOfRangeByte_39247 : MethodName := ⟨RJ7, "copyOfRangeByte", "([BII)[B"⟩
def RJ8 : String := "jdk/internal/util/ArraysSupport"
def TJ8 : u_T := fun k => match k with
  | _ => ("", "", "", false)
def tyJ8 : Nat → FieldType := fun k => match k with
  | _ => .int
theorem nmJ8 : ∀ a, a < 0 → ∀ b, b < 0 → a ≠ b → (TJ8 a).2.1 ≠ (TJ8 b).2.1 := by decide +kernel
theorem tyJ8_ok : ∀ k, k < 0 → parseFieldDescriptor (TJ8 k).2.2.1 = some (tyJ8 k) := by decide +kernel
abbrev cJ8_newLength_cabcc : ByteArray := prog_28_method_27_code
def yJ8_newLength_cabcc : MethodName := ⟨RJ8, "newLength", "(III)I"⟩
abbrev cJ8_hugeLength_7cf53 : ByteArray := prog_28_method_28_code
def yJ8_hugeLength_7cf53 : MethodName := ⟨RJ8, "hugeLength", "(II)I"⟩
def RJ3 : String := "jdk/internal/util/Preconditions"
def TJ3 : u_T := fun k => match k with
  | _ => ("", "", "", false)
def tyJ3 : Nat → FieldType := fun k => match k with
  | _ => .int
theorem nmJ3 : ∀ a, a < 0 → ∀ b, b < 0 → a ≠ b → (TJ3 a).2.1 ≠ (TJ3 b).2.1 := by decide +kernel
theorem tyJ3_ok : ∀ k, k < 0 → parseFieldDescriptor (TJ3 k).2.2.1 = some (tyJ3 k) := by decide +kernel
abbrev cJ3_checkIndex_8e157 : ByteArray := prog_29_method_11_code
def yJ3_checkIndex_8e157 : MethodName := ⟨RJ3, "checkIndex", "(IILjava/util/function/BiFunction;)I"⟩
abbrev cJ3_checkFromToIndex_8c36e : ByteArray := prog_29_method_12_code
def yJ3_checkFromToIndex_8c36e : MethodName := ⟨RJ3, "checkFromToIndex", "(IIILjava/util/function/BiFunction;)I"⟩
abbrev cJ3_checkFromIndexSize_8c36e : ByteArray := prog_29_method_13_code
def yJ3_checkFromIndexSize_8c36e : MethodName := ⟨RJ3, "checkFromIndexSize", "(IIILjava/util/function/BiFunction;)I"⟩
def RL : String := "PulsemeshLaw"
abbrev cL_shape : ByteArray := method_2_code
def yL_shape : MethodName := ⟨RL, "shape", "(LPulsemesh;IIILPulsemeshLaw$Out;)I"⟩
abbrev cL_left : ByteArray := method_3_code
def yL_left : MethodName := ⟨RL, "left", "(LPulsemesh;IIILPulsemeshLaw$Out;)I"⟩
abbrev cL_top : ByteArray := method_4_code
def yL_top : MethodName := ⟨RL, "top", "(LPulsemesh;IIILPulsemeshLaw$Out;)I"⟩
abbrev cL_kind : ByteArray := method_5_code
def yL_kind : MethodName := ⟨RL, "kind", "(LPulsemesh;ILPulsemeshLaw$Out;)I"⟩
abbrev cL_checked : ByteArray := method_6_code
def yL_checked : MethodName := ⟨RL, "checked", "(LPulsemesh;ZLPulsemeshLaw$Out;)I"⟩
abbrev cL_broken : ByteArray := method_7_code
def yL_broken : MethodName := ⟨RL, "broken", "(LPulsemesh;IIZLPulsemeshLaw$Out;)I"⟩
abbrev cL_test : ByteArray := method_8_code
def yL_test : MethodName := ⟨RL, "test", "(LPulsemesh;LPulsemeshLaw$Out;)I"⟩
abbrev cL_start : ByteArray := method_9_code
def yL_start : MethodName := ⟨RL, "start", "(LPulsemesh;LPulsemeshLaw$Out;)I"⟩
abbrev cL_beat : ByteArray := method_10_code
def yL_beat : MethodName := ⟨RL, "beat", "(LPulsemesh;ILPulsemeshLaw$Out;)I"⟩
abbrev cL_bend : ByteArray := method_11_code
def yL_bend : MethodName := ⟨RL, "bend", "(LPulsemesh;IIILPulsemeshLaw$Out;)I"⟩
abbrev cL_check : ByteArray := method_12_code
def yL_check : MethodName := ⟨RL, "check", "(LPulsemesh;LPulsemeshLaw$Out;)I"⟩
abbrev cL_mesh : ByteArray := method_13_code
def yL_mesh : MethodName := ⟨RL, "mesh", "(LPulsemesh;ILPulsemeshLaw$Out;)I"⟩
abbrev cL_ofCell : ByteArray := method_14_code
def yL_ofCell : MethodName := ⟨RL, "ofCell", "(LPulsemesh;IIILPulsemeshLaw$Out;)I"⟩
abbrev cL_result : ByteArray := method_15_code
def yL_result : MethodName := ⟨RL, "result", "(LPulsemesh;IILPulsemeshLaw$Out;)I"⟩
abbrev cL_plain : ByteArray := method_16_code
def yL_plain : MethodName := ⟨RL, "plain", "(LPulsemesh;IILPulsemeshLaw$Out;)I"⟩
abbrev cL_row : ByteArray := method_17_code
def yL_row : MethodName := ⟨RL, "row", "(LPulsemesh;ILPulsemeshLaw$Out;)I"⟩
abbrev cL_beats : ByteArray := method_18_code
def yL_beats : MethodName := ⟨RL, "beats", "(LPulsemesh;IILPulsemeshLaw$Out;)I"⟩
abbrev cL_best : ByteArray := method_19_code
def yL_best : MethodName := ⟨RL, "best", "(LPulsemesh;ILPulsemeshLaw$Out;)I"⟩
abbrev cL_law : ByteArray := code
def yL_law : MethodName := ⟨RL, "law", "([I)Z"⟩
abbrev vwCl : List vw_C := [(RJ0, TJ0, 4), (RJ4, TJ4, 4), (RX0, TX0, 4), (RX1, TX1, 7), (RX2, TX2, 10), (RX3, TX3, 4), (RX4, TX4, 1), (RX5, TX5, 11), (RX6, TX6, 6), (RX7, TX7, 2), (RX8, TX8, 7), (RX9, TX9, 17)]
def xn_nw : List Cond := [.methodLinkNest RX6 9 yX1_init "Pulsemesh", .methodLinkNest RX1 11 yX4_init "Pulsemesh", .fieldLinkNest RX6 80 "Pulsemesh$Job" "a" "LPulsemesh$Table;" "Pulsemesh", .fieldLinkNest RX6 98 "Pulsemesh$Job" "b" "LPulsemesh$Table;" "Pulsemesh", .fieldLinkNest RX6 62 "Pulsemesh$Job" "\x72" "I" "Pulsemesh", .fieldLinkNest RX6 66 "Pulsemesh$Job" "k" "I" "Pulsemesh", .fieldLinkNest RX6 93 "Pulsemesh$Job" "c" "I" "Pulsemesh", .fieldLinkNest RX6 103 "Pulsemesh$Job" "reckoning" "I" "Pulsemesh", .fieldLinkNest RX3 38 "Pulsemesh$Job" "hasSums" "Z" "Pulsemesh", .fieldLinkNest RX6 106 "Pulsemesh$Job" "hasSums" "Z" "Pulsemesh", .methodLinkNest RX6 18 yX0_init "Pulsemesh", .methodLinkNest RX0 11 yX4_init "Pulsemesh", .fieldLinkNest RX6 289 "Pulsemesh$Cells" "uses" "LPulsemesh$Table;" "Pulsemesh", .fieldLinkNest RX5 71 "Pulsemesh$Cells" "sums" "LPulsemesh$Table;" "Pulsemesh", .fieldLinkNest RX6 295 "Pulsemesh$Cells" "sums" "LPulsemesh$Table;" "Pulsemesh", .fieldLinkNest RX6 125 "Pulsemesh$Cells" "brokenSet" "I" "Pulsemesh", .fieldLinkNest RX6 271 "Pulsemesh$Cells" "knownSet" "I" "Pulsemesh", .methodLinkNest RX6 25 yX3_init "Pulsemesh", .methodLinkNest RX3 11 yX4_init "Pulsemesh", .fieldLinkNest RX6 176 "Pulsemesh$Results" "values" "LPulsemesh$Table;" "Pulsemesh", .fieldLinkNest RX5 156 "Pulsemesh$Results" "values" "LPulsemesh$Table;" "Pulsemesh", .fieldLinkNest RX6 179 "Pulsemesh$Results" "rows" "I" "Pulsemesh", .fieldLinkNest RX6 283 "Pulsemesh$Results" "columns" "I" "Pulsemesh", .fieldLinkNest RX6 182 "Pulsemesh$Results" "haveSums" "Z" "Pulsemesh", .methodLinkNest RX6 32 yX5_init "Pulsemesh", .methodLinkNest RX5 11 yX1_init "Pulsemesh", .methodLinkNest RX5 20 yX2_init "Pulsemesh", .fieldLinkNest RX5 89 "Pulsemesh$Layout" "jobRows" "I" "Pulsemesh", .fieldLinkNest RX5 101 "Pulsemesh$Layout" "jobColumns" "I" "Pulsemesh", .fieldLinkNest RX5 110 "Pulsemesh$Layout" "steps" "I" "Pulsemesh", .fieldLinkNest RX6 315 "Pulsemesh$Layout" "steps" "I" "Pulsemesh", .fieldLinkNest RX5 127 "Pulsemesh$Layout" "rows" "I" "Pulsemesh", .fieldLinkNest RX6 307 "Pulsemesh$Layout" "rows" "I" "Pulsemesh", .fieldLinkNest RX5 130 "Pulsemesh$Layout" "columns" "I" "Pulsemesh", .fieldLinkNest RX6 308 "Pulsemesh$Layout" "columns" "I" "Pulsemesh", .fieldLinkNest RX5 86 "Pulsemesh$Layout" "height" "I" "Pulsemesh", .fieldLinkNest RX5 98 "Pulsemesh$Layout" "width" "I" "Pulsemesh", .fieldLinkNest RX5 64 "Pulsemesh$Layout" "beatsInAll" "I" "Pulsemesh", .fieldLinkNest RX6 304 "Pulsemesh$Layout" "beatsInAll" "I" "Pulsemesh", .fieldLinkNest RX6 280 "Pulsemesh$Work" "tile" "I" "Pulsemesh", .fieldLinkNest RX6 158 "Pulsemesh$Work" "beatsLeft" "I" "Pulsemesh", .fieldLinkNest RX6 274 "Pulsemesh$Work" "beatsEve\x72" "I" "Pulsemesh", .fieldLinkNest RX6 277 "Pulsemesh$Work" "startsEve\x72" "I" "Pulsemesh", .fieldLinkNest RX6 350 "Pulsemesh$Work" "takenByTilesDone" "I" "Pulsemesh", .methodLinkNest RX6 39 yX2_init "Pulsemesh", .methodLinkNest RL 90 yX7_init "PulsemeshLaw", .fieldLinkNest RL 13 "PulsemeshLaw$Out" "n" "J" "PulsemeshLaw", .fieldLinkNest RL 76 "PulsemeshLaw$Out" "s" "Ljava/lang/String;" "PulsemeshLaw", .castable "java/lang/IllegalArgumentException" "java/lang/IllegalArgumentException", .declares ⟨"java/lang/RuntimeException", "<init>", "()V"⟩, .declares ⟨"java/lang/RuntimeException", "<init>", "(Ljava/lang/String;)V"⟩, .declares ⟨"java/lang/Exception", "<init>", "()V"⟩, .declares ⟨"java/lang/Exception", "<init>", "(Ljava/lang/String;)V"⟩, .declares ⟨"java/lang/Throwable", "<init>", "()V"⟩, .declares ⟨"java/lang/Throwable", "<init>", "(Ljava/lang/String;)V"⟩, .castable "java/lang/IndexOutOfBoundsException" "java/lang/IndexOutOfBoundsException", .castable "java/lang/IllegalStateException" "java/lang/IllegalStateException", .castable "[B" "java/lang/Cloneable", .methodLinkNest RX9 15 yX8_init "PulsemeshModel", .castable "[Z" "java/lang/Cloneable", .methodLinkNest RX8 17 yX9_one "PulsemeshModel", .castable "[I" "java/lang/Cloneable"]
theorem xn_nw_tab : ∀ w, w ∈ xn_nw → w.onTables = true := by decide +kernel
theorem xn_nw_kind : ∀ w, w ∈ xn_nw → (∃ a i b n d h, w = .fieldLinkNest a i b n d h) ∨ (∃ a i x h, w = .methodLinkNest a i x h) ∨ (∃ a b, w = .castable a b) ∨ (∃ x, w = .declares x) := by
  unfold xn_nw
  refine List.forall_mem_cons.mpr ⟨Or.inr (Or.inl ⟨_, _, _, _, rfl⟩), ?_⟩
  refine List.forall_mem_cons.mpr ⟨Or.inr (Or.inl ⟨_, _, _, _, rfl⟩), ?_⟩
  refine List.forall_mem_cons.mpr ⟨Or.inl ⟨_, _, _, _, _, _, rfl⟩, ?_⟩
  refine List.forall_mem_cons.mpr ⟨Or.inl ⟨_, _, _, _, _, _, rfl⟩, ?_⟩
  refine List.forall_mem_cons.mpr ⟨Or.inl ⟨_, _, _, _, _, _, rfl⟩, ?_⟩
  refine List.forall_mem_cons.mpr ⟨Or.inl ⟨_, _, _, _, _, _, rfl⟩, ?_⟩
  refine List.forall_mem_cons.mpr ⟨Or.inl ⟨_, _, _, _, _, _, rfl⟩, ?_⟩
  refine List.forall_mem_cons.mpr ⟨Or.inl ⟨_, _, _, _, _, _, rfl⟩, ?_⟩
  refine List.forall_mem_cons.mpr ⟨Or.inl ⟨_, _, _, _, _, _, rfl⟩, ?_⟩
  refine List.forall_mem_cons.mpr ⟨Or.inl ⟨_, _, _, _, _, _, rfl⟩, ?_⟩
  refine List.forall_mem_cons.mpr ⟨Or.inr (Or.inl ⟨_, _, _, _, rfl⟩), ?_⟩
  refine List.forall_mem_cons.mpr ⟨Or.inr (Or.inl ⟨_, _, _, _, rfl⟩), ?_⟩
  refine List.forall_mem_cons.mpr ⟨Or.inl ⟨_, _, _, _, _, _, rfl⟩, ?_⟩
  refine List.forall_mem_cons.mpr ⟨Or.inl ⟨_, _, _, _, _, _, rfl⟩, ?_⟩
  refine List.forall_mem_cons.mpr ⟨Or.inl ⟨_, _, _, _, _, _, rfl⟩, ?_⟩
  refine List.forall_mem_cons.mpr ⟨Or.inl ⟨_, _, _, _, _, _, rfl⟩, ?_⟩
  refine List.forall_mem_cons.mpr ⟨Or.inl ⟨_, _, _, _, _, _, rfl⟩, ?_⟩
  refine List.forall_mem_cons.mpr ⟨Or.inr (Or.inl ⟨_, _, _, _, rfl⟩), ?_⟩
  refine List.forall_mem_cons.mpr ⟨Or.inr (Or.inl ⟨_, _, _, _, rfl⟩), ?_⟩
  refine List.forall_mem_cons.mpr ⟨Or.inl ⟨_, _, _, _, _, _, rfl⟩, ?_⟩
  refine List.forall_mem_cons.mpr ⟨Or.inl ⟨_, _, _, _, _, _, rfl⟩, ?_⟩
  refine List.forall_mem_cons.mpr ⟨Or.inl ⟨_, _, _, _, _, _, rfl⟩, ?_⟩
  refine List.forall_mem_cons.mpr ⟨Or.inl ⟨_, _, _, _, _, _, rfl⟩, ?_⟩
  refine List.forall_mem_cons.mpr ⟨Or.inl ⟨_, _, _, _, _, _, rfl⟩, ?_⟩
  refine List.forall_mem_cons.mpr ⟨Or.inr (Or.inl ⟨_, _, _, _, rfl⟩), ?_⟩
  refine List.forall_mem_cons.mpr ⟨Or.inr (Or.inl ⟨_, _, _, _, rfl⟩), ?_⟩
  refine List.forall_mem_cons.mpr ⟨Or.inr (Or.inl ⟨_, _, _, _, rfl⟩), ?_⟩
  refine List.forall_mem_cons.mpr ⟨Or.inl ⟨_, _, _, _, _, _, rfl⟩, ?_⟩
  refine List.forall_mem_cons.mpr ⟨Or.inl ⟨_, _, _, _, _, _, rfl⟩, ?_⟩
  refine List.forall_mem_cons.mpr ⟨Or.inl ⟨_, _, _, _, _, _, rfl⟩, ?_⟩
  refine List.forall_mem_cons.mpr ⟨Or.inl ⟨_, _, _, _, _, _, rfl⟩, ?_⟩
  refine List.forall_mem_cons.mpr ⟨Or.inl ⟨_, _, _, _, _, _, rfl⟩, ?_⟩
  refine List.forall_mem_cons.mpr ⟨Or.inl ⟨_, _, _, _, _, _, rfl⟩, ?_⟩
  refine List.forall_mem_cons.mpr ⟨Or.inl ⟨_, _, _, _, _, _, rfl⟩, ?_⟩
  refine List.forall_mem_cons.mpr ⟨Or.inl ⟨_, _, _, _, _, _, rfl⟩, ?_⟩
  refine List.forall_mem_cons.mpr ⟨Or.inl ⟨_, _, _, _, _, _, rfl⟩, ?_⟩
  refine List.forall_mem_cons.mpr ⟨Or.inl ⟨_, _, _, _, _, _, rfl⟩, ?_⟩
  refine List.forall_mem_cons.mpr ⟨Or.inl ⟨_, _, _, _, _, _, rfl⟩, ?_⟩
  refine List.forall_mem_cons.mpr ⟨Or.inl ⟨_, _, _, _, _, _, rfl⟩, ?_⟩
  refine List.forall_mem_cons.mpr ⟨Or.inl ⟨_, _, _, _, _, _, rfl⟩, ?_⟩
  refine List.forall_mem_cons.mpr ⟨Or.inl ⟨_, _, _, _, _, _, rfl⟩, ?_⟩
  refine List.forall_mem_cons.mpr ⟨Or.inl ⟨_, _, _, _, _, _, rfl⟩, ?_⟩
  refine List.forall_mem_cons.mpr ⟨Or.inl ⟨_, _, _, _, _, _, rfl⟩, ?_⟩
  refine List.forall_mem_cons.mpr ⟨Or.inl ⟨_, _, _, _, _, _, rfl⟩, ?_⟩
  refine List.forall_mem_cons.mpr ⟨Or.inr (Or.inl ⟨_, _, _, _, rfl⟩), ?_⟩
  refine List.forall_mem_cons.mpr ⟨Or.inr (Or.inl ⟨_, _, _, _, rfl⟩), ?_⟩
  refine List.forall_mem_cons.mpr ⟨Or.inl ⟨_, _, _, _, _, _, rfl⟩, ?_⟩
  refine List.forall_mem_cons.mpr ⟨Or.inl ⟨_, _, _, _, _, _, rfl⟩, ?_⟩
  refine List.forall_mem_cons.mpr ⟨Or.inr (Or.inr (Or.inl ⟨_, _, rfl⟩)), ?_⟩
  refine List.forall_mem_cons.mpr ⟨Or.inr (Or.inr (Or.inr ⟨_, rfl⟩)), ?_⟩
  refine List.forall_mem_cons.mpr ⟨Or.inr (Or.inr (Or.inr ⟨_, rfl⟩)), ?_⟩
  refine List.forall_mem_cons.mpr ⟨Or.inr (Or.inr (Or.inr ⟨_, rfl⟩)), ?_⟩
  refine List.forall_mem_cons.mpr ⟨Or.inr (Or.inr (Or.inr ⟨_, rfl⟩)), ?_⟩
  refine List.forall_mem_cons.mpr ⟨Or.inr (Or.inr (Or.inr ⟨_, rfl⟩)), ?_⟩
  refine List.forall_mem_cons.mpr ⟨Or.inr (Or.inr (Or.inr ⟨_, rfl⟩)), ?_⟩
  refine List.forall_mem_cons.mpr ⟨Or.inr (Or.inr (Or.inl ⟨_, _, rfl⟩)), ?_⟩
  refine List.forall_mem_cons.mpr ⟨Or.inr (Or.inr (Or.inl ⟨_, _, rfl⟩)), ?_⟩
  refine List.forall_mem_cons.mpr ⟨Or.inr (Or.inr (Or.inl ⟨_, _, rfl⟩)), ?_⟩
  refine List.forall_mem_cons.mpr ⟨Or.inr (Or.inl ⟨_, _, _, _, rfl⟩), ?_⟩
  refine List.forall_mem_cons.mpr ⟨Or.inr (Or.inr (Or.inl ⟨_, _, rfl⟩)), ?_⟩
  refine List.forall_mem_cons.mpr ⟨Or.inr (Or.inl ⟨_, _, _, _, rfl⟩), ?_⟩
  refine List.forall_mem_cons.mpr ⟨Or.inr (Or.inr (Or.inl ⟨_, _, rfl⟩)), ?_⟩
  exact fun w h => absurd h List.not_mem_nil
theorem xn_nw_warm (w : Cond) (hw : w ∈ xn_nw) {s U : State} (hW : s.WarmedH U.vm) (h : va_Nw w s) : va_Nw w U := by
  rcases xn_nw_kind w hw with ⟨a, i, b, n, d, hh, rfl⟩ | ⟨a, i, x, hh, rfl⟩ | ⟨a, b, rfl⟩ | ⟨x, rfl⟩
  · exact va_Nw.warmF hW h
  · exact va_Nw.warmM hW h
  · exact va_Nw.warmC hW h
  · exact va_Nw.warmD hW h
def xn_nc : List (String × String) := [("java/lang/IllegalArgumentException", "java/lang/IndexOutOfBoundsException"), ("java/lang/IllegalArgumentException", "java/lang/IllegalStateException"), ("java/lang/IndexOutOfBoundsException", "java/lang/IllegalArgumentException"), ("java/lang/IndexOutOfBoundsException", "java/lang/IllegalStateException"), ("java/lang/IllegalStateException", "java/lang/IllegalArgumentException"), ("java/lang/IllegalStateException", "java/lang/IndexOutOfBoundsException")]
def xn_sel : List Cond := [Cond.selects RJ4 yJ5_ensureCapacityInternal_d00df yJ5_ensureCapacityInternal_d00df]
theorem xn_sel_tab : ∀ w, w ∈ xn_sel → w.onTables = true := by decide +kernel
theorem xn_sel_warm (w : Cond) (hw : w ∈ xn_sel) {s U : State} (hW : s.WarmedH U.vm) (h : va_Nw w s) : va_Nw w U := by
  have hg : ∀ w ∈ xn_sel, goodWord w = true := by decide +kernel
  exact pay_in (args := #[]) (s := s) (big := [w]) (ws := [w]) (fun z hz => by rw [List.mem_singleton.mp hz]; exact h) (fun z hz => ⟨hz, good_of_word (by rw [List.mem_singleton.mp hz]; exact hg w hw)⟩) w List.mem_cons_self #[] U hW
def xn_str : List (String × Nat × String) := [(RX6, 49, "r and c are 1 to 8, k is 1 to 6"), (RX6, 71, "A has no such row or column"), (RX6, 78, "an operand is -9 to 9"), (RX6, 96, "B has no such row or column"), (RX6, 101, "a kind is 0 to 2"), (RX6, 112, "only sums of products can be checked"), (RX6, 119, "the mesh has no such cell"), (RX6, 138, "a work runs"), (RX6, 149, "there is no layout"), (RX6, 161, "beats are 1 to 300"), (RX6, 163, "no work runs"), (RX6, 172, "there is no such result"), (RX6, 174, "a result is bent by -999 to 999"), (RX6, 185, "there are no results of a checked work"), (RX6, 190, "what is 0 to 15"), (RX6, 195, "what is 0 to 3"), (RX6, 207, "there is no such row or column"), (RX6, 212, "the mesh has no such row"), (RJ7, 337, " > "), (RX6, 229, "a set of rows or columns is 1 to 31"), (RX6, 238, "what is 0 to 4"), (RX9, 256, "")]
