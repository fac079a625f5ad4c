def RX0 : String := "WallTrumpets$Notes"
def TX0 : u_T := fun k => match k with
  | 0 => ("WallTrumpets$Notes", "trumpets", "[I", true)
  | 1 => ("WallTrumpets$Notes", "rounded", "[I", true)
  | 2 => ("WallTrumpets$Notes", "felled", "[I", true)
  | _ => ("WallTrumpets$Notes", "count", "I", false)
def tyX0 : Nat → FieldType := fun k => match k with
  | 0 => .array .int
  | 1 => .array .int
  | 2 => .array .int
  | _ => .int
abbrev wsX00 : List Cond := u_ws RX0 TX0 4
theorem nmX0 : ∀ a, a < 4 → ∀ b, b < 4 → a ≠ b → (TX0 a).2.1 ≠ (TX0 b).2.1 := by decide +kernel
theorem tyX0_ok : ∀ k, k < 4 → parseFieldDescriptor (TX0 k).2.2.1 = some (tyX0 k) := by decide +kernel
abbrev cX0_init : ByteArray := prog_2_method_1_code
def yX0_init : MethodName := ⟨RX0, "<init>", "()V"⟩
abbrev cX0_isEnded : ByteArray := prog_2_method_2_code
def yX0_isEnded : MethodName := ⟨RX0, "isEnded", "()Z"⟩
abbrev cX0_add : ByteArray := prog_2_method_3_code
def yX0_add : MethodName := ⟨RX0, "add", "(III)V"⟩
abbrev cX0_couldBe : ByteArray := prog_2_method_4_code
def yX0_couldBe : MethodName := ⟨RX0, "couldBe", "(I)Z"⟩
def RX1 : String := "WallTrumpets$OrderSearch"
def TX1 : u_T := fun k => match k with
  | 0 => ("WallTrumpets$OrderSearch", "plan", "LWallTrumpets$Plan;", true)
  | 1 => ("WallTrumpets$OrderSearch", "towns", "[LWallTrumpets$Town;", true)
  | 2 => ("WallTrumpets$OrderSearch", "path", "[I", true)
  | 3 => ("WallTrumpets$OrderSearch", "best", "[I", true)
  | 4 => ("WallTrumpets$OrderSearch", "seen", "[J", true)
  | 5 => ("WallTrumpets$OrderSearch", "seenBy", "[I", true)
  | 6 => ("WallTrumpets$OrderSearch", "length", "I", false)
  | _ => ("WallTrumpets$OrderSearch", "fewest", "I", false)
def tyX1 : Nat → FieldType := fun k => match k with
  | 0 => .object "WallTrumpets$Plan"
  | 1 => .array (.object "WallTrumpets$Town")
  | 2 => .array .int
  | 3 => .array .int
  | 4 => .array .long
  | 5 => .array .int
  | 6 => .int
  | _ => .int
abbrev wsX10 : List Cond := u_ws RX1 TX1 8
theorem nmX1 : ∀ a, a < 8 → ∀ b, b < 8 → a ≠ b → (TX1 a).2.1 ≠ (TX1 b).2.1 := by decide +kernel
theorem tyX1_ok : ∀ k, k < 8 → parseFieldDescriptor (TX1 k).2.2.1 = some (tyX1 k) := by decide +kernel
abbrev cX1_init : ByteArray := prog_3_method_1_code
def yX1_init : MethodName := ⟨RX1, "<init>", "(LWallTrumpets$Plan;)V"⟩
abbrev cX1_run : ByteArray := prog_3_method_2_code
def yX1_run : MethodName := ⟨RX1, "run", "(LWallTrumpets$Town;)V"⟩
abbrev cX1_goOn : ByteArray := prog_3_method_3_code
def yX1_goOn : MethodName := ⟨RX1, "goOn", "(II)V"⟩
abbrev cX1_keepBest : ByteArray := prog_3_method_4_code
def yX1_keepBest : MethodName := ⟨RX1, "keepBest", "(II)V"⟩
abbrev cX1_markOf : ByteArray := prog_3_method_5_code
def yX1_markOf : MethodName := ⟨RX1, "markOf", "(LWallTrumpets$Town;)J"⟩
abbrev cX1_wasSeen : ByteArray := prog_3_method_6_code
def yX1_wasSeen : MethodName := ⟨RX1, "wasSeen", "(JI)Z"⟩
def RX2 : String := "WallTrumpets$Past"
def TX2 : u_T := fun k => match k with
  | 0 => ("WallTrumpets$Past", "towns", "[LWallTrumpets$Town;", true)
  | 1 => ("WallTrumpets$Past", "next", "I", false)
  | _ => ("WallTrumpets$Past", "count", "I", false)
def tyX2 : Nat → FieldType := fun k => match k with
  | 0 => .array (.object "WallTrumpets$Town")
  | 1 => .int
  | _ => .int
abbrev wsX20 : List Cond := u_ws RX2 TX2 3
theorem nmX2 : ∀ a, a < 3 → ∀ b, b < 3 → a ≠ b → (TX2 a).2.1 ≠ (TX2 b).2.1 := by decide +kernel
theorem tyX2_ok : ∀ k, k < 3 → parseFieldDescriptor (TX2 k).2.2.1 = some (tyX2 k) := by decide +kernel
abbrev cX2_init : ByteArray := prog_4_method_1_code
def yX2_init : MethodName := ⟨RX2, "<init>", "(LWallTrumpets$Plan;)V"⟩
abbrev cX2_push : ByteArray := prog_4_method_2_code
def yX2_push : MethodName := ⟨RX2, "push", "(LWallTrumpets$Town;)V"⟩
abbrev cX2_pop : ByteArray := prog_4_method_3_code
def yX2_pop : MethodName := ⟨RX2, "pop", "(LWallTrumpets$Town;)Z"⟩
def RX3 : String := "WallTrumpets$Plan"
def TX3 : u_T := fun k => match k with
  | 0 => ("WallTrumpets$Plan", "persons", "I", false)
  | 1 => ("WallTrumpets$Plan", "stones", "I", false)
  | 2 => ("WallTrumpets$Plan", "kind", "[I", true)
  | 3 => ("WallTrumpets$Plan", "thick", "[I", true)
  | 4 => ("WallTrumpets$Plan", "lean", "[I", true)
  | _ => ("WallTrumpets$Plan", "held", "[I", true)
def tyX3 : Nat → FieldType := fun k => match k with
  | 0 => .int
  | 1 => .int
  | 2 => .array .int
  | 3 => .array .int
  | 4 => .array .int
  | _ => .array .int
abbrev wsX30 : List Cond := u_ws RX3 TX3 6
theorem nmX3 : ∀ a, a < 6 → ∀ b, b < 6 → a ≠ b → (TX3 a).2.1 ≠ (TX3 b).2.1 := by decide +kernel
theorem tyX3_ok : ∀ k, k < 6 → parseFieldDescriptor (TX3 k).2.2.1 = some (tyX3 k) := by decide +kernel
abbrev cX3_init : ByteArray := prog_5_method_1_code
def yX3_init : MethodName := ⟨RX3, "<init>", "()V"⟩
abbrev cX3_clear : ByteArray := prog_5_method_2_code
def yX3_clear : MethodName := ⟨RX3, "clear", "()V"⟩
abbrev cX3_take : ByteArray := prog_5_method_3_code
def yX3_take : MethodName := ⟨RX3, "take", "(CIII)Z"⟩
abbrev cX3_takeWall : ByteArray := prog_5_method_4_code
def yX3_takeWall : MethodName := ⟨RX3, "takeWall", "(III)Z"⟩
abbrev cX3_takeProp : ByteArray := prog_5_method_5_code
def yX3_takeProp : MethodName := ⟨RX3, "takeProp", "(III)Z"⟩
def RX4 : String := "WallTrumpets$Text"
def TX4 : u_T := fun k => match k with
  | 0 => ("WallTrumpets$Text", "letters", "[C", true)
  | 1 => ("WallTrumpets$Text", "numbers", "[I", true)
  | _ => ("WallTrumpets$Text", "length", "I", false)
def tyX4 : Nat → FieldType := fun k => match k with
  | 0 => .array .char
  | 1 => .array .int
  | _ => .int
abbrev wsX40 : List Cond := u_ws RX4 TX4 3
theorem nmX4 : ∀ a, a < 3 → ∀ b, b < 3 → a ≠ b → (TX4 a).2.1 ≠ (TX4 b).2.1 := by decide +kernel
theorem tyX4_ok : ∀ k, k < 3 → parseFieldDescriptor (TX4 k).2.2.1 = some (tyX4 k) := by decide +kernel
abbrev cX4_init : ByteArray := prog_6_method_1_code
def yX4_init : MethodName := ⟨RX4, "<init>", "()V"⟩
abbrev cX4_add : ByteArray := prog_6_method_2_code
def yX4_add : MethodName := ⟨RX4, "add", "(C)V"⟩
abbrev cX4_readInto : ByteArray := prog_6_method_3_code
def yX4_readInto : MethodName := ⟨RX4, "readInto", "(LWallTrumpets$Plan;)I"⟩
abbrev cX4_readItem : ByteArray := prog_6_method_4_code
def yX4_readItem : MethodName := ⟨RX4, "readItem", "(ILWallTrumpets$Plan;)I"⟩
abbrev cX4_letterAt : ByteArray := prog_6_method_5_code
def yX4_letterAt : MethodName := ⟨RX4, "letterAt", "(I)C"⟩
abbrev cX4_isFigure : ByteArray := prog_6_method_6_code
def yX4_isFigure : MethodName := ⟨RX4, "isFigure", "(I)Z"⟩
abbrev cX4_figuresAt : ByteArray := prog_6_method_7_code
def yX4_figuresAt : MethodName := ⟨RX4, "figuresAt", "(I)I"⟩
abbrev cX4_numberAt : ByteArray := prog_6_method_8_code
def yX4_numberAt : MethodName := ⟨RX4, "numberAt", "(II)I"⟩
def RX5 : String := "WallTrumpets$Town"
def TX5 : u_T := fun k => match k with
  | 0 => ("WallTrumpets$Town", "plan", "LWallTrumpets$Plan;", true)
  | 1 => ("WallTrumpets$Town", "thick", "[I", true)
  | 2 => ("WallTrumpets$Town", "rounded", "[I", true)
  | 3 => ("WallTrumpets$Town", "hurt", "[I", true)
  | 4 => ("WallTrumpets$Town", "fell", "[I", true)
  | 5 => ("WallTrumpets$Town", "held", "[I", true)
  | 6 => ("WallTrumpets$Town", "stones", "I", false)
  | _ => ("WallTrumpets$Town", "days", "I", false)
def tyX5 : Nat → FieldType := fun k => match k with
  | 0 => .object "WallTrumpets$Plan"
  | 1 => .array .int
  | 2 => .array .int
  | 3 => .array .int
  | 4 => .array .int
  | 5 => .array .int
  | 6 => .int
  | _ => .int
abbrev wsX50 : List Cond := u_ws RX5 TX5 8
theorem nmX5 : ∀ a, a < 8 → ∀ b, b < 8 → a ≠ b → (TX5 a).2.1 ≠ (TX5 b).2.1 := by decide +kernel
theorem tyX5_ok : ∀ k, k < 8 → parseFieldDescriptor (TX5 k).2.2.1 = some (tyX5 k) := by decide +kernel
abbrev cX5_init : ByteArray := prog_7_method_1_code
def yX5_init : MethodName := ⟨RX5, "<init>", "(LWallTrumpets$Plan;)V"⟩
abbrev cX5_layOut : ByteArray := prog_7_method_2_code
def yX5_layOut : MethodName := ⟨RX5, "layOut", "()V"⟩
abbrev cX5_copyFrom : ByteArray := prog_7_method_3_code
def yX5_copyFrom : MethodName := ⟨RX5, "copyFrom", "(LWallTrumpets$Town;)V"⟩
abbrev cX5_stands : ByteArray := prog_7_method_4_code
def yX5_stands : MethodName := ⟨RX5, "stands", "(I)Z"⟩
abbrev cX5_heldBy : ByteArray := prog_7_method_5_code
def yX5_heldBy : MethodName := ⟨RX5, "heldBy", "(II)I"⟩
abbrev cX5_setProp : ByteArray := prog_7_method_6_code
def yX5_setProp : MethodName := ⟨RX5, "setProp", "(III)V"⟩
abbrev cX5_holdersOf : ByteArray := prog_7_method_7_code
def yX5_holdersOf : MethodName := ⟨RX5, "holdersOf", "(I)I"⟩
abbrev cX5_goRound : ByteArray := prog_7_method_8_code
def yX5_goRound : MethodName := ⟨RX5, "goRound", "(I)V"⟩
abbrev cX5_wouldFall : ByteArray := prog_7_method_9_code
def yX5_wouldFall : MethodName := ⟨RX5, "wouldFall", "(II)Z"⟩
abbrev cX5_leansInward : ByteArray := prog_7_method_10_code
def yX5_leansInward : MethodName := ⟨RX5, "leansInward", "(I)Z"⟩
abbrev cX5_fewestTrumpets : ByteArray := prog_7_method_11_code
def yX5_fewestTrumpets : MethodName := ⟨RX5, "fewestTrumpets", "(I)I"⟩
abbrev cX5_blow : ByteArray := prog_7_method_12_code
def yX5_blow : MethodName := ⟨RX5, "blow", "(II)I"⟩
abbrev cX5_comeDown : ByteArray := prog_7_method_13_code
def yX5_comeDown : MethodName := ⟨RX5, "comeDown", "(II)V"⟩
abbrev cX5_fallWithAll : ByteArray := prog_7_method_14_code
def yX5_fallWithAll : MethodName := ⟨RX5, "fallWithAll", "(III)V"⟩
abbrev cX5_dayGoesBy : ByteArray := prog_7_method_15_code
def yX5_dayGoesBy : MethodName := ⟨RX5, "dayGoesBy", "()V"⟩
abbrev cX5_countDown : ByteArray := prog_7_method_16_code
def yX5_countDown : MethodName := ⟨RX5, "countDown", "()I"⟩
abbrev cX5_countHurt : ByteArray := prog_7_method_17_code
def yX5_countHurt : MethodName := ⟨RX5, "countHurt", "()I"⟩
abbrev cX5_countProps : ByteArray := prog_7_method_18_code
def yX5_countProps : MethodName := ⟨RX5, "countProps", "()I"⟩
def RX6 : String := "WallTrumpets"
def TX6 : u_T := fun k => match k with
  | 0 => ("WallTrumpets", "text", "LWallTrumpets$Text;", true)
  | 1 => ("WallTrumpets", "draft", "LWallTrumpets$Plan;", true)
  | 2 => ("WallTrumpets", "plan", "LWallTrumpets$Plan;", true)
  | 3 => ("WallTrumpets", "now", "LWallTrumpets$Town;", true)
  | 4 => ("WallTrumpets", "trial", "LWallTrumpets$Town;", true)
  | 5 => ("WallTrumpets", "past", "LWallTrumpets$Past;", true)
  | 6 => ("WallTrumpets", "kept", "[LWallTrumpets$Town;", true)
  | 7 => ("WallTrumpets", "keptCount", "I", false)
  | 8 => ("WallTrumpets", "notes", "LWallTrumpets$Notes;", true)
  | _ => ("WallTrumpets", "search", "LWallTrumpets$OrderSearch;", true)
def tyX6 : Nat → FieldType := fun k => match k with
  | 0 => .object "WallTrumpets$Text"
  | 1 => .object "WallTrumpets$Plan"
  | 2 => .object "WallTrumpets$Plan"
  | 3 => .object "WallTrumpets$Town"
  | 4 => .object "WallTrumpets$Town"
  | 5 => .object "WallTrumpets$Past"
  | 6 => .array (.object "WallTrumpets$Town")
  | 7 => .int
  | 8 => .object "WallTrumpets$Notes"
  | _ => .object "WallTrumpets$OrderSearch"
abbrev wsX60 : List Cond := u_ws RX6 TX6 10
theorem nmX6 : ∀ a, a < 10 → ∀ b, b < 10 → a ≠ b → (TX6 a).2.1 ≠ (TX6 b).2.1 := by decide +kernel
theorem tyX6_ok : ∀ k, k < 10 → parseFieldDescriptor (TX6 k).2.2.1 = some (tyX6 k) := by decide +kernel
abbrev cX6_init : ByteArray := prog_1_method_1_code
def yX6_init : MethodName := ⟨RX6, "<init>", "()V"⟩
abbrev cX6_write : ByteArray := prog_1_method_2_code
def yX6_write : MethodName := ⟨RX6, "write", "(I)I"⟩
abbrev cX6_wipe : ByteArray := prog_1_method_3_code
def yX6_wipe : MethodName := ⟨RX6, "wipe", "()I"⟩
abbrev cX6_fault : ByteArray := prog_1_method_4_code
def yX6_fault : MethodName := ⟨RX6, "fault", "()I"⟩
abbrev cX6_lay : ByteArray := prog_1_method_5_code
def yX6_lay : MethodName := ⟨RX6, "lay", "()I"⟩
abbrev cX6_wall : ByteArray := prog_1_method_6_code
def yX6_wall : MethodName := ⟨RX6, "wall", "(II)I"⟩
abbrev cX6_holds : ByteArray := prog_1_method_7_code
def yX6_holds : MethodName := ⟨RX6, "holds", "(II)I"⟩
abbrev cX6_round : ByteArray := prog_1_method_8_code
def yX6_round : MethodName := ⟨RX6, "round", "(I)I"⟩
abbrev cX6_blast : ByteArray := prog_1_method_9_code
def yX6_blast : MethodName := ⟨RX6, "blast", "(II)I"⟩
abbrev cX6_pass : ByteArray := prog_1_method_10_code
def yX6_pass : MethodName := ⟨RX6, "pass", "(I)I"⟩
abbrev cX6_prop : ByteArray := prog_1_method_11_code
def yX6_prop : MethodName := ⟨RX6, "prop", "(III)I"⟩
abbrev cX6_use : ByteArray := prog_1_method_12_code
def yX6_use : MethodName := ⟨RX6, "use", "(I)I"⟩
abbrev cX6_undo : ByteArray := prog_1_method_13_code
def yX6_undo : MethodName := ⟨RX6, "undo", "()I"⟩
abbrev cX6_calls : ByteArray := prog_1_method_14_code
def yX6_calls : MethodName := ⟨RX6, "calls", "(I)I"⟩
abbrev cX6_rounds : ByteArray := prog_1_method_15_code
def yX6_rounds : MethodName := ⟨RX6, "rounds", "(II)I"⟩
abbrev cX6_key : ByteArray := prog_1_method_16_code
def yX6_key : MethodName := ⟨RX6, "key", "(I)I"⟩
abbrev cX6_order : ByteArray := prog_1_method_17_code
def yX6_order : MethodName := ⟨RX6, "order", "(I)I"⟩
abbrev cX6_save : ByteArray := prog_1_method_18_code
def yX6_save : MethodName := ⟨RX6, "save", "(II)I"⟩
abbrev cX6_built : ByteArray := prog_1_method_19_code
def yX6_built : MethodName := ⟨RX6, "built", "(I)I"⟩
abbrev cX6_note : ByteArray := prog_1_method_20_code
def yX6_note : MethodName := ⟨RX6, "note", "(III)I"⟩
abbrev cX6_forget : ByteArray := prog_1_method_21_code
def yX6_forget : MethodName := ⟨RX6, "forget", "()I"⟩
abbrev cX6_thick : ByteArray := prog_1_method_22_code
def yX6_thick : MethodName := ⟨RX6, "thick", "(I)I"⟩
abbrev cX6_fail : ByteArray := prog_1_method_23_code
def yX6_fail : MethodName := ⟨RX6, "fail", "(IIII)I"⟩
abbrev cX6_year : ByteArray := prog_1_method_24_code
def yX6_year : MethodName := ⟨RX6, "year", "(III)I"⟩
abbrev cX6_keep : ByteArray := prog_1_method_25_code
def yX6_keep : MethodName := ⟨RX6, "keep", "()I"⟩
abbrev cX6_back : ByteArray := prog_1_method_26_code
def yX6_back : MethodName := ⟨RX6, "back", "()I"⟩
abbrev cX6_count : ByteArray := prog_1_method_27_code
def yX6_count : MethodName := ⟨RX6, "count", "(I)I"⟩
abbrev cX6_isOutside : ByteArray := prog_1_method_28_code
def yX6_isOutside : MethodName := ⟨RX6, "isOutside", "(III)Z"⟩
abbrev cX6_isNoWall : ByteArray := prog_1_method_29_code
def yX6_isNoWall : MethodName := ⟨RX6, "isNoWall", "(I)Z"⟩
abbrev cX6_isNoPair : ByteArray := prog_1_method_30_code
def yX6_isNoPair : MethodName := ⟨RX6, "isNoPair", "(II)Z"⟩
abbrev cX6_othersDownBy : ByteArray := prog_1_method_31_code
def yX6_othersDownBy : MethodName := ⟨RX6, "othersDownBy", "(I)I"⟩
abbrev cX6_standsWithout : ByteArray := prog_1_method_32_code
def yX6_standsWithout : MethodName := ⟨RX6, "standsWithout", "(III)Z"⟩
abbrev cX6_drawAhead : ByteArray := prog_1_method_33_code
def yX6_drawAhead : MethodName := ⟨RX6, "drawAhead", "(II)V"⟩
abbrev cX6_power : ByteArray := prog_1_method_34_code
def yX6_power : MethodName := ⟨RX6, "power", "(II)J"⟩
abbrev cX6_greatestShared : ByteArray := prog_1_method_35_code
def yX6_greatestShared : MethodName := ⟨RX6, "greatestShared", "(JJ)J"⟩
def RX7 : String := "WallTrumpetsModel"
def TX7 : u_T := fun k => match k with
  | 0 => ("WallTrumpetsModel", "w", "[I", true)
  | 1 => ("WallTrumpetsModel", "undoes", "I", false)
  | 2 => ("WallTrumpetsModel", "kept", "I", false)
  | 3 => ("WallTrumpetsModel", "walls", "I", false)
  | 4 => ("WallTrumpetsModel", "kind", "[I", true)
  | 5 => ("WallTrumpetsModel", "laid", "[I", true)
  | 6 => ("WallTrumpetsModel", "leans", "[I", true)
  | 7 => ("WallTrumpetsModel", "noted", "I", false)
  | 8 => ("WallTrumpetsModel", "noteMany", "[I", true)
  | 9 => ("WallTrumpetsModel", "noteRound", "[I", true)
  | 10 => ("WallTrumpetsModel", "noteFelled", "[I", true)
  | 11 => ("WallTrumpetsModel", "text", "[I", true)
  | 12 => ("WallTrumpetsModel", "texted", "I", false)
  | 13 => ("WallTrumpetsModel", "place", "I", false)
  | 14 => ("WallTrumpetsModel", "number", "I", false)
  | 15 => ("WallTrumpetsModel", "readWalls", "I", false)
  | 16 => ("WallTrumpetsModel", "readWall", "[I", true)
  | 17 => ("WallTrumpetsModel", "readProp", "[I", true)
  | 18 => ("WallTrumpetsModel", "readStones", "I", false)
  | 19 => ("WallTrumpetsModel", "fallen", "[I", true)
  | 20 => ("WallTrumpetsModel", "next", "[I", true)
  | 21 => ("WallTrumpetsModel", "blasted", "[I", true)
  | 22 => ("WallTrumpetsModel", "sums", "[I", true)
  | 23 => ("WallTrumpetsModel", "best", "[I", true)
  | _ => ("WallTrumpetsModel", "bestMany", "I", false)
def tyX7 : Nat → FieldType := fun k => match k with
  | 0 => .array .int
  | 1 => .int
  | 2 => .int
  | 3 => .int
  | 4 => .array .int
  | 5 => .array .int
  | 6 => .array .int
  | 7 => .int
  | 8 => .array .int
  | 9 => .array .int
  | 10 => .array .int
  | 11 => .array .int
  | 12 => .int
  | 13 => .int
  | 14 => .int
  | 15 => .int
  | 16 => .array .int
  | 17 => .array .int
  | 18 => .int
  | 19 => .array .int
  | 20 => .array .int
  | 21 => .array .int
  | 22 => .array .int
  | 23 => .array .int
  | _ => .int
abbrev wsX70 : List Cond := u_ws RX7 TX7 25
theorem nmX7 : ∀ a, a < 25 → ∀ b, b < 25 → a ≠ b → (TX7 a).2.1 ≠ (TX7 b).2.1 := by decide +kernel
theorem tyX7_ok : ∀ k, k < 25 → parseFieldDescriptor (TX7 k).2.2.1 = some (tyX7 k) := by decide +kernel
abbrev cX7_init : ByteArray := prog_9_method_1_code
def yX7_init : MethodName := ⟨RX7, "<init>", "()V"⟩
abbrev cX7_in : ByteArray := prog_9_method_3_code
def yX7_in : MethodName := ⟨RX7, "in", "(JJJ)Z"⟩
abbrev cX7_has : ByteArray := prog_9_method_4_code
def yX7_has : MethodName := ⟨RX7, "has", "(II)Z"⟩
abbrev cX7_ones : ByteArray := prog_9_method_5_code
def yX7_ones : MethodName := ⟨RX7, "ones", "(I)I"⟩
abbrev cX7_copy : ByteArray := prog_9_method_6_code
def yX7_copy : MethodName := ⟨RX7, "copy", "(II)V"⟩
abbrev cX7_isWall : ByteArray := prog_9_method_7_code
def yX7_isWall : MethodName := ⟨RX7, "isWall", "(I)Z"⟩
abbrev cX7_starts : ByteArray := prog_9_method_8_code
def yX7_starts : MethodName := ⟨RX7, "starts", "()V"⟩
abbrev cX7_addsWall : ByteArray := prog_9_method_9_code
def yX7_addsWall : MethodName := ⟨RX7, "addsWall", "(III)V"⟩
abbrev cX7_begins : ByteArray := prog_9_method_10_code
def yX7_begins : MethodName := ⟨RX7, "begins", "()V"⟩
abbrev cX7_write : ByteArray := prog_9_method_11_code
def yX7_write : MethodName := ⟨RX7, "write", "(I)I"⟩
abbrev cX7_wipe : ByteArray := prog_9_method_12_code
def yX7_wipe : MethodName := ⟨RX7, "wipe", "()I"⟩
abbrev cX7_letterAt : ByteArray := prog_9_method_13_code
def yX7_letterAt : MethodName := ⟨RX7, "letterAt", "(I)I"⟩
abbrev cX7_takesNumber : ByteArray := prog_9_method_14_code
def yX7_takesNumber : MethodName := ⟨RX7, "takesNumber", "(III)Z"⟩
abbrev cX7_takesWall : ByteArray := prog_9_method_15_code
def yX7_takesWall : MethodName := ⟨RX7, "takesWall", "()Z"⟩
abbrev cX7_takesProp : ByteArray := prog_9_method_16_code
def yX7_takesProp : MethodName := ⟨RX7, "takesProp", "()Z"⟩
abbrev cX7_takesStones : ByteArray := prog_9_method_17_code
def yX7_takesStones : MethodName := ⟨RX7, "takesStones", "()Z"⟩
abbrev cX7_takesItem : ByteArray := prog_9_method_18_code
def yX7_takesItem : MethodName := ⟨RX7, "takesItem", "()Z"⟩
abbrev cX7_faultOf : ByteArray := prog_9_method_19_code
def yX7_faultOf : MethodName := ⟨RX7, "faultOf", "()I"⟩
abbrev cX7_fault : ByteArray := prog_9_method_20_code
def yX7_fault : MethodName := ⟨RX7, "fault", "()I"⟩
abbrev cX7_lay : ByteArray := prog_9_method_21_code
def yX7_lay : MethodName := ⟨RX7, "lay", "()I"⟩
abbrev cX7_wall : ByteArray := prog_9_method_22_code
def yX7_wall : MethodName := ⟨RX7, "wall", "(II)I"⟩
abbrev cX7_holds : ByteArray := prog_9_method_23_code
def yX7_holds : MethodName := ⟨RX7, "holds", "(II)I"⟩
abbrev cX7_stands : ByteArray := prog_9_method_24_code
def yX7_stands : MethodName := ⟨RX7, "stands", "(II)Z"⟩
abbrev cX7_fellsOne : ByteArray := prog_9_method_25_code
def yX7_fellsOne : MethodName := ⟨RX7, "fellsOne", "(IIZ)Z"⟩
abbrev cX7_falls : ByteArray := prog_9_method_26_code
def yX7_falls : MethodName := ⟨RX7, "falls", "(IIZ)V"⟩
abbrev cX7_wouldFall : ByteArray := prog_9_method_27_code
def yX7_wouldFall : MethodName := ⟨RX7, "wouldFall", "(III)Z"⟩
abbrev cX7_blasts : ByteArray := prog_9_method_28_code
def yX7_blasts : MethodName := ⟨RX7, "blasts", "(III)I"⟩
abbrev cX7_roundsOne : ByteArray := prog_9_method_29_code
def yX7_roundsOne : MethodName := ⟨RX7, "roundsOne", "(II)V"⟩
abbrev cX7_passes : ByteArray := prog_9_method_30_code
def yX7_passes : MethodName := ⟨RX7, "passes", "(I)V"⟩
abbrev cX7_minds : ByteArray := prog_9_method_31_code
def yX7_minds : MethodName := ⟨RX7, "minds", "()V"⟩
abbrev cX7_round : ByteArray := prog_9_method_32_code
def yX7_round : MethodName := ⟨RX7, "round", "(I)I"⟩
abbrev cX7_blast : ByteArray := prog_9_method_33_code
def yX7_blast : MethodName := ⟨RX7, "blast", "(II)I"⟩
abbrev cX7_pass : ByteArray := prog_9_method_34_code
def yX7_pass : MethodName := ⟨RX7, "pass", "(I)I"⟩
abbrev cX7_prop : ByteArray := prog_9_method_35_code
def yX7_prop : MethodName := ⟨RX7, "prop", "(III)I"⟩
abbrev cX7_use : ByteArray := prog_9_method_36_code
def yX7_use : MethodName := ⟨RX7, "use", "(I)I"⟩
abbrev cX7_undo : ByteArray := prog_9_method_37_code
def yX7_undo : MethodName := ⟨RX7, "undo", "()I"⟩
abbrev cX7_callsIn : ByteArray := prog_9_method_38_code
def yX7_callsIn : MethodName := ⟨RX7, "callsIn", "(II)I"⟩
abbrev cX7_calls : ByteArray := prog_9_method_39_code
def yX7_calls : MethodName := ⟨RX7, "calls", "(I)I"⟩
abbrev cX7_tries : ByteArray := prog_9_method_40_code
def yX7_tries : MethodName := ⟨RX7, "tries", "()V"⟩
abbrev cX7_rounds : ByteArray := prog_9_method_41_code
def yX7_rounds : MethodName := ⟨RX7, "rounds", "(II)I"⟩
abbrev cX7_downOnes : ByteArray := prog_9_method_42_code
def yX7_downOnes : MethodName := ⟨RX7, "downOnes", "(I)I"⟩
abbrev cX7_key : ByteArray := prog_9_method_43_code
def yX7_key : MethodName := ⟨RX7, "key", "(I)I"⟩
abbrev cX7_bestOrder : ByteArray := prog_9_method_44_code
def yX7_bestOrder : MethodName := ⟨RX7, "bestOrder", "()I"⟩
abbrev cX7_order : ByteArray := prog_9_method_45_code
def yX7_order : MethodName := ⟨RX7, "order", "(I)I"⟩
abbrev cX7_save : ByteArray := prog_9_method_46_code
def yX7_save : MethodName := ⟨RX7, "save", "(II)I"⟩
abbrev cX7_built : ByteArray := prog_9_method_47_code
def yX7_built : MethodName := ⟨RX7, "built", "(I)I"⟩
abbrev cX7_note : ByteArray := prog_9_method_48_code
def yX7_note : MethodName := ⟨RX7, "note", "(III)I"⟩
abbrev cX7_forget : ByteArray := prog_9_method_49_code
def yX7_forget : MethodName := ⟨RX7, "forget", "()I"⟩
abbrev cX7_isSo : ByteArray := prog_9_method_50_code
def yX7_isSo : MethodName := ⟨RX7, "isSo", "(I)Z"⟩
abbrev cX7_thick : ByteArray := prog_9_method_51_code
def yX7_thick : MethodName := ⟨RX7, "thick", "(I)I"⟩
abbrev cX7_fail : ByteArray := prog_9_method_52_code
def yX7_fail : MethodName := ⟨RX7, "fail", "(IIII)I"⟩
abbrev cX7_hurtAll : ByteArray := prog_9_method_53_code
def yX7_hurtAll : MethodName := ⟨RX7, "hurtAll", "(I)I"⟩
abbrev cX7_year : ByteArray := prog_9_method_54_code
def yX7_year : MethodName := ⟨RX7, "year", "(III)I"⟩
abbrev cX7_keep : ByteArray := prog_9_method_55_code
def yX7_keep : MethodName := ⟨RX7, "keep", "()I"⟩
abbrev cX7_back : ByteArray := prog_9_method_56_code
def yX7_back : MethodName := ⟨RX7, "back", "()I"⟩
abbrev cX7_propsThere : ByteArray := prog_9_method_57_code
def yX7_propsThere : MethodName := ⟨RX7, "propsThere", "()I"⟩
abbrev cX7_count : ByteArray := prog_9_method_58_code
def yX7_count : MethodName := ⟨RX7, "count", "(I)I"⟩
def RJx145de : String := "java/io/Serializable"
def TJx145de : u_T := fun k => match k with
  | _ => ("", "", "", false)
def tyJx145de : Nat → FieldType := fun k => match k with
  | _ => .int
abbrev wsJx145de0 : List Cond := u_ws RJx145de TJx145de 0
theorem nmJx145de : ∀ a, a < 0 → ∀ b, b < 0 → a ≠ b → (TJx145de a).2.1 ≠ (TJx145de b).2.1 := by decide +kernel
theorem tyJx145de_ok : ∀ k, k < 0 → parseFieldDescriptor (TJx145de k).2.2.1 = some (tyJx145de k) := by decide +kernel
def RJx9f9b0 : String := "java/lang/CharSequence"
def TJx9f9b0 : u_T := fun k => match k with
  | _ => ("", "", "", false)
def tyJx9f9b0 : Nat → FieldType := fun k => match k with
  | _ => .int
abbrev wsJx9f9b00 : List Cond := u_ws RJx9f9b0 TJx9f9b0 0
theorem nmJx9f9b0 : ∀ a, a < 0 → ∀ b, b < 0 → a ≠ b → (TJx9f9b0 a).2.1 ≠ (TJx9f9b0 b).2.1 := by decide +kernel
theorem tyJx9f9b0_ok : ∀ k, k < 0 → parseFieldDescriptor (TJx9f9b0 k).2.2.1 = some (tyJx9f9b0 k) := by decide +kernel
def RJxb160c : String := "java/lang/Comparable"
def TJxb160c : u_T := fun k => match k with
  | _ => ("", "", "", false)
def tyJxb160c : Nat → FieldType := fun k => match k with
  | _ => .int
abbrev wsJxb160c0 : List Cond := u_ws RJxb160c TJxb160c 0
theorem nmJxb160c : ∀ a, a < 0 → ∀ b, b < 0 → a ≠ b → (TJxb160c a).2.1 ≠ (TJxb160c b).2.1 := by decide +kernel
theorem tyJxb160c_ok : ∀ k, k < 0 → parseFieldDescriptor (TJxb160c k).2.2.1 = some (tyJxb160c k) := by decide +kernel
def RJ6 : String := "java/lang/Integer"
def TJ6 : u_T := fun k => match k with
  | _ => ("", "", "", false)
def tyJ6 : Nat → FieldType := fun k => match k with
  | _ => .int
abbrev wsJ60 : List Cond := u_ws RJ6 TJ6 0
theorem nmJ6 : ∀ a, a < 0 → ∀ b, b < 0 → a ≠ b → (TJ6 a).2.1 ≠ (TJ6 b).2.1 := by decide +kernel
theorem tyJ6_ok : ∀ k, k < 0 → parseFieldDescriptor (TJ6 k).2.2.1 = some (tyJ6 k) := by decide +kernel
abbrev cJ6_bitCount_0f7a4 : ByteArray := prog_10_method_49_code
def yJ6_bitCount_0f7a4 : MethodName := ⟨RJ6, "bitCount", "(I)I"⟩
def RJ9 : String := "java/lang/Math"
def TJ9 : u_T := fun k => match k with
  | _ => ("", "", "", false)
def tyJ9 : Nat → FieldType := fun k => match k with
  | _ => .int
abbrev wsJ90 : List Cond := u_ws RJ9 TJ9 0
theorem nmJ9 : ∀ a, a < 0 → ∀ b, b < 0 → a ≠ b → (TJ9 a).2.1 ≠ (TJ9 b).2.1 := by decide +kernel
theorem tyJ9_ok : ∀ k, k < 0 → parseFieldDescriptor (TJ9 k).2.2.1 = some (tyJ9 k) := by decide +kernel
abbrev cJ9_max_7cf53 : ByteArray := prog_11_method_65_code
def yJ9_max_7cf53 : MethodName := ⟨RJ9, "max", "(II)I"⟩
abbrev cJ9_min_7cf53 : ByteArray := prog_11_method_69_code
def yJ9_min_7cf53 : MethodName := ⟨RJ9, "min", "(II)I"⟩
def RJ0 : String := "java/lang/String"
def TJ0 : u_T := fun k => match k with
  | _ => ("", "", "", false)
def tyJ0 : Nat → FieldType := fun k => match k with
  | _ => .int
abbrev wsJ00 : List Cond := u_ws RJ0 TJ0 0
theorem nmJ0 : ∀ a, a < 0 → ∀ b, b < 0 → a ≠ b → (TJ0 a).2.1 ≠ (TJ0 b).2.1 := by decide +kernel
theorem tyJ0_ok : ∀ k, k < 0 → parseFieldDescriptor (TJ0 k).2.2.1 = some (tyJ0 k) := by decide +kernel
abbrev cJ0_length_8abf5 : ByteArray := prog_12_method_54_code
def yJ0_length_8abf5 : MethodName := ⟨RJ0, "length", "()I"⟩
abbrev cJ0_charAt_5068e : ByteArray := prog_12_method_56_code
def yJ0_charAt_5068e : MethodName := ⟨RJ0, "charAt", "(I)C"⟩
abbrev cJ0_coder_7d493 : ByteArray := prog_12_method_152_code
def yJ0_coder_7d493 : MethodName := ⟨RJ0, "coder", "()B"⟩
abbrev cJ0_isLatin1_aae02 : ByteArray := prog_12_method_154_code
def yJ0_isLatin1_aae02 : MethodName := ⟨RJ0, "isLatin1", "()Z"⟩
abbrev cJ0_checkIndex_df160 : ByteArray := prog_12_method_155_code
def yJ0_checkIndex_df160 : MethodName := ⟨RJ0, "checkIndex", "(II)V"⟩
def RJ1 : String := "java/lang/StringLatin1"
def TJ1 : u_T := fun k => match k with
  | _ => ("", "", "", false)
def tyJ1 : Nat → FieldType := fun k => match k with
  | _ => .int
abbrev wsJ10 : List Cond := u_ws RJ1 TJ1 0
theorem nmJ1 : ∀ a, a < 0 → ∀ b, b < 0 → a ≠ b → (TJ1 a).2.1 ≠ (TJ1 b).2.1 := by decide +kernel
theorem tyJ1_ok : ∀ k, k < 0 → parseFieldDescriptor (TJ1 k).2.2.1 = some (tyJ1 k) := by decide +kernel
abbrev cJ1_charAt_3b067 : ByteArray := prog_13_method_2_code
def yJ1_charAt_3b067 : MethodName := ⟨RJ1, "charAt", "([BI)C"⟩
def RJ2 : String := "java/lang/StringUTF16"
def TJ2 : u_T := fun k => match k with
  | _ => ("", "", "", false)
def tyJ2 : Nat → FieldType := fun k => match k with
  | _ => .int
abbrev wsJ20 : List Cond := u_ws RJ2 TJ2 0
theorem nmJ2 : ∀ a, a < 0 → ∀ b, b < 0 → a ≠ b → (TJ2 a).2.1 ≠ (TJ2 b).2.1 := by decide +kernel
theorem tyJ2_ok : ∀ k, k < 0 → parseFieldDescriptor (TJ2 k).2.2.1 = some (tyJ2 k) := by decide +kernel
abbrev cJ2_getChar_3b067 : ByteArray := prog_14_method_5_code
def yJ2_getChar_3b067 : MethodName := ⟨RJ2, "getChar", "([BI)C"⟩
abbrev cJ2_length_9d52b : ByteArray := prog_14_method_6_code
def yJ2_length_9d52b : MethodName := ⟨RJ2, "length", "([B)I"⟩
abbrev cJ2_charAt_3b067 : ByteArray := prog_14_method_83_code
def yJ2_charAt_3b067 : MethodName := ⟨RJ2, "charAt", "([BI)C"⟩
abbrev cJ2_checkIndex_2214a : ByteArray := prog_14_method_91_code
def yJ2_checkIndex_2214a : MethodName := ⟨RJ2, "checkIndex", "(I[B)V"⟩
def RJ10 : String := "java/lang/System"
def TJ10 : u_T := fun k => match k with
  | _ => ("", "", "", false)
def tyJ10 : Nat → FieldType := fun k => match k with
  | _ => .int
abbrev wsJ100 : List Cond := u_ws RJ10 TJ10 0
theorem nmJ10 : ∀ a, a < 0 → ∀ b, b < 0 → a ≠ b → (TJ10 a).2.1 ≠ (TJ10 b).2.1 := by decide +kernel
theorem tyJ10_ok : ∀ k, k < 0 → parseFieldDescriptor (TJ10 k).2.2.1 = some (tyJ10 k) := by decide +kernel
def RJxfd54e : String := "java/lang/constant/Constable"
def TJxfd54e : u_T := fun k => match k with
  | _ => ("", "", "", false)
def tyJxfd54e : Nat → FieldType := fun k => match k with
  | _ => .int
abbrev wsJxfd54e0 : List Cond := u_ws RJxfd54e TJxfd54e 0
theorem nmJxfd54e : ∀ a, a < 0 → ∀ b, b < 0 → a ≠ b → (TJxfd54e a).2.1 ≠ (TJxfd54e b).2.1 := by decide +kernel
theorem tyJxfd54e_ok : ∀ k, k < 0 → parseFieldDescriptor (TJxfd54e k).2.2.1 = some (tyJxfd54e k) := by decide +kernel
def RJx3cf43 : String := "java/lang/constant/ConstantDesc"
def TJx3cf43 : u_T := fun k => match k with
  | _ => ("", "", "", false)
def tyJx3cf43 : Nat → FieldType := fun k => match k with
  | _ => .int
abbrev wsJx3cf430 : List Cond := u_ws RJx3cf43 TJx3cf43 0
theorem nmJx3cf43 : ∀ a, a < 0 → ∀ b, b < 0 → a ≠ b → (TJx3cf43 a).2.1 ≠ (TJx3cf43 b).2.1 := by decide +kernel
theorem tyJx3cf43_ok : ∀ k, k < 0 → parseFieldDescriptor (TJx3cf43 k).2.2.1 = some (tyJx3cf43 k) := by decide +kernel
def RJ7 : String := "java/util/Arrays"
def TJ7 : u_T := fun k => match k with
  | _ => ("", "", "", false)
def tyJ7 : Nat → FieldType := fun k => match k with
  | _ => .int
abbrev wsJ70 : List Cond := u_ws RJ7 TJ7 0
theorem nmJ7 : ∀ a, a < 0 → ∀ b, b < 0 → a ≠ b → (TJ7 a).2.1 ≠ (TJ7 b).2.1 := by decide +kernel
theorem tyJ7_ok : ∀ k, k < 0 → parseFieldDescriptor (TJ7 k).2.2.1 = some (tyJ7 k) := by decide +kernel
abbrev cJ7_fill_d0a16 : ByteArray := prog_16_method_101_code
def yJ7_fill_d0a16 : MethodName := ⟨RJ7, "fill", "([JJ)V"⟩
abbrev cJ7_fill_53178 : ByteArray := prog_16_method_103_code
def yJ7_fill_53178 : MethodName := ⟨RJ7, "fill", "([II)V"⟩
def RJ3 : String := "jdk/internal/util/Preconditions"
def TJ3 : u_T := fun k => match k with
  | _ => ("", "", "", false)
def tyJ3 : Nat → FieldType := fun k => match k with
  | _ => .int
abbrev wsJ30 : List Cond := u_ws RJ3 TJ3 0
theorem nmJ3 : ∀ a, a < 0 → ∀ b, b < 0 → a ≠ b → (TJ3 a).2.1 ≠ (TJ3 b).2.1 := by decide +kernel
theorem tyJ3_ok : ∀ k, k < 0 → parseFieldDescriptor (TJ3 k).2.2.1 = some (tyJ3 k) := by decide +kernel
abbrev cJ3_checkIndex_8e157 : ByteArray := prog_17_method_11_code
def yJ3_checkIndex_8e157 : MethodName := ⟨RJ3, "checkIndex", "(IILjava/util/function/BiFunction;)I"⟩
def RL : String := "WallTrumpetsLaw"
abbrev cL_law : ByteArray := code
def yL_law : MethodName := ⟨RL, "law", "([I)Z"⟩
abbrev vwCl : List vw_C := [(RX0, TX0, 4), (RX1, TX1, 8), (RX2, TX2, 3), (RX3, TX3, 6), (RX4, TX4, 3), (RX5, TX5, 8), (RX6, TX6, 10), (RX7, TX7, 25)]
