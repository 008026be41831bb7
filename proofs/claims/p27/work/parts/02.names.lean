def RX0 : String := "ThumpEars$History"
def TX0 : u_T := fun k => match k with
  | 0 => ("ThumpEars$History", "states", "[LThumpEars$State;", true)
  | _ => ("ThumpEars$History", "size", "I", false)
def tyX0 : Nat → FieldType := fun k => match k with
  | 0 => .array (.object "ThumpEars$State")
  | _ => .int
abbrev wsX00 : List Cond := u_ws RX0 TX0 2
theorem nmX0 : ∀ a, a < 2 → ∀ b, b < 2 → a ≠ b → (TX0 a).2.1 ≠ (TX0 b).2.1 := by decide +kernel
theorem tyX0_ok : ∀ k, k < 2 → parseFieldDescriptor (TX0 k).2.2.1 = some (tyX0 k) := by decide +kernel
abbrev cX0_init : ByteArray := prog_2_method_1_code
def yX0_init : MethodName := ⟨RX0, "<init>", "()V"⟩
abbrev cX0_push : ByteArray := prog_2_method_2_code
def yX0_push : MethodName := ⟨RX0, "push", "(LThumpEars$State;)V"⟩
abbrev cX0_dropOldest : ByteArray := prog_2_method_3_code
def yX0_dropOldest : MethodName := ⟨RX0, "dropOldest", "()V"⟩
abbrev cX0_popInto : ByteArray := prog_2_method_4_code
def yX0_popInto : MethodName := ⟨RX0, "popInto", "(LThumpEars$State;)V"⟩
def RX1 : String := "ThumpEars$Marks"
def TX1 : u_T := fun k => match k with
  | 0 => ("ThumpEars$Marks", "thumps", "[I", true)
  | 1 => ("ThumpEars$Marks", "readings", "[I", true)
  | 2 => ("ThumpEars$Marks", "errors", "[I", true)
  | _ => ("ThumpEars$Marks", "size", "I", false)
def tyX1 : Nat → FieldType := fun k => match k with
  | 0 => .array .int
  | 1 => .array .int
  | 2 => .array .int
  | _ => .int
abbrev wsX10 : List Cond := u_ws RX1 TX1 4
theorem nmX1 : ∀ a, a < 4 → ∀ b, b < 4 → a ≠ b → (TX1 a).2.1 ≠ (TX1 b).2.1 := by decide +kernel
theorem tyX1_ok : ∀ k, k < 4 → parseFieldDescriptor (TX1 k).2.2.1 = some (tyX1 k) := by decide +kernel
abbrev cX1_init : ByteArray := prog_3_method_1_code
def yX1_init : MethodName := ⟨RX1, "<init>", "()V"⟩
abbrev cX1_gather : ByteArray := prog_3_method_2_code
def yX1_gather : MethodName := ⟨RX1, "gather", "(LThumpEars$State;I)V"⟩
abbrev cX1_isBehindAll : ByteArray := prog_3_method_3_code
def yX1_isBehindAll : MethodName := ⟨RX1, "isBehindAll", "(I)Z"⟩
abbrev cX1_latestThump : ByteArray := prog_3_method_4_code
def yX1_latestThump : MethodName := ⟨RX1, "latestThump", "()I"⟩
abbrev cX1_errorAt : ByteArray := prog_3_method_5_code
def yX1_errorAt : MethodName := ⟨RX1, "errorAt", "(I)J"⟩
abbrev cX1_firstOfPair : ByteArray := prog_3_method_6_code
def yX1_firstOfPair : MethodName := ⟨RX1, "firstOfPair", "(I)I"⟩
abbrev cX1_rightTime : ByteArray := prog_3_method_7_code
def yX1_rightTime : MethodName := ⟨RX1, "rightTime", "(I)J"⟩
def RX2 : String := "ThumpEars$OrderText"
def TX2 : u_T := fun k => match k with
  | 0 => ("ThumpEars$OrderText", "signs", "[C", true)
  | 1 => ("ThumpEars$OrderText", "length", "I", false)
  | 2 => ("ThumpEars$OrderText", "areThumps", "[Z", true)
  | 3 => ("ThumpEars$OrderText", "places", "[I", true)
  | 4 => ("ThumpEars$OrderText", "times", "[I", true)
  | 5 => ("ThumpEars$OrderText", "reaches", "[I", true)
  | 6 => ("ThumpEars$OrderText", "orders", "I", false)
  | 7 => ("ThumpEars$OrderText", "position", "I", false)
  | _ => ("ThumpEars$OrderText", "number", "I", false)
def tyX2 : Nat → FieldType := fun k => match k with
  | 0 => .array .char
  | 1 => .int
  | 2 => .array .boolean
  | 3 => .array .int
  | 4 => .array .int
  | 5 => .array .int
  | 6 => .int
  | 7 => .int
  | _ => .int
abbrev wsX20 : List Cond := u_ws RX2 TX2 9
theorem nmX2 : ∀ a, a < 9 → ∀ b, b < 9 → a ≠ b → (TX2 a).2.1 ≠ (TX2 b).2.1 := by decide +kernel
theorem tyX2_ok : ∀ k, k < 9 → parseFieldDescriptor (TX2 k).2.2.1 = some (tyX2 k) := by decide +kernel
abbrev cX2_init : ByteArray := prog_4_method_1_code
def yX2_init : MethodName := ⟨RX2, "<init>", "()V"⟩
abbrev cX2_read : ByteArray := prog_4_method_2_code
def yX2_read : MethodName := ⟨RX2, "read", "()I"⟩
abbrev cX2_readOrder : ByteArray := prog_4_method_3_code
def yX2_readOrder : MethodName := ⟨RX2, "readOrder", "()Z"⟩
abbrev cX2_skips : ByteArray := prog_4_method_4_code
def yX2_skips : MethodName := ⟨RX2, "skips", "(C)Z"⟩
abbrev cX2_readNumber : ByteArray := prog_4_method_5_code
def yX2_readNumber : MethodName := ⟨RX2, "readNumber", "()Z"⟩
abbrev cX2_isDigit : ByteArray := prog_4_method_6_code
def yX2_isDigit : MethodName := ⟨RX2, "isDigit", "()Z"⟩
def RX3 : String := "ThumpEars$Sounds"
def TX3 : u_T := fun k => match k with
  | 0 => ("ThumpEars$Sounds", "places", "[I", true)
  | 1 => ("ThumpEars$Sounds", "times", "[I", true)
  | 2 => ("ThumpEars$Sounds", "paces", "[I", true)
  | 3 => ("ThumpEars$Sounds", "readings", "[[I", true)
  | _ => ("ThumpEars$Sounds", "size", "I", false)
def tyX3 : Nat → FieldType := fun k => match k with
  | 0 => .array .int
  | 1 => .array .int
  | 2 => .array .int
  | 3 => .array (.array .int)
  | _ => .int
abbrev wsX30 : List Cond := u_ws RX3 TX3 5
theorem nmX3 : ∀ a, a < 5 → ∀ b, b < 5 → a ≠ b → (TX3 a).2.1 ≠ (TX3 b).2.1 := by decide +kernel
theorem tyX3_ok : ∀ k, k < 5 → parseFieldDescriptor (TX3 k).2.2.1 = some (tyX3 k) := by decide +kernel
abbrev cX3_init : ByteArray := prog_5_method_1_code
def yX3_init : MethodName := ⟨RX3, "<init>", "()V"⟩
abbrev cX3_copyFrom : ByteArray := prog_5_method_2_code
def yX3_copyFrom : MethodName := ⟨RX3, "copyFrom", "(LThumpEars$Sounds;)V"⟩
abbrev cX3_has : ByteArray := prog_5_method_3_code
def yX3_has : MethodName := ⟨RX3, "has", "(I)Z"⟩
abbrev cX3_heardBy : ByteArray := prog_5_method_4_code
def yX3_heardBy : MethodName := ⟨RX3, "heardBy", "(I)I"⟩
def RX4 : String := "ThumpEars$Source"
def TX4 : u_T := fun k => match k with
  | 0 => ("ThumpEars$Source", "ears", "[I", true)
  | 1 => ("ThumpEars$Source", "earPlaces", "[I", true)
  | 2 => ("ThumpEars$Source", "rightTimes", "[J", true)
  | 3 => ("ThumpEars$Source", "size", "I", false)
  | 4 => ("ThumpEars$Source", "perPlace", "J", false)
  | 5 => ("ThumpEars$Source", "place", "I", false)
  | 6 => ("ThumpEars$Source", "least", "J", false)
  | _ => ("ThumpEars$Source", "greatest", "J", false)
def tyX4 : Nat → FieldType := fun k => match k with
  | 0 => .array .int
  | 1 => .array .int
  | 2 => .array .long
  | 3 => .int
  | 4 => .long
  | 5 => .int
  | 6 => .long
  | _ => .long
abbrev wsX40 : List Cond := u_ws RX4 TX4 8
theorem nmX4 : ∀ a, a < 8 → ∀ b, b < 8 → a ≠ b → (TX4 a).2.1 ≠ (TX4 b).2.1 := by decide +kernel
theorem tyX4_ok : ∀ k, k < 8 → parseFieldDescriptor (TX4 k).2.2.1 = some (tyX4 k) := by decide +kernel
abbrev cX4_init : ByteArray := prog_6_method_1_code
def yX4_init : MethodName := ⟨RX4, "<init>", "()V"⟩
abbrev cX4_listen : ByteArray := prog_6_method_2_code
def yX4_listen : MethodName := ⟨RX4, "listen", "(LThumpEars$State;ILThumpEars$Marks;)V"⟩
abbrev cX4_beginning : ByteArray := prog_6_method_3_code
def yX4_beginning : MethodName := ⟨RX4, "beginning", "(I)J"⟩
abbrev cX4_lookFrom : ByteArray := prog_6_method_4_code
def yX4_lookFrom : MethodName := ⟨RX4, "lookFrom", "(I)V"⟩
abbrev cX4_locate : ByteArray := prog_6_method_5_code
def yX4_locate : MethodName := ⟨RX4, "locate", "()V"⟩
abbrev cX4_width : ByteArray := prog_6_method_6_code
def yX4_width : MethodName := ⟨RX4, "width", "()J"⟩
abbrev cX4_fits : ByteArray := prog_6_method_7_code
def yX4_fits : MethodName := ⟨RX4, "fits", "(I)Z"⟩
abbrev cX4_time : ByteArray := prog_6_method_8_code
def yX4_time : MethodName := ⟨RX4, "time", "()J"⟩
abbrev cX4_worstEar : ByteArray := prog_6_method_9_code
def yX4_worstEar : MethodName := ⟨RX4, "worstEar", "()I"⟩
def RX5 : String := "ThumpEars$State"
def TX5 : u_T := fun k => match k with
  | 0 => ("ThumpEars$State", "places", "[I", true)
  | 1 => ("ThumpEars$State", "offsets", "[I", true)
  | 2 => ("ThumpEars$State", "drifts", "[I", true)
  | 3 => ("ThumpEars$State", "mutes", "[Z", true)
  | 4 => ("ThumpEars$State", "leftOut", "[Z", true)
  | 5 => ("ThumpEars$State", "thumps", "LThumpEars$Sounds;", true)
  | 6 => ("ThumpEars$State", "knocks", "LThumpEars$Sounds;", true)
  | 7 => ("ThumpEars$State", "ears", "I", false)
  | 8 => ("ThumpEars$State", "pace", "I", false)
  | 9 => ("ThumpEars$State", "tolerance", "I", false)
  | _ => ("ThumpEars$State", "latest", "I", false)
def tyX5 : Nat → FieldType := fun k => match k with
  | 0 => .array .int
  | 1 => .array .int
  | 2 => .array .int
  | 3 => .array .boolean
  | 4 => .array .boolean
  | 5 => .object "ThumpEars$Sounds"
  | 6 => .object "ThumpEars$Sounds"
  | 7 => .int
  | 8 => .int
  | 9 => .int
  | _ => .int
abbrev wsX50 : List Cond := u_ws RX5 TX5 11
theorem nmX5 : ∀ a, a < 11 → ∀ b, b < 11 → a ≠ b → (TX5 a).2.1 ≠ (TX5 b).2.1 := by decide +kernel
theorem tyX5_ok : ∀ k, k < 11 → parseFieldDescriptor (TX5 k).2.2.1 = some (tyX5 k) := by decide +kernel
abbrev cX5_init : ByteArray := prog_7_method_1_code
def yX5_init : MethodName := ⟨RX5, "<init>", "()V"⟩
abbrev cX5_copyFrom : ByteArray := prog_7_method_2_code
def yX5_copyFrom : MethodName := ⟨RX5, "copyFrom", "(LThumpEars$State;)V"⟩
abbrev cX5_hasEar : ByteArray := prog_7_method_3_code
def yX5_hasEar : MethodName := ⟨RX5, "hasEar", "(I)Z"⟩
abbrev cX5_addEar : ByteArray := prog_7_method_4_code
def yX5_addEar : MethodName := ⟨RX5, "addEar", "(I)I"⟩
abbrev cX5_reading : ByteArray := prog_7_method_5_code
def yX5_reading : MethodName := ⟨RX5, "reading", "(II)I"⟩
abbrev cX5_wayTo : ByteArray := prog_7_method_6_code
def yX5_wayTo : MethodName := ⟨RX5, "wayTo", "(II)I"⟩
abbrev cX5_canHear : ByteArray := prog_7_method_7_code
def yX5_canHear : MethodName := ⟨RX5, "canHear", "(III)Z"⟩
abbrev cX5_addSound : ByteArray := prog_7_method_8_code
def yX5_addSound : MethodName := ⟨RX5, "addSound", "(LThumpEars$Sounds;III)I"⟩
def RX6 : String := "ThumpEars"
def TX6 : u_T := fun k => match k with
  | 0 => ("ThumpEars", "now", "LThumpEars$State;", true)
  | 1 => ("ThumpEars", "snapshot", "LThumpEars$State;", true)
  | 2 => ("ThumpEars", "hasSnapshot", "Z", false)
  | 3 => ("ThumpEars", "history", "LThumpEars$History;", true)
  | 4 => ("ThumpEars", "text", "LThumpEars$OrderText;", true)
  | 5 => ("ThumpEars", "marks", "LThumpEars$Marks;", true)
  | _ => ("ThumpEars", "source", "LThumpEars$Source;", true)
def tyX6 : Nat → FieldType := fun k => match k with
  | 0 => .object "ThumpEars$State"
  | 1 => .object "ThumpEars$State"
  | 2 => .boolean
  | 3 => .object "ThumpEars$History"
  | 4 => .object "ThumpEars$OrderText"
  | 5 => .object "ThumpEars$Marks"
  | _ => .object "ThumpEars$Source"
abbrev wsX60 : List Cond := u_ws RX6 TX6 7
theorem nmX6 : ∀ a, a < 7 → ∀ b, b < 7 → a ≠ b → (TX6 a).2.1 ≠ (TX6 b).2.1 := by decide +kernel
theorem tyX6_ok : ∀ k, k < 7 → parseFieldDescriptor (TX6 k).2.2.1 = some (tyX6 k) := by decide +kernel
abbrev cX6_init : ByteArray := prog_1_method_1_code
def yX6_init : MethodName := ⟨RX6, "<init>", "()V"⟩
abbrev cX6_bury : ByteArray := prog_1_method_2_code
def yX6_bury : MethodName := ⟨RX6, "bury", "(I)I"⟩
abbrev cX6_setClock : ByteArray := prog_1_method_3_code
def yX6_setClock : MethodName := ⟨RX6, "setClock", "(III)I"⟩
abbrev cX6_mute : ByteArray := prog_1_method_4_code
def yX6_mute : MethodName := ⟨RX6, "mute", "(IZ)I"⟩
abbrev cX6_set : ByteArray := prog_1_method_5_code
def yX6_set : MethodName := ⟨RX6, "set", "(II)I"⟩
abbrev cX6_thump : ByteArray := prog_1_method_6_code
def yX6_thump : MethodName := ⟨RX6, "thump", "(III)I"⟩
abbrev cX6_knock : ByteArray := prog_1_method_7_code
def yX6_knock : MethodName := ⟨RX6, "knock", "(III)I"⟩
abbrev cX6_leaveOut : ByteArray := prog_1_method_8_code
def yX6_leaveOut : MethodName := ⟨RX6, "leaveOut", "(IZ)I"⟩
abbrev cX6_readOrders : ByteArray := prog_1_method_9_code
def yX6_readOrders : MethodName := ⟨RX6, "readOrders", "()I"⟩
abbrev cX6_type : ByteArray := prog_1_method_10_code
def yX6_type : MethodName := ⟨RX6, "type", "(C)I"⟩
abbrev cX6_clearText : ByteArray := prog_1_method_11_code
def yX6_clearText : MethodName := ⟨RX6, "clearText", "()I"⟩
abbrev cX6_undo : ByteArray := prog_1_method_12_code
def yX6_undo : MethodName := ⟨RX6, "undo", "()I"⟩
abbrev cX6_ear : ByteArray := prog_1_method_15_code
def yX6_ear : MethodName := ⟨RX6, "ear", "(II)I"⟩
abbrev cX6_clock : ByteArray := prog_1_method_16_code
def yX6_clock : MethodName := ⟨RX6, "clock", "(II)I"⟩
abbrev cX6_mark : ByteArray := prog_1_method_17_code
def yX6_mark : MethodName := ⟨RX6, "mark", "(III)I"⟩
abbrev cX6_error : ByteArray := prog_1_method_18_code
def yX6_error : MethodName := ⟨RX6, "error", "(II)J"⟩
abbrev cX6_stalest : ByteArray := prog_1_method_19_code
def yX6_stalest : MethodName := ⟨RX6, "stalest", "()I"⟩
abbrev cX6_heard : ByteArray := prog_1_method_20_code
def yX6_heard : MethodName := ⟨RX6, "heard", "(ZII)I"⟩
abbrev cX6_putRight : ByteArray := prog_1_method_21_code
def yX6_putRight : MethodName := ⟨RX6, "putRight", "(II)J"⟩
abbrev cX6_found : ByteArray := prog_1_method_22_code
def yX6_found : MethodName := ⟨RX6, "found", "(II)J"⟩
abbrev cX6_spread : ByteArray := prog_1_method_23_code
def yX6_spread : MethodName := ⟨RX6, "spread", "(II)J"⟩
abbrev cX6_truth : ByteArray := prog_1_method_24_code
def yX6_truth : MethodName := ⟨RX6, "truth", "(II)I"⟩
abbrev cX6_count : ByteArray := prog_1_method_25_code
def yX6_count : MethodName := ⟨RX6, "count", "(I)I"⟩
abbrev cX6_isWithin : ByteArray := prog_1_method_26_code
def yX6_isWithin : MethodName := ⟨RX6, "isWithin", "(III)Z"⟩
abbrev cX6_longError : ByteArray := prog_1_method_27_code
def yX6_longError : MethodName := ⟨RX6, "longError", "(I)J"⟩
abbrev cX6_countFlags : ByteArray := prog_1_method_28_code
def yX6_countFlags : MethodName := ⟨RX6, "countFlags", "([ZI)I"⟩
abbrev cX6_flag : ByteArray := prog_1_method_29_code
def yX6_flag : MethodName := ⟨RX6, "flag", "([ZIIZ)I"⟩
abbrev cX6_setPace : ByteArray := prog_1_method_30_code
def yX6_setPace : MethodName := ⟨RX6, "setPace", "(I)I"⟩
abbrev cX6_setTolerance : ByteArray := prog_1_method_31_code
def yX6_setTolerance : MethodName := ⟨RX6, "setTolerance", "(I)I"⟩
abbrev cX6_makeSound : ByteArray := prog_1_method_32_code
def yX6_makeSound : MethodName := ⟨RX6, "makeSound", "(LThumpEars$Sounds;III)I"⟩
abbrev cX6_refusal : ByteArray := prog_1_method_33_code
def yX6_refusal : MethodName := ⟨RX6, "refusal", "(IIIII)I"⟩
abbrev cX6_refusalOfOrders : ByteArray := prog_1_method_34_code
def yX6_refusalOfOrders : MethodName := ⟨RX6, "refusalOfOrders", "()I"⟩
abbrev cX6_latestReading : ByteArray := prog_1_method_35_code
def yX6_latestReading : MethodName := ⟨RX6, "latestReading", "(I)I"⟩
abbrev cX6_missOf : ByteArray := prog_1_method_36_code
def yX6_missOf : MethodName := ⟨RX6, "missOf", "(I)I"⟩
abbrev cX6_countFitting : ByteArray := prog_1_method_37_code
def yX6_countFitting : MethodName := ⟨RX6, "countFitting", "()I"⟩
def RX7 : String := "ThumpEarsModel"
def TX7 : u_T := fun k => match k with
  | _ => ("", "", "", false)
def tyX7 : Nat → FieldType := fun k => match k with
  | _ => .int
abbrev wsX70 : List Cond := u_ws RX7 TX7 0
theorem nmX7 : ∀ a, a < 0 → ∀ b, b < 0 → a ≠ b → (TX7 a).2.1 ≠ (TX7 b).2.1 := by decide +kernel
theorem tyX7_ok : ∀ k, k < 0 → parseFieldDescriptor (TX7 k).2.2.1 = some (tyX7 k) := by decide +kernel
def RJ9 : String := "java/lang/Math"
abbrev cJ9_floorDiv_7cf53 : ByteArray := prog_10_method_47_code
def yJ9_floorDiv_7cf53 : MethodName := ⟨RJ9, "floorDiv", "(II)I"⟩
abbrev cJ9_floorDiv_f86c9 : ByteArray := prog_10_method_49_code
def yJ9_floorDiv_f86c9 : MethodName := ⟨RJ9, "floorDiv", "(JJ)J"⟩
abbrev cJ9_abs_0f7a4 : ByteArray := prog_10_method_59_code
def yJ9_abs_0f7a4 : MethodName := ⟨RJ9, "abs", "(I)I"⟩
abbrev cJ9_abs_067f4 : ByteArray := prog_10_method_61_code
def yJ9_abs_067f4 : MethodName := ⟨RJ9, "abs", "(J)J"⟩
abbrev cJ9_max_f86c9 : ByteArray := prog_10_method_66_code
def yJ9_max_f86c9 : MethodName := ⟨RJ9, "max", "(JJ)J"⟩
abbrev cJ9_min_7cf53 : ByteArray := prog_10_method_69_code
def yJ9_min_7cf53 : MethodName := ⟨RJ9, "min", "(II)I"⟩
abbrev cJ9_min_f86c9 : ByteArray := prog_10_method_70_code
def yJ9_min_f86c9 : MethodName := ⟨RJ9, "min", "(JJ)J"⟩
def RJ10 : String := "java/lang/System"
def RL : String := "ThumpEarsLaw"
abbrev cL_cell : ByteArray := method_2_code
def yL_cell : MethodName := ⟨RL, "cell", "([II)I"⟩
abbrev cL_low : ByteArray := method_3_code
def yL_low : MethodName := ⟨RL, "low", "(II)I"⟩
abbrev cL_down : ByteArray := method_4_code
def yL_down : MethodName := ⟨RL, "down", "(JJ)J"⟩
abbrev cL_far : ByteArray := method_5_code
def yL_far : MethodName := ⟨RL, "far", "(II)I"⟩
abbrev cL_reads : ByteArray := method_6_code
def yL_reads : MethodName := ⟨RL, "reads", "(LThumpEars;II)I"⟩
abbrev cL_marks : ByteArray := method_7_code
def yL_marks : MethodName := ⟨RL, "marks", "(LThumpEars;[II)Z"⟩
abbrev cL_error : ByteArray := method_8_code
def yL_error : MethodName := ⟨RL, "error", "(LThumpEars;II)J"⟩
abbrev cL_ears : ByteArray := method_9_code
def yL_ears : MethodName := ⟨RL, "ears", "(LThumpEars;[II)Z"⟩
abbrev cL_knock : ByteArray := method_10_code
def yL_knock : MethodName := ⟨RL, "knock", "(LThumpEars;III)Z"⟩
abbrev cL_come : ByteArray := method_11_code
def yL_come : MethodName := ⟨RL, "come", "(LThumpEars;[I[III)Z"⟩
abbrev cL_acts : ByteArray := method_12_code
def yL_acts : MethodName := ⟨RL, "acts", "(LThumpEars;[I[III)Z"⟩
abbrev cL_errors : ByteArray := method_13_code
def yL_errors : MethodName := ⟨RL, "errors", "(LThumpEars;)Z"⟩
abbrev cL_law : ByteArray := code
def yL_law : MethodName := ⟨RL, "law", "([I)Z"⟩
abbrev vwCl : List vw_C := [(RX0, TX0, 2), (RX1, TX1, 4), (RX2, TX2, 9), (RX3, TX3, 5), (RX4, TX4, 8), (RX5, TX5, 11), (RX6, TX6, 7)]
def TT : List Cond := lw_tbl.filter goodWord
theorem TT_good : ∀ w ∈ TT, goodWord w = true := fun _ h => (List.mem_filter.mp h).2
theorem TT_in : ∀ w ∈ TT, w ∈ lw_tbl := fun _ h => (List.mem_filter.mp h).1
theorem TT_of {w : Cond} (k : Nat) (h : lw_tbl[k]? = some w) (h2 : goodWord w = true) : w ∈ TT := List.mem_filter.mpr ⟨List.mem_of_getElem? h, h2⟩
theorem tq_0 : (Jvm.Cond.selects "ThumpEars" (⟨"ThumpEars", "countFitting", "()I"⟩ : Jvm.MethodName) (⟨"ThumpEars", "countFitting", "()I"⟩ : Jvm.MethodName)) ∈ TT := TT_of 0 (by decide +kernel) (by decide +kernel)
theorem tq_1 : (Jvm.Cond.selects "ThumpEars" (⟨"ThumpEars", "latestReading", "(I)I"⟩ : Jvm.MethodName) (⟨"ThumpEars", "latestReading", "(I)I"⟩ : Jvm.MethodName)) ∈ TT := TT_of 1 (by decide +kernel) (by decide +kernel)
theorem tq_2 : (Jvm.Cond.selects "ThumpEars" (⟨"ThumpEars", "missOf", "(I)I"⟩ : Jvm.MethodName) (⟨"ThumpEars", "missOf", "(I)I"⟩ : Jvm.MethodName)) ∈ TT := TT_of 2 (by decide +kernel) (by decide +kernel)
theorem tq_3 : (Jvm.Cond.selects "ThumpEars" (⟨"ThumpEars", "flag", "([ZIIZ)I"⟩ : Jvm.MethodName) (⟨"ThumpEars", "flag", "([ZIIZ)I"⟩ : Jvm.MethodName)) ∈ TT := TT_of 3 (by decide +kernel) (by decide +kernel)
theorem tq_4 : (Jvm.Cond.selects "ThumpEars" (⟨"ThumpEars", "setPace", "(I)I"⟩ : Jvm.MethodName) (⟨"ThumpEars", "setPace", "(I)I"⟩ : Jvm.MethodName)) ∈ TT := TT_of 4 (by decide +kernel) (by decide +kernel)
theorem tq_5 : (Jvm.Cond.selects "ThumpEars" (⟨"ThumpEars", "setTolerance", "(I)I"⟩ : Jvm.MethodName) (⟨"ThumpEars", "setTolerance", "(I)I"⟩ : Jvm.MethodName)) ∈ TT := TT_of 5 (by decide +kernel) (by decide +kernel)
theorem tq_6 : (Jvm.Cond.selects "ThumpEars" (⟨"ThumpEars", "makeSound", "(LThumpEars$Sounds;III)I"⟩ : Jvm.MethodName) (⟨"ThumpEars", "makeSound", "(LThumpEars$Sounds;III)I"⟩ : Jvm.MethodName)) ∈ TT := TT_of 6 (by decide +kernel) (by decide +kernel)
theorem tq_7 : (Jvm.Cond.selects "ThumpEars" (⟨"ThumpEars", "refusalOfOrders", "()I"⟩ : Jvm.MethodName) (⟨"ThumpEars", "refusalOfOrders", "()I"⟩ : Jvm.MethodName)) ∈ TT := TT_of 7 (by decide +kernel) (by decide +kernel)
theorem tq_8 : (Jvm.Cond.initialized "ThumpEarsLaw") ∈ TT := TT_of 8 (by decide +kernel) (by decide +kernel)
theorem tq_9 : (Jvm.Cond.initialized "ThumpEars") ∈ TT := TT_of 9 (by decide +kernel) (by decide +kernel)
theorem tq_10 : (Jvm.Cond.initialized "ThumpEars$State") ∈ TT := TT_of 10 (by decide +kernel) (by decide +kernel)
theorem tq_11 : (Jvm.Cond.initialized "ThumpEars$Sounds") ∈ TT := TT_of 11 (by decide +kernel) (by decide +kernel)
theorem tq_12 : (Jvm.Cond.initialized "ThumpEars$History") ∈ TT := TT_of 12 (by decide +kernel) (by decide +kernel)
theorem tq_13 : (Jvm.Cond.initialized "ThumpEars$OrderText") ∈ TT := TT_of 13 (by decide +kernel) (by decide +kernel)
theorem tq_14 : (Jvm.Cond.initialized "ThumpEars$Marks") ∈ TT := TT_of 14 (by decide +kernel) (by decide +kernel)
theorem tq_15 : (Jvm.Cond.initialized "ThumpEars$Source") ∈ TT := TT_of 15 (by decide +kernel) (by decide +kernel)
theorem tq_16 : (Jvm.Cond.initialized "java/lang/System") ∈ TT := TT_of 16 (by decide +kernel) (by decide +kernel)
theorem tq_17 : (Jvm.Cond.initialized "java/lang/Math") ∈ TT := TT_of 17 (by decide +kernel) (by decide +kernel)
theorem tq_18 : (Jvm.Cond.classLink "ThumpEarsLaw" 10 "ThumpEars") ∈ TT := TT_of 18 (by decide +kernel) (by decide +kernel)
theorem tq_19 : (Jvm.Cond.instantiable "ThumpEars" 7) ∈ TT := TT_of 19 (by decide +kernel) (by decide +kernel)
theorem tq_20 : (Jvm.Cond.methodLink "ThumpEarsLaw" 134 (⟨"ThumpEars", "<init>", "()V"⟩ : Jvm.MethodName)) ∈ TT := TT_of 20 (by decide +kernel) (by decide +kernel)
theorem tq_21 : (Jvm.Cond.instanceMethod (⟨"ThumpEars", "<init>", "()V"⟩ : Jvm.MethodName)) ∈ TT := TT_of 21 (by decide +kernel) (by decide +kernel)
theorem tq_22 : (Jvm.Cond.code (⟨"ThumpEars", "<init>", "()V"⟩ : Jvm.MethodName) prog_1_method_1_code 1 (Option.none : Option Jvm.ClassFile.FieldType)) ∈ TT := TT_of 22 (by decide +kernel) (by decide +kernel)
theorem tq_23 : (Jvm.Cond.methodLink "ThumpEars" 1 (⟨"java/lang/Object", "<init>", "()V"⟩ : Jvm.MethodName)) ∈ TT := TT_of 23 (by decide +kernel) (by decide +kernel)
theorem tq_24 : (Jvm.Cond.instanceMethod (⟨"java/lang/Object", "<init>", "()V"⟩ : Jvm.MethodName)) ∈ TT := TT_of 24 (by decide +kernel) (by decide +kernel)
theorem tq_25 : (Jvm.Cond.code (⟨"java/lang/Object", "<init>", "()V"⟩ : Jvm.MethodName) object_method_1_code 1 (Option.none : Option Jvm.ClassFile.FieldType)) ∈ TT := TT_of 25 (by decide +kernel) (by decide +kernel)
theorem tq_26 : (Jvm.Cond.classLink "ThumpEars" 7 "ThumpEars$State") ∈ TT := TT_of 26 (by decide +kernel) (by decide +kernel)
theorem tq_27 : (Jvm.Cond.instantiable "ThumpEars$State" 11) ∈ TT := TT_of 27 (by decide +kernel) (by decide +kernel)
theorem tl_28 : (Jvm.Cond.methodLinkNest "ThumpEars" 9 (⟨"ThumpEars$State", "<init>", "()V"⟩ : Jvm.MethodName) "ThumpEars") ∈ lw_tbl := List.mem_of_getElem? (i := 28) (by decide +kernel)
theorem tq_29 : (Jvm.Cond.instanceMethod (⟨"ThumpEars$State", "<init>", "()V"⟩ : Jvm.MethodName)) ∈ TT := TT_of 29 (by decide +kernel) (by decide +kernel)
theorem tq_30 : (Jvm.Cond.code (⟨"ThumpEars$State", "<init>", "()V"⟩ : Jvm.MethodName) prog_7_method_1_code 1 (Option.none : Option Jvm.ClassFile.FieldType)) ∈ TT := TT_of 30 (by decide +kernel) (by decide +kernel)
theorem tq_31 : (Jvm.Cond.methodLink "ThumpEars$State" 3 (⟨"java/lang/Object", "<init>", "()V"⟩ : Jvm.MethodName)) ∈ TT := TT_of 31 (by decide +kernel) (by decide +kernel)
theorem tq_32 : (Jvm.Cond.classLink "ThumpEars$State" 28 "ThumpEars$Sounds") ∈ TT := TT_of 32 (by decide +kernel) (by decide +kernel)
theorem tq_33 : (Jvm.Cond.instantiable "ThumpEars$Sounds" 5) ∈ TT := TT_of 33 (by decide +kernel) (by decide +kernel)
theorem tl_34 : (Jvm.Cond.methodLinkNest "ThumpEars$State" 30 (⟨"ThumpEars$Sounds", "<init>", "()V"⟩ : Jvm.MethodName) "ThumpEars") ∈ lw_tbl := List.mem_of_getElem? (i := 34) (by decide +kernel)
theorem tq_35 : (Jvm.Cond.instanceMethod (⟨"ThumpEars$Sounds", "<init>", "()V"⟩ : Jvm.MethodName)) ∈ TT := TT_of 35 (by decide +kernel) (by decide +kernel)
theorem tq_36 : (Jvm.Cond.code (⟨"ThumpEars$Sounds", "<init>", "()V"⟩ : Jvm.MethodName) prog_5_method_1_code 1 (Option.none : Option Jvm.ClassFile.FieldType)) ∈ TT := TT_of 36 (by decide +kernel) (by decide +kernel)
theorem tq_37 : (Jvm.Cond.methodLink "ThumpEars$Sounds" 3 (⟨"java/lang/Object", "<init>", "()V"⟩ : Jvm.MethodName)) ∈ TT := TT_of 37 (by decide +kernel) (by decide +kernel)
theorem tq_38 : (Jvm.Cond.classLink "ThumpEars$Sounds" 21 "[[I") ∈ TT := TT_of 38 (by decide +kernel) (by decide +kernel)
theorem tl_39 : (Jvm.Cond.arrayOver (Jvm.ClassFile.FieldType.array Jvm.ClassFile.FieldType.int)) ∈ lw_tbl := List.mem_of_getElem? (i := 39) (by decide +kernel)
theorem tq_40 : (Jvm.Cond.fieldLink "ThumpEars$Sounds" 9 "ThumpEars$Sounds" "places" "[I") ∈ TT := TT_of 40 (by decide +kernel) (by decide +kernel)
theorem tq_41 : (Jvm.Cond.fieldLink "ThumpEars$Marks" 45 "ThumpEars$Sounds" "places" "[I") ∈ TT := TT_of 41 (by decide +kernel) (by decide +kernel)
theorem tq_42 : (Jvm.Cond.fieldLink "ThumpEars$State" 93 "ThumpEars$Sounds" "places" "[I") ∈ TT := TT_of 42 (by decide +kernel) (by decide +kernel)
theorem tq_43 : (Jvm.Cond.fieldLink "ThumpEars" 230 "ThumpEars$Sounds" "places" "[I") ∈ TT := TT_of 43 (by decide +kernel) (by decide +kernel)
theorem tq_44 : (Jvm.Cond.fieldLink "ThumpEars$Sounds" 15 "ThumpEars$Sounds" "times" "[I") ∈ TT := TT_of 44 (by decide +kernel) (by decide +kernel)
theorem tq_45 : (Jvm.Cond.fieldLink "ThumpEars$Marks" 52 "ThumpEars$Sounds" "times" "[I") ∈ TT := TT_of 45 (by decide +kernel) (by decide +kernel)
theorem tq_46 : (Jvm.Cond.fieldLink "ThumpEars$State" 94 "ThumpEars$Sounds" "times" "[I") ∈ TT := TT_of 46 (by decide +kernel) (by decide +kernel)
theorem tq_47 : (Jvm.Cond.fieldLink "ThumpEars" 231 "ThumpEars$Sounds" "times" "[I") ∈ TT := TT_of 47 (by decide +kernel) (by decide +kernel)
theorem tq_48 : (Jvm.Cond.fieldLink "ThumpEars$Sounds" 18 "ThumpEars$Sounds" "paces" "[I") ∈ TT := TT_of 48 (by decide +kernel) (by decide +kernel)
theorem tq_49 : (Jvm.Cond.fieldLink "ThumpEars$Source" 47 "ThumpEars$Sounds" "paces" "[I") ∈ TT := TT_of 49 (by decide +kernel) (by decide +kernel)
theorem tq_50 : (Jvm.Cond.fieldLink "ThumpEars$Marks" 55 "ThumpEars$Sounds" "paces" "[I") ∈ TT := TT_of 50 (by decide +kernel) (by decide +kernel)
theorem tq_51 : (Jvm.Cond.fieldLink "ThumpEars$State" 97 "ThumpEars$Sounds" "paces" "[I") ∈ TT := TT_of 51 (by decide +kernel) (by decide +kernel)
theorem tq_52 : (Jvm.Cond.fieldLink "ThumpEars$Sounds" 23 "ThumpEars$Sounds" "readings" "[[I") ∈ TT := TT_of 52 (by decide +kernel) (by decide +kernel)
theorem tq_53 : (Jvm.Cond.fieldLink "ThumpEars$Marks" 33 "ThumpEars$Sounds" "readings" "[[I") ∈ TT := TT_of 53 (by decide +kernel) (by decide +kernel)
theorem tq_54 : (Jvm.Cond.fieldLink "ThumpEars$Source" 54 "ThumpEars$Sounds" "readings" "[[I") ∈ TT := TT_of 54 (by decide +kernel) (by decide +kernel)
theorem tq_55 : (Jvm.Cond.fieldLink "ThumpEars$State" 89 "ThumpEars$Sounds" "readings" "[[I") ∈ TT := TT_of 55 (by decide +kernel) (by decide +kernel)
theorem tq_56 : (Jvm.Cond.fieldLink "ThumpEars" 192 "ThumpEars$Sounds" "readings" "[[I") ∈ TT := TT_of 56 (by decide +kernel) (by decide +kernel)
theorem tq_57 : (Jvm.Cond.fieldLink "ThumpEars$Sounds" 26 "ThumpEars$Sounds" "size" "I") ∈ TT := TT_of 57 (by decide +kernel) (by decide +kernel)
theorem tq_58 : (Jvm.Cond.fieldLink "ThumpEars$Marks" 30 "ThumpEars$Sounds" "size" "I") ∈ TT := TT_of 58 (by decide +kernel) (by decide +kernel)
theorem tq_59 : (Jvm.Cond.fieldLink "ThumpEars$State" 78 "ThumpEars$Sounds" "size" "I") ∈ TT := TT_of 59 (by decide +kernel) (by decide +kernel)
theorem tq_60 : (Jvm.Cond.fieldLink "ThumpEars" 111 "ThumpEars$Sounds" "size" "I") ∈ TT := TT_of 60 (by decide +kernel) (by decide +kernel)
theorem tq_61 : (Jvm.Cond.laysFinal "ThumpEars$Sounds" "ThumpEars$Sounds" "places" "[I") ∈ TT := TT_of 61 (by decide +kernel) (by decide +kernel)
theorem tq_62 : (Jvm.Cond.soleField "ThumpEars$Sounds" "places") ∈ TT := TT_of 62 (by decide +kernel) (by decide +kernel)
theorem tq_63 : (Jvm.Cond.laysFinal "ThumpEars$Sounds" "ThumpEars$Sounds" "times" "[I") ∈ TT := TT_of 63 (by decide +kernel) (by decide +kernel)
theorem tq_64 : (Jvm.Cond.soleField "ThumpEars$Sounds" "times") ∈ TT := TT_of 64 (by decide +kernel) (by decide +kernel)
theorem tq_65 : (Jvm.Cond.laysFinal "ThumpEars$Sounds" "ThumpEars$Sounds" "paces" "[I") ∈ TT := TT_of 65 (by decide +kernel) (by decide +kernel)
theorem tq_66 : (Jvm.Cond.soleField "ThumpEars$Sounds" "paces") ∈ TT := TT_of 66 (by decide +kernel) (by decide +kernel)
theorem tq_67 : (Jvm.Cond.laysFinal "ThumpEars$Sounds" "ThumpEars$Sounds" "readings" "[[I") ∈ TT := TT_of 67 (by decide +kernel) (by decide +kernel)
theorem tq_68 : (Jvm.Cond.soleField "ThumpEars$Sounds" "readings") ∈ TT := TT_of 68 (by decide +kernel) (by decide +kernel)
theorem tq_69 : (Jvm.Cond.lays "ThumpEars$Sounds" "ThumpEars$Sounds" "size" "I") ∈ TT := TT_of 69 (by decide +kernel) (by decide +kernel)
theorem tq_70 : (Jvm.Cond.soleField "ThumpEars$Sounds" "size") ∈ TT := TT_of 70 (by decide +kernel) (by decide +kernel)
theorem tq_71 : (Jvm.Cond.superclass "ThumpEars$Sounds" "java/lang/Object") ∈ TT := TT_of 71 (by decide +kernel) (by decide +kernel)
theorem tq_72 : (Jvm.Cond.arrayClass Jvm.ClassFile.FieldType.int) ∈ TT := TT_of 72 (by decide +kernel) (by decide +kernel)
theorem tq_73 : (Jvm.Cond.arrayClass Jvm.ClassFile.FieldType.boolean) ∈ TT := TT_of 73 (by decide +kernel) (by decide +kernel)
theorem tq_74 : (Jvm.Cond.fieldLink "ThumpEars$State" 9 "ThumpEars$State" "places" "[I") ∈ TT := TT_of 74 (by decide +kernel) (by decide +kernel)
theorem tq_75 : (Jvm.Cond.fieldLink "ThumpEars$Source" 65 "ThumpEars$State" "places" "[I") ∈ TT := TT_of 75 (by decide +kernel) (by decide +kernel)
theorem tq_76 : (Jvm.Cond.fieldLink "ThumpEars" 156 "ThumpEars$State" "places" "[I") ∈ TT := TT_of 76 (by decide +kernel) (by decide +kernel)
theorem tq_77 : (Jvm.Cond.fieldLink "ThumpEars$State" 15 "ThumpEars$State" "offsets" "[I") ∈ TT := TT_of 77 (by decide +kernel) (by decide +kernel)
theorem tq_78 : (Jvm.Cond.fieldLink "ThumpEars" 71 "ThumpEars$State" "offsets" "[I") ∈ TT := TT_of 78 (by decide +kernel) (by decide +kernel)
theorem tq_79 : (Jvm.Cond.fieldLink "ThumpEars$State" 18 "ThumpEars$State" "drifts" "[I") ∈ TT := TT_of 79 (by decide +kernel) (by decide +kernel)
theorem tq_80 : (Jvm.Cond.fieldLink "ThumpEars" 75 "ThumpEars$State" "drifts" "[I") ∈ TT := TT_of 80 (by decide +kernel) (by decide +kernel)
theorem tq_81 : (Jvm.Cond.fieldLink "ThumpEars$State" 21 "ThumpEars$State" "mutes" "[Z") ∈ TT := TT_of 81 (by decide +kernel) (by decide +kernel)
theorem tq_82 : (Jvm.Cond.fieldLink "ThumpEars" 78 "ThumpEars$State" "mutes" "[Z") ∈ TT := TT_of 82 (by decide +kernel) (by decide +kernel)
theorem tq_83 : (Jvm.Cond.fieldLink "ThumpEars$State" 25 "ThumpEars$State" "leftOut" "[Z") ∈ TT := TT_of 83 (by decide +kernel) (by decide +kernel)
theorem tq_84 : (Jvm.Cond.fieldLink "ThumpEars$Marks" 37 "ThumpEars$State" "leftOut" "[Z") ∈ TT := TT_of 84 (by decide +kernel) (by decide +kernel)
theorem tq_85 : (Jvm.Cond.fieldLink "ThumpEars" 108 "ThumpEars$State" "leftOut" "[Z") ∈ TT := TT_of 85 (by decide +kernel) (by decide +kernel)
theorem tq_86 : (Jvm.Cond.fieldLink "ThumpEars$State" 31 "ThumpEars$State" "thumps" "LThumpEars$Sounds;") ∈ TT := TT_of 86 (by decide +kernel) (by decide +kernel)
theorem tq_87 : (Jvm.Cond.fieldLink "ThumpEars$Marks" 25 "ThumpEars$State" "thumps" "LThumpEars$Sounds;") ∈ TT := TT_of 87 (by decide +kernel) (by decide +kernel)
theorem tq_88 : (Jvm.Cond.fieldLink "ThumpEars" 92 "ThumpEars$State" "thumps" "LThumpEars$Sounds;") ∈ TT := TT_of 88 (by decide +kernel) (by decide +kernel)
theorem tq_89 : (Jvm.Cond.fieldLink "ThumpEars$State" 35 "ThumpEars$State" "knocks" "LThumpEars$Sounds;") ∈ TT := TT_of 89 (by decide +kernel) (by decide +kernel)
theorem tq_90 : (Jvm.Cond.fieldLink "ThumpEars$Source" 41 "ThumpEars$State" "knocks" "LThumpEars$Sounds;") ∈ TT := TT_of 90 (by decide +kernel) (by decide +kernel)
theorem tq_91 : (Jvm.Cond.fieldLink "ThumpEars" 100 "ThumpEars$State" "knocks" "LThumpEars$Sounds;") ∈ TT := TT_of 91 (by decide +kernel) (by decide +kernel)
theorem tq_92 : (Jvm.Cond.fieldLink "ThumpEars$State" 38 "ThumpEars$State" "ears" "I") ∈ TT := TT_of 92 (by decide +kernel) (by decide +kernel)
theorem tq_93 : (Jvm.Cond.fieldLink "ThumpEars" 55 "ThumpEars$State" "ears" "I") ∈ TT := TT_of 93 (by decide +kernel) (by decide +kernel)
theorem tq_94 : (Jvm.Cond.fieldLink "ThumpEars$Source" 52 "ThumpEars$State" "ears" "I") ∈ TT := TT_of 94 (by decide +kernel) (by decide +kernel)
theorem tq_95 : (Jvm.Cond.fieldLink "ThumpEars$State" 42 "ThumpEars$State" "pace" "I") ∈ TT := TT_of 95 (by decide +kernel) (by decide +kernel)
theorem tq_96 : (Jvm.Cond.fieldLink "ThumpEars" 235 "ThumpEars$State" "pace" "I") ∈ TT := TT_of 96 (by decide +kernel) (by decide +kernel)
theorem tq_97 : (Jvm.Cond.fieldLink "ThumpEars$State" 45 "ThumpEars$State" "tolerance" "I") ∈ TT := TT_of 97 (by decide +kernel) (by decide +kernel)
theorem tq_98 : (Jvm.Cond.fieldLink "ThumpEars" 217 "ThumpEars$State" "tolerance" "I") ∈ TT := TT_of 98 (by decide +kernel) (by decide +kernel)
theorem tq_99 : (Jvm.Cond.fieldLink "ThumpEars$State" 48 "ThumpEars$State" "latest" "I") ∈ TT := TT_of 99 (by decide +kernel) (by decide +kernel)
theorem tq_100 : (Jvm.Cond.fieldLink "ThumpEars" 238 "ThumpEars$State" "latest" "I") ∈ TT := TT_of 100 (by decide +kernel) (by decide +kernel)
theorem tq_101 : (Jvm.Cond.laysFinal "ThumpEars$State" "ThumpEars$State" "places" "[I") ∈ TT := TT_of 101 (by decide +kernel) (by decide +kernel)
theorem tq_102 : (Jvm.Cond.soleField "ThumpEars$State" "places") ∈ TT := TT_of 102 (by decide +kernel) (by decide +kernel)
theorem tq_103 : (Jvm.Cond.laysFinal "ThumpEars$State" "ThumpEars$State" "offsets" "[I") ∈ TT := TT_of 103 (by decide +kernel) (by decide +kernel)
theorem tq_104 : (Jvm.Cond.soleField "ThumpEars$State" "offsets") ∈ TT := TT_of 104 (by decide +kernel) (by decide +kernel)
theorem tq_105 : (Jvm.Cond.laysFinal "ThumpEars$State" "ThumpEars$State" "drifts" "[I") ∈ TT := TT_of 105 (by decide +kernel) (by decide +kernel)
theorem tq_106 : (Jvm.Cond.soleField "ThumpEars$State" "drifts") ∈ TT := TT_of 106 (by decide +kernel) (by decide +kernel)
theorem tq_107 : (Jvm.Cond.laysFinal "ThumpEars$State" "ThumpEars$State" "mutes" "[Z") ∈ TT := TT_of 107 (by decide +kernel) (by decide +kernel)
theorem tq_108 : (Jvm.Cond.soleField "ThumpEars$State" "mutes") ∈ TT := TT_of 108 (by decide +kernel) (by decide +kernel)
theorem tq_109 : (Jvm.Cond.laysFinal "ThumpEars$State" "ThumpEars$State" "leftOut" "[Z") ∈ TT := TT_of 109 (by decide +kernel) (by decide +kernel)
theorem tq_110 : (Jvm.Cond.soleField "ThumpEars$State" "leftOut") ∈ TT := TT_of 110 (by decide +kernel) (by decide +kernel)
theorem tq_111 : (Jvm.Cond.laysFinal "ThumpEars$State" "ThumpEars$State" "thumps" "LThumpEars$Sounds;") ∈ TT := TT_of 111 (by decide +kernel) (by decide +kernel)
theorem tq_112 : (Jvm.Cond.soleField "ThumpEars$State" "thumps") ∈ TT := TT_of 112 (by decide +kernel) (by decide +kernel)
theorem tq_113 : (Jvm.Cond.laysFinal "ThumpEars$State" "ThumpEars$State" "knocks" "LThumpEars$Sounds;") ∈ TT := TT_of 113 (by decide +kernel) (by decide +kernel)
theorem tq_114 : (Jvm.Cond.soleField "ThumpEars$State" "knocks") ∈ TT := TT_of 114 (by decide +kernel) (by decide +kernel)
theorem tq_115 : (Jvm.Cond.lays "ThumpEars$State" "ThumpEars$State" "ears" "I") ∈ TT := TT_of 115 (by decide +kernel) (by decide +kernel)
theorem tq_116 : (Jvm.Cond.soleField "ThumpEars$State" "ears") ∈ TT := TT_of 116 (by decide +kernel) (by decide +kernel)
theorem tq_117 : (Jvm.Cond.lays "ThumpEars$State" "ThumpEars$State" "pace" "I") ∈ TT := TT_of 117 (by decide +kernel) (by decide +kernel)
theorem tq_118 : (Jvm.Cond.soleField "ThumpEars$State" "pace") ∈ TT := TT_of 118 (by decide +kernel) (by decide +kernel)
theorem tq_119 : (Jvm.Cond.lays "ThumpEars$State" "ThumpEars$State" "tolerance" "I") ∈ TT := TT_of 119 (by decide +kernel) (by decide +kernel)
theorem tq_120 : (Jvm.Cond.soleField "ThumpEars$State" "tolerance") ∈ TT := TT_of 120 (by decide +kernel) (by decide +kernel)
theorem tq_121 : (Jvm.Cond.lays "ThumpEars$State" "ThumpEars$State" "latest" "I") ∈ TT := TT_of 121 (by decide +kernel) (by decide +kernel)
theorem tq_122 : (Jvm.Cond.soleField "ThumpEars$State" "latest") ∈ TT := TT_of 122 (by decide +kernel) (by decide +kernel)
theorem tq_123 : (Jvm.Cond.superclass "ThumpEars$State" "java/lang/Object") ∈ TT := TT_of 123 (by decide +kernel) (by decide +kernel)
theorem tq_124 : (Jvm.Cond.classLink "ThumpEars" 23 "ThumpEars$History") ∈ TT := TT_of 124 (by decide +kernel) (by decide +kernel)
theorem tq_125 : (Jvm.Cond.instantiable "ThumpEars$History" 2) ∈ TT := TT_of 125 (by decide +kernel) (by decide +kernel)
theorem tq_126 : (Jvm.Cond.methodLink "ThumpEars" 25 (⟨"ThumpEars$History", "<init>", "()V"⟩ : Jvm.MethodName)) ∈ TT := TT_of 126 (by decide +kernel) (by decide +kernel)
theorem tq_127 : (Jvm.Cond.instanceMethod (⟨"ThumpEars$History", "<init>", "()V"⟩ : Jvm.MethodName)) ∈ TT := TT_of 127 (by decide +kernel) (by decide +kernel)
theorem tq_128 : (Jvm.Cond.code (⟨"ThumpEars$History", "<init>", "()V"⟩ : Jvm.MethodName) prog_2_method_1_code 2 (Option.none : Option Jvm.ClassFile.FieldType)) ∈ TT := TT_of 128 (by decide +kernel) (by decide +kernel)
theorem tq_129 : (Jvm.Cond.methodLink "ThumpEars$History" 3 (⟨"java/lang/Object", "<init>", "()V"⟩ : Jvm.MethodName)) ∈ TT := TT_of 129 (by decide +kernel) (by decide +kernel)
theorem tq_130 : (Jvm.Cond.classLink "ThumpEars$History" 9 "ThumpEars$State") ∈ TT := TT_of 130 (by decide +kernel) (by decide +kernel)
theorem tl_131 : (Jvm.Cond.arrayOver (Jvm.ClassFile.FieldType.object "ThumpEars$State")) ∈ lw_tbl := List.mem_of_getElem? (i := 131) (by decide +kernel)
theorem tl_132 : (Jvm.Cond.methodLinkNest "ThumpEars$History" 21 (⟨"ThumpEars$State", "<init>", "()V"⟩ : Jvm.MethodName) "ThumpEars") ∈ lw_tbl := List.mem_of_getElem? (i := 132) (by decide +kernel)
theorem tq_133 : (Jvm.Cond.fieldLink "ThumpEars$History" 11 "ThumpEars$History" "states" "[LThumpEars$State;") ∈ TT := TT_of 133 (by decide +kernel) (by decide +kernel)
theorem tq_134 : (Jvm.Cond.fieldLink "ThumpEars$History" 17 "ThumpEars$History" "size" "I") ∈ TT := TT_of 134 (by decide +kernel) (by decide +kernel)
theorem tq_135 : (Jvm.Cond.fieldLink "ThumpEars" 146 "ThumpEars$History" "size" "I") ∈ TT := TT_of 135 (by decide +kernel) (by decide +kernel)
theorem tq_136 : (Jvm.Cond.laysFinal "ThumpEars$History" "ThumpEars$History" "states" "[LThumpEars$State;") ∈ TT := TT_of 136 (by decide +kernel) (by decide +kernel)
theorem tq_137 : (Jvm.Cond.soleField "ThumpEars$History" "states") ∈ TT := TT_of 137 (by decide +kernel) (by decide +kernel)
theorem tq_138 : (Jvm.Cond.lays "ThumpEars$History" "ThumpEars$History" "size" "I") ∈ TT := TT_of 138 (by decide +kernel) (by decide +kernel)
theorem tq_139 : (Jvm.Cond.soleField "ThumpEars$History" "size") ∈ TT := TT_of 139 (by decide +kernel) (by decide +kernel)
theorem tq_140 : (Jvm.Cond.superclass "ThumpEars$History" "java/lang/Object") ∈ TT := TT_of 140 (by decide +kernel) (by decide +kernel)
theorem tq_141 : (Jvm.Cond.classLink "ThumpEars" 30 "ThumpEars$OrderText") ∈ TT := TT_of 141 (by decide +kernel) (by decide +kernel)
theorem tq_142 : (Jvm.Cond.instantiable "ThumpEars$OrderText" 9) ∈ TT := TT_of 142 (by decide +kernel) (by decide +kernel)
theorem tl_143 : (Jvm.Cond.methodLinkNest "ThumpEars" 32 (⟨"ThumpEars$OrderText", "<init>", "()V"⟩ : Jvm.MethodName) "ThumpEars") ∈ lw_tbl := List.mem_of_getElem? (i := 143) (by decide +kernel)
theorem tq_144 : (Jvm.Cond.instanceMethod (⟨"ThumpEars$OrderText", "<init>", "()V"⟩ : Jvm.MethodName)) ∈ TT := TT_of 144 (by decide +kernel) (by decide +kernel)
theorem tq_145 : (Jvm.Cond.code (⟨"ThumpEars$OrderText", "<init>", "()V"⟩ : Jvm.MethodName) prog_4_method_1_code 1 (Option.none : Option Jvm.ClassFile.FieldType)) ∈ TT := TT_of 145 (by decide +kernel) (by decide +kernel)
theorem tq_146 : (Jvm.Cond.methodLink "ThumpEars$OrderText" 3 (⟨"java/lang/Object", "<init>", "()V"⟩ : Jvm.MethodName)) ∈ TT := TT_of 146 (by decide +kernel) (by decide +kernel)
theorem tq_147 : (Jvm.Cond.fieldLink "ThumpEars$OrderText" 9 "ThumpEars$OrderText" "signs" "[C") ∈ TT := TT_of 147 (by decide +kernel) (by decide +kernel)
theorem tq_148 : (Jvm.Cond.fieldLink "ThumpEars" 142 "ThumpEars$OrderText" "signs" "[C") ∈ TT := TT_of 148 (by decide +kernel) (by decide +kernel)
theorem tq_149 : (Jvm.Cond.fieldLink "ThumpEars$OrderText" 15 "ThumpEars$OrderText" "length" "I") ∈ TT := TT_of 149 (by decide +kernel) (by decide +kernel)
theorem tq_150 : (Jvm.Cond.fieldLink "ThumpEars" 139 "ThumpEars$OrderText" "length" "I") ∈ TT := TT_of 150 (by decide +kernel) (by decide +kernel)
theorem tq_151 : (Jvm.Cond.fieldLink "ThumpEars$OrderText" 19 "ThumpEars$OrderText" "areThumps" "[Z") ∈ TT := TT_of 151 (by decide +kernel) (by decide +kernel)
theorem tq_152 : (Jvm.Cond.fieldLink "ThumpEars" 124 "ThumpEars$OrderText" "areThumps" "[Z") ∈ TT := TT_of 152 (by decide +kernel) (by decide +kernel)
theorem tq_153 : (Jvm.Cond.fieldLink "ThumpEars$OrderText" 23 "ThumpEars$OrderText" "places" "[I") ∈ TT := TT_of 153 (by decide +kernel) (by decide +kernel)
theorem tq_154 : (Jvm.Cond.fieldLink "ThumpEars" 127 "ThumpEars$OrderText" "places" "[I") ∈ TT := TT_of 154 (by decide +kernel) (by decide +kernel)
theorem tq_155 : (Jvm.Cond.fieldLink "ThumpEars$OrderText" 27 "ThumpEars$OrderText" "times" "[I") ∈ TT := TT_of 155 (by decide +kernel) (by decide +kernel)
theorem tq_156 : (Jvm.Cond.fieldLink "ThumpEars" 130 "ThumpEars$OrderText" "times" "[I") ∈ TT := TT_of 156 (by decide +kernel) (by decide +kernel)
theorem tq_157 : (Jvm.Cond.fieldLink "ThumpEars$OrderText" 30 "ThumpEars$OrderText" "reaches" "[I") ∈ TT := TT_of 157 (by decide +kernel) (by decide +kernel)
theorem tq_158 : (Jvm.Cond.fieldLink "ThumpEars" 133 "ThumpEars$OrderText" "reaches" "[I") ∈ TT := TT_of 158 (by decide +kernel) (by decide +kernel)
theorem tq_159 : (Jvm.Cond.fieldLink "ThumpEars$OrderText" 33 "ThumpEars$OrderText" "orders" "I") ∈ TT := TT_of 159 (by decide +kernel) (by decide +kernel)
theorem tq_160 : (Jvm.Cond.fieldLink "ThumpEars" 121 "ThumpEars$OrderText" "orders" "I") ∈ TT := TT_of 160 (by decide +kernel) (by decide +kernel)
theorem tq_161 : (Jvm.Cond.fieldLink "ThumpEars$OrderText" 36 "ThumpEars$OrderText" "position" "I") ∈ TT := TT_of 161 (by decide +kernel) (by decide +kernel)
theorem tq_162 : (Jvm.Cond.fieldLink "ThumpEars$OrderText" 39 "ThumpEars$OrderText" "number" "I") ∈ TT := TT_of 162 (by decide +kernel) (by decide +kernel)
theorem tq_163 : (Jvm.Cond.laysFinal "ThumpEars$OrderText" "ThumpEars$OrderText" "signs" "[C") ∈ TT := TT_of 163 (by decide +kernel) (by decide +kernel)
theorem tq_164 : (Jvm.Cond.soleField "ThumpEars$OrderText" "signs") ∈ TT := TT_of 164 (by decide +kernel) (by decide +kernel)
theorem tq_165 : (Jvm.Cond.lays "ThumpEars$OrderText" "ThumpEars$OrderText" "length" "I") ∈ TT := TT_of 165 (by decide +kernel) (by decide +kernel)
theorem tq_166 : (Jvm.Cond.soleField "ThumpEars$OrderText" "length") ∈ TT := TT_of 166 (by decide +kernel) (by decide +kernel)
theorem tq_167 : (Jvm.Cond.laysFinal "ThumpEars$OrderText" "ThumpEars$OrderText" "areThumps" "[Z") ∈ TT := TT_of 167 (by decide +kernel) (by decide +kernel)
theorem tq_168 : (Jvm.Cond.soleField "ThumpEars$OrderText" "areThumps") ∈ TT := TT_of 168 (by decide +kernel) (by decide +kernel)
theorem tq_169 : (Jvm.Cond.laysFinal "ThumpEars$OrderText" "ThumpEars$OrderText" "places" "[I") ∈ TT := TT_of 169 (by decide +kernel) (by decide +kernel)
theorem tq_170 : (Jvm.Cond.soleField "ThumpEars$OrderText" "places") ∈ TT := TT_of 170 (by decide +kernel) (by decide +kernel)
theorem tq_171 : (Jvm.Cond.laysFinal "ThumpEars$OrderText" "ThumpEars$OrderText" "times" "[I") ∈ TT := TT_of 171 (by decide +kernel) (by decide +kernel)
theorem tq_172 : (Jvm.Cond.soleField "ThumpEars$OrderText" "times") ∈ TT := TT_of 172 (by decide +kernel) (by decide +kernel)
theorem tq_173 : (Jvm.Cond.laysFinal "ThumpEars$OrderText" "ThumpEars$OrderText" "reaches" "[I") ∈ TT := TT_of 173 (by decide +kernel) (by decide +kernel)
theorem tq_174 : (Jvm.Cond.soleField "ThumpEars$OrderText" "reaches") ∈ TT := TT_of 174 (by decide +kernel) (by decide +kernel)
theorem tq_175 : (Jvm.Cond.lays "ThumpEars$OrderText" "ThumpEars$OrderText" "orders" "I") ∈ TT := TT_of 175 (by decide +kernel) (by decide +kernel)
theorem tq_176 : (Jvm.Cond.soleField "ThumpEars$OrderText" "orders") ∈ TT := TT_of 176 (by decide +kernel) (by decide +kernel)
theorem tq_177 : (Jvm.Cond.lays "ThumpEars$OrderText" "ThumpEars$OrderText" "position" "I") ∈ TT := TT_of 177 (by decide +kernel) (by decide +kernel)
theorem tq_178 : (Jvm.Cond.soleField "ThumpEars$OrderText" "position") ∈ TT := TT_of 178 (by decide +kernel) (by decide +kernel)
theorem tq_179 : (Jvm.Cond.lays "ThumpEars$OrderText" "ThumpEars$OrderText" "number" "I") ∈ TT := TT_of 179 (by decide +kernel) (by decide +kernel)
theorem tq_180 : (Jvm.Cond.soleField "ThumpEars$OrderText" "number") ∈ TT := TT_of 180 (by decide +kernel) (by decide +kernel)
theorem tq_181 : (Jvm.Cond.superclass "ThumpEars$OrderText" "java/lang/Object") ∈ TT := TT_of 181 (by decide +kernel) (by decide +kernel)
theorem tq_182 : (Jvm.Cond.arrayClass Jvm.ClassFile.FieldType.char) ∈ TT := TT_of 182 (by decide +kernel) (by decide +kernel)
theorem tq_183 : (Jvm.Cond.classLink "ThumpEars" 37 "ThumpEars$Marks") ∈ TT := TT_of 183 (by decide +kernel) (by decide +kernel)
theorem tq_184 : (Jvm.Cond.instantiable "ThumpEars$Marks" 4) ∈ TT := TT_of 184 (by decide +kernel) (by decide +kernel)
theorem tl_185 : (Jvm.Cond.methodLinkNest "ThumpEars" 39 (⟨"ThumpEars$Marks", "<init>", "()V"⟩ : Jvm.MethodName) "ThumpEars") ∈ lw_tbl := List.mem_of_getElem? (i := 185) (by decide +kernel)
theorem tq_186 : (Jvm.Cond.instanceMethod (⟨"ThumpEars$Marks", "<init>", "()V"⟩ : Jvm.MethodName)) ∈ TT := TT_of 186 (by decide +kernel) (by decide +kernel)
theorem tq_187 : (Jvm.Cond.code (⟨"ThumpEars$Marks", "<init>", "()V"⟩ : Jvm.MethodName) prog_3_method_1_code 1 (Option.none : Option Jvm.ClassFile.FieldType)) ∈ TT := TT_of 187 (by decide +kernel) (by decide +kernel)
theorem tq_188 : (Jvm.Cond.methodLink "ThumpEars$Marks" 3 (⟨"java/lang/Object", "<init>", "()V"⟩ : Jvm.MethodName)) ∈ TT := TT_of 188 (by decide +kernel) (by decide +kernel)
theorem tq_189 : (Jvm.Cond.fieldLink "ThumpEars$Marks" 9 "ThumpEars$Marks" "thumps" "[I") ∈ TT := TT_of 189 (by decide +kernel) (by decide +kernel)
theorem tq_190 : (Jvm.Cond.fieldLink "ThumpEars" 179 "ThumpEars$Marks" "thumps" "[I") ∈ TT := TT_of 190 (by decide +kernel) (by decide +kernel)
theorem tq_191 : (Jvm.Cond.fieldLink "ThumpEars$Marks" 15 "ThumpEars$Marks" "readings" "[I") ∈ TT := TT_of 191 (by decide +kernel) (by decide +kernel)
theorem tq_192 : (Jvm.Cond.fieldLink "ThumpEars" 173 "ThumpEars$Marks" "readings" "[I") ∈ TT := TT_of 192 (by decide +kernel) (by decide +kernel)
theorem tq_193 : (Jvm.Cond.fieldLink "ThumpEars$Marks" 18 "ThumpEars$Marks" "errors" "[I") ∈ TT := TT_of 193 (by decide +kernel) (by decide +kernel)
theorem tq_194 : (Jvm.Cond.fieldLink "ThumpEars" 176 "ThumpEars$Marks" "errors" "[I") ∈ TT := TT_of 194 (by decide +kernel) (by decide +kernel)
theorem tq_195 : (Jvm.Cond.fieldLink "ThumpEars$Marks" 21 "ThumpEars$Marks" "size" "I") ∈ TT := TT_of 195 (by decide +kernel) (by decide +kernel)
theorem tq_196 : (Jvm.Cond.fieldLink "ThumpEars" 161 "ThumpEars$Marks" "size" "I") ∈ TT := TT_of 196 (by decide +kernel) (by decide +kernel)
theorem tq_197 : (Jvm.Cond.laysFinal "ThumpEars$Marks" "ThumpEars$Marks" "thumps" "[I") ∈ TT := TT_of 197 (by decide +kernel) (by decide +kernel)
theorem tq_198 : (Jvm.Cond.soleField "ThumpEars$Marks" "thumps") ∈ TT := TT_of 198 (by decide +kernel) (by decide +kernel)
theorem tq_199 : (Jvm.Cond.laysFinal "ThumpEars$Marks" "ThumpEars$Marks" "readings" "[I") ∈ TT := TT_of 199 (by decide +kernel) (by decide +kernel)
theorem tq_200 : (Jvm.Cond.soleField "ThumpEars$Marks" "readings") ∈ TT := TT_of 200 (by decide +kernel) (by decide +kernel)
theorem tq_201 : (Jvm.Cond.laysFinal "ThumpEars$Marks" "ThumpEars$Marks" "errors" "[I") ∈ TT := TT_of 201 (by decide +kernel) (by decide +kernel)
theorem tq_202 : (Jvm.Cond.soleField "ThumpEars$Marks" "errors") ∈ TT := TT_of 202 (by decide +kernel) (by decide +kernel)
theorem tq_203 : (Jvm.Cond.lays "ThumpEars$Marks" "ThumpEars$Marks" "size" "I") ∈ TT := TT_of 203 (by decide +kernel) (by decide +kernel)
theorem tq_204 : (Jvm.Cond.soleField "ThumpEars$Marks" "size") ∈ TT := TT_of 204 (by decide +kernel) (by decide +kernel)
theorem tq_205 : (Jvm.Cond.superclass "ThumpEars$Marks" "java/lang/Object") ∈ TT := TT_of 205 (by decide +kernel) (by decide +kernel)
theorem tq_206 : (Jvm.Cond.classLink "ThumpEars" 44 "ThumpEars$Source") ∈ TT := TT_of 206 (by decide +kernel) (by decide +kernel)
theorem tq_207 : (Jvm.Cond.instantiable "ThumpEars$Source" 8) ∈ TT := TT_of 207 (by decide +kernel) (by decide +kernel)
theorem tl_208 : (Jvm.Cond.methodLinkNest "ThumpEars" 46 (⟨"ThumpEars$Source", "<init>", "()V"⟩ : Jvm.MethodName) "ThumpEars") ∈ lw_tbl := List.mem_of_getElem? (i := 208) (by decide +kernel)
theorem tq_209 : (Jvm.Cond.instanceMethod (⟨"ThumpEars$Source", "<init>", "()V"⟩ : Jvm.MethodName)) ∈ TT := TT_of 209 (by decide +kernel) (by decide +kernel)
theorem tq_210 : (Jvm.Cond.code (⟨"ThumpEars$Source", "<init>", "()V"⟩ : Jvm.MethodName) prog_6_method_1_code 1 (Option.none : Option Jvm.ClassFile.FieldType)) ∈ TT := TT_of 210 (by decide +kernel) (by decide +kernel)
theorem tq_211 : (Jvm.Cond.methodLink "ThumpEars$Source" 3 (⟨"java/lang/Object", "<init>", "()V"⟩ : Jvm.MethodName)) ∈ TT := TT_of 211 (by decide +kernel) (by decide +kernel)
theorem tq_212 : (Jvm.Cond.fieldLink "ThumpEars$Source" 9 "ThumpEars$Source" "ears" "[I") ∈ TT := TT_of 212 (by decide +kernel) (by decide +kernel)
theorem tq_213 : (Jvm.Cond.fieldLink "ThumpEars$Source" 15 "ThumpEars$Source" "earPlaces" "[I") ∈ TT := TT_of 213 (by decide +kernel) (by decide +kernel)
theorem tq_214 : (Jvm.Cond.fieldLink "ThumpEars$Source" 18 "ThumpEars$Source" "rightTimes" "[J") ∈ TT := TT_of 214 (by decide +kernel) (by decide +kernel)
theorem tq_215 : (Jvm.Cond.fieldLink "ThumpEars$Source" 22 "ThumpEars$Source" "size" "I") ∈ TT := TT_of 215 (by decide +kernel) (by decide +kernel)
theorem tq_216 : (Jvm.Cond.fieldLink "ThumpEars" 203 "ThumpEars$Source" "size" "I") ∈ TT := TT_of 216 (by decide +kernel) (by decide +kernel)
theorem tq_217 : (Jvm.Cond.fieldLink "ThumpEars$Source" 26 "ThumpEars$Source" "perPlace" "J") ∈ TT := TT_of 217 (by decide +kernel) (by decide +kernel)
theorem tq_218 : (Jvm.Cond.fieldLink "ThumpEars$Source" 30 "ThumpEars$Source" "place" "I") ∈ TT := TT_of 218 (by decide +kernel) (by decide +kernel)
theorem tq_219 : (Jvm.Cond.fieldLink "ThumpEars" 207 "ThumpEars$Source" "place" "I") ∈ TT := TT_of 219 (by decide +kernel) (by decide +kernel)
theorem tq_220 : (Jvm.Cond.fieldLink "ThumpEars$Source" 33 "ThumpEars$Source" "least" "J") ∈ TT := TT_of 220 (by decide +kernel) (by decide +kernel)
theorem tq_221 : (Jvm.Cond.fieldLink "ThumpEars$Source" 36 "ThumpEars$Source" "greatest" "J") ∈ TT := TT_of 221 (by decide +kernel) (by decide +kernel)
theorem tq_222 : (Jvm.Cond.laysFinal "ThumpEars$Source" "ThumpEars$Source" "ears" "[I") ∈ TT := TT_of 222 (by decide +kernel) (by decide +kernel)
theorem tq_223 : (Jvm.Cond.soleField "ThumpEars$Source" "ears") ∈ TT := TT_of 223 (by decide +kernel) (by decide +kernel)
theorem tq_224 : (Jvm.Cond.laysFinal "ThumpEars$Source" "ThumpEars$Source" "earPlaces" "[I") ∈ TT := TT_of 224 (by decide +kernel) (by decide +kernel)
theorem tq_225 : (Jvm.Cond.soleField "ThumpEars$Source" "earPlaces") ∈ TT := TT_of 225 (by decide +kernel) (by decide +kernel)
theorem tq_226 : (Jvm.Cond.laysFinal "ThumpEars$Source" "ThumpEars$Source" "rightTimes" "[J") ∈ TT := TT_of 226 (by decide +kernel) (by decide +kernel)
theorem tq_227 : (Jvm.Cond.soleField "ThumpEars$Source" "rightTimes") ∈ TT := TT_of 227 (by decide +kernel) (by decide +kernel)
theorem tq_228 : (Jvm.Cond.lays "ThumpEars$Source" "ThumpEars$Source" "size" "I") ∈ TT := TT_of 228 (by decide +kernel) (by decide +kernel)
theorem tq_229 : (Jvm.Cond.soleField "ThumpEars$Source" "size") ∈ TT := TT_of 229 (by decide +kernel) (by decide +kernel)
theorem tq_230 : (Jvm.Cond.lays "ThumpEars$Source" "ThumpEars$Source" "perPlace" "J") ∈ TT := TT_of 230 (by decide +kernel) (by decide +kernel)
theorem tq_231 : (Jvm.Cond.soleField "ThumpEars$Source" "perPlace") ∈ TT := TT_of 231 (by decide +kernel) (by decide +kernel)
theorem tq_232 : (Jvm.Cond.lays "ThumpEars$Source" "ThumpEars$Source" "place" "I") ∈ TT := TT_of 232 (by decide +kernel) (by decide +kernel)
theorem tq_233 : (Jvm.Cond.soleField "ThumpEars$Source" "place") ∈ TT := TT_of 233 (by decide +kernel) (by decide +kernel)
theorem tq_234 : (Jvm.Cond.lays "ThumpEars$Source" "ThumpEars$Source" "least" "J") ∈ TT := TT_of 234 (by decide +kernel) (by decide +kernel)
theorem tq_235 : (Jvm.Cond.soleField "ThumpEars$Source" "least") ∈ TT := TT_of 235 (by decide +kernel) (by decide +kernel)
theorem tq_236 : (Jvm.Cond.lays "ThumpEars$Source" "ThumpEars$Source" "greatest" "J") ∈ TT := TT_of 236 (by decide +kernel) (by decide +kernel)
theorem tq_237 : (Jvm.Cond.soleField "ThumpEars$Source" "greatest") ∈ TT := TT_of 237 (by decide +kernel) (by decide +kernel)
theorem tq_238 : (Jvm.Cond.superclass "ThumpEars$Source" "java/lang/Object") ∈ TT := TT_of 238 (by decide +kernel) (by decide +kernel)
theorem tq_239 : (Jvm.Cond.arrayClass Jvm.ClassFile.FieldType.long) ∈ TT := TT_of 239 (by decide +kernel) (by decide +kernel)
theorem tq_240 : (Jvm.Cond.fieldLink "ThumpEars" 10 "ThumpEars" "now" "LThumpEars$State;") ∈ TT := TT_of 240 (by decide +kernel) (by decide +kernel)
theorem tq_241 : (Jvm.Cond.fieldLink "ThumpEars" 16 "ThumpEars" "snapshot" "LThumpEars$State;") ∈ TT := TT_of 241 (by decide +kernel) (by decide +kernel)
theorem tq_242 : (Jvm.Cond.fieldLink "ThumpEars" 19 "ThumpEars" "hasSnapshot" "Z") ∈ TT := TT_of 242 (by decide +kernel) (by decide +kernel)
theorem tq_243 : (Jvm.Cond.fieldLink "ThumpEars" 26 "ThumpEars" "history" "LThumpEars$History;") ∈ TT := TT_of 243 (by decide +kernel) (by decide +kernel)
theorem tq_244 : (Jvm.Cond.fieldLink "ThumpEars" 33 "ThumpEars" "text" "LThumpEars$OrderText;") ∈ TT := TT_of 244 (by decide +kernel) (by decide +kernel)
theorem tq_245 : (Jvm.Cond.fieldLink "ThumpEars" 40 "ThumpEars" "marks" "LThumpEars$Marks;") ∈ TT := TT_of 245 (by decide +kernel) (by decide +kernel)
theorem tq_246 : (Jvm.Cond.fieldLink "ThumpEars" 47 "ThumpEars" "source" "LThumpEars$Source;") ∈ TT := TT_of 246 (by decide +kernel) (by decide +kernel)
theorem tq_247 : (Jvm.Cond.laysFinal "ThumpEars" "ThumpEars" "now" "LThumpEars$State;") ∈ TT := TT_of 247 (by decide +kernel) (by decide +kernel)
theorem tq_248 : (Jvm.Cond.soleField "ThumpEars" "now") ∈ TT := TT_of 248 (by decide +kernel) (by decide +kernel)
theorem tq_249 : (Jvm.Cond.laysFinal "ThumpEars" "ThumpEars" "snapshot" "LThumpEars$State;") ∈ TT := TT_of 249 (by decide +kernel) (by decide +kernel)
theorem tq_250 : (Jvm.Cond.soleField "ThumpEars" "snapshot") ∈ TT := TT_of 250 (by decide +kernel) (by decide +kernel)
theorem tq_251 : (Jvm.Cond.lays "ThumpEars" "ThumpEars" "hasSnapshot" "Z") ∈ TT := TT_of 251 (by decide +kernel) (by decide +kernel)
theorem tq_252 : (Jvm.Cond.soleField "ThumpEars" "hasSnapshot") ∈ TT := TT_of 252 (by decide +kernel) (by decide +kernel)
theorem tq_253 : (Jvm.Cond.laysFinal "ThumpEars" "ThumpEars" "history" "LThumpEars$History;") ∈ TT := TT_of 253 (by decide +kernel) (by decide +kernel)
theorem tq_254 : (Jvm.Cond.soleField "ThumpEars" "history") ∈ TT := TT_of 254 (by decide +kernel) (by decide +kernel)
theorem tq_255 : (Jvm.Cond.laysFinal "ThumpEars" "ThumpEars" "text" "LThumpEars$OrderText;") ∈ TT := TT_of 255 (by decide +kernel) (by decide +kernel)
theorem tq_256 : (Jvm.Cond.soleField "ThumpEars" "text") ∈ TT := TT_of 256 (by decide +kernel) (by decide +kernel)
theorem tq_257 : (Jvm.Cond.laysFinal "ThumpEars" "ThumpEars" "marks" "LThumpEars$Marks;") ∈ TT := TT_of 257 (by decide +kernel) (by decide +kernel)
theorem tq_258 : (Jvm.Cond.soleField "ThumpEars" "marks") ∈ TT := TT_of 258 (by decide +kernel) (by decide +kernel)
theorem tq_259 : (Jvm.Cond.laysFinal "ThumpEars" "ThumpEars" "source" "LThumpEars$Source;") ∈ TT := TT_of 259 (by decide +kernel) (by decide +kernel)
theorem tq_260 : (Jvm.Cond.soleField "ThumpEars" "source") ∈ TT := TT_of 260 (by decide +kernel) (by decide +kernel)
theorem tq_261 : (Jvm.Cond.superclass "ThumpEars" "java/lang/Object") ∈ TT := TT_of 261 (by decide +kernel) (by decide +kernel)
theorem tq_262 : (Jvm.Cond.methodLink "ThumpEarsLaw" 101 (⟨"ThumpEars", "bury", "(I)I"⟩ : Jvm.MethodName)) ∈ TT := TT_of 262 (by decide +kernel) (by decide +kernel)
theorem tq_263 : (Jvm.Cond.instanceMethod (⟨"ThumpEars", "bury", "(I)I"⟩ : Jvm.MethodName)) ∈ TT := TT_of 263 (by decide +kernel) (by decide +kernel)
theorem tq_264 : (Jvm.Cond.selects "ThumpEars" (⟨"ThumpEars", "bury", "(I)I"⟩ : Jvm.MethodName) (⟨"ThumpEars", "bury", "(I)I"⟩ : Jvm.MethodName)) ∈ TT := TT_of 264 (by decide +kernel) (by decide +kernel)
theorem tq_265 : (Jvm.Cond.code (⟨"ThumpEars", "bury", "(I)I"⟩ : Jvm.MethodName) prog_1_method_2_code 2 (Option.some Jvm.ClassFile.FieldType.int)) ∈ TT := TT_of 265 (by decide +kernel) (by decide +kernel)
theorem tq_266 : (Jvm.Cond.methodLink "ThumpEars" 51 (⟨"ThumpEars", "isWithin", "(III)Z"⟩ : Jvm.MethodName)) ∈ TT := TT_of 266 (by decide +kernel) (by decide +kernel)
theorem tq_267 : (Jvm.Cond.static (⟨"ThumpEars", "isWithin", "(III)Z"⟩ : Jvm.MethodName)) ∈ TT := TT_of 267 (by decide +kernel) (by decide +kernel)
theorem tq_268 : (Jvm.Cond.code (⟨"ThumpEars", "isWithin", "(III)Z"⟩ : Jvm.MethodName) prog_1_method_26_code 3 (Option.some Jvm.ClassFile.FieldType.boolean)) ∈ TT := TT_of 268 (by decide +kernel) (by decide +kernel)
theorem tq_269 : (Jvm.Cond.methodLink "ThumpEars" 59 (⟨"ThumpEars$History", "push", "(LThumpEars$State;)V"⟩ : Jvm.MethodName)) ∈ TT := TT_of 269 (by decide +kernel) (by decide +kernel)
theorem tq_270 : (Jvm.Cond.instanceMethod (⟨"ThumpEars$History", "push", "(LThumpEars$State;)V"⟩ : Jvm.MethodName)) ∈ TT := TT_of 270 (by decide +kernel) (by decide +kernel)
theorem tq_271 : (Jvm.Cond.selects "ThumpEars$History" (⟨"ThumpEars$History", "push", "(LThumpEars$State;)V"⟩ : Jvm.MethodName) (⟨"ThumpEars$History", "push", "(LThumpEars$State;)V"⟩ : Jvm.MethodName)) ∈ TT := TT_of 271 (by decide +kernel) (by decide +kernel)
theorem tq_272 : (Jvm.Cond.code (⟨"ThumpEars$History", "push", "(LThumpEars$State;)V"⟩ : Jvm.MethodName) prog_2_method_2_code 2 (Option.none : Option Jvm.ClassFile.FieldType)) ∈ TT := TT_of 272 (by decide +kernel) (by decide +kernel)
theorem tq_273 : (Jvm.Cond.methodLink "ThumpEars$History" 22 (⟨"ThumpEars$History", "dropOldest", "()V"⟩ : Jvm.MethodName)) ∈ TT := TT_of 273 (by decide +kernel) (by decide +kernel)
theorem tq_274 : (Jvm.Cond.instanceMethod (⟨"ThumpEars$History", "dropOldest", "()V"⟩ : Jvm.MethodName)) ∈ TT := TT_of 274 (by decide +kernel) (by decide +kernel)
theorem tq_275 : (Jvm.Cond.selects "ThumpEars$History" (⟨"ThumpEars$History", "dropOldest", "()V"⟩ : Jvm.MethodName) (⟨"ThumpEars$History", "dropOldest", "()V"⟩ : Jvm.MethodName)) ∈ TT := TT_of 275 (by decide +kernel) (by decide +kernel)
theorem tq_276 : (Jvm.Cond.code (⟨"ThumpEars$History", "dropOldest", "()V"⟩ : Jvm.MethodName) prog_2_method_3_code 3 (Option.none : Option Jvm.ClassFile.FieldType)) ∈ TT := TT_of 276 (by decide +kernel) (by decide +kernel)
theorem tq_277 : (Jvm.Cond.methodLink "ThumpEars$History" 25 (⟨"ThumpEars$State", "copyFrom", "(LThumpEars$State;)V"⟩ : Jvm.MethodName)) ∈ TT := TT_of 277 (by decide +kernel) (by decide +kernel)
theorem tq_278 : (Jvm.Cond.instanceMethod (⟨"ThumpEars$State", "copyFrom", "(LThumpEars$State;)V"⟩ : Jvm.MethodName)) ∈ TT := TT_of 278 (by decide +kernel) (by decide +kernel)
theorem tq_279 : (Jvm.Cond.selects "ThumpEars$State" (⟨"ThumpEars$State", "copyFrom", "(LThumpEars$State;)V"⟩ : Jvm.MethodName) (⟨"ThumpEars$State", "copyFrom", "(LThumpEars$State;)V"⟩ : Jvm.MethodName)) ∈ TT := TT_of 279 (by decide +kernel) (by decide +kernel)
theorem tq_280 : (Jvm.Cond.code (⟨"ThumpEars$State", "copyFrom", "(LThumpEars$State;)V"⟩ : Jvm.MethodName) prog_7_method_2_code 2 (Option.none : Option Jvm.ClassFile.FieldType)) ∈ TT := TT_of 280 (by decide +kernel) (by decide +kernel)
theorem tq_281 : (Jvm.Cond.methodLink "ThumpEars$State" 51 (⟨"java/lang/System", "arraycopy", "(Ljava/lang/Object;ILjava/lang/Object;II)V"⟩ : Jvm.MethodName)) ∈ TT := TT_of 281 (by decide +kernel) (by decide +kernel)
theorem tq_282 : (Jvm.Cond.static (⟨"java/lang/System", "arraycopy", "(Ljava/lang/Object;ILjava/lang/Object;II)V"⟩ : Jvm.MethodName)) ∈ TT := TT_of 282 (by decide +kernel) (by decide +kernel)
theorem tq_283 : (Jvm.Cond.native (⟨"java/lang/System", "arraycopy", "(Ljava/lang/Object;ILjava/lang/Object;II)V"⟩ : Jvm.MethodName)) ∈ TT := TT_of 283 (by decide +kernel) (by decide +kernel)
theorem tq_284 : (Jvm.Cond.methodLink "ThumpEars$State" 57 (⟨"ThumpEars$Sounds", "copyFrom", "(LThumpEars$Sounds;)V"⟩ : Jvm.MethodName)) ∈ TT := TT_of 284 (by decide +kernel) (by decide +kernel)
theorem tq_285 : (Jvm.Cond.instanceMethod (⟨"ThumpEars$Sounds", "copyFrom", "(LThumpEars$Sounds;)V"⟩ : Jvm.MethodName)) ∈ TT := TT_of 285 (by decide +kernel) (by decide +kernel)
theorem tq_286 : (Jvm.Cond.selects "ThumpEars$Sounds" (⟨"ThumpEars$Sounds", "copyFrom", "(LThumpEars$Sounds;)V"⟩ : Jvm.MethodName) (⟨"ThumpEars$Sounds", "copyFrom", "(LThumpEars$Sounds;)V"⟩ : Jvm.MethodName)) ∈ TT := TT_of 286 (by decide +kernel) (by decide +kernel)
theorem tq_287 : (Jvm.Cond.code (⟨"ThumpEars$Sounds", "copyFrom", "(LThumpEars$Sounds;)V"⟩ : Jvm.MethodName) prog_5_method_2_code 3 (Option.none : Option Jvm.ClassFile.FieldType)) ∈ TT := TT_of 287 (by decide +kernel) (by decide +kernel)
theorem tq_288 : (Jvm.Cond.methodLink "ThumpEars$Sounds" 30 (⟨"java/lang/System", "arraycopy", "(Ljava/lang/Object;ILjava/lang/Object;II)V"⟩ : Jvm.MethodName)) ∈ TT := TT_of 288 (by decide +kernel) (by decide +kernel)
theorem tq_289 : (Jvm.Cond.methodLink "ThumpEars" 63 (⟨"ThumpEars$State", "addEar", "(I)I"⟩ : Jvm.MethodName)) ∈ TT := TT_of 289 (by decide +kernel) (by decide +kernel)
theorem tq_290 : (Jvm.Cond.instanceMethod (⟨"ThumpEars$State", "addEar", "(I)I"⟩ : Jvm.MethodName)) ∈ TT := TT_of 290 (by decide +kernel) (by decide +kernel)
theorem tq_291 : (Jvm.Cond.selects "ThumpEars$State" (⟨"ThumpEars$State", "addEar", "(I)I"⟩ : Jvm.MethodName) (⟨"ThumpEars$State", "addEar", "(I)I"⟩ : Jvm.MethodName)) ∈ TT := TT_of 291 (by decide +kernel) (by decide +kernel)
theorem tq_292 : (Jvm.Cond.code (⟨"ThumpEars$State", "addEar", "(I)I"⟩ : Jvm.MethodName) prog_7_method_4_code 2 (Option.some Jvm.ClassFile.FieldType.int)) ∈ TT := TT_of 292 (by decide +kernel) (by decide +kernel)
theorem tq_293 : (Jvm.Cond.methodLink "ThumpEarsLaw" 23 (⟨"ThumpEars", "count", "(I)I"⟩ : Jvm.MethodName)) ∈ TT := TT_of 293 (by decide +kernel) (by decide +kernel)
theorem tq_294 : (Jvm.Cond.instanceMethod (⟨"ThumpEars", "count", "(I)I"⟩ : Jvm.MethodName)) ∈ TT := TT_of 294 (by decide +kernel) (by decide +kernel)
theorem tq_295 : (Jvm.Cond.selects "ThumpEars" (⟨"ThumpEars", "count", "(I)I"⟩ : Jvm.MethodName) (⟨"ThumpEars", "count", "(I)I"⟩ : Jvm.MethodName)) ∈ TT := TT_of 295 (by decide +kernel) (by decide +kernel)
theorem tq_296 : (Jvm.Cond.code (⟨"ThumpEars", "count", "(I)I"⟩ : Jvm.MethodName) prog_1_method_25_code 2 (Option.some Jvm.ClassFile.FieldType.int)) ∈ TT := TT_of 296 (by decide +kernel) (by decide +kernel)
theorem tq_297 : (Jvm.Cond.methodLink "ThumpEars" 241 (⟨"ThumpEars", "countFlags", "([ZI)I"⟩ : Jvm.MethodName)) ∈ TT := TT_of 297 (by decide +kernel) (by decide +kernel)
theorem tq_298 : (Jvm.Cond.static (⟨"ThumpEars", "countFlags", "([ZI)I"⟩ : Jvm.MethodName)) ∈ TT := TT_of 298 (by decide +kernel) (by decide +kernel)
theorem tq_299 : (Jvm.Cond.code (⟨"ThumpEars", "countFlags", "([ZI)I"⟩ : Jvm.MethodName) prog_1_method_28_code 4 (Option.some Jvm.ClassFile.FieldType.int)) ∈ TT := TT_of 299 (by decide +kernel) (by decide +kernel)
theorem tq_300 : (Jvm.Cond.methodLink "ThumpEars" 245 (⟨"ThumpEars", "countFitting", "()I"⟩ : Jvm.MethodName)) ∈ TT := TT_of 300 (by decide +kernel) (by decide +kernel)
theorem tq_302 : (Jvm.Cond.instanceMethod (⟨"ThumpEars", "countFitting", "()I"⟩ : Jvm.MethodName)) ∈ TT := TT_of 302 (by decide +kernel) (by decide +kernel)
theorem tq_303 : (Jvm.Cond.code (⟨"ThumpEars", "countFitting", "()I"⟩ : Jvm.MethodName) prog_1_method_37_code 3 (Option.some Jvm.ClassFile.FieldType.int)) ∈ TT := TT_of 303 (by decide +kernel) (by decide +kernel)
theorem tq_304 : (Jvm.Cond.methodLink "ThumpEars" 199 (⟨"ThumpEars$Source", "listen", "(LThumpEars$State;ILThumpEars$Marks;)V"⟩ : Jvm.MethodName)) ∈ TT := TT_of 304 (by decide +kernel) (by decide +kernel)
theorem tq_305 : (Jvm.Cond.instanceMethod (⟨"ThumpEars$Source", "listen", "(LThumpEars$State;ILThumpEars$Marks;)V"⟩ : Jvm.MethodName)) ∈ TT := TT_of 305 (by decide +kernel) (by decide +kernel)
theorem tq_306 : (Jvm.Cond.selects "ThumpEars$Source" (⟨"ThumpEars$Source", "listen", "(LThumpEars$State;ILThumpEars$Marks;)V"⟩ : Jvm.MethodName) (⟨"ThumpEars$Source", "listen", "(LThumpEars$State;ILThumpEars$Marks;)V"⟩ : Jvm.MethodName)) ∈ TT := TT_of 306 (by decide +kernel) (by decide +kernel)
theorem tq_307 : (Jvm.Cond.code (⟨"ThumpEars$Source", "listen", "(LThumpEars$State;ILThumpEars$Marks;)V"⟩ : Jvm.MethodName) prog_6_method_2_code 6 (Option.none : Option Jvm.ClassFile.FieldType)) ∈ TT := TT_of 307 (by decide +kernel) (by decide +kernel)
theorem tq_308 : (Jvm.Cond.constantLong "ThumpEars$Source" 39 (1000 : Int64)) ∈ TT := TT_of 308 (by decide +kernel) (by decide +kernel)
theorem tq_309 : (Jvm.Cond.constant "ThumpEars$Source" 58 (-1000000 : Int32)) ∈ TT := TT_of 309 (by decide +kernel) (by decide +kernel)
theorem tq_310 : (Jvm.Cond.methodLink "ThumpEars$Source" 59 (⟨"ThumpEars$Marks", "gather", "(LThumpEars$State;I)V"⟩ : Jvm.MethodName)) ∈ TT := TT_of 310 (by decide +kernel) (by decide +kernel)
theorem tq_311 : (Jvm.Cond.instanceMethod (⟨"ThumpEars$Marks", "gather", "(LThumpEars$State;I)V"⟩ : Jvm.MethodName)) ∈ TT := TT_of 311 (by decide +kernel) (by decide +kernel)
theorem tq_312 : (Jvm.Cond.selects "ThumpEars$Marks" (⟨"ThumpEars$Marks", "gather", "(LThumpEars$State;I)V"⟩ : Jvm.MethodName) (⟨"ThumpEars$Marks", "gather", "(LThumpEars$State;I)V"⟩ : Jvm.MethodName)) ∈ TT := TT_of 312 (by decide +kernel) (by decide +kernel)
theorem tq_313 : (Jvm.Cond.code (⟨"ThumpEars$Marks", "gather", "(LThumpEars$State;I)V"⟩ : Jvm.MethodName) prog_3_method_2_code 7 (Option.none : Option Jvm.ClassFile.FieldType)) ∈ TT := TT_of 313 (by decide +kernel) (by decide +kernel)
theorem tq_314 : (Jvm.Cond.constant "ThumpEars$Marks" 36 (-1000000 : Int32)) ∈ TT := TT_of 314 (by decide +kernel) (by decide +kernel)
theorem tq_315 : (Jvm.Cond.methodLink "ThumpEars$Marks" 41 (⟨"ThumpEars$Marks", "isBehindAll", "(I)Z"⟩ : Jvm.MethodName)) ∈ TT := TT_of 315 (by decide +kernel) (by decide +kernel)
theorem tq_316 : (Jvm.Cond.instanceMethod (⟨"ThumpEars$Marks", "isBehindAll", "(I)Z"⟩ : Jvm.MethodName)) ∈ TT := TT_of 316 (by decide +kernel) (by decide +kernel)
theorem tq_317 : (Jvm.Cond.selects "ThumpEars$Marks" (⟨"ThumpEars$Marks", "isBehindAll", "(I)Z"⟩ : Jvm.MethodName) (⟨"ThumpEars$Marks", "isBehindAll", "(I)Z"⟩ : Jvm.MethodName)) ∈ TT := TT_of 317 (by decide +kernel) (by decide +kernel)
theorem tq_318 : (Jvm.Cond.code (⟨"ThumpEars$Marks", "isBehindAll", "(I)Z"⟩ : Jvm.MethodName) prog_3_method_3_code 2 (Option.some Jvm.ClassFile.FieldType.boolean)) ∈ TT := TT_of 318 (by decide +kernel) (by decide +kernel)
theorem tq_319 : (Jvm.Cond.methodLink "ThumpEars$Marks" 48 (⟨"ThumpEars$State", "wayTo", "(II)I"⟩ : Jvm.MethodName)) ∈ TT := TT_of 319 (by decide +kernel) (by decide +kernel)
theorem tq_320 : (Jvm.Cond.instanceMethod (⟨"ThumpEars$State", "wayTo", "(II)I"⟩ : Jvm.MethodName)) ∈ TT := TT_of 320 (by decide +kernel) (by decide +kernel)
theorem tq_321 : (Jvm.Cond.selects "ThumpEars$State" (⟨"ThumpEars$State", "wayTo", "(II)I"⟩ : Jvm.MethodName) (⟨"ThumpEars$State", "wayTo", "(II)I"⟩ : Jvm.MethodName)) ∈ TT := TT_of 321 (by decide +kernel) (by decide +kernel)
theorem tq_322 : (Jvm.Cond.code (⟨"ThumpEars$State", "wayTo", "(II)I"⟩ : Jvm.MethodName) prog_7_method_6_code 3 (Option.some Jvm.ClassFile.FieldType.int)) ∈ TT := TT_of 322 (by decide +kernel) (by decide +kernel)
theorem tq_323 : (Jvm.Cond.methodLink "ThumpEars$State" 67 (⟨"java/lang/Math", "abs", "(I)I"⟩ : Jvm.MethodName)) ∈ TT := TT_of 323 (by decide +kernel) (by decide +kernel)
theorem tq_324 : (Jvm.Cond.static (⟨"java/lang/Math", "abs", "(I)I"⟩ : Jvm.MethodName)) ∈ TT := TT_of 324 (by decide +kernel) (by decide +kernel)
theorem tq_325 : (Jvm.Cond.code (⟨"java/lang/Math", "abs", "(I)I"⟩ : Jvm.MethodName) prog_10_method_59_code 1 (Option.some Jvm.ClassFile.FieldType.int)) ∈ TT := TT_of 325 (by decide +kernel) (by decide +kernel)
theorem tq_326 : (Jvm.Cond.methodLink "ThumpEars$Source" 68 (⟨"ThumpEars$Marks", "rightTime", "(I)J"⟩ : Jvm.MethodName)) ∈ TT := TT_of 326 (by decide +kernel) (by decide +kernel)
theorem tq_327 : (Jvm.Cond.instanceMethod (⟨"ThumpEars$Marks", "rightTime", "(I)J"⟩ : Jvm.MethodName)) ∈ TT := TT_of 327 (by decide +kernel) (by decide +kernel)
theorem tq_328 : (Jvm.Cond.selects "ThumpEars$Marks" (⟨"ThumpEars$Marks", "rightTime", "(I)J"⟩ : Jvm.MethodName) (⟨"ThumpEars$Marks", "rightTime", "(I)J"⟩ : Jvm.MethodName)) ∈ TT := TT_of 328 (by decide +kernel) (by decide +kernel)
theorem tq_329 : (Jvm.Cond.code (⟨"ThumpEars$Marks", "rightTime", "(I)J"⟩ : Jvm.MethodName) prog_3_method_7_code 2 (Option.some Jvm.ClassFile.FieldType.long)) ∈ TT := TT_of 329 (by decide +kernel) (by decide +kernel)
theorem tq_330 : (Jvm.Cond.constantLong "ThumpEars$Marks" 67 (1000 : Int64)) ∈ TT := TT_of 330 (by decide +kernel) (by decide +kernel)
theorem tq_331 : (Jvm.Cond.methodLink "ThumpEars$Marks" 73 (⟨"ThumpEars$Marks", "errorAt", "(I)J"⟩ : Jvm.MethodName)) ∈ TT := TT_of 331 (by decide +kernel) (by decide +kernel)
theorem tq_332 : (Jvm.Cond.instanceMethod (⟨"ThumpEars$Marks", "errorAt", "(I)J"⟩ : Jvm.MethodName)) ∈ TT := TT_of 332 (by decide +kernel) (by decide +kernel)
theorem tq_333 : (Jvm.Cond.selects "ThumpEars$Marks" (⟨"ThumpEars$Marks", "errorAt", "(I)J"⟩ : Jvm.MethodName) (⟨"ThumpEars$Marks", "errorAt", "(I)J"⟩ : Jvm.MethodName)) ∈ TT := TT_of 333 (by decide +kernel) (by decide +kernel)
theorem tq_334 : (Jvm.Cond.code (⟨"ThumpEars$Marks", "errorAt", "(I)J"⟩ : Jvm.MethodName) prog_3_method_5_code 10 (Option.some Jvm.ClassFile.FieldType.long)) ∈ TT := TT_of 334 (by decide +kernel) (by decide +kernel)
theorem tq_335 : (Jvm.Cond.methodLink "ThumpEars$Marks" 58 (⟨"ThumpEars$Marks", "firstOfPair", "(I)I"⟩ : Jvm.MethodName)) ∈ TT := TT_of 335 (by decide +kernel) (by decide +kernel)
theorem tq_336 : (Jvm.Cond.instanceMethod (⟨"ThumpEars$Marks", "firstOfPair", "(I)I"⟩ : Jvm.MethodName)) ∈ TT := TT_of 336 (by decide +kernel) (by decide +kernel)
theorem tq_337 : (Jvm.Cond.selects "ThumpEars$Marks" (⟨"ThumpEars$Marks", "firstOfPair", "(I)I"⟩ : Jvm.MethodName) (⟨"ThumpEars$Marks", "firstOfPair", "(I)I"⟩ : Jvm.MethodName)) ∈ TT := TT_of 337 (by decide +kernel) (by decide +kernel)
theorem tq_338 : (Jvm.Cond.code (⟨"ThumpEars$Marks", "firstOfPair", "(I)I"⟩ : Jvm.MethodName) prog_3_method_6_code 4 (Option.some Jvm.ClassFile.FieldType.int)) ∈ TT := TT_of 338 (by decide +kernel) (by decide +kernel)
theorem tq_339 : (Jvm.Cond.methodLink "ThumpEars$Marks" 62 (⟨"java/lang/Math", "min", "(II)I"⟩ : Jvm.MethodName)) ∈ TT := TT_of 339 (by decide +kernel) (by decide +kernel)
theorem tq_340 : (Jvm.Cond.static (⟨"java/lang/Math", "min", "(II)I"⟩ : Jvm.MethodName)) ∈ TT := TT_of 340 (by decide +kernel) (by decide +kernel)
theorem tq_341 : (Jvm.Cond.code (⟨"java/lang/Math", "min", "(II)I"⟩ : Jvm.MethodName) prog_10_method_69_code 2 (Option.some Jvm.ClassFile.FieldType.int)) ∈ TT := TT_of 341 (by decide +kernel) (by decide +kernel)
theorem tq_342 : (Jvm.Cond.methodLink "ThumpEars$Marks" 69 (⟨"java/lang/Math", "floorDiv", "(JJ)J"⟩ : Jvm.MethodName)) ∈ TT := TT_of 342 (by decide +kernel) (by decide +kernel)
theorem tq_343 : (Jvm.Cond.static (⟨"java/lang/Math", "floorDiv", "(JJ)J"⟩ : Jvm.MethodName)) ∈ TT := TT_of 343 (by decide +kernel) (by decide +kernel)
theorem tq_344 : (Jvm.Cond.code (⟨"java/lang/Math", "floorDiv", "(JJ)J"⟩ : Jvm.MethodName) prog_10_method_49_code 6 (Option.some Jvm.ClassFile.FieldType.long)) ∈ TT := TT_of 344 (by decide +kernel) (by decide +kernel)
theorem tq_345 : (Jvm.Cond.methodLink "ThumpEars" 204 (⟨"ThumpEars$Source", "locate", "()V"⟩ : Jvm.MethodName)) ∈ TT := TT_of 345 (by decide +kernel) (by decide +kernel)
theorem tq_346 : (Jvm.Cond.instanceMethod (⟨"ThumpEars$Source", "locate", "()V"⟩ : Jvm.MethodName)) ∈ TT := TT_of 346 (by decide +kernel) (by decide +kernel)
theorem tq_347 : (Jvm.Cond.selects "ThumpEars$Source" (⟨"ThumpEars$Source", "locate", "()V"⟩ : Jvm.MethodName) (⟨"ThumpEars$Source", "locate", "()V"⟩ : Jvm.MethodName)) ∈ TT := TT_of 347 (by decide +kernel) (by decide +kernel)
theorem tq_348 : (Jvm.Cond.code (⟨"ThumpEars$Source", "locate", "()V"⟩ : Jvm.MethodName) prog_6_method_5_code 5 (Option.none : Option Jvm.ClassFile.FieldType)) ∈ TT := TT_of 348 (by decide +kernel) (by decide +kernel)
theorem tq_349 : (Jvm.Cond.methodLink "ThumpEars$Source" 88 (⟨"ThumpEars$Source", "lookFrom", "(I)V"⟩ : Jvm.MethodName)) ∈ TT := TT_of 349 (by decide +kernel) (by decide +kernel)
theorem tq_350 : (Jvm.Cond.instanceMethod (⟨"ThumpEars$Source", "lookFrom", "(I)V"⟩ : Jvm.MethodName)) ∈ TT := TT_of 350 (by decide +kernel) (by decide +kernel)
theorem tq_351 : (Jvm.Cond.selects "ThumpEars$Source" (⟨"ThumpEars$Source", "lookFrom", "(I)V"⟩ : Jvm.MethodName) (⟨"ThumpEars$Source", "lookFrom", "(I)V"⟩ : Jvm.MethodName)) ∈ TT := TT_of 351 (by decide +kernel) (by decide +kernel)
theorem tq_352 : (Jvm.Cond.code (⟨"ThumpEars$Source", "lookFrom", "(I)V"⟩ : Jvm.MethodName) prog_6_method_4_code 5 (Option.none : Option Jvm.ClassFile.FieldType)) ∈ TT := TT_of 352 (by decide +kernel) (by decide +kernel)
theorem tq_353 : (Jvm.Cond.methodLink "ThumpEars$Source" 78 (⟨"ThumpEars$Source", "beginning", "(I)J"⟩ : Jvm.MethodName)) ∈ TT := TT_of 353 (by decide +kernel) (by decide +kernel)
theorem tq_354 : (Jvm.Cond.instanceMethod (⟨"ThumpEars$Source", "beginning", "(I)J"⟩ : Jvm.MethodName)) ∈ TT := TT_of 354 (by decide +kernel) (by decide +kernel)
theorem tq_355 : (Jvm.Cond.selects "ThumpEars$Source" (⟨"ThumpEars$Source", "beginning", "(I)J"⟩ : Jvm.MethodName) (⟨"ThumpEars$Source", "beginning", "(I)J"⟩ : Jvm.MethodName)) ∈ TT := TT_of 355 (by decide +kernel) (by decide +kernel)
theorem tq_356 : (Jvm.Cond.code (⟨"ThumpEars$Source", "beginning", "(I)J"⟩ : Jvm.MethodName) prog_6_method_3_code 2 (Option.some Jvm.ClassFile.FieldType.long)) ∈ TT := TT_of 356 (by decide +kernel) (by decide +kernel)
theorem tq_357 : (Jvm.Cond.methodLink "ThumpEars$Source" 72 (⟨"java/lang/Math", "abs", "(I)I"⟩ : Jvm.MethodName)) ∈ TT := TT_of 357 (by decide +kernel) (by decide +kernel)
theorem tq_358 : (Jvm.Cond.methodLink "ThumpEars$Source" 81 (⟨"java/lang/Math", "min", "(JJ)J"⟩ : Jvm.MethodName)) ∈ TT := TT_of 358 (by decide +kernel) (by decide +kernel)
theorem tq_359 : (Jvm.Cond.static (⟨"java/lang/Math", "min", "(JJ)J"⟩ : Jvm.MethodName)) ∈ TT := TT_of 359 (by decide +kernel) (by decide +kernel)
theorem tq_360 : (Jvm.Cond.code (⟨"java/lang/Math", "min", "(JJ)J"⟩ : Jvm.MethodName) prog_10_method_70_code 4 (Option.some Jvm.ClassFile.FieldType.long)) ∈ TT := TT_of 360 (by decide +kernel) (by decide +kernel)
theorem tq_361 : (Jvm.Cond.methodLink "ThumpEars$Source" 85 (⟨"java/lang/Math", "max", "(JJ)J"⟩ : Jvm.MethodName)) ∈ TT := TT_of 361 (by decide +kernel) (by decide +kernel)
theorem tq_362 : (Jvm.Cond.static (⟨"java/lang/Math", "max", "(JJ)J"⟩ : Jvm.MethodName)) ∈ TT := TT_of 362 (by decide +kernel) (by decide +kernel)
theorem tq_363 : (Jvm.Cond.code (⟨"java/lang/Math", "max", "(JJ)J"⟩ : Jvm.MethodName) prog_10_method_66_code 4 (Option.some Jvm.ClassFile.FieldType.long)) ∈ TT := TT_of 363 (by decide +kernel) (by decide +kernel)
theorem tq_364 : (Jvm.Cond.methodLink "ThumpEars$Source" 92 (⟨"ThumpEars$Source", "width", "()J"⟩ : Jvm.MethodName)) ∈ TT := TT_of 364 (by decide +kernel) (by decide +kernel)
theorem tq_365 : (Jvm.Cond.instanceMethod (⟨"ThumpEars$Source", "width", "()J"⟩ : Jvm.MethodName)) ∈ TT := TT_of 365 (by decide +kernel) (by decide +kernel)
theorem tq_366 : (Jvm.Cond.selects "ThumpEars$Source" (⟨"ThumpEars$Source", "width", "()J"⟩ : Jvm.MethodName) (⟨"ThumpEars$Source", "width", "()J"⟩ : Jvm.MethodName)) ∈ TT := TT_of 366 (by decide +kernel) (by decide +kernel)
theorem tq_367 : (Jvm.Cond.code (⟨"ThumpEars$Source", "width", "()J"⟩ : Jvm.MethodName) prog_6_method_6_code 1 (Option.some Jvm.ClassFile.FieldType.long)) ∈ TT := TT_of 367 (by decide +kernel) (by decide +kernel)
theorem tq_368 : (Jvm.Cond.methodLink "ThumpEars" 220 (⟨"ThumpEars$Source", "fits", "(I)Z"⟩ : Jvm.MethodName)) ∈ TT := TT_of 368 (by decide +kernel) (by decide +kernel)
theorem tq_369 : (Jvm.Cond.instanceMethod (⟨"ThumpEars$Source", "fits", "(I)Z"⟩ : Jvm.MethodName)) ∈ TT := TT_of 369 (by decide +kernel) (by decide +kernel)
theorem tq_370 : (Jvm.Cond.selects "ThumpEars$Source" (⟨"ThumpEars$Source", "fits", "(I)Z"⟩ : Jvm.MethodName) (⟨"ThumpEars$Source", "fits", "(I)Z"⟩ : Jvm.MethodName)) ∈ TT := TT_of 370 (by decide +kernel) (by decide +kernel)
theorem tq_371 : (Jvm.Cond.code (⟨"ThumpEars$Source", "fits", "(I)Z"⟩ : Jvm.MethodName) prog_6_method_7_code 2 (Option.some Jvm.ClassFile.FieldType.boolean)) ∈ TT := TT_of 371 (by decide +kernel) (by decide +kernel)
theorem tq_372 : (Jvm.Cond.methodLink "ThumpEarsLaw" 135 (⟨"ThumpEarsLaw", "cell", "([II)I"⟩ : Jvm.MethodName)) ∈ TT := TT_of 372 (by decide +kernel) (by decide +kernel)
theorem tq_373 : (Jvm.Cond.static (⟨"ThumpEarsLaw", "cell", "([II)I"⟩ : Jvm.MethodName)) ∈ TT := TT_of 373 (by decide +kernel) (by decide +kernel)
set_option maxRecDepth 100000 in
theorem tq_374 : (Jvm.Cond.code (⟨"ThumpEarsLaw", "cell", "([II)I"⟩ : Jvm.MethodName) method_2_code 2 (Option.some Jvm.ClassFile.FieldType.int)) ∈ TT := TT_of 374 (by rfl) (by rfl)
theorem tq_375 : (Jvm.Cond.constant "ThumpEarsLaw" 7 (14710021 : Int32)) ∈ TT := TT_of 375 (by decide +kernel) (by decide +kernel)
theorem tq_376 : (Jvm.Cond.methodLink "ThumpEarsLaw" 45 (⟨"ThumpEarsLaw", "low", "(II)I"⟩ : Jvm.MethodName)) ∈ TT := TT_of 376 (by decide +kernel) (by decide +kernel)
theorem tq_377 : (Jvm.Cond.static (⟨"ThumpEarsLaw", "low", "(II)I"⟩ : Jvm.MethodName)) ∈ TT := TT_of 377 (by decide +kernel) (by decide +kernel)
set_option maxRecDepth 100000 in
theorem tq_378 : (Jvm.Cond.code (⟨"ThumpEarsLaw", "low", "(II)I"⟩ : Jvm.MethodName) method_3_code 2 (Option.some Jvm.ClassFile.FieldType.int)) ∈ TT := TT_of 378 (by rfl) (by rfl)
theorem tq_379 : (Jvm.Cond.constant "ThumpEarsLaw" 8 (2147483647 : Int32)) ∈ TT := TT_of 379 (by decide +kernel) (by decide +kernel)
theorem tq_380 : (Jvm.Cond.methodLink "ThumpEarsLaw" 142 (⟨"ThumpEarsLaw", "ears", "(LThumpEars;[II)Z"⟩ : Jvm.MethodName)) ∈ TT := TT_of 380 (by decide +kernel) (by decide +kernel)
theorem tq_381 : (Jvm.Cond.static (⟨"ThumpEarsLaw", "ears", "(LThumpEars;[II)Z"⟩ : Jvm.MethodName)) ∈ TT := TT_of 381 (by decide +kernel) (by decide +kernel)
set_option maxRecDepth 100000 in
theorem tq_382 : (Jvm.Cond.code (⟨"ThumpEarsLaw", "ears", "(LThumpEars;[II)Z"⟩ : Jvm.MethodName) method_9_code 10 (Option.some Jvm.ClassFile.FieldType.boolean)) ∈ TT := TT_of 382 (by rfl) (by rfl)
theorem tq_383 : (Jvm.Cond.methodLink "ThumpEarsLaw" 40 (⟨"ThumpEarsLaw", "marks", "(LThumpEars;[II)Z"⟩ : Jvm.MethodName)) ∈ TT := TT_of 383 (by decide +kernel) (by decide +kernel)
theorem tq_384 : (Jvm.Cond.static (⟨"ThumpEarsLaw", "marks", "(LThumpEars;[II)Z"⟩ : Jvm.MethodName)) ∈ TT := TT_of 384 (by decide +kernel) (by decide +kernel)
set_option maxRecDepth 100000 in
theorem tq_385 : (Jvm.Cond.code (⟨"ThumpEarsLaw", "marks", "(LThumpEars;[II)Z"⟩ : Jvm.MethodName) method_7_code 8 (Option.some Jvm.ClassFile.FieldType.boolean)) ∈ TT := TT_of 385 (by rfl) (by rfl)
theorem tq_386 : (Jvm.Cond.methodLink "ThumpEarsLaw" 27 (⟨"ThumpEars", "heard", "(ZII)I"⟩ : Jvm.MethodName)) ∈ TT := TT_of 386 (by decide +kernel) (by decide +kernel)
theorem tq_387 : (Jvm.Cond.instanceMethod (⟨"ThumpEars", "heard", "(ZII)I"⟩ : Jvm.MethodName)) ∈ TT := TT_of 387 (by decide +kernel) (by decide +kernel)
theorem tq_388 : (Jvm.Cond.selects "ThumpEars" (⟨"ThumpEars", "heard", "(ZII)I"⟩ : Jvm.MethodName) (⟨"ThumpEars", "heard", "(ZII)I"⟩ : Jvm.MethodName)) ∈ TT := TT_of 388 (by decide +kernel) (by decide +kernel)
theorem tq_389 : (Jvm.Cond.code (⟨"ThumpEars", "heard", "(ZII)I"⟩ : Jvm.MethodName) prog_1_method_20_code 6 (Option.some Jvm.ClassFile.FieldType.int)) ∈ TT := TT_of 389 (by decide +kernel) (by decide +kernel)
theorem tq_390 : (Jvm.Cond.methodLink "ThumpEars" 103 (⟨"ThumpEars$Sounds", "has", "(I)Z"⟩ : Jvm.MethodName)) ∈ TT := TT_of 390 (by decide +kernel) (by decide +kernel)
theorem tq_391 : (Jvm.Cond.instanceMethod (⟨"ThumpEars$Sounds", "has", "(I)Z"⟩ : Jvm.MethodName)) ∈ TT := TT_of 391 (by decide +kernel) (by decide +kernel)
theorem tq_392 : (Jvm.Cond.selects "ThumpEars$Sounds" (⟨"ThumpEars$Sounds", "has", "(I)Z"⟩ : Jvm.MethodName) (⟨"ThumpEars$Sounds", "has", "(I)Z"⟩ : Jvm.MethodName)) ∈ TT := TT_of 392 (by decide +kernel) (by decide +kernel)
theorem tq_393 : (Jvm.Cond.code (⟨"ThumpEars$Sounds", "has", "(I)Z"⟩ : Jvm.MethodName) prog_5_method_3_code 2 (Option.some Jvm.ClassFile.FieldType.boolean)) ∈ TT := TT_of 393 (by decide +kernel) (by decide +kernel)
theorem tq_394 : (Jvm.Cond.methodLink "ThumpEars" 67 (⟨"ThumpEars$State", "hasEar", "(I)Z"⟩ : Jvm.MethodName)) ∈ TT := TT_of 394 (by decide +kernel) (by decide +kernel)
theorem tq_395 : (Jvm.Cond.instanceMethod (⟨"ThumpEars$State", "hasEar", "(I)Z"⟩ : Jvm.MethodName)) ∈ TT := TT_of 395 (by decide +kernel) (by decide +kernel)
theorem tq_396 : (Jvm.Cond.selects "ThumpEars$State" (⟨"ThumpEars$State", "hasEar", "(I)Z"⟩ : Jvm.MethodName) (⟨"ThumpEars$State", "hasEar", "(I)Z"⟩ : Jvm.MethodName)) ∈ TT := TT_of 396 (by decide +kernel) (by decide +kernel)
theorem tq_397 : (Jvm.Cond.code (⟨"ThumpEars$State", "hasEar", "(I)Z"⟩ : Jvm.MethodName) prog_7_method_3_code 2 (Option.some Jvm.ClassFile.FieldType.boolean)) ∈ TT := TT_of 397 (by decide +kernel) (by decide +kernel)
theorem tq_398 : (Jvm.Cond.constant "ThumpEars" 195 (-1000000 : Int32)) ∈ TT := TT_of 398 (by decide +kernel) (by decide +kernel)
theorem tq_399 : (Jvm.Cond.methodLink "ThumpEarsLaw" 9 (⟨"ThumpEars", "ear", "(II)I"⟩ : Jvm.MethodName)) ∈ TT := TT_of 399 (by decide +kernel) (by decide +kernel)
theorem tq_400 : (Jvm.Cond.instanceMethod (⟨"ThumpEars", "ear", "(II)I"⟩ : Jvm.MethodName)) ∈ TT := TT_of 400 (by decide +kernel) (by decide +kernel)
theorem tq_401 : (Jvm.Cond.selects "ThumpEars" (⟨"ThumpEars", "ear", "(II)I"⟩ : Jvm.MethodName) (⟨"ThumpEars", "ear", "(II)I"⟩ : Jvm.MethodName)) ∈ TT := TT_of 401 (by decide +kernel) (by decide +kernel)
theorem tq_402 : (Jvm.Cond.code (⟨"ThumpEars", "ear", "(II)I"⟩ : Jvm.MethodName) prog_1_method_15_code 3 (Option.some Jvm.ClassFile.FieldType.int)) ∈ TT := TT_of 402 (by decide +kernel) (by decide +kernel)
theorem tq_403 : (Jvm.Cond.methodLink "ThumpEars" 157 (⟨"ThumpEars$Marks", "gather", "(LThumpEars$State;I)V"⟩ : Jvm.MethodName)) ∈ TT := TT_of 403 (by decide +kernel) (by decide +kernel)
theorem tq_404 : (Jvm.Cond.methodLink "ThumpEars" 162 (⟨"ThumpEars", "latestReading", "(I)I"⟩ : Jvm.MethodName)) ∈ TT := TT_of 404 (by decide +kernel) (by decide +kernel)
theorem tq_406 : (Jvm.Cond.instanceMethod (⟨"ThumpEars", "latestReading", "(I)I"⟩ : Jvm.MethodName)) ∈ TT := TT_of 406 (by decide +kernel) (by decide +kernel)
theorem tq_407 : (Jvm.Cond.code (⟨"ThumpEars", "latestReading", "(I)I"⟩ : Jvm.MethodName) prog_1_method_35_code 2 (Option.some Jvm.ClassFile.FieldType.int)) ∈ TT := TT_of 407 (by decide +kernel) (by decide +kernel)
theorem tq_408 : (Jvm.Cond.methodLink "ThumpEars" 165 (⟨"ThumpEars$Sounds", "heardBy", "(I)I"⟩ : Jvm.MethodName)) ∈ TT := TT_of 408 (by decide +kernel) (by decide +kernel)
theorem tq_409 : (Jvm.Cond.instanceMethod (⟨"ThumpEars$Sounds", "heardBy", "(I)I"⟩ : Jvm.MethodName)) ∈ TT := TT_of 409 (by decide +kernel) (by decide +kernel)
theorem tq_410 : (Jvm.Cond.selects "ThumpEars$Sounds" (⟨"ThumpEars$Sounds", "heardBy", "(I)I"⟩ : Jvm.MethodName) (⟨"ThumpEars$Sounds", "heardBy", "(I)I"⟩ : Jvm.MethodName)) ∈ TT := TT_of 410 (by decide +kernel) (by decide +kernel)
theorem tq_411 : (Jvm.Cond.code (⟨"ThumpEars$Sounds", "heardBy", "(I)I"⟩ : Jvm.MethodName) prog_5_method_4_code 4 (Option.some Jvm.ClassFile.FieldType.int)) ∈ TT := TT_of 411 (by decide +kernel) (by decide +kernel)
theorem tq_412 : (Jvm.Cond.constant "ThumpEars$Sounds" 36 (-1000000 : Int32)) ∈ TT := TT_of 412 (by decide +kernel) (by decide +kernel)
theorem tq_413 : (Jvm.Cond.methodLink "ThumpEarsLaw" 31 (⟨"ThumpEarsLaw", "far", "(II)I"⟩ : Jvm.MethodName)) ∈ TT := TT_of 413 (by decide +kernel) (by decide +kernel)
theorem tq_414 : (Jvm.Cond.static (⟨"ThumpEarsLaw", "far", "(II)I"⟩ : Jvm.MethodName)) ∈ TT := TT_of 414 (by decide +kernel) (by decide +kernel)
set_option maxRecDepth 100000 in
theorem tq_415 : (Jvm.Cond.code (⟨"ThumpEarsLaw", "far", "(II)I"⟩ : Jvm.MethodName) method_5_code 2 (Option.some Jvm.ClassFile.FieldType.int)) ∈ TT := TT_of 415 (by rfl) (by rfl)
theorem tq_416 : (Jvm.Cond.methodLink "ThumpEarsLaw" 34 (⟨"ThumpEars", "mark", "(III)I"⟩ : Jvm.MethodName)) ∈ TT := TT_of 416 (by decide +kernel) (by decide +kernel)
theorem tq_417 : (Jvm.Cond.instanceMethod (⟨"ThumpEars", "mark", "(III)I"⟩ : Jvm.MethodName)) ∈ TT := TT_of 417 (by decide +kernel) (by decide +kernel)
theorem tq_418 : (Jvm.Cond.selects "ThumpEars" (⟨"ThumpEars", "mark", "(III)I"⟩ : Jvm.MethodName) (⟨"ThumpEars", "mark", "(III)I"⟩ : Jvm.MethodName)) ∈ TT := TT_of 418 (by decide +kernel) (by decide +kernel)
theorem tq_419 : (Jvm.Cond.code (⟨"ThumpEars", "mark", "(III)I"⟩ : Jvm.MethodName) prog_1_method_17_code 4 (Option.some Jvm.ClassFile.FieldType.int)) ∈ TT := TT_of 419 (by decide +kernel) (by decide +kernel)
theorem tq_420 : (Jvm.Cond.constant "ThumpEarsLaw" 44 (40000 : Int32)) ∈ TT := TT_of 420 (by decide +kernel) (by decide +kernel)
theorem tq_421 : (Jvm.Cond.methodLink "ThumpEarsLaw" 48 (⟨"ThumpEars", "error", "(II)J"⟩ : Jvm.MethodName)) ∈ TT := TT_of 421 (by decide +kernel) (by decide +kernel)
theorem tq_422 : (Jvm.Cond.instanceMethod (⟨"ThumpEars", "error", "(II)J"⟩ : Jvm.MethodName)) ∈ TT := TT_of 422 (by decide +kernel) (by decide +kernel)
theorem tq_423 : (Jvm.Cond.selects "ThumpEars" (⟨"ThumpEars", "error", "(II)J"⟩ : Jvm.MethodName) (⟨"ThumpEars", "error", "(II)J"⟩ : Jvm.MethodName)) ∈ TT := TT_of 423 (by decide +kernel) (by decide +kernel)
theorem tq_424 : (Jvm.Cond.code (⟨"ThumpEars", "error", "(II)J"⟩ : Jvm.MethodName) prog_1_method_18_code 3 (Option.some Jvm.ClassFile.FieldType.long)) ∈ TT := TT_of 424 (by decide +kernel) (by decide +kernel)
theorem tq_425 : (Jvm.Cond.methodLink "ThumpEars" 181 (⟨"ThumpEars", "longError", "(I)J"⟩ : Jvm.MethodName)) ∈ TT := TT_of 425 (by decide +kernel) (by decide +kernel)
theorem tq_426 : (Jvm.Cond.static (⟨"ThumpEars", "longError", "(I)J"⟩ : Jvm.MethodName)) ∈ TT := TT_of 426 (by decide +kernel) (by decide +kernel)
theorem tq_427 : (Jvm.Cond.code (⟨"ThumpEars", "longError", "(I)J"⟩ : Jvm.MethodName) prog_1_method_27_code 1 (Option.some Jvm.ClassFile.FieldType.long)) ∈ TT := TT_of 427 (by decide +kernel) (by decide +kernel)
theorem tq_428 : (Jvm.Cond.constantLong "ThumpEars" 248 (-9223372036854775808 : Int64)) ∈ TT := TT_of 428 (by decide +kernel) (by decide +kernel)
theorem tq_429 : (Jvm.Cond.constant "ThumpEars" 185 (300000 : Int32)) ∈ TT := TT_of 429 (by decide +kernel) (by decide +kernel)
theorem tq_430 : (Jvm.Cond.methodLink "ThumpEars" 186 (⟨"ThumpEars$Marks", "errorAt", "(I)J"⟩ : Jvm.MethodName)) ∈ TT := TT_of 430 (by decide +kernel) (by decide +kernel)
theorem tq_431 : (Jvm.Cond.methodLink "ThumpEarsLaw" 52 (⟨"ThumpEarsLaw", "error", "(LThumpEars;II)J"⟩ : Jvm.MethodName)) ∈ TT := TT_of 431 (by decide +kernel) (by decide +kernel)
theorem tq_432 : (Jvm.Cond.static (⟨"ThumpEarsLaw", "error", "(LThumpEars;II)J"⟩ : Jvm.MethodName)) ∈ TT := TT_of 432 (by decide +kernel) (by decide +kernel)
set_option maxRecDepth 100000 in
theorem tq_433 : (Jvm.Cond.code (⟨"ThumpEarsLaw", "error", "(LThumpEars;II)J"⟩ : Jvm.MethodName) method_8_code 12 (Option.some Jvm.ClassFile.FieldType.long)) ∈ TT := TT_of 433 (by rfl) (by rfl)
theorem tq_434 : (Jvm.Cond.constantLong "ThumpEarsLaw" 38 (1000 : Int64)) ∈ TT := TT_of 434 (by decide +kernel) (by decide +kernel)
theorem tq_435 : (Jvm.Cond.methodLink "ThumpEarsLaw" 17 (⟨"ThumpEarsLaw", "down", "(JJ)J"⟩ : Jvm.MethodName)) ∈ TT := TT_of 435 (by decide +kernel) (by decide +kernel)
theorem tq_436 : (Jvm.Cond.static (⟨"ThumpEarsLaw", "down", "(JJ)J"⟩ : Jvm.MethodName)) ∈ TT := TT_of 436 (by decide +kernel) (by decide +kernel)
set_option maxRecDepth 100000 in
theorem tq_437 : (Jvm.Cond.code (⟨"ThumpEarsLaw", "down", "(JJ)J"⟩ : Jvm.MethodName) method_4_code 6 (Option.some Jvm.ClassFile.FieldType.long)) ∈ TT := TT_of 437 (by rfl) (by rfl)
theorem tq_438 : (Jvm.Cond.constant "ThumpEarsLaw" 55 (200001 : Int32)) ∈ TT := TT_of 438 (by decide +kernel) (by decide +kernel)
theorem tq_439 : (Jvm.Cond.methodLink "ThumpEarsLaw" 56 (⟨"ThumpEars", "clock", "(II)I"⟩ : Jvm.MethodName)) ∈ TT := TT_of 439 (by decide +kernel) (by decide +kernel)
theorem tq_440 : (Jvm.Cond.instanceMethod (⟨"ThumpEars", "clock", "(II)I"⟩ : Jvm.MethodName)) ∈ TT := TT_of 440 (by decide +kernel) (by decide +kernel)
theorem tq_441 : (Jvm.Cond.selects "ThumpEars" (⟨"ThumpEars", "clock", "(II)I"⟩ : Jvm.MethodName) (⟨"ThumpEars", "clock", "(II)I"⟩ : Jvm.MethodName)) ∈ TT := TT_of 441 (by decide +kernel) (by decide +kernel)
theorem tq_442 : (Jvm.Cond.code (⟨"ThumpEars", "clock", "(II)I"⟩ : Jvm.MethodName) prog_1_method_16_code 3 (Option.some Jvm.ClassFile.FieldType.int)) ∈ TT := TT_of 442 (by decide +kernel) (by decide +kernel)
theorem tq_443 : (Jvm.Cond.constant "ThumpEars" 168 (200000 : Int32)) ∈ TT := TT_of 443 (by decide +kernel) (by decide +kernel)
theorem tq_444 : (Jvm.Cond.methodLink "ThumpEars" 169 (⟨"ThumpEars$State", "reading", "(II)I"⟩ : Jvm.MethodName)) ∈ TT := TT_of 444 (by decide +kernel) (by decide +kernel)
theorem tq_445 : (Jvm.Cond.instanceMethod (⟨"ThumpEars$State", "reading", "(II)I"⟩ : Jvm.MethodName)) ∈ TT := TT_of 445 (by decide +kernel) (by decide +kernel)
theorem tq_446 : (Jvm.Cond.selects "ThumpEars$State" (⟨"ThumpEars$State", "reading", "(II)I"⟩ : Jvm.MethodName) (⟨"ThumpEars$State", "reading", "(II)I"⟩ : Jvm.MethodName)) ∈ TT := TT_of 446 (by decide +kernel) (by decide +kernel)
theorem tq_447 : (Jvm.Cond.code (⟨"ThumpEars$State", "reading", "(II)I"⟩ : Jvm.MethodName) prog_7_method_5_code 3 (Option.some Jvm.ClassFile.FieldType.int)) ∈ TT := TT_of 447 (by decide +kernel) (by decide +kernel)
theorem tq_448 : (Jvm.Cond.methodLink "ThumpEars$State" 61 (⟨"java/lang/Math", "floorDiv", "(II)I"⟩ : Jvm.MethodName)) ∈ TT := TT_of 448 (by decide +kernel) (by decide +kernel)
theorem tq_449 : (Jvm.Cond.static (⟨"java/lang/Math", "floorDiv", "(II)I"⟩ : Jvm.MethodName)) ∈ TT := TT_of 449 (by decide +kernel) (by decide +kernel)
theorem tq_450 : (Jvm.Cond.code (⟨"java/lang/Math", "floorDiv", "(II)I"⟩ : Jvm.MethodName) prog_10_method_47_code 3 (Option.some Jvm.ClassFile.FieldType.int)) ∈ TT := TT_of 450 (by decide +kernel) (by decide +kernel)
theorem tq_451 : (Jvm.Cond.methodLink "ThumpEarsLaw" 59 (⟨"ThumpEarsLaw", "reads", "(LThumpEars;II)I"⟩ : Jvm.MethodName)) ∈ TT := TT_of 451 (by decide +kernel) (by decide +kernel)
theorem tq_452 : (Jvm.Cond.static (⟨"ThumpEarsLaw", "reads", "(LThumpEars;II)I"⟩ : Jvm.MethodName)) ∈ TT := TT_of 452 (by decide +kernel) (by decide +kernel)
set_option maxRecDepth 100000 in
theorem tq_453 : (Jvm.Cond.code (⟨"ThumpEarsLaw", "reads", "(LThumpEars;II)I"⟩ : Jvm.MethodName) method_6_code 3 (Option.some Jvm.ClassFile.FieldType.int)) ∈ TT := TT_of 453 (by rfl) (by rfl)
theorem tq_454 : (Jvm.Cond.constantLong "ThumpEarsLaw" 15 (10000 : Int64)) ∈ TT := TT_of 454 (by decide +kernel) (by decide +kernel)
theorem tq_455 : (Jvm.Cond.methodLink "ThumpEarsLaw" 63 (⟨"ThumpEars", "stalest", "()I"⟩ : Jvm.MethodName)) ∈ TT := TT_of 455 (by decide +kernel) (by decide +kernel)
theorem tq_456 : (Jvm.Cond.instanceMethod (⟨"ThumpEars", "stalest", "()I"⟩ : Jvm.MethodName)) ∈ TT := TT_of 456 (by decide +kernel) (by decide +kernel)
theorem tq_457 : (Jvm.Cond.selects "ThumpEars" (⟨"ThumpEars", "stalest", "()I"⟩ : Jvm.MethodName) (⟨"ThumpEars", "stalest", "()I"⟩ : Jvm.MethodName)) ∈ TT := TT_of 457 (by decide +kernel) (by decide +kernel)
theorem tq_458 : (Jvm.Cond.code (⟨"ThumpEars", "stalest", "()I"⟩ : Jvm.MethodName) prog_1_method_19_code 5 (Option.some Jvm.ClassFile.FieldType.int)) ∈ TT := TT_of 458 (by decide +kernel) (by decide +kernel)
theorem tq_459 : (Jvm.Cond.methodLink "ThumpEars" 189 (⟨"ThumpEars$Marks", "latestThump", "()I"⟩ : Jvm.MethodName)) ∈ TT := TT_of 459 (by decide +kernel) (by decide +kernel)
theorem tq_460 : (Jvm.Cond.instanceMethod (⟨"ThumpEars$Marks", "latestThump", "()I"⟩ : Jvm.MethodName)) ∈ TT := TT_of 460 (by decide +kernel) (by decide +kernel)
theorem tq_461 : (Jvm.Cond.selects "ThumpEars$Marks" (⟨"ThumpEars$Marks", "latestThump", "()I"⟩ : Jvm.MethodName) (⟨"ThumpEars$Marks", "latestThump", "()I"⟩ : Jvm.MethodName)) ∈ TT := TT_of 461 (by decide +kernel) (by decide +kernel)
theorem tq_462 : (Jvm.Cond.code (⟨"ThumpEars$Marks", "latestThump", "()I"⟩ : Jvm.MethodName) prog_3_method_4_code 1 (Option.some Jvm.ClassFile.FieldType.int)) ∈ TT := TT_of 462 (by decide +kernel) (by decide +kernel)
theorem tq_463 : (Jvm.Cond.constantLong "ThumpEarsLaw" 67 (-9223372036854775807 : Int64)) ∈ TT := TT_of 463 (by decide +kernel) (by decide +kernel)
theorem tq_464 : (Jvm.Cond.constant "ThumpEarsLaw" 69 (300001 : Int32)) ∈ TT := TT_of 464 (by decide +kernel) (by decide +kernel)
theorem tq_465 : (Jvm.Cond.constantLong "ThumpEarsLaw" 70 (-9223372036854775806 : Int64)) ∈ TT := TT_of 465 (by decide +kernel) (by decide +kernel)
theorem tq_466 : (Jvm.Cond.methodLink "ThumpEarsLaw" 145 (⟨"ThumpEarsLaw", "knock", "(LThumpEars;III)Z"⟩ : Jvm.MethodName)) ∈ TT := TT_of 466 (by decide +kernel) (by decide +kernel)
theorem tq_467 : (Jvm.Cond.static (⟨"ThumpEarsLaw", "knock", "(LThumpEars;III)Z"⟩ : Jvm.MethodName)) ∈ TT := TT_of 467 (by decide +kernel) (by decide +kernel)
set_option maxRecDepth 100000 in
theorem tq_468 : (Jvm.Cond.code (⟨"ThumpEarsLaw", "knock", "(LThumpEars;III)Z"⟩ : Jvm.MethodName) method_10_code 20 (Option.some Jvm.ClassFile.FieldType.boolean)) ∈ TT := TT_of 468 (by rfl) (by rfl)
theorem tq_469 : (Jvm.Cond.methodLink "ThumpEarsLaw" 72 (⟨"ThumpEars", "putRight", "(II)J"⟩ : Jvm.MethodName)) ∈ TT := TT_of 469 (by decide +kernel) (by decide +kernel)
theorem tq_470 : (Jvm.Cond.instanceMethod (⟨"ThumpEars", "putRight", "(II)J"⟩ : Jvm.MethodName)) ∈ TT := TT_of 470 (by decide +kernel) (by decide +kernel)
theorem tq_471 : (Jvm.Cond.selects "ThumpEars" (⟨"ThumpEars", "putRight", "(II)J"⟩ : Jvm.MethodName) (⟨"ThumpEars", "putRight", "(II)J"⟩ : Jvm.MethodName)) ∈ TT := TT_of 471 (by decide +kernel) (by decide +kernel)
theorem tq_472 : (Jvm.Cond.code (⟨"ThumpEars", "putRight", "(II)J"⟩ : Jvm.MethodName) prog_1_method_21_code 4 (Option.some Jvm.ClassFile.FieldType.long)) ∈ TT := TT_of 472 (by decide +kernel) (by decide +kernel)
theorem tq_473 : (Jvm.Cond.methodLink "ThumpEars" 196 (⟨"ThumpEars$Marks", "rightTime", "(I)J"⟩ : Jvm.MethodName)) ∈ TT := TT_of 473 (by decide +kernel) (by decide +kernel)
theorem tq_474 : (Jvm.Cond.constantLong "ThumpEarsLaw" 75 (-9223372036854775803 : Int64)) ∈ TT := TT_of 474 (by decide +kernel) (by decide +kernel)
theorem tq_475 : (Jvm.Cond.methodLink "ThumpEarsLaw" 77 (⟨"ThumpEars", "found", "(II)J"⟩ : Jvm.MethodName)) ∈ TT := TT_of 475 (by decide +kernel) (by decide +kernel)
theorem tq_476 : (Jvm.Cond.instanceMethod (⟨"ThumpEars", "found", "(II)J"⟩ : Jvm.MethodName)) ∈ TT := TT_of 476 (by decide +kernel) (by decide +kernel)
theorem tq_477 : (Jvm.Cond.selects "ThumpEars" (⟨"ThumpEars", "found", "(II)J"⟩ : Jvm.MethodName) (⟨"ThumpEars", "found", "(II)J"⟩ : Jvm.MethodName)) ∈ TT := TT_of 477 (by decide +kernel) (by decide +kernel)
theorem tq_478 : (Jvm.Cond.code (⟨"ThumpEars", "found", "(II)J"⟩ : Jvm.MethodName) prog_1_method_22_code 3 (Option.some Jvm.ClassFile.FieldType.long)) ∈ TT := TT_of 478 (by decide +kernel) (by decide +kernel)
theorem tq_479 : (Jvm.Cond.methodLink "ThumpEars" 210 (⟨"ThumpEars$Source", "time", "()J"⟩ : Jvm.MethodName)) ∈ TT := TT_of 479 (by decide +kernel) (by decide +kernel)
theorem tq_480 : (Jvm.Cond.instanceMethod (⟨"ThumpEars$Source", "time", "()J"⟩ : Jvm.MethodName)) ∈ TT := TT_of 480 (by decide +kernel) (by decide +kernel)
theorem tq_481 : (Jvm.Cond.selects "ThumpEars$Source" (⟨"ThumpEars$Source", "time", "()J"⟩ : Jvm.MethodName) (⟨"ThumpEars$Source", "time", "()J"⟩ : Jvm.MethodName)) ∈ TT := TT_of 481 (by decide +kernel) (by decide +kernel)
theorem tq_482 : (Jvm.Cond.code (⟨"ThumpEars$Source", "time", "()J"⟩ : Jvm.MethodName) prog_6_method_8_code 1 (Option.some Jvm.ClassFile.FieldType.long)) ∈ TT := TT_of 482 (by decide +kernel) (by decide +kernel)
theorem tq_483 : (Jvm.Cond.constantLong "ThumpEars$Source" 96 (2 : Int64)) ∈ TT := TT_of 483 (by decide +kernel) (by decide +kernel)
theorem tq_484 : (Jvm.Cond.methodLink "ThumpEars$Source" 98 (⟨"java/lang/Math", "floorDiv", "(JJ)J"⟩ : Jvm.MethodName)) ∈ TT := TT_of 484 (by decide +kernel) (by decide +kernel)
theorem tq_485 : (Jvm.Cond.methodLink "ThumpEars" 214 (⟨"ThumpEars$Source", "width", "()J"⟩ : Jvm.MethodName)) ∈ TT := TT_of 485 (by decide +kernel) (by decide +kernel)
theorem tq_486 : (Jvm.Cond.methodLink "ThumpEars" 223 (⟨"ThumpEars$Source", "worstEar", "()I"⟩ : Jvm.MethodName)) ∈ TT := TT_of 486 (by decide +kernel) (by decide +kernel)
theorem tq_487 : (Jvm.Cond.instanceMethod (⟨"ThumpEars$Source", "worstEar", "()I"⟩ : Jvm.MethodName)) ∈ TT := TT_of 487 (by decide +kernel) (by decide +kernel)
theorem tq_488 : (Jvm.Cond.selects "ThumpEars$Source" (⟨"ThumpEars$Source", "worstEar", "()I"⟩ : Jvm.MethodName) (⟨"ThumpEars$Source", "worstEar", "()I"⟩ : Jvm.MethodName)) ∈ TT := TT_of 488 (by decide +kernel) (by decide +kernel)
theorem tq_489 : (Jvm.Cond.code (⟨"ThumpEars$Source", "worstEar", "()I"⟩ : Jvm.MethodName) prog_6_method_9_code 7 (Option.some Jvm.ClassFile.FieldType.int)) ∈ TT := TT_of 489 (by decide +kernel) (by decide +kernel)
theorem tq_490 : (Jvm.Cond.methodLink "ThumpEars$Source" 101 (⟨"ThumpEars$Source", "time", "()J"⟩ : Jvm.MethodName)) ∈ TT := TT_of 490 (by decide +kernel) (by decide +kernel)
theorem tq_491 : (Jvm.Cond.methodLink "ThumpEars$Source" 104 (⟨"java/lang/Math", "abs", "(J)J"⟩ : Jvm.MethodName)) ∈ TT := TT_of 491 (by decide +kernel) (by decide +kernel)
theorem tq_492 : (Jvm.Cond.static (⟨"java/lang/Math", "abs", "(J)J"⟩ : Jvm.MethodName)) ∈ TT := TT_of 492 (by decide +kernel) (by decide +kernel)
theorem tq_493 : (Jvm.Cond.code (⟨"java/lang/Math", "abs", "(J)J"⟩ : Jvm.MethodName) prog_10_method_61_code 2 (Option.some Jvm.ClassFile.FieldType.long)) ∈ TT := TT_of 493 (by decide +kernel) (by decide +kernel)
theorem tq_494 : (Jvm.Cond.constantLong "ThumpEarsLaw" 80 (-9223372036854775804 : Int64)) ∈ TT := TT_of 494 (by decide +kernel) (by decide +kernel)
theorem tq_495 : (Jvm.Cond.methodLink "ThumpEarsLaw" 82 (⟨"ThumpEars", "spread", "(II)J"⟩ : Jvm.MethodName)) ∈ TT := TT_of 495 (by decide +kernel) (by decide +kernel)
theorem tq_496 : (Jvm.Cond.instanceMethod (⟨"ThumpEars", "spread", "(II)J"⟩ : Jvm.MethodName)) ∈ TT := TT_of 496 (by decide +kernel) (by decide +kernel)
theorem tq_497 : (Jvm.Cond.selects "ThumpEars" (⟨"ThumpEars", "spread", "(II)J"⟩ : Jvm.MethodName) (⟨"ThumpEars", "spread", "(II)J"⟩ : Jvm.MethodName)) ∈ TT := TT_of 497 (by decide +kernel) (by decide +kernel)
theorem tq_498 : (Jvm.Cond.code (⟨"ThumpEars", "spread", "(II)J"⟩ : Jvm.MethodName) prog_1_method_23_code 3 (Option.some Jvm.ClassFile.FieldType.long)) ∈ TT := TT_of 498 (by decide +kernel) (by decide +kernel)
theorem tq_499 : (Jvm.Cond.methodLink "ThumpEars" 226 (⟨"ThumpEars$Source", "lookFrom", "(I)V"⟩ : Jvm.MethodName)) ∈ TT := TT_of 499 (by decide +kernel) (by decide +kernel)
theorem tq_500 : (Jvm.Cond.methodLink "ThumpEarsLaw" 85 (⟨"ThumpEars", "truth", "(II)I"⟩ : Jvm.MethodName)) ∈ TT := TT_of 500 (by decide +kernel) (by decide +kernel)
theorem tq_501 : (Jvm.Cond.instanceMethod (⟨"ThumpEars", "truth", "(II)I"⟩ : Jvm.MethodName)) ∈ TT := TT_of 501 (by decide +kernel) (by decide +kernel)
theorem tq_502 : (Jvm.Cond.selects "ThumpEars" (⟨"ThumpEars", "truth", "(II)I"⟩ : Jvm.MethodName) (⟨"ThumpEars", "truth", "(II)I"⟩ : Jvm.MethodName)) ∈ TT := TT_of 502 (by decide +kernel) (by decide +kernel)
theorem tq_503 : (Jvm.Cond.code (⟨"ThumpEars", "truth", "(II)I"⟩ : Jvm.MethodName) prog_1_method_24_code 3 (Option.some Jvm.ClassFile.FieldType.int)) ∈ TT := TT_of 503 (by decide +kernel) (by decide +kernel)
theorem tq_504 : (Jvm.Cond.methodLink "ThumpEars" 232 (⟨"ThumpEars", "missOf", "(I)I"⟩ : Jvm.MethodName)) ∈ TT := TT_of 504 (by decide +kernel) (by decide +kernel)
theorem tq_506 : (Jvm.Cond.instanceMethod (⟨"ThumpEars", "missOf", "(I)I"⟩ : Jvm.MethodName)) ∈ TT := TT_of 506 (by decide +kernel) (by decide +kernel)
theorem tq_507 : (Jvm.Cond.code (⟨"ThumpEars", "missOf", "(I)I"⟩ : Jvm.MethodName) prog_1_method_36_code 2 (Option.some Jvm.ClassFile.FieldType.int)) ∈ TT := TT_of 507 (by decide +kernel) (by decide +kernel)
theorem tq_508 : (Jvm.Cond.methodLink "ThumpEars" 255 (⟨"java/lang/Math", "abs", "(I)I"⟩ : Jvm.MethodName)) ∈ TT := TT_of 508 (by decide +kernel) (by decide +kernel)
theorem tq_509 : (Jvm.Cond.constantLong "ThumpEarsLaw" 88 (9223372036854775807 : Int64)) ∈ TT := TT_of 509 (by decide +kernel) (by decide +kernel)
theorem tq_510 : (Jvm.Cond.constantLong "ThumpEarsLaw" 90 (2 : Int64)) ∈ TT := TT_of 510 (by decide +kernel) (by decide +kernel)
theorem tq_511 : (Jvm.Cond.constantLong "ThumpEarsLaw" 92 (-1 : Int64)) ∈ TT := TT_of 511 (by decide +kernel) (by decide +kernel)
theorem tq_512 : (Jvm.Cond.methodLink "ThumpEarsLaw" 139 (⟨"ThumpEarsLaw", "acts", "(LThumpEars;[I[III)Z"⟩ : Jvm.MethodName)) ∈ TT := TT_of 512 (by decide +kernel) (by decide +kernel)
theorem tq_513 : (Jvm.Cond.static (⟨"ThumpEarsLaw", "acts", "(LThumpEars;[I[III)Z"⟩ : Jvm.MethodName)) ∈ TT := TT_of 513 (by decide +kernel) (by decide +kernel)
set_option maxRecDepth 100000 in
theorem tq_514 : (Jvm.Cond.code (⟨"ThumpEarsLaw", "acts", "(LThumpEars;[I[III)Z"⟩ : Jvm.MethodName) method_12_code 12 (Option.some Jvm.ClassFile.FieldType.boolean)) ∈ TT := TT_of 514 (by rfl) (by rfl)
theorem tq_515 : (Jvm.Cond.methodLink "ThumpEarsLaw" 104 (⟨"ThumpEars", "setClock", "(III)I"⟩ : Jvm.MethodName)) ∈ TT := TT_of 515 (by decide +kernel) (by decide +kernel)
theorem tq_516 : (Jvm.Cond.instanceMethod (⟨"ThumpEars", "setClock", "(III)I"⟩ : Jvm.MethodName)) ∈ TT := TT_of 516 (by decide +kernel) (by decide +kernel)
theorem tq_517 : (Jvm.Cond.selects "ThumpEars" (⟨"ThumpEars", "setClock", "(III)I"⟩ : Jvm.MethodName) (⟨"ThumpEars", "setClock", "(III)I"⟩ : Jvm.MethodName)) ∈ TT := TT_of 517 (by decide +kernel) (by decide +kernel)
theorem tq_518 : (Jvm.Cond.code (⟨"ThumpEars", "setClock", "(III)I"⟩ : Jvm.MethodName) prog_1_method_3_code 4 (Option.some Jvm.ClassFile.FieldType.int)) ∈ TT := TT_of 518 (by decide +kernel) (by decide +kernel)
theorem tq_519 : (Jvm.Cond.methodLink "ThumpEarsLaw" 107 (⟨"ThumpEars", "mute", "(IZ)I"⟩ : Jvm.MethodName)) ∈ TT := TT_of 519 (by decide +kernel) (by decide +kernel)
theorem tq_520 : (Jvm.Cond.instanceMethod (⟨"ThumpEars", "mute", "(IZ)I"⟩ : Jvm.MethodName)) ∈ TT := TT_of 520 (by decide +kernel) (by decide +kernel)
theorem tq_521 : (Jvm.Cond.selects "ThumpEars" (⟨"ThumpEars", "mute", "(IZ)I"⟩ : Jvm.MethodName) (⟨"ThumpEars", "mute", "(IZ)I"⟩ : Jvm.MethodName)) ∈ TT := TT_of 521 (by decide +kernel) (by decide +kernel)
theorem tq_522 : (Jvm.Cond.code (⟨"ThumpEars", "mute", "(IZ)I"⟩ : Jvm.MethodName) prog_1_method_4_code 3 (Option.some Jvm.ClassFile.FieldType.int)) ∈ TT := TT_of 522 (by decide +kernel) (by decide +kernel)
theorem tq_523 : (Jvm.Cond.methodLink "ThumpEars" 82 (⟨"ThumpEars", "flag", "([ZIIZ)I"⟩ : Jvm.MethodName)) ∈ TT := TT_of 523 (by decide +kernel) (by decide +kernel)
theorem tq_525 : (Jvm.Cond.instanceMethod (⟨"ThumpEars", "flag", "([ZIIZ)I"⟩ : Jvm.MethodName)) ∈ TT := TT_of 525 (by decide +kernel) (by decide +kernel)
theorem tq_526 : (Jvm.Cond.code (⟨"ThumpEars", "flag", "([ZIIZ)I"⟩ : Jvm.MethodName) prog_1_method_29_code 5 (Option.some Jvm.ClassFile.FieldType.int)) ∈ TT := TT_of 526 (by decide +kernel) (by decide +kernel)
theorem tq_527 : (Jvm.Cond.methodLink "ThumpEarsLaw" 111 (⟨"ThumpEars", "set", "(II)I"⟩ : Jvm.MethodName)) ∈ TT := TT_of 527 (by decide +kernel) (by decide +kernel)
theorem tq_528 : (Jvm.Cond.instanceMethod (⟨"ThumpEars", "set", "(II)I"⟩ : Jvm.MethodName)) ∈ TT := TT_of 528 (by decide +kernel) (by decide +kernel)
theorem tq_529 : (Jvm.Cond.selects "ThumpEars" (⟨"ThumpEars", "set", "(II)I"⟩ : Jvm.MethodName) (⟨"ThumpEars", "set", "(II)I"⟩ : Jvm.MethodName)) ∈ TT := TT_of 529 (by decide +kernel) (by decide +kernel)
theorem tq_530 : (Jvm.Cond.code (⟨"ThumpEars", "set", "(II)I"⟩ : Jvm.MethodName) prog_1_method_5_code 3 (Option.some Jvm.ClassFile.FieldType.int)) ∈ TT := TT_of 530 (by decide +kernel) (by decide +kernel)
theorem tq_531 : (Jvm.Cond.methodLink "ThumpEars" 86 (⟨"ThumpEars", "setPace", "(I)I"⟩ : Jvm.MethodName)) ∈ TT := TT_of 531 (by decide +kernel) (by decide +kernel)
theorem tq_533 : (Jvm.Cond.instanceMethod (⟨"ThumpEars", "setPace", "(I)I"⟩ : Jvm.MethodName)) ∈ TT := TT_of 533 (by decide +kernel) (by decide +kernel)
theorem tq_534 : (Jvm.Cond.code (⟨"ThumpEars", "setPace", "(I)I"⟩ : Jvm.MethodName) prog_1_method_30_code 3 (Option.some Jvm.ClassFile.FieldType.int)) ∈ TT := TT_of 534 (by decide +kernel) (by decide +kernel)
theorem tq_535 : (Jvm.Cond.methodLink "ThumpEars" 89 (⟨"ThumpEars", "setTolerance", "(I)I"⟩ : Jvm.MethodName)) ∈ TT := TT_of 535 (by decide +kernel) (by decide +kernel)
theorem tq_537 : (Jvm.Cond.instanceMethod (⟨"ThumpEars", "setTolerance", "(I)I"⟩ : Jvm.MethodName)) ∈ TT := TT_of 537 (by decide +kernel) (by decide +kernel)
theorem tq_538 : (Jvm.Cond.code (⟨"ThumpEars", "setTolerance", "(I)I"⟩ : Jvm.MethodName) prog_1_method_31_code 3 (Option.some Jvm.ClassFile.FieldType.int)) ∈ TT := TT_of 538 (by decide +kernel) (by decide +kernel)
theorem tq_539 : (Jvm.Cond.methodLink "ThumpEarsLaw" 114 (⟨"ThumpEars", "leaveOut", "(IZ)I"⟩ : Jvm.MethodName)) ∈ TT := TT_of 539 (by decide +kernel) (by decide +kernel)
theorem tq_540 : (Jvm.Cond.instanceMethod (⟨"ThumpEars", "leaveOut", "(IZ)I"⟩ : Jvm.MethodName)) ∈ TT := TT_of 540 (by decide +kernel) (by decide +kernel)
theorem tq_541 : (Jvm.Cond.selects "ThumpEars" (⟨"ThumpEars", "leaveOut", "(IZ)I"⟩ : Jvm.MethodName) (⟨"ThumpEars", "leaveOut", "(IZ)I"⟩ : Jvm.MethodName)) ∈ TT := TT_of 541 (by decide +kernel) (by decide +kernel)
theorem tq_542 : (Jvm.Cond.code (⟨"ThumpEars", "leaveOut", "(IZ)I"⟩ : Jvm.MethodName) prog_1_method_8_code 3 (Option.some Jvm.ClassFile.FieldType.int)) ∈ TT := TT_of 542 (by decide +kernel) (by decide +kernel)
theorem tq_543 : (Jvm.Cond.methodLink "ThumpEarsLaw" 117 (⟨"ThumpEarsLaw", "come", "(LThumpEars;[I[III)Z"⟩ : Jvm.MethodName)) ∈ TT := TT_of 543 (by decide +kernel) (by decide +kernel)
theorem tq_544 : (Jvm.Cond.static (⟨"ThumpEarsLaw", "come", "(LThumpEars;[I[III)Z"⟩ : Jvm.MethodName)) ∈ TT := TT_of 544 (by decide +kernel) (by decide +kernel)
set_option maxRecDepth 100000 in
theorem tq_545 : (Jvm.Cond.code (⟨"ThumpEarsLaw", "come", "(LThumpEars;[I[III)Z"⟩ : Jvm.MethodName) method_11_code 16 (Option.some Jvm.ClassFile.FieldType.boolean)) ∈ TT := TT_of 545 (by rfl) (by rfl)
theorem tq_546 : (Jvm.Cond.constant "ThumpEarsLaw" 94 (100000 : Int32)) ∈ TT := TT_of 546 (by decide +kernel) (by decide +kernel)
theorem tq_547 : (Jvm.Cond.methodLink "ThumpEarsLaw" 95 (⟨"ThumpEars", "knock", "(III)I"⟩ : Jvm.MethodName)) ∈ TT := TT_of 547 (by decide +kernel) (by decide +kernel)
theorem tq_548 : (Jvm.Cond.instanceMethod (⟨"ThumpEars", "knock", "(III)I"⟩ : Jvm.MethodName)) ∈ TT := TT_of 548 (by decide +kernel) (by decide +kernel)
theorem tq_549 : (Jvm.Cond.selects "ThumpEars" (⟨"ThumpEars", "knock", "(III)I"⟩ : Jvm.MethodName) (⟨"ThumpEars", "knock", "(III)I"⟩ : Jvm.MethodName)) ∈ TT := TT_of 549 (by decide +kernel) (by decide +kernel)
theorem tq_550 : (Jvm.Cond.code (⟨"ThumpEars", "knock", "(III)I"⟩ : Jvm.MethodName) prog_1_method_7_code 4 (Option.some Jvm.ClassFile.FieldType.int)) ∈ TT := TT_of 550 (by decide +kernel) (by decide +kernel)
theorem tq_551 : (Jvm.Cond.methodLink "ThumpEars" 96 (⟨"ThumpEars", "makeSound", "(LThumpEars$Sounds;III)I"⟩ : Jvm.MethodName)) ∈ TT := TT_of 551 (by decide +kernel) (by decide +kernel)
theorem tq_553 : (Jvm.Cond.instanceMethod (⟨"ThumpEars", "makeSound", "(LThumpEars$Sounds;III)I"⟩ : Jvm.MethodName)) ∈ TT := TT_of 553 (by decide +kernel) (by decide +kernel)
theorem tq_554 : (Jvm.Cond.code (⟨"ThumpEars", "makeSound", "(LThumpEars$Sounds;III)I"⟩ : Jvm.MethodName) prog_1_method_32_code 6 (Option.some Jvm.ClassFile.FieldType.int)) ∈ TT := TT_of 554 (by decide +kernel) (by decide +kernel)
theorem tq_555 : (Jvm.Cond.methodLink "ThumpEars" 250 (⟨"ThumpEars", "refusal", "(IIIII)I"⟩ : Jvm.MethodName)) ∈ TT := TT_of 555 (by decide +kernel) (by decide +kernel)
theorem tq_556 : (Jvm.Cond.static (⟨"ThumpEars", "refusal", "(IIIII)I"⟩ : Jvm.MethodName)) ∈ TT := TT_of 556 (by decide +kernel) (by decide +kernel)
theorem tq_557 : (Jvm.Cond.code (⟨"ThumpEars", "refusal", "(IIIII)I"⟩ : Jvm.MethodName) prog_1_method_33_code 5 (Option.some Jvm.ClassFile.FieldType.int)) ∈ TT := TT_of 557 (by decide +kernel) (by decide +kernel)
theorem tq_558 : (Jvm.Cond.constant "ThumpEars" 254 (100000 : Int32)) ∈ TT := TT_of 558 (by decide +kernel) (by decide +kernel)
theorem tq_559 : (Jvm.Cond.methodLink "ThumpEars" 136 (⟨"ThumpEars$State", "addSound", "(LThumpEars$Sounds;III)I"⟩ : Jvm.MethodName)) ∈ TT := TT_of 559 (by decide +kernel) (by decide +kernel)
theorem tq_560 : (Jvm.Cond.instanceMethod (⟨"ThumpEars$State", "addSound", "(LThumpEars$Sounds;III)I"⟩ : Jvm.MethodName)) ∈ TT := TT_of 560 (by decide +kernel) (by decide +kernel)
theorem tq_561 : (Jvm.Cond.selects "ThumpEars$State" (⟨"ThumpEars$State", "addSound", "(LThumpEars$Sounds;III)I"⟩ : Jvm.MethodName) (⟨"ThumpEars$State", "addSound", "(LThumpEars$Sounds;III)I"⟩ : Jvm.MethodName)) ∈ TT := TT_of 561 (by decide +kernel) (by decide +kernel)
theorem tq_562 : (Jvm.Cond.code (⟨"ThumpEars$State", "addSound", "(LThumpEars$Sounds;III)I"⟩ : Jvm.MethodName) prog_7_method_8_code 9 (Option.some Jvm.ClassFile.FieldType.int)) ∈ TT := TT_of 562 (by decide +kernel) (by decide +kernel)
theorem tq_563 : (Jvm.Cond.constant "ThumpEars$State" 81 (-1000000 : Int32)) ∈ TT := TT_of 563 (by decide +kernel) (by decide +kernel)
theorem tq_564 : (Jvm.Cond.methodLink "ThumpEars$State" 82 (⟨"ThumpEars$State", "canHear", "(III)Z"⟩ : Jvm.MethodName)) ∈ TT := TT_of 564 (by decide +kernel) (by decide +kernel)
theorem tq_565 : (Jvm.Cond.instanceMethod (⟨"ThumpEars$State", "canHear", "(III)Z"⟩ : Jvm.MethodName)) ∈ TT := TT_of 565 (by decide +kernel) (by decide +kernel)
theorem tq_566 : (Jvm.Cond.selects "ThumpEars$State" (⟨"ThumpEars$State", "canHear", "(III)Z"⟩ : Jvm.MethodName) (⟨"ThumpEars$State", "canHear", "(III)Z"⟩ : Jvm.MethodName)) ∈ TT := TT_of 566 (by decide +kernel) (by decide +kernel)
theorem tq_567 : (Jvm.Cond.code (⟨"ThumpEars$State", "canHear", "(III)Z"⟩ : Jvm.MethodName) prog_7_method_7_code 4 (Option.some Jvm.ClassFile.FieldType.boolean)) ∈ TT := TT_of 567 (by decide +kernel) (by decide +kernel)
theorem tq_568 : (Jvm.Cond.methodLink "ThumpEars$State" 71 (⟨"ThumpEars$State", "hasEar", "(I)Z"⟩ : Jvm.MethodName)) ∈ TT := TT_of 568 (by decide +kernel) (by decide +kernel)
theorem tq_569 : (Jvm.Cond.methodLink "ThumpEars$State" 75 (⟨"ThumpEars$State", "wayTo", "(II)I"⟩ : Jvm.MethodName)) ∈ TT := TT_of 569 (by decide +kernel) (by decide +kernel)
theorem tq_570 : (Jvm.Cond.methodLink "ThumpEars$State" 86 (⟨"ThumpEars$State", "reading", "(II)I"⟩ : Jvm.MethodName)) ∈ TT := TT_of 570 (by decide +kernel) (by decide +kernel)
theorem tq_571 : (Jvm.Cond.methodLink "ThumpEarsLaw" 98 (⟨"ThumpEars", "thump", "(III)I"⟩ : Jvm.MethodName)) ∈ TT := TT_of 571 (by decide +kernel) (by decide +kernel)
theorem tq_572 : (Jvm.Cond.instanceMethod (⟨"ThumpEars", "thump", "(III)I"⟩ : Jvm.MethodName)) ∈ TT := TT_of 572 (by decide +kernel) (by decide +kernel)
theorem tq_573 : (Jvm.Cond.selects "ThumpEars" (⟨"ThumpEars", "thump", "(III)I"⟩ : Jvm.MethodName) (⟨"ThumpEars", "thump", "(III)I"⟩ : Jvm.MethodName)) ∈ TT := TT_of 573 (by decide +kernel) (by decide +kernel)
theorem tq_574 : (Jvm.Cond.code (⟨"ThumpEars", "thump", "(III)I"⟩ : Jvm.MethodName) prog_1_method_6_code 4 (Option.some Jvm.ClassFile.FieldType.int)) ∈ TT := TT_of 574 (by decide +kernel) (by decide +kernel)
theorem tq_575 : (Jvm.Cond.methodLink "ThumpEarsLaw" 148 (⟨"ThumpEarsLaw", "errors", "(LThumpEars;)Z"⟩ : Jvm.MethodName)) ∈ TT := TT_of 575 (by decide +kernel) (by decide +kernel)
theorem tq_576 : (Jvm.Cond.static (⟨"ThumpEarsLaw", "errors", "(LThumpEars;)Z"⟩ : Jvm.MethodName)) ∈ TT := TT_of 576 (by decide +kernel) (by decide +kernel)
set_option maxRecDepth 100000 in
theorem tq_577 : (Jvm.Cond.code (⟨"ThumpEarsLaw", "errors", "(LThumpEars;)Z"⟩ : Jvm.MethodName) method_13_code 3 (Option.some Jvm.ClassFile.FieldType.boolean)) ∈ TT := TT_of 577 (by rfl) (by rfl)
theorem tq_578 : (Jvm.Cond.methodLink "ThumpEarsLaw" 121 (⟨"ThumpEars", "clearText", "()I"⟩ : Jvm.MethodName)) ∈ TT := TT_of 578 (by decide +kernel) (by decide +kernel)
theorem tq_579 : (Jvm.Cond.instanceMethod (⟨"ThumpEars", "clearText", "()I"⟩ : Jvm.MethodName)) ∈ TT := TT_of 579 (by decide +kernel) (by decide +kernel)
theorem tq_580 : (Jvm.Cond.selects "ThumpEars" (⟨"ThumpEars", "clearText", "()I"⟩ : Jvm.MethodName) (⟨"ThumpEars", "clearText", "()I"⟩ : Jvm.MethodName)) ∈ TT := TT_of 580 (by decide +kernel) (by decide +kernel)
theorem tq_581 : (Jvm.Cond.code (⟨"ThumpEars", "clearText", "()I"⟩ : Jvm.MethodName) prog_1_method_11_code 2 (Option.some Jvm.ClassFile.FieldType.int)) ∈ TT := TT_of 581 (by decide +kernel) (by decide +kernel)
theorem tq_582 : (Jvm.Cond.methodLink "ThumpEarsLaw" 124 (⟨"ThumpEars", "readOrders", "()I"⟩ : Jvm.MethodName)) ∈ TT := TT_of 582 (by decide +kernel) (by decide +kernel)
theorem tq_583 : (Jvm.Cond.instanceMethod (⟨"ThumpEars", "readOrders", "()I"⟩ : Jvm.MethodName)) ∈ TT := TT_of 583 (by decide +kernel) (by decide +kernel)
theorem tq_584 : (Jvm.Cond.selects "ThumpEars" (⟨"ThumpEars", "readOrders", "()I"⟩ : Jvm.MethodName) (⟨"ThumpEars", "readOrders", "()I"⟩ : Jvm.MethodName)) ∈ TT := TT_of 584 (by decide +kernel) (by decide +kernel)
theorem tq_585 : (Jvm.Cond.code (⟨"ThumpEars", "readOrders", "()I"⟩ : Jvm.MethodName) prog_1_method_9_code 5 (Option.some Jvm.ClassFile.FieldType.int)) ∈ TT := TT_of 585 (by decide +kernel) (by decide +kernel)
theorem tq_586 : (Jvm.Cond.methodLink "ThumpEars" 114 (⟨"ThumpEars$OrderText", "read", "()I"⟩ : Jvm.MethodName)) ∈ TT := TT_of 586 (by decide +kernel) (by decide +kernel)
theorem tq_587 : (Jvm.Cond.instanceMethod (⟨"ThumpEars$OrderText", "read", "()I"⟩ : Jvm.MethodName)) ∈ TT := TT_of 587 (by decide +kernel) (by decide +kernel)
theorem tq_588 : (Jvm.Cond.selects "ThumpEars$OrderText" (⟨"ThumpEars$OrderText", "read", "()I"⟩ : Jvm.MethodName) (⟨"ThumpEars$OrderText", "read", "()I"⟩ : Jvm.MethodName)) ∈ TT := TT_of 588 (by decide +kernel) (by decide +kernel)
theorem tq_589 : (Jvm.Cond.code (⟨"ThumpEars$OrderText", "read", "()I"⟩ : Jvm.MethodName) prog_4_method_2_code 2 (Option.some Jvm.ClassFile.FieldType.int)) ∈ TT := TT_of 589 (by decide +kernel) (by decide +kernel)
theorem tq_590 : (Jvm.Cond.methodLink "ThumpEars$OrderText" 42 (⟨"ThumpEars$OrderText", "readOrder", "()Z"⟩ : Jvm.MethodName)) ∈ TT := TT_of 590 (by decide +kernel) (by decide +kernel)
theorem tq_591 : (Jvm.Cond.instanceMethod (⟨"ThumpEars$OrderText", "readOrder", "()Z"⟩ : Jvm.MethodName)) ∈ TT := TT_of 591 (by decide +kernel) (by decide +kernel)
theorem tq_592 : (Jvm.Cond.selects "ThumpEars$OrderText" (⟨"ThumpEars$OrderText", "readOrder", "()Z"⟩ : Jvm.MethodName) (⟨"ThumpEars$OrderText", "readOrder", "()Z"⟩ : Jvm.MethodName)) ∈ TT := TT_of 592 (by decide +kernel) (by decide +kernel)
theorem tq_593 : (Jvm.Cond.code (⟨"ThumpEars$OrderText", "readOrder", "()Z"⟩ : Jvm.MethodName) prog_4_method_3_code 1 (Option.some Jvm.ClassFile.FieldType.boolean)) ∈ TT := TT_of 593 (by decide +kernel) (by decide +kernel)
theorem tq_594 : (Jvm.Cond.methodLink "ThumpEars$OrderText" 46 (⟨"ThumpEars$OrderText", "skips", "(C)Z"⟩ : Jvm.MethodName)) ∈ TT := TT_of 594 (by decide +kernel) (by decide +kernel)
theorem tq_595 : (Jvm.Cond.instanceMethod (⟨"ThumpEars$OrderText", "skips", "(C)Z"⟩ : Jvm.MethodName)) ∈ TT := TT_of 595 (by decide +kernel) (by decide +kernel)
theorem tq_596 : (Jvm.Cond.selects "ThumpEars$OrderText" (⟨"ThumpEars$OrderText", "skips", "(C)Z"⟩ : Jvm.MethodName) (⟨"ThumpEars$OrderText", "skips", "(C)Z"⟩ : Jvm.MethodName)) ∈ TT := TT_of 596 (by decide +kernel) (by decide +kernel)
theorem tq_597 : (Jvm.Cond.code (⟨"ThumpEars$OrderText", "skips", "(C)Z"⟩ : Jvm.MethodName) prog_4_method_4_code 2 (Option.some Jvm.ClassFile.FieldType.boolean)) ∈ TT := TT_of 597 (by decide +kernel) (by decide +kernel)
theorem tq_598 : (Jvm.Cond.methodLink "ThumpEars$OrderText" 50 (⟨"ThumpEars$OrderText", "readNumber", "()Z"⟩ : Jvm.MethodName)) ∈ TT := TT_of 598 (by decide +kernel) (by decide +kernel)
theorem tq_599 : (Jvm.Cond.instanceMethod (⟨"ThumpEars$OrderText", "readNumber", "()Z"⟩ : Jvm.MethodName)) ∈ TT := TT_of 599 (by decide +kernel) (by decide +kernel)
theorem tq_600 : (Jvm.Cond.selects "ThumpEars$OrderText" (⟨"ThumpEars$OrderText", "readNumber", "()Z"⟩ : Jvm.MethodName) (⟨"ThumpEars$OrderText", "readNumber", "()Z"⟩ : Jvm.MethodName)) ∈ TT := TT_of 600 (by decide +kernel) (by decide +kernel)
theorem tq_601 : (Jvm.Cond.code (⟨"ThumpEars$OrderText", "readNumber", "()Z"⟩ : Jvm.MethodName) prog_4_method_5_code 2 (Option.some Jvm.ClassFile.FieldType.boolean)) ∈ TT := TT_of 601 (by decide +kernel) (by decide +kernel)
theorem tq_602 : (Jvm.Cond.methodLink "ThumpEars$OrderText" 53 (⟨"ThumpEars$OrderText", "isDigit", "()Z"⟩ : Jvm.MethodName)) ∈ TT := TT_of 602 (by decide +kernel) (by decide +kernel)
theorem tq_603 : (Jvm.Cond.instanceMethod (⟨"ThumpEars$OrderText", "isDigit", "()Z"⟩ : Jvm.MethodName)) ∈ TT := TT_of 603 (by decide +kernel) (by decide +kernel)
theorem tq_604 : (Jvm.Cond.selects "ThumpEars$OrderText" (⟨"ThumpEars$OrderText", "isDigit", "()Z"⟩ : Jvm.MethodName) (⟨"ThumpEars$OrderText", "isDigit", "()Z"⟩ : Jvm.MethodName)) ∈ TT := TT_of 604 (by decide +kernel) (by decide +kernel)
theorem tq_605 : (Jvm.Cond.code (⟨"ThumpEars$OrderText", "isDigit", "()Z"⟩ : Jvm.MethodName) prog_4_method_6_code 1 (Option.some Jvm.ClassFile.FieldType.boolean)) ∈ TT := TT_of 605 (by decide +kernel) (by decide +kernel)
theorem tq_606 : (Jvm.Cond.methodLink "ThumpEars" 118 (⟨"ThumpEars", "refusalOfOrders", "()I"⟩ : Jvm.MethodName)) ∈ TT := TT_of 606 (by decide +kernel) (by decide +kernel)
theorem tq_608 : (Jvm.Cond.instanceMethod (⟨"ThumpEars", "refusalOfOrders", "()I"⟩ : Jvm.MethodName)) ∈ TT := TT_of 608 (by decide +kernel) (by decide +kernel)
theorem tq_609 : (Jvm.Cond.code (⟨"ThumpEars", "refusalOfOrders", "()I"⟩ : Jvm.MethodName) prog_1_method_34_code 7 (Option.some Jvm.ClassFile.FieldType.int)) ∈ TT := TT_of 609 (by decide +kernel) (by decide +kernel)
theorem tq_610 : (Jvm.Cond.methodLink "ThumpEarsLaw" 127 (⟨"ThumpEars", "type", "(C)I"⟩ : Jvm.MethodName)) ∈ TT := TT_of 610 (by decide +kernel) (by decide +kernel)
theorem tq_611 : (Jvm.Cond.instanceMethod (⟨"ThumpEars", "type", "(C)I"⟩ : Jvm.MethodName)) ∈ TT := TT_of 611 (by decide +kernel) (by decide +kernel)
theorem tq_612 : (Jvm.Cond.selects "ThumpEars" (⟨"ThumpEars", "type", "(C)I"⟩ : Jvm.MethodName) (⟨"ThumpEars", "type", "(C)I"⟩ : Jvm.MethodName)) ∈ TT := TT_of 612 (by decide +kernel) (by decide +kernel)
theorem tq_613 : (Jvm.Cond.code (⟨"ThumpEars", "type", "(C)I"⟩ : Jvm.MethodName) prog_1_method_10_code 2 (Option.some Jvm.ClassFile.FieldType.int)) ∈ TT := TT_of 613 (by decide +kernel) (by decide +kernel)
theorem tq_614 : (Jvm.Cond.methodLink "ThumpEarsLaw" 131 (⟨"ThumpEars", "undo", "()I"⟩ : Jvm.MethodName)) ∈ TT := TT_of 614 (by decide +kernel) (by decide +kernel)
theorem tq_615 : (Jvm.Cond.instanceMethod (⟨"ThumpEars", "undo", "()I"⟩ : Jvm.MethodName)) ∈ TT := TT_of 615 (by decide +kernel) (by decide +kernel)
theorem tq_616 : (Jvm.Cond.selects "ThumpEars" (⟨"ThumpEars", "undo", "()I"⟩ : Jvm.MethodName) (⟨"ThumpEars", "undo", "()I"⟩ : Jvm.MethodName)) ∈ TT := TT_of 616 (by decide +kernel) (by decide +kernel)
theorem tq_617 : (Jvm.Cond.code (⟨"ThumpEars", "undo", "()I"⟩ : Jvm.MethodName) prog_1_method_12_code 1 (Option.some Jvm.ClassFile.FieldType.int)) ∈ TT := TT_of 617 (by decide +kernel) (by decide +kernel)
theorem tq_618 : (Jvm.Cond.methodLink "ThumpEars" 147 (⟨"ThumpEars$History", "popInto", "(LThumpEars$State;)V"⟩ : Jvm.MethodName)) ∈ TT := TT_of 618 (by decide +kernel) (by decide +kernel)
theorem tq_619 : (Jvm.Cond.instanceMethod (⟨"ThumpEars$History", "popInto", "(LThumpEars$State;)V"⟩ : Jvm.MethodName)) ∈ TT := TT_of 619 (by decide +kernel) (by decide +kernel)
theorem tq_620 : (Jvm.Cond.selects "ThumpEars$History" (⟨"ThumpEars$History", "popInto", "(LThumpEars$State;)V"⟩ : Jvm.MethodName) (⟨"ThumpEars$History", "popInto", "(LThumpEars$State;)V"⟩ : Jvm.MethodName)) ∈ TT := TT_of 620 (by decide +kernel) (by decide +kernel)
theorem tq_621 : (Jvm.Cond.code (⟨"ThumpEars$History", "popInto", "(LThumpEars$State;)V"⟩ : Jvm.MethodName) prog_2_method_4_code 2 (Option.none : Option Jvm.ClassFile.FieldType)) ∈ TT := TT_of 621 (by decide +kernel) (by decide +kernel)
theorem goodIn_r {big : List Cond} (ws : List Cond) (ps : List Nat) (hp : ws = ps.filterMap (fun i => big[i]?)) : ∀ w ∈ ws, w ∈ big := by
  intro w hw
  rw [hp] at hw
  obtain ⟨i, -, hi⟩ := List.mem_filterMap.mp hw
  first | exact List.mem_of_getElem? hi | exact List.getElem?_mem hi
theorem inX0 : ∀ w ∈ wsX00, w ∈ TT := fun w h => List.mem_filter.mpr ⟨goodIn_r wsX00 [136, 138] (by decide +kernel) w h, List.all_eq_true.mp (show wsX00.all goodWord = true by decide +kernel) w h⟩
theorem inX1 : ∀ w ∈ wsX10, w ∈ TT := fun w h => List.mem_filter.mpr ⟨goodIn_r wsX10 [197, 199, 201, 203] (by decide +kernel) w h, List.all_eq_true.mp (show wsX10.all goodWord = true by decide +kernel) w h⟩
theorem inX2 : ∀ w ∈ wsX20, w ∈ TT := fun w h => List.mem_filter.mpr ⟨goodIn_r wsX20 [163, 165, 167, 169, 171, 173, 175, 177, 179] (by decide +kernel) w h, List.all_eq_true.mp (show wsX20.all goodWord = true by decide +kernel) w h⟩
theorem inX3 : ∀ w ∈ wsX30, w ∈ TT := fun w h => List.mem_filter.mpr ⟨goodIn_r wsX30 [61, 63, 65, 67, 69] (by decide +kernel) w h, List.all_eq_true.mp (show wsX30.all goodWord = true by decide +kernel) w h⟩
theorem inX4 : ∀ w ∈ wsX40, w ∈ TT := fun w h => List.mem_filter.mpr ⟨goodIn_r wsX40 [222, 224, 226, 228, 230, 232, 234, 236] (by decide +kernel) w h, List.all_eq_true.mp (show wsX40.all goodWord = true by decide +kernel) w h⟩
theorem inX5 : ∀ w ∈ wsX50, w ∈ TT := fun w h => List.mem_filter.mpr ⟨goodIn_r wsX50 [101, 103, 105, 107, 109, 111, 113, 115, 117, 119, 121] (by decide +kernel) w h, List.all_eq_true.mp (show wsX50.all goodWord = true by decide +kernel) w h⟩
theorem inX6 : ∀ w ∈ wsX60, w ∈ TT := fun w h => List.mem_filter.mpr ⟨goodIn_r wsX60 [247, 249, 251, 253, 255, 257, 259] (by decide +kernel) w h, List.all_eq_true.mp (show wsX60.all goodWord = true by decide +kernel) w h⟩
def decs (b : ByteArray) (l : List (Nat × Instr × Nat)) : Bool := l.all fun q => decide (decode b q.1 = .ok q.2)
theorem dk {b : ByteArray} {l : List (Nat × Instr × Nat)} (h : decs b l = true) (k : Nat) {pc n : Nat} {i : Instr} (hk : l[k]? = some (pc, i, n)) : decode b pc = .ok (i, n) := by
  have h1 := List.all_eq_true.mp h _ (List.mem_of_getElem? hk)
  exact of_decide_eq_true h1
abbrev lX0_init : List (Nat × Instr × Nat) := [(0, .aload_n 0, 1), (1, .invokespecial 3, 3), (4, .aload_n 0, 1), (5, .iconst 4, 1), (6, .anewarray 9, 3), (9, .putfield 11, 3), (12, .aload_n 0, 1), (13, .iconst 0, 1), (14, .putfield 17, 3), (17, .iconst 0, 1), (18, .istore_n 1, 1), (19, .iload_n 1, 1), (20, .iconst 4, 1), (21, .if_icmp .ge 22, 3), (24, .aload_n 0, 1), (25, .getfield 11, 3), (28, .iload_n 1, 1), (29, .new 9, 3), (32, .dup, 1), (33, .invokespecial 21, 3), (36, .aastore, 1), (37, .iinc 1 1, 3), (40, .goto (-21), 3), (43, .return_, 1)]
theorem dX0_init : decs cX0_init lX0_init = true := by decide +kernel
abbrev lX0_push : List (Nat × Instr × Nat) := [(0, .aload_n 0, 1), (1, .getfield 17, 3), (4, .iconst 4, 1), (5, .if_icmp .lt 7, 3), (8, .aload_n 0, 1), (9, .invokevirtual 22, 3), (12, .aload_n 0, 1), (13, .getfield 11, 3), (16, .aload_n 0, 1), (17, .getfield 17, 3), (20, .aaload, 1), (21, .aload_n 1, 1), (22, .invokevirtual 25, 3), (25, .aload_n 0, 1), (26, .dup, 1), (27, .getfield 17, 3), (30, .iconst 1, 1), (31, .iadd, 1), (32, .putfield 17, 3), (35, .return_, 1)]
theorem dX0_push : decs cX0_push lX0_push = true := by decide +kernel
abbrev lX0_dropOldest : List (Nat × Instr × Nat) := [(0, .aload_n 0, 1), (1, .getfield 11, 3), (4, .iconst 0, 1), (5, .aaload, 1), (6, .astore_n 1, 1), (7, .iconst 1, 1), (8, .istore_n 2, 1), (9, .iload_n 2, 1), (10, .iconst 4, 1), (11, .if_icmp .ge 23, 3), (14, .aload_n 0, 1), (15, .getfield 11, 3), (18, .iload_n 2, 1), (19, .iconst 1, 1), (20, .isub, 1), (21, .aload_n 0, 1), (22, .getfield 11, 3), (25, .iload_n 2, 1), (26, .aaload, 1), (27, .aastore, 1), (28, .iinc 2 1, 3), (31, .goto (-22), 3), (34, .aload_n 0, 1), (35, .getfield 11, 3), (38, .iconst 3, 1), (39, .aload_n 1, 1), (40, .aastore, 1), (41, .aload_n 0, 1), (42, .iconst 3, 1), (43, .putfield 17, 3), (46, .return_, 1)]
theorem dX0_dropOldest : decs cX0_dropOldest lX0_dropOldest = true := by decide +kernel
abbrev lX0_popInto : List (Nat × Instr × Nat) := [(0, .aload_n 0, 1), (1, .dup, 1), (2, .getfield 17, 3), (5, .iconst 1, 1), (6, .isub, 1), (7, .putfield 17, 3), (10, .aload_n 1, 1), (11, .aload_n 0, 1), (12, .getfield 11, 3), (15, .aload_n 0, 1), (16, .getfield 17, 3), (19, .aaload, 1), (20, .invokevirtual 25, 3), (23, .return_, 1)]
theorem dX0_popInto : decs cX0_popInto lX0_popInto = true := by decide +kernel
abbrev lX1_init : List (Nat × Instr × Nat) := [(0, .aload_n 0, 1), (1, .invokespecial 3, 3), (4, .aload_n 0, 1), (5, .bipush 10, 2), (7, .newarray .int, 2), (9, .putfield 9, 3), (12, .aload_n 0, 1), (13, .bipush 10, 2), (15, .newarray .int, 2), (17, .putfield 15, 3), (20, .aload_n 0, 1), (21, .bipush 10, 2), (23, .newarray .int, 2), (25, .putfield 18, 3), (28, .aload_n 0, 1), (29, .iconst 0, 1), (30, .putfield 21, 3), (33, .return_, 1)]
theorem dX1_init : decs cX1_init lX1_init = true := by decide +kernel
abbrev lX1_gather : List (Nat × Instr × Nat) := [(0, .aload_n 1, 1), (1, .getfield 25, 3), (4, .astore_n 3, 1), (5, .aload_n 0, 1), (6, .iconst 0, 1), (7, .putfield 21, 3), (10, .iconst 0, 1), (11, .istore 4, 2), (13, .iload 4, 2), (15, .aload_n 3, 1), (16, .getfield 30, 3), (19, .if_icmp .ge 122, 3), (22, .aload_n 3, 1), (23, .getfield 33, 3), (26, .iload 4, 2), (28, .aaload, 1), (29, .iload_n 2, 1), (30, .iaload, 1), (31, .istore 5, 2), (33, .iload 5, 2), (35, .ldc 36, 2), (37, .if_icmp .eq 98, 3), (40, .aload_n 1, 1), (41, .getfield 37, 3), (44, .iload 4, 2), (46, .baload, 1), (47, .ifCond .ne 88, 3), (50, .aload_n 0, 1), (51, .iload 5, 2), (53, .invokevirtual 41, 3), (56, .ifCond .eq 79, 3), (59, .aload_n 1, 1), (60, .iload_n 2, 1), (61, .aload_n 3, 1), (62, .getfield 45, 3), (65, .iload 4, 2), (67, .iaload, 1), (68, .invokevirtual 48, 3), (71, .istore 6, 2), (73, .aload_n 0, 1), (74, .getfield 9, 3), (77, .aload_n 0, 1), (78, .getfield 21, 3), (81, .iload 4, 2), (83, .iastore, 1), (84, .aload_n 0, 1), (85, .getfield 15, 3), (88, .aload_n 0, 1), (89, .getfield 21, 3), (92, .iload 5, 2), (94, .iastore, 1), (95, .aload_n 0, 1), (96, .getfield 18, 3), (99, .aload_n 0, 1), (100, .getfield 21, 3), (103, .iload 5, 2), (105, .aload_n 3, 1), (106, .getfield 52, 3), (109, .iload 4, 2), (111, .iaload, 1), (112, .aload_n 3, 1), (113, .getfield 55, 3), (116, .iload 4, 2), (118, .iaload, 1), (119, .iload 6, 2), (121, .imul, 1), (122, .iadd, 1), (123, .isub, 1), (124, .iastore, 1), (125, .aload_n 0, 1), (126, .dup, 1), (127, .getfield 21, 3), (130, .iconst 1, 1), (131, .iadd, 1), (132, .putfield 21, 3), (135, .iinc 4 1, 3), (138, .goto (-125), 3), (141, .return_, 1)]
theorem dX1_gather : decs cX1_gather lX1_gather = true := by decide +kernel
abbrev lX1_isBehindAll : List (Nat × Instr × Nat) := [(0, .aload_n 0, 1), (1, .getfield 21, 3), (4, .ifCond .eq 18, 3), (7, .iload_n 1, 1), (8, .aload_n 0, 1), (9, .getfield 15, 3), (12, .aload_n 0, 1), (13, .getfield 21, 3), (16, .iconst 1, 1), (17, .isub, 1), (18, .iaload, 1), (19, .if_icmp .le 7, 3), (22, .iconst 1, 1), (23, .goto 4, 3), (26, .iconst 0, 1), (27, .ireturn, 1)]
theorem dX1_isBehindAll : decs cX1_isBehindAll lX1_isBehindAll = true := by decide +kernel
abbrev lX1_latestThump : List (Nat × Instr × Nat) := [(0, .aload_n 0, 1), (1, .getfield 21, 3), (4, .ifCond .ne 7, 3), (7, .iconst (-1), 1), (8, .goto 14, 3), (11, .aload_n 0, 1), (12, .getfield 9, 3), (15, .aload_n 0, 1), (16, .getfield 21, 3), (19, .iconst 1, 1), (20, .isub, 1), (21, .iaload, 1), (22, .ireturn, 1)]
theorem dX1_latestThump : decs cX1_latestThump lX1_latestThump = true := by decide +kernel
abbrev lX1_errorAt : List (Nat × Instr × Nat) := [(0, .aload_n 0, 1), (1, .getfield 21, 3), (4, .ifCond .ne 5, 3), (7, .lconst 0, 1), (8, .lreturn, 1), (9, .aload_n 0, 1), (10, .iload_n 1, 1), (11, .invokevirtual 58, 3), (14, .istore_n 2, 1), (15, .iload_n 2, 1), (16, .iconst 1, 1), (17, .iadd, 1), (18, .aload_n 0, 1), (19, .getfield 21, 3), (22, .iconst 1, 1), (23, .isub, 1), (24, .invokestatic 62, 3), (27, .istore_n 3, 1), (28, .ldc2_w 67, 3), (31, .aload_n 0, 1), (32, .getfield 18, 3), (35, .iload_n 2, 1), (36, .iaload, 1), (37, .i2l, 1), (38, .lmul, 1), (39, .lstore 4, 2), (41, .aload_n 0, 1), (42, .getfield 15, 3), (45, .iload_n 3, 1), (46, .iaload, 1), (47, .aload_n 0, 1), (48, .getfield 15, 3), (51, .iload_n 2, 1), (52, .iaload, 1), (53, .isub, 1), (54, .i2l, 1), (55, .lstore 6, 2), (57, .lload 6, 2), (59, .lconst 0, 1), (60, .lcmp, 1), (61, .ifCond .ne 6, 3), (64, .lload 4, 2), (66, .lreturn, 1), (67, .ldc2_w 67, 3), (70, .aload_n 0, 1), (71, .getfield 18, 3), (74, .iload_n 3, 1), (75, .iaload, 1), (76, .aload_n 0, 1), (77, .getfield 18, 3), (80, .iload_n 2, 1), (81, .iaload, 1), (82, .isub, 1), (83, .i2l, 1), (84, .lmul, 1), (85, .lstore 8, 2), (87, .lload 4, 2), (89, .lload 8, 2), (91, .iload_n 1, 1), (92, .aload_n 0, 1), (93, .getfield 15, 3), (96, .iload_n 2, 1), (97, .iaload, 1), (98, .isub, 1), (99, .i2l, 1), (100, .lmul, 1), (101, .lload 6, 2), (103, .invokestatic 69, 3), (106, .ladd, 1), (107, .lreturn, 1)]
theorem dX1_errorAt : decs cX1_errorAt lX1_errorAt = true := by decide +kernel
abbrev lX1_firstOfPair : List (Nat × Instr × Nat) := [(0, .iconst 0, 1), (1, .istore_n 2, 1), (2, .iconst 1, 1), (3, .istore_n 3, 1), (4, .iload_n 3, 1), (5, .aload_n 0, 1), (6, .getfield 21, 3), (9, .iconst 1, 1), (10, .isub, 1), (11, .if_icmp .ge 21, 3), (14, .aload_n 0, 1), (15, .getfield 15, 3), (18, .iload_n 3, 1), (19, .iaload, 1), (20, .iload_n 1, 1), (21, .if_icmp .gt 5, 3), (24, .iload_n 3, 1), (25, .istore_n 2, 1), (26, .iinc 3 1, 3), (29, .goto (-25), 3), (32, .iload_n 2, 1), (33, .ireturn, 1)]
theorem dX1_firstOfPair : decs cX1_firstOfPair lX1_firstOfPair = true := by decide +kernel
abbrev lX1_rightTime : List (Nat × Instr × Nat) := [(0, .ldc2_w 67, 3), (3, .iload_n 1, 1), (4, .i2l, 1), (5, .lmul, 1), (6, .aload_n 0, 1), (7, .iload_n 1, 1), (8, .invokevirtual 73, 3), (11, .lsub, 1), (12, .lreturn, 1)]
theorem dX1_rightTime : decs cX1_rightTime lX1_rightTime = true := by decide +kernel
abbrev lX2_init : List (Nat × Instr × Nat) := [(0, .aload_n 0, 1), (1, .invokespecial 3, 3), (4, .aload_n 0, 1), (5, .bipush 60, 2), (7, .newarray .char, 2), (9, .putfield 9, 3), (12, .aload_n 0, 1), (13, .iconst 0, 1), (14, .putfield 15, 3), (17, .aload_n 0, 1), (18, .bipush 60, 2), (20, .newarray .boolean, 2), (22, .putfield 19, 3), (25, .aload_n 0, 1), (26, .bipush 60, 2), (28, .newarray .int, 2), (30, .putfield 23, 3), (33, .aload_n 0, 1), (34, .bipush 60, 2), (36, .newarray .int, 2), (38, .putfield 27, 3), (41, .aload_n 0, 1), (42, .bipush 60, 2), (44, .newarray .int, 2), (46, .putfield 30, 3), (49, .aload_n 0, 1), (50, .iconst 0, 1), (51, .putfield 33, 3), (54, .aload_n 0, 1), (55, .iconst 0, 1), (56, .putfield 36, 3), (59, .aload_n 0, 1), (60, .iconst 0, 1), (61, .putfield 39, 3), (64, .return_, 1)]
theorem dX2_init : decs cX2_init lX2_init = true := by decide +kernel
abbrev lX2_read : List (Nat × Instr × Nat) := [(0, .iconst 1, 1), (1, .istore_n 1, 1), (2, .aload_n 0, 1), (3, .iconst 0, 1), (4, .putfield 36, 3), (7, .aload_n 0, 1), (8, .iconst 0, 1), (9, .putfield 33, 3), (12, .iload_n 1, 1), (13, .ifCond .eq 44, 3), (16, .aload_n 0, 1), (17, .getfield 33, 3), (20, .bipush 60, 2), (22, .if_icmp .ge 35, 3), (25, .aload_n 0, 1), (26, .invokevirtual 42, 3), (29, .ifCond .ne 8, 3), (32, .aload_n 0, 1), (33, .getfield 36, 3), (36, .ireturn, 1), (37, .aload_n 0, 1), (38, .dup, 1), (39, .getfield 33, 3), (42, .iconst 1, 1), (43, .iadd, 1), (44, .putfield 33, 3), (47, .aload_n 0, 1), (48, .bipush 59, 2), (50, .invokevirtual 46, 3), (53, .istore_n 1, 1), (54, .goto (-42), 3), (57, .aload_n 0, 1), (58, .getfield 36, 3), (61, .aload_n 0, 1), (62, .getfield 15, 3), (65, .if_icmp .ge 10, 3), (68, .aload_n 0, 1), (69, .getfield 36, 3), (72, .goto 4, 3), (75, .iconst (-1), 1), (76, .ireturn, 1)]
theorem dX2_read : decs cX2_read lX2_read = true := by decide +kernel
abbrev lX2_readOrder : List (Nat × Instr × Nat) := [(0, .aload_n 0, 1), (1, .getfield 19, 3), (4, .aload_n 0, 1), (5, .getfield 33, 3), (8, .aload_n 0, 1), (9, .bipush 116, 2), (11, .invokevirtual 46, 3), (14, .bastore, 1), (15, .aload_n 0, 1), (16, .getfield 19, 3), (19, .aload_n 0, 1), (20, .getfield 33, 3), (23, .baload, 1), (24, .ifCond .ne 14, 3), (27, .aload_n 0, 1), (28, .bipush 107, 2), (30, .invokevirtual 46, 3), (33, .ifCond .ne 5, 3), (36, .iconst 0, 1), (37, .ireturn, 1), (38, .aload_n 0, 1), (39, .invokevirtual 50, 3), (42, .ifCond .ne 5, 3), (45, .iconst 0, 1), (46, .ireturn, 1), (47, .aload_n 0, 1), (48, .getfield 23, 3), (51, .aload_n 0, 1), (52, .getfield 33, 3), (55, .aload_n 0, 1), (56, .getfield 39, 3), (59, .iastore, 1), (60, .aload_n 0, 1), (61, .bipush 64, 2), (63, .invokevirtual 46, 3), (66, .ifCond .eq 10, 3), (69, .aload_n 0, 1), (70, .invokevirtual 50, 3), (73, .ifCond .ne 5, 3), (76, .iconst 0, 1), (77, .ireturn, 1), (78, .aload_n 0, 1), (79, .getfield 27, 3), (82, .aload_n 0, 1), (83, .getfield 33, 3), (86, .aload_n 0, 1), (87, .getfield 39, 3), (90, .iastore, 1), (91, .aload_n 0, 1), (92, .sipush 1000, 3), (95, .putfield 39, 3), (98, .aload_n 0, 1), (99, .bipush 42, 2), (101, .invokevirtual 46, 3), (104, .ifCond .eq 12, 3), (107, .aload_n 0, 1), (108, .invokevirtual 50, 3), (111, .ifCond .ne 5, 3), (114, .iconst 0, 1), (115, .ireturn, 1), (116, .aload_n 0, 1), (117, .getfield 30, 3), (120, .aload_n 0, 1), (121, .getfield 33, 3), (124, .aload_n 0, 1), (125, .getfield 39, 3), (128, .iastore, 1), (129, .iconst 1, 1), (130, .ireturn, 1)]
theorem dX2_readOrder : decs cX2_readOrder lX2_readOrder = true := by decide +kernel
abbrev lX2_skips : List (Nat × Instr × Nat) := [(0, .aload_n 0, 1), (1, .getfield 36, 3), (4, .aload_n 0, 1), (5, .getfield 15, 3), (8, .if_icmp .ge 16, 3), (11, .aload_n 0, 1), (12, .getfield 9, 3), (15, .aload_n 0, 1), (16, .getfield 36, 3), (19, .caload, 1), (20, .iload_n 1, 1), (21, .if_icmp .eq 5, 3), (24, .iconst 0, 1), (25, .ireturn, 1), (26, .aload_n 0, 1), (27, .dup, 1), (28, .getfield 36, 3), (31, .iconst 1, 1), (32, .iadd, 1), (33, .putfield 36, 3), (36, .iconst 1, 1), (37, .ireturn, 1)]
theorem dX2_skips : decs cX2_skips lX2_skips = true := by decide +kernel
abbrev lX2_readNumber : List (Nat × Instr × Nat) := [(0, .iconst 0, 1), (1, .istore_n 1, 1), (2, .aload_n 0, 1), (3, .iconst 0, 1), (4, .putfield 39, 3), (7, .iload_n 1, 1), (8, .bipush 6, 2), (10, .if_icmp .ge 61, 3), (13, .aload_n 0, 1), (14, .invokevirtual 53, 3), (17, .ifCond .eq 54, 3), (20, .iload_n 1, 1), (21, .ifCond .eq 10, 3), (24, .aload_n 0, 1), (25, .getfield 39, 3), (28, .ifCond .le 43, 3), (31, .aload_n 0, 1), (32, .bipush 10, 2), (34, .aload_n 0, 1), (35, .getfield 39, 3), (38, .imul, 1), (39, .aload_n 0, 1), (40, .getfield 9, 3), (43, .aload_n 0, 1), (44, .getfield 36, 3), (47, .caload, 1), (48, .bipush 48, 2), (50, .isub, 1), (51, .iadd, 1), (52, .putfield 39, 3), (55, .aload_n 0, 1), (56, .dup, 1), (57, .getfield 36, 3), (60, .iconst 1, 1), (61, .iadd, 1), (62, .putfield 36, 3), (65, .iinc 1 1, 3), (68, .goto (-61), 3), (71, .iload_n 1, 1), (72, .ifCond .le 7, 3), (75, .iconst 1, 1), (76, .goto 4, 3), (79, .iconst 0, 1), (80, .ireturn, 1)]
theorem dX2_readNumber : decs cX2_readNumber lX2_readNumber = true := by decide +kernel
abbrev lX2_isDigit : List (Nat × Instr × Nat) := [(0, .aload_n 0, 1), (1, .getfield 36, 3), (4, .aload_n 0, 1), (5, .getfield 15, 3), (8, .if_icmp .ge 35, 3), (11, .aload_n 0, 1), (12, .getfield 9, 3), (15, .aload_n 0, 1), (16, .getfield 36, 3), (19, .caload, 1), (20, .bipush 48, 2), (22, .if_icmp .lt 21, 3), (25, .aload_n 0, 1), (26, .getfield 9, 3), (29, .aload_n 0, 1), (30, .getfield 36, 3), (33, .caload, 1), (34, .bipush 57, 2), (36, .if_icmp .gt 7, 3), (39, .iconst 1, 1), (40, .goto 4, 3), (43, .iconst 0, 1), (44, .ireturn, 1)]
theorem dX2_isDigit : decs cX2_isDigit lX2_isDigit = true := by decide +kernel
abbrev lX3_init : List (Nat × Instr × Nat) := [(0, .aload_n 0, 1), (1, .invokespecial 3, 3), (4, .aload_n 0, 1), (5, .bipush 10, 2), (7, .newarray .int, 2), (9, .putfield 9, 3), (12, .aload_n 0, 1), (13, .bipush 10, 2), (15, .newarray .int, 2), (17, .putfield 15, 3), (20, .aload_n 0, 1), (21, .bipush 10, 2), (23, .newarray .int, 2), (25, .putfield 18, 3), (28, .aload_n 0, 1), (29, .bipush 10, 2), (31, .bipush 10, 2), (33, .multianewarray 21 2, 4), (37, .putfield 23, 3), (40, .aload_n 0, 1), (41, .iconst 0, 1), (42, .putfield 26, 3), (45, .return_, 1)]
theorem dX3_init : decs cX3_init lX3_init = true := by decide +kernel
abbrev lX3_copyFrom : List (Nat × Instr × Nat) := [(0, .aload_n 1, 1), (1, .getfield 9, 3), (4, .iconst 0, 1), (5, .aload_n 0, 1), (6, .getfield 9, 3), (9, .iconst 0, 1), (10, .bipush 10, 2), (12, .invokestatic 30, 3), (15, .aload_n 1, 1), (16, .getfield 15, 3), (19, .iconst 0, 1), (20, .aload_n 0, 1), (21, .getfield 15, 3), (24, .iconst 0, 1), (25, .bipush 10, 2), (27, .invokestatic 30, 3), (30, .aload_n 1, 1), (31, .getfield 18, 3), (34, .iconst 0, 1), (35, .aload_n 0, 1), (36, .getfield 18, 3), (39, .iconst 0, 1), (40, .bipush 10, 2), (42, .invokestatic 30, 3), (45, .iconst 0, 1), (46, .istore_n 2, 1), (47, .iload_n 2, 1), (48, .bipush 10, 2), (50, .if_icmp .ge 28, 3), (53, .aload_n 1, 1), (54, .getfield 23, 3), (57, .iload_n 2, 1), (58, .aaload, 1), (59, .iconst 0, 1), (60, .aload_n 0, 1), (61, .getfield 23, 3), (64, .iload_n 2, 1), (65, .aaload, 1), (66, .iconst 0, 1), (67, .bipush 10, 2), (69, .invokestatic 30, 3), (72, .iinc 2 1, 3), (75, .goto (-28), 3), (78, .aload_n 0, 1), (79, .aload_n 1, 1), (80, .getfield 26, 3), (83, .putfield 26, 3), (86, .return_, 1)]
theorem dX3_copyFrom : decs cX3_copyFrom lX3_copyFrom = true := by decide +kernel
abbrev lX3_has : List (Nat × Instr × Nat) := [(0, .iload_n 1, 1), (1, .ifCond .lt 15, 3), (4, .iload_n 1, 1), (5, .aload_n 0, 1), (6, .getfield 26, 3), (9, .if_icmp .ge 7, 3), (12, .iconst 1, 1), (13, .goto 4, 3), (16, .iconst 0, 1), (17, .ireturn, 1)]
theorem dX3_has : decs cX3_has lX3_has = true := by decide +kernel
abbrev lX3_heardBy : List (Nat × Instr × Nat) := [(0, .iconst 0, 1), (1, .istore_n 2, 1), (2, .iconst 0, 1), (3, .istore_n 3, 1), (4, .iload_n 3, 1), (5, .aload_n 0, 1), (6, .getfield 26, 3), (9, .if_icmp .ge 25, 3), (12, .aload_n 0, 1), (13, .getfield 23, 3), (16, .iload_n 3, 1), (17, .aaload, 1), (18, .iload_n 1, 1), (19, .iaload, 1), (20, .ldc 36, 2), (22, .if_icmp .eq 6, 3), (25, .iinc 2 1, 3), (28, .iinc 3 1, 3), (31, .goto (-27), 3), (34, .iload_n 2, 1), (35, .ireturn, 1)]
theorem dX3_heardBy : decs cX3_heardBy lX3_heardBy = true := by decide +kernel
abbrev lX4_init : List (Nat × Instr × Nat) := [(0, .aload_n 0, 1), (1, .invokespecial 3, 3), (4, .aload_n 0, 1), (5, .bipush 10, 2), (7, .newarray .int, 2), (9, .putfield 9, 3), (12, .aload_n 0, 1), (13, .bipush 10, 2), (15, .newarray .int, 2), (17, .putfield 15, 3), (20, .aload_n 0, 1), (21, .bipush 10, 2), (23, .newarray .long, 2), (25, .putfield 18, 3), (28, .aload_n 0, 1), (29, .iconst 0, 1), (30, .putfield 22, 3), (33, .aload_n 0, 1), (34, .lconst 0, 1), (35, .putfield 26, 3), (38, .aload_n 0, 1), (39, .iconst 0, 1), (40, .putfield 30, 3), (43, .aload_n 0, 1), (44, .lconst 0, 1), (45, .putfield 33, 3), (48, .aload_n 0, 1), (49, .lconst 0, 1), (50, .putfield 36, 3), (53, .return_, 1)]
theorem dX4_init : decs cX4_init lX4_init = true := by decide +kernel
abbrev lX4_listen : List (Nat × Instr × Nat) := [(0, .aload_n 0, 1), (1, .iconst 0, 1), (2, .putfield 22, 3), (5, .aload_n 0, 1), (6, .ldc2_w 39, 3), (9, .aload_n 1, 1), (10, .getfield 41, 3), (13, .getfield 47, 3), (16, .iload_n 2, 1), (17, .iaload, 1), (18, .i2l, 1), (19, .lmul, 1), (20, .putfield 26, 3), (23, .iconst 0, 1), (24, .istore 4, 2), (26, .iload 4, 2), (28, .aload_n 1, 1), (29, .getfield 52, 3), (32, .if_icmp .ge 89, 3), (35, .aload_n 1, 1), (36, .getfield 41, 3), (39, .getfield 54, 3), (42, .iload_n 2, 1), (43, .aaload, 1), (44, .iload 4, 2), (46, .iaload, 1), (47, .istore 5, 2), (49, .iload 5, 2), (51, .ldc 58, 2), (53, .if_icmp .eq 62, 3), (56, .aload_n 3, 1), (57, .aload_n 1, 1), (58, .iload 4, 2), (60, .invokevirtual 59, 3), (63, .aload_n 0, 1), (64, .getfield 9, 3), (67, .aload_n 0, 1), (68, .getfield 22, 3), (71, .iload 4, 2), (73, .iastore, 1), (74, .aload_n 0, 1), (75, .getfield 15, 3), (78, .aload_n 0, 1), (79, .getfield 22, 3), (82, .aload_n 1, 1), (83, .getfield 65, 3), (86, .iload 4, 2), (88, .iaload, 1), (89, .iastore, 1), (90, .aload_n 0, 1), (91, .getfield 18, 3), (94, .aload_n 0, 1), (95, .getfield 22, 3), (98, .aload_n 3, 1), (99, .iload 5, 2), (101, .invokevirtual 68, 3), (104, .lastore, 1), (105, .aload_n 0, 1), (106, .dup, 1), (107, .getfield 22, 3), (110, .iconst 1, 1), (111, .iadd, 1), (112, .putfield 22, 3), (115, .iinc 4 1, 3), (118, .goto (-92), 3), (121, .return_, 1)]
theorem dX4_listen : decs cX4_listen lX4_listen = true := by decide +kernel
abbrev lX4_beginning : List (Nat × Instr × Nat) := [(0, .aload_n 0, 1), (1, .getfield 18, 3), (4, .iload_n 1, 1), (5, .laload, 1), (6, .aload_n 0, 1), (7, .getfield 26, 3), (10, .aload_n 0, 1), (11, .getfield 30, 3), (14, .aload_n 0, 1), (15, .getfield 15, 3), (18, .iload_n 1, 1), (19, .iaload, 1), (20, .isub, 1), (21, .invokestatic 72, 3), (24, .i2l, 1), (25, .lmul, 1), (26, .lsub, 1), (27, .lreturn, 1)]
theorem dX4_beginning : decs cX4_beginning lX4_beginning = true := by decide +kernel
abbrev lX4_lookFrom : List (Nat × Instr × Nat) := [(0, .aload_n 0, 1), (1, .iload_n 1, 1), (2, .putfield 30, 3), (5, .aload_n 0, 1), (6, .aload_n 0, 1), (7, .iconst 0, 1), (8, .invokevirtual 78, 3), (11, .putfield 33, 3), (14, .aload_n 0, 1), (15, .aload_n 0, 1), (16, .getfield 33, 3), (19, .putfield 36, 3), (22, .iconst 1, 1), (23, .istore_n 2, 1), (24, .iload_n 2, 1), (25, .aload_n 0, 1), (26, .getfield 22, 3), (29, .if_icmp .ge 39, 3), (32, .aload_n 0, 1), (33, .iload_n 2, 1), (34, .invokevirtual 78, 3), (37, .lstore_n 3, 1), (38, .aload_n 0, 1), (39, .aload_n 0, 1), (40, .getfield 33, 3), (43, .lload_n 3, 1), (44, .invokestatic 81, 3), (47, .putfield 33, 3), (50, .aload_n 0, 1), (51, .aload_n 0, 1), (52, .getfield 36, 3), (55, .lload_n 3, 1), (56, .invokestatic 85, 3), (59, .putfield 36, 3), (62, .iinc 2 1, 3), (65, .goto (-41), 3), (68, .return_, 1)]
theorem dX4_lookFrom : decs cX4_lookFrom lX4_lookFrom = true := by decide +kernel
abbrev lX4_locate : List (Nat × Instr × Nat) := [(0, .aload_n 0, 1), (1, .iconst 0, 1), (2, .invokevirtual 88, 3), (5, .iconst 0, 1), (6, .istore_n 1, 1), (7, .aload_n 0, 1), (8, .invokevirtual 92, 3), (11, .lstore_n 2, 1), (12, .iconst 1, 1), (13, .istore 4, 2), (15, .iload 4, 2), (17, .sipush 1000, 3), (20, .if_icmp .gt 32, 3), (23, .aload_n 0, 1), (24, .iload 4, 2), (26, .invokevirtual 88, 3), (29, .aload_n 0, 1), (30, .invokevirtual 92, 3), (33, .lload_n 2, 1), (34, .lcmp, 1), (35, .ifCond .ge 11, 3), (38, .aload_n 0, 1), (39, .invokevirtual 92, 3), (42, .lstore_n 2, 1), (43, .iload 4, 2), (45, .istore_n 1, 1), (46, .iinc 4 1, 3), (49, .goto (-34), 3), (52, .aload_n 0, 1), (53, .iload_n 1, 1), (54, .invokevirtual 88, 3), (57, .return_, 1)]
theorem dX4_locate : decs cX4_locate lX4_locate = true := by decide +kernel
abbrev lX4_width : List (Nat × Instr × Nat) := [(0, .aload_n 0, 1), (1, .getfield 36, 3), (4, .aload_n 0, 1), (5, .getfield 33, 3), (8, .lsub, 1), (9, .lreturn, 1)]
theorem dX4_width : decs cX4_width lX4_width = true := by decide +kernel
abbrev lX4_fits : List (Nat × Instr × Nat) := [(0, .aload_n 0, 1), (1, .invokevirtual 92, 3), (4, .ldc2_w 39, 3), (7, .iload_n 1, 1), (8, .i2l, 1), (9, .lmul, 1), (10, .lcmp, 1), (11, .ifCond .gt 7, 3), (14, .iconst 1, 1), (15, .goto 4, 3), (18, .iconst 0, 1), (19, .ireturn, 1)]
theorem dX4_fits : decs cX4_fits lX4_fits = true := by decide +kernel
abbrev lX4_time : List (Nat × Instr × Nat) := [(0, .aload_n 0, 1), (1, .getfield 36, 3), (4, .aload_n 0, 1), (5, .getfield 33, 3), (8, .ladd, 1), (9, .ldc2_w 96, 3), (12, .invokestatic 98, 3), (15, .lreturn, 1)]
theorem dX4_time : decs cX4_time lX4_time = true := by decide +kernel
abbrev lX4_worstEar : List (Nat × Instr × Nat) := [(0, .iconst 0, 1), (1, .istore_n 1, 1), (2, .aload_n 0, 1), (3, .iconst 0, 1), (4, .invokevirtual 78, 3), (7, .aload_n 0, 1), (8, .invokevirtual 101, 3), (11, .lsub, 1), (12, .invokestatic 104, 3), (15, .lstore_n 2, 1), (16, .iconst 1, 1), (17, .istore 4, 2), (19, .iload 4, 2), (21, .aload_n 0, 1), (22, .getfield 22, 3), (25, .if_icmp .ge 38, 3), (28, .aload_n 0, 1), (29, .iload 4, 2), (31, .invokevirtual 78, 3), (34, .aload_n 0, 1), (35, .invokevirtual 101, 3), (38, .lsub, 1), (39, .invokestatic 104, 3), (42, .lstore 5, 2), (44, .lload 5, 2), (46, .lload_n 2, 1), (47, .lcmp, 1), (48, .ifCond .le 9, 3), (51, .lload 5, 2), (53, .lstore_n 2, 1), (54, .iload 4, 2), (56, .istore_n 1, 1), (57, .iinc 4 1, 3), (60, .goto (-41), 3), (63, .aload_n 0, 1), (64, .getfield 9, 3), (67, .iload_n 1, 1), (68, .iaload, 1), (69, .ireturn, 1)]
theorem dX4_worstEar : decs cX4_worstEar lX4_worstEar = true := by decide +kernel
abbrev lX5_init : List (Nat × Instr × Nat) := [(0, .aload_n 0, 1), (1, .invokespecial 3, 3), (4, .aload_n 0, 1), (5, .bipush 10, 2), (7, .newarray .int, 2), (9, .putfield 9, 3), (12, .aload_n 0, 1), (13, .bipush 10, 2), (15, .newarray .int, 2), (17, .putfield 15, 3), (20, .aload_n 0, 1), (21, .bipush 10, 2), (23, .newarray .int, 2), (25, .putfield 18, 3), (28, .aload_n 0, 1), (29, .bipush 10, 2), (31, .newarray .boolean, 2), (33, .putfield 21, 3), (36, .aload_n 0, 1), (37, .bipush 10, 2), (39, .newarray .boolean, 2), (41, .putfield 25, 3), (44, .aload_n 0, 1), (45, .new 28, 3), (48, .dup, 1), (49, .invokespecial 30, 3), (52, .putfield 31, 3), (55, .aload_n 0, 1), (56, .new 28, 3), (59, .dup, 1), (60, .invokespecial 30, 3), (63, .putfield 35, 3), (66, .aload_n 0, 1), (67, .iconst 0, 1), (68, .putfield 38, 3), (71, .aload_n 0, 1), (72, .iconst 3, 1), (73, .putfield 42, 3), (76, .aload_n 0, 1), (77, .iconst 5, 1), (78, .putfield 45, 3), (81, .aload_n 0, 1), (82, .iconst 0, 1), (83, .putfield 48, 3), (86, .return_, 1)]
theorem dX5_init : decs cX5_init lX5_init = true := by decide +kernel
abbrev lX5_copyFrom : List (Nat × Instr × Nat) := [(0, .aload_n 1, 1), (1, .getfield 9, 3), (4, .iconst 0, 1), (5, .aload_n 0, 1), (6, .getfield 9, 3), (9, .iconst 0, 1), (10, .bipush 10, 2), (12, .invokestatic 51, 3), (15, .aload_n 1, 1), (16, .getfield 15, 3), (19, .iconst 0, 1), (20, .aload_n 0, 1), (21, .getfield 15, 3), (24, .iconst 0, 1), (25, .bipush 10, 2), (27, .invokestatic 51, 3), (30, .aload_n 1, 1), (31, .getfield 18, 3), (34, .iconst 0, 1), (35, .aload_n 0, 1), (36, .getfield 18, 3), (39, .iconst 0, 1), (40, .bipush 10, 2), (42, .invokestatic 51, 3), (45, .aload_n 1, 1), (46, .getfield 21, 3), (49, .iconst 0, 1), (50, .aload_n 0, 1), (51, .getfield 21, 3), (54, .iconst 0, 1), (55, .bipush 10, 2), (57, .invokestatic 51, 3), (60, .aload_n 1, 1), (61, .getfield 25, 3), (64, .iconst 0, 1), (65, .aload_n 0, 1), (66, .getfield 25, 3), (69, .iconst 0, 1), (70, .bipush 10, 2), (72, .invokestatic 51, 3), (75, .aload_n 0, 1), (76, .getfield 31, 3), (79, .aload_n 1, 1), (80, .getfield 31, 3), (83, .invokevirtual 57, 3), (86, .aload_n 0, 1), (87, .getfield 35, 3), (90, .aload_n 1, 1), (91, .getfield 35, 3), (94, .invokevirtual 57, 3), (97, .aload_n 0, 1), (98, .aload_n 1, 1), (99, .getfield 38, 3), (102, .putfield 38, 3), (105, .aload_n 0, 1), (106, .aload_n 1, 1), (107, .getfield 42, 3), (110, .putfield 42, 3), (113, .aload_n 0, 1), (114, .aload_n 1, 1), (115, .getfield 45, 3), (118, .putfield 45, 3), (121, .aload_n 0, 1), (122, .aload_n 1, 1), (123, .getfield 48, 3), (126, .putfield 48, 3), (129, .return_, 1)]
theorem dX5_copyFrom : decs cX5_copyFrom lX5_copyFrom = true := by decide +kernel
abbrev lX5_hasEar : List (Nat × Instr × Nat) := [(0, .iload_n 1, 1), (1, .ifCond .lt 15, 3), (4, .iload_n 1, 1), (5, .aload_n 0, 1), (6, .getfield 38, 3), (9, .if_icmp .ge 7, 3), (12, .iconst 1, 1), (13, .goto 4, 3), (16, .iconst 0, 1), (17, .ireturn, 1)]
theorem dX5_hasEar : decs cX5_hasEar lX5_hasEar = true := by decide +kernel
abbrev lX5_addEar : List (Nat × Instr × Nat) := [(0, .aload_n 0, 1), (1, .getfield 9, 3), (4, .aload_n 0, 1), (5, .getfield 38, 3), (8, .iload_n 1, 1), (9, .iastore, 1), (10, .aload_n 0, 1), (11, .dup, 1), (12, .getfield 38, 3), (15, .iconst 1, 1), (16, .iadd, 1), (17, .putfield 38, 3), (20, .aload_n 0, 1), (21, .getfield 38, 3), (24, .iconst 1, 1), (25, .isub, 1), (26, .ireturn, 1)]
theorem dX5_addEar : decs cX5_addEar lX5_addEar = true := by decide +kernel
abbrev lX5_reading : List (Nat × Instr × Nat) := [(0, .iload_n 2, 1), (1, .aload_n 0, 1), (2, .getfield 15, 3), (5, .iload_n 1, 1), (6, .iaload, 1), (7, .iadd, 1), (8, .aload_n 0, 1), (9, .getfield 18, 3), (12, .iload_n 1, 1), (13, .iaload, 1), (14, .iload_n 2, 1), (15, .imul, 1), (16, .sipush 10000, 3), (19, .invokestatic 61, 3), (22, .iadd, 1), (23, .ireturn, 1)]
theorem dX5_reading : decs cX5_reading lX5_reading = true := by decide +kernel
abbrev lX5_wayTo : List (Nat × Instr × Nat) := [(0, .iload_n 2, 1), (1, .aload_n 0, 1), (2, .getfield 9, 3), (5, .iload_n 1, 1), (6, .iaload, 1), (7, .isub, 1), (8, .invokestatic 67, 3), (11, .ireturn, 1)]
theorem dX5_wayTo : decs cX5_wayTo lX5_wayTo = true := by decide +kernel
abbrev lX5_canHear : List (Nat × Instr × Nat) := [(0, .aload_n 0, 1), (1, .iload_n 1, 1), (2, .invokevirtual 71, 3), (5, .ifCond .eq 26, 3), (8, .aload_n 0, 1), (9, .getfield 21, 3), (12, .iload_n 1, 1), (13, .baload, 1), (14, .ifCond .ne 17, 3), (17, .aload_n 0, 1), (18, .iload_n 1, 1), (19, .iload_n 2, 1), (20, .invokevirtual 75, 3), (23, .iload_n 3, 1), (24, .if_icmp .gt 7, 3), (27, .iconst 1, 1), (28, .goto 4, 3), (31, .iconst 0, 1), (32, .ireturn, 1)]
theorem dX5_canHear : decs cX5_canHear lX5_canHear = true := by decide +kernel
abbrev lX5_addSound : List (Nat × Instr × Nat) := [(0, .aload_n 1, 1), (1, .getfield 78, 3), (4, .istore 5, 2), (6, .iconst 0, 1), (7, .istore 6, 2), (9, .iconst 0, 1), (10, .istore 7, 2), (12, .iload 7, 2), (14, .bipush 10, 2), (16, .if_icmp .ge 62, 3), (19, .ldc 81, 2), (21, .istore 8, 2), (23, .aload_n 0, 1), (24, .iload 7, 2), (26, .iload_n 2, 1), (27, .iload 4, 2), (29, .invokevirtual 82, 3), (32, .ifCond .eq 28, 3), (35, .aload_n 0, 1), (36, .iload 7, 2), (38, .iload_n 3, 1), (39, .aload_n 0, 1), (40, .getfield 42, 3), (43, .aload_n 0, 1), (44, .iload 7, 2), (46, .iload_n 2, 1), (47, .invokevirtual 75, 3), (50, .imul, 1), (51, .iadd, 1), (52, .invokevirtual 86, 3), (55, .istore 8, 2), (57, .iinc 6 1, 3), (60, .aload_n 1, 1), (61, .getfield 89, 3), (64, .iload 5, 2), (66, .aaload, 1), (67, .iload 7, 2), (69, .iload 8, 2), (71, .iastore, 1), (72, .iinc 7 1, 3), (75, .goto (-63), 3), (78, .aload_n 1, 1), (79, .getfield 93, 3), (82, .iload 5, 2), (84, .iload_n 2, 1), (85, .iastore, 1), (86, .aload_n 1, 1), (87, .getfield 94, 3), (90, .iload 5, 2), (92, .iload_n 3, 1), (93, .iastore, 1), (94, .aload_n 1, 1), (95, .getfield 97, 3), (98, .iload 5, 2), (100, .aload_n 0, 1), (101, .getfield 42, 3), (104, .iastore, 1), (105, .aload_n 1, 1), (106, .dup, 1), (107, .getfield 78, 3), (110, .iconst 1, 1), (111, .iadd, 1), (112, .putfield 78, 3), (115, .aload_n 0, 1), (116, .iload_n 3, 1), (117, .putfield 48, 3), (120, .iload 6, 2), (122, .ireturn, 1)]
theorem dX5_addSound : decs cX5_addSound lX5_addSound = true := by decide +kernel
abbrev lX6_init : List (Nat × Instr × Nat) := [(0, .aload_n 0, 1), (1, .invokespecial 1, 3), (4, .aload_n 0, 1), (5, .new 7, 3), (8, .dup, 1), (9, .invokespecial 9, 3), (12, .putfield 10, 3), (15, .aload_n 0, 1), (16, .new 7, 3), (19, .dup, 1), (20, .invokespecial 9, 3), (23, .putfield 16, 3), (26, .aload_n 0, 1), (27, .iconst 0, 1), (28, .putfield 19, 3), (31, .aload_n 0, 1), (32, .new 23, 3), (35, .dup, 1), (36, .invokespecial 25, 3), (39, .putfield 26, 3), (42, .aload_n 0, 1), (43, .new 30, 3), (46, .dup, 1), (47, .invokespecial 32, 3), (50, .putfield 33, 3), (53, .aload_n 0, 1), (54, .new 37, 3), (57, .dup, 1), (58, .invokespecial 39, 3), (61, .putfield 40, 3), (64, .aload_n 0, 1), (65, .new 44, 3), (68, .dup, 1), (69, .invokespecial 46, 3), (72, .putfield 47, 3), (75, .return_, 1)]
theorem dX6_init : decs cX6_init lX6_init = true := by decide +kernel
abbrev lX6_bury : List (Nat × Instr × Nat) := [(0, .iload_n 1, 1), (1, .iconst 0, 1), (2, .sipush 1000, 3), (5, .invokestatic 51, 3), (8, .ifCond .ne 6, 3), (11, .bipush (-2), 2), (13, .ireturn, 1), (14, .aload_n 0, 1), (15, .getfield 10, 3), (18, .getfield 55, 3), (21, .bipush 10, 2), (23, .if_icmp .lt 6, 3), (26, .bipush (-3), 2), (28, .ireturn, 1), (29, .aload_n 0, 1), (30, .getfield 26, 3), (33, .aload_n 0, 1), (34, .getfield 10, 3), (37, .invokevirtual 59, 3), (40, .aload_n 0, 1), (41, .getfield 10, 3), (44, .iload_n 1, 1), (45, .invokevirtual 63, 3), (48, .ireturn, 1)]
theorem dX6_bury : decs cX6_bury lX6_bury = true := by decide +kernel
abbrev lX6_setClock : List (Nat × Instr × Nat) := [(0, .aload_n 0, 1), (1, .getfield 10, 3), (4, .iload_n 1, 1), (5, .invokevirtual 67, 3), (8, .ifCond .ne 5, 3), (11, .iconst (-1), 1), (12, .ireturn, 1), (13, .iload_n 2, 1), (14, .sipush (-500), 3), (17, .sipush 500, 3), (20, .invokestatic 51, 3), (23, .ifCond .eq 14, 3), (26, .iload_n 3, 1), (27, .bipush (-50), 2), (29, .bipush 50, 2), (31, .invokestatic 51, 3), (34, .ifCond .ne 6, 3), (37, .bipush (-2), 2), (39, .ireturn, 1), (40, .aload_n 0, 1), (41, .getfield 10, 3), (44, .getfield 71, 3), (47, .iload_n 1, 1), (48, .iaload, 1), (49, .iload_n 2, 1), (50, .if_icmp .ne 19, 3), (53, .aload_n 0, 1), (54, .getfield 10, 3), (57, .getfield 75, 3), (60, .iload_n 1, 1), (61, .iaload, 1), (62, .iload_n 3, 1), (63, .if_icmp .ne 6, 3), (66, .bipush (-5), 2), (68, .ireturn, 1), (69, .aload_n 0, 1), (70, .getfield 26, 3), (73, .aload_n 0, 1), (74, .getfield 10, 3), (77, .invokevirtual 59, 3), (80, .aload_n 0, 1), (81, .getfield 10, 3), (84, .getfield 71, 3), (87, .iload_n 1, 1), (88, .iload_n 2, 1), (89, .iastore, 1), (90, .aload_n 0, 1), (91, .getfield 10, 3), (94, .getfield 75, 3), (97, .iload_n 1, 1), (98, .iload_n 3, 1), (99, .iastore, 1), (100, .iconst 1, 1), (101, .ireturn, 1)]
theorem dX6_setClock : decs cX6_setClock lX6_setClock = true := by decide +kernel
abbrev lX6_mute : List (Nat × Instr × Nat) := [(0, .aload_n 0, 1), (1, .getfield 10, 3), (4, .iload_n 1, 1), (5, .invokevirtual 67, 3), (8, .ifCond .ne 5, 3), (11, .iconst (-1), 1), (12, .ireturn, 1), (13, .aload_n 0, 1), (14, .aload_n 0, 1), (15, .getfield 10, 3), (18, .getfield 78, 3), (21, .aload_n 0, 1), (22, .getfield 10, 3), (25, .getfield 55, 3), (28, .iload_n 1, 1), (29, .iload_n 2, 1), (30, .invokevirtual 82, 3), (33, .ireturn, 1)]
theorem dX6_mute : decs cX6_mute lX6_mute = true := by decide +kernel
abbrev lX6_set : List (Nat × Instr × Nat) := [(0, .iload_n 1, 1), (1, .ifCond .ne 9, 3), (4, .aload_n 0, 1), (5, .iload_n 2, 1), (6, .invokevirtual 86, 3), (9, .ireturn, 1), (10, .iload_n 1, 1), (11, .iconst 1, 1), (12, .if_icmp .ne 11, 3), (15, .aload_n 0, 1), (16, .iload_n 2, 1), (17, .invokevirtual 89, 3), (20, .goto 5, 3), (23, .bipush (-2), 2), (25, .ireturn, 1)]
theorem dX6_set : decs cX6_set lX6_set = true := by decide +kernel
abbrev lX6_thump : List (Nat × Instr × Nat) := [(0, .aload_n 0, 1), (1, .aload_n 0, 1), (2, .getfield 10, 3), (5, .getfield 92, 3), (8, .iload_n 1, 1), (9, .iload_n 2, 1), (10, .iload_n 3, 1), (11, .invokevirtual 96, 3), (14, .ireturn, 1)]
theorem dX6_thump : decs cX6_thump lX6_thump = true := by decide +kernel
abbrev lX6_knock : List (Nat × Instr × Nat) := [(0, .aload_n 0, 1), (1, .aload_n 0, 1), (2, .getfield 10, 3), (5, .getfield 100, 3), (8, .iload_n 1, 1), (9, .iload_n 2, 1), (10, .iload_n 3, 1), (11, .invokevirtual 96, 3), (14, .ireturn, 1)]
theorem dX6_knock : decs cX6_knock lX6_knock = true := by decide +kernel
abbrev lX6_leaveOut : List (Nat × Instr × Nat) := [(0, .aload_n 0, 1), (1, .getfield 10, 3), (4, .getfield 92, 3), (7, .iload_n 1, 1), (8, .invokevirtual 103, 3), (11, .ifCond .ne 5, 3), (14, .iconst (-1), 1), (15, .ireturn, 1), (16, .aload_n 0, 1), (17, .aload_n 0, 1), (18, .getfield 10, 3), (21, .getfield 108, 3), (24, .aload_n 0, 1), (25, .getfield 10, 3), (28, .getfield 92, 3), (31, .getfield 111, 3), (34, .iload_n 1, 1), (35, .iload_n 2, 1), (36, .invokevirtual 82, 3), (39, .ireturn, 1)]
theorem dX6_leaveOut : decs cX6_leaveOut lX6_leaveOut = true := by decide +kernel
abbrev lX6_readOrders : List (Nat × Instr × Nat) := [(0, .aload_n 0, 1), (1, .getfield 33, 3), (4, .invokevirtual 114, 3), (7, .istore_n 1, 1), (8, .iload_n 1, 1), (9, .iconst (-1), 1), (10, .if_icmp .eq 8, 3), (13, .bipush (-100), 2), (15, .iload_n 1, 1), (16, .isub, 1), (17, .ireturn, 1), (18, .aload_n 0, 1), (19, .invokevirtual 118, 3), (22, .istore_n 2, 1), (23, .iload_n 2, 1), (24, .ifCond .eq 5, 3), (27, .iload_n 2, 1), (28, .ireturn, 1), (29, .aload_n 0, 1), (30, .getfield 26, 3), (33, .aload_n 0, 1), (34, .getfield 10, 3), (37, .invokevirtual 59, 3), (40, .iconst 0, 1), (41, .istore_n 3, 1), (42, .iload_n 3, 1), (43, .aload_n 0, 1), (44, .getfield 33, 3), (47, .getfield 121, 3), (50, .if_icmp .ge 77, 3), (53, .aload_n 0, 1), (54, .getfield 33, 3), (57, .getfield 124, 3), (60, .iload_n 3, 1), (61, .baload, 1), (62, .ifCond .eq 13, 3), (65, .aload_n 0, 1), (66, .getfield 10, 3), (69, .getfield 92, 3), (72, .goto 10, 3), (75, .aload_n 0, 1), (76, .getfield 10, 3), (79, .getfield 100, 3), (82, .astore 4, 2), (84, .aload_n 0, 1), (85, .getfield 10, 3), (88, .aload 4, 2), (90, .aload_n 0, 1), (91, .getfield 33, 3), (94, .getfield 127, 3), (97, .iload_n 3, 1), (98, .iaload, 1), (99, .aload_n 0, 1), (100, .getfield 33, 3), (103, .getfield 130, 3), (106, .iload_n 3, 1), (107, .iaload, 1), (108, .aload_n 0, 1), (109, .getfield 33, 3), (112, .getfield 133, 3), (115, .iload_n 3, 1), (116, .iaload, 1), (117, .invokevirtual 136, 3), (120, .pop, 1), (121, .iinc 3 1, 3), (124, .goto (-82), 3), (127, .aload_n 0, 1), (128, .getfield 33, 3), (131, .getfield 121, 3), (134, .ireturn, 1)]
theorem dX6_readOrders : decs cX6_readOrders lX6_readOrders = true := by decide +kernel
abbrev lX6_type : List (Nat × Instr × Nat) := [(0, .aload_n 0, 1), (1, .getfield 33, 3), (4, .getfield 139, 3), (7, .bipush 60, 2), (9, .if_icmp .lt 6, 3), (12, .bipush (-3), 2), (14, .ireturn, 1), (15, .aload_n 0, 1), (16, .getfield 33, 3), (19, .getfield 142, 3), (22, .aload_n 0, 1), (23, .getfield 33, 3), (26, .getfield 139, 3), (29, .iload_n 1, 1), (30, .castore, 1), (31, .aload_n 0, 1), (32, .getfield 33, 3), (35, .dup, 1), (36, .getfield 139, 3), (39, .iconst 1, 1), (40, .iadd, 1), (41, .putfield 139, 3), (44, .aload_n 0, 1), (45, .getfield 33, 3), (48, .getfield 139, 3), (51, .ireturn, 1)]
theorem dX6_type : decs cX6_type lX6_type = true := by decide +kernel
abbrev lX6_clearText : List (Nat × Instr × Nat) := [(0, .aload_n 0, 1), (1, .getfield 33, 3), (4, .getfield 139, 3), (7, .istore_n 1, 1), (8, .aload_n 0, 1), (9, .getfield 33, 3), (12, .iconst 0, 1), (13, .putfield 139, 3), (16, .iload_n 1, 1), (17, .ireturn, 1)]
theorem dX6_clearText : decs cX6_clearText lX6_clearText = true := by decide +kernel
abbrev lX6_undo : List (Nat × Instr × Nat) := [(0, .aload_n 0, 1), (1, .getfield 26, 3), (4, .getfield 146, 3), (7, .ifCond .gt 6, 3), (10, .bipush (-5), 2), (12, .ireturn, 1), (13, .aload_n 0, 1), (14, .getfield 26, 3), (17, .aload_n 0, 1), (18, .getfield 10, 3), (21, .invokevirtual 147, 3), (24, .aload_n 0, 1), (25, .getfield 26, 3), (28, .getfield 146, 3), (31, .ireturn, 1)]
theorem dX6_undo : decs cX6_undo lX6_undo = true := by decide +kernel
abbrev lX6_ear : List (Nat × Instr × Nat) := [(0, .aload_n 0, 1), (1, .getfield 10, 3), (4, .iload_n 1, 1), (5, .invokevirtual 67, 3), (8, .ifCond .ne 5, 3), (11, .iconst (-1), 1), (12, .ireturn, 1), (13, .iload_n 2, 1), (14, .tableswitch 136 0 6 #[42, 52, 70, 84, 98, 118, 124], 42), (56, .aload_n 0, 1), (57, .getfield 10, 3), (60, .getfield 156, 3), (63, .iload_n 1, 1), (64, .iaload, 1), (65, .ireturn, 1), (66, .aload_n 0, 1), (67, .getfield 10, 3), (70, .getfield 78, 3), (73, .iload_n 1, 1), (74, .baload, 1), (75, .ifCond .eq 7, 3), (78, .iconst 1, 1), (79, .goto 4, 3), (82, .iconst 0, 1), (83, .ireturn, 1), (84, .aload_n 0, 1), (85, .getfield 10, 3), (88, .getfield 71, 3), (91, .iload_n 1, 1), (92, .iaload, 1), (93, .sipush 1000, 3), (96, .iadd, 1), (97, .ireturn, 1), (98, .aload_n 0, 1), (99, .getfield 10, 3), (102, .getfield 75, 3), (105, .iload_n 1, 1), (106, .iaload, 1), (107, .sipush 1000, 3), (110, .iadd, 1), (111, .ireturn, 1), (112, .aload_n 0, 1), (113, .getfield 40, 3), (116, .aload_n 0, 1), (117, .getfield 10, 3), (120, .iload_n 1, 1), (121, .invokevirtual 157, 3), (124, .aload_n 0, 1), (125, .getfield 40, 3), (128, .getfield 161, 3), (131, .ireturn, 1), (132, .aload_n 0, 1), (133, .iload_n 1, 1), (134, .invokevirtual 162, 3), (137, .ireturn, 1), (138, .aload_n 0, 1), (139, .getfield 10, 3), (142, .getfield 100, 3), (145, .iload_n 1, 1), (146, .invokevirtual 165, 3), (149, .ireturn, 1), (150, .bipush (-2), 2), (152, .ireturn, 1)]
theorem dX6_ear : decs cX6_ear lX6_ear = true := by decide +kernel
abbrev lX6_clock : List (Nat × Instr × Nat) := [(0, .aload_n 0, 1), (1, .getfield 10, 3), (4, .iload_n 1, 1), (5, .invokevirtual 67, 3), (8, .ifCond .ne 5, 3), (11, .iconst (-1), 1), (12, .ireturn, 1), (13, .iload_n 2, 1), (14, .iconst 0, 1), (15, .ldc 168, 2), (17, .invokestatic 51, 3), (20, .ifCond .ne 6, 3), (23, .bipush (-2), 2), (25, .ireturn, 1), (26, .aload_n 0, 1), (27, .getfield 10, 3), (30, .iload_n 1, 1), (31, .iload_n 2, 1), (32, .invokevirtual 169, 3), (35, .sipush 10000, 3), (38, .iadd, 1), (39, .ireturn, 1)]
theorem dX6_clock : decs cX6_clock lX6_clock = true := by decide +kernel
abbrev lX6_mark : List (Nat × Instr × Nat) := [(0, .aload_n 0, 1), (1, .getfield 10, 3), (4, .iload_n 1, 1), (5, .invokevirtual 67, 3), (8, .ifCond .ne 5, 3), (11, .iconst (-1), 1), (12, .ireturn, 1), (13, .iload_n 2, 1), (14, .ifCond .lt 12, 3), (17, .iload_n 3, 1), (18, .iconst 0, 1), (19, .iconst 2, 1), (20, .invokestatic 51, 3), (23, .ifCond .ne 6, 3), (26, .bipush (-2), 2), (28, .ireturn, 1), (29, .aload_n 0, 1), (30, .getfield 40, 3), (33, .aload_n 0, 1), (34, .getfield 10, 3), (37, .iload_n 1, 1), (38, .invokevirtual 157, 3), (41, .iload_n 2, 1), (42, .aload_n 0, 1), (43, .getfield 40, 3), (46, .getfield 161, 3), (49, .if_icmp .lt 6, 3), (52, .bipush (-5), 2), (54, .ireturn, 1), (55, .iload_n 3, 1), (56, .ifCond .ne 17, 3), (59, .aload_n 0, 1), (60, .getfield 40, 3), (63, .getfield 173, 3), (66, .iload_n 2, 1), (67, .iaload, 1), (68, .sipush 10000, 3), (71, .iadd, 1), (72, .ireturn, 1), (73, .iload_n 3, 1), (74, .iconst 1, 1), (75, .if_icmp .ne 19, 3), (78, .aload_n 0, 1), (79, .getfield 40, 3), (82, .getfield 176, 3), (85, .iload_n 2, 1), (86, .iaload, 1), (87, .sipush 10000, 3), (90, .iadd, 1), (91, .goto 12, 3), (94, .aload_n 0, 1), (95, .getfield 40, 3), (98, .getfield 179, 3), (101, .iload_n 2, 1), (102, .iaload, 1), (103, .ireturn, 1)]
theorem dX6_mark : decs cX6_mark lX6_mark = true := by decide +kernel
abbrev lX6_error : List (Nat × Instr × Nat) := [(0, .aload_n 0, 1), (1, .getfield 10, 3), (4, .iload_n 1, 1), (5, .invokevirtual 67, 3), (8, .ifCond .ne 8, 3), (11, .iconst (-1), 1), (12, .invokestatic 181, 3), (15, .lreturn, 1), (16, .iload_n 2, 1), (17, .sipush (-10000), 3), (20, .ldc 185, 2), (22, .invokestatic 51, 3), (25, .ifCond .ne 9, 3), (28, .bipush (-2), 2), (30, .invokestatic 181, 3), (33, .lreturn, 1), (34, .aload_n 0, 1), (35, .getfield 40, 3), (38, .aload_n 0, 1), (39, .getfield 10, 3), (42, .iload_n 1, 1), (43, .invokevirtual 157, 3), (46, .aload_n 0, 1), (47, .getfield 40, 3), (50, .iload_n 2, 1), (51, .invokevirtual 186, 3), (54, .lreturn, 1)]
theorem dX6_error : decs cX6_error lX6_error = true := by decide +kernel
abbrev lX6_stalest : List (Nat × Instr × Nat) := [(0, .bipush (-5), 2), (2, .istore_n 1, 1), (3, .bipush 10, 2), (5, .istore_n 2, 1), (6, .iconst 0, 1), (7, .istore_n 3, 1), (8, .iload_n 3, 1), (9, .aload_n 0, 1), (10, .getfield 10, 3), (13, .getfield 55, 3), (16, .if_icmp .ge 41, 3), (19, .aload_n 0, 1), (20, .getfield 40, 3), (23, .aload_n 0, 1), (24, .getfield 10, 3), (27, .iload_n 3, 1), (28, .invokevirtual 157, 3), (31, .aload_n 0, 1), (32, .getfield 40, 3), (35, .invokevirtual 189, 3), (38, .istore 4, 2), (40, .iload 4, 2), (42, .iload_n 2, 1), (43, .if_icmp .ge 8, 3), (46, .iload 4, 2), (48, .istore_n 2, 1), (49, .iload_n 3, 1), (50, .istore_n 1, 1), (51, .iinc 3 1, 3), (54, .goto (-46), 3), (57, .iload_n 1, 1), (58, .ireturn, 1)]
theorem dX6_stalest : decs cX6_stalest lX6_stalest = true := by decide +kernel
abbrev lX6_heard : List (Nat × Instr × Nat) := [(0, .iload_n 1, 1), (1, .ifCond .eq 13, 3), (4, .aload_n 0, 1), (5, .getfield 10, 3), (8, .getfield 100, 3), (11, .goto 10, 3), (14, .aload_n 0, 1), (15, .getfield 10, 3), (18, .getfield 92, 3), (21, .astore 4, 2), (23, .aload 4, 2), (25, .iload_n 2, 1), (26, .invokevirtual 103, 3), (29, .ifCond .eq 14, 3), (32, .aload_n 0, 1), (33, .getfield 10, 3), (36, .iload_n 3, 1), (37, .invokevirtual 67, 3), (40, .ifCond .ne 5, 3), (43, .iconst (-1), 1), (44, .ireturn, 1), (45, .aload 4, 2), (47, .getfield 192, 3), (50, .iload_n 2, 1), (51, .aaload, 1), (52, .iload_n 3, 1), (53, .iaload, 1), (54, .istore 5, 2), (56, .iload 5, 2), (58, .ldc 195, 2), (60, .if_icmp .ne 8, 3), (63, .bipush (-5), 2), (65, .goto 9, 3), (68, .iload 5, 2), (70, .sipush 10000, 3), (73, .iadd, 1), (74, .ireturn, 1)]
theorem dX6_heard : decs cX6_heard lX6_heard = true := by decide +kernel
abbrev lX6_putRight : List (Nat × Instr × Nat) := [(0, .aload_n 0, 1), (1, .getfield 10, 3), (4, .getfield 100, 3), (7, .iload_n 1, 1), (8, .invokevirtual 103, 3), (11, .ifCond .eq 14, 3), (14, .aload_n 0, 1), (15, .getfield 10, 3), (18, .iload_n 2, 1), (19, .invokevirtual 67, 3), (22, .ifCond .ne 8, 3), (25, .iconst (-1), 1), (26, .invokestatic 181, 3), (29, .lreturn, 1), (30, .aload_n 0, 1), (31, .getfield 10, 3), (34, .getfield 100, 3), (37, .getfield 192, 3), (40, .iload_n 1, 1), (41, .aaload, 1), (42, .iload_n 2, 1), (43, .iaload, 1), (44, .istore_n 3, 1), (45, .iload_n 3, 1), (46, .ldc 195, 2), (48, .if_icmp .ne 9, 3), (51, .bipush (-5), 2), (53, .invokestatic 181, 3), (56, .lreturn, 1), (57, .aload_n 0, 1), (58, .getfield 40, 3), (61, .aload_n 0, 1), (62, .getfield 10, 3), (65, .iload_n 2, 1), (66, .invokevirtual 157, 3), (69, .aload_n 0, 1), (70, .getfield 40, 3), (73, .iload_n 3, 1), (74, .invokevirtual 196, 3), (77, .lreturn, 1)]
theorem dX6_putRight : decs cX6_putRight lX6_putRight = true := by decide +kernel
abbrev lX6_found : List (Nat × Instr × Nat) := [(0, .aload_n 0, 1), (1, .getfield 10, 3), (4, .getfield 100, 3), (7, .iload_n 1, 1), (8, .invokevirtual 103, 3), (11, .ifCond .ne 8, 3), (14, .iconst (-1), 1), (15, .invokestatic 181, 3), (18, .lreturn, 1), (19, .iload_n 2, 1), (20, .iconst 0, 1), (21, .iconst 5, 1), (22, .invokestatic 51, 3), (25, .ifCond .ne 9, 3), (28, .bipush (-2), 2), (30, .invokestatic 181, 3), (33, .lreturn, 1), (34, .aload_n 0, 1), (35, .getfield 47, 3), (38, .aload_n 0, 1), (39, .getfield 10, 3), (42, .iload_n 1, 1), (43, .aload_n 0, 1), (44, .getfield 40, 3), (47, .invokevirtual 199, 3), (50, .iload_n 2, 1), (51, .iconst 3, 1), (52, .if_icmp .ne 12, 3), (55, .aload_n 0, 1), (56, .getfield 47, 3), (59, .getfield 203, 3), (62, .i2l, 1), (63, .lreturn, 1), (64, .aload_n 0, 1), (65, .getfield 47, 3), (68, .getfield 203, 3), (71, .iconst 2, 1), (72, .if_icmp .ge 9, 3), (75, .bipush (-4), 2), (77, .invokestatic 181, 3), (80, .lreturn, 1), (81, .aload_n 0, 1), (82, .getfield 47, 3), (85, .invokevirtual 204, 3), (88, .iload_n 2, 1), (89, .tableswitch 83 0 4 #[35, 44, 52, 83, 60], 35), (124, .aload_n 0, 1), (125, .getfield 47, 3), (128, .getfield 207, 3), (131, .i2l, 1), (132, .lreturn, 1), (133, .aload_n 0, 1), (134, .getfield 47, 3), (137, .invokevirtual 210, 3), (140, .lreturn, 1), (141, .aload_n 0, 1), (142, .getfield 47, 3), (145, .invokevirtual 214, 3), (148, .lreturn, 1), (149, .aload_n 0, 1), (150, .getfield 47, 3), (153, .aload_n 0, 1), (154, .getfield 10, 3), (157, .getfield 217, 3), (160, .invokevirtual 220, 3), (163, .ifCond .eq 7, 3), (166, .lconst 1, 1), (167, .goto 4, 3), (170, .lconst 0, 1), (171, .lreturn, 1), (172, .aload_n 0, 1), (173, .getfield 47, 3), (176, .invokevirtual 223, 3), (179, .i2l, 1), (180, .lreturn, 1)]
theorem dX6_found : decs cX6_found lX6_found = true := by decide +kernel
abbrev lX6_spread : List (Nat × Instr × Nat) := [(0, .aload_n 0, 1), (1, .getfield 10, 3), (4, .getfield 100, 3), (7, .iload_n 1, 1), (8, .invokevirtual 103, 3), (11, .ifCond .ne 8, 3), (14, .iconst (-1), 1), (15, .invokestatic 181, 3), (18, .lreturn, 1), (19, .iload_n 2, 1), (20, .iconst 0, 1), (21, .sipush 1000, 3), (24, .invokestatic 51, 3), (27, .ifCond .ne 9, 3), (30, .bipush (-2), 2), (32, .invokestatic 181, 3), (35, .lreturn, 1), (36, .aload_n 0, 1), (37, .getfield 47, 3), (40, .aload_n 0, 1), (41, .getfield 10, 3), (44, .iload_n 1, 1), (45, .aload_n 0, 1), (46, .getfield 40, 3), (49, .invokevirtual 199, 3), (52, .aload_n 0, 1), (53, .getfield 47, 3), (56, .getfield 203, 3), (59, .iconst 2, 1), (60, .if_icmp .ge 9, 3), (63, .bipush (-4), 2), (65, .invokestatic 181, 3), (68, .lreturn, 1), (69, .aload_n 0, 1), (70, .getfield 47, 3), (73, .iload_n 2, 1), (74, .invokevirtual 226, 3), (77, .aload_n 0, 1), (78, .getfield 47, 3), (81, .invokevirtual 214, 3), (84, .lreturn, 1)]
theorem dX6_spread : decs cX6_spread lX6_spread = true := by decide +kernel
abbrev lX6_truth : List (Nat × Instr × Nat) := [(0, .aload_n 0, 1), (1, .getfield 10, 3), (4, .getfield 100, 3), (7, .iload_n 1, 1), (8, .invokevirtual 103, 3), (11, .ifCond .ne 5, 3), (14, .iconst (-1), 1), (15, .ireturn, 1), (16, .iload_n 2, 1), (17, .tableswitch 59 0 2 #[27, 40, 53], 27), (44, .aload_n 0, 1), (45, .getfield 10, 3), (48, .getfield 100, 3), (51, .getfield 230, 3), (54, .iload_n 1, 1), (55, .iaload, 1), (56, .ireturn, 1), (57, .aload_n 0, 1), (58, .getfield 10, 3), (61, .getfield 100, 3), (64, .getfield 231, 3), (67, .iload_n 1, 1), (68, .iaload, 1), (69, .ireturn, 1), (70, .aload_n 0, 1), (71, .iload_n 1, 1), (72, .invokevirtual 232, 3), (75, .ireturn, 1), (76, .bipush (-2), 2), (78, .ireturn, 1)]
theorem dX6_truth : decs cX6_truth lX6_truth = true := by decide +kernel
abbrev lX6_count : List (Nat × Instr × Nat) := [(0, .iload_n 1, 1), (1, .tableswitch 173 0 10 #[59, 67, 78, 89, 97, 105, 113, 131, 152, 157, 165], 59), (60, .aload_n 0, 1), (61, .getfield 10, 3), (64, .getfield 55, 3), (67, .ireturn, 1), (68, .aload_n 0, 1), (69, .getfield 10, 3), (72, .getfield 92, 3), (75, .getfield 111, 3), (78, .ireturn, 1), (79, .aload_n 0, 1), (80, .getfield 10, 3), (83, .getfield 100, 3), (86, .getfield 111, 3), (89, .ireturn, 1), (90, .aload_n 0, 1), (91, .getfield 10, 3), (94, .getfield 235, 3), (97, .ireturn, 1), (98, .aload_n 0, 1), (99, .getfield 10, 3), (102, .getfield 217, 3), (105, .ireturn, 1), (106, .aload_n 0, 1), (107, .getfield 10, 3), (110, .getfield 238, 3), (113, .ireturn, 1), (114, .aload_n 0, 1), (115, .getfield 10, 3), (118, .getfield 78, 3), (121, .aload_n 0, 1), (122, .getfield 10, 3), (125, .getfield 55, 3), (128, .invokestatic 241, 3), (131, .ireturn, 1), (132, .aload_n 0, 1), (133, .getfield 10, 3), (136, .getfield 108, 3), (139, .aload_n 0, 1), (140, .getfield 10, 3), (143, .getfield 92, 3), (146, .getfield 111, 3), (149, .invokestatic 241, 3), (152, .ireturn, 1), (153, .aload_n 0, 1), (154, .invokevirtual 245, 3), (157, .ireturn, 1), (158, .aload_n 0, 1), (159, .getfield 26, 3), (162, .getfield 146, 3), (165, .ireturn, 1), (166, .aload_n 0, 1), (167, .getfield 33, 3), (170, .getfield 139, 3), (173, .ireturn, 1), (174, .bipush (-2), 2), (176, .ireturn, 1)]
theorem dX6_count : decs cX6_count lX6_count = true := by decide +kernel
abbrev lX6_isWithin : List (Nat × Instr × Nat) := [(0, .iload_n 0, 1), (1, .iload_n 1, 1), (2, .if_icmp .lt 12, 3), (5, .iload_n 0, 1), (6, .iload_n 2, 1), (7, .if_icmp .gt 7, 3), (10, .iconst 1, 1), (11, .goto 4, 3), (14, .iconst 0, 1), (15, .ireturn, 1)]
theorem dX6_isWithin : decs cX6_isWithin lX6_isWithin = true := by decide +kernel
abbrev lX6_longError : List (Nat × Instr × Nat) := [(0, .ldc2_w 248, 3), (3, .iload_n 0, 1), (4, .i2l, 1), (5, .lsub, 1), (6, .lreturn, 1)]
theorem dX6_longError : decs cX6_longError lX6_longError = true := by decide +kernel
abbrev lX6_countFlags : List (Nat × Instr × Nat) := [(0, .iconst 0, 1), (1, .istore_n 2, 1), (2, .iconst 0, 1), (3, .istore_n 3, 1), (4, .iload_n 3, 1), (5, .iload_n 1, 1), (6, .if_icmp .ge 18, 3), (9, .aload_n 0, 1), (10, .iload_n 3, 1), (11, .baload, 1), (12, .ifCond .eq 6, 3), (15, .iinc 2 1, 3), (18, .iinc 3 1, 3), (21, .goto (-17), 3), (24, .iload_n 2, 1), (25, .ireturn, 1)]
theorem dX6_countFlags : decs cX6_countFlags lX6_countFlags = true := by decide +kernel
abbrev lX6_flag : List (Nat × Instr × Nat) := [(0, .aload_n 1, 1), (1, .iload_n 3, 1), (2, .baload, 1), (3, .iload 4, 2), (5, .if_icmp .ne 6, 3), (8, .bipush (-5), 2), (10, .ireturn, 1), (11, .aload_n 0, 1), (12, .getfield 26, 3), (15, .aload_n 0, 1), (16, .getfield 10, 3), (19, .invokevirtual 59, 3), (22, .aload_n 1, 1), (23, .iload_n 3, 1), (24, .iload 4, 2), (26, .bastore, 1), (27, .aload_n 1, 1), (28, .iload_n 2, 1), (29, .invokestatic 241, 3), (32, .ireturn, 1)]
theorem dX6_flag : decs cX6_flag lX6_flag = true := by decide +kernel
abbrev lX6_setPace : List (Nat × Instr × Nat) := [(0, .iload_n 1, 1), (1, .iconst 1, 1), (2, .bipush 20, 2), (4, .invokestatic 51, 3), (7, .ifCond .ne 6, 3), (10, .bipush (-2), 2), (12, .ireturn, 1), (13, .aload_n 0, 1), (14, .getfield 10, 3), (17, .getfield 235, 3), (20, .istore_n 2, 1), (21, .iload_n 1, 1), (22, .iload_n 2, 1), (23, .if_icmp .ne 6, 3), (26, .bipush (-5), 2), (28, .ireturn, 1), (29, .aload_n 0, 1), (30, .getfield 26, 3), (33, .aload_n 0, 1), (34, .getfield 10, 3), (37, .invokevirtual 59, 3), (40, .aload_n 0, 1), (41, .getfield 10, 3), (44, .iload_n 1, 1), (45, .putfield 235, 3), (48, .iload_n 2, 1), (49, .ireturn, 1)]
theorem dX6_setPace : decs cX6_setPace lX6_setPace = true := by decide +kernel
abbrev lX6_setTolerance : List (Nat × Instr × Nat) := [(0, .iload_n 1, 1), (1, .iconst 0, 1), (2, .sipush 500, 3), (5, .invokestatic 51, 3), (8, .ifCond .ne 6, 3), (11, .bipush (-2), 2), (13, .ireturn, 1), (14, .aload_n 0, 1), (15, .getfield 10, 3), (18, .getfield 217, 3), (21, .istore_n 2, 1), (22, .iload_n 1, 1), (23, .iload_n 2, 1), (24, .if_icmp .ne 6, 3), (27, .bipush (-5), 2), (29, .ireturn, 1), (30, .aload_n 0, 1), (31, .getfield 26, 3), (34, .aload_n 0, 1), (35, .getfield 10, 3), (38, .invokevirtual 59, 3), (41, .aload_n 0, 1), (42, .getfield 10, 3), (45, .iload_n 1, 1), (46, .putfield 217, 3), (49, .iload_n 2, 1), (50, .ireturn, 1)]
theorem dX6_setTolerance : decs cX6_setTolerance lX6_setTolerance = true := by decide +kernel
abbrev lX6_makeSound : List (Nat × Instr × Nat) := [(0, .iload_n 2, 1), (1, .iload_n 3, 1), (2, .iload 4, 2), (4, .aload_n 0, 1), (5, .getfield 10, 3), (8, .getfield 238, 3), (11, .aload_n 1, 1), (12, .getfield 111, 3), (15, .invokestatic 250, 3), (18, .istore 5, 2), (20, .iload 5, 2), (22, .ifCond .eq 6, 3), (25, .iload 5, 2), (27, .ireturn, 1), (28, .aload_n 0, 1), (29, .getfield 26, 3), (32, .aload_n 0, 1), (33, .getfield 10, 3), (36, .invokevirtual 59, 3), (39, .aload_n 0, 1), (40, .getfield 10, 3), (43, .aload_n 1, 1), (44, .iload_n 2, 1), (45, .iload_n 3, 1), (46, .iload 4, 2), (48, .invokevirtual 136, 3), (51, .ireturn, 1)]
theorem dX6_makeSound : decs cX6_makeSound lX6_makeSound = true := by decide +kernel
abbrev lX6_refusal : List (Nat × Instr × Nat) := [(0, .iload_n 0, 1), (1, .iconst 0, 1), (2, .sipush 1000, 3), (5, .invokestatic 51, 3), (8, .ifCond .eq 24, 3), (11, .iload_n 1, 1), (12, .iconst 0, 1), (13, .ldc 254, 2), (15, .invokestatic 51, 3), (18, .ifCond .eq 14, 3), (21, .iload_n 2, 1), (22, .iconst 1, 1), (23, .sipush 1000, 3), (26, .invokestatic 51, 3), (29, .ifCond .ne 6, 3), (32, .bipush (-2), 2), (34, .ireturn, 1), (35, .iload_n 1, 1), (36, .iload_n 3, 1), (37, .if_icmp .ge 6, 3), (40, .bipush (-4), 2), (42, .ireturn, 1), (43, .iload 4, 2), (45, .bipush 10, 2), (47, .if_icmp .lt 8, 3), (50, .bipush (-3), 2), (52, .goto 4, 3), (55, .iconst 0, 1), (56, .ireturn, 1)]
theorem dX6_refusal : decs cX6_refusal lX6_refusal = true := by decide +kernel
abbrev lX6_refusalOfOrders : List (Nat × Instr × Nat) := [(0, .aload_n 0, 1), (1, .getfield 10, 3), (4, .getfield 92, 3), (7, .getfield 111, 3), (10, .istore_n 1, 1), (11, .aload_n 0, 1), (12, .getfield 10, 3), (15, .getfield 100, 3), (18, .getfield 111, 3), (21, .istore_n 2, 1), (22, .aload_n 0, 1), (23, .getfield 10, 3), (26, .getfield 238, 3), (29, .istore_n 3, 1), (30, .iconst 0, 1), (31, .istore 4, 2), (33, .iload 4, 2), (35, .aload_n 0, 1), (36, .getfield 33, 3), (39, .getfield 121, 3), (42, .if_icmp .ge 108, 3), (45, .aload_n 0, 1), (46, .getfield 33, 3), (49, .getfield 124, 3), (52, .iload 4, 2), (54, .baload, 1), (55, .ifCond .eq 7, 3), (58, .iload_n 1, 1), (59, .goto 4, 3), (62, .iload_n 2, 1), (63, .istore 5, 2), (65, .aload_n 0, 1), (66, .getfield 33, 3), (69, .getfield 127, 3), (72, .iload 4, 2), (74, .iaload, 1), (75, .aload_n 0, 1), (76, .getfield 33, 3), (79, .getfield 130, 3), (82, .iload 4, 2), (84, .iaload, 1), (85, .aload_n 0, 1), (86, .getfield 33, 3), (89, .getfield 133, 3), (92, .iload 4, 2), (94, .iaload, 1), (95, .iload_n 3, 1), (96, .iload 5, 2), (98, .invokestatic 250, 3), (101, .istore 6, 2), (103, .iload 6, 2), (105, .ifCond .eq 6, 3), (108, .iload 6, 2), (110, .ireturn, 1), (111, .aload_n 0, 1), (112, .getfield 33, 3), (115, .getfield 124, 3), (118, .iload 4, 2), (120, .baload, 1), (121, .ifCond .eq 9, 3), (124, .iinc 1 1, 3), (127, .goto 6, 3), (130, .iinc 2 1, 3), (133, .aload_n 0, 1), (134, .getfield 33, 3), (137, .getfield 130, 3), (140, .iload 4, 2), (142, .iaload, 1), (143, .istore_n 3, 1), (144, .iinc 4 1, 3), (147, .goto (-114), 3), (150, .iconst 0, 1), (151, .ireturn, 1)]
theorem dX6_refusalOfOrders : decs cX6_refusalOfOrders lX6_refusalOfOrders = true := by decide +kernel
abbrev lX6_latestReading : List (Nat × Instr × Nat) := [(0, .aload_n 0, 1), (1, .getfield 40, 3), (4, .aload_n 0, 1), (5, .getfield 10, 3), (8, .iload_n 1, 1), (9, .invokevirtual 157, 3), (12, .aload_n 0, 1), (13, .getfield 40, 3), (16, .getfield 161, 3), (19, .ifCond .ne 8, 3), (22, .bipush (-5), 2), (24, .goto 24, 3), (27, .aload_n 0, 1), (28, .getfield 40, 3), (31, .getfield 173, 3), (34, .aload_n 0, 1), (35, .getfield 40, 3), (38, .getfield 161, 3), (41, .iconst 1, 1), (42, .isub, 1), (43, .iaload, 1), (44, .sipush 10000, 3), (47, .iadd, 1), (48, .ireturn, 1)]
theorem dX6_latestReading : decs cX6_latestReading lX6_latestReading = true := by decide +kernel
abbrev lX6_missOf : List (Nat × Instr × Nat) := [(0, .aload_n 0, 1), (1, .getfield 47, 3), (4, .aload_n 0, 1), (5, .getfield 10, 3), (8, .iload_n 1, 1), (9, .aload_n 0, 1), (10, .getfield 40, 3), (13, .invokevirtual 199, 3), (16, .aload_n 0, 1), (17, .getfield 47, 3), (20, .getfield 203, 3), (23, .iconst 2, 1), (24, .if_icmp .ge 6, 3), (27, .bipush (-4), 2), (29, .ireturn, 1), (30, .aload_n 0, 1), (31, .getfield 47, 3), (34, .invokevirtual 204, 3), (37, .aload_n 0, 1), (38, .getfield 47, 3), (41, .getfield 207, 3), (44, .aload_n 0, 1), (45, .getfield 10, 3), (48, .getfield 100, 3), (51, .getfield 230, 3), (54, .iload_n 1, 1), (55, .iaload, 1), (56, .isub, 1), (57, .invokestatic 255, 3), (60, .ireturn, 1)]
theorem dX6_missOf : decs cX6_missOf lX6_missOf = true := by decide +kernel
abbrev lX6_countFitting : List (Nat × Instr × Nat) := [(0, .iconst 0, 1), (1, .istore_n 1, 1), (2, .iconst 0, 1), (3, .istore_n 2, 1), (4, .iload_n 2, 1), (5, .aload_n 0, 1), (6, .getfield 10, 3), (9, .getfield 100, 3), (12, .getfield 111, 3), (15, .if_icmp .ge 63, 3), (18, .aload_n 0, 1), (19, .getfield 47, 3), (22, .aload_n 0, 1), (23, .getfield 10, 3), (26, .iload_n 2, 1), (27, .aload_n 0, 1), (28, .getfield 40, 3), (31, .invokevirtual 199, 3), (34, .aload_n 0, 1), (35, .getfield 47, 3), (38, .getfield 203, 3), (41, .iconst 2, 1), (42, .if_icmp .lt 30, 3), (45, .aload_n 0, 1), (46, .getfield 47, 3), (49, .invokevirtual 204, 3), (52, .aload_n 0, 1), (53, .getfield 47, 3), (56, .aload_n 0, 1), (57, .getfield 10, 3), (60, .getfield 217, 3), (63, .invokevirtual 220, 3), (66, .ifCond .eq 6, 3), (69, .iinc 1 1, 3), (72, .iinc 2 1, 3), (75, .goto (-71), 3), (78, .iload_n 1, 1), (79, .ireturn, 1)]
theorem dX6_countFitting : decs cX6_countFitting lX6_countFitting = true := by decide +kernel
abbrev lJ9_floorDiv_7cf53 : List (Nat × Instr × Nat) := [(0, .iload_n 0, 1), (1, .iload_n 1, 1), (2, .idiv, 1), (3, .istore_n 2, 1), (4, .iload_n 0, 1), (5, .iload_n 1, 1), (6, .ixor, 1), (7, .ifCond .ge 14, 3), (10, .iload_n 2, 1), (11, .iload_n 1, 1), (12, .imul, 1), (13, .iload_n 0, 1), (14, .if_icmp .eq 7, 3), (17, .iload_n 2, 1), (18, .iconst 1, 1), (19, .isub, 1), (20, .ireturn, 1), (21, .iload_n 2, 1), (22, .ireturn, 1)]
theorem dJ9_floorDiv_7cf53 : decs cJ9_floorDiv_7cf53 lJ9_floorDiv_7cf53 = true := by decide +kernel
abbrev lJ9_floorDiv_f86c9 : List (Nat × Instr × Nat) := [(0, .lload_n 0, 1), (1, .lload_n 2, 1), (2, .ldiv, 1), (3, .lstore 4, 2), (5, .lload_n 0, 1), (6, .lload_n 2, 1), (7, .lxor, 1), (8, .lconst 0, 1), (9, .lcmp, 1), (10, .ifCond .ge 17, 3), (13, .lload 4, 2), (15, .lload_n 2, 1), (16, .lmul, 1), (17, .lload_n 0, 1), (18, .lcmp, 1), (19, .ifCond .eq 8, 3), (22, .lload 4, 2), (24, .lconst 1, 1), (25, .lsub, 1), (26, .lreturn, 1), (27, .lload 4, 2), (29, .lreturn, 1)]
theorem dJ9_floorDiv_f86c9 : decs cJ9_floorDiv_f86c9 lJ9_floorDiv_f86c9 = true := by decide +kernel
abbrev lJ9_abs_0f7a4 : List (Nat × Instr × Nat) := [(0, .iload_n 0, 1), (1, .ifCond .ge 8, 3), (4, .iload_n 0, 1), (5, .ineg, 1), (6, .goto 4, 3), (9, .iload_n 0, 1), (10, .ireturn, 1)]
theorem dJ9_abs_0f7a4 : decs cJ9_abs_0f7a4 lJ9_abs_0f7a4 = true := by decide +kernel
abbrev lJ9_abs_067f4 : List (Nat × Instr × Nat) := [(0, .lload_n 0, 1), (1, .lconst 0, 1), (2, .lcmp, 1), (3, .ifCond .ge 8, 3), (6, .lload_n 0, 1), (7, .lneg, 1), (8, .goto 4, 3), (11, .lload_n 0, 1), (12, .lreturn, 1)]
theorem dJ9_abs_067f4 : decs cJ9_abs_067f4 lJ9_abs_067f4 = true := by decide +kernel
abbrev lJ9_max_f86c9 : List (Nat × Instr × Nat) := [(0, .lload_n 0, 1), (1, .lload_n 2, 1), (2, .lcmp, 1), (3, .ifCond .lt 7, 3), (6, .lload_n 0, 1), (7, .goto 4, 3), (10, .lload_n 2, 1), (11, .lreturn, 1)]
theorem dJ9_max_f86c9 : decs cJ9_max_f86c9 lJ9_max_f86c9 = true := by decide +kernel
abbrev lJ9_min_7cf53 : List (Nat × Instr × Nat) := [(0, .iload_n 0, 1), (1, .iload_n 1, 1), (2, .if_icmp .gt 7, 3), (5, .iload_n 0, 1), (6, .goto 4, 3), (9, .iload_n 1, 1), (10, .ireturn, 1)]
theorem dJ9_min_7cf53 : decs cJ9_min_7cf53 lJ9_min_7cf53 = true := by decide +kernel
abbrev lJ9_min_f86c9 : List (Nat × Instr × Nat) := [(0, .lload_n 0, 1), (1, .lload_n 2, 1), (2, .lcmp, 1), (3, .ifCond .gt 7, 3), (6, .lload_n 0, 1), (7, .goto 4, 3), (10, .lload_n 2, 1), (11, .lreturn, 1)]
theorem dJ9_min_f86c9 : decs cJ9_min_f86c9 lJ9_min_f86c9 = true := by decide +kernel
abbrev lL_cell : List (Nat × Instr × Nat) := [(0, .iload_n 1, 1), (1, .aload_n 0, 1), (2, .arraylength, 1), (3, .if_icmp .ge 9, 3), (6, .aload_n 0, 1), (7, .iload_n 1, 1), (8, .iaload, 1), (9, .goto 11, 3), (12, .ldc 7, 2), (14, .iload_n 1, 1), (15, .imul, 1), (16, .sipush 14503, 3), (19, .iadd, 1), (20, .ireturn, 1)]
theorem dL_cell : decs cL_cell lL_cell = true := by decide +kernel
abbrev lL_low : List (Nat × Instr × Nat) := [(0, .iload_n 0, 1), (1, .ldc 8, 2), (3, .iand, 1), (4, .iload_n 1, 1), (5, .irem, 1), (6, .ireturn, 1)]
theorem dL_low : decs cL_low lL_low = true := by decide +kernel
abbrev lL_down : List (Nat × Instr × Nat) := [(0, .lload_n 0, 1), (1, .lload_n 2, 1), (2, .ldiv, 1), (3, .lstore 4, 2), (5, .lload 4, 2), (7, .lload_n 2, 1), (8, .lmul, 1), (9, .lload_n 0, 1), (10, .lcmp, 1), (11, .ifCond .le 10, 3), (14, .lload 4, 2), (16, .lconst 1, 1), (17, .lsub, 1), (18, .goto 5, 3), (21, .lload 4, 2), (23, .lreturn, 1)]
theorem dL_down : decs cL_down lL_down = true := by decide +kernel
abbrev lL_far : List (Nat × Instr × Nat) := [(0, .iload_n 0, 1), (1, .iload_n 1, 1), (2, .if_icmp .ge 9, 3), (5, .iload_n 1, 1), (6, .iload_n 0, 1), (7, .isub, 1), (8, .goto 6, 3), (11, .iload_n 0, 1), (12, .iload_n 1, 1), (13, .isub, 1), (14, .ireturn, 1)]
theorem dL_far : decs cL_far lL_far = true := by decide +kernel
abbrev lL_reads : List (Nat × Instr × Nat) := [(0, .iload_n 2, 1), (1, .aload_n 0, 1), (2, .iload_n 1, 1), (3, .iconst 2, 1), (4, .invokevirtual 9, 3), (7, .iadd, 1), (8, .sipush 1000, 3), (11, .isub, 1), (12, .aload_n 0, 1), (13, .iload_n 1, 1), (14, .iconst 3, 1), (15, .invokevirtual 9, 3), (18, .sipush 1000, 3), (21, .isub, 1), (22, .i2l, 1), (23, .iload_n 2, 1), (24, .i2l, 1), (25, .lmul, 1), (26, .ldc2_w 15, 3), (29, .invokestatic 17, 3), (32, .l2i, 1), (33, .iadd, 1), (34, .ireturn, 1)]
theorem dL_reads : decs cL_reads lL_reads = true := by decide +kernel
abbrev lL_marks : List (Nat × Instr × Nat) := [(0, .iconst 0, 1), (1, .istore_n 3, 1), (2, .iconst 0, 1), (3, .istore 4, 2), (5, .iconst 0, 1), (6, .istore 5, 2), (8, .iload 5, 2), (10, .aload_n 0, 1), (11, .iconst 1, 1), (12, .invokevirtual 23, 3), (15, .if_icmp .ge 143, 3), (18, .aload_n 0, 1), (19, .iconst 0, 1), (20, .iload 5, 2), (22, .iload_n 2, 1), (23, .invokevirtual 27, 3), (26, .istore 6, 2), (28, .iload 6, 2), (30, .bipush (-5), 2), (32, .if_icmp .eq 120, 3), (35, .aload_n 1, 1), (36, .iconst 4, 1), (37, .iload 5, 2), (39, .imul, 1), (40, .iconst 3, 1), (41, .iadd, 1), (42, .iaload, 1), (43, .iconst 1, 1), (44, .if_icmp .eq 108, 3), (47, .iload_n 3, 1), (48, .ifCond .le 13, 3), (51, .iload 6, 2), (53, .iload 4, 2), (55, .if_icmp .gt 6, 3), (58, .goto 94, 3), (61, .iload 6, 2), (63, .sipush 10000, 3), (66, .isub, 1), (67, .aload_n 1, 1), (68, .iconst 4, 1), (69, .iload 5, 2), (71, .imul, 1), (72, .iconst 1, 1), (73, .iadd, 1), (74, .iaload, 1), (75, .isub, 1), (76, .aload_n 1, 1), (77, .iconst 4, 1), (78, .iload 5, 2), (80, .imul, 1), (81, .iconst 2, 1), (82, .iadd, 1), (83, .iaload, 1), (84, .aload_n 1, 1), (85, .iconst 4, 1), (86, .iload 5, 2), (88, .imul, 1), (89, .iaload, 1), (90, .aload_n 0, 1), (91, .iload_n 2, 1), (92, .iconst 0, 1), (93, .invokevirtual 9, 3), (96, .invokestatic 31, 3), (99, .imul, 1), (100, .isub, 1), (101, .istore 7, 2), (103, .aload_n 0, 1), (104, .iload_n 2, 1), (105, .iload_n 3, 1), (106, .iconst 0, 1), (107, .invokevirtual 34, 3), (110, .iload 6, 2), (112, .if_icmp .ne 31, 3), (115, .aload_n 0, 1), (116, .iload_n 2, 1), (117, .iload_n 3, 1), (118, .iconst 1, 1), (119, .invokevirtual 34, 3), (122, .iload 7, 2), (124, .sipush 10000, 3), (127, .iadd, 1), (128, .if_icmp .ne 15, 3), (131, .aload_n 0, 1), (132, .iload_n 2, 1), (133, .iload_n 3, 1), (134, .iconst 2, 1), (135, .invokevirtual 34, 3), (138, .iload 5, 2), (140, .if_icmp .eq 5, 3), (143, .iconst 0, 1), (144, .ireturn, 1), (145, .iload 6, 2), (147, .istore 4, 2), (149, .iinc 3 1, 3), (152, .iinc 5 1, 3), (155, .goto (-147), 3), (158, .aload_n 0, 1), (159, .iload_n 2, 1), (160, .iconst 4, 1), (161, .invokevirtual 9, 3), (164, .iload_n 3, 1), (165, .if_icmp .ne 63, 3), (168, .aload_n 0, 1), (169, .iload_n 2, 1), (170, .iconst 5, 1), (171, .invokevirtual 9, 3), (174, .iload_n 3, 1), (175, .ifCond .ne 8, 3), (178, .bipush (-5), 2), (180, .goto 5, 3), (183, .iload 4, 2), (185, .if_icmp .ne 43, 3), (188, .aload_n 0, 1), (189, .iload_n 2, 1), (190, .iload_n 3, 1), (191, .iconst 0, 1), (192, .invokevirtual 34, 3), (195, .bipush (-5), 2), (197, .if_icmp .ne 31, 3), (200, .aload_n 0, 1), (201, .iload_n 2, 1), (202, .iconst (-1), 1), (203, .iconst 0, 1), (204, .invokevirtual 34, 3), (207, .bipush (-2), 2), (209, .if_icmp .ne 19, 3), (212, .aload_n 0, 1), (213, .iload_n 2, 1), (214, .bipush 7, 2), (216, .invokevirtual 9, 3), (219, .bipush (-2), 2), (221, .if_icmp .ne 7, 3), (224, .iconst 1, 1), (225, .goto 4, 3), (228, .iconst 0, 1), (229, .ireturn, 1)]
theorem dL_marks : decs cL_marks lL_marks = true := by decide +kernel
abbrev lL_error : List (Nat × Instr × Nat) := [(0, .aload_n 0, 1), (1, .iload_n 1, 1), (2, .iconst 4, 1), (3, .invokevirtual 9, 3), (6, .istore_n 3, 1), (7, .iload_n 3, 1), (8, .ifCond .ne 5, 3), (11, .lconst 0, 1), (12, .lreturn, 1), (13, .iload_n 3, 1), (14, .iconst 1, 1), (15, .if_icmp .ne 20, 3), (18, .ldc2_w 38, 3), (21, .aload_n 0, 1), (22, .iload_n 1, 1), (23, .iconst 0, 1), (24, .iconst 1, 1), (25, .invokevirtual 34, 3), (28, .sipush 10000, 3), (31, .isub, 1), (32, .i2l, 1), (33, .lmul, 1), (34, .lreturn, 1), (35, .iconst (-1), 1), (36, .istore 4, 2), (38, .iconst 0, 1), (39, .istore 5, 2), (41, .iload 5, 2), (43, .iload_n 3, 1), (44, .if_icmp .ge 34, 3), (47, .aload_n 0, 1), (48, .iload_n 1, 1), (49, .iload 5, 2), (51, .iconst 0, 1), (52, .invokevirtual 34, 3), (55, .sipush 10000, 3), (58, .isub, 1), (59, .iload_n 2, 1), (60, .if_icmp .gt 8, 3), (63, .iload 5, 2), (65, .goto 5, 3), (68, .iload 4, 2), (70, .istore 4, 2), (72, .iinc 5 1, 3), (75, .goto (-34), 3), (78, .iload 4, 2), (80, .ifCond .ge 7, 3), (83, .iconst 0, 1), (84, .goto 19, 3), (87, .iload 4, 2), (89, .iload_n 3, 1), (90, .iconst 1, 1), (91, .isub, 1), (92, .if_icmp .ne 9, 3), (95, .iload_n 3, 1), (96, .iconst 2, 1), (97, .isub, 1), (98, .goto 5, 3), (101, .iload 4, 2), (103, .istore 5, 2), (105, .aload_n 0, 1), (106, .iload_n 1, 1), (107, .iload 5, 2), (109, .iconst 0, 1), (110, .invokevirtual 34, 3), (113, .sipush 10000, 3), (116, .isub, 1), (117, .istore 6, 2), (119, .aload_n 0, 1), (120, .iload_n 1, 1), (121, .iload 5, 2), (123, .iconst 1, 1), (124, .iadd, 1), (125, .iconst 0, 1), (126, .invokevirtual 34, 3), (129, .sipush 10000, 3), (132, .isub, 1), (133, .istore 7, 2), (135, .aload_n 0, 1), (136, .iload_n 1, 1), (137, .iload 5, 2), (139, .iconst 1, 1), (140, .invokevirtual 34, 3), (143, .sipush 10000, 3), (146, .isub, 1), (147, .i2l, 1), (148, .lstore 8, 2), (150, .aload_n 0, 1), (151, .iload_n 1, 1), (152, .iload 5, 2), (154, .iconst 1, 1), (155, .iadd, 1), (156, .iconst 1, 1), (157, .invokevirtual 34, 3), (160, .sipush 10000, 3), (163, .isub, 1), (164, .i2l, 1), (165, .lstore 10, 2), (167, .ldc2_w 38, 3), (170, .lload 8, 2), (172, .lmul, 1), (173, .ldc2_w 38, 3), (176, .lload 10, 2), (178, .lload 8, 2), (180, .lsub, 1), (181, .lmul, 1), (182, .iload_n 2, 1), (183, .iload 6, 2), (185, .isub, 1), (186, .i2l, 1), (187, .lmul, 1), (188, .iload 7, 2), (190, .iload 6, 2), (192, .isub, 1), (193, .i2l, 1), (194, .invokestatic 17, 3), (197, .ladd, 1), (198, .lreturn, 1)]
theorem dL_error : decs cL_error lL_error = true := by decide +kernel
abbrev lL_ears : List (Nat × Instr × Nat) := [(0, .aload_n 0, 1), (1, .iconst 0, 1), (2, .invokevirtual 23, 3), (5, .istore_n 3, 1), (6, .iconst 0, 1), (7, .istore 4, 2), (9, .bipush (-5), 2), (11, .istore 5, 2), (13, .bipush 99, 2), (15, .istore 6, 2), (17, .iconst 0, 1), (18, .istore 7, 2), (20, .iload 7, 2), (22, .iload_n 3, 1), (23, .if_icmp .ge 162, 3), (26, .aload_n 0, 1), (27, .aload_n 1, 1), (28, .iload 7, 2), (30, .invokestatic 40, 3), (33, .ifCond .ne 5, 3), (36, .iconst 0, 1), (37, .ireturn, 1), (38, .iload_n 2, 1), (39, .ldc 44, 2), (41, .invokestatic 45, 3), (44, .sipush 2000, 3), (47, .isub, 1), (48, .istore 8, 2), (50, .aload_n 0, 1), (51, .iload 7, 2), (53, .iload 8, 2), (55, .invokevirtual 48, 3), (58, .aload_n 0, 1), (59, .iload 7, 2), (61, .iload 8, 2), (63, .invokestatic 52, 3), (66, .lcmp, 1), (67, .ifCond .ne 34, 3), (70, .aload_n 0, 1), (71, .iload 7, 2), (73, .iload_n 2, 1), (74, .ldc 55, 2), (76, .invokestatic 45, 3), (79, .invokevirtual 56, 3), (82, .aload_n 0, 1), (83, .iload 7, 2), (85, .iload_n 2, 1), (86, .ldc 55, 2), (88, .invokestatic 45, 3), (91, .invokestatic 59, 3), (94, .sipush 10000, 3), (97, .iadd, 1), (98, .if_icmp .eq 5, 3), (101, .iconst 0, 1), (102, .ireturn, 1), (103, .aload_n 0, 1), (104, .iload 7, 2), (106, .iconst 4, 1), (107, .invokevirtual 9, 3), (110, .ifCond .ne 7, 3), (113, .iconst (-1), 1), (114, .goto 19, 3), (117, .aload_n 0, 1), (118, .iload 7, 2), (120, .aload_n 0, 1), (121, .iload 7, 2), (123, .iconst 4, 1), (124, .invokevirtual 9, 3), (127, .iconst 1, 1), (128, .isub, 1), (129, .iconst 2, 1), (130, .invokevirtual 34, 3), (133, .istore 9, 2), (135, .iload 9, 2), (137, .iload 6, 2), (139, .if_icmp .ge 8, 3), (142, .iload 7, 2), (144, .goto 5, 3), (147, .iload 5, 2), (149, .istore 5, 2), (151, .iload 9, 2), (153, .iload 6, 2), (155, .if_icmp .ge 8, 3), (158, .iload 9, 2), (160, .goto 5, 3), (163, .iload 6, 2), (165, .istore 6, 2), (167, .iload 4, 2), (169, .aload_n 0, 1), (170, .iload 7, 2), (172, .iconst 1, 1), (173, .invokevirtual 9, 3), (176, .iadd, 1), (177, .istore 4, 2), (179, .iinc 7 1, 3), (182, .goto (-162), 3), (185, .aload_n 0, 1), (186, .invokevirtual 63, 3), (189, .iload 5, 2), (191, .if_icmp .ne 59, 3), (194, .aload_n 0, 1), (195, .bipush 6, 2), (197, .invokevirtual 23, 3), (200, .iload 4, 2), (202, .if_icmp .ne 48, 3), (205, .aload_n 0, 1), (206, .iload_n 3, 1), (207, .iconst 0, 1), (208, .invokevirtual 9, 3), (211, .iconst (-1), 1), (212, .if_icmp .ne 38, 3), (215, .aload_n 0, 1), (216, .iload_n 3, 1), (217, .iconst 0, 1), (218, .invokevirtual 48, 3), (221, .ldc2_w 67, 3), (224, .lcmp, 1), (225, .ifCond .ne 25, 3), (228, .iload_n 3, 1), (229, .ifCond .eq 17, 3), (232, .aload_n 0, 1), (233, .iconst 0, 1), (234, .ldc 69, 2), (236, .invokevirtual 48, 3), (239, .ldc2_w 70, 3), (242, .lcmp, 1), (243, .ifCond .ne 7, 3), (246, .iconst 1, 1), (247, .goto 4, 3), (250, .iconst 0, 1), (251, .ireturn, 1)]
theorem dL_ears : decs cL_ears lL_ears = true := by decide +kernel
abbrev lL_knock_0 : List (Nat × Instr × Nat) := [(0, .iconst 0, 1), (1, .istore 4, 2), (3, .iconst 0, 1), (4, .istore 5, 2), (6, .iload 5, 2), (8, .aload_n 0, 1), (9, .iconst 0, 1), (10, .invokevirtual 23, 3), (13, .if_icmp .ge 82, 3), (16, .aload_n 0, 1), (17, .iconst 1, 1), (18, .iload_n 1, 1), (19, .iload 5, 2), (21, .invokevirtual 27, 3), (24, .istore 6, 2), (26, .iload 6, 2), (28, .bipush (-5), 2), (30, .if_icmp .ne 19, 3), (33, .aload_n 0, 1), (34, .iload_n 1, 1), (35, .iload 5, 2), (37, .invokevirtual 72, 3), (40, .ldc2_w 75, 3), (43, .lcmp, 1), (44, .ifCond .eq 45, 3), (47, .iconst 0, 1), (48, .ireturn, 1), (49, .iinc 4 1, 3), (52, .aload_n 0, 1), (53, .iload_n 1, 1), (54, .iload 5, 2), (56, .invokevirtual 72, 3), (59, .ldc2_w 38, 3), (62, .iload 6, 2), (64, .sipush 10000, 3), (67, .isub, 1), (68, .i2l, 1), (69, .lmul, 1), (70, .aload_n 0, 1), (71, .iload 5, 2)]
theorem dL_knock_0 : decs cL_knock lL_knock_0 = true := by decide +kernel
abbrev lL_knock_1 : List (Nat × Instr × Nat) := [(73, .iload 6, 2), (75, .sipush 10000, 3), (78, .isub, 1), (79, .invokestatic 52, 3), (82, .lsub, 1), (83, .lcmp, 1), (84, .ifCond .eq 5, 3), (87, .iconst 0, 1), (88, .ireturn, 1), (89, .iinc 5 1, 3), (92, .goto (-86), 3), (95, .aload_n 0, 1), (96, .iload_n 1, 1), (97, .iconst 3, 1), (98, .invokevirtual 77, 3), (101, .iload 4, 2), (103, .i2l, 1), (104, .lcmp, 1), (105, .ifCond .ne 17, 3), (108, .aload_n 0, 1), (109, .iload_n 1, 1), (110, .bipush 6, 2), (112, .invokevirtual 77, 3), (115, .ldc2_w 70, 3), (118, .lcmp, 1), (119, .ifCond .eq 5, 3), (122, .iconst 0, 1), (123, .ireturn, 1), (124, .iload 4, 2), (126, .iconst 2, 1), (127, .if_icmp .ge 46, 3), (130, .aload_n 0, 1), (131, .iload_n 1, 1), (132, .iconst 0, 1), (133, .invokevirtual 77, 3), (136, .ldc2_w 80, 3), (139, .lcmp, 1), (140, .ifCond .ne 31, 3), (143, .aload_n 0, 1), (144, .iload_n 1, 1)]
theorem dL_knock_1 : decs cL_knock lL_knock_1 = true := by decide +kernel
abbrev lL_knock_2 : List (Nat × Instr × Nat) := [(145, .iconst 0, 1), (146, .invokevirtual 82, 3), (149, .ldc2_w 80, 3), (152, .lcmp, 1), (153, .ifCond .ne 18, 3), (156, .aload_n 0, 1), (157, .iload_n 1, 1), (158, .iconst 2, 1), (159, .invokevirtual 85, 3), (162, .bipush (-4), 2), (164, .if_icmp .ne 7, 3), (167, .iconst 1, 1), (168, .goto 4, 3), (171, .iconst 0, 1), (172, .ireturn, 1), (173, .aload_n 0, 1), (174, .iload_n 1, 1), (175, .iconst 0, 1), (176, .invokevirtual 77, 3), (179, .l2i, 1), (180, .istore 5, 2), (182, .aload_n 0, 1), (183, .iload_n 1, 1), (184, .iconst 2, 1), (185, .invokevirtual 77, 3), (188, .lstore 6, 2), (190, .iconst 0, 1), (191, .istore 8, 2), (193, .iload 8, 2), (195, .bipush 12, 2), (197, .if_icmp .ge 99, 3), (200, .iload 8, 2), (202, .iconst 4, 1), (203, .if_icmp .ge 25, 3), (206, .iload 5, 2), (208, .iconst 2, 1), (209, .isub, 1), (210, .iload 8, 2), (212, .iadd, 1), (213, .iload 8, 2)]
theorem dL_knock_2 : decs cL_knock lL_knock_2 = true := by decide +kernel
abbrev lL_knock_3 : List (Nat × Instr × Nat) := [(215, .iconst 1, 1), (216, .if_icmp .le 7, 3), (219, .iconst 1, 1), (220, .goto 4, 3), (223, .iconst 0, 1), (224, .iadd, 1), (225, .goto 13, 3), (228, .iload_n 3, 1), (229, .iload 8, 2), (231, .ishr, 1), (232, .sipush 1001, 3), (235, .invokestatic 45, 3), (238, .istore 9, 2), (240, .iload 9, 2), (242, .ifCond .lt 48, 3), (245, .iload 9, 2), (247, .sipush 1000, 3), (250, .if_icmp .le 6, 3), (253, .goto 37, 3), (256, .aload_n 0, 1), (257, .iload_n 1, 1), (258, .iload 9, 2), (260, .invokevirtual 82, 3), (263, .lstore 10, 2), (265, .lload 10, 2), (267, .lload 6, 2), (269, .lcmp, 1), (270, .ifCond .lt 18, 3), (273, .lload 10, 2), (275, .lload 6, 2), (277, .lcmp, 1), (278, .ifCond .ne 12, 3), (281, .iload 9, 2), (283, .iload 5, 2), (285, .if_icmp .ge 5, 3), (288, .iconst 0, 1), (289, .ireturn, 1), (290, .iinc 8 1, 3), (293, .goto (-100), 3), (296, .ldc2_w 88, 3)]
theorem dL_knock_3 : decs cL_knock lL_knock_3 = true := by decide +kernel
abbrev lL_knock_4 : List (Nat × Instr × Nat) := [(299, .lstore 8, 2), (301, .ldc2_w 67, 3), (304, .lstore 10, 2), (306, .iconst 0, 1), (307, .istore 12, 2), (309, .iload 12, 2), (311, .aload_n 0, 1), (312, .iconst 0, 1), (313, .invokevirtual 23, 3), (316, .if_icmp .ge 86, 3), (319, .aload_n 0, 1), (320, .iconst 1, 1), (321, .iload_n 1, 1), (322, .iload 12, 2), (324, .invokevirtual 27, 3), (327, .bipush (-5), 2), (329, .if_icmp .eq 67, 3), (332, .aload_n 0, 1), (333, .iload_n 1, 1), (334, .iload 12, 2), (336, .invokevirtual 72, 3), (339, .ldc2_w 38, 3), (342, .iload_n 2, 1), (343, .i2l, 1), (344, .lmul, 1), (345, .iload 5, 2), (347, .aload_n 0, 1), (348, .iload 12, 2), (350, .iconst 0, 1), (351, .invokevirtual 9, 3), (354, .invokestatic 31, 3), (357, .i2l, 1), (358, .lmul, 1), (359, .lsub, 1), (360, .lstore 13, 2), (362, .lload 13, 2), (364, .lload 8, 2), (366, .lcmp, 1), (367, .ifCond .ge 8, 3), (370, .lload 13, 2)]
theorem dL_knock_4 : decs cL_knock lL_knock_4 = true := by decide +kernel
abbrev lL_knock_5 : List (Nat × Instr × Nat) := [(372, .goto 5, 3), (375, .lload 8, 2), (377, .lstore 8, 2), (379, .lload 13, 2), (381, .lload 10, 2), (383, .lcmp, 1), (384, .ifCond .le 8, 3), (387, .lload 13, 2), (389, .goto 5, 3), (392, .lload 10, 2), (394, .lstore 10, 2), (396, .iinc 12 1, 3), (399, .goto (-90), 3), (402, .lload 8, 2), (404, .lload 10, 2), (406, .ladd, 1), (407, .ldc2_w 90, 3), (410, .invokestatic 17, 3), (413, .lstore 12, 2), (415, .iconst (-1), 1), (416, .istore 14, 2), (418, .ldc2_w 92, 3), (421, .lstore 15, 2), (423, .iconst 0, 1), (424, .istore 17, 2), (426, .iload 17, 2), (428, .aload_n 0, 1), (429, .iconst 0, 1), (430, .invokevirtual 23, 3), (433, .if_icmp .ge 106, 3), (436, .aload_n 0, 1), (437, .iconst 1, 1), (438, .iload_n 1, 1), (439, .iload 17, 2), (441, .invokevirtual 27, 3), (444, .bipush (-5), 2), (446, .if_icmp .eq 87, 3), (449, .aload_n 0, 1), (450, .iload_n 1, 1), (451, .iload 17, 2)]
theorem dL_knock_5 : decs cL_knock lL_knock_5 = true := by decide +kernel
abbrev lL_knock_6 : List (Nat × Instr × Nat) := [(453, .invokevirtual 72, 3), (456, .ldc2_w 38, 3), (459, .iload_n 2, 1), (460, .i2l, 1), (461, .lmul, 1), (462, .iload 5, 2), (464, .aload_n 0, 1), (465, .iload 17, 2), (467, .iconst 0, 1), (468, .invokevirtual 9, 3), (471, .invokestatic 31, 3), (474, .i2l, 1), (475, .lmul, 1), (476, .lsub, 1), (477, .lload 12, 2), (479, .lsub, 1), (480, .lstore 18, 2), (482, .lload 18, 2), (484, .lconst 0, 1), (485, .lcmp, 1), (486, .ifCond .ge 9, 3), (489, .lload 18, 2), (491, .lneg, 1), (492, .goto 5, 3), (495, .lload 18, 2), (497, .lstore 18, 2), (499, .lload 18, 2), (501, .lload 15, 2), (503, .lcmp, 1), (504, .ifCond .le 8, 3), (507, .iload 17, 2), (509, .goto 5, 3), (512, .iload 14, 2), (514, .istore 14, 2), (516, .lload 18, 2), (518, .lload 15, 2), (520, .lcmp, 1), (521, .ifCond .le 8, 3), (524, .lload 18, 2), (526, .goto 5, 3)]
theorem dL_knock_6 : decs cL_knock lL_knock_6 = true := by decide +kernel
abbrev lL_knock_7 : List (Nat × Instr × Nat) := [(529, .lload 15, 2), (531, .lstore 15, 2), (533, .iinc 17 1, 3), (536, .goto (-110), 3), (539, .lload 10, 2), (541, .lload 8, 2), (543, .lsub, 1), (544, .lload 6, 2), (546, .lcmp, 1), (547, .ifCond .ne 64, 3), (550, .aload_n 0, 1), (551, .iload_n 1, 1), (552, .iconst 1, 1), (553, .invokevirtual 77, 3), (556, .lload 12, 2), (558, .lcmp, 1), (559, .ifCond .ne 52, 3), (562, .aload_n 0, 1), (563, .iload_n 1, 1), (564, .iconst 4, 1), (565, .invokevirtual 77, 3), (568, .lload 6, 2), (570, .ldc2_w 38, 3), (573, .aload_n 0, 1), (574, .iconst 4, 1), (575, .invokevirtual 23, 3), (578, .i2l, 1), (579, .lmul, 1), (580, .lcmp, 1), (581, .ifCond .gt 7, 3), (584, .iconst 1, 1), (585, .goto 4, 3), (588, .iconst 0, 1), (589, .i2l, 1), (590, .lcmp, 1), (591, .ifCond .ne 20, 3), (594, .aload_n 0, 1), (595, .iload_n 1, 1), (596, .iconst 5, 1), (597, .invokevirtual 77, 3)]
theorem dL_knock_7 : decs cL_knock lL_knock_7 = true := by decide +kernel
abbrev lL_knock_8 : List (Nat × Instr × Nat) := [(600, .iload 14, 2), (602, .i2l, 1), (603, .lcmp, 1), (604, .ifCond .ne 7, 3), (607, .iconst 1, 1), (608, .goto 4, 3), (611, .iconst 0, 1), (612, .istore 17, 2), (614, .iload 17, 2), (616, .ifCond .eq 55, 3), (619, .aload_n 0, 1), (620, .iload_n 1, 1), (621, .iload 5, 2), (623, .invokevirtual 82, 3), (626, .lload 6, 2), (628, .lcmp, 1), (629, .ifCond .ne 42, 3), (632, .aload_n 0, 1), (633, .iload_n 1, 1), (634, .iconst 2, 1), (635, .invokevirtual 85, 3), (638, .iload 5, 2), (640, .aload_n 0, 1), (641, .iload_n 1, 1), (642, .iconst 0, 1), (643, .invokevirtual 85, 3), (646, .invokestatic 31, 3), (649, .if_icmp .ne 22, 3), (652, .aload_n 0, 1), (653, .iload_n 1, 1), (654, .sipush 1001, 3), (657, .invokevirtual 82, 3), (660, .ldc2_w 70, 3), (663, .lcmp, 1), (664, .ifCond .ne 7, 3), (667, .iconst 1, 1), (668, .goto 4, 3), (671, .iconst 0, 1), (672, .ireturn, 1)]
theorem dL_knock_8 : decs cL_knock lL_knock_8 = true := by decide +kernel
abbrev lL_come_0 : List (Nat × Instr × Nat) := [(0, .iload_n 3, 1), (1, .iconst 2, 1), (2, .invokestatic 45, 3), (5, .ifCond .ne 7, 3), (8, .iconst 1, 1), (9, .goto 4, 3), (12, .iconst 0, 1), (13, .istore 5, 2), (15, .iload 4, 2), (17, .sipush 1001, 3), (20, .invokestatic 45, 3), (23, .istore 6, 2), (25, .aload_n 0, 1), (26, .iconst 5, 1), (27, .invokevirtual 23, 3), (30, .iload_n 3, 1), (31, .iconst 1, 1), (32, .ishr, 1), (33, .sipush 3000, 3), (36, .invokestatic 45, 3), (39, .iadd, 1), (40, .bipush 100, 2), (42, .isub, 1), (43, .istore 7, 2), (45, .iload_n 3, 1), (46, .iconst 4, 1), (47, .ishr, 1), (48, .iconst 3, 1), (49, .invokestatic 45, 3), (52, .ifCond .ne 18, 3), (55, .iconst 1, 1), (56, .iload 4, 2), (58, .iconst 3, 1), (59, .ishr, 1), (60, .sipush 1000, 3), (63, .invokestatic 45, 3), (66, .iadd, 1), (67, .goto 6, 3), (70, .sipush 1000, 3), (73, .istore 8, 2)]
theorem dL_come_0 : decs cL_come lL_come_0 = true := by decide +kernel
abbrev lL_come_1 : List (Nat × Instr × Nat) := [(75, .aload_n 0, 1), (76, .iload 5, 2), (78, .ifCond .eq 7, 3), (81, .iconst 2, 1), (82, .goto 4, 3), (85, .iconst 1, 1), (86, .invokevirtual 23, 3), (89, .istore 9, 2), (91, .iload 7, 2), (93, .ifCond .lt 10, 3), (96, .iload 7, 2), (98, .ldc 94, 2), (100, .if_icmp .le 7, 3), (103, .iconst 1, 1), (104, .goto 4, 3), (107, .iconst 0, 1), (108, .istore 10, 2), (110, .iload 5, 2), (112, .ifCond .eq 16, 3), (115, .aload_n 0, 1), (116, .iload 6, 2), (118, .iload 7, 2), (120, .iload 8, 2), (122, .invokevirtual 95, 3), (125, .goto 13, 3), (128, .aload_n 0, 1), (129, .iload 6, 2), (131, .iload 7, 2), (133, .iload 8, 2), (135, .invokevirtual 98, 3), (138, .istore 11, 2), (140, .iload 10, 2), (142, .ifCond .ne 20, 3), (145, .iload 7, 2), (147, .aload_n 0, 1), (148, .iconst 5, 1), (149, .invokevirtual 23, 3), (152, .if_icmp .lt 10, 3), (155, .iload 9, 2), (157, .bipush 10, 2)]
theorem dL_come_1 : decs cL_come lL_come_1 = true := by decide +kernel
abbrev lL_come_2 : List (Nat × Instr × Nat) := [(159, .if_icmp .ne 38, 3), (162, .iload 11, 2), (164, .iload 10, 2), (166, .ifCond .eq 8, 3), (169, .bipush (-2), 2), (171, .goto 17, 3), (174, .iload 11, 2), (176, .bipush (-3), 2), (178, .if_icmp .ne 8, 3), (181, .bipush (-3), 2), (183, .goto 5, 3), (186, .bipush (-4), 2), (188, .if_icmp .ne 7, 3), (191, .iconst 1, 1), (192, .goto 4, 3), (195, .iconst 0, 1), (196, .ireturn, 1), (197, .iconst 0, 1), (198, .istore 12, 2), (200, .iconst 0, 1), (201, .istore 13, 2), (203, .iload 13, 2), (205, .aload_n 0, 1), (206, .iconst 0, 1), (207, .invokevirtual 23, 3), (210, .if_icmp .ge 108, 3), (213, .iload 6, 2), (215, .aload_n 0, 1), (216, .iload 13, 2), (218, .iconst 0, 1), (219, .invokevirtual 9, 3), (222, .invokestatic 31, 3), (225, .istore 14, 2), (227, .aload_n 0, 1), (228, .iload 13, 2), (230, .iconst 1, 1), (231, .invokevirtual 9, 3), (234, .ifCond .ne 14, 3), (237, .iload 14, 2), (239, .iload 8, 2)]
theorem dL_come_2 : decs cL_come lL_come_2 = true := by decide +kernel
abbrev lL_come_3 : List (Nat × Instr × Nat) := [(241, .if_icmp .gt 7, 3), (244, .iconst 1, 1), (245, .goto 4, 3), (248, .iconst 0, 1), (249, .istore 15, 2), (251, .iload 12, 2), (253, .iload 15, 2), (255, .ifCond .eq 7, 3), (258, .iconst 1, 1), (259, .goto 4, 3), (262, .iconst 0, 1), (263, .iadd, 1), (264, .istore 12, 2), (266, .aload_n 0, 1), (267, .iload 5, 2), (269, .iload 9, 2), (271, .iload 13, 2), (273, .invokevirtual 27, 3), (276, .iload 15, 2), (278, .ifCond .eq 27, 3), (281, .aload_n 0, 1), (282, .iload 13, 2), (284, .iload 7, 2), (286, .aload_n 0, 1), (287, .iconst 3, 1), (288, .invokevirtual 23, 3), (291, .iload 14, 2), (293, .imul, 1), (294, .iadd, 1), (295, .invokestatic 59, 3), (298, .sipush 10000, 3), (301, .iadd, 1), (302, .goto 5, 3), (305, .bipush (-5), 2), (307, .if_icmp .eq 5, 3), (310, .iconst 0, 1), (311, .ireturn, 1), (312, .iinc 13 1, 3), (315, .goto (-112), 3), (318, .iload 5, 2)]
theorem dL_come_3 : decs cL_come lL_come_3 = true := by decide +kernel
abbrev lL_come_4 : List (Nat × Instr × Nat) := [(320, .ifCond .eq 15, 3), (323, .aload_n 2, 1), (324, .iload 9, 2), (326, .aload_n 0, 1), (327, .iconst 3, 1), (328, .invokevirtual 23, 3), (331, .iastore, 1), (332, .goto 43, 3), (335, .aload_n 1, 1), (336, .iconst 4, 1), (337, .iload 9, 2), (339, .imul, 1), (340, .iload 6, 2), (342, .iastore, 1), (343, .aload_n 1, 1), (344, .iconst 4, 1), (345, .iload 9, 2), (347, .imul, 1), (348, .iconst 1, 1), (349, .iadd, 1), (350, .iload 7, 2), (352, .iastore, 1), (353, .aload_n 1, 1), (354, .iconst 4, 1), (355, .iload 9, 2), (357, .imul, 1), (358, .iconst 2, 1), (359, .iadd, 1), (360, .aload_n 0, 1), (361, .iconst 3, 1), (362, .invokevirtual 23, 3), (365, .iastore, 1), (366, .aload_n 1, 1), (367, .iconst 4, 1), (368, .iload 9, 2), (370, .imul, 1), (371, .iconst 3, 1), (372, .iadd, 1), (373, .iconst 0, 1), (374, .iastore, 1)]
theorem dL_come_4 : decs cL_come lL_come_4 = true := by decide +kernel
abbrev lL_come_5 : List (Nat × Instr × Nat) := [(375, .iload 11, 2), (377, .iload 12, 2), (379, .if_icmp .ne 46, 3), (382, .aload_n 0, 1), (383, .iconst 5, 1), (384, .invokevirtual 23, 3), (387, .iload 7, 2), (389, .if_icmp .ne 36, 3), (392, .iload 5, 2), (394, .ifCond .eq 27, 3), (397, .aload_n 0, 1), (398, .iload 9, 2), (400, .iconst 0, 1), (401, .invokevirtual 85, 3), (404, .iload 6, 2), (406, .if_icmp .ne 19, 3), (409, .aload_n 0, 1), (410, .iload 9, 2), (412, .iconst 1, 1), (413, .invokevirtual 85, 3), (416, .iload 7, 2), (418, .if_icmp .ne 7, 3), (421, .iconst 1, 1), (422, .goto 4, 3), (425, .iconst 0, 1), (426, .ireturn, 1)]
theorem dL_come_5 : decs cL_come lL_come_5 = true := by decide +kernel
abbrev lL_acts_0 : List (Nat × Instr × Nat) := [(0, .aload_n 0, 1), (1, .iconst 0, 1), (2, .invokevirtual 23, 3), (5, .istore 5, 2), (7, .iload 4, 2), (9, .iload 5, 2), (11, .iconst 1, 1), (12, .iadd, 1), (13, .invokestatic 45, 3), (16, .istore 6, 2), (18, .iload_n 3, 1), (19, .bipush 9, 2), (21, .invokestatic 45, 3), (24, .tableswitch 576 0 5 #[40, 40, 111, 229, 340, 420], 40), (64, .aload_n 0, 1), (65, .iload 4, 2), (67, .sipush 1001, 3), (70, .invokestatic 45, 3), (73, .invokevirtual 101, 3), (76, .iload 5, 2), (78, .bipush 10, 2), (80, .if_icmp .ne 8, 3), (83, .bipush (-3), 2), (85, .goto 5, 3), (88, .iload 5, 2), (90, .if_icmp .ne 43, 3), (93, .iload 5, 2), (95, .bipush 10, 2), (97, .if_icmp .eq 32, 3), (100, .aload_n 0, 1), (101, .iload 5, 2), (103, .iconst 0, 1), (104, .invokevirtual 9, 3), (107, .iload 4, 2), (109, .sipush 1001, 3), (112, .invokestatic 45, 3), (115, .if_icmp .ne 18, 3), (118, .aload_n 0, 1), (119, .iload 5, 2), (121, .bipush 6, 2)]
theorem dL_acts_0 : decs cL_acts lL_acts_0 = true := by decide +kernel
abbrev lL_acts_1 : List (Nat × Instr × Nat) := [(123, .invokevirtual 9, 3), (126, .ifCond .ne 7, 3), (129, .iconst 1, 1), (130, .goto 4, 3), (133, .iconst 0, 1), (134, .ireturn, 1), (135, .iload 4, 2), (137, .iconst 4, 1), (138, .ishr, 1), (139, .sipush 1001, 3), (142, .invokestatic 45, 3), (145, .sipush 500, 3), (148, .isub, 1), (149, .istore 7, 2), (151, .iload 4, 2), (153, .bipush 8, 2), (155, .ishr, 1), (156, .bipush 101, 2), (158, .invokestatic 45, 3), (161, .bipush 50, 2), (163, .isub, 1), (164, .istore 8, 2), (166, .iload 6, 2), (168, .iload 5, 2), (170, .if_icmp .ge 39, 3), (173, .aload_n 0, 1), (174, .iload 6, 2), (176, .iconst 2, 1), (177, .invokevirtual 9, 3), (180, .iload 7, 2), (182, .sipush 1000, 3), (185, .iadd, 1), (186, .if_icmp .ne 23, 3), (189, .aload_n 0, 1), (190, .iload 6, 2), (192, .iconst 3, 1), (193, .invokevirtual 9, 3), (196, .iload 8, 2), (198, .sipush 1000, 3), (201, .iadd, 1)]
theorem dL_acts_1 : decs cL_acts lL_acts_1 = true := by decide +kernel
abbrev lL_acts_2 : List (Nat × Instr × Nat) := [(202, .if_icmp .ne 7, 3), (205, .iconst 1, 1), (206, .goto 4, 3), (209, .iconst 0, 1), (210, .istore 9, 2), (212, .aload_n 0, 1), (213, .iload 6, 2), (215, .iload 7, 2), (217, .iload 8, 2), (219, .invokevirtual 104, 3), (222, .iload 6, 2), (224, .iload 5, 2), (226, .if_icmp .ne 7, 3), (229, .iconst (-1), 1), (230, .goto 14, 3), (233, .iload 9, 2), (235, .ifCond .eq 8, 3), (238, .bipush (-5), 2), (240, .goto 4, 3), (243, .iconst 1, 1), (244, .if_icmp .ne 7, 3), (247, .iconst 1, 1), (248, .goto 4, 3), (251, .iconst 0, 1), (252, .ireturn, 1), (253, .iload 4, 2), (255, .iconst 4, 1), (256, .ishr, 1), (257, .iconst 3, 1), (258, .invokestatic 45, 3), (261, .ifCond .ne 7, 3), (264, .iconst 1, 1), (265, .goto 4, 3), (268, .iconst 0, 1), (269, .istore 7, 2), (271, .aload_n 0, 1), (272, .bipush 6, 2), (274, .invokevirtual 23, 3), (277, .istore 8, 2), (279, .iload 6, 2)]
theorem dL_acts_2 : decs cL_acts lL_acts_2 = true := by decide +kernel
abbrev lL_acts_3 : List (Nat × Instr × Nat) := [(281, .iload 5, 2), (283, .if_icmp .ge 13, 3), (286, .aload_n 0, 1), (287, .iload 6, 2), (289, .iconst 1, 1), (290, .invokevirtual 9, 3), (293, .goto 4, 3), (296, .iconst 0, 1), (297, .istore 9, 2), (299, .aload_n 0, 1), (300, .iload 6, 2), (302, .iload 7, 2), (304, .invokevirtual 107, 3), (307, .iload 6, 2), (309, .iload 5, 2), (311, .if_icmp .ne 7, 3), (314, .iconst (-1), 1), (315, .goto 40, 3), (318, .iload 9, 2), (320, .iconst 1, 1), (321, .if_icmp .ne 7, 3), (324, .iconst 1, 1), (325, .goto 4, 3), (328, .iconst 0, 1), (329, .iload 7, 2), (331, .if_icmp .ne 8, 3), (334, .bipush (-5), 2), (336, .goto 19, 3), (339, .iload 7, 2), (341, .ifCond .eq 10, 3), (344, .iload 8, 2), (346, .iconst 1, 1), (347, .iadd, 1), (348, .goto 7, 3), (351, .iload 8, 2), (353, .iconst 1, 1), (354, .isub, 1), (355, .if_icmp .ne 7, 3), (358, .iconst 1, 1), (359, .goto 4, 3)]
theorem dL_acts_3 : decs cL_acts lL_acts_3 = true := by decide +kernel
abbrev lL_acts_4 : List (Nat × Instr × Nat) := [(362, .iconst 0, 1), (363, .ireturn, 1), (364, .iload 4, 2), (366, .iconst 2, 1), (367, .invokestatic 45, 3), (370, .istore 7, 2), (372, .iload 7, 2), (374, .ifCond .ne 17, 3), (377, .iconst 1, 1), (378, .iload 4, 2), (380, .iconst 1, 1), (381, .ishr, 1), (382, .bipush 20, 2), (384, .invokestatic 45, 3), (387, .iadd, 1), (388, .goto 13, 3), (391, .iload 4, 2), (393, .iconst 1, 1), (394, .ishr, 1), (395, .sipush 501, 3), (398, .invokestatic 45, 3), (401, .istore 8, 2), (403, .aload_n 0, 1), (404, .iconst 3, 1), (405, .iload 7, 2), (407, .iadd, 1), (408, .invokevirtual 23, 3), (411, .istore 9, 2), (413, .aload_n 0, 1), (414, .iload 7, 2), (416, .iload 8, 2), (418, .invokevirtual 111, 3), (421, .iload 9, 2), (423, .iload 8, 2), (425, .if_icmp .ne 8, 3), (428, .bipush (-5), 2), (430, .goto 5, 3), (433, .iload 9, 2), (435, .if_icmp .ne 7, 3), (438, .iconst 1, 1)]
theorem dL_acts_4 : decs cL_acts lL_acts_4 = true := by decide +kernel
abbrev lL_acts_5 : List (Nat × Instr × Nat) := [(439, .goto 4, 3), (442, .iconst 0, 1), (443, .ireturn, 1), (444, .iload 4, 2), (446, .aload_n 0, 1), (447, .iconst 1, 1), (448, .invokevirtual 23, 3), (451, .iconst 1, 1), (452, .iadd, 1), (453, .invokestatic 45, 3), (456, .istore 7, 2), (458, .iload 4, 2), (460, .iconst 4, 1), (461, .ishr, 1), (462, .iconst 2, 1), (463, .invokestatic 45, 3), (466, .ifCond .ne 7, 3), (469, .iconst 1, 1), (470, .goto 4, 3), (473, .iconst 0, 1), (474, .istore 8, 2), (476, .aload_n 0, 1), (477, .bipush 7, 2), (479, .invokevirtual 23, 3), (482, .istore 9, 2), (484, .aload_n 0, 1), (485, .iload 7, 2), (487, .iload 8, 2), (489, .invokevirtual 114, 3), (492, .istore 10, 2), (494, .iload 7, 2), (496, .aload_n 0, 1), (497, .iconst 1, 1), (498, .invokevirtual 23, 3), (501, .if_icmp .ne 15, 3), (504, .iload 10, 2), (506, .iconst (-1), 1), (507, .if_icmp .ne 7, 3), (510, .iconst 1, 1), (511, .goto 4, 3)]
theorem dL_acts_5 : decs cL_acts lL_acts_5 = true := by decide +kernel
abbrev lL_acts_6 : List (Nat × Instr × Nat) := [(514, .iconst 0, 1), (515, .ireturn, 1), (516, .aload_n 1, 1), (517, .iconst 4, 1), (518, .iload 7, 2), (520, .imul, 1), (521, .iconst 3, 1), (522, .iadd, 1), (523, .iaload, 1), (524, .iconst 1, 1), (525, .if_icmp .ne 7, 3), (528, .iconst 1, 1), (529, .goto 4, 3), (532, .iconst 0, 1), (533, .iload 8, 2), (535, .if_icmp .ne 7, 3), (538, .iconst 1, 1), (539, .goto 4, 3), (542, .iconst 0, 1), (543, .istore 11, 2), (545, .aload_n 1, 1), (546, .iconst 4, 1), (547, .iload 7, 2), (549, .imul, 1), (550, .iconst 3, 1), (551, .iadd, 1), (552, .iload 8, 2), (554, .ifCond .eq 7, 3), (557, .iconst 1, 1), (558, .goto 4, 3), (561, .iconst 0, 1), (562, .iastore, 1), (563, .iload 10, 2), (565, .iload 11, 2), (567, .ifCond .eq 8, 3), (570, .bipush (-5), 2), (572, .goto 19, 3), (575, .iload 8, 2), (577, .ifCond .eq 10, 3), (580, .iload 9, 2)]
theorem dL_acts_6 : decs cL_acts lL_acts_6 = true := by decide +kernel
abbrev lL_acts_7 : List (Nat × Instr × Nat) := [(582, .iconst 1, 1), (583, .iadd, 1), (584, .goto 7, 3), (587, .iload 9, 2), (589, .iconst 1, 1), (590, .isub, 1), (591, .if_icmp .ne 7, 3), (594, .iconst 1, 1), (595, .goto 4, 3), (598, .iconst 0, 1), (599, .ireturn, 1), (600, .aload_n 0, 1), (601, .aload_n 1, 1), (602, .aload_n 2, 1), (603, .iload_n 3, 1), (604, .iconst 4, 1), (605, .ishr, 1), (606, .iload 4, 2), (608, .invokestatic 117, 3), (611, .ireturn, 1)]
theorem dL_acts_7 : decs cL_acts lL_acts_7 = true := by decide +kernel
abbrev lL_errors_0 : List (Nat × Instr × Nat) := [(0, .aload_n 0, 1), (1, .sipush 1001, 3), (4, .invokevirtual 101, 3), (7, .bipush (-2), 2), (9, .if_icmp .ne 199, 3), (12, .aload_n 0, 1), (13, .bipush 10, 2), (15, .iconst 0, 1), (16, .iconst 0, 1), (17, .invokevirtual 104, 3), (20, .iconst (-1), 1), (21, .if_icmp .ne 187, 3), (24, .aload_n 0, 1), (25, .iconst (-1), 1), (26, .iconst 1, 1), (27, .invokevirtual 107, 3), (30, .iconst (-1), 1), (31, .if_icmp .ne 177, 3), (34, .aload_n 0, 1), (35, .iconst 0, 1), (36, .iconst 0, 1), (37, .invokevirtual 111, 3), (40, .bipush (-2), 2), (42, .if_icmp .ne 166, 3), (45, .aload_n 0, 1), (46, .iconst 1, 1), (47, .sipush 501, 3), (50, .invokevirtual 111, 3), (53, .bipush (-2), 2), (55, .if_icmp .ne 153, 3), (58, .aload_n 0, 1), (59, .iconst 2, 1), (60, .iconst 1, 1), (61, .invokevirtual 111, 3), (64, .bipush (-2), 2), (66, .if_icmp .ne 142, 3), (69, .aload_n 0, 1), (70, .iconst 0, 1), (71, .iconst 0, 1), (72, .iconst 0, 1)]
theorem dL_errors_0 : decs cL_errors lL_errors_0 = true := by decide +kernel
abbrev lL_errors_1 : List (Nat × Instr × Nat) := [(73, .invokevirtual 98, 3), (76, .bipush (-2), 2), (78, .if_icmp .ne 130, 3), (81, .aload_n 0, 1), (82, .sipush 1001, 3), (85, .iconst 0, 1), (86, .iconst 1, 1), (87, .invokevirtual 95, 3), (90, .bipush (-2), 2), (92, .if_icmp .ne 116, 3), (95, .aload_n 0, 1), (96, .bipush 10, 2), (98, .iconst 1, 1), (99, .invokevirtual 114, 3), (102, .iconst (-1), 1), (103, .if_icmp .ne 105, 3), (106, .aload_n 0, 1), (107, .bipush 10, 2), (109, .iconst 0, 1), (110, .invokevirtual 56, 3), (113, .iconst (-1), 1), (114, .if_icmp .ne 94, 3), (117, .aload_n 0, 1), (118, .bipush 10, 2), (120, .iconst 0, 1), (121, .iconst 0, 1), (122, .invokevirtual 34, 3), (125, .iconst (-1), 1), (126, .if_icmp .ne 82, 3), (129, .aload_n 0, 1), (130, .iconst 1, 1), (131, .bipush 10, 2), (133, .iconst 0, 1), (134, .invokevirtual 27, 3), (137, .iconst (-1), 1), (138, .if_icmp .ne 70, 3), (141, .aload_n 0, 1), (142, .bipush 10, 2), (144, .iconst 0, 1), (145, .invokevirtual 72, 3)]
theorem dL_errors_1 : decs cL_errors lL_errors_1 = true := by decide +kernel
abbrev lL_errors_2 : List (Nat × Instr × Nat) := [(148, .ldc2_w 67, 3), (151, .lcmp, 1), (152, .ifCond .ne 56, 3), (155, .aload_n 0, 1), (156, .bipush 10, 2), (158, .iconst 0, 1), (159, .invokevirtual 77, 3), (162, .ldc2_w 67, 3), (165, .lcmp, 1), (166, .ifCond .ne 42, 3), (169, .aload_n 0, 1), (170, .iconst (-1), 1), (171, .iconst 0, 1), (172, .invokevirtual 82, 3), (175, .ldc2_w 67, 3), (178, .lcmp, 1), (179, .ifCond .ne 29, 3), (182, .aload_n 0, 1), (183, .bipush 10, 2), (185, .iconst 0, 1), (186, .invokevirtual 85, 3), (189, .iconst (-1), 1), (190, .if_icmp .ne 18, 3), (193, .aload_n 0, 1), (194, .bipush 11, 2), (196, .invokevirtual 23, 3), (199, .bipush (-2), 2), (201, .if_icmp .ne 7, 3), (204, .iconst 1, 1), (205, .goto 4, 3), (208, .iconst 0, 1), (209, .istore_n 1, 1), (210, .aload_n 0, 1), (211, .invokevirtual 121, 3), (214, .pop, 1), (215, .iload_n 1, 1), (216, .ifCond .eq 16, 3), (219, .aload_n 0, 1), (220, .invokevirtual 124, 3), (223, .bipush (-100), 2)]
theorem dL_errors_2 : decs cL_errors lL_errors_2 = true := by decide +kernel
abbrev lL_errors_3 : List (Nat × Instr × Nat) := [(225, .if_icmp .ne 7, 3), (228, .iconst 1, 1), (229, .goto 4, 3), (232, .iconst 0, 1), (233, .istore_n 1, 1), (234, .aload_n 0, 1), (235, .bipush 116, 2), (237, .invokevirtual 127, 3), (240, .pop, 1), (241, .aload_n 0, 1), (242, .bipush 48, 2), (244, .invokevirtual 127, 3), (247, .pop, 1), (248, .aload_n 0, 1), (249, .bipush 53, 2), (251, .invokevirtual 127, 3), (254, .pop, 1), (255, .iload_n 1, 1), (256, .ifCond .eq 24, 3), (259, .aload_n 0, 1), (260, .invokevirtual 124, 3), (263, .bipush (-102), 2), (265, .if_icmp .ne 15, 3), (268, .aload_n 0, 1), (269, .invokevirtual 121, 3), (272, .iconst 3, 1), (273, .if_icmp .ne 7, 3), (276, .iconst 1, 1), (277, .goto 4, 3), (280, .iconst 0, 1), (281, .istore_n 1, 1), (282, .aload_n 0, 1), (283, .bipush 107, 2), (285, .invokevirtual 127, 3), (288, .pop, 1), (289, .aload_n 0, 1), (290, .bipush 53, 2), (292, .invokevirtual 127, 3), (295, .pop, 1), (296, .aload_n 0, 1)]
theorem dL_errors_3 : decs cL_errors lL_errors_3 = true := by decide +kernel
abbrev lL_errors_4 : List (Nat × Instr × Nat) := [(297, .bipush 64, 2), (299, .invokevirtual 127, 3), (302, .pop, 1), (303, .iload_n 1, 1), (304, .ifCond .eq 26, 3), (307, .aload_n 0, 1), (308, .invokevirtual 124, 3), (311, .bipush (-103), 2), (313, .if_icmp .ne 17, 3), (316, .aload_n 0, 1), (317, .bipush 10, 2), (319, .invokevirtual 23, 3), (322, .iconst 3, 1), (323, .if_icmp .ne 7, 3), (326, .iconst 1, 1), (327, .goto 4, 3), (330, .iconst 0, 1), (331, .istore_n 1, 1), (332, .aload_n 0, 1), (333, .bipush 9, 2), (335, .invokevirtual 23, 3), (338, .istore_n 2, 1), (339, .iload_n 1, 1), (340, .ifCond .eq 26, 3), (343, .aload_n 0, 1), (344, .invokevirtual 131, 3), (347, .iload_n 2, 1), (348, .ifCond .le 9, 3), (351, .iload_n 2, 1), (352, .iconst 1, 1), (353, .isub, 1), (354, .goto 5, 3), (357, .bipush (-5), 2), (359, .if_icmp .ne 7, 3), (362, .iconst 1, 1), (363, .goto 4, 3), (366, .iconst 0, 1), (367, .ireturn, 1)]
theorem dL_errors_4 : decs cL_errors lL_errors_4 = true := by decide +kernel
abbrev lL_law : List (Nat × Instr × Nat) := [(0, .new 10, 3), (3, .dup, 1), (4, .invokespecial 134, 3), (7, .astore_n 1, 1), (8, .bipush 40, 2), (10, .newarray .int, 2), (12, .astore_n 2, 1), (13, .bipush 10, 2), (15, .newarray .int, 2), (17, .astore_n 3, 1), (18, .aload_n 1, 1), (19, .bipush 100, 2), (21, .invokevirtual 101, 3), (24, .pop, 1), (25, .aload_n 1, 1), (26, .sipush 800, 3), (29, .invokevirtual 101, 3), (32, .pop, 1), (33, .iconst 0, 1), (34, .istore 4, 2), (36, .iload 4, 2), (38, .bipush 40, 2), (40, .if_icmp .ge 105, 3), (43, .aload_n 0, 1), (44, .iconst 2, 1), (45, .iload 4, 2), (47, .imul, 1), (48, .invokestatic 135, 3), (51, .istore 5, 2), (53, .aload_n 1, 1), (54, .aload_n 2, 1), (55, .aload_n 3, 1), (56, .iload 5, 2), (58, .aload_n 0, 1), (59, .iconst 2, 1), (60, .iload 4, 2), (62, .imul, 1), (63, .iconst 1, 1), (64, .iadd, 1), (65, .invokestatic 135, 3), (68, .invokestatic 139, 3), (71, .ifCond .eq 15, 3), (74, .aload_n 1, 1), (75, .aload_n 2, 1), (76, .iload 5, 2), (78, .iconst 3, 1), (79, .ishr, 1), (80, .invokestatic 142, 3), (83, .ifCond .ne 5, 3), (86, .iconst 0, 1), (87, .ireturn, 1), (88, .iload 4, 2), (90, .iconst 4, 1), (91, .irem, 1), (92, .iconst 3, 1), (93, .if_icmp .ne 46, 3), (96, .aload_n 1, 1), (97, .iconst 2, 1), (98, .invokevirtual 23, 3), (101, .ifCond .le 38, 3), (104, .aload_n 1, 1), (105, .iload 5, 2), (107, .aload_n 1, 1), (108, .iconst 2, 1), (109, .invokevirtual 23, 3), (112, .invokestatic 45, 3), (115, .aload_n 3, 1), (116, .iload 5, 2), (118, .aload_n 1, 1), (119, .iconst 2, 1), (120, .invokevirtual 23, 3), (123, .invokestatic 45, 3), (126, .iaload, 1), (127, .iload 5, 2), (129, .iconst 2, 1), (130, .ishr, 1), (131, .invokestatic 145, 3), (134, .ifCond .ne 5, 3), (137, .iconst 0, 1), (138, .ireturn, 1), (139, .iinc 4 1, 3), (142, .goto (-106), 3), (145, .aload_n 1, 1), (146, .invokestatic 148, 3), (149, .ireturn, 1)]
theorem dL_law : decs cL_law lL_law = true := by decide +kernel
