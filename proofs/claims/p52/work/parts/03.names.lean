/-! ===== BEGIN printed: names, fields, word lists, decode rows ===== -/
def RX0 : String := "NeedleBakery$1"
def TX0 : u_T := fun k => match k with
  | _ => ("", "", "", false)
def tyX0 : Nat → FieldType := fun k => match k with
  | _ => .int
abbrev wsX00 : List Cond := u_ws RX0 TX0 0
theorem nmX0 : ∀ a, a < 0 → ∀ b, b < 0 → a ≠ b → (TX0 a).2.1 ≠ (TX0 b).2.1 := by decide +kernel
theorem tyX0_ok : ∀ k, k < 0 → parseFieldDescriptor (TX0 k).2.2.1 = some (tyX0 k) := by decide +kernel
def RX1 : String := "NeedleBakery$Change"
def TX1 : u_T := fun k => match k with
  | _ => ("", "", "", false)
def tyX1 : Nat → FieldType := fun k => match k with
  | _ => .int
abbrev wsX10 : List Cond := u_ws RX1 TX1 0
theorem nmX1 : ∀ a, a < 0 → ∀ b, b < 0 → a ≠ b → (TX1 a).2.1 ≠ (TX1 b).2.1 := by decide +kernel
theorem tyX1_ok : ∀ k, k < 0 → parseFieldDescriptor (TX1 k).2.2.1 = some (tyX1 k) := by decide +kernel
def RX2 : String := "NeedleBakery$History"
def TX2 : u_T := fun k => match k with
  | 0 => ("NeedleBakery$History", "states", "[LNeedleBakery$State;", true)
  | 1 => ("NeedleBakery$History", "first", "I", false)
  | _ => ("NeedleBakery$History", "count", "I", false)
def tyX2 : Nat → FieldType := fun k => match k with
  | 0 => .array (.object "NeedleBakery$State")
  | 1 => .int
  | _ => .int
abbrev wsX20 : List Cond := u_ws RX2 TX2 3
theorem nmX2 : ∀ a, a < 3 → ∀ b, b < 3 → a ≠ b → (TX2 a).2.1 ≠ (TX2 b).2.1 := by decide +kernel
theorem tyX2_ok : ∀ k, k < 3 → parseFieldDescriptor (TX2 k).2.2.1 = some (tyX2 k) := by decide +kernel
abbrev cX2_init : ByteArray := prog_4_method_1_code
def yX2_init : MethodName := ⟨RX2, "<init>", "()V"⟩
abbrev cX2_prepare : ByteArray := prog_4_method_2_code
def yX2_prepare : MethodName := ⟨RX2, "prepare", "(LNeedleBakery$State;)V"⟩
abbrev cX2_putBack : ByteArray := prog_4_method_3_code
def yX2_putBack : MethodName := ⟨RX2, "putBack", "(LNeedleBakery$State;)V"⟩
abbrev cX2_keepPrepared : ByteArray := prog_4_method_4_code
def yX2_keepPrepared : MethodName := ⟨RX2, "keepPrepared", "()V"⟩
abbrev cX2_takeBack : ByteArray := prog_4_method_5_code
def yX2_takeBack : MethodName := ⟨RX2, "takeBack", "(LNeedleBakery$State;)V"⟩
abbrev cX2_forget : ByteArray := prog_4_method_6_code
def yX2_forget : MethodName := ⟨RX2, "forget", "()V"⟩
def RX3 : String := "NeedleBakery$Needles"
def TX3 : u_T := fun k => match k with
  | 0 => ("NeedleBakery$Needles", "count", "I", false)
  | 1 => ("NeedleBakery$Needles", "tolerance", "I", false)
  | 2 => ("NeedleBakery$Needles", "discarded", "I", false)
  | 3 => ("NeedleBakery$Needles", "strengths", "[I", true)
  | _ => ("NeedleBakery$Needles", "deviations", "[I", true)
def tyX3 : Nat → FieldType := fun k => match k with
  | 0 => .int
  | 1 => .int
  | 2 => .int
  | 3 => .array .int
  | _ => .array .int
abbrev wsX30 : List Cond := u_ws RX3 TX3 5
theorem nmX3 : ∀ a, a < 5 → ∀ b, b < 5 → a ≠ b → (TX3 a).2.1 ≠ (TX3 b).2.1 := by decide +kernel
theorem tyX3_ok : ∀ k, k < 5 → parseFieldDescriptor (TX3 k).2.2.1 = some (tyX3 k) := by decide +kernel
abbrev cX3_init : ByteArray := prog_5_method_1_code
def yX3_init : MethodName := ⟨RX3, "<init>", "()V"⟩
abbrev cX3_copyFrom : ByteArray := prog_5_method_2_code
def yX3_copyFrom : MethodName := ⟨RX3, "copyFrom", "(LNeedleBakery$Needles;)V"⟩
abbrev cX3_has : ByteArray := prog_5_method_3_code
def yX3_has : MethodName := ⟨RX3, "has", "(I)Z"⟩
abbrev cX3_at : ByteArray := prog_5_method_4_code
def yX3_at : MethodName := ⟨RX3, "at", "(II)I"⟩
abbrev cX3_isOut : ByteArray := prog_5_method_5_code
def yX3_isOut : MethodName := ⟨RX3, "isOut", "(I)Z"⟩
abbrev cX3_isTooWide : ByteArray := prog_5_method_6_code
def yX3_isTooWide : MethodName := ⟨RX3, "isTooWide", "(I)Z"⟩
abbrev cX3_countTooWide : ByteArray := prog_5_method_7_code
def yX3_countTooWide : MethodName := ⟨RX3, "countTooWide", "()I"⟩
abbrev cX3_goodSet : ByteArray := prog_5_method_8_code
def yX3_goodSet : MethodName := ⟨RX3, "goodSet", "()I"⟩
abbrev cX3_whyNotAdd : ByteArray := prog_5_method_9_code
def yX3_whyNotAdd : MethodName := ⟨RX3, "whyNotAdd", "(I)LNeedleBakery$Refusal;"⟩
abbrev cX3_add : ByteArray := prog_5_method_10_code
def yX3_add : MethodName := ⟨RX3, "add", "(I)I"⟩
abbrev cX3_whyNotPut : ByteArray := prog_5_method_11_code
def yX3_whyNotPut : MethodName := ⟨RX3, "whyNotPut", "(III)LNeedleBakery$Refusal;"⟩
abbrev cX3_put : ByteArray := prog_5_method_12_code
def yX3_put : MethodName := ⟨RX3, "put", "(III)I"⟩
abbrev cX3_whyNotShift : ByteArray := prog_5_method_13_code
def yX3_whyNotShift : MethodName := ⟨RX3, "whyNotShift", "(II)LNeedleBakery$Refusal;"⟩
abbrev cX3_whyNotCorrect : ByteArray := prog_5_method_14_code
def yX3_whyNotCorrect : MethodName := ⟨RX3, "whyNotCorrect", "(I)LNeedleBakery$Refusal;"⟩
abbrev cX3_whyNotMove : ByteArray := prog_5_method_15_code
def yX3_whyNotMove : MethodName := ⟨RX3, "whyNotMove", "(II)LNeedleBakery$Refusal;"⟩
abbrev cX3_move : ByteArray := prog_5_method_16_code
def yX3_move : MethodName := ⟨RX3, "move", "(II)V"⟩
abbrev cX3_moveByBest : ByteArray := prog_5_method_17_code
def yX3_moveByBest : MethodName := ⟨RX3, "moveByBest", "(I)I"⟩
abbrev cX3_whyNotThrowOut : ByteArray := prog_5_method_18_code
def yX3_whyNotThrowOut : MethodName := ⟨RX3, "whyNotThrowOut", "(I)LNeedleBakery$Refusal;"⟩
abbrev cX3_throwOut : ByteArray := prog_5_method_19_code
def yX3_throwOut : MethodName := ⟨RX3, "throwOut", "(I)I"⟩
abbrev cX3_interpolated : ByteArray := prog_5_method_20_code
def yX3_interpolated : MethodName := ⟨RX3, "interpolated", "(II)I"⟩
abbrev cX3_corrected : ByteArray := prog_5_method_21_code
def yX3_corrected : MethodName := ⟨RX3, "corrected", "(II)I"⟩
abbrev cX3_lowestCourse : ByteArray := prog_5_method_22_code
def yX3_lowestCourse : MethodName := ⟨RX3, "lowestCourse", "(II)I"⟩
abbrev cX3_lowestNearbyCourse : ByteArray := prog_5_method_23_code
def yX3_lowestNearbyCourse : MethodName := ⟨RX3, "lowestNearbyCourse", "(II)I"⟩
abbrev cX3_errorShiftedBy : ByteArray := prog_5_method_24_code
def yX3_errorShiftedBy : MethodName := ⟨RX3, "errorShiftedBy", "(II)I"⟩
abbrev cX3_shiftByTrying : ByteArray := prog_5_method_25_code
def yX3_shiftByTrying : MethodName := ⟨RX3, "shiftByTrying", "(I)I"⟩
abbrev cX3_shiftFromSum : ByteArray := prog_5_method_26_code
def yX3_shiftFromSum : MethodName := ⟨RX3, "shiftFromSum", "(I)I"⟩
abbrev cX3_countAheadOf : ByteArray := prog_5_method_27_code
def yX3_countAheadOf : MethodName := ⟨RX3, "countAheadOf", "(I)I"⟩
abbrev cX3_isAhead : ByteArray := prog_5_method_28_code
def yX3_isAhead : MethodName := ⟨RX3, "isAhead", "(II)Z"⟩
def RX4 : String := "NeedleBakery$Orders"
def TX4 : u_T := fun k => match k with
  | _ => ("NeedleBakery$Orders", "leastOfSet", "[I", true)
def tyX4 : Nat → FieldType := fun k => match k with
  | _ => .array .int
abbrev wsX40 : List Cond := u_ws RX4 TX4 1
theorem nmX4 : ∀ a, a < 1 → ∀ b, b < 1 → a ≠ b → (TX4 a).2.1 ≠ (TX4 b).2.1 := by decide +kernel
theorem tyX4_ok : ∀ k, k < 1 → parseFieldDescriptor (TX4 k).2.2.1 = some (tyX4 k) := by decide +kernel
abbrev cX4_init : ByteArray := prog_6_method_1_code
def yX4_init : MethodName := ⟨RX4, "<init>", "()V"⟩
abbrev cX4_leastBySets : ByteArray := prog_6_method_2_code
def yX4_leastBySets : MethodName := ⟨RX4, "leastBySets", "(LNeedleBakery$Oven;)I"⟩
abbrev cX4_beginningWith : ByteArray := prog_6_method_3_code
def yX4_beginningWith : MethodName := ⟨RX4, "beginningWith", "(LNeedleBakery$Oven;III)I"⟩
abbrev cX4_minutesOf : ByteArray := prog_6_method_4_code
def yX4_minutesOf : MethodName := ⟨RX4, "minutesOf", "(LNeedleBakery$Oven;I)I"⟩
abbrev cX4_bestFirstPlace : ByteArray := prog_6_method_5_code
def yX4_bestFirstPlace : MethodName := ⟨RX4, "bestFirstPlace", "(LNeedleBakery$Oven;)I"⟩
abbrev cX4_leastByTrying : ByteArray := prog_6_method_6_code
def yX4_leastByTrying : MethodName := ⟨RX4, "leastByTrying", "(LNeedleBakery$Oven;)I"⟩
abbrev cX4_bestFrom : ByteArray := prog_6_method_7_code
def yX4_bestFrom : MethodName := ⟨RX4, "bestFrom", "(LNeedleBakery$Oven;IIIII)I"⟩
abbrev cX4_latenessInOrderOfIds : ByteArray := prog_6_method_8_code
def yX4_latenessInOrderOfIds : MethodName := ⟨RX4, "latenessInOrderOfIds", "(LNeedleBakery$Oven;)I"⟩
def RX5 : String := "NeedleBakery$Oven"
def TX5 : u_T := fun k => match k with
  | 0 => ("NeedleBakery$Oven", "clock", "I", false)
  | 1 => ("NeedleBakery$Oven", "count", "I", false)
  | 2 => ("NeedleBakery$Oven", "nextId", "I", false)
  | 3 => ("NeedleBakery$Oven", "bakedCount", "I", false)
  | 4 => ("NeedleBakery$Oven", "bakedMinutes", "I", false)
  | 5 => ("NeedleBakery$Oven", "latenessTotal", "J", false)
  | 6 => ("NeedleBakery$Oven", "ids", "[I", true)
  | 7 => ("NeedleBakery$Oven", "minutes", "[I", true)
  | 8 => ("NeedleBakery$Oven", "dues", "[I", true)
  | _ => ("NeedleBakery$Oven", "weights", "[I", true)
def tyX5 : Nat → FieldType := fun k => match k with
  | 0 => .int
  | 1 => .int
  | 2 => .int
  | 3 => .int
  | 4 => .int
  | 5 => .long
  | 6 => .array .int
  | 7 => .array .int
  | 8 => .array .int
  | _ => .array .int
abbrev wsX50 : List Cond := u_ws RX5 TX5 10
theorem nmX5 : ∀ a, a < 10 → ∀ b, b < 10 → a ≠ b → (TX5 a).2.1 ≠ (TX5 b).2.1 := by decide +kernel
theorem tyX5_ok : ∀ k, k < 10 → parseFieldDescriptor (TX5 k).2.2.1 = some (tyX5 k) := by decide +kernel
abbrev cX5_init : ByteArray := prog_7_method_1_code
def yX5_init : MethodName := ⟨RX5, "<init>", "()V"⟩
abbrev cX5_copyFrom : ByteArray := prog_7_method_2_code
def yX5_copyFrom : MethodName := ⟨RX5, "copyFrom", "(LNeedleBakery$Oven;)V"⟩
abbrev cX5_placeOf : ByteArray := prog_7_method_3_code
def yX5_placeOf : MethodName := ⟨RX5, "placeOf", "(I)I"⟩
abbrev cX5_latenessFrom : ByteArray := prog_7_method_4_code
def yX5_latenessFrom : MethodName := ⟨RX5, "latenessFrom", "(II)I"⟩
abbrev cX5_whyNotAdd : ByteArray := prog_7_method_5_code
def yX5_whyNotAdd : MethodName := ⟨RX5, "whyNotAdd", "(III)LNeedleBakery$Refusal;"⟩
abbrev cX5_add : ByteArray := prog_7_method_6_code
def yX5_add : MethodName := ⟨RX5, "add", "(III)I"⟩
abbrev cX5_takeOut : ByteArray := prog_7_method_7_code
def yX5_takeOut : MethodName := ⟨RX5, "takeOut", "(I)V"⟩
abbrev cX5_finish : ByteArray := prog_7_method_8_code
def yX5_finish : MethodName := ⟨RX5, "finish", "(I)I"⟩
def RX6 : String := "NeedleBakery$Pairs"
def TX6 : u_T := fun k => match k with
  | 0 => ("NeedleBakery$Pairs", "leastOfSet", "[I", true)
  | _ => ("NeedleBakery$Pairs", "ascending", "[I", true)
def tyX6 : Nat → FieldType := fun k => match k with
  | 0 => .array .int
  | _ => .array .int
abbrev wsX60 : List Cond := u_ws RX6 TX6 2
theorem nmX6 : ∀ a, a < 2 → ∀ b, b < 2 → a ≠ b → (TX6 a).2.1 ≠ (TX6 b).2.1 := by decide +kernel
theorem tyX6_ok : ∀ k, k < 2 → parseFieldDescriptor (TX6 k).2.2.1 = some (tyX6 k) := by decide +kernel
abbrev cX6_init : ByteArray := prog_8_method_1_code
def yX6_init : MethodName := ⟨RX6, "<init>", "()V"⟩
abbrev cX6_leastBySets : ByteArray := prog_8_method_2_code
def yX6_leastBySets : MethodName := ⟨RX6, "leastBySets", "(LNeedleBakery$Needles;)I"⟩
abbrev cX6_leastForSet : ByteArray := prog_8_method_3_code
def yX6_leastForSet : MethodName := ⟨RX6, "leastForSet", "(LNeedleBakery$Needles;I)I"⟩
abbrev cX6_lowestOf : ByteArray := prog_8_method_4_code
def yX6_lowestOf : MethodName := ⟨RX6, "lowestOf", "(I)I"⟩
abbrev cX6_withPair : ByteArray := prog_8_method_5_code
def yX6_withPair : MethodName := ⟨RX6, "withPair", "(LNeedleBakery$Needles;III)I"⟩
abbrev cX6_leastByStrengths : ByteArray := prog_8_method_6_code
def yX6_leastByStrengths : MethodName := ⟨RX6, "leastByStrengths", "(LNeedleBakery$Needles;)I"⟩
abbrev cX6_sortStrengths : ByteArray := prog_8_method_7_code
def yX6_sortStrengths : MethodName := ⟨RX6, "sortStrengths", "(LNeedleBakery$Needles;)I"⟩
abbrev cX6_differenceWithout : ByteArray := prog_8_method_8_code
def yX6_differenceWithout : MethodName := ⟨RX6, "differenceWithout", "(II)I"⟩
abbrev cX6_lowestPartner : ByteArray := prog_8_method_9_code
def yX6_lowestPartner : MethodName := ⟨RX6, "lowestPartner", "(LNeedleBakery$Needles;I)I"⟩
def RX7 : String := "NeedleBakery$Program"
def TX7 : u_T := fun k => match k with
  | 0 => ("NeedleBakery$Program", "text", "[C", true)
  | 1 => ("NeedleBakery$Program", "length", "I", false)
  | 2 => ("NeedleBakery$Program", "position", "I", false)
  | 3 => ("NeedleBakery$Program", "change", "LNeedleBakery$Change;", false)
  | 4 => ("NeedleBakery$Program", "numbers", "[I", true)
  | _ => ("NeedleBakery$Program", "numberCount", "I", false)
def tyX7 : Nat → FieldType := fun k => match k with
  | 0 => .array .char
  | 1 => .int
  | 2 => .int
  | 3 => .object "NeedleBakery$Change"
  | 4 => .array .int
  | _ => .int
abbrev wsX70 : List Cond := u_ws RX7 TX7 6
theorem nmX7 : ∀ a, a < 6 → ∀ b, b < 6 → a ≠ b → (TX7 a).2.1 ≠ (TX7 b).2.1 := by decide +kernel
theorem tyX7_ok : ∀ k, k < 6 → parseFieldDescriptor (TX7 k).2.2.1 = some (tyX7 k) := by decide +kernel
abbrev cX7_init : ByteArray := prog_9_method_1_code
def yX7_init : MethodName := ⟨RX7, "<init>", "()V"⟩
abbrev cX7_append : ByteArray := prog_9_method_2_code
def yX7_append : MethodName := ⟨RX7, "append", "(C)V"⟩
abbrev cX7_empty : ByteArray := prog_9_method_3_code
def yX7_empty : MethodName := ⟨RX7, "empty", "()V"⟩
abbrev cX7_countCommands : ByteArray := prog_9_method_4_code
def yX7_countCommands : MethodName := ⟨RX7, "countCommands", "()I"⟩
abbrev cX7_readsCommand : ByteArray := prog_9_method_5_code
def yX7_readsCommand : MethodName := ⟨RX7, "readsCommand", "()Z"⟩
abbrev cX7_follows : ByteArray := prog_9_method_6_code
def yX7_follows : MethodName := ⟨RX7, "follows", "(Ljava/lang/String;)Z"⟩
abbrev cX7_takesPart : ByteArray := prog_9_method_7_code
def yX7_takesPart : MethodName := ⟨RX7, "takesPart", "(C)Z"⟩
abbrev cX7_takesSign : ByteArray := prog_9_method_8_code
def yX7_takesSign : MethodName := ⟨RX7, "takesSign", "(C)Z"⟩
abbrev cX7_takesNumber : ByteArray := prog_9_method_9_code
def yX7_takesNumber : MethodName := ⟨RX7, "takesNumber", "(II)Z"⟩
abbrev cX7_atDigit : ByteArray := prog_9_method_10_code
def yX7_atDigit : MethodName := ⟨RX7, "atDigit", "()Z"⟩
def RX8 : String := "NeedleBakery$Refusal"
def TX8 : u_T := fun k => match k with
  | _ => ("", "", "", false)
def tyX8 : Nat → FieldType := fun k => match k with
  | _ => .int
abbrev wsX80 : List Cond := u_ws RX8 TX8 0
theorem nmX8 : ∀ a, a < 0 → ∀ b, b < 0 → a ≠ b → (TX8 a).2.1 ≠ (TX8 b).2.1 := by decide +kernel
theorem tyX8_ok : ∀ k, k < 0 → parseFieldDescriptor (TX8 k).2.2.1 = some (tyX8 k) := by decide +kernel
def RX9 : String := "NeedleBakery$State"
def TX9 : u_T := fun k => match k with
  | 0 => ("NeedleBakery$State", "needles", "LNeedleBakery$Needles;", true)
  | _ => ("NeedleBakery$State", "oven", "LNeedleBakery$Oven;", true)
def tyX9 : Nat → FieldType := fun k => match k with
  | 0 => .object "NeedleBakery$Needles"
  | _ => .object "NeedleBakery$Oven"
abbrev wsX90 : List Cond := u_ws RX9 TX9 2
theorem nmX9 : ∀ a, a < 2 → ∀ b, b < 2 → a ≠ b → (TX9 a).2.1 ≠ (TX9 b).2.1 := by decide +kernel
theorem tyX9_ok : ∀ k, k < 2 → parseFieldDescriptor (TX9 k).2.2.1 = some (tyX9 k) := by decide +kernel
abbrev cX9_init : ByteArray := prog_11_method_1_code
def yX9_init : MethodName := ⟨RX9, "<init>", "()V"⟩
abbrev cX9_copyFrom : ByteArray := prog_11_method_2_code
def yX9_copyFrom : MethodName := ⟨RX9, "copyFrom", "(LNeedleBakery$State;)V"⟩
abbrev cX9_whyNot : ByteArray := prog_11_method_3_code
def yX9_whyNot : MethodName := ⟨RX9, "whyNot", "(LNeedleBakery$Change;III)LNeedleBakery$Refusal;"⟩
abbrev cX9_perform : ByteArray := prog_11_method_4_code
def yX9_perform : MethodName := ⟨RX9, "perform", "(LNeedleBakery$Change;III)I"⟩
def RX10 : String := "NeedleBakery"
def TX10 : u_T := fun k => match k with
  | 0 => ("NeedleBakery", "state", "LNeedleBakery$State;", true)
  | 1 => ("NeedleBakery", "snapshot", "LNeedleBakery$State;", true)
  | 2 => ("NeedleBakery", "hasSnapshot", "Z", false)
  | 3 => ("NeedleBakery", "history", "LNeedleBakery$History;", true)
  | 4 => ("NeedleBakery", "pairs", "LNeedleBakery$Pairs;", true)
  | 5 => ("NeedleBakery", "orders", "LNeedleBakery$Orders;", true)
  | 6 => ("NeedleBakery", "reached", "[I", true)
  | 7 => ("NeedleBakery", "label", "Ljava/lang/StringBuilder;", true)
  | 8 => ("NeedleBakery", "program", "LNeedleBakery$Program;", true)
  | 9 => ("NeedleBakery", "errorPosition", "I", false)
  | _ => ("NeedleBakery", "failedCommand", "I", false)
def tyX10 : Nat → FieldType := fun k => match k with
  | 0 => .object "NeedleBakery$State"
  | 1 => .object "NeedleBakery$State"
  | 2 => .boolean
  | 3 => .object "NeedleBakery$History"
  | 4 => .object "NeedleBakery$Pairs"
  | 5 => .object "NeedleBakery$Orders"
  | 6 => .array .int
  | 7 => .object "java/lang/StringBuilder"
  | 8 => .object "NeedleBakery$Program"
  | 9 => .int
  | _ => .int
abbrev wsX100 : List Cond := u_ws RX10 TX10 11
theorem nmX10 : ∀ a, a < 11 → ∀ b, b < 11 → a ≠ b → (TX10 a).2.1 ≠ (TX10 b).2.1 := by decide +kernel
theorem tyX10_ok : ∀ k, k < 11 → parseFieldDescriptor (TX10 k).2.2.1 = some (tyX10 k) := by decide +kernel
abbrev cX10_init : ByteArray := prog_1_method_1_code
def yX10_init : MethodName := ⟨RX10, "<init>", "()V"⟩
abbrev cX10_addNeedle : ByteArray := prog_1_method_2_code
def yX10_addNeedle : MethodName := ⟨RX10, "addNeedle", "(I)I"⟩
abbrev cX10_setDeviation : ByteArray := prog_1_method_3_code
def yX10_setDeviation : MethodName := ⟨RX10, "setDeviation", "(III)I"⟩
abbrev cX10_shift : ByteArray := prog_1_method_4_code
def yX10_shift : MethodName := ⟨RX10, "shift", "(II)I"⟩
abbrev cX10_correct : ByteArray := prog_1_method_5_code
def yX10_correct : MethodName := ⟨RX10, "correct", "(I)I"⟩
abbrev cX10_discard : ByteArray := prog_1_method_6_code
def yX10_discard : MethodName := ⟨RX10, "discard", "(I)I"⟩
abbrev cX10_setTolerance : ByteArray := prog_1_method_7_code
def yX10_setTolerance : MethodName := ⟨RX10, "setTolerance", "(I)I"⟩
abbrev cX10_needleCount : ByteArray := prog_1_method_8_code
def yX10_needleCount : MethodName := ⟨RX10, "needleCount", "()I"⟩
abbrev cX10_strengthOf : ByteArray := prog_1_method_9_code
def yX10_strengthOf : MethodName := ⟨RX10, "strengthOf", "(I)I"⟩
abbrev cX10_isDiscarded : ByteArray := prog_1_method_10_code
def yX10_isDiscarded : MethodName := ⟨RX10, "isDiscarded", "(I)Z"⟩
abbrev cX10_isReject : ByteArray := prog_1_method_11_code
def yX10_isReject : MethodName := ⟨RX10, "isReject", "(I)Z"⟩
abbrev cX10_tolerance : ByteArray := prog_1_method_12_code
def yX10_tolerance : MethodName := ⟨RX10, "tolerance", "()I"⟩
abbrev cX10_deviationAt : ByteArray := prog_1_method_13_code
def yX10_deviationAt : MethodName := ⟨RX10, "deviationAt", "(II)I"⟩
abbrev cX10_trueCourse : ByteArray := prog_1_method_14_code
def yX10_trueCourse : MethodName := ⟨RX10, "trueCourse", "(II)I"⟩
abbrev cX10_courseFor : ByteArray := prog_1_method_15_code
def yX10_courseFor : MethodName := ⟨RX10, "courseFor", "(II)I"⟩
abbrev cX10_courseForNearby : ByteArray := prog_1_method_16_code
def yX10_courseForNearby : MethodName := ⟨RX10, "courseForNearby", "(II)I"⟩
abbrev cX10_missedCourses : ByteArray := prog_1_method_17_code
def yX10_missedCourses : MethodName := ⟨RX10, "missedCourses", "(I)I"⟩
abbrev cX10_errorOf : ByteArray := prog_1_method_18_code
def yX10_errorOf : MethodName := ⟨RX10, "errorOf", "(I)I"⟩
abbrev cX10_bestShift : ByteArray := prog_1_method_19_code
def yX10_bestShift : MethodName := ⟨RX10, "bestShift", "(I)I"⟩
abbrev cX10_bestShiftBySum : ByteArray := prog_1_method_20_code
def yX10_bestShiftBySum : MethodName := ⟨RX10, "bestShiftBySum", "(I)I"⟩
abbrev cX10_needleAtRank : ByteArray := prog_1_method_21_code
def yX10_needleAtRank : MethodName := ⟨RX10, "needleAtRank", "(I)I"⟩
abbrev cX10_meanError : ByteArray := prog_1_method_22_code
def yX10_meanError : MethodName := ⟨RX10, "meanError", "()D"⟩
abbrev cX10_goodCount : ByteArray := prog_1_method_23_code
def yX10_goodCount : MethodName := ⟨RX10, "goodCount", "()I"⟩
abbrev cX10_leastDifference : ByteArray := prog_1_method_24_code
def yX10_leastDifference : MethodName := ⟨RX10, "leastDifference", "()I"⟩
abbrev cX10_leastDifferenceByOrder : ByteArray := prog_1_method_25_code
def yX10_leastDifferenceByOrder : MethodName := ⟨RX10, "leastDifferenceByOrder", "()I"⟩
abbrev cX10_partnerOf : ByteArray := prog_1_method_26_code
def yX10_partnerOf : MethodName := ⟨RX10, "partnerOf", "(I)I"⟩
abbrev cX10_addBatch : ByteArray := prog_1_method_27_code
def yX10_addBatch : MethodName := ⟨RX10, "addBatch", "(III)I"⟩
abbrev cX10_dropBatch : ByteArray := prog_1_method_28_code
def yX10_dropBatch : MethodName := ⟨RX10, "dropBatch", "(I)I"⟩
abbrev cX10_bake : ByteArray := prog_1_method_29_code
def yX10_bake : MethodName := ⟨RX10, "bake", "(I)I"⟩
abbrev cX10_rest : ByteArray := prog_1_method_30_code
def yX10_rest : MethodName := ⟨RX10, "rest", "(I)I"⟩
abbrev cX10_clock : ByteArray := prog_1_method_31_code
def yX10_clock : MethodName := ⟨RX10, "clock", "()I"⟩
abbrev cX10_batchCount : ByteArray := prog_1_method_32_code
def yX10_batchCount : MethodName := ⟨RX10, "batchCount", "()I"⟩
abbrev cX10_batchAt : ByteArray := prog_1_method_33_code
def yX10_batchAt : MethodName := ⟨RX10, "batchAt", "(I)I"⟩
abbrev cX10_latenessNow : ByteArray := prog_1_method_34_code
def yX10_latenessNow : MethodName := ⟨RX10, "latenessNow", "(I)I"⟩
abbrev cX10_leastLateness : ByteArray := prog_1_method_35_code
def yX10_leastLateness : MethodName := ⟨RX10, "leastLateness", "()I"⟩
abbrev cX10_leastLatenessByOrders : ByteArray := prog_1_method_36_code
def yX10_leastLatenessByOrders : MethodName := ⟨RX10, "leastLatenessByOrders", "()I"⟩
abbrev cX10_bestFirst : ByteArray := prog_1_method_37_code
def yX10_bestFirst : MethodName := ⟨RX10, "bestFirst", "()I"⟩
abbrev cX10_latenessByIds : ByteArray := prog_1_method_38_code
def yX10_latenessByIds : MethodName := ⟨RX10, "latenessByIds", "()I"⟩
abbrev cX10_bakedCount : ByteArray := prog_1_method_39_code
def yX10_bakedCount : MethodName := ⟨RX10, "bakedCount", "()I"⟩
abbrev cX10_latenessTotal : ByteArray := prog_1_method_40_code
def yX10_latenessTotal : MethodName := ⟨RX10, "latenessTotal", "()J"⟩
abbrev cX10_bakingShare : ByteArray := prog_1_method_41_code
def yX10_bakingShare : MethodName := ⟨RX10, "bakingShare", "()F"⟩
abbrev cX10_writeLabel : ByteArray := prog_1_method_42_code
def yX10_writeLabel : MethodName := ⟨RX10, "writeLabel", "(I)I"⟩
abbrev cX10_labelAt : ByteArray := prog_1_method_43_code
def yX10_labelAt : MethodName := ⟨RX10, "labelAt", "(I)C"⟩
abbrev cX10_type : ByteArray := prog_1_method_44_code
def yX10_type : MethodName := ⟨RX10, "type", "(C)I"⟩
abbrev cX10_execute : ByteArray := prog_1_method_45_code
def yX10_execute : MethodName := ⟨RX10, "execute", "()I"⟩
abbrev cX10_errorPosition : ByteArray := prog_1_method_46_code
def yX10_errorPosition : MethodName := ⟨RX10, "errorPosition", "()I"⟩
abbrev cX10_failedCommand : ByteArray := prog_1_method_47_code
def yX10_failedCommand : MethodName := ⟨RX10, "failedCommand", "()I"⟩
abbrev cX10_undo : ByteArray := prog_1_method_48_code
def yX10_undo : MethodName := ⟨RX10, "undo", "()I"⟩
abbrev cX10_save : ByteArray := prog_1_method_49_code
def yX10_save : MethodName := ⟨RX10, "save", "()I"⟩
abbrev cX10_restore : ByteArray := prog_1_method_50_code
def yX10_restore : MethodName := ⟨RX10, "restore", "()I"⟩
abbrev cX10_modify : ByteArray := prog_1_method_51_code
def yX10_modify : MethodName := ⟨RX10, "modify", "(LNeedleBakery$Change;III)I"⟩
abbrev cX10_performProgram : ByteArray := prog_1_method_52_code
def yX10_performProgram : MethodName := ⟨RX10, "performProgram", "(I)I"⟩
abbrev cX10_needNeedle : ByteArray := prog_1_method_53_code
def yX10_needNeedle : MethodName := ⟨RX10, "needNeedle", "(I)V"⟩
abbrev cX10_needCourse : ByteArray := prog_1_method_54_code
def yX10_needCourse : MethodName := ⟨RX10, "needCourse", "(I)V"⟩
abbrev cX10_found : ByteArray := prog_1_method_55_code
def yX10_found : MethodName := ⟨RX10, "found", "(I)I"⟩
abbrev cX10_refuse : ByteArray := prog_1_method_56_code
def yX10_refuse : MethodName := ⟨RX10, "refuse", "(LNeedleBakery$Refusal;)V"⟩
abbrev cX10_outside : ByteArray := prog_1_method_57_code
def yX10_outside : MethodName := ⟨RX10, "outside", "(III)Z"⟩
abbrev cX10_holds : ByteArray := prog_1_method_58_code
def yX10_holds : MethodName := ⟨RX10, "holds", "(II)Z"⟩
def RX11 : String := "NeedleBakeryLaw$Bits"
def TX11 : u_T := fun k => match k with
  | _ => ("NeedleBakeryLaw$Bits", "bits", "I", false)
def tyX11 : Nat → FieldType := fun k => match k with
  | _ => .int
abbrev wsX110 : List Cond := u_ws RX11 TX11 1
theorem nmX11 : ∀ a, a < 1 → ∀ b, b < 1 → a ≠ b → (TX11 a).2.1 ≠ (TX11 b).2.1 := by decide +kernel
theorem tyX11_ok : ∀ k, k < 1 → parseFieldDescriptor (TX11 k).2.2.1 = some (tyX11 k) := by decide +kernel
abbrev cX11_init : ByteArray := prog_13_method_1_code
def yX11_init : MethodName := ⟨RX11, "<init>", "(I)V"⟩
abbrev cX11_next : ByteArray := prog_13_method_2_code
def yX11_next : MethodName := ⟨RX11, "next", "(I)I"⟩
def RX12 : String := "NeedleBakeryModel"
def TX12 : u_T := fun k => match k with
  | _ => ("", "", "", false)
def tyX12 : Nat → FieldType := fun k => match k with
  | _ => .int
abbrev wsX120 : List Cond := u_ws RX12 TX12 0
theorem nmX12 : ∀ a, a < 0 → ∀ b, b < 0 → a ≠ b → (TX12 a).2.1 ≠ (TX12 b).2.1 := by decide +kernel
theorem tyX12_ok : ∀ k, k < 0 → parseFieldDescriptor (TX12 k).2.2.1 = some (tyX12 k) := by decide +kernel
def RJx145de : String := "java/io/Serializable"
def TJx145de : u_T := fun k => match k with
  | _ => ("", "", "", false)
def tyJx145de : Nat → FieldType := fun k => match k with
  | _ => .int
abbrev wsJx145de0 : List Cond := u_ws RJx145de TJx145de 0
theorem nmJx145de : ∀ a, a < 0 → ∀ b, b < 0 → a ≠ b → (TJx145de a).2.1 ≠ (TJx145de b).2.1 := by decide +kernel
theorem tyJx145de_ok : ∀ k, k < 0 → parseFieldDescriptor (TJx145de k).2.2.1 = some (tyJx145de k) := by decide +kernel
def RJ5 : String := "java/lang/AbstractStringBuilder"
def TJ5 : u_T := fun k => match k with
  | _ => ("", "", "", false)
def tyJ5 : Nat → FieldType := fun k => match k with
  | _ => .int
abbrev wsJ50 : List Cond := u_ws RJ5 TJ5 0
theorem nmJ5 : ∀ a, a < 0 → ∀ b, b < 0 → a ≠ b → (TJ5 a).2.1 ≠ (TJ5 b).2.1 := by decide +kernel
theorem tyJ5_ok : ∀ k, k < 0 → parseFieldDescriptor (TJ5 k).2.2.1 = some (tyJ5 k) := by decide +kernel
abbrev cJ5_init_d00df : ByteArray := prog_16_method_2_code
def yJ5_init_d00df : MethodName := ⟨RJ5, "<init>", "(I)V"⟩
abbrev cJ5_init_a7421 : ByteArray := prog_16_method_3_code
def yJ5_init_a7421 : MethodName := ⟨RJ5, "<init>", "(Ljava/lang/String;)V"⟩
abbrev cJ5_compareTo_759ea : ByteArray := prog_16_method_5_code
def yJ5_compareTo_759ea : MethodName := ⟨RJ5, "compareTo", "(Ljava/lang/AbstractStringBuilder;)I"⟩
abbrev cJ5_length_8abf5 : ByteArray := prog_16_method_6_code
def yJ5_length_8abf5 : MethodName := ⟨RJ5, "length", "()I"⟩
abbrev cJ5_ensureCapacityInternal_d00df : ByteArray := prog_16_method_9_code
def yJ5_ensureCapacityInternal_d00df : MethodName := ⟨RJ5, "ensureCapacityInternal", "(I)V"⟩
abbrev cJ5_newCapacity_0f7a4 : ByteArray := prog_16_method_10_code
def yJ5_newCapacity_0f7a4 : MethodName := ⟨RJ5, "newCapacity", "(I)I"⟩
abbrev cJ5_inflate_da8c8 : ByteArray := prog_16_method_11_code
def yJ5_inflate_da8c8 : MethodName := ⟨RJ5, "inflate", "()V"⟩
abbrev cJ5_setLength_d00df : ByteArray := prog_16_method_13_code
def yJ5_setLength_d00df : MethodName := ⟨RJ5, "setLength", "(I)V"⟩
abbrev cJ5_charAt_5068e : ByteArray := prog_16_method_14_code
def yJ5_charAt_5068e : MethodName := ⟨RJ5, "charAt", "(I)C"⟩
abbrev cJ5_append_cf1ce : ByteArray := prog_16_method_22_code
def yJ5_append_cf1ce : MethodName := ⟨RJ5, "append", "(Ljava/lang/String;)Ljava/lang/AbstractStringBuilder;"⟩
abbrev cJ5_appendNull_278bc : ByteArray := prog_16_method_26_code
def yJ5_appendNull_278bc : MethodName := ⟨RJ5, "appendNull", "()Ljava/lang/AbstractStringBuilder;"⟩
abbrev cJ5_append_3fe6f : ByteArray := prog_16_method_31_code
def yJ5_append_3fe6f : MethodName := ⟨RJ5, "append", "(C)Ljava/lang/AbstractStringBuilder;"⟩
abbrev cJ5_append_c97b9 : ByteArray := prog_16_method_32_code
def yJ5_append_c97b9 : MethodName := ⟨RJ5, "append", "(I)Ljava/lang/AbstractStringBuilder;"⟩
abbrev cJ5_append_66267 : ByteArray := prog_16_method_33_code
def yJ5_append_66267 : MethodName := ⟨RJ5, "append", "(J)Ljava/lang/AbstractStringBuilder;"⟩
abbrev cJ5_getValue_6d5f1 : ByteArray := prog_16_method_64_code
def yJ5_getValue_6d5f1 : MethodName := ⟨RJ5, "getValue", "()[B"⟩
abbrev cJ5_isLatin1_aae02 : ByteArray := prog_16_method_68_code
def yJ5_isLatin1_aae02 : MethodName := ⟨RJ5, "isLatin1", "()Z"⟩
abbrev cJ5_inflateIfNeededFor_a7421 : ByteArray := prog_16_method_71_code
def yJ5_inflateIfNeededFor_a7421 : MethodName := ⟨RJ5, "inflateIfNeededFor", "(Ljava/lang/String;)V"⟩
abbrev cJ5_putStringAt_47b60 : ByteArray := prog_16_method_73_code
def yJ5_putStringAt_47b60 : MethodName := ⟨RJ5, "putStringAt", "(ILjava/lang/String;)V"⟩
def RJx2cfe8 : String := "java/lang/Appendable"
def TJx2cfe8 : u_T := fun k => match k with
  | _ => ("", "", "", false)
def tyJx2cfe8 : Nat → FieldType := fun k => match k with
  | _ => .int
abbrev wsJx2cfe80 : List Cond := u_ws RJx2cfe8 TJx2cfe8 0
theorem nmJx2cfe8 : ∀ a, a < 0 → ∀ b, b < 0 → a ≠ b → (TJx2cfe8 a).2.1 ≠ (TJx2cfe8 b).2.1 := by decide +kernel
theorem tyJx2cfe8_ok : ∀ k, k < 0 → parseFieldDescriptor (TJx2cfe8 k).2.2.1 = some (tyJx2cfe8 k) := by decide +kernel
def RJx00060 : String := "java/lang/ArrayIndexOutOfBoundsException"
def TJx00060 : u_T := fun k => match k with
  | 0 => ("java/lang/Throwable", "backtrace", "Ljava/lang/Object;", false)
  | 1 => ("java/lang/Throwable", "detailMessage", "Ljava/lang/String;", false)
  | 2 => ("java/lang/Throwable", "cause", "Ljava/lang/Throwable;", false)
  | 3 => ("java/lang/Throwable", "stackTrace", "[Ljava/lang/StackTraceElement;", false)
  | 4 => ("java/lang/Throwable", "depth", "I", false)
  | _ => ("java/lang/Throwable", "suppressedExceptions", "Ljava/util/List;", false)
def tyJx00060 : Nat → FieldType := fun k => match k with
  | 0 => .object "java/lang/Object"
  | 1 => .object "java/lang/String"
  | 2 => .object "java/lang/Throwable"
  | 3 => .array (.object "java/lang/StackTraceElement")
  | 4 => .int
  | _ => .object "java/util/List"
abbrev wsJx000600 : List Cond := u_ws RJx00060 TJx00060 6
theorem nmJx00060 : ∀ a, a < 6 → ∀ b, b < 6 → a ≠ b → (TJx00060 a).2.1 ≠ (TJx00060 b).2.1 := by decide +kernel
theorem tyJx00060_ok : ∀ k, k < 6 → parseFieldDescriptor (TJx00060 k).2.2.1 = some (tyJx00060 k) := by decide +kernel
abbrev cJx00060_init_a7421 : ByteArray := prog_19_method_2_code
def yJx00060_init_a7421 : MethodName := ⟨RJx00060, "<init>", "(Ljava/lang/String;)V"⟩
abbrev cJx00060_init_d00df : ByteArray := prog_19_method_3_code
def yJx00060_init_d00df : MethodName := ⟨RJx00060, "<init>", "(I)V"⟩
def RJx9f9b0 : String := "java/lang/CharSequence"
def TJx9f9b0 : u_T := fun k => match k with
  | _ => ("", "", "", false)
def tyJx9f9b0 : Nat → FieldType := fun k => match k with
  | _ => .int
abbrev wsJx9f9b00 : List Cond := u_ws RJx9f9b0 TJx9f9b0 0
theorem nmJx9f9b0 : ∀ a, a < 0 → ∀ b, b < 0 → a ≠ b → (TJx9f9b0 a).2.1 ≠ (TJx9f9b0 b).2.1 := by decide +kernel
theorem tyJx9f9b0_ok : ∀ k, k < 0 → parseFieldDescriptor (TJx9f9b0 k).2.2.1 = some (tyJx9f9b0 k) := by decide +kernel
def RJx8e188 : String := "java/lang/Cloneable"
def TJx8e188 : u_T := fun k => match k with
  | _ => ("", "", "", false)
def tyJx8e188 : Nat → FieldType := fun k => match k with
  | _ => .int
abbrev wsJx8e1880 : List Cond := u_ws RJx8e188 TJx8e188 0
theorem nmJx8e188 : ∀ a, a < 0 → ∀ b, b < 0 → a ≠ b → (TJx8e188 a).2.1 ≠ (TJx8e188 b).2.1 := by decide +kernel
theorem tyJx8e188_ok : ∀ k, k < 0 → parseFieldDescriptor (TJx8e188 k).2.2.1 = some (tyJx8e188 k) := by decide +kernel
def RJxb160c : String := "java/lang/Comparable"
def TJxb160c : u_T := fun k => match k with
  | _ => ("", "", "", false)
def tyJxb160c : Nat → FieldType := fun k => match k with
  | _ => .int
abbrev wsJxb160c0 : List Cond := u_ws RJxb160c TJxb160c 0
theorem nmJxb160c : ∀ a, a < 0 → ∀ b, b < 0 → a ≠ b → (TJxb160c a).2.1 ≠ (TJxb160c b).2.1 := by decide +kernel
theorem tyJxb160c_ok : ∀ k, k < 0 → parseFieldDescriptor (TJxb160c k).2.2.1 = some (tyJxb160c k) := by decide +kernel
def RJx29ce0 : String := "java/lang/Enum"
def TJx29ce0 : u_T := fun k => match k with
  | _ => ("", "", "", false)
def tyJx29ce0 : Nat → FieldType := fun k => match k with
  | _ => .int
abbrev wsJx29ce00 : List Cond := u_ws RJx29ce0 TJx29ce0 0
theorem nmJx29ce0 : ∀ a, a < 0 → ∀ b, b < 0 → a ≠ b → (TJx29ce0 a).2.1 ≠ (TJx29ce0 b).2.1 := by decide +kernel
theorem tyJx29ce0_ok : ∀ k, k < 0 → parseFieldDescriptor (TJx29ce0 k).2.2.1 = some (tyJx29ce0 k) := by decide +kernel
abbrev cJx29ce0_ordinal_8abf5 : ByteArray := prog_23_method_2_code
def yJx29ce0_ordinal_8abf5 : MethodName := ⟨RJx29ce0, "ordinal", "()I"⟩
abbrev cJx29ce0_compareTo_18f91 : ByteArray := prog_23_method_8_code
def yJx29ce0_compareTo_18f91 : MethodName := ⟨RJx29ce0, "compareTo", "(Ljava/lang/Enum;)I"⟩
abbrev cJx29ce0_getDeclaringClass_d423e : ByteArray := prog_23_method_9_code
def yJx29ce0_getDeclaringClass_d423e : MethodName := ⟨RJx29ce0, "getDeclaringClass", "()Ljava/lang/Class;"⟩
abbrev cJx29ce0_compareTo_e47da : ByteArray := prog_23_method_15_code
def yJx29ce0_compareTo_e47da : MethodName := ⟨RJx29ce0, "compareTo", "(Ljava/lang/Object;)I"⟩
def RJxabbfe : String := "java/lang/Integer$IntegerCache"
def TJxabbfe : u_T := fun k => match k with
  | _ => ("", "", "", false)
def tyJxabbfe : Nat → FieldType := fun k => match k with
  | _ => .int
abbrev wsJxabbfe0 : List Cond := u_ws RJxabbfe TJxabbfe 0
theorem nmJxabbfe : ∀ a, a < 0 → ∀ b, b < 0 → a ≠ b → (TJxabbfe a).2.1 ≠ (TJxabbfe b).2.1 := by decide +kernel
theorem tyJxabbfe_ok : ∀ k, k < 0 → parseFieldDescriptor (TJxabbfe k).2.2.1 = some (tyJxabbfe k) := by decide +kernel
def RJ6 : String := "java/lang/Integer"
def TJ6 : u_T := fun k => match k with
  | _ => ("java/lang/Integer", "value", "I", true)
def tyJ6 : Nat → FieldType := fun k => match k with
  | _ => .int
abbrev wsJ60 : List Cond := u_ws RJ6 TJ6 1
theorem nmJ6 : ∀ a, a < 1 → ∀ b, b < 1 → a ≠ b → (TJ6 a).2.1 ≠ (TJ6 b).2.1 := by decide +kernel
theorem tyJ6_ok : ∀ k, k < 1 → parseFieldDescriptor (TJ6 k).2.2.1 = some (tyJ6 k) := by decide +kernel
abbrev cJ6_getChars_ba4f3 : ByteArray := prog_28_method_12_code
def yJ6_getChars_ba4f3 : MethodName := ⟨RJ6, "getChars", "(II[B)I"⟩
abbrev cJ6_stringSize_0f7a4 : ByteArray := prog_28_method_13_code
def yJ6_stringSize_0f7a4 : MethodName := ⟨RJ6, "stringSize", "(I)I"⟩
abbrev cJ6_valueOf_2dffe : ByteArray := prog_28_method_22_code
def yJ6_valueOf_2dffe : MethodName := ⟨RJ6, "valueOf", "(I)Ljava/lang/Integer;"⟩
abbrev cJ6_init_d00df : ByteArray := prog_28_method_23_code
def yJ6_init_d00df : MethodName := ⟨RJ6, "<init>", "(I)V"⟩
abbrev cJ6_intValue_8abf5 : ByteArray := prog_28_method_27_code
def yJ6_intValue_8abf5 : MethodName := ⟨RJ6, "intValue", "()I"⟩
abbrev cJ6_compareTo_e8194 : ByteArray := prog_28_method_39_code
def yJ6_compareTo_e8194 : MethodName := ⟨RJ6, "compareTo", "(Ljava/lang/Integer;)I"⟩
abbrev cJ6_compare_7cf53 : ByteArray := prog_28_method_40_code
def yJ6_compare_7cf53 : MethodName := ⟨RJ6, "compare", "(II)I"⟩
abbrev cJ6_numberOfLeadingZeros_0f7a4 : ByteArray := prog_28_method_47_code
def yJ6_numberOfLeadingZeros_0f7a4 : MethodName := ⟨RJ6, "numberOfLeadingZeros", "(I)I"⟩
abbrev cJ6_numberOfTrailingZeros_0f7a4 : ByteArray := prog_28_method_48_code
def yJ6_numberOfTrailingZeros_0f7a4 : MethodName := ⟨RJ6, "numberOfTrailingZeros", "(I)I"⟩
abbrev cJ6_bitCount_0f7a4 : ByteArray := prog_28_method_49_code
def yJ6_bitCount_0f7a4 : MethodName := ⟨RJ6, "bitCount", "(I)I"⟩
abbrev cJ6_compareTo_e47da : ByteArray := prog_28_method_63_code
def yJ6_compareTo_e47da : MethodName := ⟨RJ6, "compareTo", "(Ljava/lang/Object;)I"⟩
def RJxab1ab : String := "java/lang/Iterable"
def TJxab1ab : u_T := fun k => match k with
  | _ => ("", "", "", false)
def tyJxab1ab : Nat → FieldType := fun k => match k with
  | _ => .int
abbrev wsJxab1ab0 : List Cond := u_ws RJxab1ab TJxab1ab 0
theorem nmJxab1ab : ∀ a, a < 0 → ∀ b, b < 0 → a ≠ b → (TJxab1ab a).2.1 ≠ (TJxab1ab b).2.1 := by decide +kernel
theorem tyJxab1ab_ok : ∀ k, k < 0 → parseFieldDescriptor (TJxab1ab k).2.2.1 = some (tyJxab1ab k) := by decide +kernel
def RJ13 : String := "java/lang/Long"
def TJ13 : u_T := fun k => match k with
  | _ => ("", "", "", false)
def tyJ13 : Nat → FieldType := fun k => match k with
  | _ => .int
abbrev wsJ130 : List Cond := u_ws RJ13 TJ13 0
theorem nmJ13 : ∀ a, a < 0 → ∀ b, b < 0 → a ≠ b → (TJ13 a).2.1 ≠ (TJ13 b).2.1 := by decide +kernel
theorem tyJ13_ok : ∀ k, k < 0 → parseFieldDescriptor (TJ13 k).2.2.1 = some (tyJ13 k) := by decide +kernel
abbrev cJ13_getChars_11360 : ByteArray := prog_31_method_14_code
def yJ13_getChars_11360 : MethodName := ⟨RJ13, "getChars", "(JI[B)I"⟩
abbrev cJ13_stringSize_95d88 : ByteArray := prog_31_method_15_code
def yJ13_stringSize_95d88 : MethodName := ⟨RJ13, "stringSize", "(J)I"⟩
abbrev cJ13_numberOfLeadingZeros_95d88 : ByteArray := prog_31_method_48_code
def yJ13_numberOfLeadingZeros_95d88 : MethodName := ⟨RJ13, "numberOfLeadingZeros", "(J)I"⟩
abbrev cJ13_numberOfTrailingZeros_95d88 : ByteArray := prog_31_method_49_code
def yJ13_numberOfTrailingZeros_95d88 : MethodName := ⟨RJ13, "numberOfTrailingZeros", "(J)I"⟩
def RJ9 : String := "java/lang/Math"
def TJ9 : u_T := fun k => match k with
  | _ => ("", "", "", false)
def tyJ9 : Nat → FieldType := fun k => match k with
  | _ => .int
abbrev wsJ90 : List Cond := u_ws RJ9 TJ9 0
theorem nmJ9 : ∀ a, a < 0 → ∀ b, b < 0 → a ≠ b → (TJ9 a).2.1 ≠ (TJ9 b).2.1 := by decide +kernel
theorem tyJ9_ok : ∀ k, k < 0 → parseFieldDescriptor (TJ9 k).2.2.1 = some (tyJ9 k) := by decide +kernel
abbrev cJ9_floorDiv_7cf53 : ByteArray := prog_32_method_47_code
def yJ9_floorDiv_7cf53 : MethodName := ⟨RJ9, "floorDiv", "(II)I"⟩
abbrev cJ9_floorMod_7cf53 : ByteArray := prog_32_method_50_code
def yJ9_floorMod_7cf53 : MethodName := ⟨RJ9, "floorMod", "(II)I"⟩
abbrev cJ9_abs_0f7a4 : ByteArray := prog_32_method_59_code
def yJ9_abs_0f7a4 : MethodName := ⟨RJ9, "abs", "(I)I"⟩
abbrev cJ9_max_7cf53 : ByteArray := prog_32_method_65_code
def yJ9_max_7cf53 : MethodName := ⟨RJ9, "max", "(II)I"⟩
abbrev cJ9_min_7cf53 : ByteArray := prog_32_method_69_code
def yJ9_min_7cf53 : MethodName := ⟨RJ9, "min", "(II)I"⟩
def RJxd2413 : String := "java/lang/Number"
def TJxd2413 : u_T := fun k => match k with
  | _ => ("", "", "", false)
def tyJxd2413 : Nat → FieldType := fun k => match k with
  | _ => .int
abbrev wsJxd24130 : List Cond := u_ws RJxd2413 TJxd2413 0
theorem nmJxd2413 : ∀ a, a < 0 → ∀ b, b < 0 → a ≠ b → (TJxd2413 a).2.1 ≠ (TJxd2413 b).2.1 := by decide +kernel
theorem tyJxd2413_ok : ∀ k, k < 0 → parseFieldDescriptor (TJxd2413 k).2.2.1 = some (tyJxd2413 k) := by decide +kernel
abbrev cJxd2413_init_da8c8 : ByteArray := prog_33_method_1_code
def yJxd2413_init_da8c8 : MethodName := ⟨RJxd2413, "<init>", "()V"⟩
def RJ0 : String := "java/lang/String"
def TJ0 : u_T := fun k => match k with
  | 0 => ("java/lang/String", "value", "[B", true)
  | 1 => ("java/lang/String", "coder", "B", true)
  | 2 => ("java/lang/String", "hash", "I", false)
  | _ => ("java/lang/String", "hashIsZero", "Z", false)
def tyJ0 : Nat → FieldType := fun k => match k with
  | 0 => .array .byte
  | 1 => .byte
  | 2 => .int
  | _ => .boolean
abbrev wsJ00 : List Cond := u_ws RJ0 TJ0 4
theorem nmJ0 : ∀ a, a < 4 → ∀ b, b < 4 → a ≠ b → (TJ0 a).2.1 ≠ (TJ0 b).2.1 := by decide +kernel
theorem tyJ0_ok : ∀ k, k < 4 → parseFieldDescriptor (TJ0 k).2.2.1 = some (tyJ0 k) := by decide +kernel
abbrev cJ0_init_81219 : ByteArray := prog_35_method_53_code
def yJ0_init_81219 : MethodName := ⟨RJ0, "<init>", "(Ljava/lang/StringBuilder;)V"⟩
abbrev cJ0_length_8abf5 : ByteArray := prog_35_method_54_code
def yJ0_length_8abf5 : MethodName := ⟨RJ0, "length", "()I"⟩
abbrev cJ0_charAt_5068e : ByteArray := prog_35_method_56_code
def yJ0_charAt_5068e : MethodName := ⟨RJ0, "charAt", "(I)C"⟩
abbrev cJ0_equals_9ea2d : ByteArray := prog_35_method_66_code
def yJ0_equals_9ea2d : MethodName := ⟨RJ0, "equals", "(Ljava/lang/Object;)Z"⟩
abbrev cJ0_compareTo_2f485 : ByteArray := prog_35_method_71_code
def yJ0_compareTo_2f485 : MethodName := ⟨RJ0, "compareTo", "(Ljava/lang/String;)I"⟩
abbrev cJ0_getBytes_840e7 : ByteArray := prog_35_method_147_code
def yJ0_getBytes_840e7 : MethodName := ⟨RJ0, "getBytes", "([BIB)V"⟩
abbrev cJ0_init_db425 : ByteArray := prog_35_method_150_code
def yJ0_init_db425 : MethodName := ⟨RJ0, "<init>", "(Ljava/lang/AbstractStringBuilder;Ljava/lang/Void;)V"⟩
abbrev cJ0_coder_7d493 : ByteArray := prog_35_method_152_code
def yJ0_coder_7d493 : MethodName := ⟨RJ0, "coder", "()B"⟩
abbrev cJ0_isLatin1_aae02 : ByteArray := prog_35_method_154_code
def yJ0_isLatin1_aae02 : MethodName := ⟨RJ0, "isLatin1", "()Z"⟩
abbrev cJ0_checkIndex_df160 : ByteArray := prog_35_method_155_code
def yJ0_checkIndex_df160 : MethodName := ⟨RJ0, "checkIndex", "(II)V"⟩
abbrev cJ0_checkOffset_df160 : ByteArray := prog_35_method_156_code
def yJ0_checkOffset_df160 : MethodName := ⟨RJ0, "checkOffset", "(II)V"⟩
abbrev cJ0_checkBoundsOffCount_cabcc : ByteArray := prog_35_method_157_code
def yJ0_checkBoundsOffCount_cabcc : MethodName := ⟨RJ0, "checkBoundsOffCount", "(III)I"⟩
abbrev cJ0_checkBoundsBeginEnd_23922 : ByteArray := prog_35_method_158_code
def yJ0_checkBoundsBeginEnd_23922 : MethodName := ⟨RJ0, "checkBoundsBeginEnd", "(III)V"⟩
abbrev cJ0_compareTo_e47da : ByteArray := prog_35_method_162_code
def yJ0_compareTo_e47da : MethodName := ⟨RJ0, "compareTo", "(Ljava/lang/Object;)I"⟩
def RJ4 : String := "java/lang/StringBuilder"
def TJ4 : u_T := fun k => match k with
  | 0 => ("java/lang/AbstractStringBuilder", "value", "[B", false)
  | 1 => ("java/lang/AbstractStringBuilder", "coder", "B", false)
  | 2 => ("java/lang/AbstractStringBuilder", "maybeLatin1", "Z", false)
  | _ => ("java/lang/AbstractStringBuilder", "count", "I", false)
def tyJ4 : Nat → FieldType := fun k => match k with
  | 0 => .array .byte
  | 1 => .byte
  | 2 => .boolean
  | _ => .int
abbrev wsJ40 : List Cond := u_ws RJ4 TJ4 4
theorem nmJ4 : ∀ a, a < 4 → ∀ b, b < 4 → a ≠ b → (TJ4 a).2.1 ≠ (TJ4 b).2.1 := by decide +kernel
theorem tyJ4_ok : ∀ k, k < 4 → parseFieldDescriptor (TJ4 k).2.2.1 = some (tyJ4 k) := by decide +kernel
abbrev cJ4_init_da8c8 : ByteArray := prog_36_method_1_code
def yJ4_init_da8c8 : MethodName := ⟨RJ4, "<init>", "()V"⟩
abbrev cJ4_init_a7421 : ByteArray := prog_36_method_3_code
def yJ4_init_a7421 : MethodName := ⟨RJ4, "<init>", "(Ljava/lang/String;)V"⟩
abbrev cJ4_compareTo_93759 : ByteArray := prog_36_method_5_code
def yJ4_compareTo_93759 : MethodName := ⟨RJ4, "compareTo", "(Ljava/lang/StringBuilder;)I"⟩
abbrev cJ4_append_15ec4 : ByteArray := prog_36_method_7_code
def yJ4_append_15ec4 : MethodName := ⟨RJ4, "append", "(Ljava/lang/String;)Ljava/lang/StringBuilder;"⟩
abbrev cJ4_append_cf468 : ByteArray := prog_36_method_14_code
def yJ4_append_cf468 : MethodName := ⟨RJ4, "append", "(C)Ljava/lang/StringBuilder;"⟩
abbrev cJ4_append_bf812 : ByteArray := prog_36_method_15_code
def yJ4_append_bf812 : MethodName := ⟨RJ4, "append", "(I)Ljava/lang/StringBuilder;"⟩
abbrev cJ4_append_f7089 : ByteArray := prog_36_method_16_code
def yJ4_append_f7089 : MethodName := ⟨RJ4, "append", "(J)Ljava/lang/StringBuilder;"⟩
abbrev cJ4_toString_0e30d : ByteArray := prog_36_method_42_code
def yJ4_toString_0e30d : MethodName := ⟨RJ4, "toString", "()Ljava/lang/String;"⟩
abbrev cJ4_append_cf1ce : ByteArray := prog_36_method_80_code
def yJ4_append_cf1ce : MethodName := ⟨RJ4, "append", "(Ljava/lang/String;)Ljava/lang/AbstractStringBuilder;"⟩
abbrev cJ4_charAt_5068e : ByteArray := prog_36_method_88_code
def yJ4_charAt_5068e : MethodName := ⟨RJ4, "charAt", "(I)C"⟩
abbrev cJ4_setLength_d00df : ByteArray := prog_36_method_89_code
def yJ4_setLength_d00df : MethodName := ⟨RJ4, "setLength", "(I)V"⟩
abbrev cJ4_length_8abf5 : ByteArray := prog_36_method_93_code
def yJ4_length_8abf5 : MethodName := ⟨RJ4, "length", "()I"⟩
abbrev cJ4_compareTo_e47da : ByteArray := prog_36_method_97_code
def yJ4_compareTo_e47da : MethodName := ⟨RJ4, "compareTo", "(Ljava/lang/Object;)I"⟩
def RJx7c733 : String := "java/lang/StringIndexOutOfBoundsException"
def TJx7c733 : u_T := fun k => match k with
  | 0 => ("java/lang/Throwable", "backtrace", "Ljava/lang/Object;", false)
  | 1 => ("java/lang/Throwable", "detailMessage", "Ljava/lang/String;", false)
  | 2 => ("java/lang/Throwable", "cause", "Ljava/lang/Throwable;", false)
  | 3 => ("java/lang/Throwable", "stackTrace", "[Ljava/lang/StackTraceElement;", false)
  | 4 => ("java/lang/Throwable", "depth", "I", false)
  | _ => ("java/lang/Throwable", "suppressedExceptions", "Ljava/util/List;", false)
def tyJx7c733 : Nat → FieldType := fun k => match k with
  | 0 => .object "java/lang/Object"
  | 1 => .object "java/lang/String"
  | 2 => .object "java/lang/Throwable"
  | 3 => .array (.object "java/lang/StackTraceElement")
  | 4 => .int
  | _ => .object "java/util/List"
abbrev wsJx7c7330 : List Cond := u_ws RJx7c733 TJx7c733 6
theorem nmJx7c733 : ∀ a, a < 6 → ∀ b, b < 6 → a ≠ b → (TJx7c733 a).2.1 ≠ (TJx7c733 b).2.1 := by decide +kernel
theorem tyJx7c733_ok : ∀ k, k < 6 → parseFieldDescriptor (TJx7c733 k).2.2.1 = some (tyJx7c733 k) := by decide +kernel
abbrev cJx7c733_init_d00df : ByteArray := prog_37_method_3_code
def yJx7c733_init_d00df : MethodName := ⟨RJx7c733, "<init>", "(I)V"⟩
def RJ1 : String := "java/lang/StringLatin1"
def TJ1 : u_T := fun k => match k with
  | _ => ("", "", "", false)
def tyJ1 : Nat → FieldType := fun k => match k with
  | _ => .int
abbrev wsJ10 : List Cond := u_ws RJ1 TJ1 0
theorem nmJ1 : ∀ a, a < 0 → ∀ b, b < 0 → a ≠ b → (TJ1 a).2.1 ≠ (TJ1 b).2.1 := by decide +kernel
theorem tyJ1_ok : ∀ k, k < 0 → parseFieldDescriptor (TJ1 k).2.2.1 = some (tyJ1 k) := by decide +kernel
abbrev cJ1_charAt_3b067 : ByteArray := prog_38_method_2_code
def yJ1_charAt_3b067 : MethodName := ⟨RJ1, "charAt", "([BI)C"⟩
abbrev cJ1_canEncode_fc78d : ByteArray := prog_38_method_3_code
def yJ1_canEncode_fc78d : MethodName := ⟨RJ1, "canEncode", "(C)Z"⟩
abbrev cJ1_length_9d52b : ByteArray := prog_38_method_5_code
def yJ1_length_9d52b : MethodName := ⟨RJ1, "length", "([B)I"⟩
abbrev cJ1_equals_b5fdf : ByteArray := prog_38_method_13_code
def yJ1_equals_b5fdf : MethodName := ⟨RJ1, "equals", "([B[B)Z"⟩
abbrev cJ1_compareTo_b82b6 : ByteArray := prog_38_method_14_code
def yJ1_compareTo_b82b6 : MethodName := ⟨RJ1, "compareTo", "([B[B)I"⟩
abbrev cJ1_compareTo_66405 : ByteArray := prog_38_method_15_code
def yJ1_compareTo_66405 : MethodName := ⟨RJ1, "compareTo", "([B[BII)I"⟩
abbrev cJ1_compareToUTF16_b82b6 : ByteArray := prog_38_method_16_code
def yJ1_compareToUTF16_b82b6 : MethodName := ⟨RJ1, "compareToUTF16", "([B[B)I"⟩
abbrev cJ1_compareToUTF16_66405 : ByteArray := prog_38_method_17_code
def yJ1_compareToUTF16_66405 : MethodName := ⟨RJ1, "compareToUTF16", "([B[BII)I"⟩
abbrev cJ1_compareToUTF16Values_66405 : ByteArray := prog_38_method_18_code
def yJ1_compareToUTF16Values_66405 : MethodName := ⟨RJ1, "compareToUTF16Values", "([B[BII)I"⟩
abbrev cJ1_getChar_3b067 : ByteArray := prog_38_method_44_code
def yJ1_getChar_3b067 : MethodName := ⟨RJ1, "getChar", "([BI)C"⟩
abbrev cJ1_fillNull_b72d1 : ByteArray := prog_38_method_48_code
def yJ1_fillNull_b72d1 : MethodName := ⟨RJ1, "fillNull", "([BII)V"⟩
abbrev cJ1_inflate_0e8fd : ByteArray := prog_38_method_50_code
def yJ1_inflate_0e8fd : MethodName := ⟨RJ1, "inflate", "([BI[BII)V"⟩
def RJ2 : String := "java/lang/StringUTF16"
def TJ2 : u_T := fun k => match k with
  | _ => ("", "", "", false)
def tyJ2 : Nat → FieldType := fun k => match k with
  | _ => .int
abbrev wsJ20 : List Cond := u_ws RJ2 TJ2 0
theorem nmJ2 : ∀ a, a < 0 → ∀ b, b < 0 → a ≠ b → (TJ2 a).2.1 ≠ (TJ2 b).2.1 := by decide +kernel
theorem tyJ2_ok : ∀ k, k < 0 → parseFieldDescriptor (TJ2 k).2.2.1 = some (tyJ2 k) := by decide +kernel
abbrev cJ2_newBytesFor_77867 : ByteArray := prog_39_method_2_code
def yJ2_newBytesFor_77867 : MethodName := ⟨RJ2, "newBytesFor", "(I)[B"⟩
abbrev cJ2_newBytesLength_0f7a4 : ByteArray := prog_39_method_3_code
def yJ2_newBytesLength_0f7a4 : MethodName := ⟨RJ2, "newBytesLength", "(I)I"⟩
abbrev cJ2_putChar_b72d1 : ByteArray := prog_39_method_4_code
def yJ2_putChar_b72d1 : MethodName := ⟨RJ2, "putChar", "([BII)V"⟩
abbrev cJ2_getChar_3b067 : ByteArray := prog_39_method_5_code
def yJ2_getChar_3b067 : MethodName := ⟨RJ2, "getChar", "([BI)C"⟩
abbrev cJ2_length_9d52b : ByteArray := prog_39_method_6_code
def yJ2_length_9d52b : MethodName := ⟨RJ2, "length", "([B)I"⟩
abbrev cJ2_coderFromArrayLen_85cad : ByteArray := prog_39_method_15_code
def yJ2_coderFromArrayLen_85cad : MethodName := ⟨RJ2, "coderFromArrayLen", "([BI)B"⟩
abbrev cJ2_compress_39247 : ByteArray := prog_39_method_17_code
def yJ2_compress_39247 : MethodName := ⟨RJ2, "compress", "([BII)[B"⟩
abbrev cJ2_compress_5af95 : ByteArray := prog_39_method_22_code
def yJ2_compress_5af95 : MethodName := ⟨RJ2, "compress", "([BI[BII)I"⟩
abbrev cJ2_compareTo_b82b6 : ByteArray := prog_39_method_29_code
def yJ2_compareTo_b82b6 : MethodName := ⟨RJ2, "compareTo", "([B[B)I"⟩
abbrev cJ2_compareTo_66405 : ByteArray := prog_39_method_30_code
def yJ2_compareTo_66405 : MethodName := ⟨RJ2, "compareTo", "([B[BII)I"⟩
abbrev cJ2_compareValues_66405 : ByteArray := prog_39_method_31_code
def yJ2_compareValues_66405 : MethodName := ⟨RJ2, "compareValues", "([B[BII)I"⟩
abbrev cJ2_compareToLatin1_b82b6 : ByteArray := prog_39_method_32_code
def yJ2_compareToLatin1_b82b6 : MethodName := ⟨RJ2, "compareToLatin1", "([B[B)I"⟩
abbrev cJ2_compareToLatin1_66405 : ByteArray := prog_39_method_33_code
def yJ2_compareToLatin1_66405 : MethodName := ⟨RJ2, "compareToLatin1", "([B[BII)I"⟩
abbrev cJ2_fillNull_b72d1 : ByteArray := prog_39_method_70_code
def yJ2_fillNull_b72d1 : MethodName := ⟨RJ2, "fillNull", "([BII)V"⟩
abbrev cJ2_putCharSB_b72d1 : ByteArray := prog_39_method_71_code
def yJ2_putCharSB_b72d1 : MethodName := ⟨RJ2, "putCharSB", "([BII)V"⟩
abbrev cJ2_getChars_46870 : ByteArray := prog_39_method_77_code
def yJ2_getChars_46870 : MethodName := ⟨RJ2, "getChars", "(III[B)I"⟩
abbrev cJ2_getChars_1ba55 : ByteArray := prog_39_method_78_code
def yJ2_getChars_1ba55 : MethodName := ⟨RJ2, "getChars", "(JII[B)I"⟩
abbrev cJ2_putCharsAt_cd4e5 : ByteArray := prog_39_method_81_code
def yJ2_putCharsAt_cd4e5 : MethodName := ⟨RJ2, "putCharsAt", "([BICCCC)I"⟩
abbrev cJ2_charAt_3b067 : ByteArray := prog_39_method_83_code
def yJ2_charAt_3b067 : MethodName := ⟨RJ2, "charAt", "([BI)C"⟩
abbrev cJ2_inflate_0e8fd : ByteArray := prog_39_method_86_code
def yJ2_inflate_0e8fd : MethodName := ⟨RJ2, "inflate", "([BI[BII)V"⟩
abbrev cJ2_getChars_ba4f3 : ByteArray := prog_39_method_89_code
def yJ2_getChars_ba4f3 : MethodName := ⟨RJ2, "getChars", "(II[B)I"⟩
abbrev cJ2_getChars_11360 : ByteArray := prog_39_method_90_code
def yJ2_getChars_11360 : MethodName := ⟨RJ2, "getChars", "(JI[B)I"⟩
abbrev cJ2_checkIndex_2214a : ByteArray := prog_39_method_91_code
def yJ2_checkIndex_2214a : MethodName := ⟨RJ2, "checkIndex", "(I[B)V"⟩
abbrev cJ2_checkOffset_2214a : ByteArray := prog_39_method_92_code
def yJ2_checkOffset_2214a : MethodName := ⟨RJ2, "checkOffset", "(I[B)V"⟩
abbrev cJ2_checkBoundsBeginEnd_d044e : ByteArray := prog_39_method_93_code
def yJ2_checkBoundsBeginEnd_d044e : MethodName := ⟨RJ2, "checkBoundsBeginEnd", "(II[B)V"⟩
abbrev cJ2_checkBoundsOffCount_d044e : ByteArray := prog_39_method_94_code
def yJ2_checkBoundsOffCount_d044e : MethodName := ⟨RJ2, "checkBoundsOffCount", "(II[B)V"⟩
def RJ10 : String := "java/lang/System"
def TJ10 : u_T := fun k => match k with
  | _ => ("", "", "", false)
def tyJ10 : Nat → FieldType := fun k => match k with
  | _ => .int
abbrev wsJ100 : List Cond := u_ws RJ10 TJ10 0
theorem nmJ10 : ∀ a, a < 0 → ∀ b, b < 0 → a ≠ b → (TJ10 a).2.1 ≠ (TJ10 b).2.1 := by decide +kernel
theorem tyJ10_ok : ∀ k, k < 0 → parseFieldDescriptor (TJ10 k).2.2.1 = some (tyJ10 k) := by decide +kernel
def RJxfd54e : String := "java/lang/constant/Constable"
def TJxfd54e : u_T := fun k => match k with
  | _ => ("", "", "", false)
def tyJxfd54e : Nat → FieldType := fun k => match k with
  | _ => .int
abbrev wsJxfd54e0 : List Cond := u_ws RJxfd54e TJxfd54e 0
theorem nmJxfd54e : ∀ a, a < 0 → ∀ b, b < 0 → a ≠ b → (TJxfd54e a).2.1 ≠ (TJxfd54e b).2.1 := by decide +kernel
theorem tyJxfd54e_ok : ∀ k, k < 0 → parseFieldDescriptor (TJxfd54e k).2.2.1 = some (tyJxfd54e k) := by decide +kernel
def RJx3cf43 : String := "java/lang/constant/ConstantDesc"
def TJx3cf43 : u_T := fun k => match k with
  | _ => ("", "", "", false)
def tyJx3cf43 : Nat → FieldType := fun k => match k with
  | _ => .int
abbrev wsJx3cf430 : List Cond := u_ws RJx3cf43 TJx3cf43 0
theorem nmJx3cf43 : ∀ a, a < 0 → ∀ b, b < 0 → a ≠ b → (TJx3cf43 a).2.1 ≠ (TJx3cf43 b).2.1 := by decide +kernel
theorem tyJx3cf43_ok : ∀ k, k < 0 → parseFieldDescriptor (TJx3cf43 k).2.2.1 = some (tyJx3cf43 k) := by decide +kernel
def RJxa1e45 : String := "java/util/AbstractCollection"
def TJxa1e45 : u_T := fun k => match k with
  | _ => ("", "", "", false)
def tyJxa1e45 : Nat → FieldType := fun k => match k with
  | _ => .int
abbrev wsJxa1e450 : List Cond := u_ws RJxa1e45 TJxa1e45 0
theorem nmJxa1e45 : ∀ a, a < 0 → ∀ b, b < 0 → a ≠ b → (TJxa1e45 a).2.1 ≠ (TJxa1e45 b).2.1 := by decide +kernel
theorem tyJxa1e45_ok : ∀ k, k < 0 → parseFieldDescriptor (TJxa1e45 k).2.2.1 = some (tyJxa1e45 k) := by decide +kernel
abbrev cJxa1e45_init_da8c8 : ByteArray := prog_45_method_1_code
def yJxa1e45_init_da8c8 : MethodName := ⟨RJxa1e45, "<init>", "()V"⟩
def RJxc12de : String := "java/util/AbstractList"
def TJxc12de : u_T := fun k => match k with
  | _ => ("", "", "", false)
def tyJxc12de : Nat → FieldType := fun k => match k with
  | _ => .int
abbrev wsJxc12de0 : List Cond := u_ws RJxc12de TJxc12de 0
theorem nmJxc12de : ∀ a, a < 0 → ∀ b, b < 0 → a ≠ b → (TJxc12de a).2.1 ≠ (TJxc12de b).2.1 := by decide +kernel
theorem tyJxc12de_ok : ∀ k, k < 0 → parseFieldDescriptor (TJxc12de k).2.2.1 = some (tyJxc12de k) := by decide +kernel
abbrev cJxc12de_init_da8c8 : ByteArray := prog_46_method_1_code
def yJxc12de_init_da8c8 : MethodName := ⟨RJxc12de, "<init>", "()V"⟩
def RJx35411 : String := "java/util/ArrayList$Itr"
def TJx35411 : u_T := fun k => match k with
  | _ => ("", "", "", false)
def tyJx35411 : Nat → FieldType := fun k => match k with
  | _ => .int
abbrev wsJx354110 : List Cond := u_ws RJx35411 TJx35411 0
theorem nmJx35411 : ∀ a, a < 0 → ∀ b, b < 0 → a ≠ b → (TJx35411 a).2.1 ≠ (TJx35411 b).2.1 := by decide +kernel
theorem tyJx35411_ok : ∀ k, k < 0 → parseFieldDescriptor (TJx35411 k).2.2.1 = some (tyJx35411 k) := by decide +kernel
def RJx8ef59 : String := "java/util/ArrayList$ListItr"
def TJx8ef59 : u_T := fun k => match k with
  | _ => ("", "", "", false)
def tyJx8ef59 : Nat → FieldType := fun k => match k with
  | _ => .int
abbrev wsJx8ef590 : List Cond := u_ws RJx8ef59 TJx8ef59 0
theorem nmJx8ef59 : ∀ a, a < 0 → ∀ b, b < 0 → a ≠ b → (TJx8ef59 a).2.1 ≠ (TJx8ef59 b).2.1 := by decide +kernel
theorem tyJx8ef59_ok : ∀ k, k < 0 → parseFieldDescriptor (TJx8ef59 k).2.2.1 = some (tyJx8ef59 k) := by decide +kernel
def RJx4a65c : String := "java/util/ArrayList"
def TJx4a65c : u_T := fun k => match k with
  | 0 => ("java/util/AbstractList", "modCount", "I", false)
  | 1 => ("java/util/ArrayList", "elementData", "[Ljava/lang/Object;", false)
  | _ => ("java/util/ArrayList", "size", "I", false)
def tyJx4a65c : Nat → FieldType := fun k => match k with
  | 0 => .int
  | 1 => .array (.object "java/lang/Object")
  | _ => .int
abbrev wsJx4a65c0 : List Cond := u_ws RJx4a65c TJx4a65c 3
theorem nmJx4a65c : ∀ a, a < 3 → ∀ b, b < 3 → a ≠ b → (TJx4a65c a).2.1 ≠ (TJx4a65c b).2.1 := by decide +kernel
theorem tyJx4a65c_ok : ∀ k, k < 3 → parseFieldDescriptor (TJx4a65c k).2.2.1 = some (tyJx4a65c k) := by decide +kernel
abbrev cJx4a65c_init_da8c8 : ByteArray := prog_47_method_2_code
def yJx4a65c_init_da8c8 : MethodName := ⟨RJx4a65c, "<init>", "()V"⟩
abbrev cJx4a65c_grow_92f84 : ByteArray := prog_47_method_6_code
def yJx4a65c_grow_92f84 : MethodName := ⟨RJx4a65c, "grow", "(I)[Ljava/lang/Object;"⟩
abbrev cJx4a65c_grow_d5877 : ByteArray := prog_47_method_7_code
def yJx4a65c_grow_d5877 : MethodName := ⟨RJx4a65c, "grow", "()[Ljava/lang/Object;"⟩
abbrev cJx4a65c_size_8abf5 : ByteArray := prog_47_method_8_code
def yJx4a65c_size_8abf5 : MethodName := ⟨RJx4a65c, "size", "()I"⟩
abbrev cJx4a65c_elementData_915e3 : ByteArray := prog_47_method_18_code
def yJx4a65c_elementData_915e3 : MethodName := ⟨RJx4a65c, "elementData", "(I)Ljava/lang/Object;"⟩
abbrev cJx4a65c_get_915e3 : ByteArray := prog_47_method_20_code
def yJx4a65c_get_915e3 : MethodName := ⟨RJx4a65c, "get", "(I)Ljava/lang/Object;"⟩
abbrev cJx4a65c_add_72be8 : ByteArray := prog_47_method_24_code
def yJx4a65c_add_72be8 : MethodName := ⟨RJx4a65c, "add", "(Ljava/lang/Object;[Ljava/lang/Object;I)V"⟩
abbrev cJx4a65c_add_9ea2d : ByteArray := prog_47_method_25_code
def yJx4a65c_add_9ea2d : MethodName := ⟨RJx4a65c, "add", "(Ljava/lang/Object;)Z"⟩
abbrev cJx4a65c_sort_a3821 : ByteArray := prog_47_method_66_code
def yJx4a65c_sort_a3821 : MethodName := ⟨RJx4a65c, "sort", "(Ljava/util/Comparator;)V"⟩
def RJxfb636 : String := "java/util/Arrays$LegacyMergeSort"
def TJxfb636 : u_T := fun k => match k with
  | _ => ("", "", "", false)
def tyJxfb636 : Nat → FieldType := fun k => match k with
  | _ => .int
abbrev wsJxfb6360 : List Cond := u_ws RJxfb636 TJxfb636 0
theorem nmJxfb636 : ∀ a, a < 0 → ∀ b, b < 0 → a ≠ b → (TJxfb636 a).2.1 ≠ (TJxfb636 b).2.1 := by decide +kernel
theorem tyJxfb636_ok : ∀ k, k < 0 → parseFieldDescriptor (TJxfb636 k).2.2.1 = some (tyJxfb636 k) := by decide +kernel
def RJ7 : String := "java/util/Arrays"
def TJ7 : u_T := fun k => match k with
  | _ => ("", "", "", false)
def tyJ7 : Nat → FieldType := fun k => match k with
  | _ => .int
abbrev wsJ70 : List Cond := u_ws RJ7 TJ7 0
theorem nmJ7 : ∀ a, a < 0 → ∀ b, b < 0 → a ≠ b → (TJ7 a).2.1 ≠ (TJ7 b).2.1 := by decide +kernel
theorem tyJ7_ok : ∀ k, k < 0 → parseFieldDescriptor (TJ7 k).2.2.1 = some (tyJ7 k) := by decide +kernel
abbrev cJ7_rangeCheck_23922 : ByteArray := prog_50_method_30_code
def yJ7_rangeCheck_23922 : MethodName := ⟨RJ7, "rangeCheck", "(III)V"⟩
abbrev cJ7_sort_ec627 : ByteArray := prog_50_method_37_code
def yJ7_sort_ec627 : MethodName := ⟨RJ7, "sort", "([Ljava/lang/Object;II)V"⟩
abbrev cJ7_sort_a871f : ByteArray := prog_50_method_43_code
def yJ7_sort_a871f : MethodName := ⟨RJ7, "sort", "([Ljava/lang/Object;IILjava/util/Comparator;)V"⟩
abbrev cJ7_fill_53178 : ByteArray := prog_50_method_103_code
def yJ7_fill_53178 : MethodName := ⟨RJ7, "fill", "([II)V"⟩
abbrev cJ7_fill_eb02e : ByteArray := prog_50_method_110_code
def yJ7_fill_eb02e : MethodName := ⟨RJ7, "fill", "([BIIB)V"⟩
abbrev cJ7_copyOf_1904c : ByteArray := prog_50_method_119_code
def yJ7_copyOf_1904c : MethodName := ⟨RJ7, "copyOf", "([Ljava/lang/Object;I)[Ljava/lang/Object;"⟩
abbrev cJ7_copyOf_6403c : ByteArray := prog_50_method_120_code
def yJ7_copyOf_6403c : MethodName := ⟨RJ7, "copyOf", "([Ljava/lang/Object;ILjava/lang/Class;)[Ljava/lang/Object;"⟩
abbrev cJ7_copyOf_9075b : ByteArray := prog_50_method_121_code
def yJ7_copyOf_9075b : MethodName := ⟨RJ7, "copyOf", "([BI)[B"⟩
abbrev cJ7_checkLength_df160 : ByteArray := prog_50_method_131_code
def yJ7_checkLength_df160 : MethodName := ⟨RJ7, "checkLength", "(II)V"⟩
abbrev cJ7_copyOfRange_39247 : ByteArray := prog_50_method_132_code
def yJ7_copyOfRange_39247 : MethodName := ⟨RJ7, "copyOfRange", "([BII)[B"⟩
abbrev cJ7_copyOfRangeByte_39247 : ByteArray := prog_50_method_133_code
def yJ7_copyOfRangeByte_39247 : MethodName := ⟨RJ7, "copyOfRangeByte", "([BII)[B"⟩
def RJx5ef63 : String := "java/util/Collection"
def TJx5ef63 : u_T := fun k => match k with
  | _ => ("", "", "", false)
def tyJx5ef63 : Nat → FieldType := fun k => match k with
  | _ => .int
abbrev wsJx5ef630 : List Cond := u_ws RJx5ef63 TJx5ef63 0
theorem nmJx5ef63 : ∀ a, a < 0 → ∀ b, b < 0 → a ≠ b → (TJx5ef63 a).2.1 ≠ (TJx5ef63 b).2.1 := by decide +kernel
theorem tyJx5ef63_ok : ∀ k, k < 0 → parseFieldDescriptor (TJx5ef63 k).2.2.1 = some (tyJx5ef63 k) := by decide +kernel
def RJxd5e46 : String := "java/util/Collections"
def TJxd5e46 : u_T := fun k => match k with
  | _ => ("", "", "", false)
def tyJxd5e46 : Nat → FieldType := fun k => match k with
  | _ => .int
abbrev wsJxd5e460 : List Cond := u_ws RJxd5e46 TJxd5e46 0
theorem nmJxd5e46 : ∀ a, a < 0 → ∀ b, b < 0 → a ≠ b → (TJxd5e46 a).2.1 ≠ (TJxd5e46 b).2.1 := by decide +kernel
theorem tyJxd5e46_ok : ∀ k, k < 0 → parseFieldDescriptor (TJxd5e46 k).2.2.1 = some (tyJxd5e46 k) := by decide +kernel
abbrev cJxd5e46_sort_2ec40 : ByteArray := prog_53_method_2_code
def yJxd5e46_sort_2ec40 : MethodName := ⟨RJxd5e46, "sort", "(Ljava/util/List;)V"⟩
def RJx2f0ea : String := "java/util/ComparableTimSort"
def TJx2f0ea : u_T := fun k => match k with
  | 0 => ("java/util/ComparableTimSort", "a", "[Ljava/lang/Object;", true)
  | 1 => ("java/util/ComparableTimSort", "minGallop", "I", false)
  | 2 => ("java/util/ComparableTimSort", "tmp", "[Ljava/lang/Object;", false)
  | 3 => ("java/util/ComparableTimSort", "tmpBase", "I", false)
  | 4 => ("java/util/ComparableTimSort", "tmpLen", "I", false)
  | 5 => ("java/util/ComparableTimSort", "stackSize", "I", false)
  | 6 => ("java/util/ComparableTimSort", "runBase", "[I", true)
  | _ => ("java/util/ComparableTimSort", "runLen", "[I", true)
def tyJx2f0ea : Nat → FieldType := fun k => match k with
  | 0 => .array (.object "java/lang/Object")
  | 1 => .int
  | 2 => .array (.object "java/lang/Object")
  | 3 => .int
  | 4 => .int
  | 5 => .int
  | 6 => .array .int
  | _ => .array .int
abbrev wsJx2f0ea0 : List Cond := u_ws RJx2f0ea TJx2f0ea 8
theorem nmJx2f0ea : ∀ a, a < 8 → ∀ b, b < 8 → a ≠ b → (TJx2f0ea a).2.1 ≠ (TJx2f0ea b).2.1 := by decide +kernel
theorem tyJx2f0ea_ok : ∀ k, k < 8 → parseFieldDescriptor (TJx2f0ea k).2.2.1 = some (tyJx2f0ea k) := by decide +kernel
abbrev cJx2f0ea_init_5bcab : ByteArray := prog_54_method_1_code
def yJx2f0ea_init_5bcab : MethodName := ⟨RJx2f0ea, "<init>", "([Ljava/lang/Object;[Ljava/lang/Object;II)V"⟩
abbrev cJx2f0ea_sort_50963 : ByteArray := prog_54_method_2_code
def yJx2f0ea_sort_50963 : MethodName := ⟨RJx2f0ea, "sort", "([Ljava/lang/Object;II[Ljava/lang/Object;II)V"⟩
abbrev cJx2f0ea_binarySort_cb36d : ByteArray := prog_54_method_3_code
def yJx2f0ea_binarySort_cb36d : MethodName := ⟨RJx2f0ea, "binarySort", "([Ljava/lang/Object;III)V"⟩
abbrev cJx2f0ea_countRunAndMakeAscending_0373e : ByteArray := prog_54_method_4_code
def yJx2f0ea_countRunAndMakeAscending_0373e : MethodName := ⟨RJx2f0ea, "countRunAndMakeAscending", "([Ljava/lang/Object;II)I"⟩
abbrev cJx2f0ea_reverseRange_ec627 : ByteArray := prog_54_method_5_code
def yJx2f0ea_reverseRange_ec627 : MethodName := ⟨RJx2f0ea, "reverseRange", "([Ljava/lang/Object;II)V"⟩
abbrev cJx2f0ea_minRunLength_0f7a4 : ByteArray := prog_54_method_6_code
def yJx2f0ea_minRunLength_0f7a4 : MethodName := ⟨RJx2f0ea, "minRunLength", "(I)I"⟩
abbrev cJx2f0ea_pushRun_df160 : ByteArray := prog_54_method_7_code
def yJx2f0ea_pushRun_df160 : MethodName := ⟨RJx2f0ea, "pushRun", "(II)V"⟩
abbrev cJx2f0ea_mergeCollapse_da8c8 : ByteArray := prog_54_method_8_code
def yJx2f0ea_mergeCollapse_da8c8 : MethodName := ⟨RJx2f0ea, "mergeCollapse", "()V"⟩
abbrev cJx2f0ea_mergeForceCollapse_da8c8 : ByteArray := prog_54_method_9_code
def yJx2f0ea_mergeForceCollapse_da8c8 : MethodName := ⟨RJx2f0ea, "mergeForceCollapse", "()V"⟩
abbrev cJx2f0ea_mergeAt_d00df : ByteArray := prog_54_method_10_code
def yJx2f0ea_mergeAt_d00df : MethodName := ⟨RJx2f0ea, "mergeAt", "(I)V"⟩
abbrev cJx2f0ea_gallopLeft_017de : ByteArray := prog_54_method_11_code
def yJx2f0ea_gallopLeft_017de : MethodName := ⟨RJx2f0ea, "gallopLeft", "(Ljava/lang/Comparable;[Ljava/lang/Object;III)I"⟩
abbrev cJx2f0ea_gallopRight_017de : ByteArray := prog_54_method_12_code
def yJx2f0ea_gallopRight_017de : MethodName := ⟨RJx2f0ea, "gallopRight", "(Ljava/lang/Comparable;[Ljava/lang/Object;III)I"⟩
abbrev cJx2f0ea_mergeLo_42cf8 : ByteArray := prog_54_method_13_code
def yJx2f0ea_mergeLo_42cf8 : MethodName := ⟨RJx2f0ea, "mergeLo", "(IIII)V"⟩
abbrev cJx2f0ea_mergeHi_42cf8 : ByteArray := prog_54_method_14_code
def yJx2f0ea_mergeHi_42cf8 : MethodName := ⟨RJx2f0ea, "mergeHi", "(IIII)V"⟩
abbrev cJx2f0ea_ensureCapacity_92f84 : ByteArray := prog_54_method_15_code
def yJx2f0ea_ensureCapacity_92f84 : MethodName := ⟨RJx2f0ea, "ensureCapacity", "(I)[Ljava/lang/Object;"⟩
def RJxa8996 : String := "java/util/Comparator"
def TJxa8996 : u_T := fun k => match k with
  | _ => ("", "", "", false)
def tyJxa8996 : Nat → FieldType := fun k => match k with
  | _ => .int
abbrev wsJxa89960 : List Cond := u_ws RJxa8996 TJxa8996 0
theorem nmJxa8996 : ∀ a, a < 0 → ∀ b, b < 0 → a ≠ b → (TJxa8996 a).2.1 ≠ (TJxa8996 b).2.1 := by decide +kernel
theorem tyJxa8996_ok : ∀ k, k < 0 → parseFieldDescriptor (TJxa8996 k).2.2.1 = some (tyJxa8996 k) := by decide +kernel
def RJx75c98 : String := "java/util/ConcurrentModificationException"
def TJx75c98 : u_T := fun k => match k with
  | _ => ("", "", "", false)
def tyJx75c98 : Nat → FieldType := fun k => match k with
  | _ => .int
abbrev wsJx75c980 : List Cond := u_ws RJx75c98 TJx75c98 0
theorem nmJx75c98 : ∀ a, a < 0 → ∀ b, b < 0 → a ≠ b → (TJx75c98 a).2.1 ≠ (TJx75c98 b).2.1 := by decide +kernel
theorem tyJx75c98_ok : ∀ k, k < 0 → parseFieldDescriptor (TJx75c98 k).2.2.1 = some (tyJx75c98 k) := by decide +kernel
def RJx4d0d8 : String := "java/util/Iterator"
def TJx4d0d8 : u_T := fun k => match k with
  | _ => ("", "", "", false)
def tyJx4d0d8 : Nat → FieldType := fun k => match k with
  | _ => .int
abbrev wsJx4d0d80 : List Cond := u_ws RJx4d0d8 TJx4d0d8 0
theorem nmJx4d0d8 : ∀ a, a < 0 → ∀ b, b < 0 → a ≠ b → (TJx4d0d8 a).2.1 ≠ (TJx4d0d8 b).2.1 := by decide +kernel
theorem tyJx4d0d8_ok : ∀ k, k < 0 → parseFieldDescriptor (TJx4d0d8 k).2.2.1 = some (tyJx4d0d8 k) := by decide +kernel
def RJxbd725 : String := "java/util/List"
def TJxbd725 : u_T := fun k => match k with
  | _ => ("", "", "", false)
def tyJxbd725 : Nat → FieldType := fun k => match k with
  | _ => .int
abbrev wsJxbd7250 : List Cond := u_ws RJxbd725 TJxbd725 0
theorem nmJxbd725 : ∀ a, a < 0 → ∀ b, b < 0 → a ≠ b → (TJxbd725 a).2.1 ≠ (TJxbd725 b).2.1 := by decide +kernel
theorem tyJxbd725_ok : ∀ k, k < 0 → parseFieldDescriptor (TJxbd725 k).2.2.1 = some (tyJxbd725 k) := by decide +kernel
def RJxdb728 : String := "java/util/ListIterator"
def TJxdb728 : u_T := fun k => match k with
  | _ => ("", "", "", false)
def tyJxdb728 : Nat → FieldType := fun k => match k with
  | _ => .int
abbrev wsJxdb7280 : List Cond := u_ws RJxdb728 TJxdb728 0
theorem nmJxdb728 : ∀ a, a < 0 → ∀ b, b < 0 → a ≠ b → (TJxdb728 a).2.1 ≠ (TJxdb728 b).2.1 := by decide +kernel
theorem tyJxdb728_ok : ∀ k, k < 0 → parseFieldDescriptor (TJxdb728 k).2.2.1 = some (tyJxdb728 k) := by decide +kernel
def RJ15 : String := "java/util/Objects"
def TJ15 : u_T := fun k => match k with
  | _ => ("", "", "", false)
def tyJ15 : Nat → FieldType := fun k => match k with
  | _ => .int
abbrev wsJ150 : List Cond := u_ws RJ15 TJ15 0
theorem nmJ15 : ∀ a, a < 0 → ∀ b, b < 0 → a ≠ b → (TJ15 a).2.1 ≠ (TJ15 b).2.1 := by decide +kernel
theorem tyJ15_ok : ∀ k, k < 0 → parseFieldDescriptor (TJ15 k).2.2.1 = some (tyJ15 k) := by decide +kernel
abbrev cJ15_checkIndex_7cf53 : ByteArray := prog_61_method_17_code
def yJ15_checkIndex_7cf53 : MethodName := ⟨RJ15, "checkIndex", "(II)I"⟩
def RJxf0a74 : String := "java/util/RandomAccess"
def TJxf0a74 : u_T := fun k => match k with
  | _ => ("", "", "", false)
def tyJxf0a74 : Nat → FieldType := fun k => match k with
  | _ => .int
abbrev wsJxf0a740 : List Cond := u_ws RJxf0a74 TJxf0a74 0
theorem nmJxf0a74 : ∀ a, a < 0 → ∀ b, b < 0 → a ≠ b → (TJxf0a74 a).2.1 ≠ (TJxf0a74 b).2.1 := by decide +kernel
theorem tyJxf0a74_ok : ∀ k, k < 0 → parseFieldDescriptor (TJxf0a74 k).2.2.1 = some (tyJxf0a74 k) := by decide +kernel
def RJxa66e6 : String := "java/util/SequencedCollection"
def TJxa66e6 : u_T := fun k => match k with
  | _ => ("", "", "", false)
def tyJxa66e6 : Nat → FieldType := fun k => match k with
  | _ => .int
abbrev wsJxa66e60 : List Cond := u_ws RJxa66e6 TJxa66e6 0
theorem nmJxa66e6 : ∀ a, a < 0 → ∀ b, b < 0 → a ≠ b → (TJxa66e6 a).2.1 ≠ (TJxa66e6 b).2.1 := by decide +kernel
theorem tyJxa66e6_ok : ∀ k, k < 0 → parseFieldDescriptor (TJxa66e6 k).2.2.1 = some (tyJxa66e6 k) := by decide +kernel
def RJxfee68 : String := "java/util/TimSort"
def TJxfee68 : u_T := fun k => match k with
  | _ => ("", "", "", false)
def tyJxfee68 : Nat → FieldType := fun k => match k with
  | _ => .int
abbrev wsJxfee680 : List Cond := u_ws RJxfee68 TJxfee68 0
theorem nmJxfee68 : ∀ a, a < 0 → ∀ b, b < 0 → a ≠ b → (TJxfee68 a).2.1 ≠ (TJxfee68 b).2.1 := by decide +kernel
theorem tyJxfee68_ok : ∀ k, k < 0 → parseFieldDescriptor (TJxfee68 k).2.2.1 = some (tyJxfee68 k) := by decide +kernel
abbrev cJxfee68_sort_c7964 : ByteArray := prog_64_method_2_code
def yJxfee68_sort_c7964 : MethodName := ⟨RJxfee68, "sort", "([Ljava/lang/Object;IILjava/util/Comparator;[Ljava/lang/Object;II)V"⟩
abbrev cJxfee68_binarySort_68778 : ByteArray := prog_64_method_3_code
def yJxfee68_binarySort_68778 : MethodName := ⟨RJxfee68, "binarySort", "([Ljava/lang/Object;IIILjava/util/Comparator;)V"⟩
abbrev cJxfee68_countRunAndMakeAscending_9f01e : ByteArray := prog_64_method_4_code
def yJxfee68_countRunAndMakeAscending_9f01e : MethodName := ⟨RJxfee68, "countRunAndMakeAscending", "([Ljava/lang/Object;IILjava/util/Comparator;)I"⟩
abbrev cJxfee68_reverseRange_ec627 : ByteArray := prog_64_method_5_code
def yJxfee68_reverseRange_ec627 : MethodName := ⟨RJxfee68, "reverseRange", "([Ljava/lang/Object;II)V"⟩
def RJx9a822 : String := "jdk/internal/misc/Unsafe"
def TJx9a822 : u_T := fun k => match k with
  | _ => ("", "", "", false)
def tyJx9a822 : Nat → FieldType := fun k => match k with
  | _ => .int
abbrev wsJx9a8220 : List Cond := u_ws RJx9a822 TJx9a822 0
theorem nmJx9a822 : ∀ a, a < 0 → ∀ b, b < 0 → a ≠ b → (TJx9a822 a).2.1 ≠ (TJx9a822 b).2.1 := by decide +kernel
theorem tyJx9a822_ok : ∀ k, k < 0 → parseFieldDescriptor (TJx9a822 k).2.2.1 = some (tyJx9a822 k) := by decide +kernel
abbrev cJx9a822_getLongUnaligned_f02c6 : ByteArray := prog_65_method_334_code
def yJx9a822_getLongUnaligned_f02c6 : MethodName := ⟨RJx9a822, "getLongUnaligned", "(Ljava/lang/Object;J)J"⟩
abbrev cJx9a822_getIntUnaligned_25a47 : ByteArray := prog_65_method_336_code
def yJx9a822_getIntUnaligned_25a47 : MethodName := ⟨RJx9a822, "getIntUnaligned", "(Ljava/lang/Object;J)I"⟩
abbrev cJx9a822_pickPos_7cf53 : ByteArray := prog_65_method_350_code
def yJx9a822_pickPos_7cf53 : MethodName := ⟨RJx9a822, "pickPos", "(II)I"⟩
abbrev cJx9a822_makeLong_0477f : ByteArray := prog_65_method_351_code
def yJx9a822_makeLong_0477f : MethodName := ⟨RJx9a822, "makeLong", "(BBBBBBBB)J"⟩
abbrev cJx9a822_makeLong_4b46d : ByteArray := prog_65_method_352_code
def yJx9a822_makeLong_4b46d : MethodName := ⟨RJx9a822, "makeLong", "(SSSS)J"⟩
abbrev cJx9a822_makeLong_a216e : ByteArray := prog_65_method_353_code
def yJx9a822_makeLong_a216e : MethodName := ⟨RJx9a822, "makeLong", "(II)J"⟩
abbrev cJx9a822_makeInt_4e28c : ByteArray := prog_65_method_354_code
def yJx9a822_makeInt_4e28c : MethodName := ⟨RJx9a822, "makeInt", "(SS)I"⟩
abbrev cJx9a822_makeInt_86272 : ByteArray := prog_65_method_355_code
def yJx9a822_makeInt_86272 : MethodName := ⟨RJx9a822, "makeInt", "(BBBB)I"⟩
abbrev cJx9a822_toUnsignedInt_4d018 : ByteArray := prog_65_method_366_code
def yJx9a822_toUnsignedInt_4d018 : MethodName := ⟨RJx9a822, "toUnsignedInt", "(B)I"⟩
abbrev cJx9a822_toUnsignedInt_f1ed4 : ByteArray := prog_65_method_367_code
def yJx9a822_toUnsignedInt_f1ed4 : MethodName := ⟨RJx9a822, "toUnsignedInt", "(S)I"⟩
abbrev cJx9a822_toUnsignedLong_c5be9 : ByteArray := prog_65_method_368_code
def yJx9a822_toUnsignedLong_c5be9 : MethodName := ⟨RJx9a822, "toUnsignedLong", "(B)J"⟩
abbrev cJx9a822_toUnsignedLong_51cfc : ByteArray := prog_65_method_369_code
def yJx9a822_toUnsignedLong_51cfc : MethodName := ⟨RJx9a822, "toUnsignedLong", "(S)J"⟩
abbrev cJx9a822_toUnsignedLong_3e8ac : ByteArray := prog_65_method_370_code
def yJx9a822_toUnsignedLong_3e8ac : MethodName := ⟨RJx9a822, "toUnsignedLong", "(I)J"⟩
def RJxf92f9 : String := "jdk/internal/misc/UnsafeConstants"
def TJxf92f9 : u_T := fun k => match k with
  | _ => ("", "", "", false)
def tyJxf92f9 : Nat → FieldType := fun k => match k with
  | _ => .int
abbrev wsJxf92f90 : List Cond := u_ws RJxf92f9 TJxf92f9 0
theorem nmJxf92f9 : ∀ a, a < 0 → ∀ b, b < 0 → a ≠ b → (TJxf92f9 a).2.1 ≠ (TJxf92f9 b).2.1 := by decide +kernel
theorem tyJxf92f9_ok : ∀ k, k < 0 → parseFieldDescriptor (TJxf92f9 k).2.2.1 = some (tyJxf92f9 k) := by decide +kernel
def RJ8 : String := "jdk/internal/util/ArraysSupport"
def TJ8 : u_T := fun k => match k with
  | _ => ("", "", "", false)
def tyJ8 : Nat → FieldType := fun k => match k with
  | _ => .int
abbrev wsJ80 : List Cond := u_ws RJ8 TJ8 0
theorem nmJ8 : ∀ a, a < 0 → ∀ b, b < 0 → a ≠ b → (TJ8 a).2.1 ≠ (TJ8 b).2.1 := by decide +kernel
theorem tyJ8_ok : ∀ k, k < 0 → parseFieldDescriptor (TJ8 k).2.2.1 = some (tyJ8 k) := by decide +kernel
abbrev cJ8_vectorizedMismatch_456ae : ByteArray := prog_67_method_3_code
def yJ8_vectorizedMismatch_456ae : MethodName := ⟨RJ8, "vectorizedMismatch", "(Ljava/lang/Object;JLjava/lang/Object;JII)I"⟩
abbrev cJ8_mismatch_cb723 : ByteArray := prog_67_method_13_code
def yJ8_mismatch_cb723 : MethodName := ⟨RJ8, "mismatch", "([B[BI)I"⟩
abbrev cJ8_newLength_cabcc : ByteArray := prog_67_method_27_code
def yJ8_newLength_cabcc : MethodName := ⟨RJ8, "newLength", "(III)I"⟩
abbrev cJ8_hugeLength_7cf53 : ByteArray := prog_67_method_28_code
def yJ8_hugeLength_7cf53 : MethodName := ⟨RJ8, "hugeLength", "(II)I"⟩
def RJ3 : String := "jdk/internal/util/Preconditions"
def TJ3 : u_T := fun k => match k with
  | _ => ("", "", "", false)
def tyJ3 : Nat → FieldType := fun k => match k with
  | _ => .int
abbrev wsJ30 : List Cond := u_ws RJ3 TJ3 0
theorem nmJ3 : ∀ a, a < 0 → ∀ b, b < 0 → a ≠ b → (TJ3 a).2.1 ≠ (TJ3 b).2.1 := by decide +kernel
theorem tyJ3_ok : ∀ k, k < 0 → parseFieldDescriptor (TJ3 k).2.2.1 = some (tyJ3 k) := by decide +kernel
abbrev cJ3_checkIndex_8e157 : ByteArray := prog_68_method_11_code
def yJ3_checkIndex_8e157 : MethodName := ⟨RJ3, "checkIndex", "(IILjava/util/function/BiFunction;)I"⟩
abbrev cJ3_checkFromToIndex_8c36e : ByteArray := prog_68_method_12_code
def yJ3_checkFromToIndex_8c36e : MethodName := ⟨RJ3, "checkFromToIndex", "(IIILjava/util/function/BiFunction;)I"⟩
abbrev cJ3_checkFromIndexSize_8c36e : ByteArray := prog_68_method_13_code
def yJ3_checkFromIndexSize_8c36e : MethodName := ⟨RJ3, "checkFromIndexSize", "(IIILjava/util/function/BiFunction;)I"⟩
def RL : String := "NeedleBakeryLaw"
abbrev cL_cell : ByteArray := method_2_code
def yL_cell : MethodName := ⟨RL, "cell", "([II)I"⟩
abbrev cL_addNeedle : ByteArray := method_3_code
def yL_addNeedle : MethodName := ⟨RL, "addNeedle", "(LNeedleBakery;I)I"⟩
abbrev cL_setDeviation : ByteArray := method_4_code
def yL_setDeviation : MethodName := ⟨RL, "setDeviation", "(LNeedleBakery;III)I"⟩
abbrev cL_shift : ByteArray := method_5_code
def yL_shift : MethodName := ⟨RL, "shift", "(LNeedleBakery;II)I"⟩
abbrev cL_correct : ByteArray := method_6_code
def yL_correct : MethodName := ⟨RL, "correct", "(LNeedleBakery;I)I"⟩
abbrev cL_discard : ByteArray := method_7_code
def yL_discard : MethodName := ⟨RL, "discard", "(LNeedleBakery;I)I"⟩
abbrev cL_setTolerance : ByteArray := method_8_code
def yL_setTolerance : MethodName := ⟨RL, "setTolerance", "(LNeedleBakery;I)I"⟩
abbrev cL_strengthOf : ByteArray := method_9_code
def yL_strengthOf : MethodName := ⟨RL, "strengthOf", "(LNeedleBakery;I)I"⟩
abbrev cL_isDiscarded : ByteArray := method_10_code
def yL_isDiscarded : MethodName := ⟨RL, "isDiscarded", "(LNeedleBakery;I)I"⟩
abbrev cL_isReject : ByteArray := method_11_code
def yL_isReject : MethodName := ⟨RL, "isReject", "(LNeedleBakery;I)I"⟩
abbrev cL_deviationAt : ByteArray := method_12_code
def yL_deviationAt : MethodName := ⟨RL, "deviationAt", "(LNeedleBakery;II)I"⟩
abbrev cL_trueCourse : ByteArray := method_13_code
def yL_trueCourse : MethodName := ⟨RL, "trueCourse", "(LNeedleBakery;II)I"⟩
abbrev cL_courseFor : ByteArray := method_14_code
def yL_courseFor : MethodName := ⟨RL, "courseFor", "(LNeedleBakery;II)I"⟩
abbrev cL_courseForNearby : ByteArray := method_15_code
def yL_courseForNearby : MethodName := ⟨RL, "courseForNearby", "(LNeedleBakery;II)I"⟩
abbrev cL_missedCourses : ByteArray := method_16_code
def yL_missedCourses : MethodName := ⟨RL, "missedCourses", "(LNeedleBakery;I)I"⟩
abbrev cL_errorOf : ByteArray := method_17_code
def yL_errorOf : MethodName := ⟨RL, "errorOf", "(LNeedleBakery;I)I"⟩
abbrev cL_bestShift : ByteArray := method_18_code
def yL_bestShift : MethodName := ⟨RL, "bestShift", "(LNeedleBakery;I)I"⟩
abbrev cL_bestShiftBySum : ByteArray := method_19_code
def yL_bestShiftBySum : MethodName := ⟨RL, "bestShiftBySum", "(LNeedleBakery;I)I"⟩
abbrev cL_needleAtRank : ByteArray := method_20_code
def yL_needleAtRank : MethodName := ⟨RL, "needleAtRank", "(LNeedleBakery;I)I"⟩
abbrev cL_meanError : ByteArray := method_21_code
def yL_meanError : MethodName := ⟨RL, "meanError", "(LNeedleBakery;)D"⟩
abbrev cL_partnerOf : ByteArray := method_22_code
def yL_partnerOf : MethodName := ⟨RL, "partnerOf", "(LNeedleBakery;I)I"⟩
abbrev cL_addBatch : ByteArray := method_23_code
def yL_addBatch : MethodName := ⟨RL, "addBatch", "(LNeedleBakery;III)I"⟩
abbrev cL_dropBatch : ByteArray := method_24_code
def yL_dropBatch : MethodName := ⟨RL, "dropBatch", "(LNeedleBakery;I)I"⟩
abbrev cL_bake : ByteArray := method_25_code
def yL_bake : MethodName := ⟨RL, "bake", "(LNeedleBakery;I)I"⟩
abbrev cL_rest : ByteArray := method_26_code
def yL_rest : MethodName := ⟨RL, "rest", "(LNeedleBakery;I)I"⟩
abbrev cL_batchAt : ByteArray := method_27_code
def yL_batchAt : MethodName := ⟨RL, "batchAt", "(LNeedleBakery;I)I"⟩
abbrev cL_latenessNow : ByteArray := method_28_code
def yL_latenessNow : MethodName := ⟨RL, "latenessNow", "(LNeedleBakery;I)I"⟩
abbrev cL_bestFirst : ByteArray := method_29_code
def yL_bestFirst : MethodName := ⟨RL, "bestFirst", "(LNeedleBakery;)I"⟩
abbrev cL_bakingShare : ByteArray := method_30_code
def yL_bakingShare : MethodName := ⟨RL, "bakingShare", "(LNeedleBakery;)F"⟩
abbrev cL_writeLabel : ByteArray := method_31_code
def yL_writeLabel : MethodName := ⟨RL, "writeLabel", "(LNeedleBakery;I)I"⟩
abbrev cL_labelAt : ByteArray := method_32_code
def yL_labelAt : MethodName := ⟨RL, "labelAt", "(LNeedleBakery;I)I"⟩
abbrev cL_type : ByteArray := method_33_code
def yL_type : MethodName := ⟨RL, "type", "(LNeedleBakery;C)I"⟩
abbrev cL_execute : ByteArray := method_34_code
def yL_execute : MethodName := ⟨RL, "execute", "(LNeedleBakery;)I"⟩
abbrev cL_errorPosition : ByteArray := method_35_code
def yL_errorPosition : MethodName := ⟨RL, "errorPosition", "(LNeedleBakery;)I"⟩
abbrev cL_failedCommand : ByteArray := method_36_code
def yL_failedCommand : MethodName := ⟨RL, "failedCommand", "(LNeedleBakery;)I"⟩
abbrev cL_undo : ByteArray := method_37_code
def yL_undo : MethodName := ⟨RL, "undo", "(LNeedleBakery;)I"⟩
abbrev cL_restore : ByteArray := method_38_code
def yL_restore : MethodName := ⟨RL, "restore", "(LNeedleBakery;)I"⟩
abbrev cL_said : ByteArray := method_39_code
def yL_said : MethodName := ⟨RL, "said", "(LNeedleBakery;I)Ljava/lang/String;"⟩
abbrev cL_some : ByteArray := method_41_code
def yL_some : MethodName := ⟨RL, "some", "(LNeedleBakeryLaw$Bits;I)I"⟩
abbrev cL_batch : ByteArray := method_42_code
def yL_batch : MethodName := ⟨RL, "batch", "(LNeedleBakery;LNeedleBakeryLaw$Bits;)I"⟩
abbrev cL_degrees : ByteArray := method_43_code
def yL_degrees : MethodName := ⟨RL, "degrees", "(LNeedleBakeryLaw$Bits;)I"⟩
abbrev cL_acts : ByteArray := method_44_code
def yL_acts : MethodName := ⟨RL, "acts", "(LNeedleBakery;ILNeedleBakeryLaw$Bits;)I"⟩
abbrev cL_told : ByteArray := method_45_code
def yL_told : MethodName := ⟨RL, "told", "(LNeedleBakery;)Ljava/lang/String;"⟩
abbrev cL_stock : ByteArray := method_46_code
def yL_stock : MethodName := ⟨RL, "stock", "(LNeedleBakery;)I"⟩
abbrev cL_needles : ByteArray := method_47_code
def yL_needles : MethodName := ⟨RL, "needles", "(LNeedleBakery;)Z"⟩
abbrev cL_courses : ByteArray := method_48_code
def yL_courses : MethodName := ⟨RL, "courses", "(LNeedleBakery;LNeedleBakeryLaw$Bits;)Z"⟩
abbrev cL_isGood : ByteArray := method_49_code
def yL_isGood : MethodName := ⟨RL, "isGood", "(LNeedleBakery;I)Z"⟩
abbrev cL_pairs : ByteArray := method_50_code
def yL_pairs : MethodName := ⟨RL, "pairs", "(LNeedleBakery;)Z"⟩
abbrev cL_batches : ByteArray := method_51_code
def yL_batches : MethodName := ⟨RL, "batches", "(LNeedleBakery;)Z"⟩
abbrev cL_foretold : ByteArray := method_52_code
def yL_foretold : MethodName := ⟨RL, "foretold", "(LNeedleBakery;)Z"⟩
abbrev cL_law : ByteArray := code
def yL_law : MethodName := ⟨RL, "law", "([I)Z"⟩

abbrev vwCl : List vw_C := [(RJ0, TJ0, 4), (RJ4, TJ4, 4), (RJx00060, TJx00060, 6), (RJx7c733, TJx7c733, 6), (RX2, TX2, 3), (RX3, TX3, 5), (RX4, TX4, 1), (RX5, TX5, 10), (RX6, TX6, 2), (RX7, TX7, 6), (RX9, TX9, 2), (RX10, TX10, 11), (RJ6, TJ6, 1), (RJx4a65c, TJx4a65c, 3), (RJx2f0ea, TJx2f0ea, 8), (RX11, TX11, 1)]
