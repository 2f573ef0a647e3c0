def RX0 : String := "HeadReckons$Acts"
def TX0 : u_T := fun k => match k with
  | 0 => ("HeadReckons$Acts", "sorts", "[I", true)
  | 1 => ("HeadReckons$Acts", "mades", "[I", true)
  | 2 => ("HeadReckons$Acts", "lengths", "[I", true)
  | 3 => ("HeadReckons$Acts", "helds", "[I", true)
  | 4 => ("HeadReckons$Acts", "slips", "[I", true)
  | 5 => ("HeadReckons$Acts", "rows", "[I", true)
  | 6 => ("HeadReckons$Acts", "size", "I", false)
  | 7 => ("HeadReckons$Acts", "seconds", "I", false)
  | 8 => ("HeadReckons$Acts", "holds", "I", false)
  | 9 => ("HeadReckons$Acts", "lookTenths", "I", false)
  | 10 => ("HeadReckons$Acts", "addTenths", "I", false)
  | 11 => ("HeadReckons$Acts", "holdTenths", "I", false)
  | 12 => ("HeadReckons$Acts", "heldDigits", "I", false)
  | 13 => ("HeadReckons$Acts", "running", "I", false)
  | 14 => ("HeadReckons$Acts", "runningDigits", "I", false)
  | _ => ("HeadReckons$Acts", "begun", "Z", false)
def tyX0 : Nat → FieldType := fun k => match k with
  | 0 => .array .int
  | 1 => .array .int
  | 2 => .array .int
  | 3 => .array .int
  | 4 => .array .int
  | 5 => .array .int
  | 6 => .int
  | 7 => .int
  | 8 => .int
  | 9 => .int
  | 10 => .int
  | 11 => .int
  | 12 => .int
  | 13 => .int
  | 14 => .int
  | _ => .boolean
abbrev wsX00 : List Cond := u_ws RX0 TX0 16
theorem nmX0 : ∀ a, a < 16 → ∀ b, b < 16 → a ≠ b → (TX0 a).2.1 ≠ (TX0 b).2.1 := by decide +kernel
theorem tyX0_ok : ∀ k, k < 16 → parseFieldDescriptor (TX0 k).2.2.1 = some (tyX0 k) := by decide +kernel
abbrev cX0_init : ByteArray := prog_2_method_1_code
def yX0_init : MethodName := ⟨RX0, "<init>", "()V"⟩
abbrev cX0_size : ByteArray := prog_2_method_2_code
def yX0_size : MethodName := ⟨RX0, "size", "()I"⟩
abbrev cX0_seconds : ByteArray := prog_2_method_3_code
def yX0_seconds : MethodName := ⟨RX0, "seconds", "()I"⟩
abbrev cX0_holds : ByteArray := prog_2_method_4_code
def yX0_holds : MethodName := ⟨RX0, "holds", "()I"⟩
abbrev cX0_told : ByteArray := prog_2_method_5_code
def yX0_told : MethodName := ⟨RX0, "told", "(II)I"⟩
abbrev cX0_reckon : ByteArray := prog_2_method_6_code
def yX0_reckon : MethodName := ⟨RX0, "reckon", "(LHeadReckons$Head;II)Z"⟩
abbrev cX0_begin : ByteArray := prog_2_method_7_code
def yX0_begin : MethodName := ⟨RX0, "begin", "(LHeadReckons$Head;)V"⟩
abbrev cX0_beginAnew : ByteArray := prog_2_method_8_code
def yX0_beginAnew : MethodName := ⟨RX0, "beginAnew", "()V"⟩
abbrev cX0_goKnown : ByteArray := prog_2_method_9_code
def yX0_goKnown : MethodName := ⟨RX0, "goKnown", "(II)Z"⟩
abbrev cX0_goLeft : ByteArray := prog_2_method_10_code
def yX0_goLeft : MethodName := ⟨RX0, "goLeft", "(II)Z"⟩
abbrev cX0_goRight : ByteArray := prog_2_method_11_code
def yX0_goRight : MethodName := ⟨RX0, "goRight", "(II)Z"⟩
abbrev cX0_addRows : ByteArray := prog_2_method_12_code
def yX0_addRows : MethodName := ⟨RX0, "addRows", "(I)V"⟩
abbrev cX0_goCrossed : ByteArray := prog_2_method_13_code
def yX0_goCrossed : MethodName := ⟨RX0, "goCrossed", "(II)Z"⟩
abbrev cX0_goSquared : ByteArray := prog_2_method_14_code
def yX0_goSquared : MethodName := ⟨RX0, "goSquared", "(II)Z"⟩
abbrev cX0_goSplit : ByteArray := prog_2_method_15_code
def yX0_goSplit : MethodName := ⟨RX0, "goSplit", "(III)Z"⟩
abbrev cX0_lookAndAdd : ByteArray := prog_2_method_16_code
def yX0_lookAndAdd : MethodName := ⟨RX0, "lookAndAdd", "(IIII)V"⟩
abbrev cX0_add : ByteArray := prog_2_method_17_code
def yX0_add : MethodName := ⟨RX0, "add", "(II)V"⟩
abbrev cX0_run : ByteArray := prog_2_method_18_code
def yX0_run : MethodName := ⟨RX0, "run", "(I)V"⟩
abbrev cX0_holdRunning : ByteArray := prog_2_method_19_code
def yX0_holdRunning : MethodName := ⟨RX0, "holdRunning", "()V"⟩
abbrev cX0_holdLastFigure : ByteArray := prog_2_method_20_code
def yX0_holdLastFigure : MethodName := ⟨RX0, "holdLastFigure", "()V"⟩
abbrev cX0_letGo : ByteArray := prog_2_method_21_code
def yX0_letGo : MethodName := ⟨RX0, "letGo", "(I)V"⟩
abbrev cX0_note : ByteArray := prog_2_method_22_code
def yX0_note : MethodName := ⟨RX0, "note", "(IIII)V"⟩
abbrev cX0_slipsDrawn : ByteArray := prog_2_method_23_code
def yX0_slipsDrawn : MethodName := ⟨RX0, "slipsDrawn", "(II)I"⟩
abbrev cX0_slipDrawn : ByteArray := prog_2_method_24_code
def yX0_slipDrawn : MethodName := ⟨RX0, "slipDrawn", "(II)I"⟩
abbrev cX0_canSlip : ByteArray := prog_2_method_25_code
def yX0_canSlip : MethodName := ⟨RX0, "canSlip", "(II)Z"⟩
abbrev cX0_firstThatCan : ByteArray := prog_2_method_26_code
def yX0_firstThatCan : MethodName := ⟨RX0, "firstThatCan", "(I)I"⟩
abbrev cX0_howManyCan : ByteArray := prog_2_method_27_code
def yX0_howManyCan : MethodName := ⟨RX0, "howManyCan", "(I)I"⟩
def RX1 : String := "HeadReckons$Bodies"
def TX1 : u_T := fun k => match k with
  | 0 => ("HeadReckons$Bodies", "kinds", "[I", true)
  | 1 => ("HeadReckons$Bodies", "size", "I", false)
  | 2 => ("HeadReckons$Bodies", "traces", "[I", true)
  | 3 => ("HeadReckons$Bodies", "ran", "I", false)
  | _ => ("HeadReckons$Bodies", "self", "I", false)
def tyX1 : Nat → FieldType := fun k => match k with
  | 0 => .array .int
  | 1 => .int
  | 2 => .array .int
  | 3 => .int
  | _ => .int
abbrev wsX10 : List Cond := u_ws RX1 TX1 5
theorem nmX1 : ∀ a, a < 5 → ∀ b, b < 5 → a ≠ b → (TX1 a).2.1 ≠ (TX1 b).2.1 := by decide +kernel
theorem tyX1_ok : ∀ k, k < 5 → parseFieldDescriptor (TX1 k).2.2.1 = some (tyX1 k) := by decide +kernel
abbrev cX1_init : ByteArray := prog_3_method_1_code
def yX1_init : MethodName := ⟨RX1, "<init>", "()V"⟩
abbrev cX1_isKind : ByteArray := prog_3_method_2_code
def yX1_isKind : MethodName := ⟨RX1, "isKind", "(I)Z"⟩
abbrev cX1_isUnder : ByteArray := prog_3_method_3_code
def yX1_isUnder : MethodName := ⟨RX1, "isUnder", "(II)Z"⟩
abbrev cX1_size : ByteArray := prog_3_method_4_code
def yX1_size : MethodName := ⟨RX1, "size", "()I"⟩
abbrev cX1_ranCount : ByteArray := prog_3_method_5_code
def yX1_ranCount : MethodName := ⟨RX1, "ranCount", "()I"⟩
abbrev cX1_has : ByteArray := prog_3_method_6_code
def yX1_has : MethodName := ⟨RX1, "has", "(I)Z"⟩
abbrev cX1_kindOf : ByteArray := prog_3_method_7_code
def yX1_kindOf : MethodName := ⟨RX1, "kindOf", "(I)I"⟩
abbrev cX1_takes : ByteArray := prog_3_method_8_code
def yX1_takes : MethodName := ⟨RX1, "takes", "(I)Z"⟩
abbrev cX1_traced : ByteArray := prog_3_method_9_code
def yX1_traced : MethodName := ⟨RX1, "traced", "(I)I"⟩
abbrev cX1_start : ByteArray := prog_3_method_10_code
def yX1_start : MethodName := ⟨RX1, "start", "(III)I"⟩
abbrev cX1_own : ByteArray := prog_3_method_11_code
def yX1_own : MethodName := ⟨RX1, "own", "(III)I"⟩
abbrev cX1_fromAbove : ByteArray := prog_3_method_12_code
def yX1_fromAbove : MethodName := ⟨RX1, "fromAbove", "(IIII)I"⟩
abbrev cX1_nearest : ByteArray := prog_3_method_13_code
def yX1_nearest : MethodName := ⟨RX1, "nearest", "(IIII)I"⟩
abbrev cX1_run : ByteArray := prog_3_method_14_code
def yX1_run : MethodName := ⟨RX1, "run", "(III)I"⟩
abbrev cX1_noteRun : ByteArray := prog_3_method_15_code
def yX1_noteRun : MethodName := ⟨RX1, "noteRun", "(I)V"⟩
def RX2 : String := "HeadReckons$Changes"
def TX2 : u_T := fun k => match k with
  | 0 => ("HeadReckons$Changes", "heads", "[I", true)
  | 1 => ("HeadReckons$Changes", "whats", "[I", true)
  | 2 => ("HeadReckons$Changes", "befores", "[I", true)
  | 3 => ("HeadReckons$Changes", "afters", "[I", true)
  | 4 => ("HeadReckons$Changes", "standing", "I", false)
  | _ => ("HeadReckons$Changes", "kept", "I", false)
def tyX2 : Nat → FieldType := fun k => match k with
  | 0 => .array .int
  | 1 => .array .int
  | 2 => .array .int
  | 3 => .array .int
  | 4 => .int
  | _ => .int
abbrev wsX20 : List Cond := u_ws RX2 TX2 6
theorem nmX2 : ∀ a, a < 6 → ∀ b, b < 6 → a ≠ b → (TX2 a).2.1 ≠ (TX2 b).2.1 := by decide +kernel
theorem tyX2_ok : ∀ k, k < 6 → parseFieldDescriptor (TX2 k).2.2.1 = some (tyX2 k) := by decide +kernel
abbrev cX2_init : ByteArray := prog_4_method_1_code
def yX2_init : MethodName := ⟨RX2, "<init>", "()V"⟩
abbrev cX2_undoable : ByteArray := prog_4_method_2_code
def yX2_undoable : MethodName := ⟨RX2, "undoable", "()I"⟩
abbrev cX2_redoable : ByteArray := prog_4_method_3_code
def yX2_redoable : MethodName := ⟨RX2, "redoable", "()I"⟩
abbrev cX2_came : ByteArray := prog_4_method_4_code
def yX2_came : MethodName := ⟨RX2, "came", "(IIII)V"⟩
abbrev cX2_forgetOldest : ByteArray := prog_4_method_5_code
def yX2_forgetOldest : MethodName := ⟨RX2, "forgetOldest", "()V"⟩
abbrev cX2_stepBack : ByteArray := prog_4_method_6_code
def yX2_stepBack : MethodName := ⟨RX2, "stepBack", "([LHeadReckons$Head;)V"⟩
abbrev cX2_stepOn : ByteArray := prog_4_method_7_code
def yX2_stepOn : MethodName := ⟨RX2, "stepOn", "([LHeadReckons$Head;)V"⟩
abbrev cX2_apply : ByteArray := prog_4_method_8_code
def yX2_apply : MethodName := ⟨RX2, "apply", "([LHeadReckons$Head;II)V"⟩
def RX3 : String := "HeadReckons$Choice"
def TX3 : u_T := fun k => match k with
  | 0 => ("HeadReckons$Choice", "codes", "[I", true)
  | 1 => ("HeadReckons$Choice", "codeCount", "I", false)
  | 2 => ("HeadReckons$Choice", "draft", "[I", true)
  | 3 => ("HeadReckons$Choice", "draftCount", "I", false)
  | 4 => ("HeadReckons$Choice", "stack", "[I", true)
  | 5 => ("HeadReckons$Choice", "stackSize", "I", false)
  | 6 => ("HeadReckons$Choice", "text", "LHeadReckons$Tape;", true)
  | _ => ("HeadReckons$Choice", "place", "I", false)
def tyX3 : Nat → FieldType := fun k => match k with
  | 0 => .array .int
  | 1 => .int
  | 2 => .array .int
  | 3 => .int
  | 4 => .array .int
  | 5 => .int
  | 6 => .object "HeadReckons$Tape"
  | _ => .int
abbrev wsX30 : List Cond := u_ws RX3 TX3 8
theorem nmX3 : ∀ a, a < 8 → ∀ b, b < 8 → a ≠ b → (TX3 a).2.1 ≠ (TX3 b).2.1 := by decide +kernel
theorem tyX3_ok : ∀ k, k < 8 → parseFieldDescriptor (TX3 k).2.2.1 = some (tyX3 k) := by decide +kernel
abbrev cX3_init : ByteArray := prog_5_method_1_code
def yX3_init : MethodName := ⟨RX3, "<init>", "()V"⟩
abbrev cX3_read : ByteArray := prog_5_method_2_code
def yX3_read : MethodName := ⟨RX3, "read", "(LHeadReckons$Tape;)I"⟩
abbrev cX3_readLines : ByteArray := prog_5_method_3_code
def yX3_readLines : MethodName := ⟨RX3, "readLines", "()Z"⟩
abbrev cX3_readLine : ByteArray := prog_5_method_4_code
def yX3_readLine : MethodName := ⟨RX3, "readLine", "()Z"⟩
abbrev cX3_readAny : ByteArray := prog_5_method_5_code
def yX3_readAny : MethodName := ⟨RX3, "readAny", "(I)Z"⟩
abbrev cX3_readAll : ByteArray := prog_5_method_6_code
def yX3_readAll : MethodName := ⟨RX3, "readAll", "(I)Z"⟩
abbrev cX3_readCompared : ByteArray := prog_5_method_7_code
def yX3_readCompared : MethodName := ⟨RX3, "readCompared", "(I)Z"⟩
abbrev cX3_readSum : ByteArray := prog_5_method_8_code
def yX3_readSum : MethodName := ⟨RX3, "readSum", "(I)Z"⟩
abbrev cX3_readProduct : ByteArray := prog_5_method_9_code
def yX3_readProduct : MethodName := ⟨RX3, "readProduct", "(I)Z"⟩
abbrev cX3_readOperand : ByteArray := prog_5_method_10_code
def yX3_readOperand : MethodName := ⟨RX3, "readOperand", "(I)Z"⟩
abbrev cX3_readOpened : ByteArray := prog_5_method_11_code
def yX3_readOpened : MethodName := ⟨RX3, "readOpened", "(I)Z"⟩
abbrev cX3_readNumber : ByteArray := prog_5_method_12_code
def yX3_readNumber : MethodName := ⟨RX3, "readNumber", "()V"⟩
abbrev cX3_goesOnWith : ByteArray := prog_5_method_13_code
def yX3_goesOnWith : MethodName := ⟨RX3, "goesOnWith", "(I)Z"⟩
abbrev cX3_write : ByteArray := prog_5_method_14_code
def yX3_write : MethodName := ⟨RX3, "write", "(I)V"⟩
abbrev cX3_writeCode : ByteArray := prog_5_method_15_code
def yX3_writeCode : MethodName := ⟨RX3, "writeCode", "(I)V"⟩
abbrev cX3_isName : ByteArray := prog_5_method_16_code
def yX3_isName : MethodName := ⟨RX3, "isName", "(I)Z"⟩
abbrev cX3_numberFor : ByteArray := prog_5_method_17_code
def yX3_numberFor : MethodName := ⟨RX3, "numberFor", "(LHeadReckons$Head;I)I"⟩
abbrev cX3_workOut : ByteArray := prog_5_method_18_code
def yX3_workOut : MethodName := ⟨RX3, "workOut", "(ILHeadReckons$Head;I)V"⟩
abbrev cX3_valueOf : ByteArray := prog_5_method_19_code
def yX3_valueOf : MethodName := ⟨RX3, "valueOf", "(ILHeadReckons$Head;II)I"⟩
abbrev cX3_joined : ByteArray := prog_5_method_20_code
def yX3_joined : MethodName := ⟨RX3, "joined", "(III)I"⟩
abbrev cX3_push : ByteArray := prog_5_method_21_code
def yX3_push : MethodName := ⟨RX3, "push", "(I)V"⟩
abbrev cX3_pop : ByteArray := prog_5_method_22_code
def yX3_pop : MethodName := ⟨RX3, "pop", "()I"⟩
def RX4 : String := "HeadReckons$Figures"
def TX4 : u_T := fun k => match k with
  | _ => ("", "", "", false)
def tyX4 : Nat → FieldType := fun k => match k with
  | _ => .int
abbrev wsX40 : List Cond := u_ws RX4 TX4 0
theorem nmX4 : ∀ a, a < 0 → ∀ b, b < 0 → a ≠ b → (TX4 a).2.1 ≠ (TX4 b).2.1 := by decide +kernel
theorem tyX4_ok : ∀ k, k < 0 → parseFieldDescriptor (TX4 k).2.2.1 = some (tyX4 k) := by decide +kernel
abbrev cX4_tenTo : ByteArray := prog_6_method_2_code
def yX4_tenTo : MethodName := ⟨RX4, "tenTo", "(I)I"⟩
abbrev cX4_longTenTo : ByteArray := prog_6_method_3_code
def yX4_longTenTo : MethodName := ⟨RX4, "longTenTo", "(I)J"⟩
abbrev cX4_sizeOf : ByteArray := prog_6_method_4_code
def yX4_sizeOf : MethodName := ⟨RX4, "sizeOf", "(J)I"⟩
abbrev cX4_figureAt : ByteArray := prog_6_method_5_code
def yX4_figureAt : MethodName := ⟨RX4, "figureAt", "(II)I"⟩
abbrev cX4_noughtsIn : ByteArray := prog_6_method_6_code
def yX4_noughtsIn : MethodName := ⟨RX4, "noughtsIn", "(I)I"⟩
abbrev cX4_isDigit : ByteArray := prog_6_method_7_code
def yX4_isDigit : MethodName := ⟨RX4, "isDigit", "(I)Z"⟩
def RX5 : String := "HeadReckons$Head"
def TX5 : u_T := fun k => match k with
  | 0 => ("HeadReckons$Head", "numbers", "[I", true)
  | 1 => ("HeadReckons$Head", "pairs", "[I", true)
  | 2 => ("HeadReckons$Head", "counts", "[I", true)
  | _ => ("HeadReckons$Head", "pairCount", "I", false)
def tyX5 : Nat → FieldType := fun k => match k with
  | 0 => .array .int
  | 1 => .array .int
  | 2 => .array .int
  | _ => .int
abbrev wsX50 : List Cond := u_ws RX5 TX5 4
theorem nmX5 : ∀ a, a < 4 → ∀ b, b < 4 → a ≠ b → (TX5 a).2.1 ≠ (TX5 b).2.1 := by decide +kernel
theorem tyX5_ok : ∀ k, k < 4 → parseFieldDescriptor (TX5 k).2.2.1 = some (tyX5 k) := by decide +kernel
abbrev cX5_init : ByteArray := prog_7_method_1_code
def yX5_init : MethodName := ⟨RX5, "<init>", "()V"⟩
abbrev cX5_mayBe : ByteArray := prog_7_method_2_code
def yX5_mayBe : MethodName := ⟨RX5, "mayBe", "(II)Z"⟩
abbrev cX5_read : ByteArray := prog_7_method_3_code
def yX5_read : MethodName := ⟨RX5, "read", "(LHeadReckons$Tape;)I"⟩
abbrev cX5_digitsAt : ByteArray := prog_7_method_4_code
def yX5_digitsAt : MethodName := ⟨RX5, "digitsAt", "(LHeadReckons$Tape;I)I"⟩
abbrev cX5_valueAt : ByteArray := prog_7_method_5_code
def yX5_valueAt : MethodName := ⟨RX5, "valueAt", "(LHeadReckons$Tape;II)I"⟩
abbrev cX5_become : ByteArray := prog_7_method_6_code
def yX5_become : MethodName := ⟨RX5, "become", "(LHeadReckons$Head;)V"⟩
abbrev cX5_number : ByteArray := prog_7_method_7_code
def yX5_number : MethodName := ⟨RX5, "number", "(I)I"⟩
abbrev cX5_setNumber : ByteArray := prog_7_method_8_code
def yX5_setNumber : MethodName := ⟨RX5, "setNumber", "(II)V"⟩
abbrev cX5_capacity : ByteArray := prog_7_method_9_code
def yX5_capacity : MethodName := ⟨RX5, "capacity", "()I"⟩
abbrev cX5_looksUp : ByteArray := prog_7_method_10_code
def yX5_looksUp : MethodName := ⟨RX5, "looksUp", "(I)Z"⟩
abbrev cX5_learntCount : ByteArray := prog_7_method_11_code
def yX5_learntCount : MethodName := ⟨RX5, "learntCount", "()I"⟩
abbrev cX5_hear : ByteArray := prog_7_method_12_code
def yX5_hear : MethodName := ⟨RX5, "hear", "(I)I"⟩
abbrev cX5_placeOf : ByteArray := prog_7_method_13_code
def yX5_placeOf : MethodName := ⟨RX5, "placeOf", "(I)I"⟩
def RX6 : String := "HeadReckons$Roots"
def TX6 : u_T := fun k => match k with
  | _ => ("", "", "", false)
def tyX6 : Nat → FieldType := fun k => match k with
  | _ => .int
abbrev wsX60 : List Cond := u_ws RX6 TX6 0
theorem nmX6 : ∀ a, a < 0 → ∀ b, b < 0 → a ≠ b → (TX6 a).2.1 ≠ (TX6 b).2.1 := by decide +kernel
theorem tyX6_ok : ∀ k, k < 0 → parseFieldDescriptor (TX6 k).2.2.1 = some (tyX6 k) := by decide +kernel
abbrev cX6_isNumber : ByteArray := prog_8_method_2_code
def yX6_isNumber : MethodName := ⟨RX6, "isNumber", "(J)Z"⟩
abbrev cX6_isPower : ByteArray := prog_8_method_3_code
def yX6_isPower : MethodName := ⟨RX6, "isPower", "(I)Z"⟩
abbrev cX6_mostRoot : ByteArray := prog_8_method_4_code
def yX6_mostRoot : MethodName := ⟨RX6, "mostRoot", "(I)J"⟩
abbrev cX6_raised : ByteArray := prog_8_method_5_code
def yX6_raised : MethodName := ⟨RX6, "raised", "(JI)J"⟩
abbrev cX6_cutRoot : ByteArray := prog_8_method_6_code
def yX6_cutRoot : MethodName := ⟨RX6, "cutRoot", "(JI)J"⟩
abbrev cX6_whole : ByteArray := prog_8_method_7_code
def yX6_whole : MethodName := ⟨RX6, "whole", "(JI)J"⟩
abbrev cX6_leastWithFirsts : ByteArray := prog_8_method_8_code
def yX6_leastWithFirsts : MethodName := ⟨RX6, "leastWithFirsts", "(JI)J"⟩
abbrev cX6_unitOf : ByteArray := prog_8_method_9_code
def yX6_unitOf : MethodName := ⟨RX6, "unitOf", "(JI)J"⟩
abbrev cX6_fromRoot : ByteArray := prog_8_method_10_code
def yX6_fromRoot : MethodName := ⟨RX6, "fromRoot", "(JII)J"⟩
abbrev cX6_toRoot : ByteArray := prog_8_method_11_code
def yX6_toRoot : MethodName := ⟨RX6, "toRoot", "(JII)J"⟩
abbrev cX6_endsAlike : ByteArray := prog_8_method_12_code
def yX6_endsAlike : MethodName := ⟨RX6, "endsAlike", "(JIJ)Z"⟩
abbrev cX6_howMany : ByteArray := prog_8_method_13_code
def yX6_howMany : MethodName := ⟨RX6, "howMany", "(JII)J"⟩
abbrev cX6_least : ByteArray := prog_8_method_14_code
def yX6_least : MethodName := ⟨RX6, "least", "(JII)J"⟩
def RX7 : String := "HeadReckons$SeenAsks"
def TX7 : u_T := fun k => match k with
  | 0 => ("HeadReckons$SeenAsks", "pairs", "[I", true)
  | 1 => ("HeadReckons$SeenAsks", "tenths", "[I", true)
  | 2 => ("HeadReckons$SeenAsks", "answers", "[I", true)
  | _ => ("HeadReckons$SeenAsks", "size", "I", false)
def tyX7 : Nat → FieldType := fun k => match k with
  | 0 => .array .int
  | 1 => .array .int
  | 2 => .array .int
  | _ => .int
abbrev wsX70 : List Cond := u_ws RX7 TX7 4
theorem nmX7 : ∀ a, a < 4 → ∀ b, b < 4 → a ≠ b → (TX7 a).2.1 ≠ (TX7 b).2.1 := by decide +kernel
theorem tyX7_ok : ∀ k, k < 4 → parseFieldDescriptor (TX7 k).2.2.1 = some (tyX7 k) := by decide +kernel
abbrev cX7_init : ByteArray := prog_9_method_1_code
def yX7_init : MethodName := ⟨RX7, "<init>", "()V"⟩
abbrev cX7_mayBe : ByteArray := prog_9_method_2_code
def yX7_mayBe : MethodName := ⟨RX7, "mayBe", "(II)Z"⟩
abbrev cX7_size : ByteArray := prog_9_method_3_code
def yX7_size : MethodName := ⟨RX7, "size", "()I"⟩
abbrev cX7_has : ByteArray := prog_9_method_4_code
def yX7_has : MethodName := ⟨RX7, "has", "(I)Z"⟩
abbrev cX7_takes : ByteArray := prog_9_method_5_code
def yX7_takes : MethodName := ⟨RX7, "takes", "(III)Z"⟩
abbrev cX7_pair : ByteArray := prog_9_method_6_code
def yX7_pair : MethodName := ⟨RX7, "pair", "(I)I"⟩
abbrev cX7_tenths : ByteArray := prog_9_method_7_code
def yX7_tenths : MethodName := ⟨RX7, "tenths", "(I)I"⟩
abbrev cX7_answerOf : ByteArray := prog_9_method_8_code
def yX7_answerOf : MethodName := ⟨RX7, "answerOf", "(I)I"⟩
def RX8 : String := "HeadReckons$Shelf"
def TX8 : u_T := fun k => match k with
  | 0 => ("HeadReckons$Shelf", "body", "I", false)
  | 1 => ("HeadReckons$Shelf", "sort", "I", false)
  | 2 => ("HeadReckons$Shelf", "size", "I", false)
  | _ => ("HeadReckons$Shelf", "elements", "[J", true)
def tyX8 : Nat → FieldType := fun k => match k with
  | 0 => .int
  | 1 => .int
  | 2 => .int
  | _ => .array .long
abbrev wsX80 : List Cond := u_ws RX8 TX8 4
theorem nmX8 : ∀ a, a < 4 → ∀ b, b < 4 → a ≠ b → (TX8 a).2.1 ≠ (TX8 b).2.1 := by decide +kernel
theorem tyX8_ok : ∀ k, k < 4 → parseFieldDescriptor (TX8 k).2.2.1 = some (tyX8 k) := by decide +kernel
abbrev cX8_init : ByteArray := prog_10_method_1_code
def yX8_init : MethodName := ⟨RX8, "<init>", "()V"⟩
abbrev cX8_isSort : ByteArray := prog_10_method_2_code
def yX8_isSort : MethodName := ⟨RX8, "isSort", "(I)Z"⟩
abbrev cX8_isEmpty : ByteArray := prog_10_method_3_code
def yX8_isEmpty : MethodName := ⟨RX8, "isEmpty", "()Z"⟩
abbrev cX8_holdsRow : ByteArray := prog_10_method_4_code
def yX8_holdsRow : MethodName := ⟨RX8, "holdsRow", "()Z"⟩
abbrev cX8_holdsInts : ByteArray := prog_10_method_5_code
def yX8_holdsInts : MethodName := ⟨RX8, "holdsInts", "()Z"⟩
abbrev cX8_bodyHeld : ByteArray := prog_10_method_6_code
def yX8_bodyHeld : MethodName := ⟨RX8, "bodyHeld", "()I"⟩
abbrev cX8_sort : ByteArray := prog_10_method_7_code
def yX8_sort : MethodName := ⟨RX8, "sort", "()I"⟩
abbrev cX8_size : ByteArray := prog_10_method_8_code
def yX8_size : MethodName := ⟨RX8, "size", "()I"⟩
abbrev cX8_holdBody : ByteArray := prog_10_method_9_code
def yX8_holdBody : MethodName := ⟨RX8, "holdBody", "(I)V"⟩
abbrev cX8_holdRow : ByteArray := prog_10_method_10_code
def yX8_holdRow : MethodName := ⟨RX8, "holdRow", "(II)V"⟩
abbrev cX8_hasPlaces : ByteArray := prog_10_method_11_code
def yX8_hasPlaces : MethodName := ⟨RX8, "hasPlaces", "(II)Z"⟩
abbrev cX8_elementAt : ByteArray := prog_10_method_12_code
def yX8_elementAt : MethodName := ⟨RX8, "elementAt", "(I)J"⟩
abbrev cX8_setElement : ByteArray := prog_10_method_13_code
def yX8_setElement : MethodName := ⟨RX8, "setElement", "(IJ)V"⟩
abbrev cX8_copyFrom : ByteArray := prog_10_method_14_code
def yX8_copyFrom : MethodName := ⟨RX8, "copyFrom", "(LHeadReckons$Shelf;III)V"⟩
def RX9 : String := "HeadReckons$Tape"
def TX9 : u_T := fun k => match k with
  | 0 => ("HeadReckons$Tape", "bytes", "[I", true)
  | _ => ("HeadReckons$Tape", "length", "I", false)
def tyX9 : Nat → FieldType := fun k => match k with
  | 0 => .array .int
  | _ => .int
abbrev wsX90 : List Cond := u_ws RX9 TX9 2
theorem nmX9 : ∀ a, a < 2 → ∀ b, b < 2 → a ≠ b → (TX9 a).2.1 ≠ (TX9 b).2.1 := by decide +kernel
theorem tyX9_ok : ∀ k, k < 2 → parseFieldDescriptor (TX9 k).2.2.1 = some (tyX9 k) := by decide +kernel
abbrev cX9_init : ByteArray := prog_11_method_1_code
def yX9_init : MethodName := ⟨RX9, "<init>", "()V"⟩
abbrev cX9_length : ByteArray := prog_11_method_2_code
def yX9_length : MethodName := ⟨RX9, "length", "()I"⟩
abbrev cX9_clear : ByteArray := prog_11_method_3_code
def yX9_clear : MethodName := ⟨RX9, "clear", "()V"⟩
abbrev cX9_become : ByteArray := prog_11_method_4_code
def yX9_become : MethodName := ⟨RX9, "become", "(LHeadReckons$Tape;)V"⟩
abbrev cX9_takes : ByteArray := prog_11_method_5_code
def yX9_takes : MethodName := ⟨RX9, "takes", "(II)Z"⟩
abbrev cX9_at : ByteArray := prog_11_method_6_code
def yX9_at : MethodName := ⟨RX9, "at", "(I)I"⟩
def RX10 : String := "HeadReckons"
def TX10 : u_T := fun k => match k with
  | 0 => ("HeadReckons", "tape", "LHeadReckons$Tape;", true)
  | 1 => ("HeadReckons", "heads", "[LHeadReckons$Head;", true)
  | 2 => ("HeadReckons", "headCount", "I", false)
  | 3 => ("HeadReckons", "thought", "LHeadReckons$Head;", true)
  | 4 => ("HeadReckons", "chooser", "LHeadReckons$Choice;", true)
  | 5 => ("HeadReckons", "acts", "LHeadReckons$Acts;", true)
  | 6 => ("HeadReckons", "seenAsks", "LHeadReckons$SeenAsks;", true)
  | 7 => ("HeadReckons", "told", "[I", true)
  | 8 => ("HeadReckons", "toldCount", "I", false)
  | 9 => ("HeadReckons", "secondsFresh", "[I", true)
  | 10 => ("HeadReckons", "secondsLearnt", "[I", true)
  | 11 => ("HeadReckons", "order", "[I", true)
  | 12 => ("HeadReckons", "changes", "LHeadReckons$Changes;", true)
  | 13 => ("HeadReckons", "bodies", "LHeadReckons$Bodies;", true)
  | _ => ("HeadReckons", "shelves", "[LHeadReckons$Shelf;", true)
def tyX10 : Nat → FieldType := fun k => match k with
  | 0 => .object "HeadReckons$Tape"
  | 1 => .array (.object "HeadReckons$Head")
  | 2 => .int
  | 3 => .object "HeadReckons$Head"
  | 4 => .object "HeadReckons$Choice"
  | 5 => .object "HeadReckons$Acts"
  | 6 => .object "HeadReckons$SeenAsks"
  | 7 => .array .int
  | 8 => .int
  | 9 => .array .int
  | 10 => .array .int
  | 11 => .array .int
  | 12 => .object "HeadReckons$Changes"
  | 13 => .object "HeadReckons$Bodies"
  | _ => .array (.object "HeadReckons$Shelf")
abbrev wsX100 : List Cond := u_ws RX10 TX10 15
theorem nmX10 : ∀ a, a < 15 → ∀ b, b < 15 → a ≠ b → (TX10 a).2.1 ≠ (TX10 b).2.1 := by decide +kernel
theorem tyX10_ok : ∀ k, k < 15 → parseFieldDescriptor (TX10 k).2.2.1 = some (tyX10 k) := by decide +kernel
abbrev cX10_init : ByteArray := prog_1_method_1_code
def yX10_init : MethodName := ⟨RX10, "<init>", "()V"⟩
abbrev cX10_feed : ByteArray := prog_1_method_2_code
def yX10_feed : MethodName := ⟨RX10, "feed", "(II)I"⟩
abbrev cX10_head : ByteArray := prog_1_method_3_code
def yX10_head : MethodName := ⟨RX10, "head", "()I"⟩
abbrev cX10_of : ByteArray := prog_1_method_4_code
def yX10_of : MethodName := ⟨RX10, "of", "(II)I"⟩
abbrev cX10_turn : ByteArray := prog_1_method_5_code
def yX10_turn : MethodName := ⟨RX10, "turn", "(III)I"⟩
abbrev cX10_choice : ByteArray := prog_1_method_6_code
def yX10_choice : MethodName := ⟨RX10, "choice", "()I"⟩
abbrev cX10_way : ByteArray := prog_1_method_7_code
def yX10_way : MethodName := ⟨RX10, "way", "(III)I"⟩
abbrev cX10_step : ByteArray := prog_1_method_8_code
def yX10_step : MethodName := ⟨RX10, "step", "(IIII)I"⟩
abbrev cX10_chosen : ByteArray := prog_1_method_9_code
def yX10_chosen : MethodName := ⟨RX10, "chosen", "(II)I"⟩
abbrev cX10_answer : ByteArray := prog_1_method_10_code
def yX10_answer : MethodName := ⟨RX10, "answer", "(III)I"⟩
abbrev cX10_quickest : ByteArray := prog_1_method_11_code
def yX10_quickest : MethodName := ⟨RX10, "quickest", "(III)I"⟩
abbrev cX10_table : ByteArray := prog_1_method_12_code
def yX10_table : MethodName := ⟨RX10, "table", "(III)I"⟩
abbrev cX10_see : ByteArray := prog_1_method_13_code
def yX10_see : MethodName := ⟨RX10, "see", "(III)I"⟩
abbrev cX10_asks : ByteArray := prog_1_method_14_code
def yX10_asks : MethodName := ⟨RX10, "asks", "(III)I"⟩
abbrev cX10_seen : ByteArray := prog_1_method_15_code
def yX10_seen : MethodName := ⟨RX10, "seen", "(II)I"⟩
abbrev cX10_fits : ByteArray := prog_1_method_16_code
def yX10_fits : MethodName := ⟨RX10, "fits", "(II)I"⟩
abbrev cX10_best : ByteArray := prog_1_method_17_code
def yX10_best : MethodName := ⟨RX10, "best", "(II)I"⟩
abbrev cX10_slip : ByteArray := prog_1_method_18_code
def yX10_slip : MethodName := ⟨RX10, "slip", "(III)I"⟩
abbrev cX10_suits : ByteArray := prog_1_method_19_code
def yX10_suits : MethodName := ⟨RX10, "suits", "(I)I"⟩
abbrev cX10_tell : ByteArray := prog_1_method_20_code
def yX10_tell : MethodName := ⟨RX10, "tell", "(I)I"⟩
abbrev cX10_untell : ByteArray := prog_1_method_21_code
def yX10_untell : MethodName := ⟨RX10, "untell", "()I"⟩
abbrev cX10_parts : ByteArray := prog_1_method_22_code
def yX10_parts : MethodName := ⟨RX10, "parts", "(III)I"⟩
abbrev cX10_ask : ByteArray := prog_1_method_23_code
def yX10_ask : MethodName := ⟨RX10, "ask", "(II)I"⟩
abbrev cX10_taught : ByteArray := prog_1_method_24_code
def yX10_taught : MethodName := ⟨RX10, "taught", "(III)I"⟩
abbrev cX10_first : ByteArray := prog_1_method_25_code
def yX10_first : MethodName := ⟨RX10, "first", "(II)I"⟩
abbrev cX10_root : ByteArray := prog_1_method_26_code
def yX10_root : MethodName := ⟨RX10, "root", "(JI)I"⟩
abbrev cX10_firsts : ByteArray := prog_1_method_27_code
def yX10_firsts : MethodName := ⟨RX10, "firsts", "(JII)I"⟩
abbrev cX10_enough : ByteArray := prog_1_method_28_code
def yX10_enough : MethodName := ⟨RX10, "enough", "(JI)I"⟩
abbrev cX10_undo : ByteArray := prog_1_method_29_code
def yX10_undo : MethodName := ⟨RX10, "undo", "()I"⟩
abbrev cX10_redo : ByteArray := prog_1_method_30_code
def yX10_redo : MethodName := ⟨RX10, "redo", "()I"⟩
abbrev cX10_body : ByteArray := prog_1_method_31_code
def yX10_body : MethodName := ⟨RX10, "body", "(I)I"⟩
abbrev cX10_act : ByteArray := prog_1_method_32_code
def yX10_act : MethodName := ⟨RX10, "act", "(III)I"⟩
abbrev cX10_trace : ByteArray := prog_1_method_33_code
def yX10_trace : MethodName := ⟨RX10, "trace", "(I)I"⟩
abbrev cX10_keep : ByteArray := prog_1_method_34_code
def yX10_keep : MethodName := ⟨RX10, "keep", "(II)I"⟩
abbrev cX10_row : ByteArray := prog_1_method_35_code
def yX10_row : MethodName := ⟨RX10, "row", "(III)I"⟩
abbrev cX10_put : ByteArray := prog_1_method_36_code
def yX10_put : MethodName := ⟨RX10, "put", "(IIJ)I"⟩
abbrev cX10_element : ByteArray := prog_1_method_37_code
def yX10_element : MethodName := ⟨RX10, "element", "(II)J"⟩
abbrev cX10_shift : ByteArray := prog_1_method_38_code
def yX10_shift : MethodName := ⟨RX10, "shift", "(IIIII)I"⟩
abbrev cX10_taken : ByteArray := prog_1_method_39_code
def yX10_taken : MethodName := ⟨RX10, "taken", "(II)I"⟩
abbrev cX10_count : ByteArray := prog_1_method_40_code
def yX10_count : MethodName := ⟨RX10, "count", "(I)I"⟩
abbrev cX10_isHead : ByteArray := prog_1_method_41_code
def yX10_isHead : MethodName := ⟨RX10, "isHead", "(I)Z"⟩
abbrev cX10_isHeadAndWay : ByteArray := prog_1_method_42_code
def yX10_isHeadAndWay : MethodName := ⟨RX10, "isHeadAndWay", "(I)Z"⟩
abbrev cX10_isShelf : ByteArray := prog_1_method_43_code
def yX10_isShelf : MethodName := ⟨RX10, "isShelf", "(I)Z"⟩
abbrev cX10_isNumber : ByteArray := prog_1_method_44_code
def yX10_isNumber : MethodName := ⟨RX10, "isNumber", "(I)Z"⟩
abbrev cX10_isPair : ByteArray := prog_1_method_45_code
def yX10_isPair : MethodName := ⟨RX10, "isPair", "(I)Z"⟩
abbrev cX10_canBeTaught : ByteArray := prog_1_method_46_code
def yX10_canBeTaught : MethodName := ⟨RX10, "canBeTaught", "(I)Z"⟩
abbrev cX10_productOf : ByteArray := prog_1_method_47_code
def yX10_productOf : MethodName := ⟨RX10, "productOf", "(I)I"⟩
abbrev cX10_reckonChosen : ByteArray := prog_1_method_48_code
def yX10_reckonChosen : MethodName := ⟨RX10, "reckonChosen", "(LHeadReckons$Head;I)I"⟩
abbrev cX10_spreadOf : ByteArray := prog_1_method_49_code
def yX10_spreadOf : MethodName := ⟨RX10, "spreadOf", "(LHeadReckons$Head;II)I"⟩
abbrev cX10_offOf : ByteArray := prog_1_method_50_code
def yX10_offOf : MethodName := ⟨RX10, "offOf", "(I)I"⟩
abbrev cX10_comesFrom : ByteArray := prog_1_method_51_code
def yX10_comesFrom : MethodName := ⟨RX10, "comesFrom", "(LHeadReckons$Shelf;J)Z"⟩
abbrev cX10_fitsAll : ByteArray := prog_1_method_52_code
def yX10_fitsAll : MethodName := ⟨RX10, "fitsAll", "(LHeadReckons$Head;II)Z"⟩
abbrev cX10_sumOfDifferences : ByteArray := prog_1_method_53_code
def yX10_sumOfDifferences : MethodName := ⟨RX10, "sumOfDifferences", "(LHeadReckons$Head;I)I"⟩
abbrev cX10_allToldCanBeTaught : ByteArray := prog_1_method_54_code
def yX10_allToldCanBeTaught : MethodName := ⟨RX10, "allToldCanBeTaught", "()Z"⟩
abbrev cX10_prepareOrders : ByteArray := prog_1_method_55_code
def yX10_prepareOrders : MethodName := ⟨RX10, "prepareOrders", "(LHeadReckons$Head;I)V"⟩
abbrev cX10_secondsOfOrder : ByteArray := prog_1_method_56_code
def yX10_secondsOfOrder : MethodName := ⟨RX10, "secondsOfOrder", "(LHeadReckons$Head;I)I"⟩
abbrev cX10_orderAsDigits : ByteArray := prog_1_method_57_code
def yX10_orderAsDigits : MethodName := ⟨RX10, "orderAsDigits", "(I)I"⟩
abbrev cX10_nextOrder : ByteArray := prog_1_method_58_code
def yX10_nextOrder : MethodName := ⟨RX10, "nextOrder", "(I)Z"⟩
abbrev cX10_swapPlaces : ByteArray := prog_1_method_59_code
def yX10_swapPlaces : MethodName := ⟨RX10, "swapPlaces", "(II)V"⟩
abbrev cX10_refusalAt : ByteArray := prog_1_method_60_code
def yX10_refusalAt : MethodName := ⟨RX10, "refusalAt", "(II)I"⟩
def RX11 : String := "HeadReckonsModel"
def TX11 : u_T := fun k => match k with
  | 0 => ("HeadReckonsModel", "may", "[I", true)
  | 1 => ("HeadReckonsModel", "changeAt", "[I", true)
  | 2 => ("HeadReckonsModel", "changeWas", "[I", true)
  | 3 => ("HeadReckonsModel", "changeIs", "[I", true)
  | 4 => ("HeadReckonsModel", "keptMany", "I", false)
  | 5 => ("HeadReckonsModel", "done", "I", false)
  | 6 => ("HeadReckonsModel", "tape", "[I", true)
  | 7 => ("HeadReckonsModel", "tapeMany", "I", false)
  | 8 => ("HeadReckonsModel", "text", "[I", true)
  | 9 => ("HeadReckonsModel", "textMany", "I", false)
  | 10 => ("HeadReckonsModel", "base", "I", false)
  | 11 => ("HeadReckonsModel", "at", "I", false)
  | 12 => ("HeadReckonsModel", "ends", "I", false)
  | 13 => ("HeadReckonsModel", "fault", "I", false)
  | 14 => ("HeadReckonsModel", "opened", "I", false)
  | 15 => ("HeadReckonsModel", "names", "[I", true)
  | 16 => ("HeadReckonsModel", "heads", "I", false)
  | 17 => ("HeadReckonsModel", "readHead", "[I", true)
  | 18 => ("HeadReckonsModel", "pairs", "[I", true)
  | 19 => ("HeadReckonsModel", "pairOf", "[I", true)
  | 20 => ("HeadReckonsModel", "askedOf", "[I", true)
  | 21 => ("HeadReckonsModel", "actMany", "I", false)
  | 22 => ("HeadReckonsModel", "sortOf", "[I", true)
  | 23 => ("HeadReckonsModel", "makes", "[I", true)
  | 24 => ("HeadReckonsModel", "lengthOf", "[I", true)
  | 25 => ("HeadReckonsModel", "heldBehind", "[I", true)
  | 26 => ("HeadReckonsModel", "slipOf", "[I", true)
  | 27 => ("HeadReckonsModel", "noughts", "[I", true)
  | 28 => ("HeadReckonsModel", "held", "I", false)
  | 29 => ("HeadReckonsModel", "running", "I", false)
  | 30 => ("HeadReckonsModel", "headNow", "I", false)
  | 31 => ("HeadReckonsModel", "tableNow", "I", false)
  | 32 => ("HeadReckonsModel", "rowsMade", "[I", true)
  | 33 => ("HeadReckonsModel", "seenMany", "I", false)
  | 34 => ("HeadReckonsModel", "seenAsk", "[I", true)
  | 35 => ("HeadReckonsModel", "seenTenths", "[I", true)
  | 36 => ("HeadReckonsModel", "seenAnswer", "[I", true)
  | 37 => ("HeadReckonsModel", "told", "I", false)
  | 38 => ("HeadReckonsModel", "toldAsk", "[I", true)
  | 39 => ("HeadReckonsModel", "wasAsked", "[I", true)
  | 40 => ("HeadReckonsModel", "wasPairs", "I", false)
  | 41 => ("HeadReckonsModel", "order", "[I", true)
  | 42 => ("HeadReckonsModel", "bestSum", "I", false)
  | 43 => ("HeadReckonsModel", "bestDigits", "I", false)
  | 44 => ("HeadReckonsModel", "leastFirst", "J", false)
  | 45 => ("HeadReckonsModel", "bodies", "I", false)
  | 46 => ("HeadReckonsModel", "bodyKind", "[I", true)
  | 47 => ("HeadReckonsModel", "trace", "[I", true)
  | 48 => ("HeadReckonsModel", "ran", "I", false)
  | 49 => ("HeadReckonsModel", "ownKind", "I", false)
  | 50 => ("HeadReckonsModel", "ownNumber", "I", false)
  | 51 => ("HeadReckonsModel", "shelf", "[I", true)
  | 52 => ("HeadReckonsModel", "many", "[I", true)
  | 53 => ("HeadReckonsModel", "items", "[J", true)
  | _ => ("HeadReckonsModel", "carried", "[J", true)
def tyX11 : Nat → FieldType := fun k => match k with
  | 0 => .array .int
  | 1 => .array .int
  | 2 => .array .int
  | 3 => .array .int
  | 4 => .int
  | 5 => .int
  | 6 => .array .int
  | 7 => .int
  | 8 => .array .int
  | 9 => .int
  | 10 => .int
  | 11 => .int
  | 12 => .int
  | 13 => .int
  | 14 => .int
  | 15 => .array .int
  | 16 => .int
  | 17 => .array .int
  | 18 => .array .int
  | 19 => .array .int
  | 20 => .array .int
  | 21 => .int
  | 22 => .array .int
  | 23 => .array .int
  | 24 => .array .int
  | 25 => .array .int
  | 26 => .array .int
  | 27 => .array .int
  | 28 => .int
  | 29 => .int
  | 30 => .int
  | 31 => .int
  | 32 => .array .int
  | 33 => .int
  | 34 => .array .int
  | 35 => .array .int
  | 36 => .array .int
  | 37 => .int
  | 38 => .array .int
  | 39 => .array .int
  | 40 => .int
  | 41 => .array .int
  | 42 => .int
  | 43 => .int
  | 44 => .long
  | 45 => .int
  | 46 => .array .int
  | 47 => .array .int
  | 48 => .int
  | 49 => .int
  | 50 => .int
  | 51 => .array .int
  | 52 => .array .int
  | 53 => .array .long
  | _ => .array .long
abbrev wsX110 : List Cond := u_ws RX11 TX11 55
theorem nmX11 : ∀ a, a < 55 → ∀ b, b < 55 → a ≠ b → (TX11 a).2.1 ≠ (TX11 b).2.1 := by decide +kernel
theorem tyX11_ok : ∀ k, k < 55 → parseFieldDescriptor (TX11 k).2.2.1 = some (tyX11 k) := by decide +kernel
abbrev cX11_within : ByteArray := prog_13_method_1_code
def yX11_within : MethodName := ⟨RX11, "within", "(JJJ)Z"⟩
abbrev cX11_size : ByteArray := prog_13_method_2_code
def yX11_size : MethodName := ⟨RX11, "size", "(I)I"⟩
abbrev cX11_init : ByteArray := prog_13_method_3_code
def yX11_init : MethodName := ⟨RX11, "<init>", "()V"⟩
abbrev cX11_becomes : ByteArray := prog_13_method_4_code
def yX11_becomes : MethodName := ⟨RX11, "becomes", "(II)I"⟩
abbrev cX11_undo : ByteArray := prog_13_method_5_code
def yX11_undo : MethodName := ⟨RX11, "undo", "()I"⟩
abbrev cX11_redo : ByteArray := prog_13_method_6_code
def yX11_redo : MethodName := ⟨RX11, "redo", "()I"⟩
abbrev cX11_feed : ByteArray := prog_13_method_7_code
def yX11_feed : MethodName := ⟨RX11, "feed", "(II)I"⟩
abbrev cX11_byteAt : ByteArray := prog_13_method_8_code
def yX11_byteAt : MethodName := ⟨RX11, "byteAt", "()I"⟩
abbrev cX11_wrong : ByteArray := prog_13_method_9_code
def yX11_wrong : MethodName := ⟨RX11, "wrong", "()I"⟩
abbrev cX11_takes : ByteArray := prog_13_method_10_code
def yX11_takes : MethodName := ⟨RX11, "takes", "(I)Z"⟩
abbrev cX11_either : ByteArray := prog_13_method_11_code
def yX11_either : MethodName := ⟨RX11, "either", "()I"⟩
abbrev cX11_both : ByteArray := prog_13_method_12_code
def yX11_both : MethodName := ⟨RX11, "both", "()I"⟩
abbrev cX11_compared : ByteArray := prog_13_method_13_code
def yX11_compared : MethodName := ⟨RX11, "compared", "()I"⟩
abbrev cX11_sums : ByteArray := prog_13_method_14_code
def yX11_sums : MethodName := ⟨RX11, "sums", "()I"⟩
abbrev cX11_product : ByteArray := prog_13_method_15_code
def yX11_product : MethodName := ⟨RX11, "product", "()I"⟩
abbrev cX11_nameOf : ByteArray := prog_13_method_16_code
def yX11_nameOf : MethodName := ⟨RX11, "nameOf", "(I)I"⟩
abbrev cX11_one : ByteArray := prog_13_method_17_code
def yX11_one : MethodName := ⟨RX11, "one", "()I"⟩
abbrev cX11_workOut : ByteArray := prog_13_method_18_code
def yX11_workOut : MethodName := ⟨RX11, "workOut", "(II)I"⟩
abbrev cX11_choice : ByteArray := prog_13_method_19_code
def yX11_choice : MethodName := ⟨RX11, "choice", "()I"⟩
abbrev cX11_isHead : ByteArray := prog_13_method_20_code
def yX11_isHead : MethodName := ⟨RX11, "isHead", "(I)Z"⟩
abbrev cX11_isOf : ByteArray := prog_13_method_21_code
def yX11_isOf : MethodName := ⟨RX11, "isOf", "(II)Z"⟩
abbrev cX11_readOne : ByteArray := prog_13_method_22_code
def yX11_readOne : MethodName := ⟨RX11, "readOne", "(II)I"⟩
abbrev cX11_head : ByteArray := prog_13_method_23_code
def yX11_head : MethodName := ⟨RX11, "head", "()I"⟩
abbrev cX11_of : ByteArray := prog_13_method_24_code
def yX11_of : MethodName := ⟨RX11, "of", "(II)I"⟩
abbrev cX11_turn : ByteArray := prog_13_method_25_code
def yX11_turn : MethodName := ⟨RX11, "turn", "(III)I"⟩
abbrev cX11_isAsk : ByteArray := prog_13_method_26_code
def yX11_isAsk : MethodName := ⟨RX11, "isAsk", "(I)Z"⟩
abbrev cX11_isSmall : ByteArray := prog_13_method_27_code
def yX11_isSmall : MethodName := ⟨RX11, "isSmall", "(I)Z"⟩
abbrev cX11_asPair : ByteArray := prog_13_method_28_code
def yX11_asPair : MethodName := ⟨RX11, "asPair", "(I)I"⟩
abbrev cX11_pairAt : ByteArray := prog_13_method_29_code
def yX11_pairAt : MethodName := ⟨RX11, "pairAt", "(II)I"⟩
abbrev cX11_isLearnt : ByteArray := prog_13_method_30_code
def yX11_isLearnt : MethodName := ⟨RX11, "isLearnt", "(II)Z"⟩
abbrev cX11_learntOf : ByteArray := prog_13_method_31_code
def yX11_learntOf : MethodName := ⟨RX11, "learntOf", "(I)I"⟩
abbrev cX11_askOf : ByteArray := prog_13_method_32_code
def yX11_askOf : MethodName := ⟨RX11, "askOf", "(II)I"⟩
abbrev cX11_ask : ByteArray := prog_13_method_33_code
def yX11_ask : MethodName := ⟨RX11, "ask", "(II)I"⟩
abbrev cX11_digits : ByteArray := prog_13_method_34_code
def yX11_digits : MethodName := ⟨RX11, "digits", "(I)I"⟩
abbrev cX11_figure : ByteArray := prog_13_method_35_code
def yX11_figure : MethodName := ⟨RX11, "figure", "(II)I"⟩
abbrev cX11_tens : ByteArray := prog_13_method_36_code
def yX11_tens : MethodName := ⟨RX11, "tens", "(I)I"⟩
abbrev cX11_acts : ByteArray := prog_13_method_37_code
def yX11_acts : MethodName := ⟨RX11, "acts", "(IIII)V"⟩
abbrev cX11_holds : ByteArray := prog_13_method_38_code
def yX11_holds : MethodName := ⟨RX11, "holds", "()V"⟩
abbrev cX11_lookAndAdd : ByteArray := prog_13_method_39_code
def yX11_lookAndAdd : MethodName := ⟨RX11, "lookAndAdd", "(IIIZI)Z"⟩
abbrev cX11_goLeft : ByteArray := prog_13_method_40_code
def yX11_goLeft : MethodName := ⟨RX11, "goLeft", "(II)V"⟩
abbrev cX11_goRight : ByteArray := prog_13_method_41_code
def yX11_goRight : MethodName := ⟨RX11, "goRight", "(II)V"⟩
abbrev cX11_goCrossed : ByteArray := prog_13_method_42_code
def yX11_goCrossed : MethodName := ⟨RX11, "goCrossed", "(II)V"⟩
abbrev cX11_goSquared : ByteArray := prog_13_method_43_code
def yX11_goSquared : MethodName := ⟨RX11, "goSquared", "(II)Z"⟩
abbrev cX11_goSplit : ByteArray := prog_13_method_44_code
def yX11_goSplit : MethodName := ⟨RX11, "goSplit", "(II)Z"⟩
abbrev cX11_isKnown : ByteArray := prog_13_method_45_code
def yX11_isKnown : MethodName := ⟨RX11, "isKnown", "(II)Z"⟩
abbrev cX11_layOut : ByteArray := prog_13_method_46_code
def yX11_layOut : MethodName := ⟨RX11, "layOut", "(IIII)Z"⟩
abbrev cX11_seconds : ByteArray := prog_13_method_47_code
def yX11_seconds : MethodName := ⟨RX11, "seconds", "()I"⟩
abbrev cX11_mostHeld : ByteArray := prog_13_method_48_code
def yX11_mostHeld : MethodName := ⟨RX11, "mostHeld", "()I"⟩
abbrev cX11_isHw : ByteArray := prog_13_method_49_code
def yX11_isHw : MethodName := ⟨RX11, "isHw", "(I)Z"⟩
abbrev cX11_way : ByteArray := prog_13_method_50_code
def yX11_way : MethodName := ⟨RX11, "way", "(III)I"⟩
abbrev cX11_step : ByteArray := prog_13_method_51_code
def yX11_step : MethodName := ⟨RX11, "step", "(IIII)I"⟩
abbrev cX11_noughtsOf : ByteArray := prog_13_method_52_code
def yX11_noughtsOf : MethodName := ⟨RX11, "noughtsOf", "(I)I"⟩
abbrev cX11_chosenBy : ByteArray := prog_13_method_53_code
def yX11_chosenBy : MethodName := ⟨RX11, "chosenBy", "(III)I"⟩
abbrev cX11_chosen : ByteArray := prog_13_method_54_code
def yX11_chosen : MethodName := ⟨RX11, "chosen", "(II)I"⟩
abbrev cX11_answer : ByteArray := prog_13_method_55_code
def yX11_answer : MethodName := ⟨RX11, "answer", "(III)I"⟩
abbrev cX11_quickest : ByteArray := prog_13_method_56_code
def yX11_quickest : MethodName := ⟨RX11, "quickest", "(III)I"⟩
abbrev cX11_table : ByteArray := prog_13_method_57_code
def yX11_table : MethodName := ⟨RX11, "table", "(III)I"⟩
abbrev cX11_see : ByteArray := prog_13_method_58_code
def yX11_see : MethodName := ⟨RX11, "see", "(III)I"⟩
abbrev cX11_asks : ByteArray := prog_13_method_59_code
def yX11_asks : MethodName := ⟨RX11, "asks", "(III)I"⟩
abbrev cX11_offBy : ByteArray := prog_13_method_60_code
def yX11_offBy : MethodName := ⟨RX11, "offBy", "(I)I"⟩
abbrev cX11_seen : ByteArray := prog_13_method_61_code
def yX11_seen : MethodName := ⟨RX11, "seen", "(II)I"⟩
abbrev cX11_canSlip : ByteArray := prog_13_method_62_code
def yX11_canSlip : MethodName := ⟨RX11, "canSlip", "(II)Z"⟩
abbrev cX11_slipsOf : ByteArray := prog_13_method_63_code
def yX11_slipsOf : MethodName := ⟨RX11, "slipsOf", "(I)I"⟩
abbrev cX11_doesFit : ByteArray := prog_13_method_64_code
def yX11_doesFit : MethodName := ⟨RX11, "doesFit", "(III)Z"⟩
abbrev cX11_fits : ByteArray := prog_13_method_65_code
def yX11_fits : MethodName := ⟨RX11, "fits", "(II)I"⟩
abbrev cX11_offSum : ByteArray := prog_13_method_66_code
def yX11_offSum : MethodName := ⟨RX11, "offSum", "(II)I"⟩
abbrev cX11_best : ByteArray := prog_13_method_67_code
def yX11_best : MethodName := ⟨RX11, "best", "(II)I"⟩
abbrev cX11_slip : ByteArray := prog_13_method_68_code
def yX11_slip : MethodName := ⟨RX11, "slip", "(III)I"⟩
abbrev cX11_suits : ByteArray := prog_13_method_69_code
def yX11_suits : MethodName := ⟨RX11, "suits", "(I)I"⟩
abbrev cX11_tell : ByteArray := prog_13_method_70_code
def yX11_tell : MethodName := ⟨RX11, "tell", "(I)I"⟩
abbrev cX11_untell : ByteArray := prog_13_method_71_code
def yX11_untell : MethodName := ⟨RX11, "untell", "()I"⟩
abbrev cX11_parts : ByteArray := prog_13_method_72_code
def yX11_parts : MethodName := ⟨RX11, "parts", "(III)I"⟩
abbrev cX11_keeps : ByteArray := prog_13_method_73_code
def yX11_keeps : MethodName := ⟨RX11, "keeps", "(I)V"⟩
abbrev cX11_putsBack : ByteArray := prog_13_method_74_code
def yX11_putsBack : MethodName := ⟨RX11, "putsBack", "(I)V"⟩
abbrev cX11_asksOne : ByteArray := prog_13_method_75_code
def yX11_asksOne : MethodName := ⟨RX11, "asksOne", "(II)I"⟩
abbrev cX11_isListBad : ByteArray := prog_13_method_76_code
def yX11_isListBad : MethodName := ⟨RX11, "isListBad", "()Z"⟩
abbrev cX11_taught : ByteArray := prog_13_method_77_code
def yX11_taught : MethodName := ⟨RX11, "taught", "(III)I"⟩
abbrev cX11_ordersFrom : ByteArray := prog_13_method_78_code
def yX11_ordersFrom : MethodName := ⟨RX11, "ordersFrom", "(IIIII)V"⟩
abbrev cX11_first : ByteArray := prog_13_method_79_code
def yX11_first : MethodName := ⟨RX11, "first", "(II)I"⟩
abbrev cX11_isPower : ByteArray := prog_13_method_80_code
def yX11_isPower : MethodName := ⟨RX11, "isPower", "(I)Z"⟩
abbrev cX11_powerOf : ByteArray := prog_13_method_81_code
def yX11_powerOf : MethodName := ⟨RX11, "powerOf", "(JI)J"⟩
abbrev cX11_leastOf : ByteArray := prog_13_method_82_code
def yX11_leastOf : MethodName := ⟨RX11, "leastOf", "(JI)J"⟩
abbrev cX11_isNumber : ByteArray := prog_13_method_83_code
def yX11_isNumber : MethodName := ⟨RX11, "isNumber", "(JI)Z"⟩
abbrev cX11_rootOf : ByteArray := prog_13_method_84_code
def yX11_rootOf : MethodName := ⟨RX11, "rootOf", "(JI)I"⟩
abbrev cX11_root : ByteArray := prog_13_method_85_code
def yX11_root : MethodName := ⟨RX11, "root", "(JI)I"⟩
abbrev cX11_digitsOf : ByteArray := prog_13_method_86_code
def yX11_digitsOf : MethodName := ⟨RX11, "digitsOf", "(J)I"⟩
abbrev cX11_lastOf : ByteArray := prog_13_method_87_code
def yX11_lastOf : MethodName := ⟨RX11, "lastOf", "(II)I"⟩
abbrev cX11_endingBelow : ByteArray := prog_13_method_88_code
def yX11_endingBelow : MethodName := ⟨RX11, "endingBelow", "(JI)J"⟩
abbrev cX11_manyFirsts : ByteArray := prog_13_method_89_code
def yX11_manyFirsts : MethodName := ⟨RX11, "manyFirsts", "(JII)J"⟩
abbrev cX11_firsts : ByteArray := prog_13_method_90_code
def yX11_firsts : MethodName := ⟨RX11, "firsts", "(JII)I"⟩
abbrev cX11_enough : ByteArray := prog_13_method_91_code
def yX11_enough : MethodName := ⟨RX11, "enough", "(JI)I"⟩
abbrev cX11_isBody : ByteArray := prog_13_method_92_code
def yX11_isBody : MethodName := ⟨RX11, "isBody", "(I)Z"⟩
abbrev cX11_kindOf : ByteArray := prog_13_method_93_code
def yX11_kindOf : MethodName := ⟨RX11, "kindOf", "(I)I"⟩
abbrev cX11_body : ByteArray := prog_13_method_94_code
def yX11_body : MethodName := ⟨RX11, "body", "(I)I"⟩
abbrev cX11_above : ByteArray := prog_13_method_95_code
def yX11_above : MethodName := ⟨RX11, "above", "(I)I"⟩
abbrev cX11_begins : ByteArray := prog_13_method_96_code
def yX11_begins : MethodName := ⟨RX11, "begins", "(I)V"⟩
abbrev cX11_costsAs : ByteArray := prog_13_method_97_code
def yX11_costsAs : MethodName := ⟨RX11, "costsAs", "(II)I"⟩
abbrev cX11_keepsAs : ByteArray := prog_13_method_98_code
def yX11_keepsAs : MethodName := ⟨RX11, "keepsAs", "(II)I"⟩
abbrev cX11_slipsAs : ByteArray := prog_13_method_99_code
def yX11_slipsAs : MethodName := ⟨RX11, "slipsAs", "(II)I"⟩
abbrev cX11_tellsAs : ByteArray := prog_13_method_100_code
def yX11_tellsAs : MethodName := ⟨RX11, "tellsAs", "(II)I"⟩
abbrev cX11_act : ByteArray := prog_13_method_101_code
def yX11_act : MethodName := ⟨RX11, "act", "(III)I"⟩
abbrev cX11_trace : ByteArray := prog_13_method_102_code
def yX11_trace : MethodName := ⟨RX11, "trace", "(I)I"⟩
abbrev cX11_isShelf : ByteArray := prog_13_method_103_code
def yX11_isShelf : MethodName := ⟨RX11, "isShelf", "(I)Z"⟩
abbrev cX11_keep : ByteArray := prog_13_method_104_code
def yX11_keep : MethodName := ⟨RX11, "keep", "(II)I"⟩
abbrev cX11_row : ByteArray := prog_13_method_105_code
def yX11_row : MethodName := ⟨RX11, "row", "(III)I"⟩
abbrev cX11_refusal : ByteArray := prog_13_method_106_code
def yX11_refusal : MethodName := ⟨RX11, "refusal", "(II)I"⟩
abbrev cX11_asSort : ByteArray := prog_13_method_107_code
def yX11_asSort : MethodName := ⟨RX11, "asSort", "(IJ)J"⟩
abbrev cX11_put : ByteArray := prog_13_method_108_code
def yX11_put : MethodName := ⟨RX11, "put", "(IIJ)I"⟩
abbrev cX11_element : ByteArray := prog_13_method_109_code
def yX11_element : MethodName := ⟨RX11, "element", "(II)J"⟩
abbrev cX11_shift : ByteArray := prog_13_method_110_code
def yX11_shift : MethodName := ⟨RX11, "shift", "(IIIII)I"⟩
abbrev cX11_taken : ByteArray := prog_13_method_111_code
def yX11_taken : MethodName := ⟨RX11, "taken", "(II)I"⟩
abbrev cX11_count : ByteArray := prog_13_method_112_code
def yX11_count : MethodName := ⟨RX11, "count", "(I)I"⟩
def RJ9 : String := "java/lang/Math"
def TJ9 : u_T := fun k => match k with
  | _ => ("", "", "", false)
def tyJ9 : Nat → FieldType := fun k => match k with
  | _ => .int
abbrev wsJ90 : List Cond := u_ws RJ9 TJ9 0
theorem nmJ9 : ∀ a, a < 0 → ∀ b, b < 0 → a ≠ b → (TJ9 a).2.1 ≠ (TJ9 b).2.1 := by decide +kernel
theorem tyJ9_ok : ∀ k, k < 0 → parseFieldDescriptor (TJ9 k).2.2.1 = some (tyJ9 k) := by decide +kernel
abbrev cJ9_abs_0f7a4 : ByteArray := prog_14_method_59_code
def yJ9_abs_0f7a4 : MethodName := ⟨RJ9, "abs", "(I)I"⟩
abbrev cJ9_max_7cf53 : ByteArray := prog_14_method_65_code
def yJ9_max_7cf53 : MethodName := ⟨RJ9, "max", "(II)I"⟩
abbrev cJ9_min_7cf53 : ByteArray := prog_14_method_69_code
def yJ9_min_7cf53 : MethodName := ⟨RJ9, "min", "(II)I"⟩
def RJ10 : String := "java/lang/System"
def TJ10 : u_T := fun k => match k with
  | _ => ("", "", "", false)
def tyJ10 : Nat → FieldType := fun k => match k with
  | _ => .int
abbrev wsJ100 : List Cond := u_ws RJ10 TJ10 0
theorem nmJ10 : ∀ a, a < 0 → ∀ b, b < 0 → a ≠ b → (TJ10 a).2.1 ≠ (TJ10 b).2.1 := by decide +kernel
theorem tyJ10_ok : ∀ k, k < 0 → parseFieldDescriptor (TJ10 k).2.2.1 = some (tyJ10 k) := by decide +kernel
def RL : String := "HeadReckonsLaw"
abbrev cL_law : ByteArray := code
def yL_law : MethodName := ⟨RL, "law", "([I)Z"⟩
abbrev vwCl : List vw_C := [(RX0, TX0, 16), (RX1, TX1, 5), (RX2, TX2, 6), (RX3, TX3, 8), (RX5, TX5, 4), (RX7, TX7, 4), (RX8, TX8, 4), (RX9, TX9, 2), (RX10, TX10, 15), (RX11, TX11, 55)]
/-- the words that a callee may be handed -/
def lw_gd : List Cond := lw_tbl.filter goodWord
theorem tc1 {w : Cond} (h : w ∈ tables_1_1) : w ∈ lw_tbl := List.mem_append_right _ (List.mem_append_left _ h)
theorem tb1 {w : Cond} (h : w ∈ tables_1_1) (g : goodWord w = true) : w ∈ lw_gd := List.mem_filter.mpr ⟨List.mem_append_right _ (List.mem_append_left _ h), g⟩
theorem tc2 {w : Cond} (h : w ∈ tables_1_2) : w ∈ lw_tbl := List.mem_append_right _ (List.mem_append_right _ (List.mem_append_left _ h))
theorem tb2 {w : Cond} (h : w ∈ tables_1_2) (g : goodWord w = true) : w ∈ lw_gd := List.mem_filter.mpr ⟨List.mem_append_right _ (List.mem_append_right _ (List.mem_append_left _ h)), g⟩
theorem tc3 {w : Cond} (h : w ∈ tables_1_3) : w ∈ lw_tbl := List.mem_append_right _ (List.mem_append_right _ (List.mem_append_right _ (List.mem_append_left _ h)))
theorem tb3 {w : Cond} (h : w ∈ tables_1_3) (g : goodWord w = true) : w ∈ lw_gd := List.mem_filter.mpr ⟨List.mem_append_right _ (List.mem_append_right _ (List.mem_append_right _ (List.mem_append_left _ h))), g⟩
theorem tc4 {w : Cond} (h : w ∈ tables_1_4) : w ∈ lw_tbl := List.mem_append_right _ (List.mem_append_right _ (List.mem_append_right _ (List.mem_append_right _ (List.mem_append_left _ h))))
theorem tb4 {w : Cond} (h : w ∈ tables_1_4) (g : goodWord w = true) : w ∈ lw_gd := List.mem_filter.mpr ⟨List.mem_append_right _ (List.mem_append_right _ (List.mem_append_right _ (List.mem_append_right _ (List.mem_append_left _ h)))), g⟩
theorem tc5 {w : Cond} (h : w ∈ tables_1_5) : w ∈ lw_tbl := List.mem_append_right _ (List.mem_append_right _ (List.mem_append_right _ (List.mem_append_right _ (List.mem_append_right _ (List.mem_append_left _ h)))))
theorem tb5 {w : Cond} (h : w ∈ tables_1_5) (g : goodWord w = true) : w ∈ lw_gd := List.mem_filter.mpr ⟨List.mem_append_right _ (List.mem_append_right _ (List.mem_append_right _ (List.mem_append_right _ (List.mem_append_right _ (List.mem_append_left _ h))))), g⟩
theorem tc6 {w : Cond} (h : w ∈ tables_1_6) : w ∈ lw_tbl := List.mem_append_right _ (List.mem_append_right _ (List.mem_append_right _ (List.mem_append_right _ (List.mem_append_right _ (List.mem_append_right _ (List.mem_append_left _ h))))))
theorem tb6 {w : Cond} (h : w ∈ tables_1_6) (g : goodWord w = true) : w ∈ lw_gd := List.mem_filter.mpr ⟨List.mem_append_right _ (List.mem_append_right _ (List.mem_append_right _ (List.mem_append_right _ (List.mem_append_right _ (List.mem_append_right _ (List.mem_append_left _ h)))))), g⟩
theorem tc7 {w : Cond} (h : w ∈ tables_1_7) : w ∈ lw_tbl := List.mem_append_right _ (List.mem_append_right _ (List.mem_append_right _ (List.mem_append_right _ (List.mem_append_right _ (List.mem_append_right _ (List.mem_append_right _ (h)))))))
theorem tb7 {w : Cond} (h : w ∈ tables_1_7) (g : goodWord w = true) : w ∈ lw_gd := List.mem_filter.mpr ⟨List.mem_append_right _ (List.mem_append_right _ (List.mem_append_right _ (List.mem_append_right _ (List.mem_append_right _ (List.mem_append_right _ (List.mem_append_right _ (h))))))), g⟩
theorem ts1 {q : MethodName × Nat} (h : q ∈ lw_privs_1) : Cond.selects q.1.cls q.1 q.1 ∈ lw_gd := List.mem_filter.mpr ⟨List.mem_append_left _ (List.mem_map.mpr ⟨q, List.mem_append_left _ h, rfl⟩), rfl⟩
theorem ts2 {q : MethodName × Nat} (h : q ∈ lw_privs_2) : Cond.selects q.1.cls q.1 q.1 ∈ lw_gd := List.mem_filter.mpr ⟨List.mem_append_left _ (List.mem_map.mpr ⟨q, List.mem_append_right _ (List.mem_append_left _ h), rfl⟩), rfl⟩
theorem ts3 {q : MethodName × Nat} (h : q ∈ lw_privs_3) : Cond.selects q.1.cls q.1 q.1 ∈ lw_gd := List.mem_filter.mpr ⟨List.mem_append_left _ (List.mem_map.mpr ⟨q, List.mem_append_right _ (List.mem_append_right _ (List.mem_append_left _ h)), rfl⟩), rfl⟩
theorem ts4 {q : MethodName × Nat} (h : q ∈ lw_privs_4) : Cond.selects q.1.cls q.1 q.1 ∈ lw_gd := List.mem_filter.mpr ⟨List.mem_append_left _ (List.mem_map.mpr ⟨q, List.mem_append_right _ (List.mem_append_right _ (List.mem_append_right _ (List.mem_append_left _ h))), rfl⟩), rfl⟩
theorem ts5 {q : MethodName × Nat} (h : q ∈ lw_privs_5) : Cond.selects q.1.cls q.1 q.1 ∈ lw_gd := List.mem_filter.mpr ⟨List.mem_append_left _ (List.mem_map.mpr ⟨q, List.mem_append_right _ (List.mem_append_right _ (List.mem_append_right _ (List.mem_append_right _ (List.mem_append_left _ h)))), rfl⟩), rfl⟩
theorem ts6 {q : MethodName × Nat} (h : q ∈ lw_privs_6) : Cond.selects q.1.cls q.1 q.1 ∈ lw_gd := List.mem_filter.mpr ⟨List.mem_append_left _ (List.mem_map.mpr ⟨q, List.mem_append_right _ (List.mem_append_right _ (List.mem_append_right _ (List.mem_append_right _ (List.mem_append_right _ (List.mem_append_left _ h))))), rfl⟩), rfl⟩
theorem ts7 {q : MethodName × Nat} (h : q ∈ lw_privs_7) : Cond.selects q.1.cls q.1 q.1 ∈ lw_gd := List.mem_filter.mpr ⟨List.mem_append_left _ (List.mem_map.mpr ⟨q, List.mem_append_right _ (List.mem_append_right _ (List.mem_append_right _ (List.mem_append_right _ (List.mem_append_right _ (List.mem_append_right _ (h)))))), rfl⟩), rfl⟩
theorem k29 : Cond.fieldLink RX9 9 "HeadReckons$Tape" "bytes" "[I" ∈ lw_gd := tb1 (List.mem_of_getElem? (i := 29) rfl) rfl
theorem k30 : Cond.fieldLink RX9 13 "HeadReckons$Tape" "length" "I" ∈ lw_gd := tb1 (List.mem_of_getElem? (i := 30) rfl) rfl
theorem k44 : Cond.fieldLink RX5 11 "HeadReckons$Head" "numbers" "[I" ∈ lw_gd := tb1 (List.mem_of_getElem? (i := 44) rfl) rfl
theorem k45 : Cond.fieldLink RX5 15 "HeadReckons$Head" "pairs" "[I" ∈ lw_gd := tb1 (List.mem_of_getElem? (i := 45) rfl) rfl
theorem k46 : Cond.fieldLink RX5 18 "HeadReckons$Head" "counts" "[I" ∈ lw_gd := tb1 (List.mem_of_getElem? (i := 46) rfl) rfl
theorem k47 : Cond.fieldLink RX5 27 "HeadReckons$Head" "pairCount" "I" ∈ lw_gd := tb1 (List.mem_of_getElem? (i := 47) rfl) rfl
theorem k65 : Cond.fieldLink RX3 11 "HeadReckons$Choice" "codes" "[I" ∈ lw_gd := tb1 (List.mem_of_getElem? (i := 65) rfl) rfl
theorem k66 : Cond.fieldLink RX3 49 "HeadReckons$Choice" "codeCount" "I" ∈ lw_gd := tb1 (List.mem_of_getElem? (i := 66) rfl) rfl
theorem k67 : Cond.fieldLink RX3 15 "HeadReckons$Choice" "draft" "[I" ∈ lw_gd := tb1 (List.mem_of_getElem? (i := 67) rfl) rfl
theorem k68 : Cond.fieldLink RX3 36 "HeadReckons$Choice" "draftCount" "I" ∈ lw_gd := tb1 (List.mem_of_getElem? (i := 68) rfl) rfl
theorem k69 : Cond.fieldLink RX3 18 "HeadReckons$Choice" "stack" "[I" ∈ lw_gd := tb1 (List.mem_of_getElem? (i := 69) rfl) rfl
theorem k70 : Cond.fieldLink RX3 106 "HeadReckons$Choice" "stackSize" "I" ∈ lw_gd := tb1 (List.mem_of_getElem? (i := 70) rfl) rfl
theorem k71 : Cond.fieldLink RX3 24 "HeadReckons$Choice" "text" "LHeadReckons$Tape;" ∈ lw_gd := tb1 (List.mem_of_getElem? (i := 71) rfl) rfl
theorem k72 : Cond.fieldLink RX3 32 "HeadReckons$Choice" "place" "I" ∈ lw_gd := tb1 (List.mem_of_getElem? (i := 72) rfl) rfl
theorem k96 : Cond.fieldLink RX0 11 "HeadReckons$Acts" "sorts" "[I" ∈ lw_gd := tb1 (List.mem_of_getElem? (i := 96) rfl) rfl
theorem k97 : Cond.fieldLink RX0 15 "HeadReckons$Acts" "mades" "[I" ∈ lw_gd := tb1 (List.mem_of_getElem? (i := 97) rfl) rfl
theorem k98 : Cond.fieldLink RX0 18 "HeadReckons$Acts" "lengths" "[I" ∈ lw_gd := tb1 (List.mem_of_getElem? (i := 98) rfl) rfl
theorem k99 : Cond.fieldLink RX0 21 "HeadReckons$Acts" "helds" "[I" ∈ lw_gd := tb1 (List.mem_of_getElem? (i := 99) rfl) rfl
theorem k100 : Cond.fieldLink RX0 24 "HeadReckons$Acts" "slips" "[I" ∈ lw_gd := tb1 (List.mem_of_getElem? (i := 100) rfl) rfl
theorem k101 : Cond.fieldLink RX0 27 "HeadReckons$Acts" "rows" "[I" ∈ lw_gd := tb1 (List.mem_of_getElem? (i := 101) rfl) rfl
theorem k102 : Cond.fieldLink RX0 30 "HeadReckons$Acts" "size" "I" ∈ lw_gd := tb1 (List.mem_of_getElem? (i := 102) rfl) rfl
theorem k103 : Cond.fieldLink RX0 34 "HeadReckons$Acts" "seconds" "I" ∈ lw_gd := tb1 (List.mem_of_getElem? (i := 103) rfl) rfl
theorem k104 : Cond.fieldLink RX0 37 "HeadReckons$Acts" "holds" "I" ∈ lw_gd := tb1 (List.mem_of_getElem? (i := 104) rfl) rfl
theorem k105 : Cond.fieldLink RX0 75 "HeadReckons$Acts" "lookTenths" "I" ∈ lw_gd := tb1 (List.mem_of_getElem? (i := 105) rfl) rfl
theorem k106 : Cond.fieldLink RX0 78 "HeadReckons$Acts" "addTenths" "I" ∈ lw_gd := tb1 (List.mem_of_getElem? (i := 106) rfl) rfl
theorem k107 : Cond.fieldLink RX0 81 "HeadReckons$Acts" "holdTenths" "I" ∈ lw_gd := tb1 (List.mem_of_getElem? (i := 107) rfl) rfl
theorem k108 : Cond.fieldLink RX0 84 "HeadReckons$Acts" "heldDigits" "I" ∈ lw_gd := tb1 (List.mem_of_getElem? (i := 108) rfl) rfl
theorem k109 : Cond.fieldLink RX0 90 "HeadReckons$Acts" "running" "I" ∈ lw_gd := tb1 (List.mem_of_getElem? (i := 109) rfl) rfl
theorem k110 : Cond.fieldLink RX0 93 "HeadReckons$Acts" "runningDigits" "I" ∈ lw_gd := tb1 (List.mem_of_getElem? (i := 110) rfl) rfl
theorem k111 : Cond.fieldLink RX0 96 "HeadReckons$Acts" "begun" "Z" ∈ lw_gd := tb1 (List.mem_of_getElem? (i := 111) rfl) rfl
theorem k151 : Cond.fieldLink RX7 9 "HeadReckons$SeenAsks" "pairs" "[I" ∈ lw_gd := tb1 (List.mem_of_getElem? (i := 151) rfl) rfl
theorem k152 : Cond.fieldLink RX7 13 "HeadReckons$SeenAsks" "tenths" "[I" ∈ lw_gd := tb1 (List.mem_of_getElem? (i := 152) rfl) rfl
theorem k153 : Cond.fieldLink RX7 16 "HeadReckons$SeenAsks" "answers" "[I" ∈ lw_gd := tb1 (List.mem_of_getElem? (i := 153) rfl) rfl
theorem k154 : Cond.fieldLink RX7 21 "HeadReckons$SeenAsks" "size" "I" ∈ lw_gd := tb1 (List.mem_of_getElem? (i := 154) rfl) rfl
theorem k170 : Cond.fieldLink RX2 9 "HeadReckons$Changes" "heads" "[I" ∈ lw_gd := tb1 (List.mem_of_getElem? (i := 170) rfl) rfl
theorem k171 : Cond.fieldLink RX2 13 "HeadReckons$Changes" "whats" "[I" ∈ lw_gd := tb1 (List.mem_of_getElem? (i := 171) rfl) rfl
theorem k172 : Cond.fieldLink RX2 16 "HeadReckons$Changes" "befores" "[I" ∈ lw_gd := tb1 (List.mem_of_getElem? (i := 172) rfl) rfl
theorem k173 : Cond.fieldLink RX2 19 "HeadReckons$Changes" "afters" "[I" ∈ lw_gd := tb1 (List.mem_of_getElem? (i := 173) rfl) rfl
theorem k174 : Cond.fieldLink RX2 22 "HeadReckons$Changes" "standing" "I" ∈ lw_gd := tb1 (List.mem_of_getElem? (i := 174) rfl) rfl
theorem k175 : Cond.fieldLink RX2 26 "HeadReckons$Changes" "kept" "I" ∈ lw_gd := tb1 (List.mem_of_getElem? (i := 175) rfl) rfl
theorem k195 : Cond.fieldLink RX1 11 "HeadReckons$Bodies" "kinds" "[I" ∈ lw_gd := tb1 (List.mem_of_getElem? (i := 195) rfl) rfl
theorem k196 : Cond.fieldLink RX1 25 "HeadReckons$Bodies" "size" "I" ∈ lw_gd := tb1 (List.mem_of_getElem? (i := 196) rfl) rfl
theorem k197 : Cond.fieldLink RX1 15 "HeadReckons$Bodies" "traces" "[I" ∈ lw_gd := tb1 (List.mem_of_getElem? (i := 197) rfl) rfl
theorem k198 : Cond.fieldLink RX1 29 "HeadReckons$Bodies" "ran" "I" ∈ lw_gd := tb1 (List.mem_of_getElem? (i := 198) rfl) rfl
theorem k199 : Cond.fieldLink RX1 35 "HeadReckons$Bodies" "self" "I" ∈ lw_gd := tb1 (List.mem_of_getElem? (i := 199) rfl) rfl
theorem k218 : Cond.fieldLink RX8 9 "HeadReckons$Shelf" "body" "I" ∈ lw_gd := tb1 (List.mem_of_getElem? (i := 218) rfl) rfl
theorem k219 : Cond.fieldLink RX8 13 "HeadReckons$Shelf" "sort" "I" ∈ lw_gd := tb1 (List.mem_of_getElem? (i := 219) rfl) rfl
theorem k220 : Cond.fieldLink RX8 20 "HeadReckons$Shelf" "size" "I" ∈ lw_gd := tb1 (List.mem_of_getElem? (i := 220) rfl) rfl
theorem k221 : Cond.fieldLink RX8 16 "HeadReckons$Shelf" "elements" "[J" ∈ lw_gd := tb1 (List.mem_of_getElem? (i := 221) rfl) rfl
theorem k232 : Cond.fieldLink RX10 10 "HeadReckons" "tape" "LHeadReckons$Tape;" ∈ lw_gd := tb1 (List.mem_of_getElem? (i := 232) rfl) rfl
theorem k233 : Cond.fieldLink RX10 18 "HeadReckons" "heads" "[LHeadReckons$Head;" ∈ lw_gd := tb1 (List.mem_of_getElem? (i := 233) rfl) rfl
theorem k234 : Cond.fieldLink RX10 90 "HeadReckons" "headCount" "I" ∈ lw_gd := tb1 (List.mem_of_getElem? (i := 234) rfl) rfl
theorem k235 : Cond.fieldLink RX10 23 "HeadReckons" "thought" "LHeadReckons$Head;" ∈ lw_gd := tb1 (List.mem_of_getElem? (i := 235) rfl) rfl
theorem k236 : Cond.fieldLink RX10 30 "HeadReckons" "chooser" "LHeadReckons$Choice;" ∈ lw_gd := tb1 (List.mem_of_getElem? (i := 236) rfl) rfl
theorem k237 : Cond.fieldLink RX10 37 "HeadReckons" "acts" "LHeadReckons$Acts;" ∈ lw_gd := tb1 (List.mem_of_getElem? (i := 237) rfl) rfl
theorem k238 : Cond.fieldLink RX10 44 "HeadReckons" "seenAsks" "LHeadReckons$SeenAsks;" ∈ lw_gd := tb1 (List.mem_of_getElem? (i := 238) rfl) rfl
theorem k239 : Cond.fieldLink RX10 48 "HeadReckons" "told" "[I" ∈ lw_gd := tb1 (List.mem_of_getElem? (i := 239) rfl) rfl
theorem k240 : Cond.fieldLink RX10 209 "HeadReckons" "toldCount" "I" ∈ lw_gd := tb2 (List.mem_of_getElem? (i := 0) rfl) rfl
theorem k241 : Cond.fieldLink RX10 52 "HeadReckons" "secondsFresh" "[I" ∈ lw_gd := tb2 (List.mem_of_getElem? (i := 1) rfl) rfl
theorem k242 : Cond.fieldLink RX10 55 "HeadReckons" "secondsLearnt" "[I" ∈ lw_gd := tb2 (List.mem_of_getElem? (i := 2) rfl) rfl
theorem k243 : Cond.fieldLink RX10 58 "HeadReckons" "order" "[I" ∈ lw_gd := tb2 (List.mem_of_getElem? (i := 3) rfl) rfl
theorem k244 : Cond.fieldLink RX10 64 "HeadReckons" "changes" "LHeadReckons$Changes;" ∈ lw_gd := tb2 (List.mem_of_getElem? (i := 4) rfl) rfl
theorem k245 : Cond.fieldLink RX10 71 "HeadReckons" "bodies" "LHeadReckons$Bodies;" ∈ lw_gd := tb2 (List.mem_of_getElem? (i := 5) rfl) rfl
theorem k246 : Cond.fieldLink RX10 77 "HeadReckons" "shelves" "[LHeadReckons$Shelf;" ∈ lw_gd := tb2 (List.mem_of_getElem? (i := 6) rfl) rfl
theorem k302 : Cond.fieldLink RX5 37 "HeadReckons$Head" "LETTERS" "[I" ∈ lw_gd := tb2 (List.mem_of_getElem? (i := 62) rfl) rfl
theorem k316 : Cond.fieldLink RX5 21 "HeadReckons$Head" "LEAST" "[I" ∈ lw_gd := tb2 (List.mem_of_getElem? (i := 76) rfl) rfl
theorem k318 : Cond.fieldLink RX5 24 "HeadReckons$Head" "MOST" "[I" ∈ lw_gd := tb2 (List.mem_of_getElem? (i := 78) rfl) rfl
theorem k495 : Cond.fieldLink RX4 13 "HeadReckons$Figures" "TENS" "[J" ∈ lw_gd := tb3 (List.mem_of_getElem? (i := 15) rfl) rfl
theorem k500 : Cond.fieldLink RX4 7 "HeadReckons$Figures" "INT_TENS" "[I" ∈ lw_gd := tb3 (List.mem_of_getElem? (i := 20) rfl) rfl
theorem k943 : Cond.fieldLink RX1 50 "HeadReckons$Bodies" "OWN" "[I" ∈ lw_gd := tb4 (List.mem_of_getElem? (i := 223) rfl) rfl
theorem k957 : Cond.fieldLink RX1 22 "HeadReckons$Bodies" "ABOVE" "[I" ∈ lw_gd := tb4 (List.mem_of_getElem? (i := 237) rfl) rfl
theorem k1050 : Cond.fieldLink RX11 9 "HeadReckonsModel" "may" "[I" ∈ lw_gd := tb5 (List.mem_of_getElem? (i := 90) rfl) rfl
theorem k1051 : Cond.fieldLink RX11 13 "HeadReckonsModel" "changeAt" "[I" ∈ lw_gd := tb5 (List.mem_of_getElem? (i := 91) rfl) rfl
theorem k1052 : Cond.fieldLink RX11 16 "HeadReckonsModel" "changeWas" "[I" ∈ lw_gd := tb5 (List.mem_of_getElem? (i := 92) rfl) rfl
theorem k1053 : Cond.fieldLink RX11 19 "HeadReckonsModel" "changeIs" "[I" ∈ lw_gd := tb5 (List.mem_of_getElem? (i := 93) rfl) rfl
theorem k1054 : Cond.fieldLink RX11 108 "HeadReckonsModel" "keptMany" "I" ∈ lw_gd := tb5 (List.mem_of_getElem? (i := 94) rfl) rfl
theorem k1055 : Cond.fieldLink RX11 105 "HeadReckonsModel" "done" "I" ∈ lw_gd := tb5 (List.mem_of_getElem? (i := 95) rfl) rfl
theorem k1056 : Cond.fieldLink RX11 22 "HeadReckonsModel" "tape" "[I" ∈ lw_gd := tb5 (List.mem_of_getElem? (i := 96) rfl) rfl
theorem k1057 : Cond.fieldLink RX11 117 "HeadReckonsModel" "tapeMany" "I" ∈ lw_gd := tb5 (List.mem_of_getElem? (i := 97) rfl) rfl
theorem k1058 : Cond.fieldLink RX11 25 "HeadReckonsModel" "text" "[I" ∈ lw_gd := tb5 (List.mem_of_getElem? (i := 98) rfl) rfl
theorem k1059 : Cond.fieldLink RX11 101 "HeadReckonsModel" "textMany" "I" ∈ lw_gd := tb5 (List.mem_of_getElem? (i := 99) rfl) rfl
theorem k1060 : Cond.fieldLink RX11 126 "HeadReckonsModel" "base" "I" ∈ lw_gd := tb5 (List.mem_of_getElem? (i := 100) rfl) rfl
theorem k1061 : Cond.fieldLink RX11 120 "HeadReckonsModel" "at" "I" ∈ lw_gd := tb5 (List.mem_of_getElem? (i := 101) rfl) rfl
theorem k1062 : Cond.fieldLink RX11 123 "HeadReckonsModel" "ends" "I" ∈ lw_gd := tb5 (List.mem_of_getElem? (i := 102) rfl) rfl
theorem k1063 : Cond.fieldLink RX11 129 "HeadReckonsModel" "fault" "I" ∈ lw_gd := tb5 (List.mem_of_getElem? (i := 103) rfl) rfl
theorem k1064 : Cond.fieldLink RX11 155 "HeadReckonsModel" "opened" "I" ∈ lw_gd := tb5 (List.mem_of_getElem? (i := 104) rfl) rfl
theorem k1065 : Cond.fieldLink RX11 28 "HeadReckonsModel" "names" "[I" ∈ lw_gd := tb5 (List.mem_of_getElem? (i := 105) rfl) rfl
theorem k1066 : Cond.fieldLink RX11 172 "HeadReckonsModel" "heads" "I" ∈ lw_gd := tb5 (List.mem_of_getElem? (i := 106) rfl) rfl
theorem k1067 : Cond.fieldLink RX11 31 "HeadReckonsModel" "readHead" "[I" ∈ lw_gd := tb5 (List.mem_of_getElem? (i := 107) rfl) rfl
theorem k1068 : Cond.fieldLink RX11 34 "HeadReckonsModel" "pairs" "[I" ∈ lw_gd := tb5 (List.mem_of_getElem? (i := 108) rfl) rfl
theorem k1069 : Cond.fieldLink RX11 37 "HeadReckonsModel" "pairOf" "[I" ∈ lw_gd := tb5 (List.mem_of_getElem? (i := 109) rfl) rfl
theorem k1070 : Cond.fieldLink RX11 40 "HeadReckonsModel" "askedOf" "[I" ∈ lw_gd := tb5 (List.mem_of_getElem? (i := 110) rfl) rfl
theorem k1071 : Cond.fieldLink RX11 214 "HeadReckonsModel" "actMany" "I" ∈ lw_gd := tb5 (List.mem_of_getElem? (i := 111) rfl) rfl
theorem k1072 : Cond.fieldLink RX11 43 "HeadReckonsModel" "sortOf" "[I" ∈ lw_gd := tb5 (List.mem_of_getElem? (i := 112) rfl) rfl
theorem k1073 : Cond.fieldLink RX11 46 "HeadReckonsModel" "makes" "[I" ∈ lw_gd := tb5 (List.mem_of_getElem? (i := 113) rfl) rfl
theorem k1074 : Cond.fieldLink RX11 49 "HeadReckonsModel" "lengthOf" "[I" ∈ lw_gd := tb5 (List.mem_of_getElem? (i := 114) rfl) rfl
theorem k1075 : Cond.fieldLink RX11 52 "HeadReckonsModel" "heldBehind" "[I" ∈ lw_gd := tb5 (List.mem_of_getElem? (i := 115) rfl) rfl
theorem k1076 : Cond.fieldLink RX11 55 "HeadReckonsModel" "slipOf" "[I" ∈ lw_gd := tb5 (List.mem_of_getElem? (i := 116) rfl) rfl
theorem k1077 : Cond.fieldLink RX11 58 "HeadReckonsModel" "noughts" "[I" ∈ lw_gd := tb5 (List.mem_of_getElem? (i := 117) rfl) rfl
theorem k1078 : Cond.fieldLink RX11 223 "HeadReckonsModel" "held" "I" ∈ lw_gd := tb5 (List.mem_of_getElem? (i := 118) rfl) rfl
theorem k1079 : Cond.fieldLink RX11 226 "HeadReckonsModel" "running" "I" ∈ lw_gd := tb5 (List.mem_of_getElem? (i := 119) rfl) rfl
theorem k1080 : Cond.fieldLink RX11 217 "HeadReckonsModel" "headNow" "I" ∈ lw_gd := tb5 (List.mem_of_getElem? (i := 120) rfl) rfl
theorem k1081 : Cond.fieldLink RX11 253 "HeadReckonsModel" "tableNow" "I" ∈ lw_gd := tb5 (List.mem_of_getElem? (i := 121) rfl) rfl
theorem k1082 : Cond.fieldLink RX11 61 "HeadReckonsModel" "rowsMade" "[I" ∈ lw_gd := tb5 (List.mem_of_getElem? (i := 122) rfl) rfl
theorem k1083 : Cond.fieldLink RX11 306 "HeadReckonsModel" "seenMany" "I" ∈ lw_gd := tb5 (List.mem_of_getElem? (i := 123) rfl) rfl
theorem k1084 : Cond.fieldLink RX11 64 "HeadReckonsModel" "seenAsk" "[I" ∈ lw_gd := tb5 (List.mem_of_getElem? (i := 124) rfl) rfl
theorem k1085 : Cond.fieldLink RX11 67 "HeadReckonsModel" "seenTenths" "[I" ∈ lw_gd := tb5 (List.mem_of_getElem? (i := 125) rfl) rfl
theorem k1086 : Cond.fieldLink RX11 70 "HeadReckonsModel" "seenAnswer" "[I" ∈ lw_gd := tb5 (List.mem_of_getElem? (i := 126) rfl) rfl
theorem k1087 : Cond.fieldLink RX11 333 "HeadReckonsModel" "told" "I" ∈ lw_gd := tb5 (List.mem_of_getElem? (i := 127) rfl) rfl
theorem k1088 : Cond.fieldLink RX11 73 "HeadReckonsModel" "toldAsk" "[I" ∈ lw_gd := tb5 (List.mem_of_getElem? (i := 128) rfl) rfl
theorem k1089 : Cond.fieldLink RX11 76 "HeadReckonsModel" "wasAsked" "[I" ∈ lw_gd := tb5 (List.mem_of_getElem? (i := 129) rfl) rfl
theorem k1090 : Cond.fieldLink RX11 338 "HeadReckonsModel" "wasPairs" "I" ∈ lw_gd := tb5 (List.mem_of_getElem? (i := 130) rfl) rfl
theorem k1091 : Cond.fieldLink RX11 79 "HeadReckonsModel" "order" "[I" ∈ lw_gd := tb5 (List.mem_of_getElem? (i := 131) rfl) rfl
theorem k1092 : Cond.fieldLink RX11 357 "HeadReckonsModel" "bestSum" "I" ∈ lw_gd := tb5 (List.mem_of_getElem? (i := 132) rfl) rfl
theorem k1093 : Cond.fieldLink RX11 360 "HeadReckonsModel" "bestDigits" "I" ∈ lw_gd := tb5 (List.mem_of_getElem? (i := 133) rfl) rfl
theorem k1094 : Cond.fieldLink RX11 397 "HeadReckonsModel" "leastFirst" "J" ∈ lw_gd := tb5 (List.mem_of_getElem? (i := 134) rfl) rfl
theorem k1095 : Cond.fieldLink RX11 411 "HeadReckonsModel" "bodies" "I" ∈ lw_gd := tb5 (List.mem_of_getElem? (i := 135) rfl) rfl
theorem k1096 : Cond.fieldLink RX11 82 "HeadReckonsModel" "bodyKind" "[I" ∈ lw_gd := tb5 (List.mem_of_getElem? (i := 136) rfl) rfl
theorem k1097 : Cond.fieldLink RX11 85 "HeadReckonsModel" "trace" "[I" ∈ lw_gd := tb5 (List.mem_of_getElem? (i := 137) rfl) rfl
theorem k1098 : Cond.fieldLink RX11 416 "HeadReckonsModel" "ran" "I" ∈ lw_gd := tb5 (List.mem_of_getElem? (i := 138) rfl) rfl
theorem k1099 : Cond.fieldLink RX11 431 "HeadReckonsModel" "ownKind" "I" ∈ lw_gd := tb5 (List.mem_of_getElem? (i := 139) rfl) rfl
theorem k1100 : Cond.fieldLink RX11 425 "HeadReckonsModel" "ownNumber" "I" ∈ lw_gd := tb5 (List.mem_of_getElem? (i := 140) rfl) rfl
theorem k1101 : Cond.fieldLink RX11 88 "HeadReckonsModel" "shelf" "[I" ∈ lw_gd := tb5 (List.mem_of_getElem? (i := 141) rfl) rfl
theorem k1102 : Cond.fieldLink RX11 91 "HeadReckonsModel" "many" "[I" ∈ lw_gd := tb5 (List.mem_of_getElem? (i := 142) rfl) rfl
theorem k1103 : Cond.fieldLink RX11 94 "HeadReckonsModel" "items" "[J" ∈ lw_gd := tb5 (List.mem_of_getElem? (i := 143) rfl) rfl
theorem k1104 : Cond.fieldLink RX11 98 "HeadReckonsModel" "carried" "[J" ∈ lw_gd := tb5 (List.mem_of_getElem? (i := 144) rfl) rfl
theorem k17 : Cond.methodLink RL 9 yX10_init ∈ lw_gd := tb1 (List.mem_of_getElem? (i := 17) rfl) rfl
theorem k20 : Cond.methodLink RX10 1 objectInit ∈ lw_gd := tb1 (List.mem_of_getElem? (i := 20) rfl) rfl
theorem k28 : Cond.methodLink RX9 1 objectInit ∈ lw_gd := tb1 (List.mem_of_getElem? (i := 28) rfl) rfl
theorem k43 : Cond.methodLink RX5 3 objectInit ∈ lw_gd := tb1 (List.mem_of_getElem? (i := 43) rfl) rfl
theorem k59 : Cond.methodLink RX10 29 yX3_init ∈ lw_gd := tb1 (List.mem_of_getElem? (i := 59) rfl) rfl
theorem k62 : Cond.methodLink RX3 3 objectInit ∈ lw_gd := tb1 (List.mem_of_getElem? (i := 62) rfl) rfl
theorem k95 : Cond.methodLink RX0 3 objectInit ∈ lw_gd := tb1 (List.mem_of_getElem? (i := 95) rfl) rfl
theorem k150 : Cond.methodLink RX7 1 objectInit ∈ lw_gd := tb1 (List.mem_of_getElem? (i := 150) rfl) rfl
theorem k169 : Cond.methodLink RX2 1 objectInit ∈ lw_gd := tb1 (List.mem_of_getElem? (i := 169) rfl) rfl
theorem k194 : Cond.methodLink RX1 3 objectInit ∈ lw_gd := tb1 (List.mem_of_getElem? (i := 194) rfl) rfl
theorem k217 : Cond.methodLink RX8 1 objectInit ∈ lw_gd := tb1 (List.mem_of_getElem? (i := 217) rfl) rfl
theorem k278 : Cond.methodLink RL 13 yX10_feed ∈ lw_gd := tb2 (List.mem_of_getElem? (i := 38) rfl) rfl
theorem k282 : Cond.methodLink RX10 82 yX9_takes ∈ lw_gd := tb2 (List.mem_of_getElem? (i := 42) rfl) rfl
theorem k286 : Cond.methodLink RX10 86 yX9_length ∈ lw_gd := tb2 (List.mem_of_getElem? (i := 46) rfl) rfl
theorem k290 : Cond.methodLink RL 18 yX10_head ∈ lw_gd := tb2 (List.mem_of_getElem? (i := 50) rfl) rfl
theorem k294 : Cond.methodLink RX10 94 yX5_read ∈ lw_gd := tb2 (List.mem_of_getElem? (i := 54) rfl) rfl
theorem k298 : Cond.methodLink RX5 31 yX9_at ∈ lw_gd := tb2 (List.mem_of_getElem? (i := 58) rfl) rfl
theorem k304 : Cond.methodLink RX5 40 yX5_digitsAt ∈ lw_gd := tb2 (List.mem_of_getElem? (i := 64) rfl) rfl
theorem k307 : Cond.methodLink RX5 56 yX4_isDigit ∈ lw_gd := tb2 (List.mem_of_getElem? (i := 67) rfl) rfl
theorem k310 : Cond.methodLink RX5 44 yX5_valueAt ∈ lw_gd := tb2 (List.mem_of_getElem? (i := 70) rfl) rfl
theorem k313 : Cond.methodLink RX5 48 yX5_mayBe ∈ lw_gd := tb2 (List.mem_of_getElem? (i := 73) rfl) rfl
theorem k320 : Cond.methodLink RX5 52 yX9_length ∈ lw_gd := tb2 (List.mem_of_getElem? (i := 80) rfl) rfl
theorem k321 : Cond.methodLink RX10 98 yX9_clear ∈ lw_gd := tb2 (List.mem_of_getElem? (i := 81) rfl) rfl
theorem k325 : Cond.methodLink RX10 101 yX5_become ∈ lw_gd := tb2 (List.mem_of_getElem? (i := 85) rfl) rfl
theorem k329 : Cond.methodLink RX5 62 arraycopyName ∈ lw_gd := tb2 (List.mem_of_getElem? (i := 89) rfl) rfl
theorem k332 : Cond.methodLink RL 23 yX10_of ∈ lw_gd := tb2 (List.mem_of_getElem? (i := 92) rfl) rfl
theorem k336 : Cond.methodLink RX10 105 yX10_isHead ∈ lw_gd := tb2 (List.mem_of_getElem? (i := 96) rfl) rfl
theorem k340 : Cond.methodLink RX10 109 yX5_learntCount ∈ lw_gd := tb2 (List.mem_of_getElem? (i := 100) rfl) rfl
theorem k344 : Cond.methodLink RX10 112 yX5_number ∈ lw_gd := tb2 (List.mem_of_getElem? (i := 104) rfl) rfl
theorem k348 : Cond.methodLink RL 27 yX10_turn ∈ lw_gd := tb2 (List.mem_of_getElem? (i := 108) rfl) rfl
theorem k352 : Cond.methodLink RX10 116 yX5_mayBe ∈ lw_gd := tb2 (List.mem_of_getElem? (i := 112) rfl) rfl
theorem k353 : Cond.methodLink RX10 119 yX2_came ∈ lw_gd := tb2 (List.mem_of_getElem? (i := 113) rfl) rfl
theorem k357 : Cond.methodLink RX2 29 yX2_forgetOldest ∈ lw_gd := tb2 (List.mem_of_getElem? (i := 117) rfl) rfl
theorem k361 : Cond.methodLink RX2 32 arraycopyName ∈ lw_gd := tb2 (List.mem_of_getElem? (i := 121) rfl) rfl
theorem k362 : Cond.methodLink RX10 123 yX5_setNumber ∈ lw_gd := tb2 (List.mem_of_getElem? (i := 122) rfl) rfl
theorem k366 : Cond.methodLink RL 32 yX10_choice ∈ lw_gd := tb2 (List.mem_of_getElem? (i := 126) rfl) rfl
theorem k370 : Cond.methodLink RX10 127 yX3_read ∈ lw_gd := tb2 (List.mem_of_getElem? (i := 130) rfl) rfl
theorem k374 : Cond.methodLink RX3 28 yX9_become ∈ lw_gd := tb2 (List.mem_of_getElem? (i := 134) rfl) rfl
theorem k378 : Cond.methodLink RX9 17 arraycopyName ∈ lw_gd := tb2 (List.mem_of_getElem? (i := 138) rfl) rfl
theorem k379 : Cond.methodLink RX3 39 yX3_readLines ∈ lw_gd := tb2 (List.mem_of_getElem? (i := 139) rfl) rfl
theorem k383 : Cond.methodLink RX3 52 yX9_length ∈ lw_gd := tb2 (List.mem_of_getElem? (i := 143) rfl) rfl
theorem k384 : Cond.methodLink RX3 56 yX3_readLine ∈ lw_gd := tb2 (List.mem_of_getElem? (i := 144) rfl) rfl
theorem k388 : Cond.methodLink RX3 63 yX3_readAny ∈ lw_gd := tb2 (List.mem_of_getElem? (i := 148) rfl) rfl
theorem k392 : Cond.methodLink RX3 70 yX3_readAll ∈ lw_gd := tb2 (List.mem_of_getElem? (i := 152) rfl) rfl
theorem k396 : Cond.methodLink RX3 73 yX3_readCompared ∈ lw_gd := tb2 (List.mem_of_getElem? (i := 156) rfl) rfl
theorem k400 : Cond.methodLink RX3 76 yX3_readSum ∈ lw_gd := tb2 (List.mem_of_getElem? (i := 160) rfl) rfl
theorem k404 : Cond.methodLink RX3 83 yX3_readProduct ∈ lw_gd := tb2 (List.mem_of_getElem? (i := 164) rfl) rfl
theorem k408 : Cond.methodLink RX3 86 yX3_readOperand ∈ lw_gd := tb2 (List.mem_of_getElem? (i := 168) rfl) rfl
theorem k412 : Cond.methodLink RX3 79 yX9_at ∈ lw_gd := tb2 (List.mem_of_getElem? (i := 172) rfl) rfl
theorem k413 : Cond.methodLink RX3 89 yX3_readOpened ∈ lw_gd := tb2 (List.mem_of_getElem? (i := 173) rfl) rfl
theorem k417 : Cond.methodLink RX3 59 yX3_goesOnWith ∈ lw_gd := tb2 (List.mem_of_getElem? (i := 177) rfl) rfl
theorem k421 : Cond.methodLink RX3 66 yX3_write ∈ lw_gd := tb2 (List.mem_of_getElem? (i := 181) rfl) rfl
theorem k425 : Cond.methodLink RX3 103 yX3_writeCode ∈ lw_gd := tb2 (List.mem_of_getElem? (i := 185) rfl) rfl
theorem k429 : Cond.methodLink RX3 92 yX4_isDigit ∈ lw_gd := tb2 (List.mem_of_getElem? (i := 189) rfl) rfl
theorem k430 : Cond.methodLink RX3 97 yX3_readNumber ∈ lw_gd := tb2 (List.mem_of_getElem? (i := 190) rfl) rfl
theorem k434 : Cond.methodLink RX3 100 yX3_isName ∈ lw_gd := tb2 (List.mem_of_getElem? (i := 194) rfl) rfl
theorem k437 : Cond.methodLink RX3 43 arraycopyName ∈ lw_gd := tb2 (List.mem_of_getElem? (i := 197) rfl) rfl
theorem k438 : Cond.methodLink RL 36 yX10_way ∈ lw_gd := tb2 (List.mem_of_getElem? (i := 198) rfl) rfl
theorem k442 : Cond.methodLink RX10 128 yX10_isHeadAndWay ∈ lw_gd := tb2 (List.mem_of_getElem? (i := 202) rfl) rfl
theorem k446 : Cond.methodLink RX10 131 yX10_isPair ∈ lw_gd := tb2 (List.mem_of_getElem? (i := 206) rfl) rfl
theorem k449 : Cond.methodLink RX10 343 yX10_isNumber ∈ lw_gd := tb2 (List.mem_of_getElem? (i := 209) rfl) rfl
theorem k452 : Cond.methodLink RX10 134 yX0_reckon ∈ lw_gd := tb2 (List.mem_of_getElem? (i := 212) rfl) rfl
theorem k456 : Cond.methodLink RX0 41 yX0_begin ∈ lw_gd := tb2 (List.mem_of_getElem? (i := 216) rfl) rfl
theorem k460 : Cond.methodLink RX0 67 yX5_number ∈ lw_gd := tb2 (List.mem_of_getElem? (i := 220) rfl) rfl
theorem k461 : Cond.methodLink RX0 87 yX0_beginAnew ∈ lw_gd := tb2 (List.mem_of_getElem? (i := 221) rfl) rfl
theorem k465 : Cond.methodLink RX0 45 yX5_looksUp ∈ lw_gd := tb2 (List.mem_of_getElem? (i := 225) rfl) rfl
theorem k469 : Cond.methodLink RX5 68 yX5_placeOf ∈ lw_gd := tb2 (List.mem_of_getElem? (i := 229) rfl) rfl
theorem k473 : Cond.methodLink RX0 51 yX0_goKnown ∈ lw_gd := tb2 (List.mem_of_getElem? (i := 233) rfl) rfl
theorem k477 : Cond.methodLink RX0 100 yX0_run ∈ lw_gd := tb2 (List.mem_of_getElem? (i := 237) rfl) rfl
theorem k481 : Cond.methodLink RX0 104 Lib.Math.min.name ∈ lw_gd := tb3 (List.mem_of_getElem? (i := 1) rfl) rfl
theorem k484 : Cond.methodLink RX0 110 yX0_note ∈ lw_gd := tb3 (List.mem_of_getElem? (i := 4) rfl) rfl
theorem k488 : Cond.methodLink RX0 55 yX0_goLeft ∈ lw_gd := tb3 (List.mem_of_getElem? (i := 8) rfl) rfl
theorem k492 : Cond.methodLink RX0 114 yX4_sizeOf ∈ lw_gd := tb3 (List.mem_of_getElem? (i := 12) rfl) rfl
theorem k497 : Cond.methodLink RX0 120 yX4_tenTo ∈ lw_gd := tb3 (List.mem_of_getElem? (i := 17) rfl) rfl
theorem k502 : Cond.methodLink RX0 123 yX4_figureAt ∈ lw_gd := tb3 (List.mem_of_getElem? (i := 22) rfl) rfl
theorem k505 : Cond.methodLink RX0 126 yX0_lookAndAdd ∈ lw_gd := tb3 (List.mem_of_getElem? (i := 25) rfl) rfl
theorem k509 : Cond.methodLink RX0 58 yX0_goRight ∈ lw_gd := tb3 (List.mem_of_getElem? (i := 29) rfl) rfl
theorem k513 : Cond.methodLink RX0 129 yX0_holdRunning ∈ lw_gd := tb3 (List.mem_of_getElem? (i := 33) rfl) rfl
theorem k517 : Cond.methodLink RX0 132 yX0_addRows ∈ lw_gd := tb3 (List.mem_of_getElem? (i := 37) rfl) rfl
theorem k521 : Cond.methodLink RX0 135 yX0_letGo ∈ lw_gd := tb3 (List.mem_of_getElem? (i := 41) rfl) rfl
theorem k525 : Cond.methodLink RX0 138 yX0_add ∈ lw_gd := tb3 (List.mem_of_getElem? (i := 45) rfl) rfl
theorem k529 : Cond.methodLink RX0 61 yX0_goCrossed ∈ lw_gd := tb3 (List.mem_of_getElem? (i := 49) rfl) rfl
theorem k533 : Cond.methodLink RX0 142 yX0_holdLastFigure ∈ lw_gd := tb3 (List.mem_of_getElem? (i := 53) rfl) rfl
theorem k537 : Cond.methodLink RX0 148 Lib.Math.max.name ∈ lw_gd := tb3 (List.mem_of_getElem? (i := 57) rfl) rfl
theorem k540 : Cond.methodLink RX0 64 yX0_goSquared ∈ lw_gd := tb3 (List.mem_of_getElem? (i := 60) rfl) rfl
theorem k544 : Cond.methodLink RX0 145 Lib.Math.abs.name ∈ lw_gd := tb3 (List.mem_of_getElem? (i := 64) rfl) rfl
theorem k547 : Cond.methodLink RX0 71 yX0_goSplit ∈ lw_gd := tb3 (List.mem_of_getElem? (i := 67) rfl) rfl
theorem k551 : Cond.methodLink RX10 138 yX0_seconds ∈ lw_gd := tb3 (List.mem_of_getElem? (i := 71) rfl) rfl
theorem k555 : Cond.methodLink RX10 141 yX0_holds ∈ lw_gd := tb3 (List.mem_of_getElem? (i := 75) rfl) rfl
theorem k559 : Cond.methodLink RX10 144 yX0_size ∈ lw_gd := tb3 (List.mem_of_getElem? (i := 79) rfl) rfl
theorem k563 : Cond.methodLink RL 40 yX10_step ∈ lw_gd := tb3 (List.mem_of_getElem? (i := 83) rfl) rfl
theorem k568 : Cond.methodLink RX10 148 yX0_told ∈ lw_gd := tb3 (List.mem_of_getElem? (i := 88) rfl) rfl
theorem k573 : Cond.methodLink RL 45 yX10_chosen ∈ lw_gd := tb3 (List.mem_of_getElem? (i := 93) rfl) rfl
theorem k577 : Cond.methodLink RX10 151 yX10_reckonChosen ∈ lw_gd := tb3 (List.mem_of_getElem? (i := 97) rfl) rfl
theorem k581 : Cond.methodLink RX10 345 yX3_numberFor ∈ lw_gd := tb3 (List.mem_of_getElem? (i := 101) rfl) rfl
theorem k585 : Cond.methodLink RX3 109 yX3_pop ∈ lw_gd := tb3 (List.mem_of_getElem? (i := 105) rfl) rfl
theorem k589 : Cond.methodLink RX3 112 yX3_workOut ∈ lw_gd := tb3 (List.mem_of_getElem? (i := 109) rfl) rfl
theorem k593 : Cond.methodLink RX3 116 yX3_push ∈ lw_gd := tb3 (List.mem_of_getElem? (i := 113) rfl) rfl
theorem k597 : Cond.methodLink RX3 119 yX3_valueOf ∈ lw_gd := tb3 (List.mem_of_getElem? (i := 117) rfl) rfl
theorem k600 : Cond.methodLink RX3 127 yX4_sizeOf ∈ lw_gd := tb3 (List.mem_of_getElem? (i := 120) rfl) rfl
theorem k601 : Cond.methodLink RX3 131 Lib.Math.abs.name ∈ lw_gd := tb3 (List.mem_of_getElem? (i := 121) rfl) rfl
theorem k602 : Cond.methodLink RX3 136 yX4_noughtsIn ∈ lw_gd := tb3 (List.mem_of_getElem? (i := 122) rfl) rfl
theorem k605 : Cond.methodLink RX3 141 yX5_number ∈ lw_gd := tb3 (List.mem_of_getElem? (i := 125) rfl) rfl
theorem k606 : Cond.methodLink RX3 144 yX5_capacity ∈ lw_gd := tb3 (List.mem_of_getElem? (i := 126) rfl) rfl
theorem k610 : Cond.methodLink RX3 123 yX3_joined ∈ lw_gd := tb3 (List.mem_of_getElem? (i := 130) rfl) rfl
theorem k613 : Cond.methodLink RL 49 yX10_answer ∈ lw_gd := tb3 (List.mem_of_getElem? (i := 133) rfl) rfl
theorem k617 : Cond.methodLink RX10 155 yX10_productOf ∈ lw_gd := tb3 (List.mem_of_getElem? (i := 137) rfl) rfl
theorem k620 : Cond.methodLink RX10 158 yX5_capacity ∈ lw_gd := tb3 (List.mem_of_getElem? (i := 140) rfl) rfl
theorem k621 : Cond.methodLink RX10 161 yX0_slipsDrawn ∈ lw_gd := tb3 (List.mem_of_getElem? (i := 141) rfl) rfl
theorem k626 : Cond.methodLink RX0 152 yX0_slipDrawn ∈ lw_gd := tb3 (List.mem_of_getElem? (i := 146) rfl) rfl
theorem k630 : Cond.methodLink RL 53 yX10_quickest ∈ lw_gd := tb3 (List.mem_of_getElem? (i := 150) rfl) rfl
theorem k634 : Cond.methodLink RL 57 yX10_table ∈ lw_gd := tb3 (List.mem_of_getElem? (i := 154) rfl) rfl
theorem k638 : Cond.methodLink RL 61 yX10_see ∈ lw_gd := tb3 (List.mem_of_getElem? (i := 158) rfl) rfl
theorem k642 : Cond.methodLink RX10 164 yX7_mayBe ∈ lw_gd := tb3 (List.mem_of_getElem? (i := 162) rfl) rfl
theorem k647 : Cond.methodLink RX10 165 yX7_takes ∈ lw_gd := tb3 (List.mem_of_getElem? (i := 167) rfl) rfl
theorem k651 : Cond.methodLink RX10 168 yX7_size ∈ lw_gd := tb3 (List.mem_of_getElem? (i := 171) rfl) rfl
theorem k655 : Cond.methodLink RL 65 yX10_asks ∈ lw_gd := tb3 (List.mem_of_getElem? (i := 175) rfl) rfl
theorem k659 : Cond.methodLink RX10 169 yX10_isShelf ∈ lw_gd := tb3 (List.mem_of_getElem? (i := 179) rfl) rfl
theorem k662 : Cond.methodLink RX10 172 yX8_isEmpty ∈ lw_gd := tb3 (List.mem_of_getElem? (i := 182) rfl) rfl
theorem k666 : Cond.methodLink RX10 176 yX8_holdsInts ∈ lw_gd := tb3 (List.mem_of_getElem? (i := 186) rfl) rfl
theorem k671 : Cond.methodLink RX10 181 yX10_comesFrom ∈ lw_gd := tb3 (List.mem_of_getElem? (i := 191) rfl) rfl
theorem k676 : Cond.methodLink RX10 356 yX8_size ∈ lw_gd := tb3 (List.mem_of_getElem? (i := 196) rfl) rfl
theorem k680 : Cond.methodLink RX10 314 yX8_elementAt ∈ lw_gd := tb3 (List.mem_of_getElem? (i := 200) rfl) rfl
theorem k684 : Cond.methodLink RX8 32 yX8_hasPlaces ∈ lw_gd := tb3 (List.mem_of_getElem? (i := 204) rfl) rfl
theorem k688 : Cond.methodLink RL 69 yX10_seen ∈ lw_gd := tb3 (List.mem_of_getElem? (i := 208) rfl) rfl
theorem k692 : Cond.methodLink RX10 185 yX7_has ∈ lw_gd := tb3 (List.mem_of_getElem? (i := 212) rfl) rfl
theorem k696 : Cond.methodLink RX10 188 yX7_pair ∈ lw_gd := tb3 (List.mem_of_getElem? (i := 216) rfl) rfl
theorem k700 : Cond.methodLink RX7 25 yX7_has ∈ lw_gd := tb3 (List.mem_of_getElem? (i := 220) rfl) rfl
theorem k701 : Cond.methodLink RX10 191 yX7_tenths ∈ lw_gd := tb3 (List.mem_of_getElem? (i := 221) rfl) rfl
theorem k705 : Cond.methodLink RX10 194 yX10_offOf ∈ lw_gd := tb3 (List.mem_of_getElem? (i := 225) rfl) rfl
theorem k709 : Cond.methodLink RX10 351 yX7_answerOf ∈ lw_gd := tb3 (List.mem_of_getElem? (i := 229) rfl) rfl
theorem k713 : Cond.methodLink RL 73 yX10_fits ∈ lw_gd := tb3 (List.mem_of_getElem? (i := 233) rfl) rfl
theorem k717 : Cond.methodLink RX10 197 yX10_fitsAll ∈ lw_gd := tb3 (List.mem_of_getElem? (i := 237) rfl) rfl
theorem k721 : Cond.methodLink RX10 203 yX0_firstThatCan ∈ lw_gd := tb4 (List.mem_of_getElem? (i := 1) rfl) rfl
theorem k725 : Cond.methodLink RX0 155 yX0_canSlip ∈ lw_gd := tb4 (List.mem_of_getElem? (i := 5) rfl) rfl
theorem k729 : Cond.methodLink RX10 357 Lib.Math.abs.name ∈ lw_gd := tb4 (List.mem_of_getElem? (i := 9) rfl) rfl
theorem k730 : Cond.methodLink RL 77 yX10_best ∈ lw_gd := tb4 (List.mem_of_getElem? (i := 10) rfl) rfl
theorem k734 : Cond.methodLink RX10 200 yX10_sumOfDifferences ∈ lw_gd := tb4 (List.mem_of_getElem? (i := 14) rfl) rfl
theorem k738 : Cond.methodLink RL 81 yX10_slip ∈ lw_gd := tb4 (List.mem_of_getElem? (i := 18) rfl) rfl
theorem k742 : Cond.methodLink RX10 206 yX0_howManyCan ∈ lw_gd := tb4 (List.mem_of_getElem? (i := 22) rfl) rfl
theorem k746 : Cond.methodLink RL 85 yX10_suits ∈ lw_gd := tb4 (List.mem_of_getElem? (i := 26) rfl) rfl
theorem k750 : Cond.methodLink RL 90 yX10_tell ∈ lw_gd := tb4 (List.mem_of_getElem? (i := 30) rfl) rfl
theorem k754 : Cond.methodLink RL 94 yX10_untell ∈ lw_gd := tb4 (List.mem_of_getElem? (i := 34) rfl) rfl
theorem k758 : Cond.methodLink RL 98 yX10_parts ∈ lw_gd := tb4 (List.mem_of_getElem? (i := 38) rfl) rfl
theorem k762 : Cond.methodLink RX10 212 yX10_spreadOf ∈ lw_gd := tb4 (List.mem_of_getElem? (i := 42) rfl) rfl
theorem k766 : Cond.methodLink RX10 222 Lib.Math.min.name ∈ lw_gd := tb4 (List.mem_of_getElem? (i := 46) rfl) rfl
theorem k767 : Cond.methodLink RX10 348 Lib.Math.max.name ∈ lw_gd := tb4 (List.mem_of_getElem? (i := 47) rfl) rfl
theorem k768 : Cond.methodLink RL 102 yX10_ask ∈ lw_gd := tb4 (List.mem_of_getElem? (i := 48) rfl) rfl
theorem k772 : Cond.methodLink RX10 216 yX5_hear ∈ lw_gd := tb4 (List.mem_of_getElem? (i := 52) rfl) rfl
theorem k779 : Cond.methodLink RL 106 yX10_taught ∈ lw_gd := tb4 (List.mem_of_getElem? (i := 59) rfl) rfl
theorem k783 : Cond.methodLink RX10 219 yX10_allToldCanBeTaught ∈ lw_gd := tb4 (List.mem_of_getElem? (i := 63) rfl) rfl
theorem k787 : Cond.methodLink RX10 360 yX10_canBeTaught ∈ lw_gd := tb4 (List.mem_of_getElem? (i := 67) rfl) rfl
theorem k788 : Cond.methodLink RL 110 yX10_first ∈ lw_gd := tb4 (List.mem_of_getElem? (i := 68) rfl) rfl
theorem k792 : Cond.methodLink RX10 227 yX10_prepareOrders ∈ lw_gd := tb4 (List.mem_of_getElem? (i := 72) rfl) rfl
theorem k796 : Cond.methodLink RX10 231 yX10_orderAsDigits ∈ lw_gd := tb4 (List.mem_of_getElem? (i := 76) rfl) rfl
theorem k800 : Cond.methodLink RX10 234 yX10_secondsOfOrder ∈ lw_gd := tb4 (List.mem_of_getElem? (i := 80) rfl) rfl
theorem k804 : Cond.methodLink RX10 237 yX10_nextOrder ∈ lw_gd := tb4 (List.mem_of_getElem? (i := 84) rfl) rfl
theorem k808 : Cond.methodLink RX10 363 yX10_swapPlaces ∈ lw_gd := tb4 (List.mem_of_getElem? (i := 88) rfl) rfl
theorem k812 : Cond.methodLink RL 116 yX10_root ∈ lw_gd := tb4 (List.mem_of_getElem? (i := 92) rfl) rfl
theorem k816 : Cond.methodLink RX10 240 yX6_isNumber ∈ lw_gd := tb4 (List.mem_of_getElem? (i := 96) rfl) rfl
theorem k820 : Cond.methodLink RX10 246 yX6_isPower ∈ lw_gd := tb4 (List.mem_of_getElem? (i := 100) rfl) rfl
theorem k823 : Cond.methodLink RX10 249 yX6_whole ∈ lw_gd := tb4 (List.mem_of_getElem? (i := 103) rfl) rfl
theorem k826 : Cond.methodLink RX6 27 yX6_cutRoot ∈ lw_gd := tb4 (List.mem_of_getElem? (i := 106) rfl) rfl
theorem k829 : Cond.methodLink RX6 17 yX6_mostRoot ∈ lw_gd := tb4 (List.mem_of_getElem? (i := 109) rfl) rfl
theorem k836 : Cond.methodLink RX6 23 yX6_raised ∈ lw_gd := tb4 (List.mem_of_getElem? (i := 116) rfl) rfl
theorem k839 : Cond.methodLink RL 121 yX10_firsts ∈ lw_gd := tb4 (List.mem_of_getElem? (i := 119) rfl) rfl
theorem k843 : Cond.methodLink RX10 253 yX4_sizeOf ∈ lw_gd := tb4 (List.mem_of_getElem? (i := 123) rfl) rfl
theorem k844 : Cond.methodLink RX10 259 yX6_howMany ∈ lw_gd := tb4 (List.mem_of_getElem? (i := 124) rfl) rfl
theorem k847 : Cond.methodLink RX6 47 yX6_fromRoot ∈ lw_gd := tb4 (List.mem_of_getElem? (i := 127) rfl) rfl
theorem k850 : Cond.methodLink RX6 42 yX6_leastWithFirsts ∈ lw_gd := tb4 (List.mem_of_getElem? (i := 130) rfl) rfl
theorem k853 : Cond.methodLink RX6 30 yX6_unitOf ∈ lw_gd := tb4 (List.mem_of_getElem? (i := 133) rfl) rfl
theorem k856 : Cond.methodLink RX6 33 yX4_sizeOf ∈ lw_gd := tb4 (List.mem_of_getElem? (i := 136) rfl) rfl
theorem k857 : Cond.methodLink RX6 39 yX4_longTenTo ∈ lw_gd := tb4 (List.mem_of_getElem? (i := 137) rfl) rfl
theorem k860 : Cond.methodLink RX6 51 yX6_toRoot ∈ lw_gd := tb4 (List.mem_of_getElem? (i := 140) rfl) rfl
theorem k864 : Cond.methodLink RX6 54 yX6_endsAlike ∈ lw_gd := tb4 (List.mem_of_getElem? (i := 144) rfl) rfl
theorem k867 : Cond.methodLink RX10 263 yX6_least ∈ lw_gd := tb4 (List.mem_of_getElem? (i := 147) rfl) rfl
theorem k870 : Cond.methodLink RL 126 yX10_enough ∈ lw_gd := tb4 (List.mem_of_getElem? (i := 150) rfl) rfl
theorem k874 : Cond.methodLink RL 130 yX10_undo ∈ lw_gd := tb4 (List.mem_of_getElem? (i := 154) rfl) rfl
theorem k878 : Cond.methodLink RX10 266 yX2_undoable ∈ lw_gd := tb4 (List.mem_of_getElem? (i := 158) rfl) rfl
theorem k882 : Cond.methodLink RX10 269 yX2_stepBack ∈ lw_gd := tb4 (List.mem_of_getElem? (i := 162) rfl) rfl
theorem k886 : Cond.methodLink RX2 38 yX2_apply ∈ lw_gd := tb4 (List.mem_of_getElem? (i := 166) rfl) rfl
theorem k890 : Cond.methodLink RX2 42 yX5_setNumber ∈ lw_gd := tb4 (List.mem_of_getElem? (i := 170) rfl) rfl
theorem k891 : Cond.methodLink RL 134 yX10_redo ∈ lw_gd := tb4 (List.mem_of_getElem? (i := 171) rfl) rfl
theorem k895 : Cond.methodLink RX10 273 yX2_redoable ∈ lw_gd := tb4 (List.mem_of_getElem? (i := 175) rfl) rfl
theorem k899 : Cond.methodLink RX10 276 yX2_stepOn ∈ lw_gd := tb4 (List.mem_of_getElem? (i := 179) rfl) rfl
theorem k903 : Cond.methodLink RL 138 yX10_body ∈ lw_gd := tb4 (List.mem_of_getElem? (i := 183) rfl) rfl
theorem k907 : Cond.methodLink RX10 279 yX1_isKind ∈ lw_gd := tb4 (List.mem_of_getElem? (i := 187) rfl) rfl
theorem k910 : Cond.methodLink RX10 282 yX1_takes ∈ lw_gd := tb4 (List.mem_of_getElem? (i := 190) rfl) rfl
theorem k914 : Cond.methodLink RX10 284 yX1_size ∈ lw_gd := tb4 (List.mem_of_getElem? (i := 194) rfl) rfl
theorem k918 : Cond.methodLink RL 142 yX10_act ∈ lw_gd := tb4 (List.mem_of_getElem? (i := 198) rfl) rfl
theorem k922 : Cond.methodLink RX10 285 yX1_start ∈ lw_gd := tb4 (List.mem_of_getElem? (i := 202) rfl) rfl
theorem k926 : Cond.methodLink RX1 32 yX1_has ∈ lw_gd := tb4 (List.mem_of_getElem? (i := 206) rfl) rfl
theorem k930 : Cond.methodLink RX1 38 yX1_own ∈ lw_gd := tb4 (List.mem_of_getElem? (i := 210) rfl) rfl
theorem k934 : Cond.methodLink RX1 42 yX1_kindOf ∈ lw_gd := tb4 (List.mem_of_getElem? (i := 214) rfl) rfl
theorem k938 : Cond.methodLink RX1 46 yX1_nearest ∈ lw_gd := tb4 (List.mem_of_getElem? (i := 218) rfl) rfl
theorem k942 : Cond.methodLink RX1 18 yX1_isKind ∈ lw_gd := tb4 (List.mem_of_getElem? (i := 222) rfl) rfl
theorem k945 : Cond.methodLink RX1 53 yX1_run ∈ lw_gd := tb4 (List.mem_of_getElem? (i := 225) rfl) rfl
theorem k949 : Cond.methodLink RX1 56 yX1_noteRun ∈ lw_gd := tb4 (List.mem_of_getElem? (i := 229) rfl) rfl
theorem k953 : Cond.methodLink RX1 60 yX1_fromAbove ∈ lw_gd := tb4 (List.mem_of_getElem? (i := 233) rfl) rfl
theorem k959 : Cond.methodLink RL 146 yX10_trace ∈ lw_gd := tb4 (List.mem_of_getElem? (i := 239) rfl) rfl
theorem k963 : Cond.methodLink RX10 289 yX1_traced ∈ lw_gd := tb5 (List.mem_of_getElem? (i := 3) rfl) rfl
theorem k967 : Cond.methodLink RL 150 yX10_keep ∈ lw_gd := tb5 (List.mem_of_getElem? (i := 7) rfl) rfl
theorem k971 : Cond.methodLink RX10 292 yX1_has ∈ lw_gd := tb5 (List.mem_of_getElem? (i := 11) rfl) rfl
theorem k972 : Cond.methodLink RX10 293 yX8_holdBody ∈ lw_gd := tb5 (List.mem_of_getElem? (i := 12) rfl) rfl
theorem k976 : Cond.methodLink RL 154 yX10_row ∈ lw_gd := tb5 (List.mem_of_getElem? (i := 16) rfl) rfl
theorem k980 : Cond.methodLink RX10 297 yX8_isSort ∈ lw_gd := tb5 (List.mem_of_getElem? (i := 20) rfl) rfl
theorem k983 : Cond.methodLink RX10 300 yX8_holdRow ∈ lw_gd := tb5 (List.mem_of_getElem? (i := 23) rfl) rfl
theorem k987 : Cond.methodLink RX8 23 Lib.Math.min.name ∈ lw_gd := tb5 (List.mem_of_getElem? (i := 27) rfl) rfl
theorem k988 : Cond.methodLink RX8 29 Lib.Math.max.name ∈ lw_gd := tb5 (List.mem_of_getElem? (i := 28) rfl) rfl
theorem k989 : Cond.methodLink RL 158 yX10_put ∈ lw_gd := tb5 (List.mem_of_getElem? (i := 29) rfl) rfl
theorem k993 : Cond.methodLink RX10 303 yX10_refusalAt ∈ lw_gd := tb5 (List.mem_of_getElem? (i := 33) rfl) rfl
theorem k997 : Cond.methodLink RX10 318 yX8_holdsRow ∈ lw_gd := tb5 (List.mem_of_getElem? (i := 37) rfl) rfl
theorem k1001 : Cond.methodLink RX10 324 yX8_hasPlaces ∈ lw_gd := tb5 (List.mem_of_getElem? (i := 41) rfl) rfl
theorem k1002 : Cond.methodLink RX10 306 yX8_setElement ∈ lw_gd := tb5 (List.mem_of_getElem? (i := 42) rfl) rfl
theorem k1006 : Cond.methodLink RL 163 yX10_element ∈ lw_gd := tb5 (List.mem_of_getElem? (i := 46) rfl) rfl
theorem k1011 : Cond.methodLink RL 168 yX10_shift ∈ lw_gd := tb5 (List.mem_of_getElem? (i := 51) rfl) rfl
theorem k1015 : Cond.methodLink RX10 321 yX8_sort ∈ lw_gd := tb5 (List.mem_of_getElem? (i := 55) rfl) rfl
theorem k1019 : Cond.methodLink RX10 327 yX8_copyFrom ∈ lw_gd := tb5 (List.mem_of_getElem? (i := 59) rfl) rfl
theorem k1023 : Cond.methodLink RX8 36 arraycopyName ∈ lw_gd := tb5 (List.mem_of_getElem? (i := 63) rfl) rfl
theorem k1024 : Cond.methodLink RL 173 yX10_taken ∈ lw_gd := tb5 (List.mem_of_getElem? (i := 64) rfl) rfl
theorem k1028 : Cond.methodLink RX10 331 yX8_bodyHeld ∈ lw_gd := tb5 (List.mem_of_getElem? (i := 68) rfl) rfl
theorem k1032 : Cond.methodLink RX10 334 yX1_kindOf ∈ lw_gd := tb5 (List.mem_of_getElem? (i := 72) rfl) rfl
theorem k1033 : Cond.methodLink RX10 337 yX1_isUnder ∈ lw_gd := tb5 (List.mem_of_getElem? (i := 73) rfl) rfl
theorem k1036 : Cond.methodLink RL 177 yX10_count ∈ lw_gd := tb5 (List.mem_of_getElem? (i := 76) rfl) rfl
theorem k1040 : Cond.methodLink RX10 340 yX1_ranCount ∈ lw_gd := tb5 (List.mem_of_getElem? (i := 80) rfl) rfl
theorem k1046 : Cond.methodLink RL 12 yX11_init ∈ lw_gd := tb5 (List.mem_of_getElem? (i := 86) rfl) rfl
theorem k1049 : Cond.methodLink RX11 1 objectInit ∈ lw_gd := tb5 (List.mem_of_getElem? (i := 89) rfl) rfl
theorem k1216 : Cond.methodLink RL 133 yX11_undo ∈ lw_gd := tb6 (List.mem_of_getElem? (i := 16) rfl) rfl
theorem k1220 : Cond.methodLink RL 137 yX11_redo ∈ lw_gd := tb6 (List.mem_of_getElem? (i := 20) rfl) rfl
theorem k1224 : Cond.methodLink RL 17 yX11_feed ∈ lw_gd := tb6 (List.mem_of_getElem? (i := 24) rfl) rfl
theorem k1229 : Cond.methodLink RX11 113 yX11_within ∈ lw_gd := tb6 (List.mem_of_getElem? (i := 29) rfl) rfl
theorem k1232 : Cond.methodLink RL 35 yX11_choice ∈ lw_gd := tb6 (List.mem_of_getElem? (i := 32) rfl) rfl
theorem k1236 : Cond.methodLink RX11 168 yX11_workOut ∈ lw_gd := tb6 (List.mem_of_getElem? (i := 36) rfl) rfl
theorem k1240 : Cond.methodLink RX11 161 yX11_either ∈ lw_gd := tb6 (List.mem_of_getElem? (i := 40) rfl) rfl
theorem k1244 : Cond.methodLink RX11 136 yX11_both ∈ lw_gd := tb6 (List.mem_of_getElem? (i := 44) rfl) rfl
theorem k1248 : Cond.methodLink RX11 143 yX11_compared ∈ lw_gd := tb6 (List.mem_of_getElem? (i := 48) rfl) rfl
theorem k1252 : Cond.methodLink RX11 146 yX11_sums ∈ lw_gd := tb6 (List.mem_of_getElem? (i := 52) rfl) rfl
theorem k1256 : Cond.methodLink RX11 149 yX11_product ∈ lw_gd := tb6 (List.mem_of_getElem? (i := 56) rfl) rfl
theorem k1260 : Cond.methodLink RX11 152 yX11_one ∈ lw_gd := tb6 (List.mem_of_getElem? (i := 60) rfl) rfl
theorem k1264 : Cond.methodLink RX11 132 yX11_byteAt ∈ lw_gd := tb6 (List.mem_of_getElem? (i := 64) rfl) rfl
theorem k1268 : Cond.methodLink RX11 158 yX11_wrong ∈ lw_gd := tb6 (List.mem_of_getElem? (i := 68) rfl) rfl
theorem k1272 : Cond.methodLink RX11 139 yX11_takes ∈ lw_gd := tb6 (List.mem_of_getElem? (i := 72) rfl) rfl
theorem k1276 : Cond.methodLink RX11 164 yX11_nameOf ∈ lw_gd := tb6 (List.mem_of_getElem? (i := 76) rfl) rfl
theorem k1279 : Cond.methodLink RL 22 yX11_head ∈ lw_gd := tb6 (List.mem_of_getElem? (i := 79) rfl) rfl
theorem k1283 : Cond.methodLink RX11 185 yX11_readOne ∈ lw_gd := tb6 (List.mem_of_getElem? (i := 83) rfl) rfl
theorem k1287 : Cond.methodLink RX11 181 yX11_isOf ∈ lw_gd := tb6 (List.mem_of_getElem? (i := 87) rfl) rfl
theorem k1293 : Cond.methodLink RL 26 yX11_of ∈ lw_gd := tb6 (List.mem_of_getElem? (i := 93) rfl) rfl
theorem k1297 : Cond.methodLink RX11 188 yX11_isHead ∈ lw_gd := tb6 (List.mem_of_getElem? (i := 97) rfl) rfl
theorem k1301 : Cond.methodLink RX11 191 yX11_learntOf ∈ lw_gd := tb6 (List.mem_of_getElem? (i := 101) rfl) rfl
theorem k1305 : Cond.methodLink RL 31 yX11_turn ∈ lw_gd := tb6 (List.mem_of_getElem? (i := 105) rfl) rfl
theorem k1309 : Cond.methodLink RX11 194 yX11_becomes ∈ lw_gd := tb6 (List.mem_of_getElem? (i := 109) rfl) rfl
theorem k1313 : Cond.methodLink RL 105 yX11_ask ∈ lw_gd := tb6 (List.mem_of_getElem? (i := 113) rfl) rfl
theorem k1317 : Cond.methodLink RX11 208 yX11_isAsk ∈ lw_gd := tb6 (List.mem_of_getElem? (i := 117) rfl) rfl
theorem k1321 : Cond.methodLink RX11 211 yX11_askOf ∈ lw_gd := tb6 (List.mem_of_getElem? (i := 121) rfl) rfl
theorem k1325 : Cond.methodLink RX11 202 yX11_isSmall ∈ lw_gd := tb6 (List.mem_of_getElem? (i := 125) rfl) rfl
theorem k1328 : Cond.methodLink RX11 205 yX11_pairAt ∈ lw_gd := tb6 (List.mem_of_getElem? (i := 128) rfl) rfl
theorem k1332 : Cond.methodLink RX11 199 yX11_asPair ∈ lw_gd := tb6 (List.mem_of_getElem? (i := 132) rfl) rfl
theorem k1335 : Cond.methodLink RL 39 yX11_way ∈ lw_gd := tb6 (List.mem_of_getElem? (i := 135) rfl) rfl
theorem k1339 : Cond.methodLink RX11 274 yX11_isHw ∈ lw_gd := tb6 (List.mem_of_getElem? (i := 139) rfl) rfl
theorem k1344 : Cond.methodLink RX11 279 yX11_layOut ∈ lw_gd := tb6 (List.mem_of_getElem? (i := 144) rfl) rfl
theorem k1348 : Cond.methodLink RX11 259 yX11_isKnown ∈ lw_gd := tb6 (List.mem_of_getElem? (i := 148) rfl) rfl
theorem k1352 : Cond.methodLink RX11 256 yX11_isLearnt ∈ lw_gd := tb6 (List.mem_of_getElem? (i := 152) rfl) rfl
theorem k1356 : Cond.methodLink RX11 229 yX11_acts ∈ lw_gd := tb6 (List.mem_of_getElem? (i := 156) rfl) rfl
theorem k1360 : Cond.methodLink RX11 220 yX11_digits ∈ lw_gd := tb6 (List.mem_of_getElem? (i := 160) rfl) rfl
theorem k1363 : Cond.methodLink RX11 243 yX11_goLeft ∈ lw_gd := tb6 (List.mem_of_getElem? (i := 163) rfl) rfl
theorem k1367 : Cond.methodLink RX11 236 yX11_figure ∈ lw_gd := tb6 (List.mem_of_getElem? (i := 167) rfl) rfl
theorem k1370 : Cond.methodLink RX11 239 yX11_lookAndAdd ∈ lw_gd := tb6 (List.mem_of_getElem? (i := 170) rfl) rfl
theorem k1374 : Cond.methodLink RX11 233 yX11_tens ∈ lw_gd := tb6 (List.mem_of_getElem? (i := 174) rfl) rfl
theorem k1377 : Cond.methodLink RX11 262 yX11_goRight ∈ lw_gd := tb6 (List.mem_of_getElem? (i := 177) rfl) rfl
theorem k1381 : Cond.methodLink RX11 247 yX11_holds ∈ lw_gd := tb6 (List.mem_of_getElem? (i := 181) rfl) rfl
theorem k1385 : Cond.methodLink RX11 265 yX11_goCrossed ∈ lw_gd := tb6 (List.mem_of_getElem? (i := 185) rfl) rfl
theorem k1389 : Cond.methodLink RX11 268 yX11_goSquared ∈ lw_gd := tb6 (List.mem_of_getElem? (i := 189) rfl) rfl
theorem k1393 : Cond.methodLink RX11 250 yX11_size ∈ lw_gd := tb6 (List.mem_of_getElem? (i := 193) rfl) rfl
theorem k1396 : Cond.methodLink RX11 271 yX11_goSplit ∈ lw_gd := tb6 (List.mem_of_getElem? (i := 196) rfl) rfl
theorem k1400 : Cond.methodLink RX11 283 yX11_seconds ∈ lw_gd := tb6 (List.mem_of_getElem? (i := 200) rfl) rfl
theorem k1404 : Cond.methodLink RX11 286 yX11_mostHeld ∈ lw_gd := tb6 (List.mem_of_getElem? (i := 204) rfl) rfl
theorem k1408 : Cond.methodLink RL 44 yX11_step ∈ lw_gd := tb6 (List.mem_of_getElem? (i := 208) rfl) rfl
theorem k1414 : Cond.methodLink RL 48 yX11_chosen ∈ lw_gd := tb6 (List.mem_of_getElem? (i := 214) rfl) rfl
theorem k1418 : Cond.methodLink RX11 297 yX11_chosenBy ∈ lw_gd := tb6 (List.mem_of_getElem? (i := 218) rfl) rfl
theorem k1422 : Cond.methodLink RX11 292 yX11_noughtsOf ∈ lw_gd := tb6 (List.mem_of_getElem? (i := 222) rfl) rfl
theorem k1426 : Cond.methodLink RL 52 yX11_answer ∈ lw_gd := tb6 (List.mem_of_getElem? (i := 226) rfl) rfl
theorem k1431 : Cond.methodLink RL 56 yX11_quickest ∈ lw_gd := tb6 (List.mem_of_getElem? (i := 231) rfl) rfl
theorem k1435 : Cond.methodLink RL 60 yX11_table ∈ lw_gd := tb6 (List.mem_of_getElem? (i := 235) rfl) rfl
theorem k1439 : Cond.methodLink RL 64 yX11_see ∈ lw_gd := tb6 (List.mem_of_getElem? (i := 239) rfl) rfl
theorem k1445 : Cond.methodLink RL 68 yX11_asks ∈ lw_gd := tb7 (List.mem_of_getElem? (i := 5) rfl) rfl
theorem k1449 : Cond.methodLink RX11 309 yX11_isShelf ∈ lw_gd := tb7 (List.mem_of_getElem? (i := 9) rfl) rfl
theorem k1454 : Cond.methodLink RX11 314 yX11_see ∈ lw_gd := tb7 (List.mem_of_getElem? (i := 14) rfl) rfl
theorem k1455 : Cond.methodLink RL 72 yX11_seen ∈ lw_gd := tb7 (List.mem_of_getElem? (i := 15) rfl) rfl
theorem k1459 : Cond.methodLink RX11 317 yX11_offBy ∈ lw_gd := tb7 (List.mem_of_getElem? (i := 19) rfl) rfl
theorem k1463 : Cond.methodLink RL 76 yX11_fits ∈ lw_gd := tb7 (List.mem_of_getElem? (i := 23) rfl) rfl
theorem k1467 : Cond.methodLink RX11 326 yX11_doesFit ∈ lw_gd := tb7 (List.mem_of_getElem? (i := 27) rfl) rfl
theorem k1471 : Cond.methodLink RX11 323 yX11_slipsOf ∈ lw_gd := tb7 (List.mem_of_getElem? (i := 31) rfl) rfl
theorem k1475 : Cond.methodLink RX11 320 yX11_canSlip ∈ lw_gd := tb7 (List.mem_of_getElem? (i := 35) rfl) rfl
theorem k1479 : Cond.methodLink RL 80 yX11_best ∈ lw_gd := tb7 (List.mem_of_getElem? (i := 39) rfl) rfl
theorem k1483 : Cond.methodLink RX11 330 yX11_offSum ∈ lw_gd := tb7 (List.mem_of_getElem? (i := 43) rfl) rfl
theorem k1487 : Cond.methodLink RL 84 yX11_slip ∈ lw_gd := tb7 (List.mem_of_getElem? (i := 47) rfl) rfl
theorem k1491 : Cond.methodLink RL 89 yX11_suits ∈ lw_gd := tb7 (List.mem_of_getElem? (i := 51) rfl) rfl
theorem k1495 : Cond.methodLink RL 93 yX11_tell ∈ lw_gd := tb7 (List.mem_of_getElem? (i := 55) rfl) rfl
theorem k1499 : Cond.methodLink RL 97 yX11_untell ∈ lw_gd := tb7 (List.mem_of_getElem? (i := 59) rfl) rfl
theorem k1503 : Cond.methodLink RL 101 yX11_parts ∈ lw_gd := tb7 (List.mem_of_getElem? (i := 63) rfl) rfl
theorem k1508 : Cond.methodLink RL 109 yX11_taught ∈ lw_gd := tb7 (List.mem_of_getElem? (i := 68) rfl) rfl
theorem k1513 : Cond.methodLink RX11 343 yX11_isListBad ∈ lw_gd := tb7 (List.mem_of_getElem? (i := 73) rfl) rfl
theorem k1517 : Cond.methodLink RX11 347 yX11_keeps ∈ lw_gd := tb7 (List.mem_of_getElem? (i := 77) rfl) rfl
theorem k1521 : Cond.methodLink RX11 351 yX11_asksOne ∈ lw_gd := tb7 (List.mem_of_getElem? (i := 81) rfl) rfl
theorem k1525 : Cond.methodLink RX11 354 yX11_putsBack ∈ lw_gd := tb7 (List.mem_of_getElem? (i := 85) rfl) rfl
theorem k1529 : Cond.methodLink RL 113 yX11_first ∈ lw_gd := tb7 (List.mem_of_getElem? (i := 89) rfl) rfl
theorem k1533 : Cond.methodLink RX11 363 yX11_ordersFrom ∈ lw_gd := tb7 (List.mem_of_getElem? (i := 93) rfl) rfl
theorem k1537 : Cond.methodLink RL 120 yX11_root ∈ lw_gd := tb7 (List.mem_of_getElem? (i := 97) rfl) rfl
theorem k1541 : Cond.methodLink RX11 383 yX11_isNumber ∈ lw_gd := tb7 (List.mem_of_getElem? (i := 101) rfl) rfl
theorem k1545 : Cond.methodLink RX11 377 yX11_isPower ∈ lw_gd := tb7 (List.mem_of_getElem? (i := 105) rfl) rfl
theorem k1548 : Cond.methodLink RX11 387 yX11_rootOf ∈ lw_gd := tb7 (List.mem_of_getElem? (i := 108) rfl) rfl
theorem k1551 : Cond.methodLink RX11 380 yX11_leastOf ∈ lw_gd := tb7 (List.mem_of_getElem? (i := 111) rfl) rfl
theorem k1555 : Cond.methodLink RX11 373 yX11_powerOf ∈ lw_gd := tb7 (List.mem_of_getElem? (i := 115) rfl) rfl
theorem k1559 : Cond.methodLink RL 125 yX11_firsts ∈ lw_gd := tb7 (List.mem_of_getElem? (i := 119) rfl) rfl
theorem k1563 : Cond.methodLink RX11 393 yX11_digitsOf ∈ lw_gd := tb7 (List.mem_of_getElem? (i := 123) rfl) rfl
theorem k1567 : Cond.methodLink RX11 407 yX11_manyFirsts ∈ lw_gd := tb7 (List.mem_of_getElem? (i := 127) rfl) rfl
theorem k1571 : Cond.methodLink RX11 401 yX11_lastOf ∈ lw_gd := tb7 (List.mem_of_getElem? (i := 131) rfl) rfl
theorem k1574 : Cond.methodLink RX11 404 yX11_endingBelow ∈ lw_gd := tb7 (List.mem_of_getElem? (i := 134) rfl) rfl
theorem k1577 : Cond.methodLink RL 129 yX11_enough ∈ lw_gd := tb7 (List.mem_of_getElem? (i := 137) rfl) rfl
theorem k1581 : Cond.methodLink RL 141 yX11_body ∈ lw_gd := tb7 (List.mem_of_getElem? (i := 141) rfl) rfl
theorem k1586 : Cond.methodLink RL 145 yX11_act ∈ lw_gd := tb7 (List.mem_of_getElem? (i := 146) rfl) rfl
theorem k1590 : Cond.methodLink RX11 440 yX11_isBody ∈ lw_gd := tb7 (List.mem_of_getElem? (i := 150) rfl) rfl
theorem k1594 : Cond.methodLink RX11 422 yX11_costsAs ∈ lw_gd := tb7 (List.mem_of_getElem? (i := 154) rfl) rfl
theorem k1598 : Cond.methodLink RX11 419 yX11_begins ∈ lw_gd := tb7 (List.mem_of_getElem? (i := 158) rfl) rfl
theorem k1602 : Cond.methodLink RX11 428 yX11_keepsAs ∈ lw_gd := tb7 (List.mem_of_getElem? (i := 162) rfl) rfl
theorem k1606 : Cond.methodLink RX11 434 yX11_slipsAs ∈ lw_gd := tb7 (List.mem_of_getElem? (i := 166) rfl) rfl
theorem k1610 : Cond.methodLink RX11 437 yX11_tellsAs ∈ lw_gd := tb7 (List.mem_of_getElem? (i := 170) rfl) rfl
theorem k1614 : Cond.methodLink RL 149 yX11_trace ∈ lw_gd := tb7 (List.mem_of_getElem? (i := 174) rfl) rfl
theorem k1618 : Cond.methodLink RL 153 yX11_keep ∈ lw_gd := tb7 (List.mem_of_getElem? (i := 178) rfl) rfl
theorem k1622 : Cond.methodLink RL 157 yX11_row ∈ lw_gd := tb7 (List.mem_of_getElem? (i := 182) rfl) rfl
theorem k1626 : Cond.methodLink RL 162 yX11_put ∈ lw_gd := tb7 (List.mem_of_getElem? (i := 186) rfl) rfl
theorem k1630 : Cond.methodLink RX11 445 yX11_refusal ∈ lw_gd := tb7 (List.mem_of_getElem? (i := 190) rfl) rfl
theorem k1634 : Cond.methodLink RX11 448 yX11_asSort ∈ lw_gd := tb7 (List.mem_of_getElem? (i := 194) rfl) rfl
theorem k1637 : Cond.methodLink RL 167 yX11_element ∈ lw_gd := tb7 (List.mem_of_getElem? (i := 197) rfl) rfl
theorem k1642 : Cond.methodLink RL 172 yX11_shift ∈ lw_gd := tb7 (List.mem_of_getElem? (i := 202) rfl) rfl
theorem k1646 : Cond.methodLink RL 176 yX11_taken ∈ lw_gd := tb7 (List.mem_of_getElem? (i := 206) rfl) rfl
theorem k1650 : Cond.methodLink RX11 456 yX11_kindOf ∈ lw_gd := tb7 (List.mem_of_getElem? (i := 210) rfl) rfl
theorem k1654 : Cond.methodLink RX11 459 yX11_above ∈ lw_gd := tb7 (List.mem_of_getElem? (i := 214) rfl) rfl
theorem k1657 : Cond.methodLink RL 180 yX11_count ∈ lw_gd := tb7 (List.mem_of_getElem? (i := 217) rfl) rfl
theorem k25 : Cond.methodLinkNest RX10 9 yX9_init "HeadReckons" ∈ lw_tbl := tc1 (List.mem_of_getElem? (i := 25) rfl)
theorem k40 : Cond.methodLinkNest RX10 22 yX5_init "HeadReckons" ∈ lw_tbl := tc1 (List.mem_of_getElem? (i := 40) rfl)
theorem k64 : Cond.methodLinkNest RX3 23 yX9_init "HeadReckons" ∈ lw_tbl := tc1 (List.mem_of_getElem? (i := 64) rfl)
theorem k92 : Cond.methodLinkNest RX10 36 yX0_init "HeadReckons" ∈ lw_tbl := tc1 (List.mem_of_getElem? (i := 92) rfl)
theorem k147 : Cond.methodLinkNest RX10 43 yX7_init "HeadReckons" ∈ lw_tbl := tc1 (List.mem_of_getElem? (i := 147) rfl)
theorem k166 : Cond.methodLinkNest RX10 63 yX2_init "HeadReckons" ∈ lw_tbl := tc1 (List.mem_of_getElem? (i := 166) rfl)
theorem k191 : Cond.methodLinkNest RX10 70 yX1_init "HeadReckons" ∈ lw_tbl := tc1 (List.mem_of_getElem? (i := 191) rfl)
theorem k214 : Cond.methodLinkNest RX10 81 yX8_init "HeadReckons" ∈ lw_tbl := tc1 (List.mem_of_getElem? (i := 214) rfl)
theorem k776 : Cond.methodLinkNest RX5 71 yX10_canBeTaught "HeadReckons" ∈ lw_tbl := tc4 (List.mem_of_getElem? (i := 56) rfl)
theorem k567 : Cond.constant RX10 147 (-2000000000) ∈ lw_gd := tb3 (List.mem_of_getElem? (i := 87) rfl) rfl
theorem k572 : Cond.constant RX0 40 (-2000000000) ∈ lw_gd := tb3 (List.mem_of_getElem? (i := 92) rfl) rfl
theorem k625 : Cond.constant RX0 151 (1103515245) ∈ lw_gd := tb3 (List.mem_of_getElem? (i := 145) rfl) rfl
theorem k645 : Cond.constant RX7 19 (-999999999) ∈ lw_gd := tb3 (List.mem_of_getElem? (i := 165) rfl) rfl
theorem k646 : Cond.constant RX7 20 (999999999) ∈ lw_gd := tb3 (List.mem_of_getElem? (i := 166) rfl) rfl
theorem k1413 : Cond.constant RX11 291 (-2000000000) ∈ lw_gd := tb6 (List.mem_of_getElem? (i := 213) rfl) rfl
theorem k1430 : Cond.constant RX11 301 (1103515245) ∈ lw_gd := tb6 (List.mem_of_getElem? (i := 230) rfl) rfl
theorem k670 : Cond.constantLong RX10 179 (4) ∈ lw_gd := tb3 (List.mem_of_getElem? (i := 190) rfl) rfl
theorem k675 : Cond.constantLong RX10 354 (3) ∈ lw_gd := tb3 (List.mem_of_getElem? (i := 195) rfl) rfl
theorem k819 : Cond.constantLong RX6 9 (999999999999999999) ∈ lw_gd := tb4 (List.mem_of_getElem? (i := 99) rfl) rfl
theorem k832 : Cond.constantLong RX6 11 (1000000000) ∈ lw_gd := tb4 (List.mem_of_getElem? (i := 112) rfl) rfl
theorem k833 : Cond.constantLong RX6 13 (1000000) ∈ lw_gd := tb4 (List.mem_of_getElem? (i := 113) rfl) rfl
theorem k834 : Cond.constantLong RX6 15 (3982) ∈ lw_gd := tb4 (List.mem_of_getElem? (i := 114) rfl) rfl
theorem k835 : Cond.constantLong RX6 21 (2) ∈ lw_gd := tb4 (List.mem_of_getElem? (i := 115) rfl) rfl
theorem k863 : Cond.constantLong RX6 45 (10) ∈ lw_gd := tb4 (List.mem_of_getElem? (i := 143) rfl) rfl
theorem k1010 : Cond.constantLong RX10 312 (-9223372036854775808) ∈ lw_gd := tb5 (List.mem_of_getElem? (i := 50) rfl) rfl
theorem k1228 : Cond.constantLong RX11 111 (4) ∈ lw_gd := tb6 (List.mem_of_getElem? (i := 28) rfl) rfl
theorem k1290 : Cond.constantLong RX11 175 (99) ∈ lw_gd := tb6 (List.mem_of_getElem? (i := 90) rfl) rfl
theorem k1291 : Cond.constantLong RX11 177 (9) ∈ lw_gd := tb6 (List.mem_of_getElem? (i := 91) rfl) rfl
theorem k1292 : Cond.constantLong RX11 179 (40) ∈ lw_gd := tb6 (List.mem_of_getElem? (i := 92) rfl) rfl
theorem k1320 : Cond.constantLong RX11 197 (9999) ∈ lw_gd := tb6 (List.mem_of_getElem? (i := 120) rfl) rfl
theorem k1343 : Cond.constantLong RX11 277 (2) ∈ lw_gd := tb6 (List.mem_of_getElem? (i := 143) rfl) rfl
theorem k1412 : Cond.constantLong RX11 289 (3) ∈ lw_gd := tb6 (List.mem_of_getElem? (i := 212) rfl) rfl
theorem k1425 : Cond.constantLong RX11 295 (6) ∈ lw_gd := tb6 (List.mem_of_getElem? (i := 225) rfl) rfl
theorem k1443 : Cond.constantLong RX11 302 (-999999999) ∈ lw_gd := tb7 (List.mem_of_getElem? (i := 3) rfl) rfl
theorem k1444 : Cond.constantLong RX11 304 (999999999) ∈ lw_gd := tb7 (List.mem_of_getElem? (i := 4) rfl) rfl
theorem k1452 : Cond.constantLong RX11 443 (5) ∈ lw_gd := tb7 (List.mem_of_getElem? (i := 12) rfl) rfl
theorem k1453 : Cond.constantLong RX11 312 (15) ∈ lw_gd := tb7 (List.mem_of_getElem? (i := 13) rfl) rfl
theorem k1507 : Cond.constantLong RX11 336 (127) ∈ lw_gd := tb7 (List.mem_of_getElem? (i := 67) rfl) rfl
theorem k1512 : Cond.constantLong RX11 341 (50) ∈ lw_gd := tb7 (List.mem_of_getElem? (i := 72) rfl) rfl
theorem k1544 : Cond.constantLong RX11 367 (999999999999999999) ∈ lw_gd := tb7 (List.mem_of_getElem? (i := 104) rfl) rfl
theorem k1554 : Cond.constantLong RX11 371 (1000000001) ∈ lw_gd := tb7 (List.mem_of_getElem? (i := 114) rfl) rfl
theorem k1558 : Cond.constantLong RX11 369 (1000000000000000000) ∈ lw_gd := tb7 (List.mem_of_getElem? (i := 118) rfl) rfl
theorem k1566 : Cond.constantLong RX11 391 (10) ∈ lw_gd := tb7 (List.mem_of_getElem? (i := 126) rfl) rfl
theorem k1585 : Cond.constantLong RX11 414 (7) ∈ lw_gd := tb7 (List.mem_of_getElem? (i := 145) rfl) rfl
theorem k1641 : Cond.constantLong RX11 454 (-9223372036854775808) ∈ lw_gd := tb7 (List.mem_of_getElem? (i := 201) rfl) rfl
theorem k1661 : Cond.constantLong RL 114 (4294967295) ∈ lw_gd := tb7 (List.mem_of_getElem? (i := 221) rfl) rfl
theorem k15 : Cond.classLink RL 7 RX10 ∈ lw_gd := tb1 (List.mem_of_getElem? (i := 15) rfl) rfl
theorem k23 : Cond.classLink RX10 7 RX9 ∈ lw_gd := tb1 (List.mem_of_getElem? (i := 23) rfl) rfl
theorem k37 : Cond.classLink RX10 16 RX5 ∈ lw_gd := tb1 (List.mem_of_getElem? (i := 37) rfl) rfl
theorem k57 : Cond.classLink RX10 27 RX3 ∈ lw_gd := tb1 (List.mem_of_getElem? (i := 57) rfl) rfl
theorem k63 : Cond.classLink RX3 21 RX9 ∈ lw_gd := tb1 (List.mem_of_getElem? (i := 63) rfl) rfl
theorem k90 : Cond.classLink RX10 34 RX0 ∈ lw_gd := tb1 (List.mem_of_getElem? (i := 90) rfl) rfl
theorem k145 : Cond.classLink RX10 41 RX7 ∈ lw_gd := tb1 (List.mem_of_getElem? (i := 145) rfl) rfl
theorem k164 : Cond.classLink RX10 61 RX2 ∈ lw_gd := tb1 (List.mem_of_getElem? (i := 164) rfl) rfl
theorem k189 : Cond.classLink RX10 68 RX1 ∈ lw_gd := tb1 (List.mem_of_getElem? (i := 189) rfl) rfl
theorem k211 : Cond.classLink RX10 75 RX8 ∈ lw_gd := tb1 (List.mem_of_getElem? (i := 211) rfl) rfl
theorem k1044 : Cond.classLink RL 10 RX11 ∈ lw_gd := tb5 (List.mem_of_getElem? (i := 84) rfl) rfl
theorem k16 : Cond.instantiable RX10 15 ∈ lw_gd := tb1 (List.mem_of_getElem? (i := 16) rfl) rfl
theorem k24 : Cond.instantiable RX9 2 ∈ lw_gd := tb1 (List.mem_of_getElem? (i := 24) rfl) rfl
theorem k39 : Cond.instantiable RX5 4 ∈ lw_gd := tb1 (List.mem_of_getElem? (i := 39) rfl) rfl
theorem k58 : Cond.instantiable RX3 8 ∈ lw_gd := tb1 (List.mem_of_getElem? (i := 58) rfl) rfl
theorem k91 : Cond.instantiable RX0 16 ∈ lw_gd := tb1 (List.mem_of_getElem? (i := 91) rfl) rfl
theorem k146 : Cond.instantiable RX7 4 ∈ lw_gd := tb1 (List.mem_of_getElem? (i := 146) rfl) rfl
theorem k165 : Cond.instantiable RX2 6 ∈ lw_gd := tb1 (List.mem_of_getElem? (i := 165) rfl) rfl
theorem k190 : Cond.instantiable RX1 5 ∈ lw_gd := tb1 (List.mem_of_getElem? (i := 190) rfl) rfl
theorem k213 : Cond.instantiable RX8 4 ∈ lw_gd := tb1 (List.mem_of_getElem? (i := 213) rfl) rfl
theorem k1045 : Cond.instantiable RX11 55 ∈ lw_gd := tb5 (List.mem_of_getElem? (i := 85) rfl) rfl
theorem k0 : Cond.initialized RL ∈ lw_gd := tb1 (List.mem_of_getElem? (i := 0) rfl) rfl
theorem k1 : Cond.initialized RX10 ∈ lw_gd := tb1 (List.mem_of_getElem? (i := 1) rfl) rfl
theorem k2 : Cond.initialized RX9 ∈ lw_gd := tb1 (List.mem_of_getElem? (i := 2) rfl) rfl
theorem k3 : Cond.initialized RX5 ∈ lw_gd := tb1 (List.mem_of_getElem? (i := 3) rfl) rfl
theorem k4 : Cond.initialized RX3 ∈ lw_gd := tb1 (List.mem_of_getElem? (i := 4) rfl) rfl
theorem k5 : Cond.initialized RX0 ∈ lw_gd := tb1 (List.mem_of_getElem? (i := 5) rfl) rfl
theorem k6 : Cond.initialized RX7 ∈ lw_gd := tb1 (List.mem_of_getElem? (i := 6) rfl) rfl
theorem k7 : Cond.initialized RX2 ∈ lw_gd := tb1 (List.mem_of_getElem? (i := 7) rfl) rfl
theorem k8 : Cond.initialized RX1 ∈ lw_gd := tb1 (List.mem_of_getElem? (i := 8) rfl) rfl
theorem k9 : Cond.initialized RX8 ∈ lw_gd := tb1 (List.mem_of_getElem? (i := 9) rfl) rfl
theorem k10 : Cond.initialized RX11 ∈ lw_gd := tb1 (List.mem_of_getElem? (i := 10) rfl) rfl
theorem k11 : Cond.initialized RX4 ∈ lw_gd := tb1 (List.mem_of_getElem? (i := 11) rfl) rfl
theorem k12 : Cond.initialized RJ10 ∈ lw_gd := tb1 (List.mem_of_getElem? (i := 12) rfl) rfl
theorem k13 : Cond.initialized RJ9 ∈ lw_gd := tb1 (List.mem_of_getElem? (i := 13) rfl) rfl
theorem k14 : Cond.initialized RX6 ∈ lw_gd := tb1 (List.mem_of_getElem? (i := 14) rfl) rfl
theorem k36 : Cond.arrayClass Jvm.ClassFile.FieldType.int ∈ lw_gd := tb1 (List.mem_of_getElem? (i := 36) rfl) rfl
theorem k231 : Cond.arrayClass Jvm.ClassFile.FieldType.long ∈ lw_gd := tb1 (List.mem_of_getElem? (i := 231) rfl) rfl
theorem k331 : Cond.native arraycopyName ∈ lw_gd := tb2 (List.mem_of_getElem? (i := 91) rfl) rfl
theorem k305 : Cond.static yX5_digitsAt ∈ lw_gd := tb2 (List.mem_of_getElem? (i := 65) rfl) rfl
theorem k308 : Cond.static yX4_isDigit ∈ lw_gd := tb2 (List.mem_of_getElem? (i := 68) rfl) rfl
theorem k311 : Cond.static yX5_valueAt ∈ lw_gd := tb2 (List.mem_of_getElem? (i := 71) rfl) rfl
theorem k314 : Cond.static yX5_mayBe ∈ lw_gd := tb2 (List.mem_of_getElem? (i := 74) rfl) rfl
theorem k330 : Cond.static arraycopyName ∈ lw_gd := tb2 (List.mem_of_getElem? (i := 90) rfl) rfl
theorem k435 : Cond.static yX3_isName ∈ lw_gd := tb2 (List.mem_of_getElem? (i := 195) rfl) rfl
theorem k447 : Cond.static yX10_isPair ∈ lw_gd := tb2 (List.mem_of_getElem? (i := 207) rfl) rfl
theorem k450 : Cond.static yX10_isNumber ∈ lw_gd := tb2 (List.mem_of_getElem? (i := 210) rfl) rfl
theorem k482 : Cond.static Lib.Math.min.name ∈ lw_gd := tb3 (List.mem_of_getElem? (i := 2) rfl) rfl
theorem k493 : Cond.static yX4_sizeOf ∈ lw_gd := tb3 (List.mem_of_getElem? (i := 13) rfl) rfl
theorem k498 : Cond.static yX4_tenTo ∈ lw_gd := tb3 (List.mem_of_getElem? (i := 18) rfl) rfl
theorem k503 : Cond.static yX4_figureAt ∈ lw_gd := tb3 (List.mem_of_getElem? (i := 23) rfl) rfl
theorem k538 : Cond.static Lib.Math.max.name ∈ lw_gd := tb3 (List.mem_of_getElem? (i := 58) rfl) rfl
theorem k545 : Cond.static Lib.Math.abs.name ∈ lw_gd := tb3 (List.mem_of_getElem? (i := 65) rfl) rfl
theorem k598 : Cond.static yX3_valueOf ∈ lw_gd := tb3 (List.mem_of_getElem? (i := 118) rfl) rfl
theorem k603 : Cond.static yX4_noughtsIn ∈ lw_gd := tb3 (List.mem_of_getElem? (i := 123) rfl) rfl
theorem k611 : Cond.static yX3_joined ∈ lw_gd := tb3 (List.mem_of_getElem? (i := 131) rfl) rfl
theorem k618 : Cond.static yX10_productOf ∈ lw_gd := tb3 (List.mem_of_getElem? (i := 138) rfl) rfl
theorem k643 : Cond.static yX7_mayBe ∈ lw_gd := tb3 (List.mem_of_getElem? (i := 163) rfl) rfl
theorem k660 : Cond.static yX10_isShelf ∈ lw_gd := tb3 (List.mem_of_getElem? (i := 180) rfl) rfl
theorem k777 : Cond.static yX10_canBeTaught ∈ lw_gd := tb4 (List.mem_of_getElem? (i := 57) rfl) rfl
theorem k817 : Cond.static yX6_isNumber ∈ lw_gd := tb4 (List.mem_of_getElem? (i := 97) rfl) rfl
theorem k821 : Cond.static yX6_isPower ∈ lw_gd := tb4 (List.mem_of_getElem? (i := 101) rfl) rfl
theorem k824 : Cond.static yX6_whole ∈ lw_gd := tb4 (List.mem_of_getElem? (i := 104) rfl) rfl
theorem k827 : Cond.static yX6_cutRoot ∈ lw_gd := tb4 (List.mem_of_getElem? (i := 107) rfl) rfl
theorem k830 : Cond.static yX6_mostRoot ∈ lw_gd := tb4 (List.mem_of_getElem? (i := 110) rfl) rfl
theorem k837 : Cond.static yX6_raised ∈ lw_gd := tb4 (List.mem_of_getElem? (i := 117) rfl) rfl
theorem k845 : Cond.static yX6_howMany ∈ lw_gd := tb4 (List.mem_of_getElem? (i := 125) rfl) rfl
theorem k848 : Cond.static yX6_fromRoot ∈ lw_gd := tb4 (List.mem_of_getElem? (i := 128) rfl) rfl
theorem k851 : Cond.static yX6_leastWithFirsts ∈ lw_gd := tb4 (List.mem_of_getElem? (i := 131) rfl) rfl
theorem k854 : Cond.static yX6_unitOf ∈ lw_gd := tb4 (List.mem_of_getElem? (i := 134) rfl) rfl
theorem k858 : Cond.static yX4_longTenTo ∈ lw_gd := tb4 (List.mem_of_getElem? (i := 138) rfl) rfl
theorem k861 : Cond.static yX6_toRoot ∈ lw_gd := tb4 (List.mem_of_getElem? (i := 141) rfl) rfl
theorem k865 : Cond.static yX6_endsAlike ∈ lw_gd := tb4 (List.mem_of_getElem? (i := 145) rfl) rfl
theorem k868 : Cond.static yX6_least ∈ lw_gd := tb4 (List.mem_of_getElem? (i := 148) rfl) rfl
theorem k908 : Cond.static yX1_isKind ∈ lw_gd := tb4 (List.mem_of_getElem? (i := 188) rfl) rfl
theorem k981 : Cond.static yX8_isSort ∈ lw_gd := tb5 (List.mem_of_getElem? (i := 21) rfl) rfl
theorem k1034 : Cond.static yX1_isUnder ∈ lw_gd := tb5 (List.mem_of_getElem? (i := 74) rfl) rfl
theorem k1230 : Cond.static yX11_within ∈ lw_gd := tb6 (List.mem_of_getElem? (i := 30) rfl) rfl
theorem k1277 : Cond.static yX11_nameOf ∈ lw_gd := tb6 (List.mem_of_getElem? (i := 77) rfl) rfl
theorem k1288 : Cond.static yX11_isOf ∈ lw_gd := tb6 (List.mem_of_getElem? (i := 88) rfl) rfl
theorem k1318 : Cond.static yX11_isAsk ∈ lw_gd := tb6 (List.mem_of_getElem? (i := 118) rfl) rfl
theorem k1326 : Cond.static yX11_isSmall ∈ lw_gd := tb6 (List.mem_of_getElem? (i := 126) rfl) rfl
theorem k1333 : Cond.static yX11_asPair ∈ lw_gd := tb6 (List.mem_of_getElem? (i := 133) rfl) rfl
theorem k1361 : Cond.static yX11_digits ∈ lw_gd := tb6 (List.mem_of_getElem? (i := 161) rfl) rfl
theorem k1368 : Cond.static yX11_figure ∈ lw_gd := tb6 (List.mem_of_getElem? (i := 168) rfl) rfl
theorem k1375 : Cond.static yX11_tens ∈ lw_gd := tb6 (List.mem_of_getElem? (i := 175) rfl) rfl
theorem k1394 : Cond.static yX11_size ∈ lw_gd := tb6 (List.mem_of_getElem? (i := 194) rfl) rfl
theorem k1423 : Cond.static yX11_noughtsOf ∈ lw_gd := tb6 (List.mem_of_getElem? (i := 223) rfl) rfl
theorem k1450 : Cond.static yX11_isShelf ∈ lw_gd := tb7 (List.mem_of_getElem? (i := 10) rfl) rfl
theorem k1542 : Cond.static yX11_isNumber ∈ lw_gd := tb7 (List.mem_of_getElem? (i := 102) rfl) rfl
theorem k1546 : Cond.static yX11_isPower ∈ lw_gd := tb7 (List.mem_of_getElem? (i := 106) rfl) rfl
theorem k1549 : Cond.static yX11_rootOf ∈ lw_gd := tb7 (List.mem_of_getElem? (i := 109) rfl) rfl
theorem k1552 : Cond.static yX11_leastOf ∈ lw_gd := tb7 (List.mem_of_getElem? (i := 112) rfl) rfl
theorem k1556 : Cond.static yX11_powerOf ∈ lw_gd := tb7 (List.mem_of_getElem? (i := 116) rfl) rfl
theorem k1564 : Cond.static yX11_digitsOf ∈ lw_gd := tb7 (List.mem_of_getElem? (i := 124) rfl) rfl
theorem k1572 : Cond.static yX11_lastOf ∈ lw_gd := tb7 (List.mem_of_getElem? (i := 132) rfl) rfl
theorem k1575 : Cond.static yX11_endingBelow ∈ lw_gd := tb7 (List.mem_of_getElem? (i := 135) rfl) rfl
theorem k1635 : Cond.static yX11_asSort ∈ lw_gd := tb7 (List.mem_of_getElem? (i := 195) rfl) rfl
theorem k1655 : Cond.static yX11_above ∈ lw_gd := tb7 (List.mem_of_getElem? (i := 215) rfl) rfl
theorem k18 : Cond.instanceMethod yX10_init ∈ lw_gd := tb1 (List.mem_of_getElem? (i := 18) rfl) rfl
theorem k21 : Cond.instanceMethod objectInit ∈ lw_gd := tb1 (List.mem_of_getElem? (i := 21) rfl) rfl
theorem k26 : Cond.instanceMethod yX9_init ∈ lw_gd := tb1 (List.mem_of_getElem? (i := 26) rfl) rfl
theorem k41 : Cond.instanceMethod yX5_init ∈ lw_gd := tb1 (List.mem_of_getElem? (i := 41) rfl) rfl
theorem k60 : Cond.instanceMethod yX3_init ∈ lw_gd := tb1 (List.mem_of_getElem? (i := 60) rfl) rfl
theorem k93 : Cond.instanceMethod yX0_init ∈ lw_gd := tb1 (List.mem_of_getElem? (i := 93) rfl) rfl
theorem k148 : Cond.instanceMethod yX7_init ∈ lw_gd := tb1 (List.mem_of_getElem? (i := 148) rfl) rfl
theorem k167 : Cond.instanceMethod yX2_init ∈ lw_gd := tb1 (List.mem_of_getElem? (i := 167) rfl) rfl
theorem k192 : Cond.instanceMethod yX1_init ∈ lw_gd := tb1 (List.mem_of_getElem? (i := 192) rfl) rfl
theorem k215 : Cond.instanceMethod yX8_init ∈ lw_gd := tb1 (List.mem_of_getElem? (i := 215) rfl) rfl
theorem k279 : Cond.instanceMethod yX10_feed ∈ lw_gd := tb2 (List.mem_of_getElem? (i := 39) rfl) rfl
theorem k283 : Cond.instanceMethod yX9_takes ∈ lw_gd := tb2 (List.mem_of_getElem? (i := 43) rfl) rfl
theorem k287 : Cond.instanceMethod yX9_length ∈ lw_gd := tb2 (List.mem_of_getElem? (i := 47) rfl) rfl
theorem k291 : Cond.instanceMethod yX10_head ∈ lw_gd := tb2 (List.mem_of_getElem? (i := 51) rfl) rfl
theorem k295 : Cond.instanceMethod yX5_read ∈ lw_gd := tb2 (List.mem_of_getElem? (i := 55) rfl) rfl
theorem k299 : Cond.instanceMethod yX9_at ∈ lw_gd := tb2 (List.mem_of_getElem? (i := 59) rfl) rfl
theorem k322 : Cond.instanceMethod yX9_clear ∈ lw_gd := tb2 (List.mem_of_getElem? (i := 82) rfl) rfl
theorem k326 : Cond.instanceMethod yX5_become ∈ lw_gd := tb2 (List.mem_of_getElem? (i := 86) rfl) rfl
theorem k333 : Cond.instanceMethod yX10_of ∈ lw_gd := tb2 (List.mem_of_getElem? (i := 93) rfl) rfl
theorem k338 : Cond.instanceMethod yX10_isHead ∈ lw_gd := tb2 (List.mem_of_getElem? (i := 98) rfl) rfl
theorem k341 : Cond.instanceMethod yX5_learntCount ∈ lw_gd := tb2 (List.mem_of_getElem? (i := 101) rfl) rfl
theorem k345 : Cond.instanceMethod yX5_number ∈ lw_gd := tb2 (List.mem_of_getElem? (i := 105) rfl) rfl
theorem k349 : Cond.instanceMethod yX10_turn ∈ lw_gd := tb2 (List.mem_of_getElem? (i := 109) rfl) rfl
theorem k354 : Cond.instanceMethod yX2_came ∈ lw_gd := tb2 (List.mem_of_getElem? (i := 114) rfl) rfl
theorem k359 : Cond.instanceMethod yX2_forgetOldest ∈ lw_gd := tb2 (List.mem_of_getElem? (i := 119) rfl) rfl
theorem k363 : Cond.instanceMethod yX5_setNumber ∈ lw_gd := tb2 (List.mem_of_getElem? (i := 123) rfl) rfl
theorem k367 : Cond.instanceMethod yX10_choice ∈ lw_gd := tb2 (List.mem_of_getElem? (i := 127) rfl) rfl
theorem k371 : Cond.instanceMethod yX3_read ∈ lw_gd := tb2 (List.mem_of_getElem? (i := 131) rfl) rfl
theorem k375 : Cond.instanceMethod yX9_become ∈ lw_gd := tb2 (List.mem_of_getElem? (i := 135) rfl) rfl
theorem k381 : Cond.instanceMethod yX3_readLines ∈ lw_gd := tb2 (List.mem_of_getElem? (i := 141) rfl) rfl
theorem k386 : Cond.instanceMethod yX3_readLine ∈ lw_gd := tb2 (List.mem_of_getElem? (i := 146) rfl) rfl
theorem k390 : Cond.instanceMethod yX3_readAny ∈ lw_gd := tb2 (List.mem_of_getElem? (i := 150) rfl) rfl
theorem k394 : Cond.instanceMethod yX3_readAll ∈ lw_gd := tb2 (List.mem_of_getElem? (i := 154) rfl) rfl
theorem k398 : Cond.instanceMethod yX3_readCompared ∈ lw_gd := tb2 (List.mem_of_getElem? (i := 158) rfl) rfl
theorem k402 : Cond.instanceMethod yX3_readSum ∈ lw_gd := tb2 (List.mem_of_getElem? (i := 162) rfl) rfl
theorem k406 : Cond.instanceMethod yX3_readProduct ∈ lw_gd := tb2 (List.mem_of_getElem? (i := 166) rfl) rfl
theorem k410 : Cond.instanceMethod yX3_readOperand ∈ lw_gd := tb2 (List.mem_of_getElem? (i := 170) rfl) rfl
theorem k415 : Cond.instanceMethod yX3_readOpened ∈ lw_gd := tb2 (List.mem_of_getElem? (i := 175) rfl) rfl
theorem k419 : Cond.instanceMethod yX3_goesOnWith ∈ lw_gd := tb2 (List.mem_of_getElem? (i := 179) rfl) rfl
theorem k423 : Cond.instanceMethod yX3_write ∈ lw_gd := tb2 (List.mem_of_getElem? (i := 183) rfl) rfl
theorem k427 : Cond.instanceMethod yX3_writeCode ∈ lw_gd := tb2 (List.mem_of_getElem? (i := 187) rfl) rfl
theorem k432 : Cond.instanceMethod yX3_readNumber ∈ lw_gd := tb2 (List.mem_of_getElem? (i := 192) rfl) rfl
theorem k439 : Cond.instanceMethod yX10_way ∈ lw_gd := tb2 (List.mem_of_getElem? (i := 199) rfl) rfl
theorem k444 : Cond.instanceMethod yX10_isHeadAndWay ∈ lw_gd := tb2 (List.mem_of_getElem? (i := 204) rfl) rfl
theorem k453 : Cond.instanceMethod yX0_reckon ∈ lw_gd := tb2 (List.mem_of_getElem? (i := 213) rfl) rfl
theorem k458 : Cond.instanceMethod yX0_begin ∈ lw_gd := tb2 (List.mem_of_getElem? (i := 218) rfl) rfl
theorem k463 : Cond.instanceMethod yX0_beginAnew ∈ lw_gd := tb2 (List.mem_of_getElem? (i := 223) rfl) rfl
theorem k466 : Cond.instanceMethod yX5_looksUp ∈ lw_gd := tb2 (List.mem_of_getElem? (i := 226) rfl) rfl
theorem k471 : Cond.instanceMethod yX5_placeOf ∈ lw_gd := tb2 (List.mem_of_getElem? (i := 231) rfl) rfl
theorem k475 : Cond.instanceMethod yX0_goKnown ∈ lw_gd := tb2 (List.mem_of_getElem? (i := 235) rfl) rfl
theorem k479 : Cond.instanceMethod yX0_run ∈ lw_gd := tb2 (List.mem_of_getElem? (i := 239) rfl) rfl
theorem k486 : Cond.instanceMethod yX0_note ∈ lw_gd := tb3 (List.mem_of_getElem? (i := 6) rfl) rfl
theorem k490 : Cond.instanceMethod yX0_goLeft ∈ lw_gd := tb3 (List.mem_of_getElem? (i := 10) rfl) rfl
theorem k507 : Cond.instanceMethod yX0_lookAndAdd ∈ lw_gd := tb3 (List.mem_of_getElem? (i := 27) rfl) rfl
theorem k511 : Cond.instanceMethod yX0_goRight ∈ lw_gd := tb3 (List.mem_of_getElem? (i := 31) rfl) rfl
theorem k515 : Cond.instanceMethod yX0_holdRunning ∈ lw_gd := tb3 (List.mem_of_getElem? (i := 35) rfl) rfl
theorem k519 : Cond.instanceMethod yX0_addRows ∈ lw_gd := tb3 (List.mem_of_getElem? (i := 39) rfl) rfl
theorem k523 : Cond.instanceMethod yX0_letGo ∈ lw_gd := tb3 (List.mem_of_getElem? (i := 43) rfl) rfl
theorem k527 : Cond.instanceMethod yX0_add ∈ lw_gd := tb3 (List.mem_of_getElem? (i := 47) rfl) rfl
theorem k531 : Cond.instanceMethod yX0_goCrossed ∈ lw_gd := tb3 (List.mem_of_getElem? (i := 51) rfl) rfl
theorem k535 : Cond.instanceMethod yX0_holdLastFigure ∈ lw_gd := tb3 (List.mem_of_getElem? (i := 55) rfl) rfl
theorem k542 : Cond.instanceMethod yX0_goSquared ∈ lw_gd := tb3 (List.mem_of_getElem? (i := 62) rfl) rfl
theorem k549 : Cond.instanceMethod yX0_goSplit ∈ lw_gd := tb3 (List.mem_of_getElem? (i := 69) rfl) rfl
theorem k552 : Cond.instanceMethod yX0_seconds ∈ lw_gd := tb3 (List.mem_of_getElem? (i := 72) rfl) rfl
theorem k556 : Cond.instanceMethod yX0_holds ∈ lw_gd := tb3 (List.mem_of_getElem? (i := 76) rfl) rfl
theorem k560 : Cond.instanceMethod yX0_size ∈ lw_gd := tb3 (List.mem_of_getElem? (i := 80) rfl) rfl
theorem k564 : Cond.instanceMethod yX10_step ∈ lw_gd := tb3 (List.mem_of_getElem? (i := 84) rfl) rfl
theorem k569 : Cond.instanceMethod yX0_told ∈ lw_gd := tb3 (List.mem_of_getElem? (i := 89) rfl) rfl
theorem k574 : Cond.instanceMethod yX10_chosen ∈ lw_gd := tb3 (List.mem_of_getElem? (i := 94) rfl) rfl
theorem k579 : Cond.instanceMethod yX10_reckonChosen ∈ lw_gd := tb3 (List.mem_of_getElem? (i := 99) rfl) rfl
theorem k582 : Cond.instanceMethod yX3_numberFor ∈ lw_gd := tb3 (List.mem_of_getElem? (i := 102) rfl) rfl
theorem k587 : Cond.instanceMethod yX3_pop ∈ lw_gd := tb3 (List.mem_of_getElem? (i := 107) rfl) rfl
theorem k591 : Cond.instanceMethod yX3_workOut ∈ lw_gd := tb3 (List.mem_of_getElem? (i := 111) rfl) rfl
theorem k595 : Cond.instanceMethod yX3_push ∈ lw_gd := tb3 (List.mem_of_getElem? (i := 115) rfl) rfl
theorem k607 : Cond.instanceMethod yX5_capacity ∈ lw_gd := tb3 (List.mem_of_getElem? (i := 127) rfl) rfl
theorem k614 : Cond.instanceMethod yX10_answer ∈ lw_gd := tb3 (List.mem_of_getElem? (i := 134) rfl) rfl
theorem k622 : Cond.instanceMethod yX0_slipsDrawn ∈ lw_gd := tb3 (List.mem_of_getElem? (i := 142) rfl) rfl
theorem k628 : Cond.instanceMethod yX0_slipDrawn ∈ lw_gd := tb3 (List.mem_of_getElem? (i := 148) rfl) rfl
theorem k631 : Cond.instanceMethod yX10_quickest ∈ lw_gd := tb3 (List.mem_of_getElem? (i := 151) rfl) rfl
theorem k635 : Cond.instanceMethod yX10_table ∈ lw_gd := tb3 (List.mem_of_getElem? (i := 155) rfl) rfl
theorem k639 : Cond.instanceMethod yX10_see ∈ lw_gd := tb3 (List.mem_of_getElem? (i := 159) rfl) rfl
theorem k648 : Cond.instanceMethod yX7_takes ∈ lw_gd := tb3 (List.mem_of_getElem? (i := 168) rfl) rfl
theorem k652 : Cond.instanceMethod yX7_size ∈ lw_gd := tb3 (List.mem_of_getElem? (i := 172) rfl) rfl
theorem k656 : Cond.instanceMethod yX10_asks ∈ lw_gd := tb3 (List.mem_of_getElem? (i := 176) rfl) rfl
theorem k663 : Cond.instanceMethod yX8_isEmpty ∈ lw_gd := tb3 (List.mem_of_getElem? (i := 183) rfl) rfl
theorem k667 : Cond.instanceMethod yX8_holdsInts ∈ lw_gd := tb3 (List.mem_of_getElem? (i := 187) rfl) rfl
theorem k673 : Cond.instanceMethod yX10_comesFrom ∈ lw_gd := tb3 (List.mem_of_getElem? (i := 193) rfl) rfl
theorem k677 : Cond.instanceMethod yX8_size ∈ lw_gd := tb3 (List.mem_of_getElem? (i := 197) rfl) rfl
theorem k681 : Cond.instanceMethod yX8_elementAt ∈ lw_gd := tb3 (List.mem_of_getElem? (i := 201) rfl) rfl
theorem k685 : Cond.instanceMethod yX8_hasPlaces ∈ lw_gd := tb3 (List.mem_of_getElem? (i := 205) rfl) rfl
theorem k689 : Cond.instanceMethod yX10_seen ∈ lw_gd := tb3 (List.mem_of_getElem? (i := 209) rfl) rfl
theorem k693 : Cond.instanceMethod yX7_has ∈ lw_gd := tb3 (List.mem_of_getElem? (i := 213) rfl) rfl
theorem k697 : Cond.instanceMethod yX7_pair ∈ lw_gd := tb3 (List.mem_of_getElem? (i := 217) rfl) rfl
theorem k702 : Cond.instanceMethod yX7_tenths ∈ lw_gd := tb3 (List.mem_of_getElem? (i := 222) rfl) rfl
theorem k707 : Cond.instanceMethod yX10_offOf ∈ lw_gd := tb3 (List.mem_of_getElem? (i := 227) rfl) rfl
theorem k710 : Cond.instanceMethod yX7_answerOf ∈ lw_gd := tb3 (List.mem_of_getElem? (i := 230) rfl) rfl
theorem k714 : Cond.instanceMethod yX10_fits ∈ lw_gd := tb3 (List.mem_of_getElem? (i := 234) rfl) rfl
theorem k719 : Cond.instanceMethod yX10_fitsAll ∈ lw_gd := tb3 (List.mem_of_getElem? (i := 239) rfl) rfl
theorem k722 : Cond.instanceMethod yX0_firstThatCan ∈ lw_gd := tb4 (List.mem_of_getElem? (i := 2) rfl) rfl
theorem k727 : Cond.instanceMethod yX0_canSlip ∈ lw_gd := tb4 (List.mem_of_getElem? (i := 7) rfl) rfl
theorem k731 : Cond.instanceMethod yX10_best ∈ lw_gd := tb4 (List.mem_of_getElem? (i := 11) rfl) rfl
theorem k736 : Cond.instanceMethod yX10_sumOfDifferences ∈ lw_gd := tb4 (List.mem_of_getElem? (i := 16) rfl) rfl
theorem k739 : Cond.instanceMethod yX10_slip ∈ lw_gd := tb4 (List.mem_of_getElem? (i := 19) rfl) rfl
theorem k743 : Cond.instanceMethod yX0_howManyCan ∈ lw_gd := tb4 (List.mem_of_getElem? (i := 23) rfl) rfl
theorem k747 : Cond.instanceMethod yX10_suits ∈ lw_gd := tb4 (List.mem_of_getElem? (i := 27) rfl) rfl
theorem k751 : Cond.instanceMethod yX10_tell ∈ lw_gd := tb4 (List.mem_of_getElem? (i := 31) rfl) rfl
theorem k755 : Cond.instanceMethod yX10_untell ∈ lw_gd := tb4 (List.mem_of_getElem? (i := 35) rfl) rfl
theorem k759 : Cond.instanceMethod yX10_parts ∈ lw_gd := tb4 (List.mem_of_getElem? (i := 39) rfl) rfl
theorem k764 : Cond.instanceMethod yX10_spreadOf ∈ lw_gd := tb4 (List.mem_of_getElem? (i := 44) rfl) rfl
theorem k769 : Cond.instanceMethod yX10_ask ∈ lw_gd := tb4 (List.mem_of_getElem? (i := 49) rfl) rfl
theorem k773 : Cond.instanceMethod yX5_hear ∈ lw_gd := tb4 (List.mem_of_getElem? (i := 53) rfl) rfl
theorem k780 : Cond.instanceMethod yX10_taught ∈ lw_gd := tb4 (List.mem_of_getElem? (i := 60) rfl) rfl
theorem k785 : Cond.instanceMethod yX10_allToldCanBeTaught ∈ lw_gd := tb4 (List.mem_of_getElem? (i := 65) rfl) rfl
theorem k789 : Cond.instanceMethod yX10_first ∈ lw_gd := tb4 (List.mem_of_getElem? (i := 69) rfl) rfl
theorem k794 : Cond.instanceMethod yX10_prepareOrders ∈ lw_gd := tb4 (List.mem_of_getElem? (i := 74) rfl) rfl
theorem k798 : Cond.instanceMethod yX10_orderAsDigits ∈ lw_gd := tb4 (List.mem_of_getElem? (i := 78) rfl) rfl
theorem k802 : Cond.instanceMethod yX10_secondsOfOrder ∈ lw_gd := tb4 (List.mem_of_getElem? (i := 82) rfl) rfl
theorem k806 : Cond.instanceMethod yX10_nextOrder ∈ lw_gd := tb4 (List.mem_of_getElem? (i := 86) rfl) rfl
theorem k810 : Cond.instanceMethod yX10_swapPlaces ∈ lw_gd := tb4 (List.mem_of_getElem? (i := 90) rfl) rfl
theorem k813 : Cond.instanceMethod yX10_root ∈ lw_gd := tb4 (List.mem_of_getElem? (i := 93) rfl) rfl
theorem k840 : Cond.instanceMethod yX10_firsts ∈ lw_gd := tb4 (List.mem_of_getElem? (i := 120) rfl) rfl
theorem k871 : Cond.instanceMethod yX10_enough ∈ lw_gd := tb4 (List.mem_of_getElem? (i := 151) rfl) rfl
theorem k875 : Cond.instanceMethod yX10_undo ∈ lw_gd := tb4 (List.mem_of_getElem? (i := 155) rfl) rfl
theorem k879 : Cond.instanceMethod yX2_undoable ∈ lw_gd := tb4 (List.mem_of_getElem? (i := 159) rfl) rfl
theorem k883 : Cond.instanceMethod yX2_stepBack ∈ lw_gd := tb4 (List.mem_of_getElem? (i := 163) rfl) rfl
theorem k888 : Cond.instanceMethod yX2_apply ∈ lw_gd := tb4 (List.mem_of_getElem? (i := 168) rfl) rfl
theorem k892 : Cond.instanceMethod yX10_redo ∈ lw_gd := tb4 (List.mem_of_getElem? (i := 172) rfl) rfl
theorem k896 : Cond.instanceMethod yX2_redoable ∈ lw_gd := tb4 (List.mem_of_getElem? (i := 176) rfl) rfl
theorem k900 : Cond.instanceMethod yX2_stepOn ∈ lw_gd := tb4 (List.mem_of_getElem? (i := 180) rfl) rfl
theorem k904 : Cond.instanceMethod yX10_body ∈ lw_gd := tb4 (List.mem_of_getElem? (i := 184) rfl) rfl
theorem k911 : Cond.instanceMethod yX1_takes ∈ lw_gd := tb4 (List.mem_of_getElem? (i := 191) rfl) rfl
theorem k915 : Cond.instanceMethod yX1_size ∈ lw_gd := tb4 (List.mem_of_getElem? (i := 195) rfl) rfl
theorem k919 : Cond.instanceMethod yX10_act ∈ lw_gd := tb4 (List.mem_of_getElem? (i := 199) rfl) rfl
theorem k923 : Cond.instanceMethod yX1_start ∈ lw_gd := tb4 (List.mem_of_getElem? (i := 203) rfl) rfl
theorem k927 : Cond.instanceMethod yX1_has ∈ lw_gd := tb4 (List.mem_of_getElem? (i := 207) rfl) rfl
theorem k932 : Cond.instanceMethod yX1_own ∈ lw_gd := tb4 (List.mem_of_getElem? (i := 212) rfl) rfl
theorem k935 : Cond.instanceMethod yX1_kindOf ∈ lw_gd := tb4 (List.mem_of_getElem? (i := 215) rfl) rfl
theorem k940 : Cond.instanceMethod yX1_nearest ∈ lw_gd := tb4 (List.mem_of_getElem? (i := 220) rfl) rfl
theorem k947 : Cond.instanceMethod yX1_run ∈ lw_gd := tb4 (List.mem_of_getElem? (i := 227) rfl) rfl
theorem k951 : Cond.instanceMethod yX1_noteRun ∈ lw_gd := tb4 (List.mem_of_getElem? (i := 231) rfl) rfl
theorem k955 : Cond.instanceMethod yX1_fromAbove ∈ lw_gd := tb4 (List.mem_of_getElem? (i := 235) rfl) rfl
theorem k960 : Cond.instanceMethod yX10_trace ∈ lw_gd := tb5 (List.mem_of_getElem? (i := 0) rfl) rfl
theorem k964 : Cond.instanceMethod yX1_traced ∈ lw_gd := tb5 (List.mem_of_getElem? (i := 4) rfl) rfl
theorem k968 : Cond.instanceMethod yX10_keep ∈ lw_gd := tb5 (List.mem_of_getElem? (i := 8) rfl) rfl
theorem k973 : Cond.instanceMethod yX8_holdBody ∈ lw_gd := tb5 (List.mem_of_getElem? (i := 13) rfl) rfl
theorem k977 : Cond.instanceMethod yX10_row ∈ lw_gd := tb5 (List.mem_of_getElem? (i := 17) rfl) rfl
theorem k984 : Cond.instanceMethod yX8_holdRow ∈ lw_gd := tb5 (List.mem_of_getElem? (i := 24) rfl) rfl
theorem k990 : Cond.instanceMethod yX10_put ∈ lw_gd := tb5 (List.mem_of_getElem? (i := 30) rfl) rfl
theorem k995 : Cond.instanceMethod yX10_refusalAt ∈ lw_gd := tb5 (List.mem_of_getElem? (i := 35) rfl) rfl
theorem k998 : Cond.instanceMethod yX8_holdsRow ∈ lw_gd := tb5 (List.mem_of_getElem? (i := 38) rfl) rfl
theorem k1003 : Cond.instanceMethod yX8_setElement ∈ lw_gd := tb5 (List.mem_of_getElem? (i := 43) rfl) rfl
theorem k1007 : Cond.instanceMethod yX10_element ∈ lw_gd := tb5 (List.mem_of_getElem? (i := 47) rfl) rfl
theorem k1012 : Cond.instanceMethod yX10_shift ∈ lw_gd := tb5 (List.mem_of_getElem? (i := 52) rfl) rfl
theorem k1016 : Cond.instanceMethod yX8_sort ∈ lw_gd := tb5 (List.mem_of_getElem? (i := 56) rfl) rfl
theorem k1020 : Cond.instanceMethod yX8_copyFrom ∈ lw_gd := tb5 (List.mem_of_getElem? (i := 60) rfl) rfl
theorem k1025 : Cond.instanceMethod yX10_taken ∈ lw_gd := tb5 (List.mem_of_getElem? (i := 65) rfl) rfl
theorem k1029 : Cond.instanceMethod yX8_bodyHeld ∈ lw_gd := tb5 (List.mem_of_getElem? (i := 69) rfl) rfl
theorem k1037 : Cond.instanceMethod yX10_count ∈ lw_gd := tb5 (List.mem_of_getElem? (i := 77) rfl) rfl
theorem k1041 : Cond.instanceMethod yX1_ranCount ∈ lw_gd := tb5 (List.mem_of_getElem? (i := 81) rfl) rfl
theorem k1047 : Cond.instanceMethod yX11_init ∈ lw_gd := tb5 (List.mem_of_getElem? (i := 87) rfl) rfl
theorem k1217 : Cond.instanceMethod yX11_undo ∈ lw_gd := tb6 (List.mem_of_getElem? (i := 17) rfl) rfl
theorem k1221 : Cond.instanceMethod yX11_redo ∈ lw_gd := tb6 (List.mem_of_getElem? (i := 21) rfl) rfl
theorem k1225 : Cond.instanceMethod yX11_feed ∈ lw_gd := tb6 (List.mem_of_getElem? (i := 25) rfl) rfl
theorem k1233 : Cond.instanceMethod yX11_choice ∈ lw_gd := tb6 (List.mem_of_getElem? (i := 33) rfl) rfl
theorem k1238 : Cond.instanceMethod yX11_workOut ∈ lw_gd := tb6 (List.mem_of_getElem? (i := 38) rfl) rfl
theorem k1242 : Cond.instanceMethod yX11_either ∈ lw_gd := tb6 (List.mem_of_getElem? (i := 42) rfl) rfl
theorem k1246 : Cond.instanceMethod yX11_both ∈ lw_gd := tb6 (List.mem_of_getElem? (i := 46) rfl) rfl
theorem k1250 : Cond.instanceMethod yX11_compared ∈ lw_gd := tb6 (List.mem_of_getElem? (i := 50) rfl) rfl
theorem k1254 : Cond.instanceMethod yX11_sums ∈ lw_gd := tb6 (List.mem_of_getElem? (i := 54) rfl) rfl
theorem k1258 : Cond.instanceMethod yX11_product ∈ lw_gd := tb6 (List.mem_of_getElem? (i := 58) rfl) rfl
theorem k1262 : Cond.instanceMethod yX11_one ∈ lw_gd := tb6 (List.mem_of_getElem? (i := 62) rfl) rfl
theorem k1266 : Cond.instanceMethod yX11_byteAt ∈ lw_gd := tb6 (List.mem_of_getElem? (i := 66) rfl) rfl
theorem k1270 : Cond.instanceMethod yX11_wrong ∈ lw_gd := tb6 (List.mem_of_getElem? (i := 70) rfl) rfl
theorem k1274 : Cond.instanceMethod yX11_takes ∈ lw_gd := tb6 (List.mem_of_getElem? (i := 74) rfl) rfl
theorem k1280 : Cond.instanceMethod yX11_head ∈ lw_gd := tb6 (List.mem_of_getElem? (i := 80) rfl) rfl
theorem k1285 : Cond.instanceMethod yX11_readOne ∈ lw_gd := tb6 (List.mem_of_getElem? (i := 85) rfl) rfl
theorem k1294 : Cond.instanceMethod yX11_of ∈ lw_gd := tb6 (List.mem_of_getElem? (i := 94) rfl) rfl
theorem k1299 : Cond.instanceMethod yX11_isHead ∈ lw_gd := tb6 (List.mem_of_getElem? (i := 99) rfl) rfl
theorem k1303 : Cond.instanceMethod yX11_learntOf ∈ lw_gd := tb6 (List.mem_of_getElem? (i := 103) rfl) rfl
theorem k1306 : Cond.instanceMethod yX11_turn ∈ lw_gd := tb6 (List.mem_of_getElem? (i := 106) rfl) rfl
theorem k1311 : Cond.instanceMethod yX11_becomes ∈ lw_gd := tb6 (List.mem_of_getElem? (i := 111) rfl) rfl
theorem k1314 : Cond.instanceMethod yX11_ask ∈ lw_gd := tb6 (List.mem_of_getElem? (i := 114) rfl) rfl
theorem k1323 : Cond.instanceMethod yX11_askOf ∈ lw_gd := tb6 (List.mem_of_getElem? (i := 123) rfl) rfl
theorem k1330 : Cond.instanceMethod yX11_pairAt ∈ lw_gd := tb6 (List.mem_of_getElem? (i := 130) rfl) rfl
theorem k1336 : Cond.instanceMethod yX11_way ∈ lw_gd := tb6 (List.mem_of_getElem? (i := 136) rfl) rfl
theorem k1341 : Cond.instanceMethod yX11_isHw ∈ lw_gd := tb6 (List.mem_of_getElem? (i := 141) rfl) rfl
theorem k1346 : Cond.instanceMethod yX11_layOut ∈ lw_gd := tb6 (List.mem_of_getElem? (i := 146) rfl) rfl
theorem k1350 : Cond.instanceMethod yX11_isKnown ∈ lw_gd := tb6 (List.mem_of_getElem? (i := 150) rfl) rfl
theorem k1354 : Cond.instanceMethod yX11_isLearnt ∈ lw_gd := tb6 (List.mem_of_getElem? (i := 154) rfl) rfl
theorem k1358 : Cond.instanceMethod yX11_acts ∈ lw_gd := tb6 (List.mem_of_getElem? (i := 158) rfl) rfl
theorem k1365 : Cond.instanceMethod yX11_goLeft ∈ lw_gd := tb6 (List.mem_of_getElem? (i := 165) rfl) rfl
theorem k1372 : Cond.instanceMethod yX11_lookAndAdd ∈ lw_gd := tb6 (List.mem_of_getElem? (i := 172) rfl) rfl
theorem k1379 : Cond.instanceMethod yX11_goRight ∈ lw_gd := tb6 (List.mem_of_getElem? (i := 179) rfl) rfl
theorem k1383 : Cond.instanceMethod yX11_holds ∈ lw_gd := tb6 (List.mem_of_getElem? (i := 183) rfl) rfl
theorem k1387 : Cond.instanceMethod yX11_goCrossed ∈ lw_gd := tb6 (List.mem_of_getElem? (i := 187) rfl) rfl
theorem k1391 : Cond.instanceMethod yX11_goSquared ∈ lw_gd := tb6 (List.mem_of_getElem? (i := 191) rfl) rfl
theorem k1398 : Cond.instanceMethod yX11_goSplit ∈ lw_gd := tb6 (List.mem_of_getElem? (i := 198) rfl) rfl
theorem k1402 : Cond.instanceMethod yX11_seconds ∈ lw_gd := tb6 (List.mem_of_getElem? (i := 202) rfl) rfl
theorem k1406 : Cond.instanceMethod yX11_mostHeld ∈ lw_gd := tb6 (List.mem_of_getElem? (i := 206) rfl) rfl
theorem k1409 : Cond.instanceMethod yX11_step ∈ lw_gd := tb6 (List.mem_of_getElem? (i := 209) rfl) rfl
theorem k1415 : Cond.instanceMethod yX11_chosen ∈ lw_gd := tb6 (List.mem_of_getElem? (i := 215) rfl) rfl
theorem k1420 : Cond.instanceMethod yX11_chosenBy ∈ lw_gd := tb6 (List.mem_of_getElem? (i := 220) rfl) rfl
theorem k1427 : Cond.instanceMethod yX11_answer ∈ lw_gd := tb6 (List.mem_of_getElem? (i := 227) rfl) rfl
theorem k1432 : Cond.instanceMethod yX11_quickest ∈ lw_gd := tb6 (List.mem_of_getElem? (i := 232) rfl) rfl
theorem k1436 : Cond.instanceMethod yX11_table ∈ lw_gd := tb6 (List.mem_of_getElem? (i := 236) rfl) rfl
theorem k1440 : Cond.instanceMethod yX11_see ∈ lw_gd := tb7 (List.mem_of_getElem? (i := 0) rfl) rfl
theorem k1446 : Cond.instanceMethod yX11_asks ∈ lw_gd := tb7 (List.mem_of_getElem? (i := 6) rfl) rfl
theorem k1456 : Cond.instanceMethod yX11_seen ∈ lw_gd := tb7 (List.mem_of_getElem? (i := 16) rfl) rfl
theorem k1461 : Cond.instanceMethod yX11_offBy ∈ lw_gd := tb7 (List.mem_of_getElem? (i := 21) rfl) rfl
theorem k1464 : Cond.instanceMethod yX11_fits ∈ lw_gd := tb7 (List.mem_of_getElem? (i := 24) rfl) rfl
theorem k1469 : Cond.instanceMethod yX11_doesFit ∈ lw_gd := tb7 (List.mem_of_getElem? (i := 29) rfl) rfl
theorem k1473 : Cond.instanceMethod yX11_slipsOf ∈ lw_gd := tb7 (List.mem_of_getElem? (i := 33) rfl) rfl
theorem k1477 : Cond.instanceMethod yX11_canSlip ∈ lw_gd := tb7 (List.mem_of_getElem? (i := 37) rfl) rfl
theorem k1480 : Cond.instanceMethod yX11_best ∈ lw_gd := tb7 (List.mem_of_getElem? (i := 40) rfl) rfl
theorem k1485 : Cond.instanceMethod yX11_offSum ∈ lw_gd := tb7 (List.mem_of_getElem? (i := 45) rfl) rfl
theorem k1488 : Cond.instanceMethod yX11_slip ∈ lw_gd := tb7 (List.mem_of_getElem? (i := 48) rfl) rfl
theorem k1492 : Cond.instanceMethod yX11_suits ∈ lw_gd := tb7 (List.mem_of_getElem? (i := 52) rfl) rfl
theorem k1496 : Cond.instanceMethod yX11_tell ∈ lw_gd := tb7 (List.mem_of_getElem? (i := 56) rfl) rfl
theorem k1500 : Cond.instanceMethod yX11_untell ∈ lw_gd := tb7 (List.mem_of_getElem? (i := 60) rfl) rfl
theorem k1504 : Cond.instanceMethod yX11_parts ∈ lw_gd := tb7 (List.mem_of_getElem? (i := 64) rfl) rfl
theorem k1509 : Cond.instanceMethod yX11_taught ∈ lw_gd := tb7 (List.mem_of_getElem? (i := 69) rfl) rfl
theorem k1515 : Cond.instanceMethod yX11_isListBad ∈ lw_gd := tb7 (List.mem_of_getElem? (i := 75) rfl) rfl
theorem k1519 : Cond.instanceMethod yX11_keeps ∈ lw_gd := tb7 (List.mem_of_getElem? (i := 79) rfl) rfl
theorem k1523 : Cond.instanceMethod yX11_asksOne ∈ lw_gd := tb7 (List.mem_of_getElem? (i := 83) rfl) rfl
theorem k1527 : Cond.instanceMethod yX11_putsBack ∈ lw_gd := tb7 (List.mem_of_getElem? (i := 87) rfl) rfl
theorem k1530 : Cond.instanceMethod yX11_first ∈ lw_gd := tb7 (List.mem_of_getElem? (i := 90) rfl) rfl
theorem k1535 : Cond.instanceMethod yX11_ordersFrom ∈ lw_gd := tb7 (List.mem_of_getElem? (i := 95) rfl) rfl
theorem k1538 : Cond.instanceMethod yX11_root ∈ lw_gd := tb7 (List.mem_of_getElem? (i := 98) rfl) rfl
theorem k1560 : Cond.instanceMethod yX11_firsts ∈ lw_gd := tb7 (List.mem_of_getElem? (i := 120) rfl) rfl
theorem k1569 : Cond.instanceMethod yX11_manyFirsts ∈ lw_gd := tb7 (List.mem_of_getElem? (i := 129) rfl) rfl
theorem k1578 : Cond.instanceMethod yX11_enough ∈ lw_gd := tb7 (List.mem_of_getElem? (i := 138) rfl) rfl
theorem k1582 : Cond.instanceMethod yX11_body ∈ lw_gd := tb7 (List.mem_of_getElem? (i := 142) rfl) rfl
theorem k1587 : Cond.instanceMethod yX11_act ∈ lw_gd := tb7 (List.mem_of_getElem? (i := 147) rfl) rfl
theorem k1592 : Cond.instanceMethod yX11_isBody ∈ lw_gd := tb7 (List.mem_of_getElem? (i := 152) rfl) rfl
theorem k1596 : Cond.instanceMethod yX11_costsAs ∈ lw_gd := tb7 (List.mem_of_getElem? (i := 156) rfl) rfl
theorem k1600 : Cond.instanceMethod yX11_begins ∈ lw_gd := tb7 (List.mem_of_getElem? (i := 160) rfl) rfl
theorem k1604 : Cond.instanceMethod yX11_keepsAs ∈ lw_gd := tb7 (List.mem_of_getElem? (i := 164) rfl) rfl
theorem k1608 : Cond.instanceMethod yX11_slipsAs ∈ lw_gd := tb7 (List.mem_of_getElem? (i := 168) rfl) rfl
theorem k1612 : Cond.instanceMethod yX11_tellsAs ∈ lw_gd := tb7 (List.mem_of_getElem? (i := 172) rfl) rfl
theorem k1615 : Cond.instanceMethod yX11_trace ∈ lw_gd := tb7 (List.mem_of_getElem? (i := 175) rfl) rfl
theorem k1619 : Cond.instanceMethod yX11_keep ∈ lw_gd := tb7 (List.mem_of_getElem? (i := 179) rfl) rfl
theorem k1623 : Cond.instanceMethod yX11_row ∈ lw_gd := tb7 (List.mem_of_getElem? (i := 183) rfl) rfl
theorem k1627 : Cond.instanceMethod yX11_put ∈ lw_gd := tb7 (List.mem_of_getElem? (i := 187) rfl) rfl
theorem k1632 : Cond.instanceMethod yX11_refusal ∈ lw_gd := tb7 (List.mem_of_getElem? (i := 192) rfl) rfl
theorem k1638 : Cond.instanceMethod yX11_element ∈ lw_gd := tb7 (List.mem_of_getElem? (i := 198) rfl) rfl
theorem k1643 : Cond.instanceMethod yX11_shift ∈ lw_gd := tb7 (List.mem_of_getElem? (i := 203) rfl) rfl
theorem k1647 : Cond.instanceMethod yX11_taken ∈ lw_gd := tb7 (List.mem_of_getElem? (i := 207) rfl) rfl
theorem k1652 : Cond.instanceMethod yX11_kindOf ∈ lw_gd := tb7 (List.mem_of_getElem? (i := 212) rfl) rfl
theorem k1658 : Cond.instanceMethod yX11_count ∈ lw_gd := tb7 (List.mem_of_getElem? (i := 218) rfl) rfl
theorem k19 : Cond.code yX10_init cX10_init 2 none ∈ lw_gd := tb1 (List.mem_of_getElem? (i := 19) rfl) rfl
theorem k22 : Cond.code objectInit ⟨#[0xb1]⟩ 1 none ∈ lw_gd := tb1 (List.mem_of_getElem? (i := 22) rfl) rfl
theorem k27 : Cond.code yX9_init cX9_init 1 none ∈ lw_gd := tb1 (List.mem_of_getElem? (i := 27) rfl) rfl
theorem k42 : Cond.code yX5_init cX5_init 1 none ∈ lw_gd := tb1 (List.mem_of_getElem? (i := 42) rfl) rfl
theorem k61 : Cond.code yX3_init cX3_init 1 none ∈ lw_gd := tb1 (List.mem_of_getElem? (i := 61) rfl) rfl
theorem k94 : Cond.code yX0_init cX0_init 1 none ∈ lw_gd := tb1 (List.mem_of_getElem? (i := 94) rfl) rfl
theorem k149 : Cond.code yX7_init cX7_init 1 none ∈ lw_gd := tb1 (List.mem_of_getElem? (i := 149) rfl) rfl
theorem k168 : Cond.code yX2_init cX2_init 1 none ∈ lw_gd := tb1 (List.mem_of_getElem? (i := 168) rfl) rfl
theorem k193 : Cond.code yX1_init cX1_init 1 none ∈ lw_gd := tb1 (List.mem_of_getElem? (i := 193) rfl) rfl
theorem k216 : Cond.code yX8_init cX8_init 1 none ∈ lw_gd := tb1 (List.mem_of_getElem? (i := 216) rfl) rfl
theorem k281 : Cond.code yX10_feed cX10_feed 3 (some .int) ∈ lw_gd := tb2 (List.mem_of_getElem? (i := 41) rfl) rfl
theorem k285 : Cond.code yX9_takes cX9_takes 4 (some .boolean) ∈ lw_gd := tb2 (List.mem_of_getElem? (i := 45) rfl) rfl
theorem k289 : Cond.code yX9_length cX9_length 1 (some .int) ∈ lw_gd := tb2 (List.mem_of_getElem? (i := 49) rfl) rfl
theorem k293 : Cond.code yX10_head cX10_head 2 (some .int) ∈ lw_gd := tb2 (List.mem_of_getElem? (i := 53) rfl) rfl
theorem k297 : Cond.code yX5_read cX5_read 6 (some .int) ∈ lw_gd := tb2 (List.mem_of_getElem? (i := 57) rfl) rfl
theorem k301 : Cond.code yX9_at cX9_at 2 (some .int) ∈ lw_gd := tb2 (List.mem_of_getElem? (i := 61) rfl) rfl
theorem k306 : Cond.code yX5_digitsAt cX5_digitsAt 3 (some .int) ∈ lw_gd := tb2 (List.mem_of_getElem? (i := 66) rfl) rfl
theorem k309 : Cond.code yX4_isDigit cX4_isDigit 1 (some .boolean) ∈ lw_gd := tb2 (List.mem_of_getElem? (i := 69) rfl) rfl
theorem k312 : Cond.code yX5_valueAt cX5_valueAt 5 (some .int) ∈ lw_gd := tb2 (List.mem_of_getElem? (i := 72) rfl) rfl
theorem k315 : Cond.code yX5_mayBe cX5_mayBe 2 (some .boolean) ∈ lw_gd := tb2 (List.mem_of_getElem? (i := 75) rfl) rfl
theorem k324 : Cond.code yX9_clear cX9_clear 1 none ∈ lw_gd := tb2 (List.mem_of_getElem? (i := 84) rfl) rfl
theorem k328 : Cond.code yX5_become cX5_become 2 none ∈ lw_gd := tb2 (List.mem_of_getElem? (i := 88) rfl) rfl
theorem k335 : Cond.code yX10_of cX10_of 3 (some .int) ∈ lw_gd := tb2 (List.mem_of_getElem? (i := 95) rfl) rfl
theorem k339 : Cond.code yX10_isHead cX10_isHead 2 (some .boolean) ∈ lw_gd := tb2 (List.mem_of_getElem? (i := 99) rfl) rfl
theorem k343 : Cond.code yX5_learntCount cX5_learntCount 3 (some .int) ∈ lw_gd := tb2 (List.mem_of_getElem? (i := 103) rfl) rfl
theorem k347 : Cond.code yX5_number cX5_number 2 (some .int) ∈ lw_gd := tb2 (List.mem_of_getElem? (i := 107) rfl) rfl
theorem k351 : Cond.code yX10_turn cX10_turn 5 (some .int) ∈ lw_gd := tb2 (List.mem_of_getElem? (i := 111) rfl) rfl
theorem k356 : Cond.code yX2_came cX2_came 5 none ∈ lw_gd := tb2 (List.mem_of_getElem? (i := 116) rfl) rfl
theorem k360 : Cond.code yX2_forgetOldest cX2_forgetOldest 1 none ∈ lw_gd := tb2 (List.mem_of_getElem? (i := 120) rfl) rfl
theorem k365 : Cond.code yX5_setNumber cX5_setNumber 3 none ∈ lw_gd := tb2 (List.mem_of_getElem? (i := 125) rfl) rfl
theorem k369 : Cond.code yX10_choice cX10_choice 2 (some .int) ∈ lw_gd := tb2 (List.mem_of_getElem? (i := 129) rfl) rfl
theorem k373 : Cond.code yX3_read cX3_read 2 (some .int) ∈ lw_gd := tb2 (List.mem_of_getElem? (i := 133) rfl) rfl
theorem k377 : Cond.code yX9_become cX9_become 2 none ∈ lw_gd := tb2 (List.mem_of_getElem? (i := 137) rfl) rfl
theorem k382 : Cond.code yX3_readLines cX3_readLines 2 (some .boolean) ∈ lw_gd := tb2 (List.mem_of_getElem? (i := 142) rfl) rfl
theorem k387 : Cond.code yX3_readLine cX3_readLine 1 (some .boolean) ∈ lw_gd := tb2 (List.mem_of_getElem? (i := 147) rfl) rfl
theorem k391 : Cond.code yX3_readAny cX3_readAny 3 (some .boolean) ∈ lw_gd := tb2 (List.mem_of_getElem? (i := 151) rfl) rfl
theorem k395 : Cond.code yX3_readAll cX3_readAll 3 (some .boolean) ∈ lw_gd := tb2 (List.mem_of_getElem? (i := 155) rfl) rfl
theorem k399 : Cond.code yX3_readCompared cX3_readCompared 3 (some .boolean) ∈ lw_gd := tb2 (List.mem_of_getElem? (i := 159) rfl) rfl
theorem k403 : Cond.code yX3_readSum cX3_readSum 4 (some .boolean) ∈ lw_gd := tb2 (List.mem_of_getElem? (i := 163) rfl) rfl
theorem k407 : Cond.code yX3_readProduct cX3_readProduct 4 (some .boolean) ∈ lw_gd := tb2 (List.mem_of_getElem? (i := 167) rfl) rfl
theorem k411 : Cond.code yX3_readOperand cX3_readOperand 3 (some .boolean) ∈ lw_gd := tb2 (List.mem_of_getElem? (i := 171) rfl) rfl
theorem k416 : Cond.code yX3_readOpened cX3_readOpened 3 (some .boolean) ∈ lw_gd := tb2 (List.mem_of_getElem? (i := 176) rfl) rfl
theorem k420 : Cond.code yX3_goesOnWith cX3_goesOnWith 2 (some .boolean) ∈ lw_gd := tb2 (List.mem_of_getElem? (i := 180) rfl) rfl
theorem k424 : Cond.code yX3_write cX3_write 2 none ∈ lw_gd := tb2 (List.mem_of_getElem? (i := 184) rfl) rfl
theorem k428 : Cond.code yX3_writeCode cX3_writeCode 2 none ∈ lw_gd := tb2 (List.mem_of_getElem? (i := 188) rfl) rfl
theorem k433 : Cond.code yX3_readNumber cX3_readNumber 3 none ∈ lw_gd := tb2 (List.mem_of_getElem? (i := 193) rfl) rfl
theorem k436 : Cond.code yX3_isName cX3_isName 1 (some .boolean) ∈ lw_gd := tb2 (List.mem_of_getElem? (i := 196) rfl) rfl
theorem k441 : Cond.code yX10_way cX10_way 4 (some .int) ∈ lw_gd := tb2 (List.mem_of_getElem? (i := 201) rfl) rfl
theorem k445 : Cond.code yX10_isHeadAndWay cX10_isHeadAndWay 2 (some .boolean) ∈ lw_gd := tb2 (List.mem_of_getElem? (i := 205) rfl) rfl
theorem k448 : Cond.code yX10_isPair cX10_isPair 1 (some .boolean) ∈ lw_gd := tb2 (List.mem_of_getElem? (i := 208) rfl) rfl
theorem k451 : Cond.code yX10_isNumber cX10_isNumber 1 (some .boolean) ∈ lw_gd := tb2 (List.mem_of_getElem? (i := 211) rfl) rfl
theorem k455 : Cond.code yX0_reckon cX0_reckon 6 (some .boolean) ∈ lw_gd := tb2 (List.mem_of_getElem? (i := 215) rfl) rfl
theorem k459 : Cond.code yX0_begin cX0_begin 2 none ∈ lw_gd := tb2 (List.mem_of_getElem? (i := 219) rfl) rfl
theorem k464 : Cond.code yX0_beginAnew cX0_beginAnew 1 none ∈ lw_gd := tb2 (List.mem_of_getElem? (i := 224) rfl) rfl
theorem k468 : Cond.code yX5_looksUp cX5_looksUp 3 (some .boolean) ∈ lw_gd := tb2 (List.mem_of_getElem? (i := 228) rfl) rfl
theorem k472 : Cond.code yX5_placeOf cX5_placeOf 4 (some .int) ∈ lw_gd := tb2 (List.mem_of_getElem? (i := 232) rfl) rfl
theorem k476 : Cond.code yX0_goKnown cX0_goKnown 3 (some .boolean) ∈ lw_gd := tb2 (List.mem_of_getElem? (i := 236) rfl) rfl
theorem k480 : Cond.code yX0_run cX0_run 3 none ∈ lw_gd := tb3 (List.mem_of_getElem? (i := 0) rfl) rfl
theorem k483 : Cond.code Lib.Math.min.name Lib.Math.min.code 2 (some .int) ∈ lw_gd := tb3 (List.mem_of_getElem? (i := 3) rfl) rfl
theorem k487 : Cond.code yX0_note cX0_note 5 none ∈ lw_gd := tb3 (List.mem_of_getElem? (i := 7) rfl) rfl
theorem k491 : Cond.code yX0_goLeft cX0_goLeft 6 (some .boolean) ∈ lw_gd := tb3 (List.mem_of_getElem? (i := 11) rfl) rfl
theorem k494 : Cond.code yX4_sizeOf cX4_sizeOf 3 (some .int) ∈ lw_gd := tb3 (List.mem_of_getElem? (i := 14) rfl) rfl
theorem k499 : Cond.code yX4_tenTo cX4_tenTo 1 (some .int) ∈ lw_gd := tb3 (List.mem_of_getElem? (i := 19) rfl) rfl
theorem k504 : Cond.code yX4_figureAt cX4_figureAt 2 (some .int) ∈ lw_gd := tb3 (List.mem_of_getElem? (i := 24) rfl) rfl
theorem k508 : Cond.code yX0_lookAndAdd cX0_lookAndAdd 7 none ∈ lw_gd := tb3 (List.mem_of_getElem? (i := 28) rfl) rfl
theorem k512 : Cond.code yX0_goRight cX0_goRight 6 (some .boolean) ∈ lw_gd := tb3 (List.mem_of_getElem? (i := 32) rfl) rfl
theorem k516 : Cond.code yX0_holdRunning cX0_holdRunning 3 none ∈ lw_gd := tb3 (List.mem_of_getElem? (i := 36) rfl) rfl
theorem k520 : Cond.code yX0_addRows cX0_addRows 3 none ∈ lw_gd := tb3 (List.mem_of_getElem? (i := 40) rfl) rfl
theorem k524 : Cond.code yX0_letGo cX0_letGo 2 none ∈ lw_gd := tb3 (List.mem_of_getElem? (i := 44) rfl) rfl
theorem k528 : Cond.code yX0_add cX0_add 3 none ∈ lw_gd := tb3 (List.mem_of_getElem? (i := 48) rfl) rfl
theorem k532 : Cond.code yX0_goCrossed cX0_goCrossed 6 (some .boolean) ∈ lw_gd := tb3 (List.mem_of_getElem? (i := 52) rfl) rfl
theorem k536 : Cond.code yX0_holdLastFigure cX0_holdLastFigure 2 none ∈ lw_gd := tb3 (List.mem_of_getElem? (i := 56) rfl) rfl
theorem k539 : Cond.code Lib.Math.max.name Lib.Math.max.code 2 (some .int) ∈ lw_gd := tb3 (List.mem_of_getElem? (i := 59) rfl) rfl
theorem k543 : Cond.code yX0_goSquared cX0_goSquared 6 (some .boolean) ∈ lw_gd := tb3 (List.mem_of_getElem? (i := 63) rfl) rfl
theorem k546 : Cond.code Lib.Math.abs.name Lib.Math.abs.code 1 (some .int) ∈ lw_gd := tb3 (List.mem_of_getElem? (i := 66) rfl) rfl
theorem k550 : Cond.code yX0_goSplit cX0_goSplit 6 (some .boolean) ∈ lw_gd := tb3 (List.mem_of_getElem? (i := 70) rfl) rfl
theorem k554 : Cond.code yX0_seconds cX0_seconds 1 (some .int) ∈ lw_gd := tb3 (List.mem_of_getElem? (i := 74) rfl) rfl
theorem k558 : Cond.code yX0_holds cX0_holds 1 (some .int) ∈ lw_gd := tb3 (List.mem_of_getElem? (i := 78) rfl) rfl
theorem k562 : Cond.code yX0_size cX0_size 1 (some .int) ∈ lw_gd := tb3 (List.mem_of_getElem? (i := 82) rfl) rfl
theorem k566 : Cond.code yX10_step cX10_step 5 (some .int) ∈ lw_gd := tb3 (List.mem_of_getElem? (i := 86) rfl) rfl
theorem k571 : Cond.code yX0_told cX0_told 3 (some .int) ∈ lw_gd := tb3 (List.mem_of_getElem? (i := 91) rfl) rfl
theorem k576 : Cond.code yX10_chosen cX10_chosen 3 (some .int) ∈ lw_gd := tb3 (List.mem_of_getElem? (i := 96) rfl) rfl
theorem k580 : Cond.code yX10_reckonChosen cX10_reckonChosen 4 (some .int) ∈ lw_gd := tb3 (List.mem_of_getElem? (i := 100) rfl) rfl
theorem k584 : Cond.code yX3_numberFor cX3_numberFor 6 (some .int) ∈ lw_gd := tb3 (List.mem_of_getElem? (i := 104) rfl) rfl
theorem k588 : Cond.code yX3_pop cX3_pop 1 (some .int) ∈ lw_gd := tb3 (List.mem_of_getElem? (i := 108) rfl) rfl
theorem k592 : Cond.code yX3_workOut cX3_workOut 6 none ∈ lw_gd := tb3 (List.mem_of_getElem? (i := 112) rfl) rfl
theorem k596 : Cond.code yX3_push cX3_push 2 none ∈ lw_gd := tb3 (List.mem_of_getElem? (i := 116) rfl) rfl
theorem k599 : Cond.code yX3_valueOf cX3_valueOf 4 (some .int) ∈ lw_gd := tb3 (List.mem_of_getElem? (i := 119) rfl) rfl
theorem k604 : Cond.code yX4_noughtsIn cX4_noughtsIn 3 (some .int) ∈ lw_gd := tb3 (List.mem_of_getElem? (i := 124) rfl) rfl
theorem k609 : Cond.code yX5_capacity cX5_capacity 1 (some .int) ∈ lw_gd := tb3 (List.mem_of_getElem? (i := 129) rfl) rfl
theorem k612 : Cond.code yX3_joined cX3_joined 3 (some .int) ∈ lw_gd := tb3 (List.mem_of_getElem? (i := 132) rfl) rfl
theorem k616 : Cond.code yX10_answer cX10_answer 5 (some .int) ∈ lw_gd := tb3 (List.mem_of_getElem? (i := 136) rfl) rfl
theorem k619 : Cond.code yX10_productOf cX10_productOf 1 (some .int) ∈ lw_gd := tb3 (List.mem_of_getElem? (i := 139) rfl) rfl
theorem k624 : Cond.code yX0_slipsDrawn cX0_slipsDrawn 7 (some .int) ∈ lw_gd := tb3 (List.mem_of_getElem? (i := 144) rfl) rfl
theorem k629 : Cond.code yX0_slipDrawn cX0_slipDrawn 4 (some .int) ∈ lw_gd := tb3 (List.mem_of_getElem? (i := 149) rfl) rfl
theorem k633 : Cond.code yX10_quickest cX10_quickest 7 (some .int) ∈ lw_gd := tb3 (List.mem_of_getElem? (i := 153) rfl) rfl
theorem k637 : Cond.code yX10_table cX10_table 5 (some .int) ∈ lw_gd := tb3 (List.mem_of_getElem? (i := 157) rfl) rfl
theorem k641 : Cond.code yX10_see cX10_see 4 (some .int) ∈ lw_gd := tb3 (List.mem_of_getElem? (i := 161) rfl) rfl
theorem k644 : Cond.code yX7_mayBe cX7_mayBe 2 (some .boolean) ∈ lw_gd := tb3 (List.mem_of_getElem? (i := 164) rfl) rfl
theorem k650 : Cond.code yX7_takes cX7_takes 4 (some .boolean) ∈ lw_gd := tb3 (List.mem_of_getElem? (i := 170) rfl) rfl
theorem k654 : Cond.code yX7_size cX7_size 1 (some .int) ∈ lw_gd := tb3 (List.mem_of_getElem? (i := 174) rfl) rfl
theorem k658 : Cond.code yX10_asks cX10_asks 6 (some .int) ∈ lw_gd := tb3 (List.mem_of_getElem? (i := 178) rfl) rfl
theorem k661 : Cond.code yX10_isShelf cX10_isShelf 1 (some .boolean) ∈ lw_gd := tb3 (List.mem_of_getElem? (i := 181) rfl) rfl
theorem k665 : Cond.code yX8_isEmpty cX8_isEmpty 1 (some .boolean) ∈ lw_gd := tb3 (List.mem_of_getElem? (i := 185) rfl) rfl
theorem k669 : Cond.code yX8_holdsInts cX8_holdsInts 1 (some .boolean) ∈ lw_gd := tb3 (List.mem_of_getElem? (i := 189) rfl) rfl
theorem k674 : Cond.code yX10_comesFrom cX10_comesFrom 9 (some .boolean) ∈ lw_gd := tb3 (List.mem_of_getElem? (i := 194) rfl) rfl
theorem k679 : Cond.code yX8_size cX8_size 1 (some .int) ∈ lw_gd := tb3 (List.mem_of_getElem? (i := 199) rfl) rfl
theorem k683 : Cond.code yX8_elementAt cX8_elementAt 2 (some .long) ∈ lw_gd := tb3 (List.mem_of_getElem? (i := 203) rfl) rfl
theorem k687 : Cond.code yX8_hasPlaces cX8_hasPlaces 3 (some .boolean) ∈ lw_gd := tb3 (List.mem_of_getElem? (i := 207) rfl) rfl
theorem k691 : Cond.code yX10_seen cX10_seen 3 (some .int) ∈ lw_gd := tb3 (List.mem_of_getElem? (i := 211) rfl) rfl
theorem k695 : Cond.code yX7_has cX7_has 2 (some .boolean) ∈ lw_gd := tb3 (List.mem_of_getElem? (i := 215) rfl) rfl
theorem k699 : Cond.code yX7_pair cX7_pair 2 (some .int) ∈ lw_gd := tb3 (List.mem_of_getElem? (i := 219) rfl) rfl
theorem k704 : Cond.code yX7_tenths cX7_tenths 2 (some .int) ∈ lw_gd := tb3 (List.mem_of_getElem? (i := 224) rfl) rfl
theorem k708 : Cond.code yX10_offOf cX10_offOf 2 (some .int) ∈ lw_gd := tb3 (List.mem_of_getElem? (i := 228) rfl) rfl
theorem k712 : Cond.code yX7_answerOf cX7_answerOf 2 (some .int) ∈ lw_gd := tb3 (List.mem_of_getElem? (i := 232) rfl) rfl
theorem k716 : Cond.code yX10_fits cX10_fits 5 (some .int) ∈ lw_gd := tb3 (List.mem_of_getElem? (i := 236) rfl) rfl
theorem k720 : Cond.code yX10_fitsAll cX10_fitsAll 7 (some .boolean) ∈ lw_gd := tb4 (List.mem_of_getElem? (i := 0) rfl) rfl
theorem k724 : Cond.code yX0_firstThatCan cX0_firstThatCan 3 (some .int) ∈ lw_gd := tb4 (List.mem_of_getElem? (i := 4) rfl) rfl
theorem k728 : Cond.code yX0_canSlip cX0_canSlip 4 (some .boolean) ∈ lw_gd := tb4 (List.mem_of_getElem? (i := 8) rfl) rfl
theorem k733 : Cond.code yX10_best cX10_best 7 (some .int) ∈ lw_gd := tb4 (List.mem_of_getElem? (i := 13) rfl) rfl
theorem k737 : Cond.code yX10_sumOfDifferences cX10_sumOfDifferences 5 (some .int) ∈ lw_gd := tb4 (List.mem_of_getElem? (i := 17) rfl) rfl
theorem k741 : Cond.code yX10_slip cX10_slip 5 (some .int) ∈ lw_gd := tb4 (List.mem_of_getElem? (i := 21) rfl) rfl
theorem k745 : Cond.code yX0_howManyCan cX0_howManyCan 4 (some .int) ∈ lw_gd := tb4 (List.mem_of_getElem? (i := 25) rfl) rfl
theorem k749 : Cond.code yX10_suits cX10_suits 6 (some .int) ∈ lw_gd := tb4 (List.mem_of_getElem? (i := 29) rfl) rfl
theorem k753 : Cond.code yX10_tell cX10_tell 2 (some .int) ∈ lw_gd := tb4 (List.mem_of_getElem? (i := 33) rfl) rfl
theorem k757 : Cond.code yX10_untell cX10_untell 2 (some .int) ∈ lw_gd := tb4 (List.mem_of_getElem? (i := 37) rfl) rfl
theorem k761 : Cond.code yX10_parts cX10_parts 8 (some .int) ∈ lw_gd := tb4 (List.mem_of_getElem? (i := 41) rfl) rfl
theorem k765 : Cond.code yX10_spreadOf cX10_spreadOf 8 (some .int) ∈ lw_gd := tb4 (List.mem_of_getElem? (i := 45) rfl) rfl
theorem k771 : Cond.code yX10_ask cX10_ask 3 (some .int) ∈ lw_gd := tb4 (List.mem_of_getElem? (i := 51) rfl) rfl
theorem k775 : Cond.code yX5_hear cX5_hear 3 (some .int) ∈ lw_gd := tb4 (List.mem_of_getElem? (i := 55) rfl) rfl
theorem k778 : Cond.code yX10_canBeTaught cX10_canBeTaught 1 (some .boolean) ∈ lw_gd := tb4 (List.mem_of_getElem? (i := 58) rfl) rfl
theorem k782 : Cond.code yX10_taught cX10_taught 7 (some .int) ∈ lw_gd := tb4 (List.mem_of_getElem? (i := 62) rfl) rfl
theorem k786 : Cond.code yX10_allToldCanBeTaught cX10_allToldCanBeTaught 2 (some .boolean) ∈ lw_gd := tb4 (List.mem_of_getElem? (i := 66) rfl) rfl
theorem k791 : Cond.code yX10_first cX10_first 8 (some .int) ∈ lw_gd := tb4 (List.mem_of_getElem? (i := 71) rfl) rfl
theorem k795 : Cond.code yX10_prepareOrders cX10_prepareOrders 5 none ∈ lw_gd := tb4 (List.mem_of_getElem? (i := 75) rfl) rfl
theorem k799 : Cond.code yX10_orderAsDigits cX10_orderAsDigits 4 (some .int) ∈ lw_gd := tb4 (List.mem_of_getElem? (i := 79) rfl) rfl
theorem k803 : Cond.code yX10_secondsOfOrder cX10_secondsOfOrder 8 (some .int) ∈ lw_gd := tb4 (List.mem_of_getElem? (i := 83) rfl) rfl
theorem k807 : Cond.code yX10_nextOrder cX10_nextOrder 6 (some .boolean) ∈ lw_gd := tb4 (List.mem_of_getElem? (i := 87) rfl) rfl
theorem k811 : Cond.code yX10_swapPlaces cX10_swapPlaces 4 none ∈ lw_gd := tb4 (List.mem_of_getElem? (i := 91) rfl) rfl
theorem k815 : Cond.code yX10_root cX10_root 4 (some .int) ∈ lw_gd := tb4 (List.mem_of_getElem? (i := 95) rfl) rfl
theorem k818 : Cond.code yX6_isNumber cX6_isNumber 2 (some .boolean) ∈ lw_gd := tb4 (List.mem_of_getElem? (i := 98) rfl) rfl
theorem k822 : Cond.code yX6_isPower cX6_isPower 1 (some .boolean) ∈ lw_gd := tb4 (List.mem_of_getElem? (i := 102) rfl) rfl
theorem k825 : Cond.code yX6_whole cX6_whole 5 (some .long) ∈ lw_gd := tb4 (List.mem_of_getElem? (i := 105) rfl) rfl
theorem k828 : Cond.code yX6_cutRoot cX6_cutRoot 10 (some .long) ∈ lw_gd := tb4 (List.mem_of_getElem? (i := 108) rfl) rfl
theorem k831 : Cond.code yX6_mostRoot cX6_mostRoot 1 (some .long) ∈ lw_gd := tb4 (List.mem_of_getElem? (i := 111) rfl) rfl
theorem k838 : Cond.code yX6_raised cX6_raised 6 (some .long) ∈ lw_gd := tb4 (List.mem_of_getElem? (i := 118) rfl) rfl
theorem k842 : Cond.code yX10_firsts cX10_firsts 7 (some .int) ∈ lw_gd := tb4 (List.mem_of_getElem? (i := 122) rfl) rfl
theorem k846 : Cond.code yX6_howMany cX6_howMany 12 (some .long) ∈ lw_gd := tb4 (List.mem_of_getElem? (i := 126) rfl) rfl
theorem k849 : Cond.code yX6_fromRoot cX6_fromRoot 4 (some .long) ∈ lw_gd := tb4 (List.mem_of_getElem? (i := 129) rfl) rfl
theorem k852 : Cond.code yX6_leastWithFirsts cX6_leastWithFirsts 5 (some .long) ∈ lw_gd := tb4 (List.mem_of_getElem? (i := 132) rfl) rfl
theorem k855 : Cond.code yX6_unitOf cX6_unitOf 3 (some .long) ∈ lw_gd := tb4 (List.mem_of_getElem? (i := 135) rfl) rfl
theorem k859 : Cond.code yX4_longTenTo cX4_longTenTo 1 (some .long) ∈ lw_gd := tb4 (List.mem_of_getElem? (i := 139) rfl) rfl
theorem k862 : Cond.code yX6_toRoot cX6_toRoot 4 (some .long) ∈ lw_gd := tb4 (List.mem_of_getElem? (i := 142) rfl) rfl
theorem k866 : Cond.code yX6_endsAlike cX6_endsAlike 5 (some .boolean) ∈ lw_gd := tb4 (List.mem_of_getElem? (i := 146) rfl) rfl
theorem k869 : Cond.code yX6_least cX6_least 10 (some .long) ∈ lw_gd := tb4 (List.mem_of_getElem? (i := 149) rfl) rfl
theorem k873 : Cond.code yX10_enough cX10_enough 6 (some .int) ∈ lw_gd := tb4 (List.mem_of_getElem? (i := 153) rfl) rfl
theorem k877 : Cond.code yX10_undo cX10_undo 1 (some .int) ∈ lw_gd := tb4 (List.mem_of_getElem? (i := 157) rfl) rfl
theorem k881 : Cond.code yX2_undoable cX2_undoable 1 (some .int) ∈ lw_gd := tb4 (List.mem_of_getElem? (i := 161) rfl) rfl
theorem k885 : Cond.code yX2_stepBack cX2_stepBack 2 none ∈ lw_gd := tb4 (List.mem_of_getElem? (i := 165) rfl) rfl
theorem k889 : Cond.code yX2_apply cX2_apply 4 none ∈ lw_gd := tb4 (List.mem_of_getElem? (i := 169) rfl) rfl
theorem k894 : Cond.code yX10_redo cX10_redo 1 (some .int) ∈ lw_gd := tb4 (List.mem_of_getElem? (i := 174) rfl) rfl
theorem k898 : Cond.code yX2_redoable cX2_redoable 1 (some .int) ∈ lw_gd := tb4 (List.mem_of_getElem? (i := 178) rfl) rfl
theorem k902 : Cond.code yX2_stepOn cX2_stepOn 2 none ∈ lw_gd := tb4 (List.mem_of_getElem? (i := 182) rfl) rfl
theorem k906 : Cond.code yX10_body cX10_body 2 (some .int) ∈ lw_gd := tb4 (List.mem_of_getElem? (i := 186) rfl) rfl
theorem k909 : Cond.code yX1_isKind cX1_isKind 1 (some .boolean) ∈ lw_gd := tb4 (List.mem_of_getElem? (i := 189) rfl) rfl
theorem k913 : Cond.code yX1_takes cX1_takes 2 (some .boolean) ∈ lw_gd := tb4 (List.mem_of_getElem? (i := 193) rfl) rfl
theorem k917 : Cond.code yX1_size cX1_size 1 (some .int) ∈ lw_gd := tb4 (List.mem_of_getElem? (i := 197) rfl) rfl
theorem k921 : Cond.code yX10_act cX10_act 4 (some .int) ∈ lw_gd := tb4 (List.mem_of_getElem? (i := 201) rfl) rfl
theorem k925 : Cond.code yX1_start cX1_start 4 (some .int) ∈ lw_gd := tb4 (List.mem_of_getElem? (i := 205) rfl) rfl
theorem k929 : Cond.code yX1_has cX1_has 2 (some .boolean) ∈ lw_gd := tb4 (List.mem_of_getElem? (i := 209) rfl) rfl
theorem k933 : Cond.code yX1_own cX1_own 4 (some .int) ∈ lw_gd := tb4 (List.mem_of_getElem? (i := 213) rfl) rfl
theorem k937 : Cond.code yX1_kindOf cX1_kindOf 2 (some .int) ∈ lw_gd := tb4 (List.mem_of_getElem? (i := 217) rfl) rfl
theorem k941 : Cond.code yX1_nearest cX1_nearest 8 (some .int) ∈ lw_gd := tb4 (List.mem_of_getElem? (i := 221) rfl) rfl
theorem k948 : Cond.code yX1_run cX1_run 4 (some .int) ∈ lw_gd := tb4 (List.mem_of_getElem? (i := 228) rfl) rfl
theorem k952 : Cond.code yX1_noteRun cX1_noteRun 2 none ∈ lw_gd := tb4 (List.mem_of_getElem? (i := 232) rfl) rfl
theorem k956 : Cond.code yX1_fromAbove cX1_fromAbove 5 (some .int) ∈ lw_gd := tb4 (List.mem_of_getElem? (i := 236) rfl) rfl
theorem k962 : Cond.code yX10_trace cX10_trace 2 (some .int) ∈ lw_gd := tb5 (List.mem_of_getElem? (i := 2) rfl) rfl
theorem k966 : Cond.code yX1_traced cX1_traced 2 (some .int) ∈ lw_gd := tb5 (List.mem_of_getElem? (i := 6) rfl) rfl
theorem k970 : Cond.code yX10_keep cX10_keep 3 (some .int) ∈ lw_gd := tb5 (List.mem_of_getElem? (i := 10) rfl) rfl
theorem k975 : Cond.code yX8_holdBody cX8_holdBody 2 none ∈ lw_gd := tb5 (List.mem_of_getElem? (i := 15) rfl) rfl
theorem k979 : Cond.code yX10_row cX10_row 4 (some .int) ∈ lw_gd := tb5 (List.mem_of_getElem? (i := 19) rfl) rfl
theorem k982 : Cond.code yX8_isSort cX8_isSort 1 (some .boolean) ∈ lw_gd := tb5 (List.mem_of_getElem? (i := 22) rfl) rfl
theorem k986 : Cond.code yX8_holdRow cX8_holdRow 4 none ∈ lw_gd := tb5 (List.mem_of_getElem? (i := 26) rfl) rfl
theorem k992 : Cond.code yX10_put cX10_put 6 (some .int) ∈ lw_gd := tb5 (List.mem_of_getElem? (i := 32) rfl) rfl
theorem k996 : Cond.code yX10_refusalAt cX10_refusalAt 3 (some .int) ∈ lw_gd := tb5 (List.mem_of_getElem? (i := 36) rfl) rfl
theorem k1000 : Cond.code yX8_holdsRow cX8_holdsRow 1 (some .boolean) ∈ lw_gd := tb5 (List.mem_of_getElem? (i := 40) rfl) rfl
theorem k1005 : Cond.code yX8_setElement cX8_setElement 4 none ∈ lw_gd := tb5 (List.mem_of_getElem? (i := 45) rfl) rfl
theorem k1009 : Cond.code yX10_element cX10_element 3 (some .long) ∈ lw_gd := tb5 (List.mem_of_getElem? (i := 49) rfl) rfl
theorem k1014 : Cond.code yX10_shift cX10_shift 8 (some .int) ∈ lw_gd := tb5 (List.mem_of_getElem? (i := 54) rfl) rfl
theorem k1018 : Cond.code yX8_sort cX8_sort 1 (some .int) ∈ lw_gd := tb5 (List.mem_of_getElem? (i := 58) rfl) rfl
theorem k1022 : Cond.code yX8_copyFrom cX8_copyFrom 5 none ∈ lw_gd := tb5 (List.mem_of_getElem? (i := 62) rfl) rfl
theorem k1027 : Cond.code yX10_taken cX10_taken 4 (some .int) ∈ lw_gd := tb5 (List.mem_of_getElem? (i := 67) rfl) rfl
theorem k1031 : Cond.code yX8_bodyHeld cX8_bodyHeld 1 (some .int) ∈ lw_gd := tb5 (List.mem_of_getElem? (i := 71) rfl) rfl
theorem k1035 : Cond.code yX1_isUnder cX1_isUnder 4 (some .boolean) ∈ lw_gd := tb5 (List.mem_of_getElem? (i := 75) rfl) rfl
theorem k1039 : Cond.code yX10_count cX10_count 2 (some .int) ∈ lw_gd := tb5 (List.mem_of_getElem? (i := 79) rfl) rfl
theorem k1043 : Cond.code yX1_ranCount cX1_ranCount 1 (some .int) ∈ lw_gd := tb5 (List.mem_of_getElem? (i := 83) rfl) rfl
theorem k1048 : Cond.code yX11_init cX11_init 2 none ∈ lw_gd := tb5 (List.mem_of_getElem? (i := 88) rfl) rfl
theorem k1219 : Cond.code yX11_undo cX11_undo 1 (some .int) ∈ lw_gd := tb6 (List.mem_of_getElem? (i := 19) rfl) rfl
theorem k1223 : Cond.code yX11_redo cX11_redo 1 (some .int) ∈ lw_gd := tb6 (List.mem_of_getElem? (i := 23) rfl) rfl
theorem k1227 : Cond.code yX11_feed cX11_feed 4 (some .int) ∈ lw_gd := tb6 (List.mem_of_getElem? (i := 27) rfl) rfl
theorem k1231 : Cond.code yX11_within cX11_within 6 (some .boolean) ∈ lw_gd := tb6 (List.mem_of_getElem? (i := 31) rfl) rfl
theorem k1235 : Cond.code yX11_choice cX11_choice 4 (some .int) ∈ lw_gd := tb6 (List.mem_of_getElem? (i := 35) rfl) rfl
theorem k1239 : Cond.code yX11_workOut cX11_workOut 8 (some .int) ∈ lw_gd := tb6 (List.mem_of_getElem? (i := 39) rfl) rfl
theorem k1243 : Cond.code yX11_either cX11_either 3 (some .int) ∈ lw_gd := tb6 (List.mem_of_getElem? (i := 43) rfl) rfl
theorem k1247 : Cond.code yX11_both cX11_both 3 (some .int) ∈ lw_gd := tb6 (List.mem_of_getElem? (i := 47) rfl) rfl
theorem k1251 : Cond.code yX11_compared cX11_compared 4 (some .int) ∈ lw_gd := tb6 (List.mem_of_getElem? (i := 51) rfl) rfl
theorem k1255 : Cond.code yX11_sums cX11_sums 4 (some .int) ∈ lw_gd := tb6 (List.mem_of_getElem? (i := 55) rfl) rfl
theorem k1259 : Cond.code yX11_product cX11_product 4 (some .int) ∈ lw_gd := tb6 (List.mem_of_getElem? (i := 59) rfl) rfl
theorem k1263 : Cond.code yX11_one cX11_one 5 (some .int) ∈ lw_gd := tb6 (List.mem_of_getElem? (i := 63) rfl) rfl
theorem k1267 : Cond.code yX11_byteAt cX11_byteAt 1 (some .int) ∈ lw_gd := tb6 (List.mem_of_getElem? (i := 67) rfl) rfl
theorem k1271 : Cond.code yX11_wrong cX11_wrong 1 (some .int) ∈ lw_gd := tb6 (List.mem_of_getElem? (i := 71) rfl) rfl
theorem k1275 : Cond.code yX11_takes cX11_takes 2 (some .boolean) ∈ lw_gd := tb6 (List.mem_of_getElem? (i := 75) rfl) rfl
theorem k1278 : Cond.code yX11_nameOf cX11_nameOf 1 (some .int) ∈ lw_gd := tb6 (List.mem_of_getElem? (i := 78) rfl) rfl
theorem k1282 : Cond.code yX11_head cX11_head 2 (some .int) ∈ lw_gd := tb6 (List.mem_of_getElem? (i := 82) rfl) rfl
theorem k1286 : Cond.code yX11_readOne cX11_readOne 5 (some .int) ∈ lw_gd := tb6 (List.mem_of_getElem? (i := 86) rfl) rfl
theorem k1289 : Cond.code yX11_isOf cX11_isOf 2 (some .boolean) ∈ lw_gd := tb6 (List.mem_of_getElem? (i := 89) rfl) rfl
theorem k1296 : Cond.code yX11_of cX11_of 3 (some .int) ∈ lw_gd := tb6 (List.mem_of_getElem? (i := 96) rfl) rfl
theorem k1300 : Cond.code yX11_isHead cX11_isHead 2 (some .boolean) ∈ lw_gd := tb6 (List.mem_of_getElem? (i := 100) rfl) rfl
theorem k1304 : Cond.code yX11_learntOf cX11_learntOf 4 (some .int) ∈ lw_gd := tb6 (List.mem_of_getElem? (i := 104) rfl) rfl
theorem k1308 : Cond.code yX11_turn cX11_turn 4 (some .int) ∈ lw_gd := tb6 (List.mem_of_getElem? (i := 108) rfl) rfl
theorem k1312 : Cond.code yX11_becomes cX11_becomes 5 (some .int) ∈ lw_gd := tb6 (List.mem_of_getElem? (i := 112) rfl) rfl
theorem k1316 : Cond.code yX11_ask cX11_ask 3 (some .int) ∈ lw_gd := tb6 (List.mem_of_getElem? (i := 116) rfl) rfl
theorem k1319 : Cond.code yX11_isAsk cX11_isAsk 1 (some .boolean) ∈ lw_gd := tb6 (List.mem_of_getElem? (i := 119) rfl) rfl
theorem k1324 : Cond.code yX11_askOf cX11_askOf 4 (some .int) ∈ lw_gd := tb6 (List.mem_of_getElem? (i := 124) rfl) rfl
theorem k1327 : Cond.code yX11_isSmall cX11_isSmall 1 (some .boolean) ∈ lw_gd := tb6 (List.mem_of_getElem? (i := 127) rfl) rfl
theorem k1331 : Cond.code yX11_pairAt cX11_pairAt 4 (some .int) ∈ lw_gd := tb6 (List.mem_of_getElem? (i := 131) rfl) rfl
theorem k1334 : Cond.code yX11_asPair cX11_asPair 3 (some .int) ∈ lw_gd := tb6 (List.mem_of_getElem? (i := 134) rfl) rfl
theorem k1338 : Cond.code yX11_way cX11_way 4 (some .int) ∈ lw_gd := tb6 (List.mem_of_getElem? (i := 138) rfl) rfl
theorem k1342 : Cond.code yX11_isHw cX11_isHw 2 (some .boolean) ∈ lw_gd := tb6 (List.mem_of_getElem? (i := 142) rfl) rfl
theorem k1347 : Cond.code yX11_layOut cX11_layOut 7 (some .boolean) ∈ lw_gd := tb6 (List.mem_of_getElem? (i := 147) rfl) rfl
theorem k1351 : Cond.code yX11_isKnown cX11_isKnown 3 (some .boolean) ∈ lw_gd := tb6 (List.mem_of_getElem? (i := 151) rfl) rfl
theorem k1355 : Cond.code yX11_isLearnt cX11_isLearnt 4 (some .boolean) ∈ lw_gd := tb6 (List.mem_of_getElem? (i := 155) rfl) rfl
theorem k1359 : Cond.code yX11_acts cX11_acts 7 none ∈ lw_gd := tb6 (List.mem_of_getElem? (i := 159) rfl) rfl
theorem k1362 : Cond.code yX11_digits cX11_digits 3 (some .int) ∈ lw_gd := tb6 (List.mem_of_getElem? (i := 162) rfl) rfl
theorem k1366 : Cond.code yX11_goLeft cX11_goLeft 6 none ∈ lw_gd := tb6 (List.mem_of_getElem? (i := 166) rfl) rfl
theorem k1369 : Cond.code yX11_figure cX11_figure 4 (some .int) ∈ lw_gd := tb6 (List.mem_of_getElem? (i := 169) rfl) rfl
theorem k1373 : Cond.code yX11_lookAndAdd cX11_lookAndAdd 7 (some .boolean) ∈ lw_gd := tb6 (List.mem_of_getElem? (i := 173) rfl) rfl
theorem k1376 : Cond.code yX11_tens cX11_tens 3 (some .int) ∈ lw_gd := tb6 (List.mem_of_getElem? (i := 176) rfl) rfl
theorem k1380 : Cond.code yX11_goRight cX11_goRight 5 none ∈ lw_gd := tb6 (List.mem_of_getElem? (i := 180) rfl) rfl
theorem k1384 : Cond.code yX11_holds cX11_holds 2 none ∈ lw_gd := tb6 (List.mem_of_getElem? (i := 184) rfl) rfl
theorem k1388 : Cond.code yX11_goCrossed cX11_goCrossed 8 none ∈ lw_gd := tb6 (List.mem_of_getElem? (i := 188) rfl) rfl
theorem k1392 : Cond.code yX11_goSquared cX11_goSquared 5 (some .boolean) ∈ lw_gd := tb6 (List.mem_of_getElem? (i := 192) rfl) rfl
theorem k1395 : Cond.code yX11_size cX11_size 1 (some .int) ∈ lw_gd := tb6 (List.mem_of_getElem? (i := 195) rfl) rfl
theorem k1399 : Cond.code yX11_goSplit cX11_goSplit 4 (some .boolean) ∈ lw_gd := tb6 (List.mem_of_getElem? (i := 199) rfl) rfl
theorem k1403 : Cond.code yX11_seconds cX11_seconds 3 (some .int) ∈ lw_gd := tb6 (List.mem_of_getElem? (i := 203) rfl) rfl
theorem k1407 : Cond.code yX11_mostHeld cX11_mostHeld 3 (some .int) ∈ lw_gd := tb6 (List.mem_of_getElem? (i := 207) rfl) rfl
theorem k1411 : Cond.code yX11_step cX11_step 5 (some .int) ∈ lw_gd := tb6 (List.mem_of_getElem? (i := 211) rfl) rfl
theorem k1417 : Cond.code yX11_chosen cX11_chosen 3 (some .int) ∈ lw_gd := tb6 (List.mem_of_getElem? (i := 217) rfl) rfl
theorem k1421 : Cond.code yX11_chosenBy cX11_chosenBy 7 (some .int) ∈ lw_gd := tb6 (List.mem_of_getElem? (i := 221) rfl) rfl
theorem k1424 : Cond.code yX11_noughtsOf cX11_noughtsOf 3 (some .int) ∈ lw_gd := tb6 (List.mem_of_getElem? (i := 224) rfl) rfl
theorem k1429 : Cond.code yX11_answer cX11_answer 9 (some .int) ∈ lw_gd := tb6 (List.mem_of_getElem? (i := 229) rfl) rfl
theorem k1434 : Cond.code yX11_quickest cX11_quickest 7 (some .int) ∈ lw_gd := tb6 (List.mem_of_getElem? (i := 234) rfl) rfl
theorem k1438 : Cond.code yX11_table cX11_table 6 (some .int) ∈ lw_gd := tb6 (List.mem_of_getElem? (i := 238) rfl) rfl
theorem k1442 : Cond.code yX11_see cX11_see 4 (some .int) ∈ lw_gd := tb7 (List.mem_of_getElem? (i := 2) rfl) rfl
theorem k1448 : Cond.code yX11_asks cX11_asks 7 (some .int) ∈ lw_gd := tb7 (List.mem_of_getElem? (i := 8) rfl) rfl
theorem k1451 : Cond.code yX11_isShelf cX11_isShelf 1 (some .boolean) ∈ lw_gd := tb7 (List.mem_of_getElem? (i := 11) rfl) rfl
theorem k1458 : Cond.code yX11_seen cX11_seen 3 (some .int) ∈ lw_gd := tb7 (List.mem_of_getElem? (i := 18) rfl) rfl
theorem k1462 : Cond.code yX11_offBy cX11_offBy 2 (some .int) ∈ lw_gd := tb7 (List.mem_of_getElem? (i := 22) rfl) rfl
theorem k1466 : Cond.code yX11_fits cX11_fits 5 (some .int) ∈ lw_gd := tb7 (List.mem_of_getElem? (i := 26) rfl) rfl
theorem k1470 : Cond.code yX11_doesFit cX11_doesFit 5 (some .boolean) ∈ lw_gd := tb7 (List.mem_of_getElem? (i := 30) rfl) rfl
theorem k1474 : Cond.code yX11_slipsOf cX11_slipsOf 4 (some .int) ∈ lw_gd := tb7 (List.mem_of_getElem? (i := 34) rfl) rfl
theorem k1478 : Cond.code yX11_canSlip cX11_canSlip 4 (some .boolean) ∈ lw_gd := tb7 (List.mem_of_getElem? (i := 38) rfl) rfl
theorem k1482 : Cond.code yX11_best cX11_best 7 (some .int) ∈ lw_gd := tb7 (List.mem_of_getElem? (i := 42) rfl) rfl
theorem k1486 : Cond.code yX11_offSum cX11_offSum 7 (some .int) ∈ lw_gd := tb7 (List.mem_of_getElem? (i := 46) rfl) rfl
theorem k1490 : Cond.code yX11_slip cX11_slip 5 (some .int) ∈ lw_gd := tb7 (List.mem_of_getElem? (i := 50) rfl) rfl
theorem k1494 : Cond.code yX11_suits cX11_suits 7 (some .int) ∈ lw_gd := tb7 (List.mem_of_getElem? (i := 54) rfl) rfl
theorem k1498 : Cond.code yX11_tell cX11_tell 2 (some .int) ∈ lw_gd := tb7 (List.mem_of_getElem? (i := 58) rfl) rfl
theorem k1502 : Cond.code yX11_untell cX11_untell 2 (some .int) ∈ lw_gd := tb7 (List.mem_of_getElem? (i := 62) rfl) rfl
theorem k1506 : Cond.code yX11_parts cX11_parts 10 (some .int) ∈ lw_gd := tb7 (List.mem_of_getElem? (i := 66) rfl) rfl
theorem k1511 : Cond.code yX11_taught cX11_taught 6 (some .int) ∈ lw_gd := tb7 (List.mem_of_getElem? (i := 71) rfl) rfl
theorem k1516 : Cond.code yX11_isListBad cX11_isListBad 2 (some .boolean) ∈ lw_gd := tb7 (List.mem_of_getElem? (i := 76) rfl) rfl
theorem k1520 : Cond.code yX11_keeps cX11_keeps 3 none ∈ lw_gd := tb7 (List.mem_of_getElem? (i := 80) rfl) rfl
theorem k1524 : Cond.code yX11_asksOne cX11_asksOne 6 (some .int) ∈ lw_gd := tb7 (List.mem_of_getElem? (i := 84) rfl) rfl
theorem k1528 : Cond.code yX11_putsBack cX11_putsBack 3 none ∈ lw_gd := tb7 (List.mem_of_getElem? (i := 88) rfl) rfl
theorem k1532 : Cond.code yX11_first cX11_first 3 (some .int) ∈ lw_gd := tb7 (List.mem_of_getElem? (i := 92) rfl) rfl
theorem k1536 : Cond.code yX11_ordersFrom cX11_ordersFrom 8 none ∈ lw_gd := tb7 (List.mem_of_getElem? (i := 96) rfl) rfl
theorem k1540 : Cond.code yX11_root cX11_root 4 (some .int) ∈ lw_gd := tb7 (List.mem_of_getElem? (i := 100) rfl) rfl
theorem k1543 : Cond.code yX11_isNumber cX11_isNumber 3 (some .boolean) ∈ lw_gd := tb7 (List.mem_of_getElem? (i := 103) rfl) rfl
theorem k1547 : Cond.code yX11_isPower cX11_isPower 1 (some .boolean) ∈ lw_gd := tb7 (List.mem_of_getElem? (i := 107) rfl) rfl
theorem k1550 : Cond.code yX11_rootOf cX11_rootOf 5 (some .int) ∈ lw_gd := tb7 (List.mem_of_getElem? (i := 110) rfl) rfl
theorem k1553 : Cond.code yX11_leastOf cX11_leastOf 9 (some .long) ∈ lw_gd := tb7 (List.mem_of_getElem? (i := 113) rfl) rfl
theorem k1557 : Cond.code yX11_powerOf cX11_powerOf 6 (some .long) ∈ lw_gd := tb7 (List.mem_of_getElem? (i := 117) rfl) rfl
theorem k1562 : Cond.code yX11_firsts cX11_firsts 7 (some .int) ∈ lw_gd := tb7 (List.mem_of_getElem? (i := 122) rfl) rfl
theorem k1565 : Cond.code yX11_digitsOf cX11_digitsOf 5 (some .int) ∈ lw_gd := tb7 (List.mem_of_getElem? (i := 125) rfl) rfl
theorem k1570 : Cond.code yX11_manyFirsts cX11_manyFirsts 20 (some .long) ∈ lw_gd := tb7 (List.mem_of_getElem? (i := 130) rfl) rfl
theorem k1573 : Cond.code yX11_lastOf cX11_lastOf 4 (some .int) ∈ lw_gd := tb7 (List.mem_of_getElem? (i := 133) rfl) rfl
theorem k1576 : Cond.code yX11_endingBelow cX11_endingBelow 3 (some .long) ∈ lw_gd := tb7 (List.mem_of_getElem? (i := 136) rfl) rfl
theorem k1580 : Cond.code yX11_enough cX11_enough 5 (some .int) ∈ lw_gd := tb7 (List.mem_of_getElem? (i := 140) rfl) rfl
theorem k1584 : Cond.code yX11_body cX11_body 2 (some .int) ∈ lw_gd := tb7 (List.mem_of_getElem? (i := 144) rfl) rfl
theorem k1589 : Cond.code yX11_act cX11_act 4 (some .int) ∈ lw_gd := tb7 (List.mem_of_getElem? (i := 149) rfl) rfl
theorem k1593 : Cond.code yX11_isBody cX11_isBody 2 (some .boolean) ∈ lw_gd := tb7 (List.mem_of_getElem? (i := 153) rfl) rfl
theorem k1597 : Cond.code yX11_costsAs cX11_costsAs 3 (some .int) ∈ lw_gd := tb7 (List.mem_of_getElem? (i := 157) rfl) rfl
theorem k1601 : Cond.code yX11_begins cX11_begins 2 none ∈ lw_gd := tb7 (List.mem_of_getElem? (i := 161) rfl) rfl
theorem k1605 : Cond.code yX11_keepsAs cX11_keepsAs 3 (some .int) ∈ lw_gd := tb7 (List.mem_of_getElem? (i := 165) rfl) rfl
theorem k1609 : Cond.code yX11_slipsAs cX11_slipsAs 4 (some .int) ∈ lw_gd := tb7 (List.mem_of_getElem? (i := 169) rfl) rfl
theorem k1613 : Cond.code yX11_tellsAs cX11_tellsAs 4 (some .int) ∈ lw_gd := tb7 (List.mem_of_getElem? (i := 173) rfl) rfl
theorem k1617 : Cond.code yX11_trace cX11_trace 2 (some .int) ∈ lw_gd := tb7 (List.mem_of_getElem? (i := 177) rfl) rfl
theorem k1621 : Cond.code yX11_keep cX11_keep 3 (some .int) ∈ lw_gd := tb7 (List.mem_of_getElem? (i := 181) rfl) rfl
theorem k1625 : Cond.code yX11_row cX11_row 5 (some .int) ∈ lw_gd := tb7 (List.mem_of_getElem? (i := 185) rfl) rfl
theorem k1629 : Cond.code yX11_put cX11_put 6 (some .int) ∈ lw_gd := tb7 (List.mem_of_getElem? (i := 189) rfl) rfl
theorem k1633 : Cond.code yX11_refusal cX11_refusal 3 (some .int) ∈ lw_gd := tb7 (List.mem_of_getElem? (i := 193) rfl) rfl
theorem k1636 : Cond.code yX11_asSort cX11_asSort 3 (some .long) ∈ lw_gd := tb7 (List.mem_of_getElem? (i := 196) rfl) rfl
theorem k1640 : Cond.code yX11_element cX11_element 3 (some .long) ∈ lw_gd := tb7 (List.mem_of_getElem? (i := 200) rfl) rfl
theorem k1645 : Cond.code yX11_shift cX11_shift 7 (some .int) ∈ lw_gd := tb7 (List.mem_of_getElem? (i := 205) rfl) rfl
theorem k1649 : Cond.code yX11_taken cX11_taken 4 (some .int) ∈ lw_gd := tb7 (List.mem_of_getElem? (i := 209) rfl) rfl
theorem k1653 : Cond.code yX11_kindOf cX11_kindOf 2 (some .int) ∈ lw_gd := tb7 (List.mem_of_getElem? (i := 213) rfl) rfl
theorem k1656 : Cond.code yX11_above cX11_above 1 (some .int) ∈ lw_gd := tb7 (List.mem_of_getElem? (i := 216) rfl) rfl
theorem k1660 : Cond.code yX11_count cX11_count 2 (some .int) ∈ lw_gd := tb7 (List.mem_of_getElem? (i := 220) rfl) rfl
theorem k280 : Cond.selects RX10 yX10_feed yX10_feed ∈ lw_gd := tb2 (List.mem_of_getElem? (i := 40) rfl) rfl
theorem k284 : Cond.selects RX9 yX9_takes yX9_takes ∈ lw_gd := tb2 (List.mem_of_getElem? (i := 44) rfl) rfl
theorem k288 : Cond.selects RX9 yX9_length yX9_length ∈ lw_gd := tb2 (List.mem_of_getElem? (i := 48) rfl) rfl
theorem k292 : Cond.selects RX10 yX10_head yX10_head ∈ lw_gd := tb2 (List.mem_of_getElem? (i := 52) rfl) rfl
theorem k296 : Cond.selects RX5 yX5_read yX5_read ∈ lw_gd := tb2 (List.mem_of_getElem? (i := 56) rfl) rfl
theorem k300 : Cond.selects RX9 yX9_at yX9_at ∈ lw_gd := tb2 (List.mem_of_getElem? (i := 60) rfl) rfl
theorem k323 : Cond.selects RX9 yX9_clear yX9_clear ∈ lw_gd := tb2 (List.mem_of_getElem? (i := 83) rfl) rfl
theorem k327 : Cond.selects RX5 yX5_become yX5_become ∈ lw_gd := tb2 (List.mem_of_getElem? (i := 87) rfl) rfl
theorem k334 : Cond.selects RX10 yX10_of yX10_of ∈ lw_gd := tb2 (List.mem_of_getElem? (i := 94) rfl) rfl
theorem k342 : Cond.selects RX5 yX5_learntCount yX5_learntCount ∈ lw_gd := tb2 (List.mem_of_getElem? (i := 102) rfl) rfl
theorem k346 : Cond.selects RX5 yX5_number yX5_number ∈ lw_gd := tb2 (List.mem_of_getElem? (i := 106) rfl) rfl
theorem k350 : Cond.selects RX10 yX10_turn yX10_turn ∈ lw_gd := tb2 (List.mem_of_getElem? (i := 110) rfl) rfl
theorem k355 : Cond.selects RX2 yX2_came yX2_came ∈ lw_gd := tb2 (List.mem_of_getElem? (i := 115) rfl) rfl
theorem k364 : Cond.selects RX5 yX5_setNumber yX5_setNumber ∈ lw_gd := tb2 (List.mem_of_getElem? (i := 124) rfl) rfl
theorem k368 : Cond.selects RX10 yX10_choice yX10_choice ∈ lw_gd := tb2 (List.mem_of_getElem? (i := 128) rfl) rfl
theorem k372 : Cond.selects RX3 yX3_read yX3_read ∈ lw_gd := tb2 (List.mem_of_getElem? (i := 132) rfl) rfl
theorem k376 : Cond.selects RX9 yX9_become yX9_become ∈ lw_gd := tb2 (List.mem_of_getElem? (i := 136) rfl) rfl
theorem k440 : Cond.selects RX10 yX10_way yX10_way ∈ lw_gd := tb2 (List.mem_of_getElem? (i := 200) rfl) rfl
theorem k454 : Cond.selects RX0 yX0_reckon yX0_reckon ∈ lw_gd := tb2 (List.mem_of_getElem? (i := 214) rfl) rfl
theorem k467 : Cond.selects RX5 yX5_looksUp yX5_looksUp ∈ lw_gd := tb2 (List.mem_of_getElem? (i := 227) rfl) rfl
theorem k553 : Cond.selects RX0 yX0_seconds yX0_seconds ∈ lw_gd := tb3 (List.mem_of_getElem? (i := 73) rfl) rfl
theorem k557 : Cond.selects RX0 yX0_holds yX0_holds ∈ lw_gd := tb3 (List.mem_of_getElem? (i := 77) rfl) rfl
theorem k561 : Cond.selects RX0 yX0_size yX0_size ∈ lw_gd := tb3 (List.mem_of_getElem? (i := 81) rfl) rfl
theorem k565 : Cond.selects RX10 yX10_step yX10_step ∈ lw_gd := tb3 (List.mem_of_getElem? (i := 85) rfl) rfl
theorem k570 : Cond.selects RX0 yX0_told yX0_told ∈ lw_gd := tb3 (List.mem_of_getElem? (i := 90) rfl) rfl
theorem k575 : Cond.selects RX10 yX10_chosen yX10_chosen ∈ lw_gd := tb3 (List.mem_of_getElem? (i := 95) rfl) rfl
theorem k583 : Cond.selects RX3 yX3_numberFor yX3_numberFor ∈ lw_gd := tb3 (List.mem_of_getElem? (i := 103) rfl) rfl
theorem k608 : Cond.selects RX5 yX5_capacity yX5_capacity ∈ lw_gd := tb3 (List.mem_of_getElem? (i := 128) rfl) rfl
theorem k615 : Cond.selects RX10 yX10_answer yX10_answer ∈ lw_gd := tb3 (List.mem_of_getElem? (i := 135) rfl) rfl
theorem k623 : Cond.selects RX0 yX0_slipsDrawn yX0_slipsDrawn ∈ lw_gd := tb3 (List.mem_of_getElem? (i := 143) rfl) rfl
theorem k632 : Cond.selects RX10 yX10_quickest yX10_quickest ∈ lw_gd := tb3 (List.mem_of_getElem? (i := 152) rfl) rfl
theorem k636 : Cond.selects RX10 yX10_table yX10_table ∈ lw_gd := tb3 (List.mem_of_getElem? (i := 156) rfl) rfl
theorem k640 : Cond.selects RX10 yX10_see yX10_see ∈ lw_gd := tb3 (List.mem_of_getElem? (i := 160) rfl) rfl
theorem k649 : Cond.selects RX7 yX7_takes yX7_takes ∈ lw_gd := tb3 (List.mem_of_getElem? (i := 169) rfl) rfl
theorem k653 : Cond.selects RX7 yX7_size yX7_size ∈ lw_gd := tb3 (List.mem_of_getElem? (i := 173) rfl) rfl
theorem k657 : Cond.selects RX10 yX10_asks yX10_asks ∈ lw_gd := tb3 (List.mem_of_getElem? (i := 177) rfl) rfl
theorem k664 : Cond.selects RX8 yX8_isEmpty yX8_isEmpty ∈ lw_gd := tb3 (List.mem_of_getElem? (i := 184) rfl) rfl
theorem k668 : Cond.selects RX8 yX8_holdsInts yX8_holdsInts ∈ lw_gd := tb3 (List.mem_of_getElem? (i := 188) rfl) rfl
theorem k678 : Cond.selects RX8 yX8_size yX8_size ∈ lw_gd := tb3 (List.mem_of_getElem? (i := 198) rfl) rfl
theorem k682 : Cond.selects RX8 yX8_elementAt yX8_elementAt ∈ lw_gd := tb3 (List.mem_of_getElem? (i := 202) rfl) rfl
theorem k686 : Cond.selects RX8 yX8_hasPlaces yX8_hasPlaces ∈ lw_gd := tb3 (List.mem_of_getElem? (i := 206) rfl) rfl
theorem k690 : Cond.selects RX10 yX10_seen yX10_seen ∈ lw_gd := tb3 (List.mem_of_getElem? (i := 210) rfl) rfl
theorem k694 : Cond.selects RX7 yX7_has yX7_has ∈ lw_gd := tb3 (List.mem_of_getElem? (i := 214) rfl) rfl
theorem k698 : Cond.selects RX7 yX7_pair yX7_pair ∈ lw_gd := tb3 (List.mem_of_getElem? (i := 218) rfl) rfl
theorem k703 : Cond.selects RX7 yX7_tenths yX7_tenths ∈ lw_gd := tb3 (List.mem_of_getElem? (i := 223) rfl) rfl
theorem k711 : Cond.selects RX7 yX7_answerOf yX7_answerOf ∈ lw_gd := tb3 (List.mem_of_getElem? (i := 231) rfl) rfl
theorem k715 : Cond.selects RX10 yX10_fits yX10_fits ∈ lw_gd := tb3 (List.mem_of_getElem? (i := 235) rfl) rfl
theorem k723 : Cond.selects RX0 yX0_firstThatCan yX0_firstThatCan ∈ lw_gd := tb4 (List.mem_of_getElem? (i := 3) rfl) rfl
theorem k732 : Cond.selects RX10 yX10_best yX10_best ∈ lw_gd := tb4 (List.mem_of_getElem? (i := 12) rfl) rfl
theorem k740 : Cond.selects RX10 yX10_slip yX10_slip ∈ lw_gd := tb4 (List.mem_of_getElem? (i := 20) rfl) rfl
theorem k744 : Cond.selects RX0 yX0_howManyCan yX0_howManyCan ∈ lw_gd := tb4 (List.mem_of_getElem? (i := 24) rfl) rfl
theorem k748 : Cond.selects RX10 yX10_suits yX10_suits ∈ lw_gd := tb4 (List.mem_of_getElem? (i := 28) rfl) rfl
theorem k752 : Cond.selects RX10 yX10_tell yX10_tell ∈ lw_gd := tb4 (List.mem_of_getElem? (i := 32) rfl) rfl
theorem k756 : Cond.selects RX10 yX10_untell yX10_untell ∈ lw_gd := tb4 (List.mem_of_getElem? (i := 36) rfl) rfl
theorem k760 : Cond.selects RX10 yX10_parts yX10_parts ∈ lw_gd := tb4 (List.mem_of_getElem? (i := 40) rfl) rfl
theorem k770 : Cond.selects RX10 yX10_ask yX10_ask ∈ lw_gd := tb4 (List.mem_of_getElem? (i := 50) rfl) rfl
theorem k774 : Cond.selects RX5 yX5_hear yX5_hear ∈ lw_gd := tb4 (List.mem_of_getElem? (i := 54) rfl) rfl
theorem k781 : Cond.selects RX10 yX10_taught yX10_taught ∈ lw_gd := tb4 (List.mem_of_getElem? (i := 61) rfl) rfl
theorem k790 : Cond.selects RX10 yX10_first yX10_first ∈ lw_gd := tb4 (List.mem_of_getElem? (i := 70) rfl) rfl
theorem k814 : Cond.selects RX10 yX10_root yX10_root ∈ lw_gd := tb4 (List.mem_of_getElem? (i := 94) rfl) rfl
theorem k841 : Cond.selects RX10 yX10_firsts yX10_firsts ∈ lw_gd := tb4 (List.mem_of_getElem? (i := 121) rfl) rfl
theorem k872 : Cond.selects RX10 yX10_enough yX10_enough ∈ lw_gd := tb4 (List.mem_of_getElem? (i := 152) rfl) rfl
theorem k876 : Cond.selects RX10 yX10_undo yX10_undo ∈ lw_gd := tb4 (List.mem_of_getElem? (i := 156) rfl) rfl
theorem k880 : Cond.selects RX2 yX2_undoable yX2_undoable ∈ lw_gd := tb4 (List.mem_of_getElem? (i := 160) rfl) rfl
theorem k884 : Cond.selects RX2 yX2_stepBack yX2_stepBack ∈ lw_gd := tb4 (List.mem_of_getElem? (i := 164) rfl) rfl
theorem k893 : Cond.selects RX10 yX10_redo yX10_redo ∈ lw_gd := tb4 (List.mem_of_getElem? (i := 173) rfl) rfl
theorem k897 : Cond.selects RX2 yX2_redoable yX2_redoable ∈ lw_gd := tb4 (List.mem_of_getElem? (i := 177) rfl) rfl
theorem k901 : Cond.selects RX2 yX2_stepOn yX2_stepOn ∈ lw_gd := tb4 (List.mem_of_getElem? (i := 181) rfl) rfl
theorem k905 : Cond.selects RX10 yX10_body yX10_body ∈ lw_gd := tb4 (List.mem_of_getElem? (i := 185) rfl) rfl
theorem k912 : Cond.selects RX1 yX1_takes yX1_takes ∈ lw_gd := tb4 (List.mem_of_getElem? (i := 192) rfl) rfl
theorem k916 : Cond.selects RX1 yX1_size yX1_size ∈ lw_gd := tb4 (List.mem_of_getElem? (i := 196) rfl) rfl
theorem k920 : Cond.selects RX10 yX10_act yX10_act ∈ lw_gd := tb4 (List.mem_of_getElem? (i := 200) rfl) rfl
theorem k924 : Cond.selects RX1 yX1_start yX1_start ∈ lw_gd := tb4 (List.mem_of_getElem? (i := 204) rfl) rfl
theorem k928 : Cond.selects RX1 yX1_has yX1_has ∈ lw_gd := tb4 (List.mem_of_getElem? (i := 208) rfl) rfl
theorem k936 : Cond.selects RX1 yX1_kindOf yX1_kindOf ∈ lw_gd := tb4 (List.mem_of_getElem? (i := 216) rfl) rfl
theorem k961 : Cond.selects RX10 yX10_trace yX10_trace ∈ lw_gd := tb5 (List.mem_of_getElem? (i := 1) rfl) rfl
theorem k965 : Cond.selects RX1 yX1_traced yX1_traced ∈ lw_gd := tb5 (List.mem_of_getElem? (i := 5) rfl) rfl
theorem k969 : Cond.selects RX10 yX10_keep yX10_keep ∈ lw_gd := tb5 (List.mem_of_getElem? (i := 9) rfl) rfl
theorem k974 : Cond.selects RX8 yX8_holdBody yX8_holdBody ∈ lw_gd := tb5 (List.mem_of_getElem? (i := 14) rfl) rfl
theorem k978 : Cond.selects RX10 yX10_row yX10_row ∈ lw_gd := tb5 (List.mem_of_getElem? (i := 18) rfl) rfl
theorem k985 : Cond.selects RX8 yX8_holdRow yX8_holdRow ∈ lw_gd := tb5 (List.mem_of_getElem? (i := 25) rfl) rfl
theorem k991 : Cond.selects RX10 yX10_put yX10_put ∈ lw_gd := tb5 (List.mem_of_getElem? (i := 31) rfl) rfl
theorem k999 : Cond.selects RX8 yX8_holdsRow yX8_holdsRow ∈ lw_gd := tb5 (List.mem_of_getElem? (i := 39) rfl) rfl
theorem k1004 : Cond.selects RX8 yX8_setElement yX8_setElement ∈ lw_gd := tb5 (List.mem_of_getElem? (i := 44) rfl) rfl
theorem k1008 : Cond.selects RX10 yX10_element yX10_element ∈ lw_gd := tb5 (List.mem_of_getElem? (i := 48) rfl) rfl
theorem k1013 : Cond.selects RX10 yX10_shift yX10_shift ∈ lw_gd := tb5 (List.mem_of_getElem? (i := 53) rfl) rfl
theorem k1017 : Cond.selects RX8 yX8_sort yX8_sort ∈ lw_gd := tb5 (List.mem_of_getElem? (i := 57) rfl) rfl
theorem k1021 : Cond.selects RX8 yX8_copyFrom yX8_copyFrom ∈ lw_gd := tb5 (List.mem_of_getElem? (i := 61) rfl) rfl
theorem k1026 : Cond.selects RX10 yX10_taken yX10_taken ∈ lw_gd := tb5 (List.mem_of_getElem? (i := 66) rfl) rfl
theorem k1030 : Cond.selects RX8 yX8_bodyHeld yX8_bodyHeld ∈ lw_gd := tb5 (List.mem_of_getElem? (i := 70) rfl) rfl
theorem k1038 : Cond.selects RX10 yX10_count yX10_count ∈ lw_gd := tb5 (List.mem_of_getElem? (i := 78) rfl) rfl
theorem k1042 : Cond.selects RX1 yX1_ranCount yX1_ranCount ∈ lw_gd := tb5 (List.mem_of_getElem? (i := 82) rfl) rfl
theorem k1218 : Cond.selects RX11 yX11_undo yX11_undo ∈ lw_gd := tb6 (List.mem_of_getElem? (i := 18) rfl) rfl
theorem k1222 : Cond.selects RX11 yX11_redo yX11_redo ∈ lw_gd := tb6 (List.mem_of_getElem? (i := 22) rfl) rfl
theorem k1226 : Cond.selects RX11 yX11_feed yX11_feed ∈ lw_gd := tb6 (List.mem_of_getElem? (i := 26) rfl) rfl
theorem k1234 : Cond.selects RX11 yX11_choice yX11_choice ∈ lw_gd := tb6 (List.mem_of_getElem? (i := 34) rfl) rfl
theorem k1281 : Cond.selects RX11 yX11_head yX11_head ∈ lw_gd := tb6 (List.mem_of_getElem? (i := 81) rfl) rfl
theorem k1295 : Cond.selects RX11 yX11_of yX11_of ∈ lw_gd := tb6 (List.mem_of_getElem? (i := 95) rfl) rfl
theorem k1307 : Cond.selects RX11 yX11_turn yX11_turn ∈ lw_gd := tb6 (List.mem_of_getElem? (i := 107) rfl) rfl
theorem k1315 : Cond.selects RX11 yX11_ask yX11_ask ∈ lw_gd := tb6 (List.mem_of_getElem? (i := 115) rfl) rfl
theorem k1337 : Cond.selects RX11 yX11_way yX11_way ∈ lw_gd := tb6 (List.mem_of_getElem? (i := 137) rfl) rfl
theorem k1410 : Cond.selects RX11 yX11_step yX11_step ∈ lw_gd := tb6 (List.mem_of_getElem? (i := 210) rfl) rfl
theorem k1416 : Cond.selects RX11 yX11_chosen yX11_chosen ∈ lw_gd := tb6 (List.mem_of_getElem? (i := 216) rfl) rfl
theorem k1428 : Cond.selects RX11 yX11_answer yX11_answer ∈ lw_gd := tb6 (List.mem_of_getElem? (i := 228) rfl) rfl
theorem k1433 : Cond.selects RX11 yX11_quickest yX11_quickest ∈ lw_gd := tb6 (List.mem_of_getElem? (i := 233) rfl) rfl
theorem k1437 : Cond.selects RX11 yX11_table yX11_table ∈ lw_gd := tb6 (List.mem_of_getElem? (i := 237) rfl) rfl
theorem k1441 : Cond.selects RX11 yX11_see yX11_see ∈ lw_gd := tb7 (List.mem_of_getElem? (i := 1) rfl) rfl
theorem k1447 : Cond.selects RX11 yX11_asks yX11_asks ∈ lw_gd := tb7 (List.mem_of_getElem? (i := 7) rfl) rfl
theorem k1457 : Cond.selects RX11 yX11_seen yX11_seen ∈ lw_gd := tb7 (List.mem_of_getElem? (i := 17) rfl) rfl
theorem k1465 : Cond.selects RX11 yX11_fits yX11_fits ∈ lw_gd := tb7 (List.mem_of_getElem? (i := 25) rfl) rfl
theorem k1481 : Cond.selects RX11 yX11_best yX11_best ∈ lw_gd := tb7 (List.mem_of_getElem? (i := 41) rfl) rfl
theorem k1489 : Cond.selects RX11 yX11_slip yX11_slip ∈ lw_gd := tb7 (List.mem_of_getElem? (i := 49) rfl) rfl
theorem k1493 : Cond.selects RX11 yX11_suits yX11_suits ∈ lw_gd := tb7 (List.mem_of_getElem? (i := 53) rfl) rfl
theorem k1497 : Cond.selects RX11 yX11_tell yX11_tell ∈ lw_gd := tb7 (List.mem_of_getElem? (i := 57) rfl) rfl
theorem k1501 : Cond.selects RX11 yX11_untell yX11_untell ∈ lw_gd := tb7 (List.mem_of_getElem? (i := 61) rfl) rfl
theorem k1505 : Cond.selects RX11 yX11_parts yX11_parts ∈ lw_gd := tb7 (List.mem_of_getElem? (i := 65) rfl) rfl
theorem k1510 : Cond.selects RX11 yX11_taught yX11_taught ∈ lw_gd := tb7 (List.mem_of_getElem? (i := 70) rfl) rfl
theorem k1531 : Cond.selects RX11 yX11_first yX11_first ∈ lw_gd := tb7 (List.mem_of_getElem? (i := 91) rfl) rfl
theorem k1539 : Cond.selects RX11 yX11_root yX11_root ∈ lw_gd := tb7 (List.mem_of_getElem? (i := 99) rfl) rfl
theorem k1561 : Cond.selects RX11 yX11_firsts yX11_firsts ∈ lw_gd := tb7 (List.mem_of_getElem? (i := 121) rfl) rfl
theorem k1579 : Cond.selects RX11 yX11_enough yX11_enough ∈ lw_gd := tb7 (List.mem_of_getElem? (i := 139) rfl) rfl
theorem k1583 : Cond.selects RX11 yX11_body yX11_body ∈ lw_gd := tb7 (List.mem_of_getElem? (i := 143) rfl) rfl
theorem k1588 : Cond.selects RX11 yX11_act yX11_act ∈ lw_gd := tb7 (List.mem_of_getElem? (i := 148) rfl) rfl
theorem k1616 : Cond.selects RX11 yX11_trace yX11_trace ∈ lw_gd := tb7 (List.mem_of_getElem? (i := 176) rfl) rfl
theorem k1620 : Cond.selects RX11 yX11_keep yX11_keep ∈ lw_gd := tb7 (List.mem_of_getElem? (i := 180) rfl) rfl
theorem k1624 : Cond.selects RX11 yX11_row yX11_row ∈ lw_gd := tb7 (List.mem_of_getElem? (i := 184) rfl) rfl
theorem k1628 : Cond.selects RX11 yX11_put yX11_put ∈ lw_gd := tb7 (List.mem_of_getElem? (i := 188) rfl) rfl
theorem k1639 : Cond.selects RX11 yX11_element yX11_element ∈ lw_gd := tb7 (List.mem_of_getElem? (i := 199) rfl) rfl
theorem k1644 : Cond.selects RX11 yX11_shift yX11_shift ∈ lw_gd := tb7 (List.mem_of_getElem? (i := 204) rfl) rfl
theorem k1648 : Cond.selects RX11 yX11_taken yX11_taken ∈ lw_gd := tb7 (List.mem_of_getElem? (i := 208) rfl) rfl
theorem k1659 : Cond.selects RX11 yX11_count yX11_count ∈ lw_gd := tb7 (List.mem_of_getElem? (i := 219) rfl) rfl
theorem ks0 : Cond.selects RX10 yX10_isHead yX10_isHead ∈ lw_gd := ts1 (q := (yX10_isHead, 15)) (List.mem_of_getElem? (i := 0) rfl)
theorem ks1 : Cond.selects RX2 yX2_forgetOldest yX2_forgetOldest ∈ lw_gd := ts1 (q := (yX2_forgetOldest, 6)) (List.mem_of_getElem? (i := 1) rfl)
theorem ks2 : Cond.selects RX3 yX3_readLines yX3_readLines ∈ lw_gd := ts1 (q := (yX3_readLines, 8)) (List.mem_of_getElem? (i := 2) rfl)
theorem ks3 : Cond.selects RX3 yX3_readLine yX3_readLine ∈ lw_gd := ts1 (q := (yX3_readLine, 8)) (List.mem_of_getElem? (i := 3) rfl)
theorem ks4 : Cond.selects RX3 yX3_readAny yX3_readAny ∈ lw_gd := ts1 (q := (yX3_readAny, 8)) (List.mem_of_getElem? (i := 4) rfl)
theorem ks5 : Cond.selects RX3 yX3_readAll yX3_readAll ∈ lw_gd := ts1 (q := (yX3_readAll, 8)) (List.mem_of_getElem? (i := 5) rfl)
theorem ks6 : Cond.selects RX3 yX3_readCompared yX3_readCompared ∈ lw_gd := ts1 (q := (yX3_readCompared, 8)) (List.mem_of_getElem? (i := 6) rfl)
theorem ks7 : Cond.selects RX3 yX3_readSum yX3_readSum ∈ lw_gd := ts1 (q := (yX3_readSum, 8)) (List.mem_of_getElem? (i := 7) rfl)
theorem ks8 : Cond.selects RX3 yX3_readProduct yX3_readProduct ∈ lw_gd := ts1 (q := (yX3_readProduct, 8)) (List.mem_of_getElem? (i := 8) rfl)
theorem ks9 : Cond.selects RX3 yX3_readOperand yX3_readOperand ∈ lw_gd := ts1 (q := (yX3_readOperand, 8)) (List.mem_of_getElem? (i := 9) rfl)
theorem ks10 : Cond.selects RX3 yX3_readOpened yX3_readOpened ∈ lw_gd := ts1 (q := (yX3_readOpened, 8)) (List.mem_of_getElem? (i := 10) rfl)
theorem ks11 : Cond.selects RX3 yX3_goesOnWith yX3_goesOnWith ∈ lw_gd := ts1 (q := (yX3_goesOnWith, 8)) (List.mem_of_getElem? (i := 11) rfl)
theorem ks12 : Cond.selects RX3 yX3_write yX3_write ∈ lw_gd := ts1 (q := (yX3_write, 8)) (List.mem_of_getElem? (i := 12) rfl)
theorem ks13 : Cond.selects RX3 yX3_writeCode yX3_writeCode ∈ lw_gd := ts1 (q := (yX3_writeCode, 8)) (List.mem_of_getElem? (i := 13) rfl)
theorem ks14 : Cond.selects RX3 yX3_readNumber yX3_readNumber ∈ lw_gd := ts1 (q := (yX3_readNumber, 8)) (List.mem_of_getElem? (i := 14) rfl)
theorem ks15 : Cond.selects RX10 yX10_isHeadAndWay yX10_isHeadAndWay ∈ lw_gd := ts1 (q := (yX10_isHeadAndWay, 15)) (List.mem_of_getElem? (i := 15) rfl)
theorem ks16 : Cond.selects RX0 yX0_begin yX0_begin ∈ lw_gd := ts2 (q := (yX0_begin, 16)) (List.mem_of_getElem? (i := 0) rfl)
theorem ks17 : Cond.selects RX0 yX0_beginAnew yX0_beginAnew ∈ lw_gd := ts2 (q := (yX0_beginAnew, 16)) (List.mem_of_getElem? (i := 1) rfl)
theorem ks18 : Cond.selects RX5 yX5_placeOf yX5_placeOf ∈ lw_gd := ts2 (q := (yX5_placeOf, 4)) (List.mem_of_getElem? (i := 2) rfl)
theorem ks19 : Cond.selects RX0 yX0_goKnown yX0_goKnown ∈ lw_gd := ts2 (q := (yX0_goKnown, 16)) (List.mem_of_getElem? (i := 3) rfl)
theorem ks20 : Cond.selects RX0 yX0_run yX0_run ∈ lw_gd := ts2 (q := (yX0_run, 16)) (List.mem_of_getElem? (i := 4) rfl)
theorem ks21 : Cond.selects RX0 yX0_note yX0_note ∈ lw_gd := ts2 (q := (yX0_note, 16)) (List.mem_of_getElem? (i := 5) rfl)
theorem ks22 : Cond.selects RX0 yX0_goLeft yX0_goLeft ∈ lw_gd := ts2 (q := (yX0_goLeft, 16)) (List.mem_of_getElem? (i := 6) rfl)
theorem ks23 : Cond.selects RX0 yX0_lookAndAdd yX0_lookAndAdd ∈ lw_gd := ts2 (q := (yX0_lookAndAdd, 16)) (List.mem_of_getElem? (i := 7) rfl)
theorem ks24 : Cond.selects RX0 yX0_goRight yX0_goRight ∈ lw_gd := ts2 (q := (yX0_goRight, 16)) (List.mem_of_getElem? (i := 8) rfl)
theorem ks25 : Cond.selects RX0 yX0_holdRunning yX0_holdRunning ∈ lw_gd := ts2 (q := (yX0_holdRunning, 16)) (List.mem_of_getElem? (i := 9) rfl)
theorem ks26 : Cond.selects RX0 yX0_addRows yX0_addRows ∈ lw_gd := ts2 (q := (yX0_addRows, 16)) (List.mem_of_getElem? (i := 10) rfl)
theorem ks27 : Cond.selects RX0 yX0_letGo yX0_letGo ∈ lw_gd := ts2 (q := (yX0_letGo, 16)) (List.mem_of_getElem? (i := 11) rfl)
theorem ks28 : Cond.selects RX0 yX0_add yX0_add ∈ lw_gd := ts2 (q := (yX0_add, 16)) (List.mem_of_getElem? (i := 12) rfl)
theorem ks29 : Cond.selects RX0 yX0_goCrossed yX0_goCrossed ∈ lw_gd := ts2 (q := (yX0_goCrossed, 16)) (List.mem_of_getElem? (i := 13) rfl)
theorem ks30 : Cond.selects RX0 yX0_holdLastFigure yX0_holdLastFigure ∈ lw_gd := ts2 (q := (yX0_holdLastFigure, 16)) (List.mem_of_getElem? (i := 14) rfl)
theorem ks31 : Cond.selects RX0 yX0_goSquared yX0_goSquared ∈ lw_gd := ts2 (q := (yX0_goSquared, 16)) (List.mem_of_getElem? (i := 15) rfl)
theorem ks32 : Cond.selects RX0 yX0_goSplit yX0_goSplit ∈ lw_gd := ts3 (q := (yX0_goSplit, 16)) (List.mem_of_getElem? (i := 0) rfl)
theorem ks33 : Cond.selects RX10 yX10_reckonChosen yX10_reckonChosen ∈ lw_gd := ts3 (q := (yX10_reckonChosen, 15)) (List.mem_of_getElem? (i := 1) rfl)
theorem ks34 : Cond.selects RX3 yX3_pop yX3_pop ∈ lw_gd := ts3 (q := (yX3_pop, 8)) (List.mem_of_getElem? (i := 2) rfl)
theorem ks35 : Cond.selects RX3 yX3_workOut yX3_workOut ∈ lw_gd := ts3 (q := (yX3_workOut, 8)) (List.mem_of_getElem? (i := 3) rfl)
theorem ks36 : Cond.selects RX3 yX3_push yX3_push ∈ lw_gd := ts3 (q := (yX3_push, 8)) (List.mem_of_getElem? (i := 4) rfl)
theorem ks37 : Cond.selects RX0 yX0_slipDrawn yX0_slipDrawn ∈ lw_gd := ts3 (q := (yX0_slipDrawn, 16)) (List.mem_of_getElem? (i := 5) rfl)
theorem ks38 : Cond.selects RX10 yX10_comesFrom yX10_comesFrom ∈ lw_gd := ts3 (q := (yX10_comesFrom, 15)) (List.mem_of_getElem? (i := 6) rfl)
theorem ks39 : Cond.selects RX10 yX10_offOf yX10_offOf ∈ lw_gd := ts3 (q := (yX10_offOf, 15)) (List.mem_of_getElem? (i := 7) rfl)
theorem ks40 : Cond.selects RX10 yX10_fitsAll yX10_fitsAll ∈ lw_gd := ts3 (q := (yX10_fitsAll, 15)) (List.mem_of_getElem? (i := 8) rfl)
theorem ks41 : Cond.selects RX0 yX0_canSlip yX0_canSlip ∈ lw_gd := ts3 (q := (yX0_canSlip, 16)) (List.mem_of_getElem? (i := 9) rfl)
theorem ks42 : Cond.selects RX10 yX10_sumOfDifferences yX10_sumOfDifferences ∈ lw_gd := ts3 (q := (yX10_sumOfDifferences, 15)) (List.mem_of_getElem? (i := 10) rfl)
theorem ks43 : Cond.selects RX10 yX10_spreadOf yX10_spreadOf ∈ lw_gd := ts3 (q := (yX10_spreadOf, 15)) (List.mem_of_getElem? (i := 11) rfl)
theorem ks44 : Cond.selects RX10 yX10_allToldCanBeTaught yX10_allToldCanBeTaught ∈ lw_gd := ts3 (q := (yX10_allToldCanBeTaught, 15)) (List.mem_of_getElem? (i := 12) rfl)
theorem ks45 : Cond.selects RX10 yX10_prepareOrders yX10_prepareOrders ∈ lw_gd := ts3 (q := (yX10_prepareOrders, 15)) (List.mem_of_getElem? (i := 13) rfl)
theorem ks46 : Cond.selects RX10 yX10_orderAsDigits yX10_orderAsDigits ∈ lw_gd := ts3 (q := (yX10_orderAsDigits, 15)) (List.mem_of_getElem? (i := 14) rfl)
theorem ks47 : Cond.selects RX10 yX10_secondsOfOrder yX10_secondsOfOrder ∈ lw_gd := ts3 (q := (yX10_secondsOfOrder, 15)) (List.mem_of_getElem? (i := 15) rfl)
theorem ks48 : Cond.selects RX10 yX10_nextOrder yX10_nextOrder ∈ lw_gd := ts4 (q := (yX10_nextOrder, 15)) (List.mem_of_getElem? (i := 0) rfl)
theorem ks49 : Cond.selects RX10 yX10_swapPlaces yX10_swapPlaces ∈ lw_gd := ts4 (q := (yX10_swapPlaces, 15)) (List.mem_of_getElem? (i := 1) rfl)
theorem ks50 : Cond.selects RX2 yX2_apply yX2_apply ∈ lw_gd := ts4 (q := (yX2_apply, 6)) (List.mem_of_getElem? (i := 2) rfl)
theorem ks51 : Cond.selects RX1 yX1_own yX1_own ∈ lw_gd := ts4 (q := (yX1_own, 5)) (List.mem_of_getElem? (i := 3) rfl)
theorem ks52 : Cond.selects RX1 yX1_nearest yX1_nearest ∈ lw_gd := ts4 (q := (yX1_nearest, 5)) (List.mem_of_getElem? (i := 4) rfl)
theorem ks53 : Cond.selects RX1 yX1_run yX1_run ∈ lw_gd := ts4 (q := (yX1_run, 5)) (List.mem_of_getElem? (i := 5) rfl)
theorem ks54 : Cond.selects RX1 yX1_noteRun yX1_noteRun ∈ lw_gd := ts4 (q := (yX1_noteRun, 5)) (List.mem_of_getElem? (i := 6) rfl)
theorem ks55 : Cond.selects RX1 yX1_fromAbove yX1_fromAbove ∈ lw_gd := ts4 (q := (yX1_fromAbove, 5)) (List.mem_of_getElem? (i := 7) rfl)
theorem ks56 : Cond.selects RX10 yX10_refusalAt yX10_refusalAt ∈ lw_gd := ts4 (q := (yX10_refusalAt, 15)) (List.mem_of_getElem? (i := 8) rfl)
theorem ks57 : Cond.selects RX11 yX11_workOut yX11_workOut ∈ lw_gd := ts4 (q := (yX11_workOut, 55)) (List.mem_of_getElem? (i := 9) rfl)
theorem ks58 : Cond.selects RX11 yX11_either yX11_either ∈ lw_gd := ts4 (q := (yX11_either, 55)) (List.mem_of_getElem? (i := 10) rfl)
theorem ks59 : Cond.selects RX11 yX11_both yX11_both ∈ lw_gd := ts4 (q := (yX11_both, 55)) (List.mem_of_getElem? (i := 11) rfl)
theorem ks60 : Cond.selects RX11 yX11_compared yX11_compared ∈ lw_gd := ts4 (q := (yX11_compared, 55)) (List.mem_of_getElem? (i := 12) rfl)
theorem ks61 : Cond.selects RX11 yX11_sums yX11_sums ∈ lw_gd := ts4 (q := (yX11_sums, 55)) (List.mem_of_getElem? (i := 13) rfl)
theorem ks62 : Cond.selects RX11 yX11_product yX11_product ∈ lw_gd := ts4 (q := (yX11_product, 55)) (List.mem_of_getElem? (i := 14) rfl)
theorem ks63 : Cond.selects RX11 yX11_one yX11_one ∈ lw_gd := ts4 (q := (yX11_one, 55)) (List.mem_of_getElem? (i := 15) rfl)
theorem ks64 : Cond.selects RX11 yX11_byteAt yX11_byteAt ∈ lw_gd := ts5 (q := (yX11_byteAt, 55)) (List.mem_of_getElem? (i := 0) rfl)
theorem ks65 : Cond.selects RX11 yX11_wrong yX11_wrong ∈ lw_gd := ts5 (q := (yX11_wrong, 55)) (List.mem_of_getElem? (i := 1) rfl)
theorem ks66 : Cond.selects RX11 yX11_takes yX11_takes ∈ lw_gd := ts5 (q := (yX11_takes, 55)) (List.mem_of_getElem? (i := 2) rfl)
theorem ks67 : Cond.selects RX11 yX11_readOne yX11_readOne ∈ lw_gd := ts5 (q := (yX11_readOne, 55)) (List.mem_of_getElem? (i := 3) rfl)
theorem ks68 : Cond.selects RX11 yX11_isHead yX11_isHead ∈ lw_gd := ts5 (q := (yX11_isHead, 55)) (List.mem_of_getElem? (i := 4) rfl)
theorem ks69 : Cond.selects RX11 yX11_learntOf yX11_learntOf ∈ lw_gd := ts5 (q := (yX11_learntOf, 55)) (List.mem_of_getElem? (i := 5) rfl)
theorem ks70 : Cond.selects RX11 yX11_becomes yX11_becomes ∈ lw_gd := ts5 (q := (yX11_becomes, 55)) (List.mem_of_getElem? (i := 6) rfl)
theorem ks71 : Cond.selects RX11 yX11_askOf yX11_askOf ∈ lw_gd := ts5 (q := (yX11_askOf, 55)) (List.mem_of_getElem? (i := 7) rfl)
theorem ks72 : Cond.selects RX11 yX11_pairAt yX11_pairAt ∈ lw_gd := ts5 (q := (yX11_pairAt, 55)) (List.mem_of_getElem? (i := 8) rfl)
theorem ks73 : Cond.selects RX11 yX11_isHw yX11_isHw ∈ lw_gd := ts5 (q := (yX11_isHw, 55)) (List.mem_of_getElem? (i := 9) rfl)
theorem ks74 : Cond.selects RX11 yX11_layOut yX11_layOut ∈ lw_gd := ts5 (q := (yX11_layOut, 55)) (List.mem_of_getElem? (i := 10) rfl)
theorem ks75 : Cond.selects RX11 yX11_isKnown yX11_isKnown ∈ lw_gd := ts5 (q := (yX11_isKnown, 55)) (List.mem_of_getElem? (i := 11) rfl)
theorem ks76 : Cond.selects RX11 yX11_isLearnt yX11_isLearnt ∈ lw_gd := ts5 (q := (yX11_isLearnt, 55)) (List.mem_of_getElem? (i := 12) rfl)
theorem ks77 : Cond.selects RX11 yX11_acts yX11_acts ∈ lw_gd := ts5 (q := (yX11_acts, 55)) (List.mem_of_getElem? (i := 13) rfl)
theorem ks78 : Cond.selects RX11 yX11_goLeft yX11_goLeft ∈ lw_gd := ts5 (q := (yX11_goLeft, 55)) (List.mem_of_getElem? (i := 14) rfl)
theorem ks79 : Cond.selects RX11 yX11_lookAndAdd yX11_lookAndAdd ∈ lw_gd := ts5 (q := (yX11_lookAndAdd, 55)) (List.mem_of_getElem? (i := 15) rfl)
theorem ks80 : Cond.selects RX11 yX11_goRight yX11_goRight ∈ lw_gd := ts6 (q := (yX11_goRight, 55)) (List.mem_of_getElem? (i := 0) rfl)
theorem ks81 : Cond.selects RX11 yX11_holds yX11_holds ∈ lw_gd := ts6 (q := (yX11_holds, 55)) (List.mem_of_getElem? (i := 1) rfl)
theorem ks82 : Cond.selects RX11 yX11_goCrossed yX11_goCrossed ∈ lw_gd := ts6 (q := (yX11_goCrossed, 55)) (List.mem_of_getElem? (i := 2) rfl)
theorem ks83 : Cond.selects RX11 yX11_goSquared yX11_goSquared ∈ lw_gd := ts6 (q := (yX11_goSquared, 55)) (List.mem_of_getElem? (i := 3) rfl)
theorem ks84 : Cond.selects RX11 yX11_goSplit yX11_goSplit ∈ lw_gd := ts6 (q := (yX11_goSplit, 55)) (List.mem_of_getElem? (i := 4) rfl)
theorem ks85 : Cond.selects RX11 yX11_seconds yX11_seconds ∈ lw_gd := ts6 (q := (yX11_seconds, 55)) (List.mem_of_getElem? (i := 5) rfl)
theorem ks86 : Cond.selects RX11 yX11_mostHeld yX11_mostHeld ∈ lw_gd := ts6 (q := (yX11_mostHeld, 55)) (List.mem_of_getElem? (i := 6) rfl)
theorem ks87 : Cond.selects RX11 yX11_chosenBy yX11_chosenBy ∈ lw_gd := ts6 (q := (yX11_chosenBy, 55)) (List.mem_of_getElem? (i := 7) rfl)
theorem ks88 : Cond.selects RX11 yX11_offBy yX11_offBy ∈ lw_gd := ts6 (q := (yX11_offBy, 55)) (List.mem_of_getElem? (i := 8) rfl)
theorem ks89 : Cond.selects RX11 yX11_doesFit yX11_doesFit ∈ lw_gd := ts6 (q := (yX11_doesFit, 55)) (List.mem_of_getElem? (i := 9) rfl)
theorem ks90 : Cond.selects RX11 yX11_slipsOf yX11_slipsOf ∈ lw_gd := ts6 (q := (yX11_slipsOf, 55)) (List.mem_of_getElem? (i := 10) rfl)
theorem ks91 : Cond.selects RX11 yX11_canSlip yX11_canSlip ∈ lw_gd := ts6 (q := (yX11_canSlip, 55)) (List.mem_of_getElem? (i := 11) rfl)
theorem ks92 : Cond.selects RX11 yX11_offSum yX11_offSum ∈ lw_gd := ts6 (q := (yX11_offSum, 55)) (List.mem_of_getElem? (i := 12) rfl)
theorem ks93 : Cond.selects RX11 yX11_isListBad yX11_isListBad ∈ lw_gd := ts6 (q := (yX11_isListBad, 55)) (List.mem_of_getElem? (i := 13) rfl)
theorem ks94 : Cond.selects RX11 yX11_keeps yX11_keeps ∈ lw_gd := ts6 (q := (yX11_keeps, 55)) (List.mem_of_getElem? (i := 14) rfl)
theorem ks95 : Cond.selects RX11 yX11_asksOne yX11_asksOne ∈ lw_gd := ts6 (q := (yX11_asksOne, 55)) (List.mem_of_getElem? (i := 15) rfl)
theorem ks96 : Cond.selects RX11 yX11_putsBack yX11_putsBack ∈ lw_gd := ts7 (q := (yX11_putsBack, 55)) (List.mem_of_getElem? (i := 0) rfl)
theorem ks97 : Cond.selects RX11 yX11_ordersFrom yX11_ordersFrom ∈ lw_gd := ts7 (q := (yX11_ordersFrom, 55)) (List.mem_of_getElem? (i := 1) rfl)
theorem ks98 : Cond.selects RX11 yX11_manyFirsts yX11_manyFirsts ∈ lw_gd := ts7 (q := (yX11_manyFirsts, 55)) (List.mem_of_getElem? (i := 2) rfl)
theorem ks99 : Cond.selects RX11 yX11_isBody yX11_isBody ∈ lw_gd := ts7 (q := (yX11_isBody, 55)) (List.mem_of_getElem? (i := 3) rfl)
theorem ks100 : Cond.selects RX11 yX11_costsAs yX11_costsAs ∈ lw_gd := ts7 (q := (yX11_costsAs, 55)) (List.mem_of_getElem? (i := 4) rfl)
theorem ks101 : Cond.selects RX11 yX11_begins yX11_begins ∈ lw_gd := ts7 (q := (yX11_begins, 55)) (List.mem_of_getElem? (i := 5) rfl)
theorem ks102 : Cond.selects RX11 yX11_keepsAs yX11_keepsAs ∈ lw_gd := ts7 (q := (yX11_keepsAs, 55)) (List.mem_of_getElem? (i := 6) rfl)
theorem ks103 : Cond.selects RX11 yX11_slipsAs yX11_slipsAs ∈ lw_gd := ts7 (q := (yX11_slipsAs, 55)) (List.mem_of_getElem? (i := 7) rfl)
theorem ks104 : Cond.selects RX11 yX11_tellsAs yX11_tellsAs ∈ lw_gd := ts7 (q := (yX11_tellsAs, 55)) (List.mem_of_getElem? (i := 8) rfl)
theorem ks105 : Cond.selects RX11 yX11_refusal yX11_refusal ∈ lw_gd := ts7 (q := (yX11_refusal, 55)) (List.mem_of_getElem? (i := 9) rfl)
theorem ks106 : Cond.selects RX11 yX11_kindOf yX11_kindOf ∈ lw_gd := ts7 (q := (yX11_kindOf, 55)) (List.mem_of_getElem? (i := 10) rfl)
/-- the words of a method that is called on an object of its own class -/
def wdV (y : MethodName) (bz : ByteArray) (mz : Nat) (ret : Option FieldType) (n : Nat) : Prop := Cond.instanceMethod y ∈ lw_gd ∧ Cond.selects y.cls y y ∈ lw_gd ∧ Cond.initialized y.cls ∈ lw_gd ∧ Cond.code y bz mz ret ∈ lw_gd ∧ (y.cls ≠ "java/lang/invoke/MethodHandle" ∧ y.cls ≠ "java/lang/invoke/VarHandle" ∧ (parseMethodDescriptor y.desc).map (fun d => d.parameters.length) = some n) ∧ plainName y.cls = true
def wdS (y : MethodName) (bz : ByteArray) (mz : Nat) (ret : Option FieldType) (n : Nat) : Prop := Cond.static y ∈ lw_gd ∧ Cond.initialized y.cls ∈ lw_gd ∧ Cond.code y bz mz ret ∈ lw_gd ∧ (y.cls ≠ "java/lang/invoke/MethodHandle" ∧ y.cls ≠ "java/lang/invoke/VarHandle" ∧ (parseMethodDescriptor y.desc).map (fun d => d.parameters.length) = some n) ∧ plainName y.cls = true
theorem wX0_size : wdV yX0_size cX0_size 1 (some .int) 0 := ⟨k560, k561, k5, k562, by decide +kernel, by decide +kernel⟩
theorem wX0_seconds : wdV yX0_seconds cX0_seconds 1 (some .int) 0 := ⟨k552, k553, k5, k554, by decide +kernel, by decide +kernel⟩
theorem wX0_holds : wdV yX0_holds cX0_holds 1 (some .int) 0 := ⟨k556, k557, k5, k558, by decide +kernel, by decide +kernel⟩
theorem wX0_told : wdV yX0_told cX0_told 3 (some .int) 2 := ⟨k569, k570, k5, k571, by decide +kernel, by decide +kernel⟩
theorem wX0_reckon : wdV yX0_reckon cX0_reckon 6 (some .boolean) 3 := ⟨k453, k454, k5, k455, by decide +kernel, by decide +kernel⟩
theorem wX0_begin : wdV yX0_begin cX0_begin 2 none 1 := ⟨k458, ks16, k5, k459, by decide +kernel, by decide +kernel⟩
theorem wX0_beginAnew : wdV yX0_beginAnew cX0_beginAnew 1 none 0 := ⟨k463, ks17, k5, k464, by decide +kernel, by decide +kernel⟩
theorem wX0_goKnown : wdV yX0_goKnown cX0_goKnown 3 (some .boolean) 2 := ⟨k475, ks19, k5, k476, by decide +kernel, by decide +kernel⟩
theorem wX0_goLeft : wdV yX0_goLeft cX0_goLeft 6 (some .boolean) 2 := ⟨k490, ks22, k5, k491, by decide +kernel, by decide +kernel⟩
theorem wX0_goRight : wdV yX0_goRight cX0_goRight 6 (some .boolean) 2 := ⟨k511, ks24, k5, k512, by decide +kernel, by decide +kernel⟩
theorem wX0_addRows : wdV yX0_addRows cX0_addRows 3 none 1 := ⟨k519, ks26, k5, k520, by decide +kernel, by decide +kernel⟩
theorem wX0_goCrossed : wdV yX0_goCrossed cX0_goCrossed 6 (some .boolean) 2 := ⟨k531, ks29, k5, k532, by decide +kernel, by decide +kernel⟩
theorem wX0_goSquared : wdV yX0_goSquared cX0_goSquared 6 (some .boolean) 2 := ⟨k542, ks31, k5, k543, by decide +kernel, by decide +kernel⟩
theorem wX0_goSplit : wdV yX0_goSplit cX0_goSplit 6 (some .boolean) 3 := ⟨k549, ks32, k5, k550, by decide +kernel, by decide +kernel⟩
theorem wX0_lookAndAdd : wdV yX0_lookAndAdd cX0_lookAndAdd 7 none 4 := ⟨k507, ks23, k5, k508, by decide +kernel, by decide +kernel⟩
theorem wX0_add : wdV yX0_add cX0_add 3 none 2 := ⟨k527, ks28, k5, k528, by decide +kernel, by decide +kernel⟩
theorem wX0_run : wdV yX0_run cX0_run 3 none 1 := ⟨k479, ks20, k5, k480, by decide +kernel, by decide +kernel⟩
theorem wX0_holdRunning : wdV yX0_holdRunning cX0_holdRunning 3 none 0 := ⟨k515, ks25, k5, k516, by decide +kernel, by decide +kernel⟩
theorem wX0_holdLastFigure : wdV yX0_holdLastFigure cX0_holdLastFigure 2 none 0 := ⟨k535, ks30, k5, k536, by decide +kernel, by decide +kernel⟩
theorem wX0_letGo : wdV yX0_letGo cX0_letGo 2 none 1 := ⟨k523, ks27, k5, k524, by decide +kernel, by decide +kernel⟩
theorem wX0_note : wdV yX0_note cX0_note 5 none 4 := ⟨k486, ks21, k5, k487, by decide +kernel, by decide +kernel⟩
theorem wX0_slipsDrawn : wdV yX0_slipsDrawn cX0_slipsDrawn 7 (some .int) 2 := ⟨k622, k623, k5, k624, by decide +kernel, by decide +kernel⟩
theorem wX0_slipDrawn : wdV yX0_slipDrawn cX0_slipDrawn 4 (some .int) 2 := ⟨k628, ks37, k5, k629, by decide +kernel, by decide +kernel⟩
theorem wX0_canSlip : wdV yX0_canSlip cX0_canSlip 4 (some .boolean) 2 := ⟨k727, ks41, k5, k728, by decide +kernel, by decide +kernel⟩
theorem wX0_firstThatCan : wdV yX0_firstThatCan cX0_firstThatCan 3 (some .int) 1 := ⟨k722, k723, k5, k724, by decide +kernel, by decide +kernel⟩
theorem wX0_howManyCan : wdV yX0_howManyCan cX0_howManyCan 4 (some .int) 1 := ⟨k743, k744, k5, k745, by decide +kernel, by decide +kernel⟩
theorem wX1_isKind : wdS yX1_isKind cX1_isKind 1 (some .boolean) 1 := ⟨k908, k8, k909, by decide +kernel, by decide +kernel⟩
theorem wX1_isUnder : wdS yX1_isUnder cX1_isUnder 4 (some .boolean) 2 := ⟨k1034, k8, k1035, by decide +kernel, by decide +kernel⟩
theorem wX1_size : wdV yX1_size cX1_size 1 (some .int) 0 := ⟨k915, k916, k8, k917, by decide +kernel, by decide +kernel⟩
theorem wX1_ranCount : wdV yX1_ranCount cX1_ranCount 1 (some .int) 0 := ⟨k1041, k1042, k8, k1043, by decide +kernel, by decide +kernel⟩
theorem wX1_has : wdV yX1_has cX1_has 2 (some .boolean) 1 := ⟨k927, k928, k8, k929, by decide +kernel, by decide +kernel⟩
theorem wX1_kindOf : wdV yX1_kindOf cX1_kindOf 2 (some .int) 1 := ⟨k935, k936, k8, k937, by decide +kernel, by decide +kernel⟩
theorem wX1_takes : wdV yX1_takes cX1_takes 2 (some .boolean) 1 := ⟨k911, k912, k8, k913, by decide +kernel, by decide +kernel⟩
theorem wX1_traced : wdV yX1_traced cX1_traced 2 (some .int) 1 := ⟨k964, k965, k8, k966, by decide +kernel, by decide +kernel⟩
theorem wX1_start : wdV yX1_start cX1_start 4 (some .int) 3 := ⟨k923, k924, k8, k925, by decide +kernel, by decide +kernel⟩
theorem wX1_own : wdV yX1_own cX1_own 4 (some .int) 3 := ⟨k932, ks51, k8, k933, by decide +kernel, by decide +kernel⟩
theorem wX1_fromAbove : wdV yX1_fromAbove cX1_fromAbove 5 (some .int) 4 := ⟨k955, ks55, k8, k956, by decide +kernel, by decide +kernel⟩
theorem wX1_nearest : wdV yX1_nearest cX1_nearest 8 (some .int) 4 := ⟨k940, ks52, k8, k941, by decide +kernel, by decide +kernel⟩
theorem wX1_run : wdV yX1_run cX1_run 4 (some .int) 3 := ⟨k947, ks53, k8, k948, by decide +kernel, by decide +kernel⟩
theorem wX1_noteRun : wdV yX1_noteRun cX1_noteRun 2 none 1 := ⟨k951, ks54, k8, k952, by decide +kernel, by decide +kernel⟩
theorem wX2_undoable : wdV yX2_undoable cX2_undoable 1 (some .int) 0 := ⟨k879, k880, k7, k881, by decide +kernel, by decide +kernel⟩
theorem wX2_redoable : wdV yX2_redoable cX2_redoable 1 (some .int) 0 := ⟨k896, k897, k7, k898, by decide +kernel, by decide +kernel⟩
theorem wX2_came : wdV yX2_came cX2_came 5 none 4 := ⟨k354, k355, k7, k356, by decide +kernel, by decide +kernel⟩
theorem wX2_forgetOldest : wdV yX2_forgetOldest cX2_forgetOldest 1 none 0 := ⟨k359, ks1, k7, k360, by decide +kernel, by decide +kernel⟩
theorem wX2_stepBack : wdV yX2_stepBack cX2_stepBack 2 none 1 := ⟨k883, k884, k7, k885, by decide +kernel, by decide +kernel⟩
theorem wX2_stepOn : wdV yX2_stepOn cX2_stepOn 2 none 1 := ⟨k900, k901, k7, k902, by decide +kernel, by decide +kernel⟩
theorem wX2_apply : wdV yX2_apply cX2_apply 4 none 3 := ⟨k888, ks50, k7, k889, by decide +kernel, by decide +kernel⟩
theorem wX3_read : wdV yX3_read cX3_read 2 (some .int) 1 := ⟨k371, k372, k4, k373, by decide +kernel, by decide +kernel⟩
theorem wX3_readLines : wdV yX3_readLines cX3_readLines 2 (some .boolean) 0 := ⟨k381, ks2, k4, k382, by decide +kernel, by decide +kernel⟩
theorem wX3_readLine : wdV yX3_readLine cX3_readLine 1 (some .boolean) 0 := ⟨k386, ks3, k4, k387, by decide +kernel, by decide +kernel⟩
theorem wX3_readAny : wdV yX3_readAny cX3_readAny 3 (some .boolean) 1 := ⟨k390, ks4, k4, k391, by decide +kernel, by decide +kernel⟩
theorem wX3_readAll : wdV yX3_readAll cX3_readAll 3 (some .boolean) 1 := ⟨k394, ks5, k4, k395, by decide +kernel, by decide +kernel⟩
theorem wX3_readCompared : wdV yX3_readCompared cX3_readCompared 3 (some .boolean) 1 := ⟨k398, ks6, k4, k399, by decide +kernel, by decide +kernel⟩
theorem wX3_readSum : wdV yX3_readSum cX3_readSum 4 (some .boolean) 1 := ⟨k402, ks7, k4, k403, by decide +kernel, by decide +kernel⟩
theorem wX3_readProduct : wdV yX3_readProduct cX3_readProduct 4 (some .boolean) 1 := ⟨k406, ks8, k4, k407, by decide +kernel, by decide +kernel⟩
theorem wX3_readOperand : wdV yX3_readOperand cX3_readOperand 3 (some .boolean) 1 := ⟨k410, ks9, k4, k411, by decide +kernel, by decide +kernel⟩
theorem wX3_readOpened : wdV yX3_readOpened cX3_readOpened 3 (some .boolean) 1 := ⟨k415, ks10, k4, k416, by decide +kernel, by decide +kernel⟩
theorem wX3_readNumber : wdV yX3_readNumber cX3_readNumber 3 none 0 := ⟨k432, ks14, k4, k433, by decide +kernel, by decide +kernel⟩
theorem wX3_goesOnWith : wdV yX3_goesOnWith cX3_goesOnWith 2 (some .boolean) 1 := ⟨k419, ks11, k4, k420, by decide +kernel, by decide +kernel⟩
theorem wX3_write : wdV yX3_write cX3_write 2 none 1 := ⟨k423, ks12, k4, k424, by decide +kernel, by decide +kernel⟩
theorem wX3_writeCode : wdV yX3_writeCode cX3_writeCode 2 none 1 := ⟨k427, ks13, k4, k428, by decide +kernel, by decide +kernel⟩
theorem wX3_isName : wdS yX3_isName cX3_isName 1 (some .boolean) 1 := ⟨k435, k4, k436, by decide +kernel, by decide +kernel⟩
theorem wX3_numberFor : wdV yX3_numberFor cX3_numberFor 6 (some .int) 2 := ⟨k582, k583, k4, k584, by decide +kernel, by decide +kernel⟩
theorem wX3_workOut : wdV yX3_workOut cX3_workOut 6 none 3 := ⟨k591, ks35, k4, k592, by decide +kernel, by decide +kernel⟩
theorem wX3_valueOf : wdS yX3_valueOf cX3_valueOf 4 (some .int) 4 := ⟨k598, k4, k599, by decide +kernel, by decide +kernel⟩
theorem wX3_joined : wdS yX3_joined cX3_joined 3 (some .int) 3 := ⟨k611, k4, k612, by decide +kernel, by decide +kernel⟩
theorem wX3_push : wdV yX3_push cX3_push 2 none 1 := ⟨k595, ks36, k4, k596, by decide +kernel, by decide +kernel⟩
theorem wX3_pop : wdV yX3_pop cX3_pop 1 (some .int) 0 := ⟨k587, ks34, k4, k588, by decide +kernel, by decide +kernel⟩
theorem wX4_tenTo : wdS yX4_tenTo cX4_tenTo 1 (some .int) 1 := ⟨k498, k11, k499, by decide +kernel, by decide +kernel⟩
theorem wX4_longTenTo : wdS yX4_longTenTo cX4_longTenTo 1 (some .long) 1 := ⟨k858, k11, k859, by decide +kernel, by decide +kernel⟩
theorem wX4_sizeOf : wdS yX4_sizeOf cX4_sizeOf 3 (some .int) 1 := ⟨k493, k11, k494, by decide +kernel, by decide +kernel⟩
theorem wX4_figureAt : wdS yX4_figureAt cX4_figureAt 2 (some .int) 2 := ⟨k503, k11, k504, by decide +kernel, by decide +kernel⟩
theorem wX4_noughtsIn : wdS yX4_noughtsIn cX4_noughtsIn 3 (some .int) 1 := ⟨k603, k11, k604, by decide +kernel, by decide +kernel⟩
theorem wX4_isDigit : wdS yX4_isDigit cX4_isDigit 1 (some .boolean) 1 := ⟨k308, k11, k309, by decide +kernel, by decide +kernel⟩
theorem wX5_mayBe : wdS yX5_mayBe cX5_mayBe 2 (some .boolean) 2 := ⟨k314, k3, k315, by decide +kernel, by decide +kernel⟩
theorem wX5_read : wdV yX5_read cX5_read 6 (some .int) 1 := ⟨k295, k296, k3, k297, by decide +kernel, by decide +kernel⟩
theorem wX5_digitsAt : wdS yX5_digitsAt cX5_digitsAt 3 (some .int) 2 := ⟨k305, k3, k306, by decide +kernel, by decide +kernel⟩
theorem wX5_valueAt : wdS yX5_valueAt cX5_valueAt 5 (some .int) 3 := ⟨k311, k3, k312, by decide +kernel, by decide +kernel⟩
theorem wX5_become : wdV yX5_become cX5_become 2 none 1 := ⟨k326, k327, k3, k328, by decide +kernel, by decide +kernel⟩
theorem wX5_number : wdV yX5_number cX5_number 2 (some .int) 1 := ⟨k345, k346, k3, k347, by decide +kernel, by decide +kernel⟩
theorem wX5_setNumber : wdV yX5_setNumber cX5_setNumber 3 none 2 := ⟨k363, k364, k3, k365, by decide +kernel, by decide +kernel⟩
theorem wX5_capacity : wdV yX5_capacity cX5_capacity 1 (some .int) 0 := ⟨k607, k608, k3, k609, by decide +kernel, by decide +kernel⟩
theorem wX5_looksUp : wdV yX5_looksUp cX5_looksUp 3 (some .boolean) 1 := ⟨k466, k467, k3, k468, by decide +kernel, by decide +kernel⟩
theorem wX5_learntCount : wdV yX5_learntCount cX5_learntCount 3 (some .int) 0 := ⟨k341, k342, k3, k343, by decide +kernel, by decide +kernel⟩
theorem wX5_hear : wdV yX5_hear cX5_hear 3 (some .int) 1 := ⟨k773, k774, k3, k775, by decide +kernel, by decide +kernel⟩
theorem wX5_placeOf : wdV yX5_placeOf cX5_placeOf 4 (some .int) 1 := ⟨k471, ks18, k3, k472, by decide +kernel, by decide +kernel⟩
theorem wX6_isNumber : wdS yX6_isNumber cX6_isNumber 2 (some .boolean) 1 := ⟨k817, k14, k818, by decide +kernel, by decide +kernel⟩
theorem wX6_isPower : wdS yX6_isPower cX6_isPower 1 (some .boolean) 1 := ⟨k821, k14, k822, by decide +kernel, by decide +kernel⟩
theorem wX6_mostRoot : wdS yX6_mostRoot cX6_mostRoot 1 (some .long) 1 := ⟨k830, k14, k831, by decide +kernel, by decide +kernel⟩
theorem wX6_raised : wdS yX6_raised cX6_raised 6 (some .long) 2 := ⟨k837, k14, k838, by decide +kernel, by decide +kernel⟩
theorem wX6_cutRoot : wdS yX6_cutRoot cX6_cutRoot 10 (some .long) 2 := ⟨k827, k14, k828, by decide +kernel, by decide +kernel⟩
theorem wX6_whole : wdS yX6_whole cX6_whole 5 (some .long) 2 := ⟨k824, k14, k825, by decide +kernel, by decide +kernel⟩
theorem wX6_leastWithFirsts : wdS yX6_leastWithFirsts cX6_leastWithFirsts 5 (some .long) 2 := ⟨k851, k14, k852, by decide +kernel, by decide +kernel⟩
theorem wX6_unitOf : wdS yX6_unitOf cX6_unitOf 3 (some .long) 2 := ⟨k854, k14, k855, by decide +kernel, by decide +kernel⟩
theorem wX6_fromRoot : wdS yX6_fromRoot cX6_fromRoot 4 (some .long) 3 := ⟨k848, k14, k849, by decide +kernel, by decide +kernel⟩
theorem wX6_toRoot : wdS yX6_toRoot cX6_toRoot 4 (some .long) 3 := ⟨k861, k14, k862, by decide +kernel, by decide +kernel⟩
theorem wX6_endsAlike : wdS yX6_endsAlike cX6_endsAlike 5 (some .boolean) 3 := ⟨k865, k14, k866, by decide +kernel, by decide +kernel⟩
theorem wX6_howMany : wdS yX6_howMany cX6_howMany 12 (some .long) 3 := ⟨k845, k14, k846, by decide +kernel, by decide +kernel⟩
theorem wX6_least : wdS yX6_least cX6_least 10 (some .long) 3 := ⟨k868, k14, k869, by decide +kernel, by decide +kernel⟩
theorem wX7_mayBe : wdS yX7_mayBe cX7_mayBe 2 (some .boolean) 2 := ⟨k643, k6, k644, by decide +kernel, by decide +kernel⟩
theorem wX7_size : wdV yX7_size cX7_size 1 (some .int) 0 := ⟨k652, k653, k6, k654, by decide +kernel, by decide +kernel⟩
theorem wX7_has : wdV yX7_has cX7_has 2 (some .boolean) 1 := ⟨k693, k694, k6, k695, by decide +kernel, by decide +kernel⟩
theorem wX7_takes : wdV yX7_takes cX7_takes 4 (some .boolean) 3 := ⟨k648, k649, k6, k650, by decide +kernel, by decide +kernel⟩
theorem wX7_pair : wdV yX7_pair cX7_pair 2 (some .int) 1 := ⟨k697, k698, k6, k699, by decide +kernel, by decide +kernel⟩
theorem wX7_tenths : wdV yX7_tenths cX7_tenths 2 (some .int) 1 := ⟨k702, k703, k6, k704, by decide +kernel, by decide +kernel⟩
theorem wX7_answerOf : wdV yX7_answerOf cX7_answerOf 2 (some .int) 1 := ⟨k710, k711, k6, k712, by decide +kernel, by decide +kernel⟩
theorem wX8_isSort : wdS yX8_isSort cX8_isSort 1 (some .boolean) 1 := ⟨k981, k9, k982, by decide +kernel, by decide +kernel⟩
theorem wX8_isEmpty : wdV yX8_isEmpty cX8_isEmpty 1 (some .boolean) 0 := ⟨k663, k664, k9, k665, by decide +kernel, by decide +kernel⟩
theorem wX8_holdsRow : wdV yX8_holdsRow cX8_holdsRow 1 (some .boolean) 0 := ⟨k998, k999, k9, k1000, by decide +kernel, by decide +kernel⟩
theorem wX8_holdsInts : wdV yX8_holdsInts cX8_holdsInts 1 (some .boolean) 0 := ⟨k667, k668, k9, k669, by decide +kernel, by decide +kernel⟩
theorem wX8_bodyHeld : wdV yX8_bodyHeld cX8_bodyHeld 1 (some .int) 0 := ⟨k1029, k1030, k9, k1031, by decide +kernel, by decide +kernel⟩
theorem wX8_sort : wdV yX8_sort cX8_sort 1 (some .int) 0 := ⟨k1016, k1017, k9, k1018, by decide +kernel, by decide +kernel⟩
theorem wX8_size : wdV yX8_size cX8_size 1 (some .int) 0 := ⟨k677, k678, k9, k679, by decide +kernel, by decide +kernel⟩
theorem wX8_holdBody : wdV yX8_holdBody cX8_holdBody 2 none 1 := ⟨k973, k974, k9, k975, by decide +kernel, by decide +kernel⟩
theorem wX8_holdRow : wdV yX8_holdRow cX8_holdRow 4 none 2 := ⟨k984, k985, k9, k986, by decide +kernel, by decide +kernel⟩
theorem wX8_hasPlaces : wdV yX8_hasPlaces cX8_hasPlaces 3 (some .boolean) 2 := ⟨k685, k686, k9, k687, by decide +kernel, by decide +kernel⟩
theorem wX8_elementAt : wdV yX8_elementAt cX8_elementAt 2 (some .long) 1 := ⟨k681, k682, k9, k683, by decide +kernel, by decide +kernel⟩
theorem wX8_setElement : wdV yX8_setElement cX8_setElement 4 none 2 := ⟨k1003, k1004, k9, k1005, by decide +kernel, by decide +kernel⟩
theorem wX8_copyFrom : wdV yX8_copyFrom cX8_copyFrom 5 none 4 := ⟨k1020, k1021, k9, k1022, by decide +kernel, by decide +kernel⟩
theorem wX9_length : wdV yX9_length cX9_length 1 (some .int) 0 := ⟨k287, k288, k2, k289, by decide +kernel, by decide +kernel⟩
theorem wX9_clear : wdV yX9_clear cX9_clear 1 none 0 := ⟨k322, k323, k2, k324, by decide +kernel, by decide +kernel⟩
theorem wX9_become : wdV yX9_become cX9_become 2 none 1 := ⟨k375, k376, k2, k377, by decide +kernel, by decide +kernel⟩
theorem wX9_takes : wdV yX9_takes cX9_takes 4 (some .boolean) 2 := ⟨k283, k284, k2, k285, by decide +kernel, by decide +kernel⟩
theorem wX9_at : wdV yX9_at cX9_at 2 (some .int) 1 := ⟨k299, k300, k2, k301, by decide +kernel, by decide +kernel⟩
theorem wX10_feed : wdV yX10_feed cX10_feed 3 (some .int) 2 := ⟨k279, k280, k1, k281, by decide +kernel, by decide +kernel⟩
theorem wX10_head : wdV yX10_head cX10_head 2 (some .int) 0 := ⟨k291, k292, k1, k293, by decide +kernel, by decide +kernel⟩
theorem wX10_of : wdV yX10_of cX10_of 3 (some .int) 2 := ⟨k333, k334, k1, k335, by decide +kernel, by decide +kernel⟩
theorem wX10_turn : wdV yX10_turn cX10_turn 5 (some .int) 3 := ⟨k349, k350, k1, k351, by decide +kernel, by decide +kernel⟩
theorem wX10_choice : wdV yX10_choice cX10_choice 2 (some .int) 0 := ⟨k367, k368, k1, k369, by decide +kernel, by decide +kernel⟩
theorem wX10_way : wdV yX10_way cX10_way 4 (some .int) 3 := ⟨k439, k440, k1, k441, by decide +kernel, by decide +kernel⟩
theorem wX10_step : wdV yX10_step cX10_step 5 (some .int) 4 := ⟨k564, k565, k1, k566, by decide +kernel, by decide +kernel⟩
theorem wX10_chosen : wdV yX10_chosen cX10_chosen 3 (some .int) 2 := ⟨k574, k575, k1, k576, by decide +kernel, by decide +kernel⟩
theorem wX10_answer : wdV yX10_answer cX10_answer 5 (some .int) 3 := ⟨k614, k615, k1, k616, by decide +kernel, by decide +kernel⟩
theorem wX10_quickest : wdV yX10_quickest cX10_quickest 7 (some .int) 3 := ⟨k631, k632, k1, k633, by decide +kernel, by decide +kernel⟩
theorem wX10_table : wdV yX10_table cX10_table 5 (some .int) 3 := ⟨k635, k636, k1, k637, by decide +kernel, by decide +kernel⟩
theorem wX10_see : wdV yX10_see cX10_see 4 (some .int) 3 := ⟨k639, k640, k1, k641, by decide +kernel, by decide +kernel⟩
theorem wX10_asks : wdV yX10_asks cX10_asks 6 (some .int) 3 := ⟨k656, k657, k1, k658, by decide +kernel, by decide +kernel⟩
theorem wX10_seen : wdV yX10_seen cX10_seen 3 (some .int) 2 := ⟨k689, k690, k1, k691, by decide +kernel, by decide +kernel⟩
theorem wX10_fits : wdV yX10_fits cX10_fits 5 (some .int) 2 := ⟨k714, k715, k1, k716, by decide +kernel, by decide +kernel⟩
theorem wX10_best : wdV yX10_best cX10_best 7 (some .int) 2 := ⟨k731, k732, k1, k733, by decide +kernel, by decide +kernel⟩
theorem wX10_slip : wdV yX10_slip cX10_slip 5 (some .int) 3 := ⟨k739, k740, k1, k741, by decide +kernel, by decide +kernel⟩
theorem wX10_suits : wdV yX10_suits cX10_suits 6 (some .int) 1 := ⟨k747, k748, k1, k749, by decide +kernel, by decide +kernel⟩
theorem wX10_tell : wdV yX10_tell cX10_tell 2 (some .int) 1 := ⟨k751, k752, k1, k753, by decide +kernel, by decide +kernel⟩
theorem wX10_untell : wdV yX10_untell cX10_untell 2 (some .int) 0 := ⟨k755, k756, k1, k757, by decide +kernel, by decide +kernel⟩
theorem wX10_parts : wdV yX10_parts cX10_parts 8 (some .int) 3 := ⟨k759, k760, k1, k761, by decide +kernel, by decide +kernel⟩
theorem wX10_ask : wdV yX10_ask cX10_ask 3 (some .int) 2 := ⟨k769, k770, k1, k771, by decide +kernel, by decide +kernel⟩
theorem wX10_taught : wdV yX10_taught cX10_taught 7 (some .int) 3 := ⟨k780, k781, k1, k782, by decide +kernel, by decide +kernel⟩
theorem wX10_first : wdV yX10_first cX10_first 8 (some .int) 2 := ⟨k789, k790, k1, k791, by decide +kernel, by decide +kernel⟩
theorem wX10_root : wdV yX10_root cX10_root 4 (some .int) 2 := ⟨k813, k814, k1, k815, by decide +kernel, by decide +kernel⟩
theorem wX10_firsts : wdV yX10_firsts cX10_firsts 7 (some .int) 3 := ⟨k840, k841, k1, k842, by decide +kernel, by decide +kernel⟩
theorem wX10_enough : wdV yX10_enough cX10_enough 6 (some .int) 2 := ⟨k871, k872, k1, k873, by decide +kernel, by decide +kernel⟩
theorem wX10_undo : wdV yX10_undo cX10_undo 1 (some .int) 0 := ⟨k875, k876, k1, k877, by decide +kernel, by decide +kernel⟩
theorem wX10_redo : wdV yX10_redo cX10_redo 1 (some .int) 0 := ⟨k892, k893, k1, k894, by decide +kernel, by decide +kernel⟩
theorem wX10_body : wdV yX10_body cX10_body 2 (some .int) 1 := ⟨k904, k905, k1, k906, by decide +kernel, by decide +kernel⟩
theorem wX10_act : wdV yX10_act cX10_act 4 (some .int) 3 := ⟨k919, k920, k1, k921, by decide +kernel, by decide +kernel⟩
theorem wX10_trace : wdV yX10_trace cX10_trace 2 (some .int) 1 := ⟨k960, k961, k1, k962, by decide +kernel, by decide +kernel⟩
theorem wX10_keep : wdV yX10_keep cX10_keep 3 (some .int) 2 := ⟨k968, k969, k1, k970, by decide +kernel, by decide +kernel⟩
theorem wX10_row : wdV yX10_row cX10_row 4 (some .int) 3 := ⟨k977, k978, k1, k979, by decide +kernel, by decide +kernel⟩
theorem wX10_put : wdV yX10_put cX10_put 6 (some .int) 3 := ⟨k990, k991, k1, k992, by decide +kernel, by decide +kernel⟩
theorem wX10_element : wdV yX10_element cX10_element 3 (some .long) 2 := ⟨k1007, k1008, k1, k1009, by decide +kernel, by decide +kernel⟩
theorem wX10_shift : wdV yX10_shift cX10_shift 8 (some .int) 5 := ⟨k1012, k1013, k1, k1014, by decide +kernel, by decide +kernel⟩
theorem wX10_taken : wdV yX10_taken cX10_taken 4 (some .int) 2 := ⟨k1025, k1026, k1, k1027, by decide +kernel, by decide +kernel⟩
theorem wX10_count : wdV yX10_count cX10_count 2 (some .int) 1 := ⟨k1037, k1038, k1, k1039, by decide +kernel, by decide +kernel⟩
theorem wX10_isHead : wdV yX10_isHead cX10_isHead 2 (some .boolean) 1 := ⟨k338, ks0, k1, k339, by decide +kernel, by decide +kernel⟩
theorem wX10_isHeadAndWay : wdV yX10_isHeadAndWay cX10_isHeadAndWay 2 (some .boolean) 1 := ⟨k444, ks15, k1, k445, by decide +kernel, by decide +kernel⟩
theorem wX10_isShelf : wdS yX10_isShelf cX10_isShelf 1 (some .boolean) 1 := ⟨k660, k1, k661, by decide +kernel, by decide +kernel⟩
theorem wX10_isNumber : wdS yX10_isNumber cX10_isNumber 1 (some .boolean) 1 := ⟨k450, k1, k451, by decide +kernel, by decide +kernel⟩
theorem wX10_isPair : wdS yX10_isPair cX10_isPair 1 (some .boolean) 1 := ⟨k447, k1, k448, by decide +kernel, by decide +kernel⟩
theorem wX10_canBeTaught : wdS yX10_canBeTaught cX10_canBeTaught 1 (some .boolean) 1 := ⟨k777, k1, k778, by decide +kernel, by decide +kernel⟩
theorem wX10_productOf : wdS yX10_productOf cX10_productOf 1 (some .int) 1 := ⟨k618, k1, k619, by decide +kernel, by decide +kernel⟩
theorem wX10_reckonChosen : wdV yX10_reckonChosen cX10_reckonChosen 4 (some .int) 2 := ⟨k579, ks33, k1, k580, by decide +kernel, by decide +kernel⟩
theorem wX10_spreadOf : wdV yX10_spreadOf cX10_spreadOf 8 (some .int) 3 := ⟨k764, ks43, k1, k765, by decide +kernel, by decide +kernel⟩
theorem wX10_offOf : wdV yX10_offOf cX10_offOf 2 (some .int) 1 := ⟨k707, ks39, k1, k708, by decide +kernel, by decide +kernel⟩
theorem wX10_comesFrom : wdV yX10_comesFrom cX10_comesFrom 9 (some .boolean) 2 := ⟨k673, ks38, k1, k674, by decide +kernel, by decide +kernel⟩
theorem wX10_fitsAll : wdV yX10_fitsAll cX10_fitsAll 7 (some .boolean) 3 := ⟨k719, ks40, k1, k720, by decide +kernel, by decide +kernel⟩
theorem wX10_sumOfDifferences : wdV yX10_sumOfDifferences cX10_sumOfDifferences 5 (some .int) 2 := ⟨k736, ks42, k1, k737, by decide +kernel, by decide +kernel⟩
theorem wX10_allToldCanBeTaught : wdV yX10_allToldCanBeTaught cX10_allToldCanBeTaught 2 (some .boolean) 0 := ⟨k785, ks44, k1, k786, by decide +kernel, by decide +kernel⟩
theorem wX10_prepareOrders : wdV yX10_prepareOrders cX10_prepareOrders 5 none 2 := ⟨k794, ks45, k1, k795, by decide +kernel, by decide +kernel⟩
theorem wX10_secondsOfOrder : wdV yX10_secondsOfOrder cX10_secondsOfOrder 8 (some .int) 2 := ⟨k802, ks47, k1, k803, by decide +kernel, by decide +kernel⟩
theorem wX10_orderAsDigits : wdV yX10_orderAsDigits cX10_orderAsDigits 4 (some .int) 1 := ⟨k798, ks46, k1, k799, by decide +kernel, by decide +kernel⟩
theorem wX10_nextOrder : wdV yX10_nextOrder cX10_nextOrder 6 (some .boolean) 1 := ⟨k806, ks48, k1, k807, by decide +kernel, by decide +kernel⟩
theorem wX10_swapPlaces : wdV yX10_swapPlaces cX10_swapPlaces 4 none 2 := ⟨k810, ks49, k1, k811, by decide +kernel, by decide +kernel⟩
theorem wX10_refusalAt : wdV yX10_refusalAt cX10_refusalAt 3 (some .int) 2 := ⟨k995, ks56, k1, k996, by decide +kernel, by decide +kernel⟩
theorem wX11_within : wdS yX11_within cX11_within 6 (some .boolean) 3 := ⟨k1230, k10, k1231, by decide +kernel, by decide +kernel⟩
theorem wX11_size : wdS yX11_size cX11_size 1 (some .int) 1 := ⟨k1394, k10, k1395, by decide +kernel, by decide +kernel⟩
theorem wX11_becomes : wdV yX11_becomes cX11_becomes 5 (some .int) 2 := ⟨k1311, ks70, k10, k1312, by decide +kernel, by decide +kernel⟩
theorem wX11_undo : wdV yX11_undo cX11_undo 1 (some .int) 0 := ⟨k1217, k1218, k10, k1219, by decide +kernel, by decide +kernel⟩
theorem wX11_redo : wdV yX11_redo cX11_redo 1 (some .int) 0 := ⟨k1221, k1222, k10, k1223, by decide +kernel, by decide +kernel⟩
theorem wX11_feed : wdV yX11_feed cX11_feed 4 (some .int) 2 := ⟨k1225, k1226, k10, k1227, by decide +kernel, by decide +kernel⟩
theorem wX11_byteAt : wdV yX11_byteAt cX11_byteAt 1 (some .int) 0 := ⟨k1266, ks64, k10, k1267, by decide +kernel, by decide +kernel⟩
theorem wX11_wrong : wdV yX11_wrong cX11_wrong 1 (some .int) 0 := ⟨k1270, ks65, k10, k1271, by decide +kernel, by decide +kernel⟩
theorem wX11_takes : wdV yX11_takes cX11_takes 2 (some .boolean) 1 := ⟨k1274, ks66, k10, k1275, by decide +kernel, by decide +kernel⟩
theorem wX11_either : wdV yX11_either cX11_either 3 (some .int) 0 := ⟨k1242, ks58, k10, k1243, by decide +kernel, by decide +kernel⟩
theorem wX11_both : wdV yX11_both cX11_both 3 (some .int) 0 := ⟨k1246, ks59, k10, k1247, by decide +kernel, by decide +kernel⟩
theorem wX11_compared : wdV yX11_compared cX11_compared 4 (some .int) 0 := ⟨k1250, ks60, k10, k1251, by decide +kernel, by decide +kernel⟩
theorem wX11_sums : wdV yX11_sums cX11_sums 4 (some .int) 0 := ⟨k1254, ks61, k10, k1255, by decide +kernel, by decide +kernel⟩
theorem wX11_product : wdV yX11_product cX11_product 4 (some .int) 0 := ⟨k1258, ks62, k10, k1259, by decide +kernel, by decide +kernel⟩
theorem wX11_nameOf : wdS yX11_nameOf cX11_nameOf 1 (some .int) 1 := ⟨k1277, k10, k1278, by decide +kernel, by decide +kernel⟩
theorem wX11_one : wdV yX11_one cX11_one 5 (some .int) 0 := ⟨k1262, ks63, k10, k1263, by decide +kernel, by decide +kernel⟩
theorem wX11_workOut : wdV yX11_workOut cX11_workOut 8 (some .int) 2 := ⟨k1238, ks57, k10, k1239, by decide +kernel, by decide +kernel⟩
theorem wX11_choice : wdV yX11_choice cX11_choice 4 (some .int) 0 := ⟨k1233, k1234, k10, k1235, by decide +kernel, by decide +kernel⟩
theorem wX11_isHead : wdV yX11_isHead cX11_isHead 2 (some .boolean) 1 := ⟨k1299, ks68, k10, k1300, by decide +kernel, by decide +kernel⟩
theorem wX11_isOf : wdS yX11_isOf cX11_isOf 2 (some .boolean) 2 := ⟨k1288, k10, k1289, by decide +kernel, by decide +kernel⟩
theorem wX11_readOne : wdV yX11_readOne cX11_readOne 5 (some .int) 2 := ⟨k1285, ks67, k10, k1286, by decide +kernel, by decide +kernel⟩
theorem wX11_head : wdV yX11_head cX11_head 2 (some .int) 0 := ⟨k1280, k1281, k10, k1282, by decide +kernel, by decide +kernel⟩
theorem wX11_of : wdV yX11_of cX11_of 3 (some .int) 2 := ⟨k1294, k1295, k10, k1296, by decide +kernel, by decide +kernel⟩
theorem wX11_turn : wdV yX11_turn cX11_turn 4 (some .int) 3 := ⟨k1306, k1307, k10, k1308, by decide +kernel, by decide +kernel⟩
theorem wX11_isAsk : wdS yX11_isAsk cX11_isAsk 1 (some .boolean) 1 := ⟨k1318, k10, k1319, by decide +kernel, by decide +kernel⟩
theorem wX11_isSmall : wdS yX11_isSmall cX11_isSmall 1 (some .boolean) 1 := ⟨k1326, k10, k1327, by decide +kernel, by decide +kernel⟩
theorem wX11_asPair : wdS yX11_asPair cX11_asPair 3 (some .int) 1 := ⟨k1333, k10, k1334, by decide +kernel, by decide +kernel⟩
theorem wX11_pairAt : wdV yX11_pairAt cX11_pairAt 4 (some .int) 2 := ⟨k1330, ks72, k10, k1331, by decide +kernel, by decide +kernel⟩
theorem wX11_isLearnt : wdV yX11_isLearnt cX11_isLearnt 4 (some .boolean) 2 := ⟨k1354, ks76, k10, k1355, by decide +kernel, by decide +kernel⟩
theorem wX11_learntOf : wdV yX11_learntOf cX11_learntOf 4 (some .int) 1 := ⟨k1303, ks69, k10, k1304, by decide +kernel, by decide +kernel⟩
theorem wX11_askOf : wdV yX11_askOf cX11_askOf 4 (some .int) 2 := ⟨k1323, ks71, k10, k1324, by decide +kernel, by decide +kernel⟩
theorem wX11_ask : wdV yX11_ask cX11_ask 3 (some .int) 2 := ⟨k1314, k1315, k10, k1316, by decide +kernel, by decide +kernel⟩
theorem wX11_digits : wdS yX11_digits cX11_digits 3 (some .int) 1 := ⟨k1361, k10, k1362, by decide +kernel, by decide +kernel⟩
theorem wX11_figure : wdS yX11_figure cX11_figure 4 (some .int) 2 := ⟨k1368, k10, k1369, by decide +kernel, by decide +kernel⟩
theorem wX11_tens : wdS yX11_tens cX11_tens 3 (some .int) 1 := ⟨k1375, k10, k1376, by decide +kernel, by decide +kernel⟩
theorem wX11_acts : wdV yX11_acts cX11_acts 7 none 4 := ⟨k1358, ks77, k10, k1359, by decide +kernel, by decide +kernel⟩
theorem wX11_holds : wdV yX11_holds cX11_holds 2 none 0 := ⟨k1383, ks81, k10, k1384, by decide +kernel, by decide +kernel⟩
theorem wX11_lookAndAdd : wdV yX11_lookAndAdd cX11_lookAndAdd 7 (some .boolean) 5 := ⟨k1372, ks79, k10, k1373, by decide +kernel, by decide +kernel⟩
theorem wX11_goLeft : wdV yX11_goLeft cX11_goLeft 6 none 2 := ⟨k1365, ks78, k10, k1366, by decide +kernel, by decide +kernel⟩
theorem wX11_goRight : wdV yX11_goRight cX11_goRight 5 none 2 := ⟨k1379, ks80, k10, k1380, by decide +kernel, by decide +kernel⟩
theorem wX11_goCrossed : wdV yX11_goCrossed cX11_goCrossed 8 none 2 := ⟨k1387, ks82, k10, k1388, by decide +kernel, by decide +kernel⟩
theorem wX11_goSquared : wdV yX11_goSquared cX11_goSquared 5 (some .boolean) 2 := ⟨k1391, ks83, k10, k1392, by decide +kernel, by decide +kernel⟩
theorem wX11_goSplit : wdV yX11_goSplit cX11_goSplit 4 (some .boolean) 2 := ⟨k1398, ks84, k10, k1399, by decide +kernel, by decide +kernel⟩
theorem wX11_isKnown : wdV yX11_isKnown cX11_isKnown 3 (some .boolean) 2 := ⟨k1350, ks75, k10, k1351, by decide +kernel, by decide +kernel⟩
theorem wX11_layOut : wdV yX11_layOut cX11_layOut 7 (some .boolean) 4 := ⟨k1346, ks74, k10, k1347, by decide +kernel, by decide +kernel⟩
theorem wX11_seconds : wdV yX11_seconds cX11_seconds 3 (some .int) 0 := ⟨k1402, ks85, k10, k1403, by decide +kernel, by decide +kernel⟩
theorem wX11_mostHeld : wdV yX11_mostHeld cX11_mostHeld 3 (some .int) 0 := ⟨k1406, ks86, k10, k1407, by decide +kernel, by decide +kernel⟩
theorem wX11_isHw : wdV yX11_isHw cX11_isHw 2 (some .boolean) 1 := ⟨k1341, ks73, k10, k1342, by decide +kernel, by decide +kernel⟩
theorem wX11_way : wdV yX11_way cX11_way 4 (some .int) 3 := ⟨k1336, k1337, k10, k1338, by decide +kernel, by decide +kernel⟩
theorem wX11_step : wdV yX11_step cX11_step 5 (some .int) 4 := ⟨k1409, k1410, k10, k1411, by decide +kernel, by decide +kernel⟩
theorem wX11_noughtsOf : wdS yX11_noughtsOf cX11_noughtsOf 3 (some .int) 1 := ⟨k1423, k10, k1424, by decide +kernel, by decide +kernel⟩
theorem wX11_chosenBy : wdV yX11_chosenBy cX11_chosenBy 7 (some .int) 3 := ⟨k1420, ks87, k10, k1421, by decide +kernel, by decide +kernel⟩
theorem wX11_chosen : wdV yX11_chosen cX11_chosen 3 (some .int) 2 := ⟨k1415, k1416, k10, k1417, by decide +kernel, by decide +kernel⟩
theorem wX11_answer : wdV yX11_answer cX11_answer 9 (some .int) 3 := ⟨k1427, k1428, k10, k1429, by decide +kernel, by decide +kernel⟩
theorem wX11_quickest : wdV yX11_quickest cX11_quickest 7 (some .int) 3 := ⟨k1432, k1433, k10, k1434, by decide +kernel, by decide +kernel⟩
theorem wX11_table : wdV yX11_table cX11_table 6 (some .int) 3 := ⟨k1436, k1437, k10, k1438, by decide +kernel, by decide +kernel⟩
theorem wX11_see : wdV yX11_see cX11_see 4 (some .int) 3 := ⟨k1440, k1441, k10, k1442, by decide +kernel, by decide +kernel⟩
theorem wX11_asks : wdV yX11_asks cX11_asks 7 (some .int) 3 := ⟨k1446, k1447, k10, k1448, by decide +kernel, by decide +kernel⟩
theorem wX11_offBy : wdV yX11_offBy cX11_offBy 2 (some .int) 1 := ⟨k1461, ks88, k10, k1462, by decide +kernel, by decide +kernel⟩
theorem wX11_seen : wdV yX11_seen cX11_seen 3 (some .int) 2 := ⟨k1456, k1457, k10, k1458, by decide +kernel, by decide +kernel⟩
theorem wX11_canSlip : wdV yX11_canSlip cX11_canSlip 4 (some .boolean) 2 := ⟨k1477, ks91, k10, k1478, by decide +kernel, by decide +kernel⟩
theorem wX11_slipsOf : wdV yX11_slipsOf cX11_slipsOf 4 (some .int) 1 := ⟨k1473, ks90, k10, k1474, by decide +kernel, by decide +kernel⟩
theorem wX11_doesFit : wdV yX11_doesFit cX11_doesFit 5 (some .boolean) 3 := ⟨k1469, ks89, k10, k1470, by decide +kernel, by decide +kernel⟩
theorem wX11_fits : wdV yX11_fits cX11_fits 5 (some .int) 2 := ⟨k1464, k1465, k10, k1466, by decide +kernel, by decide +kernel⟩
theorem wX11_offSum : wdV yX11_offSum cX11_offSum 7 (some .int) 2 := ⟨k1485, ks92, k10, k1486, by decide +kernel, by decide +kernel⟩
theorem wX11_best : wdV yX11_best cX11_best 7 (some .int) 2 := ⟨k1480, k1481, k10, k1482, by decide +kernel, by decide +kernel⟩
theorem wX11_slip : wdV yX11_slip cX11_slip 5 (some .int) 3 := ⟨k1488, k1489, k10, k1490, by decide +kernel, by decide +kernel⟩
theorem wX11_suits : wdV yX11_suits cX11_suits 7 (some .int) 1 := ⟨k1492, k1493, k10, k1494, by decide +kernel, by decide +kernel⟩
theorem wX11_tell : wdV yX11_tell cX11_tell 2 (some .int) 1 := ⟨k1496, k1497, k10, k1498, by decide +kernel, by decide +kernel⟩
theorem wX11_untell : wdV yX11_untell cX11_untell 2 (some .int) 0 := ⟨k1500, k1501, k10, k1502, by decide +kernel, by decide +kernel⟩
theorem wX11_parts : wdV yX11_parts cX11_parts 10 (some .int) 3 := ⟨k1504, k1505, k10, k1506, by decide +kernel, by decide +kernel⟩
theorem wX11_keeps : wdV yX11_keeps cX11_keeps 3 none 1 := ⟨k1519, ks94, k10, k1520, by decide +kernel, by decide +kernel⟩
theorem wX11_putsBack : wdV yX11_putsBack cX11_putsBack 3 none 1 := ⟨k1527, ks96, k10, k1528, by decide +kernel, by decide +kernel⟩
theorem wX11_asksOne : wdV yX11_asksOne cX11_asksOne 6 (some .int) 2 := ⟨k1523, ks95, k10, k1524, by decide +kernel, by decide +kernel⟩
theorem wX11_isListBad : wdV yX11_isListBad cX11_isListBad 2 (some .boolean) 0 := ⟨k1515, ks93, k10, k1516, by decide +kernel, by decide +kernel⟩
theorem wX11_taught : wdV yX11_taught cX11_taught 6 (some .int) 3 := ⟨k1509, k1510, k10, k1511, by decide +kernel, by decide +kernel⟩
theorem wX11_ordersFrom : wdV yX11_ordersFrom cX11_ordersFrom 8 none 5 := ⟨k1535, ks97, k10, k1536, by decide +kernel, by decide +kernel⟩
theorem wX11_first : wdV yX11_first cX11_first 3 (some .int) 2 := ⟨k1530, k1531, k10, k1532, by decide +kernel, by decide +kernel⟩
theorem wX11_isPower : wdS yX11_isPower cX11_isPower 1 (some .boolean) 1 := ⟨k1546, k10, k1547, by decide +kernel, by decide +kernel⟩
theorem wX11_powerOf : wdS yX11_powerOf cX11_powerOf 6 (some .long) 2 := ⟨k1556, k10, k1557, by decide +kernel, by decide +kernel⟩
theorem wX11_leastOf : wdS yX11_leastOf cX11_leastOf 9 (some .long) 2 := ⟨k1552, k10, k1553, by decide +kernel, by decide +kernel⟩
theorem wX11_isNumber : wdS yX11_isNumber cX11_isNumber 3 (some .boolean) 2 := ⟨k1542, k10, k1543, by decide +kernel, by decide +kernel⟩
theorem wX11_rootOf : wdS yX11_rootOf cX11_rootOf 5 (some .int) 2 := ⟨k1549, k10, k1550, by decide +kernel, by decide +kernel⟩
theorem wX11_root : wdV yX11_root cX11_root 4 (some .int) 2 := ⟨k1538, k1539, k10, k1540, by decide +kernel, by decide +kernel⟩
theorem wX11_digitsOf : wdS yX11_digitsOf cX11_digitsOf 5 (some .int) 1 := ⟨k1564, k10, k1565, by decide +kernel, by decide +kernel⟩
theorem wX11_lastOf : wdS yX11_lastOf cX11_lastOf 4 (some .int) 2 := ⟨k1572, k10, k1573, by decide +kernel, by decide +kernel⟩
theorem wX11_endingBelow : wdS yX11_endingBelow cX11_endingBelow 3 (some .long) 2 := ⟨k1575, k10, k1576, by decide +kernel, by decide +kernel⟩
theorem wX11_manyFirsts : wdV yX11_manyFirsts cX11_manyFirsts 20 (some .long) 3 := ⟨k1569, ks98, k10, k1570, by decide +kernel, by decide +kernel⟩
theorem wX11_firsts : wdV yX11_firsts cX11_firsts 7 (some .int) 3 := ⟨k1560, k1561, k10, k1562, by decide +kernel, by decide +kernel⟩
theorem wX11_enough : wdV yX11_enough cX11_enough 5 (some .int) 2 := ⟨k1578, k1579, k10, k1580, by decide +kernel, by decide +kernel⟩
theorem wX11_isBody : wdV yX11_isBody cX11_isBody 2 (some .boolean) 1 := ⟨k1592, ks99, k10, k1593, by decide +kernel, by decide +kernel⟩
theorem wX11_kindOf : wdV yX11_kindOf cX11_kindOf 2 (some .int) 1 := ⟨k1652, ks106, k10, k1653, by decide +kernel, by decide +kernel⟩
theorem wX11_body : wdV yX11_body cX11_body 2 (some .int) 1 := ⟨k1582, k1583, k10, k1584, by decide +kernel, by decide +kernel⟩
theorem wX11_above : wdS yX11_above cX11_above 1 (some .int) 1 := ⟨k1655, k10, k1656, by decide +kernel, by decide +kernel⟩
theorem wX11_begins : wdV yX11_begins cX11_begins 2 none 1 := ⟨k1600, ks101, k10, k1601, by decide +kernel, by decide +kernel⟩
theorem wX11_costsAs : wdV yX11_costsAs cX11_costsAs 3 (some .int) 2 := ⟨k1596, ks100, k10, k1597, by decide +kernel, by decide +kernel⟩
theorem wX11_keepsAs : wdV yX11_keepsAs cX11_keepsAs 3 (some .int) 2 := ⟨k1604, ks102, k10, k1605, by decide +kernel, by decide +kernel⟩
theorem wX11_slipsAs : wdV yX11_slipsAs cX11_slipsAs 4 (some .int) 2 := ⟨k1608, ks103, k10, k1609, by decide +kernel, by decide +kernel⟩
theorem wX11_tellsAs : wdV yX11_tellsAs cX11_tellsAs 4 (some .int) 2 := ⟨k1612, ks104, k10, k1613, by decide +kernel, by decide +kernel⟩
theorem wX11_act : wdV yX11_act cX11_act 4 (some .int) 3 := ⟨k1587, k1588, k10, k1589, by decide +kernel, by decide +kernel⟩
theorem wX11_trace : wdV yX11_trace cX11_trace 2 (some .int) 1 := ⟨k1615, k1616, k10, k1617, by decide +kernel, by decide +kernel⟩
theorem wX11_isShelf : wdS yX11_isShelf cX11_isShelf 1 (some .boolean) 1 := ⟨k1450, k10, k1451, by decide +kernel, by decide +kernel⟩
theorem wX11_keep : wdV yX11_keep cX11_keep 3 (some .int) 2 := ⟨k1619, k1620, k10, k1621, by decide +kernel, by decide +kernel⟩
theorem wX11_row : wdV yX11_row cX11_row 5 (some .int) 3 := ⟨k1623, k1624, k10, k1625, by decide +kernel, by decide +kernel⟩
theorem wX11_refusal : wdV yX11_refusal cX11_refusal 3 (some .int) 2 := ⟨k1632, ks105, k10, k1633, by decide +kernel, by decide +kernel⟩
theorem wX11_asSort : wdS yX11_asSort cX11_asSort 3 (some .long) 2 := ⟨k1635, k10, k1636, by decide +kernel, by decide +kernel⟩
theorem wX11_put : wdV yX11_put cX11_put 6 (some .int) 3 := ⟨k1627, k1628, k10, k1629, by decide +kernel, by decide +kernel⟩
theorem wX11_element : wdV yX11_element cX11_element 3 (some .long) 2 := ⟨k1638, k1639, k10, k1640, by decide +kernel, by decide +kernel⟩
theorem wX11_shift : wdV yX11_shift cX11_shift 7 (some .int) 5 := ⟨k1643, k1644, k10, k1645, by decide +kernel, by decide +kernel⟩
theorem wX11_taken : wdV yX11_taken cX11_taken 4 (some .int) 2 := ⟨k1647, k1648, k10, k1649, by decide +kernel, by decide +kernel⟩
theorem wX11_count : wdV yX11_count cX11_count 2 (some .int) 1 := ⟨k1658, k1659, k10, k1660, by decide +kernel, by decide +kernel⟩
theorem tbl_in : GoodIn lw_gd lw_gd := fun w h => ⟨h, good_of_word (List.mem_filter.mp h).2⟩
theorem inX0 : ∀ w ∈ wsX00, w ∈ lw_gd := by decide +kernel
theorem inX1 : ∀ w ∈ wsX10, w ∈ lw_gd := by decide +kernel
theorem inX10 : ∀ w ∈ wsX100, w ∈ lw_gd := by decide +kernel
theorem inX11 : ∀ w ∈ wsX110, w ∈ lw_gd := by decide +kernel
theorem inX2 : ∀ w ∈ wsX20, w ∈ lw_gd := by decide +kernel
theorem inX3 : ∀ w ∈ wsX30, w ∈ lw_gd := by decide +kernel
theorem inX4 : ∀ w ∈ wsX40, w ∈ lw_gd := by decide +kernel
theorem inX5 : ∀ w ∈ wsX50, w ∈ lw_gd := by decide +kernel
theorem inX6 : ∀ w ∈ wsX60, w ∈ lw_gd := by decide +kernel
theorem inX7 : ∀ w ∈ wsX70, w ∈ lw_gd := by decide +kernel
theorem inX8 : ∀ w ∈ wsX80, w ∈ lw_gd := by decide +kernel
theorem inX9 : ∀ w ∈ wsX90, w ∈ lw_gd := by decide +kernel
