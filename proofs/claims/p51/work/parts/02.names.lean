/-! ===== BEGIN printed: names, fields, word lists, decode rows ===== -/
def RX0 : String := "TideVault$Boxes"
def TX0 : u_T := fun k => match k with
  | 0 => ("TideVault$Boxes", "count", "I", false)
  | 1 => ("TideVault$Boxes", "ones", "[I", true)
  | 2 => ("TideVault$Boxes", "others", "[I", true)
  | 3 => ("TideVault$Boxes", "delays", "[I", true)
  | 4 => ("TideVault$Boxes", "statuses", "[C", true)
  | 5 => ("TideVault$Boxes", "firsts", "[I", true)
  | 6 => ("TideVault$Boxes", "remainings", "[I", true)
  | 7 => ("TideVault$Boxes", "sinces", "[I", true)
  | 8 => ("TideVault$Boxes", "pearlCounts", "[I", true)
  | _ => ("TideVault$Boxes", "values", "[I", true)
def tyX0 : Nat → FieldType := fun k => match k with
  | 0 => .int
  | 1 => .array .int
  | 2 => .array .int
  | 3 => .array .int
  | 4 => .array .char
  | 5 => .array .int
  | 6 => .array .int
  | 7 => .array .int
  | 8 => .array .int
  | _ => .array .int
abbrev wsX00 : List Cond := u_ws RX0 TX0 10
theorem nmX0 : ∀ a, a < 10 → ∀ b, b < 10 → a ≠ b → (TX0 a).2.1 ≠ (TX0 b).2.1 := by decide +kernel
theorem tyX0_ok : ∀ k, k < 10 → parseFieldDescriptor (TX0 k).2.2.1 = some (tyX0 k) := by decide +kernel
abbrev cX0_init : ByteArray := prog_2_method_1_code
def yX0_init : MethodName := ⟨RX0, "<init>", "()V"⟩
abbrev cX0_copyFrom : ByteArray := prog_2_method_2_code
def yX0_copyFrom : MethodName := ⟨RX0, "copyFrom", "(LTideVault$Boxes;)V"⟩
abbrev cX0_has : ByteArray := prog_2_method_3_code
def yX0_has : MethodName := ⟨RX0, "has", "(I)Z"⟩
abbrev cX0_add : ByteArray := prog_2_method_4_code
def yX0_add : MethodName := ⟨RX0, "add", "(III)I"⟩
abbrev cX0_belongsTo : ByteArray := prog_2_method_5_code
def yX0_belongsTo : MethodName := ⟨RX0, "belongsTo", "(II)Z"⟩
abbrev cX0_partnerOf : ByteArray := prog_2_method_6_code
def yX0_partnerOf : MethodName := ⟨RX0, "partnerOf", "(II)I"⟩
abbrev cX0_countOf : ByteArray := prog_2_method_7_code
def yX0_countOf : MethodName := ⟨RX0, "countOf", "(I)I"⟩
abbrev cX0_countIn : ByteArray := prog_2_method_8_code
def yX0_countIn : MethodName := ⟨RX0, "countIn", "(C)I"⟩
abbrev cX0_statusOf : ByteArray := prog_2_method_9_code
def yX0_statusOf : MethodName := ⟨RX0, "statusOf", "(I)C"⟩
abbrev cX0_sinceOf : ByteArray := prog_2_method_10_code
def yX0_sinceOf : MethodName := ⟨RX0, "sinceOf", "(I)I"⟩
abbrev cX0_firstOf : ByteArray := prog_2_method_11_code
def yX0_firstOf : MethodName := ⟨RX0, "firstOf", "(I)I"⟩
abbrev cX0_remainingOf : ByteArray := prog_2_method_12_code
def yX0_remainingOf : MethodName := ⟨RX0, "remainingOf", "(I)I"⟩
abbrev cX0_awaits : ByteArray := prog_2_method_13_code
def yX0_awaits : MethodName := ⟨RX0, "awaits", "(II)Z"⟩
abbrev cX0_become : ByteArray := prog_2_method_14_code
def yX0_become : MethodName := ⟨RX0, "become", "(CII)V"⟩
abbrev cX0_halfOpen : ByteArray := prog_2_method_15_code
def yX0_halfOpen : MethodName := ⟨RX0, "halfOpen", "(III)V"⟩
abbrev cX0_startDelay : ByteArray := prog_2_method_16_code
def yX0_startDelay : MethodName := ⟨RX0, "startDelay", "(I)V"⟩
abbrev cX0_countDown : ByteArray := prog_2_method_17_code
def yX0_countDown : MethodName := ⟨RX0, "countDown", "()V"⟩
abbrev cX0_isOverdue : ByteArray := prog_2_method_18_code
def yX0_isOverdue : MethodName := ⟨RX0, "isOverdue", "(II)Z"⟩
abbrev cX0_pearlsIn : ByteArray := prog_2_method_19_code
def yX0_pearlsIn : MethodName := ⟨RX0, "pearlsIn", "(I)I"⟩
abbrev cX0_valueOf : ByteArray := prog_2_method_21_code
def yX0_valueOf : MethodName := ⟨RX0, "valueOf", "(II)I"⟩
abbrev cX0_addPearl : ByteArray := prog_2_method_22_code
def yX0_addPearl : MethodName := ⟨RX0, "addPearl", "(II)I"⟩
abbrev cX0_takeBest : ByteArray := prog_2_method_23_code
def yX0_takeBest : MethodName := ⟨RX0, "takeBest", "(I)I"⟩
abbrev cX0_sumIn : ByteArray := prog_2_method_24_code
def yX0_sumIn : MethodName := ⟨RX0, "sumIn", "(I)I"⟩
abbrev cX0_sumOfAll : ByteArray := prog_2_method_25_code
def yX0_sumOfAll : MethodName := ⟨RX0, "sumOfAll", "()J"⟩
abbrev cX0_atRank : ByteArray := prog_2_method_26_code
def yX0_atRank : MethodName := ⟨RX0, "atRank", "(I)I"⟩
abbrev cX0_rankOf : ByteArray := prog_2_method_27_code
def yX0_rankOf : MethodName := ⟨RX0, "rankOf", "(I)I"⟩
abbrev cX0_setValue : ByteArray := prog_2_method_28_code
def yX0_setValue : MethodName := ⟨RX0, "setValue", "(III)V"⟩
abbrev cX0_setPearls : ByteArray := prog_2_method_29_code
def yX0_setPearls : MethodName := ⟨RX0, "setPearls", "(II)I"⟩
def RX1 : String := "TideVault$History"
def TX1 : u_T := fun k => match k with
  | 0 => ("TideVault$History", "slots", "[LTideVault$State;", true)
  | 1 => ("TideVault$History", "next", "I", false)
  | _ => ("TideVault$History", "count", "I", false)
def tyX1 : Nat → FieldType := fun k => match k with
  | 0 => .array (.object "TideVault$State")
  | 1 => .int
  | _ => .int
abbrev wsX10 : List Cond := u_ws RX1 TX1 3
theorem nmX1 : ∀ a, a < 3 → ∀ b, b < 3 → a ≠ b → (TX1 a).2.1 ≠ (TX1 b).2.1 := by decide +kernel
theorem tyX1_ok : ∀ k, k < 3 → parseFieldDescriptor (TX1 k).2.2.1 = some (tyX1 k) := by decide +kernel
abbrev cX1_init : ByteArray := prog_3_method_1_code
def yX1_init : MethodName := ⟨RX1, "<init>", "()V"⟩
abbrev cX1_keep : ByteArray := prog_3_method_2_code
def yX1_keep : MethodName := ⟨RX1, "keep", "(LTideVault$State;)V"⟩
abbrev cX1_begin : ByteArray := prog_3_method_3_code
def yX1_begin : MethodName := ⟨RX1, "begin", "(LTideVault$State;)V"⟩
abbrev cX1_commit : ByteArray := prog_3_method_4_code
def yX1_commit : MethodName := ⟨RX1, "commit", "()V"⟩
abbrev cX1_cancel : ByteArray := prog_3_method_5_code
def yX1_cancel : MethodName := ⟨RX1, "cancel", "(LTideVault$State;)V"⟩
abbrev cX1_stepBack : ByteArray := prog_3_method_6_code
def yX1_stepBack : MethodName := ⟨RX1, "stepBack", "(LTideVault$State;)I"⟩
abbrev cX1_forget : ByteArray := prog_3_method_7_code
def yX1_forget : MethodName := ⟨RX1, "forget", "()V"⟩
def RX2 : String := "TideVault$Holders"
def TX2 : u_T := fun k => match k with
  | 0 => ("TideVault$Holders", "count", "I", false)
  | 1 => ("TideVault$Holders", "codes", "[I", true)
  | 2 => ("TideVault$Holders", "attempts", "[I", true)
  | _ => ("TideVault$Holders", "lockEnds", "[I", true)
def tyX2 : Nat → FieldType := fun k => match k with
  | 0 => .int
  | 1 => .array .int
  | 2 => .array .int
  | _ => .array .int
abbrev wsX20 : List Cond := u_ws RX2 TX2 4
theorem nmX2 : ∀ a, a < 4 → ∀ b, b < 4 → a ≠ b → (TX2 a).2.1 ≠ (TX2 b).2.1 := by decide +kernel
theorem tyX2_ok : ∀ k, k < 4 → parseFieldDescriptor (TX2 k).2.2.1 = some (tyX2 k) := by decide +kernel
abbrev cX2_init : ByteArray := prog_4_method_1_code
def yX2_init : MethodName := ⟨RX2, "<init>", "()V"⟩
abbrev cX2_copyFrom : ByteArray := prog_4_method_2_code
def yX2_copyFrom : MethodName := ⟨RX2, "copyFrom", "(LTideVault$Holders;)V"⟩
abbrev cX2_has : ByteArray := prog_4_method_3_code
def yX2_has : MethodName := ⟨RX2, "has", "(I)Z"⟩
abbrev cX2_add : ByteArray := prog_4_method_4_code
def yX2_add : MethodName := ⟨RX2, "add", "(I)I"⟩
abbrev cX2_codeOf : ByteArray := prog_4_method_5_code
def yX2_codeOf : MethodName := ⟨RX2, "codeOf", "(I)I"⟩
abbrev cX2_setCode : ByteArray := prog_4_method_6_code
def yX2_setCode : MethodName := ⟨RX2, "setCode", "(II)V"⟩
abbrev cX2_attemptsOf : ByteArray := prog_4_method_7_code
def yX2_attemptsOf : MethodName := ⟨RX2, "attemptsOf", "(I)I"⟩
abbrev cX2_setAttempts : ByteArray := prog_4_method_8_code
def yX2_setAttempts : MethodName := ⟨RX2, "setAttempts", "(II)V"⟩
abbrev cX2_lock : ByteArray := prog_4_method_9_code
def yX2_lock : MethodName := ⟨RX2, "lock", "(II)V"⟩
abbrev cX2_lockedFor : ByteArray := prog_4_method_10_code
def yX2_lockedFor : MethodName := ⟨RX2, "lockedFor", "(II)I"⟩
def RX3 : String := "TideVault$Line"
def TX3 : u_T := fun k => match k with
  | 0 => ("TideVault$Line", "text", "[C", true)
  | _ => ("TideVault$Line", "length", "I", false)
def tyX3 : Nat → FieldType := fun k => match k with
  | 0 => .array .char
  | _ => .int
abbrev wsX30 : List Cond := u_ws RX3 TX3 2
theorem nmX3 : ∀ a, a < 2 → ∀ b, b < 2 → a ≠ b → (TX3 a).2.1 ≠ (TX3 b).2.1 := by decide +kernel
theorem tyX3_ok : ∀ k, k < 2 → parseFieldDescriptor (TX3 k).2.2.1 = some (tyX3 k) := by decide +kernel
abbrev cX3_init : ByteArray := prog_5_method_1_code
def yX3_init : MethodName := ⟨RX3, "<init>", "()V"⟩
abbrev cX3_empty : ByteArray := prog_5_method_2_code
def yX3_empty : MethodName := ⟨RX3, "empty", "()V"⟩
abbrev cX3_add : ByteArray := prog_5_method_3_code
def yX3_add : MethodName := ⟨RX3, "add", "(C)V"⟩
abbrev cX3_addNumber : ByteArray := prog_5_method_4_code
def yX3_addNumber : MethodName := ⟨RX3, "addNumber", "(I)V"⟩
def RX4 : String := "TideVault$Log"
def TX4 : u_T := fun k => match k with
  | 0 => ("TideVault$Log", "start", "I", false)
  | 1 => ("TideVault$Log", "count", "I", false)
  | 2 => ("TideVault$Log", "kinds", "[C", true)
  | 3 => ("TideVault$Log", "times", "[I", true)
  | _ => ("TideVault$Log", "numbers", "[I", true)
def tyX4 : Nat → FieldType := fun k => match k with
  | 0 => .int
  | 1 => .int
  | 2 => .array .char
  | 3 => .array .int
  | _ => .array .int
abbrev wsX40 : List Cond := u_ws RX4 TX4 5
theorem nmX4 : ∀ a, a < 5 → ∀ b, b < 5 → a ≠ b → (TX4 a).2.1 ≠ (TX4 b).2.1 := by decide +kernel
theorem tyX4_ok : ∀ k, k < 5 → parseFieldDescriptor (TX4 k).2.2.1 = some (tyX4 k) := by decide +kernel
abbrev cX4_init : ByteArray := prog_6_method_1_code
def yX4_init : MethodName := ⟨RX4, "<init>", "()V"⟩
abbrev cX4_copyFrom : ByteArray := prog_6_method_2_code
def yX4_copyFrom : MethodName := ⟨RX4, "copyFrom", "(LTideVault$Log;)V"⟩
abbrev cX4_has : ByteArray := prog_6_method_3_code
def yX4_has : MethodName := ⟨RX4, "has", "(I)Z"⟩
abbrev cX4_add : ByteArray := prog_6_method_4_code
def yX4_add : MethodName := ⟨RX4, "add", "(CII)V"⟩
abbrev cX4_kindOf : ByteArray := prog_6_method_5_code
def yX4_kindOf : MethodName := ⟨RX4, "kindOf", "(I)C"⟩
abbrev cX4_timeOf : ByteArray := prog_6_method_6_code
def yX4_timeOf : MethodName := ⟨RX4, "timeOf", "(I)I"⟩
abbrev cX4_numberOf : ByteArray := prog_6_method_7_code
def yX4_numberOf : MethodName := ⟨RX4, "numberOf", "(I)I"⟩
abbrev cX4_slotOf : ByteArray := prog_6_method_8_code
def yX4_slotOf : MethodName := ⟨RX4, "slotOf", "(I)I"⟩
def RX5 : String := "TideVault$Program"
def TX5 : u_T := fun k => match k with
  | 0 => ("TideVault$Program", "text", "[C", true)
  | 1 => ("TideVault$Program", "length", "I", false)
  | 2 => ("TideVault$Program", "at", "I", false)
  | 3 => ("TideVault$Program", "count", "I", false)
  | 4 => ("TideVault$Program", "verbs", "[I", true)
  | _ => ("TideVault$Program", "arguments", "[I", true)
def tyX5 : Nat → FieldType := fun k => match k with
  | 0 => .array .char
  | 1 => .int
  | 2 => .int
  | 3 => .int
  | 4 => .array .int
  | _ => .array .int
abbrev wsX50 : List Cond := u_ws RX5 TX5 6
theorem nmX5 : ∀ a, a < 6 → ∀ b, b < 6 → a ≠ b → (TX5 a).2.1 ≠ (TX5 b).2.1 := by decide +kernel
theorem tyX5_ok : ∀ k, k < 6 → parseFieldDescriptor (TX5 k).2.2.1 = some (tyX5 k) := by decide +kernel
abbrev cX5_init : ByteArray := prog_7_method_1_code
def yX5_init : MethodName := ⟨RX5, "<init>", "()V"⟩
abbrev cX5_isFull : ByteArray := prog_7_method_2_code
def yX5_isFull : MethodName := ⟨RX5, "isFull", "()Z"⟩
abbrev cX5_append : ByteArray := prog_7_method_3_code
def yX5_append : MethodName := ⟨RX5, "append", "(C)I"⟩
abbrev cX5_empty : ByteArray := prog_7_method_4_code
def yX5_empty : MethodName := ⟨RX5, "empty", "()V"⟩
abbrev cX5_verbOf : ByteArray := prog_7_method_5_code
def yX5_verbOf : MethodName := ⟨RX5, "verbOf", "(I)I"⟩
abbrev cX5_argumentOf : ByteArray := prog_7_method_6_code
def yX5_argumentOf : MethodName := ⟨RX5, "argumentOf", "(II)I"⟩
abbrev cX5_parse : ByteArray := prog_7_method_7_code
def yX5_parse : MethodName := ⟨RX5, "parse", "()I"⟩
abbrev cX5_readCommand : ByteArray := prog_7_method_8_code
def yX5_readCommand : MethodName := ⟨RX5, "readCommand", "()Z"⟩
abbrev cX5_readVerb : ByteArray := prog_7_method_9_code
def yX5_readVerb : MethodName := ⟨RX5, "readVerb", "()I"⟩
abbrev cX5_countSame : ByteArray := prog_7_method_10_code
def yX5_countSame : MethodName := ⟨RX5, "countSame", "(Ljava/lang/String;)I"⟩
abbrev cX5_readForm : ByteArray := prog_7_method_11_code
def yX5_readForm : MethodName := ⟨RX5, "readForm", "(Ljava/lang/String;)Z"⟩
abbrev cX5_readNumber : ByteArray := prog_7_method_12_code
def yX5_readNumber : MethodName := ⟨RX5, "readNumber", "(II)Z"⟩
abbrev cX5_readSign : ByteArray := prog_7_method_13_code
def yX5_readSign : MethodName := ⟨RX5, "readSign", "(C)Z"⟩
abbrev cX5_setArgument : ByteArray := prog_7_method_14_code
def yX5_setArgument : MethodName := ⟨RX5, "setArgument", "(II)V"⟩
abbrev cX5_sign : ByteArray := prog_7_method_15_code
def yX5_sign : MethodName := ⟨RX5, "sign", "()C"⟩
abbrev cX5_signAt : ByteArray := prog_7_method_16_code
def yX5_signAt : MethodName := ⟨RX5, "signAt", "(I)C"⟩
abbrev cX5_isDigit : ByteArray := prog_7_method_17_code
def yX5_isDigit : MethodName := ⟨RX5, "isDigit", "(C)Z"⟩
abbrev cX5_wordOf : ByteArray := prog_7_method_18_code
def yX5_wordOf : MethodName := ⟨RX5, "wordOf", "(I)Ljava/lang/String;"⟩
abbrev cX5_formOf : ByteArray := prog_7_method_19_code
def yX5_formOf : MethodName := ⟨RX5, "formOf", "(I)Ljava/lang/String;"⟩
def RX6 : String := "TideVault$State"
def TX6 : u_T := fun k => match k with
  | 0 => ("TideVault$State", "tide", "LTideVault$Tide;", true)
  | 1 => ("TideVault$State", "holders", "LTideVault$Holders;", true)
  | 2 => ("TideVault$State", "boxes", "LTideVault$Boxes;", true)
  | 3 => ("TideVault$State", "log", "LTideVault$Log;", true)
  | 4 => ("TideVault$State", "time", "I", false)
  | 5 => ("TideVault$State", "alarm", "I", false)
  | 6 => ("TideVault$State", "codesTold", "I", false)
  | 7 => ("TideVault$State", "wrongCodes", "I", false)
  | _ => ("TideVault$State", "ledger", "J", false)
def tyX6 : Nat → FieldType := fun k => match k with
  | 0 => .object "TideVault$Tide"
  | 1 => .object "TideVault$Holders"
  | 2 => .object "TideVault$Boxes"
  | 3 => .object "TideVault$Log"
  | 4 => .int
  | 5 => .int
  | 6 => .int
  | 7 => .int
  | _ => .long
abbrev wsX60 : List Cond := u_ws RX6 TX6 9
theorem nmX6 : ∀ a, a < 9 → ∀ b, b < 9 → a ≠ b → (TX6 a).2.1 ≠ (TX6 b).2.1 := by decide +kernel
theorem tyX6_ok : ∀ k, k < 9 → parseFieldDescriptor (TX6 k).2.2.1 = some (tyX6 k) := by decide +kernel
abbrev cX6_init : ByteArray := prog_8_method_1_code
def yX6_init : MethodName := ⟨RX6, "<init>", "()V"⟩
abbrev cX6_copyFrom : ByteArray := prog_8_method_2_code
def yX6_copyFrom : MethodName := ⟨RX6, "copyFrom", "(LTideVault$State;)V"⟩
abbrev cX6_refusalOfHolder : ByteArray := prog_8_method_3_code
def yX6_refusalOfHolder : MethodName := ⟨RX6, "refusalOfHolder", "(I)I"⟩
abbrev cX6_refusalOfBox : ByteArray := prog_8_method_4_code
def yX6_refusalOfBox : MethodName := ⟨RX6, "refusalOfBox", "(III)I"⟩
abbrev cX6_refusalOfTide : ByteArray := prog_8_method_5_code
def yX6_refusalOfTide : MethodName := ⟨RX6, "refusalOfTide", "(II)I"⟩
abbrev cX6_refusalOfTurn : ByteArray := prog_8_method_6_code
def yX6_refusalOfTurn : MethodName := ⟨RX6, "refusalOfTurn", "(III)I"⟩
abbrev cX6_refusalOfCode : ByteArray := prog_8_method_7_code
def yX6_refusalOfCode : MethodName := ⟨RX6, "refusalOfCode", "(III)I"⟩
abbrev cX6_refusalOfPut : ByteArray := prog_8_method_8_code
def yX6_refusalOfPut : MethodName := ⟨RX6, "refusalOfPut", "(II)I"⟩
abbrev cX6_refusalOfTake : ByteArray := prog_8_method_9_code
def yX6_refusalOfTake : MethodName := ⟨RX6, "refusalOfTake", "(I)I"⟩
abbrev cX6_refusalOfClose : ByteArray := prog_8_method_10_code
def yX6_refusalOfClose : MethodName := ⟨RX6, "refusalOfClose", "(I)I"⟩
abbrev cX6_refusalOfWait : ByteArray := prog_8_method_11_code
def yX6_refusalOfWait : MethodName := ⟨RX6, "refusalOfWait", "(I)I"⟩
abbrev cX6_refusalOfCommand : ByteArray := prog_8_method_12_code
def yX6_refusalOfCommand : MethodName := ⟨RX6, "refusalOfCommand", "(IIII)I"⟩
abbrev cX6_carryOut : ByteArray := prog_8_method_13_code
def yX6_carryOut : MethodName := ⟨RX6, "carryOut", "(IIII)V"⟩
abbrev cX6_turn : ByteArray := prog_8_method_14_code
def yX6_turn : MethodName := ⟨RX6, "turn", "(II)C"⟩
abbrev cX6_recode : ByteArray := prog_8_method_15_code
def yX6_recode : MethodName := ⟨RX6, "recode", "(II)I"⟩
abbrev cX6_hearWrongCode : ByteArray := prog_8_method_16_code
def yX6_hearWrongCode : MethodName := ⟨RX6, "hearWrongCode", "(I)V"⟩
abbrev cX6_put : ByteArray := prog_8_method_17_code
def yX6_put : MethodName := ⟨RX6, "put", "(II)I"⟩
abbrev cX6_take : ByteArray := prog_8_method_18_code
def yX6_take : MethodName := ⟨RX6, "take", "(I)I"⟩
abbrev cX6_shut : ByteArray := prog_8_method_19_code
def yX6_shut : MethodName := ⟨RX6, "shut", "(I)I"⟩
abbrev cX6_letPass : ByteArray := prog_8_method_20_code
def yX6_letPass : MethodName := ⟨RX6, "letPass", "(I)I"⟩
abbrev cX6_minute : ByteArray := prog_8_method_21_code
def yX6_minute : MethodName := ⟨RX6, "minute", "()I"⟩
abbrev cX6_searchOpening : ByteArray := prog_8_method_22_code
def yX6_searchOpening : MethodName := ⟨RX6, "searchOpening", "(I)I"⟩
abbrev cX6_waitForOpening : ByteArray := prog_8_method_23_code
def yX6_waitForOpening : MethodName := ⟨RX6, "waitForOpening", "(I)I"⟩
abbrev cX6_hasJustOpened : ByteArray := prog_8_method_24_code
def yX6_hasJustOpened : MethodName := ⟨RX6, "hasJustOpened", "(I)Z"⟩
abbrev cX6_doLowMinutesAgree : ByteArray := prog_8_method_25_code
def yX6_doLowMinutesAgree : MethodName := ⟨RX6, "doLowMinutesAgree", "()Z"⟩
abbrev cX6_isLow : ByteArray := prog_8_method_26_code
def yX6_isLow : MethodName := ⟨RX6, "isLow", "()Z"⟩
abbrev cX6_isLocked : ByteArray := prog_8_method_27_code
def yX6_isLocked : MethodName := ⟨RX6, "isLocked", "(I)Z"⟩
abbrev cX6_isCode : ByteArray := prog_8_method_28_code
def yX6_isCode : MethodName := ⟨RX6, "isCode", "(I)Z"⟩
abbrev cX6_hearRightCode : ByteArray := prog_8_method_29_code
def yX6_hearRightCode : MethodName := ⟨RX6, "hearRightCode", "(I)V"⟩
abbrev cX6_raiseAlarm : ByteArray := prog_8_method_30_code
def yX6_raiseAlarm : MethodName := ⟨RX6, "raiseAlarm", "(I)V"⟩
abbrev cX6_openIfDue : ByteArray := prog_8_method_31_code
def yX6_openIfDue : MethodName := ⟨RX6, "openIfDue", "(I)I"⟩
def RX7 : String := "TideVault$Tide"
def TX7 : u_T := fun k => match k with
  | 0 => ("TideVault$Tide", "period", "I", false)
  | _ => ("TideVault$Tide", "low", "I", false)
def tyX7 : Nat → FieldType := fun k => match k with
  | 0 => .int
  | _ => .int
abbrev wsX70 : List Cond := u_ws RX7 TX7 2
theorem nmX7 : ∀ a, a < 2 → ∀ b, b < 2 → a ≠ b → (TX7 a).2.1 ≠ (TX7 b).2.1 := by decide +kernel
theorem tyX7_ok : ∀ k, k < 2 → parseFieldDescriptor (TX7 k).2.2.1 = some (tyX7 k) := by decide +kernel
abbrev cX7_init : ByteArray := prog_9_method_1_code
def yX7_init : MethodName := ⟨RX7, "<init>", "()V"⟩
abbrev cX7_copyFrom : ByteArray := prog_9_method_2_code
def yX7_copyFrom : MethodName := ⟨RX7, "copyFrom", "(LTideVault$Tide;)V"⟩
abbrev cX7_become : ByteArray := prog_9_method_3_code
def yX7_become : MethodName := ⟨RX7, "become", "(II)I"⟩
abbrev cX7_isLowAt : ByteArray := prog_9_method_4_code
def yX7_isLowAt : MethodName := ⟨RX7, "isLowAt", "(I)Z"⟩
abbrev cX7_lowByFormula : ByteArray := prog_9_method_5_code
def yX7_lowByFormula : MethodName := ⟨RX7, "lowByFormula", "(II)I"⟩
abbrev cX7_lowByCounting : ByteArray := prog_9_method_6_code
def yX7_lowByCounting : MethodName := ⟨RX7, "lowByCounting", "(II)I"⟩
abbrev cX7_lowBefore : ByteArray := prog_9_method_7_code
def yX7_lowBefore : MethodName := ⟨RX7, "lowBefore", "(I)I"⟩
def RX8 : String := "TideVault"
def TX8 : u_T := fun k => match k with
  | 0 => ("TideVault", "state", "LTideVault$State;", true)
  | 1 => ("TideVault", "rehearsal", "LTideVault$State;", true)
  | 2 => ("TideVault", "kept", "LTideVault$State;", true)
  | 3 => ("TideVault", "history", "LTideVault$History;", true)
  | 4 => ("TideVault", "program", "LTideVault$Program;", true)
  | 5 => ("TideVault", "line", "LTideVault$Line;", true)
  | 6 => ("TideVault", "isKept", "Z", false)
  | 7 => ("TideVault", "syntaxError", "I", false)
  | 8 => ("TideVault", "failure", "I", false)
  | _ => ("TideVault", "failedByCode", "Z", false)
def tyX8 : Nat → FieldType := fun k => match k with
  | 0 => .object "TideVault$State"
  | 1 => .object "TideVault$State"
  | 2 => .object "TideVault$State"
  | 3 => .object "TideVault$History"
  | 4 => .object "TideVault$Program"
  | 5 => .object "TideVault$Line"
  | 6 => .boolean
  | 7 => .int
  | 8 => .int
  | _ => .boolean
abbrev wsX80 : List Cond := u_ws RX8 TX8 10
theorem nmX8 : ∀ a, a < 10 → ∀ b, b < 10 → a ≠ b → (TX8 a).2.1 ≠ (TX8 b).2.1 := by decide +kernel
theorem tyX8_ok : ∀ k, k < 10 → parseFieldDescriptor (TX8 k).2.2.1 = some (tyX8 k) := by decide +kernel
abbrev cX8_init : ByteArray := prog_1_method_1_code
def yX8_init : MethodName := ⟨RX8, "<init>", "()V"⟩
abbrev cX8_addHolder : ByteArray := prog_1_method_2_code
def yX8_addHolder : MethodName := ⟨RX8, "addHolder", "(I)I"⟩
abbrev cX8_addBox : ByteArray := prog_1_method_3_code
def yX8_addBox : MethodName := ⟨RX8, "addBox", "(III)I"⟩
abbrev cX8_setTide : ByteArray := prog_1_method_4_code
def yX8_setTide : MethodName := ⟨RX8, "setTide", "(II)I"⟩
abbrev cX8_turnKey : ByteArray := prog_1_method_5_code
def yX8_turnKey : MethodName := ⟨RX8, "turnKey", "(III)C"⟩
abbrev cX8_changeCode : ByteArray := prog_1_method_6_code
def yX8_changeCode : MethodName := ⟨RX8, "changeCode", "(III)I"⟩
abbrev cX8_deposit : ByteArray := prog_1_method_7_code
def yX8_deposit : MethodName := ⟨RX8, "deposit", "(II)I"⟩
abbrev cX8_withdraw : ByteArray := prog_1_method_8_code
def yX8_withdraw : MethodName := ⟨RX8, "withdraw", "(I)I"⟩
abbrev cX8_close : ByteArray := prog_1_method_9_code
def yX8_close : MethodName := ⟨RX8, "close", "(I)I"⟩
abbrev cX8_pass : ByteArray := prog_1_method_10_code
def yX8_pass : MethodName := ⟨RX8, "pass", "(I)I"⟩
abbrev cX8_time : ByteArray := prog_1_method_11_code
def yX8_time : MethodName := ⟨RX8, "time", "()I"⟩
abbrev cX8_isLowTide : ByteArray := prog_1_method_12_code
def yX8_isLowTide : MethodName := ⟨RX8, "isLowTide", "()Z"⟩
abbrev cX8_lowMinutes : ByteArray := prog_1_method_13_code
def yX8_lowMinutes : MethodName := ⟨RX8, "lowMinutes", "(I)I"⟩
abbrev cX8_lowMinutesByCounting : ByteArray := prog_1_method_14_code
def yX8_lowMinutesByCounting : MethodName := ⟨RX8, "lowMinutesByCounting", "(I)I"⟩
abbrev cX8_alarm : ByteArray := prog_1_method_15_code
def yX8_alarm : MethodName := ⟨RX8, "alarm", "()I"⟩
abbrev cX8_holders : ByteArray := prog_1_method_16_code
def yX8_holders : MethodName := ⟨RX8, "holders", "()I"⟩
abbrev cX8_attempts : ByteArray := prog_1_method_17_code
def yX8_attempts : MethodName := ⟨RX8, "attempts", "(I)I"⟩
abbrev cX8_minutesLocked : ByteArray := prog_1_method_18_code
def yX8_minutesLocked : MethodName := ⟨RX8, "minutesLocked", "(I)I"⟩
abbrev cX8_boxesOf : ByteArray := prog_1_method_19_code
def yX8_boxesOf : MethodName := ⟨RX8, "boxesOf", "(I)I"⟩
abbrev cX8_boxes : ByteArray := prog_1_method_20_code
def yX8_boxes : MethodName := ⟨RX8, "boxes", "()I"⟩
abbrev cX8_otherHolder : ByteArray := prog_1_method_21_code
def yX8_otherHolder : MethodName := ⟨RX8, "otherHolder", "(II)I"⟩
abbrev cX8_status : ByteArray := prog_1_method_22_code
def yX8_status : MethodName := ⟨RX8, "status", "(I)C"⟩
abbrev cX8_firstHolder : ByteArray := prog_1_method_23_code
def yX8_firstHolder : MethodName := ⟨RX8, "firstHolder", "(I)I"⟩
abbrev cX8_remainingDelay : ByteArray := prog_1_method_24_code
def yX8_remainingDelay : MethodName := ⟨RX8, "remainingDelay", "(I)I"⟩
abbrev cX8_minutesUntilOpen : ByteArray := prog_1_method_25_code
def yX8_minutesUntilOpen : MethodName := ⟨RX8, "minutesUntilOpen", "(I)I"⟩
abbrev cX8_minutesUntilOpenBySimulation : ByteArray := prog_1_method_26_code
def yX8_minutesUntilOpenBySimulation : MethodName := ⟨RX8, "minutesUntilOpenBySimulation", "(I)I"⟩
abbrev cX8_pearls : ByteArray := prog_1_method_27_code
def yX8_pearls : MethodName := ⟨RX8, "pearls", "(I)I"⟩
abbrev cX8_pearl : ByteArray := prog_1_method_28_code
def yX8_pearl : MethodName := ⟨RX8, "pearl", "(II)I"⟩
abbrev cX8_boxByValue : ByteArray := prog_1_method_29_code
def yX8_boxByValue : MethodName := ⟨RX8, "boxByValue", "(I)I"⟩
abbrev cX8_totalValue : ByteArray := prog_1_method_30_code
def yX8_totalValue : MethodName := ⟨RX8, "totalValue", "()J"⟩
abbrev cX8_totalValueByLedger : ByteArray := prog_1_method_31_code
def yX8_totalValueByLedger : MethodName := ⟨RX8, "totalValueByLedger", "()J"⟩
abbrev cX8_events : ByteArray := prog_1_method_34_code
def yX8_events : MethodName := ⟨RX8, "events", "()I"⟩
abbrev cX8_eventKind : ByteArray := prog_1_method_35_code
def yX8_eventKind : MethodName := ⟨RX8, "eventKind", "(I)C"⟩
abbrev cX8_eventTime : ByteArray := prog_1_method_36_code
def yX8_eventTime : MethodName := ⟨RX8, "eventTime", "(I)I"⟩
abbrev cX8_eventNumber : ByteArray := prog_1_method_37_code
def yX8_eventNumber : MethodName := ⟨RX8, "eventNumber", "(I)I"⟩
abbrev cX8_isConsistent : ByteArray := prog_1_method_38_code
def yX8_isConsistent : MethodName := ⟨RX8, "isConsistent", "()Z"⟩
abbrev cX8_writeBox : ByteArray := prog_1_method_39_code
def yX8_writeBox : MethodName := ⟨RX8, "writeBox", "(I)I"⟩
abbrev cX8_writeEvents : ByteArray := prog_1_method_40_code
def yX8_writeEvents : MethodName := ⟨RX8, "writeEvents", "()I"⟩
abbrev cX8_type : ByteArray := prog_1_method_42_code
def yX8_type : MethodName := ⟨RX8, "type", "(C)I"⟩
abbrev cX8_run : ByteArray := prog_1_method_43_code
def yX8_run : MethodName := ⟨RX8, "run", "()I"⟩
abbrev cX8_undo : ByteArray := prog_1_method_47_code
def yX8_undo : MethodName := ⟨RX8, "undo", "()I"⟩
abbrev cX8_save : ByteArray := prog_1_method_48_code
def yX8_save : MethodName := ⟨RX8, "save", "()I"⟩
abbrev cX8_restore : ByteArray := prog_1_method_49_code
def yX8_restore : MethodName := ⟨RX8, "restore", "()I"⟩
abbrev cX8_refuse : ByteArray := prog_1_method_50_code
def yX8_refuse : MethodName := ⟨RX8, "refuse", "(I)V"⟩
abbrev cX8_hearCode : ByteArray := prog_1_method_51_code
def yX8_hearCode : MethodName := ⟨RX8, "hearCode", "(II)V"⟩
abbrev cX8_doOpeningsAgree : ByteArray := prog_1_method_52_code
def yX8_doOpeningsAgree : MethodName := ⟨RX8, "doOpeningsAgree", "()Z"⟩
abbrev cX8_refusalOfLowMinutes : ByteArray := prog_1_method_53_code
def yX8_refusalOfLowMinutes : MethodName := ⟨RX8, "refusalOfLowMinutes", "(I)I"⟩
abbrev cX8_refusalOfHolderNumber : ByteArray := prog_1_method_54_code
def yX8_refusalOfHolderNumber : MethodName := ⟨RX8, "refusalOfHolderNumber", "(I)I"⟩
abbrev cX8_refusalOfBoxNumber : ByteArray := prog_1_method_55_code
def yX8_refusalOfBoxNumber : MethodName := ⟨RX8, "refusalOfBoxNumber", "(I)I"⟩
abbrev cX8_refusalUnless : ByteArray := prog_1_method_56_code
def yX8_refusalUnless : MethodName := ⟨RX8, "refusalUnless", "(CI)I"⟩
abbrev cX8_refusalOfEvent : ByteArray := prog_1_method_57_code
def yX8_refusalOfEvent : MethodName := ⟨RX8, "refusalOfEvent", "(I)I"⟩
def RX9 : String := "TideVaultModel"
def TX9 : u_T := fun k => match k with
  | _ => ("", "", "", false)
def tyX9 : Nat → FieldType := fun k => match k with
  | _ => .int
abbrev wsX90 : List Cond := u_ws RX9 TX9 0
theorem nmX9 : ∀ a, a < 0 → ∀ b, b < 0 → a ≠ b → (TX9 a).2.1 ≠ (TX9 b).2.1 := by decide +kernel
theorem tyX9_ok : ∀ k, k < 0 → parseFieldDescriptor (TX9 k).2.2.1 = some (tyX9 k) := by decide +kernel
def RJx145de : String := "java/io/Serializable"
def TJx145de : u_T := fun k => match k with
  | _ => ("", "", "", false)
def tyJx145de : Nat → FieldType := fun k => match k with
  | _ => .int
abbrev wsJx145de0 : List Cond := u_ws RJx145de TJx145de 0
theorem nmJx145de : ∀ a, a < 0 → ∀ b, b < 0 → a ≠ b → (TJx145de a).2.1 ≠ (TJx145de b).2.1 := by decide +kernel
theorem tyJx145de_ok : ∀ k, k < 0 → parseFieldDescriptor (TJx145de k).2.2.1 = some (tyJx145de k) := by decide +kernel
def RJ5 : String := "java/lang/AbstractStringBuilder"
def TJ5 : u_T := fun k => match k with
  | _ => ("", "", "", false)
def tyJ5 : Nat → FieldType := fun k => match k with
  | _ => .int
abbrev wsJ50 : List Cond := u_ws RJ5 TJ5 0
theorem nmJ5 : ∀ a, a < 0 → ∀ b, b < 0 → a ≠ b → (TJ5 a).2.1 ≠ (TJ5 b).2.1 := by decide +kernel
theorem tyJ5_ok : ∀ k, k < 0 → parseFieldDescriptor (TJ5 k).2.2.1 = some (tyJ5 k) := by decide +kernel
abbrev cJ5_init_d00df : ByteArray := prog_13_method_2_code
def yJ5_init_d00df : MethodName := ⟨RJ5, "<init>", "(I)V"⟩
abbrev cJ5_length_8abf5 : ByteArray := prog_13_method_6_code
def yJ5_length_8abf5 : MethodName := ⟨RJ5, "length", "()I"⟩
abbrev cJ5_ensureCapacityInternal_d00df : ByteArray := prog_13_method_9_code
def yJ5_ensureCapacityInternal_d00df : MethodName := ⟨RJ5, "ensureCapacityInternal", "(I)V"⟩
abbrev cJ5_newCapacity_0f7a4 : ByteArray := prog_13_method_10_code
def yJ5_newCapacity_0f7a4 : MethodName := ⟨RJ5, "newCapacity", "(I)I"⟩
abbrev cJ5_inflate_da8c8 : ByteArray := prog_13_method_11_code
def yJ5_inflate_da8c8 : MethodName := ⟨RJ5, "inflate", "()V"⟩
abbrev cJ5_append_cf1ce : ByteArray := prog_13_method_22_code
def yJ5_append_cf1ce : MethodName := ⟨RJ5, "append", "(Ljava/lang/String;)Ljava/lang/AbstractStringBuilder;"⟩
abbrev cJ5_appendNull_278bc : ByteArray := prog_13_method_26_code
def yJ5_appendNull_278bc : MethodName := ⟨RJ5, "appendNull", "()Ljava/lang/AbstractStringBuilder;"⟩
abbrev cJ5_append_c97b9 : ByteArray := prog_13_method_32_code
def yJ5_append_c97b9 : MethodName := ⟨RJ5, "append", "(I)Ljava/lang/AbstractStringBuilder;"⟩
abbrev cJ5_getValue_6d5f1 : ByteArray := prog_13_method_64_code
def yJ5_getValue_6d5f1 : MethodName := ⟨RJ5, "getValue", "()[B"⟩
abbrev cJ5_isLatin1_aae02 : ByteArray := prog_13_method_68_code
def yJ5_isLatin1_aae02 : MethodName := ⟨RJ5, "isLatin1", "()Z"⟩
abbrev cJ5_inflateIfNeededFor_a7421 : ByteArray := prog_13_method_71_code
def yJ5_inflateIfNeededFor_a7421 : MethodName := ⟨RJ5, "inflateIfNeededFor", "(Ljava/lang/String;)V"⟩
abbrev cJ5_putStringAt_47b60 : ByteArray := prog_13_method_73_code
def yJ5_putStringAt_47b60 : MethodName := ⟨RJ5, "putStringAt", "(ILjava/lang/String;)V"⟩
def RJx2cfe8 : String := "java/lang/Appendable"
def TJx2cfe8 : u_T := fun k => match k with
  | _ => ("", "", "", false)
def tyJx2cfe8 : Nat → FieldType := fun k => match k with
  | _ => .int
abbrev wsJx2cfe80 : List Cond := u_ws RJx2cfe8 TJx2cfe8 0
theorem nmJx2cfe8 : ∀ a, a < 0 → ∀ b, b < 0 → a ≠ b → (TJx2cfe8 a).2.1 ≠ (TJx2cfe8 b).2.1 := by decide +kernel
theorem tyJx2cfe8_ok : ∀ k, k < 0 → parseFieldDescriptor (TJx2cfe8 k).2.2.1 = some (tyJx2cfe8 k) := by decide +kernel
def RJx00060 : String := "java/lang/ArrayIndexOutOfBoundsException"
def TJx00060 : u_T := fun k => match k with
  | 0 => ("java/lang/Throwable", "backtrace", "Ljava/lang/Object;", false)
  | 1 => ("java/lang/Throwable", "detailMessage", "Ljava/lang/String;", false)
  | 2 => ("java/lang/Throwable", "cause", "Ljava/lang/Throwable;", false)
  | 3 => ("java/lang/Throwable", "stackTrace", "[Ljava/lang/StackTraceElement;", false)
  | 4 => ("java/lang/Throwable", "depth", "I", false)
  | _ => ("java/lang/Throwable", "suppressedExceptions", "Ljava/util/List;", false)
def tyJx00060 : Nat → FieldType := fun k => match k with
  | 0 => .object "java/lang/Object"
  | 1 => .object "java/lang/String"
  | 2 => .object "java/lang/Throwable"
  | 3 => .array (.object "java/lang/StackTraceElement")
  | 4 => .int
  | _ => .object "java/util/List"
abbrev wsJx000600 : List Cond := u_ws RJx00060 TJx00060 6
theorem nmJx00060 : ∀ a, a < 6 → ∀ b, b < 6 → a ≠ b → (TJx00060 a).2.1 ≠ (TJx00060 b).2.1 := by decide +kernel
theorem tyJx00060_ok : ∀ k, k < 6 → parseFieldDescriptor (TJx00060 k).2.2.1 = some (tyJx00060 k) := by decide +kernel
abbrev cJx00060_init_a7421 : ByteArray := prog_15_method_2_code
def yJx00060_init_a7421 : MethodName := ⟨RJx00060, "<init>", "(Ljava/lang/String;)V"⟩
def RJx9f9b0 : String := "java/lang/CharSequence"
def TJx9f9b0 : u_T := fun k => match k with
  | _ => ("", "", "", false)
def tyJx9f9b0 : Nat → FieldType := fun k => match k with
  | _ => .int
abbrev wsJx9f9b00 : List Cond := u_ws RJx9f9b0 TJx9f9b0 0
theorem nmJx9f9b0 : ∀ a, a < 0 → ∀ b, b < 0 → a ≠ b → (TJx9f9b0 a).2.1 ≠ (TJx9f9b0 b).2.1 := by decide +kernel
theorem tyJx9f9b0_ok : ∀ k, k < 0 → parseFieldDescriptor (TJx9f9b0 k).2.2.1 = some (tyJx9f9b0 k) := by decide +kernel
def RJx8e188 : String := "java/lang/Cloneable"
def TJx8e188 : u_T := fun k => match k with
  | _ => ("", "", "", false)
def tyJx8e188 : Nat → FieldType := fun k => match k with
  | _ => .int
abbrev wsJx8e1880 : List Cond := u_ws RJx8e188 TJx8e188 0
theorem nmJx8e188 : ∀ a, a < 0 → ∀ b, b < 0 → a ≠ b → (TJx8e188 a).2.1 ≠ (TJx8e188 b).2.1 := by decide +kernel
theorem tyJx8e188_ok : ∀ k, k < 0 → parseFieldDescriptor (TJx8e188 k).2.2.1 = some (tyJx8e188 k) := by decide +kernel
def RJxb160c : String := "java/lang/Comparable"
def TJxb160c : u_T := fun k => match k with
  | _ => ("", "", "", false)
def tyJxb160c : Nat → FieldType := fun k => match k with
  | _ => .int
abbrev wsJxb160c0 : List Cond := u_ws RJxb160c TJxb160c 0
theorem nmJxb160c : ∀ a, a < 0 → ∀ b, b < 0 → a ≠ b → (TJxb160c a).2.1 ≠ (TJxb160c b).2.1 := by decide +kernel
theorem tyJxb160c_ok : ∀ k, k < 0 → parseFieldDescriptor (TJxb160c k).2.2.1 = some (tyJxb160c k) := by decide +kernel
def RJ6 : String := "java/lang/Integer"
def TJ6 : u_T := fun k => match k with
  | _ => ("", "", "", false)
def tyJ6 : Nat → FieldType := fun k => match k with
  | _ => .int
abbrev wsJ60 : List Cond := u_ws RJ6 TJ6 0
theorem nmJ6 : ∀ a, a < 0 → ∀ b, b < 0 → a ≠ b → (TJ6 a).2.1 ≠ (TJ6 b).2.1 := by decide +kernel
theorem tyJ6_ok : ∀ k, k < 0 → parseFieldDescriptor (TJ6 k).2.2.1 = some (tyJ6 k) := by decide +kernel
abbrev cJ6_getChars_ba4f3 : ByteArray := prog_23_method_12_code
def yJ6_getChars_ba4f3 : MethodName := ⟨RJ6, "getChars", "(II[B)I"⟩
abbrev cJ6_stringSize_0f7a4 : ByteArray := prog_23_method_13_code
def yJ6_stringSize_0f7a4 : MethodName := ⟨RJ6, "stringSize", "(I)I"⟩
def RJ9 : String := "java/lang/Math"
def TJ9 : u_T := fun k => match k with
  | _ => ("", "", "", false)
def tyJ9 : Nat → FieldType := fun k => match k with
  | _ => .int
abbrev wsJ90 : List Cond := u_ws RJ9 TJ9 0
theorem nmJ9 : ∀ a, a < 0 → ∀ b, b < 0 → a ≠ b → (TJ9 a).2.1 ≠ (TJ9 b).2.1 := by decide +kernel
theorem tyJ9_ok : ∀ k, k < 0 → parseFieldDescriptor (TJ9 k).2.2.1 = some (tyJ9 k) := by decide +kernel
abbrev cJ9_floorMod_7cf53 : ByteArray := prog_24_method_50_code
def yJ9_floorMod_7cf53 : MethodName := ⟨RJ9, "floorMod", "(II)I"⟩
abbrev cJ9_max_7cf53 : ByteArray := prog_24_method_65_code
def yJ9_max_7cf53 : MethodName := ⟨RJ9, "max", "(II)I"⟩
abbrev cJ9_min_7cf53 : ByteArray := prog_24_method_69_code
def yJ9_min_7cf53 : MethodName := ⟨RJ9, "min", "(II)I"⟩
def RJxd2413 : String := "java/lang/Number"
def TJxd2413 : u_T := fun k => match k with
  | _ => ("", "", "", false)
def tyJxd2413 : Nat → FieldType := fun k => match k with
  | _ => .int
abbrev wsJxd24130 : List Cond := u_ws RJxd2413 TJxd2413 0
theorem nmJxd2413 : ∀ a, a < 0 → ∀ b, b < 0 → a ≠ b → (TJxd2413 a).2.1 ≠ (TJxd2413 b).2.1 := by decide +kernel
theorem tyJxd2413_ok : ∀ k, k < 0 → parseFieldDescriptor (TJxd2413 k).2.2.1 = some (tyJxd2413 k) := by decide +kernel
def RJ0 : String := "java/lang/String"
def TJ0 : u_T := fun k => match k with
  | 0 => ("java/lang/String", "value", "[B", true)
  | 1 => ("java/lang/String", "coder", "B", true)
  | 2 => ("java/lang/String", "hash", "I", false)
  | _ => ("java/lang/String", "hashIsZero", "Z", false)
def tyJ0 : Nat → FieldType := fun k => match k with
  | 0 => .array .byte
  | 1 => .byte
  | 2 => .int
  | _ => .boolean
abbrev wsJ00 : List Cond := u_ws RJ0 TJ0 4
theorem nmJ0 : ∀ a, a < 4 → ∀ b, b < 4 → a ≠ b → (TJ0 a).2.1 ≠ (TJ0 b).2.1 := by decide +kernel
theorem tyJ0_ok : ∀ k, k < 4 → parseFieldDescriptor (TJ0 k).2.2.1 = some (tyJ0 k) := by decide +kernel
abbrev cJ0_init_81219 : ByteArray := prog_27_method_53_code
def yJ0_init_81219 : MethodName := ⟨RJ0, "<init>", "(Ljava/lang/StringBuilder;)V"⟩
abbrev cJ0_length_8abf5 : ByteArray := prog_27_method_54_code
def yJ0_length_8abf5 : MethodName := ⟨RJ0, "length", "()I"⟩
abbrev cJ0_charAt_5068e : ByteArray := prog_27_method_56_code
def yJ0_charAt_5068e : MethodName := ⟨RJ0, "charAt", "(I)C"⟩
abbrev cJ0_getBytes_840e7 : ByteArray := prog_27_method_147_code
def yJ0_getBytes_840e7 : MethodName := ⟨RJ0, "getBytes", "([BIB)V"⟩
abbrev cJ0_init_db425 : ByteArray := prog_27_method_150_code
def yJ0_init_db425 : MethodName := ⟨RJ0, "<init>", "(Ljava/lang/AbstractStringBuilder;Ljava/lang/Void;)V"⟩
abbrev cJ0_coder_7d493 : ByteArray := prog_27_method_152_code
def yJ0_coder_7d493 : MethodName := ⟨RJ0, "coder", "()B"⟩
abbrev cJ0_isLatin1_aae02 : ByteArray := prog_27_method_154_code
def yJ0_isLatin1_aae02 : MethodName := ⟨RJ0, "isLatin1", "()Z"⟩
abbrev cJ0_checkIndex_df160 : ByteArray := prog_27_method_155_code
def yJ0_checkIndex_df160 : MethodName := ⟨RJ0, "checkIndex", "(II)V"⟩
abbrev cJ0_checkBoundsOffCount_cabcc : ByteArray := prog_27_method_157_code
def yJ0_checkBoundsOffCount_cabcc : MethodName := ⟨RJ0, "checkBoundsOffCount", "(III)I"⟩
abbrev cJ0_checkBoundsBeginEnd_23922 : ByteArray := prog_27_method_158_code
def yJ0_checkBoundsBeginEnd_23922 : MethodName := ⟨RJ0, "checkBoundsBeginEnd", "(III)V"⟩
def RJ4 : String := "java/lang/StringBuilder"
def TJ4 : u_T := fun k => match k with
  | 0 => ("java/lang/AbstractStringBuilder", "value", "[B", false)
  | 1 => ("java/lang/AbstractStringBuilder", "coder", "B", false)
  | 2 => ("java/lang/AbstractStringBuilder", "maybeLatin1", "Z", false)
  | _ => ("java/lang/AbstractStringBuilder", "count", "I", false)
def tyJ4 : Nat → FieldType := fun k => match k with
  | 0 => .array .byte
  | 1 => .byte
  | 2 => .boolean
  | _ => .int
abbrev wsJ40 : List Cond := u_ws RJ4 TJ4 4
theorem nmJ4 : ∀ a, a < 4 → ∀ b, b < 4 → a ≠ b → (TJ4 a).2.1 ≠ (TJ4 b).2.1 := by decide +kernel
theorem tyJ4_ok : ∀ k, k < 4 → parseFieldDescriptor (TJ4 k).2.2.1 = some (tyJ4 k) := by decide +kernel
abbrev cJ4_init_da8c8 : ByteArray := prog_28_method_1_code
def yJ4_init_da8c8 : MethodName := ⟨RJ4, "<init>", "()V"⟩
abbrev cJ4_append_15ec4 : ByteArray := prog_28_method_7_code
def yJ4_append_15ec4 : MethodName := ⟨RJ4, "append", "(Ljava/lang/String;)Ljava/lang/StringBuilder;"⟩
abbrev cJ4_append_bf812 : ByteArray := prog_28_method_15_code
def yJ4_append_bf812 : MethodName := ⟨RJ4, "append", "(I)Ljava/lang/StringBuilder;"⟩
abbrev cJ4_toString_0e30d : ByteArray := prog_28_method_42_code
def yJ4_toString_0e30d : MethodName := ⟨RJ4, "toString", "()Ljava/lang/String;"⟩
abbrev cJ4_length_8abf5 : ByteArray := prog_28_method_93_code
def yJ4_length_8abf5 : MethodName := ⟨RJ4, "length", "()I"⟩
def RJ1 : String := "java/lang/StringLatin1"
def TJ1 : u_T := fun k => match k with
  | _ => ("", "", "", false)
def tyJ1 : Nat → FieldType := fun k => match k with
  | _ => .int
abbrev wsJ10 : List Cond := u_ws RJ1 TJ1 0
theorem nmJ1 : ∀ a, a < 0 → ∀ b, b < 0 → a ≠ b → (TJ1 a).2.1 ≠ (TJ1 b).2.1 := by decide +kernel
theorem tyJ1_ok : ∀ k, k < 0 → parseFieldDescriptor (TJ1 k).2.2.1 = some (tyJ1 k) := by decide +kernel
abbrev cJ1_charAt_3b067 : ByteArray := prog_29_method_2_code
def yJ1_charAt_3b067 : MethodName := ⟨RJ1, "charAt", "([BI)C"⟩
abbrev cJ1_inflate_0e8fd : ByteArray := prog_29_method_50_code
def yJ1_inflate_0e8fd : MethodName := ⟨RJ1, "inflate", "([BI[BII)V"⟩
def RJ2 : String := "java/lang/StringUTF16"
def TJ2 : u_T := fun k => match k with
  | _ => ("", "", "", false)
def tyJ2 : Nat → FieldType := fun k => match k with
  | _ => .int
abbrev wsJ20 : List Cond := u_ws RJ2 TJ2 0
theorem nmJ2 : ∀ a, a < 0 → ∀ b, b < 0 → a ≠ b → (TJ2 a).2.1 ≠ (TJ2 b).2.1 := by decide +kernel
theorem tyJ2_ok : ∀ k, k < 0 → parseFieldDescriptor (TJ2 k).2.2.1 = some (tyJ2 k) := by decide +kernel
abbrev cJ2_newBytesFor_77867 : ByteArray := prog_30_method_2_code
def yJ2_newBytesFor_77867 : MethodName := ⟨RJ2, "newBytesFor", "(I)[B"⟩
abbrev cJ2_newBytesLength_0f7a4 : ByteArray := prog_30_method_3_code
def yJ2_newBytesLength_0f7a4 : MethodName := ⟨RJ2, "newBytesLength", "(I)I"⟩
abbrev cJ2_putChar_b72d1 : ByteArray := prog_30_method_4_code
def yJ2_putChar_b72d1 : MethodName := ⟨RJ2, "putChar", "([BII)V"⟩
abbrev cJ2_getChar_3b067 : ByteArray := prog_30_method_5_code
def yJ2_getChar_3b067 : MethodName := ⟨RJ2, "getChar", "([BI)C"⟩
abbrev cJ2_length_9d52b : ByteArray := prog_30_method_6_code
def yJ2_length_9d52b : MethodName := ⟨RJ2, "length", "([B)I"⟩
abbrev cJ2_coderFromArrayLen_85cad : ByteArray := prog_30_method_15_code
def yJ2_coderFromArrayLen_85cad : MethodName := ⟨RJ2, "coderFromArrayLen", "([BI)B"⟩
abbrev cJ2_compress_39247 : ByteArray := prog_30_method_17_code
def yJ2_compress_39247 : MethodName := ⟨RJ2, "compress", "([BII)[B"⟩
abbrev cJ2_compress_5af95 : ByteArray := prog_30_method_22_code
def yJ2_compress_5af95 : MethodName := ⟨RJ2, "compress", "([BI[BII)I"⟩
abbrev cJ2_getChars_46870 : ByteArray := prog_30_method_77_code
def yJ2_getChars_46870 : MethodName := ⟨RJ2, "getChars", "(III[B)I"⟩
abbrev cJ2_putCharsAt_cd4e5 : ByteArray := prog_30_method_81_code
def yJ2_putCharsAt_cd4e5 : MethodName := ⟨RJ2, "putCharsAt", "([BICCCC)I"⟩
abbrev cJ2_charAt_3b067 : ByteArray := prog_30_method_83_code
def yJ2_charAt_3b067 : MethodName := ⟨RJ2, "charAt", "([BI)C"⟩
abbrev cJ2_inflate_0e8fd : ByteArray := prog_30_method_86_code
def yJ2_inflate_0e8fd : MethodName := ⟨RJ2, "inflate", "([BI[BII)V"⟩
abbrev cJ2_getChars_ba4f3 : ByteArray := prog_30_method_89_code
def yJ2_getChars_ba4f3 : MethodName := ⟨RJ2, "getChars", "(II[B)I"⟩
abbrev cJ2_checkIndex_2214a : ByteArray := prog_30_method_91_code
def yJ2_checkIndex_2214a : MethodName := ⟨RJ2, "checkIndex", "(I[B)V"⟩
abbrev cJ2_checkBoundsBeginEnd_d044e : ByteArray := prog_30_method_93_code
def yJ2_checkBoundsBeginEnd_d044e : MethodName := ⟨RJ2, "checkBoundsBeginEnd", "(II[B)V"⟩
abbrev cJ2_checkBoundsOffCount_d044e : ByteArray := prog_30_method_94_code
def yJ2_checkBoundsOffCount_d044e : MethodName := ⟨RJ2, "checkBoundsOffCount", "(II[B)V"⟩
def RJ10 : String := "java/lang/System"
def TJ10 : u_T := fun k => match k with
  | _ => ("", "", "", false)
def tyJ10 : Nat → FieldType := fun k => match k with
  | _ => .int
abbrev wsJ100 : List Cond := u_ws RJ10 TJ10 0
theorem nmJ10 : ∀ a, a < 0 → ∀ b, b < 0 → a ≠ b → (TJ10 a).2.1 ≠ (TJ10 b).2.1 := by decide +kernel
theorem tyJ10_ok : ∀ k, k < 0 → parseFieldDescriptor (TJ10 k).2.2.1 = some (tyJ10 k) := by decide +kernel
def RJxfd54e : String := "java/lang/constant/Constable"
def TJxfd54e : u_T := fun k => match k with
  | _ => ("", "", "", false)
def tyJxfd54e : Nat → FieldType := fun k => match k with
  | _ => .int
abbrev wsJxfd54e0 : List Cond := u_ws RJxfd54e TJxfd54e 0
theorem nmJxfd54e : ∀ a, a < 0 → ∀ b, b < 0 → a ≠ b → (TJxfd54e a).2.1 ≠ (TJxfd54e b).2.1 := by decide +kernel
theorem tyJxfd54e_ok : ∀ k, k < 0 → parseFieldDescriptor (TJxfd54e k).2.2.1 = some (tyJxfd54e k) := by decide +kernel
def RJx3cf43 : String := "java/lang/constant/ConstantDesc"
def TJx3cf43 : u_T := fun k => match k with
  | _ => ("", "", "", false)
def tyJx3cf43 : Nat → FieldType := fun k => match k with
  | _ => .int
abbrev wsJx3cf430 : List Cond := u_ws RJx3cf43 TJx3cf43 0
theorem nmJx3cf43 : ∀ a, a < 0 → ∀ b, b < 0 → a ≠ b → (TJx3cf43 a).2.1 ≠ (TJx3cf43 b).2.1 := by decide +kernel
theorem tyJx3cf43_ok : ∀ k, k < 0 → parseFieldDescriptor (TJx3cf43 k).2.2.1 = some (tyJx3cf43 k) := by decide +kernel
def RJ7 : String := "java/util/Arrays"
def TJ7 : u_T := fun k => match k with
  | _ => ("", "", "", false)
def tyJ7 : Nat → FieldType := fun k => match k with
  | _ => .int
abbrev wsJ70 : List Cond := u_ws RJ7 TJ7 0
theorem nmJ7 : ∀ a, a < 0 → ∀ b, b < 0 → a ≠ b → (TJ7 a).2.1 ≠ (TJ7 b).2.1 := by decide +kernel
theorem tyJ7_ok : ∀ k, k < 0 → parseFieldDescriptor (TJ7 k).2.2.1 = some (tyJ7 k) := by decide +kernel
abbrev cJ7_copyOf_9075b : ByteArray := prog_36_method_121_code
def yJ7_copyOf_9075b : MethodName := ⟨RJ7, "copyOf", "([BI)[B"⟩
abbrev cJ7_checkLength_df160 : ByteArray := prog_36_method_131_code
def yJ7_checkLength_df160 : MethodName := ⟨RJ7, "checkLength", "(II)V"⟩
abbrev cJ7_copyOfRange_39247 : ByteArray := prog_36_method_132_code
def yJ7_copyOfRange_39247 : MethodName := ⟨RJ7, "copyOfRange", "([BII)[B"⟩
abbrev cJ7_copyOfRangeByte_39247 : ByteArray := prog_36_method_133_code
def yJ7_copyOfRangeByte_39247 : MethodName := ⟨RJ7, "copyOfRangeByte", "([BII)[B"⟩
def RJ8 : String := "jdk/internal/util/ArraysSupport"
def TJ8 : u_T := fun k => match k with
  | _ => ("", "", "", false)
def tyJ8 : Nat → FieldType := fun k => match k with
  | _ => .int
abbrev wsJ80 : List Cond := u_ws RJ8 TJ8 0
theorem nmJ8 : ∀ a, a < 0 → ∀ b, b < 0 → a ≠ b → (TJ8 a).2.1 ≠ (TJ8 b).2.1 := by decide +kernel
theorem tyJ8_ok : ∀ k, k < 0 → parseFieldDescriptor (TJ8 k).2.2.1 = some (tyJ8 k) := by decide +kernel
abbrev cJ8_newLength_cabcc : ByteArray := prog_38_method_27_code
def yJ8_newLength_cabcc : MethodName := ⟨RJ8, "newLength", "(III)I"⟩
abbrev cJ8_hugeLength_7cf53 : ByteArray := prog_38_method_28_code
def yJ8_hugeLength_7cf53 : MethodName := ⟨RJ8, "hugeLength", "(II)I"⟩
def RJ3 : String := "jdk/internal/util/Preconditions"
def TJ3 : u_T := fun k => match k with
  | _ => ("", "", "", false)
def tyJ3 : Nat → FieldType := fun k => match k with
  | _ => .int
abbrev wsJ30 : List Cond := u_ws RJ3 TJ3 0
theorem nmJ3 : ∀ a, a < 0 → ∀ b, b < 0 → a ≠ b → (TJ3 a).2.1 ≠ (TJ3 b).2.1 := by decide +kernel
theorem tyJ3_ok : ∀ k, k < 0 → parseFieldDescriptor (TJ3 k).2.2.1 = some (tyJ3 k) := by decide +kernel
abbrev cJ3_checkIndex_8e157 : ByteArray := prog_39_method_11_code
def yJ3_checkIndex_8e157 : MethodName := ⟨RJ3, "checkIndex", "(IILjava/util/function/BiFunction;)I"⟩
abbrev cJ3_checkFromToIndex_8c36e : ByteArray := prog_39_method_12_code
def yJ3_checkFromToIndex_8c36e : MethodName := ⟨RJ3, "checkFromToIndex", "(IIILjava/util/function/BiFunction;)I"⟩
abbrev cJ3_checkFromIndexSize_8c36e : ByteArray := prog_39_method_13_code
def yJ3_checkFromIndexSize_8c36e : MethodName := ⟨RJ3, "checkFromIndexSize", "(IIILjava/util/function/BiFunction;)I"⟩
def RL : String := "TideVaultLaw"
abbrev cL_cell : ByteArray := method_2_code
def yL_cell : MethodName := ⟨RL, "cell", "([II)I"⟩
abbrev cL_addHolder : ByteArray := method_3_code
def yL_addHolder : MethodName := ⟨RL, "addHolder", "(LTideVault;I)I"⟩
abbrev cL_addBox : ByteArray := method_4_code
def yL_addBox : MethodName := ⟨RL, "addBox", "(LTideVault;III)I"⟩
abbrev cL_setTide : ByteArray := method_5_code
def yL_setTide : MethodName := ⟨RL, "setTide", "(LTideVault;II)I"⟩
abbrev cL_turnKey : ByteArray := method_6_code
def yL_turnKey : MethodName := ⟨RL, "turnKey", "(LTideVault;III)I"⟩
abbrev cL_changeCode : ByteArray := method_7_code
def yL_changeCode : MethodName := ⟨RL, "changeCode", "(LTideVault;III)I"⟩
abbrev cL_deposit : ByteArray := method_8_code
def yL_deposit : MethodName := ⟨RL, "deposit", "(LTideVault;II)I"⟩
abbrev cL_withdraw : ByteArray := method_9_code
def yL_withdraw : MethodName := ⟨RL, "withdraw", "(LTideVault;I)I"⟩
abbrev cL_close : ByteArray := method_10_code
def yL_close : MethodName := ⟨RL, "close", "(LTideVault;I)I"⟩
abbrev cL_pass : ByteArray := method_11_code
def yL_pass : MethodName := ⟨RL, "pass", "(LTideVault;I)I"⟩
abbrev cL_firstHolder : ByteArray := method_12_code
def yL_firstHolder : MethodName := ⟨RL, "firstHolder", "(LTideVault;I)I"⟩
abbrev cL_remainingDelay : ByteArray := method_13_code
def yL_remainingDelay : MethodName := ⟨RL, "remainingDelay", "(LTideVault;I)I"⟩
abbrev cL_minutesUntilOpen : ByteArray := method_14_code
def yL_minutesUntilOpen : MethodName := ⟨RL, "minutesUntilOpen", "(LTideVault;I)I"⟩
abbrev cL_minutesUntilOpenBySimulation : ByteArray := method_15_code
def yL_minutesUntilOpenBySimulation : MethodName := ⟨RL, "minutesUntilOpenBySimulation", "(LTideVault;I)I"⟩
abbrev cL_boxByValue : ByteArray := method_16_code
def yL_boxByValue : MethodName := ⟨RL, "boxByValue", "(LTideVault;I)I"⟩
abbrev cL_run : ByteArray := method_17_code
def yL_run : MethodName := ⟨RL, "run", "(LTideVault;)I"⟩
abbrev cL_undo : ByteArray := method_18_code
def yL_undo : MethodName := ⟨RL, "undo", "(LTideVault;)I"⟩
abbrev cL_restore : ByteArray := method_19_code
def yL_restore : MethodName := ⟨RL, "restore", "(LTideVault;)I"⟩
abbrev cL_in : ByteArray := method_20_code
def yL_in : MethodName := ⟨RL, "in", "([III)I"⟩
abbrev cL_does : ByteArray := method_21_code
def yL_does : MethodName := ⟨RL, "does", "(LTideVault;Ljava/lang/String;)I"⟩
abbrev cL_begun : ByteArray := method_22_code
def yL_begun : MethodName := ⟨RL, "begun", "([I)LTideVault;"⟩
abbrev cL_turns : ByteArray := method_23_code
def yL_turns : MethodName := ⟨RL, "turns", "(LTideVault;III)I"⟩
abbrev cL_acts : ByteArray := method_24_code
def yL_acts : MethodName := ⟨RL, "acts", "(LTideVault;[II)I"⟩
abbrev cL_seen : ByteArray := method_25_code
def yL_seen : MethodName := ⟨RL, "seen", "(LTideVault;)[I"⟩
abbrev cL_areAlike : ByteArray := method_26_code
def yL_areAlike : MethodName := ⟨RL, "areAlike", "([I[I)Z"⟩
abbrev cL_isWell : ByteArray := method_27_code
def yL_isWell : MethodName := ⟨RL, "isWell", "(LTideVault;)Z"⟩
abbrev cL_isPair : ByteArray := method_28_code
def yL_isPair : MethodName := ⟨RL, "isPair", "(LTideVault;III)Z"⟩
abbrev cL_law : ByteArray := code
def yL_law : MethodName := ⟨RL, "law", "([I)Z"⟩
/-! ===== words: the good ones of the tables, in one list ===== -/
def tvGW : List Cond := lw_tbl.filter goodWord
theorem tvg {w : Cond} (i : Nat) (h : lw_tbl[i]? = some w) (hg : goodWord w = true) : w ∈ tvGW := List.mem_filter.mpr ⟨List.mem_of_getElem? h, hg⟩
theorem tvgw {w : Cond} (h : w ∈ lw_tbl) (hg : goodWord w = true) : w ∈ tvGW := List.mem_filter.mpr ⟨h, hg⟩
