/-! ===== BEGIN printed: names, fields, word lists, decode rows ===== -/
def RX0 : String := "ClaimJudge$Assumption"
def TX0 : u_T := fun k => match k with
  | 0 => ("ClaimJudge$Assumption", "lowest", "[I", true)
  | _ => ("ClaimJudge$Assumption", "highest", "[I", true)
def tyX0 : Nat → FieldType := fun k => match k with
  | 0 => .array .int
  | _ => .array .int
abbrev wsX00 : List Cond := u_ws RX0 TX0 2
theorem nmX0 : ∀ a, a < 2 → ∀ b, b < 2 → a ≠ b → (TX0 a).2.1 ≠ (TX0 b).2.1 := by decide +kernel
theorem tyX0_ok : ∀ k, k < 2 → parseFieldDescriptor (TX0 k).2.2.1 = some (tyX0 k) := by decide +kernel
abbrev cX0_init : ByteArray := prog_2_method_1_code
def yX0_init : MethodName := ⟨RX0, "<init>", "()V"⟩
abbrev cX0_limit : ByteArray := prog_2_method_2_code
def yX0_limit : MethodName := ⟨RX0, "limit", "(III)V"⟩
abbrev cX0_copyFrom : ByteArray := prog_2_method_3_code
def yX0_copyFrom : MethodName := ⟨RX0, "copyFrom", "(LClaimJudge$Assumption;)V"⟩
abbrev cX0_allows : ByteArray := prog_2_method_4_code
def yX0_allows : MethodName := ⟨RX0, "allows", "(I)Z"⟩
abbrev cX0_allowsBut : ByteArray := prog_2_method_5_code
def yX0_allowsBut : MethodName := ⟨RX0, "allowsBut", "(II)Z"⟩
abbrev cX0_count : ByteArray := prog_2_method_6_code
def yX0_count : MethodName := ⟨RX0, "count", "()I"⟩
def RX1 : String := "ClaimJudge$History"
def TX1 : u_T := fun k => match k with
  | 0 => ("ClaimJudge$History", "programs", "[LClaimJudge$Program;", true)
  | 1 => ("ClaimJudge$History", "assumptions", "[LClaimJudge$Assumption;", true)
  | 2 => ("ClaimJudge$History", "oldest", "I", false)
  | _ => ("ClaimJudge$History", "count", "I", false)
def tyX1 : Nat → FieldType := fun k => match k with
  | 0 => .array (.object "ClaimJudge$Program")
  | 1 => .array (.object "ClaimJudge$Assumption")
  | 2 => .int
  | _ => .int
abbrev wsX10 : List Cond := u_ws RX1 TX1 4
theorem nmX1 : ∀ a, a < 4 → ∀ b, b < 4 → a ≠ b → (TX1 a).2.1 ≠ (TX1 b).2.1 := by decide +kernel
theorem tyX1_ok : ∀ k, k < 4 → parseFieldDescriptor (TX1 k).2.2.1 = some (tyX1 k) := by decide +kernel
abbrev cX1_init : ByteArray := prog_3_method_1_code
def yX1_init : MethodName := ⟨RX1, "<init>", "()V"⟩
abbrev cX1_save : ByteArray := prog_3_method_2_code
def yX1_save : MethodName := ⟨RX1, "save", "(LClaimJudge$Program;LClaimJudge$Assumption;)V"⟩
abbrev cX1_restore : ByteArray := prog_3_method_3_code
def yX1_restore : MethodName := ⟨RX1, "restore", "(LClaimJudge$Program;LClaimJudge$Assumption;)V"⟩
def RX2 : String := "ClaimJudge$Judgement"
def TX2 : u_T := fun k => match k with
  | 0 => ("ClaimJudge$Judgement", "program", "LClaimJudge$Program;", true)
  | 1 => ("ClaimJudge$Judgement", "assumption", "LClaimJudge$Assumption;", true)
  | 2 => ("ClaimJudge$Judgement", "runs", "LClaimJudge$Runs;", true)
  | 3 => ("ClaimJudge$Judgement", "examples", "[I", true)
  | 4 => ("ClaimJudge$Judgement", "lows", "[I", true)
  | 5 => ("ClaimJudge$Judgement", "highs", "[I", true)
  | 6 => ("ClaimJudge$Judgement", "endlessRuns", "I", false)
  | 7 => ("ClaimJudge$Judgement", "failedRuns", "I", false)
  | 8 => ("ClaimJudge$Judgement", "successfulRuns", "I", false)
  | 9 => ("ClaimJudge$Judgement", "visited", "[J", true)
  | _ => ("ClaimJudge$Judgement", "stale", "Z", false)
def tyX2 : Nat → FieldType := fun k => match k with
  | 0 => .object "ClaimJudge$Program"
  | 1 => .object "ClaimJudge$Assumption"
  | 2 => .object "ClaimJudge$Runs"
  | 3 => .array .int
  | 4 => .array .int
  | 5 => .array .int
  | 6 => .int
  | 7 => .int
  | 8 => .int
  | 9 => .array .long
  | _ => .boolean
abbrev wsX20 : List Cond := u_ws RX2 TX2 11
theorem nmX2 : ∀ a, a < 11 → ∀ b, b < 11 → a ≠ b → (TX2 a).2.1 ≠ (TX2 b).2.1 := by decide +kernel
theorem tyX2_ok : ∀ k, k < 11 → parseFieldDescriptor (TX2 k).2.2.1 = some (tyX2 k) := by decide +kernel
abbrev cX2_init : ByteArray := prog_4_method_1_code
def yX2_init : MethodName := ⟨RX2, "<init>", "(LClaimJudge$Program;LClaimJudge$Assumption;LClaimJudge$Runs;)V"⟩
abbrev cX2_forget : ByteArray := prog_4_method_2_code
def yX2_forget : MethodName := ⟨RX2, "forget", "()V"⟩
abbrev cX2_isReached : ByteArray := prog_4_method_3_code
def yX2_isReached : MethodName := ⟨RX2, "isReached", "(I)Z"⟩
abbrev cX2_refresh : ByteArray := prog_4_method_4_code
def yX2_refresh : MethodName := ⟨RX2, "refresh", "()V"⟩
abbrev cX2_clear : ByteArray := prog_4_method_5_code
def yX2_clear : MethodName := ⟨RX2, "clear", "()V"⟩
abbrev cX2_countRun : ByteArray := prog_4_method_6_code
def yX2_countRun : MethodName := ⟨RX2, "countRun", "(II)V"⟩
abbrev cX2_followRun : ByteArray := prog_4_method_7_code
def yX2_followRun : MethodName := ⟨RX2, "followRun", "(I)V"⟩
abbrev cX2_isVisited : ByteArray := prog_4_method_8_code
def yX2_isVisited : MethodName := ⟨RX2, "isVisited", "(I)Z"⟩
abbrev cX2_noteValues : ByteArray := prog_4_method_9_code
def yX2_noteValues : MethodName := ⟨RX2, "noteValues", "(I)V"⟩
def RX3 : String := "ClaimJudge$Program"
def TX3 : u_T := fun k => match k with
  | 0 => ("ClaimJudge$Program", "size", "I", false)
  | 1 => ("ClaimJudge$Program", "kinds", "[I", true)
  | 2 => ("ClaimJudge$Program", "variables", "[I", true)
  | 3 => ("ClaimJudge$Program", "signs", "[I", true)
  | 4 => ("ClaimJudge$Program", "operands", "[I", true)
  | 5 => ("ClaimJudge$Program", "addends", "[I", true)
  | _ => ("ClaimJudge$Program", "targets", "[I", true)
def tyX3 : Nat → FieldType := fun k => match k with
  | 0 => .int
  | 1 => .array .int
  | 2 => .array .int
  | 3 => .array .int
  | 4 => .array .int
  | 5 => .array .int
  | _ => .array .int
abbrev wsX30 : List Cond := u_ws RX3 TX3 7
theorem nmX3 : ∀ a, a < 7 → ∀ b, b < 7 → a ≠ b → (TX3 a).2.1 ≠ (TX3 b).2.1 := by decide +kernel
theorem tyX3_ok : ∀ k, k < 7 → parseFieldDescriptor (TX3 k).2.2.1 = some (tyX3 k) := by decide +kernel
abbrev cX3_init : ByteArray := prog_5_method_1_code
def yX3_init : MethodName := ⟨RX3, "<init>", "()V"⟩
abbrev cX3_clear : ByteArray := prog_5_method_2_code
def yX3_clear : MethodName := ⟨RX3, "clear", "()V"⟩
abbrev cX3_put : ByteArray := prog_5_method_3_code
def yX3_put : MethodName := ⟨RX3, "put", "(IIIIII)V"⟩
abbrev cX3_putAll : ByteArray := prog_5_method_4_code
def yX3_putAll : MethodName := ⟨RX3, "putAll", "(LClaimJudge$Program;)V"⟩
abbrev cX3_copyFrom : ByteArray := prog_5_method_5_code
def yX3_copyFrom : MethodName := ⟨RX3, "copyFrom", "(LClaimJudge$Program;)V"⟩
abbrev cX3_dropLast : ByteArray := prog_5_method_6_code
def yX3_dropLast : MethodName := ⟨RX3, "dropLast", "()V"⟩
abbrev cX3_highestTarget : ByteArray := prog_5_method_7_code
def yX3_highestTarget : MethodName := ⟨RX3, "highestTarget", "()I"⟩
abbrev cX3_isEnd : ByteArray := prog_5_method_8_code
def yX3_isEnd : MethodName := ⟨RX3, "isEnd", "(I)Z"⟩
abbrev cX3_placeAfter : ByteArray := prog_5_method_9_code
def yX3_placeAfter : MethodName := ⟨RX3, "placeAfter", "(I)I"⟩
abbrev cX3_compares : ByteArray := prog_5_method_10_code
def yX3_compares : MethodName := ⟨RX3, "compares", "(III)Z"⟩
def RX4 : String := "ClaimJudge$Runs"
def TX4 : u_T := fun k => match k with
  | 0 => ("ClaimJudge$Runs", "program", "LClaimJudge$Program;", true)
  | 1 => ("ClaimJudge$Runs", "ends", "[I", true)
  | _ => ("ClaimJudge$Runs", "stale", "Z", false)
def tyX4 : Nat → FieldType := fun k => match k with
  | 0 => .object "ClaimJudge$Program"
  | 1 => .array .int
  | _ => .boolean
abbrev wsX40 : List Cond := u_ws RX4 TX4 3
theorem nmX4 : ∀ a, a < 3 → ∀ b, b < 3 → a ≠ b → (TX4 a).2.1 ≠ (TX4 b).2.1 := by decide +kernel
theorem tyX4_ok : ∀ k, k < 3 → parseFieldDescriptor (TX4 k).2.2.1 = some (tyX4 k) := by decide +kernel
abbrev cX4_init : ByteArray := prog_6_method_1_code
def yX4_init : MethodName := ⟨RX4, "<init>", "(LClaimJudge$Program;)V"⟩
abbrev cX4_forget : ByteArray := prog_6_method_2_code
def yX4_forget : MethodName := ⟨RX4, "forget", "()V"⟩
abbrev cX4_succeedsFrom : ByteArray := prog_6_method_3_code
def yX4_succeedsFrom : MethodName := ⟨RX4, "succeedsFrom", "(I)Z"⟩
abbrev cX4_endFrom : ByteArray := prog_6_method_4_code
def yX4_endFrom : MethodName := ⟨RX4, "endFrom", "(I)I"⟩
abbrev cX4_endAt : ByteArray := prog_6_method_5_code
def yX4_endAt : MethodName := ⟨RX4, "endAt", "(I)I"⟩
abbrev cX4_settle : ByteArray := prog_6_method_6_code
def yX4_settle : MethodName := ⟨RX4, "settle", "(II)V"⟩
abbrev cX4_lengthFrom : ByteArray := prog_6_method_7_code
def yX4_lengthFrom : MethodName := ⟨RX4, "lengthFrom", "(I)I"⟩
def RX5 : String := "ClaimJudge$Text"
def TX5 : u_T := fun k => match k with
  | 0 => ("ClaimJudge$Text", "characters", "[C", true)
  | 1 => ("ClaimJudge$Text", "length", "I", false)
  | 2 => ("ClaimJudge$Text", "loaded", "LClaimJudge$Program;", true)
  | 3 => ("ClaimJudge$Text", "at", "I", false)
  | 4 => ("ClaimJudge$Text", "variable", "I", false)
  | 5 => ("ClaimJudge$Text", "sign", "I", false)
  | 6 => ("ClaimJudge$Text", "operand", "I", false)
  | 7 => ("ClaimJudge$Text", "addend", "I", false)
  | _ => ("ClaimJudge$Text", "goal", "I", false)
def tyX5 : Nat → FieldType := fun k => match k with
  | 0 => .array .char
  | 1 => .int
  | 2 => .object "ClaimJudge$Program"
  | 3 => .int
  | 4 => .int
  | 5 => .int
  | 6 => .int
  | 7 => .int
  | _ => .int
abbrev wsX50 : List Cond := u_ws RX5 TX5 9
theorem nmX5 : ∀ a, a < 9 → ∀ b, b < 9 → a ≠ b → (TX5 a).2.1 ≠ (TX5 b).2.1 := by decide +kernel
theorem tyX5_ok : ∀ k, k < 9 → parseFieldDescriptor (TX5 k).2.2.1 = some (tyX5 k) := by decide +kernel
abbrev cX5_init : ByteArray := prog_7_method_1_code
def yX5_init : MethodName := ⟨RX5, "<init>", "()V"⟩
abbrev cX5_put : ByteArray := prog_7_method_2_code
def yX5_put : MethodName := ⟨RX5, "put", "(C)V"⟩
abbrev cX5_clear : ByteArray := prog_7_method_3_code
def yX5_clear : MethodName := ⟨RX5, "clear", "()V"⟩
abbrev cX5_readAll : ByteArray := prog_7_method_4_code
def yX5_readAll : MethodName := ⟨RX5, "readAll", "()Z"⟩
abbrev cX5_takeStatement : ByteArray := prog_7_method_5_code
def yX5_takeStatement : MethodName := ⟨RX5, "takeStatement", "()Z"⟩
abbrev cX5_keep : ByteArray := prog_7_method_6_code
def yX5_keep : MethodName := ⟨RX5, "keep", "(I)Z"⟩
abbrev cX5_takeTest : ByteArray := prog_7_method_7_code
def yX5_takeTest : MethodName := ⟨RX5, "takeTest", "()Z"⟩
abbrev cX5_takeVariable : ByteArray := prog_7_method_8_code
def yX5_takeVariable : MethodName := ⟨RX5, "takeVariable", "()Z"⟩
abbrev cX5_takeSign : ByteArray := prog_7_method_9_code
def yX5_takeSign : MethodName := ⟨RX5, "takeSign", "()Z"⟩
abbrev cX5_takeOperand : ByteArray := prog_7_method_10_code
def yX5_takeOperand : MethodName := ⟨RX5, "takeOperand", "()Z"⟩
abbrev cX5_takeAddend : ByteArray := prog_7_method_11_code
def yX5_takeAddend : MethodName := ⟨RX5, "takeAddend", "()Z"⟩
abbrev cX5_takeGoal : ByteArray := prog_7_method_12_code
def yX5_takeGoal : MethodName := ⟨RX5, "takeGoal", "()Z"⟩
abbrev cX5_take : ByteArray := prog_7_method_13_code
def yX5_take : MethodName := ⟨RX5, "take", "(C)Z"⟩
abbrev cX5_isDigitTo : ByteArray := prog_7_method_14_code
def yX5_isDigitTo : MethodName := ⟨RX5, "isDigitTo", "(C)Z"⟩
abbrev cX5_next : ByteArray := prog_7_method_15_code
def yX5_next : MethodName := ⟨RX5, "next", "()C"⟩
def RX6 : String := "ClaimJudge"
def TX6 : u_T := fun k => match k with
  | 0 => ("ClaimJudge", "program", "LClaimJudge$Program;", true)
  | 1 => ("ClaimJudge", "assumption", "LClaimJudge$Assumption;", true)
  | 2 => ("ClaimJudge", "runs", "LClaimJudge$Runs;", true)
  | 3 => ("ClaimJudge", "judgement", "LClaimJudge$Judgement;", true)
  | 4 => ("ClaimJudge", "history", "LClaimJudge$History;", true)
  | _ => ("ClaimJudge", "text", "LClaimJudge$Text;", true)
def tyX6 : Nat → FieldType := fun k => match k with
  | 0 => .object "ClaimJudge$Program"
  | 1 => .object "ClaimJudge$Assumption"
  | 2 => .object "ClaimJudge$Runs"
  | 3 => .object "ClaimJudge$Judgement"
  | 4 => .object "ClaimJudge$History"
  | _ => .object "ClaimJudge$Text"
abbrev wsX60 : List Cond := u_ws RX6 TX6 6
theorem nmX6 : ∀ a, a < 6 → ∀ b, b < 6 → a ≠ b → (TX6 a).2.1 ≠ (TX6 b).2.1 := by decide +kernel
theorem tyX6_ok : ∀ k, k < 6 → parseFieldDescriptor (TX6 k).2.2.1 = some (tyX6 k) := by decide +kernel
abbrev cX6_init : ByteArray := prog_1_method_1_code
def yX6_init : MethodName := ⟨RX6, "<init>", "()V"⟩
abbrev cX6_load : ByteArray := prog_1_method_2_code
def yX6_load : MethodName := ⟨RX6, "load", "()I"⟩
abbrev cX6_add : ByteArray := prog_1_method_3_code
def yX6_add : MethodName := ⟨RX6, "add", "()I"⟩
abbrev cX6_removeLast : ByteArray := prog_1_method_4_code
def yX6_removeLast : MethodName := ⟨RX6, "removeLast", "()I"⟩
abbrev cX6_statements : ByteArray := prog_1_method_5_code
def yX6_statements : MethodName := ⟨RX6, "statements", "()I"⟩
abbrev cX6_kind : ByteArray := prog_1_method_6_code
def yX6_kind : MethodName := ⟨RX6, "kind", "(I)I"⟩
abbrev cX6_target : ByteArray := prog_1_method_7_code
def yX6_target : MethodName := ⟨RX6, "target", "(I)I"⟩
abbrev cX6_run : ByteArray := prog_1_method_8_code
def yX6_run : MethodName := ⟨RX6, "run", "(III)I"⟩
abbrev cX6_steps : ByteArray := prog_1_method_9_code
def yX6_steps : MethodName := ⟨RX6, "steps", "(III)I"⟩
abbrev cX6_demand : ByteArray := prog_1_method_10_code
def yX6_demand : MethodName := ⟨RX6, "demand", "(I)I"⟩
abbrev cX6_demands : ByteArray := prog_1_method_11_code
def yX6_demands : MethodName := ⟨RX6, "demands", "(IIII)Z"⟩
abbrev cX6_assume : ByteArray := prog_1_method_12_code
def yX6_assume : MethodName := ⟨RX6, "assume", "(III)I"⟩
abbrev cX6_verdict : ByteArray := prog_1_method_13_code
def yX6_verdict : MethodName := ⟨RX6, "verdict", "(I)I"⟩
abbrev cX6_example : ByteArray := prog_1_method_14_code
def yX6_example : MethodName := ⟨RX6, "example", "(I)I"⟩
abbrev cX6_endless : ByteArray := prog_1_method_15_code
def yX6_endless : MethodName := ⟨RX6, "endless", "()I"⟩
abbrev cX6_proof : ByteArray := prog_1_method_16_code
def yX6_proof : MethodName := ⟨RX6, "proof", "()I"⟩
abbrev cX6_provedShare : ByteArray := prog_1_method_17_code
def yX6_provedShare : MethodName := ⟨RX6, "provedShare", "()D"⟩
abbrev cX6_least : ByteArray := prog_1_method_18_code
def yX6_least : MethodName := ⟨RX6, "least", "(II)I"⟩
abbrev cX6_greatest : ByteArray := prog_1_method_19_code
def yX6_greatest : MethodName := ⟨RX6, "greatest", "(II)I"⟩
abbrev cX6_widest : ByteArray := prog_1_method_20_code
def yX6_widest : MethodName := ⟨RX6, "widest", "(I)I"⟩
abbrev cX6_append : ByteArray := prog_1_method_21_code
def yX6_append : MethodName := ⟨RX6, "append", "(I)I"⟩
abbrev cX6_clearBuffer : ByteArray := prog_1_method_22_code
def yX6_clearBuffer : MethodName := ⟨RX6, "clearBuffer", "()I"⟩
abbrev cX6_undo : ByteArray := prog_1_method_24_code
def yX6_undo : MethodName := ⟨RX6, "undo", "()I"⟩
abbrev cX6_savedStates : ByteArray := prog_1_method_25_code
def yX6_savedStates : MethodName := ⟨RX6, "savedStates", "()I"⟩
abbrev cX6_fitsBehind : ByteArray := prog_1_method_27_code
def yX6_fitsBehind : MethodName := ⟨RX6, "fitsBehind", "(LClaimJudge$Program;)Z"⟩
abbrev cX6_unprovedValues : ByteArray := prog_1_method_28_code
def yX6_unprovedValues : MethodName := ⟨RX6, "unprovedValues", "(I)I"⟩
abbrev cX6_widestRange : ByteArray := prog_1_method_29_code
def yX6_widestRange : MethodName := ⟨RX6, "widestRange", "(I)I"⟩
abbrev cX6_saveState : ByteArray := prog_1_method_30_code
def yX6_saveState : MethodName := ⟨RX6, "saveState", "()V"⟩
abbrev cX6_forgetProgram : ByteArray := prog_1_method_31_code
def yX6_forgetProgram : MethodName := ⟨RX6, "forgetProgram", "()V"⟩
abbrev cX6_checkIndex : ByteArray := prog_1_method_32_code
def yX6_checkIndex : MethodName := ⟨RX6, "checkIndex", "(II)V"⟩
abbrev cX6_checkValues : ByteArray := prog_1_method_33_code
def yX6_checkValues : MethodName := ⟨RX6, "checkValues", "(III)V"⟩
abbrev cX6_isValue : ByteArray := prog_1_method_34_code
def yX6_isValue : MethodName := ⟨RX6, "isValue", "(I)Z"⟩
abbrev cX6_tripleOf : ByteArray := prog_1_method_35_code
def yX6_tripleOf : MethodName := ⟨RX6, "tripleOf", "(III)I"⟩
abbrev cX6_valueOf : ByteArray := prog_1_method_36_code
def yX6_valueOf : MethodName := ⟨RX6, "valueOf", "(II)I"⟩
abbrev cX6_withValue : ByteArray := prog_1_method_37_code
def yX6_withValue : MethodName := ⟨RX6, "withValue", "(III)I"⟩
abbrev cX6_placeOf : ByteArray := prog_1_method_38_code
def yX6_placeOf : MethodName := ⟨RX6, "placeOf", "(II)I"⟩
abbrev cX6_statementAt : ByteArray := prog_1_method_39_code
def yX6_statementAt : MethodName := ⟨RX6, "statementAt", "(I)I"⟩
abbrev cX6_tripleAt : ByteArray := prog_1_method_40_code
def yX6_tripleAt : MethodName := ⟨RX6, "tripleAt", "(I)I"⟩
def RX7 : String := "ClaimJudgeModel"
def TX7 : u_T := fun k => match k with
  | _ => ("", "", "", false)
def tyX7 : Nat → FieldType := fun k => match k with
  | _ => .int
abbrev wsX70 : List Cond := u_ws RX7 TX7 0
theorem nmX7 : ∀ a, a < 0 → ∀ b, b < 0 → a ≠ b → (TX7 a).2.1 ≠ (TX7 b).2.1 := by decide +kernel
theorem tyX7_ok : ∀ k, k < 0 → parseFieldDescriptor (TX7 k).2.2.1 = some (tyX7 k) := by decide +kernel
def RJx145de : String := "java/io/Serializable"
def TJx145de : u_T := fun k => match k with
  | _ => ("", "", "", false)
def tyJx145de : Nat → FieldType := fun k => match k with
  | _ => .int
abbrev wsJx145de0 : List Cond := u_ws RJx145de TJx145de 0
theorem nmJx145de : ∀ a, a < 0 → ∀ b, b < 0 → a ≠ b → (TJx145de a).2.1 ≠ (TJx145de b).2.1 := by decide +kernel
theorem tyJx145de_ok : ∀ k, k < 0 → parseFieldDescriptor (TJx145de k).2.2.1 = some (tyJx145de k) := by decide +kernel
def RJx9f9b0 : String := "java/lang/CharSequence"
def TJx9f9b0 : u_T := fun k => match k with
  | _ => ("", "", "", false)
def tyJx9f9b0 : Nat → FieldType := fun k => match k with
  | _ => .int
abbrev wsJx9f9b00 : List Cond := u_ws RJx9f9b0 TJx9f9b0 0
theorem nmJx9f9b0 : ∀ a, a < 0 → ∀ b, b < 0 → a ≠ b → (TJx9f9b0 a).2.1 ≠ (TJx9f9b0 b).2.1 := by decide +kernel
theorem tyJx9f9b0_ok : ∀ k, k < 0 → parseFieldDescriptor (TJx9f9b0 k).2.2.1 = some (tyJx9f9b0 k) := by decide +kernel
def RJ11 : String := "java/lang/Character"
def TJ11 : u_T := fun k => match k with
  | _ => ("", "", "", false)
def tyJ11 : Nat → FieldType := fun k => match k with
  | _ => .int
abbrev wsJ110 : List Cond := u_ws RJ11 TJ11 0
theorem nmJ11 : ∀ a, a < 0 → ∀ b, b < 0 → a ≠ b → (TJ11 a).2.1 ≠ (TJ11 b).2.1 := by decide +kernel
theorem tyJ11_ok : ∀ k, k < 0 → parseFieldDescriptor (TJ11 k).2.2.1 = some (tyJ11 k) := by decide +kernel
abbrev cJ11_isValidCodePoint_9a6ad : ByteArray := prog_10_method_11_code
def yJ11_isValidCodePoint_9a6ad : MethodName := ⟨RJ11, "isValidCodePoint", "(I)Z"⟩
abbrev cJ11_highSurrogate_5068e : ByteArray := prog_10_method_28_code
def yJ11_highSurrogate_5068e : MethodName := ⟨RJ11, "highSurrogate", "(I)C"⟩
abbrev cJ11_lowSurrogate_5068e : ByteArray := prog_10_method_29_code
def yJ11_lowSurrogate_5068e : MethodName := ⟨RJ11, "lowSurrogate", "(I)C"⟩
def RJxb160c : String := "java/lang/Comparable"
def TJxb160c : u_T := fun k => match k with
  | _ => ("", "", "", false)
def tyJxb160c : Nat → FieldType := fun k => match k with
  | _ => .int
abbrev wsJxb160c0 : List Cond := u_ws RJxb160c TJxb160c 0
theorem nmJxb160c : ∀ a, a < 0 → ∀ b, b < 0 → a ≠ b → (TJxb160c a).2.1 ≠ (TJxb160c b).2.1 := by decide +kernel
theorem tyJxb160c_ok : ∀ k, k < 0 → parseFieldDescriptor (TJxb160c k).2.2.1 = some (tyJxb160c k) := by decide +kernel
def RJ9 : String := "java/lang/Math"
def TJ9 : u_T := fun k => match k with
  | _ => ("", "", "", false)
def tyJ9 : Nat → FieldType := fun k => match k with
  | _ => .int
abbrev wsJ90 : List Cond := u_ws RJ9 TJ9 0
theorem nmJ9 : ∀ a, a < 0 → ∀ b, b < 0 → a ≠ b → (TJ9 a).2.1 ≠ (TJ9 b).2.1 := by decide +kernel
theorem tyJ9_ok : ∀ k, k < 0 → parseFieldDescriptor (TJ9 k).2.2.1 = some (tyJ9 k) := by decide +kernel
abbrev cJ9_max_7cf53 : ByteArray := prog_15_method_65_code
def yJ9_max_7cf53 : MethodName := ⟨RJ9, "max", "(II)I"⟩
abbrev cJ9_min_7cf53 : ByteArray := prog_15_method_69_code
def yJ9_min_7cf53 : MethodName := ⟨RJ9, "min", "(II)I"⟩
def RJ0 : String := "java/lang/String"
def TJ0 : u_T := fun k => match k with
  | _ => ("", "", "", false)
def tyJ0 : Nat → FieldType := fun k => match k with
  | _ => .int
abbrev wsJ00 : List Cond := u_ws RJ0 TJ0 0
theorem nmJ0 : ∀ a, a < 0 → ∀ b, b < 0 → a ≠ b → (TJ0 a).2.1 ≠ (TJ0 b).2.1 := by decide +kernel
theorem tyJ0_ok : ∀ k, k < 0 → parseFieldDescriptor (TJ0 k).2.2.1 = some (tyJ0 k) := by decide +kernel
abbrev cJ0_length_8abf5 : ByteArray := prog_17_method_54_code
def yJ0_length_8abf5 : MethodName := ⟨RJ0, "length", "()I"⟩
abbrev cJ0_indexOf_0f7a4 : ByteArray := prog_17_method_79_code
def yJ0_indexOf_0f7a4 : MethodName := ⟨RJ0, "indexOf", "(I)I"⟩
abbrev cJ0_indexOf_7cf53 : ByteArray := prog_17_method_80_code
def yJ0_indexOf_7cf53 : MethodName := ⟨RJ0, "indexOf", "(II)I"⟩
abbrev cJ0_coder_7d493 : ByteArray := prog_17_method_152_code
def yJ0_coder_7d493 : MethodName := ⟨RJ0, "coder", "()B"⟩
abbrev cJ0_isLatin1_aae02 : ByteArray := prog_17_method_154_code
def yJ0_isLatin1_aae02 : MethodName := ⟨RJ0, "isLatin1", "()Z"⟩
abbrev cJ0_checkBoundsBeginEnd_23922 : ByteArray := prog_17_method_158_code
def yJ0_checkBoundsBeginEnd_23922 : MethodName := ⟨RJ0, "checkBoundsBeginEnd", "(III)V"⟩
def RJ1 : String := "java/lang/StringLatin1"
def TJ1 : u_T := fun k => match k with
  | _ => ("", "", "", false)
def tyJ1 : Nat → FieldType := fun k => match k with
  | _ => .int
abbrev wsJ10 : List Cond := u_ws RJ1 TJ1 0
theorem nmJ1 : ∀ a, a < 0 → ∀ b, b < 0 → a ≠ b → (TJ1 a).2.1 ≠ (TJ1 b).2.1 := by decide +kernel
theorem tyJ1_ok : ∀ k, k < 0 → parseFieldDescriptor (TJ1 k).2.2.1 = some (tyJ1 k) := by decide +kernel
abbrev cJ1_canEncode_9a6ad : ByteArray := prog_18_method_4_code
def yJ1_canEncode_9a6ad : MethodName := ⟨RJ1, "canEncode", "(I)Z"⟩
abbrev cJ1_indexOf_4cfef : ByteArray := prog_18_method_22_code
def yJ1_indexOf_4cfef : MethodName := ⟨RJ1, "indexOf", "([BIII)I"⟩
abbrev cJ1_indexOfChar_4cfef : ByteArray := prog_18_method_23_code
def yJ1_indexOfChar_4cfef : MethodName := ⟨RJ1, "indexOfChar", "([BIII)I"⟩
def RJ2 : String := "java/lang/StringUTF16"
def TJ2 : u_T := fun k => match k with
  | _ => ("", "", "", false)
def tyJ2 : Nat → FieldType := fun k => match k with
  | _ => .int
abbrev wsJ20 : List Cond := u_ws RJ2 TJ2 0
theorem nmJ2 : ∀ a, a < 0 → ∀ b, b < 0 → a ≠ b → (TJ2 a).2.1 ≠ (TJ2 b).2.1 := by decide +kernel
theorem tyJ2_ok : ∀ k, k < 0 → parseFieldDescriptor (TJ2 k).2.2.1 = some (tyJ2 k) := by decide +kernel
abbrev cJ2_getChar_3b067 : ByteArray := prog_19_method_5_code
def yJ2_getChar_3b067 : MethodName := ⟨RJ2, "getChar", "([BI)C"⟩
abbrev cJ2_length_9d52b : ByteArray := prog_19_method_6_code
def yJ2_length_9d52b : MethodName := ⟨RJ2, "length", "([B)I"⟩
abbrev cJ2_indexOf_4cfef : ByteArray := prog_19_method_40_code
def yJ2_indexOf_4cfef : MethodName := ⟨RJ2, "indexOf", "([BIII)I"⟩
abbrev cJ2_indexOfChar_4cfef : ByteArray := prog_19_method_47_code
def yJ2_indexOfChar_4cfef : MethodName := ⟨RJ2, "indexOfChar", "([BIII)I"⟩
abbrev cJ2_indexOfCharUnsafe_4cfef : ByteArray := prog_19_method_48_code
def yJ2_indexOfCharUnsafe_4cfef : MethodName := ⟨RJ2, "indexOfCharUnsafe", "([BIII)I"⟩
abbrev cJ2_indexOfSupplementary_4cfef : ByteArray := prog_19_method_49_code
def yJ2_indexOfSupplementary_4cfef : MethodName := ⟨RJ2, "indexOfSupplementary", "([BIII)I"⟩
abbrev cJ2_checkBoundsBeginEnd_d044e : ByteArray := prog_19_method_93_code
def yJ2_checkBoundsBeginEnd_d044e : MethodName := ⟨RJ2, "checkBoundsBeginEnd", "(II[B)V"⟩
def RJxfd54e : String := "java/lang/constant/Constable"
def TJxfd54e : u_T := fun k => match k with
  | _ => ("", "", "", false)
def tyJxfd54e : Nat → FieldType := fun k => match k with
  | _ => .int
abbrev wsJxfd54e0 : List Cond := u_ws RJxfd54e TJxfd54e 0
theorem nmJxfd54e : ∀ a, a < 0 → ∀ b, b < 0 → a ≠ b → (TJxfd54e a).2.1 ≠ (TJxfd54e b).2.1 := by decide +kernel
theorem tyJxfd54e_ok : ∀ k, k < 0 → parseFieldDescriptor (TJxfd54e k).2.2.1 = some (tyJxfd54e k) := by decide +kernel
def RJx3cf43 : String := "java/lang/constant/ConstantDesc"
def TJx3cf43 : u_T := fun k => match k with
  | _ => ("", "", "", false)
def tyJx3cf43 : Nat → FieldType := fun k => match k with
  | _ => .int
abbrev wsJx3cf430 : List Cond := u_ws RJx3cf43 TJx3cf43 0
theorem nmJx3cf43 : ∀ a, a < 0 → ∀ b, b < 0 → a ≠ b → (TJx3cf43 a).2.1 ≠ (TJx3cf43 b).2.1 := by decide +kernel
theorem tyJx3cf43_ok : ∀ k, k < 0 → parseFieldDescriptor (TJx3cf43 k).2.2.1 = some (tyJx3cf43 k) := by decide +kernel
def RJ7 : String := "java/util/Arrays"
def TJ7 : u_T := fun k => match k with
  | _ => ("", "", "", false)
def tyJ7 : Nat → FieldType := fun k => match k with
  | _ => .int
abbrev wsJ70 : List Cond := u_ws RJ7 TJ7 0
theorem nmJ7 : ∀ a, a < 0 → ∀ b, b < 0 → a ≠ b → (TJ7 a).2.1 ≠ (TJ7 b).2.1 := by decide +kernel
theorem tyJ7_ok : ∀ k, k < 0 → parseFieldDescriptor (TJ7 k).2.2.1 = some (tyJ7 k) := by decide +kernel
abbrev cJ7_fill_d0a16 : ByteArray := prog_21_method_101_code
def yJ7_fill_d0a16 : MethodName := ⟨RJ7, "fill", "([JJ)V"⟩
abbrev cJ7_fill_53178 : ByteArray := prog_21_method_103_code
def yJ7_fill_53178 : MethodName := ⟨RJ7, "fill", "([II)V"⟩
def RJ3 : String := "jdk/internal/util/Preconditions"
def TJ3 : u_T := fun k => match k with
  | _ => ("", "", "", false)
def tyJ3 : Nat → FieldType := fun k => match k with
  | _ => .int
abbrev wsJ30 : List Cond := u_ws RJ3 TJ3 0
theorem nmJ3 : ∀ a, a < 0 → ∀ b, b < 0 → a ≠ b → (TJ3 a).2.1 ≠ (TJ3 b).2.1 := by decide +kernel
theorem tyJ3_ok : ∀ k, k < 0 → parseFieldDescriptor (TJ3 k).2.2.1 = some (tyJ3 k) := by decide +kernel
abbrev cJ3_checkFromToIndex_8c36e : ByteArray := prog_22_method_12_code
def yJ3_checkFromToIndex_8c36e : MethodName := ⟨RJ3, "checkFromToIndex", "(IIILjava/util/function/BiFunction;)I"⟩
def RL : String := "ClaimJudgeLaw"
abbrev cL_cell : ByteArray := method_2_code
def yL_cell : MethodName := ⟨RL, "cell", "([II)I"⟩
abbrev cL_low : ByteArray := method_3_code
def yL_low : MethodName := ⟨RL, "low", "(II)I"⟩
abbrev cL_changes : ByteArray := method_4_code
def yL_changes : MethodName := ⟨RL, "changes", "(LClaimJudge;IIII[I)I"⟩
abbrev cL_typed : ByteArray := method_5_code
def yL_typed : MethodName := ⟨RL, "typed", "(LClaimJudge;II)I"⟩
abbrev cL_act : ByteArray := method_6_code
def yL_act : MethodName := ⟨RL, "act", "(LClaimJudge;[II[I)I"⟩
abbrev cL_areAlike : ByteArray := method_7_code
def yL_areAlike : MethodName := ⟨RL, "areAlike", "(LClaimJudge;LClaimJudge;)Z"⟩
abbrev cL_areRunsSo : ByteArray := method_8_code
def yL_areRunsSo : MethodName := ⟨RL, "areRunsSo", "(LClaimJudge;I)Z"⟩
abbrev cL_areClaimsSo : ByteArray := method_9_code
def yL_areClaimsSo : MethodName := ⟨RL, "areClaimsSo", "(LClaimJudge;)Z"⟩
abbrev cL_isWidestSo : ByteArray := method_10_code
def yL_isWidestSo : MethodName := ⟨RL, "isWidestSo", "(LClaimJudge;I[I)Z"⟩
abbrev cL_law : ByteArray := code
def yL_law : MethodName := ⟨RL, "law", "([I)Z"⟩
def wsL_law0_r1 : List Cond := [Cond.classLink RL 9 RX6, Cond.instantiable RX6 6, Cond.initialized RX6, Cond.arrayClass .int, Cond.methodLink RL 105 yX6_init, Cond.instanceMethod yX6_init, Cond.code yX6_init cX6_init 1 none, Cond.methodLink RX6 3 objectInit, Cond.instanceMethod objectInit, Cond.code objectInit ⟨#[0xb1]⟩ 1 none, Cond.classLink RX6 9 RX3, Cond.instantiable RX3 7, Cond.initialized RX3, Cond.fieldLink RX6 12 "ClaimJudge" "program" "LClaimJudge$Program;", Cond.classLink RX6 16 RX0, Cond.instantiable RX0 2, Cond.initialized RX0, Cond.fieldLink RX6 19 "ClaimJudge" "assumption" "LClaimJudge$Assumption;", Cond.classLink RX6 23 RX4, Cond.instantiable RX4 3, Cond.initialized RX4, Cond.fieldLink RX6 28 "ClaimJudge" "runs" "LClaimJudge$Runs;", Cond.classLink RX6 32 RX2, Cond.instantiable RX2 11]
def wsL_law0_r2 : List Cond := [Cond.initialized RX2, Cond.fieldLink RX6 37 "ClaimJudge" "judgement" "LClaimJudge$Judgement;", Cond.classLink RX6 41 RX1, Cond.instantiable RX1 4, Cond.initialized RX1, Cond.fieldLink RX6 44 "ClaimJudge" "history" "LClaimJudge$History;", Cond.classLink RX6 48 RX5, Cond.instantiable RX5 9, Cond.initialized RX5, Cond.fieldLink RX6 51 "ClaimJudge" "text" "LClaimJudge$Text;", Cond.instanceMethod yX3_init, Cond.code yX3_init cX3_init 1 none, Cond.methodLink RX3 3 objectInit, Cond.fieldLink RX3 9 "ClaimJudge$Program" "kinds" "[I", Cond.fieldLink RX3 15 "ClaimJudge$Program" "variables" "[I", Cond.fieldLink RX3 18 "ClaimJudge$Program" "signs" "[I", Cond.fieldLink RX3 21 "ClaimJudge$Program" "operands" "[I", Cond.fieldLink RX3 24 "ClaimJudge$Program" "addends" "[I", Cond.fieldLink RX3 27 "ClaimJudge$Program" "targets" "[I", Cond.instanceMethod yX0_init, Cond.code yX0_init cX0_init 1 none, Cond.methodLink RX0 3 objectInit, Cond.fieldLink RX0 9 "ClaimJudge$Assumption" "lowest" "[I", Cond.fieldLink RX0 15 "ClaimJudge$Assumption" "highest" "[I"]
def wsL_law0_r3 : List Cond := [Cond.methodLink RX6 25 yX4_init, Cond.instanceMethod yX4_init, Cond.code yX4_init cX4_init 2 none, Cond.methodLink RX4 3 objectInit, Cond.fieldLink RX4 9 "ClaimJudge$Runs" "ends" "[I", Cond.fieldLink RX4 15 "ClaimJudge$Runs" "stale" "Z", Cond.fieldLink RX4 19 "ClaimJudge$Runs" "program" "LClaimJudge$Program;", Cond.methodLink RX6 34 yX2_init, Cond.instanceMethod yX2_init, Cond.code yX2_init cX2_init 4 none, Cond.methodLink RX2 3 objectInit, Cond.fieldLink RX2 9 "ClaimJudge$Judgement" "examples" "[I", Cond.fieldLink RX2 15 "ClaimJudge$Judgement" "lows" "[I", Cond.fieldLink RX2 18 "ClaimJudge$Judgement" "highs" "[I", Cond.arrayClass .long, Cond.fieldLink RX2 21 "ClaimJudge$Judgement" "visited" "[J", Cond.fieldLink RX2 25 "ClaimJudge$Judgement" "stale" "Z", Cond.fieldLink RX2 29 "ClaimJudge$Judgement" "program" "LClaimJudge$Program;", Cond.fieldLink RX2 33 "ClaimJudge$Judgement" "assumption" "LClaimJudge$Assumption;", Cond.fieldLink RX2 37 "ClaimJudge$Judgement" "runs" "LClaimJudge$Runs;", Cond.methodLink RX6 43 yX1_init, Cond.instanceMethod yX1_init, Cond.code yX1_init cX1_init 2 none, Cond.methodLink RX1 3 objectInit]
def wsL_law0_r4 : List Cond := [Cond.classLink RX1 9 RX3, Cond.fieldLink RX1 11 "ClaimJudge$History" "programs" "[LClaimJudge$Program;", Cond.classLink RX1 17 RX0, Cond.fieldLink RX1 19 "ClaimJudge$History" "assumptions" "[LClaimJudge$Assumption;", Cond.instanceMethod yX5_init, Cond.code yX5_init cX5_init 1 none, Cond.methodLink RX5 3 objectInit, Cond.arrayClass .char, Cond.fieldLink RX5 9 "ClaimJudge$Text" "characters" "[C", Cond.classLink RX5 15 RX3, Cond.fieldLink RX5 18 "ClaimJudge$Text" "loaded" "LClaimJudge$Program;", Cond.methodLink RL 40 yL_cell, Cond.static yL_cell, Cond.initialized RL, Cond.code yL_cell cL_cell 2 (some .int), Cond.methodLink RL 106 yX6_savedStates, Cond.instanceMethod yX6_savedStates, Cond.selects RX6 yX6_savedStates yX6_savedStates, Cond.code yX6_savedStates cX6_savedStates 1 (some .int), Cond.methodLink RL 109 yL_act, Cond.static yL_act, Cond.code yL_act cL_act 13 (some .int), Cond.methodLink RL 30 yL_low, Cond.static yL_low]
def wsL_law0_r5 : List Cond := [Cond.code yL_low cL_low 2 (some .int), Cond.constant RL 7 (2147483647), Cond.methodLink RL 44 yX6_statements, Cond.instanceMethod yX6_statements, Cond.selects RX6 yX6_statements yX6_statements, Cond.code yX6_statements cX6_statements 1 (some .int), Cond.methodLink RL 36 yX6_append, Cond.instanceMethod yX6_append, Cond.selects RX6 yX6_append yX6_append, Cond.code yX6_append cX6_append 2 (some .int), Cond.classLink RX6 70 "java/lang/IllegalArgumentException", Cond.initialized "java/lang/IllegalArgumentException", Cond.classLink RX6 98 "java/lang/IllegalStateException", Cond.initialized "java/lang/IllegalStateException", Cond.methodLink RX6 191 yX5_put, Cond.instanceMethod yX5_put, Cond.selects RX5 yX5_put yX5_put, Cond.code yX5_put cX5_put 2 none, Cond.fieldLink RX5 22 "ClaimJudge$Text" "length" "I", Cond.methodLink RL 47 yL_typed, Cond.static yL_typed, Cond.code yL_typed cL_typed 7 (some .int), Cond.methodLink RL 51 yL_changes, Cond.static yL_changes]
def wsL_law0_r6 : List Cond := [Cond.codeWith yL_changes cL_changes 7 (some .int) [(0, 47, 50, 24), (0, 47, 54, 26), (0, 47, 58, 28)], Cond.classLink RL 24 "java/lang/IndexOutOfBoundsException", Cond.classLink RL 26 "java/lang/IllegalArgumentException", Cond.classLink RL 28 "java/lang/IllegalStateException", Cond.methodLink RL 8 yX6_load, Cond.instanceMethod yX6_load, Cond.selects RX6 yX6_load yX6_load, Cond.code yX6_load cX6_load 2 (some .int), Cond.methodLink RX6 58 yX5_readAll, Cond.instanceMethod yX5_readAll, Cond.selects RX5 yX5_readAll yX5_readAll, Cond.code yX5_readAll cX5_readAll 2 (some .boolean), Cond.fieldLink RX5 26 "ClaimJudge$Text" "at" "I", Cond.methodLink RX5 29 yX3_clear, Cond.instanceMethod yX3_clear, Cond.selects RX3 yX3_clear yX3_clear, Cond.code yX3_clear cX3_clear 1 none, Cond.fieldLink RX3 30 "ClaimJudge$Program" "size" "I", Cond.methodLink RX5 32 yX5_takeStatement, Cond.instanceMethod yX5_takeStatement, Cond.selects RX5 yX5_takeStatement yX5_takeStatement, Cond.code yX5_takeStatement cX5_takeStatement 1 (some .boolean), Cond.fieldLink RX5 40 "ClaimJudge$Text" "sign" "I", Cond.fieldLink RX5 43 "ClaimJudge$Text" "addend" "I"]
def wsL_law0_r7 : List Cond := [Cond.fieldLink RX5 46 "ClaimJudge$Text" "goal" "I", Cond.methodLink RX5 36 yX5_take, Cond.instanceMethod yX5_take, Cond.selects RX5 yX5_take yX5_take, Cond.code yX5_take cX5_take 2 (some .boolean), Cond.methodLink RX5 83 yX5_next, Cond.instanceMethod yX5_next, Cond.selects RX5 yX5_next yX5_next, Cond.code yX5_next cX5_next 1 (some .char), Cond.methodLink RX5 49 yX5_takeTest, Cond.instanceMethod yX5_takeTest, Cond.selects RX5 yX5_takeTest yX5_takeTest, Cond.code yX5_takeTest cX5_takeTest 1 (some .boolean), Cond.methodLink RX5 59 yX5_takeVariable, Cond.instanceMethod yX5_takeVariable, Cond.selects RX5 yX5_takeVariable yX5_takeVariable, Cond.code yX5_takeVariable cX5_takeVariable 2 (some .boolean), Cond.fieldLink RX5 68 "ClaimJudge$Text" "variable" "I", Cond.methodLink RX5 87 yJ0_indexOf_0f7a4, Cond.instanceMethod yJ0_indexOf_0f7a4, Cond.selects RJ0 yJ0_indexOf_0f7a4 yJ0_indexOf_0f7a4, Cond.initialized RJ0, Cond.code yJ0_indexOf_0f7a4 cJ0_indexOf_0f7a4 2 (some .int), Cond.methodLink RJ0 633 yJ0_indexOf_7cf53]
def wsL_law0_r8 : List Cond := [Cond.instanceMethod yJ0_indexOf_7cf53, Cond.selects RJ0 yJ0_indexOf_7cf53 yJ0_indexOf_7cf53, Cond.code yJ0_indexOf_7cf53 cJ0_indexOf_7cf53 3 (some .int), Cond.fieldLink RJ0 9 "java/lang/String" "value" "[B", Cond.methodLink RJ0 492 yJ0_isLatin1_aae02, Cond.instanceMethod yJ0_isLatin1_aae02, Cond.selects RJ0 yJ0_isLatin1_aae02 yJ0_isLatin1_aae02, Cond.code yJ0_isLatin1_aae02 cJ0_isLatin1_aae02 1 (some .boolean), Cond.fieldLink RJ0 38 "java/lang/String" "COMPACT_STRINGS" "Z", Cond.fieldLink RJ0 15 "java/lang/String" "coder" "B", Cond.methodLink RJ0 505 yJ0_length_8abf5, Cond.instanceMethod yJ0_length_8abf5, Cond.selects RJ0 yJ0_length_8abf5 yJ0_length_8abf5, Cond.code yJ0_length_8abf5 cJ0_length_8abf5 1 (some .int), Cond.methodLink RJ0 335 yJ0_coder_7d493, Cond.instanceMethod yJ0_coder_7d493, Cond.selects RJ0 yJ0_coder_7d493 yJ0_coder_7d493, Cond.code yJ0_coder_7d493 cJ0_coder_7d493 1 (some .byte), Cond.methodLink RJ0 637 yJ1_indexOf_4cfef, Cond.static yJ1_indexOf_4cfef, Cond.initialized RJ1, Cond.code yJ1_indexOf_4cfef cJ1_indexOf_4cfef 4 (some .int), Cond.methodLink RJ1 92 Lib.Math.max.name, Cond.static Lib.Math.max.name]
def wsL_law0_r9 : List Cond := [Cond.initialized "java/lang/Math", Cond.code Lib.Math.max.name Lib.Math.max.code 2 (some .int), Cond.methodLink RJ1 38 Lib.Math.min.name, Cond.static Lib.Math.min.name, Cond.code Lib.Math.min.name Lib.Math.min.code 2 (some .int), Cond.methodLink RJ1 88 yJ1_canEncode_9a6ad, Cond.static yJ1_canEncode_9a6ad, Cond.code yJ1_canEncode_9a6ad cJ1_canEncode_9a6ad 1 (some .boolean), Cond.methodLink RJ1 95 yJ1_indexOfChar_4cfef, Cond.static yJ1_indexOfChar_4cfef, Cond.code yJ1_indexOfChar_4cfef cJ1_indexOfChar_4cfef 6 (some .int), Cond.methodLink RJ0 640 yJ2_indexOf_4cfef, Cond.static yJ2_indexOf_4cfef, Cond.initialized RJ2, Cond.code yJ2_indexOf_4cfef cJ2_indexOf_4cfef 4 (some .int), Cond.methodLink RJ2 224 Lib.Math.max.name, Cond.methodLink RJ2 183 Lib.Math.min.name, Cond.constant RJ2 227 (65536), Cond.methodLink RJ2 228 yJ2_indexOfChar_4cfef, Cond.static yJ2_indexOfChar_4cfef, Cond.code yJ2_indexOfChar_4cfef cJ2_indexOfChar_4cfef 4 (some .int), Cond.methodLink RJ2 96 yJ2_checkBoundsBeginEnd_d044e, Cond.static yJ2_checkBoundsBeginEnd_d044e, Cond.code yJ2_checkBoundsBeginEnd_d044e cJ2_checkBoundsBeginEnd_d044e 3 none]
def wsL_law0_r10 : List Cond := [Cond.methodLink RJ2 48 yJ2_length_9d52b, Cond.static yJ2_length_9d52b, Cond.code yJ2_length_9d52b cJ2_length_9d52b 1 (some .int), Cond.methodLink RJ2 241 yJ0_checkBoundsBeginEnd_23922, Cond.static yJ0_checkBoundsBeginEnd_23922, Cond.code yJ0_checkBoundsBeginEnd_23922 cJ0_checkBoundsBeginEnd_23922 3 none, Cond.fieldLink RJ0 1053 "jdk/internal/util/Preconditions" "SIOOBE_FORMATTER" "Ljava/util/function/BiFunction;", Cond.methodLink RJ0 1062 yJ3_checkFromToIndex_8c36e, Cond.static yJ3_checkFromToIndex_8c36e, Cond.initialized RJ3, Cond.code yJ3_checkFromToIndex_8c36e cJ3_checkFromToIndex_8c36e 4 (some .int), Cond.methodLink RJ2 244 yJ2_indexOfCharUnsafe_4cfef, Cond.static yJ2_indexOfCharUnsafe_4cfef, Cond.code yJ2_indexOfCharUnsafe_4cfef cJ2_indexOfCharUnsafe_4cfef 5 (some .int), Cond.methodLink RJ2 71 yJ2_getChar_3b067, Cond.static yJ2_getChar_3b067, Cond.code yJ2_getChar_3b067 cJ2_getChar_3b067 2 (some .char), Cond.fieldLink RJ2 44 "java/lang/StringUTF16" "$assertionsDisabled" "Z", Cond.fieldLink RJ2 59 "java/lang/StringUTF16" "HI_BYTE_SHIFT" "I", Cond.fieldLink RJ2 63 "java/lang/StringUTF16" "LO_BYTE_SHIFT" "I", Cond.methodLink RJ2 232 yJ2_indexOfSupplementary_4cfef, Cond.static yJ2_indexOfSupplementary_4cfef, Cond.code yJ2_indexOfSupplementary_4cfef cJ2_indexOfSupplementary_4cfef 7 (some .int), Cond.methodLink RJ2 164 yJ11_isValidCodePoint_9a6ad]
def wsL_law0_r11 : List Cond := [Cond.static yJ11_isValidCodePoint_9a6ad, Cond.initialized RJ11, Cond.code yJ11_isValidCodePoint_9a6ad cJ11_isValidCodePoint_9a6ad 2 (some .boolean), Cond.methodLink RJ2 157 yJ11_highSurrogate_5068e, Cond.static yJ11_highSurrogate_5068e, Cond.code yJ11_highSurrogate_5068e cJ11_highSurrogate_5068e 1 (some .char), Cond.constant RJ11 110 (55232), Cond.methodLink RJ2 161 yJ11_lowSurrogate_5068e, Cond.static yJ11_lowSurrogate_5068e, Cond.code yJ11_lowSurrogate_5068e cJ11_lowSurrogate_5068e 1 (some .char), Cond.constant RJ11 76 (56320), Cond.methodLink RX5 78 yX5_takeSign, Cond.instanceMethod yX5_takeSign, Cond.selects RX5 yX5_takeSign yX5_takeSign, Cond.code yX5_takeSign cX5_takeSign 2 (some .boolean), Cond.methodLink RX5 62 yX5_takeOperand, Cond.instanceMethod yX5_takeOperand, Cond.selects RX5 yX5_takeOperand yX5_takeOperand, Cond.code yX5_takeOperand cX5_takeOperand 2 (some .boolean), Cond.fieldLink RX5 71 "ClaimJudge$Text" "operand" "I", Cond.methodLink RX5 95 yX5_isDigitTo, Cond.instanceMethod yX5_isDigitTo, Cond.selects RX5 yX5_isDigitTo yX5_isDigitTo, Cond.code yX5_isDigitTo cX5_isDigitTo 2 (some .boolean)]
def wsL_law0_r12 : List Cond := [Cond.methodLink RX5 52 yX5_keep, Cond.instanceMethod yX5_keep, Cond.selects RX5 yX5_keep yX5_keep, Cond.code yX5_keep cX5_keep 2 (some .boolean), Cond.methodLink RX5 74 yX3_put, Cond.instanceMethod yX3_put, Cond.selects RX3 yX3_put yX3_put, Cond.code yX3_put cX3_put 7 none, Cond.methodLink RX5 56 yX5_takeGoal, Cond.instanceMethod yX5_takeGoal, Cond.selects RX5 yX5_takeGoal yX5_takeGoal, Cond.code yX5_takeGoal cX5_takeGoal 1 (some .boolean), Cond.methodLink RX5 65 yX5_takeAddend, Cond.instanceMethod yX5_takeAddend, Cond.selects RX5 yX5_takeAddend yX5_takeAddend, Cond.code yX5_takeAddend cX5_takeAddend 2 (some .boolean), Cond.methodLink RX6 62 yX3_highestTarget, Cond.instanceMethod yX3_highestTarget, Cond.selects RX3 yX3_highestTarget yX3_highestTarget, Cond.code yX3_highestTarget cX3_highestTarget 3 (some .int), Cond.methodLink RX3 45 Lib.Math.max.name, Cond.methodLink RX6 77 yX6_saveState, Cond.instanceMethod yX6_saveState, Cond.selects RX6 yX6_saveState yX6_saveState]
def wsL_law0_r13 : List Cond := [Cond.code yX6_saveState cX6_saveState 1 none, Cond.methodLink RX6 250 yX1_save, Cond.instanceMethod yX1_save, Cond.selects RX1 yX1_save yX1_save, Cond.code yX1_save cX1_save 4 none, Cond.fieldLink RX1 25 "ClaimJudge$History" "count" "I", Cond.fieldLink RX1 29 "ClaimJudge$History" "oldest" "I", Cond.methodLink RX1 32 yX3_copyFrom, Cond.instanceMethod yX3_copyFrom, Cond.selects RX3 yX3_copyFrom yX3_copyFrom, Cond.code yX3_copyFrom cX3_copyFrom 2 none, Cond.methodLink RX3 38 yX3_clear, Cond.methodLink RX3 41 yX3_putAll, Cond.instanceMethod yX3_putAll, Cond.selects RX3 yX3_putAll yX3_putAll, Cond.code yX3_putAll cX3_putAll 3 none, Cond.methodLink RX3 34 yX3_put, Cond.methodLink RX1 36 yX0_copyFrom, Cond.instanceMethod yX0_copyFrom, Cond.selects RX0 yX0_copyFrom yX0_copyFrom, Cond.code yX0_copyFrom cX0_copyFrom 3 none, Cond.methodLink RX0 18 yX0_limit, Cond.instanceMethod yX0_limit, Cond.selects RX0 yX0_limit yX0_limit]
def wsL_law0_r14 : List Cond := [Cond.code yX0_limit cX0_limit 4 none, Cond.methodLink RX6 80 yX3_copyFrom, Cond.methodLink RX6 83 yX5_clear, Cond.instanceMethod yX5_clear, Cond.selects RX5 yX5_clear yX5_clear, Cond.code yX5_clear cX5_clear 1 none, Cond.methodLink RX6 86 yX6_forgetProgram, Cond.instanceMethod yX6_forgetProgram, Cond.selects RX6 yX6_forgetProgram yX6_forgetProgram, Cond.code yX6_forgetProgram cX6_forgetProgram 1 none, Cond.methodLink RX6 253 yX4_forget, Cond.instanceMethod yX4_forget, Cond.selects RX4 yX4_forget yX4_forget, Cond.code yX4_forget cX4_forget 1 none, Cond.methodLink RX6 148 yX2_forget, Cond.instanceMethod yX2_forget, Cond.selects RX2 yX2_forget yX2_forget, Cond.code yX2_forget cX2_forget 1 none, Cond.methodLink RL 14 yX6_add, Cond.instanceMethod yX6_add, Cond.selects RX6 yX6_add yX6_add, Cond.code yX6_add cX6_add 2 (some .int), Cond.methodLink RX6 89 yX6_fitsBehind, Cond.instanceMethod yX6_fitsBehind]
def wsL_law0_r15 : List Cond := [Cond.selects RX6 yX6_fitsBehind yX6_fitsBehind, Cond.code yX6_fitsBehind cX6_fitsBehind 3 (some .boolean), Cond.methodLink RX6 95 yX3_putAll, Cond.methodLink RL 17 yX6_removeLast, Cond.instanceMethod yX6_removeLast, Cond.selects RX6 yX6_removeLast yX6_removeLast, Cond.code yX6_removeLast cX6_removeLast 1 (some .int), Cond.methodLink RX6 103 yX3_dropLast, Cond.instanceMethod yX3_dropLast, Cond.selects RX3 yX3_dropLast yX3_dropLast, Cond.code yX3_dropLast cX3_dropLast 3 none, Cond.methodLink RL 20 yX6_assume, Cond.instanceMethod yX6_assume, Cond.selects RX6 yX6_assume yX6_assume, Cond.code yX6_assume cX6_assume 4 (some .int), Cond.methodLink RX6 106 yX6_checkIndex, Cond.static yX6_checkIndex, Cond.code yX6_checkIndex cX6_checkIndex 2 none, Cond.classLink RX6 254 "java/lang/IndexOutOfBoundsException", Cond.initialized "java/lang/IndexOutOfBoundsException", Cond.methodLink RX6 140 yX6_isValue, Cond.static yX6_isValue, Cond.code yX6_isValue cX6_isValue 1 (some .boolean), Cond.methodLink RX6 145 yX0_limit]
def wsL_law0_r16 : List Cond := [Cond.methodLink RX6 151 yX0_count, Cond.instanceMethod yX0_count, Cond.selects RX0 yX0_count yX0_count, Cond.code yX0_count cX0_count 3 (some .int), Cond.methodLink RL 55 yX6_clearBuffer, Cond.instanceMethod yX6_clearBuffer, Cond.selects RX6 yX6_clearBuffer yX6_clearBuffer, Cond.code yX6_clearBuffer cX6_clearBuffer 2 (some .int), Cond.methodLink RL 113 yL_areAlike, Cond.static yL_areAlike, Cond.code yL_areAlike cL_areAlike 4 (some .boolean), Cond.methodLink RL 58 yX6_endless, Cond.instanceMethod yX6_endless, Cond.selects RX6 yX6_endless yX6_endless, Cond.code yX6_endless cX6_endless 1 (some .int), Cond.methodLink RX6 154 yX2_refresh, Cond.instanceMethod yX2_refresh, Cond.selects RX2 yX2_refresh yX2_refresh, Cond.code yX2_refresh cX2_refresh 2 none, Cond.methodLink RX2 41 yX2_clear, Cond.instanceMethod yX2_clear, Cond.selects RX2 yX2_clear yX2_clear, Cond.code yX2_clear cX2_clear 1 none, Cond.fieldLink RX2 73 "ClaimJudge$Judgement" "endlessRuns" "I"]
def wsL_law0_r17 : List Cond := [Cond.fieldLink RX2 77 "ClaimJudge$Judgement" "failedRuns" "I", Cond.fieldLink RX2 80 "ClaimJudge$Judgement" "successfulRuns" "I", Cond.methodLink RX2 64 yJ7_fill_53178, Cond.static yJ7_fill_53178, Cond.initialized RJ7, Cond.code yJ7_fill_53178 cJ7_fill_53178 4 none, Cond.methodLink RX2 70 yJ7_fill_d0a16, Cond.static yJ7_fill_d0a16, Cond.code yJ7_fill_d0a16 cJ7_fill_d0a16 5 none, Cond.methodLink RX2 44 yX0_allows, Cond.instanceMethod yX0_allows, Cond.selects RX0 yX0_allows yX0_allows, Cond.code yX0_allows cX0_allows 2 (some .boolean), Cond.methodLink RX0 22 yX0_allowsBut, Cond.instanceMethod yX0_allowsBut, Cond.selects RX0 yX0_allowsBut yX0_allowsBut, Cond.code yX0_allowsBut cX0_allowsBut 5 (some .boolean), Cond.static yX6_valueOf, Cond.code yX6_valueOf cX6_valueOf 2 (some .int), Cond.methodLink RX2 50 yX4_endFrom, Cond.instanceMethod yX4_endFrom, Cond.selects RX4 yX4_endFrom yX4_endFrom, Cond.code yX4_endFrom cX4_endFrom 5 (some .int), Cond.methodLink RX4 27 yJ7_fill_53178]
def wsL_law0_r18 : List Cond := [Cond.methodLink RX4 33 yX3_placeAfter, Cond.instanceMethod yX3_placeAfter, Cond.selects RX3 yX3_placeAfter yX3_placeAfter, Cond.code yX3_placeAfter cX3_placeAfter 7 (some .int), Cond.static yX6_statementAt, Cond.code yX6_statementAt cX6_statementAt 1 (some .int), Cond.static yX6_tripleAt, Cond.code yX6_tripleAt cX6_tripleAt 1 (some .int), Cond.static yX6_withValue, Cond.code yX6_withValue cX6_withValue 4 (some .int), Cond.static yX6_placeOf, Cond.code yX6_placeOf cX6_placeOf 2 (some .int), Cond.methodLink RX3 68 yX3_compares, Cond.static yX3_compares, Cond.code yX3_compares cX3_compares 3 (some .boolean), Cond.methodLink RX4 38 yX4_endAt, Cond.instanceMethod yX4_endAt, Cond.selects RX4 yX4_endAt yX4_endAt, Cond.code yX4_endAt cX4_endAt 2 (some .int), Cond.methodLink RX4 45 yX3_isEnd, Cond.instanceMethod yX3_isEnd, Cond.selects RX3 yX3_isEnd yX3_isEnd, Cond.code yX3_isEnd cX3_isEnd 2 (some .boolean), Cond.methodLink RX4 41 yX4_settle]
def wsL_law0_r19 : List Cond := [Cond.instanceMethod yX4_settle, Cond.selects RX4 yX4_settle yX4_settle, Cond.code yX4_settle cX4_settle 5 none, Cond.methodLink RX2 56 yX2_countRun, Cond.instanceMethod yX2_countRun, Cond.selects RX2 yX2_countRun yX2_countRun, Cond.code yX2_countRun cX2_countRun 3 none, Cond.methodLink RX2 60 yX2_followRun, Cond.instanceMethod yX2_followRun, Cond.selects RX2 yX2_followRun yX2_followRun, Cond.code yX2_followRun cX2_followRun 4 none, Cond.methodLink RX2 83 yX2_isVisited, Cond.instanceMethod yX2_isVisited, Cond.selects RX2 yX2_isVisited yX2_isVisited, Cond.code yX2_isVisited cX2_isVisited 2 (some .boolean), Cond.methodLink RX2 86 yX2_noteValues, Cond.instanceMethod yX2_noteValues, Cond.selects RX2 yX2_noteValues yX2_noteValues, Cond.code yX2_noteValues cX2_noteValues 6 none, Cond.methodLink RX2 89 yX3_placeAfter, Cond.methodLink RL 61 yX6_proof, Cond.instanceMethod yX6_proof, Cond.selects RX6 yX6_proof yX6_proof, Cond.code yX6_proof cX6_proof 1 (some .int)]
def wsL_law0_r20 : List Cond := [Cond.methodLink RL 64 yX6_provedShare, Cond.instanceMethod yX6_provedShare, Cond.selects RX6 yX6_provedShare yX6_provedShare, Cond.code yX6_provedShare cX6_provedShare 1 (some .double), Cond.methodLink RL 68 yX6_kind, Cond.instanceMethod yX6_kind, Cond.selects RX6 yX6_kind yX6_kind, Cond.code yX6_kind cX6_kind 2 (some .int), Cond.methodLink RL 71 yX6_target, Cond.instanceMethod yX6_target, Cond.selects RX6 yX6_target yX6_target, Cond.code yX6_target cX6_target 2 (some .int), Cond.methodLink RL 74 yX6_demand, Cond.instanceMethod yX6_demand, Cond.selects RX6 yX6_demand yX6_demand, Cond.code yX6_demand cX6_demand 4 (some .int), Cond.methodLink RX6 132 yX6_placeOf, Cond.methodLink RX6 136 yX4_succeedsFrom, Cond.instanceMethod yX4_succeedsFrom, Cond.selects RX4 yX4_succeedsFrom yX4_succeedsFrom, Cond.code yX4_succeedsFrom cX4_succeedsFrom 2 (some .boolean), Cond.methodLink RX4 23 yX4_endFrom, Cond.methodLink RL 77 yX6_verdict, Cond.instanceMethod yX6_verdict]
def wsL_law0_r21 : List Cond := [Cond.selects RX6 yX6_verdict yX6_verdict, Cond.code yX6_verdict cX6_verdict 2 (some .int), Cond.methodLink RX6 160 yX2_isReached, Cond.instanceMethod yX2_isReached, Cond.selects RX2 yX2_isReached yX2_isReached, Cond.code yX2_isReached cX2_isReached 2 (some .boolean), Cond.methodLink RL 80 yX6_example, Cond.instanceMethod yX6_example, Cond.selects RX6 yX6_example yX6_example, Cond.code yX6_example cX6_example 2 (some .int), Cond.methodLink RL 83 yX6_least, Cond.instanceMethod yX6_least, Cond.selects RX6 yX6_least yX6_least, Cond.code yX6_least cX6_least 3 (some .int), Cond.methodLink RL 86 yX6_greatest, Cond.instanceMethod yX6_greatest, Cond.selects RX6 yX6_greatest yX6_greatest, Cond.code yX6_greatest cX6_greatest 3 (some .int), Cond.methodLink RL 102 yX6_undo, Cond.instanceMethod yX6_undo, Cond.selects RX6 yX6_undo yX6_undo, Cond.code yX6_undo cX6_undo 1 (some .int), Cond.methodLink RX6 202 yX1_restore, Cond.instanceMethod yX1_restore]
def wsL_law0_r22 : List Cond := [Cond.selects RX1 yX1_restore yX1_restore, Cond.code yX1_restore cX1_restore 4 none, Cond.methodLink RL 117 yL_areRunsSo, Cond.static yL_areRunsSo, Cond.code yL_areRunsSo cL_areRunsSo 11 (some .boolean), Cond.methodLink RL 89 yX6_run, Cond.instanceMethod yX6_run, Cond.selects RX6 yX6_run yX6_run, Cond.code yX6_run cX6_run 4 (some .int), Cond.methodLink RX6 117 yX6_checkValues, Cond.static yX6_checkValues, Cond.code yX6_checkValues cX6_checkValues 3 none, Cond.methodLink RX6 121 yX6_tripleOf, Cond.static yX6_tripleOf, Cond.code yX6_tripleOf cX6_tripleOf 3 (some .int), Cond.methodLink RX6 125 yX4_endFrom, Cond.methodLink RL 92 yX6_steps, Cond.instanceMethod yX6_steps, Cond.selects RX6 yX6_steps yX6_steps, Cond.code yX6_steps cX6_steps 4 (some .int), Cond.methodLink RX6 129 yX4_lengthFrom, Cond.instanceMethod yX4_lengthFrom, Cond.selects RX4 yX4_lengthFrom yX4_lengthFrom, Cond.code yX4_lengthFrom cX4_lengthFrom 5 (some .int)]
def wsL_law0_r23 : List Cond := [Cond.methodLink RL 95 yX6_demands, Cond.instanceMethod yX6_demands, Cond.selects RX6 yX6_demands yX6_demands, Cond.code yX6_demands cX6_demands 5 (some .boolean), Cond.methodLink RL 121 yL_areClaimsSo, Cond.static yL_areClaimsSo, Cond.code yL_areClaimsSo cL_areClaimsSo 10 (some .boolean), Cond.methodLink RL 125 yL_isWidestSo, Cond.static yL_isWidestSo, Cond.code yL_isWidestSo cL_isWidestSo 10 (some .boolean), Cond.methodLink RL 99 yX6_widest, Cond.instanceMethod yX6_widest, Cond.selects RX6 yX6_widest yX6_widest, Cond.code yX6_widest cX6_widest 2 (some .int), Cond.methodLink RX6 178 yX6_unprovedValues, Cond.instanceMethod yX6_unprovedValues, Cond.selects RX6 yX6_unprovedValues yX6_unprovedValues, Cond.code yX6_unprovedValues cX6_unprovedValues 4 (some .int), Cond.methodLink RX6 243 yX0_allowsBut, Cond.methodLink RX6 247 yX6_valueOf, Cond.methodLink RX6 181 yX6_widestRange, Cond.static yX6_widestRange, Cond.code yX6_widestRange cX6_widestRange 5 (some .int)]
def wsL_law0 : List Cond := (wsL_law0_r1 ++ (wsL_law0_r2 ++ (wsL_law0_r3 ++ (wsL_law0_r4 ++ (wsL_law0_r5 ++ (wsL_law0_r6 ++ (wsL_law0_r7 ++ (wsL_law0_r8 ++ (wsL_law0_r9 ++ (wsL_law0_r10 ++ (wsL_law0_r11 ++ (wsL_law0_r12 ++ (wsL_law0_r13 ++ (wsL_law0_r14 ++ (wsL_law0_r15 ++ (wsL_law0_r16 ++ (wsL_law0_r17 ++ (wsL_law0_r18 ++ (wsL_law0_r19 ++ (wsL_law0_r20 ++ (wsL_law0_r21 ++ (wsL_law0_r22 ++ wsL_law0_r23)))))))))))))))))))))) ++ wsX60 ++ wsX30 ++ wsX00 ++ wsX40 ++ wsX20 ++ wsX10 ++ wsX50 ++ ([] : List Cond)
def wsL_law : List Cond := wsL_law0 ++ (vx_atS RX6 74 "java/lang/IllegalArgumentException" ["java/lang/RuntimeException", "java/lang/Exception"]).filter goodWord ++ (vx_atS RX6 102 "java/lang/IllegalStateException" ["java/lang/RuntimeException", "java/lang/Exception"]).filter goodWord ++ (vx_atS RX6 258 "java/lang/IndexOutOfBoundsException" ["java/lang/RuntimeException", "java/lang/Exception"]).filter goodWord
theorem dX0_init_0 : decode cX0_init 0 = .ok (.aload_n 0, 1) := by decide +kernel
theorem dX0_init_1 : decode cX0_init 1 = .ok (.invokespecial 3, 3) := by decide +kernel
theorem dX0_init_4 : decode cX0_init 4 = .ok (.aload_n 0, 1) := by decide +kernel
theorem dX0_init_5 : decode cX0_init 5 = .ok (.iconst 3, 1) := by decide +kernel
theorem dX0_init_6 : decode cX0_init 6 = .ok (.newarray .int, 2) := by decide +kernel
theorem dX0_init_8 : decode cX0_init 8 = .ok (.dup, 1) := by decide +kernel
theorem dX0_init_9 : decode cX0_init 9 = .ok (.iconst 0, 1) := by decide +kernel
theorem dX0_init_10 : decode cX0_init 10 = .ok (.iconst 0, 1) := by decide +kernel
theorem dX0_init_11 : decode cX0_init 11 = .ok (.iastore, 1) := by decide +kernel
theorem dX0_init_12 : decode cX0_init 12 = .ok (.dup, 1) := by decide +kernel
theorem dX0_init_13 : decode cX0_init 13 = .ok (.iconst 1, 1) := by decide +kernel
theorem dX0_init_14 : decode cX0_init 14 = .ok (.iconst 0, 1) := by decide +kernel
theorem dX0_init_15 : decode cX0_init 15 = .ok (.iastore, 1) := by decide +kernel
theorem dX0_init_16 : decode cX0_init 16 = .ok (.dup, 1) := by decide +kernel
theorem dX0_init_17 : decode cX0_init 17 = .ok (.iconst 2, 1) := by decide +kernel
theorem dX0_init_18 : decode cX0_init 18 = .ok (.iconst 0, 1) := by decide +kernel
theorem dX0_init_19 : decode cX0_init 19 = .ok (.iastore, 1) := by decide +kernel
theorem dX0_init_20 : decode cX0_init 20 = .ok (.putfield 9, 3) := by decide +kernel
theorem dX0_init_23 : decode cX0_init 23 = .ok (.aload_n 0, 1) := by decide +kernel
theorem dX0_init_24 : decode cX0_init 24 = .ok (.iconst 3, 1) := by decide +kernel
theorem dX0_init_25 : decode cX0_init 25 = .ok (.newarray .int, 2) := by decide +kernel
theorem dX0_init_27 : decode cX0_init 27 = .ok (.dup, 1) := by decide +kernel
theorem dX0_init_28 : decode cX0_init 28 = .ok (.iconst 0, 1) := by decide +kernel
theorem dX0_init_29 : decode cX0_init 29 = .ok (.bipush 7, 2) := by decide +kernel
theorem dX0_init_31 : decode cX0_init 31 = .ok (.iastore, 1) := by decide +kernel
theorem dX0_init_32 : decode cX0_init 32 = .ok (.dup, 1) := by decide +kernel
theorem dX0_init_33 : decode cX0_init 33 = .ok (.iconst 1, 1) := by decide +kernel
theorem dX0_init_34 : decode cX0_init 34 = .ok (.bipush 7, 2) := by decide +kernel
theorem dX0_init_36 : decode cX0_init 36 = .ok (.iastore, 1) := by decide +kernel
theorem dX0_init_37 : decode cX0_init 37 = .ok (.dup, 1) := by decide +kernel
theorem dX0_init_38 : decode cX0_init 38 = .ok (.iconst 2, 1) := by decide +kernel
theorem dX0_init_39 : decode cX0_init 39 = .ok (.bipush 7, 2) := by decide +kernel
theorem dX0_init_41 : decode cX0_init 41 = .ok (.iastore, 1) := by decide +kernel
theorem dX0_init_42 : decode cX0_init 42 = .ok (.putfield 15, 3) := by decide +kernel
theorem dX0_init_45 : decode cX0_init 45 = .ok (.return_, 1) := by decide +kernel
theorem dX0_limit_0 : decode cX0_limit 0 = .ok (.aload_n 0, 1) := by decide +kernel
theorem dX0_limit_1 : decode cX0_limit 1 = .ok (.getfield 9, 3) := by decide +kernel
theorem dX0_limit_4 : decode cX0_limit 4 = .ok (.iload_n 1, 1) := by decide +kernel
theorem dX0_limit_5 : decode cX0_limit 5 = .ok (.iload_n 2, 1) := by decide +kernel
theorem dX0_limit_6 : decode cX0_limit 6 = .ok (.iastore, 1) := by decide +kernel
theorem dX0_limit_7 : decode cX0_limit 7 = .ok (.aload_n 0, 1) := by decide +kernel
theorem dX0_limit_8 : decode cX0_limit 8 = .ok (.getfield 15, 3) := by decide +kernel
theorem dX0_limit_11 : decode cX0_limit 11 = .ok (.iload_n 1, 1) := by decide +kernel
theorem dX0_limit_12 : decode cX0_limit 12 = .ok (.iload_n 3, 1) := by decide +kernel
theorem dX0_limit_13 : decode cX0_limit 13 = .ok (.iastore, 1) := by decide +kernel
theorem dX0_limit_14 : decode cX0_limit 14 = .ok (.return_, 1) := by decide +kernel
theorem dX0_copyFrom_0 : decode cX0_copyFrom 0 = .ok (.iconst 0, 1) := by decide +kernel
theorem dX0_copyFrom_1 : decode cX0_copyFrom 1 = .ok (.istore_n 2, 1) := by decide +kernel
theorem dX0_copyFrom_2 : decode cX0_copyFrom 2 = .ok (.iload_n 2, 1) := by decide +kernel
theorem dX0_copyFrom_3 : decode cX0_copyFrom 3 = .ok (.iconst 3, 1) := by decide +kernel
theorem dX0_copyFrom_4 : decode cX0_copyFrom 4 = .ok (.if_icmp .ge 26, 3) := by decide +kernel
theorem dX0_copyFrom_7 : decode cX0_copyFrom 7 = .ok (.aload_n 0, 1) := by decide +kernel
theorem dX0_copyFrom_8 : decode cX0_copyFrom 8 = .ok (.iload_n 2, 1) := by decide +kernel
theorem dX0_copyFrom_9 : decode cX0_copyFrom 9 = .ok (.aload_n 1, 1) := by decide +kernel
theorem dX0_copyFrom_10 : decode cX0_copyFrom 10 = .ok (.getfield 9, 3) := by decide +kernel
theorem dX0_copyFrom_13 : decode cX0_copyFrom 13 = .ok (.iload_n 2, 1) := by decide +kernel
theorem dX0_copyFrom_14 : decode cX0_copyFrom 14 = .ok (.iaload, 1) := by decide +kernel
theorem dX0_copyFrom_15 : decode cX0_copyFrom 15 = .ok (.aload_n 1, 1) := by decide +kernel
theorem dX0_copyFrom_16 : decode cX0_copyFrom 16 = .ok (.getfield 15, 3) := by decide +kernel
theorem dX0_copyFrom_19 : decode cX0_copyFrom 19 = .ok (.iload_n 2, 1) := by decide +kernel
theorem dX0_copyFrom_20 : decode cX0_copyFrom 20 = .ok (.iaload, 1) := by decide +kernel
theorem dX0_copyFrom_21 : decode cX0_copyFrom 21 = .ok (.invokevirtual 18, 3) := by decide +kernel
theorem dX0_copyFrom_24 : decode cX0_copyFrom 24 = .ok (.iinc 2 1, 3) := by decide +kernel
theorem dX0_copyFrom_27 : decode cX0_copyFrom 27 = .ok (.goto (-25), 3) := by decide +kernel
theorem dX0_copyFrom_30 : decode cX0_copyFrom 30 = .ok (.return_, 1) := by decide +kernel
theorem dX0_allows_0 : decode cX0_allows 0 = .ok (.aload_n 0, 1) := by decide +kernel
theorem dX0_allows_1 : decode cX0_allows 1 = .ok (.iconst (-1), 1) := by decide +kernel
theorem dX0_allows_2 : decode cX0_allows 2 = .ok (.iload_n 1, 1) := by decide +kernel
theorem dX0_allows_3 : decode cX0_allows 3 = .ok (.invokevirtual 22, 3) := by decide +kernel
theorem dX0_allows_6 : decode cX0_allows 6 = .ok (.ireturn, 1) := by decide +kernel
theorem dX0_allowsBut_0 : decode cX0_allowsBut 0 = .ok (.iconst 0, 1) := by decide +kernel
theorem dX0_allowsBut_1 : decode cX0_allowsBut 1 = .ok (.istore_n 3, 1) := by decide +kernel
theorem dX0_allowsBut_2 : decode cX0_allowsBut 2 = .ok (.iload_n 3, 1) := by decide +kernel
theorem dX0_allowsBut_3 : decode cX0_allowsBut 3 = .ok (.iconst 3, 1) := by decide +kernel
theorem dX0_allowsBut_4 : decode cX0_allowsBut 4 = .ok (.if_icmp .ge 45, 3) := by decide +kernel
theorem dX0_allowsBut_7 : decode cX0_allowsBut 7 = .ok (.iload_n 2, 1) := by decide +kernel
theorem dX0_allowsBut_8 : decode cX0_allowsBut 8 = .ok (.iload_n 3, 1) := by decide +kernel
theorem dX0_allowsBut_9 : decode cX0_allowsBut 9 = .ok (.invokestatic 26, 3) := by decide +kernel
theorem dX0_allowsBut_12 : decode cX0_allowsBut 12 = .ok (.istore 4, 2) := by decide +kernel
theorem dX0_allowsBut_14 : decode cX0_allowsBut 14 = .ok (.iload_n 3, 1) := by decide +kernel
theorem dX0_allowsBut_15 : decode cX0_allowsBut 15 = .ok (.iload_n 1, 1) := by decide +kernel
theorem dX0_allowsBut_16 : decode cX0_allowsBut 16 = .ok (.if_icmp .eq 27, 3) := by decide +kernel
theorem dX0_allowsBut_19 : decode cX0_allowsBut 19 = .ok (.iload 4, 2) := by decide +kernel
theorem dX0_allowsBut_21 : decode cX0_allowsBut 21 = .ok (.aload_n 0, 1) := by decide +kernel
theorem dX0_allowsBut_22 : decode cX0_allowsBut 22 = .ok (.getfield 9, 3) := by decide +kernel
theorem dX0_allowsBut_25 : decode cX0_allowsBut 25 = .ok (.iload_n 3, 1) := by decide +kernel
theorem dX0_allowsBut_26 : decode cX0_allowsBut 26 = .ok (.iaload, 1) := by decide +kernel
theorem dX0_allowsBut_27 : decode cX0_allowsBut 27 = .ok (.if_icmp .lt 14, 3) := by decide +kernel
theorem dX0_allowsBut_30 : decode cX0_allowsBut 30 = .ok (.iload 4, 2) := by decide +kernel
theorem dX0_allowsBut_32 : decode cX0_allowsBut 32 = .ok (.aload_n 0, 1) := by decide +kernel
theorem dX0_allowsBut_33 : decode cX0_allowsBut 33 = .ok (.getfield 15, 3) := by decide +kernel
theorem dX0_allowsBut_36 : decode cX0_allowsBut 36 = .ok (.iload_n 3, 1) := by decide +kernel
theorem dX0_allowsBut_37 : decode cX0_allowsBut 37 = .ok (.iaload, 1) := by decide +kernel
theorem dX0_allowsBut_38 : decode cX0_allowsBut 38 = .ok (.if_icmp .le 5, 3) := by decide +kernel
theorem dX0_allowsBut_41 : decode cX0_allowsBut 41 = .ok (.iconst 0, 1) := by decide +kernel
theorem dX0_allowsBut_42 : decode cX0_allowsBut 42 = .ok (.ireturn, 1) := by decide +kernel
theorem dX0_allowsBut_43 : decode cX0_allowsBut 43 = .ok (.iinc 3 1, 3) := by decide +kernel
theorem dX0_allowsBut_46 : decode cX0_allowsBut 46 = .ok (.goto (-44), 3) := by decide +kernel
theorem dX0_allowsBut_49 : decode cX0_allowsBut 49 = .ok (.iconst 1, 1) := by decide +kernel
theorem dX0_allowsBut_50 : decode cX0_allowsBut 50 = .ok (.ireturn, 1) := by decide +kernel
theorem dX0_count_0 : decode cX0_count 0 = .ok (.iconst 1, 1) := by decide +kernel
theorem dX0_count_1 : decode cX0_count 1 = .ok (.istore_n 1, 1) := by decide +kernel
theorem dX0_count_2 : decode cX0_count 2 = .ok (.iconst 0, 1) := by decide +kernel
theorem dX0_count_3 : decode cX0_count 3 = .ok (.istore_n 2, 1) := by decide +kernel
theorem dX0_count_4 : decode cX0_count 4 = .ok (.iload_n 2, 1) := by decide +kernel
theorem dX0_count_5 : decode cX0_count 5 = .ok (.iconst 3, 1) := by decide +kernel
theorem dX0_count_6 : decode cX0_count 6 = .ok (.if_icmp .ge 27, 3) := by decide +kernel
theorem dX0_count_9 : decode cX0_count 9 = .ok (.iload_n 1, 1) := by decide +kernel
theorem dX0_count_10 : decode cX0_count 10 = .ok (.aload_n 0, 1) := by decide +kernel
theorem dX0_count_11 : decode cX0_count 11 = .ok (.getfield 15, 3) := by decide +kernel
theorem dX0_count_14 : decode cX0_count 14 = .ok (.iload_n 2, 1) := by decide +kernel
theorem dX0_count_15 : decode cX0_count 15 = .ok (.iaload, 1) := by decide +kernel
theorem dX0_count_16 : decode cX0_count 16 = .ok (.aload_n 0, 1) := by decide +kernel
theorem dX0_count_17 : decode cX0_count 17 = .ok (.getfield 9, 3) := by decide +kernel
theorem dX0_count_20 : decode cX0_count 20 = .ok (.iload_n 2, 1) := by decide +kernel
theorem dX0_count_21 : decode cX0_count 21 = .ok (.iaload, 1) := by decide +kernel
theorem dX0_count_22 : decode cX0_count 22 = .ok (.isub, 1) := by decide +kernel
theorem dX0_count_23 : decode cX0_count 23 = .ok (.iconst 1, 1) := by decide +kernel
theorem dX0_count_24 : decode cX0_count 24 = .ok (.iadd, 1) := by decide +kernel
theorem dX0_count_25 : decode cX0_count 25 = .ok (.imul, 1) := by decide +kernel
theorem dX0_count_26 : decode cX0_count 26 = .ok (.istore_n 1, 1) := by decide +kernel
theorem dX0_count_27 : decode cX0_count 27 = .ok (.iinc 2 1, 3) := by decide +kernel
theorem dX0_count_30 : decode cX0_count 30 = .ok (.goto (-26), 3) := by decide +kernel
theorem dX0_count_33 : decode cX0_count 33 = .ok (.iload_n 1, 1) := by decide +kernel
theorem dX0_count_34 : decode cX0_count 34 = .ok (.ireturn, 1) := by decide +kernel
theorem dX1_init_0 : decode cX1_init 0 = .ok (.aload_n 0, 1) := by decide +kernel
theorem dX1_init_1 : decode cX1_init 1 = .ok (.invokespecial 3, 3) := by decide +kernel
theorem dX1_init_4 : decode cX1_init 4 = .ok (.aload_n 0, 1) := by decide +kernel
theorem dX1_init_5 : decode cX1_init 5 = .ok (.bipush 6, 2) := by decide +kernel
theorem dX1_init_7 : decode cX1_init 7 = .ok (.anewarray 9, 3) := by decide +kernel
theorem dX1_init_10 : decode cX1_init 10 = .ok (.putfield 11, 3) := by decide +kernel
theorem dX1_init_13 : decode cX1_init 13 = .ok (.aload_n 0, 1) := by decide +kernel
theorem dX1_init_14 : decode cX1_init 14 = .ok (.bipush 6, 2) := by decide +kernel
theorem dX1_init_16 : decode cX1_init 16 = .ok (.anewarray 17, 3) := by decide +kernel
theorem dX1_init_19 : decode cX1_init 19 = .ok (.putfield 19, 3) := by decide +kernel
theorem dX1_init_22 : decode cX1_init 22 = .ok (.iconst 0, 1) := by decide +kernel
theorem dX1_init_23 : decode cX1_init 23 = .ok (.istore_n 1, 1) := by decide +kernel
theorem dX1_init_24 : decode cX1_init 24 = .ok (.iload_n 1, 1) := by decide +kernel
theorem dX1_init_25 : decode cX1_init 25 = .ok (.bipush 6, 2) := by decide +kernel
theorem dX1_init_27 : decode cX1_init 27 = .ok (.if_icmp .ge 35, 3) := by decide +kernel
theorem dX1_init_30 : decode cX1_init 30 = .ok (.aload_n 0, 1) := by decide +kernel
theorem dX1_init_31 : decode cX1_init 31 = .ok (.getfield 11, 3) := by decide +kernel
theorem dX1_init_34 : decode cX1_init 34 = .ok (.iload_n 1, 1) := by decide +kernel
theorem dX1_init_35 : decode cX1_init 35 = .ok (.new 9, 3) := by decide +kernel
theorem dX1_init_38 : decode cX1_init 38 = .ok (.dup, 1) := by decide +kernel
theorem dX1_init_39 : decode cX1_init 39 = .ok (.invokespecial 23, 3) := by decide +kernel
theorem dX1_init_42 : decode cX1_init 42 = .ok (.aastore, 1) := by decide +kernel
theorem dX1_init_43 : decode cX1_init 43 = .ok (.aload_n 0, 1) := by decide +kernel
theorem dX1_init_44 : decode cX1_init 44 = .ok (.getfield 19, 3) := by decide +kernel
theorem dX1_init_47 : decode cX1_init 47 = .ok (.iload_n 1, 1) := by decide +kernel
theorem dX1_init_48 : decode cX1_init 48 = .ok (.new 17, 3) := by decide +kernel
theorem dX1_init_51 : decode cX1_init 51 = .ok (.dup, 1) := by decide +kernel
theorem dX1_init_52 : decode cX1_init 52 = .ok (.invokespecial 24, 3) := by decide +kernel
theorem dX1_init_55 : decode cX1_init 55 = .ok (.aastore, 1) := by decide +kernel
theorem dX1_init_56 : decode cX1_init 56 = .ok (.iinc 1 1, 3) := by decide +kernel
theorem dX1_init_59 : decode cX1_init 59 = .ok (.goto (-35), 3) := by decide +kernel
theorem dX1_init_62 : decode cX1_init 62 = .ok (.return_, 1) := by decide +kernel
theorem dX1_save_0 : decode cX1_save 0 = .ok (.aload_n 0, 1) := by decide +kernel
theorem dX1_save_1 : decode cX1_save 1 = .ok (.getfield 25, 3) := by decide +kernel
theorem dX1_save_4 : decode cX1_save 4 = .ok (.bipush 6, 2) := by decide +kernel
theorem dX1_save_6 : decode cX1_save 6 = .ok (.if_icmp .ne 26, 3) := by decide +kernel
theorem dX1_save_9 : decode cX1_save 9 = .ok (.aload_n 0, 1) := by decide +kernel
theorem dX1_save_10 : decode cX1_save 10 = .ok (.aload_n 0, 1) := by decide +kernel
theorem dX1_save_11 : decode cX1_save 11 = .ok (.getfield 29, 3) := by decide +kernel
theorem dX1_save_14 : decode cX1_save 14 = .ok (.iconst 1, 1) := by decide +kernel
theorem dX1_save_15 : decode cX1_save 15 = .ok (.iadd, 1) := by decide +kernel
theorem dX1_save_16 : decode cX1_save 16 = .ok (.bipush 6, 2) := by decide +kernel
theorem dX1_save_18 : decode cX1_save 18 = .ok (.irem, 1) := by decide +kernel
theorem dX1_save_19 : decode cX1_save 19 = .ok (.putfield 29, 3) := by decide +kernel
theorem dX1_save_22 : decode cX1_save 22 = .ok (.aload_n 0, 1) := by decide +kernel
theorem dX1_save_23 : decode cX1_save 23 = .ok (.dup, 1) := by decide +kernel
theorem dX1_save_24 : decode cX1_save 24 = .ok (.getfield 25, 3) := by decide +kernel
theorem dX1_save_27 : decode cX1_save 27 = .ok (.iconst 1, 1) := by decide +kernel
theorem dX1_save_28 : decode cX1_save 28 = .ok (.isub, 1) := by decide +kernel
theorem dX1_save_29 : decode cX1_save 29 = .ok (.putfield 25, 3) := by decide +kernel
theorem dX1_save_32 : decode cX1_save 32 = .ok (.aload_n 0, 1) := by decide +kernel
theorem dX1_save_33 : decode cX1_save 33 = .ok (.getfield 29, 3) := by decide +kernel
theorem dX1_save_36 : decode cX1_save 36 = .ok (.aload_n 0, 1) := by decide +kernel
theorem dX1_save_37 : decode cX1_save 37 = .ok (.getfield 25, 3) := by decide +kernel
theorem dX1_save_40 : decode cX1_save 40 = .ok (.iadd, 1) := by decide +kernel
theorem dX1_save_41 : decode cX1_save 41 = .ok (.bipush 6, 2) := by decide +kernel
theorem dX1_save_43 : decode cX1_save 43 = .ok (.irem, 1) := by decide +kernel
theorem dX1_save_44 : decode cX1_save 44 = .ok (.istore_n 3, 1) := by decide +kernel
theorem dX1_save_45 : decode cX1_save 45 = .ok (.aload_n 0, 1) := by decide +kernel
theorem dX1_save_46 : decode cX1_save 46 = .ok (.getfield 11, 3) := by decide +kernel
theorem dX1_save_49 : decode cX1_save 49 = .ok (.iload_n 3, 1) := by decide +kernel
theorem dX1_save_50 : decode cX1_save 50 = .ok (.aaload, 1) := by decide +kernel
theorem dX1_save_51 : decode cX1_save 51 = .ok (.aload_n 1, 1) := by decide +kernel
theorem dX1_save_52 : decode cX1_save 52 = .ok (.invokevirtual 32, 3) := by decide +kernel
theorem dX1_save_55 : decode cX1_save 55 = .ok (.aload_n 0, 1) := by decide +kernel
theorem dX1_save_56 : decode cX1_save 56 = .ok (.getfield 19, 3) := by decide +kernel
theorem dX1_save_59 : decode cX1_save 59 = .ok (.iload_n 3, 1) := by decide +kernel
theorem dX1_save_60 : decode cX1_save 60 = .ok (.aaload, 1) := by decide +kernel
theorem dX1_save_61 : decode cX1_save 61 = .ok (.aload_n 2, 1) := by decide +kernel
theorem dX1_save_62 : decode cX1_save 62 = .ok (.invokevirtual 36, 3) := by decide +kernel
theorem dX1_save_65 : decode cX1_save 65 = .ok (.aload_n 0, 1) := by decide +kernel
theorem dX1_save_66 : decode cX1_save 66 = .ok (.dup, 1) := by decide +kernel
theorem dX1_save_67 : decode cX1_save 67 = .ok (.getfield 25, 3) := by decide +kernel
theorem dX1_save_70 : decode cX1_save 70 = .ok (.iconst 1, 1) := by decide +kernel
theorem dX1_save_71 : decode cX1_save 71 = .ok (.iadd, 1) := by decide +kernel
theorem dX1_save_72 : decode cX1_save 72 = .ok (.putfield 25, 3) := by decide +kernel
theorem dX1_save_75 : decode cX1_save 75 = .ok (.return_, 1) := by decide +kernel
theorem dX1_restore_0 : decode cX1_restore 0 = .ok (.aload_n 0, 1) := by decide +kernel
theorem dX1_restore_1 : decode cX1_restore 1 = .ok (.getfield 25, 3) := by decide +kernel
theorem dX1_restore_4 : decode cX1_restore 4 = .ok (.ifCond .ne 4, 3) := by decide +kernel
theorem dX1_restore_7 : decode cX1_restore 7 = .ok (.return_, 1) := by decide +kernel
theorem dX1_restore_8 : decode cX1_restore 8 = .ok (.aload_n 0, 1) := by decide +kernel
theorem dX1_restore_9 : decode cX1_restore 9 = .ok (.dup, 1) := by decide +kernel
theorem dX1_restore_10 : decode cX1_restore 10 = .ok (.getfield 25, 3) := by decide +kernel
theorem dX1_restore_13 : decode cX1_restore 13 = .ok (.iconst 1, 1) := by decide +kernel
theorem dX1_restore_14 : decode cX1_restore 14 = .ok (.isub, 1) := by decide +kernel
theorem dX1_restore_15 : decode cX1_restore 15 = .ok (.putfield 25, 3) := by decide +kernel
theorem dX1_restore_18 : decode cX1_restore 18 = .ok (.aload_n 0, 1) := by decide +kernel
theorem dX1_restore_19 : decode cX1_restore 19 = .ok (.getfield 29, 3) := by decide +kernel
theorem dX1_restore_22 : decode cX1_restore 22 = .ok (.aload_n 0, 1) := by decide +kernel
theorem dX1_restore_23 : decode cX1_restore 23 = .ok (.getfield 25, 3) := by decide +kernel
theorem dX1_restore_26 : decode cX1_restore 26 = .ok (.iadd, 1) := by decide +kernel
theorem dX1_restore_27 : decode cX1_restore 27 = .ok (.bipush 6, 2) := by decide +kernel
theorem dX1_restore_29 : decode cX1_restore 29 = .ok (.irem, 1) := by decide +kernel
theorem dX1_restore_30 : decode cX1_restore 30 = .ok (.istore_n 3, 1) := by decide +kernel
theorem dX1_restore_31 : decode cX1_restore 31 = .ok (.aload_n 1, 1) := by decide +kernel
theorem dX1_restore_32 : decode cX1_restore 32 = .ok (.aload_n 0, 1) := by decide +kernel
theorem dX1_restore_33 : decode cX1_restore 33 = .ok (.getfield 11, 3) := by decide +kernel
theorem dX1_restore_36 : decode cX1_restore 36 = .ok (.iload_n 3, 1) := by decide +kernel
theorem dX1_restore_37 : decode cX1_restore 37 = .ok (.aaload, 1) := by decide +kernel
theorem dX1_restore_38 : decode cX1_restore 38 = .ok (.invokevirtual 32, 3) := by decide +kernel
theorem dX1_restore_41 : decode cX1_restore 41 = .ok (.aload_n 2, 1) := by decide +kernel
theorem dX1_restore_42 : decode cX1_restore 42 = .ok (.aload_n 0, 1) := by decide +kernel
theorem dX1_restore_43 : decode cX1_restore 43 = .ok (.getfield 19, 3) := by decide +kernel
theorem dX1_restore_46 : decode cX1_restore 46 = .ok (.iload_n 3, 1) := by decide +kernel
theorem dX1_restore_47 : decode cX1_restore 47 = .ok (.aaload, 1) := by decide +kernel
theorem dX1_restore_48 : decode cX1_restore 48 = .ok (.invokevirtual 36, 3) := by decide +kernel
theorem dX1_restore_51 : decode cX1_restore 51 = .ok (.return_, 1) := by decide +kernel
theorem dX2_init_0 : decode cX2_init 0 = .ok (.aload_n 0, 1) := by decide +kernel
theorem dX2_init_1 : decode cX2_init 1 = .ok (.invokespecial 3, 3) := by decide +kernel
theorem dX2_init_4 : decode cX2_init 4 = .ok (.aload_n 0, 1) := by decide +kernel
theorem dX2_init_5 : decode cX2_init 5 = .ok (.bipush 12, 2) := by decide +kernel
theorem dX2_init_7 : decode cX2_init 7 = .ok (.newarray .int, 2) := by decide +kernel
theorem dX2_init_9 : decode cX2_init 9 = .ok (.putfield 9, 3) := by decide +kernel
theorem dX2_init_12 : decode cX2_init 12 = .ok (.aload_n 0, 1) := by decide +kernel
theorem dX2_init_13 : decode cX2_init 13 = .ok (.bipush 39, 2) := by decide +kernel
theorem dX2_init_15 : decode cX2_init 15 = .ok (.newarray .int, 2) := by decide +kernel
theorem dX2_init_17 : decode cX2_init 17 = .ok (.putfield 15, 3) := by decide +kernel
theorem dX2_init_20 : decode cX2_init 20 = .ok (.aload_n 0, 1) := by decide +kernel
theorem dX2_init_21 : decode cX2_init 21 = .ok (.bipush 39, 2) := by decide +kernel
theorem dX2_init_23 : decode cX2_init 23 = .ok (.newarray .int, 2) := by decide +kernel
theorem dX2_init_25 : decode cX2_init 25 = .ok (.putfield 18, 3) := by decide +kernel
theorem dX2_init_28 : decode cX2_init 28 = .ok (.aload_n 0, 1) := by decide +kernel
theorem dX2_init_29 : decode cX2_init 29 = .ok (.bipush 104, 2) := by decide +kernel
theorem dX2_init_31 : decode cX2_init 31 = .ok (.newarray .long, 2) := by decide +kernel
theorem dX2_init_33 : decode cX2_init 33 = .ok (.putfield 21, 3) := by decide +kernel
theorem dX2_init_36 : decode cX2_init 36 = .ok (.aload_n 0, 1) := by decide +kernel
theorem dX2_init_37 : decode cX2_init 37 = .ok (.iconst 1, 1) := by decide +kernel
theorem dX2_init_38 : decode cX2_init 38 = .ok (.putfield 25, 3) := by decide +kernel
theorem dX2_init_41 : decode cX2_init 41 = .ok (.aload_n 0, 1) := by decide +kernel
theorem dX2_init_42 : decode cX2_init 42 = .ok (.aload_n 1, 1) := by decide +kernel
theorem dX2_init_43 : decode cX2_init 43 = .ok (.putfield 29, 3) := by decide +kernel
theorem dX2_init_46 : decode cX2_init 46 = .ok (.aload_n 0, 1) := by decide +kernel
theorem dX2_init_47 : decode cX2_init 47 = .ok (.aload_n 2, 1) := by decide +kernel
theorem dX2_init_48 : decode cX2_init 48 = .ok (.putfield 33, 3) := by decide +kernel
theorem dX2_init_51 : decode cX2_init 51 = .ok (.aload_n 0, 1) := by decide +kernel
theorem dX2_init_52 : decode cX2_init 52 = .ok (.aload_n 3, 1) := by decide +kernel
theorem dX2_init_53 : decode cX2_init 53 = .ok (.putfield 37, 3) := by decide +kernel
theorem dX2_init_56 : decode cX2_init 56 = .ok (.return_, 1) := by decide +kernel
theorem dX2_forget_0 : decode cX2_forget 0 = .ok (.aload_n 0, 1) := by decide +kernel
theorem dX2_forget_1 : decode cX2_forget 1 = .ok (.iconst 1, 1) := by decide +kernel
theorem dX2_forget_2 : decode cX2_forget 2 = .ok (.putfield 25, 3) := by decide +kernel
theorem dX2_forget_5 : decode cX2_forget 5 = .ok (.return_, 1) := by decide +kernel
theorem dX2_isReached_0 : decode cX2_isReached 0 = .ok (.aload_n 0, 1) := by decide +kernel
theorem dX2_isReached_1 : decode cX2_isReached 1 = .ok (.getfield 15, 3) := by decide +kernel
theorem dX2_isReached_4 : decode cX2_isReached 4 = .ok (.iload_n 1, 1) := by decide +kernel
theorem dX2_isReached_5 : decode cX2_isReached 5 = .ok (.iconst 3, 1) := by decide +kernel
theorem dX2_isReached_6 : decode cX2_isReached 6 = .ok (.imul, 1) := by decide +kernel
theorem dX2_isReached_7 : decode cX2_isReached 7 = .ok (.iaload, 1) := by decide +kernel
theorem dX2_isReached_8 : decode cX2_isReached 8 = .ok (.iconst (-1), 1) := by decide +kernel
theorem dX2_isReached_9 : decode cX2_isReached 9 = .ok (.if_icmp .eq 7, 3) := by decide +kernel
theorem dX2_isReached_12 : decode cX2_isReached 12 = .ok (.iconst 1, 1) := by decide +kernel
theorem dX2_isReached_13 : decode cX2_isReached 13 = .ok (.goto 4, 3) := by decide +kernel
theorem dX2_isReached_16 : decode cX2_isReached 16 = .ok (.iconst 0, 1) := by decide +kernel
theorem dX2_isReached_17 : decode cX2_isReached 17 = .ok (.ireturn, 1) := by decide +kernel
theorem dX2_refresh_0 : decode cX2_refresh 0 = .ok (.aload_n 0, 1) := by decide +kernel
theorem dX2_refresh_1 : decode cX2_refresh 1 = .ok (.getfield 25, 3) := by decide +kernel
theorem dX2_refresh_4 : decode cX2_refresh 4 = .ok (.ifCond .ne 4, 3) := by decide +kernel
theorem dX2_refresh_7 : decode cX2_refresh 7 = .ok (.return_, 1) := by decide +kernel
theorem dX2_refresh_8 : decode cX2_refresh 8 = .ok (.aload_n 0, 1) := by decide +kernel
theorem dX2_refresh_9 : decode cX2_refresh 9 = .ok (.invokevirtual 41, 3) := by decide +kernel
theorem dX2_refresh_12 : decode cX2_refresh 12 = .ok (.iconst 0, 1) := by decide +kernel
theorem dX2_refresh_13 : decode cX2_refresh 13 = .ok (.istore_n 1, 1) := by decide +kernel
theorem dX2_refresh_14 : decode cX2_refresh 14 = .ok (.iload_n 1, 1) := by decide +kernel
theorem dX2_refresh_15 : decode cX2_refresh 15 = .ok (.sipush 512, 3) := by decide +kernel
theorem dX2_refresh_18 : decode cX2_refresh 18 = .ok (.if_icmp .ge 38, 3) := by decide +kernel
theorem dX2_refresh_21 : decode cX2_refresh 21 = .ok (.aload_n 0, 1) := by decide +kernel
theorem dX2_refresh_22 : decode cX2_refresh 22 = .ok (.getfield 33, 3) := by decide +kernel
theorem dX2_refresh_25 : decode cX2_refresh 25 = .ok (.iload_n 1, 1) := by decide +kernel
theorem dX2_refresh_26 : decode cX2_refresh 26 = .ok (.invokevirtual 44, 3) := by decide +kernel
theorem dX2_refresh_29 : decode cX2_refresh 29 = .ok (.ifCond .eq 21, 3) := by decide +kernel
theorem dX2_refresh_32 : decode cX2_refresh 32 = .ok (.aload_n 0, 1) := by decide +kernel
theorem dX2_refresh_33 : decode cX2_refresh 33 = .ok (.iload_n 1, 1) := by decide +kernel
theorem dX2_refresh_34 : decode cX2_refresh 34 = .ok (.aload_n 0, 1) := by decide +kernel
theorem dX2_refresh_35 : decode cX2_refresh 35 = .ok (.getfield 37, 3) := by decide +kernel
theorem dX2_refresh_38 : decode cX2_refresh 38 = .ok (.iload_n 1, 1) := by decide +kernel
theorem dX2_refresh_39 : decode cX2_refresh 39 = .ok (.invokevirtual 50, 3) := by decide +kernel
theorem dX2_refresh_42 : decode cX2_refresh 42 = .ok (.invokevirtual 56, 3) := by decide +kernel
theorem dX2_refresh_45 : decode cX2_refresh 45 = .ok (.aload_n 0, 1) := by decide +kernel
theorem dX2_refresh_46 : decode cX2_refresh 46 = .ok (.iload_n 1, 1) := by decide +kernel
theorem dX2_refresh_47 : decode cX2_refresh 47 = .ok (.invokevirtual 60, 3) := by decide +kernel
theorem dX2_refresh_50 : decode cX2_refresh 50 = .ok (.iinc 1 1, 3) := by decide +kernel
theorem dX2_refresh_53 : decode cX2_refresh 53 = .ok (.goto (-39), 3) := by decide +kernel
theorem dX2_refresh_56 : decode cX2_refresh 56 = .ok (.aload_n 0, 1) := by decide +kernel
theorem dX2_refresh_57 : decode cX2_refresh 57 = .ok (.iconst 0, 1) := by decide +kernel
theorem dX2_refresh_58 : decode cX2_refresh 58 = .ok (.putfield 25, 3) := by decide +kernel
theorem dX2_refresh_61 : decode cX2_refresh 61 = .ok (.return_, 1) := by decide +kernel
theorem dX2_clear_0 : decode cX2_clear 0 = .ok (.aload_n 0, 1) := by decide +kernel
theorem dX2_clear_1 : decode cX2_clear 1 = .ok (.getfield 9, 3) := by decide +kernel
theorem dX2_clear_4 : decode cX2_clear 4 = .ok (.iconst (-1), 1) := by decide +kernel
theorem dX2_clear_5 : decode cX2_clear 5 = .ok (.invokestatic 64, 3) := by decide +kernel
theorem dX2_clear_8 : decode cX2_clear 8 = .ok (.aload_n 0, 1) := by decide +kernel
theorem dX2_clear_9 : decode cX2_clear 9 = .ok (.getfield 15, 3) := by decide +kernel
theorem dX2_clear_12 : decode cX2_clear 12 = .ok (.iconst (-1), 1) := by decide +kernel
theorem dX2_clear_13 : decode cX2_clear 13 = .ok (.invokestatic 64, 3) := by decide +kernel
theorem dX2_clear_16 : decode cX2_clear 16 = .ok (.aload_n 0, 1) := by decide +kernel
theorem dX2_clear_17 : decode cX2_clear 17 = .ok (.getfield 18, 3) := by decide +kernel
theorem dX2_clear_20 : decode cX2_clear 20 = .ok (.iconst (-1), 1) := by decide +kernel
theorem dX2_clear_21 : decode cX2_clear 21 = .ok (.invokestatic 64, 3) := by decide +kernel
theorem dX2_clear_24 : decode cX2_clear 24 = .ok (.aload_n 0, 1) := by decide +kernel
theorem dX2_clear_25 : decode cX2_clear 25 = .ok (.getfield 21, 3) := by decide +kernel
theorem dX2_clear_28 : decode cX2_clear 28 = .ok (.lconst 0, 1) := by decide +kernel
theorem dX2_clear_29 : decode cX2_clear 29 = .ok (.invokestatic 70, 3) := by decide +kernel
theorem dX2_clear_32 : decode cX2_clear 32 = .ok (.aload_n 0, 1) := by decide +kernel
theorem dX2_clear_33 : decode cX2_clear 33 = .ok (.iconst 0, 1) := by decide +kernel
theorem dX2_clear_34 : decode cX2_clear 34 = .ok (.putfield 73, 3) := by decide +kernel
theorem dX2_clear_37 : decode cX2_clear 37 = .ok (.aload_n 0, 1) := by decide +kernel
theorem dX2_clear_38 : decode cX2_clear 38 = .ok (.iconst 0, 1) := by decide +kernel
theorem dX2_clear_39 : decode cX2_clear 39 = .ok (.putfield 77, 3) := by decide +kernel
theorem dX2_clear_42 : decode cX2_clear 42 = .ok (.aload_n 0, 1) := by decide +kernel
theorem dX2_clear_43 : decode cX2_clear 43 = .ok (.iconst 0, 1) := by decide +kernel
theorem dX2_clear_44 : decode cX2_clear 44 = .ok (.putfield 80, 3) := by decide +kernel
theorem dX2_clear_47 : decode cX2_clear 47 = .ok (.return_, 1) := by decide +kernel
theorem dX2_countRun_0 : decode cX2_countRun 0 = .ok (.iload_n 2, 1) := by decide +kernel
theorem dX2_countRun_1 : decode cX2_countRun 1 = .ok (.sipush 1000, 3) := by decide +kernel
theorem dX2_countRun_4 : decode cX2_countRun 4 = .ok (.if_icmp .lt 16, 3) := by decide +kernel
theorem dX2_countRun_7 : decode cX2_countRun 7 = .ok (.aload_n 0, 1) := by decide +kernel
theorem dX2_countRun_8 : decode cX2_countRun 8 = .ok (.dup, 1) := by decide +kernel
theorem dX2_countRun_9 : decode cX2_countRun 9 = .ok (.getfield 80, 3) := by decide +kernel
theorem dX2_countRun_12 : decode cX2_countRun 12 = .ok (.iconst 1, 1) := by decide +kernel
theorem dX2_countRun_13 : decode cX2_countRun 13 = .ok (.iadd, 1) := by decide +kernel
theorem dX2_countRun_14 : decode cX2_countRun 14 = .ok (.putfield 80, 3) := by decide +kernel
theorem dX2_countRun_17 : decode cX2_countRun 17 = .ok (.goto 48, 3) := by decide +kernel
theorem dX2_countRun_20 : decode cX2_countRun 20 = .ok (.iload_n 2, 1) := by decide +kernel
theorem dX2_countRun_21 : decode cX2_countRun 21 = .ok (.iconst (-1), 1) := by decide +kernel
theorem dX2_countRun_22 : decode cX2_countRun 22 = .ok (.if_icmp .ne 16, 3) := by decide +kernel
theorem dX2_countRun_25 : decode cX2_countRun 25 = .ok (.aload_n 0, 1) := by decide +kernel
theorem dX2_countRun_26 : decode cX2_countRun 26 = .ok (.dup, 1) := by decide +kernel
theorem dX2_countRun_27 : decode cX2_countRun 27 = .ok (.getfield 73, 3) := by decide +kernel
theorem dX2_countRun_30 : decode cX2_countRun 30 = .ok (.iconst 1, 1) := by decide +kernel
theorem dX2_countRun_31 : decode cX2_countRun 31 = .ok (.iadd, 1) := by decide +kernel
theorem dX2_countRun_32 : decode cX2_countRun 32 = .ok (.putfield 73, 3) := by decide +kernel
theorem dX2_countRun_35 : decode cX2_countRun 35 = .ok (.goto 30, 3) := by decide +kernel
theorem dX2_countRun_38 : decode cX2_countRun 38 = .ok (.aload_n 0, 1) := by decide +kernel
theorem dX2_countRun_39 : decode cX2_countRun 39 = .ok (.dup, 1) := by decide +kernel
theorem dX2_countRun_40 : decode cX2_countRun 40 = .ok (.getfield 77, 3) := by decide +kernel
theorem dX2_countRun_43 : decode cX2_countRun 43 = .ok (.iconst 1, 1) := by decide +kernel
theorem dX2_countRun_44 : decode cX2_countRun 44 = .ok (.iadd, 1) := by decide +kernel
theorem dX2_countRun_45 : decode cX2_countRun 45 = .ok (.putfield 77, 3) := by decide +kernel
theorem dX2_countRun_48 : decode cX2_countRun 48 = .ok (.aload_n 0, 1) := by decide +kernel
theorem dX2_countRun_49 : decode cX2_countRun 49 = .ok (.getfield 9, 3) := by decide +kernel
theorem dX2_countRun_52 : decode cX2_countRun 52 = .ok (.iload_n 2, 1) := by decide +kernel
theorem dX2_countRun_53 : decode cX2_countRun 53 = .ok (.iaload, 1) := by decide +kernel
theorem dX2_countRun_54 : decode cX2_countRun 54 = .ok (.iconst (-1), 1) := by decide +kernel
theorem dX2_countRun_55 : decode cX2_countRun 55 = .ok (.if_icmp .ne 10, 3) := by decide +kernel
theorem dX2_countRun_58 : decode cX2_countRun 58 = .ok (.aload_n 0, 1) := by decide +kernel
theorem dX2_countRun_59 : decode cX2_countRun 59 = .ok (.getfield 9, 3) := by decide +kernel
theorem dX2_countRun_62 : decode cX2_countRun 62 = .ok (.iload_n 2, 1) := by decide +kernel
theorem dX2_countRun_63 : decode cX2_countRun 63 = .ok (.iload_n 1, 1) := by decide +kernel
theorem dX2_countRun_64 : decode cX2_countRun 64 = .ok (.iastore, 1) := by decide +kernel
theorem dX2_countRun_65 : decode cX2_countRun 65 = .ok (.return_, 1) := by decide +kernel
theorem dX2_followRun_0 : decode cX2_followRun 0 = .ok (.iload_n 1, 1) := by decide +kernel
theorem dX2_followRun_1 : decode cX2_followRun 1 = .ok (.istore_n 2, 1) := by decide +kernel
theorem dX2_followRun_2 : decode cX2_followRun 2 = .ok (.iconst 0, 1) := by decide +kernel
theorem dX2_followRun_3 : decode cX2_followRun 3 = .ok (.istore_n 3, 1) := by decide +kernel
theorem dX2_followRun_4 : decode cX2_followRun 4 = .ok (.iload_n 3, 1) := by decide +kernel
theorem dX2_followRun_5 : decode cX2_followRun 5 = .ok (.sipush 6656, 3) := by decide +kernel
theorem dX2_followRun_8 : decode cX2_followRun 8 = .ok (.if_icmp .ge 54, 3) := by decide +kernel
theorem dX2_followRun_11 : decode cX2_followRun 11 = .ok (.iload_n 2, 1) := by decide +kernel
theorem dX2_followRun_12 : decode cX2_followRun 12 = .ok (.iconst (-1), 1) := by decide +kernel
theorem dX2_followRun_13 : decode cX2_followRun 13 = .ok (.if_icmp .eq 49, 3) := by decide +kernel
theorem dX2_followRun_16 : decode cX2_followRun 16 = .ok (.aload_n 0, 1) := by decide +kernel
theorem dX2_followRun_17 : decode cX2_followRun 17 = .ok (.iload_n 2, 1) := by decide +kernel
theorem dX2_followRun_18 : decode cX2_followRun 18 = .ok (.invokevirtual 83, 3) := by decide +kernel
theorem dX2_followRun_21 : decode cX2_followRun 21 = .ok (.ifCond .ne 41, 3) := by decide +kernel
theorem dX2_followRun_24 : decode cX2_followRun 24 = .ok (.aload_n 0, 1) := by decide +kernel
theorem dX2_followRun_25 : decode cX2_followRun 25 = .ok (.getfield 21, 3) := by decide +kernel
theorem dX2_followRun_28 : decode cX2_followRun 28 = .ok (.iload_n 2, 1) := by decide +kernel
theorem dX2_followRun_29 : decode cX2_followRun 29 = .ok (.bipush 6, 2) := by decide +kernel
theorem dX2_followRun_31 : decode cX2_followRun 31 = .ok (.ishr, 1) := by decide +kernel
theorem dX2_followRun_32 : decode cX2_followRun 32 = .ok (.dup2, 1) := by decide +kernel
theorem dX2_followRun_33 : decode cX2_followRun 33 = .ok (.laload, 1) := by decide +kernel
theorem dX2_followRun_34 : decode cX2_followRun 34 = .ok (.lconst 1, 1) := by decide +kernel
theorem dX2_followRun_35 : decode cX2_followRun 35 = .ok (.iload_n 2, 1) := by decide +kernel
theorem dX2_followRun_36 : decode cX2_followRun 36 = .ok (.bipush 63, 2) := by decide +kernel
theorem dX2_followRun_38 : decode cX2_followRun 38 = .ok (.iand, 1) := by decide +kernel
theorem dX2_followRun_39 : decode cX2_followRun 39 = .ok (.lshl, 1) := by decide +kernel
theorem dX2_followRun_40 : decode cX2_followRun 40 = .ok (.lor, 1) := by decide +kernel
theorem dX2_followRun_41 : decode cX2_followRun 41 = .ok (.lastore, 1) := by decide +kernel
theorem dX2_followRun_42 : decode cX2_followRun 42 = .ok (.aload_n 0, 1) := by decide +kernel
theorem dX2_followRun_43 : decode cX2_followRun 43 = .ok (.iload_n 2, 1) := by decide +kernel
theorem dX2_followRun_44 : decode cX2_followRun 44 = .ok (.invokevirtual 86, 3) := by decide +kernel
theorem dX2_followRun_47 : decode cX2_followRun 47 = .ok (.aload_n 0, 1) := by decide +kernel
theorem dX2_followRun_48 : decode cX2_followRun 48 = .ok (.getfield 29, 3) := by decide +kernel
theorem dX2_followRun_51 : decode cX2_followRun 51 = .ok (.iload_n 2, 1) := by decide +kernel
theorem dX2_followRun_52 : decode cX2_followRun 52 = .ok (.invokevirtual 89, 3) := by decide +kernel
theorem dX2_followRun_55 : decode cX2_followRun 55 = .ok (.istore_n 2, 1) := by decide +kernel
theorem dX2_followRun_56 : decode cX2_followRun 56 = .ok (.iinc 3 1, 3) := by decide +kernel
theorem dX2_followRun_59 : decode cX2_followRun 59 = .ok (.goto (-55), 3) := by decide +kernel
theorem dX2_followRun_62 : decode cX2_followRun 62 = .ok (.return_, 1) := by decide +kernel
theorem dX2_isVisited_0 : decode cX2_isVisited 0 = .ok (.aload_n 0, 1) := by decide +kernel
theorem dX2_isVisited_1 : decode cX2_isVisited 1 = .ok (.getfield 21, 3) := by decide +kernel
theorem dX2_isVisited_4 : decode cX2_isVisited 4 = .ok (.iload_n 1, 1) := by decide +kernel
theorem dX2_isVisited_5 : decode cX2_isVisited 5 = .ok (.bipush 6, 2) := by decide +kernel
theorem dX2_isVisited_7 : decode cX2_isVisited 7 = .ok (.ishr, 1) := by decide +kernel
theorem dX2_isVisited_8 : decode cX2_isVisited 8 = .ok (.laload, 1) := by decide +kernel
theorem dX2_isVisited_9 : decode cX2_isVisited 9 = .ok (.iload_n 1, 1) := by decide +kernel
theorem dX2_isVisited_10 : decode cX2_isVisited 10 = .ok (.bipush 63, 2) := by decide +kernel
theorem dX2_isVisited_12 : decode cX2_isVisited 12 = .ok (.iand, 1) := by decide +kernel
theorem dX2_isVisited_13 : decode cX2_isVisited 13 = .ok (.lshr, 1) := by decide +kernel
theorem dX2_isVisited_14 : decode cX2_isVisited 14 = .ok (.lconst 1, 1) := by decide +kernel
theorem dX2_isVisited_15 : decode cX2_isVisited 15 = .ok (.land, 1) := by decide +kernel
theorem dX2_isVisited_16 : decode cX2_isVisited 16 = .ok (.lconst 0, 1) := by decide +kernel
theorem dX2_isVisited_17 : decode cX2_isVisited 17 = .ok (.lcmp, 1) := by decide +kernel
theorem dX2_isVisited_18 : decode cX2_isVisited 18 = .ok (.ifCond .eq 7, 3) := by decide +kernel
theorem dX2_isVisited_21 : decode cX2_isVisited 21 = .ok (.iconst 1, 1) := by decide +kernel
theorem dX2_isVisited_22 : decode cX2_isVisited 22 = .ok (.goto 4, 3) := by decide +kernel
theorem dX2_isVisited_25 : decode cX2_isVisited 25 = .ok (.iconst 0, 1) := by decide +kernel
theorem dX2_isVisited_26 : decode cX2_isVisited 26 = .ok (.ireturn, 1) := by decide +kernel
theorem dX2_noteValues_0 : decode cX2_noteValues 0 = .ok (.iload_n 1, 1) := by decide +kernel
theorem dX2_noteValues_1 : decode cX2_noteValues 1 = .ok (.invokestatic 94, 3) := by decide +kernel
theorem dX2_noteValues_4 : decode cX2_noteValues 4 = .ok (.iconst 3, 1) := by decide +kernel
theorem dX2_noteValues_5 : decode cX2_noteValues 5 = .ok (.imul, 1) := by decide +kernel
theorem dX2_noteValues_6 : decode cX2_noteValues 6 = .ok (.istore_n 2, 1) := by decide +kernel
theorem dX2_noteValues_7 : decode cX2_noteValues 7 = .ok (.iconst 0, 1) := by decide +kernel
theorem dX2_noteValues_8 : decode cX2_noteValues 8 = .ok (.istore_n 3, 1) := by decide +kernel
theorem dX2_noteValues_9 : decode cX2_noteValues 9 = .ok (.iload_n 3, 1) := by decide +kernel
theorem dX2_noteValues_10 : decode cX2_noteValues 10 = .ok (.iconst 3, 1) := by decide +kernel
theorem dX2_noteValues_11 : decode cX2_noteValues 11 = .ok (.if_icmp .ge 77, 3) := by decide +kernel
theorem dX2_noteValues_14 : decode cX2_noteValues 14 = .ok (.iload_n 1, 1) := by decide +kernel
theorem dX2_noteValues_15 : decode cX2_noteValues 15 = .ok (.invokestatic 97, 3) := by decide +kernel
theorem dX2_noteValues_18 : decode cX2_noteValues 18 = .ok (.iload_n 3, 1) := by decide +kernel
theorem dX2_noteValues_19 : decode cX2_noteValues 19 = .ok (.invokestatic 100, 3) := by decide +kernel
theorem dX2_noteValues_22 : decode cX2_noteValues 22 = .ok (.istore 4, 2) := by decide +kernel
theorem dX2_noteValues_24 : decode cX2_noteValues 24 = .ok (.iload_n 2, 1) := by decide +kernel
theorem dX2_noteValues_25 : decode cX2_noteValues 25 = .ok (.iload_n 3, 1) := by decide +kernel
theorem dX2_noteValues_26 : decode cX2_noteValues 26 = .ok (.iadd, 1) := by decide +kernel
theorem dX2_noteValues_27 : decode cX2_noteValues 27 = .ok (.istore 5, 2) := by decide +kernel
theorem dX2_noteValues_29 : decode cX2_noteValues 29 = .ok (.aload_n 0, 1) := by decide +kernel
theorem dX2_noteValues_30 : decode cX2_noteValues 30 = .ok (.getfield 15, 3) := by decide +kernel
theorem dX2_noteValues_33 : decode cX2_noteValues 33 = .ok (.iload 5, 2) := by decide +kernel
theorem dX2_noteValues_35 : decode cX2_noteValues 35 = .ok (.iaload, 1) := by decide +kernel
theorem dX2_noteValues_36 : decode cX2_noteValues 36 = .ok (.iconst (-1), 1) := by decide +kernel
theorem dX2_noteValues_37 : decode cX2_noteValues 37 = .ok (.if_icmp .eq 15, 3) := by decide +kernel
theorem dX2_noteValues_40 : decode cX2_noteValues 40 = .ok (.iload 4, 2) := by decide +kernel
theorem dX2_noteValues_42 : decode cX2_noteValues 42 = .ok (.aload_n 0, 1) := by decide +kernel
theorem dX2_noteValues_43 : decode cX2_noteValues 43 = .ok (.getfield 15, 3) := by decide +kernel
theorem dX2_noteValues_46 : decode cX2_noteValues 46 = .ok (.iload 5, 2) := by decide +kernel
theorem dX2_noteValues_48 : decode cX2_noteValues 48 = .ok (.iaload, 1) := by decide +kernel
theorem dX2_noteValues_49 : decode cX2_noteValues 49 = .ok (.if_icmp .ge 12, 3) := by decide +kernel
theorem dX2_noteValues_52 : decode cX2_noteValues 52 = .ok (.aload_n 0, 1) := by decide +kernel
theorem dX2_noteValues_53 : decode cX2_noteValues 53 = .ok (.getfield 15, 3) := by decide +kernel
theorem dX2_noteValues_56 : decode cX2_noteValues 56 = .ok (.iload 5, 2) := by decide +kernel
theorem dX2_noteValues_58 : decode cX2_noteValues 58 = .ok (.iload 4, 2) := by decide +kernel
theorem dX2_noteValues_60 : decode cX2_noteValues 60 = .ok (.iastore, 1) := by decide +kernel
theorem dX2_noteValues_61 : decode cX2_noteValues 61 = .ok (.iload 4, 2) := by decide +kernel
theorem dX2_noteValues_63 : decode cX2_noteValues 63 = .ok (.aload_n 0, 1) := by decide +kernel
theorem dX2_noteValues_64 : decode cX2_noteValues 64 = .ok (.getfield 18, 3) := by decide +kernel
theorem dX2_noteValues_67 : decode cX2_noteValues 67 = .ok (.iload 5, 2) := by decide +kernel
theorem dX2_noteValues_69 : decode cX2_noteValues 69 = .ok (.iaload, 1) := by decide +kernel
theorem dX2_noteValues_70 : decode cX2_noteValues 70 = .ok (.if_icmp .le 12, 3) := by decide +kernel
theorem dX2_noteValues_73 : decode cX2_noteValues 73 = .ok (.aload_n 0, 1) := by decide +kernel
theorem dX2_noteValues_74 : decode cX2_noteValues 74 = .ok (.getfield 18, 3) := by decide +kernel
theorem dX2_noteValues_77 : decode cX2_noteValues 77 = .ok (.iload 5, 2) := by decide +kernel
theorem dX2_noteValues_79 : decode cX2_noteValues 79 = .ok (.iload 4, 2) := by decide +kernel
theorem dX2_noteValues_81 : decode cX2_noteValues 81 = .ok (.iastore, 1) := by decide +kernel
theorem dX2_noteValues_82 : decode cX2_noteValues 82 = .ok (.iinc 3 1, 3) := by decide +kernel
theorem dX2_noteValues_85 : decode cX2_noteValues 85 = .ok (.goto (-76), 3) := by decide +kernel
theorem dX2_noteValues_88 : decode cX2_noteValues 88 = .ok (.return_, 1) := by decide +kernel
theorem dX3_init_0 : decode cX3_init 0 = .ok (.aload_n 0, 1) := by decide +kernel
theorem dX3_init_1 : decode cX3_init 1 = .ok (.invokespecial 3, 3) := by decide +kernel
theorem dX3_init_4 : decode cX3_init 4 = .ok (.aload_n 0, 1) := by decide +kernel
theorem dX3_init_5 : decode cX3_init 5 = .ok (.bipush 12, 2) := by decide +kernel
theorem dX3_init_7 : decode cX3_init 7 = .ok (.newarray .int, 2) := by decide +kernel
theorem dX3_init_9 : decode cX3_init 9 = .ok (.putfield 9, 3) := by decide +kernel
theorem dX3_init_12 : decode cX3_init 12 = .ok (.aload_n 0, 1) := by decide +kernel
theorem dX3_init_13 : decode cX3_init 13 = .ok (.bipush 12, 2) := by decide +kernel
theorem dX3_init_15 : decode cX3_init 15 = .ok (.newarray .int, 2) := by decide +kernel
theorem dX3_init_17 : decode cX3_init 17 = .ok (.putfield 15, 3) := by decide +kernel
theorem dX3_init_20 : decode cX3_init 20 = .ok (.aload_n 0, 1) := by decide +kernel
theorem dX3_init_21 : decode cX3_init 21 = .ok (.bipush 12, 2) := by decide +kernel
theorem dX3_init_23 : decode cX3_init 23 = .ok (.newarray .int, 2) := by decide +kernel
theorem dX3_init_25 : decode cX3_init 25 = .ok (.putfield 18, 3) := by decide +kernel
theorem dX3_init_28 : decode cX3_init 28 = .ok (.aload_n 0, 1) := by decide +kernel
theorem dX3_init_29 : decode cX3_init 29 = .ok (.bipush 12, 2) := by decide +kernel
theorem dX3_init_31 : decode cX3_init 31 = .ok (.newarray .int, 2) := by decide +kernel
theorem dX3_init_33 : decode cX3_init 33 = .ok (.putfield 21, 3) := by decide +kernel
theorem dX3_init_36 : decode cX3_init 36 = .ok (.aload_n 0, 1) := by decide +kernel
theorem dX3_init_37 : decode cX3_init 37 = .ok (.bipush 12, 2) := by decide +kernel
theorem dX3_init_39 : decode cX3_init 39 = .ok (.newarray .int, 2) := by decide +kernel
theorem dX3_init_41 : decode cX3_init 41 = .ok (.putfield 24, 3) := by decide +kernel
theorem dX3_init_44 : decode cX3_init 44 = .ok (.aload_n 0, 1) := by decide +kernel
theorem dX3_init_45 : decode cX3_init 45 = .ok (.bipush 12, 2) := by decide +kernel
theorem dX3_init_47 : decode cX3_init 47 = .ok (.newarray .int, 2) := by decide +kernel
theorem dX3_init_49 : decode cX3_init 49 = .ok (.putfield 27, 3) := by decide +kernel
theorem dX3_init_52 : decode cX3_init 52 = .ok (.return_, 1) := by decide +kernel
theorem dX3_clear_0 : decode cX3_clear 0 = .ok (.aload_n 0, 1) := by decide +kernel
theorem dX3_clear_1 : decode cX3_clear 1 = .ok (.iconst 0, 1) := by decide +kernel
theorem dX3_clear_2 : decode cX3_clear 2 = .ok (.putfield 30, 3) := by decide +kernel
theorem dX3_clear_5 : decode cX3_clear 5 = .ok (.return_, 1) := by decide +kernel
theorem dX3_put_0 : decode cX3_put 0 = .ok (.aload_n 0, 1) := by decide +kernel
theorem dX3_put_1 : decode cX3_put 1 = .ok (.getfield 30, 3) := by decide +kernel
theorem dX3_put_4 : decode cX3_put 4 = .ok (.bipush 12, 2) := by decide +kernel
theorem dX3_put_6 : decode cX3_put 6 = .ok (.if_icmp .lt 4, 3) := by decide +kernel
theorem dX3_put_9 : decode cX3_put 9 = .ok (.return_, 1) := by decide +kernel
theorem dX3_put_10 : decode cX3_put 10 = .ok (.aload_n 0, 1) := by decide +kernel
theorem dX3_put_11 : decode cX3_put 11 = .ok (.getfield 9, 3) := by decide +kernel
theorem dX3_put_14 : decode cX3_put 14 = .ok (.aload_n 0, 1) := by decide +kernel
theorem dX3_put_15 : decode cX3_put 15 = .ok (.getfield 30, 3) := by decide +kernel
theorem dX3_put_18 : decode cX3_put 18 = .ok (.iload_n 1, 1) := by decide +kernel
theorem dX3_put_19 : decode cX3_put 19 = .ok (.iastore, 1) := by decide +kernel
theorem dX3_put_20 : decode cX3_put 20 = .ok (.aload_n 0, 1) := by decide +kernel
theorem dX3_put_21 : decode cX3_put 21 = .ok (.getfield 15, 3) := by decide +kernel
theorem dX3_put_24 : decode cX3_put 24 = .ok (.aload_n 0, 1) := by decide +kernel
theorem dX3_put_25 : decode cX3_put 25 = .ok (.getfield 30, 3) := by decide +kernel
theorem dX3_put_28 : decode cX3_put 28 = .ok (.iload_n 2, 1) := by decide +kernel
theorem dX3_put_29 : decode cX3_put 29 = .ok (.iastore, 1) := by decide +kernel
theorem dX3_put_30 : decode cX3_put 30 = .ok (.aload_n 0, 1) := by decide +kernel
theorem dX3_put_31 : decode cX3_put 31 = .ok (.getfield 18, 3) := by decide +kernel
theorem dX3_put_34 : decode cX3_put 34 = .ok (.aload_n 0, 1) := by decide +kernel
theorem dX3_put_35 : decode cX3_put 35 = .ok (.getfield 30, 3) := by decide +kernel
theorem dX3_put_38 : decode cX3_put 38 = .ok (.iload_n 3, 1) := by decide +kernel
theorem dX3_put_39 : decode cX3_put 39 = .ok (.iastore, 1) := by decide +kernel
theorem dX3_put_40 : decode cX3_put 40 = .ok (.aload_n 0, 1) := by decide +kernel
theorem dX3_put_41 : decode cX3_put 41 = .ok (.getfield 21, 3) := by decide +kernel
theorem dX3_put_44 : decode cX3_put 44 = .ok (.aload_n 0, 1) := by decide +kernel
theorem dX3_put_45 : decode cX3_put 45 = .ok (.getfield 30, 3) := by decide +kernel
theorem dX3_put_48 : decode cX3_put 48 = .ok (.iload 4, 2) := by decide +kernel
theorem dX3_put_50 : decode cX3_put 50 = .ok (.iastore, 1) := by decide +kernel
theorem dX3_put_51 : decode cX3_put 51 = .ok (.aload_n 0, 1) := by decide +kernel
theorem dX3_put_52 : decode cX3_put 52 = .ok (.getfield 24, 3) := by decide +kernel
theorem dX3_put_55 : decode cX3_put 55 = .ok (.aload_n 0, 1) := by decide +kernel
theorem dX3_put_56 : decode cX3_put 56 = .ok (.getfield 30, 3) := by decide +kernel
theorem dX3_put_59 : decode cX3_put 59 = .ok (.iload 5, 2) := by decide +kernel
theorem dX3_put_61 : decode cX3_put 61 = .ok (.iastore, 1) := by decide +kernel
theorem dX3_put_62 : decode cX3_put 62 = .ok (.aload_n 0, 1) := by decide +kernel
theorem dX3_put_63 : decode cX3_put 63 = .ok (.getfield 27, 3) := by decide +kernel
theorem dX3_put_66 : decode cX3_put 66 = .ok (.aload_n 0, 1) := by decide +kernel
theorem dX3_put_67 : decode cX3_put 67 = .ok (.getfield 30, 3) := by decide +kernel
theorem dX3_put_70 : decode cX3_put 70 = .ok (.iload 6, 2) := by decide +kernel
theorem dX3_put_72 : decode cX3_put 72 = .ok (.iastore, 1) := by decide +kernel
theorem dX3_put_73 : decode cX3_put 73 = .ok (.aload_n 0, 1) := by decide +kernel
theorem dX3_put_74 : decode cX3_put 74 = .ok (.dup, 1) := by decide +kernel
theorem dX3_put_75 : decode cX3_put 75 = .ok (.getfield 30, 3) := by decide +kernel
theorem dX3_put_78 : decode cX3_put 78 = .ok (.iconst 1, 1) := by decide +kernel
theorem dX3_put_79 : decode cX3_put 79 = .ok (.iadd, 1) := by decide +kernel
theorem dX3_put_80 : decode cX3_put 80 = .ok (.putfield 30, 3) := by decide +kernel
theorem dX3_put_83 : decode cX3_put 83 = .ok (.return_, 1) := by decide +kernel
theorem dX3_putAll_0 : decode cX3_putAll 0 = .ok (.iconst 0, 1) := by decide +kernel
theorem dX3_putAll_1 : decode cX3_putAll 1 = .ok (.istore_n 2, 1) := by decide +kernel
theorem dX3_putAll_2 : decode cX3_putAll 2 = .ok (.iload_n 2, 1) := by decide +kernel
theorem dX3_putAll_3 : decode cX3_putAll 3 = .ok (.aload_n 1, 1) := by decide +kernel
theorem dX3_putAll_4 : decode cX3_putAll 4 = .ok (.getfield 30, 3) := by decide +kernel
theorem dX3_putAll_7 : decode cX3_putAll 7 = .ok (.if_icmp .ge 49, 3) := by decide +kernel
theorem dX3_putAll_10 : decode cX3_putAll 10 = .ok (.aload_n 0, 1) := by decide +kernel
theorem dX3_putAll_11 : decode cX3_putAll 11 = .ok (.aload_n 1, 1) := by decide +kernel
theorem dX3_putAll_12 : decode cX3_putAll 12 = .ok (.getfield 9, 3) := by decide +kernel
theorem dX3_putAll_15 : decode cX3_putAll 15 = .ok (.iload_n 2, 1) := by decide +kernel
theorem dX3_putAll_16 : decode cX3_putAll 16 = .ok (.iaload, 1) := by decide +kernel
theorem dX3_putAll_17 : decode cX3_putAll 17 = .ok (.aload_n 1, 1) := by decide +kernel
theorem dX3_putAll_18 : decode cX3_putAll 18 = .ok (.getfield 15, 3) := by decide +kernel
theorem dX3_putAll_21 : decode cX3_putAll 21 = .ok (.iload_n 2, 1) := by decide +kernel
theorem dX3_putAll_22 : decode cX3_putAll 22 = .ok (.iaload, 1) := by decide +kernel
theorem dX3_putAll_23 : decode cX3_putAll 23 = .ok (.aload_n 1, 1) := by decide +kernel
theorem dX3_putAll_24 : decode cX3_putAll 24 = .ok (.getfield 18, 3) := by decide +kernel
theorem dX3_putAll_27 : decode cX3_putAll 27 = .ok (.iload_n 2, 1) := by decide +kernel
theorem dX3_putAll_28 : decode cX3_putAll 28 = .ok (.iaload, 1) := by decide +kernel
theorem dX3_putAll_29 : decode cX3_putAll 29 = .ok (.aload_n 1, 1) := by decide +kernel
theorem dX3_putAll_30 : decode cX3_putAll 30 = .ok (.getfield 21, 3) := by decide +kernel
theorem dX3_putAll_33 : decode cX3_putAll 33 = .ok (.iload_n 2, 1) := by decide +kernel
theorem dX3_putAll_34 : decode cX3_putAll 34 = .ok (.iaload, 1) := by decide +kernel
theorem dX3_putAll_35 : decode cX3_putAll 35 = .ok (.aload_n 1, 1) := by decide +kernel
theorem dX3_putAll_36 : decode cX3_putAll 36 = .ok (.getfield 24, 3) := by decide +kernel
theorem dX3_putAll_39 : decode cX3_putAll 39 = .ok (.iload_n 2, 1) := by decide +kernel
theorem dX3_putAll_40 : decode cX3_putAll 40 = .ok (.iaload, 1) := by decide +kernel
theorem dX3_putAll_41 : decode cX3_putAll 41 = .ok (.aload_n 1, 1) := by decide +kernel
theorem dX3_putAll_42 : decode cX3_putAll 42 = .ok (.getfield 27, 3) := by decide +kernel
theorem dX3_putAll_45 : decode cX3_putAll 45 = .ok (.iload_n 2, 1) := by decide +kernel
theorem dX3_putAll_46 : decode cX3_putAll 46 = .ok (.iaload, 1) := by decide +kernel
theorem dX3_putAll_47 : decode cX3_putAll 47 = .ok (.invokevirtual 34, 3) := by decide +kernel
theorem dX3_putAll_50 : decode cX3_putAll 50 = .ok (.iinc 2 1, 3) := by decide +kernel
theorem dX3_putAll_53 : decode cX3_putAll 53 = .ok (.goto (-51), 3) := by decide +kernel
theorem dX3_putAll_56 : decode cX3_putAll 56 = .ok (.return_, 1) := by decide +kernel
theorem dX3_copyFrom_0 : decode cX3_copyFrom 0 = .ok (.aload_n 0, 1) := by decide +kernel
theorem dX3_copyFrom_1 : decode cX3_copyFrom 1 = .ok (.invokevirtual 38, 3) := by decide +kernel
theorem dX3_copyFrom_4 : decode cX3_copyFrom 4 = .ok (.aload_n 0, 1) := by decide +kernel
theorem dX3_copyFrom_5 : decode cX3_copyFrom 5 = .ok (.aload_n 1, 1) := by decide +kernel
theorem dX3_copyFrom_6 : decode cX3_copyFrom 6 = .ok (.invokevirtual 41, 3) := by decide +kernel
theorem dX3_copyFrom_9 : decode cX3_copyFrom 9 = .ok (.return_, 1) := by decide +kernel
theorem dX3_dropLast_0 : decode cX3_dropLast 0 = .ok (.aload_n 0, 1) := by decide +kernel
theorem dX3_dropLast_1 : decode cX3_dropLast 1 = .ok (.getfield 30, 3) := by decide +kernel
theorem dX3_dropLast_4 : decode cX3_dropLast 4 = .ok (.iconst 1, 1) := by decide +kernel
theorem dX3_dropLast_5 : decode cX3_dropLast 5 = .ok (.isub, 1) := by decide +kernel
theorem dX3_dropLast_6 : decode cX3_dropLast 6 = .ok (.iconst 0, 1) := by decide +kernel
theorem dX3_dropLast_7 : decode cX3_dropLast 7 = .ok (.invokestatic 45, 3) := by decide +kernel
theorem dX3_dropLast_10 : decode cX3_dropLast 10 = .ok (.istore_n 1, 1) := by decide +kernel
theorem dX3_dropLast_11 : decode cX3_dropLast 11 = .ok (.iconst 0, 1) := by decide +kernel
theorem dX3_dropLast_12 : decode cX3_dropLast 12 = .ok (.istore_n 2, 1) := by decide +kernel
theorem dX3_dropLast_13 : decode cX3_dropLast 13 = .ok (.iload_n 2, 1) := by decide +kernel
theorem dX3_dropLast_14 : decode cX3_dropLast 14 = .ok (.iload_n 1, 1) := by decide +kernel
theorem dX3_dropLast_15 : decode cX3_dropLast 15 = .ok (.if_icmp .ge 26, 3) := by decide +kernel
theorem dX3_dropLast_18 : decode cX3_dropLast 18 = .ok (.aload_n 0, 1) := by decide +kernel
theorem dX3_dropLast_19 : decode cX3_dropLast 19 = .ok (.getfield 27, 3) := by decide +kernel
theorem dX3_dropLast_22 : decode cX3_dropLast 22 = .ok (.iload_n 2, 1) := by decide +kernel
theorem dX3_dropLast_23 : decode cX3_dropLast 23 = .ok (.iaload, 1) := by decide +kernel
theorem dX3_dropLast_24 : decode cX3_dropLast 24 = .ok (.iload_n 1, 1) := by decide +kernel
theorem dX3_dropLast_25 : decode cX3_dropLast 25 = .ok (.if_icmp .le 10, 3) := by decide +kernel
theorem dX3_dropLast_28 : decode cX3_dropLast 28 = .ok (.aload_n 0, 1) := by decide +kernel
theorem dX3_dropLast_29 : decode cX3_dropLast 29 = .ok (.getfield 27, 3) := by decide +kernel
theorem dX3_dropLast_32 : decode cX3_dropLast 32 = .ok (.iload_n 2, 1) := by decide +kernel
theorem dX3_dropLast_33 : decode cX3_dropLast 33 = .ok (.iload_n 1, 1) := by decide +kernel
theorem dX3_dropLast_34 : decode cX3_dropLast 34 = .ok (.iastore, 1) := by decide +kernel
theorem dX3_dropLast_35 : decode cX3_dropLast 35 = .ok (.iinc 2 1, 3) := by decide +kernel
theorem dX3_dropLast_38 : decode cX3_dropLast 38 = .ok (.goto (-25), 3) := by decide +kernel
theorem dX3_dropLast_41 : decode cX3_dropLast 41 = .ok (.aload_n 0, 1) := by decide +kernel
theorem dX3_dropLast_42 : decode cX3_dropLast 42 = .ok (.iload_n 1, 1) := by decide +kernel
theorem dX3_dropLast_43 : decode cX3_dropLast 43 = .ok (.putfield 30, 3) := by decide +kernel
theorem dX3_dropLast_46 : decode cX3_dropLast 46 = .ok (.return_, 1) := by decide +kernel
theorem dX3_highestTarget_0 : decode cX3_highestTarget 0 = .ok (.iconst (-1), 1) := by decide +kernel
theorem dX3_highestTarget_1 : decode cX3_highestTarget 1 = .ok (.istore_n 1, 1) := by decide +kernel
theorem dX3_highestTarget_2 : decode cX3_highestTarget 2 = .ok (.iconst 0, 1) := by decide +kernel
theorem dX3_highestTarget_3 : decode cX3_highestTarget 3 = .ok (.istore_n 2, 1) := by decide +kernel
theorem dX3_highestTarget_4 : decode cX3_highestTarget 4 = .ok (.iload_n 2, 1) := by decide +kernel
theorem dX3_highestTarget_5 : decode cX3_highestTarget 5 = .ok (.aload_n 0, 1) := by decide +kernel
theorem dX3_highestTarget_6 : decode cX3_highestTarget 6 = .ok (.getfield 30, 3) := by decide +kernel
theorem dX3_highestTarget_9 : decode cX3_highestTarget 9 = .ok (.if_icmp .ge 20, 3) := by decide +kernel
theorem dX3_highestTarget_12 : decode cX3_highestTarget 12 = .ok (.iload_n 1, 1) := by decide +kernel
theorem dX3_highestTarget_13 : decode cX3_highestTarget 13 = .ok (.aload_n 0, 1) := by decide +kernel
theorem dX3_highestTarget_14 : decode cX3_highestTarget 14 = .ok (.getfield 27, 3) := by decide +kernel
theorem dX3_highestTarget_17 : decode cX3_highestTarget 17 = .ok (.iload_n 2, 1) := by decide +kernel
theorem dX3_highestTarget_18 : decode cX3_highestTarget 18 = .ok (.iaload, 1) := by decide +kernel
theorem dX3_highestTarget_19 : decode cX3_highestTarget 19 = .ok (.invokestatic 45, 3) := by decide +kernel
theorem dX3_highestTarget_22 : decode cX3_highestTarget 22 = .ok (.istore_n 1, 1) := by decide +kernel
theorem dX3_highestTarget_23 : decode cX3_highestTarget 23 = .ok (.iinc 2 1, 3) := by decide +kernel
theorem dX3_highestTarget_26 : decode cX3_highestTarget 26 = .ok (.goto (-22), 3) := by decide +kernel
theorem dX3_highestTarget_29 : decode cX3_highestTarget 29 = .ok (.iload_n 1, 1) := by decide +kernel
theorem dX3_highestTarget_30 : decode cX3_highestTarget 30 = .ok (.ireturn, 1) := by decide +kernel
theorem dX3_isEnd_0 : decode cX3_isEnd 0 = .ok (.iload_n 1, 1) := by decide +kernel
theorem dX3_isEnd_1 : decode cX3_isEnd 1 = .ok (.invokestatic 51, 3) := by decide +kernel
theorem dX3_isEnd_4 : decode cX3_isEnd 4 = .ok (.aload_n 0, 1) := by decide +kernel
theorem dX3_isEnd_5 : decode cX3_isEnd 5 = .ok (.getfield 30, 3) := by decide +kernel
theorem dX3_isEnd_8 : decode cX3_isEnd 8 = .ok (.if_icmp .lt 7, 3) := by decide +kernel
theorem dX3_isEnd_11 : decode cX3_isEnd 11 = .ok (.iconst 1, 1) := by decide +kernel
theorem dX3_isEnd_12 : decode cX3_isEnd 12 = .ok (.goto 4, 3) := by decide +kernel
theorem dX3_isEnd_15 : decode cX3_isEnd 15 = .ok (.iconst 0, 1) := by decide +kernel
theorem dX3_isEnd_16 : decode cX3_isEnd 16 = .ok (.ireturn, 1) := by decide +kernel
theorem dX3_placeAfter_0 : decode cX3_placeAfter 0 = .ok (.iload_n 1, 1) := by decide +kernel
theorem dX3_placeAfter_1 : decode cX3_placeAfter 1 = .ok (.invokestatic 51, 3) := by decide +kernel
theorem dX3_placeAfter_4 : decode cX3_placeAfter 4 = .ok (.istore_n 2, 1) := by decide +kernel
theorem dX3_placeAfter_5 : decode cX3_placeAfter 5 = .ok (.iload_n 1, 1) := by decide +kernel
theorem dX3_placeAfter_6 : decode cX3_placeAfter 6 = .ok (.invokestatic 55, 3) := by decide +kernel
theorem dX3_placeAfter_9 : decode cX3_placeAfter 9 = .ok (.istore_n 3, 1) := by decide +kernel
theorem dX3_placeAfter_10 : decode cX3_placeAfter 10 = .ok (.iload_n 2, 1) := by decide +kernel
theorem dX3_placeAfter_11 : decode cX3_placeAfter 11 = .ok (.aload_n 0, 1) := by decide +kernel
theorem dX3_placeAfter_12 : decode cX3_placeAfter 12 = .ok (.getfield 30, 3) := by decide +kernel
theorem dX3_placeAfter_15 : decode cX3_placeAfter 15 = .ok (.if_icmp .lt 5, 3) := by decide +kernel
theorem dX3_placeAfter_18 : decode cX3_placeAfter 18 = .ok (.iconst (-1), 1) := by decide +kernel
theorem dX3_placeAfter_19 : decode cX3_placeAfter 19 = .ok (.ireturn, 1) := by decide +kernel
theorem dX3_placeAfter_20 : decode cX3_placeAfter 20 = .ok (.aload_n 0, 1) := by decide +kernel
theorem dX3_placeAfter_21 : decode cX3_placeAfter 21 = .ok (.getfield 21, 3) := by decide +kernel
theorem dX3_placeAfter_24 : decode cX3_placeAfter 24 = .ok (.iload_n 2, 1) := by decide +kernel
theorem dX3_placeAfter_25 : decode cX3_placeAfter 25 = .ok (.iaload, 1) := by decide +kernel
theorem dX3_placeAfter_26 : decode cX3_placeAfter 26 = .ok (.istore 4, 2) := by decide +kernel
theorem dX3_placeAfter_28 : decode cX3_placeAfter 28 = .ok (.iload 4, 2) := by decide +kernel
theorem dX3_placeAfter_30 : decode cX3_placeAfter 30 = .ok (.bipush 8, 2) := by decide +kernel
theorem dX3_placeAfter_32 : decode cX3_placeAfter 32 = .ok (.if_icmp .ge 8, 3) := by decide +kernel
theorem dX3_placeAfter_35 : decode cX3_placeAfter 35 = .ok (.iload 4, 2) := by decide +kernel
theorem dX3_placeAfter_37 : decode cX3_placeAfter 37 = .ok (.goto 12, 3) := by decide +kernel
theorem dX3_placeAfter_40 : decode cX3_placeAfter 40 = .ok (.iload_n 3, 1) := by decide +kernel
theorem dX3_placeAfter_41 : decode cX3_placeAfter 41 = .ok (.iload 4, 2) := by decide +kernel
theorem dX3_placeAfter_43 : decode cX3_placeAfter 43 = .ok (.bipush 8, 2) := by decide +kernel
theorem dX3_placeAfter_45 : decode cX3_placeAfter 45 = .ok (.isub, 1) := by decide +kernel
theorem dX3_placeAfter_46 : decode cX3_placeAfter 46 = .ok (.invokestatic 58, 3) := by decide +kernel
theorem dX3_placeAfter_49 : decode cX3_placeAfter 49 = .ok (.istore 5, 2) := by decide +kernel
theorem dX3_placeAfter_51 : decode cX3_placeAfter 51 = .ok (.aload_n 0, 1) := by decide +kernel
theorem dX3_placeAfter_52 : decode cX3_placeAfter 52 = .ok (.getfield 9, 3) := by decide +kernel
theorem dX3_placeAfter_55 : decode cX3_placeAfter 55 = .ok (.iload_n 2, 1) := by decide +kernel
theorem dX3_placeAfter_56 : decode cX3_placeAfter 56 = .ok (.iaload, 1) := by decide +kernel
theorem dX3_placeAfter_57 : decode cX3_placeAfter 57 = .ok (.ifCond .ne 36, 3) := by decide +kernel
theorem dX3_placeAfter_60 : decode cX3_placeAfter 60 = .ok (.iload 5, 2) := by decide +kernel
theorem dX3_placeAfter_62 : decode cX3_placeAfter 62 = .ok (.aload_n 0, 1) := by decide +kernel
theorem dX3_placeAfter_63 : decode cX3_placeAfter 63 = .ok (.getfield 24, 3) := by decide +kernel
theorem dX3_placeAfter_66 : decode cX3_placeAfter 66 = .ok (.iload_n 2, 1) := by decide +kernel
theorem dX3_placeAfter_67 : decode cX3_placeAfter 67 = .ok (.iaload, 1) := by decide +kernel
theorem dX3_placeAfter_68 : decode cX3_placeAfter 68 = .ok (.iadd, 1) := by decide +kernel
theorem dX3_placeAfter_69 : decode cX3_placeAfter 69 = .ok (.bipush 7, 2) := by decide +kernel
theorem dX3_placeAfter_71 : decode cX3_placeAfter 71 = .ok (.iand, 1) := by decide +kernel
theorem dX3_placeAfter_72 : decode cX3_placeAfter 72 = .ok (.istore 6, 2) := by decide +kernel
theorem dX3_placeAfter_74 : decode cX3_placeAfter 74 = .ok (.iload_n 2, 1) := by decide +kernel
theorem dX3_placeAfter_75 : decode cX3_placeAfter 75 = .ok (.iconst 1, 1) := by decide +kernel
theorem dX3_placeAfter_76 : decode cX3_placeAfter 76 = .ok (.iadd, 1) := by decide +kernel
theorem dX3_placeAfter_77 : decode cX3_placeAfter 77 = .ok (.iload_n 3, 1) := by decide +kernel
theorem dX3_placeAfter_78 : decode cX3_placeAfter 78 = .ok (.aload_n 0, 1) := by decide +kernel
theorem dX3_placeAfter_79 : decode cX3_placeAfter 79 = .ok (.getfield 15, 3) := by decide +kernel
theorem dX3_placeAfter_82 : decode cX3_placeAfter 82 = .ok (.iload_n 2, 1) := by decide +kernel
theorem dX3_placeAfter_83 : decode cX3_placeAfter 83 = .ok (.iaload, 1) := by decide +kernel
theorem dX3_placeAfter_84 : decode cX3_placeAfter 84 = .ok (.iload 6, 2) := by decide +kernel
theorem dX3_placeAfter_86 : decode cX3_placeAfter 86 = .ok (.invokestatic 61, 3) := by decide +kernel
theorem dX3_placeAfter_89 : decode cX3_placeAfter 89 = .ok (.invokestatic 65, 3) := by decide +kernel
theorem dX3_placeAfter_92 : decode cX3_placeAfter 92 = .ok (.ireturn, 1) := by decide +kernel
theorem dX3_placeAfter_93 : decode cX3_placeAfter 93 = .ok (.iload_n 3, 1) := by decide +kernel
theorem dX3_placeAfter_94 : decode cX3_placeAfter 94 = .ok (.aload_n 0, 1) := by decide +kernel
theorem dX3_placeAfter_95 : decode cX3_placeAfter 95 = .ok (.getfield 15, 3) := by decide +kernel
theorem dX3_placeAfter_98 : decode cX3_placeAfter 98 = .ok (.iload_n 2, 1) := by decide +kernel
theorem dX3_placeAfter_99 : decode cX3_placeAfter 99 = .ok (.iaload, 1) := by decide +kernel
theorem dX3_placeAfter_100 : decode cX3_placeAfter 100 = .ok (.invokestatic 58, 3) := by decide +kernel
theorem dX3_placeAfter_103 : decode cX3_placeAfter 103 = .ok (.aload_n 0, 1) := by decide +kernel
theorem dX3_placeAfter_104 : decode cX3_placeAfter 104 = .ok (.getfield 18, 3) := by decide +kernel
theorem dX3_placeAfter_107 : decode cX3_placeAfter 107 = .ok (.iload_n 2, 1) := by decide +kernel
theorem dX3_placeAfter_108 : decode cX3_placeAfter 108 = .ok (.iaload, 1) := by decide +kernel
theorem dX3_placeAfter_109 : decode cX3_placeAfter 109 = .ok (.iload 5, 2) := by decide +kernel
theorem dX3_placeAfter_111 : decode cX3_placeAfter 111 = .ok (.invokestatic 68, 3) := by decide +kernel
theorem dX3_placeAfter_114 : decode cX3_placeAfter 114 = .ok (.istore 6, 2) := by decide +kernel
theorem dX3_placeAfter_116 : decode cX3_placeAfter 116 = .ok (.aload_n 0, 1) := by decide +kernel
theorem dX3_placeAfter_117 : decode cX3_placeAfter 117 = .ok (.getfield 9, 3) := by decide +kernel
theorem dX3_placeAfter_120 : decode cX3_placeAfter 120 = .ok (.iload_n 2, 1) := by decide +kernel
theorem dX3_placeAfter_121 : decode cX3_placeAfter 121 = .ok (.iaload, 1) := by decide +kernel
theorem dX3_placeAfter_122 : decode cX3_placeAfter 122 = .ok (.iconst 2, 1) := by decide +kernel
theorem dX3_placeAfter_123 : decode cX3_placeAfter 123 = .ok (.if_icmp .ne 25, 3) := by decide +kernel
theorem dX3_placeAfter_126 : decode cX3_placeAfter 126 = .ok (.iload 6, 2) := by decide +kernel
theorem dX3_placeAfter_128 : decode cX3_placeAfter 128 = .ok (.ifCond .eq 12, 3) := by decide +kernel
theorem dX3_placeAfter_131 : decode cX3_placeAfter 131 = .ok (.aload_n 0, 1) := by decide +kernel
theorem dX3_placeAfter_132 : decode cX3_placeAfter 132 = .ok (.getfield 27, 3) := by decide +kernel
theorem dX3_placeAfter_135 : decode cX3_placeAfter 135 = .ok (.iload_n 2, 1) := by decide +kernel
theorem dX3_placeAfter_136 : decode cX3_placeAfter 136 = .ok (.iaload, 1) := by decide +kernel
theorem dX3_placeAfter_137 : decode cX3_placeAfter 137 = .ok (.goto 6, 3) := by decide +kernel
theorem dX3_placeAfter_140 : decode cX3_placeAfter 140 = .ok (.iload_n 2, 1) := by decide +kernel
theorem dX3_placeAfter_141 : decode cX3_placeAfter 141 = .ok (.iconst 1, 1) := by decide +kernel
theorem dX3_placeAfter_142 : decode cX3_placeAfter 142 = .ok (.iadd, 1) := by decide +kernel
theorem dX3_placeAfter_143 : decode cX3_placeAfter 143 = .ok (.iload_n 3, 1) := by decide +kernel
theorem dX3_placeAfter_144 : decode cX3_placeAfter 144 = .ok (.invokestatic 65, 3) := by decide +kernel
theorem dX3_placeAfter_147 : decode cX3_placeAfter 147 = .ok (.ireturn, 1) := by decide +kernel
theorem dX3_placeAfter_148 : decode cX3_placeAfter 148 = .ok (.iload 6, 2) := by decide +kernel
theorem dX3_placeAfter_150 : decode cX3_placeAfter 150 = .ok (.ifCond .eq 13, 3) := by decide +kernel
theorem dX3_placeAfter_153 : decode cX3_placeAfter 153 = .ok (.iload_n 2, 1) := by decide +kernel
theorem dX3_placeAfter_154 : decode cX3_placeAfter 154 = .ok (.iconst 1, 1) := by decide +kernel
theorem dX3_placeAfter_155 : decode cX3_placeAfter 155 = .ok (.iadd, 1) := by decide +kernel
theorem dX3_placeAfter_156 : decode cX3_placeAfter 156 = .ok (.iload_n 3, 1) := by decide +kernel
theorem dX3_placeAfter_157 : decode cX3_placeAfter 157 = .ok (.invokestatic 65, 3) := by decide +kernel
theorem dX3_placeAfter_160 : decode cX3_placeAfter 160 = .ok (.goto 4, 3) := by decide +kernel
theorem dX3_placeAfter_163 : decode cX3_placeAfter 163 = .ok (.iconst (-1), 1) := by decide +kernel
theorem dX3_placeAfter_164 : decode cX3_placeAfter 164 = .ok (.ireturn, 1) := by decide +kernel
theorem dX3_compares_0 : decode cX3_compares 0 = .ok (.iload_n 1, 1) := by decide +kernel
theorem dX3_compares_1 : decode cX3_compares 1 = .ok (.tableswitch 60 0 2 #[27, 38, 49], 27) := by decide +kernel
theorem dX3_compares_28 : decode cX3_compares 28 = .ok (.iload_n 0, 1) := by decide +kernel
theorem dX3_compares_29 : decode cX3_compares 29 = .ok (.iload_n 2, 1) := by decide +kernel
theorem dX3_compares_30 : decode cX3_compares 30 = .ok (.if_icmp .ne 7, 3) := by decide +kernel
theorem dX3_compares_33 : decode cX3_compares 33 = .ok (.iconst 1, 1) := by decide +kernel
theorem dX3_compares_34 : decode cX3_compares 34 = .ok (.goto 4, 3) := by decide +kernel
theorem dX3_compares_37 : decode cX3_compares 37 = .ok (.iconst 0, 1) := by decide +kernel
theorem dX3_compares_38 : decode cX3_compares 38 = .ok (.ireturn, 1) := by decide +kernel
theorem dX3_compares_39 : decode cX3_compares 39 = .ok (.iload_n 0, 1) := by decide +kernel
theorem dX3_compares_40 : decode cX3_compares 40 = .ok (.iload_n 2, 1) := by decide +kernel
theorem dX3_compares_41 : decode cX3_compares 41 = .ok (.if_icmp .ge 7, 3) := by decide +kernel
theorem dX3_compares_44 : decode cX3_compares 44 = .ok (.iconst 1, 1) := by decide +kernel
theorem dX3_compares_45 : decode cX3_compares 45 = .ok (.goto 4, 3) := by decide +kernel
theorem dX3_compares_48 : decode cX3_compares 48 = .ok (.iconst 0, 1) := by decide +kernel
theorem dX3_compares_49 : decode cX3_compares 49 = .ok (.ireturn, 1) := by decide +kernel
theorem dX3_compares_50 : decode cX3_compares 50 = .ok (.iload_n 0, 1) := by decide +kernel
theorem dX3_compares_51 : decode cX3_compares 51 = .ok (.iload_n 2, 1) := by decide +kernel
theorem dX3_compares_52 : decode cX3_compares 52 = .ok (.if_icmp .le 7, 3) := by decide +kernel
theorem dX3_compares_55 : decode cX3_compares 55 = .ok (.iconst 1, 1) := by decide +kernel
theorem dX3_compares_56 : decode cX3_compares 56 = .ok (.goto 4, 3) := by decide +kernel
theorem dX3_compares_59 : decode cX3_compares 59 = .ok (.iconst 0, 1) := by decide +kernel
theorem dX3_compares_60 : decode cX3_compares 60 = .ok (.ireturn, 1) := by decide +kernel
theorem dX3_compares_61 : decode cX3_compares 61 = .ok (.iload_n 0, 1) := by decide +kernel
theorem dX3_compares_62 : decode cX3_compares 62 = .ok (.iload_n 2, 1) := by decide +kernel
theorem dX3_compares_63 : decode cX3_compares 63 = .ok (.if_icmp .eq 7, 3) := by decide +kernel
theorem dX3_compares_66 : decode cX3_compares 66 = .ok (.iconst 1, 1) := by decide +kernel
theorem dX3_compares_67 : decode cX3_compares 67 = .ok (.goto 4, 3) := by decide +kernel
theorem dX3_compares_70 : decode cX3_compares 70 = .ok (.iconst 0, 1) := by decide +kernel
theorem dX3_compares_71 : decode cX3_compares 71 = .ok (.ireturn, 1) := by decide +kernel
theorem dX4_init_0 : decode cX4_init 0 = .ok (.aload_n 0, 1) := by decide +kernel
theorem dX4_init_1 : decode cX4_init 1 = .ok (.invokespecial 3, 3) := by decide +kernel
theorem dX4_init_4 : decode cX4_init 4 = .ok (.aload_n 0, 1) := by decide +kernel
theorem dX4_init_5 : decode cX4_init 5 = .ok (.sipush 6656, 3) := by decide +kernel
theorem dX4_init_8 : decode cX4_init 8 = .ok (.newarray .int, 2) := by decide +kernel
theorem dX4_init_10 : decode cX4_init 10 = .ok (.putfield 9, 3) := by decide +kernel
theorem dX4_init_13 : decode cX4_init 13 = .ok (.aload_n 0, 1) := by decide +kernel
theorem dX4_init_14 : decode cX4_init 14 = .ok (.iconst 1, 1) := by decide +kernel
theorem dX4_init_15 : decode cX4_init 15 = .ok (.putfield 15, 3) := by decide +kernel
theorem dX4_init_18 : decode cX4_init 18 = .ok (.aload_n 0, 1) := by decide +kernel
theorem dX4_init_19 : decode cX4_init 19 = .ok (.aload_n 1, 1) := by decide +kernel
theorem dX4_init_20 : decode cX4_init 20 = .ok (.putfield 19, 3) := by decide +kernel
theorem dX4_init_23 : decode cX4_init 23 = .ok (.return_, 1) := by decide +kernel
theorem dX4_forget_0 : decode cX4_forget 0 = .ok (.aload_n 0, 1) := by decide +kernel
theorem dX4_forget_1 : decode cX4_forget 1 = .ok (.iconst 1, 1) := by decide +kernel
theorem dX4_forget_2 : decode cX4_forget 2 = .ok (.putfield 15, 3) := by decide +kernel
theorem dX4_forget_5 : decode cX4_forget 5 = .ok (.return_, 1) := by decide +kernel
theorem dX4_succeedsFrom_0 : decode cX4_succeedsFrom 0 = .ok (.aload_n 0, 1) := by decide +kernel
theorem dX4_succeedsFrom_1 : decode cX4_succeedsFrom 1 = .ok (.iload_n 1, 1) := by decide +kernel
theorem dX4_succeedsFrom_2 : decode cX4_succeedsFrom 2 = .ok (.invokevirtual 23, 3) := by decide +kernel
theorem dX4_succeedsFrom_5 : decode cX4_succeedsFrom 5 = .ok (.sipush 1000, 3) := by decide +kernel
theorem dX4_succeedsFrom_8 : decode cX4_succeedsFrom 8 = .ok (.if_icmp .lt 7, 3) := by decide +kernel
theorem dX4_succeedsFrom_11 : decode cX4_succeedsFrom 11 = .ok (.iconst 1, 1) := by decide +kernel
theorem dX4_succeedsFrom_12 : decode cX4_succeedsFrom 12 = .ok (.goto 4, 3) := by decide +kernel
theorem dX4_succeedsFrom_15 : decode cX4_succeedsFrom 15 = .ok (.iconst 0, 1) := by decide +kernel
theorem dX4_succeedsFrom_16 : decode cX4_succeedsFrom 16 = .ok (.ireturn, 1) := by decide +kernel
theorem dX4_endFrom_0 : decode cX4_endFrom 0 = .ok (.aload_n 0, 1) := by decide +kernel
theorem dX4_endFrom_1 : decode cX4_endFrom 1 = .ok (.getfield 15, 3) := by decide +kernel
theorem dX4_endFrom_4 : decode cX4_endFrom 4 = .ok (.ifCond .eq 17, 3) := by decide +kernel
theorem dX4_endFrom_7 : decode cX4_endFrom 7 = .ok (.aload_n 0, 1) := by decide +kernel
theorem dX4_endFrom_8 : decode cX4_endFrom 8 = .ok (.getfield 9, 3) := by decide +kernel
theorem dX4_endFrom_11 : decode cX4_endFrom 11 = .ok (.bipush (-2), 2) := by decide +kernel
theorem dX4_endFrom_13 : decode cX4_endFrom 13 = .ok (.invokestatic 27, 3) := by decide +kernel
theorem dX4_endFrom_16 : decode cX4_endFrom 16 = .ok (.aload_n 0, 1) := by decide +kernel
theorem dX4_endFrom_17 : decode cX4_endFrom 17 = .ok (.iconst 0, 1) := by decide +kernel
theorem dX4_endFrom_18 : decode cX4_endFrom 18 = .ok (.putfield 15, 3) := by decide +kernel
theorem dX4_endFrom_21 : decode cX4_endFrom 21 = .ok (.iload_n 1, 1) := by decide +kernel
theorem dX4_endFrom_22 : decode cX4_endFrom 22 = .ok (.istore_n 2, 1) := by decide +kernel
theorem dX4_endFrom_23 : decode cX4_endFrom 23 = .ok (.iconst 0, 1) := by decide +kernel
theorem dX4_endFrom_24 : decode cX4_endFrom 24 = .ok (.istore_n 3, 1) := by decide +kernel
theorem dX4_endFrom_25 : decode cX4_endFrom 25 = .ok (.iload_n 3, 1) := by decide +kernel
theorem dX4_endFrom_26 : decode cX4_endFrom 26 = .ok (.sipush 6656, 3) := by decide +kernel
theorem dX4_endFrom_29 : decode cX4_endFrom 29 = .ok (.if_icmp .ge 61, 3) := by decide +kernel
theorem dX4_endFrom_32 : decode cX4_endFrom 32 = .ok (.aload_n 0, 1) := by decide +kernel
theorem dX4_endFrom_33 : decode cX4_endFrom 33 = .ok (.getfield 9, 3) := by decide +kernel
theorem dX4_endFrom_36 : decode cX4_endFrom 36 = .ok (.iload_n 2, 1) := by decide +kernel
theorem dX4_endFrom_37 : decode cX4_endFrom 37 = .ok (.iaload, 1) := by decide +kernel
theorem dX4_endFrom_38 : decode cX4_endFrom 38 = .ok (.bipush (-2), 2) := by decide +kernel
theorem dX4_endFrom_40 : decode cX4_endFrom 40 = .ok (.if_icmp .ne 50, 3) := by decide +kernel
theorem dX4_endFrom_43 : decode cX4_endFrom 43 = .ok (.aload_n 0, 1) := by decide +kernel
theorem dX4_endFrom_44 : decode cX4_endFrom 44 = .ok (.getfield 19, 3) := by decide +kernel
theorem dX4_endFrom_47 : decode cX4_endFrom 47 = .ok (.iload_n 2, 1) := by decide +kernel
theorem dX4_endFrom_48 : decode cX4_endFrom 48 = .ok (.invokevirtual 33, 3) := by decide +kernel
theorem dX4_endFrom_51 : decode cX4_endFrom 51 = .ok (.istore 4, 2) := by decide +kernel
theorem dX4_endFrom_53 : decode cX4_endFrom 53 = .ok (.iload 4, 2) := by decide +kernel
theorem dX4_endFrom_55 : decode cX4_endFrom 55 = .ok (.iconst (-1), 1) := by decide +kernel
theorem dX4_endFrom_56 : decode cX4_endFrom 56 = .ok (.if_icmp .ne 17, 3) := by decide +kernel
theorem dX4_endFrom_59 : decode cX4_endFrom 59 = .ok (.aload_n 0, 1) := by decide +kernel
theorem dX4_endFrom_60 : decode cX4_endFrom 60 = .ok (.getfield 9, 3) := by decide +kernel
theorem dX4_endFrom_63 : decode cX4_endFrom 63 = .ok (.iload_n 2, 1) := by decide +kernel
theorem dX4_endFrom_64 : decode cX4_endFrom 64 = .ok (.aload_n 0, 1) := by decide +kernel
theorem dX4_endFrom_65 : decode cX4_endFrom 65 = .ok (.iload_n 2, 1) := by decide +kernel
theorem dX4_endFrom_66 : decode cX4_endFrom 66 = .ok (.invokevirtual 38, 3) := by decide +kernel
theorem dX4_endFrom_69 : decode cX4_endFrom 69 = .ok (.iastore, 1) := by decide +kernel
theorem dX4_endFrom_70 : decode cX4_endFrom 70 = .ok (.goto 14, 3) := by decide +kernel
theorem dX4_endFrom_73 : decode cX4_endFrom 73 = .ok (.aload_n 0, 1) := by decide +kernel
theorem dX4_endFrom_74 : decode cX4_endFrom 74 = .ok (.getfield 9, 3) := by decide +kernel
theorem dX4_endFrom_77 : decode cX4_endFrom 77 = .ok (.iload_n 2, 1) := by decide +kernel
theorem dX4_endFrom_78 : decode cX4_endFrom 78 = .ok (.bipush (-3), 2) := by decide +kernel
theorem dX4_endFrom_80 : decode cX4_endFrom 80 = .ok (.iastore, 1) := by decide +kernel
theorem dX4_endFrom_81 : decode cX4_endFrom 81 = .ok (.iload 4, 2) := by decide +kernel
theorem dX4_endFrom_83 : decode cX4_endFrom 83 = .ok (.istore_n 2, 1) := by decide +kernel
theorem dX4_endFrom_84 : decode cX4_endFrom 84 = .ok (.iinc 3 1, 3) := by decide +kernel
theorem dX4_endFrom_87 : decode cX4_endFrom 87 = .ok (.goto (-62), 3) := by decide +kernel
theorem dX4_endFrom_90 : decode cX4_endFrom 90 = .ok (.aload_n 0, 1) := by decide +kernel
theorem dX4_endFrom_91 : decode cX4_endFrom 91 = .ok (.iload_n 1, 1) := by decide +kernel
theorem dX4_endFrom_92 : decode cX4_endFrom 92 = .ok (.aload_n 0, 1) := by decide +kernel
theorem dX4_endFrom_93 : decode cX4_endFrom 93 = .ok (.getfield 9, 3) := by decide +kernel
theorem dX4_endFrom_96 : decode cX4_endFrom 96 = .ok (.iload_n 2, 1) := by decide +kernel
theorem dX4_endFrom_97 : decode cX4_endFrom 97 = .ok (.iaload, 1) := by decide +kernel
theorem dX4_endFrom_98 : decode cX4_endFrom 98 = .ok (.bipush (-3), 2) := by decide +kernel
theorem dX4_endFrom_100 : decode cX4_endFrom 100 = .ok (.if_icmp .ne 7, 3) := by decide +kernel
theorem dX4_endFrom_103 : decode cX4_endFrom 103 = .ok (.iconst (-1), 1) := by decide +kernel
theorem dX4_endFrom_104 : decode cX4_endFrom 104 = .ok (.goto 9, 3) := by decide +kernel
theorem dX4_endFrom_107 : decode cX4_endFrom 107 = .ok (.aload_n 0, 1) := by decide +kernel
theorem dX4_endFrom_108 : decode cX4_endFrom 108 = .ok (.getfield 9, 3) := by decide +kernel
theorem dX4_endFrom_111 : decode cX4_endFrom 111 = .ok (.iload_n 2, 1) := by decide +kernel
theorem dX4_endFrom_112 : decode cX4_endFrom 112 = .ok (.iaload, 1) := by decide +kernel
theorem dX4_endFrom_113 : decode cX4_endFrom 113 = .ok (.invokevirtual 41, 3) := by decide +kernel
theorem dX4_endFrom_116 : decode cX4_endFrom 116 = .ok (.aload_n 0, 1) := by decide +kernel
theorem dX4_endFrom_117 : decode cX4_endFrom 117 = .ok (.getfield 9, 3) := by decide +kernel
theorem dX4_endFrom_120 : decode cX4_endFrom 120 = .ok (.iload_n 1, 1) := by decide +kernel
theorem dX4_endFrom_121 : decode cX4_endFrom 121 = .ok (.iaload, 1) := by decide +kernel
theorem dX4_endFrom_122 : decode cX4_endFrom 122 = .ok (.ireturn, 1) := by decide +kernel
theorem dX4_endAt_0 : decode cX4_endAt 0 = .ok (.aload_n 0, 1) := by decide +kernel
theorem dX4_endAt_1 : decode cX4_endAt 1 = .ok (.getfield 19, 3) := by decide +kernel
theorem dX4_endAt_4 : decode cX4_endAt 4 = .ok (.iload_n 1, 1) := by decide +kernel
theorem dX4_endAt_5 : decode cX4_endAt 5 = .ok (.invokevirtual 45, 3) := by decide +kernel
theorem dX4_endAt_8 : decode cX4_endAt 8 = .ok (.ifCond .eq 14, 3) := by decide +kernel
theorem dX4_endAt_11 : decode cX4_endAt 11 = .ok (.sipush 1000, 3) := by decide +kernel
theorem dX4_endAt_14 : decode cX4_endAt 14 = .ok (.iload_n 1, 1) := by decide +kernel
theorem dX4_endAt_15 : decode cX4_endAt 15 = .ok (.invokestatic 49, 3) := by decide +kernel
theorem dX4_endAt_18 : decode cX4_endAt 18 = .ok (.iadd, 1) := by decide +kernel
theorem dX4_endAt_19 : decode cX4_endAt 19 = .ok (.goto 7, 3) := by decide +kernel
theorem dX4_endAt_22 : decode cX4_endAt 22 = .ok (.iload_n 1, 1) := by decide +kernel
theorem dX4_endAt_23 : decode cX4_endAt 23 = .ok (.invokestatic 52, 3) := by decide +kernel
theorem dX4_endAt_26 : decode cX4_endAt 26 = .ok (.ireturn, 1) := by decide +kernel
theorem dX4_settle_0 : decode cX4_settle 0 = .ok (.iload_n 1, 1) := by decide +kernel
theorem dX4_settle_1 : decode cX4_settle 1 = .ok (.istore_n 3, 1) := by decide +kernel
theorem dX4_settle_2 : decode cX4_settle 2 = .ok (.iconst 0, 1) := by decide +kernel
theorem dX4_settle_3 : decode cX4_settle 3 = .ok (.istore 4, 2) := by decide +kernel
theorem dX4_settle_5 : decode cX4_settle 5 = .ok (.iload 4, 2) := by decide +kernel
theorem dX4_settle_7 : decode cX4_settle 7 = .ok (.sipush 6656, 3) := by decide +kernel
theorem dX4_settle_10 : decode cX4_settle 10 = .ok (.if_icmp .ge 41, 3) := by decide +kernel
theorem dX4_settle_13 : decode cX4_settle 13 = .ok (.iload_n 3, 1) := by decide +kernel
theorem dX4_settle_14 : decode cX4_settle 14 = .ok (.iconst (-1), 1) := by decide +kernel
theorem dX4_settle_15 : decode cX4_settle 15 = .ok (.if_icmp .eq 36, 3) := by decide +kernel
theorem dX4_settle_18 : decode cX4_settle 18 = .ok (.aload_n 0, 1) := by decide +kernel
theorem dX4_settle_19 : decode cX4_settle 19 = .ok (.getfield 9, 3) := by decide +kernel
theorem dX4_settle_22 : decode cX4_settle 22 = .ok (.iload_n 3, 1) := by decide +kernel
theorem dX4_settle_23 : decode cX4_settle 23 = .ok (.iaload, 1) := by decide +kernel
theorem dX4_settle_24 : decode cX4_settle 24 = .ok (.bipush (-3), 2) := by decide +kernel
theorem dX4_settle_26 : decode cX4_settle 26 = .ok (.if_icmp .ne 25, 3) := by decide +kernel
theorem dX4_settle_29 : decode cX4_settle 29 = .ok (.aload_n 0, 1) := by decide +kernel
theorem dX4_settle_30 : decode cX4_settle 30 = .ok (.getfield 9, 3) := by decide +kernel
theorem dX4_settle_33 : decode cX4_settle 33 = .ok (.iload_n 3, 1) := by decide +kernel
theorem dX4_settle_34 : decode cX4_settle 34 = .ok (.iload_n 2, 1) := by decide +kernel
theorem dX4_settle_35 : decode cX4_settle 35 = .ok (.iastore, 1) := by decide +kernel
theorem dX4_settle_36 : decode cX4_settle 36 = .ok (.aload_n 0, 1) := by decide +kernel
theorem dX4_settle_37 : decode cX4_settle 37 = .ok (.getfield 19, 3) := by decide +kernel
theorem dX4_settle_40 : decode cX4_settle 40 = .ok (.iload_n 3, 1) := by decide +kernel
theorem dX4_settle_41 : decode cX4_settle 41 = .ok (.invokevirtual 33, 3) := by decide +kernel
theorem dX4_settle_44 : decode cX4_settle 44 = .ok (.istore_n 3, 1) := by decide +kernel
theorem dX4_settle_45 : decode cX4_settle 45 = .ok (.iinc 4 1, 3) := by decide +kernel
theorem dX4_settle_48 : decode cX4_settle 48 = .ok (.goto (-43), 3) := by decide +kernel
theorem dX4_settle_51 : decode cX4_settle 51 = .ok (.return_, 1) := by decide +kernel
theorem dX4_lengthFrom_0 : decode cX4_lengthFrom 0 = .ok (.aload_n 0, 1) := by decide +kernel
theorem dX4_lengthFrom_1 : decode cX4_lengthFrom 1 = .ok (.iload_n 1, 1) := by decide +kernel
theorem dX4_lengthFrom_2 : decode cX4_lengthFrom 2 = .ok (.invokevirtual 23, 3) := by decide +kernel
theorem dX4_lengthFrom_5 : decode cX4_lengthFrom 5 = .ok (.iconst (-1), 1) := by decide +kernel
theorem dX4_lengthFrom_6 : decode cX4_lengthFrom 6 = .ok (.if_icmp .ne 5, 3) := by decide +kernel
theorem dX4_lengthFrom_9 : decode cX4_lengthFrom 9 = .ok (.iconst (-1), 1) := by decide +kernel
theorem dX4_lengthFrom_10 : decode cX4_lengthFrom 10 = .ok (.ireturn, 1) := by decide +kernel
theorem dX4_lengthFrom_11 : decode cX4_lengthFrom 11 = .ok (.iconst 0, 1) := by decide +kernel
theorem dX4_lengthFrom_12 : decode cX4_lengthFrom 12 = .ok (.istore_n 2, 1) := by decide +kernel
theorem dX4_lengthFrom_13 : decode cX4_lengthFrom 13 = .ok (.iload_n 1, 1) := by decide +kernel
theorem dX4_lengthFrom_14 : decode cX4_lengthFrom 14 = .ok (.istore_n 3, 1) := by decide +kernel
theorem dX4_lengthFrom_15 : decode cX4_lengthFrom 15 = .ok (.iconst 0, 1) := by decide +kernel
theorem dX4_lengthFrom_16 : decode cX4_lengthFrom 16 = .ok (.istore 4, 2) := by decide +kernel
theorem dX4_lengthFrom_18 : decode cX4_lengthFrom 18 = .ok (.iload 4, 2) := by decide +kernel
theorem dX4_lengthFrom_20 : decode cX4_lengthFrom 20 = .ok (.sipush 6656, 3) := by decide +kernel
theorem dX4_lengthFrom_23 : decode cX4_lengthFrom 23 = .ok (.if_icmp .ge 37, 3) := by decide +kernel
theorem dX4_lengthFrom_26 : decode cX4_lengthFrom 26 = .ok (.iload_n 3, 1) := by decide +kernel
theorem dX4_lengthFrom_27 : decode cX4_lengthFrom 27 = .ok (.iconst (-1), 1) := by decide +kernel
theorem dX4_lengthFrom_28 : decode cX4_lengthFrom 28 = .ok (.if_icmp .eq 32, 3) := by decide +kernel
theorem dX4_lengthFrom_31 : decode cX4_lengthFrom 31 = .ok (.aload_n 0, 1) := by decide +kernel
theorem dX4_lengthFrom_32 : decode cX4_lengthFrom 32 = .ok (.getfield 19, 3) := by decide +kernel
theorem dX4_lengthFrom_35 : decode cX4_lengthFrom 35 = .ok (.iload_n 3, 1) := by decide +kernel
theorem dX4_lengthFrom_36 : decode cX4_lengthFrom 36 = .ok (.invokevirtual 45, 3) := by decide +kernel
theorem dX4_lengthFrom_39 : decode cX4_lengthFrom 39 = .ok (.ifCond .ne 21, 3) := by decide +kernel
theorem dX4_lengthFrom_42 : decode cX4_lengthFrom 42 = .ok (.iinc 2 1, 3) := by decide +kernel
theorem dX4_lengthFrom_45 : decode cX4_lengthFrom 45 = .ok (.aload_n 0, 1) := by decide +kernel
theorem dX4_lengthFrom_46 : decode cX4_lengthFrom 46 = .ok (.getfield 19, 3) := by decide +kernel
theorem dX4_lengthFrom_49 : decode cX4_lengthFrom 49 = .ok (.iload_n 3, 1) := by decide +kernel
theorem dX4_lengthFrom_50 : decode cX4_lengthFrom 50 = .ok (.invokevirtual 33, 3) := by decide +kernel
theorem dX4_lengthFrom_53 : decode cX4_lengthFrom 53 = .ok (.istore_n 3, 1) := by decide +kernel
theorem dX4_lengthFrom_54 : decode cX4_lengthFrom 54 = .ok (.iinc 4 1, 3) := by decide +kernel
theorem dX4_lengthFrom_57 : decode cX4_lengthFrom 57 = .ok (.goto (-39), 3) := by decide +kernel
theorem dX4_lengthFrom_60 : decode cX4_lengthFrom 60 = .ok (.iload_n 2, 1) := by decide +kernel
theorem dX4_lengthFrom_61 : decode cX4_lengthFrom 61 = .ok (.ireturn, 1) := by decide +kernel
theorem dX5_init_0 : decode cX5_init 0 = .ok (.aload_n 0, 1) := by decide +kernel
theorem dX5_init_1 : decode cX5_init 1 = .ok (.invokespecial 3, 3) := by decide +kernel
theorem dX5_init_4 : decode cX5_init 4 = .ok (.aload_n 0, 1) := by decide +kernel
theorem dX5_init_5 : decode cX5_init 5 = .ok (.bipush 60, 2) := by decide +kernel
theorem dX5_init_7 : decode cX5_init 7 = .ok (.newarray .char, 2) := by decide +kernel
theorem dX5_init_9 : decode cX5_init 9 = .ok (.putfield 9, 3) := by decide +kernel
theorem dX5_init_12 : decode cX5_init 12 = .ok (.aload_n 0, 1) := by decide +kernel
theorem dX5_init_13 : decode cX5_init 13 = .ok (.new 15, 3) := by decide +kernel
theorem dX5_init_16 : decode cX5_init 16 = .ok (.dup, 1) := by decide +kernel
theorem dX5_init_17 : decode cX5_init 17 = .ok (.invokespecial 17, 3) := by decide +kernel
theorem dX5_init_20 : decode cX5_init 20 = .ok (.putfield 18, 3) := by decide +kernel
theorem dX5_init_23 : decode cX5_init 23 = .ok (.return_, 1) := by decide +kernel
theorem dX5_put_0 : decode cX5_put 0 = .ok (.aload_n 0, 1) := by decide +kernel
theorem dX5_put_1 : decode cX5_put 1 = .ok (.getfield 22, 3) := by decide +kernel
theorem dX5_put_4 : decode cX5_put 4 = .ok (.bipush 60, 2) := by decide +kernel
theorem dX5_put_6 : decode cX5_put 6 = .ok (.if_icmp .ge 23, 3) := by decide +kernel
theorem dX5_put_9 : decode cX5_put 9 = .ok (.aload_n 0, 1) := by decide +kernel
theorem dX5_put_10 : decode cX5_put 10 = .ok (.getfield 9, 3) := by decide +kernel
theorem dX5_put_13 : decode cX5_put 13 = .ok (.aload_n 0, 1) := by decide +kernel
theorem dX5_put_14 : decode cX5_put 14 = .ok (.getfield 22, 3) := by decide +kernel
theorem dX5_put_17 : decode cX5_put 17 = .ok (.iload_n 1, 1) := by decide +kernel
theorem dX5_put_18 : decode cX5_put 18 = .ok (.castore, 1) := by decide +kernel
theorem dX5_put_19 : decode cX5_put 19 = .ok (.aload_n 0, 1) := by decide +kernel
theorem dX5_put_20 : decode cX5_put 20 = .ok (.dup, 1) := by decide +kernel
theorem dX5_put_21 : decode cX5_put 21 = .ok (.getfield 22, 3) := by decide +kernel
theorem dX5_put_24 : decode cX5_put 24 = .ok (.iconst 1, 1) := by decide +kernel
theorem dX5_put_25 : decode cX5_put 25 = .ok (.iadd, 1) := by decide +kernel
theorem dX5_put_26 : decode cX5_put 26 = .ok (.putfield 22, 3) := by decide +kernel
theorem dX5_put_29 : decode cX5_put 29 = .ok (.return_, 1) := by decide +kernel
theorem dX5_clear_0 : decode cX5_clear 0 = .ok (.aload_n 0, 1) := by decide +kernel
theorem dX5_clear_1 : decode cX5_clear 1 = .ok (.iconst 0, 1) := by decide +kernel
theorem dX5_clear_2 : decode cX5_clear 2 = .ok (.putfield 22, 3) := by decide +kernel
theorem dX5_clear_5 : decode cX5_clear 5 = .ok (.return_, 1) := by decide +kernel
theorem dX5_readAll_0 : decode cX5_readAll 0 = .ok (.aload_n 0, 1) := by decide +kernel
theorem dX5_readAll_1 : decode cX5_readAll 1 = .ok (.iconst 0, 1) := by decide +kernel
theorem dX5_readAll_2 : decode cX5_readAll 2 = .ok (.putfield 26, 3) := by decide +kernel
theorem dX5_readAll_5 : decode cX5_readAll 5 = .ok (.aload_n 0, 1) := by decide +kernel
theorem dX5_readAll_6 : decode cX5_readAll 6 = .ok (.getfield 18, 3) := by decide +kernel
theorem dX5_readAll_9 : decode cX5_readAll 9 = .ok (.invokevirtual 29, 3) := by decide +kernel
theorem dX5_readAll_12 : decode cX5_readAll 12 = .ok (.iconst 1, 1) := by decide +kernel
theorem dX5_readAll_13 : decode cX5_readAll 13 = .ok (.istore_n 1, 1) := by decide +kernel
theorem dX5_readAll_14 : decode cX5_readAll 14 = .ok (.iload_n 1, 1) := by decide +kernel
theorem dX5_readAll_15 : decode cX5_readAll 15 = .ok (.bipush 12, 2) := by decide +kernel
theorem dX5_readAll_17 : decode cX5_readAll 17 = .ok (.if_icmp .gt 48, 3) := by decide +kernel
theorem dX5_readAll_20 : decode cX5_readAll 20 = .ok (.aload_n 0, 1) := by decide +kernel
theorem dX5_readAll_21 : decode cX5_readAll 21 = .ok (.invokevirtual 32, 3) := by decide +kernel
theorem dX5_readAll_24 : decode cX5_readAll 24 = .ok (.ifCond .ne 5, 3) := by decide +kernel
theorem dX5_readAll_27 : decode cX5_readAll 27 = .ok (.iconst 0, 1) := by decide +kernel
theorem dX5_readAll_28 : decode cX5_readAll 28 = .ok (.ireturn, 1) := by decide +kernel
theorem dX5_readAll_29 : decode cX5_readAll 29 = .ok (.aload_n 0, 1) := by decide +kernel
theorem dX5_readAll_30 : decode cX5_readAll 30 = .ok (.getfield 26, 3) := by decide +kernel
theorem dX5_readAll_33 : decode cX5_readAll 33 = .ok (.aload_n 0, 1) := by decide +kernel
theorem dX5_readAll_34 : decode cX5_readAll 34 = .ok (.getfield 22, 3) := by decide +kernel
theorem dX5_readAll_37 : decode cX5_readAll 37 = .ok (.if_icmp .ne 5, 3) := by decide +kernel
theorem dX5_readAll_40 : decode cX5_readAll 40 = .ok (.iconst 1, 1) := by decide +kernel
theorem dX5_readAll_41 : decode cX5_readAll 41 = .ok (.ireturn, 1) := by decide +kernel
theorem dX5_readAll_42 : decode cX5_readAll 42 = .ok (.iload_n 1, 1) := by decide +kernel
theorem dX5_readAll_43 : decode cX5_readAll 43 = .ok (.bipush 12, 2) := by decide +kernel
theorem dX5_readAll_45 : decode cX5_readAll 45 = .ok (.if_icmp .eq 12, 3) := by decide +kernel
theorem dX5_readAll_48 : decode cX5_readAll 48 = .ok (.aload_n 0, 1) := by decide +kernel
theorem dX5_readAll_49 : decode cX5_readAll 49 = .ok (.bipush 59, 2) := by decide +kernel
theorem dX5_readAll_51 : decode cX5_readAll 51 = .ok (.invokevirtual 36, 3) := by decide +kernel
theorem dX5_readAll_54 : decode cX5_readAll 54 = .ok (.ifCond .ne 5, 3) := by decide +kernel
theorem dX5_readAll_57 : decode cX5_readAll 57 = .ok (.iconst 0, 1) := by decide +kernel
theorem dX5_readAll_58 : decode cX5_readAll 58 = .ok (.ireturn, 1) := by decide +kernel
theorem dX5_readAll_59 : decode cX5_readAll 59 = .ok (.iinc 1 1, 3) := by decide +kernel
theorem dX5_readAll_62 : decode cX5_readAll 62 = .ok (.goto (-48), 3) := by decide +kernel
theorem dX5_readAll_65 : decode cX5_readAll 65 = .ok (.iconst 0, 1) := by decide +kernel
theorem dX5_readAll_66 : decode cX5_readAll 66 = .ok (.ireturn, 1) := by decide +kernel
theorem dX5_takeStatement_0 : decode cX5_takeStatement 0 = .ok (.aload_n 0, 1) := by decide +kernel
theorem dX5_takeStatement_1 : decode cX5_takeStatement 1 = .ok (.iconst 0, 1) := by decide +kernel
theorem dX5_takeStatement_2 : decode cX5_takeStatement 2 = .ok (.putfield 40, 3) := by decide +kernel
theorem dX5_takeStatement_5 : decode cX5_takeStatement 5 = .ok (.aload_n 0, 1) := by decide +kernel
theorem dX5_takeStatement_6 : decode cX5_takeStatement 6 = .ok (.iconst 0, 1) := by decide +kernel
theorem dX5_takeStatement_7 : decode cX5_takeStatement 7 = .ok (.putfield 43, 3) := by decide +kernel
theorem dX5_takeStatement_10 : decode cX5_takeStatement 10 = .ok (.aload_n 0, 1) := by decide +kernel
theorem dX5_takeStatement_11 : decode cX5_takeStatement 11 = .ok (.iconst (-1), 1) := by decide +kernel
theorem dX5_takeStatement_12 : decode cX5_takeStatement 12 = .ok (.putfield 46, 3) := by decide +kernel
theorem dX5_takeStatement_15 : decode cX5_takeStatement 15 = .ok (.aload_n 0, 1) := by decide +kernel
theorem dX5_takeStatement_16 : decode cX5_takeStatement 16 = .ok (.bipush 33, 2) := by decide +kernel
theorem dX5_takeStatement_18 : decode cX5_takeStatement 18 = .ok (.invokevirtual 36, 3) := by decide +kernel
theorem dX5_takeStatement_21 : decode cX5_takeStatement 21 = .ok (.ifCond .eq 24, 3) := by decide +kernel
theorem dX5_takeStatement_24 : decode cX5_takeStatement 24 = .ok (.aload_n 0, 1) := by decide +kernel
theorem dX5_takeStatement_25 : decode cX5_takeStatement 25 = .ok (.invokevirtual 49, 3) := by decide +kernel
theorem dX5_takeStatement_28 : decode cX5_takeStatement 28 = .ok (.ifCond .eq 15, 3) := by decide +kernel
theorem dX5_takeStatement_31 : decode cX5_takeStatement 31 = .ok (.aload_n 0, 1) := by decide +kernel
theorem dX5_takeStatement_32 : decode cX5_takeStatement 32 = .ok (.iconst 1, 1) := by decide +kernel
theorem dX5_takeStatement_33 : decode cX5_takeStatement 33 = .ok (.invokevirtual 52, 3) := by decide +kernel
theorem dX5_takeStatement_36 : decode cX5_takeStatement 36 = .ok (.ifCond .eq 7, 3) := by decide +kernel
theorem dX5_takeStatement_39 : decode cX5_takeStatement 39 = .ok (.iconst 1, 1) := by decide +kernel
theorem dX5_takeStatement_40 : decode cX5_takeStatement 40 = .ok (.goto 4, 3) := by decide +kernel
theorem dX5_takeStatement_43 : decode cX5_takeStatement 43 = .ok (.iconst 0, 1) := by decide +kernel
theorem dX5_takeStatement_44 : decode cX5_takeStatement 44 = .ok (.ireturn, 1) := by decide +kernel
theorem dX5_takeStatement_45 : decode cX5_takeStatement 45 = .ok (.aload_n 0, 1) := by decide +kernel
theorem dX5_takeStatement_46 : decode cX5_takeStatement 46 = .ok (.bipush 63, 2) := by decide +kernel
theorem dX5_takeStatement_48 : decode cX5_takeStatement 48 = .ok (.invokevirtual 36, 3) := by decide +kernel
theorem dX5_takeStatement_51 : decode cX5_takeStatement 51 = .ok (.ifCond .eq 40, 3) := by decide +kernel
theorem dX5_takeStatement_54 : decode cX5_takeStatement 54 = .ok (.aload_n 0, 1) := by decide +kernel
theorem dX5_takeStatement_55 : decode cX5_takeStatement 55 = .ok (.invokevirtual 49, 3) := by decide +kernel
theorem dX5_takeStatement_58 : decode cX5_takeStatement 58 = .ok (.ifCond .eq 31, 3) := by decide +kernel
theorem dX5_takeStatement_61 : decode cX5_takeStatement 61 = .ok (.aload_n 0, 1) := by decide +kernel
theorem dX5_takeStatement_62 : decode cX5_takeStatement 62 = .ok (.bipush 64, 2) := by decide +kernel
theorem dX5_takeStatement_64 : decode cX5_takeStatement 64 = .ok (.invokevirtual 36, 3) := by decide +kernel
theorem dX5_takeStatement_67 : decode cX5_takeStatement 67 = .ok (.ifCond .eq 22, 3) := by decide +kernel
theorem dX5_takeStatement_70 : decode cX5_takeStatement 70 = .ok (.aload_n 0, 1) := by decide +kernel
theorem dX5_takeStatement_71 : decode cX5_takeStatement 71 = .ok (.invokevirtual 56, 3) := by decide +kernel
theorem dX5_takeStatement_74 : decode cX5_takeStatement 74 = .ok (.ifCond .eq 15, 3) := by decide +kernel
theorem dX5_takeStatement_77 : decode cX5_takeStatement 77 = .ok (.aload_n 0, 1) := by decide +kernel
theorem dX5_takeStatement_78 : decode cX5_takeStatement 78 = .ok (.iconst 2, 1) := by decide +kernel
theorem dX5_takeStatement_79 : decode cX5_takeStatement 79 = .ok (.invokevirtual 52, 3) := by decide +kernel
theorem dX5_takeStatement_82 : decode cX5_takeStatement 82 = .ok (.ifCond .eq 7, 3) := by decide +kernel
theorem dX5_takeStatement_85 : decode cX5_takeStatement 85 = .ok (.iconst 1, 1) := by decide +kernel
theorem dX5_takeStatement_86 : decode cX5_takeStatement 86 = .ok (.goto 4, 3) := by decide +kernel
theorem dX5_takeStatement_89 : decode cX5_takeStatement 89 = .ok (.iconst 0, 1) := by decide +kernel
theorem dX5_takeStatement_90 : decode cX5_takeStatement 90 = .ok (.ireturn, 1) := by decide +kernel
theorem dX5_takeStatement_91 : decode cX5_takeStatement 91 = .ok (.aload_n 0, 1) := by decide +kernel
theorem dX5_takeStatement_92 : decode cX5_takeStatement 92 = .ok (.invokevirtual 59, 3) := by decide +kernel
theorem dX5_takeStatement_95 : decode cX5_takeStatement 95 = .ok (.ifCond .eq 38, 3) := by decide +kernel
theorem dX5_takeStatement_98 : decode cX5_takeStatement 98 = .ok (.aload_n 0, 1) := by decide +kernel
theorem dX5_takeStatement_99 : decode cX5_takeStatement 99 = .ok (.bipush 58, 2) := by decide +kernel
theorem dX5_takeStatement_101 : decode cX5_takeStatement 101 = .ok (.invokevirtual 36, 3) := by decide +kernel
theorem dX5_takeStatement_104 : decode cX5_takeStatement 104 = .ok (.ifCond .eq 29, 3) := by decide +kernel
theorem dX5_takeStatement_107 : decode cX5_takeStatement 107 = .ok (.aload_n 0, 1) := by decide +kernel
theorem dX5_takeStatement_108 : decode cX5_takeStatement 108 = .ok (.invokevirtual 62, 3) := by decide +kernel
theorem dX5_takeStatement_111 : decode cX5_takeStatement 111 = .ok (.ifCond .eq 22, 3) := by decide +kernel
theorem dX5_takeStatement_114 : decode cX5_takeStatement 114 = .ok (.aload_n 0, 1) := by decide +kernel
theorem dX5_takeStatement_115 : decode cX5_takeStatement 115 = .ok (.invokevirtual 65, 3) := by decide +kernel
theorem dX5_takeStatement_118 : decode cX5_takeStatement 118 = .ok (.ifCond .eq 15, 3) := by decide +kernel
theorem dX5_takeStatement_121 : decode cX5_takeStatement 121 = .ok (.aload_n 0, 1) := by decide +kernel
theorem dX5_takeStatement_122 : decode cX5_takeStatement 122 = .ok (.iconst 0, 1) := by decide +kernel
theorem dX5_takeStatement_123 : decode cX5_takeStatement 123 = .ok (.invokevirtual 52, 3) := by decide +kernel
theorem dX5_takeStatement_126 : decode cX5_takeStatement 126 = .ok (.ifCond .eq 7, 3) := by decide +kernel
theorem dX5_takeStatement_129 : decode cX5_takeStatement 129 = .ok (.iconst 1, 1) := by decide +kernel
theorem dX5_takeStatement_130 : decode cX5_takeStatement 130 = .ok (.goto 4, 3) := by decide +kernel
theorem dX5_takeStatement_133 : decode cX5_takeStatement 133 = .ok (.iconst 0, 1) := by decide +kernel
theorem dX5_takeStatement_134 : decode cX5_takeStatement 134 = .ok (.ireturn, 1) := by decide +kernel
theorem dX5_keep_0 : decode cX5_keep 0 = .ok (.aload_n 0, 1) := by decide +kernel
theorem dX5_keep_1 : decode cX5_keep 1 = .ok (.getfield 18, 3) := by decide +kernel
theorem dX5_keep_4 : decode cX5_keep 4 = .ok (.iload_n 1, 1) := by decide +kernel
theorem dX5_keep_5 : decode cX5_keep 5 = .ok (.aload_n 0, 1) := by decide +kernel
theorem dX5_keep_6 : decode cX5_keep 6 = .ok (.getfield 68, 3) := by decide +kernel
theorem dX5_keep_9 : decode cX5_keep 9 = .ok (.aload_n 0, 1) := by decide +kernel
theorem dX5_keep_10 : decode cX5_keep 10 = .ok (.getfield 40, 3) := by decide +kernel
theorem dX5_keep_13 : decode cX5_keep 13 = .ok (.aload_n 0, 1) := by decide +kernel
theorem dX5_keep_14 : decode cX5_keep 14 = .ok (.getfield 71, 3) := by decide +kernel
theorem dX5_keep_17 : decode cX5_keep 17 = .ok (.aload_n 0, 1) := by decide +kernel
theorem dX5_keep_18 : decode cX5_keep 18 = .ok (.getfield 43, 3) := by decide +kernel
theorem dX5_keep_21 : decode cX5_keep 21 = .ok (.aload_n 0, 1) := by decide +kernel
theorem dX5_keep_22 : decode cX5_keep 22 = .ok (.getfield 46, 3) := by decide +kernel
theorem dX5_keep_25 : decode cX5_keep 25 = .ok (.invokevirtual 74, 3) := by decide +kernel
theorem dX5_keep_28 : decode cX5_keep 28 = .ok (.iconst 1, 1) := by decide +kernel
theorem dX5_keep_29 : decode cX5_keep 29 = .ok (.ireturn, 1) := by decide +kernel
theorem dX5_takeTest_0 : decode cX5_takeTest 0 = .ok (.aload_n 0, 1) := by decide +kernel
theorem dX5_takeTest_1 : decode cX5_takeTest 1 = .ok (.invokevirtual 59, 3) := by decide +kernel
theorem dX5_takeTest_4 : decode cX5_takeTest 4 = .ok (.ifCond .eq 21, 3) := by decide +kernel
theorem dX5_takeTest_7 : decode cX5_takeTest 7 = .ok (.aload_n 0, 1) := by decide +kernel
theorem dX5_takeTest_8 : decode cX5_takeTest 8 = .ok (.invokevirtual 78, 3) := by decide +kernel
theorem dX5_takeTest_11 : decode cX5_takeTest 11 = .ok (.ifCond .eq 14, 3) := by decide +kernel
theorem dX5_takeTest_14 : decode cX5_takeTest 14 = .ok (.aload_n 0, 1) := by decide +kernel
theorem dX5_takeTest_15 : decode cX5_takeTest 15 = .ok (.invokevirtual 62, 3) := by decide +kernel
theorem dX5_takeTest_18 : decode cX5_takeTest 18 = .ok (.ifCond .eq 7, 3) := by decide +kernel
theorem dX5_takeTest_21 : decode cX5_takeTest 21 = .ok (.iconst 1, 1) := by decide +kernel
theorem dX5_takeTest_22 : decode cX5_takeTest 22 = .ok (.goto 4, 3) := by decide +kernel
theorem dX5_takeTest_25 : decode cX5_takeTest 25 = .ok (.iconst 0, 1) := by decide +kernel
theorem dX5_takeTest_26 : decode cX5_takeTest 26 = .ok (.ireturn, 1) := by decide +kernel
theorem dX5_takeVariable_0 : decode cX5_takeVariable 0 = .ok (.ldc 81, 2) := by decide +kernel
theorem dX5_takeVariable_2 : decode cX5_takeVariable 2 = .ok (.aload_n 0, 1) := by decide +kernel
theorem dX5_takeVariable_3 : decode cX5_takeVariable 3 = .ok (.invokevirtual 83, 3) := by decide +kernel
theorem dX5_takeVariable_6 : decode cX5_takeVariable 6 = .ok (.invokevirtual 87, 3) := by decide +kernel
theorem dX5_takeVariable_9 : decode cX5_takeVariable 9 = .ok (.istore_n 1, 1) := by decide +kernel
theorem dX5_takeVariable_10 : decode cX5_takeVariable 10 = .ok (.iload_n 1, 1) := by decide +kernel
theorem dX5_takeVariable_11 : decode cX5_takeVariable 11 = .ok (.ifCond .ge 5, 3) := by decide +kernel
theorem dX5_takeVariable_14 : decode cX5_takeVariable 14 = .ok (.iconst 0, 1) := by decide +kernel
theorem dX5_takeVariable_15 : decode cX5_takeVariable 15 = .ok (.ireturn, 1) := by decide +kernel
theorem dX5_takeVariable_16 : decode cX5_takeVariable 16 = .ok (.aload_n 0, 1) := by decide +kernel
theorem dX5_takeVariable_17 : decode cX5_takeVariable 17 = .ok (.iload_n 1, 1) := by decide +kernel
theorem dX5_takeVariable_18 : decode cX5_takeVariable 18 = .ok (.putfield 68, 3) := by decide +kernel
theorem dX5_takeVariable_21 : decode cX5_takeVariable 21 = .ok (.aload_n 0, 1) := by decide +kernel
theorem dX5_takeVariable_22 : decode cX5_takeVariable 22 = .ok (.dup, 1) := by decide +kernel
theorem dX5_takeVariable_23 : decode cX5_takeVariable 23 = .ok (.getfield 26, 3) := by decide +kernel
theorem dX5_takeVariable_26 : decode cX5_takeVariable 26 = .ok (.iconst 1, 1) := by decide +kernel
theorem dX5_takeVariable_27 : decode cX5_takeVariable 27 = .ok (.iadd, 1) := by decide +kernel
theorem dX5_takeVariable_28 : decode cX5_takeVariable 28 = .ok (.putfield 26, 3) := by decide +kernel
theorem dX5_takeVariable_31 : decode cX5_takeVariable 31 = .ok (.iconst 1, 1) := by decide +kernel
theorem dX5_takeVariable_32 : decode cX5_takeVariable 32 = .ok (.ireturn, 1) := by decide +kernel
theorem dX5_takeSign_0 : decode cX5_takeSign 0 = .ok (.ldc 93, 2) := by decide +kernel
theorem dX5_takeSign_2 : decode cX5_takeSign 2 = .ok (.aload_n 0, 1) := by decide +kernel
theorem dX5_takeSign_3 : decode cX5_takeSign 3 = .ok (.invokevirtual 83, 3) := by decide +kernel
theorem dX5_takeSign_6 : decode cX5_takeSign 6 = .ok (.invokevirtual 87, 3) := by decide +kernel
theorem dX5_takeSign_9 : decode cX5_takeSign 9 = .ok (.istore_n 1, 1) := by decide +kernel
theorem dX5_takeSign_10 : decode cX5_takeSign 10 = .ok (.iload_n 1, 1) := by decide +kernel
theorem dX5_takeSign_11 : decode cX5_takeSign 11 = .ok (.ifCond .ge 5, 3) := by decide +kernel
theorem dX5_takeSign_14 : decode cX5_takeSign 14 = .ok (.iconst 0, 1) := by decide +kernel
theorem dX5_takeSign_15 : decode cX5_takeSign 15 = .ok (.ireturn, 1) := by decide +kernel
theorem dX5_takeSign_16 : decode cX5_takeSign 16 = .ok (.aload_n 0, 1) := by decide +kernel
theorem dX5_takeSign_17 : decode cX5_takeSign 17 = .ok (.iload_n 1, 1) := by decide +kernel
theorem dX5_takeSign_18 : decode cX5_takeSign 18 = .ok (.putfield 40, 3) := by decide +kernel
theorem dX5_takeSign_21 : decode cX5_takeSign 21 = .ok (.aload_n 0, 1) := by decide +kernel
theorem dX5_takeSign_22 : decode cX5_takeSign 22 = .ok (.dup, 1) := by decide +kernel
theorem dX5_takeSign_23 : decode cX5_takeSign 23 = .ok (.getfield 26, 3) := by decide +kernel
theorem dX5_takeSign_26 : decode cX5_takeSign 26 = .ok (.iconst 1, 1) := by decide +kernel
theorem dX5_takeSign_27 : decode cX5_takeSign 27 = .ok (.iadd, 1) := by decide +kernel
theorem dX5_takeSign_28 : decode cX5_takeSign 28 = .ok (.putfield 26, 3) := by decide +kernel
theorem dX5_takeSign_31 : decode cX5_takeSign 31 = .ok (.iconst 1, 1) := by decide +kernel
theorem dX5_takeSign_32 : decode cX5_takeSign 32 = .ok (.ireturn, 1) := by decide +kernel
theorem dX5_takeOperand_0 : decode cX5_takeOperand 0 = .ok (.ldc 81, 2) := by decide +kernel
theorem dX5_takeOperand_2 : decode cX5_takeOperand 2 = .ok (.aload_n 0, 1) := by decide +kernel
theorem dX5_takeOperand_3 : decode cX5_takeOperand 3 = .ok (.invokevirtual 83, 3) := by decide +kernel
theorem dX5_takeOperand_6 : decode cX5_takeOperand 6 = .ok (.invokevirtual 87, 3) := by decide +kernel
theorem dX5_takeOperand_9 : decode cX5_takeOperand 9 = .ok (.istore_n 1, 1) := by decide +kernel
theorem dX5_takeOperand_10 : decode cX5_takeOperand 10 = .ok (.iload_n 1, 1) := by decide +kernel
theorem dX5_takeOperand_11 : decode cX5_takeOperand 11 = .ok (.ifCond .ge 14, 3) := by decide +kernel
theorem dX5_takeOperand_14 : decode cX5_takeOperand 14 = .ok (.aload_n 0, 1) := by decide +kernel
theorem dX5_takeOperand_15 : decode cX5_takeOperand 15 = .ok (.bipush 55, 2) := by decide +kernel
theorem dX5_takeOperand_17 : decode cX5_takeOperand 17 = .ok (.invokevirtual 95, 3) := by decide +kernel
theorem dX5_takeOperand_20 : decode cX5_takeOperand 20 = .ok (.ifCond .ne 5, 3) := by decide +kernel
theorem dX5_takeOperand_23 : decode cX5_takeOperand 23 = .ok (.iconst 0, 1) := by decide +kernel
theorem dX5_takeOperand_24 : decode cX5_takeOperand 24 = .ok (.ireturn, 1) := by decide +kernel
theorem dX5_takeOperand_25 : decode cX5_takeOperand 25 = .ok (.aload_n 0, 1) := by decide +kernel
theorem dX5_takeOperand_26 : decode cX5_takeOperand 26 = .ok (.iload_n 1, 1) := by decide +kernel
theorem dX5_takeOperand_27 : decode cX5_takeOperand 27 = .ok (.ifCond .ge 13, 3) := by decide +kernel
theorem dX5_takeOperand_30 : decode cX5_takeOperand 30 = .ok (.aload_n 0, 1) := by decide +kernel
theorem dX5_takeOperand_31 : decode cX5_takeOperand 31 = .ok (.invokevirtual 83, 3) := by decide +kernel
theorem dX5_takeOperand_34 : decode cX5_takeOperand 34 = .ok (.bipush 48, 2) := by decide +kernel
theorem dX5_takeOperand_36 : decode cX5_takeOperand 36 = .ok (.isub, 1) := by decide +kernel
theorem dX5_takeOperand_37 : decode cX5_takeOperand 37 = .ok (.goto 7, 3) := by decide +kernel
theorem dX5_takeOperand_40 : decode cX5_takeOperand 40 = .ok (.bipush 8, 2) := by decide +kernel
theorem dX5_takeOperand_42 : decode cX5_takeOperand 42 = .ok (.iload_n 1, 1) := by decide +kernel
theorem dX5_takeOperand_43 : decode cX5_takeOperand 43 = .ok (.iadd, 1) := by decide +kernel
theorem dX5_takeOperand_44 : decode cX5_takeOperand 44 = .ok (.putfield 71, 3) := by decide +kernel
theorem dX5_takeOperand_47 : decode cX5_takeOperand 47 = .ok (.aload_n 0, 1) := by decide +kernel
theorem dX5_takeOperand_48 : decode cX5_takeOperand 48 = .ok (.dup, 1) := by decide +kernel
theorem dX5_takeOperand_49 : decode cX5_takeOperand 49 = .ok (.getfield 26, 3) := by decide +kernel
theorem dX5_takeOperand_52 : decode cX5_takeOperand 52 = .ok (.iconst 1, 1) := by decide +kernel
theorem dX5_takeOperand_53 : decode cX5_takeOperand 53 = .ok (.iadd, 1) := by decide +kernel
theorem dX5_takeOperand_54 : decode cX5_takeOperand 54 = .ok (.putfield 26, 3) := by decide +kernel
theorem dX5_takeOperand_57 : decode cX5_takeOperand 57 = .ok (.iconst 1, 1) := by decide +kernel
theorem dX5_takeOperand_58 : decode cX5_takeOperand 58 = .ok (.ireturn, 1) := by decide +kernel
theorem dX5_takeAddend_0 : decode cX5_takeAddend 0 = .ok (.aload_n 0, 1) := by decide +kernel
theorem dX5_takeAddend_1 : decode cX5_takeAddend 1 = .ok (.bipush 45, 2) := by decide +kernel
theorem dX5_takeAddend_3 : decode cX5_takeAddend 3 = .ok (.invokevirtual 36, 3) := by decide +kernel
theorem dX5_takeAddend_6 : decode cX5_takeAddend 6 = .ok (.istore_n 1, 1) := by decide +kernel
theorem dX5_takeAddend_7 : decode cX5_takeAddend 7 = .ok (.iload_n 1, 1) := by decide +kernel
theorem dX5_takeAddend_8 : decode cX5_takeAddend 8 = .ok (.ifCond .ne 14, 3) := by decide +kernel
theorem dX5_takeAddend_11 : decode cX5_takeAddend 11 = .ok (.aload_n 0, 1) := by decide +kernel
theorem dX5_takeAddend_12 : decode cX5_takeAddend 12 = .ok (.bipush 43, 2) := by decide +kernel
theorem dX5_takeAddend_14 : decode cX5_takeAddend 14 = .ok (.invokevirtual 36, 3) := by decide +kernel
theorem dX5_takeAddend_17 : decode cX5_takeAddend 17 = .ok (.ifCond .ne 5, 3) := by decide +kernel
theorem dX5_takeAddend_20 : decode cX5_takeAddend 20 = .ok (.iconst 1, 1) := by decide +kernel
theorem dX5_takeAddend_21 : decode cX5_takeAddend 21 = .ok (.ireturn, 1) := by decide +kernel
theorem dX5_takeAddend_22 : decode cX5_takeAddend 22 = .ok (.aload_n 0, 1) := by decide +kernel
theorem dX5_takeAddend_23 : decode cX5_takeAddend 23 = .ok (.bipush 55, 2) := by decide +kernel
theorem dX5_takeAddend_25 : decode cX5_takeAddend 25 = .ok (.invokevirtual 95, 3) := by decide +kernel
theorem dX5_takeAddend_28 : decode cX5_takeAddend 28 = .ok (.ifCond .ne 5, 3) := by decide +kernel
theorem dX5_takeAddend_31 : decode cX5_takeAddend 31 = .ok (.iconst 0, 1) := by decide +kernel
theorem dX5_takeAddend_32 : decode cX5_takeAddend 32 = .ok (.ireturn, 1) := by decide +kernel
theorem dX5_takeAddend_33 : decode cX5_takeAddend 33 = .ok (.aload_n 0, 1) := by decide +kernel
theorem dX5_takeAddend_34 : decode cX5_takeAddend 34 = .ok (.iload_n 1, 1) := by decide +kernel
theorem dX5_takeAddend_35 : decode cX5_takeAddend 35 = .ok (.ifCond .eq 13, 3) := by decide +kernel
theorem dX5_takeAddend_38 : decode cX5_takeAddend 38 = .ok (.bipush 48, 2) := by decide +kernel
theorem dX5_takeAddend_40 : decode cX5_takeAddend 40 = .ok (.aload_n 0, 1) := by decide +kernel
theorem dX5_takeAddend_41 : decode cX5_takeAddend 41 = .ok (.invokevirtual 83, 3) := by decide +kernel
theorem dX5_takeAddend_44 : decode cX5_takeAddend 44 = .ok (.isub, 1) := by decide +kernel
theorem dX5_takeAddend_45 : decode cX5_takeAddend 45 = .ok (.goto 10, 3) := by decide +kernel
theorem dX5_takeAddend_48 : decode cX5_takeAddend 48 = .ok (.aload_n 0, 1) := by decide +kernel
theorem dX5_takeAddend_49 : decode cX5_takeAddend 49 = .ok (.invokevirtual 83, 3) := by decide +kernel
theorem dX5_takeAddend_52 : decode cX5_takeAddend 52 = .ok (.bipush 48, 2) := by decide +kernel
theorem dX5_takeAddend_54 : decode cX5_takeAddend 54 = .ok (.isub, 1) := by decide +kernel
theorem dX5_takeAddend_55 : decode cX5_takeAddend 55 = .ok (.putfield 43, 3) := by decide +kernel
theorem dX5_takeAddend_58 : decode cX5_takeAddend 58 = .ok (.aload_n 0, 1) := by decide +kernel
theorem dX5_takeAddend_59 : decode cX5_takeAddend 59 = .ok (.dup, 1) := by decide +kernel
theorem dX5_takeAddend_60 : decode cX5_takeAddend 60 = .ok (.getfield 26, 3) := by decide +kernel
theorem dX5_takeAddend_63 : decode cX5_takeAddend 63 = .ok (.iconst 1, 1) := by decide +kernel
theorem dX5_takeAddend_64 : decode cX5_takeAddend 64 = .ok (.iadd, 1) := by decide +kernel
theorem dX5_takeAddend_65 : decode cX5_takeAddend 65 = .ok (.putfield 26, 3) := by decide +kernel
theorem dX5_takeAddend_68 : decode cX5_takeAddend 68 = .ok (.iconst 1, 1) := by decide +kernel
theorem dX5_takeAddend_69 : decode cX5_takeAddend 69 = .ok (.ireturn, 1) := by decide +kernel
theorem dX5_takeGoal_0 : decode cX5_takeGoal 0 = .ok (.aload_n 0, 1) := by decide +kernel
theorem dX5_takeGoal_1 : decode cX5_takeGoal 1 = .ok (.bipush 57, 2) := by decide +kernel
theorem dX5_takeGoal_3 : decode cX5_takeGoal 3 = .ok (.invokevirtual 95, 3) := by decide +kernel
theorem dX5_takeGoal_6 : decode cX5_takeGoal 6 = .ok (.ifCond .ne 5, 3) := by decide +kernel
theorem dX5_takeGoal_9 : decode cX5_takeGoal 9 = .ok (.iconst 0, 1) := by decide +kernel
theorem dX5_takeGoal_10 : decode cX5_takeGoal 10 = .ok (.ireturn, 1) := by decide +kernel
theorem dX5_takeGoal_11 : decode cX5_takeGoal 11 = .ok (.aload_n 0, 1) := by decide +kernel
theorem dX5_takeGoal_12 : decode cX5_takeGoal 12 = .ok (.aload_n 0, 1) := by decide +kernel
theorem dX5_takeGoal_13 : decode cX5_takeGoal 13 = .ok (.invokevirtual 83, 3) := by decide +kernel
theorem dX5_takeGoal_16 : decode cX5_takeGoal 16 = .ok (.bipush 48, 2) := by decide +kernel
theorem dX5_takeGoal_18 : decode cX5_takeGoal 18 = .ok (.isub, 1) := by decide +kernel
theorem dX5_takeGoal_19 : decode cX5_takeGoal 19 = .ok (.putfield 46, 3) := by decide +kernel
theorem dX5_takeGoal_22 : decode cX5_takeGoal 22 = .ok (.aload_n 0, 1) := by decide +kernel
theorem dX5_takeGoal_23 : decode cX5_takeGoal 23 = .ok (.dup, 1) := by decide +kernel
theorem dX5_takeGoal_24 : decode cX5_takeGoal 24 = .ok (.getfield 26, 3) := by decide +kernel
theorem dX5_takeGoal_27 : decode cX5_takeGoal 27 = .ok (.iconst 1, 1) := by decide +kernel
theorem dX5_takeGoal_28 : decode cX5_takeGoal 28 = .ok (.iadd, 1) := by decide +kernel
theorem dX5_takeGoal_29 : decode cX5_takeGoal 29 = .ok (.putfield 26, 3) := by decide +kernel
theorem dX5_takeGoal_32 : decode cX5_takeGoal 32 = .ok (.aload_n 0, 1) := by decide +kernel
theorem dX5_takeGoal_33 : decode cX5_takeGoal 33 = .ok (.getfield 46, 3) := by decide +kernel
theorem dX5_takeGoal_36 : decode cX5_takeGoal 36 = .ok (.iconst 1, 1) := by decide +kernel
theorem dX5_takeGoal_37 : decode cX5_takeGoal 37 = .ok (.if_icmp .ne 36, 3) := by decide +kernel
theorem dX5_takeGoal_40 : decode cX5_takeGoal 40 = .ok (.aload_n 0, 1) := by decide +kernel
theorem dX5_takeGoal_41 : decode cX5_takeGoal 41 = .ok (.bipush 50, 2) := by decide +kernel
theorem dX5_takeGoal_43 : decode cX5_takeGoal 43 = .ok (.invokevirtual 95, 3) := by decide +kernel
theorem dX5_takeGoal_46 : decode cX5_takeGoal 46 = .ok (.ifCond .eq 27, 3) := by decide +kernel
theorem dX5_takeGoal_49 : decode cX5_takeGoal 49 = .ok (.aload_n 0, 1) := by decide +kernel
theorem dX5_takeGoal_50 : decode cX5_takeGoal 50 = .ok (.bipush 10, 2) := by decide +kernel
theorem dX5_takeGoal_52 : decode cX5_takeGoal 52 = .ok (.aload_n 0, 1) := by decide +kernel
theorem dX5_takeGoal_53 : decode cX5_takeGoal 53 = .ok (.invokevirtual 83, 3) := by decide +kernel
theorem dX5_takeGoal_56 : decode cX5_takeGoal 56 = .ok (.iadd, 1) := by decide +kernel
theorem dX5_takeGoal_57 : decode cX5_takeGoal 57 = .ok (.bipush 48, 2) := by decide +kernel
theorem dX5_takeGoal_59 : decode cX5_takeGoal 59 = .ok (.isub, 1) := by decide +kernel
theorem dX5_takeGoal_60 : decode cX5_takeGoal 60 = .ok (.putfield 46, 3) := by decide +kernel
theorem dX5_takeGoal_63 : decode cX5_takeGoal 63 = .ok (.aload_n 0, 1) := by decide +kernel
theorem dX5_takeGoal_64 : decode cX5_takeGoal 64 = .ok (.dup, 1) := by decide +kernel
theorem dX5_takeGoal_65 : decode cX5_takeGoal 65 = .ok (.getfield 26, 3) := by decide +kernel
theorem dX5_takeGoal_68 : decode cX5_takeGoal 68 = .ok (.iconst 1, 1) := by decide +kernel
theorem dX5_takeGoal_69 : decode cX5_takeGoal 69 = .ok (.iadd, 1) := by decide +kernel
theorem dX5_takeGoal_70 : decode cX5_takeGoal 70 = .ok (.putfield 26, 3) := by decide +kernel
theorem dX5_takeGoal_73 : decode cX5_takeGoal 73 = .ok (.iconst 1, 1) := by decide +kernel
theorem dX5_takeGoal_74 : decode cX5_takeGoal 74 = .ok (.ireturn, 1) := by decide +kernel
theorem dX5_take_0 : decode cX5_take 0 = .ok (.aload_n 0, 1) := by decide +kernel
theorem dX5_take_1 : decode cX5_take 1 = .ok (.invokevirtual 83, 3) := by decide +kernel
theorem dX5_take_4 : decode cX5_take 4 = .ok (.iload_n 1, 1) := by decide +kernel
theorem dX5_take_5 : decode cX5_take 5 = .ok (.if_icmp .eq 5, 3) := by decide +kernel
theorem dX5_take_8 : decode cX5_take 8 = .ok (.iconst 0, 1) := by decide +kernel
theorem dX5_take_9 : decode cX5_take 9 = .ok (.ireturn, 1) := by decide +kernel
theorem dX5_take_10 : decode cX5_take 10 = .ok (.aload_n 0, 1) := by decide +kernel
theorem dX5_take_11 : decode cX5_take 11 = .ok (.dup, 1) := by decide +kernel
theorem dX5_take_12 : decode cX5_take 12 = .ok (.getfield 26, 3) := by decide +kernel
theorem dX5_take_15 : decode cX5_take 15 = .ok (.iconst 1, 1) := by decide +kernel
theorem dX5_take_16 : decode cX5_take 16 = .ok (.iadd, 1) := by decide +kernel
theorem dX5_take_17 : decode cX5_take 17 = .ok (.putfield 26, 3) := by decide +kernel
theorem dX5_take_20 : decode cX5_take 20 = .ok (.iconst 1, 1) := by decide +kernel
theorem dX5_take_21 : decode cX5_take 21 = .ok (.ireturn, 1) := by decide +kernel
theorem dX5_isDigitTo_0 : decode cX5_isDigitTo 0 = .ok (.aload_n 0, 1) := by decide +kernel
theorem dX5_isDigitTo_1 : decode cX5_isDigitTo 1 = .ok (.invokevirtual 83, 3) := by decide +kernel
theorem dX5_isDigitTo_4 : decode cX5_isDigitTo 4 = .ok (.bipush 48, 2) := by decide +kernel
theorem dX5_isDigitTo_6 : decode cX5_isDigitTo 6 = .ok (.if_icmp .lt 15, 3) := by decide +kernel
theorem dX5_isDigitTo_9 : decode cX5_isDigitTo 9 = .ok (.aload_n 0, 1) := by decide +kernel
theorem dX5_isDigitTo_10 : decode cX5_isDigitTo 10 = .ok (.invokevirtual 83, 3) := by decide +kernel
theorem dX5_isDigitTo_13 : decode cX5_isDigitTo 13 = .ok (.iload_n 1, 1) := by decide +kernel
theorem dX5_isDigitTo_14 : decode cX5_isDigitTo 14 = .ok (.if_icmp .gt 7, 3) := by decide +kernel
theorem dX5_isDigitTo_17 : decode cX5_isDigitTo 17 = .ok (.iconst 1, 1) := by decide +kernel
theorem dX5_isDigitTo_18 : decode cX5_isDigitTo 18 = .ok (.goto 4, 3) := by decide +kernel
theorem dX5_isDigitTo_21 : decode cX5_isDigitTo 21 = .ok (.iconst 0, 1) := by decide +kernel
theorem dX5_isDigitTo_22 : decode cX5_isDigitTo 22 = .ok (.ireturn, 1) := by decide +kernel
theorem dX5_next_0 : decode cX5_next 0 = .ok (.aload_n 0, 1) := by decide +kernel
theorem dX5_next_1 : decode cX5_next 1 = .ok (.getfield 26, 3) := by decide +kernel
theorem dX5_next_4 : decode cX5_next 4 = .ok (.aload_n 0, 1) := by decide +kernel
theorem dX5_next_5 : decode cX5_next 5 = .ok (.getfield 22, 3) := by decide +kernel
theorem dX5_next_8 : decode cX5_next 8 = .ok (.if_icmp .ge 15, 3) := by decide +kernel
theorem dX5_next_11 : decode cX5_next 11 = .ok (.aload_n 0, 1) := by decide +kernel
theorem dX5_next_12 : decode cX5_next 12 = .ok (.getfield 9, 3) := by decide +kernel
theorem dX5_next_15 : decode cX5_next 15 = .ok (.aload_n 0, 1) := by decide +kernel
theorem dX5_next_16 : decode cX5_next 16 = .ok (.getfield 26, 3) := by decide +kernel
theorem dX5_next_19 : decode cX5_next 19 = .ok (.caload, 1) := by decide +kernel
theorem dX5_next_20 : decode cX5_next 20 = .ok (.goto 4, 3) := by decide +kernel
theorem dX5_next_23 : decode cX5_next 23 = .ok (.iconst 0, 1) := by decide +kernel
theorem dX5_next_24 : decode cX5_next 24 = .ok (.ireturn, 1) := by decide +kernel
theorem dX6_init_0 : decode cX6_init 0 = .ok (.aload_n 0, 1) := by decide +kernel
theorem dX6_init_1 : decode cX6_init 1 = .ok (.invokespecial 3, 3) := by decide +kernel
theorem dX6_init_4 : decode cX6_init 4 = .ok (.aload_n 0, 1) := by decide +kernel
theorem dX6_init_5 : decode cX6_init 5 = .ok (.new 9, 3) := by decide +kernel
theorem dX6_init_8 : decode cX6_init 8 = .ok (.dup, 1) := by decide +kernel
theorem dX6_init_9 : decode cX6_init 9 = .ok (.invokespecial 11, 3) := by decide +kernel
theorem dX6_init_12 : decode cX6_init 12 = .ok (.putfield 12, 3) := by decide +kernel
theorem dX6_init_15 : decode cX6_init 15 = .ok (.aload_n 0, 1) := by decide +kernel
theorem dX6_init_16 : decode cX6_init 16 = .ok (.new 16, 3) := by decide +kernel
theorem dX6_init_19 : decode cX6_init 19 = .ok (.dup, 1) := by decide +kernel
theorem dX6_init_20 : decode cX6_init 20 = .ok (.invokespecial 18, 3) := by decide +kernel
theorem dX6_init_23 : decode cX6_init 23 = .ok (.putfield 19, 3) := by decide +kernel
theorem dX6_init_26 : decode cX6_init 26 = .ok (.aload_n 0, 1) := by decide +kernel
theorem dX6_init_27 : decode cX6_init 27 = .ok (.new 23, 3) := by decide +kernel
theorem dX6_init_30 : decode cX6_init 30 = .ok (.dup, 1) := by decide +kernel
theorem dX6_init_31 : decode cX6_init 31 = .ok (.aload_n 0, 1) := by decide +kernel
theorem dX6_init_32 : decode cX6_init 32 = .ok (.getfield 12, 3) := by decide +kernel
theorem dX6_init_35 : decode cX6_init 35 = .ok (.invokespecial 25, 3) := by decide +kernel
theorem dX6_init_38 : decode cX6_init 38 = .ok (.putfield 28, 3) := by decide +kernel
theorem dX6_init_41 : decode cX6_init 41 = .ok (.aload_n 0, 1) := by decide +kernel
theorem dX6_init_42 : decode cX6_init 42 = .ok (.new 32, 3) := by decide +kernel
theorem dX6_init_45 : decode cX6_init 45 = .ok (.dup, 1) := by decide +kernel
theorem dX6_init_46 : decode cX6_init 46 = .ok (.aload_n 0, 1) := by decide +kernel
theorem dX6_init_47 : decode cX6_init 47 = .ok (.getfield 12, 3) := by decide +kernel
theorem dX6_init_50 : decode cX6_init 50 = .ok (.aload_n 0, 1) := by decide +kernel
theorem dX6_init_51 : decode cX6_init 51 = .ok (.getfield 19, 3) := by decide +kernel
theorem dX6_init_54 : decode cX6_init 54 = .ok (.aload_n 0, 1) := by decide +kernel
theorem dX6_init_55 : decode cX6_init 55 = .ok (.getfield 28, 3) := by decide +kernel
theorem dX6_init_58 : decode cX6_init 58 = .ok (.invokespecial 34, 3) := by decide +kernel
theorem dX6_init_61 : decode cX6_init 61 = .ok (.putfield 37, 3) := by decide +kernel
theorem dX6_init_64 : decode cX6_init 64 = .ok (.aload_n 0, 1) := by decide +kernel
theorem dX6_init_65 : decode cX6_init 65 = .ok (.new 41, 3) := by decide +kernel
theorem dX6_init_68 : decode cX6_init 68 = .ok (.dup, 1) := by decide +kernel
theorem dX6_init_69 : decode cX6_init 69 = .ok (.invokespecial 43, 3) := by decide +kernel
theorem dX6_init_72 : decode cX6_init 72 = .ok (.putfield 44, 3) := by decide +kernel
theorem dX6_init_75 : decode cX6_init 75 = .ok (.aload_n 0, 1) := by decide +kernel
theorem dX6_init_76 : decode cX6_init 76 = .ok (.new 48, 3) := by decide +kernel
theorem dX6_init_79 : decode cX6_init 79 = .ok (.dup, 1) := by decide +kernel
theorem dX6_init_80 : decode cX6_init 80 = .ok (.invokespecial 50, 3) := by decide +kernel
theorem dX6_init_83 : decode cX6_init 83 = .ok (.putfield 51, 3) := by decide +kernel
theorem dX6_init_86 : decode cX6_init 86 = .ok (.return_, 1) := by decide +kernel
theorem dX6_load_0 : decode cX6_load 0 = .ok (.aload_n 0, 1) := by decide +kernel
theorem dX6_load_1 : decode cX6_load 1 = .ok (.getfield 51, 3) := by decide +kernel
theorem dX6_load_4 : decode cX6_load 4 = .ok (.getfield 55, 3) := by decide +kernel
theorem dX6_load_7 : decode cX6_load 7 = .ok (.astore_n 1, 1) := by decide +kernel
theorem dX6_load_8 : decode cX6_load 8 = .ok (.aload_n 0, 1) := by decide +kernel
theorem dX6_load_9 : decode cX6_load 9 = .ok (.getfield 51, 3) := by decide +kernel
theorem dX6_load_12 : decode cX6_load 12 = .ok (.invokevirtual 58, 3) := by decide +kernel
theorem dX6_load_15 : decode cX6_load 15 = .ok (.ifCond .eq 14, 3) := by decide +kernel
theorem dX6_load_18 : decode cX6_load 18 = .ok (.aload_n 1, 1) := by decide +kernel
theorem dX6_load_19 : decode cX6_load 19 = .ok (.invokevirtual 62, 3) := by decide +kernel
theorem dX6_load_22 : decode cX6_load 22 = .ok (.aload_n 1, 1) := by decide +kernel
theorem dX6_load_23 : decode cX6_load 23 = .ok (.getfield 66, 3) := by decide +kernel
theorem dX6_load_26 : decode cX6_load 26 = .ok (.if_icmp .le 13, 3) := by decide +kernel
theorem dX6_load_29 : decode cX6_load 29 = .ok (.new 70, 3) := by decide +kernel
theorem dX6_load_32 : decode cX6_load 32 = .ok (.dup, 1) := by decide +kernel
theorem dX6_load_33 : decode cX6_load 33 = .ok (.ldc 72, 2) := by decide +kernel
theorem dX6_load_35 : decode cX6_load 35 = .ok (.invokespecial 74, 3) := by decide +kernel
theorem dX6_load_38 : decode cX6_load 38 = .ok (.athrow, 1) := by decide +kernel
theorem dX6_load_39 : decode cX6_load 39 = .ok (.aload_n 0, 1) := by decide +kernel
theorem dX6_load_40 : decode cX6_load 40 = .ok (.invokevirtual 77, 3) := by decide +kernel
theorem dX6_load_43 : decode cX6_load 43 = .ok (.aload_n 0, 1) := by decide +kernel
theorem dX6_load_44 : decode cX6_load 44 = .ok (.getfield 12, 3) := by decide +kernel
theorem dX6_load_47 : decode cX6_load 47 = .ok (.aload_n 1, 1) := by decide +kernel
theorem dX6_load_48 : decode cX6_load 48 = .ok (.invokevirtual 80, 3) := by decide +kernel
theorem dX6_load_51 : decode cX6_load 51 = .ok (.aload_n 0, 1) := by decide +kernel
theorem dX6_load_52 : decode cX6_load 52 = .ok (.getfield 51, 3) := by decide +kernel
theorem dX6_load_55 : decode cX6_load 55 = .ok (.invokevirtual 83, 3) := by decide +kernel
theorem dX6_load_58 : decode cX6_load 58 = .ok (.aload_n 0, 1) := by decide +kernel
theorem dX6_load_59 : decode cX6_load 59 = .ok (.invokevirtual 86, 3) := by decide +kernel
theorem dX6_load_62 : decode cX6_load 62 = .ok (.aload_n 0, 1) := by decide +kernel
theorem dX6_load_63 : decode cX6_load 63 = .ok (.getfield 12, 3) := by decide +kernel
theorem dX6_load_66 : decode cX6_load 66 = .ok (.getfield 66, 3) := by decide +kernel
theorem dX6_load_69 : decode cX6_load 69 = .ok (.ireturn, 1) := by decide +kernel
theorem dX6_add_0 : decode cX6_add 0 = .ok (.aload_n 0, 1) := by decide +kernel
theorem dX6_add_1 : decode cX6_add 1 = .ok (.getfield 51, 3) := by decide +kernel
theorem dX6_add_4 : decode cX6_add 4 = .ok (.getfield 55, 3) := by decide +kernel
theorem dX6_add_7 : decode cX6_add 7 = .ok (.astore_n 1, 1) := by decide +kernel
theorem dX6_add_8 : decode cX6_add 8 = .ok (.aload_n 0, 1) := by decide +kernel
theorem dX6_add_9 : decode cX6_add 9 = .ok (.getfield 51, 3) := by decide +kernel
theorem dX6_add_12 : decode cX6_add 12 = .ok (.invokevirtual 58, 3) := by decide +kernel
theorem dX6_add_15 : decode cX6_add 15 = .ok (.ifCond .eq 11, 3) := by decide +kernel
theorem dX6_add_18 : decode cX6_add 18 = .ok (.aload_n 0, 1) := by decide +kernel
theorem dX6_add_19 : decode cX6_add 19 = .ok (.aload_n 1, 1) := by decide +kernel
theorem dX6_add_20 : decode cX6_add 20 = .ok (.invokevirtual 89, 3) := by decide +kernel
theorem dX6_add_23 : decode cX6_add 23 = .ok (.ifCond .ne 13, 3) := by decide +kernel
theorem dX6_add_26 : decode cX6_add 26 = .ok (.new 70, 3) := by decide +kernel
theorem dX6_add_29 : decode cX6_add 29 = .ok (.dup, 1) := by decide +kernel
theorem dX6_add_30 : decode cX6_add 30 = .ok (.ldc 93, 2) := by decide +kernel
theorem dX6_add_32 : decode cX6_add 32 = .ok (.invokespecial 74, 3) := by decide +kernel
theorem dX6_add_35 : decode cX6_add 35 = .ok (.athrow, 1) := by decide +kernel
theorem dX6_add_36 : decode cX6_add 36 = .ok (.aload_n 0, 1) := by decide +kernel
theorem dX6_add_37 : decode cX6_add 37 = .ok (.invokevirtual 77, 3) := by decide +kernel
theorem dX6_add_40 : decode cX6_add 40 = .ok (.aload_n 0, 1) := by decide +kernel
theorem dX6_add_41 : decode cX6_add 41 = .ok (.getfield 12, 3) := by decide +kernel
theorem dX6_add_44 : decode cX6_add 44 = .ok (.aload_n 1, 1) := by decide +kernel
theorem dX6_add_45 : decode cX6_add 45 = .ok (.invokevirtual 95, 3) := by decide +kernel
theorem dX6_add_48 : decode cX6_add 48 = .ok (.aload_n 0, 1) := by decide +kernel
theorem dX6_add_49 : decode cX6_add 49 = .ok (.getfield 51, 3) := by decide +kernel
theorem dX6_add_52 : decode cX6_add 52 = .ok (.invokevirtual 83, 3) := by decide +kernel
theorem dX6_add_55 : decode cX6_add 55 = .ok (.aload_n 0, 1) := by decide +kernel
theorem dX6_add_56 : decode cX6_add 56 = .ok (.invokevirtual 86, 3) := by decide +kernel
theorem dX6_add_59 : decode cX6_add 59 = .ok (.aload_n 0, 1) := by decide +kernel
theorem dX6_add_60 : decode cX6_add 60 = .ok (.getfield 12, 3) := by decide +kernel
theorem dX6_add_63 : decode cX6_add 63 = .ok (.getfield 66, 3) := by decide +kernel
theorem dX6_add_66 : decode cX6_add 66 = .ok (.ireturn, 1) := by decide +kernel
theorem dX6_removeLast_0 : decode cX6_removeLast 0 = .ok (.aload_n 0, 1) := by decide +kernel
theorem dX6_removeLast_1 : decode cX6_removeLast 1 = .ok (.getfield 12, 3) := by decide +kernel
theorem dX6_removeLast_4 : decode cX6_removeLast 4 = .ok (.getfield 66, 3) := by decide +kernel
theorem dX6_removeLast_7 : decode cX6_removeLast 7 = .ok (.ifCond .ne 13, 3) := by decide +kernel
theorem dX6_removeLast_10 : decode cX6_removeLast 10 = .ok (.new 98, 3) := by decide +kernel
theorem dX6_removeLast_13 : decode cX6_removeLast 13 = .ok (.dup, 1) := by decide +kernel
theorem dX6_removeLast_14 : decode cX6_removeLast 14 = .ok (.ldc 100, 2) := by decide +kernel
theorem dX6_removeLast_16 : decode cX6_removeLast 16 = .ok (.invokespecial 102, 3) := by decide +kernel
theorem dX6_removeLast_19 : decode cX6_removeLast 19 = .ok (.athrow, 1) := by decide +kernel
theorem dX6_removeLast_20 : decode cX6_removeLast 20 = .ok (.aload_n 0, 1) := by decide +kernel
theorem dX6_removeLast_21 : decode cX6_removeLast 21 = .ok (.invokevirtual 77, 3) := by decide +kernel
theorem dX6_removeLast_24 : decode cX6_removeLast 24 = .ok (.aload_n 0, 1) := by decide +kernel
theorem dX6_removeLast_25 : decode cX6_removeLast 25 = .ok (.getfield 12, 3) := by decide +kernel
theorem dX6_removeLast_28 : decode cX6_removeLast 28 = .ok (.invokevirtual 103, 3) := by decide +kernel
theorem dX6_removeLast_31 : decode cX6_removeLast 31 = .ok (.aload_n 0, 1) := by decide +kernel
theorem dX6_removeLast_32 : decode cX6_removeLast 32 = .ok (.invokevirtual 86, 3) := by decide +kernel
theorem dX6_removeLast_35 : decode cX6_removeLast 35 = .ok (.aload_n 0, 1) := by decide +kernel
theorem dX6_removeLast_36 : decode cX6_removeLast 36 = .ok (.getfield 12, 3) := by decide +kernel
theorem dX6_removeLast_39 : decode cX6_removeLast 39 = .ok (.getfield 66, 3) := by decide +kernel
theorem dX6_removeLast_42 : decode cX6_removeLast 42 = .ok (.ireturn, 1) := by decide +kernel
theorem dX6_statements_0 : decode cX6_statements 0 = .ok (.aload_n 0, 1) := by decide +kernel
theorem dX6_statements_1 : decode cX6_statements 1 = .ok (.getfield 12, 3) := by decide +kernel
theorem dX6_statements_4 : decode cX6_statements 4 = .ok (.getfield 66, 3) := by decide +kernel
theorem dX6_statements_7 : decode cX6_statements 7 = .ok (.ireturn, 1) := by decide +kernel
theorem dX6_kind_0 : decode cX6_kind 0 = .ok (.iload_n 1, 1) := by decide +kernel
theorem dX6_kind_1 : decode cX6_kind 1 = .ok (.aload_n 0, 1) := by decide +kernel
theorem dX6_kind_2 : decode cX6_kind 2 = .ok (.getfield 12, 3) := by decide +kernel
theorem dX6_kind_5 : decode cX6_kind 5 = .ok (.getfield 66, 3) := by decide +kernel
theorem dX6_kind_8 : decode cX6_kind 8 = .ok (.invokestatic 106, 3) := by decide +kernel
theorem dX6_kind_11 : decode cX6_kind 11 = .ok (.aload_n 0, 1) := by decide +kernel
theorem dX6_kind_12 : decode cX6_kind 12 = .ok (.getfield 12, 3) := by decide +kernel
theorem dX6_kind_15 : decode cX6_kind 15 = .ok (.getfield 110, 3) := by decide +kernel
theorem dX6_kind_18 : decode cX6_kind 18 = .ok (.iload_n 1, 1) := by decide +kernel
theorem dX6_kind_19 : decode cX6_kind 19 = .ok (.iaload, 1) := by decide +kernel
theorem dX6_kind_20 : decode cX6_kind 20 = .ok (.ireturn, 1) := by decide +kernel
theorem dX6_target_0 : decode cX6_target 0 = .ok (.iload_n 1, 1) := by decide +kernel
theorem dX6_target_1 : decode cX6_target 1 = .ok (.aload_n 0, 1) := by decide +kernel
theorem dX6_target_2 : decode cX6_target 2 = .ok (.getfield 12, 3) := by decide +kernel
theorem dX6_target_5 : decode cX6_target 5 = .ok (.getfield 66, 3) := by decide +kernel
theorem dX6_target_8 : decode cX6_target 8 = .ok (.invokestatic 106, 3) := by decide +kernel
theorem dX6_target_11 : decode cX6_target 11 = .ok (.aload_n 0, 1) := by decide +kernel
theorem dX6_target_12 : decode cX6_target 12 = .ok (.getfield 12, 3) := by decide +kernel
theorem dX6_target_15 : decode cX6_target 15 = .ok (.getfield 114, 3) := by decide +kernel
theorem dX6_target_18 : decode cX6_target 18 = .ok (.iload_n 1, 1) := by decide +kernel
theorem dX6_target_19 : decode cX6_target 19 = .ok (.iaload, 1) := by decide +kernel
theorem dX6_target_20 : decode cX6_target 20 = .ok (.ireturn, 1) := by decide +kernel
theorem dX6_run_0 : decode cX6_run 0 = .ok (.iload_n 1, 1) := by decide +kernel
theorem dX6_run_1 : decode cX6_run 1 = .ok (.iload_n 2, 1) := by decide +kernel
theorem dX6_run_2 : decode cX6_run 2 = .ok (.iload_n 3, 1) := by decide +kernel
theorem dX6_run_3 : decode cX6_run 3 = .ok (.invokestatic 117, 3) := by decide +kernel
theorem dX6_run_6 : decode cX6_run 6 = .ok (.aload_n 0, 1) := by decide +kernel
theorem dX6_run_7 : decode cX6_run 7 = .ok (.getfield 28, 3) := by decide +kernel
theorem dX6_run_10 : decode cX6_run 10 = .ok (.iload_n 1, 1) := by decide +kernel
theorem dX6_run_11 : decode cX6_run 11 = .ok (.iload_n 2, 1) := by decide +kernel
theorem dX6_run_12 : decode cX6_run 12 = .ok (.iload_n 3, 1) := by decide +kernel
theorem dX6_run_13 : decode cX6_run 13 = .ok (.invokestatic 121, 3) := by decide +kernel
theorem dX6_run_16 : decode cX6_run 16 = .ok (.invokevirtual 125, 3) := by decide +kernel
theorem dX6_run_19 : decode cX6_run 19 = .ok (.ireturn, 1) := by decide +kernel
theorem dX6_steps_0 : decode cX6_steps 0 = .ok (.iload_n 1, 1) := by decide +kernel
theorem dX6_steps_1 : decode cX6_steps 1 = .ok (.iload_n 2, 1) := by decide +kernel
theorem dX6_steps_2 : decode cX6_steps 2 = .ok (.iload_n 3, 1) := by decide +kernel
theorem dX6_steps_3 : decode cX6_steps 3 = .ok (.invokestatic 117, 3) := by decide +kernel
theorem dX6_steps_6 : decode cX6_steps 6 = .ok (.aload_n 0, 1) := by decide +kernel
theorem dX6_steps_7 : decode cX6_steps 7 = .ok (.getfield 28, 3) := by decide +kernel
theorem dX6_steps_10 : decode cX6_steps 10 = .ok (.iload_n 1, 1) := by decide +kernel
theorem dX6_steps_11 : decode cX6_steps 11 = .ok (.iload_n 2, 1) := by decide +kernel
theorem dX6_steps_12 : decode cX6_steps 12 = .ok (.iload_n 3, 1) := by decide +kernel
theorem dX6_steps_13 : decode cX6_steps 13 = .ok (.invokestatic 121, 3) := by decide +kernel
theorem dX6_steps_16 : decode cX6_steps 16 = .ok (.invokevirtual 129, 3) := by decide +kernel
theorem dX6_steps_19 : decode cX6_steps 19 = .ok (.ireturn, 1) := by decide +kernel
theorem dX6_demand_0 : decode cX6_demand 0 = .ok (.iload_n 1, 1) := by decide +kernel
theorem dX6_demand_1 : decode cX6_demand 1 = .ok (.aload_n 0, 1) := by decide +kernel
theorem dX6_demand_2 : decode cX6_demand 2 = .ok (.getfield 12, 3) := by decide +kernel
theorem dX6_demand_5 : decode cX6_demand 5 = .ok (.getfield 66, 3) := by decide +kernel
theorem dX6_demand_8 : decode cX6_demand 8 = .ok (.iconst 1, 1) := by decide +kernel
theorem dX6_demand_9 : decode cX6_demand 9 = .ok (.iadd, 1) := by decide +kernel
theorem dX6_demand_10 : decode cX6_demand 10 = .ok (.invokestatic 106, 3) := by decide +kernel
theorem dX6_demand_13 : decode cX6_demand 13 = .ok (.iconst 0, 1) := by decide +kernel
theorem dX6_demand_14 : decode cX6_demand 14 = .ok (.istore_n 2, 1) := by decide +kernel
theorem dX6_demand_15 : decode cX6_demand 15 = .ok (.iconst 0, 1) := by decide +kernel
theorem dX6_demand_16 : decode cX6_demand 16 = .ok (.istore_n 3, 1) := by decide +kernel
theorem dX6_demand_17 : decode cX6_demand 17 = .ok (.iload_n 3, 1) := by decide +kernel
theorem dX6_demand_18 : decode cX6_demand 18 = .ok (.sipush 512, 3) := by decide +kernel
theorem dX6_demand_21 : decode cX6_demand 21 = .ok (.if_icmp .ge 27, 3) := by decide +kernel
theorem dX6_demand_24 : decode cX6_demand 24 = .ok (.aload_n 0, 1) := by decide +kernel
theorem dX6_demand_25 : decode cX6_demand 25 = .ok (.getfield 28, 3) := by decide +kernel
theorem dX6_demand_28 : decode cX6_demand 28 = .ok (.iload_n 1, 1) := by decide +kernel
theorem dX6_demand_29 : decode cX6_demand 29 = .ok (.iload_n 3, 1) := by decide +kernel
theorem dX6_demand_30 : decode cX6_demand 30 = .ok (.invokestatic 132, 3) := by decide +kernel
theorem dX6_demand_33 : decode cX6_demand 33 = .ok (.invokevirtual 136, 3) := by decide +kernel
theorem dX6_demand_36 : decode cX6_demand 36 = .ok (.ifCond .eq 6, 3) := by decide +kernel
theorem dX6_demand_39 : decode cX6_demand 39 = .ok (.iinc 2 1, 3) := by decide +kernel
theorem dX6_demand_42 : decode cX6_demand 42 = .ok (.iinc 3 1, 3) := by decide +kernel
theorem dX6_demand_45 : decode cX6_demand 45 = .ok (.goto (-28), 3) := by decide +kernel
theorem dX6_demand_48 : decode cX6_demand 48 = .ok (.iload_n 2, 1) := by decide +kernel
theorem dX6_demand_49 : decode cX6_demand 49 = .ok (.ireturn, 1) := by decide +kernel
theorem dX6_demands_0 : decode cX6_demands 0 = .ok (.iload_n 1, 1) := by decide +kernel
theorem dX6_demands_1 : decode cX6_demands 1 = .ok (.aload_n 0, 1) := by decide +kernel
theorem dX6_demands_2 : decode cX6_demands 2 = .ok (.getfield 12, 3) := by decide +kernel
theorem dX6_demands_5 : decode cX6_demands 5 = .ok (.getfield 66, 3) := by decide +kernel
theorem dX6_demands_8 : decode cX6_demands 8 = .ok (.iconst 1, 1) := by decide +kernel
theorem dX6_demands_9 : decode cX6_demands 9 = .ok (.iadd, 1) := by decide +kernel
theorem dX6_demands_10 : decode cX6_demands 10 = .ok (.invokestatic 106, 3) := by decide +kernel
theorem dX6_demands_13 : decode cX6_demands 13 = .ok (.iload_n 2, 1) := by decide +kernel
theorem dX6_demands_14 : decode cX6_demands 14 = .ok (.iload_n 3, 1) := by decide +kernel
theorem dX6_demands_15 : decode cX6_demands 15 = .ok (.iload 4, 2) := by decide +kernel
theorem dX6_demands_17 : decode cX6_demands 17 = .ok (.invokestatic 117, 3) := by decide +kernel
theorem dX6_demands_20 : decode cX6_demands 20 = .ok (.aload_n 0, 1) := by decide +kernel
theorem dX6_demands_21 : decode cX6_demands 21 = .ok (.getfield 28, 3) := by decide +kernel
theorem dX6_demands_24 : decode cX6_demands 24 = .ok (.iload_n 1, 1) := by decide +kernel
theorem dX6_demands_25 : decode cX6_demands 25 = .ok (.iload_n 2, 1) := by decide +kernel
theorem dX6_demands_26 : decode cX6_demands 26 = .ok (.iload_n 3, 1) := by decide +kernel
theorem dX6_demands_27 : decode cX6_demands 27 = .ok (.iload 4, 2) := by decide +kernel
theorem dX6_demands_29 : decode cX6_demands 29 = .ok (.invokestatic 121, 3) := by decide +kernel
theorem dX6_demands_32 : decode cX6_demands 32 = .ok (.invokestatic 132, 3) := by decide +kernel
theorem dX6_demands_35 : decode cX6_demands 35 = .ok (.invokevirtual 136, 3) := by decide +kernel
theorem dX6_demands_38 : decode cX6_demands 38 = .ok (.ireturn, 1) := by decide +kernel
theorem dX6_assume_0 : decode cX6_assume 0 = .ok (.iload_n 1, 1) := by decide +kernel
theorem dX6_assume_1 : decode cX6_assume 1 = .ok (.iconst 3, 1) := by decide +kernel
theorem dX6_assume_2 : decode cX6_assume 2 = .ok (.invokestatic 106, 3) := by decide +kernel
theorem dX6_assume_5 : decode cX6_assume 5 = .ok (.iload_n 2, 1) := by decide +kernel
theorem dX6_assume_6 : decode cX6_assume 6 = .ok (.invokestatic 140, 3) := by decide +kernel
theorem dX6_assume_9 : decode cX6_assume 9 = .ok (.ifCond .eq 15, 3) := by decide +kernel
theorem dX6_assume_12 : decode cX6_assume 12 = .ok (.iload_n 3, 1) := by decide +kernel
theorem dX6_assume_13 : decode cX6_assume 13 = .ok (.invokestatic 140, 3) := by decide +kernel
theorem dX6_assume_16 : decode cX6_assume 16 = .ok (.ifCond .eq 8, 3) := by decide +kernel
theorem dX6_assume_19 : decode cX6_assume 19 = .ok (.iload_n 3, 1) := by decide +kernel
theorem dX6_assume_20 : decode cX6_assume 20 = .ok (.iload_n 2, 1) := by decide +kernel
theorem dX6_assume_21 : decode cX6_assume 21 = .ok (.if_icmp .ge 13, 3) := by decide +kernel
theorem dX6_assume_24 : decode cX6_assume 24 = .ok (.new 70, 3) := by decide +kernel
theorem dX6_assume_27 : decode cX6_assume 27 = .ok (.dup, 1) := by decide +kernel
theorem dX6_assume_28 : decode cX6_assume 28 = .ok (.ldc 143, 2) := by decide +kernel
theorem dX6_assume_30 : decode cX6_assume 30 = .ok (.invokespecial 74, 3) := by decide +kernel
theorem dX6_assume_33 : decode cX6_assume 33 = .ok (.athrow, 1) := by decide +kernel
theorem dX6_assume_34 : decode cX6_assume 34 = .ok (.aload_n 0, 1) := by decide +kernel
theorem dX6_assume_35 : decode cX6_assume 35 = .ok (.invokevirtual 77, 3) := by decide +kernel
theorem dX6_assume_38 : decode cX6_assume 38 = .ok (.aload_n 0, 1) := by decide +kernel
theorem dX6_assume_39 : decode cX6_assume 39 = .ok (.getfield 19, 3) := by decide +kernel
theorem dX6_assume_42 : decode cX6_assume 42 = .ok (.iload_n 1, 1) := by decide +kernel
theorem dX6_assume_43 : decode cX6_assume 43 = .ok (.iload_n 2, 1) := by decide +kernel
theorem dX6_assume_44 : decode cX6_assume 44 = .ok (.iload_n 3, 1) := by decide +kernel
theorem dX6_assume_45 : decode cX6_assume 45 = .ok (.invokevirtual 145, 3) := by decide +kernel
theorem dX6_assume_48 : decode cX6_assume 48 = .ok (.aload_n 0, 1) := by decide +kernel
theorem dX6_assume_49 : decode cX6_assume 49 = .ok (.getfield 37, 3) := by decide +kernel
theorem dX6_assume_52 : decode cX6_assume 52 = .ok (.invokevirtual 148, 3) := by decide +kernel
theorem dX6_assume_55 : decode cX6_assume 55 = .ok (.aload_n 0, 1) := by decide +kernel
theorem dX6_assume_56 : decode cX6_assume 56 = .ok (.getfield 19, 3) := by decide +kernel
theorem dX6_assume_59 : decode cX6_assume 59 = .ok (.invokevirtual 151, 3) := by decide +kernel
theorem dX6_assume_62 : decode cX6_assume 62 = .ok (.ireturn, 1) := by decide +kernel
theorem dX6_verdict_0 : decode cX6_verdict 0 = .ok (.iload_n 1, 1) := by decide +kernel
theorem dX6_verdict_1 : decode cX6_verdict 1 = .ok (.aload_n 0, 1) := by decide +kernel
theorem dX6_verdict_2 : decode cX6_verdict 2 = .ok (.getfield 12, 3) := by decide +kernel
theorem dX6_verdict_5 : decode cX6_verdict 5 = .ok (.getfield 66, 3) := by decide +kernel
theorem dX6_verdict_8 : decode cX6_verdict 8 = .ok (.invokestatic 106, 3) := by decide +kernel
theorem dX6_verdict_11 : decode cX6_verdict 11 = .ok (.aload_n 0, 1) := by decide +kernel
theorem dX6_verdict_12 : decode cX6_verdict 12 = .ok (.getfield 12, 3) := by decide +kernel
theorem dX6_verdict_15 : decode cX6_verdict 15 = .ok (.getfield 110, 3) := by decide +kernel
theorem dX6_verdict_18 : decode cX6_verdict 18 = .ok (.iload_n 1, 1) := by decide +kernel
theorem dX6_verdict_19 : decode cX6_verdict 19 = .ok (.iaload, 1) := by decide +kernel
theorem dX6_verdict_20 : decode cX6_verdict 20 = .ok (.iconst 1, 1) := by decide +kernel
theorem dX6_verdict_21 : decode cX6_verdict 21 = .ok (.if_icmp .eq 5, 3) := by decide +kernel
theorem dX6_verdict_24 : decode cX6_verdict 24 = .ok (.iconst (-1), 1) := by decide +kernel
theorem dX6_verdict_25 : decode cX6_verdict 25 = .ok (.ireturn, 1) := by decide +kernel
theorem dX6_verdict_26 : decode cX6_verdict 26 = .ok (.aload_n 0, 1) := by decide +kernel
theorem dX6_verdict_27 : decode cX6_verdict 27 = .ok (.getfield 37, 3) := by decide +kernel
theorem dX6_verdict_30 : decode cX6_verdict 30 = .ok (.invokevirtual 154, 3) := by decide +kernel
theorem dX6_verdict_33 : decode cX6_verdict 33 = .ok (.aload_n 0, 1) := by decide +kernel
theorem dX6_verdict_34 : decode cX6_verdict 34 = .ok (.getfield 37, 3) := by decide +kernel
theorem dX6_verdict_37 : decode cX6_verdict 37 = .ok (.getfield 157, 3) := by decide +kernel
theorem dX6_verdict_40 : decode cX6_verdict 40 = .ok (.iload_n 1, 1) := by decide +kernel
theorem dX6_verdict_41 : decode cX6_verdict 41 = .ok (.iaload, 1) := by decide +kernel
theorem dX6_verdict_42 : decode cX6_verdict 42 = .ok (.iconst (-1), 1) := by decide +kernel
theorem dX6_verdict_43 : decode cX6_verdict 43 = .ok (.if_icmp .eq 5, 3) := by decide +kernel
theorem dX6_verdict_46 : decode cX6_verdict 46 = .ok (.iconst 2, 1) := by decide +kernel
theorem dX6_verdict_47 : decode cX6_verdict 47 = .ok (.ireturn, 1) := by decide +kernel
theorem dX6_verdict_48 : decode cX6_verdict 48 = .ok (.aload_n 0, 1) := by decide +kernel
theorem dX6_verdict_49 : decode cX6_verdict 49 = .ok (.getfield 37, 3) := by decide +kernel
theorem dX6_verdict_52 : decode cX6_verdict 52 = .ok (.iload_n 1, 1) := by decide +kernel
theorem dX6_verdict_53 : decode cX6_verdict 53 = .ok (.invokevirtual 160, 3) := by decide +kernel
theorem dX6_verdict_56 : decode cX6_verdict 56 = .ok (.ifCond .eq 7, 3) := by decide +kernel
theorem dX6_verdict_59 : decode cX6_verdict 59 = .ok (.iconst 1, 1) := by decide +kernel
theorem dX6_verdict_60 : decode cX6_verdict 60 = .ok (.goto 4, 3) := by decide +kernel
theorem dX6_verdict_63 : decode cX6_verdict 63 = .ok (.iconst 0, 1) := by decide +kernel
theorem dX6_verdict_64 : decode cX6_verdict 64 = .ok (.ireturn, 1) := by decide +kernel
theorem dX6_example_0 : decode cX6_example 0 = .ok (.iload_n 1, 1) := by decide +kernel
theorem dX6_example_1 : decode cX6_example 1 = .ok (.aload_n 0, 1) := by decide +kernel
theorem dX6_example_2 : decode cX6_example 2 = .ok (.getfield 12, 3) := by decide +kernel
theorem dX6_example_5 : decode cX6_example 5 = .ok (.getfield 66, 3) := by decide +kernel
theorem dX6_example_8 : decode cX6_example 8 = .ok (.invokestatic 106, 3) := by decide +kernel
theorem dX6_example_11 : decode cX6_example 11 = .ok (.aload_n 0, 1) := by decide +kernel
theorem dX6_example_12 : decode cX6_example 12 = .ok (.getfield 37, 3) := by decide +kernel
theorem dX6_example_15 : decode cX6_example 15 = .ok (.invokevirtual 154, 3) := by decide +kernel
theorem dX6_example_18 : decode cX6_example 18 = .ok (.aload_n 0, 1) := by decide +kernel
theorem dX6_example_19 : decode cX6_example 19 = .ok (.getfield 37, 3) := by decide +kernel
theorem dX6_example_22 : decode cX6_example 22 = .ok (.getfield 157, 3) := by decide +kernel
theorem dX6_example_25 : decode cX6_example 25 = .ok (.iload_n 1, 1) := by decide +kernel
theorem dX6_example_26 : decode cX6_example 26 = .ok (.iaload, 1) := by decide +kernel
theorem dX6_example_27 : decode cX6_example 27 = .ok (.ireturn, 1) := by decide +kernel
theorem dX6_endless_0 : decode cX6_endless 0 = .ok (.aload_n 0, 1) := by decide +kernel
theorem dX6_endless_1 : decode cX6_endless 1 = .ok (.getfield 37, 3) := by decide +kernel
theorem dX6_endless_4 : decode cX6_endless 4 = .ok (.invokevirtual 154, 3) := by decide +kernel
theorem dX6_endless_7 : decode cX6_endless 7 = .ok (.aload_n 0, 1) := by decide +kernel
theorem dX6_endless_8 : decode cX6_endless 8 = .ok (.getfield 37, 3) := by decide +kernel
theorem dX6_endless_11 : decode cX6_endless 11 = .ok (.getfield 163, 3) := by decide +kernel
theorem dX6_endless_14 : decode cX6_endless 14 = .ok (.ireturn, 1) := by decide +kernel
theorem dX6_proof_0 : decode cX6_proof 0 = .ok (.aload_n 0, 1) := by decide +kernel
theorem dX6_proof_1 : decode cX6_proof 1 = .ok (.getfield 37, 3) := by decide +kernel
theorem dX6_proof_4 : decode cX6_proof 4 = .ok (.invokevirtual 154, 3) := by decide +kernel
theorem dX6_proof_7 : decode cX6_proof 7 = .ok (.aload_n 0, 1) := by decide +kernel
theorem dX6_proof_8 : decode cX6_proof 8 = .ok (.getfield 37, 3) := by decide +kernel
theorem dX6_proof_11 : decode cX6_proof 11 = .ok (.getfield 166, 3) := by decide +kernel
theorem dX6_proof_14 : decode cX6_proof 14 = .ok (.ifCond .le 5, 3) := by decide +kernel
theorem dX6_proof_17 : decode cX6_proof 17 = .ok (.iconst 2, 1) := by decide +kernel
theorem dX6_proof_18 : decode cX6_proof 18 = .ok (.ireturn, 1) := by decide +kernel
theorem dX6_proof_19 : decode cX6_proof 19 = .ok (.aload_n 0, 1) := by decide +kernel
theorem dX6_proof_20 : decode cX6_proof 20 = .ok (.getfield 37, 3) := by decide +kernel
theorem dX6_proof_23 : decode cX6_proof 23 = .ok (.getfield 163, 3) := by decide +kernel
theorem dX6_proof_26 : decode cX6_proof 26 = .ok (.ifCond .le 7, 3) := by decide +kernel
theorem dX6_proof_29 : decode cX6_proof 29 = .ok (.iconst 0, 1) := by decide +kernel
theorem dX6_proof_30 : decode cX6_proof 30 = .ok (.goto 4, 3) := by decide +kernel
theorem dX6_proof_33 : decode cX6_proof 33 = .ok (.iconst 1, 1) := by decide +kernel
theorem dX6_proof_34 : decode cX6_proof 34 = .ok (.ireturn, 1) := by decide +kernel
theorem dX6_provedShare_0 : decode cX6_provedShare 0 = .ok (.aload_n 0, 1) := by decide +kernel
theorem dX6_provedShare_1 : decode cX6_provedShare 1 = .ok (.getfield 37, 3) := by decide +kernel
theorem dX6_provedShare_4 : decode cX6_provedShare 4 = .ok (.invokevirtual 154, 3) := by decide +kernel
theorem dX6_provedShare_7 : decode cX6_provedShare 7 = .ok (.aload_n 0, 1) := by decide +kernel
theorem dX6_provedShare_8 : decode cX6_provedShare 8 = .ok (.getfield 37, 3) := by decide +kernel
theorem dX6_provedShare_11 : decode cX6_provedShare 11 = .ok (.getfield 169, 3) := by decide +kernel
theorem dX6_provedShare_14 : decode cX6_provedShare 14 = .ok (.i2d, 1) := by decide +kernel
theorem dX6_provedShare_15 : decode cX6_provedShare 15 = .ok (.aload_n 0, 1) := by decide +kernel
theorem dX6_provedShare_16 : decode cX6_provedShare 16 = .ok (.getfield 19, 3) := by decide +kernel
theorem dX6_provedShare_19 : decode cX6_provedShare 19 = .ok (.invokevirtual 151, 3) := by decide +kernel
theorem dX6_provedShare_22 : decode cX6_provedShare 22 = .ok (.i2d, 1) := by decide +kernel
theorem dX6_provedShare_23 : decode cX6_provedShare 23 = .ok (.ddiv, 1) := by decide +kernel
theorem dX6_provedShare_24 : decode cX6_provedShare 24 = .ok (.dreturn, 1) := by decide +kernel
theorem dX6_least_0 : decode cX6_least 0 = .ok (.iload_n 1, 1) := by decide +kernel
theorem dX6_least_1 : decode cX6_least 1 = .ok (.aload_n 0, 1) := by decide +kernel
theorem dX6_least_2 : decode cX6_least 2 = .ok (.getfield 12, 3) := by decide +kernel
theorem dX6_least_5 : decode cX6_least 5 = .ok (.getfield 66, 3) := by decide +kernel
theorem dX6_least_8 : decode cX6_least 8 = .ok (.iconst 1, 1) := by decide +kernel
theorem dX6_least_9 : decode cX6_least 9 = .ok (.iadd, 1) := by decide +kernel
theorem dX6_least_10 : decode cX6_least 10 = .ok (.invokestatic 106, 3) := by decide +kernel
theorem dX6_least_13 : decode cX6_least 13 = .ok (.iload_n 2, 1) := by decide +kernel
theorem dX6_least_14 : decode cX6_least 14 = .ok (.iconst 3, 1) := by decide +kernel
theorem dX6_least_15 : decode cX6_least 15 = .ok (.invokestatic 106, 3) := by decide +kernel
theorem dX6_least_18 : decode cX6_least 18 = .ok (.aload_n 0, 1) := by decide +kernel
theorem dX6_least_19 : decode cX6_least 19 = .ok (.getfield 37, 3) := by decide +kernel
theorem dX6_least_22 : decode cX6_least 22 = .ok (.invokevirtual 154, 3) := by decide +kernel
theorem dX6_least_25 : decode cX6_least 25 = .ok (.aload_n 0, 1) := by decide +kernel
theorem dX6_least_26 : decode cX6_least 26 = .ok (.getfield 37, 3) := by decide +kernel
theorem dX6_least_29 : decode cX6_least 29 = .ok (.getfield 172, 3) := by decide +kernel
theorem dX6_least_32 : decode cX6_least 32 = .ok (.iload_n 1, 1) := by decide +kernel
theorem dX6_least_33 : decode cX6_least 33 = .ok (.iconst 3, 1) := by decide +kernel
theorem dX6_least_34 : decode cX6_least 34 = .ok (.imul, 1) := by decide +kernel
theorem dX6_least_35 : decode cX6_least 35 = .ok (.iload_n 2, 1) := by decide +kernel
theorem dX6_least_36 : decode cX6_least 36 = .ok (.iadd, 1) := by decide +kernel
theorem dX6_least_37 : decode cX6_least 37 = .ok (.iaload, 1) := by decide +kernel
theorem dX6_least_38 : decode cX6_least 38 = .ok (.ireturn, 1) := by decide +kernel
theorem dX6_greatest_0 : decode cX6_greatest 0 = .ok (.iload_n 1, 1) := by decide +kernel
theorem dX6_greatest_1 : decode cX6_greatest 1 = .ok (.aload_n 0, 1) := by decide +kernel
theorem dX6_greatest_2 : decode cX6_greatest 2 = .ok (.getfield 12, 3) := by decide +kernel
theorem dX6_greatest_5 : decode cX6_greatest 5 = .ok (.getfield 66, 3) := by decide +kernel
theorem dX6_greatest_8 : decode cX6_greatest 8 = .ok (.iconst 1, 1) := by decide +kernel
theorem dX6_greatest_9 : decode cX6_greatest 9 = .ok (.iadd, 1) := by decide +kernel
theorem dX6_greatest_10 : decode cX6_greatest 10 = .ok (.invokestatic 106, 3) := by decide +kernel
theorem dX6_greatest_13 : decode cX6_greatest 13 = .ok (.iload_n 2, 1) := by decide +kernel
theorem dX6_greatest_14 : decode cX6_greatest 14 = .ok (.iconst 3, 1) := by decide +kernel
theorem dX6_greatest_15 : decode cX6_greatest 15 = .ok (.invokestatic 106, 3) := by decide +kernel
theorem dX6_greatest_18 : decode cX6_greatest 18 = .ok (.aload_n 0, 1) := by decide +kernel
theorem dX6_greatest_19 : decode cX6_greatest 19 = .ok (.getfield 37, 3) := by decide +kernel
theorem dX6_greatest_22 : decode cX6_greatest 22 = .ok (.invokevirtual 154, 3) := by decide +kernel
theorem dX6_greatest_25 : decode cX6_greatest 25 = .ok (.aload_n 0, 1) := by decide +kernel
theorem dX6_greatest_26 : decode cX6_greatest 26 = .ok (.getfield 37, 3) := by decide +kernel
theorem dX6_greatest_29 : decode cX6_greatest 29 = .ok (.getfield 175, 3) := by decide +kernel
theorem dX6_greatest_32 : decode cX6_greatest 32 = .ok (.iload_n 1, 1) := by decide +kernel
theorem dX6_greatest_33 : decode cX6_greatest 33 = .ok (.iconst 3, 1) := by decide +kernel
theorem dX6_greatest_34 : decode cX6_greatest 34 = .ok (.imul, 1) := by decide +kernel
theorem dX6_greatest_35 : decode cX6_greatest 35 = .ok (.iload_n 2, 1) := by decide +kernel
theorem dX6_greatest_36 : decode cX6_greatest 36 = .ok (.iadd, 1) := by decide +kernel
theorem dX6_greatest_37 : decode cX6_greatest 37 = .ok (.iaload, 1) := by decide +kernel
theorem dX6_greatest_38 : decode cX6_greatest 38 = .ok (.ireturn, 1) := by decide +kernel
theorem dX6_widest_0 : decode cX6_widest 0 = .ok (.iload_n 1, 1) := by decide +kernel
theorem dX6_widest_1 : decode cX6_widest 1 = .ok (.iconst 3, 1) := by decide +kernel
theorem dX6_widest_2 : decode cX6_widest 2 = .ok (.invokestatic 106, 3) := by decide +kernel
theorem dX6_widest_5 : decode cX6_widest 5 = .ok (.aload_n 0, 1) := by decide +kernel
theorem dX6_widest_6 : decode cX6_widest 6 = .ok (.iload_n 1, 1) := by decide +kernel
theorem dX6_widest_7 : decode cX6_widest 7 = .ok (.invokevirtual 178, 3) := by decide +kernel
theorem dX6_widest_10 : decode cX6_widest 10 = .ok (.invokestatic 181, 3) := by decide +kernel
theorem dX6_widest_13 : decode cX6_widest 13 = .ok (.ireturn, 1) := by decide +kernel
theorem dX6_append_0 : decode cX6_append 0 = .ok (.iload_n 1, 1) := by decide +kernel
theorem dX6_append_1 : decode cX6_append 1 = .ok (.bipush 33, 2) := by decide +kernel
theorem dX6_append_3 : decode cX6_append 3 = .ok (.if_icmp .lt 9, 3) := by decide +kernel
theorem dX6_append_6 : decode cX6_append 6 = .ok (.iload_n 1, 1) := by decide +kernel
theorem dX6_append_7 : decode cX6_append 7 = .ok (.bipush 126, 2) := by decide +kernel
theorem dX6_append_9 : decode cX6_append 9 = .ok (.if_icmp .le 13, 3) := by decide +kernel
theorem dX6_append_12 : decode cX6_append 12 = .ok (.new 70, 3) := by decide +kernel
theorem dX6_append_15 : decode cX6_append 15 = .ok (.dup, 1) := by decide +kernel
theorem dX6_append_16 : decode cX6_append 16 = .ok (.ldc 184, 2) := by decide +kernel
theorem dX6_append_18 : decode cX6_append 18 = .ok (.invokespecial 74, 3) := by decide +kernel
theorem dX6_append_21 : decode cX6_append 21 = .ok (.athrow, 1) := by decide +kernel
theorem dX6_append_22 : decode cX6_append 22 = .ok (.aload_n 0, 1) := by decide +kernel
theorem dX6_append_23 : decode cX6_append 23 = .ok (.getfield 51, 3) := by decide +kernel
theorem dX6_append_26 : decode cX6_append 26 = .ok (.getfield 186, 3) := by decide +kernel
theorem dX6_append_29 : decode cX6_append 29 = .ok (.bipush 60, 2) := by decide +kernel
theorem dX6_append_31 : decode cX6_append 31 = .ok (.if_icmp .lt 13, 3) := by decide +kernel
theorem dX6_append_34 : decode cX6_append 34 = .ok (.new 98, 3) := by decide +kernel
theorem dX6_append_37 : decode cX6_append 37 = .ok (.dup, 1) := by decide +kernel
theorem dX6_append_38 : decode cX6_append 38 = .ok (.ldc 189, 2) := by decide +kernel
theorem dX6_append_40 : decode cX6_append 40 = .ok (.invokespecial 102, 3) := by decide +kernel
theorem dX6_append_43 : decode cX6_append 43 = .ok (.athrow, 1) := by decide +kernel
theorem dX6_append_44 : decode cX6_append 44 = .ok (.aload_n 0, 1) := by decide +kernel
theorem dX6_append_45 : decode cX6_append 45 = .ok (.getfield 51, 3) := by decide +kernel
theorem dX6_append_48 : decode cX6_append 48 = .ok (.iload_n 1, 1) := by decide +kernel
theorem dX6_append_49 : decode cX6_append 49 = .ok (.i2c, 1) := by decide +kernel
theorem dX6_append_50 : decode cX6_append 50 = .ok (.invokevirtual 191, 3) := by decide +kernel
theorem dX6_append_53 : decode cX6_append 53 = .ok (.aload_n 0, 1) := by decide +kernel
theorem dX6_append_54 : decode cX6_append 54 = .ok (.getfield 51, 3) := by decide +kernel
theorem dX6_append_57 : decode cX6_append 57 = .ok (.getfield 186, 3) := by decide +kernel
theorem dX6_append_60 : decode cX6_append 60 = .ok (.ireturn, 1) := by decide +kernel
theorem dX6_clearBuffer_0 : decode cX6_clearBuffer 0 = .ok (.aload_n 0, 1) := by decide +kernel
theorem dX6_clearBuffer_1 : decode cX6_clearBuffer 1 = .ok (.getfield 51, 3) := by decide +kernel
theorem dX6_clearBuffer_4 : decode cX6_clearBuffer 4 = .ok (.getfield 186, 3) := by decide +kernel
theorem dX6_clearBuffer_7 : decode cX6_clearBuffer 7 = .ok (.istore_n 1, 1) := by decide +kernel
theorem dX6_clearBuffer_8 : decode cX6_clearBuffer 8 = .ok (.aload_n 0, 1) := by decide +kernel
theorem dX6_clearBuffer_9 : decode cX6_clearBuffer 9 = .ok (.getfield 51, 3) := by decide +kernel
theorem dX6_clearBuffer_12 : decode cX6_clearBuffer 12 = .ok (.invokevirtual 83, 3) := by decide +kernel
theorem dX6_clearBuffer_15 : decode cX6_clearBuffer 15 = .ok (.iload_n 1, 1) := by decide +kernel
theorem dX6_clearBuffer_16 : decode cX6_clearBuffer 16 = .ok (.ireturn, 1) := by decide +kernel
theorem dX6_undo_0 : decode cX6_undo 0 = .ok (.aload_n 0, 1) := by decide +kernel
theorem dX6_undo_1 : decode cX6_undo 1 = .ok (.getfield 44, 3) := by decide +kernel
theorem dX6_undo_4 : decode cX6_undo 4 = .ok (.getfield 198, 3) := by decide +kernel
theorem dX6_undo_7 : decode cX6_undo 7 = .ok (.ifCond .ne 13, 3) := by decide +kernel
theorem dX6_undo_10 : decode cX6_undo 10 = .ok (.new 98, 3) := by decide +kernel
theorem dX6_undo_13 : decode cX6_undo 13 = .ok (.dup, 1) := by decide +kernel
theorem dX6_undo_14 : decode cX6_undo 14 = .ok (.ldc 200, 2) := by decide +kernel
theorem dX6_undo_16 : decode cX6_undo 16 = .ok (.invokespecial 102, 3) := by decide +kernel
theorem dX6_undo_19 : decode cX6_undo 19 = .ok (.athrow, 1) := by decide +kernel
theorem dX6_undo_20 : decode cX6_undo 20 = .ok (.aload_n 0, 1) := by decide +kernel
theorem dX6_undo_21 : decode cX6_undo 21 = .ok (.getfield 44, 3) := by decide +kernel
theorem dX6_undo_24 : decode cX6_undo 24 = .ok (.aload_n 0, 1) := by decide +kernel
theorem dX6_undo_25 : decode cX6_undo 25 = .ok (.getfield 12, 3) := by decide +kernel
theorem dX6_undo_28 : decode cX6_undo 28 = .ok (.aload_n 0, 1) := by decide +kernel
theorem dX6_undo_29 : decode cX6_undo 29 = .ok (.getfield 19, 3) := by decide +kernel
theorem dX6_undo_32 : decode cX6_undo 32 = .ok (.invokevirtual 202, 3) := by decide +kernel
theorem dX6_undo_35 : decode cX6_undo 35 = .ok (.aload_n 0, 1) := by decide +kernel
theorem dX6_undo_36 : decode cX6_undo 36 = .ok (.invokevirtual 86, 3) := by decide +kernel
theorem dX6_undo_39 : decode cX6_undo 39 = .ok (.aload_n 0, 1) := by decide +kernel
theorem dX6_undo_40 : decode cX6_undo 40 = .ok (.getfield 44, 3) := by decide +kernel
theorem dX6_undo_43 : decode cX6_undo 43 = .ok (.getfield 198, 3) := by decide +kernel
theorem dX6_undo_46 : decode cX6_undo 46 = .ok (.ireturn, 1) := by decide +kernel
theorem dX6_savedStates_0 : decode cX6_savedStates 0 = .ok (.aload_n 0, 1) := by decide +kernel
theorem dX6_savedStates_1 : decode cX6_savedStates 1 = .ok (.getfield 44, 3) := by decide +kernel
theorem dX6_savedStates_4 : decode cX6_savedStates 4 = .ok (.getfield 198, 3) := by decide +kernel
theorem dX6_savedStates_7 : decode cX6_savedStates 7 = .ok (.ireturn, 1) := by decide +kernel
theorem dX6_fitsBehind_0 : decode cX6_fitsBehind 0 = .ok (.aload_n 0, 1) := by decide +kernel
theorem dX6_fitsBehind_1 : decode cX6_fitsBehind 1 = .ok (.getfield 12, 3) := by decide +kernel
theorem dX6_fitsBehind_4 : decode cX6_fitsBehind 4 = .ok (.getfield 66, 3) := by decide +kernel
theorem dX6_fitsBehind_7 : decode cX6_fitsBehind 7 = .ok (.aload_n 1, 1) := by decide +kernel
theorem dX6_fitsBehind_8 : decode cX6_fitsBehind 8 = .ok (.getfield 66, 3) := by decide +kernel
theorem dX6_fitsBehind_11 : decode cX6_fitsBehind 11 = .ok (.iadd, 1) := by decide +kernel
theorem dX6_fitsBehind_12 : decode cX6_fitsBehind 12 = .ok (.istore_n 2, 1) := by decide +kernel
theorem dX6_fitsBehind_13 : decode cX6_fitsBehind 13 = .ok (.iload_n 2, 1) := by decide +kernel
theorem dX6_fitsBehind_14 : decode cX6_fitsBehind 14 = .ok (.bipush 12, 2) := by decide +kernel
theorem dX6_fitsBehind_16 : decode cX6_fitsBehind 16 = .ok (.if_icmp .gt 15, 3) := by decide +kernel
theorem dX6_fitsBehind_19 : decode cX6_fitsBehind 19 = .ok (.aload_n 1, 1) := by decide +kernel
theorem dX6_fitsBehind_20 : decode cX6_fitsBehind 20 = .ok (.invokevirtual 62, 3) := by decide +kernel
theorem dX6_fitsBehind_23 : decode cX6_fitsBehind 23 = .ok (.iload_n 2, 1) := by decide +kernel
theorem dX6_fitsBehind_24 : decode cX6_fitsBehind 24 = .ok (.if_icmp .gt 7, 3) := by decide +kernel
theorem dX6_fitsBehind_27 : decode cX6_fitsBehind 27 = .ok (.iconst 1, 1) := by decide +kernel
theorem dX6_fitsBehind_28 : decode cX6_fitsBehind 28 = .ok (.goto 4, 3) := by decide +kernel
theorem dX6_fitsBehind_31 : decode cX6_fitsBehind 31 = .ok (.iconst 0, 1) := by decide +kernel
theorem dX6_fitsBehind_32 : decode cX6_fitsBehind 32 = .ok (.ireturn, 1) := by decide +kernel
theorem dX6_unprovedValues_0 : decode cX6_unprovedValues 0 = .ok (.iconst 0, 1) := by decide +kernel
theorem dX6_unprovedValues_1 : decode cX6_unprovedValues 1 = .ok (.istore_n 2, 1) := by decide +kernel
theorem dX6_unprovedValues_2 : decode cX6_unprovedValues 2 = .ok (.iconst 0, 1) := by decide +kernel
theorem dX6_unprovedValues_3 : decode cX6_unprovedValues 3 = .ok (.istore_n 3, 1) := by decide +kernel
theorem dX6_unprovedValues_4 : decode cX6_unprovedValues 4 = .ok (.iload_n 3, 1) := by decide +kernel
theorem dX6_unprovedValues_5 : decode cX6_unprovedValues 5 = .ok (.sipush 512, 3) := by decide +kernel
theorem dX6_unprovedValues_8 : decode cX6_unprovedValues 8 = .ok (.if_icmp .ge 45, 3) := by decide +kernel
theorem dX6_unprovedValues_11 : decode cX6_unprovedValues 11 = .ok (.aload_n 0, 1) := by decide +kernel
theorem dX6_unprovedValues_12 : decode cX6_unprovedValues 12 = .ok (.getfield 19, 3) := by decide +kernel
theorem dX6_unprovedValues_15 : decode cX6_unprovedValues 15 = .ok (.iload_n 1, 1) := by decide +kernel
theorem dX6_unprovedValues_16 : decode cX6_unprovedValues 16 = .ok (.iload_n 3, 1) := by decide +kernel
theorem dX6_unprovedValues_17 : decode cX6_unprovedValues 17 = .ok (.invokevirtual 243, 3) := by decide +kernel
theorem dX6_unprovedValues_20 : decode cX6_unprovedValues 20 = .ok (.ifCond .eq 27, 3) := by decide +kernel
theorem dX6_unprovedValues_23 : decode cX6_unprovedValues 23 = .ok (.aload_n 0, 1) := by decide +kernel
theorem dX6_unprovedValues_24 : decode cX6_unprovedValues 24 = .ok (.getfield 28, 3) := by decide +kernel
theorem dX6_unprovedValues_27 : decode cX6_unprovedValues 27 = .ok (.iload_n 3, 1) := by decide +kernel
theorem dX6_unprovedValues_28 : decode cX6_unprovedValues 28 = .ok (.invokevirtual 125, 3) := by decide +kernel
theorem dX6_unprovedValues_31 : decode cX6_unprovedValues 31 = .ok (.sipush 1000, 3) := by decide +kernel
theorem dX6_unprovedValues_34 : decode cX6_unprovedValues 34 = .ok (.if_icmp .ge 13, 3) := by decide +kernel
theorem dX6_unprovedValues_37 : decode cX6_unprovedValues 37 = .ok (.iload_n 2, 1) := by decide +kernel
theorem dX6_unprovedValues_38 : decode cX6_unprovedValues 38 = .ok (.iconst 1, 1) := by decide +kernel
theorem dX6_unprovedValues_39 : decode cX6_unprovedValues 39 = .ok (.iload_n 3, 1) := by decide +kernel
theorem dX6_unprovedValues_40 : decode cX6_unprovedValues 40 = .ok (.iload_n 1, 1) := by decide +kernel
theorem dX6_unprovedValues_41 : decode cX6_unprovedValues 41 = .ok (.invokestatic 247, 3) := by decide +kernel
theorem dX6_unprovedValues_44 : decode cX6_unprovedValues 44 = .ok (.ishl, 1) := by decide +kernel
theorem dX6_unprovedValues_45 : decode cX6_unprovedValues 45 = .ok (.ior, 1) := by decide +kernel
theorem dX6_unprovedValues_46 : decode cX6_unprovedValues 46 = .ok (.istore_n 2, 1) := by decide +kernel
theorem dX6_unprovedValues_47 : decode cX6_unprovedValues 47 = .ok (.iinc 3 1, 3) := by decide +kernel
theorem dX6_unprovedValues_50 : decode cX6_unprovedValues 50 = .ok (.goto (-46), 3) := by decide +kernel
theorem dX6_unprovedValues_53 : decode cX6_unprovedValues 53 = .ok (.iload_n 2, 1) := by decide +kernel
theorem dX6_unprovedValues_54 : decode cX6_unprovedValues 54 = .ok (.ireturn, 1) := by decide +kernel
theorem dX6_widestRange_0 : decode cX6_widestRange 0 = .ok (.iconst (-1), 1) := by decide +kernel
theorem dX6_widestRange_1 : decode cX6_widestRange 1 = .ok (.istore_n 1, 1) := by decide +kernel
theorem dX6_widestRange_2 : decode cX6_widestRange 2 = .ok (.iconst 0, 1) := by decide +kernel
theorem dX6_widestRange_3 : decode cX6_widestRange 3 = .ok (.istore_n 2, 1) := by decide +kernel
theorem dX6_widestRange_4 : decode cX6_widestRange 4 = .ok (.iconst 0, 1) := by decide +kernel
theorem dX6_widestRange_5 : decode cX6_widestRange 5 = .ok (.istore_n 3, 1) := by decide +kernel
theorem dX6_widestRange_6 : decode cX6_widestRange 6 = .ok (.iconst 0, 1) := by decide +kernel
theorem dX6_widestRange_7 : decode cX6_widestRange 7 = .ok (.istore 4, 2) := by decide +kernel
theorem dX6_widestRange_9 : decode cX6_widestRange 9 = .ok (.iload 4, 2) := by decide +kernel
theorem dX6_widestRange_11 : decode cX6_widestRange 11 = .ok (.bipush 8, 2) := by decide +kernel
theorem dX6_widestRange_13 : decode cX6_widestRange 13 = .ok (.if_icmp .ge 52, 3) := by decide +kernel
theorem dX6_widestRange_16 : decode cX6_widestRange 16 = .ok (.iload_n 0, 1) := by decide +kernel
theorem dX6_widestRange_17 : decode cX6_widestRange 17 = .ok (.iload 4, 2) := by decide +kernel
theorem dX6_widestRange_19 : decode cX6_widestRange 19 = .ok (.ishr, 1) := by decide +kernel
theorem dX6_widestRange_20 : decode cX6_widestRange 20 = .ok (.iconst 1, 1) := by decide +kernel
theorem dX6_widestRange_21 : decode cX6_widestRange 21 = .ok (.iand, 1) := by decide +kernel
theorem dX6_widestRange_22 : decode cX6_widestRange 22 = .ok (.iconst 1, 1) := by decide +kernel
theorem dX6_widestRange_23 : decode cX6_widestRange 23 = .ok (.if_icmp .ne 11, 3) := by decide +kernel
theorem dX6_widestRange_26 : decode cX6_widestRange 26 = .ok (.iload 4, 2) := by decide +kernel
theorem dX6_widestRange_28 : decode cX6_widestRange 28 = .ok (.iconst 1, 1) := by decide +kernel
theorem dX6_widestRange_29 : decode cX6_widestRange 29 = .ok (.iadd, 1) := by decide +kernel
theorem dX6_widestRange_30 : decode cX6_widestRange 30 = .ok (.istore_n 3, 1) := by decide +kernel
theorem dX6_widestRange_31 : decode cX6_widestRange 31 = .ok (.goto 28, 3) := by decide +kernel
theorem dX6_widestRange_34 : decode cX6_widestRange 34 = .ok (.iload 4, 2) := by decide +kernel
theorem dX6_widestRange_36 : decode cX6_widestRange 36 = .ok (.iload_n 3, 1) := by decide +kernel
theorem dX6_widestRange_37 : decode cX6_widestRange 37 = .ok (.isub, 1) := by decide +kernel
theorem dX6_widestRange_38 : decode cX6_widestRange 38 = .ok (.iconst 1, 1) := by decide +kernel
theorem dX6_widestRange_39 : decode cX6_widestRange 39 = .ok (.iadd, 1) := by decide +kernel
theorem dX6_widestRange_40 : decode cX6_widestRange 40 = .ok (.iload_n 2, 1) := by decide +kernel
theorem dX6_widestRange_41 : decode cX6_widestRange 41 = .ok (.if_icmp .le 18, 3) := by decide +kernel
theorem dX6_widestRange_44 : decode cX6_widestRange 44 = .ok (.iload 4, 2) := by decide +kernel
theorem dX6_widestRange_46 : decode cX6_widestRange 46 = .ok (.iload_n 3, 1) := by decide +kernel
theorem dX6_widestRange_47 : decode cX6_widestRange 47 = .ok (.isub, 1) := by decide +kernel
theorem dX6_widestRange_48 : decode cX6_widestRange 48 = .ok (.iconst 1, 1) := by decide +kernel
theorem dX6_widestRange_49 : decode cX6_widestRange 49 = .ok (.iadd, 1) := by decide +kernel
theorem dX6_widestRange_50 : decode cX6_widestRange 50 = .ok (.istore_n 2, 1) := by decide +kernel
theorem dX6_widestRange_51 : decode cX6_widestRange 51 = .ok (.bipush 10, 2) := by decide +kernel
theorem dX6_widestRange_53 : decode cX6_widestRange 53 = .ok (.iload_n 3, 1) := by decide +kernel
theorem dX6_widestRange_54 : decode cX6_widestRange 54 = .ok (.imul, 1) := by decide +kernel
theorem dX6_widestRange_55 : decode cX6_widestRange 55 = .ok (.iload 4, 2) := by decide +kernel
theorem dX6_widestRange_57 : decode cX6_widestRange 57 = .ok (.iadd, 1) := by decide +kernel
theorem dX6_widestRange_58 : decode cX6_widestRange 58 = .ok (.istore_n 1, 1) := by decide +kernel
theorem dX6_widestRange_59 : decode cX6_widestRange 59 = .ok (.iinc 4 1, 3) := by decide +kernel
theorem dX6_widestRange_62 : decode cX6_widestRange 62 = .ok (.goto (-53), 3) := by decide +kernel
theorem dX6_widestRange_65 : decode cX6_widestRange 65 = .ok (.iload_n 1, 1) := by decide +kernel
theorem dX6_widestRange_66 : decode cX6_widestRange 66 = .ok (.ireturn, 1) := by decide +kernel
theorem dX6_saveState_0 : decode cX6_saveState 0 = .ok (.aload_n 0, 1) := by decide +kernel
theorem dX6_saveState_1 : decode cX6_saveState 1 = .ok (.getfield 44, 3) := by decide +kernel
theorem dX6_saveState_4 : decode cX6_saveState 4 = .ok (.aload_n 0, 1) := by decide +kernel
theorem dX6_saveState_5 : decode cX6_saveState 5 = .ok (.getfield 12, 3) := by decide +kernel
theorem dX6_saveState_8 : decode cX6_saveState 8 = .ok (.aload_n 0, 1) := by decide +kernel
theorem dX6_saveState_9 : decode cX6_saveState 9 = .ok (.getfield 19, 3) := by decide +kernel
theorem dX6_saveState_12 : decode cX6_saveState 12 = .ok (.invokevirtual 250, 3) := by decide +kernel
theorem dX6_saveState_15 : decode cX6_saveState 15 = .ok (.return_, 1) := by decide +kernel
theorem dX6_forgetProgram_0 : decode cX6_forgetProgram 0 = .ok (.aload_n 0, 1) := by decide +kernel
theorem dX6_forgetProgram_1 : decode cX6_forgetProgram 1 = .ok (.getfield 28, 3) := by decide +kernel
theorem dX6_forgetProgram_4 : decode cX6_forgetProgram 4 = .ok (.invokevirtual 253, 3) := by decide +kernel
theorem dX6_forgetProgram_7 : decode cX6_forgetProgram 7 = .ok (.aload_n 0, 1) := by decide +kernel
theorem dX6_forgetProgram_8 : decode cX6_forgetProgram 8 = .ok (.getfield 37, 3) := by decide +kernel
theorem dX6_forgetProgram_11 : decode cX6_forgetProgram 11 = .ok (.invokevirtual 148, 3) := by decide +kernel
theorem dX6_forgetProgram_14 : decode cX6_forgetProgram 14 = .ok (.return_, 1) := by decide +kernel
theorem dX6_checkIndex_0 : decode cX6_checkIndex 0 = .ok (.iload_n 0, 1) := by decide +kernel
theorem dX6_checkIndex_1 : decode cX6_checkIndex 1 = .ok (.ifCond .lt 8, 3) := by decide +kernel
theorem dX6_checkIndex_4 : decode cX6_checkIndex 4 = .ok (.iload_n 0, 1) := by decide +kernel
theorem dX6_checkIndex_5 : decode cX6_checkIndex 5 = .ok (.iload_n 1, 1) := by decide +kernel
theorem dX6_checkIndex_6 : decode cX6_checkIndex 6 = .ok (.if_icmp .lt 14, 3) := by decide +kernel
theorem dX6_checkIndex_9 : decode cX6_checkIndex 9 = .ok (.new 254, 3) := by decide +kernel
theorem dX6_checkIndex_12 : decode cX6_checkIndex 12 = .ok (.dup, 1) := by decide +kernel
theorem dX6_checkIndex_13 : decode cX6_checkIndex 13 = .ok (.ldc_w 256, 3) := by decide +kernel
theorem dX6_checkIndex_16 : decode cX6_checkIndex 16 = .ok (.invokespecial 258, 3) := by decide +kernel
theorem dX6_checkIndex_19 : decode cX6_checkIndex 19 = .ok (.athrow, 1) := by decide +kernel
theorem dX6_checkIndex_20 : decode cX6_checkIndex 20 = .ok (.return_, 1) := by decide +kernel
theorem dX6_checkValues_0 : decode cX6_checkValues 0 = .ok (.iload_n 0, 1) := by decide +kernel
theorem dX6_checkValues_1 : decode cX6_checkValues 1 = .ok (.invokestatic 140, 3) := by decide +kernel
theorem dX6_checkValues_4 : decode cX6_checkValues 4 = .ok (.ifCond .eq 17, 3) := by decide +kernel
theorem dX6_checkValues_7 : decode cX6_checkValues 7 = .ok (.iload_n 1, 1) := by decide +kernel
theorem dX6_checkValues_8 : decode cX6_checkValues 8 = .ok (.invokestatic 140, 3) := by decide +kernel
theorem dX6_checkValues_11 : decode cX6_checkValues 11 = .ok (.ifCond .eq 10, 3) := by decide +kernel
theorem dX6_checkValues_14 : decode cX6_checkValues 14 = .ok (.iload_n 2, 1) := by decide +kernel
theorem dX6_checkValues_15 : decode cX6_checkValues 15 = .ok (.invokestatic 140, 3) := by decide +kernel
theorem dX6_checkValues_18 : decode cX6_checkValues 18 = .ok (.ifCond .ne 14, 3) := by decide +kernel
theorem dX6_checkValues_21 : decode cX6_checkValues 21 = .ok (.new 70, 3) := by decide +kernel
theorem dX6_checkValues_24 : decode cX6_checkValues 24 = .ok (.dup, 1) := by decide +kernel
theorem dX6_checkValues_25 : decode cX6_checkValues 25 = .ok (.ldc_w 259, 3) := by decide +kernel
theorem dX6_checkValues_28 : decode cX6_checkValues 28 = .ok (.invokespecial 74, 3) := by decide +kernel
theorem dX6_checkValues_31 : decode cX6_checkValues 31 = .ok (.athrow, 1) := by decide +kernel
theorem dX6_checkValues_32 : decode cX6_checkValues 32 = .ok (.return_, 1) := by decide +kernel
theorem dX6_isValue_0 : decode cX6_isValue 0 = .ok (.iload_n 0, 1) := by decide +kernel
theorem dX6_isValue_1 : decode cX6_isValue 1 = .ok (.ifCond .lt 13, 3) := by decide +kernel
theorem dX6_isValue_4 : decode cX6_isValue 4 = .ok (.iload_n 0, 1) := by decide +kernel
theorem dX6_isValue_5 : decode cX6_isValue 5 = .ok (.bipush 8, 2) := by decide +kernel
theorem dX6_isValue_7 : decode cX6_isValue 7 = .ok (.if_icmp .ge 7, 3) := by decide +kernel
theorem dX6_isValue_10 : decode cX6_isValue 10 = .ok (.iconst 1, 1) := by decide +kernel
theorem dX6_isValue_11 : decode cX6_isValue 11 = .ok (.goto 4, 3) := by decide +kernel
theorem dX6_isValue_14 : decode cX6_isValue 14 = .ok (.iconst 0, 1) := by decide +kernel
theorem dX6_isValue_15 : decode cX6_isValue 15 = .ok (.ireturn, 1) := by decide +kernel
theorem dX6_tripleOf_0 : decode cX6_tripleOf 0 = .ok (.bipush 64, 2) := by decide +kernel
theorem dX6_tripleOf_2 : decode cX6_tripleOf 2 = .ok (.iload_n 0, 1) := by decide +kernel
theorem dX6_tripleOf_3 : decode cX6_tripleOf 3 = .ok (.imul, 1) := by decide +kernel
theorem dX6_tripleOf_4 : decode cX6_tripleOf 4 = .ok (.bipush 8, 2) := by decide +kernel
theorem dX6_tripleOf_6 : decode cX6_tripleOf 6 = .ok (.iload_n 1, 1) := by decide +kernel
theorem dX6_tripleOf_7 : decode cX6_tripleOf 7 = .ok (.imul, 1) := by decide +kernel
theorem dX6_tripleOf_8 : decode cX6_tripleOf 8 = .ok (.iadd, 1) := by decide +kernel
theorem dX6_tripleOf_9 : decode cX6_tripleOf 9 = .ok (.iload_n 2, 1) := by decide +kernel
theorem dX6_tripleOf_10 : decode cX6_tripleOf 10 = .ok (.iadd, 1) := by decide +kernel
theorem dX6_tripleOf_11 : decode cX6_tripleOf 11 = .ok (.ireturn, 1) := by decide +kernel
theorem dX6_valueOf_0 : decode cX6_valueOf 0 = .ok (.iload_n 0, 1) := by decide +kernel
theorem dX6_valueOf_1 : decode cX6_valueOf 1 = .ok (.bipush 6, 2) := by decide +kernel
theorem dX6_valueOf_3 : decode cX6_valueOf 3 = .ok (.iconst 3, 1) := by decide +kernel
theorem dX6_valueOf_4 : decode cX6_valueOf 4 = .ok (.iload_n 1, 1) := by decide +kernel
theorem dX6_valueOf_5 : decode cX6_valueOf 5 = .ok (.imul, 1) := by decide +kernel
theorem dX6_valueOf_6 : decode cX6_valueOf 6 = .ok (.isub, 1) := by decide +kernel
theorem dX6_valueOf_7 : decode cX6_valueOf 7 = .ok (.ishr, 1) := by decide +kernel
theorem dX6_valueOf_8 : decode cX6_valueOf 8 = .ok (.bipush 7, 2) := by decide +kernel
theorem dX6_valueOf_10 : decode cX6_valueOf 10 = .ok (.iand, 1) := by decide +kernel
theorem dX6_valueOf_11 : decode cX6_valueOf 11 = .ok (.ireturn, 1) := by decide +kernel
theorem dX6_withValue_0 : decode cX6_withValue 0 = .ok (.bipush 6, 2) := by decide +kernel
theorem dX6_withValue_2 : decode cX6_withValue 2 = .ok (.iconst 3, 1) := by decide +kernel
theorem dX6_withValue_3 : decode cX6_withValue 3 = .ok (.iload_n 1, 1) := by decide +kernel
theorem dX6_withValue_4 : decode cX6_withValue 4 = .ok (.imul, 1) := by decide +kernel
theorem dX6_withValue_5 : decode cX6_withValue 5 = .ok (.isub, 1) := by decide +kernel
theorem dX6_withValue_6 : decode cX6_withValue 6 = .ok (.istore_n 3, 1) := by decide +kernel
theorem dX6_withValue_7 : decode cX6_withValue 7 = .ok (.iload_n 0, 1) := by decide +kernel
theorem dX6_withValue_8 : decode cX6_withValue 8 = .ok (.bipush 7, 2) := by decide +kernel
theorem dX6_withValue_10 : decode cX6_withValue 10 = .ok (.iload_n 3, 1) := by decide +kernel
theorem dX6_withValue_11 : decode cX6_withValue 11 = .ok (.ishl, 1) := by decide +kernel
theorem dX6_withValue_12 : decode cX6_withValue 12 = .ok (.iconst (-1), 1) := by decide +kernel
theorem dX6_withValue_13 : decode cX6_withValue 13 = .ok (.ixor, 1) := by decide +kernel
theorem dX6_withValue_14 : decode cX6_withValue 14 = .ok (.iand, 1) := by decide +kernel
theorem dX6_withValue_15 : decode cX6_withValue 15 = .ok (.iload_n 2, 1) := by decide +kernel
theorem dX6_withValue_16 : decode cX6_withValue 16 = .ok (.iload_n 3, 1) := by decide +kernel
theorem dX6_withValue_17 : decode cX6_withValue 17 = .ok (.ishl, 1) := by decide +kernel
theorem dX6_withValue_18 : decode cX6_withValue 18 = .ok (.ior, 1) := by decide +kernel
theorem dX6_withValue_19 : decode cX6_withValue 19 = .ok (.ireturn, 1) := by decide +kernel
theorem dX6_placeOf_0 : decode cX6_placeOf 0 = .ok (.iload_n 0, 1) := by decide +kernel
theorem dX6_placeOf_1 : decode cX6_placeOf 1 = .ok (.sipush 512, 3) := by decide +kernel
theorem dX6_placeOf_4 : decode cX6_placeOf 4 = .ok (.imul, 1) := by decide +kernel
theorem dX6_placeOf_5 : decode cX6_placeOf 5 = .ok (.iload_n 1, 1) := by decide +kernel
theorem dX6_placeOf_6 : decode cX6_placeOf 6 = .ok (.iadd, 1) := by decide +kernel
theorem dX6_placeOf_7 : decode cX6_placeOf 7 = .ok (.ireturn, 1) := by decide +kernel
theorem dX6_statementAt_0 : decode cX6_statementAt 0 = .ok (.iload_n 0, 1) := by decide +kernel
theorem dX6_statementAt_1 : decode cX6_statementAt 1 = .ok (.sipush 512, 3) := by decide +kernel
theorem dX6_statementAt_4 : decode cX6_statementAt 4 = .ok (.idiv, 1) := by decide +kernel
theorem dX6_statementAt_5 : decode cX6_statementAt 5 = .ok (.ireturn, 1) := by decide +kernel
theorem dX6_tripleAt_0 : decode cX6_tripleAt 0 = .ok (.iload_n 0, 1) := by decide +kernel
theorem dX6_tripleAt_1 : decode cX6_tripleAt 1 = .ok (.sipush 512, 3) := by decide +kernel
theorem dX6_tripleAt_4 : decode cX6_tripleAt 4 = .ok (.irem, 1) := by decide +kernel
theorem dX6_tripleAt_5 : decode cX6_tripleAt 5 = .ok (.ireturn, 1) := by decide +kernel
theorem dJ11_isValidCodePoint_9a6ad_0 : decode cJ11_isValidCodePoint_9a6ad 0 = .ok (.iload_n 0, 1) := by decide +kernel
theorem dJ11_isValidCodePoint_9a6ad_1 : decode cJ11_isValidCodePoint_9a6ad 1 = .ok (.bipush 16, 2) := by decide +kernel
theorem dJ11_isValidCodePoint_9a6ad_3 : decode cJ11_isValidCodePoint_9a6ad 3 = .ok (.iushr, 1) := by decide +kernel
theorem dJ11_isValidCodePoint_9a6ad_4 : decode cJ11_isValidCodePoint_9a6ad 4 = .ok (.istore_n 1, 1) := by decide +kernel
theorem dJ11_isValidCodePoint_9a6ad_5 : decode cJ11_isValidCodePoint_9a6ad 5 = .ok (.iload_n 1, 1) := by decide +kernel
theorem dJ11_isValidCodePoint_9a6ad_6 : decode cJ11_isValidCodePoint_9a6ad 6 = .ok (.bipush 17, 2) := by decide +kernel
theorem dJ11_isValidCodePoint_9a6ad_8 : decode cJ11_isValidCodePoint_9a6ad 8 = .ok (.if_icmp .ge 7, 3) := by decide +kernel
theorem dJ11_isValidCodePoint_9a6ad_11 : decode cJ11_isValidCodePoint_9a6ad 11 = .ok (.iconst 1, 1) := by decide +kernel
theorem dJ11_isValidCodePoint_9a6ad_12 : decode cJ11_isValidCodePoint_9a6ad 12 = .ok (.goto 4, 3) := by decide +kernel
theorem dJ11_isValidCodePoint_9a6ad_15 : decode cJ11_isValidCodePoint_9a6ad 15 = .ok (.iconst 0, 1) := by decide +kernel
theorem dJ11_isValidCodePoint_9a6ad_16 : decode cJ11_isValidCodePoint_9a6ad 16 = .ok (.ireturn, 1) := by decide +kernel
theorem dJ11_highSurrogate_5068e_0 : decode cJ11_highSurrogate_5068e 0 = .ok (.iload_n 0, 1) := by decide +kernel
theorem dJ11_highSurrogate_5068e_1 : decode cJ11_highSurrogate_5068e 1 = .ok (.bipush 10, 2) := by decide +kernel
theorem dJ11_highSurrogate_5068e_3 : decode cJ11_highSurrogate_5068e 3 = .ok (.iushr, 1) := by decide +kernel
theorem dJ11_highSurrogate_5068e_4 : decode cJ11_highSurrogate_5068e 4 = .ok (.ldc 110, 2) := by decide +kernel
theorem dJ11_highSurrogate_5068e_6 : decode cJ11_highSurrogate_5068e 6 = .ok (.iadd, 1) := by decide +kernel
theorem dJ11_highSurrogate_5068e_7 : decode cJ11_highSurrogate_5068e 7 = .ok (.i2c, 1) := by decide +kernel
theorem dJ11_highSurrogate_5068e_8 : decode cJ11_highSurrogate_5068e 8 = .ok (.ireturn, 1) := by decide +kernel
theorem dJ11_lowSurrogate_5068e_0 : decode cJ11_lowSurrogate_5068e 0 = .ok (.iload_n 0, 1) := by decide +kernel
theorem dJ11_lowSurrogate_5068e_1 : decode cJ11_lowSurrogate_5068e 1 = .ok (.sipush 1023, 3) := by decide +kernel
theorem dJ11_lowSurrogate_5068e_4 : decode cJ11_lowSurrogate_5068e 4 = .ok (.iand, 1) := by decide +kernel
theorem dJ11_lowSurrogate_5068e_5 : decode cJ11_lowSurrogate_5068e 5 = .ok (.ldc 76, 2) := by decide +kernel
theorem dJ11_lowSurrogate_5068e_7 : decode cJ11_lowSurrogate_5068e 7 = .ok (.iadd, 1) := by decide +kernel
theorem dJ11_lowSurrogate_5068e_8 : decode cJ11_lowSurrogate_5068e 8 = .ok (.i2c, 1) := by decide +kernel
theorem dJ11_lowSurrogate_5068e_9 : decode cJ11_lowSurrogate_5068e 9 = .ok (.ireturn, 1) := by decide +kernel
theorem dJ9_max_7cf53_0 : decode cJ9_max_7cf53 0 = .ok (.iload_n 0, 1) := by decide +kernel
theorem dJ9_max_7cf53_1 : decode cJ9_max_7cf53 1 = .ok (.iload_n 1, 1) := by decide +kernel
theorem dJ9_max_7cf53_2 : decode cJ9_max_7cf53 2 = .ok (.if_icmp .lt 7, 3) := by decide +kernel
theorem dJ9_max_7cf53_5 : decode cJ9_max_7cf53 5 = .ok (.iload_n 0, 1) := by decide +kernel
theorem dJ9_max_7cf53_6 : decode cJ9_max_7cf53 6 = .ok (.goto 4, 3) := by decide +kernel
theorem dJ9_max_7cf53_9 : decode cJ9_max_7cf53 9 = .ok (.iload_n 1, 1) := by decide +kernel
theorem dJ9_max_7cf53_10 : decode cJ9_max_7cf53 10 = .ok (.ireturn, 1) := by decide +kernel
theorem dJ9_min_7cf53_0 : decode cJ9_min_7cf53 0 = .ok (.iload_n 0, 1) := by decide +kernel
theorem dJ9_min_7cf53_1 : decode cJ9_min_7cf53 1 = .ok (.iload_n 1, 1) := by decide +kernel
theorem dJ9_min_7cf53_2 : decode cJ9_min_7cf53 2 = .ok (.if_icmp .gt 7, 3) := by decide +kernel
theorem dJ9_min_7cf53_5 : decode cJ9_min_7cf53 5 = .ok (.iload_n 0, 1) := by decide +kernel
theorem dJ9_min_7cf53_6 : decode cJ9_min_7cf53 6 = .ok (.goto 4, 3) := by decide +kernel
theorem dJ9_min_7cf53_9 : decode cJ9_min_7cf53 9 = .ok (.iload_n 1, 1) := by decide +kernel
theorem dJ9_min_7cf53_10 : decode cJ9_min_7cf53 10 = .ok (.ireturn, 1) := by decide +kernel
theorem dJ0_length_8abf5_0 : decode cJ0_length_8abf5 0 = .ok (.aload_n 0, 1) := by decide +kernel
theorem dJ0_length_8abf5_1 : decode cJ0_length_8abf5 1 = .ok (.getfield 9, 3) := by decide +kernel
theorem dJ0_length_8abf5_4 : decode cJ0_length_8abf5 4 = .ok (.arraylength, 1) := by decide +kernel
theorem dJ0_length_8abf5_5 : decode cJ0_length_8abf5 5 = .ok (.aload_n 0, 1) := by decide +kernel
theorem dJ0_length_8abf5_6 : decode cJ0_length_8abf5 6 = .ok (.invokevirtual 335, 3) := by decide +kernel
theorem dJ0_length_8abf5_9 : decode cJ0_length_8abf5 9 = .ok (.ishr, 1) := by decide +kernel
theorem dJ0_length_8abf5_10 : decode cJ0_length_8abf5 10 = .ok (.ireturn, 1) := by decide +kernel
theorem dJ0_indexOf_0f7a4_0 : decode cJ0_indexOf_0f7a4 0 = .ok (.aload_n 0, 1) := by decide +kernel
theorem dJ0_indexOf_0f7a4_1 : decode cJ0_indexOf_0f7a4 1 = .ok (.iload_n 1, 1) := by decide +kernel
theorem dJ0_indexOf_0f7a4_2 : decode cJ0_indexOf_0f7a4 2 = .ok (.iconst 0, 1) := by decide +kernel
theorem dJ0_indexOf_0f7a4_3 : decode cJ0_indexOf_0f7a4 3 = .ok (.invokevirtual 633, 3) := by decide +kernel
theorem dJ0_indexOf_0f7a4_6 : decode cJ0_indexOf_0f7a4 6 = .ok (.ireturn, 1) := by decide +kernel
theorem dJ0_indexOf_7cf53_0 : decode cJ0_indexOf_7cf53 0 = .ok (.aload_n 0, 1) := by decide +kernel
theorem dJ0_indexOf_7cf53_1 : decode cJ0_indexOf_7cf53 1 = .ok (.invokevirtual 492, 3) := by decide +kernel
theorem dJ0_indexOf_7cf53_4 : decode cJ0_indexOf_7cf53 4 = .ok (.ifCond .eq 19, 3) := by decide +kernel
theorem dJ0_indexOf_7cf53_7 : decode cJ0_indexOf_7cf53 7 = .ok (.aload_n 0, 1) := by decide +kernel
theorem dJ0_indexOf_7cf53_8 : decode cJ0_indexOf_7cf53 8 = .ok (.getfield 9, 3) := by decide +kernel
theorem dJ0_indexOf_7cf53_11 : decode cJ0_indexOf_7cf53 11 = .ok (.iload_n 1, 1) := by decide +kernel
theorem dJ0_indexOf_7cf53_12 : decode cJ0_indexOf_7cf53 12 = .ok (.iload_n 2, 1) := by decide +kernel
theorem dJ0_indexOf_7cf53_13 : decode cJ0_indexOf_7cf53 13 = .ok (.aload_n 0, 1) := by decide +kernel
theorem dJ0_indexOf_7cf53_14 : decode cJ0_indexOf_7cf53 14 = .ok (.invokevirtual 505, 3) := by decide +kernel
theorem dJ0_indexOf_7cf53_17 : decode cJ0_indexOf_7cf53 17 = .ok (.invokestatic 637, 3) := by decide +kernel
theorem dJ0_indexOf_7cf53_20 : decode cJ0_indexOf_7cf53 20 = .ok (.goto 16, 3) := by decide +kernel
theorem dJ0_indexOf_7cf53_23 : decode cJ0_indexOf_7cf53 23 = .ok (.aload_n 0, 1) := by decide +kernel
theorem dJ0_indexOf_7cf53_24 : decode cJ0_indexOf_7cf53 24 = .ok (.getfield 9, 3) := by decide +kernel
theorem dJ0_indexOf_7cf53_27 : decode cJ0_indexOf_7cf53 27 = .ok (.iload_n 1, 1) := by decide +kernel
theorem dJ0_indexOf_7cf53_28 : decode cJ0_indexOf_7cf53 28 = .ok (.iload_n 2, 1) := by decide +kernel
theorem dJ0_indexOf_7cf53_29 : decode cJ0_indexOf_7cf53 29 = .ok (.aload_n 0, 1) := by decide +kernel
theorem dJ0_indexOf_7cf53_30 : decode cJ0_indexOf_7cf53 30 = .ok (.invokevirtual 505, 3) := by decide +kernel
theorem dJ0_indexOf_7cf53_33 : decode cJ0_indexOf_7cf53 33 = .ok (.invokestatic 640, 3) := by decide +kernel
theorem dJ0_indexOf_7cf53_36 : decode cJ0_indexOf_7cf53 36 = .ok (.ireturn, 1) := by decide +kernel
theorem dJ0_coder_7d493_0 : decode cJ0_coder_7d493 0 = .ok (.getstatic 38, 3) := by decide +kernel
theorem dJ0_coder_7d493_3 : decode cJ0_coder_7d493 3 = .ok (.ifCond .eq 10, 3) := by decide +kernel
theorem dJ0_coder_7d493_6 : decode cJ0_coder_7d493 6 = .ok (.aload_n 0, 1) := by decide +kernel
theorem dJ0_coder_7d493_7 : decode cJ0_coder_7d493 7 = .ok (.getfield 15, 3) := by decide +kernel
theorem dJ0_coder_7d493_10 : decode cJ0_coder_7d493 10 = .ok (.goto 4, 3) := by decide +kernel
theorem dJ0_coder_7d493_13 : decode cJ0_coder_7d493 13 = .ok (.iconst 1, 1) := by decide +kernel
theorem dJ0_coder_7d493_14 : decode cJ0_coder_7d493 14 = .ok (.ireturn, 1) := by decide +kernel
theorem dJ0_isLatin1_aae02_0 : decode cJ0_isLatin1_aae02 0 = .ok (.getstatic 38, 3) := by decide +kernel
theorem dJ0_isLatin1_aae02_3 : decode cJ0_isLatin1_aae02 3 = .ok (.ifCond .eq 14, 3) := by decide +kernel
theorem dJ0_isLatin1_aae02_6 : decode cJ0_isLatin1_aae02 6 = .ok (.aload_n 0, 1) := by decide +kernel
theorem dJ0_isLatin1_aae02_7 : decode cJ0_isLatin1_aae02 7 = .ok (.getfield 15, 3) := by decide +kernel
theorem dJ0_isLatin1_aae02_10 : decode cJ0_isLatin1_aae02 10 = .ok (.ifCond .ne 7, 3) := by decide +kernel
theorem dJ0_isLatin1_aae02_13 : decode cJ0_isLatin1_aae02 13 = .ok (.iconst 1, 1) := by decide +kernel
theorem dJ0_isLatin1_aae02_14 : decode cJ0_isLatin1_aae02 14 = .ok (.goto 4, 3) := by decide +kernel
theorem dJ0_isLatin1_aae02_17 : decode cJ0_isLatin1_aae02 17 = .ok (.iconst 0, 1) := by decide +kernel
theorem dJ0_isLatin1_aae02_18 : decode cJ0_isLatin1_aae02 18 = .ok (.ireturn, 1) := by decide +kernel
theorem dJ0_checkBoundsBeginEnd_23922_0 : decode cJ0_checkBoundsBeginEnd_23922 0 = .ok (.iload_n 0, 1) := by decide +kernel
theorem dJ0_checkBoundsBeginEnd_23922_1 : decode cJ0_checkBoundsBeginEnd_23922 1 = .ok (.iload_n 1, 1) := by decide +kernel
theorem dJ0_checkBoundsBeginEnd_23922_2 : decode cJ0_checkBoundsBeginEnd_23922 2 = .ok (.iload_n 2, 1) := by decide +kernel
theorem dJ0_checkBoundsBeginEnd_23922_3 : decode cJ0_checkBoundsBeginEnd_23922 3 = .ok (.getstatic 1053, 3) := by decide +kernel
theorem dJ0_checkBoundsBeginEnd_23922_6 : decode cJ0_checkBoundsBeginEnd_23922 6 = .ok (.invokestatic 1062, 3) := by decide +kernel
theorem dJ0_checkBoundsBeginEnd_23922_9 : decode cJ0_checkBoundsBeginEnd_23922 9 = .ok (.pop, 1) := by decide +kernel
theorem dJ0_checkBoundsBeginEnd_23922_10 : decode cJ0_checkBoundsBeginEnd_23922 10 = .ok (.return_, 1) := by decide +kernel
theorem dJ1_canEncode_9a6ad_0 : decode cJ1_canEncode_9a6ad 0 = .ok (.iload_n 0, 1) := by decide +kernel
theorem dJ1_canEncode_9a6ad_1 : decode cJ1_canEncode_9a6ad 1 = .ok (.ifCond .lt 14, 3) := by decide +kernel
theorem dJ1_canEncode_9a6ad_4 : decode cJ1_canEncode_9a6ad 4 = .ok (.iload_n 0, 1) := by decide +kernel
theorem dJ1_canEncode_9a6ad_5 : decode cJ1_canEncode_9a6ad 5 = .ok (.sipush 255, 3) := by decide +kernel
theorem dJ1_canEncode_9a6ad_8 : decode cJ1_canEncode_9a6ad 8 = .ok (.if_icmp .gt 7, 3) := by decide +kernel
theorem dJ1_canEncode_9a6ad_11 : decode cJ1_canEncode_9a6ad 11 = .ok (.iconst 1, 1) := by decide +kernel
theorem dJ1_canEncode_9a6ad_12 : decode cJ1_canEncode_9a6ad 12 = .ok (.goto 4, 3) := by decide +kernel
theorem dJ1_canEncode_9a6ad_15 : decode cJ1_canEncode_9a6ad 15 = .ok (.iconst 0, 1) := by decide +kernel
theorem dJ1_canEncode_9a6ad_16 : decode cJ1_canEncode_9a6ad 16 = .ok (.ireturn, 1) := by decide +kernel
theorem dJ1_indexOf_4cfef_0 : decode cJ1_indexOf_4cfef 0 = .ok (.iload_n 1, 1) := by decide +kernel
theorem dJ1_indexOf_4cfef_1 : decode cJ1_indexOf_4cfef 1 = .ok (.invokestatic 88, 3) := by decide +kernel
theorem dJ1_indexOf_4cfef_4 : decode cJ1_indexOf_4cfef 4 = .ok (.ifCond .ne 5, 3) := by decide +kernel
theorem dJ1_indexOf_4cfef_7 : decode cJ1_indexOf_4cfef 7 = .ok (.iconst (-1), 1) := by decide +kernel
theorem dJ1_indexOf_4cfef_8 : decode cJ1_indexOf_4cfef 8 = .ok (.ireturn, 1) := by decide +kernel
theorem dJ1_indexOf_4cfef_9 : decode cJ1_indexOf_4cfef 9 = .ok (.iload_n 2, 1) := by decide +kernel
theorem dJ1_indexOf_4cfef_10 : decode cJ1_indexOf_4cfef 10 = .ok (.iconst 0, 1) := by decide +kernel
theorem dJ1_indexOf_4cfef_11 : decode cJ1_indexOf_4cfef 11 = .ok (.invokestatic 92, 3) := by decide +kernel
theorem dJ1_indexOf_4cfef_14 : decode cJ1_indexOf_4cfef 14 = .ok (.istore_n 2, 1) := by decide +kernel
theorem dJ1_indexOf_4cfef_15 : decode cJ1_indexOf_4cfef 15 = .ok (.iload_n 3, 1) := by decide +kernel
theorem dJ1_indexOf_4cfef_16 : decode cJ1_indexOf_4cfef 16 = .ok (.aload_n 0, 1) := by decide +kernel
theorem dJ1_indexOf_4cfef_17 : decode cJ1_indexOf_4cfef 17 = .ok (.arraylength, 1) := by decide +kernel
theorem dJ1_indexOf_4cfef_18 : decode cJ1_indexOf_4cfef 18 = .ok (.invokestatic 38, 3) := by decide +kernel
theorem dJ1_indexOf_4cfef_21 : decode cJ1_indexOf_4cfef 21 = .ok (.istore_n 3, 1) := by decide +kernel
theorem dJ1_indexOf_4cfef_22 : decode cJ1_indexOf_4cfef 22 = .ok (.iload_n 2, 1) := by decide +kernel
theorem dJ1_indexOf_4cfef_23 : decode cJ1_indexOf_4cfef 23 = .ok (.iload_n 3, 1) := by decide +kernel
theorem dJ1_indexOf_4cfef_24 : decode cJ1_indexOf_4cfef 24 = .ok (.if_icmp .lt 5, 3) := by decide +kernel
theorem dJ1_indexOf_4cfef_27 : decode cJ1_indexOf_4cfef 27 = .ok (.iconst (-1), 1) := by decide +kernel
theorem dJ1_indexOf_4cfef_28 : decode cJ1_indexOf_4cfef 28 = .ok (.ireturn, 1) := by decide +kernel
theorem dJ1_indexOf_4cfef_29 : decode cJ1_indexOf_4cfef 29 = .ok (.aload_n 0, 1) := by decide +kernel
theorem dJ1_indexOf_4cfef_30 : decode cJ1_indexOf_4cfef 30 = .ok (.iload_n 1, 1) := by decide +kernel
theorem dJ1_indexOf_4cfef_31 : decode cJ1_indexOf_4cfef 31 = .ok (.iload_n 2, 1) := by decide +kernel
theorem dJ1_indexOf_4cfef_32 : decode cJ1_indexOf_4cfef 32 = .ok (.iload_n 3, 1) := by decide +kernel
theorem dJ1_indexOf_4cfef_33 : decode cJ1_indexOf_4cfef 33 = .ok (.invokestatic 95, 3) := by decide +kernel
theorem dJ1_indexOf_4cfef_36 : decode cJ1_indexOf_4cfef 36 = .ok (.ireturn, 1) := by decide +kernel
theorem dJ1_indexOfChar_4cfef_0 : decode cJ1_indexOfChar_4cfef 0 = .ok (.iload_n 1, 1) := by decide +kernel
theorem dJ1_indexOfChar_4cfef_1 : decode cJ1_indexOfChar_4cfef 1 = .ok (.i2b, 1) := by decide +kernel
theorem dJ1_indexOfChar_4cfef_2 : decode cJ1_indexOfChar_4cfef 2 = .ok (.istore 4, 2) := by decide +kernel
theorem dJ1_indexOfChar_4cfef_4 : decode cJ1_indexOfChar_4cfef 4 = .ok (.iload_n 2, 1) := by decide +kernel
theorem dJ1_indexOfChar_4cfef_5 : decode cJ1_indexOfChar_4cfef 5 = .ok (.istore 5, 2) := by decide +kernel
theorem dJ1_indexOfChar_4cfef_7 : decode cJ1_indexOfChar_4cfef 7 = .ok (.iload 5, 2) := by decide +kernel
theorem dJ1_indexOfChar_4cfef_9 : decode cJ1_indexOfChar_4cfef 9 = .ok (.iload_n 3, 1) := by decide +kernel
theorem dJ1_indexOfChar_4cfef_10 : decode cJ1_indexOfChar_4cfef 10 = .ok (.if_icmp .ge 21, 3) := by decide +kernel
theorem dJ1_indexOfChar_4cfef_13 : decode cJ1_indexOfChar_4cfef 13 = .ok (.aload_n 0, 1) := by decide +kernel
theorem dJ1_indexOfChar_4cfef_14 : decode cJ1_indexOfChar_4cfef 14 = .ok (.iload 5, 2) := by decide +kernel
theorem dJ1_indexOfChar_4cfef_16 : decode cJ1_indexOfChar_4cfef 16 = .ok (.baload, 1) := by decide +kernel
theorem dJ1_indexOfChar_4cfef_17 : decode cJ1_indexOfChar_4cfef 17 = .ok (.iload 4, 2) := by decide +kernel
theorem dJ1_indexOfChar_4cfef_19 : decode cJ1_indexOfChar_4cfef 19 = .ok (.if_icmp .ne 6, 3) := by decide +kernel
theorem dJ1_indexOfChar_4cfef_22 : decode cJ1_indexOfChar_4cfef 22 = .ok (.iload 5, 2) := by decide +kernel
theorem dJ1_indexOfChar_4cfef_24 : decode cJ1_indexOfChar_4cfef 24 = .ok (.ireturn, 1) := by decide +kernel
theorem dJ1_indexOfChar_4cfef_25 : decode cJ1_indexOfChar_4cfef 25 = .ok (.iinc 5 1, 3) := by decide +kernel
theorem dJ1_indexOfChar_4cfef_28 : decode cJ1_indexOfChar_4cfef 28 = .ok (.goto (-21), 3) := by decide +kernel
theorem dJ1_indexOfChar_4cfef_31 : decode cJ1_indexOfChar_4cfef 31 = .ok (.iconst (-1), 1) := by decide +kernel
theorem dJ1_indexOfChar_4cfef_32 : decode cJ1_indexOfChar_4cfef 32 = .ok (.ireturn, 1) := by decide +kernel
theorem dJ2_getChar_3b067_0 : decode cJ2_getChar_3b067 0 = .ok (.getstatic 44, 3) := by decide +kernel
theorem dJ2_getChar_3b067_3 : decode cJ2_getChar_3b067 3 = .ok (.ifCond .ne 25, 3) := by decide +kernel
theorem dJ2_getChar_3b067_6 : decode cJ2_getChar_3b067 6 = .ok (.iload_n 1, 1) := by decide +kernel
theorem dJ2_getChar_3b067_7 : decode cJ2_getChar_3b067 7 = .ok (.ifCond .lt 11, 3) := by decide +kernel
theorem dJ2_getChar_3b067_10 : decode cJ2_getChar_3b067 10 = .ok (.iload_n 1, 1) := by decide +kernel
theorem dJ2_getChar_3b067_11 : decode cJ2_getChar_3b067 11 = .ok (.aload_n 0, 1) := by decide +kernel
theorem dJ2_getChar_3b067_12 : decode cJ2_getChar_3b067 12 = .ok (.invokestatic 48, 3) := by decide +kernel
theorem dJ2_getChar_3b067_15 : decode cJ2_getChar_3b067 15 = .ok (.if_icmp .lt 13, 3) := by decide +kernel
theorem dJ2_getChar_3b067_18 : decode cJ2_getChar_3b067 18 = .ok (.new 52, 3) := by decide +kernel
theorem dJ2_getChar_3b067_21 : decode cJ2_getChar_3b067 21 = .ok (.dup, 1) := by decide +kernel
theorem dJ2_getChar_3b067_22 : decode cJ2_getChar_3b067 22 = .ok (.ldc 54, 2) := by decide +kernel
theorem dJ2_getChar_3b067_24 : decode cJ2_getChar_3b067 24 = .ok (.invokespecial 56, 3) := by decide +kernel
theorem dJ2_getChar_3b067_27 : decode cJ2_getChar_3b067 27 = .ok (.athrow, 1) := by decide +kernel
theorem dJ2_getChar_3b067_28 : decode cJ2_getChar_3b067 28 = .ok (.iload_n 1, 1) := by decide +kernel
theorem dJ2_getChar_3b067_29 : decode cJ2_getChar_3b067 29 = .ok (.iconst 1, 1) := by decide +kernel
theorem dJ2_getChar_3b067_30 : decode cJ2_getChar_3b067 30 = .ok (.ishl, 1) := by decide +kernel
theorem dJ2_getChar_3b067_31 : decode cJ2_getChar_3b067 31 = .ok (.istore_n 1, 1) := by decide +kernel
theorem dJ2_getChar_3b067_32 : decode cJ2_getChar_3b067 32 = .ok (.aload_n 0, 1) := by decide +kernel
theorem dJ2_getChar_3b067_33 : decode cJ2_getChar_3b067 33 = .ok (.iload_n 1, 1) := by decide +kernel
theorem dJ2_getChar_3b067_34 : decode cJ2_getChar_3b067 34 = .ok (.iinc 1 1, 3) := by decide +kernel
theorem dJ2_getChar_3b067_37 : decode cJ2_getChar_3b067 37 = .ok (.baload, 1) := by decide +kernel
theorem dJ2_getChar_3b067_38 : decode cJ2_getChar_3b067 38 = .ok (.sipush 255, 3) := by decide +kernel
theorem dJ2_getChar_3b067_41 : decode cJ2_getChar_3b067 41 = .ok (.iand, 1) := by decide +kernel
theorem dJ2_getChar_3b067_42 : decode cJ2_getChar_3b067 42 = .ok (.getstatic 59, 3) := by decide +kernel
theorem dJ2_getChar_3b067_45 : decode cJ2_getChar_3b067 45 = .ok (.ishl, 1) := by decide +kernel
theorem dJ2_getChar_3b067_46 : decode cJ2_getChar_3b067 46 = .ok (.aload_n 0, 1) := by decide +kernel
theorem dJ2_getChar_3b067_47 : decode cJ2_getChar_3b067 47 = .ok (.iload_n 1, 1) := by decide +kernel
theorem dJ2_getChar_3b067_48 : decode cJ2_getChar_3b067 48 = .ok (.baload, 1) := by decide +kernel
theorem dJ2_getChar_3b067_49 : decode cJ2_getChar_3b067 49 = .ok (.sipush 255, 3) := by decide +kernel
theorem dJ2_getChar_3b067_52 : decode cJ2_getChar_3b067 52 = .ok (.iand, 1) := by decide +kernel
theorem dJ2_getChar_3b067_53 : decode cJ2_getChar_3b067 53 = .ok (.getstatic 63, 3) := by decide +kernel
theorem dJ2_getChar_3b067_56 : decode cJ2_getChar_3b067 56 = .ok (.ishl, 1) := by decide +kernel
theorem dJ2_getChar_3b067_57 : decode cJ2_getChar_3b067 57 = .ok (.ior, 1) := by decide +kernel
theorem dJ2_getChar_3b067_58 : decode cJ2_getChar_3b067 58 = .ok (.i2c, 1) := by decide +kernel
theorem dJ2_getChar_3b067_59 : decode cJ2_getChar_3b067 59 = .ok (.ireturn, 1) := by decide +kernel
theorem dJ2_length_9d52b_0 : decode cJ2_length_9d52b 0 = .ok (.aload_n 0, 1) := by decide +kernel
theorem dJ2_length_9d52b_1 : decode cJ2_length_9d52b 1 = .ok (.arraylength, 1) := by decide +kernel
theorem dJ2_length_9d52b_2 : decode cJ2_length_9d52b 2 = .ok (.iconst 1, 1) := by decide +kernel
theorem dJ2_length_9d52b_3 : decode cJ2_length_9d52b 3 = .ok (.ishr, 1) := by decide +kernel
theorem dJ2_length_9d52b_4 : decode cJ2_length_9d52b 4 = .ok (.ireturn, 1) := by decide +kernel
theorem dJ2_indexOf_4cfef_0 : decode cJ2_indexOf_4cfef 0 = .ok (.iload_n 2, 1) := by decide +kernel
theorem dJ2_indexOf_4cfef_1 : decode cJ2_indexOf_4cfef 1 = .ok (.iconst 0, 1) := by decide +kernel
theorem dJ2_indexOf_4cfef_2 : decode cJ2_indexOf_4cfef 2 = .ok (.invokestatic 224, 3) := by decide +kernel
theorem dJ2_indexOf_4cfef_5 : decode cJ2_indexOf_4cfef 5 = .ok (.istore_n 2, 1) := by decide +kernel
theorem dJ2_indexOf_4cfef_6 : decode cJ2_indexOf_4cfef 6 = .ok (.iload_n 3, 1) := by decide +kernel
theorem dJ2_indexOf_4cfef_7 : decode cJ2_indexOf_4cfef 7 = .ok (.aload_n 0, 1) := by decide +kernel
theorem dJ2_indexOf_4cfef_8 : decode cJ2_indexOf_4cfef 8 = .ok (.arraylength, 1) := by decide +kernel
theorem dJ2_indexOf_4cfef_9 : decode cJ2_indexOf_4cfef 9 = .ok (.iconst 1, 1) := by decide +kernel
theorem dJ2_indexOf_4cfef_10 : decode cJ2_indexOf_4cfef 10 = .ok (.ishr, 1) := by decide +kernel
theorem dJ2_indexOf_4cfef_11 : decode cJ2_indexOf_4cfef 11 = .ok (.invokestatic 183, 3) := by decide +kernel
theorem dJ2_indexOf_4cfef_14 : decode cJ2_indexOf_4cfef 14 = .ok (.istore_n 3, 1) := by decide +kernel
theorem dJ2_indexOf_4cfef_15 : decode cJ2_indexOf_4cfef 15 = .ok (.iload_n 2, 1) := by decide +kernel
theorem dJ2_indexOf_4cfef_16 : decode cJ2_indexOf_4cfef 16 = .ok (.iload_n 3, 1) := by decide +kernel
theorem dJ2_indexOf_4cfef_17 : decode cJ2_indexOf_4cfef 17 = .ok (.if_icmp .lt 5, 3) := by decide +kernel
theorem dJ2_indexOf_4cfef_20 : decode cJ2_indexOf_4cfef 20 = .ok (.iconst (-1), 1) := by decide +kernel
theorem dJ2_indexOf_4cfef_21 : decode cJ2_indexOf_4cfef 21 = .ok (.ireturn, 1) := by decide +kernel
theorem dJ2_indexOf_4cfef_22 : decode cJ2_indexOf_4cfef 22 = .ok (.iload_n 1, 1) := by decide +kernel
theorem dJ2_indexOf_4cfef_23 : decode cJ2_indexOf_4cfef 23 = .ok (.ldc 227, 2) := by decide +kernel
theorem dJ2_indexOf_4cfef_25 : decode cJ2_indexOf_4cfef 25 = .ok (.if_icmp .ge 11, 3) := by decide +kernel
theorem dJ2_indexOf_4cfef_28 : decode cJ2_indexOf_4cfef 28 = .ok (.aload_n 0, 1) := by decide +kernel
theorem dJ2_indexOf_4cfef_29 : decode cJ2_indexOf_4cfef 29 = .ok (.iload_n 1, 1) := by decide +kernel
theorem dJ2_indexOf_4cfef_30 : decode cJ2_indexOf_4cfef 30 = .ok (.iload_n 2, 1) := by decide +kernel
theorem dJ2_indexOf_4cfef_31 : decode cJ2_indexOf_4cfef 31 = .ok (.iload_n 3, 1) := by decide +kernel
theorem dJ2_indexOf_4cfef_32 : decode cJ2_indexOf_4cfef 32 = .ok (.invokestatic 228, 3) := by decide +kernel
theorem dJ2_indexOf_4cfef_35 : decode cJ2_indexOf_4cfef 35 = .ok (.ireturn, 1) := by decide +kernel
theorem dJ2_indexOf_4cfef_36 : decode cJ2_indexOf_4cfef 36 = .ok (.aload_n 0, 1) := by decide +kernel
theorem dJ2_indexOf_4cfef_37 : decode cJ2_indexOf_4cfef 37 = .ok (.iload_n 1, 1) := by decide +kernel
theorem dJ2_indexOf_4cfef_38 : decode cJ2_indexOf_4cfef 38 = .ok (.iload_n 2, 1) := by decide +kernel
theorem dJ2_indexOf_4cfef_39 : decode cJ2_indexOf_4cfef 39 = .ok (.iload_n 3, 1) := by decide +kernel
theorem dJ2_indexOf_4cfef_40 : decode cJ2_indexOf_4cfef 40 = .ok (.invokestatic 232, 3) := by decide +kernel
theorem dJ2_indexOf_4cfef_43 : decode cJ2_indexOf_4cfef 43 = .ok (.ireturn, 1) := by decide +kernel
theorem dJ2_indexOfChar_4cfef_0 : decode cJ2_indexOfChar_4cfef 0 = .ok (.iload_n 2, 1) := by decide +kernel
theorem dJ2_indexOfChar_4cfef_1 : decode cJ2_indexOfChar_4cfef 1 = .ok (.iload_n 3, 1) := by decide +kernel
theorem dJ2_indexOfChar_4cfef_2 : decode cJ2_indexOfChar_4cfef 2 = .ok (.aload_n 0, 1) := by decide +kernel
theorem dJ2_indexOfChar_4cfef_3 : decode cJ2_indexOfChar_4cfef 3 = .ok (.invokestatic 96, 3) := by decide +kernel
theorem dJ2_indexOfChar_4cfef_6 : decode cJ2_indexOfChar_4cfef 6 = .ok (.aload_n 0, 1) := by decide +kernel
theorem dJ2_indexOfChar_4cfef_7 : decode cJ2_indexOfChar_4cfef 7 = .ok (.iload_n 1, 1) := by decide +kernel
theorem dJ2_indexOfChar_4cfef_8 : decode cJ2_indexOfChar_4cfef 8 = .ok (.iload_n 2, 1) := by decide +kernel
theorem dJ2_indexOfChar_4cfef_9 : decode cJ2_indexOfChar_4cfef 9 = .ok (.iload_n 3, 1) := by decide +kernel
theorem dJ2_indexOfChar_4cfef_10 : decode cJ2_indexOfChar_4cfef 10 = .ok (.invokestatic 244, 3) := by decide +kernel
theorem dJ2_indexOfChar_4cfef_13 : decode cJ2_indexOfChar_4cfef 13 = .ok (.ireturn, 1) := by decide +kernel
theorem dJ2_indexOfCharUnsafe_4cfef_0 : decode cJ2_indexOfCharUnsafe_4cfef 0 = .ok (.iload_n 2, 1) := by decide +kernel
theorem dJ2_indexOfCharUnsafe_4cfef_1 : decode cJ2_indexOfCharUnsafe_4cfef 1 = .ok (.istore 4, 2) := by decide +kernel
theorem dJ2_indexOfCharUnsafe_4cfef_3 : decode cJ2_indexOfCharUnsafe_4cfef 3 = .ok (.iload 4, 2) := by decide +kernel
theorem dJ2_indexOfCharUnsafe_4cfef_5 : decode cJ2_indexOfCharUnsafe_4cfef 5 = .ok (.iload_n 3, 1) := by decide +kernel
theorem dJ2_indexOfCharUnsafe_4cfef_6 : decode cJ2_indexOfCharUnsafe_4cfef 6 = .ok (.if_icmp .ge 22, 3) := by decide +kernel
theorem dJ2_indexOfCharUnsafe_4cfef_9 : decode cJ2_indexOfCharUnsafe_4cfef 9 = .ok (.aload_n 0, 1) := by decide +kernel
theorem dJ2_indexOfCharUnsafe_4cfef_10 : decode cJ2_indexOfCharUnsafe_4cfef 10 = .ok (.iload 4, 2) := by decide +kernel
theorem dJ2_indexOfCharUnsafe_4cfef_12 : decode cJ2_indexOfCharUnsafe_4cfef 12 = .ok (.invokestatic 71, 3) := by decide +kernel
theorem dJ2_indexOfCharUnsafe_4cfef_15 : decode cJ2_indexOfCharUnsafe_4cfef 15 = .ok (.iload_n 1, 1) := by decide +kernel
theorem dJ2_indexOfCharUnsafe_4cfef_16 : decode cJ2_indexOfCharUnsafe_4cfef 16 = .ok (.if_icmp .ne 6, 3) := by decide +kernel
theorem dJ2_indexOfCharUnsafe_4cfef_19 : decode cJ2_indexOfCharUnsafe_4cfef 19 = .ok (.iload 4, 2) := by decide +kernel
theorem dJ2_indexOfCharUnsafe_4cfef_21 : decode cJ2_indexOfCharUnsafe_4cfef 21 = .ok (.ireturn, 1) := by decide +kernel
theorem dJ2_indexOfCharUnsafe_4cfef_22 : decode cJ2_indexOfCharUnsafe_4cfef 22 = .ok (.iinc 4 1, 3) := by decide +kernel
theorem dJ2_indexOfCharUnsafe_4cfef_25 : decode cJ2_indexOfCharUnsafe_4cfef 25 = .ok (.goto (-22), 3) := by decide +kernel
theorem dJ2_indexOfCharUnsafe_4cfef_28 : decode cJ2_indexOfCharUnsafe_4cfef 28 = .ok (.iconst (-1), 1) := by decide +kernel
theorem dJ2_indexOfCharUnsafe_4cfef_29 : decode cJ2_indexOfCharUnsafe_4cfef 29 = .ok (.ireturn, 1) := by decide +kernel
theorem dJ2_indexOfSupplementary_4cfef_0 : decode cJ2_indexOfSupplementary_4cfef 0 = .ok (.iload_n 1, 1) := by decide +kernel
theorem dJ2_indexOfSupplementary_4cfef_1 : decode cJ2_indexOfSupplementary_4cfef 1 = .ok (.invokestatic 164, 3) := by decide +kernel
theorem dJ2_indexOfSupplementary_4cfef_4 : decode cJ2_indexOfSupplementary_4cfef 4 = .ok (.ifCond .eq 65, 3) := by decide +kernel
theorem dJ2_indexOfSupplementary_4cfef_7 : decode cJ2_indexOfSupplementary_4cfef 7 = .ok (.iload_n 1, 1) := by decide +kernel
theorem dJ2_indexOfSupplementary_4cfef_8 : decode cJ2_indexOfSupplementary_4cfef 8 = .ok (.invokestatic 157, 3) := by decide +kernel
theorem dJ2_indexOfSupplementary_4cfef_11 : decode cJ2_indexOfSupplementary_4cfef 11 = .ok (.istore 4, 2) := by decide +kernel
theorem dJ2_indexOfSupplementary_4cfef_13 : decode cJ2_indexOfSupplementary_4cfef 13 = .ok (.iload_n 1, 1) := by decide +kernel
theorem dJ2_indexOfSupplementary_4cfef_14 : decode cJ2_indexOfSupplementary_4cfef 14 = .ok (.invokestatic 161, 3) := by decide +kernel
theorem dJ2_indexOfSupplementary_4cfef_17 : decode cJ2_indexOfSupplementary_4cfef 17 = .ok (.istore 5, 2) := by decide +kernel
theorem dJ2_indexOfSupplementary_4cfef_19 : decode cJ2_indexOfSupplementary_4cfef 19 = .ok (.iload_n 2, 1) := by decide +kernel
theorem dJ2_indexOfSupplementary_4cfef_20 : decode cJ2_indexOfSupplementary_4cfef 20 = .ok (.iload_n 3, 1) := by decide +kernel
theorem dJ2_indexOfSupplementary_4cfef_21 : decode cJ2_indexOfSupplementary_4cfef 21 = .ok (.aload_n 0, 1) := by decide +kernel
theorem dJ2_indexOfSupplementary_4cfef_22 : decode cJ2_indexOfSupplementary_4cfef 22 = .ok (.invokestatic 96, 3) := by decide +kernel
theorem dJ2_indexOfSupplementary_4cfef_25 : decode cJ2_indexOfSupplementary_4cfef 25 = .ok (.iload_n 2, 1) := by decide +kernel
theorem dJ2_indexOfSupplementary_4cfef_26 : decode cJ2_indexOfSupplementary_4cfef 26 = .ok (.istore 6, 2) := by decide +kernel
theorem dJ2_indexOfSupplementary_4cfef_28 : decode cJ2_indexOfSupplementary_4cfef 28 = .ok (.iload 6, 2) := by decide +kernel
theorem dJ2_indexOfSupplementary_4cfef_30 : decode cJ2_indexOfSupplementary_4cfef 30 = .ok (.iload_n 3, 1) := by decide +kernel
theorem dJ2_indexOfSupplementary_4cfef_31 : decode cJ2_indexOfSupplementary_4cfef 31 = .ok (.iconst 1, 1) := by decide +kernel
theorem dJ2_indexOfSupplementary_4cfef_32 : decode cJ2_indexOfSupplementary_4cfef 32 = .ok (.isub, 1) := by decide +kernel
theorem dJ2_indexOfSupplementary_4cfef_33 : decode cJ2_indexOfSupplementary_4cfef 33 = .ok (.if_icmp .ge 36, 3) := by decide +kernel
theorem dJ2_indexOfSupplementary_4cfef_36 : decode cJ2_indexOfSupplementary_4cfef 36 = .ok (.aload_n 0, 1) := by decide +kernel
theorem dJ2_indexOfSupplementary_4cfef_37 : decode cJ2_indexOfSupplementary_4cfef 37 = .ok (.iload 6, 2) := by decide +kernel
theorem dJ2_indexOfSupplementary_4cfef_39 : decode cJ2_indexOfSupplementary_4cfef 39 = .ok (.invokestatic 71, 3) := by decide +kernel
theorem dJ2_indexOfSupplementary_4cfef_42 : decode cJ2_indexOfSupplementary_4cfef 42 = .ok (.iload 4, 2) := by decide +kernel
theorem dJ2_indexOfSupplementary_4cfef_44 : decode cJ2_indexOfSupplementary_4cfef 44 = .ok (.if_icmp .ne 19, 3) := by decide +kernel
theorem dJ2_indexOfSupplementary_4cfef_47 : decode cJ2_indexOfSupplementary_4cfef 47 = .ok (.aload_n 0, 1) := by decide +kernel
theorem dJ2_indexOfSupplementary_4cfef_48 : decode cJ2_indexOfSupplementary_4cfef 48 = .ok (.iload 6, 2) := by decide +kernel
theorem dJ2_indexOfSupplementary_4cfef_50 : decode cJ2_indexOfSupplementary_4cfef 50 = .ok (.iconst 1, 1) := by decide +kernel
theorem dJ2_indexOfSupplementary_4cfef_51 : decode cJ2_indexOfSupplementary_4cfef 51 = .ok (.iadd, 1) := by decide +kernel
theorem dJ2_indexOfSupplementary_4cfef_52 : decode cJ2_indexOfSupplementary_4cfef 52 = .ok (.invokestatic 71, 3) := by decide +kernel
theorem dJ2_indexOfSupplementary_4cfef_55 : decode cJ2_indexOfSupplementary_4cfef 55 = .ok (.iload 5, 2) := by decide +kernel
theorem dJ2_indexOfSupplementary_4cfef_57 : decode cJ2_indexOfSupplementary_4cfef 57 = .ok (.if_icmp .ne 6, 3) := by decide +kernel
theorem dJ2_indexOfSupplementary_4cfef_60 : decode cJ2_indexOfSupplementary_4cfef 60 = .ok (.iload 6, 2) := by decide +kernel
theorem dJ2_indexOfSupplementary_4cfef_62 : decode cJ2_indexOfSupplementary_4cfef 62 = .ok (.ireturn, 1) := by decide +kernel
theorem dJ2_indexOfSupplementary_4cfef_63 : decode cJ2_indexOfSupplementary_4cfef 63 = .ok (.iinc 6 1, 3) := by decide +kernel
theorem dJ2_indexOfSupplementary_4cfef_66 : decode cJ2_indexOfSupplementary_4cfef 66 = .ok (.goto (-38), 3) := by decide +kernel
theorem dJ2_indexOfSupplementary_4cfef_69 : decode cJ2_indexOfSupplementary_4cfef 69 = .ok (.iconst (-1), 1) := by decide +kernel
theorem dJ2_indexOfSupplementary_4cfef_70 : decode cJ2_indexOfSupplementary_4cfef 70 = .ok (.ireturn, 1) := by decide +kernel
theorem dJ2_checkBoundsBeginEnd_d044e_0 : decode cJ2_checkBoundsBeginEnd_d044e 0 = .ok (.iload_n 0, 1) := by decide +kernel
theorem dJ2_checkBoundsBeginEnd_d044e_1 : decode cJ2_checkBoundsBeginEnd_d044e 1 = .ok (.iload_n 1, 1) := by decide +kernel
theorem dJ2_checkBoundsBeginEnd_d044e_2 : decode cJ2_checkBoundsBeginEnd_d044e 2 = .ok (.aload_n 2, 1) := by decide +kernel
theorem dJ2_checkBoundsBeginEnd_d044e_3 : decode cJ2_checkBoundsBeginEnd_d044e 3 = .ok (.invokestatic 48, 3) := by decide +kernel
theorem dJ2_checkBoundsBeginEnd_d044e_6 : decode cJ2_checkBoundsBeginEnd_d044e 6 = .ok (.invokestatic 241, 3) := by decide +kernel
theorem dJ2_checkBoundsBeginEnd_d044e_9 : decode cJ2_checkBoundsBeginEnd_d044e 9 = .ok (.return_, 1) := by decide +kernel
theorem dJ7_fill_d0a16_0 : decode cJ7_fill_d0a16 0 = .ok (.iconst 0, 1) := by decide +kernel
theorem dJ7_fill_d0a16_1 : decode cJ7_fill_d0a16 1 = .ok (.istore_n 3, 1) := by decide +kernel
theorem dJ7_fill_d0a16_2 : decode cJ7_fill_d0a16 2 = .ok (.aload_n 0, 1) := by decide +kernel
theorem dJ7_fill_d0a16_3 : decode cJ7_fill_d0a16 3 = .ok (.arraylength, 1) := by decide +kernel
theorem dJ7_fill_d0a16_4 : decode cJ7_fill_d0a16 4 = .ok (.istore 4, 2) := by decide +kernel
theorem dJ7_fill_d0a16_6 : decode cJ7_fill_d0a16 6 = .ok (.iload_n 3, 1) := by decide +kernel
theorem dJ7_fill_d0a16_7 : decode cJ7_fill_d0a16 7 = .ok (.iload 4, 2) := by decide +kernel
theorem dJ7_fill_d0a16_9 : decode cJ7_fill_d0a16 9 = .ok (.if_icmp .ge 13, 3) := by decide +kernel
theorem dJ7_fill_d0a16_12 : decode cJ7_fill_d0a16 12 = .ok (.aload_n 0, 1) := by decide +kernel
theorem dJ7_fill_d0a16_13 : decode cJ7_fill_d0a16 13 = .ok (.iload_n 3, 1) := by decide +kernel
theorem dJ7_fill_d0a16_14 : decode cJ7_fill_d0a16 14 = .ok (.lload_n 1, 1) := by decide +kernel
theorem dJ7_fill_d0a16_15 : decode cJ7_fill_d0a16 15 = .ok (.lastore, 1) := by decide +kernel
theorem dJ7_fill_d0a16_16 : decode cJ7_fill_d0a16 16 = .ok (.iinc 3 1, 3) := by decide +kernel
theorem dJ7_fill_d0a16_19 : decode cJ7_fill_d0a16 19 = .ok (.goto (-13), 3) := by decide +kernel
theorem dJ7_fill_d0a16_22 : decode cJ7_fill_d0a16 22 = .ok (.return_, 1) := by decide +kernel
theorem dJ7_fill_53178_0 : decode cJ7_fill_53178 0 = .ok (.iconst 0, 1) := by decide +kernel
theorem dJ7_fill_53178_1 : decode cJ7_fill_53178 1 = .ok (.istore_n 2, 1) := by decide +kernel
theorem dJ7_fill_53178_2 : decode cJ7_fill_53178 2 = .ok (.aload_n 0, 1) := by decide +kernel
theorem dJ7_fill_53178_3 : decode cJ7_fill_53178 3 = .ok (.arraylength, 1) := by decide +kernel
theorem dJ7_fill_53178_4 : decode cJ7_fill_53178 4 = .ok (.istore_n 3, 1) := by decide +kernel
theorem dJ7_fill_53178_5 : decode cJ7_fill_53178 5 = .ok (.iload_n 2, 1) := by decide +kernel
theorem dJ7_fill_53178_6 : decode cJ7_fill_53178 6 = .ok (.iload_n 3, 1) := by decide +kernel
theorem dJ7_fill_53178_7 : decode cJ7_fill_53178 7 = .ok (.if_icmp .ge 13, 3) := by decide +kernel
theorem dJ7_fill_53178_10 : decode cJ7_fill_53178 10 = .ok (.aload_n 0, 1) := by decide +kernel
theorem dJ7_fill_53178_11 : decode cJ7_fill_53178 11 = .ok (.iload_n 2, 1) := by decide +kernel
theorem dJ7_fill_53178_12 : decode cJ7_fill_53178 12 = .ok (.iload_n 1, 1) := by decide +kernel
theorem dJ7_fill_53178_13 : decode cJ7_fill_53178 13 = .ok (.iastore, 1) := by decide +kernel
theorem dJ7_fill_53178_14 : decode cJ7_fill_53178 14 = .ok (.iinc 2 1, 3) := by decide +kernel
theorem dJ7_fill_53178_17 : decode cJ7_fill_53178 17 = .ok (.goto (-12), 3) := by decide +kernel
theorem dJ7_fill_53178_20 : decode cJ7_fill_53178 20 = .ok (.return_, 1) := by decide +kernel
theorem dJ3_checkFromToIndex_8c36e_0 : decode cJ3_checkFromToIndex_8c36e 0 = .ok (.iload_n 0, 1) := by decide +kernel
theorem dJ3_checkFromToIndex_8c36e_1 : decode cJ3_checkFromToIndex_8c36e 1 = .ok (.ifCond .lt 13, 3) := by decide +kernel
theorem dJ3_checkFromToIndex_8c36e_4 : decode cJ3_checkFromToIndex_8c36e 4 = .ok (.iload_n 0, 1) := by decide +kernel
theorem dJ3_checkFromToIndex_8c36e_5 : decode cJ3_checkFromToIndex_8c36e 5 = .ok (.iload_n 1, 1) := by decide +kernel
theorem dJ3_checkFromToIndex_8c36e_6 : decode cJ3_checkFromToIndex_8c36e 6 = .ok (.if_icmp .gt 8, 3) := by decide +kernel
theorem dJ3_checkFromToIndex_8c36e_9 : decode cJ3_checkFromToIndex_8c36e 9 = .ok (.iload_n 1, 1) := by decide +kernel
theorem dJ3_checkFromToIndex_8c36e_10 : decode cJ3_checkFromToIndex_8c36e 10 = .ok (.iload_n 2, 1) := by decide +kernel
theorem dJ3_checkFromToIndex_8c36e_11 : decode cJ3_checkFromToIndex_8c36e 11 = .ok (.if_icmp .le 11, 3) := by decide +kernel
theorem dJ3_checkFromToIndex_8c36e_14 : decode cJ3_checkFromToIndex_8c36e 14 = .ok (.aload_n 3, 1) := by decide +kernel
theorem dJ3_checkFromToIndex_8c36e_15 : decode cJ3_checkFromToIndex_8c36e 15 = .ok (.iload_n 0, 1) := by decide +kernel
theorem dJ3_checkFromToIndex_8c36e_16 : decode cJ3_checkFromToIndex_8c36e 16 = .ok (.iload_n 1, 1) := by decide +kernel
theorem dJ3_checkFromToIndex_8c36e_17 : decode cJ3_checkFromToIndex_8c36e 17 = .ok (.iload_n 2, 1) := by decide +kernel
theorem dJ3_checkFromToIndex_8c36e_18 : decode cJ3_checkFromToIndex_8c36e 18 = .ok (.invokestatic 99, 3) := by decide +kernel
theorem dJ3_checkFromToIndex_8c36e_21 : decode cJ3_checkFromToIndex_8c36e 21 = .ok (.athrow, 1) := by decide +kernel
theorem dJ3_checkFromToIndex_8c36e_22 : decode cJ3_checkFromToIndex_8c36e 22 = .ok (.iload_n 0, 1) := by decide +kernel
theorem dJ3_checkFromToIndex_8c36e_23 : decode cJ3_checkFromToIndex_8c36e 23 = .ok (.ireturn, 1) := by decide +kernel
theorem dL_cell_0 : decode cL_cell 0 = .ok (.iload_n 1, 1) := by decide +kernel
theorem dL_cell_1 : decode cL_cell 1 = .ok (.aload_n 0, 1) := by decide +kernel
theorem dL_cell_2 : decode cL_cell 2 = .ok (.arraylength, 1) := by decide +kernel
theorem dL_cell_3 : decode cL_cell 3 = .ok (.if_icmp .ge 9, 3) := by decide +kernel
theorem dL_cell_6 : decode cL_cell 6 = .ok (.aload_n 0, 1) := by decide +kernel
theorem dL_cell_7 : decode cL_cell 7 = .ok (.iload_n 1, 1) := by decide +kernel
theorem dL_cell_8 : decode cL_cell 8 = .ok (.iaload, 1) := by decide +kernel
theorem dL_cell_9 : decode cL_cell 9 = .ok (.goto 17, 3) := by decide +kernel
theorem dL_cell_12 : decode cL_cell 12 = .ok (.sipush 7919, 3) := by decide +kernel
theorem dL_cell_15 : decode cL_cell 15 = .ok (.iload_n 1, 1) := by decide +kernel
theorem dL_cell_16 : decode cL_cell 16 = .ok (.bipush 7, 2) := by decide +kernel
theorem dL_cell_18 : decode cL_cell 18 = .ok (.iadd, 1) := by decide +kernel
theorem dL_cell_19 : decode cL_cell 19 = .ok (.imul, 1) := by decide +kernel
theorem dL_cell_20 : decode cL_cell 20 = .ok (.iload_n 1, 1) := by decide +kernel
theorem dL_cell_21 : decode cL_cell 21 = .ok (.sipush 401, 3) := by decide +kernel
theorem dL_cell_24 : decode cL_cell 24 = .ok (.iadd, 1) := by decide +kernel
theorem dL_cell_25 : decode cL_cell 25 = .ok (.imul, 1) := by decide +kernel
theorem dL_cell_26 : decode cL_cell 26 = .ok (.ireturn, 1) := by decide +kernel
theorem dL_low_0 : decode cL_low 0 = .ok (.iload_n 0, 1) := by decide +kernel
theorem dL_low_1 : decode cL_low 1 = .ok (.ldc 7, 2) := by decide +kernel
theorem dL_low_3 : decode cL_low 3 = .ok (.iand, 1) := by decide +kernel
theorem dL_low_4 : decode cL_low 4 = .ok (.iload_n 1, 1) := by decide +kernel
theorem dL_low_5 : decode cL_low 5 = .ok (.irem, 1) := by decide +kernel
theorem dL_low_6 : decode cL_low 6 = .ok (.ireturn, 1) := by decide +kernel
theorem dL_changes_0 : decode cL_changes 0 = .ok (.aload 5, 2) := by decide +kernel
theorem dL_changes_2 : decode cL_changes 2 = .ok (.iconst 0, 1) := by decide +kernel
theorem dL_changes_3 : decode cL_changes 3 = .ok (.iload_n 1, 1) := by decide +kernel
theorem dL_changes_4 : decode cL_changes 4 = .ok (.ifCond .ne 10, 3) := by decide +kernel
theorem dL_changes_7 : decode cL_changes 7 = .ok (.aload_n 0, 1) := by decide +kernel
theorem dL_changes_8 : decode cL_changes 8 = .ok (.invokevirtual 8, 3) := by decide +kernel
theorem dL_changes_11 : decode cL_changes 11 = .ok (.goto 35, 3) := by decide +kernel
theorem dL_changes_14 : decode cL_changes 14 = .ok (.iload_n 1, 1) := by decide +kernel
theorem dL_changes_15 : decode cL_changes 15 = .ok (.iconst 1, 1) := by decide +kernel
theorem dL_changes_16 : decode cL_changes 16 = .ok (.if_icmp .ne 10, 3) := by decide +kernel
theorem dL_changes_19 : decode cL_changes 19 = .ok (.aload_n 0, 1) := by decide +kernel
theorem dL_changes_20 : decode cL_changes 20 = .ok (.invokevirtual 14, 3) := by decide +kernel
theorem dL_changes_23 : decode cL_changes 23 = .ok (.goto 23, 3) := by decide +kernel
theorem dL_changes_26 : decode cL_changes 26 = .ok (.iload_n 1, 1) := by decide +kernel
theorem dL_changes_27 : decode cL_changes 27 = .ok (.iconst 2, 1) := by decide +kernel
theorem dL_changes_28 : decode cL_changes 28 = .ok (.if_icmp .ne 10, 3) := by decide +kernel
theorem dL_changes_31 : decode cL_changes 31 = .ok (.aload_n 0, 1) := by decide +kernel
theorem dL_changes_32 : decode cL_changes 32 = .ok (.invokevirtual 17, 3) := by decide +kernel
theorem dL_changes_35 : decode cL_changes 35 = .ok (.goto 11, 3) := by decide +kernel
theorem dL_changes_38 : decode cL_changes 38 = .ok (.aload_n 0, 1) := by decide +kernel
theorem dL_changes_39 : decode cL_changes 39 = .ok (.iload_n 2, 1) := by decide +kernel
theorem dL_changes_40 : decode cL_changes 40 = .ok (.iload_n 3, 1) := by decide +kernel
theorem dL_changes_41 : decode cL_changes 41 = .ok (.iload 4, 2) := by decide +kernel
theorem dL_changes_43 : decode cL_changes 43 = .ok (.invokevirtual 20, 3) := by decide +kernel
theorem dL_changes_46 : decode cL_changes 46 = .ok (.iastore, 1) := by decide +kernel
theorem dL_changes_47 : decode cL_changes 47 = .ok (.goto 15, 3) := by decide +kernel
theorem dL_changes_50 : decode cL_changes 50 = .ok (.astore 6, 2) := by decide +kernel
theorem dL_changes_52 : decode cL_changes 52 = .ok (.iconst 1, 1) := by decide +kernel
theorem dL_changes_53 : decode cL_changes 53 = .ok (.ireturn, 1) := by decide +kernel
theorem dL_changes_54 : decode cL_changes 54 = .ok (.astore 6, 2) := by decide +kernel
theorem dL_changes_56 : decode cL_changes 56 = .ok (.iconst 2, 1) := by decide +kernel
theorem dL_changes_57 : decode cL_changes 57 = .ok (.ireturn, 1) := by decide +kernel
theorem dL_changes_58 : decode cL_changes 58 = .ok (.astore 6, 2) := by decide +kernel
theorem dL_changes_60 : decode cL_changes 60 = .ok (.iconst 3, 1) := by decide +kernel
theorem dL_changes_61 : decode cL_changes 61 = .ok (.ireturn, 1) := by decide +kernel
theorem dL_changes_62 : decode cL_changes 62 = .ok (.iconst 0, 1) := by decide +kernel
theorem dL_changes_63 : decode cL_changes 63 = .ok (.ireturn, 1) := by decide +kernel
theorem dL_typed_0 : decode cL_typed 0 = .ok (.iload_n 1, 1) := by decide +kernel
theorem dL_typed_1 : decode cL_typed 1 = .ok (.bipush 7, 2) := by decide +kernel
theorem dL_typed_3 : decode cL_typed 3 = .ok (.invokestatic 30, 3) := by decide +kernel
theorem dL_typed_6 : decode cL_typed 6 = .ok (.istore_n 3, 1) := by decide +kernel
theorem dL_typed_7 : decode cL_typed 7 = .ok (.iload_n 1, 1) := by decide +kernel
theorem dL_typed_8 : decode cL_typed 8 = .ok (.bipush 9, 2) := by decide +kernel
theorem dL_typed_10 : decode cL_typed 10 = .ok (.ishr, 1) := by decide +kernel
theorem dL_typed_11 : decode cL_typed 11 = .ok (.bipush 11, 2) := by decide +kernel
theorem dL_typed_13 : decode cL_typed 13 = .ok (.invokestatic 30, 3) := by decide +kernel
theorem dL_typed_16 : decode cL_typed 16 = .ok (.istore 4, 2) := by decide +kernel
theorem dL_typed_18 : decode cL_typed 18 = .ok (.iload_n 1, 1) := by decide +kernel
theorem dL_typed_19 : decode cL_typed 19 = .ok (.iconst 5, 1) := by decide +kernel
theorem dL_typed_20 : decode cL_typed 20 = .ok (.ishr, 1) := by decide +kernel
theorem dL_typed_21 : decode cL_typed 21 = .ok (.iconst 4, 1) := by decide +kernel
theorem dL_typed_22 : decode cL_typed 22 = .ok (.invokestatic 30, 3) := by decide +kernel
theorem dL_typed_25 : decode cL_typed 25 = .ok (.istore 5, 2) := by decide +kernel
theorem dL_typed_27 : decode cL_typed 27 = .ok (.iload_n 3, 1) := by decide +kernel
theorem dL_typed_28 : decode cL_typed 28 = .ok (.iconst 3, 1) := by decide +kernel
theorem dL_typed_29 : decode cL_typed 29 = .ok (.if_icmp .ge 7, 3) := by decide +kernel
theorem dL_typed_32 : decode cL_typed 32 = .ok (.iconst 1, 1) := by decide +kernel
theorem dL_typed_33 : decode cL_typed 33 = .ok (.goto 19, 3) := by decide +kernel
theorem dL_typed_36 : decode cL_typed 36 = .ok (.aload_n 0, 1) := by decide +kernel
theorem dL_typed_37 : decode cL_typed 37 = .ok (.iload_n 3, 1) := by decide +kernel
theorem dL_typed_38 : decode cL_typed 38 = .ok (.iconst 5, 1) := by decide +kernel
theorem dL_typed_39 : decode cL_typed 39 = .ok (.if_icmp .ge 8, 3) := by decide +kernel
theorem dL_typed_42 : decode cL_typed 42 = .ok (.bipush 33, 2) := by decide +kernel
theorem dL_typed_44 : decode cL_typed 44 = .ok (.goto 5, 3) := by decide +kernel
theorem dL_typed_47 : decode cL_typed 47 = .ok (.bipush 63, 2) := by decide +kernel
theorem dL_typed_49 : decode cL_typed 49 = .ok (.invokevirtual 36, 3) := by decide +kernel
theorem dL_typed_52 : decode cL_typed 52 = .ok (.istore 6, 2) := by decide +kernel
theorem dL_typed_54 : decode cL_typed 54 = .ok (.aload_n 0, 1) := by decide +kernel
theorem dL_typed_55 : decode cL_typed 55 = .ok (.bipush 120, 2) := by decide +kernel
theorem dL_typed_57 : decode cL_typed 57 = .ok (.iload_n 1, 1) := by decide +kernel
theorem dL_typed_58 : decode cL_typed 58 = .ok (.iconst 3, 1) := by decide +kernel
theorem dL_typed_59 : decode cL_typed 59 = .ok (.ishr, 1) := by decide +kernel
theorem dL_typed_60 : decode cL_typed 60 = .ok (.iconst 3, 1) := by decide +kernel
theorem dL_typed_61 : decode cL_typed 61 = .ok (.invokestatic 30, 3) := by decide +kernel
theorem dL_typed_64 : decode cL_typed 64 = .ok (.iadd, 1) := by decide +kernel
theorem dL_typed_65 : decode cL_typed 65 = .ok (.invokevirtual 36, 3) := by decide +kernel
theorem dL_typed_68 : decode cL_typed 68 = .ok (.istore 6, 2) := by decide +kernel
theorem dL_typed_70 : decode cL_typed 70 = .ok (.aload_n 0, 1) := by decide +kernel
theorem dL_typed_71 : decode cL_typed 71 = .ok (.iload_n 3, 1) := by decide +kernel
theorem dL_typed_72 : decode cL_typed 72 = .ok (.iconst 3, 1) := by decide +kernel
theorem dL_typed_73 : decode cL_typed 73 = .ok (.if_icmp .ge 8, 3) := by decide +kernel
theorem dL_typed_76 : decode cL_typed 76 = .ok (.bipush 58, 2) := by decide +kernel
theorem dL_typed_78 : decode cL_typed 78 = .ok (.goto 37, 3) := by decide +kernel
theorem dL_typed_81 : decode cL_typed 81 = .ok (.iload 5, 2) := by decide +kernel
theorem dL_typed_83 : decode cL_typed 83 = .ok (.ifCond .ne 8, 3) := by decide +kernel
theorem dL_typed_86 : decode cL_typed 86 = .ok (.bipush 35, 2) := by decide +kernel
theorem dL_typed_88 : decode cL_typed 88 = .ok (.goto 27, 3) := by decide +kernel
theorem dL_typed_91 : decode cL_typed 91 = .ok (.iload 5, 2) := by decide +kernel
theorem dL_typed_93 : decode cL_typed 93 = .ok (.iconst 1, 1) := by decide +kernel
theorem dL_typed_94 : decode cL_typed 94 = .ok (.if_icmp .ne 8, 3) := by decide +kernel
theorem dL_typed_97 : decode cL_typed 97 = .ok (.bipush 60, 2) := by decide +kernel
theorem dL_typed_99 : decode cL_typed 99 = .ok (.goto 16, 3) := by decide +kernel
theorem dL_typed_102 : decode cL_typed 102 = .ok (.iload 5, 2) := by decide +kernel
theorem dL_typed_104 : decode cL_typed 104 = .ok (.iconst 2, 1) := by decide +kernel
theorem dL_typed_105 : decode cL_typed 105 = .ok (.if_icmp .ne 8, 3) := by decide +kernel
theorem dL_typed_108 : decode cL_typed 108 = .ok (.bipush 62, 2) := by decide +kernel
theorem dL_typed_110 : decode cL_typed 110 = .ok (.goto 5, 3) := by decide +kernel
theorem dL_typed_113 : decode cL_typed 113 = .ok (.bipush 61, 2) := by decide +kernel
theorem dL_typed_115 : decode cL_typed 115 = .ok (.invokevirtual 36, 3) := by decide +kernel
theorem dL_typed_118 : decode cL_typed 118 = .ok (.istore 6, 2) := by decide +kernel
theorem dL_typed_120 : decode cL_typed 120 = .ok (.aload_n 0, 1) := by decide +kernel
theorem dL_typed_121 : decode cL_typed 121 = .ok (.iload 4, 2) := by decide +kernel
theorem dL_typed_123 : decode cL_typed 123 = .ok (.iconst 3, 1) := by decide +kernel
theorem dL_typed_124 : decode cL_typed 124 = .ok (.if_icmp .ge 11, 3) := by decide +kernel
theorem dL_typed_127 : decode cL_typed 127 = .ok (.bipush 120, 2) := by decide +kernel
theorem dL_typed_129 : decode cL_typed 129 = .ok (.iload 4, 2) := by decide +kernel
theorem dL_typed_131 : decode cL_typed 131 = .ok (.iadd, 1) := by decide +kernel
theorem dL_typed_132 : decode cL_typed 132 = .ok (.goto 10, 3) := by decide +kernel
theorem dL_typed_135 : decode cL_typed 135 = .ok (.bipush 48, 2) := by decide +kernel
theorem dL_typed_137 : decode cL_typed 137 = .ok (.iload 4, 2) := by decide +kernel
theorem dL_typed_139 : decode cL_typed 139 = .ok (.iadd, 1) := by decide +kernel
theorem dL_typed_140 : decode cL_typed 140 = .ok (.iconst 3, 1) := by decide +kernel
theorem dL_typed_141 : decode cL_typed 141 = .ok (.isub, 1) := by decide +kernel
theorem dL_typed_142 : decode cL_typed 142 = .ok (.invokevirtual 36, 3) := by decide +kernel
theorem dL_typed_145 : decode cL_typed 145 = .ok (.istore 6, 2) := by decide +kernel
theorem dL_typed_147 : decode cL_typed 147 = .ok (.iload_n 3, 1) := by decide +kernel
theorem dL_typed_148 : decode cL_typed 148 = .ok (.ifCond .eq 8, 3) := by decide +kernel
theorem dL_typed_151 : decode cL_typed 151 = .ok (.iload_n 3, 1) := by decide +kernel
theorem dL_typed_152 : decode cL_typed 152 = .ok (.iconst 4, 1) := by decide +kernel
theorem dL_typed_153 : decode cL_typed 153 = .ok (.if_icmp .le 62, 3) := by decide +kernel
theorem dL_typed_156 : decode cL_typed 156 = .ok (.aload_n 0, 1) := by decide +kernel
theorem dL_typed_157 : decode cL_typed 157 = .ok (.iload_n 3, 1) := by decide +kernel
theorem dL_typed_158 : decode cL_typed 158 = .ok (.iconst 4, 1) := by decide +kernel
theorem dL_typed_159 : decode cL_typed 159 = .ok (.if_icmp .le 8, 3) := by decide +kernel
theorem dL_typed_162 : decode cL_typed 162 = .ok (.bipush 64, 2) := by decide +kernel
theorem dL_typed_164 : decode cL_typed 164 = .ok (.goto 19, 3) := by decide +kernel
theorem dL_typed_167 : decode cL_typed 167 = .ok (.iload_n 1, 1) := by decide +kernel
theorem dL_typed_168 : decode cL_typed 168 = .ok (.bipush 14, 2) := by decide +kernel
theorem dL_typed_170 : decode cL_typed 170 = .ok (.ishr, 1) := by decide +kernel
theorem dL_typed_171 : decode cL_typed 171 = .ok (.iconst 1, 1) := by decide +kernel
theorem dL_typed_172 : decode cL_typed 172 = .ok (.iand, 1) := by decide +kernel
theorem dL_typed_173 : decode cL_typed 173 = .ok (.ifCond .ne 8, 3) := by decide +kernel
theorem dL_typed_176 : decode cL_typed 176 = .ok (.bipush 43, 2) := by decide +kernel
theorem dL_typed_178 : decode cL_typed 178 = .ok (.goto 5, 3) := by decide +kernel
theorem dL_typed_181 : decode cL_typed 181 = .ok (.bipush 45, 2) := by decide +kernel
theorem dL_typed_183 : decode cL_typed 183 = .ok (.invokevirtual 36, 3) := by decide +kernel
theorem dL_typed_186 : decode cL_typed 186 = .ok (.istore 6, 2) := by decide +kernel
theorem dL_typed_188 : decode cL_typed 188 = .ok (.aload_n 0, 1) := by decide +kernel
theorem dL_typed_189 : decode cL_typed 189 = .ok (.bipush 48, 2) := by decide +kernel
theorem dL_typed_191 : decode cL_typed 191 = .ok (.iload_n 1, 1) := by decide +kernel
theorem dL_typed_192 : decode cL_typed 192 = .ok (.bipush 15, 2) := by decide +kernel
theorem dL_typed_194 : decode cL_typed 194 = .ok (.ishr, 1) := by decide +kernel
theorem dL_typed_195 : decode cL_typed 195 = .ok (.iload_n 3, 1) := by decide +kernel
theorem dL_typed_196 : decode cL_typed 196 = .ok (.iconst 4, 1) := by decide +kernel
theorem dL_typed_197 : decode cL_typed 197 = .ok (.if_icmp .le 7, 3) := by decide +kernel
theorem dL_typed_200 : decode cL_typed 200 = .ok (.iload_n 2, 1) := by decide +kernel
theorem dL_typed_201 : decode cL_typed 201 = .ok (.goto 5, 3) := by decide +kernel
theorem dL_typed_204 : decode cL_typed 204 = .ok (.bipush 8, 2) := by decide +kernel
theorem dL_typed_206 : decode cL_typed 206 = .ok (.invokestatic 30, 3) := by decide +kernel
theorem dL_typed_209 : decode cL_typed 209 = .ok (.iadd, 1) := by decide +kernel
theorem dL_typed_210 : decode cL_typed 210 = .ok (.invokevirtual 36, 3) := by decide +kernel
theorem dL_typed_213 : decode cL_typed 213 = .ok (.istore 6, 2) := by decide +kernel
theorem dL_typed_215 : decode cL_typed 215 = .ok (.iload 6, 2) := by decide +kernel
theorem dL_typed_217 : decode cL_typed 217 = .ok (.ireturn, 1) := by decide +kernel
theorem dL_act_0 : decode cL_act 0 = .ok (.aload_n 1, 1) := by decide +kernel
theorem dL_act_1 : decode cL_act 1 = .ok (.iconst 5, 1) := by decide +kernel
theorem dL_act_2 : decode cL_act 2 = .ok (.iload_n 2, 1) := by decide +kernel
theorem dL_act_3 : decode cL_act 3 = .ok (.imul, 1) := by decide +kernel
theorem dL_act_4 : decode cL_act 4 = .ok (.invokestatic 40, 3) := by decide +kernel
theorem dL_act_7 : decode cL_act 7 = .ok (.istore 4, 2) := by decide +kernel
theorem dL_act_9 : decode cL_act 9 = .ok (.iload 4, 2) := by decide +kernel
theorem dL_act_11 : decode cL_act 11 = .ok (.bipush 10, 2) := by decide +kernel
theorem dL_act_13 : decode cL_act 13 = .ok (.invokestatic 30, 3) := by decide +kernel
theorem dL_act_16 : decode cL_act 16 = .ok (.istore 5, 2) := by decide +kernel
theorem dL_act_18 : decode cL_act 18 = .ok (.iload 4, 2) := by decide +kernel
theorem dL_act_20 : decode cL_act 20 = .ok (.iconst 4, 1) := by decide +kernel
theorem dL_act_21 : decode cL_act 21 = .ok (.ishr, 1) := by decide +kernel
theorem dL_act_22 : decode cL_act 22 = .ok (.istore 6, 2) := by decide +kernel
theorem dL_act_24 : decode cL_act 24 = .ok (.iload 4, 2) := by decide +kernel
theorem dL_act_26 : decode cL_act 26 = .ok (.bipush 22, 2) := by decide +kernel
theorem dL_act_28 : decode cL_act 28 = .ok (.ishr, 1) := by decide +kernel
theorem dL_act_29 : decode cL_act 29 = .ok (.bipush 7, 2) := by decide +kernel
theorem dL_act_31 : decode cL_act 31 = .ok (.invokestatic 30, 3) := by decide +kernel
theorem dL_act_34 : decode cL_act 34 = .ok (.ifCond .le 7, 3) := by decide +kernel
theorem dL_act_37 : decode cL_act 37 = .ok (.iconst 1, 1) := by decide +kernel
theorem dL_act_38 : decode cL_act 38 = .ok (.goto 4, 3) := by decide +kernel
theorem dL_act_41 : decode cL_act 41 = .ok (.iconst 0, 1) := by decide +kernel
theorem dL_act_42 : decode cL_act 42 = .ok (.istore 7, 2) := by decide +kernel
theorem dL_act_44 : decode cL_act 44 = .ok (.iload 5, 2) := by decide +kernel
theorem dL_act_46 : decode cL_act 46 = .ok (.bipush 7, 2) := by decide +kernel
theorem dL_act_48 : decode cL_act 48 = .ok (.if_icmp .ge 186, 3) := by decide +kernel
theorem dL_act_51 : decode cL_act 51 = .ok (.iload 5, 2) := by decide +kernel
theorem dL_act_53 : decode cL_act 53 = .ok (.iconst 5, 1) := by decide +kernel
theorem dL_act_54 : decode cL_act 54 = .ok (.if_icmp .ge 14, 3) := by decide +kernel
theorem dL_act_57 : decode cL_act 57 = .ok (.iconst 1, 1) := by decide +kernel
theorem dL_act_58 : decode cL_act 58 = .ok (.iload 6, 2) := by decide +kernel
theorem dL_act_60 : decode cL_act 60 = .ok (.iconst 4, 1) := by decide +kernel
theorem dL_act_61 : decode cL_act 61 = .ok (.invokestatic 30, 3) := by decide +kernel
theorem dL_act_64 : decode cL_act 64 = .ok (.iadd, 1) := by decide +kernel
theorem dL_act_65 : decode cL_act 65 = .ok (.goto 11, 3) := by decide +kernel
theorem dL_act_68 : decode cL_act 68 = .ok (.iconst 1, 1) := by decide +kernel
theorem dL_act_69 : decode cL_act 69 = .ok (.iload 6, 2) := by decide +kernel
theorem dL_act_71 : decode cL_act 71 = .ok (.iconst 2, 1) := by decide +kernel
theorem dL_act_72 : decode cL_act 72 = .ok (.invokestatic 30, 3) := by decide +kernel
theorem dL_act_75 : decode cL_act 75 = .ok (.iadd, 1) := by decide +kernel
theorem dL_act_76 : decode cL_act 76 = .ok (.istore 8, 2) := by decide +kernel
theorem dL_act_78 : decode cL_act 78 = .ok (.iload 7, 2) := by decide +kernel
theorem dL_act_80 : decode cL_act 80 = .ok (.ifCond .eq 25, 3) := by decide +kernel
theorem dL_act_83 : decode cL_act 83 = .ok (.iload 8, 2) := by decide +kernel
theorem dL_act_85 : decode cL_act 85 = .ok (.iload 5, 2) := by decide +kernel
theorem dL_act_87 : decode cL_act 87 = .ok (.iconst 5, 1) := by decide +kernel
theorem dL_act_88 : decode cL_act 88 = .ok (.if_icmp .ge 7, 3) := by decide +kernel
theorem dL_act_91 : decode cL_act 91 = .ok (.iconst 0, 1) := by decide +kernel
theorem dL_act_92 : decode cL_act 92 = .ok (.goto 7, 3) := by decide +kernel
theorem dL_act_95 : decode cL_act 95 = .ok (.aload_n 0, 1) := by decide +kernel
theorem dL_act_96 : decode cL_act 96 = .ok (.invokevirtual 44, 3) := by decide +kernel
theorem dL_act_99 : decode cL_act 99 = .ok (.iadd, 1) := by decide +kernel
theorem dL_act_100 : decode cL_act 100 = .ok (.iconst 1, 1) := by decide +kernel
theorem dL_act_101 : decode cL_act 101 = .ok (.iadd, 1) := by decide +kernel
theorem dL_act_102 : decode cL_act 102 = .ok (.goto 5, 3) := by decide +kernel
theorem dL_act_105 : decode cL_act 105 = .ok (.bipush 10, 2) := by decide +kernel
theorem dL_act_107 : decode cL_act 107 = .ok (.istore 9, 2) := by decide +kernel
theorem dL_act_109 : decode cL_act 109 = .ok (.iconst 0, 1) := by decide +kernel
theorem dL_act_110 : decode cL_act 110 = .ok (.istore 10, 2) := by decide +kernel
theorem dL_act_112 : decode cL_act 112 = .ok (.iconst 0, 1) := by decide +kernel
theorem dL_act_113 : decode cL_act 113 = .ok (.istore 11, 2) := by decide +kernel
theorem dL_act_115 : decode cL_act 115 = .ok (.iload 11, 2) := by decide +kernel
theorem dL_act_117 : decode cL_act 117 = .ok (.iload 8, 2) := by decide +kernel
theorem dL_act_119 : decode cL_act 119 = .ok (.if_icmp .ge 58, 3) := by decide +kernel
theorem dL_act_122 : decode cL_act 122 = .ok (.iload 11, 2) := by decide +kernel
theorem dL_act_124 : decode cL_act 124 = .ok (.ifCond .le 12, 3) := by decide +kernel
theorem dL_act_127 : decode cL_act 127 = .ok (.aload_n 0, 1) := by decide +kernel
theorem dL_act_128 : decode cL_act 128 = .ok (.bipush 59, 2) := by decide +kernel
theorem dL_act_130 : decode cL_act 130 = .ok (.invokevirtual 36, 3) := by decide +kernel
theorem dL_act_133 : decode cL_act 133 = .ok (.goto 4, 3) := by decide +kernel
theorem dL_act_136 : decode cL_act 136 = .ok (.iconst 0, 1) := by decide +kernel
theorem dL_act_137 : decode cL_act 137 = .ok (.istore 10, 2) := by decide +kernel
theorem dL_act_139 : decode cL_act 139 = .ok (.aload_n 0, 1) := by decide +kernel
theorem dL_act_140 : decode cL_act 140 = .ok (.aload_n 1, 1) := by decide +kernel
theorem dL_act_141 : decode cL_act 141 = .ok (.iconst 5, 1) := by decide +kernel
theorem dL_act_142 : decode cL_act 142 = .ok (.iload_n 2, 1) := by decide +kernel
theorem dL_act_143 : decode cL_act 143 = .ok (.imul, 1) := by decide +kernel
theorem dL_act_144 : decode cL_act 144 = .ok (.iconst 1, 1) := by decide +kernel
theorem dL_act_145 : decode cL_act 145 = .ok (.iadd, 1) := by decide +kernel
theorem dL_act_146 : decode cL_act 146 = .ok (.iload 11, 2) := by decide +kernel
theorem dL_act_148 : decode cL_act 148 = .ok (.iadd, 1) := by decide +kernel
theorem dL_act_149 : decode cL_act 149 = .ok (.invokestatic 40, 3) := by decide +kernel
theorem dL_act_152 : decode cL_act 152 = .ok (.iload 9, 2) := by decide +kernel
theorem dL_act_154 : decode cL_act 154 = .ok (.bipush 10, 2) := by decide +kernel
theorem dL_act_156 : decode cL_act 156 = .ok (.if_icmp .ge 8, 3) := by decide +kernel
theorem dL_act_159 : decode cL_act 159 = .ok (.iload 9, 2) := by decide +kernel
theorem dL_act_161 : decode cL_act 161 = .ok (.goto 5, 3) := by decide +kernel
theorem dL_act_164 : decode cL_act 164 = .ok (.bipush 10, 2) := by decide +kernel
theorem dL_act_166 : decode cL_act 166 = .ok (.invokestatic 47, 3) := by decide +kernel
theorem dL_act_169 : decode cL_act 169 = .ok (.istore 10, 2) := by decide +kernel
theorem dL_act_171 : decode cL_act 171 = .ok (.iinc 11 1, 3) := by decide +kernel
theorem dL_act_174 : decode cL_act 174 = .ok (.goto (-59), 3) := by decide +kernel
theorem dL_act_177 : decode cL_act 177 = .ok (.aload_n 0, 1) := by decide +kernel
theorem dL_act_178 : decode cL_act 178 = .ok (.iload 5, 2) := by decide +kernel
theorem dL_act_180 : decode cL_act 180 = .ok (.iconst 5, 1) := by decide +kernel
theorem dL_act_181 : decode cL_act 181 = .ok (.if_icmp .ge 7, 3) := by decide +kernel
theorem dL_act_184 : decode cL_act 184 = .ok (.iconst 0, 1) := by decide +kernel
theorem dL_act_185 : decode cL_act 185 = .ok (.goto 4, 3) := by decide +kernel
theorem dL_act_188 : decode cL_act 188 = .ok (.iconst 1, 1) := by decide +kernel
theorem dL_act_189 : decode cL_act 189 = .ok (.iconst 0, 1) := by decide +kernel
theorem dL_act_190 : decode cL_act 190 = .ok (.iconst 0, 1) := by decide +kernel
theorem dL_act_191 : decode cL_act 191 = .ok (.iconst 0, 1) := by decide +kernel
theorem dL_act_192 : decode cL_act 192 = .ok (.aload_n 3, 1) := by decide +kernel
theorem dL_act_193 : decode cL_act 193 = .ok (.invokestatic 51, 3) := by decide +kernel
theorem dL_act_196 : decode cL_act 196 = .ok (.istore 11, 2) := by decide +kernel
theorem dL_act_198 : decode cL_act 198 = .ok (.aload_n 0, 1) := by decide +kernel
theorem dL_act_199 : decode cL_act 199 = .ok (.invokevirtual 55, 3) := by decide +kernel
theorem dL_act_202 : decode cL_act 202 = .ok (.istore 12, 2) := by decide +kernel
theorem dL_act_204 : decode cL_act 204 = .ok (.iload 11, 2) := by decide +kernel
theorem dL_act_206 : decode cL_act 206 = .ok (.ifCond .ne 8, 3) := by decide +kernel
theorem dL_act_209 : decode cL_act 209 = .ok (.iload 12, 2) := by decide +kernel
theorem dL_act_211 : decode cL_act 211 = .ok (.ifCond .gt 15, 3) := by decide +kernel
theorem dL_act_214 : decode cL_act 214 = .ok (.iload 11, 2) := by decide +kernel
theorem dL_act_216 : decode cL_act 216 = .ok (.ifCond .eq 15, 3) := by decide +kernel
theorem dL_act_219 : decode cL_act 219 = .ok (.iload 12, 2) := by decide +kernel
theorem dL_act_221 : decode cL_act 221 = .ok (.iload 10, 2) := by decide +kernel
theorem dL_act_223 : decode cL_act 223 = .ok (.if_icmp .eq 8, 3) := by decide +kernel
theorem dL_act_226 : decode cL_act 226 = .ok (.bipush 9, 2) := by decide +kernel
theorem dL_act_228 : decode cL_act 228 = .ok (.goto 5, 3) := by decide +kernel
theorem dL_act_231 : decode cL_act 231 = .ok (.iload 11, 2) := by decide +kernel
theorem dL_act_233 : decode cL_act 233 = .ok (.ireturn, 1) := by decide +kernel
theorem dL_act_234 : decode cL_act 234 = .ok (.iload 5, 2) := by decide +kernel
theorem dL_act_236 : decode cL_act 236 = .ok (.bipush 7, 2) := by decide +kernel
theorem dL_act_238 : decode cL_act 238 = .ok (.if_icmp .ne 13, 3) := by decide +kernel
theorem dL_act_241 : decode cL_act 241 = .ok (.aload_n 0, 1) := by decide +kernel
theorem dL_act_242 : decode cL_act 242 = .ok (.iconst 2, 1) := by decide +kernel
theorem dL_act_243 : decode cL_act 243 = .ok (.iconst 0, 1) := by decide +kernel
theorem dL_act_244 : decode cL_act 244 = .ok (.iconst 0, 1) := by decide +kernel
theorem dL_act_245 : decode cL_act 245 = .ok (.iconst 0, 1) := by decide +kernel
theorem dL_act_246 : decode cL_act 246 = .ok (.aload_n 3, 1) := by decide +kernel
theorem dL_act_247 : decode cL_act 247 = .ok (.invokestatic 51, 3) := by decide +kernel
theorem dL_act_250 : decode cL_act 250 = .ok (.ireturn, 1) := by decide +kernel
theorem dL_act_251 : decode cL_act 251 = .ok (.iload 6, 2) := by decide +kernel
theorem dL_act_253 : decode cL_act 253 = .ok (.iconst 2, 1) := by decide +kernel
theorem dL_act_254 : decode cL_act 254 = .ok (.ishr, 1) := by decide +kernel
theorem dL_act_255 : decode cL_act 255 = .ok (.iload 7, 2) := by decide +kernel
theorem dL_act_257 : decode cL_act 257 = .ok (.ifCond .eq 8, 3) := by decide +kernel
theorem dL_act_260 : decode cL_act 260 = .ok (.bipush 8, 2) := by decide +kernel
theorem dL_act_262 : decode cL_act 262 = .ok (.goto 5, 3) := by decide +kernel
theorem dL_act_265 : decode cL_act 265 = .ok (.bipush 9, 2) := by decide +kernel
theorem dL_act_267 : decode cL_act 267 = .ok (.invokestatic 30, 3) := by decide +kernel
theorem dL_act_270 : decode cL_act 270 = .ok (.istore 8, 2) := by decide +kernel
theorem dL_act_272 : decode cL_act 272 = .ok (.aload_n 0, 1) := by decide +kernel
theorem dL_act_273 : decode cL_act 273 = .ok (.iconst 3, 1) := by decide +kernel
theorem dL_act_274 : decode cL_act 274 = .ok (.iload 6, 2) := by decide +kernel
theorem dL_act_276 : decode cL_act 276 = .ok (.iload 7, 2) := by decide +kernel
theorem dL_act_278 : decode cL_act 278 = .ok (.ifCond .eq 7, 3) := by decide +kernel
theorem dL_act_281 : decode cL_act 281 = .ok (.iconst 3, 1) := by decide +kernel
theorem dL_act_282 : decode cL_act 282 = .ok (.goto 4, 3) := by decide +kernel
theorem dL_act_285 : decode cL_act 285 = .ok (.iconst 4, 1) := by decide +kernel
theorem dL_act_286 : decode cL_act 286 = .ok (.invokestatic 30, 3) := by decide +kernel
theorem dL_act_289 : decode cL_act 289 = .ok (.iload 8, 2) := by decide +kernel
theorem dL_act_291 : decode cL_act 291 = .ok (.iload 7, 2) := by decide +kernel
theorem dL_act_293 : decode cL_act 293 = .ok (.ifCond .eq 22, 3) := by decide +kernel
theorem dL_act_296 : decode cL_act 296 = .ok (.iload 8, 2) := by decide +kernel
theorem dL_act_298 : decode cL_act 298 = .ok (.iload 6, 2) := by decide +kernel
theorem dL_act_300 : decode cL_act 300 = .ok (.bipush 6, 2) := by decide +kernel
theorem dL_act_302 : decode cL_act 302 = .ok (.ishr, 1) := by decide +kernel
theorem dL_act_303 : decode cL_act 303 = .ok (.bipush 8, 2) := by decide +kernel
theorem dL_act_305 : decode cL_act 305 = .ok (.iload 8, 2) := by decide +kernel
theorem dL_act_307 : decode cL_act 307 = .ok (.isub, 1) := by decide +kernel
theorem dL_act_308 : decode cL_act 308 = .ok (.invokestatic 30, 3) := by decide +kernel
theorem dL_act_311 : decode cL_act 311 = .ok (.iadd, 1) := by decide +kernel
theorem dL_act_312 : decode cL_act 312 = .ok (.goto 13, 3) := by decide +kernel
theorem dL_act_315 : decode cL_act 315 = .ok (.iload 6, 2) := by decide +kernel
theorem dL_act_317 : decode cL_act 317 = .ok (.bipush 6, 2) := by decide +kernel
theorem dL_act_319 : decode cL_act 319 = .ok (.ishr, 1) := by decide +kernel
theorem dL_act_320 : decode cL_act 320 = .ok (.bipush 9, 2) := by decide +kernel
theorem dL_act_322 : decode cL_act 322 = .ok (.invokestatic 30, 3) := by decide +kernel
theorem dL_act_325 : decode cL_act 325 = .ok (.aload_n 3, 1) := by decide +kernel
theorem dL_act_326 : decode cL_act 326 = .ok (.invokestatic 51, 3) := by decide +kernel
theorem dL_act_329 : decode cL_act 329 = .ok (.ireturn, 1) := by decide +kernel
theorem dL_areAlike_0 : decode cL_areAlike 0 = .ok (.aload_n 0, 1) := by decide +kernel
theorem dL_areAlike_1 : decode cL_areAlike 1 = .ok (.invokevirtual 44, 3) := by decide +kernel
theorem dL_areAlike_4 : decode cL_areAlike 4 = .ok (.aload_n 1, 1) := by decide +kernel
theorem dL_areAlike_5 : decode cL_areAlike 5 = .ok (.invokevirtual 44, 3) := by decide +kernel
theorem dL_areAlike_8 : decode cL_areAlike 8 = .ok (.if_icmp .ne 41, 3) := by decide +kernel
theorem dL_areAlike_11 : decode cL_areAlike 11 = .ok (.aload_n 0, 1) := by decide +kernel
theorem dL_areAlike_12 : decode cL_areAlike 12 = .ok (.invokevirtual 58, 3) := by decide +kernel
theorem dL_areAlike_15 : decode cL_areAlike 15 = .ok (.aload_n 1, 1) := by decide +kernel
theorem dL_areAlike_16 : decode cL_areAlike 16 = .ok (.invokevirtual 58, 3) := by decide +kernel
theorem dL_areAlike_19 : decode cL_areAlike 19 = .ok (.if_icmp .ne 30, 3) := by decide +kernel
theorem dL_areAlike_22 : decode cL_areAlike 22 = .ok (.aload_n 0, 1) := by decide +kernel
theorem dL_areAlike_23 : decode cL_areAlike 23 = .ok (.invokevirtual 61, 3) := by decide +kernel
theorem dL_areAlike_26 : decode cL_areAlike 26 = .ok (.aload_n 1, 1) := by decide +kernel
theorem dL_areAlike_27 : decode cL_areAlike 27 = .ok (.invokevirtual 61, 3) := by decide +kernel
theorem dL_areAlike_30 : decode cL_areAlike 30 = .ok (.if_icmp .ne 19, 3) := by decide +kernel
theorem dL_areAlike_33 : decode cL_areAlike 33 = .ok (.aload_n 0, 1) := by decide +kernel
theorem dL_areAlike_34 : decode cL_areAlike 34 = .ok (.invokevirtual 64, 3) := by decide +kernel
theorem dL_areAlike_37 : decode cL_areAlike 37 = .ok (.aload_n 1, 1) := by decide +kernel
theorem dL_areAlike_38 : decode cL_areAlike 38 = .ok (.invokevirtual 64, 3) := by decide +kernel
theorem dL_areAlike_41 : decode cL_areAlike 41 = .ok (.dcmp .l, 1) := by decide +kernel
theorem dL_areAlike_42 : decode cL_areAlike 42 = .ok (.ifCond .ne 7, 3) := by decide +kernel
theorem dL_areAlike_45 : decode cL_areAlike 45 = .ok (.iconst 1, 1) := by decide +kernel
theorem dL_areAlike_46 : decode cL_areAlike 46 = .ok (.goto 4, 3) := by decide +kernel
theorem dL_areAlike_49 : decode cL_areAlike 49 = .ok (.iconst 0, 1) := by decide +kernel
theorem dL_areAlike_50 : decode cL_areAlike 50 = .ok (.istore_n 2, 1) := by decide +kernel
theorem dL_areAlike_51 : decode cL_areAlike 51 = .ok (.iconst 0, 1) := by decide +kernel
theorem dL_areAlike_52 : decode cL_areAlike 52 = .ok (.istore_n 3, 1) := by decide +kernel
theorem dL_areAlike_53 : decode cL_areAlike 53 = .ok (.iload_n 3, 1) := by decide +kernel
theorem dL_areAlike_54 : decode cL_areAlike 54 = .ok (.aload_n 0, 1) := by decide +kernel
theorem dL_areAlike_55 : decode cL_areAlike 55 = .ok (.invokevirtual 44, 3) := by decide +kernel
theorem dL_areAlike_58 : decode cL_areAlike 58 = .ok (.if_icmp .ge 84, 3) := by decide +kernel
theorem dL_areAlike_61 : decode cL_areAlike 61 = .ok (.iload_n 2, 1) := by decide +kernel
theorem dL_areAlike_62 : decode cL_areAlike 62 = .ok (.ifCond .eq 72, 3) := by decide +kernel
theorem dL_areAlike_65 : decode cL_areAlike 65 = .ok (.aload_n 0, 1) := by decide +kernel
theorem dL_areAlike_66 : decode cL_areAlike 66 = .ok (.iload_n 3, 1) := by decide +kernel
theorem dL_areAlike_67 : decode cL_areAlike 67 = .ok (.invokevirtual 68, 3) := by decide +kernel
theorem dL_areAlike_70 : decode cL_areAlike 70 = .ok (.aload_n 1, 1) := by decide +kernel
theorem dL_areAlike_71 : decode cL_areAlike 71 = .ok (.iload_n 3, 1) := by decide +kernel
theorem dL_areAlike_72 : decode cL_areAlike 72 = .ok (.invokevirtual 68, 3) := by decide +kernel
theorem dL_areAlike_75 : decode cL_areAlike 75 = .ok (.if_icmp .ne 59, 3) := by decide +kernel
theorem dL_areAlike_78 : decode cL_areAlike 78 = .ok (.aload_n 0, 1) := by decide +kernel
theorem dL_areAlike_79 : decode cL_areAlike 79 = .ok (.iload_n 3, 1) := by decide +kernel
theorem dL_areAlike_80 : decode cL_areAlike 80 = .ok (.invokevirtual 71, 3) := by decide +kernel
theorem dL_areAlike_83 : decode cL_areAlike 83 = .ok (.aload_n 1, 1) := by decide +kernel
theorem dL_areAlike_84 : decode cL_areAlike 84 = .ok (.iload_n 3, 1) := by decide +kernel
theorem dL_areAlike_85 : decode cL_areAlike 85 = .ok (.invokevirtual 71, 3) := by decide +kernel
theorem dL_areAlike_88 : decode cL_areAlike 88 = .ok (.if_icmp .ne 46, 3) := by decide +kernel
theorem dL_areAlike_91 : decode cL_areAlike 91 = .ok (.aload_n 0, 1) := by decide +kernel
theorem dL_areAlike_92 : decode cL_areAlike 92 = .ok (.iload_n 3, 1) := by decide +kernel
theorem dL_areAlike_93 : decode cL_areAlike 93 = .ok (.invokevirtual 74, 3) := by decide +kernel
theorem dL_areAlike_96 : decode cL_areAlike 96 = .ok (.aload_n 1, 1) := by decide +kernel
theorem dL_areAlike_97 : decode cL_areAlike 97 = .ok (.iload_n 3, 1) := by decide +kernel
theorem dL_areAlike_98 : decode cL_areAlike 98 = .ok (.invokevirtual 74, 3) := by decide +kernel
theorem dL_areAlike_101 : decode cL_areAlike 101 = .ok (.if_icmp .ne 33, 3) := by decide +kernel
theorem dL_areAlike_104 : decode cL_areAlike 104 = .ok (.aload_n 0, 1) := by decide +kernel
theorem dL_areAlike_105 : decode cL_areAlike 105 = .ok (.iload_n 3, 1) := by decide +kernel
theorem dL_areAlike_106 : decode cL_areAlike 106 = .ok (.invokevirtual 77, 3) := by decide +kernel
theorem dL_areAlike_109 : decode cL_areAlike 109 = .ok (.aload_n 1, 1) := by decide +kernel
theorem dL_areAlike_110 : decode cL_areAlike 110 = .ok (.iload_n 3, 1) := by decide +kernel
theorem dL_areAlike_111 : decode cL_areAlike 111 = .ok (.invokevirtual 77, 3) := by decide +kernel
theorem dL_areAlike_114 : decode cL_areAlike 114 = .ok (.if_icmp .ne 20, 3) := by decide +kernel
theorem dL_areAlike_117 : decode cL_areAlike 117 = .ok (.aload_n 0, 1) := by decide +kernel
theorem dL_areAlike_118 : decode cL_areAlike 118 = .ok (.iload_n 3, 1) := by decide +kernel
theorem dL_areAlike_119 : decode cL_areAlike 119 = .ok (.invokevirtual 80, 3) := by decide +kernel
theorem dL_areAlike_122 : decode cL_areAlike 122 = .ok (.aload_n 1, 1) := by decide +kernel
theorem dL_areAlike_123 : decode cL_areAlike 123 = .ok (.iload_n 3, 1) := by decide +kernel
theorem dL_areAlike_124 : decode cL_areAlike 124 = .ok (.invokevirtual 80, 3) := by decide +kernel
theorem dL_areAlike_127 : decode cL_areAlike 127 = .ok (.if_icmp .ne 7, 3) := by decide +kernel
theorem dL_areAlike_130 : decode cL_areAlike 130 = .ok (.iconst 1, 1) := by decide +kernel
theorem dL_areAlike_131 : decode cL_areAlike 131 = .ok (.goto 4, 3) := by decide +kernel
theorem dL_areAlike_134 : decode cL_areAlike 134 = .ok (.iconst 0, 1) := by decide +kernel
theorem dL_areAlike_135 : decode cL_areAlike 135 = .ok (.istore_n 2, 1) := by decide +kernel
theorem dL_areAlike_136 : decode cL_areAlike 136 = .ok (.iinc 3 1, 3) := by decide +kernel
theorem dL_areAlike_139 : decode cL_areAlike 139 = .ok (.goto (-86), 3) := by decide +kernel
theorem dL_areAlike_142 : decode cL_areAlike 142 = .ok (.iconst 0, 1) := by decide +kernel
theorem dL_areAlike_143 : decode cL_areAlike 143 = .ok (.istore_n 3, 1) := by decide +kernel
theorem dL_areAlike_144 : decode cL_areAlike 144 = .ok (.iload_n 3, 1) := by decide +kernel
theorem dL_areAlike_145 : decode cL_areAlike 145 = .ok (.iconst 3, 1) := by decide +kernel
theorem dL_areAlike_146 : decode cL_areAlike 146 = .ok (.if_icmp .ge 49, 3) := by decide +kernel
theorem dL_areAlike_149 : decode cL_areAlike 149 = .ok (.iload_n 2, 1) := by decide +kernel
theorem dL_areAlike_150 : decode cL_areAlike 150 = .ok (.ifCond .eq 37, 3) := by decide +kernel
theorem dL_areAlike_153 : decode cL_areAlike 153 = .ok (.aload_n 0, 1) := by decide +kernel
theorem dL_areAlike_154 : decode cL_areAlike 154 = .ok (.iconst 0, 1) := by decide +kernel
theorem dL_areAlike_155 : decode cL_areAlike 155 = .ok (.iload_n 3, 1) := by decide +kernel
theorem dL_areAlike_156 : decode cL_areAlike 156 = .ok (.invokevirtual 83, 3) := by decide +kernel
theorem dL_areAlike_159 : decode cL_areAlike 159 = .ok (.aload_n 1, 1) := by decide +kernel
theorem dL_areAlike_160 : decode cL_areAlike 160 = .ok (.iconst 0, 1) := by decide +kernel
theorem dL_areAlike_161 : decode cL_areAlike 161 = .ok (.iload_n 3, 1) := by decide +kernel
theorem dL_areAlike_162 : decode cL_areAlike 162 = .ok (.invokevirtual 83, 3) := by decide +kernel
theorem dL_areAlike_165 : decode cL_areAlike 165 = .ok (.if_icmp .ne 22, 3) := by decide +kernel
theorem dL_areAlike_168 : decode cL_areAlike 168 = .ok (.aload_n 0, 1) := by decide +kernel
theorem dL_areAlike_169 : decode cL_areAlike 169 = .ok (.iconst 0, 1) := by decide +kernel
theorem dL_areAlike_170 : decode cL_areAlike 170 = .ok (.iload_n 3, 1) := by decide +kernel
theorem dL_areAlike_171 : decode cL_areAlike 171 = .ok (.invokevirtual 86, 3) := by decide +kernel
theorem dL_areAlike_174 : decode cL_areAlike 174 = .ok (.aload_n 1, 1) := by decide +kernel
theorem dL_areAlike_175 : decode cL_areAlike 175 = .ok (.iconst 0, 1) := by decide +kernel
theorem dL_areAlike_176 : decode cL_areAlike 176 = .ok (.iload_n 3, 1) := by decide +kernel
theorem dL_areAlike_177 : decode cL_areAlike 177 = .ok (.invokevirtual 86, 3) := by decide +kernel
theorem dL_areAlike_180 : decode cL_areAlike 180 = .ok (.if_icmp .ne 7, 3) := by decide +kernel
theorem dL_areAlike_183 : decode cL_areAlike 183 = .ok (.iconst 1, 1) := by decide +kernel
theorem dL_areAlike_184 : decode cL_areAlike 184 = .ok (.goto 4, 3) := by decide +kernel
theorem dL_areAlike_187 : decode cL_areAlike 187 = .ok (.iconst 0, 1) := by decide +kernel
theorem dL_areAlike_188 : decode cL_areAlike 188 = .ok (.istore_n 2, 1) := by decide +kernel
theorem dL_areAlike_189 : decode cL_areAlike 189 = .ok (.iinc 3 1, 3) := by decide +kernel
theorem dL_areAlike_192 : decode cL_areAlike 192 = .ok (.goto (-48), 3) := by decide +kernel
theorem dL_areAlike_195 : decode cL_areAlike 195 = .ok (.iload_n 2, 1) := by decide +kernel
theorem dL_areAlike_196 : decode cL_areAlike 196 = .ok (.ireturn, 1) := by decide +kernel
theorem dL_areRunsSo_0 : decode cL_areRunsSo 0 = .ok (.aload_n 0, 1) := by decide +kernel
theorem dL_areRunsSo_1 : decode cL_areRunsSo 1 = .ok (.invokevirtual 44, 3) := by decide +kernel
theorem dL_areRunsSo_4 : decode cL_areRunsSo 4 = .ok (.istore_n 2, 1) := by decide +kernel
theorem dL_areRunsSo_5 : decode cL_areRunsSo 5 = .ok (.iload_n 2, 1) := by decide +kernel
theorem dL_areRunsSo_6 : decode cL_areRunsSo 6 = .ok (.ifCond .gt 20, 3) := by decide +kernel
theorem dL_areRunsSo_9 : decode cL_areRunsSo 9 = .ok (.aload_n 0, 1) := by decide +kernel
theorem dL_areRunsSo_10 : decode cL_areRunsSo 10 = .ok (.invokevirtual 61, 3) := by decide +kernel
theorem dL_areRunsSo_13 : decode cL_areRunsSo 13 = .ok (.iconst 1, 1) := by decide +kernel
theorem dL_areRunsSo_14 : decode cL_areRunsSo 14 = .ok (.if_icmp .ne 16, 3) := by decide +kernel
theorem dL_areRunsSo_17 : decode cL_areRunsSo 17 = .ok (.aload_n 0, 1) := by decide +kernel
theorem dL_areRunsSo_18 : decode cL_areRunsSo 18 = .ok (.invokevirtual 64, 3) := by decide +kernel
theorem dL_areRunsSo_21 : decode cL_areRunsSo 21 = .ok (.dconst 1, 1) := by decide +kernel
theorem dL_areRunsSo_22 : decode cL_areRunsSo 22 = .ok (.dcmp .l, 1) := by decide +kernel
theorem dL_areRunsSo_23 : decode cL_areRunsSo 23 = .ok (.ifCond .ne 7, 3) := by decide +kernel
theorem dL_areRunsSo_26 : decode cL_areRunsSo 26 = .ok (.iconst 1, 1) := by decide +kernel
theorem dL_areRunsSo_27 : decode cL_areRunsSo 27 = .ok (.goto 4, 3) := by decide +kernel
theorem dL_areRunsSo_30 : decode cL_areRunsSo 30 = .ok (.iconst 0, 1) := by decide +kernel
theorem dL_areRunsSo_31 : decode cL_areRunsSo 31 = .ok (.istore_n 3, 1) := by decide +kernel
theorem dL_areRunsSo_32 : decode cL_areRunsSo 32 = .ok (.iconst 0, 1) := by decide +kernel
theorem dL_areRunsSo_33 : decode cL_areRunsSo 33 = .ok (.istore 4, 2) := by decide +kernel
theorem dL_areRunsSo_35 : decode cL_areRunsSo 35 = .ok (.iload 4, 2) := by decide +kernel
theorem dL_areRunsSo_37 : decode cL_areRunsSo 37 = .ok (.bipush 8, 2) := by decide +kernel
theorem dL_areRunsSo_39 : decode cL_areRunsSo 39 = .ok (.if_icmp .ge 218, 3) := by decide +kernel
theorem dL_areRunsSo_42 : decode cL_areRunsSo 42 = .ok (.iload_n 1, 1) := by decide +kernel
theorem dL_areRunsSo_43 : decode cL_areRunsSo 43 = .ok (.bipush 73, 2) := by decide +kernel
theorem dL_areRunsSo_45 : decode cL_areRunsSo 45 = .ok (.iload 4, 2) := by decide +kernel
theorem dL_areRunsSo_47 : decode cL_areRunsSo 47 = .ok (.imul, 1) := by decide +kernel
theorem dL_areRunsSo_48 : decode cL_areRunsSo 48 = .ok (.iadd, 1) := by decide +kernel
theorem dL_areRunsSo_49 : decode cL_areRunsSo 49 = .ok (.sipush 512, 3) := by decide +kernel
theorem dL_areRunsSo_52 : decode cL_areRunsSo 52 = .ok (.irem, 1) := by decide +kernel
theorem dL_areRunsSo_53 : decode cL_areRunsSo 53 = .ok (.istore 5, 2) := by decide +kernel
theorem dL_areRunsSo_55 : decode cL_areRunsSo 55 = .ok (.iload 5, 2) := by decide +kernel
theorem dL_areRunsSo_57 : decode cL_areRunsSo 57 = .ok (.bipush 64, 2) := by decide +kernel
theorem dL_areRunsSo_59 : decode cL_areRunsSo 59 = .ok (.idiv, 1) := by decide +kernel
theorem dL_areRunsSo_60 : decode cL_areRunsSo 60 = .ok (.istore 6, 2) := by decide +kernel
theorem dL_areRunsSo_62 : decode cL_areRunsSo 62 = .ok (.iload 5, 2) := by decide +kernel
theorem dL_areRunsSo_64 : decode cL_areRunsSo 64 = .ok (.bipush 8, 2) := by decide +kernel
theorem dL_areRunsSo_66 : decode cL_areRunsSo 66 = .ok (.idiv, 1) := by decide +kernel
theorem dL_areRunsSo_67 : decode cL_areRunsSo 67 = .ok (.bipush 8, 2) := by decide +kernel
theorem dL_areRunsSo_69 : decode cL_areRunsSo 69 = .ok (.irem, 1) := by decide +kernel
theorem dL_areRunsSo_70 : decode cL_areRunsSo 70 = .ok (.istore 7, 2) := by decide +kernel
theorem dL_areRunsSo_72 : decode cL_areRunsSo 72 = .ok (.iload 5, 2) := by decide +kernel
theorem dL_areRunsSo_74 : decode cL_areRunsSo 74 = .ok (.bipush 8, 2) := by decide +kernel
theorem dL_areRunsSo_76 : decode cL_areRunsSo 76 = .ok (.irem, 1) := by decide +kernel
theorem dL_areRunsSo_77 : decode cL_areRunsSo 77 = .ok (.istore 8, 2) := by decide +kernel
theorem dL_areRunsSo_79 : decode cL_areRunsSo 79 = .ok (.aload_n 0, 1) := by decide +kernel
theorem dL_areRunsSo_80 : decode cL_areRunsSo 80 = .ok (.iload 6, 2) := by decide +kernel
theorem dL_areRunsSo_82 : decode cL_areRunsSo 82 = .ok (.iload 7, 2) := by decide +kernel
theorem dL_areRunsSo_84 : decode cL_areRunsSo 84 = .ok (.iload 8, 2) := by decide +kernel
theorem dL_areRunsSo_86 : decode cL_areRunsSo 86 = .ok (.invokevirtual 89, 3) := by decide +kernel
theorem dL_areRunsSo_89 : decode cL_areRunsSo 89 = .ok (.istore 9, 2) := by decide +kernel
theorem dL_areRunsSo_91 : decode cL_areRunsSo 91 = .ok (.aload_n 0, 1) := by decide +kernel
theorem dL_areRunsSo_92 : decode cL_areRunsSo 92 = .ok (.iload 6, 2) := by decide +kernel
theorem dL_areRunsSo_94 : decode cL_areRunsSo 94 = .ok (.iload 7, 2) := by decide +kernel
theorem dL_areRunsSo_96 : decode cL_areRunsSo 96 = .ok (.iload 8, 2) := by decide +kernel
theorem dL_areRunsSo_98 : decode cL_areRunsSo 98 = .ok (.invokevirtual 92, 3) := by decide +kernel
theorem dL_areRunsSo_101 : decode cL_areRunsSo 101 = .ok (.istore 10, 2) := by decide +kernel
theorem dL_areRunsSo_103 : decode cL_areRunsSo 103 = .ok (.iload_n 3, 1) := by decide +kernel
theorem dL_areRunsSo_104 : decode cL_areRunsSo 104 = .ok (.ifCond .eq 145, 3) := by decide +kernel
theorem dL_areRunsSo_107 : decode cL_areRunsSo 107 = .ok (.iload 9, 2) := by decide +kernel
theorem dL_areRunsSo_109 : decode cL_areRunsSo 109 = .ok (.sipush 1000, 3) := by decide +kernel
theorem dL_areRunsSo_112 : decode cL_areRunsSo 112 = .ok (.if_icmp .lt 7, 3) := by decide +kernel
theorem dL_areRunsSo_115 : decode cL_areRunsSo 115 = .ok (.iconst 1, 1) := by decide +kernel
theorem dL_areRunsSo_116 : decode cL_areRunsSo 116 = .ok (.goto 4, 3) := by decide +kernel
theorem dL_areRunsSo_119 : decode cL_areRunsSo 119 = .ok (.iconst 0, 1) := by decide +kernel
theorem dL_areRunsSo_120 : decode cL_areRunsSo 120 = .ok (.aload_n 0, 1) := by decide +kernel
theorem dL_areRunsSo_121 : decode cL_areRunsSo 121 = .ok (.iconst 0, 1) := by decide +kernel
theorem dL_areRunsSo_122 : decode cL_areRunsSo 122 = .ok (.iload 6, 2) := by decide +kernel
theorem dL_areRunsSo_124 : decode cL_areRunsSo 124 = .ok (.iload 7, 2) := by decide +kernel
theorem dL_areRunsSo_126 : decode cL_areRunsSo 126 = .ok (.iload 8, 2) := by decide +kernel
theorem dL_areRunsSo_128 : decode cL_areRunsSo 128 = .ok (.invokevirtual 95, 3) := by decide +kernel
theorem dL_areRunsSo_131 : decode cL_areRunsSo 131 = .ok (.if_icmp .ne 118, 3) := by decide +kernel
theorem dL_areRunsSo_134 : decode cL_areRunsSo 134 = .ok (.iload 9, 2) := by decide +kernel
theorem dL_areRunsSo_136 : decode cL_areRunsSo 136 = .ok (.iconst (-1), 1) := by decide +kernel
theorem dL_areRunsSo_137 : decode cL_areRunsSo 137 = .ok (.if_icmp .ne 7, 3) := by decide +kernel
theorem dL_areRunsSo_140 : decode cL_areRunsSo 140 = .ok (.iconst 1, 1) := by decide +kernel
theorem dL_areRunsSo_141 : decode cL_areRunsSo 141 = .ok (.goto 4, 3) := by decide +kernel
theorem dL_areRunsSo_144 : decode cL_areRunsSo 144 = .ok (.iconst 0, 1) := by decide +kernel
theorem dL_areRunsSo_145 : decode cL_areRunsSo 145 = .ok (.iload 10, 2) := by decide +kernel
theorem dL_areRunsSo_147 : decode cL_areRunsSo 147 = .ok (.iconst (-1), 1) := by decide +kernel
theorem dL_areRunsSo_148 : decode cL_areRunsSo 148 = .ok (.if_icmp .ne 7, 3) := by decide +kernel
theorem dL_areRunsSo_151 : decode cL_areRunsSo 151 = .ok (.iconst 1, 1) := by decide +kernel
theorem dL_areRunsSo_152 : decode cL_areRunsSo 152 = .ok (.goto 4, 3) := by decide +kernel
theorem dL_areRunsSo_155 : decode cL_areRunsSo 155 = .ok (.iconst 0, 1) := by decide +kernel
theorem dL_areRunsSo_156 : decode cL_areRunsSo 156 = .ok (.if_icmp .ne 93, 3) := by decide +kernel
theorem dL_areRunsSo_159 : decode cL_areRunsSo 159 = .ok (.iload 10, 2) := by decide +kernel
theorem dL_areRunsSo_161 : decode cL_areRunsSo 161 = .ok (.sipush 512, 3) := by decide +kernel
theorem dL_areRunsSo_164 : decode cL_areRunsSo 164 = .ok (.iload_n 2, 1) := by decide +kernel
theorem dL_areRunsSo_165 : decode cL_areRunsSo 165 = .ok (.imul, 1) := by decide +kernel
theorem dL_areRunsSo_166 : decode cL_areRunsSo 166 = .ok (.if_icmp .gt 83, 3) := by decide +kernel
theorem dL_areRunsSo_169 : decode cL_areRunsSo 169 = .ok (.iload 9, 2) := by decide +kernel
theorem dL_areRunsSo_171 : decode cL_areRunsSo 171 = .ok (.sipush 1512, 3) := by decide +kernel
theorem dL_areRunsSo_174 : decode cL_areRunsSo 174 = .ok (.if_icmp .ge 75, 3) := by decide +kernel
theorem dL_areRunsSo_177 : decode cL_areRunsSo 177 = .ok (.iload 9, 2) := by decide +kernel
theorem dL_areRunsSo_179 : decode cL_areRunsSo 179 = .ok (.ifCond .lt 32, 3) := by decide +kernel
theorem dL_areRunsSo_182 : decode cL_areRunsSo 182 = .ok (.iload 9, 2) := by decide +kernel
theorem dL_areRunsSo_184 : decode cL_areRunsSo 184 = .ok (.sipush 999, 3) := by decide +kernel
theorem dL_areRunsSo_187 : decode cL_areRunsSo 187 = .ok (.if_icmp .gt 24, 3) := by decide +kernel
theorem dL_areRunsSo_190 : decode cL_areRunsSo 190 = .ok (.iload 9, 2) := by decide +kernel
theorem dL_areRunsSo_192 : decode cL_areRunsSo 192 = .ok (.iload_n 2, 1) := by decide +kernel
theorem dL_areRunsSo_193 : decode cL_areRunsSo 193 = .ok (.if_icmp .ge 56, 3) := by decide +kernel
theorem dL_areRunsSo_196 : decode cL_areRunsSo 196 = .ok (.aload_n 0, 1) := by decide +kernel
theorem dL_areRunsSo_197 : decode cL_areRunsSo 197 = .ok (.iload 9, 2) := by decide +kernel
theorem dL_areRunsSo_199 : decode cL_areRunsSo 199 = .ok (.invokevirtual 68, 3) := by decide +kernel
theorem dL_areRunsSo_202 : decode cL_areRunsSo 202 = .ok (.iconst 1, 1) := by decide +kernel
theorem dL_areRunsSo_203 : decode cL_areRunsSo 203 = .ok (.if_icmp .ne 46, 3) := by decide +kernel
theorem dL_areRunsSo_206 : decode cL_areRunsSo 206 = .ok (.iload 10, 2) := by decide +kernel
theorem dL_areRunsSo_208 : decode cL_areRunsSo 208 = .ok (.ifCond .le 41, 3) := by decide +kernel
theorem dL_areRunsSo_211 : decode cL_areRunsSo 211 = .ok (.iload_n 2, 1) := by decide +kernel
theorem dL_areRunsSo_212 : decode cL_areRunsSo 212 = .ok (.ifCond .gt 19, 3) := by decide +kernel
theorem dL_areRunsSo_215 : decode cL_areRunsSo 215 = .ok (.iload 9, 2) := by decide +kernel
theorem dL_areRunsSo_217 : decode cL_areRunsSo 217 = .ok (.sipush 1000, 3) := by decide +kernel
theorem dL_areRunsSo_220 : decode cL_areRunsSo 220 = .ok (.iload 5, 2) := by decide +kernel
theorem dL_areRunsSo_222 : decode cL_areRunsSo 222 = .ok (.iadd, 1) := by decide +kernel
theorem dL_areRunsSo_223 : decode cL_areRunsSo 223 = .ok (.if_icmp .ne 26, 3) := by decide +kernel
theorem dL_areRunsSo_226 : decode cL_areRunsSo 226 = .ok (.iload 10, 2) := by decide +kernel
theorem dL_areRunsSo_228 : decode cL_areRunsSo 228 = .ok (.ifCond .ne 21, 3) := by decide +kernel
theorem dL_areRunsSo_231 : decode cL_areRunsSo 231 = .ok (.aload_n 0, 1) := by decide +kernel
theorem dL_areRunsSo_232 : decode cL_areRunsSo 232 = .ok (.iload_n 2, 1) := by decide +kernel
theorem dL_areRunsSo_233 : decode cL_areRunsSo 233 = .ok (.iload 6, 2) := by decide +kernel
theorem dL_areRunsSo_235 : decode cL_areRunsSo 235 = .ok (.iload 7, 2) := by decide +kernel
theorem dL_areRunsSo_237 : decode cL_areRunsSo 237 = .ok (.iload 8, 2) := by decide +kernel
theorem dL_areRunsSo_239 : decode cL_areRunsSo 239 = .ok (.invokevirtual 95, 3) := by decide +kernel
theorem dL_areRunsSo_242 : decode cL_areRunsSo 242 = .ok (.ifCond .eq 7, 3) := by decide +kernel
theorem dL_areRunsSo_245 : decode cL_areRunsSo 245 = .ok (.iconst 1, 1) := by decide +kernel
theorem dL_areRunsSo_246 : decode cL_areRunsSo 246 = .ok (.goto 4, 3) := by decide +kernel
theorem dL_areRunsSo_249 : decode cL_areRunsSo 249 = .ok (.iconst 0, 1) := by decide +kernel
theorem dL_areRunsSo_250 : decode cL_areRunsSo 250 = .ok (.istore_n 3, 1) := by decide +kernel
theorem dL_areRunsSo_251 : decode cL_areRunsSo 251 = .ok (.iinc 4 1, 3) := by decide +kernel
theorem dL_areRunsSo_254 : decode cL_areRunsSo 254 = .ok (.goto (-219), 3) := by decide +kernel
theorem dL_areRunsSo_257 : decode cL_areRunsSo 257 = .ok (.iload_n 3, 1) := by decide +kernel
theorem dL_areRunsSo_258 : decode cL_areRunsSo 258 = .ok (.ireturn, 1) := by decide +kernel
theorem dL_areClaimsSo_0 : decode cL_areClaimsSo 0 = .ok (.aload_n 0, 1) := by decide +kernel
theorem dL_areClaimsSo_1 : decode cL_areClaimsSo 1 = .ok (.invokevirtual 44, 3) := by decide +kernel
theorem dL_areClaimsSo_4 : decode cL_areClaimsSo 4 = .ok (.istore_n 1, 1) := by decide +kernel
theorem dL_areClaimsSo_5 : decode cL_areClaimsSo 5 = .ok (.iconst 0, 1) := by decide +kernel
theorem dL_areClaimsSo_6 : decode cL_areClaimsSo 6 = .ok (.istore_n 2, 1) := by decide +kernel
theorem dL_areClaimsSo_7 : decode cL_areClaimsSo 7 = .ok (.aload_n 0, 1) := by decide +kernel
theorem dL_areClaimsSo_8 : decode cL_areClaimsSo 8 = .ok (.iload_n 1, 1) := by decide +kernel
theorem dL_areClaimsSo_9 : decode cL_areClaimsSo 9 = .ok (.invokevirtual 74, 3) := by decide +kernel
theorem dL_areClaimsSo_12 : decode cL_areClaimsSo 12 = .ok (.sipush 512, 3) := by decide +kernel
theorem dL_areClaimsSo_15 : decode cL_areClaimsSo 15 = .ok (.if_icmp .ne 7, 3) := by decide +kernel
theorem dL_areClaimsSo_18 : decode cL_areClaimsSo 18 = .ok (.iconst 1, 1) := by decide +kernel
theorem dL_areClaimsSo_19 : decode cL_areClaimsSo 19 = .ok (.goto 4, 3) := by decide +kernel
theorem dL_areClaimsSo_22 : decode cL_areClaimsSo 22 = .ok (.iconst 0, 1) := by decide +kernel
theorem dL_areClaimsSo_23 : decode cL_areClaimsSo 23 = .ok (.istore_n 3, 1) := by decide +kernel
theorem dL_areClaimsSo_24 : decode cL_areClaimsSo 24 = .ok (.iconst 0, 1) := by decide +kernel
theorem dL_areClaimsSo_25 : decode cL_areClaimsSo 25 = .ok (.istore 4, 2) := by decide +kernel
theorem dL_areClaimsSo_27 : decode cL_areClaimsSo 27 = .ok (.iload 4, 2) := by decide +kernel
theorem dL_areClaimsSo_29 : decode cL_areClaimsSo 29 = .ok (.iload_n 1, 1) := by decide +kernel
theorem dL_areClaimsSo_30 : decode cL_areClaimsSo 30 = .ok (.if_icmp .ge 384, 3) := by decide +kernel
theorem dL_areClaimsSo_33 : decode cL_areClaimsSo 33 = .ok (.aload_n 0, 1) := by decide +kernel
theorem dL_areClaimsSo_34 : decode cL_areClaimsSo 34 = .ok (.iload 4, 2) := by decide +kernel
theorem dL_areClaimsSo_36 : decode cL_areClaimsSo 36 = .ok (.invokevirtual 77, 3) := by decide +kernel
theorem dL_areClaimsSo_39 : decode cL_areClaimsSo 39 = .ok (.istore 5, 2) := by decide +kernel
theorem dL_areClaimsSo_41 : decode cL_areClaimsSo 41 = .ok (.aload_n 0, 1) := by decide +kernel
theorem dL_areClaimsSo_42 : decode cL_areClaimsSo 42 = .ok (.iload 4, 2) := by decide +kernel
theorem dL_areClaimsSo_44 : decode cL_areClaimsSo 44 = .ok (.invokevirtual 80, 3) := by decide +kernel
theorem dL_areClaimsSo_47 : decode cL_areClaimsSo 47 = .ok (.istore 6, 2) := by decide +kernel
theorem dL_areClaimsSo_49 : decode cL_areClaimsSo 49 = .ok (.aload_n 0, 1) := by decide +kernel
theorem dL_areClaimsSo_50 : decode cL_areClaimsSo 50 = .ok (.iload 4, 2) := by decide +kernel
theorem dL_areClaimsSo_52 : decode cL_areClaimsSo 52 = .ok (.iconst 0, 1) := by decide +kernel
theorem dL_areClaimsSo_53 : decode cL_areClaimsSo 53 = .ok (.invokevirtual 83, 3) := by decide +kernel
theorem dL_areClaimsSo_56 : decode cL_areClaimsSo 56 = .ok (.ifCond .lt 7, 3) := by decide +kernel
theorem dL_areClaimsSo_59 : decode cL_areClaimsSo 59 = .ok (.iconst 1, 1) := by decide +kernel
theorem dL_areClaimsSo_60 : decode cL_areClaimsSo 60 = .ok (.goto 4, 3) := by decide +kernel
theorem dL_areClaimsSo_63 : decode cL_areClaimsSo 63 = .ok (.iconst 0, 1) := by decide +kernel
theorem dL_areClaimsSo_64 : decode cL_areClaimsSo 64 = .ok (.istore 7, 2) := by decide +kernel
theorem dL_areClaimsSo_66 : decode cL_areClaimsSo 66 = .ok (.iconst 1, 1) := by decide +kernel
theorem dL_areClaimsSo_67 : decode cL_areClaimsSo 67 = .ok (.istore 8, 2) := by decide +kernel
theorem dL_areClaimsSo_69 : decode cL_areClaimsSo 69 = .ok (.iconst 0, 1) := by decide +kernel
theorem dL_areClaimsSo_70 : decode cL_areClaimsSo 70 = .ok (.istore 9, 2) := by decide +kernel
theorem dL_areClaimsSo_72 : decode cL_areClaimsSo 72 = .ok (.iload 9, 2) := by decide +kernel
theorem dL_areClaimsSo_74 : decode cL_areClaimsSo 74 = .ok (.iconst 3, 1) := by decide +kernel
theorem dL_areClaimsSo_75 : decode cL_areClaimsSo 75 = .ok (.if_icmp .ge 95, 3) := by decide +kernel
theorem dL_areClaimsSo_78 : decode cL_areClaimsSo 78 = .ok (.iload 8, 2) := by decide +kernel
theorem dL_areClaimsSo_80 : decode cL_areClaimsSo 80 = .ok (.ifCond .eq 81, 3) := by decide +kernel
theorem dL_areClaimsSo_83 : decode cL_areClaimsSo 83 = .ok (.aload_n 0, 1) := by decide +kernel
theorem dL_areClaimsSo_84 : decode cL_areClaimsSo 84 = .ok (.iload 4, 2) := by decide +kernel
theorem dL_areClaimsSo_86 : decode cL_areClaimsSo 86 = .ok (.iload 9, 2) := by decide +kernel
theorem dL_areClaimsSo_88 : decode cL_areClaimsSo 88 = .ok (.invokevirtual 83, 3) := by decide +kernel
theorem dL_areClaimsSo_91 : decode cL_areClaimsSo 91 = .ok (.ifCond .lt 7, 3) := by decide +kernel
theorem dL_areClaimsSo_94 : decode cL_areClaimsSo 94 = .ok (.iconst 1, 1) := by decide +kernel
theorem dL_areClaimsSo_95 : decode cL_areClaimsSo 95 = .ok (.goto 4, 3) := by decide +kernel
theorem dL_areClaimsSo_98 : decode cL_areClaimsSo 98 = .ok (.iconst 0, 1) := by decide +kernel
theorem dL_areClaimsSo_99 : decode cL_areClaimsSo 99 = .ok (.iload 7, 2) := by decide +kernel
theorem dL_areClaimsSo_101 : decode cL_areClaimsSo 101 = .ok (.if_icmp .ne 60, 3) := by decide +kernel
theorem dL_areClaimsSo_104 : decode cL_areClaimsSo 104 = .ok (.aload_n 0, 1) := by decide +kernel
theorem dL_areClaimsSo_105 : decode cL_areClaimsSo 105 = .ok (.iload 4, 2) := by decide +kernel
theorem dL_areClaimsSo_107 : decode cL_areClaimsSo 107 = .ok (.iload 9, 2) := by decide +kernel
theorem dL_areClaimsSo_109 : decode cL_areClaimsSo 109 = .ok (.invokevirtual 86, 3) := by decide +kernel
theorem dL_areClaimsSo_112 : decode cL_areClaimsSo 112 = .ok (.ifCond .lt 7, 3) := by decide +kernel
theorem dL_areClaimsSo_115 : decode cL_areClaimsSo 115 = .ok (.iconst 1, 1) := by decide +kernel
theorem dL_areClaimsSo_116 : decode cL_areClaimsSo 116 = .ok (.goto 4, 3) := by decide +kernel
theorem dL_areClaimsSo_119 : decode cL_areClaimsSo 119 = .ok (.iconst 0, 1) := by decide +kernel
theorem dL_areClaimsSo_120 : decode cL_areClaimsSo 120 = .ok (.iload 7, 2) := by decide +kernel
theorem dL_areClaimsSo_122 : decode cL_areClaimsSo 122 = .ok (.if_icmp .ne 39, 3) := by decide +kernel
theorem dL_areClaimsSo_125 : decode cL_areClaimsSo 125 = .ok (.aload_n 0, 1) := by decide +kernel
theorem dL_areClaimsSo_126 : decode cL_areClaimsSo 126 = .ok (.iload 4, 2) := by decide +kernel
theorem dL_areClaimsSo_128 : decode cL_areClaimsSo 128 = .ok (.iload 9, 2) := by decide +kernel
theorem dL_areClaimsSo_130 : decode cL_areClaimsSo 130 = .ok (.invokevirtual 83, 3) := by decide +kernel
theorem dL_areClaimsSo_133 : decode cL_areClaimsSo 133 = .ok (.aload_n 0, 1) := by decide +kernel
theorem dL_areClaimsSo_134 : decode cL_areClaimsSo 134 = .ok (.iload 4, 2) := by decide +kernel
theorem dL_areClaimsSo_136 : decode cL_areClaimsSo 136 = .ok (.iload 9, 2) := by decide +kernel
theorem dL_areClaimsSo_138 : decode cL_areClaimsSo 138 = .ok (.invokevirtual 86, 3) := by decide +kernel
theorem dL_areClaimsSo_141 : decode cL_areClaimsSo 141 = .ok (.if_icmp .gt 20, 3) := by decide +kernel
theorem dL_areClaimsSo_144 : decode cL_areClaimsSo 144 = .ok (.aload_n 0, 1) := by decide +kernel
theorem dL_areClaimsSo_145 : decode cL_areClaimsSo 145 = .ok (.iload 4, 2) := by decide +kernel
theorem dL_areClaimsSo_147 : decode cL_areClaimsSo 147 = .ok (.iload 9, 2) := by decide +kernel
theorem dL_areClaimsSo_149 : decode cL_areClaimsSo 149 = .ok (.invokevirtual 86, 3) := by decide +kernel
theorem dL_areClaimsSo_152 : decode cL_areClaimsSo 152 = .ok (.bipush 8, 2) := by decide +kernel
theorem dL_areClaimsSo_154 : decode cL_areClaimsSo 154 = .ok (.if_icmp .ge 7, 3) := by decide +kernel
theorem dL_areClaimsSo_157 : decode cL_areClaimsSo 157 = .ok (.iconst 1, 1) := by decide +kernel
theorem dL_areClaimsSo_158 : decode cL_areClaimsSo 158 = .ok (.goto 4, 3) := by decide +kernel
theorem dL_areClaimsSo_161 : decode cL_areClaimsSo 161 = .ok (.iconst 0, 1) := by decide +kernel
theorem dL_areClaimsSo_162 : decode cL_areClaimsSo 162 = .ok (.istore 8, 2) := by decide +kernel
theorem dL_areClaimsSo_164 : decode cL_areClaimsSo 164 = .ok (.iinc 9 1, 3) := by decide +kernel
theorem dL_areClaimsSo_167 : decode cL_areClaimsSo 167 = .ok (.goto (-95), 3) := by decide +kernel
theorem dL_areClaimsSo_170 : decode cL_areClaimsSo 170 = .ok (.iload_n 2, 1) := by decide +kernel
theorem dL_areClaimsSo_171 : decode cL_areClaimsSo 171 = .ok (.iload 5, 2) := by decide +kernel
theorem dL_areClaimsSo_173 : decode cL_areClaimsSo 173 = .ok (.iconst 2, 1) := by decide +kernel
theorem dL_areClaimsSo_174 : decode cL_areClaimsSo 174 = .ok (.if_icmp .ne 7, 3) := by decide +kernel
theorem dL_areClaimsSo_177 : decode cL_areClaimsSo 177 = .ok (.iconst 1, 1) := by decide +kernel
theorem dL_areClaimsSo_178 : decode cL_areClaimsSo 178 = .ok (.goto 4, 3) := by decide +kernel
theorem dL_areClaimsSo_181 : decode cL_areClaimsSo 181 = .ok (.iconst 0, 1) := by decide +kernel
theorem dL_areClaimsSo_182 : decode cL_areClaimsSo 182 = .ok (.iadd, 1) := by decide +kernel
theorem dL_areClaimsSo_183 : decode cL_areClaimsSo 183 = .ok (.istore_n 2, 1) := by decide +kernel
theorem dL_areClaimsSo_184 : decode cL_areClaimsSo 184 = .ok (.iload_n 3, 1) := by decide +kernel
theorem dL_areClaimsSo_185 : decode cL_areClaimsSo 185 = .ok (.ifCond .eq 221, 3) := by decide +kernel
theorem dL_areClaimsSo_188 : decode cL_areClaimsSo 188 = .ok (.iload 8, 2) := by decide +kernel
theorem dL_areClaimsSo_190 : decode cL_areClaimsSo 190 = .ok (.ifCond .eq 216, 3) := by decide +kernel
theorem dL_areClaimsSo_193 : decode cL_areClaimsSo 193 = .ok (.aload_n 0, 1) := by decide +kernel
theorem dL_areClaimsSo_194 : decode cL_areClaimsSo 194 = .ok (.iload 4, 2) := by decide +kernel
theorem dL_areClaimsSo_196 : decode cL_areClaimsSo 196 = .ok (.invokevirtual 68, 3) := by decide +kernel
theorem dL_areClaimsSo_199 : decode cL_areClaimsSo 199 = .ok (.iconst 1, 1) := by decide +kernel
theorem dL_areClaimsSo_200 : decode cL_areClaimsSo 200 = .ok (.if_icmp .ne 81, 3) := by decide +kernel
theorem dL_areClaimsSo_203 : decode cL_areClaimsSo 203 = .ok (.iload 5, 2) := by decide +kernel
theorem dL_areClaimsSo_205 : decode cL_areClaimsSo 205 = .ok (.ifCond .lt 201, 3) := by decide +kernel
theorem dL_areClaimsSo_208 : decode cL_areClaimsSo 208 = .ok (.iload 5, 2) := by decide +kernel
theorem dL_areClaimsSo_210 : decode cL_areClaimsSo 210 = .ok (.iconst 3, 1) := by decide +kernel
theorem dL_areClaimsSo_211 : decode cL_areClaimsSo 211 = .ok (.if_icmp .ge 195, 3) := by decide +kernel
theorem dL_areClaimsSo_214 : decode cL_areClaimsSo 214 = .ok (.iload 5, 2) := by decide +kernel
theorem dL_areClaimsSo_216 : decode cL_areClaimsSo 216 = .ok (.ifCond .ne 7, 3) := by decide +kernel
theorem dL_areClaimsSo_219 : decode cL_areClaimsSo 219 = .ok (.iconst 1, 1) := by decide +kernel
theorem dL_areClaimsSo_220 : decode cL_areClaimsSo 220 = .ok (.goto 4, 3) := by decide +kernel
theorem dL_areClaimsSo_223 : decode cL_areClaimsSo 223 = .ok (.iconst 0, 1) := by decide +kernel
theorem dL_areClaimsSo_224 : decode cL_areClaimsSo 224 = .ok (.iload 7, 2) := by decide +kernel
theorem dL_areClaimsSo_226 : decode cL_areClaimsSo 226 = .ok (.ifCond .ne 7, 3) := by decide +kernel
theorem dL_areClaimsSo_229 : decode cL_areClaimsSo 229 = .ok (.iconst 1, 1) := by decide +kernel
theorem dL_areClaimsSo_230 : decode cL_areClaimsSo 230 = .ok (.goto 4, 3) := by decide +kernel
theorem dL_areClaimsSo_233 : decode cL_areClaimsSo 233 = .ok (.iconst 0, 1) := by decide +kernel
theorem dL_areClaimsSo_234 : decode cL_areClaimsSo 234 = .ok (.if_icmp .ne 172, 3) := by decide +kernel
theorem dL_areClaimsSo_237 : decode cL_areClaimsSo 237 = .ok (.iload 5, 2) := by decide +kernel
theorem dL_areClaimsSo_239 : decode cL_areClaimsSo 239 = .ok (.iconst 2, 1) := by decide +kernel
theorem dL_areClaimsSo_240 : decode cL_areClaimsSo 240 = .ok (.if_icmp .ne 7, 3) := by decide +kernel
theorem dL_areClaimsSo_243 : decode cL_areClaimsSo 243 = .ok (.iconst 1, 1) := by decide +kernel
theorem dL_areClaimsSo_244 : decode cL_areClaimsSo 244 = .ok (.goto 4, 3) := by decide +kernel
theorem dL_areClaimsSo_247 : decode cL_areClaimsSo 247 = .ok (.iconst 0, 1) := by decide +kernel
theorem dL_areClaimsSo_248 : decode cL_areClaimsSo 248 = .ok (.iload 6, 2) := by decide +kernel
theorem dL_areClaimsSo_250 : decode cL_areClaimsSo 250 = .ok (.ifCond .lt 7, 3) := by decide +kernel
theorem dL_areClaimsSo_253 : decode cL_areClaimsSo 253 = .ok (.iconst 1, 1) := by decide +kernel
theorem dL_areClaimsSo_254 : decode cL_areClaimsSo 254 = .ok (.goto 4, 3) := by decide +kernel
theorem dL_areClaimsSo_257 : decode cL_areClaimsSo 257 = .ok (.iconst 0, 1) := by decide +kernel
theorem dL_areClaimsSo_258 : decode cL_areClaimsSo 258 = .ok (.if_icmp .ne 148, 3) := by decide +kernel
theorem dL_areClaimsSo_261 : decode cL_areClaimsSo 261 = .ok (.aload_n 0, 1) := by decide +kernel
theorem dL_areClaimsSo_262 : decode cL_areClaimsSo 262 = .ok (.iload 4, 2) := by decide +kernel
theorem dL_areClaimsSo_264 : decode cL_areClaimsSo 264 = .ok (.invokevirtual 74, 3) := by decide +kernel
theorem dL_areClaimsSo_267 : decode cL_areClaimsSo 267 = .ok (.aload_n 0, 1) := by decide +kernel
theorem dL_areClaimsSo_268 : decode cL_areClaimsSo 268 = .ok (.iload 4, 2) := by decide +kernel
theorem dL_areClaimsSo_270 : decode cL_areClaimsSo 270 = .ok (.iconst 1, 1) := by decide +kernel
theorem dL_areClaimsSo_271 : decode cL_areClaimsSo 271 = .ok (.iadd, 1) := by decide +kernel
theorem dL_areClaimsSo_272 : decode cL_areClaimsSo 272 = .ok (.invokevirtual 74, 3) := by decide +kernel
theorem dL_areClaimsSo_275 : decode cL_areClaimsSo 275 = .ok (.if_icmp .gt 131, 3) := by decide +kernel
theorem dL_areClaimsSo_278 : decode cL_areClaimsSo 278 = .ok (.goto 15, 3) := by decide +kernel
theorem dL_areClaimsSo_281 : decode cL_areClaimsSo 281 = .ok (.iload 5, 2) := by decide +kernel
theorem dL_areClaimsSo_283 : decode cL_areClaimsSo 283 = .ok (.iconst (-1), 1) := by decide +kernel
theorem dL_areClaimsSo_284 : decode cL_areClaimsSo 284 = .ok (.if_icmp .ne 122, 3) := by decide +kernel
theorem dL_areClaimsSo_287 : decode cL_areClaimsSo 287 = .ok (.iload 6, 2) := by decide +kernel
theorem dL_areClaimsSo_289 : decode cL_areClaimsSo 289 = .ok (.iconst (-1), 1) := by decide +kernel
theorem dL_areClaimsSo_290 : decode cL_areClaimsSo 290 = .ok (.if_icmp .ne 116, 3) := by decide +kernel
theorem dL_areClaimsSo_293 : decode cL_areClaimsSo 293 = .ok (.aload_n 0, 1) := by decide +kernel
theorem dL_areClaimsSo_294 : decode cL_areClaimsSo 294 = .ok (.iload 4, 2) := by decide +kernel
theorem dL_areClaimsSo_296 : decode cL_areClaimsSo 296 = .ok (.invokevirtual 68, 3) := by decide +kernel
theorem dL_areClaimsSo_299 : decode cL_areClaimsSo 299 = .ok (.iconst 2, 1) := by decide +kernel
theorem dL_areClaimsSo_300 : decode cL_areClaimsSo 300 = .ok (.if_icmp .ne 50, 3) := by decide +kernel
theorem dL_areClaimsSo_303 : decode cL_areClaimsSo 303 = .ok (.aload_n 0, 1) := by decide +kernel
theorem dL_areClaimsSo_304 : decode cL_areClaimsSo 304 = .ok (.iload 4, 2) := by decide +kernel
theorem dL_areClaimsSo_306 : decode cL_areClaimsSo 306 = .ok (.invokevirtual 71, 3) := by decide +kernel
theorem dL_areClaimsSo_309 : decode cL_areClaimsSo 309 = .ok (.ifCond .lt 97, 3) := by decide +kernel
theorem dL_areClaimsSo_312 : decode cL_areClaimsSo 312 = .ok (.aload_n 0, 1) := by decide +kernel
theorem dL_areClaimsSo_313 : decode cL_areClaimsSo 313 = .ok (.iload 4, 2) := by decide +kernel
theorem dL_areClaimsSo_315 : decode cL_areClaimsSo 315 = .ok (.invokevirtual 71, 3) := by decide +kernel
theorem dL_areClaimsSo_318 : decode cL_areClaimsSo 318 = .ok (.iload_n 1, 1) := by decide +kernel
theorem dL_areClaimsSo_319 : decode cL_areClaimsSo 319 = .ok (.if_icmp .gt 87, 3) := by decide +kernel
theorem dL_areClaimsSo_322 : decode cL_areClaimsSo 322 = .ok (.aload_n 0, 1) := by decide +kernel
theorem dL_areClaimsSo_323 : decode cL_areClaimsSo 323 = .ok (.iload 4, 2) := by decide +kernel
theorem dL_areClaimsSo_325 : decode cL_areClaimsSo 325 = .ok (.invokevirtual 74, 3) := by decide +kernel
theorem dL_areClaimsSo_328 : decode cL_areClaimsSo 328 = .ok (.aload_n 0, 1) := by decide +kernel
theorem dL_areClaimsSo_329 : decode cL_areClaimsSo 329 = .ok (.iload 4, 2) := by decide +kernel
theorem dL_areClaimsSo_331 : decode cL_areClaimsSo 331 = .ok (.iconst 1, 1) := by decide +kernel
theorem dL_areClaimsSo_332 : decode cL_areClaimsSo 332 = .ok (.iadd, 1) := by decide +kernel
theorem dL_areClaimsSo_333 : decode cL_areClaimsSo 333 = .ok (.invokevirtual 74, 3) := by decide +kernel
theorem dL_areClaimsSo_336 : decode cL_areClaimsSo 336 = .ok (.aload_n 0, 1) := by decide +kernel
theorem dL_areClaimsSo_337 : decode cL_areClaimsSo 337 = .ok (.aload_n 0, 1) := by decide +kernel
theorem dL_areClaimsSo_338 : decode cL_areClaimsSo 338 = .ok (.iload 4, 2) := by decide +kernel
theorem dL_areClaimsSo_340 : decode cL_areClaimsSo 340 = .ok (.invokevirtual 71, 3) := by decide +kernel
theorem dL_areClaimsSo_343 : decode cL_areClaimsSo 343 = .ok (.invokevirtual 74, 3) := by decide +kernel
theorem dL_areClaimsSo_346 : decode cL_areClaimsSo 346 = .ok (.iadd, 1) := by decide +kernel
theorem dL_areClaimsSo_347 : decode cL_areClaimsSo 347 = .ok (.if_icmp .gt 59, 3) := by decide +kernel
theorem dL_areClaimsSo_350 : decode cL_areClaimsSo 350 = .ok (.aload_n 0, 1) := by decide +kernel
theorem dL_areClaimsSo_351 : decode cL_areClaimsSo 351 = .ok (.iload 4, 2) := by decide +kernel
theorem dL_areClaimsSo_353 : decode cL_areClaimsSo 353 = .ok (.invokevirtual 68, 3) := by decide +kernel
theorem dL_areClaimsSo_356 : decode cL_areClaimsSo 356 = .ok (.iconst 2, 1) := by decide +kernel
theorem dL_areClaimsSo_357 : decode cL_areClaimsSo 357 = .ok (.if_icmp .eq 13, 3) := by decide +kernel
theorem dL_areClaimsSo_360 : decode cL_areClaimsSo 360 = .ok (.aload_n 0, 1) := by decide +kernel
theorem dL_areClaimsSo_361 : decode cL_areClaimsSo 361 = .ok (.iload 4, 2) := by decide +kernel
theorem dL_areClaimsSo_363 : decode cL_areClaimsSo 363 = .ok (.invokevirtual 71, 3) := by decide +kernel
theorem dL_areClaimsSo_366 : decode cL_areClaimsSo 366 = .ok (.iconst (-1), 1) := by decide +kernel
theorem dL_areClaimsSo_367 : decode cL_areClaimsSo 367 = .ok (.if_icmp .ne 39, 3) := by decide +kernel
theorem dL_areClaimsSo_370 : decode cL_areClaimsSo 370 = .ok (.iload 6, 2) := by decide +kernel
theorem dL_areClaimsSo_372 : decode cL_areClaimsSo 372 = .ok (.ifCond .lt 30, 3) := by decide +kernel
theorem dL_areClaimsSo_375 : decode cL_areClaimsSo 375 = .ok (.aload_n 0, 1) := by decide +kernel
theorem dL_areClaimsSo_376 : decode cL_areClaimsSo 376 = .ok (.iload 6, 2) := by decide +kernel
theorem dL_areClaimsSo_378 : decode cL_areClaimsSo 378 = .ok (.bipush 64, 2) := by decide +kernel
theorem dL_areClaimsSo_380 : decode cL_areClaimsSo 380 = .ok (.idiv, 1) := by decide +kernel
theorem dL_areClaimsSo_381 : decode cL_areClaimsSo 381 = .ok (.iload 6, 2) := by decide +kernel
theorem dL_areClaimsSo_383 : decode cL_areClaimsSo 383 = .ok (.bipush 8, 2) := by decide +kernel
theorem dL_areClaimsSo_385 : decode cL_areClaimsSo 385 = .ok (.idiv, 1) := by decide +kernel
theorem dL_areClaimsSo_386 : decode cL_areClaimsSo 386 = .ok (.bipush 8, 2) := by decide +kernel
theorem dL_areClaimsSo_388 : decode cL_areClaimsSo 388 = .ok (.irem, 1) := by decide +kernel
theorem dL_areClaimsSo_389 : decode cL_areClaimsSo 389 = .ok (.iload 6, 2) := by decide +kernel
theorem dL_areClaimsSo_391 : decode cL_areClaimsSo 391 = .ok (.bipush 8, 2) := by decide +kernel
theorem dL_areClaimsSo_393 : decode cL_areClaimsSo 393 = .ok (.irem, 1) := by decide +kernel
theorem dL_areClaimsSo_394 : decode cL_areClaimsSo 394 = .ok (.invokevirtual 89, 3) := by decide +kernel
theorem dL_areClaimsSo_397 : decode cL_areClaimsSo 397 = .ok (.iload 4, 2) := by decide +kernel
theorem dL_areClaimsSo_399 : decode cL_areClaimsSo 399 = .ok (.if_icmp .ne 7, 3) := by decide +kernel
theorem dL_areClaimsSo_402 : decode cL_areClaimsSo 402 = .ok (.iconst 1, 1) := by decide +kernel
theorem dL_areClaimsSo_403 : decode cL_areClaimsSo 403 = .ok (.goto 4, 3) := by decide +kernel
theorem dL_areClaimsSo_406 : decode cL_areClaimsSo 406 = .ok (.iconst 0, 1) := by decide +kernel
theorem dL_areClaimsSo_407 : decode cL_areClaimsSo 407 = .ok (.istore_n 3, 1) := by decide +kernel
theorem dL_areClaimsSo_408 : decode cL_areClaimsSo 408 = .ok (.iinc 4 1, 3) := by decide +kernel
theorem dL_areClaimsSo_411 : decode cL_areClaimsSo 411 = .ok (.goto (-384), 3) := by decide +kernel
theorem dL_areClaimsSo_414 : decode cL_areClaimsSo 414 = .ok (.iload_n 3, 1) := by decide +kernel
theorem dL_areClaimsSo_415 : decode cL_areClaimsSo 415 = .ok (.ifCond .eq 88, 3) := by decide +kernel
theorem dL_areClaimsSo_418 : decode cL_areClaimsSo 418 = .ok (.aload_n 0, 1) := by decide +kernel
theorem dL_areClaimsSo_419 : decode cL_areClaimsSo 419 = .ok (.invokevirtual 61, 3) := by decide +kernel
theorem dL_areClaimsSo_422 : decode cL_areClaimsSo 422 = .ok (.iconst 2, 1) := by decide +kernel
theorem dL_areClaimsSo_423 : decode cL_areClaimsSo 423 = .ok (.if_icmp .ne 7, 3) := by decide +kernel
theorem dL_areClaimsSo_426 : decode cL_areClaimsSo 426 = .ok (.iconst 1, 1) := by decide +kernel
theorem dL_areClaimsSo_427 : decode cL_areClaimsSo 427 = .ok (.goto 4, 3) := by decide +kernel
theorem dL_areClaimsSo_430 : decode cL_areClaimsSo 430 = .ok (.iconst 0, 1) := by decide +kernel
theorem dL_areClaimsSo_431 : decode cL_areClaimsSo 431 = .ok (.iload_n 2, 1) := by decide +kernel
theorem dL_areClaimsSo_432 : decode cL_areClaimsSo 432 = .ok (.ifCond .le 7, 3) := by decide +kernel
theorem dL_areClaimsSo_435 : decode cL_areClaimsSo 435 = .ok (.iconst 1, 1) := by decide +kernel
theorem dL_areClaimsSo_436 : decode cL_areClaimsSo 436 = .ok (.goto 4, 3) := by decide +kernel
theorem dL_areClaimsSo_439 : decode cL_areClaimsSo 439 = .ok (.iconst 0, 1) := by decide +kernel
theorem dL_areClaimsSo_440 : decode cL_areClaimsSo 440 = .ok (.if_icmp .ne 63, 3) := by decide +kernel
theorem dL_areClaimsSo_443 : decode cL_areClaimsSo 443 = .ok (.aload_n 0, 1) := by decide +kernel
theorem dL_areClaimsSo_444 : decode cL_areClaimsSo 444 = .ok (.invokevirtual 61, 3) := by decide +kernel
theorem dL_areClaimsSo_447 : decode cL_areClaimsSo 447 = .ok (.iconst 1, 1) := by decide +kernel
theorem dL_areClaimsSo_448 : decode cL_areClaimsSo 448 = .ok (.if_icmp .ne 19, 3) := by decide +kernel
theorem dL_areClaimsSo_451 : decode cL_areClaimsSo 451 = .ok (.aload_n 0, 1) := by decide +kernel
theorem dL_areClaimsSo_452 : decode cL_areClaimsSo 452 = .ok (.invokevirtual 58, 3) := by decide +kernel
theorem dL_areClaimsSo_455 : decode cL_areClaimsSo 455 = .ok (.ifCond .ne 48, 3) := by decide +kernel
theorem dL_areClaimsSo_458 : decode cL_areClaimsSo 458 = .ok (.aload_n 0, 1) := by decide +kernel
theorem dL_areClaimsSo_459 : decode cL_areClaimsSo 459 = .ok (.invokevirtual 64, 3) := by decide +kernel
theorem dL_areClaimsSo_462 : decode cL_areClaimsSo 462 = .ok (.dconst 1, 1) := by decide +kernel
theorem dL_areClaimsSo_463 : decode cL_areClaimsSo 463 = .ok (.dcmp .l, 1) := by decide +kernel
theorem dL_areClaimsSo_464 : decode cL_areClaimsSo 464 = .ok (.ifCond .ne 39, 3) := by decide +kernel
theorem dL_areClaimsSo_467 : decode cL_areClaimsSo 467 = .ok (.aload_n 0, 1) := by decide +kernel
theorem dL_areClaimsSo_468 : decode cL_areClaimsSo 468 = .ok (.invokevirtual 61, 3) := by decide +kernel
theorem dL_areClaimsSo_471 : decode cL_areClaimsSo 471 = .ok (.ifCond .ne 10, 3) := by decide +kernel
theorem dL_areClaimsSo_474 : decode cL_areClaimsSo 474 = .ok (.aload_n 0, 1) := by decide +kernel
theorem dL_areClaimsSo_475 : decode cL_areClaimsSo 475 = .ok (.invokevirtual 58, 3) := by decide +kernel
theorem dL_areClaimsSo_478 : decode cL_areClaimsSo 478 = .ok (.ifCond .le 25, 3) := by decide +kernel
theorem dL_areClaimsSo_481 : decode cL_areClaimsSo 481 = .ok (.aload_n 0, 1) := by decide +kernel
theorem dL_areClaimsSo_482 : decode cL_areClaimsSo 482 = .ok (.invokevirtual 64, 3) := by decide +kernel
theorem dL_areClaimsSo_485 : decode cL_areClaimsSo 485 = .ok (.dconst 0, 1) := by decide +kernel
theorem dL_areClaimsSo_486 : decode cL_areClaimsSo 486 = .ok (.dcmp .l, 1) := by decide +kernel
theorem dL_areClaimsSo_487 : decode cL_areClaimsSo 487 = .ok (.ifCond .lt 16, 3) := by decide +kernel
theorem dL_areClaimsSo_490 : decode cL_areClaimsSo 490 = .ok (.aload_n 0, 1) := by decide +kernel
theorem dL_areClaimsSo_491 : decode cL_areClaimsSo 491 = .ok (.invokevirtual 64, 3) := by decide +kernel
theorem dL_areClaimsSo_494 : decode cL_areClaimsSo 494 = .ok (.dconst 1, 1) := by decide +kernel
theorem dL_areClaimsSo_495 : decode cL_areClaimsSo 495 = .ok (.dcmp .g, 1) := by decide +kernel
theorem dL_areClaimsSo_496 : decode cL_areClaimsSo 496 = .ok (.ifCond .gt 7, 3) := by decide +kernel
theorem dL_areClaimsSo_499 : decode cL_areClaimsSo 499 = .ok (.iconst 1, 1) := by decide +kernel
theorem dL_areClaimsSo_500 : decode cL_areClaimsSo 500 = .ok (.goto 4, 3) := by decide +kernel
theorem dL_areClaimsSo_503 : decode cL_areClaimsSo 503 = .ok (.iconst 0, 1) := by decide +kernel
theorem dL_areClaimsSo_504 : decode cL_areClaimsSo 504 = .ok (.ireturn, 1) := by decide +kernel
theorem dL_isWidestSo_0 : decode cL_isWidestSo 0 = .ok (.aload_n 0, 1) := by decide +kernel
theorem dL_isWidestSo_1 : decode cL_isWidestSo 1 = .ok (.iload_n 1, 1) := by decide +kernel
theorem dL_isWidestSo_2 : decode cL_isWidestSo 2 = .ok (.invokevirtual 99, 3) := by decide +kernel
theorem dL_isWidestSo_5 : decode cL_isWidestSo 5 = .ok (.istore_n 3, 1) := by decide +kernel
theorem dL_isWidestSo_6 : decode cL_isWidestSo 6 = .ok (.aload_n 0, 1) := by decide +kernel
theorem dL_isWidestSo_7 : decode cL_isWidestSo 7 = .ok (.invokevirtual 61, 3) := by decide +kernel
theorem dL_isWidestSo_10 : decode cL_isWidestSo 10 = .ok (.istore 4, 2) := by decide +kernel
theorem dL_isWidestSo_12 : decode cL_isWidestSo 12 = .ok (.aload_n 0, 1) := by decide +kernel
theorem dL_isWidestSo_13 : decode cL_isWidestSo 13 = .ok (.invokevirtual 58, 3) := by decide +kernel
theorem dL_isWidestSo_16 : decode cL_isWidestSo 16 = .ok (.istore 5, 2) := by decide +kernel
theorem dL_isWidestSo_18 : decode cL_isWidestSo 18 = .ok (.iload_n 3, 1) := by decide +kernel
theorem dL_isWidestSo_19 : decode cL_isWidestSo 19 = .ok (.iconst (-1), 1) := by decide +kernel
theorem dL_isWidestSo_20 : decode cL_isWidestSo 20 = .ok (.if_icmp .lt 13, 3) := by decide +kernel
theorem dL_isWidestSo_23 : decode cL_isWidestSo 23 = .ok (.iload_n 3, 1) := by decide +kernel
theorem dL_isWidestSo_24 : decode cL_isWidestSo 24 = .ok (.bipush 78, 2) := by decide +kernel
theorem dL_isWidestSo_26 : decode cL_isWidestSo 26 = .ok (.if_icmp .ge 7, 3) := by decide +kernel
theorem dL_isWidestSo_29 : decode cL_isWidestSo 29 = .ok (.iconst 1, 1) := by decide +kernel
theorem dL_isWidestSo_30 : decode cL_isWidestSo 30 = .ok (.goto 4, 3) := by decide +kernel
theorem dL_isWidestSo_33 : decode cL_isWidestSo 33 = .ok (.iconst 0, 1) := by decide +kernel
theorem dL_isWidestSo_34 : decode cL_isWidestSo 34 = .ok (.istore 6, 2) := by decide +kernel
theorem dL_isWidestSo_36 : decode cL_isWidestSo 36 = .ok (.iconst (-1), 1) := by decide +kernel
theorem dL_isWidestSo_37 : decode cL_isWidestSo 37 = .ok (.istore 7, 2) := by decide +kernel
theorem dL_isWidestSo_39 : decode cL_isWidestSo 39 = .ok (.iload 7, 2) := by decide +kernel
theorem dL_isWidestSo_41 : decode cL_isWidestSo 41 = .ok (.iconst 2, 1) := by decide +kernel
theorem dL_isWidestSo_42 : decode cL_isWidestSo 42 = .ok (.if_icmp .ge 118, 3) := by decide +kernel
theorem dL_isWidestSo_45 : decode cL_isWidestSo 45 = .ok (.iload_n 3, 1) := by decide +kernel
theorem dL_isWidestSo_46 : decode cL_isWidestSo 46 = .ok (.ifCond .lt 114, 3) := by decide +kernel
theorem dL_isWidestSo_49 : decode cL_isWidestSo 49 = .ok (.iload_n 3, 1) := by decide +kernel
theorem dL_isWidestSo_50 : decode cL_isWidestSo 50 = .ok (.bipush 10, 2) := by decide +kernel
theorem dL_isWidestSo_52 : decode cL_isWidestSo 52 = .ok (.idiv, 1) := by decide +kernel
theorem dL_isWidestSo_53 : decode cL_isWidestSo 53 = .ok (.iload 7, 2) := by decide +kernel
theorem dL_isWidestSo_55 : decode cL_isWidestSo 55 = .ok (.iconst (-1), 1) := by decide +kernel
theorem dL_isWidestSo_56 : decode cL_isWidestSo 56 = .ok (.if_icmp .ne 7, 3) := by decide +kernel
theorem dL_isWidestSo_59 : decode cL_isWidestSo 59 = .ok (.iconst (-1), 1) := by decide +kernel
theorem dL_isWidestSo_60 : decode cL_isWidestSo 60 = .ok (.goto 4, 3) := by decide +kernel
theorem dL_isWidestSo_63 : decode cL_isWidestSo 63 = .ok (.iconst 0, 1) := by decide +kernel
theorem dL_isWidestSo_64 : decode cL_isWidestSo 64 = .ok (.iadd, 1) := by decide +kernel
theorem dL_isWidestSo_65 : decode cL_isWidestSo 65 = .ok (.istore 8, 2) := by decide +kernel
theorem dL_isWidestSo_67 : decode cL_isWidestSo 67 = .ok (.iload_n 3, 1) := by decide +kernel
theorem dL_isWidestSo_68 : decode cL_isWidestSo 68 = .ok (.bipush 10, 2) := by decide +kernel
theorem dL_isWidestSo_70 : decode cL_isWidestSo 70 = .ok (.irem, 1) := by decide +kernel
theorem dL_isWidestSo_71 : decode cL_isWidestSo 71 = .ok (.iload 7, 2) := by decide +kernel
theorem dL_isWidestSo_73 : decode cL_isWidestSo 73 = .ok (.iconst 1, 1) := by decide +kernel
theorem dL_isWidestSo_74 : decode cL_isWidestSo 74 = .ok (.if_icmp .ne 7, 3) := by decide +kernel
theorem dL_isWidestSo_77 : decode cL_isWidestSo 77 = .ok (.iconst 1, 1) := by decide +kernel
theorem dL_isWidestSo_78 : decode cL_isWidestSo 78 = .ok (.goto 4, 3) := by decide +kernel
theorem dL_isWidestSo_81 : decode cL_isWidestSo 81 = .ok (.iconst 0, 1) := by decide +kernel
theorem dL_isWidestSo_82 : decode cL_isWidestSo 82 = .ok (.iadd, 1) := by decide +kernel
theorem dL_isWidestSo_83 : decode cL_isWidestSo 83 = .ok (.istore 9, 2) := by decide +kernel
theorem dL_isWidestSo_85 : decode cL_isWidestSo 85 = .ok (.iload 8, 2) := by decide +kernel
theorem dL_isWidestSo_87 : decode cL_isWidestSo 87 = .ok (.ifCond .lt 67, 3) := by decide +kernel
theorem dL_isWidestSo_90 : decode cL_isWidestSo 90 = .ok (.iload 9, 2) := by decide +kernel
theorem dL_isWidestSo_92 : decode cL_isWidestSo 92 = .ok (.bipush 8, 2) := by decide +kernel
theorem dL_isWidestSo_94 : decode cL_isWidestSo 94 = .ok (.if_icmp .ge 60, 3) := by decide +kernel
theorem dL_isWidestSo_97 : decode cL_isWidestSo 97 = .ok (.iload 6, 2) := by decide +kernel
theorem dL_isWidestSo_99 : decode cL_isWidestSo 99 = .ok (.ifCond .eq 52, 3) := by decide +kernel
theorem dL_isWidestSo_102 : decode cL_isWidestSo 102 = .ok (.aload_n 0, 1) := by decide +kernel
theorem dL_isWidestSo_103 : decode cL_isWidestSo 103 = .ok (.iload_n 1, 1) := by decide +kernel
theorem dL_isWidestSo_104 : decode cL_isWidestSo 104 = .ok (.iload 8, 2) := by decide +kernel
theorem dL_isWidestSo_106 : decode cL_isWidestSo 106 = .ok (.iload 9, 2) := by decide +kernel
theorem dL_isWidestSo_108 : decode cL_isWidestSo 108 = .ok (.invokevirtual 20, 3) := by decide +kernel
theorem dL_isWidestSo_111 : decode cL_isWidestSo 111 = .ok (.ifCond .le 40, 3) := by decide +kernel
theorem dL_isWidestSo_114 : decode cL_isWidestSo 114 = .ok (.aload_n 0, 1) := by decide +kernel
theorem dL_isWidestSo_115 : decode cL_isWidestSo 115 = .ok (.invokevirtual 61, 3) := by decide +kernel
theorem dL_isWidestSo_118 : decode cL_isWidestSo 118 = .ok (.iconst 1, 1) := by decide +kernel
theorem dL_isWidestSo_119 : decode cL_isWidestSo 119 = .ok (.if_icmp .ne 7, 3) := by decide +kernel
theorem dL_isWidestSo_122 : decode cL_isWidestSo 122 = .ok (.iconst 1, 1) := by decide +kernel
theorem dL_isWidestSo_123 : decode cL_isWidestSo 123 = .ok (.goto 4, 3) := by decide +kernel
theorem dL_isWidestSo_126 : decode cL_isWidestSo 126 = .ok (.iconst 0, 1) := by decide +kernel
theorem dL_isWidestSo_127 : decode cL_isWidestSo 127 = .ok (.iload 7, 2) := by decide +kernel
theorem dL_isWidestSo_129 : decode cL_isWidestSo 129 = .ok (.ifCond .ne 7, 3) := by decide +kernel
theorem dL_isWidestSo_132 : decode cL_isWidestSo 132 = .ok (.iconst 1, 1) := by decide +kernel
theorem dL_isWidestSo_133 : decode cL_isWidestSo 133 = .ok (.goto 4, 3) := by decide +kernel
theorem dL_isWidestSo_136 : decode cL_isWidestSo 136 = .ok (.iconst 0, 1) := by decide +kernel
theorem dL_isWidestSo_137 : decode cL_isWidestSo 137 = .ok (.if_icmp .ne 14, 3) := by decide +kernel
theorem dL_isWidestSo_140 : decode cL_isWidestSo 140 = .ok (.aload_n 0, 1) := by decide +kernel
theorem dL_isWidestSo_141 : decode cL_isWidestSo 141 = .ok (.invokevirtual 102, 3) := by decide +kernel
theorem dL_isWidestSo_144 : decode cL_isWidestSo 144 = .ok (.ifCond .lt 7, 3) := by decide +kernel
theorem dL_isWidestSo_147 : decode cL_isWidestSo 147 = .ok (.iconst 1, 1) := by decide +kernel
theorem dL_isWidestSo_148 : decode cL_isWidestSo 148 = .ok (.goto 4, 3) := by decide +kernel
theorem dL_isWidestSo_151 : decode cL_isWidestSo 151 = .ok (.iconst 0, 1) := by decide +kernel
theorem dL_isWidestSo_152 : decode cL_isWidestSo 152 = .ok (.istore 6, 2) := by decide +kernel
theorem dL_isWidestSo_154 : decode cL_isWidestSo 154 = .ok (.iinc 7 1, 3) := by decide +kernel
theorem dL_isWidestSo_157 : decode cL_isWidestSo 157 = .ok (.goto (-118), 3) := by decide +kernel
theorem dL_isWidestSo_160 : decode cL_isWidestSo 160 = .ok (.iconst 0, 1) := by decide +kernel
theorem dL_isWidestSo_161 : decode cL_isWidestSo 161 = .ok (.istore 7, 2) := by decide +kernel
theorem dL_isWidestSo_163 : decode cL_isWidestSo 163 = .ok (.iload 7, 2) := by decide +kernel
theorem dL_isWidestSo_165 : decode cL_isWidestSo 165 = .ok (.bipush 8, 2) := by decide +kernel
theorem dL_isWidestSo_167 : decode cL_isWidestSo 167 = .ok (.if_icmp .ge 53, 3) := by decide +kernel
theorem dL_isWidestSo_170 : decode cL_isWidestSo 170 = .ok (.iload_n 3, 1) := by decide +kernel
theorem dL_isWidestSo_171 : decode cL_isWidestSo 171 = .ok (.iconst (-1), 1) := by decide +kernel
theorem dL_isWidestSo_172 : decode cL_isWidestSo 172 = .ok (.if_icmp .ne 48, 3) := by decide +kernel
theorem dL_isWidestSo_175 : decode cL_isWidestSo 175 = .ok (.iload 6, 2) := by decide +kernel
theorem dL_isWidestSo_177 : decode cL_isWidestSo 177 = .ok (.ifCond .eq 34, 3) := by decide +kernel
theorem dL_isWidestSo_180 : decode cL_isWidestSo 180 = .ok (.aload_n 0, 1) := by decide +kernel
theorem dL_isWidestSo_181 : decode cL_isWidestSo 181 = .ok (.iload_n 1, 1) := by decide +kernel
theorem dL_isWidestSo_182 : decode cL_isWidestSo 182 = .ok (.iload 7, 2) := by decide +kernel
theorem dL_isWidestSo_184 : decode cL_isWidestSo 184 = .ok (.iload 7, 2) := by decide +kernel
theorem dL_isWidestSo_186 : decode cL_isWidestSo 186 = .ok (.invokevirtual 20, 3) := by decide +kernel
theorem dL_isWidestSo_189 : decode cL_isWidestSo 189 = .ok (.ifCond .le 22, 3) := by decide +kernel
theorem dL_isWidestSo_192 : decode cL_isWidestSo 192 = .ok (.aload_n 0, 1) := by decide +kernel
theorem dL_isWidestSo_193 : decode cL_isWidestSo 193 = .ok (.invokevirtual 61, 3) := by decide +kernel
theorem dL_isWidestSo_196 : decode cL_isWidestSo 196 = .ok (.iconst 1, 1) := by decide +kernel
theorem dL_isWidestSo_197 : decode cL_isWidestSo 197 = .ok (.if_icmp .eq 14, 3) := by decide +kernel
theorem dL_isWidestSo_200 : decode cL_isWidestSo 200 = .ok (.aload_n 0, 1) := by decide +kernel
theorem dL_isWidestSo_201 : decode cL_isWidestSo 201 = .ok (.invokevirtual 102, 3) := by decide +kernel
theorem dL_isWidestSo_204 : decode cL_isWidestSo 204 = .ok (.ifCond .lt 7, 3) := by decide +kernel
theorem dL_isWidestSo_207 : decode cL_isWidestSo 207 = .ok (.iconst 1, 1) := by decide +kernel
theorem dL_isWidestSo_208 : decode cL_isWidestSo 208 = .ok (.goto 4, 3) := by decide +kernel
theorem dL_isWidestSo_211 : decode cL_isWidestSo 211 = .ok (.iconst 0, 1) := by decide +kernel
theorem dL_isWidestSo_212 : decode cL_isWidestSo 212 = .ok (.istore 6, 2) := by decide +kernel
theorem dL_isWidestSo_214 : decode cL_isWidestSo 214 = .ok (.iinc 7 1, 3) := by decide +kernel
theorem dL_isWidestSo_217 : decode cL_isWidestSo 217 = .ok (.goto (-54), 3) := by decide +kernel
theorem dL_isWidestSo_220 : decode cL_isWidestSo 220 = .ok (.iload 6, 2) := by decide +kernel
theorem dL_isWidestSo_222 : decode cL_isWidestSo 222 = .ok (.ifCond .eq 55, 3) := by decide +kernel
theorem dL_isWidestSo_225 : decode cL_isWidestSo 225 = .ok (.iload 4, 2) := by decide +kernel
theorem dL_isWidestSo_227 : decode cL_isWidestSo 227 = .ok (.iconst 1, 1) := by decide +kernel
theorem dL_isWidestSo_228 : decode cL_isWidestSo 228 = .ok (.if_icmp .ne 7, 3) := by decide +kernel
theorem dL_isWidestSo_231 : decode cL_isWidestSo 231 = .ok (.iload_n 3, 1) := by decide +kernel
theorem dL_isWidestSo_232 : decode cL_isWidestSo 232 = .ok (.ifCond .lt 45, 3) := by decide +kernel
theorem dL_isWidestSo_235 : decode cL_isWidestSo 235 = .ok (.aload_n 0, 1) := by decide +kernel
theorem dL_isWidestSo_236 : decode cL_isWidestSo 236 = .ok (.invokevirtual 61, 3) := by decide +kernel
theorem dL_isWidestSo_239 : decode cL_isWidestSo 239 = .ok (.iload 4, 2) := by decide +kernel
theorem dL_isWidestSo_241 : decode cL_isWidestSo 241 = .ok (.if_icmp .ne 36, 3) := by decide +kernel
theorem dL_isWidestSo_244 : decode cL_isWidestSo 244 = .ok (.aload_n 0, 1) := by decide +kernel
theorem dL_isWidestSo_245 : decode cL_isWidestSo 245 = .ok (.invokevirtual 58, 3) := by decide +kernel
theorem dL_isWidestSo_248 : decode cL_isWidestSo 248 = .ok (.iload 5, 2) := by decide +kernel
theorem dL_isWidestSo_250 : decode cL_isWidestSo 250 = .ok (.if_icmp .ne 27, 3) := by decide +kernel
theorem dL_isWidestSo_253 : decode cL_isWidestSo 253 = .ok (.aload_n 0, 1) := by decide +kernel
theorem dL_isWidestSo_254 : decode cL_isWidestSo 254 = .ok (.invokevirtual 55, 3) := by decide +kernel
theorem dL_isWidestSo_257 : decode cL_isWidestSo 257 = .ok (.ifCond .ne 20, 3) := by decide +kernel
theorem dL_isWidestSo_260 : decode cL_isWidestSo 260 = .ok (.aload_n 0, 1) := by decide +kernel
theorem dL_isWidestSo_261 : decode cL_isWidestSo 261 = .ok (.iconst 3, 1) := by decide +kernel
theorem dL_isWidestSo_262 : decode cL_isWidestSo 262 = .ok (.iconst 3, 1) := by decide +kernel
theorem dL_isWidestSo_263 : decode cL_isWidestSo 263 = .ok (.iconst 0, 1) := by decide +kernel
theorem dL_isWidestSo_264 : decode cL_isWidestSo 264 = .ok (.iconst 0, 1) := by decide +kernel
theorem dL_isWidestSo_265 : decode cL_isWidestSo 265 = .ok (.aload_n 2, 1) := by decide +kernel
theorem dL_isWidestSo_266 : decode cL_isWidestSo 266 = .ok (.invokestatic 51, 3) := by decide +kernel
theorem dL_isWidestSo_269 : decode cL_isWidestSo 269 = .ok (.iconst 1, 1) := by decide +kernel
theorem dL_isWidestSo_270 : decode cL_isWidestSo 270 = .ok (.if_icmp .ne 7, 3) := by decide +kernel
theorem dL_isWidestSo_273 : decode cL_isWidestSo 273 = .ok (.iconst 1, 1) := by decide +kernel
theorem dL_isWidestSo_274 : decode cL_isWidestSo 274 = .ok (.goto 4, 3) := by decide +kernel
theorem dL_isWidestSo_277 : decode cL_isWidestSo 277 = .ok (.iconst 0, 1) := by decide +kernel
theorem dL_isWidestSo_278 : decode cL_isWidestSo 278 = .ok (.ireturn, 1) := by decide +kernel
theorem dL_law_0 : decode cL_law 0 = .ok (.new 9, 3) := by decide +kernel
theorem dL_law_3 : decode cL_law 3 = .ok (.dup, 1) := by decide +kernel
theorem dL_law_4 : decode cL_law 4 = .ok (.invokespecial 105, 3) := by decide +kernel
theorem dL_law_7 : decode cL_law 7 = .ok (.astore_n 1, 1) := by decide +kernel
theorem dL_law_8 : decode cL_law 8 = .ok (.new 9, 3) := by decide +kernel
theorem dL_law_11 : decode cL_law 11 = .ok (.dup, 1) := by decide +kernel
theorem dL_law_12 : decode cL_law 12 = .ok (.invokespecial 105, 3) := by decide +kernel
theorem dL_law_15 : decode cL_law 15 = .ok (.astore_n 2, 1) := by decide +kernel
theorem dL_law_16 : decode cL_law 16 = .ok (.iconst 1, 1) := by decide +kernel
theorem dL_law_17 : decode cL_law 17 = .ok (.newarray .int, 2) := by decide +kernel
theorem dL_law_19 : decode cL_law 19 = .ok (.astore_n 3, 1) := by decide +kernel
theorem dL_law_20 : decode cL_law 20 = .ok (.iconst 0, 1) := by decide +kernel
theorem dL_law_21 : decode cL_law 21 = .ok (.istore 4, 2) := by decide +kernel
theorem dL_law_23 : decode cL_law 23 = .ok (.iload 4, 2) := by decide +kernel
theorem dL_law_25 : decode cL_law 25 = .ok (.bipush 12, 2) := by decide +kernel
theorem dL_law_27 : decode cL_law 27 = .ok (.if_icmp .ge 226, 3) := by decide +kernel
theorem dL_law_30 : decode cL_law 30 = .ok (.aload_n 0, 1) := by decide +kernel
theorem dL_law_31 : decode cL_law 31 = .ok (.iconst 5, 1) := by decide +kernel
theorem dL_law_32 : decode cL_law 32 = .ok (.iload 4, 2) := by decide +kernel
theorem dL_law_34 : decode cL_law 34 = .ok (.imul, 1) := by decide +kernel
theorem dL_law_35 : decode cL_law 35 = .ok (.invokestatic 40, 3) := by decide +kernel
theorem dL_law_38 : decode cL_law 38 = .ok (.istore 5, 2) := by decide +kernel
theorem dL_law_40 : decode cL_law 40 = .ok (.aload_n 1, 1) := by decide +kernel
theorem dL_law_41 : decode cL_law 41 = .ok (.invokevirtual 106, 3) := by decide +kernel
theorem dL_law_44 : decode cL_law 44 = .ok (.istore 6, 2) := by decide +kernel
theorem dL_law_46 : decode cL_law 46 = .ok (.aload_n 1, 1) := by decide +kernel
theorem dL_law_47 : decode cL_law 47 = .ok (.aload_n 0, 1) := by decide +kernel
theorem dL_law_48 : decode cL_law 48 = .ok (.iload 4, 2) := by decide +kernel
theorem dL_law_50 : decode cL_law 50 = .ok (.aload_n 3, 1) := by decide +kernel
theorem dL_law_51 : decode cL_law 51 = .ok (.invokestatic 109, 3) := by decide +kernel
theorem dL_law_54 : decode cL_law 54 = .ok (.istore 7, 2) := by decide +kernel
theorem dL_law_56 : decode cL_law 56 = .ok (.aload_n 3, 1) := by decide +kernel
theorem dL_law_57 : decode cL_law 57 = .ok (.iconst 0, 1) := by decide +kernel
theorem dL_law_58 : decode cL_law 58 = .ok (.iaload, 1) := by decide +kernel
theorem dL_law_59 : decode cL_law 59 = .ok (.istore 8, 2) := by decide +kernel
theorem dL_law_61 : decode cL_law 61 = .ok (.iload 7, 2) := by decide +kernel
theorem dL_law_63 : decode cL_law 63 = .ok (.bipush 9, 2) := by decide +kernel
theorem dL_law_65 : decode cL_law 65 = .ok (.if_icmp .eq 25, 3) := by decide +kernel
theorem dL_law_68 : decode cL_law 68 = .ok (.iload 7, 2) := by decide +kernel
theorem dL_law_70 : decode cL_law 70 = .ok (.ifCond .eq 22, 3) := by decide +kernel
theorem dL_law_73 : decode cL_law 73 = .ok (.aload_n 1, 1) := by decide +kernel
theorem dL_law_74 : decode cL_law 74 = .ok (.aload_n 2, 1) := by decide +kernel
theorem dL_law_75 : decode cL_law 75 = .ok (.invokestatic 113, 3) := by decide +kernel
theorem dL_law_78 : decode cL_law 78 = .ok (.ifCond .eq 12, 3) := by decide +kernel
theorem dL_law_81 : decode cL_law 81 = .ok (.aload_n 1, 1) := by decide +kernel
theorem dL_law_82 : decode cL_law 82 = .ok (.invokevirtual 106, 3) := by decide +kernel
theorem dL_law_85 : decode cL_law 85 = .ok (.iload 6, 2) := by decide +kernel
theorem dL_law_87 : decode cL_law 87 = .ok (.if_icmp .eq 5, 3) := by decide +kernel
theorem dL_law_90 : decode cL_law 90 = .ok (.iconst 0, 1) := by decide +kernel
theorem dL_law_91 : decode cL_law 91 = .ok (.ireturn, 1) := by decide +kernel
theorem dL_law_92 : decode cL_law 92 = .ok (.iload 7, 2) := by decide +kernel
theorem dL_law_94 : decode cL_law 94 = .ok (.ifCond .ne 66, 3) := by decide +kernel
theorem dL_law_97 : decode cL_law 97 = .ok (.iload 5, 2) := by decide +kernel
theorem dL_law_99 : decode cL_law 99 = .ok (.bipush 9, 2) := by decide +kernel
theorem dL_law_101 : decode cL_law 101 = .ok (.ishr, 1) := by decide +kernel
theorem dL_law_102 : decode cL_law 102 = .ok (.iconst 1, 1) := by decide +kernel
theorem dL_law_103 : decode cL_law 103 = .ok (.iand, 1) := by decide +kernel
theorem dL_law_104 : decode cL_law 104 = .ok (.ifCond .ne 56, 3) := by decide +kernel
theorem dL_law_107 : decode cL_law 107 = .ok (.aload_n 1, 1) := by decide +kernel
theorem dL_law_108 : decode cL_law 108 = .ok (.invokevirtual 102, 3) := by decide +kernel
theorem dL_law_111 : decode cL_law 111 = .ok (.istore 9, 2) := by decide +kernel
theorem dL_law_113 : decode cL_law 113 = .ok (.iload 9, 2) := by decide +kernel
theorem dL_law_115 : decode cL_law 115 = .ok (.iload 6, 2) := by decide +kernel
theorem dL_law_117 : decode cL_law 117 = .ok (.bipush 6, 2) := by decide +kernel
theorem dL_law_119 : decode cL_law 119 = .ok (.if_icmp .ne 7, 3) := by decide +kernel
theorem dL_law_122 : decode cL_law 122 = .ok (.iconst 5, 1) := by decide +kernel
theorem dL_law_123 : decode cL_law 123 = .ok (.goto 5, 3) := by decide +kernel
theorem dL_law_126 : decode cL_law 126 = .ok (.iload 6, 2) := by decide +kernel
theorem dL_law_128 : decode cL_law 128 = .ok (.if_icmp .ne 30, 3) := by decide +kernel
theorem dL_law_131 : decode cL_law 131 = .ok (.aload_n 1, 1) := by decide +kernel
theorem dL_law_132 : decode cL_law 132 = .ok (.aload_n 2, 1) := by decide +kernel
theorem dL_law_133 : decode cL_law 133 = .ok (.invokestatic 113, 3) := by decide +kernel
theorem dL_law_136 : decode cL_law 136 = .ok (.ifCond .eq 22, 3) := by decide +kernel
theorem dL_law_139 : decode cL_law 139 = .ok (.aload_n 1, 1) := by decide +kernel
theorem dL_law_140 : decode cL_law 140 = .ok (.aload_n 0, 1) := by decide +kernel
theorem dL_law_141 : decode cL_law 141 = .ok (.iload 4, 2) := by decide +kernel
theorem dL_law_143 : decode cL_law 143 = .ok (.aload_n 3, 1) := by decide +kernel
theorem dL_law_144 : decode cL_law 144 = .ok (.invokestatic 109, 3) := by decide +kernel
theorem dL_law_147 : decode cL_law 147 = .ok (.ifCond .ne 11, 3) := by decide +kernel
theorem dL_law_150 : decode cL_law 150 = .ok (.aload_n 3, 1) := by decide +kernel
theorem dL_law_151 : decode cL_law 151 = .ok (.iconst 0, 1) := by decide +kernel
theorem dL_law_152 : decode cL_law 152 = .ok (.iaload, 1) := by decide +kernel
theorem dL_law_153 : decode cL_law 153 = .ok (.iload 8, 2) := by decide +kernel
theorem dL_law_155 : decode cL_law 155 = .ok (.if_icmp .eq 5, 3) := by decide +kernel
theorem dL_law_158 : decode cL_law 158 = .ok (.iconst 0, 1) := by decide +kernel
theorem dL_law_159 : decode cL_law 159 = .ok (.ireturn, 1) := by decide +kernel
theorem dL_law_160 : decode cL_law 160 = .ok (.aload_n 2, 1) := by decide +kernel
theorem dL_law_161 : decode cL_law 161 = .ok (.aload_n 0, 1) := by decide +kernel
theorem dL_law_162 : decode cL_law 162 = .ok (.iload 4, 2) := by decide +kernel
theorem dL_law_164 : decode cL_law 164 = .ok (.aload_n 3, 1) := by decide +kernel
theorem dL_law_165 : decode cL_law 165 = .ok (.invokestatic 109, 3) := by decide +kernel
theorem dL_law_168 : decode cL_law 168 = .ok (.iload 7, 2) := by decide +kernel
theorem dL_law_170 : decode cL_law 170 = .ok (.if_icmp .ne 24, 3) := by decide +kernel
theorem dL_law_173 : decode cL_law 173 = .ok (.iload 7, 2) := by decide +kernel
theorem dL_law_175 : decode cL_law 175 = .ok (.ifCond .ne 11, 3) := by decide +kernel
theorem dL_law_178 : decode cL_law 178 = .ok (.aload_n 3, 1) := by decide +kernel
theorem dL_law_179 : decode cL_law 179 = .ok (.iconst 0, 1) := by decide +kernel
theorem dL_law_180 : decode cL_law 180 = .ok (.iaload, 1) := by decide +kernel
theorem dL_law_181 : decode cL_law 181 = .ok (.iload 8, 2) := by decide +kernel
theorem dL_law_183 : decode cL_law 183 = .ok (.if_icmp .ne 11, 3) := by decide +kernel
theorem dL_law_186 : decode cL_law 186 = .ok (.aload_n 1, 1) := by decide +kernel
theorem dL_law_187 : decode cL_law 187 = .ok (.aload_n 2, 1) := by decide +kernel
theorem dL_law_188 : decode cL_law 188 = .ok (.invokestatic 113, 3) := by decide +kernel
theorem dL_law_191 : decode cL_law 191 = .ok (.ifCond .ne 5, 3) := by decide +kernel
theorem dL_law_194 : decode cL_law 194 = .ok (.iconst 0, 1) := by decide +kernel
theorem dL_law_195 : decode cL_law 195 = .ok (.ireturn, 1) := by decide +kernel
theorem dL_law_196 : decode cL_law 196 = .ok (.aload_n 1, 1) := by decide +kernel
theorem dL_law_197 : decode cL_law 197 = .ok (.iload 5, 2) := by decide +kernel
theorem dL_law_199 : decode cL_law 199 = .ok (.iconst 5, 1) := by decide +kernel
theorem dL_law_200 : decode cL_law 200 = .ok (.ishr, 1) := by decide +kernel
theorem dL_law_201 : decode cL_law 201 = .ok (.sipush 512, 3) := by decide +kernel
theorem dL_law_204 : decode cL_law 204 = .ok (.invokestatic 30, 3) := by decide +kernel
theorem dL_law_207 : decode cL_law 207 = .ok (.invokestatic 117, 3) := by decide +kernel
theorem dL_law_210 : decode cL_law 210 = .ok (.ifCond .eq 35, 3) := by decide +kernel
theorem dL_law_213 : decode cL_law 213 = .ok (.aload_n 1, 1) := by decide +kernel
theorem dL_law_214 : decode cL_law 214 = .ok (.invokestatic 121, 3) := by decide +kernel
theorem dL_law_217 : decode cL_law 217 = .ok (.ifCond .eq 28, 3) := by decide +kernel
theorem dL_law_220 : decode cL_law 220 = .ok (.aload_n 1, 1) := by decide +kernel
theorem dL_law_221 : decode cL_law 221 = .ok (.iload 5, 2) := by decide +kernel
theorem dL_law_223 : decode cL_law 223 = .ok (.bipush 7, 2) := by decide +kernel
theorem dL_law_225 : decode cL_law 225 = .ok (.ishr, 1) := by decide +kernel
theorem dL_law_226 : decode cL_law 226 = .ok (.iconst 3, 1) := by decide +kernel
theorem dL_law_227 : decode cL_law 227 = .ok (.invokestatic 30, 3) := by decide +kernel
theorem dL_law_230 : decode cL_law 230 = .ok (.aload_n 3, 1) := by decide +kernel
theorem dL_law_231 : decode cL_law 231 = .ok (.invokestatic 125, 3) := by decide +kernel
theorem dL_law_234 : decode cL_law 234 = .ok (.ifCond .eq 11, 3) := by decide +kernel
theorem dL_law_237 : decode cL_law 237 = .ok (.aload_n 1, 1) := by decide +kernel
theorem dL_law_238 : decode cL_law 238 = .ok (.aload_n 2, 1) := by decide +kernel
theorem dL_law_239 : decode cL_law 239 = .ok (.invokestatic 113, 3) := by decide +kernel
theorem dL_law_242 : decode cL_law 242 = .ok (.ifCond .ne 5, 3) := by decide +kernel
theorem dL_law_245 : decode cL_law 245 = .ok (.iconst 0, 1) := by decide +kernel
theorem dL_law_246 : decode cL_law 246 = .ok (.ireturn, 1) := by decide +kernel
theorem dL_law_247 : decode cL_law 247 = .ok (.iinc 4 1, 3) := by decide +kernel
theorem dL_law_250 : decode cL_law 250 = .ok (.goto (-227), 3) := by decide +kernel
theorem dL_law_253 : decode cL_law 253 = .ok (.iconst 1, 1) := by decide +kernel
theorem dL_law_254 : decode cL_law 254 = .ok (.ireturn, 1) := by decide +kernel
abbrev vwCl : List vw_C := [(RX0, TX0, 2), (RX1, TX1, 4), (RX2, TX2, 11), (RX3, TX3, 7), (RX4, TX4, 3), (RX5, TX5, 9), (RX6, TX6, 6)]

