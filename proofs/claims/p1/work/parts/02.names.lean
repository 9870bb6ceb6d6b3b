def RX0 : String := "LateGlass$Hanger"
def TX0 : u_T := fun k => match k with
  | 0 => ("LateGlass$Hanger", "house", "LLateGlass$House;", true)
  | 1 => ("LateGlass$Hanger", "eye", "LLateGlass$Look;", true)
  | 2 => ("LateGlass$Hanger", "fewest", "I", false)
  | 3 => ("LateGlass$Hanger", "choices", "I", false)
  | _ => ("LateGlass$Hanger", "lowest", "I", false)
def tyX0 : Nat → FieldType := fun k => match k with
  | 0 => .object "LateGlass$House"
  | 1 => .object "LateGlass$Look"
  | 2 => .int
  | 3 => .int
  | _ => .int
abbrev wsX00 : List Cond := u_ws RX0 TX0 5
theorem nmX0 : ∀ a, a < 5 → ∀ b, b < 5 → a ≠ b → (TX0 a).2.1 ≠ (TX0 b).2.1 := by decide +kernel
theorem tyX0_ok : ∀ k, k < 5 → parseFieldDescriptor (TX0 k).2.2.1 = some (tyX0 k) := by decide +kernel
abbrev cX0_init : ByteArray := prog_2_method_1_code
def yX0_init : MethodName := ⟨RX0, "<init>", "(LLateGlass$House;LLateGlass$Look;)V"⟩
abbrev cX0_lacking : ByteArray := prog_2_method_2_code
def yX0_lacking : MethodName := ⟨RX0, "lacking", "(I)I"⟩
abbrev cX0_search : ByteArray := prog_2_method_3_code
def yX0_search : MethodName := ⟨RX0, "search", "()V"⟩
def RX1 : String := "LateGlass$House"
def TX1 : u_T := fun k => match k with
  | 0 => ("LateGlass$House", "walls", "J", false)
  | 1 => ("LateGlass$House", "least", "I", false)
  | 2 => ("LateGlass$House", "start", "I", false)
  | 3 => ("LateGlass$House", "forced", "I", false)
  | 4 => ("LateGlass$House", "lawCount", "I", false)
  | 5 => ("LateGlass$House", "laws", "[LLateGlass$Law;", true)
  | 6 => ("LateGlass$House", "glasses", "LLateGlass$Table;", true)
  | 7 => ("LateGlass$House", "bodies", "LLateGlass$Table;", true)
  | 8 => ("LateGlass$House", "sightings", "LLateGlass$Table;", true)
  | 9 => ("LateGlass$House", "spots", "LLateGlass$Table;", true)
  | 10 => ("LateGlass$House", "wishes", "LLateGlass$Table;", true)
  | 11 => ("LateGlass$House", "glassBoard", "J", false)
  | _ => ("LateGlass$House", "bodyBoards", "[J", true)
def tyX1 : Nat → FieldType := fun k => match k with
  | 0 => .long
  | 1 => .int
  | 2 => .int
  | 3 => .int
  | 4 => .int
  | 5 => .array (.object "LateGlass$Law")
  | 6 => .object "LateGlass$Table"
  | 7 => .object "LateGlass$Table"
  | 8 => .object "LateGlass$Table"
  | 9 => .object "LateGlass$Table"
  | 10 => .object "LateGlass$Table"
  | 11 => .long
  | _ => .array .long
abbrev wsX10 : List Cond := u_ws RX1 TX1 13
theorem nmX1 : ∀ a, a < 13 → ∀ b, b < 13 → a ≠ b → (TX1 a).2.1 ≠ (TX1 b).2.1 := by decide +kernel
theorem tyX1_ok : ∀ k, k < 13 → parseFieldDescriptor (TX1 k).2.2.1 = some (tyX1 k) := by decide +kernel
abbrev cX1_init : ByteArray := prog_3_method_1_code
def yX1_init : MethodName := ⟨RX1, "<init>", "()V"⟩
abbrev cX1_isWalled : ByteArray := prog_3_method_2_code
def yX1_isWalled : MethodName := ⟨RX1, "isWalled", "(I)Z"⟩
abbrev cX1_isTaken : ByteArray := prog_3_method_3_code
def yX1_isTaken : MethodName := ⟨RX1, "isTaken", "(I)Z"⟩
abbrev cX1_canHang : ByteArray := prog_3_method_4_code
def yX1_canHang : MethodName := ⟨RX1, "canHang", "(I)Z"⟩
abbrev cX1_put : ByteArray := prog_3_method_5_code
def yX1_put : MethodName := ⟨RX1, "put", "(IIII)V"⟩
abbrev cX1_countSeen : ByteArray := prog_3_method_6_code
def yX1_countSeen : MethodName := ⟨RX1, "countSeen", "()I"⟩
abbrev cX1_lawInForce : ByteArray := prog_3_method_7_code
def yX1_lawInForce : MethodName := ⟨RX1, "lawInForce", "()LLateGlass$Law;"⟩
abbrev cX1_copyFrom : ByteArray := prog_3_method_8_code
def yX1_copyFrom : MethodName := ⟨RX1, "copyFrom", "(LLateGlass$House;)V"⟩
def RX2 : String := "LateGlass$Judge"
def TX2 : u_T := fun k => match k with
  | 0 => ("LateGlass$Judge", "asked", "[I", true)
  | _ => ("LateGlass$Judge", "stack", "[J", true)
def tyX2 : Nat → FieldType := fun k => match k with
  | 0 => .array .int
  | _ => .array .long
abbrev wsX20 : List Cond := u_ws RX2 TX2 2
theorem nmX2 : ∀ a, a < 2 → ∀ b, b < 2 → a ≠ b → (TX2 a).2.1 ≠ (TX2 b).2.1 := by decide +kernel
theorem tyX2_ok : ∀ k, k < 2 → parseFieldDescriptor (TX2 k).2.2.1 = some (tyX2 k) := by decide +kernel
abbrev cX2_init : ByteArray := prog_4_method_1_code
def yX2_init : MethodName := ⟨RX2, "<init>", "()V"⟩
abbrev cX2_isHeld : ByteArray := prog_4_method_2_code
def yX2_isHeld : MethodName := ⟨RX2, "isHeld", "(LLateGlass$Law;I)Z"⟩
abbrev cX2_toldUpTo : ByteArray := prog_4_method_3_code
def yX2_toldUpTo : MethodName := ⟨RX2, "toldUpTo", "(I)I"⟩
abbrev cX2_holds : ByteArray := prog_4_method_4_code
def yX2_holds : MethodName := ⟨RX2, "holds", "(LLateGlass$Law;I)Z"⟩
abbrev cX2_combine : ByteArray := prog_4_method_5_code
def yX2_combine : MethodName := ⟨RX2, "combine", "(II)Z"⟩
def RX3 : String := "LateGlass$Law"
def TX3 : u_T := fun k => match k with
  | 0 => ("LateGlass$Law", "clauses", "I", true)
  | 1 => ("LateGlass$Law", "heads", "[I", true)
  | 2 => ("LateGlass$Law", "starts", "[I", true)
  | _ => ("LateGlass$Law", "code", "[I", true)
def tyX3 : Nat → FieldType := fun k => match k with
  | 0 => .int
  | 1 => .array .int
  | 2 => .array .int
  | _ => .array .int
abbrev wsX30 : List Cond := u_ws RX3 TX3 4
theorem nmX3 : ∀ a, a < 4 → ∀ b, b < 4 → a ≠ b → (TX3 a).2.1 ≠ (TX3 b).2.1 := by decide +kernel
theorem tyX3_ok : ∀ k, k < 4 → parseFieldDescriptor (TX3 k).2.2.1 = some (tyX3 k) := by decide +kernel
abbrev cX3_init : ByteArray := prog_5_method_1_code
def yX3_init : MethodName := ⟨RX3, "<init>", "(I[I[I[I)V"⟩
def RX4 : String := "LateGlass$LawReader"
def TX4 : u_T := fun k => match k with
  | 0 => ("LateGlass$LawReader", "tokens", "LLateGlass$Tokens;", true)
  | 1 => ("LateGlass$LawReader", "heads", "[I", true)
  | 2 => ("LateGlass$LawReader", "starts", "[I", true)
  | 3 => ("LateGlass$LawReader", "code", "[I", true)
  | 4 => ("LateGlass$LawReader", "length", "I", false)
  | 5 => ("LateGlass$LawReader", "parts", "I", false)
  | 6 => ("LateGlass$LawReader", "at", "I", false)
  | _ => ("LateGlass$LawReader", "faultPlace", "I", false)
def tyX4 : Nat → FieldType := fun k => match k with
  | 0 => .object "LateGlass$Tokens"
  | 1 => .array .int
  | 2 => .array .int
  | 3 => .array .int
  | 4 => .int
  | 5 => .int
  | 6 => .int
  | _ => .int
abbrev wsX40 : List Cond := u_ws RX4 TX4 8
theorem nmX4 : ∀ a, a < 8 → ∀ b, b < 8 → a ≠ b → (TX4 a).2.1 ≠ (TX4 b).2.1 := by decide +kernel
theorem tyX4_ok : ∀ k, k < 8 → parseFieldDescriptor (TX4 k).2.2.1 = some (tyX4 k) := by decide +kernel
abbrev cX4_init : ByteArray := prog_6_method_1_code
def yX4_init : MethodName := ⟨RX4, "<init>", "()V"⟩
abbrev cX4_read : ByteArray := prog_6_method_2_code
def yX4_read : MethodName := ⟨RX4, "read", "([II)LLateGlass$Law;"⟩
abbrev cX4_readClause : ByteArray := prog_6_method_3_code
def yX4_readClause : MethodName := ⟨RX4, "readClause", "(I)Z"⟩
abbrev cX4_readTest : ByteArray := prog_6_method_4_code
def yX4_readTest : MethodName := ⟨RX4, "readTest", "(I)Z"⟩
abbrev cX4_readPlain : ByteArray := prog_6_method_5_code
def yX4_readPlain : MethodName := ⟨RX4, "readPlain", "(I)Z"⟩
abbrev cX4_readSum : ByteArray := prog_6_method_6_code
def yX4_readSum : MethodName := ⟨RX4, "readSum", "(I)Z"⟩
abbrev cX4_readPart : ByteArray := prog_6_method_7_code
def yX4_readPart : MethodName := ⟨RX4, "readPart", "(I)Z"⟩
abbrev cX4_isNext : ByteArray := prog_6_method_8_code
def yX4_isNext : MethodName := ⟨RX4, "isNext", "(I)Z"⟩
abbrev cX4_passed : ByteArray := prog_6_method_9_code
def yX4_passed : MethodName := ⟨RX4, "passed", "(I)Z"⟩
abbrev cX4_jumpHere : ByteArray := prog_6_method_10_code
def yX4_jumpHere : MethodName := ⟨RX4, "jumpHere", "(I)V"⟩
abbrev cX4_emit : ByteArray := prog_6_method_11_code
def yX4_emit : MethodName := ⟨RX4, "emit", "(II)I"⟩
def RX5 : String := "LateGlass$Look"
def TX5 : u_T := fun k => match k with
  | 0 => ("LateGlass$Look", "house", "LLateGlass$House;", true)
  | 1 => ("LateGlass$Look", "judge", "LLateGlass$Judge;", true)
  | 2 => ("LateGlass$Look", "points", "[I", true)
  | 3 => ("LateGlass$Look", "length", "I", false)
  | 4 => ("LateGlass$Look", "seen", "I", false)
  | 5 => ("LateGlass$Look", "lastHour", "I", false)
  | 6 => ("LateGlass$Look", "bright", "I", false)
  | 7 => ("LateGlass$Look", "went", "I", false)
  | 8 => ("LateGlass$Look", "met", "I", false)
  | 9 => ("LateGlass$Look", "cell", "I", false)
  | 10 => ("LateGlass$Look", "way", "I", false)
  | 11 => ("LateGlass$Look", "hour", "I", false)
  | _ => ("LateGlass$Look", "isOver", "Z", false)
def tyX5 : Nat → FieldType := fun k => match k with
  | 0 => .object "LateGlass$House"
  | 1 => .object "LateGlass$Judge"
  | 2 => .array .int
  | 3 => .int
  | 4 => .int
  | 5 => .int
  | 6 => .int
  | 7 => .int
  | 8 => .int
  | 9 => .int
  | 10 => .int
  | 11 => .int
  | _ => .boolean
abbrev wsX50 : List Cond := u_ws RX5 TX5 13
theorem nmX5 : ∀ a, a < 13 → ∀ b, b < 13 → a ≠ b → (TX5 a).2.1 ≠ (TX5 b).2.1 := by decide +kernel
theorem tyX5_ok : ∀ k, k < 13 → parseFieldDescriptor (TX5 k).2.2.1 = some (tyX5 k) := by decide +kernel
abbrev cX5_init : ByteArray := prog_7_method_1_code
def yX5_init : MethodName := ⟨RX5, "<init>", "(LLateGlass$House;)V"⟩
abbrev cX5_run : ByteArray := prog_7_method_2_code
def yX5_run : MethodName := ⟨RX5, "run", "(IIII)V"⟩
abbrev cX5_bodiesFrom : ByteArray := prog_7_method_3_code
def yX5_bodiesFrom : MethodName := ⟨RX5, "bodiesFrom", "(II)I"⟩
abbrev cX5_findsBody : ByteArray := prog_7_method_4_code
def yX5_findsBody : MethodName := ⟨RX5, "findsBody", "(III)Z"⟩
abbrev cX5_cellsFrom : ByteArray := prog_7_method_5_code
def yX5_cellsFrom : MethodName := ⟨RX5, "cellsFrom", "(II)J"⟩
abbrev cX5_lateness : ByteArray := prog_7_method_6_code
def yX5_lateness : MethodName := ⟨RX5, "lateness", "(III)I"⟩
abbrev cX5_hasPoint : ByteArray := prog_7_method_7_code
def yX5_hasPoint : MethodName := ⟨RX5, "hasPoint", "(I)Z"⟩
abbrev cX5_hungBoard : ByteArray := prog_7_method_8_code
def yX5_hungBoard : MethodName := ⟨RX5, "hungBoard", "(I)J"⟩
abbrev cX5_ask : ByteArray := prog_7_method_9_code
def yX5_ask : MethodName := ⟨RX5, "ask", "(II)V"⟩
abbrev cX5_meetBodies : ByteArray := prog_7_method_10_code
def yX5_meetBodies : MethodName := ⟨RX5, "meetBodies", "()V"⟩
abbrev cX5_meetGlass : ByteArray := prog_7_method_11_code
def yX5_meetGlass : MethodName := ⟨RX5, "meetGlass", "()V"⟩
def RX6 : String := "LateGlass$Table"
def TX6 : u_T := fun k => match k with
  | 0 => ("LateGlass$Table", "most", "I", true)
  | 1 => ("LateGlass$Table", "width", "I", true)
  | 2 => ("LateGlass$Table", "numbers", "[I", true)
  | _ => ("LateGlass$Table", "rows", "I", false)
def tyX6 : Nat → FieldType := fun k => match k with
  | 0 => .int
  | 1 => .int
  | 2 => .array .int
  | _ => .int
abbrev wsX60 : List Cond := u_ws RX6 TX6 4
theorem nmX6 : ∀ a, a < 4 → ∀ b, b < 4 → a ≠ b → (TX6 a).2.1 ≠ (TX6 b).2.1 := by decide +kernel
theorem tyX6_ok : ∀ k, k < 4 → parseFieldDescriptor (TX6 k).2.2.1 = some (tyX6 k) := by decide +kernel
abbrev cX6_init : ByteArray := prog_8_method_1_code
def yX6_init : MethodName := ⟨RX6, "<init>", "(II)V"⟩
abbrev cX6_has : ByteArray := prog_8_method_2_code
def yX6_has : MethodName := ⟨RX6, "has", "(I)Z"⟩
abbrev cX6_isFull : ByteArray := prog_8_method_3_code
def yX6_isFull : MethodName := ⟨RX6, "isFull", "()Z"⟩
abbrev cX6_get : ByteArray := prog_8_method_4_code
def yX6_get : MethodName := ⟨RX6, "get", "(II)I"⟩
abbrev cX6_set : ByteArray := prog_8_method_5_code
def yX6_set : MethodName := ⟨RX6, "set", "(III)V"⟩
abbrev cX6_setLook : ByteArray := prog_8_method_6_code
def yX6_setLook : MethodName := ⟨RX6, "setLook", "(IIII)V"⟩
abbrev cX6_open : ByteArray := prog_8_method_7_code
def yX6_open : MethodName := ⟨RX6, "open", "(I)I"⟩
abbrev cX6_remove : ByteArray := prog_8_method_8_code
def yX6_remove : MethodName := ⟨RX6, "remove", "(I)V"⟩
abbrev cX6_find : ByteArray := prog_8_method_9_code
def yX6_find : MethodName := ⟨RX6, "find", "(II)I"⟩
abbrev cX6_copyFrom : ByteArray := prog_8_method_10_code
def yX6_copyFrom : MethodName := ⟨RX6, "copyFrom", "(LLateGlass$Table;)V"⟩
def RX7 : String := "LateGlass$Thief"
def TX7 : u_T := fun k => match k with
  | 0 => ("LateGlass$Thief", "house", "LLateGlass$House;", true)
  | 1 => ("LateGlass$Thief", "eye", "LLateGlass$Look;", true)
  | 2 => ("LateGlass$Thief", "barred", "[J", true)
  | 3 => ("LateGlass$Thief", "adds", "[I", true)
  | 4 => ("LateGlass$Thief", "full", "I", false)
  | 5 => ("LateGlass$Thief", "counts", "[J", false)
  | 6 => ("LateGlass$Thief", "nextCounts", "[J", false)
  | 7 => ("LateGlass$Thief", "hopes", "[I", true)
  | 8 => ("LateGlass$Thief", "held", "[I", true)
  | _ => ("LateGlass$Thief", "leaving", "[I", true)
def tyX7 : Nat → FieldType := fun k => match k with
  | 0 => .object "LateGlass$House"
  | 1 => .object "LateGlass$Look"
  | 2 => .array .long
  | 3 => .array .int
  | 4 => .int
  | 5 => .array .long
  | 6 => .array .long
  | 7 => .array .int
  | 8 => .array .int
  | _ => .array .int
abbrev wsX70 : List Cond := u_ws RX7 TX7 10
theorem nmX7 : ∀ a, a < 10 → ∀ b, b < 10 → a ≠ b → (TX7 a).2.1 ≠ (TX7 b).2.1 := by decide +kernel
theorem tyX7_ok : ∀ k, k < 10 → parseFieldDescriptor (TX7 k).2.2.1 = some (tyX7 k) := by decide +kernel
abbrev cX7_init : ByteArray := prog_9_method_1_code
def yX7_init : MethodName := ⟨RX7, "<init>", "(LLateGlass$House;LLateGlass$Look;)V"⟩
abbrev cX7_allSightings : ByteArray := prog_9_method_2_code
def yX7_allSightings : MethodName := ⟨RX7, "allSightings", "()I"⟩
abbrev cX7_load : ByteArray := prog_9_method_3_code
def yX7_load : MethodName := ⟨RX7, "load", "(I)V"⟩
abbrev cX7_barPoints : ByteArray := prog_9_method_4_code
def yX7_barPoints : MethodName := ⟨RX7, "barPoints", "()V"⟩
abbrev cX7_addPoints : ByteArray := prog_9_method_5_code
def yX7_addPoints : MethodName := ⟨RX7, "addPoints", "(I)V"⟩
abbrev cX7_countRows : ByteArray := prog_9_method_6_code
def yX7_countRows : MethodName := ⟨RX7, "countRows", "()J"⟩
abbrev cX7_stepTo : ByteArray := prog_9_method_7_code
def yX7_stepTo : MethodName := ⟨RX7, "stepTo", "(I)V"⟩
abbrev cX7_anyFits : ByteArray := prog_9_method_8_code
def yX7_anyFits : MethodName := ⟨RX7, "anyFits", "()Z"⟩
abbrev cX7_hopesBehind : ByteArray := prog_9_method_9_code
def yX7_hopesBehind : MethodName := ⟨RX7, "hopesBehind", "(II)I"⟩
abbrev cX7_masksBefore : ByteArray := prog_9_method_10_code
def yX7_masksBefore : MethodName := ⟨RX7, "masksBefore", "(II)I"⟩
abbrev cX7_masksAfter : ByteArray := prog_9_method_11_code
def yX7_masksAfter : MethodName := ⟨RX7, "masksAfter", "(II)I"⟩
abbrev cX7_cellsIn : ByteArray := prog_9_method_12_code
def yX7_cellsIn : MethodName := ⟨RX7, "cellsIn", "(I)J"⟩
abbrev cX7_holdIn : ByteArray := prog_9_method_13_code
def yX7_holdIn : MethodName := ⟨RX7, "holdIn", "(I)V"⟩
abbrev cX7_firstRowAt : ByteArray := prog_9_method_14_code
def yX7_firstRowAt : MethodName := ⟨RX7, "firstRowAt", "(I)I"⟩
abbrev cX7_lowestNext : ByteArray := prog_9_method_15_code
def yX7_lowestNext : MethodName := ⟨RX7, "lowestNext", "(III)I"⟩
abbrev cX7_findCore : ByteArray := prog_9_method_16_code
def yX7_findCore : MethodName := ⟨RX7, "findCore", "()I"⟩
def RX8 : String := "LateGlass$Tokens"
def TX8 : u_T := fun k => match k with
  | 0 => ("LateGlass$Tokens", "kinds", "[I", true)
  | 1 => ("LateGlass$Tokens", "numbers", "[I", true)
  | _ => ("LateGlass$Tokens", "places", "[I", true)
def tyX8 : Nat → FieldType := fun k => match k with
  | 0 => .array .int
  | 1 => .array .int
  | _ => .array .int
abbrev wsX80 : List Cond := u_ws RX8 TX8 3
theorem nmX8 : ∀ a, a < 3 → ∀ b, b < 3 → a ≠ b → (TX8 a).2.1 ≠ (TX8 b).2.1 := by decide +kernel
theorem tyX8_ok : ∀ k, k < 3 → parseFieldDescriptor (TX8 k).2.2.1 = some (tyX8 k) := by decide +kernel
abbrev cX8_init : ByteArray := prog_10_method_1_code
def yX8_init : MethodName := ⟨RX8, "<init>", "()V"⟩
abbrev cX8_cut : ByteArray := prog_10_method_2_code
def yX8_cut : MethodName := ⟨RX8, "cut", "([II)V"⟩
abbrev cX8_kindAt : ByteArray := prog_10_method_3_code
def yX8_kindAt : MethodName := ⟨RX8, "kindAt", "(I)I"⟩
abbrev cX8_isLetter : ByteArray := prog_10_method_4_code
def yX8_isLetter : MethodName := ⟨RX8, "isLetter", "(I)Z"⟩
abbrev cX8_isDigit : ByteArray := prog_10_method_5_code
def yX8_isDigit : MethodName := ⟨RX8, "isDigit", "(I)Z"⟩
abbrev cX8_endOf : ByteArray := prog_10_method_6_code
def yX8_endOf : MethodName := ⟨RX8, "endOf", "([III)I"⟩
abbrev cX8_kindOf : ByteArray := prog_10_method_7_code
def yX8_kindOf : MethodName := ⟨RX8, "kindOf", "([III)I"⟩
abbrev cX8_numberIn : ByteArray := prog_10_method_8_code
def yX8_numberIn : MethodName := ⟨RX8, "numberIn", "([III)I"⟩
abbrev cX8_wordIn : ByteArray := prog_10_method_9_code
def yX8_wordIn : MethodName := ⟨RX8, "wordIn", "([III)I"⟩
def RX9 : String := "LateGlass$Walker"
def TX9 : u_T := fun k => match k with
  | 0 => ("LateGlass$Walker", "house", "LLateGlass$House;", true)
  | 1 => ("LateGlass$Walker", "eye", "LLateGlass$Look;", true)
  | 2 => ("LateGlass$Walker", "goals", "[J", true)
  | _ => ("LateGlass$Walker", "met", "[I", true)
def tyX9 : Nat → FieldType := fun k => match k with
  | 0 => .object "LateGlass$House"
  | 1 => .object "LateGlass$Look"
  | 2 => .array .long
  | _ => .array .int
abbrev wsX90 : List Cond := u_ws RX9 TX9 4
theorem nmX9 : ∀ a, a < 4 → ∀ b, b < 4 → a ≠ b → (TX9 a).2.1 ≠ (TX9 b).2.1 := by decide +kernel
theorem tyX9_ok : ∀ k, k < 4 → parseFieldDescriptor (TX9 k).2.2.1 = some (tyX9 k) := by decide +kernel
abbrev cX9_init : ByteArray := prog_11_method_1_code
def yX9_init : MethodName := ⟨RX9, "<init>", "(LLateGlass$House;LLateGlass$Look;)V"⟩
abbrev cX9_firstSight : ByteArray := prog_11_method_2_code
def yX9_firstSight : MethodName := ⟨RX9, "firstSight", "(IIII)I"⟩
abbrev cX9_sightBy : ByteArray := prog_11_method_3_code
def yX9_sightBy : MethodName := ⟨RX9, "sightBy", "(IIIII)I"⟩
abbrev cX9_isEverIn : ByteArray := prog_11_method_4_code
def yX9_isEverIn : MethodName := ⟨RX9, "isEverIn", "(II)Z"⟩
abbrev cX9_firstRowAt : ByteArray := prog_11_method_5_code
def yX9_firstRowAt : MethodName := ⟨RX9, "firstRowAt", "(IIII)I"⟩
abbrev cX9_lowestNext : ByteArray := prog_11_method_6_code
def yX9_lowestNext : MethodName := ⟨RX9, "lowestNext", "(IJ)I"⟩
abbrev cX9_spread : ByteArray := prog_11_method_7_code
def yX9_spread : MethodName := ⟨RX9, "spread", "(J)J"⟩
def RX10 : String := "LateGlass$Watch"
def TX10 : u_T := fun k => match k with
  | 0 => ("LateGlass$Watch", "house", "LLateGlass$House;", true)
  | 1 => ("LateGlass$Watch", "eye", "LLateGlass$Look;", true)
  | _ => ("LateGlass$Watch", "boards", "[J", true)
def tyX10 : Nat → FieldType := fun k => match k with
  | 0 => .object "LateGlass$House"
  | 1 => .object "LateGlass$Look"
  | _ => .array .long
abbrev wsX100 : List Cond := u_ws RX10 TX10 3
theorem nmX10 : ∀ a, a < 3 → ∀ b, b < 3 → a ≠ b → (TX10 a).2.1 ≠ (TX10 b).2.1 := by decide +kernel
theorem tyX10_ok : ∀ k, k < 3 → parseFieldDescriptor (TX10 k).2.2.1 = some (tyX10 k) := by decide +kernel
abbrev cX10_init : ByteArray := prog_12_method_1_code
def yX10_init : MethodName := ⟨RX10, "<init>", "(LLateGlass$House;LLateGlass$Look;)V"⟩
abbrev cX10_lookAround : ByteArray := prog_12_method_2_code
def yX10_lookAround : MethodName := ⟨RX10, "lookAround", "()V"⟩
abbrev cX10_addPoints : ByteArray := prog_12_method_3_code
def yX10_addPoints : MethodName := ⟨RX10, "addPoints", "()V"⟩
def RX11 : String := "LateGlass"
def TX11 : u_T := fun k => match k with
  | 0 => ("LateGlass", "house", "LLateGlass$House;", true)
  | 1 => ("LateGlass", "images", "[LLateGlass$House;", true)
  | 2 => ("LateGlass", "kept", "[Z", true)
  | 3 => ("LateGlass", "eye", "LLateGlass$Look;", true)
  | 4 => ("LateGlass", "watch", "LLateGlass$Watch;", true)
  | 5 => ("LateGlass", "thief", "LLateGlass$Thief;", true)
  | 6 => ("LateGlass", "hanger", "LLateGlass$Hanger;", true)
  | 7 => ("LateGlass", "walker", "LLateGlass$Walker;", true)
  | 8 => ("LateGlass", "reader", "LLateGlass$LawReader;", true)
  | 9 => ("LateGlass", "tape", "[I", true)
  | 10 => ("LateGlass", "tapeLength", "I", false)
  | 11 => ("LateGlass", "fadedStays", "I", false)
  | 12 => ("LateGlass", "faultPlace", "I", false)
  | 13 => ("LateGlass", "wandering", "[I", true)
  | 14 => ("LateGlass", "wandered", "Z", false)
  | 15 => ("LateGlass", "refusals", "[I", true)
  | _ => ("LateGlass", "latestRefusal", "I", false)
def tyX11 : Nat → FieldType := fun k => match k with
  | 0 => .object "LateGlass$House"
  | 1 => .array (.object "LateGlass$House")
  | 2 => .array .boolean
  | 3 => .object "LateGlass$Look"
  | 4 => .object "LateGlass$Watch"
  | 5 => .object "LateGlass$Thief"
  | 6 => .object "LateGlass$Hanger"
  | 7 => .object "LateGlass$Walker"
  | 8 => .object "LateGlass$LawReader"
  | 9 => .array .int
  | 10 => .int
  | 11 => .int
  | 12 => .int
  | 13 => .array .int
  | 14 => .boolean
  | 15 => .array .int
  | _ => .int
abbrev wsX110 : List Cond := u_ws RX11 TX11 17
theorem nmX11 : ∀ a, a < 17 → ∀ b, b < 17 → a ≠ b → (TX11 a).2.1 ≠ (TX11 b).2.1 := by decide +kernel
theorem tyX11_ok : ∀ k, k < 17 → parseFieldDescriptor (TX11 k).2.2.1 = some (tyX11 k) := by decide +kernel
abbrev cX11_init : ByteArray := prog_1_method_1_code
def yX11_init : MethodName := ⟨RX11, "<init>", "()V"⟩
abbrev cX11_wall : ByteArray := prog_1_method_2_code
def yX11_wall : MethodName := ⟨RX11, "wall", "(II)I"⟩
abbrev cX11_glass : ByteArray := prog_1_method_3_code
def yX11_glass : MethodName := ⟨RX11, "glass", "(IIII)I"⟩
abbrev cX11_turn : ByteArray := prog_1_method_4_code
def yX11_turn : MethodName := ⟨RX11, "turn", "(III)I"⟩
abbrev cX11_of : ByteArray := prog_1_method_5_code
def yX11_of : MethodName := ⟨RX11, "of", "(II)I"⟩
abbrev cX11_body : ByteArray := prog_1_method_6_code
def yX11_body : MethodName := ⟨RX11, "body", "()I"⟩
abbrev cX11_stay : ByteArray := prog_1_method_7_code
def yX11_stay : MethodName := ⟨RX11, "stay", "(IIII)I"⟩
abbrev cX11_where : ByteArray := prog_1_method_8_code
def yX11_where : MethodName := ⟨RX11, "where", "(II)I"⟩
abbrev cX11_least : ByteArray := prog_1_method_9_code
def yX11_least : MethodName := ⟨RX11, "least", "(I)I"⟩
abbrev cX11_feed : ByteArray := prog_1_method_10_code
def yX11_feed : MethodName := ⟨RX11, "feed", "(IIIII)I"⟩
abbrev cX11_end : ByteArray := prog_1_method_11_code
def yX11_end : MethodName := ⟨RX11, "end", "(I)I"⟩
abbrev cX11_row : ByteArray := prog_1_method_12_code
def yX11_row : MethodName := ⟨RX11, "row", "()I"⟩
abbrev cX11_faded : ByteArray := prog_1_method_13_code
def yX11_faded : MethodName := ⟨RX11, "faded", "()I"⟩
abbrev cX11_law : ByteArray := prog_1_method_14_code
def yX11_law : MethodName := ⟨RX11, "law", "()I"⟩
abbrev cX11_fault : ByteArray := prog_1_method_15_code
def yX11_fault : MethodName := ⟨RX11, "fault", "()I"⟩
abbrev cX11_force : ByteArray := prog_1_method_16_code
def yX11_force : MethodName := ⟨RX11, "force", "(I)I"⟩
abbrev cX11_look : ByteArray := prog_1_method_17_code
def yX11_look : MethodName := ⟨RX11, "look", "(IIII)I"⟩
abbrev cX11_point : ByteArray := prog_1_method_18_code
def yX11_point : MethodName := ⟨RX11, "point", "(IIII)I"⟩
abbrev cX11_sees : ByteArray := prog_1_method_19_code
def yX11_sees : MethodName := ⟨RX11, "sees", "(II)I"⟩
abbrev cX11_late : ByteArray := prog_1_method_20_code
def yX11_late : MethodName := ⟨RX11, "late", "(III)I"⟩
abbrev cX11_first : ByteArray := prog_1_method_21_code
def yX11_first : MethodName := ⟨RX11, "first", "(II)I"⟩
abbrev cX11_lit : ByteArray := prog_1_method_22_code
def yX11_lit : MethodName := ⟨RX11, "lit", "(III)I"⟩
abbrev cX11_unseen : ByteArray := prog_1_method_23_code
def yX11_unseen : MethodName := ⟨RX11, "unseen", "(I)I"⟩
abbrev cX11_sighting : ByteArray := prog_1_method_24_code
def yX11_sighting : MethodName := ⟨RX11, "sighting", "(IIII)I"⟩
abbrev cX11_drop : ByteArray := prog_1_method_25_code
def yX11_drop : MethodName := ⟨RX11, "drop", "(I)I"⟩
abbrev cX11_start : ByteArray := prog_1_method_26_code
def yX11_start : MethodName := ⟨RX11, "start", "(I)I"⟩
abbrev cX11_fits : ByteArray := prog_1_method_27_code
def yX11_fits : MethodName := ⟨RX11, "fits", "()J"⟩
abbrev cX11_could : ByteArray := prog_1_method_28_code
def yX11_could : MethodName := ⟨RX11, "could", "(II)J"⟩
abbrev cX11_path : ByteArray := prog_1_method_29_code
def yX11_path : MethodName := ⟨RX11, "path", "(I)I"⟩
abbrev cX11_core : ByteArray := prog_1_method_30_code
def yX11_core : MethodName := ⟨RX11, "core", "()I"⟩
abbrev cX11_tells : ByteArray := prog_1_method_31_code
def yX11_tells : MethodName := ⟨RX11, "tells", "(III)J"⟩
abbrev cX11_surely : ByteArray := prog_1_method_32_code
def yX11_surely : MethodName := ⟨RX11, "surely", "(I)I"⟩
abbrev cX11_spot : ByteArray := prog_1_method_33_code
def yX11_spot : MethodName := ⟨RX11, "spot", "(III)I"⟩
abbrev cX11_wish : ByteArray := prog_1_method_34_code
def yX11_wish : MethodName := ⟨RX11, "wish", "(IIIIII)I"⟩
abbrev cX11_lacks : ByteArray := prog_1_method_35_code
def yX11_lacks : MethodName := ⟨RX11, "lacks", "(I)I"⟩
abbrev cX11_hang : ByteArray := prog_1_method_36_code
def yX11_hang : MethodName := ⟨RX11, "hang", "(I)I"⟩
abbrev cX11_soonest : ByteArray := prog_1_method_37_code
def yX11_soonest : MethodName := ⟨RX11, "soonest", "(III)I"⟩
abbrev cX11_way : ByteArray := prog_1_method_38_code
def yX11_way : MethodName := ⟨RX11, "way", "(IIII)I"⟩
abbrev cX11_sooner : ByteArray := prog_1_method_39_code
def yX11_sooner : MethodName := ⟨RX11, "sooner", "(IIII)I"⟩
abbrev cX11_wander : ByteArray := prog_1_method_40_code
def yX11_wander : MethodName := ⟨RX11, "wander", "(II)I"⟩
abbrev cX11_drawn : ByteArray := prog_1_method_41_code
def yX11_drawn : MethodName := ⟨RX11, "drawn", "(I)I"⟩
abbrev cX11_image : ByteArray := prog_1_method_42_code
def yX11_image : MethodName := ⟨RX11, "image", "(I)I"⟩
abbrev cX11_back : ByteArray := prog_1_method_43_code
def yX11_back : MethodName := ⟨RX11, "back", "(I)I"⟩
abbrev cX11_count : ByteArray := prog_1_method_44_code
def yX11_count : MethodName := ⟨RX11, "count", "(I)I"⟩
abbrev cX11_status : ByteArray := prog_1_method_45_code
def yX11_status : MethodName := ⟨RX11, "status", "()I"⟩
abbrev cX11_done : ByteArray := prog_1_method_46_code
def yX11_done : MethodName := ⟨RX11, "done", "(I)I"⟩
abbrev cX11_refuse : ByteArray := prog_1_method_47_code
def yX11_refuse : MethodName := ⟨RX11, "refuse", "(I)I"⟩
abbrev cX11_write : ByteArray := prog_1_method_48_code
def yX11_write : MethodName := ⟨RX11, "write", "(I)V"⟩
abbrev cX11_readStay : ByteArray := prog_1_method_49_code
def yX11_readStay : MethodName := ⟨RX11, "readStay", "(I)Z"⟩
abbrev cX11_canWalk : ByteArray := prog_1_method_50_code
def yX11_canWalk : MethodName := ⟨RX11, "canWalk", "(III)Z"⟩
abbrev cX11_isCell : ByteArray := prog_1_method_51_code
def yX11_isCell : MethodName := ⟨RX11, "isCell", "(I)Z"⟩
abbrev cX11_isCellOrNone : ByteArray := prog_1_method_52_code
def yX11_isCellOrNone : MethodName := ⟨RX11, "isCellOrNone", "(I)Z"⟩
abbrev cX11_isHour : ByteArray := prog_1_method_53_code
def yX11_isHour : MethodName := ⟨RX11, "isHour", "(I)Z"⟩
abbrev cX11_isSort : ByteArray := prog_1_method_54_code
def yX11_isSort : MethodName := ⟨RX11, "isSort", "(I)Z"⟩
abbrev cX11_isDust : ByteArray := prog_1_method_55_code
def yX11_isDust : MethodName := ⟨RX11, "isDust", "(I)Z"⟩
abbrev cX11_isFlag : ByteArray := prog_1_method_56_code
def yX11_isFlag : MethodName := ⟨RX11, "isFlag", "(I)Z"⟩
abbrev cX11_isImage : ByteArray := prog_1_method_57_code
def yX11_isImage : MethodName := ⟨RX11, "isImage", "(I)Z"⟩
abbrev cX11_isLook : ByteArray := prog_1_method_58_code
def yX11_isLook : MethodName := ⟨RX11, "isLook", "(III)Z"⟩
abbrev cX11_isStay : ByteArray := prog_1_method_59_code
def yX11_isStay : MethodName := ⟨RX11, "isStay", "(III)Z"⟩
abbrev cX11_isTurn : ByteArray := prog_1_method_60_code
def yX11_isTurn : MethodName := ⟨RX11, "isTurn", "(II)Z"⟩
abbrev cX11_isOn : ByteArray := prog_1_method_61_code
def yX11_isOn : MethodName := ⟨RX11, "isOn", "(JI)Z"⟩
abbrev cX11_beside : ByteArray := prog_1_method_62_code
def yX11_beside : MethodName := ⟨RX11, "beside", "(II)I"⟩
def RX12 : String := "LateGlassModel"
def TX12 : u_T := fun k => match k with
  | 0 => ("LateGlassModel", "thrown", "I", false)
  | 1 => ("LateGlassModel", "status", "I", false)
  | 2 => ("LateGlassModel", "refusals", "[I", true)
  | 3 => ("LateGlassModel", "row", "[I", true)
  | 4 => ("LateGlassModel", "images", "[I", true)
  | 5 => ("LateGlassModel", "isKept", "[Z", true)
  | 6 => ("LateGlassModel", "faded", "I", false)
  | 7 => ("LateGlassModel", "tape", "[I", true)
  | 8 => ("LateGlassModel", "taped", "I", false)
  | 9 => ("LateGlassModel", "from", "I", false)
  | 10 => ("LateGlassModel", "to", "I", false)
  | 11 => ("LateGlassModel", "sort", "I", false)
  | 12 => ("LateGlassModel", "worth", "J", false)
  | 13 => ("LateGlassModel", "fault", "I", false)
  | 14 => ("LateGlassModel", "bad", "Z", false)
  | 15 => ("LateGlassModel", "nClauses", "I", false)
  | 16 => ("LateGlassModel", "nClause", "[I", true)
  | 17 => ("LateGlassModel", "nCode", "I", false)
  | 18 => ("LateGlassModel", "nOp", "[I", true)
  | 19 => ("LateGlassModel", "nArg", "[I", true)
  | 20 => ("LateGlassModel", "nLeaves", "I", false)
  | 21 => ("LateGlassModel", "pile", "[I", true)
  | 22 => ("LateGlassModel", "pileAt", "[I", true)
  | 23 => ("LateGlassModel", "piled", "I", false)
  | 24 => ("LateGlassModel", "opened", "I", false)
  | 25 => ("LateGlassModel", "words", "[J", true)
  | 26 => ("LateGlassModel", "headWords", "[J", true)
  | 27 => ("LateGlassModel", "law", "I", false)
  | 28 => ("LateGlassModel", "set", "[J", true)
  | 29 => ("LateGlassModel", "rest", "[J", true)
  | 30 => ("LateGlassModel", "broken", "Z", false)
  | 31 => ("LateGlassModel", "value", "J", false)
  | 32 => ("LateGlassModel", "sum", "J", false)
  | 33 => ("LateGlassModel", "cell", "I", false)
  | 34 => ("LateGlassModel", "hour", "I", false)
  | 35 => ("LateGlassModel", "way", "I", false)
  | 36 => ("LateGlassModel", "bright", "I", false)
  | 37 => ("LateGlassModel", "points", "I", false)
  | 38 => ("LateGlassModel", "point", "[I", true)
  | 39 => ("LateGlassModel", "through", "I", false)
  | 40 => ("LateGlassModel", "seen", "I", false)
  | 41 => ("LateGlassModel", "isPoint", "[Z", true)
  | 42 => ("LateGlassModel", "isCounted", "Z", false)
  | 43 => ("LateGlassModel", "ahead", "[J", true)
  | 44 => ("LateGlassModel", "behind", "[J", true)
  | 45 => ("LateGlassModel", "meets", "[I", true)
  | 46 => ("LateGlassModel", "wanted", "I", false)
  | 47 => ("LateGlassModel", "there", "[Z", true)
  | 48 => ("LateGlassModel", "leads", "[Z", true)
  | 49 => ("LateGlassModel", "state", "J", false)
  | 50 => ("LateGlassModel", "wandered", "[I", true)
  | _ => ("LateGlassModel", "isDrawn", "Z", false)
def tyX12 : Nat → FieldType := fun k => match k with
  | 0 => .int
  | 1 => .int
  | 2 => .array .int
  | 3 => .array .int
  | 4 => .array .int
  | 5 => .array .boolean
  | 6 => .int
  | 7 => .array .int
  | 8 => .int
  | 9 => .int
  | 10 => .int
  | 11 => .int
  | 12 => .long
  | 13 => .int
  | 14 => .boolean
  | 15 => .int
  | 16 => .array .int
  | 17 => .int
  | 18 => .array .int
  | 19 => .array .int
  | 20 => .int
  | 21 => .array .int
  | 22 => .array .int
  | 23 => .int
  | 24 => .int
  | 25 => .array .long
  | 26 => .array .long
  | 27 => .int
  | 28 => .array .long
  | 29 => .array .long
  | 30 => .boolean
  | 31 => .long
  | 32 => .long
  | 33 => .int
  | 34 => .int
  | 35 => .int
  | 36 => .int
  | 37 => .int
  | 38 => .array .int
  | 39 => .int
  | 40 => .int
  | 41 => .array .boolean
  | 42 => .boolean
  | 43 => .array .long
  | 44 => .array .long
  | 45 => .array .int
  | 46 => .int
  | 47 => .array .boolean
  | 48 => .array .boolean
  | 49 => .long
  | 50 => .array .int
  | _ => .boolean
abbrev wsX120 : List Cond := u_ws RX12 TX12 52
theorem nmX12 : ∀ a, a < 52 → ∀ b, b < 52 → a ≠ b → (TX12 a).2.1 ≠ (TX12 b).2.1 := by decide +kernel
theorem tyX12_ok : ∀ k, k < 52 → parseFieldDescriptor (TX12 k).2.2.1 = some (tyX12 k) := by decide +kernel
abbrev cX12_init : ByteArray := prog_14_method_1_code
def yX12_init : MethodName := ⟨RX12, "<init>", "()V"⟩
abbrev cX12_in : ByteArray := prog_14_method_3_code
def yX12_in : MethodName := ⟨RX12, "in", "(JJJ)Z"⟩
abbrev cX12_is : ByteArray := prog_14_method_4_code
def yX12_is : MethodName := ⟨RX12, "is", "(II)Z"⟩
abbrev cX12_tell : ByteArray := prog_14_method_5_code
def yX12_tell : MethodName := ⟨RX12, "tell", "(I)I"⟩
abbrev cX12_was : ByteArray := prog_14_method_6_code
def yX12_was : MethodName := ⟨RX12, "was", "(I)I"⟩
abbrev cX12_change : ByteArray := prog_14_method_7_code
def yX12_change : MethodName := ⟨RX12, "change", "(II)I"⟩
abbrev cX12_image : ByteArray := prog_14_method_8_code
def yX12_image : MethodName := ⟨RX12, "image", "(I)I"⟩
abbrev cX12_back : ByteArray := prog_14_method_9_code
def yX12_back : MethodName := ⟨RX12, "back", "(I)I"⟩
abbrev cX12_isCell : ByteArray := prog_14_method_10_code
def yX12_isCell : MethodName := ⟨RX12, "isCell", "(I)Z"⟩
abbrev cX12_isHour : ByteArray := prog_14_method_11_code
def yX12_isHour : MethodName := ⟨RX12, "isHour", "(I)Z"⟩
abbrev cX12_isWay : ByteArray := prog_14_method_12_code
def yX12_isWay : MethodName := ⟨RX12, "isWay", "(I)Z"⟩
abbrev cX12_isWall : ByteArray := prog_14_method_13_code
def yX12_isWall : MethodName := ⟨RX12, "isWall", "(I)Z"⟩
abbrev cX12_ofGlass : ByteArray := prog_14_method_14_code
def yX12_ofGlass : MethodName := ⟨RX12, "ofGlass", "(II)I"⟩
abbrev cX12_hasGlass : ByteArray := prog_14_method_15_code
def yX12_hasGlass : MethodName := ⟨RX12, "hasGlass", "(I)Z"⟩
abbrev cX12_hasSpot : ByteArray := prog_14_method_16_code
def yX12_hasSpot : MethodName := ⟨RX12, "hasSpot", "(I)Z"⟩
abbrev cX12_hasBody : ByteArray := prog_14_method_17_code
def yX12_hasBody : MethodName := ⟨RX12, "hasBody", "(I)Z"⟩
abbrev cX12_wall : ByteArray := prog_14_method_18_code
def yX12_wall : MethodName := ⟨RX12, "wall", "(II)I"⟩
abbrev cX12_fits : ByteArray := prog_14_method_19_code
def yX12_fits : MethodName := ⟨RX12, "fits", "(II)Z"⟩
abbrev cX12_canHang : ByteArray := prog_14_method_20_code
def yX12_canHang : MethodName := ⟨RX12, "canHang", "(I)Z"⟩
abbrev cX12_glass : ByteArray := prog_14_method_21_code
def yX12_glass : MethodName := ⟨RX12, "glass", "(IIII)I"⟩
abbrev cX12_isGlass : ByteArray := prog_14_method_22_code
def yX12_isGlass : MethodName := ⟨RX12, "isGlass", "(I)Z"⟩
abbrev cX12_turn : ByteArray := prog_14_method_23_code
def yX12_turn : MethodName := ⟨RX12, "turn", "(III)I"⟩
abbrev cX12_of : ByteArray := prog_14_method_24_code
def yX12_of : MethodName := ⟨RX12, "of", "(II)I"⟩
abbrev cX12_body : ByteArray := prog_14_method_25_code
def yX12_body : MethodName := ⟨RX12, "body", "()I"⟩
abbrev cX12_isBody : ByteArray := prog_14_method_26_code
def yX12_isBody : MethodName := ⟨RX12, "isBody", "(I)Z"⟩
abbrev cX12_stays : ByteArray := prog_14_method_27_code
def yX12_stays : MethodName := ⟨RX12, "stays", "(IIII)V"⟩
abbrev cX12_stay : ByteArray := prog_14_method_28_code
def yX12_stay : MethodName := ⟨RX12, "stay", "(IIII)I"⟩
abbrev cX12_whereIs : ByteArray := prog_14_method_29_code
def yX12_whereIs : MethodName := ⟨RX12, "whereIs", "(II)I"⟩
abbrev cX12_where : ByteArray := prog_14_method_30_code
def yX12_where : MethodName := ⟨RX12, "where", "(II)I"⟩
abbrev cX12_least : ByteArray := prog_14_method_31_code
def yX12_least : MethodName := ⟨RX12, "least", "(I)I"⟩
abbrev cX12_row : ByteArray := prog_14_method_32_code
def yX12_row : MethodName := ⟨RX12, "row", "()I"⟩
abbrev cX12_faded : ByteArray := prog_14_method_33_code
def yX12_faded : MethodName := ⟨RX12, "faded", "()I"⟩
abbrev cX12_four : ByteArray := prog_14_method_34_code
def yX12_four : MethodName := ⟨RX12, "four", "(I)V"⟩
abbrev cX12_feed : ByteArray := prog_14_method_35_code
def yX12_feed : MethodName := ⟨RX12, "feed", "(IIIII)I"⟩
abbrev cX12_end : ByteArray := prog_14_method_36_code
def yX12_end : MethodName := ⟨RX12, "end", "(I)I"⟩
abbrev cX12_isSmall : ByteArray := prog_14_method_37_code
def yX12_isSmall : MethodName := ⟨RX12, "isSmall", "(I)Z"⟩
abbrev cX12_isDigit : ByteArray := prog_14_method_38_code
def yX12_isDigit : MethodName := ⟨RX12, "isDigit", "(I)Z"⟩
abbrev cX12_begin : ByteArray := prog_14_method_39_code
def yX12_begin : MethodName := ⟨RX12, "begin", "()V"⟩
abbrev cX12_next : ByteArray := prog_14_method_40_code
def yX12_next : MethodName := ⟨RX12, "next", "()V"⟩
abbrev cX12_isWord : ByteArray := prog_14_method_41_code
def yX12_isWord : MethodName := ⟨RX12, "isWord", "(J)Z"⟩
abbrev cX12_isSign : ByteArray := prog_14_method_42_code
def yX12_isSign : MethodName := ⟨RX12, "isSign", "(I)Z"⟩
abbrev cX12_must : ByteArray := prog_14_method_43_code
def yX12_must : MethodName := ⟨RX12, "must", "(Z)V"⟩
abbrev cX12_fault : ByteArray := prog_14_method_45_code
def yX12_fault : MethodName := ⟨RX12, "fault", "()I"⟩
abbrev cX12_emit : ByteArray := prog_14_method_46_code
def yX12_emit : MethodName := ⟨RX12, "emit", "(II)V"⟩
abbrev cX12_push : ByteArray := prog_14_method_47_code
def yX12_push : MethodName := ⟨RX12, "push", "(II)V"⟩
abbrev cX12_binds : ByteArray := prog_14_method_48_code
def yX12_binds : MethodName := ⟨RX12, "binds", "(I)I"⟩
abbrev cX12_settle : ByteArray := prog_14_method_49_code
def yX12_settle : MethodName := ⟨RX12, "settle", "(I)V"⟩
abbrev cX12_inner : ByteArray := prog_14_method_50_code
def yX12_inner : MethodName := ⟨RX12, "inner", "()I"⟩
abbrev cX12_isCompared : ByteArray := prog_14_method_51_code
def yX12_isCompared : MethodName := ⟨RX12, "isCompared", "()Z"⟩
abbrev cX12_partAt : ByteArray := prog_14_method_52_code
def yX12_partAt : MethodName := ⟨RX12, "partAt", "()I"⟩
abbrev cX12_openBracket : ByteArray := prog_14_method_53_code
def yX12_openBracket : MethodName := ⟨RX12, "openBracket", "(I)V"⟩
abbrev cX12_leaf : ByteArray := prog_14_method_54_code
def yX12_leaf : MethodName := ⟨RX12, "leaf", "(ZII)V"⟩
abbrev cX12_readPart : ByteArray := prog_14_method_55_code
def yX12_readPart : MethodName := ⟨RX12, "readPart", "()I"⟩
abbrev cX12_readPlain : ByteArray := prog_14_method_56_code
def yX12_readPlain : MethodName := ⟨RX12, "readPlain", "()I"⟩
abbrev cX12_behindSum : ByteArray := prog_14_method_57_code
def yX12_behindSum : MethodName := ⟨RX12, "behindSum", "(Z)I"⟩
abbrev cX12_behindTest : ByteArray := prog_14_method_58_code
def yX12_behindTest : MethodName := ⟨RX12, "behindTest", "()I"⟩
abbrev cX12_readExpression : ByteArray := prog_14_method_59_code
def yX12_readExpression : MethodName := ⟨RX12, "readExpression", "(Z)V"⟩
abbrev cX12_readClause : ByteArray := prog_14_method_60_code
def yX12_readClause : MethodName := ⟨RX12, "readClause", "()V"⟩
abbrev cX12_law : ByteArray := prog_14_method_61_code
def yX12_law : MethodName := ⟨RX12, "law", "()I"⟩
abbrev cX12_force : ByteArray := prog_14_method_62_code
def yX12_force : MethodName := ⟨RX12, "force", "(I)I"⟩
abbrev cX12_reckon : ByteArray := prog_14_method_63_code
def yX12_reckon : MethodName := ⟨RX12, "reckon", "(IJJ)J"⟩
abbrev cX12_reckonAll : ByteArray := prog_14_method_64_code
def yX12_reckonAll : MethodName := ⟨RX12, "reckonAll", "(II)V"⟩
abbrev cX12_isSo : ByteArray := prog_14_method_65_code
def yX12_isSo : MethodName := ⟨RX12, "isSo", "(I)Z"⟩
abbrev cX12_asks : ByteArray := prog_14_method_66_code
def yX12_asks : MethodName := ⟨RX12, "asks", "(IIIII)I"⟩
abbrev cX12_beside : ByteArray := prog_14_method_67_code
def yX12_beside : MethodName := ⟨RX12, "beside", "(II)I"⟩
abbrev cX12_go : ByteArray := prog_14_method_68_code
def yX12_go : MethodName := ⟨RX12, "go", "(IIII)V"⟩
abbrev cX12_isFree : ByteArray := prog_14_method_69_code
def yX12_isFree : MethodName := ⟨RX12, "isFree", "()Z"⟩
abbrev cX12_passes : ByteArray := prog_14_method_70_code
def yX12_passes : MethodName := ⟨RX12, "passes", "(I)Z"⟩
abbrev cX12_turns : ByteArray := prog_14_method_71_code
def yX12_turns : MethodName := ⟨RX12, "turns", "(IIIIZ)Z"⟩
abbrev cX12_isLook : ByteArray := prog_14_method_72_code
def yX12_isLook : MethodName := ⟨RX12, "isLook", "(III)Z"⟩
abbrev cX12_look : ByteArray := prog_14_method_73_code
def yX12_look : MethodName := ⟨RX12, "look", "(IIII)I"⟩
abbrev cX12_point : ByteArray := prog_14_method_74_code
def yX12_point : MethodName := ⟨RX12, "point", "(IIII)I"⟩
abbrev cX12_seenFrom : ByteArray := prog_14_method_75_code
def yX12_seenFrom : MethodName := ⟨RX12, "seenFrom", "(II)I"⟩
abbrev cX12_sees : ByteArray := prog_14_method_76_code
def yX12_sees : MethodName := ⟨RX12, "sees", "(II)I"⟩
abbrev cX12_lateness : ByteArray := prog_14_method_77_code
def yX12_lateness : MethodName := ⟨RX12, "lateness", "(III)I"⟩
abbrev cX12_late : ByteArray := prog_14_method_78_code
def yX12_late : MethodName := ⟨RX12, "late", "(III)I"⟩
abbrev cX12_first : ByteArray := prog_14_method_79_code
def yX12_first : MethodName := ⟨RX12, "first", "(II)I"⟩
abbrev cX12_mark : ByteArray := prog_14_method_80_code
def yX12_mark : MethodName := ⟨RX12, "mark", "(II)V"⟩
abbrev cX12_clearPoints : ByteArray := prog_14_method_81_code
def yX12_clearPoints : MethodName := ⟨RX12, "clearPoints", "()V"⟩
abbrev cX12_lit : ByteArray := prog_14_method_82_code
def yX12_lit : MethodName := ⟨RX12, "lit", "(III)I"⟩
abbrev cX12_markAll : ByteArray := prog_14_method_83_code
def yX12_markAll : MethodName := ⟨RX12, "markAll", "()V"⟩
abbrev cX12_unseen : ByteArray := prog_14_method_84_code
def yX12_unseen : MethodName := ⟨RX12, "unseen", "(I)I"⟩
abbrev cX12_sighting : ByteArray := prog_14_method_85_code
def yX12_sighting : MethodName := ⟨RX12, "sighting", "(IIII)I"⟩
abbrev cX12_drop : ByteArray := prog_14_method_86_code
def yX12_drop : MethodName := ⟨RX12, "drop", "(I)I"⟩
abbrev cX12_start : ByteArray := prog_14_method_87_code
def yX12_start : MethodName := ⟨RX12, "start", "(I)I"⟩
abbrev cX12_findMeets : ByteArray := prog_14_method_88_code
def yX12_findMeets : MethodName := ⟨RX12, "findMeets", "(IIII)V"⟩
abbrev cX12_countRows : ByteArray := prog_14_method_89_code
def yX12_countRows : MethodName := ⟨RX12, "countRows", "()V"⟩
abbrev cX12_countFor : ByteArray := prog_14_method_90_code
def yX12_countFor : MethodName := ⟨RX12, "countFor", "(IIII)V"⟩
abbrev cX12_step : ByteArray := prog_14_method_91_code
def yX12_step : MethodName := ⟨RX12, "step", "(III)I"⟩
abbrev cX12_goesOn : ByteArray := prog_14_method_92_code
def yX12_goesOn : MethodName := ⟨RX12, "goesOn", "(II)V"⟩
abbrev cX12_comesFrom : ByteArray := prog_14_method_93_code
def yX12_comesFrom : MethodName := ⟨RX12, "comesFrom", "(II)V"⟩
abbrev cX12_rowsAt : ByteArray := prog_14_method_94_code
def yX12_rowsAt : MethodName := ⟨RX12, "rowsAt", "(II)J"⟩
abbrev cX12_allRows : ByteArray := prog_14_method_95_code
def yX12_allRows : MethodName := ⟨RX12, "allRows", "()J"⟩
abbrev cX12_fits_ : ByteArray := prog_14_method_96_code
def yX12_fits_ : MethodName := ⟨RX12, "fits", "()J"⟩
abbrev cX12_canFit : ByteArray := prog_14_method_97_code
def yX12_canFit : MethodName := ⟨RX12, "canFit", "(I)Z"⟩
abbrev cX12_core : ByteArray := prog_14_method_98_code
def yX12_core : MethodName := ⟨RX12, "core", "()I"⟩
abbrev cX12_tells : ByteArray := prog_14_method_99_code
def yX12_tells : MethodName := ⟨RX12, "tells", "(III)J"⟩
abbrev cX12_surely : ByteArray := prog_14_method_100_code
def yX12_surely : MethodName := ⟨RX12, "surely", "(I)I"⟩
abbrev cX12_could : ByteArray := prog_14_method_101_code
def yX12_could : MethodName := ⟨RX12, "could", "(II)J"⟩
abbrev cX12_path : ByteArray := prog_14_method_102_code
def yX12_path : MethodName := ⟨RX12, "path", "(I)I"⟩
abbrev cX12_isStep : ByteArray := prog_14_method_103_code
def yX12_isStep : MethodName := ⟨RX12, "isStep", "(II)Z"⟩
abbrev cX12_spot : ByteArray := prog_14_method_104_code
def yX12_spot : MethodName := ⟨RX12, "spot", "(III)I"⟩
abbrev cX12_wish : ByteArray := prog_14_method_105_code
def yX12_wish : MethodName := ⟨RX12, "wish", "(IIIIII)I"⟩
abbrev cX12_lacking : ByteArray := prog_14_method_106_code
def yX12_lacking : MethodName := ⟨RX12, "lacking", "(I)I"⟩
abbrev cX12_areSpots : ByteArray := prog_14_method_107_code
def yX12_areSpots : MethodName := ⟨RX12, "areSpots", "(I)Z"⟩
abbrev cX12_lacks : ByteArray := prog_14_method_108_code
def yX12_lacks : MethodName := ⟨RX12, "lacks", "(I)I"⟩
abbrev cX12_bits : ByteArray := prog_14_method_109_code
def yX12_bits : MethodName := ⟨RX12, "bits", "(I)I"⟩
abbrev cX12_hang : ByteArray := prog_14_method_110_code
def yX12_hang : MethodName := ⟨RX12, "hang", "(I)I"⟩
abbrev cX12_findSoonest : ByteArray := prog_14_method_111_code
def yX12_findSoonest : MethodName := ⟨RX12, "findSoonest", "(III)I"⟩
abbrev cX12_soonest : ByteArray := prog_14_method_112_code
def yX12_soonest : MethodName := ⟨RX12, "soonest", "(III)I"⟩
abbrev cX12_way : ByteArray := prog_14_method_113_code
def yX12_way : MethodName := ⟨RX12, "way", "(IIII)I"⟩
abbrev cX12_sooner : ByteArray := prog_14_method_114_code
def yX12_sooner : MethodName := ⟨RX12, "sooner", "(IIII)I"⟩
abbrev cX12_wander : ByteArray := prog_14_method_115_code
def yX12_wander : MethodName := ⟨RX12, "wander", "(II)I"⟩
abbrev cX12_drawn : ByteArray := prog_14_method_116_code
def yX12_drawn : MethodName := ⟨RX12, "drawn", "(I)I"⟩
abbrev cX12_count : ByteArray := prog_14_method_117_code
def yX12_count : MethodName := ⟨RX12, "count", "(I)I"⟩
abbrev cX12_status : ByteArray := prog_14_method_118_code
def yX12_status : MethodName := ⟨RX12, "status", "()I"⟩
def RJx145de : String := "java/io/Serializable"
def TJx145de : u_T := fun k => match k with
  | _ => ("", "", "", false)
def tyJx145de : Nat → FieldType := fun k => match k with
  | _ => .int
abbrev wsJx145de0 : List Cond := u_ws RJx145de TJx145de 0
theorem nmJx145de : ∀ a, a < 0 → ∀ b, b < 0 → a ≠ b → (TJx145de a).2.1 ≠ (TJx145de b).2.1 := by decide +kernel
theorem tyJx145de_ok : ∀ k, k < 0 → parseFieldDescriptor (TJx145de k).2.2.1 = some (tyJx145de k) := by decide +kernel
def RJx9f9b0 : String := "java/lang/CharSequence"
def TJx9f9b0 : u_T := fun k => match k with
  | _ => ("", "", "", false)
def tyJx9f9b0 : Nat → FieldType := fun k => match k with
  | _ => .int
abbrev wsJx9f9b00 : List Cond := u_ws RJx9f9b0 TJx9f9b0 0
theorem nmJx9f9b0 : ∀ a, a < 0 → ∀ b, b < 0 → a ≠ b → (TJx9f9b0 a).2.1 ≠ (TJx9f9b0 b).2.1 := by decide +kernel
theorem tyJx9f9b0_ok : ∀ k, k < 0 → parseFieldDescriptor (TJx9f9b0 k).2.2.1 = some (tyJx9f9b0 k) := by decide +kernel
def RJx8e188 : String := "java/lang/Cloneable"
def TJx8e188 : u_T := fun k => match k with
  | _ => ("", "", "", false)
def tyJx8e188 : Nat → FieldType := fun k => match k with
  | _ => .int
abbrev wsJx8e1880 : List Cond := u_ws RJx8e188 TJx8e188 0
theorem nmJx8e188 : ∀ a, a < 0 → ∀ b, b < 0 → a ≠ b → (TJx8e188 a).2.1 ≠ (TJx8e188 b).2.1 := by decide +kernel
theorem tyJx8e188_ok : ∀ k, k < 0 → parseFieldDescriptor (TJx8e188 k).2.2.1 = some (tyJx8e188 k) := by decide +kernel
def RJxb160c : String := "java/lang/Comparable"
def TJxb160c : u_T := fun k => match k with
  | _ => ("", "", "", false)
def tyJxb160c : Nat → FieldType := fun k => match k with
  | _ => .int
abbrev wsJxb160c0 : List Cond := u_ws RJxb160c TJxb160c 0
theorem nmJxb160c : ∀ a, a < 0 → ∀ b, b < 0 → a ≠ b → (TJxb160c a).2.1 ≠ (TJxb160c b).2.1 := by decide +kernel
theorem tyJxb160c_ok : ∀ k, k < 0 → parseFieldDescriptor (TJxb160c k).2.2.1 = some (tyJxb160c k) := by decide +kernel
def RJ6 : String := "java/lang/Integer"
def TJ6 : u_T := fun k => match k with
  | _ => ("", "", "", false)
def tyJ6 : Nat → FieldType := fun k => match k with
  | _ => .int
abbrev wsJ60 : List Cond := u_ws RJ6 TJ6 0
theorem nmJ6 : ∀ a, a < 0 → ∀ b, b < 0 → a ≠ b → (TJ6 a).2.1 ≠ (TJ6 b).2.1 := by decide +kernel
theorem tyJ6_ok : ∀ k, k < 0 → parseFieldDescriptor (TJ6 k).2.2.1 = some (tyJ6 k) := by decide +kernel
abbrev cJ6_numberOfTrailingZeros_0f7a4 : ByteArray := prog_16_method_48_code
def yJ6_numberOfTrailingZeros_0f7a4 : MethodName := ⟨RJ6, "numberOfTrailingZeros", "(I)I"⟩
abbrev cJ6_bitCount_0f7a4 : ByteArray := prog_16_method_49_code
def yJ6_bitCount_0f7a4 : MethodName := ⟨RJ6, "bitCount", "(I)I"⟩
def RJ13 : String := "java/lang/Long"
def TJ13 : u_T := fun k => match k with
  | _ => ("", "", "", false)
def tyJ13 : Nat → FieldType := fun k => match k with
  | _ => .int
abbrev wsJ130 : List Cond := u_ws RJ13 TJ13 0
theorem nmJ13 : ∀ a, a < 0 → ∀ b, b < 0 → a ≠ b → (TJ13 a).2.1 ≠ (TJ13 b).2.1 := by decide +kernel
theorem tyJ13_ok : ∀ k, k < 0 → parseFieldDescriptor (TJ13 k).2.2.1 = some (tyJ13 k) := by decide +kernel
abbrev cJ13_numberOfTrailingZeros_95d88 : ByteArray := prog_17_method_49_code
def yJ13_numberOfTrailingZeros_95d88 : MethodName := ⟨RJ13, "numberOfTrailingZeros", "(J)I"⟩
abbrev cJ13_bitCount_95d88 : ByteArray := prog_17_method_50_code
def yJ13_bitCount_95d88 : MethodName := ⟨RJ13, "bitCount", "(J)I"⟩
def RJ9 : String := "java/lang/Math"
def TJ9 : u_T := fun k => match k with
  | _ => ("", "", "", false)
def tyJ9 : Nat → FieldType := fun k => match k with
  | _ => .int
abbrev wsJ90 : List Cond := u_ws RJ9 TJ9 0
theorem nmJ9 : ∀ a, a < 0 → ∀ b, b < 0 → a ≠ b → (TJ9 a).2.1 ≠ (TJ9 b).2.1 := by decide +kernel
theorem tyJ9_ok : ∀ k, k < 0 → parseFieldDescriptor (TJ9 k).2.2.1 = some (tyJ9 k) := by decide +kernel
abbrev cJ9_max_7cf53 : ByteArray := prog_18_method_65_code
def yJ9_max_7cf53 : MethodName := ⟨RJ9, "max", "(II)I"⟩
abbrev cJ9_max_f86c9 : ByteArray := prog_18_method_66_code
def yJ9_max_f86c9 : MethodName := ⟨RJ9, "max", "(JJ)J"⟩
abbrev cJ9_min_7cf53 : ByteArray := prog_18_method_69_code
def yJ9_min_7cf53 : MethodName := ⟨RJ9, "min", "(II)I"⟩
abbrev cJ9_min_f86c9 : ByteArray := prog_18_method_70_code
def yJ9_min_f86c9 : MethodName := ⟨RJ9, "min", "(JJ)J"⟩
def RJxd2413 : String := "java/lang/Number"
def TJxd2413 : u_T := fun k => match k with
  | _ => ("", "", "", false)
def tyJxd2413 : Nat → FieldType := fun k => match k with
  | _ => .int
abbrev wsJxd24130 : List Cond := u_ws RJxd2413 TJxd2413 0
theorem nmJxd2413 : ∀ a, a < 0 → ∀ b, b < 0 → a ≠ b → (TJxd2413 a).2.1 ≠ (TJxd2413 b).2.1 := by decide +kernel
theorem tyJxd2413_ok : ∀ k, k < 0 → parseFieldDescriptor (TJxd2413 k).2.2.1 = some (tyJxd2413 k) := by decide +kernel
def RJ0 : String := "java/lang/String"
def TJ0 : u_T := fun k => match k with
  | _ => ("", "", "", false)
def tyJ0 : Nat → FieldType := fun k => match k with
  | _ => .int
abbrev wsJ00 : List Cond := u_ws RJ0 TJ0 0
theorem nmJ0 : ∀ a, a < 0 → ∀ b, b < 0 → a ≠ b → (TJ0 a).2.1 ≠ (TJ0 b).2.1 := by decide +kernel
theorem tyJ0_ok : ∀ k, k < 0 → parseFieldDescriptor (TJ0 k).2.2.1 = some (tyJ0 k) := by decide +kernel
abbrev cJ0_length_8abf5 : ByteArray := prog_20_method_54_code
def yJ0_length_8abf5 : MethodName := ⟨RJ0, "length", "()I"⟩
abbrev cJ0_charAt_5068e : ByteArray := prog_20_method_56_code
def yJ0_charAt_5068e : MethodName := ⟨RJ0, "charAt", "(I)C"⟩
abbrev cJ0_coder_7d493 : ByteArray := prog_20_method_152_code
def yJ0_coder_7d493 : MethodName := ⟨RJ0, "coder", "()B"⟩
abbrev cJ0_isLatin1_aae02 : ByteArray := prog_20_method_154_code
def yJ0_isLatin1_aae02 : MethodName := ⟨RJ0, "isLatin1", "()Z"⟩
abbrev cJ0_checkIndex_df160 : ByteArray := prog_20_method_155_code
def yJ0_checkIndex_df160 : MethodName := ⟨RJ0, "checkIndex", "(II)V"⟩
def RJ1 : String := "java/lang/StringLatin1"
def TJ1 : u_T := fun k => match k with
  | _ => ("", "", "", false)
def tyJ1 : Nat → FieldType := fun k => match k with
  | _ => .int
abbrev wsJ10 : List Cond := u_ws RJ1 TJ1 0
theorem nmJ1 : ∀ a, a < 0 → ∀ b, b < 0 → a ≠ b → (TJ1 a).2.1 ≠ (TJ1 b).2.1 := by decide +kernel
theorem tyJ1_ok : ∀ k, k < 0 → parseFieldDescriptor (TJ1 k).2.2.1 = some (tyJ1 k) := by decide +kernel
abbrev cJ1_charAt_3b067 : ByteArray := prog_21_method_2_code
def yJ1_charAt_3b067 : MethodName := ⟨RJ1, "charAt", "([BI)C"⟩
def RJ2 : String := "java/lang/StringUTF16"
def TJ2 : u_T := fun k => match k with
  | _ => ("", "", "", false)
def tyJ2 : Nat → FieldType := fun k => match k with
  | _ => .int
abbrev wsJ20 : List Cond := u_ws RJ2 TJ2 0
theorem nmJ2 : ∀ a, a < 0 → ∀ b, b < 0 → a ≠ b → (TJ2 a).2.1 ≠ (TJ2 b).2.1 := by decide +kernel
theorem tyJ2_ok : ∀ k, k < 0 → parseFieldDescriptor (TJ2 k).2.2.1 = some (tyJ2 k) := by decide +kernel
abbrev cJ2_getChar_3b067 : ByteArray := prog_22_method_5_code
def yJ2_getChar_3b067 : MethodName := ⟨RJ2, "getChar", "([BI)C"⟩
abbrev cJ2_length_9d52b : ByteArray := prog_22_method_6_code
def yJ2_length_9d52b : MethodName := ⟨RJ2, "length", "([B)I"⟩
abbrev cJ2_charAt_3b067 : ByteArray := prog_22_method_83_code
def yJ2_charAt_3b067 : MethodName := ⟨RJ2, "charAt", "([BI)C"⟩
abbrev cJ2_checkIndex_2214a : ByteArray := prog_22_method_91_code
def yJ2_checkIndex_2214a : MethodName := ⟨RJ2, "checkIndex", "(I[B)V"⟩
def RJ10 : String := "java/lang/System"
def TJ10 : u_T := fun k => match k with
  | _ => ("", "", "", false)
def tyJ10 : Nat → FieldType := fun k => match k with
  | _ => .int
abbrev wsJ100 : List Cond := u_ws RJ10 TJ10 0
theorem nmJ10 : ∀ a, a < 0 → ∀ b, b < 0 → a ≠ b → (TJ10 a).2.1 ≠ (TJ10 b).2.1 := by decide +kernel
theorem tyJ10_ok : ∀ k, k < 0 → parseFieldDescriptor (TJ10 k).2.2.1 = some (tyJ10 k) := by decide +kernel
def RJxfd54e : String := "java/lang/constant/Constable"
def TJxfd54e : u_T := fun k => match k with
  | _ => ("", "", "", false)
def tyJxfd54e : Nat → FieldType := fun k => match k with
  | _ => .int
abbrev wsJxfd54e0 : List Cond := u_ws RJxfd54e TJxfd54e 0
theorem nmJxfd54e : ∀ a, a < 0 → ∀ b, b < 0 → a ≠ b → (TJxfd54e a).2.1 ≠ (TJxfd54e b).2.1 := by decide +kernel
theorem tyJxfd54e_ok : ∀ k, k < 0 → parseFieldDescriptor (TJxfd54e k).2.2.1 = some (tyJxfd54e k) := by decide +kernel
def RJx3cf43 : String := "java/lang/constant/ConstantDesc"
def TJx3cf43 : u_T := fun k => match k with
  | _ => ("", "", "", false)
def tyJx3cf43 : Nat → FieldType := fun k => match k with
  | _ => .int
abbrev wsJx3cf430 : List Cond := u_ws RJx3cf43 TJx3cf43 0
theorem nmJx3cf43 : ∀ a, a < 0 → ∀ b, b < 0 → a ≠ b → (TJx3cf43 a).2.1 ≠ (TJx3cf43 b).2.1 := by decide +kernel
theorem tyJx3cf43_ok : ∀ k, k < 0 → parseFieldDescriptor (TJx3cf43 k).2.2.1 = some (tyJx3cf43 k) := by decide +kernel
def RJ7 : String := "java/util/Arrays"
def TJ7 : u_T := fun k => match k with
  | _ => ("", "", "", false)
def tyJ7 : Nat → FieldType := fun k => match k with
  | _ => .int
abbrev wsJ70 : List Cond := u_ws RJ7 TJ7 0
theorem nmJ7 : ∀ a, a < 0 → ∀ b, b < 0 → a ≠ b → (TJ7 a).2.1 ≠ (TJ7 b).2.1 := by decide +kernel
theorem tyJ7_ok : ∀ k, k < 0 → parseFieldDescriptor (TJ7 k).2.2.1 = some (tyJ7 k) := by decide +kernel
abbrev cJ7_fill_d0a16 : ByteArray := prog_24_method_101_code
def yJ7_fill_d0a16 : MethodName := ⟨RJ7, "fill", "([JJ)V"⟩
abbrev cJ7_fill_53178 : ByteArray := prog_24_method_103_code
def yJ7_fill_53178 : MethodName := ⟨RJ7, "fill", "([II)V"⟩
abbrev cJ7_copyOf_59c91 : ByteArray := prog_24_method_123_code
def yJ7_copyOf_59c91 : MethodName := ⟨RJ7, "copyOf", "([II)[I"⟩
def RJ3 : String := "jdk/internal/util/Preconditions"
def TJ3 : u_T := fun k => match k with
  | _ => ("", "", "", false)
def tyJ3 : Nat → FieldType := fun k => match k with
  | _ => .int
abbrev wsJ30 : List Cond := u_ws RJ3 TJ3 0
theorem nmJ3 : ∀ a, a < 0 → ∀ b, b < 0 → a ≠ b → (TJ3 a).2.1 ≠ (TJ3 b).2.1 := by decide +kernel
theorem tyJ3_ok : ∀ k, k < 0 → parseFieldDescriptor (TJ3 k).2.2.1 = some (tyJ3 k) := by decide +kernel
abbrev cJ3_checkIndex_8e157 : ByteArray := prog_25_method_11_code
def yJ3_checkIndex_8e157 : MethodName := ⟨RJ3, "checkIndex", "(IILjava/util/function/BiFunction;)I"⟩
def RL : String := "LateGlassLaw"
abbrev vwCl : List vw_C := [(RX0, TX0, 5), (RX1, TX1, 13), (RX2, TX2, 2), (RX3, TX3, 4), (RX4, TX4, 8), (RX5, TX5, 13), (RX6, TX6, 4), (RX7, TX7, 10), (RX8, TX8, 3), (RX9, TX9, 4), (RX10, TX10, 3), (RX11, TX11, 17), (RX12, TX12, 52)]
/-! What every contract here speaks of: the classes' numbers and the five array classes in one variable G; the nest words; a slice of the world. -/
abbrev g5_G : Type := va_G × (Nat → ClassId)
abbrev T5 (G : g5_G) : List (ClassId × FieldType) := [(G.2 0, .int), (G.2 1, .long), (G.2 2, .boolean), (G.2 3, .object "LateGlass$House"), (G.2 4, .object "LateGlass$Law")]
def nw5 : List Cond := [.methodLinkNest RX11 11 yX1_init "LateGlass", .methodLinkNest RX5 11 yX2_init "LateGlass", .methodLinkNest RX11 65 yX4_init "LateGlass", .methodLinkNest RX4 11 yX8_init "LateGlass", .methodLinkNest RX1 62 yX11_isOn "LateGlass", .methodLinkNest RX5 52 yX11_isLook "LateGlass", .methodLinkNest RX5 70 yX11_beside "LateGlass", .methodLinkNest RX5 77 yX11_isOn "LateGlass", .methodLinkNest RX7 98 yX11_isOn "LateGlass", .methodLinkNest RX7 105 yX11_beside "LateGlass", .fieldLinkNest RX7 114 "LateGlass" "HAVING" "[I" "LateGlass", .fieldLinkNest RX7 131 "LateGlass" "LOWEST_FIRST" "[I" "LateGlass", .methodLinkNest RX9 43 yX11_isOn "LateGlass", .fieldLinkNest RX9 64 "LateGlass" "LOWEST_FIRST" "[I" "LateGlass", .methodLinkNest RX9 67 yX11_beside "LateGlass"]
theorem nw5_kind : ∀ w ∈ nw5, (∃ a i x h, w = Cond.methodLinkNest a i x h) ∨ (∃ a i b n d h, w = Cond.fieldLinkNest a i b n d h) := by
  intro w hw
  simp only [nw5, List.mem_cons, List.not_mem_nil, or_false] at hw
  rcases hw with rfl | rfl | rfl | rfl | rfl | rfl | rfl | rfl | rfl | rfl | rfl | rfl | rfl | rfl | rfl <;> first | exact Or.inl ⟨_, _, _, _, rfl⟩ | exact Or.inr ⟨_, _, _, _, _, _, rfl⟩
def g5_N (U : State) : Prop := (∀ w ∈ nw5, va_Nw w U) ∧ va_AO "LateGlass$House" U ∧ va_AO "LateGlass$Law" U
theorem g5_N.warm {s U : State} (hW : s.WarmedH U.vm) (h : g5_N s) : g5_N U := by
  refine ⟨?_, va_AO.moved hW.alike h.2.1, va_AO.moved hW.alike h.2.2⟩
  have h := h.1
  intro w hw
  rcases nw5_kind w hw with ⟨a, i, x, b, rfl⟩ | ⟨a, i, b, n, d, k, rfl⟩
  · exact va_Nw.warmM hW (h _ hw)
  · exact va_Nw.warmF hW (h _ hw)
theorem g5_N.same {s U : State} (e : s.vm = U.vm) (h : g5_N s) : g5_N U := by
  have ha : s.vm.Alike U.vm := by rw [← e]; exact Vm.Alike.refl s.vm
  refine ⟨?_, va_AO.moved ha h.2.1, va_AO.moved ha h.2.2⟩
  have h := h.1
  intro w hw
  rcases nw5_kind w hw with ⟨a, i, x, b, rfl⟩ | ⟨a, i, b, n, d, k, rfl⟩
  · exact va_Nw.same rfl e (h _ hw)
  · exact va_Nw.same rfl e (h _ hw)
theorem g5_nw_X11_11 : Cond.methodLinkNest RX11 11 yX1_init "LateGlass" ∈ nw5 := List.mem_of_getElem? (i := 0) rfl
theorem g5_nw_X5_11 : Cond.methodLinkNest RX5 11 yX2_init "LateGlass" ∈ nw5 := List.mem_of_getElem? (i := 1) rfl
theorem g5_nw_X11_65 : Cond.methodLinkNest RX11 65 yX4_init "LateGlass" ∈ nw5 := List.mem_of_getElem? (i := 2) rfl
theorem g5_nw_X4_11 : Cond.methodLinkNest RX4 11 yX8_init "LateGlass" ∈ nw5 := List.mem_of_getElem? (i := 3) rfl
theorem g5_nw_X1_62 : Cond.methodLinkNest RX1 62 yX11_isOn "LateGlass" ∈ nw5 := List.mem_of_getElem? (i := 4) rfl
theorem g5_nw_X5_52 : Cond.methodLinkNest RX5 52 yX11_isLook "LateGlass" ∈ nw5 := List.mem_of_getElem? (i := 5) rfl
theorem g5_nw_X5_70 : Cond.methodLinkNest RX5 70 yX11_beside "LateGlass" ∈ nw5 := List.mem_of_getElem? (i := 6) rfl
theorem g5_nw_X5_77 : Cond.methodLinkNest RX5 77 yX11_isOn "LateGlass" ∈ nw5 := List.mem_of_getElem? (i := 7) rfl
theorem g5_nw_X7_98 : Cond.methodLinkNest RX7 98 yX11_isOn "LateGlass" ∈ nw5 := List.mem_of_getElem? (i := 8) rfl
theorem g5_nw_X7_105 : Cond.methodLinkNest RX7 105 yX11_beside "LateGlass" ∈ nw5 := List.mem_of_getElem? (i := 9) rfl
theorem g5_nw_X7_114 : Cond.fieldLinkNest RX7 114 "LateGlass" "HAVING" "[I" "LateGlass" ∈ nw5 := List.mem_of_getElem? (i := 10) rfl
theorem g5_nw_X7_131 : Cond.fieldLinkNest RX7 131 "LateGlass" "LOWEST_FIRST" "[I" "LateGlass" ∈ nw5 := List.mem_of_getElem? (i := 11) rfl
theorem g5_nw_X9_43 : Cond.methodLinkNest RX9 43 yX11_isOn "LateGlass" ∈ nw5 := List.mem_of_getElem? (i := 12) rfl
theorem g5_nw_X9_64 : Cond.fieldLinkNest RX9 64 "LateGlass" "LOWEST_FIRST" "[I" "LateGlass" ∈ nw5 := List.mem_of_getElem? (i := 13) rfl
theorem g5_nw_X9_67 : Cond.methodLinkNest RX9 67 yX11_beside "LateGlass" ∈ nw5 := List.mem_of_getElem? (i := 14) rfl
/-- the two static tables that nobody writes -/
def g5_hav : Nat → Value := fun j => match j with
  | 0 => .int (-1431655766)
  | 1 => .int (-858993460)
  | 2 => .int (-252645136)
  | 3 => .int (-16711936)
  | _ => .int (-65536)
def g5_low : Nat → Value := fun j => match j with
  | 0 => .int 0
  | 1 => .int 3
  | 2 => .int 4
  | 3 => .int 1
  | _ => .int 2
def g5_S (A : Nat → Prop) (U : State) (H : Heap) : Prop := ∃ tH tL : Nat, va_Z "LateGlass" "HAVING" "[I" (.ref tH) A U H ∧ va_T .int tH 5 g5_hav A U H ∧ va_Z "LateGlass" "LOWEST_FIRST" "[I" (.ref tL) A U H ∧ va_T .int tL 5 g5_low A U H
theorem g5_S.moved {A : Nat → Prop} {u U : State} {H : Heap} (hvm : u.vm.Alike U.vm) (h : g5_S A u H) : g5_S A U H := by
  obtain ⟨a, b, h1, h2, h3, h4⟩ := h
  exact ⟨a, b, h1.moved hvm, h2.moved hvm, h3.moved hvm, h4.moved hvm⟩
theorem g5_S.kept {A : Nat → Prop} {U : State} {H H1 : Heap} (h : g5_S A U H) (hq : ∀ a : Nat, a < H.size → ¬ A a → H1[a]? = H[a]?) : g5_S A U H1 := by
  obtain ⟨a, b, h1, h2, h3, h4⟩ := h
  exact ⟨a, b, h1.kept hq, h2.kept hq, h3.kept hq, h4.kept hq⟩
theorem g5_S.narrow {A B : Nat → Prop} {U : State} {H : Heap} (h : g5_S A U H) (hAB : ∀ q, B q → A q) : g5_S B U H := by
  obtain ⟨a, b, h1, h2, h3, h4⟩ := h
  exact ⟨a, b, h1.narrow hAB, h2.narrow hAB, h3.narrow hAB, h4.narrow hAB⟩
def g5_P (G : g5_G) (ws : va_W) (sz : Nat) (U : State) : Prop := U.heap.size = sz ∧ va_P G.1 vwCl ws U.heap ∧ va_K G.1 vwCl (T5 G) U ∧ va_D (fun _ => True) ws ∧ g5_N U ∧ g5_S (va_A ws sz) U U.heap
def g5_B (G : g5_G) (A : Nat → Prop) (w : va_W) (t : State) : Prop := va_P G.1 vwCl w t.heap ∧ va_D A w
theorem g5_blind {G : g5_G} {ws : va_W} {sz : Nat} {av : List Value} : FrameBlind (va_Pc av (g5_P G ws sz)) := by
  intro a U g mk q
  obtain ⟨q0, q1, qP, qK, qD, qN, qS⟩ := q
  exact ⟨q0, q1, qP, va_K.moved (u := U) (U := U.calling g mk a) (Vm.Alike.refl U.vm) qK, qD, g5_N.same (s := U) (U := U.calling g mk a) rfl qN, g5_S.moved (u := U) (U := U.calling g mk a) (Vm.Alike.refl U.vm) qS⟩
theorem g5_preS {G : g5_G} {s : State} {H : Heap} {locs : List Loc} {A : Nat → Prop} {wc : va_W} {As : List Value} (hP : va_P G.1 vwCl wc H) (hK : va_K G.1 vwCl (T5 G) s) (hD : va_D A wc) (hN : g5_N s) (hT : g5_S A s s.heap) (hS : va_S A s.heap H locs) (hF : ∀ q, va_A wc H.size q → A q) : PreS s H (va_Pc As (g5_P G wc H.size)) As :=
  ⟨g5_blind, fun U hU hW => ⟨rfl, by rw [hU], by rw [hU]; exact hP, va_K.moved hW.alike hK, hD.weaken (fun _ _ _ _ => trivial), hN.warm hW, by rw [hU]; exact ((hT.kept hS.2.1).narrow hF).moved hW.alike⟩⟩
theorem g5_preV {G : g5_G} {s : State} {H : Heap} {locs : List Loc} {A : Nat → Prop} {wc : va_W} {b : Nat} {As : List Value} {C : String} {T : u_T} {N ci q0 : Nat} {fs : List Value} (hP : va_P G.1 vwCl wc H) (hK : va_K G.1 vwCl (T5 G) s) (hD : va_D A wc) (hN : g5_N s) (hT : g5_S A s s.heap) (hS : va_S A s.heap H locs) (hF : ∀ q, va_A wc H.size q → A q) (he : wc[q0]? = some (b, .inr (ci, fs))) (hc : vwCl[ci]? = some (C, T, N)) : PreV s H C b (va_Pc (.ref b :: As) (g5_P G wc H.size)) As :=
  ⟨g5_blind, va_recv hK hP hc he, fun U hU hW => ⟨rfl, by rw [hU], by rw [hU]; exact hP, va_K.moved hW.alike hK, hD.weaken (fun _ _ _ _ => trivial), hN.warm hW, by rw [hU]; exact ((hT.kept hS.2.1).narrow hF).moved hW.alike⟩⟩
theorem g5_same {G : g5_G} {ws : va_W} {H H1 : Heap} (hP : va_P G.1 vwCl ws H) (hk : ∀ q : Nat, q < H.size → ¬ va_A [] H.size q → H1[q]? = H[q]?) : va_P G.1 vwCl ws H1 := by
  refine hP.kept fun k q hq => hk q.1 (hP k q hq).lt (fun h => ?_)
  rcases h with ⟨j, e, h⟩ | h
  · simp at h
  · exact absurd (hP k q hq).lt (Nat.not_lt.mpr h)
/-! ints by their values -/
theorem g5_lt {x y : Int32} {a b : Int} (hx : x.toInt = a) (hy : y.toInt = b) (c : x < y) : a < b := by rw [← hx, ← hy]; exact Int32.lt_iff_toInt_lt.mp c
theorem g5_ltN {x y : Int32} {a b : Int} (hx : x.toInt = a) (hy : y.toInt = b) (c : ¬ x < y) : b ≤ a := by rw [← hx, ← hy]; exact Int.not_lt.mp fun h => c (Int32.lt_iff_toInt_lt.mpr h)
theorem g5_le {x y : Int32} {a b : Int} (hx : x.toInt = a) (hy : y.toInt = b) (c : x ≤ y) : a ≤ b := by rw [← hx, ← hy]; exact Int32.le_iff_toInt_le.mp c
theorem g5_leN {x y : Int32} {a b : Int} (hx : x.toInt = a) (hy : y.toInt = b) (c : ¬ x ≤ y) : b < a := by rw [← hx, ← hy]; exact Int.not_le.mp fun h => c (Int32.le_iff_toInt_le.mpr h)
theorem g5_gt {x y : Int32} {a b : Int} (hx : x.toInt = a) (hy : y.toInt = b) (c : y < x) : b < a := g5_lt hy hx c
theorem g5_gtN {x y : Int32} {a b : Int} (hx : x.toInt = a) (hy : y.toInt = b) (c : ¬ y < x) : a ≤ b := g5_ltN hy hx c
theorem g5_ge {x y : Int32} {a b : Int} (hx : x.toInt = a) (hy : y.toInt = b) (c : y ≤ x) : b ≤ a := g5_le hy hx c
theorem g5_geN {x y : Int32} {a b : Int} (hx : x.toInt = a) (hy : y.toInt = b) (c : ¬ y ≤ x) : a < b := g5_leN hy hx c
theorem g5_eq {x y : Int32} {a b : Int} (hx : x.toInt = a) (hy : y.toInt = b) (c : x = y) : a = b := by rw [← hx, ← hy, c]
theorem g5_eqN {x y : Int32} {a b : Int} (hx : x.toInt = a) (hy : y.toInt = b) (c : ¬ x = y) : a ≠ b := by rw [← hx, ← hy]; exact fun h => c (Int32.toInt_inj.mp h)
theorem g5_ne {x y : Int32} {a b : Int} (hx : x.toInt = a) (hy : y.toInt = b) (c : ¬ x = y) : a ≠ b := g5_eqN hx hy c
theorem g5_neN {x y : Int32} {a b : Int} (hx : x.toInt = a) (hy : y.toInt = b) (c : x = y) : a = b := g5_eq hx hy c
theorem g5_bm {z : Int} (h1 : -2147483648 ≤ z) (h2 : z < 2147483648) : z.bmod (2 ^ 32) = z := by
  rw [Int.bmod_def]; split <;> omega
theorem g5_iadd {x y : Int32} {a b : Int} (hx : x.toInt = a) (hy : y.toInt = b) (h1 : -2147483648 ≤ a + b) (h2 : a + b < 2147483648) : (x + y).toInt = a + b := by
  rw [Int32.toInt_add, hx, hy]; exact g5_bm h1 h2
theorem g5_isub {x y : Int32} {a b : Int} (hx : x.toInt = a) (hy : y.toInt = b) (h1 : -2147483648 ≤ a - b) (h2 : a - b < 2147483648) : (x - y).toInt = a - b := by
  rw [Int32.toInt_sub, hx, hy]; exact g5_bm h1 h2
theorem g5_imul {x y : Int32} {a b : Int} (hx : x.toInt = a) (hy : y.toInt = b) (h1 : -2147483648 ≤ a * b) (h2 : a * b < 2147483648) : (x * y).toInt = a * b := by
  rw [Int32.toInt_mul, hx, hy]; exact g5_bm h1 h2
theorem g5_sh0 (y : UInt64) : ((0 : Int64).toUInt64 >>> y).toInt64 = 0 := by
  have h : (0 : Int64).toUInt64 = 0 := by decide
  rw [h, UInt64.zero_shiftRight]; decide
theorem g5_toc {x k : Int32} {n : Int} (hk : k.toInt = n) (h : x.toInt = n) : x = k := Int32.toInt_inj.mp (h.trans hk.symm)
section G5T
variable {p : Program} {l : Launch} {e : Env} {R : Room} {s : State} {m : MethodId} {args : Array Value} {below : List Frame} {meth : Method} {c : Code} {H : Heap} {locs : List Loc} {cells slots : Nat} {Q : State → Prop} {pc : Nat} {ls : Array Slot} {rest : List Value}
theorem g5_ti {x v : Int32} (h : x = v) (k : W p l e R s m args below meth c H locs cells slots Q (F0 m pc ls (.int v :: rest))) : W p l e R s m args below meth c H locs cells slots Q (F0 m pc ls (.int x :: rest)) := by subst h; exact k
theorem g5_tl {x v : Int64} (h : x = v) (k : W p l e R s m args below meth c H locs cells slots Q (F0 m pc ls (.long v :: rest))) : W p l e R s m args below meth c H locs cells slots Q (F0 m pc ls (.long x :: rest)) := by subst h; exact k
theorem g5_tv {x v : Value} (h : x = v) (k : W p l e R s m args below meth c H locs cells slots Q (F0 m pc ls (v :: rest))) : W p l e R s m args below meth c H locs cells slots Q (F0 m pc ls (x :: rest)) := by subst h; exact k
end G5T
theorem g5_cI {G : g5_G} {s : State} {cA : ClassId} (h : va_K G.1 vwCl (T5 G ++ [(cA, .int)]) s) : cA = G.2 0 := by
  have h1 : s.vm.findClass ("[" ++ FieldType.int.toString) = some cA := (h.2 5 _ rfl).2
  have h2 : s.vm.findClass ("[" ++ FieldType.int.toString) = some (G.2 0) := (h.2 0 _ rfl).2
  exact Option.some.inj (h1.symm.trans h2)
theorem g5_cJ {G : g5_G} {s : State} {cA : ClassId} (h : va_K G.1 vwCl (T5 G ++ [(cA, .long)]) s) : cA = G.2 1 := by
  have h1 : s.vm.findClass ("[" ++ FieldType.long.toString) = some cA := (h.2 5 _ rfl).2
  have h2 : s.vm.findClass ("[" ++ FieldType.long.toString) = some (G.2 1) := (h.2 1 _ rfl).2
  exact Option.some.inj (h1.symm.trans h2)
theorem g5_cZ {G : g5_G} {s : State} {cA : ClassId} (h : va_K G.1 vwCl (T5 G ++ [(cA, .boolean)]) s) : cA = G.2 2 := by
  have h1 : s.vm.findClass ("[" ++ FieldType.boolean.toString) = some cA := (h.2 5 _ rfl).2
  have h2 : s.vm.findClass ("[" ++ FieldType.boolean.toString) = some (G.2 2) := (h.2 2 _ rfl).2
  exact Option.some.inj (h1.symm.trans h2)
theorem g5_cH {G : g5_G} {s : State} {cA : ClassId} (h : va_K G.1 vwCl (T5 G ++ [(cA, .object "LateGlass$House")]) s) : cA = G.2 3 := by
  obtain ⟨k1, c1, a1, a2, a3, h1⟩ := (h.2 5 _ rfl).2
  obtain ⟨k2, c2, b1, b2, b3, h2⟩ := (h.2 3 _ rfl).2
  exact Option.some.inj (h1.symm.trans h2)
theorem g5_cW {G : g5_G} {s : State} {cA : ClassId} (h : va_K G.1 vwCl (T5 G ++ [(cA, .object "LateGlass$Law")]) s) : cA = G.2 4 := by
  obtain ⟨k1, c1, a1, a2, a3, h1⟩ := (h.2 5 _ rfl).2
  obtain ⟨k2, c2, b1, b2, b3, h2⟩ := (h.2 4 _ rfl).2
  exact Option.some.inj (h1.symm.trans h2)
