def RX0 : String := "LateGlass$Hanger"
def TX0 : u_T := fun k => match k with
  | 0 => ("LateGlass$Hanger", "house", "LLateGlass$House;", true)
  | 1 => ("LateGlass$Hanger", "eye", "LLateGlass$Look;", true)
  | 2 => ("LateGlass$Hanger", "fewest", "I", false)
  | 3 => ("LateGlass$Hanger", "choices", "I", false)
  | _ => ("LateGlass$Hanger", "lowest", "I", false)
def tyX0 : Nat → FieldType := fun k => match k with
  | 0 => .object "LateGlass$House"
  | 1 => .object "LateGlass$Look"
  | 2 => .int
  | 3 => .int
  | _ => .int
abbrev wsX00 : List Cond := u_ws RX0 TX0 5
theorem nmX0 : ∀ a, a < 5 → ∀ b, b < 5 → a ≠ b → (TX0 a).2.1 ≠ (TX0 b).2.1 := by decide +kernel
theorem tyX0_ok : ∀ k, k < 5 → parseFieldDescriptor (TX0 k).2.2.1 = some (tyX0 k) := by decide +kernel
abbrev cX0_init : ByteArray := prog_2_method_1_code
def yX0_init : MethodName := ⟨RX0, "<init>", "(LLateGlass$House;LLateGlass$Look;)V"⟩
abbrev cX0_lacking : ByteArray := prog_2_method_2_code
def yX0_lacking : MethodName := ⟨RX0, "lacking", "(I)I"⟩
abbrev cX0_search : ByteArray := prog_2_method_3_code
def yX0_search : MethodName := ⟨RX0, "search", "()V"⟩
def RX1 : String := "LateGlass$House"
def TX1 : u_T := fun k => match k with
  | 0 => ("LateGlass$House", "walls", "J", false)
  | 1 => ("LateGlass$House", "least", "I", false)
  | 2 => ("LateGlass$House", "start", "I", false)
  | 3 => ("LateGlass$House", "forced", "I", false)
  | 4 => ("LateGlass$House", "lawCount", "I", false)
  | 5 => ("LateGlass$House", "laws", "[LLateGlass$Law;", true)
  | 6 => ("LateGlass$House", "glasses", "LLateGlass$Table;", true)
  | 7 => ("LateGlass$House", "bodies", "LLateGlass$Table;", true)
  | 8 => ("LateGlass$House", "sightings", "LLateGlass$Table;", true)
  | 9 => ("LateGlass$House", "spots", "LLateGlass$Table;", true)
  | 10 => ("LateGlass$House", "wishes", "LLateGlass$Table;", true)
  | 11 => ("LateGlass$House", "glassBoard", "J", false)
  | _ => ("LateGlass$House", "bodyBoards", "[J", true)
def tyX1 : Nat → FieldType := fun k => match k with
  | 0 => .long
  | 1 => .int
  | 2 => .int
  | 3 => .int
  | 4 => .int
  | 5 => .array (.object "LateGlass$Law")
  | 6 => .object "LateGlass$Table"
  | 7 => .object "LateGlass$Table"
  | 8 => .object "LateGlass$Table"
  | 9 => .object "LateGlass$Table"
  | 10 => .object "LateGlass$Table"
  | 11 => .long
  | _ => .array .long
abbrev wsX10 : List Cond := u_ws RX1 TX1 13
theorem nmX1 : ∀ a, a < 13 → ∀ b, b < 13 → a ≠ b → (TX1 a).2.1 ≠ (TX1 b).2.1 := by decide +kernel
theorem tyX1_ok : ∀ k, k < 13 → parseFieldDescriptor (TX1 k).2.2.1 = some (tyX1 k) := by decide +kernel
abbrev cX1_init : ByteArray := prog_3_method_1_code
def yX1_init : MethodName := ⟨RX1, "<init>", "()V"⟩
abbrev cX1_isWalled : ByteArray := prog_3_method_2_code
def yX1_isWalled : MethodName := ⟨RX1, "isWalled", "(I)Z"⟩
abbrev cX1_isTaken : ByteArray := prog_3_method_3_code
def yX1_isTaken : MethodName := ⟨RX1, "isTaken", "(I)Z"⟩
abbrev cX1_canHang : ByteArray := prog_3_method_4_code
def yX1_canHang : MethodName := ⟨RX1, "canHang", "(I)Z"⟩
abbrev cX1_put : ByteArray := prog_3_method_5_code
def yX1_put : MethodName := ⟨RX1, "put", "(IIII)V"⟩
abbrev cX1_countSeen : ByteArray := prog_3_method_6_code
def yX1_countSeen : MethodName := ⟨RX1, "countSeen", "()I"⟩
abbrev cX1_lawInForce : ByteArray := prog_3_method_7_code
def yX1_lawInForce : MethodName := ⟨RX1, "lawInForce", "()LLateGlass$Law;"⟩
abbrev cX1_copyFrom : ByteArray := prog_3_method_8_code
def yX1_copyFrom : MethodName := ⟨RX1, "copyFrom", "(LLateGlass$House;)V"⟩
def RX2 : String := "LateGlass$Judge"
def TX2 : u_T := fun k => match k with
  | 0 => ("LateGlass$Judge", "asked", "[I", true)
  | _ => ("LateGlass$Judge", "stack", "[J", true)
def tyX2 : Nat → FieldType := fun k => match k with
  | 0 => .array .int
  | _ => .array .long
abbrev wsX20 : List Cond := u_ws RX2 TX2 2
theorem nmX2 : ∀ a, a < 2 → ∀ b, b < 2 → a ≠ b → (TX2 a).2.1 ≠ (TX2 b).2.1 := by decide +kernel
theorem tyX2_ok : ∀ k, k < 2 → parseFieldDescriptor (TX2 k).2.2.1 = some (tyX2 k) := by decide +kernel
abbrev cX2_init : ByteArray := prog_4_method_1_code
def yX2_init : MethodName := ⟨RX2, "<init>", "()V"⟩
abbrev cX2_isHeld : ByteArray := prog_4_method_2_code
def yX2_isHeld : MethodName := ⟨RX2, "isHeld", "(LLateGlass$Law;I)Z"⟩
abbrev cX2_toldUpTo : ByteArray := prog_4_method_3_code
def yX2_toldUpTo : MethodName := ⟨RX2, "toldUpTo", "(I)I"⟩
abbrev cX2_holds : ByteArray := prog_4_method_4_code
def yX2_holds : MethodName := ⟨RX2, "holds", "(LLateGlass$Law;I)Z"⟩
abbrev cX2_combine : ByteArray := prog_4_method_5_code
def yX2_combine : MethodName := ⟨RX2, "combine", "(II)Z"⟩
def RX3 : String := "LateGlass$Law"
def TX3 : u_T := fun k => match k with
  | 0 => ("LateGlass$Law", "clauses", "I", true)
  | 1 => ("LateGlass$Law", "heads", "[I", true)
  | 2 => ("LateGlass$Law", "starts", "[I", true)
  | _ => ("LateGlass$Law", "code", "[I", true)
def tyX3 : Nat → FieldType := fun k => match k with
  | 0 => .int
  | 1 => .array .int
  | 2 => .array .int
  | _ => .array .int
abbrev wsX30 : List Cond := u_ws RX3 TX3 4
theorem nmX3 : ∀ a, a < 4 → ∀ b, b < 4 → a ≠ b → (TX3 a).2.1 ≠ (TX3 b).2.1 := by decide +kernel
theorem tyX3_ok : ∀ k, k < 4 → parseFieldDescriptor (TX3 k).2.2.1 = some (tyX3 k) := by decide +kernel
abbrev cX3_init : ByteArray := prog_5_method_1_code
def yX3_init : MethodName := ⟨RX3, "<init>", "(I[I[I[I)V"⟩
def RX4 : String := "LateGlass$LawReader"
def TX4 : u_T := fun k => match k with
  | 0 => ("LateGlass$LawReader", "tokens", "LLateGlass$Tokens;", true)
  | 1 => ("LateGlass$LawReader", "heads", "[I", true)
  | 2 => ("LateGlass$LawReader", "starts", "[I", true)
  | 3 => ("LateGlass$LawReader", "code", "[I", true)
  | 4 => ("LateGlass$LawReader", "length", "I", false)
  | 5 => ("LateGlass$LawReader", "parts", "I", false)
  | 6 => ("LateGlass$LawReader", "at", "I", false)
  | _ => ("LateGlass$LawReader", "faultPlace", "I", false)
def tyX4 : Nat → FieldType := fun k => match k with
  | 0 => .object "LateGlass$Tokens"
  | 1 => .array .int
  | 2 => .array .int
  | 3 => .array .int
  | 4 => .int
  | 5 => .int
  | 6 => .int
  | _ => .int
abbrev wsX40 : List Cond := u_ws RX4 TX4 8
theorem nmX4 : ∀ a, a < 8 → ∀ b, b < 8 → a ≠ b → (TX4 a).2.1 ≠ (TX4 b).2.1 := by decide +kernel
theorem tyX4_ok : ∀ k, k < 8 → parseFieldDescriptor (TX4 k).2.2.1 = some (tyX4 k) := by decide +kernel
abbrev cX4_init : ByteArray := prog_6_method_1_code
def yX4_init : MethodName := ⟨RX4, "<init>", "()V"⟩
abbrev cX4_read : ByteArray := prog_6_method_2_code
def yX4_read : MethodName := ⟨RX4, "read", "([II)LLateGlass$Law;"⟩
abbrev cX4_readClause : ByteArray := prog_6_method_3_code
def yX4_readClause : MethodName := ⟨RX4, "readClause", "(I)Z"⟩
abbrev cX4_readTest : ByteArray := prog_6_method_4_code
def yX4_readTest : MethodName := ⟨RX4, "readTest", "(I)Z"⟩
abbrev cX4_readPlain : ByteArray := prog_6_method_5_code
def yX4_readPlain : MethodName := ⟨RX4, "readPlain", "(I)Z"⟩
abbrev cX4_readSum : ByteArray := prog_6_method_6_code
def yX4_readSum : MethodName := ⟨RX4, "readSum", "(I)Z"⟩
abbrev cX4_readPart : ByteArray := prog_6_method_7_code
def yX4_readPart : MethodName := ⟨RX4, "readPart", "(I)Z"⟩
abbrev cX4_isNext : ByteArray := prog_6_method_8_code
def yX4_isNext : MethodName := ⟨RX4, "isNext", "(I)Z"⟩
abbrev cX4_passed : ByteArray := prog_6_method_9_code
def yX4_passed : MethodName := ⟨RX4, "passed", "(I)Z"⟩
abbrev cX4_jumpHere : ByteArray := prog_6_method_10_code
def yX4_jumpHere : MethodName := ⟨RX4, "jumpHere", "(I)V"⟩
abbrev cX4_emit : ByteArray := prog_6_method_11_code
def yX4_emit : MethodName := ⟨RX4, "emit", "(II)I"⟩
def RX5 : String := "LateGlass$Look"
def TX5 : u_T := fun k => match k with
  | 0 => ("LateGlass$Look", "house", "LLateGlass$House;", true)
  | 1 => ("LateGlass$Look", "judge", "LLateGlass$Judge;", true)
  | 2 => ("LateGlass$Look", "points", "[I", true)
  | 3 => ("LateGlass$Look", "length", "I", false)
  | 4 => ("LateGlass$Look", "seen", "I", false)
  | 5 => ("LateGlass$Look", "lastHour", "I", false)
  | 6 => ("LateGlass$Look", "bright", "I", false)
  | 7 => ("LateGlass$Look", "went", "I", false)
  | 8 => ("LateGlass$Look", "met", "I", false)
  | 9 => ("LateGlass$Look", "cell", "I", false)
  | 10 => ("LateGlass$Look", "way", "I", false)
  | 11 => ("LateGlass$Look", "hour", "I", false)
  | _ => ("LateGlass$Look", "isOver", "Z", false)
def tyX5 : Nat → FieldType := fun k => match k with
  | 0 => .object "LateGlass$House"
  | 1 => .object "LateGlass$Judge"
  | 2 => .array .int
  | 3 => .int
  | 4 => .int
  | 5 => .int
  | 6 => .int
  | 7 => .int
  | 8 => .int
  | 9 => .int
  | 10 => .int
  | 11 => .int
  | _ => .boolean
abbrev wsX50 : List Cond := u_ws RX5 TX5 13
theorem nmX5 : ∀ a, a < 13 → ∀ b, b < 13 → a ≠ b → (TX5 a).2.1 ≠ (TX5 b).2.1 := by decide +kernel
theorem tyX5_ok : ∀ k, k < 13 → parseFieldDescriptor (TX5 k).2.2.1 = some (tyX5 k) := by decide +kernel
abbrev cX5_init : ByteArray := prog_7_method_1_code
def yX5_init : MethodName := ⟨RX5, "<init>", "(LLateGlass$House;)V"⟩
abbrev cX5_run : ByteArray := prog_7_method_2_code
def yX5_run : MethodName := ⟨RX5, "run", "(IIII)V"⟩
abbrev cX5_bodiesFrom : ByteArray := prog_7_method_3_code
def yX5_bodiesFrom : MethodName := ⟨RX5, "bodiesFrom", "(II)I"⟩
abbrev cX5_findsBody : ByteArray := prog_7_method_4_code
def yX5_findsBody : MethodName := ⟨RX5, "findsBody", "(III)Z"⟩
abbrev cX5_cellsFrom : ByteArray := prog_7_method_5_code
def yX5_cellsFrom : MethodName := ⟨RX5, "cellsFrom", "(II)J"⟩
abbrev cX5_lateness : ByteArray := prog_7_method_6_code
def yX5_lateness : MethodName := ⟨RX5, "lateness", "(III)I"⟩
abbrev cX5_hasPoint : ByteArray := prog_7_method_7_code
def yX5_hasPoint : MethodName := ⟨RX5, "hasPoint", "(I)Z"⟩
abbrev cX5_hungBoard : ByteArray := prog_7_method_8_code
def yX5_hungBoard : MethodName := ⟨RX5, "hungBoard", "(I)J"⟩
abbrev cX5_ask : ByteArray := prog_7_method_9_code
def yX5_ask : MethodName := ⟨RX5, "ask", "(II)V"⟩
abbrev cX5_meetBodies : ByteArray := prog_7_method_10_code
def yX5_meetBodies : MethodName := ⟨RX5, "meetBodies", "()V"⟩
abbrev cX5_meetGlass : ByteArray := prog_7_method_11_code
def yX5_meetGlass : MethodName := ⟨RX5, "meetGlass", "()V"⟩
def RX6 : String := "LateGlass$Table"
def TX6 : u_T := fun k => match k with
  | 0 => ("LateGlass$Table", "most", "I", true)
  | 1 => ("LateGlass$Table", "width", "I", true)
  | 2 => ("LateGlass$Table", "numbers", "[I", true)
  | _ => ("LateGlass$Table", "rows", "I", false)
def tyX6 : Nat → FieldType := fun k => match k with
  | 0 => .int
  | 1 => .int
  | 2 => .array .int
  | _ => .int
abbrev wsX60 : List Cond := u_ws RX6 TX6 4
theorem nmX6 : ∀ a, a < 4 → ∀ b, b < 4 → a ≠ b → (TX6 a).2.1 ≠ (TX6 b).2.1 := by decide +kernel
theorem tyX6_ok : ∀ k, k < 4 → parseFieldDescriptor (TX6 k).2.2.1 = some (tyX6 k) := by decide +kernel
abbrev cX6_init : ByteArray := prog_8_method_1_code
def yX6_init : MethodName := ⟨RX6, "<init>", "(II)V"⟩
abbrev cX6_has : ByteArray := prog_8_method_2_code
def yX6_has : MethodName := ⟨RX6, "has", "(I)Z"⟩
abbrev cX6_isFull : ByteArray := prog_8_method_3_code
def yX6_isFull : MethodName := ⟨RX6, "isFull", "()Z"⟩
abbrev cX6_get : ByteArray := prog_8_method_4_code
def yX6_get : MethodName := ⟨RX6, "get", "(II)I"⟩
abbrev cX6_set : ByteArray := prog_8_method_5_code
def yX6_set : MethodName := ⟨RX6, "set", "(III)V"⟩
abbrev cX6_setLook : ByteArray := prog_8_method_6_code
def yX6_setLook : MethodName := ⟨RX6, "setLook", "(IIII)V"⟩
abbrev cX6_open : ByteArray := prog_8_method_7_code
def yX6_open : MethodName := ⟨RX6, "open", "(I)I"⟩
abbrev cX6_remove : ByteArray := prog_8_method_8_code
def yX6_remove : MethodName := ⟨RX6, "remove", "(I)V"⟩
abbrev cX6_find : ByteArray := prog_8_method_9_code
def yX6_find : MethodName := ⟨RX6, "find", "(II)I"⟩
abbrev cX6_copyFrom : ByteArray := prog_8_method_10_code
def yX6_copyFrom : MethodName := ⟨RX6, "copyFrom", "(LLateGlass$Table;)V"⟩
def RX7 : String := "LateGlass$Thief"
def TX7 : u_T := fun k => match k with
  | 0 => ("LateGlass$Thief", "house", "LLateGlass$House;", true)
  | 1 => ("LateGlass$Thief", "eye", "LLateGlass$Look;", true)
  | 2 => ("LateGlass$Thief", "barred", "[J", true)
  | 3 => ("LateGlass$Thief", "adds", "[I", true)
  | 4 => ("LateGlass$Thief", "full", "I", false)
  | 5 => ("LateGlass$Thief", "counts", "[J", false)
  | 6 => ("LateGlass$Thief", "nextCounts", "[J", false)
  | 7 => ("LateGlass$Thief", "hopes", "[I", true)
  | 8 => ("LateGlass$Thief", "held", "[I", true)
  | _ => ("LateGlass$Thief", "leaving", "[I", true)
def tyX7 : Nat → FieldType := fun k => match k with
  | 0 => .object "LateGlass$House"
  | 1 => .object "LateGlass$Look"
  | 2 => .array .long
  | 3 => .array .int
  | 4 => .int
  | 5 => .array .long
  | 6 => .array .long
  | 7 => .array .int
  | 8 => .array .int
  | _ => .array .int
abbrev wsX70 : List Cond := u_ws RX7 TX7 10
theorem nmX7 : ∀ a, a < 10 → ∀ b, b < 10 → a ≠ b → (TX7 a).2.1 ≠ (TX7 b).2.1 := by decide +kernel
theorem tyX7_ok : ∀ k, k < 10 → parseFieldDescriptor (TX7 k).2.2.1 = some (tyX7 k) := by decide +kernel
abbrev cX7_init : ByteArray := prog_9_method_1_code
def yX7_init : MethodName := ⟨RX7, "<init>", "(LLateGlass$House;LLateGlass$Look;)V"⟩
abbrev cX7_allSightings : ByteArray := prog_9_method_2_code
def yX7_allSightings : MethodName := ⟨RX7, "allSightings", "()I"⟩
abbrev cX7_load : ByteArray := prog_9_method_3_code
def yX7_load : MethodName := ⟨RX7, "load", "(I)V"⟩
abbrev cX7_barPoints : ByteArray := prog_9_method_4_code
def yX7_barPoints : MethodName := ⟨RX7, "barPoints", "()V"⟩
abbrev cX7_addPoints : ByteArray := prog_9_method_5_code
def yX7_addPoints : MethodName := ⟨RX7, "addPoints", "(I)V"⟩
abbrev cX7_countRows : ByteArray := prog_9_method_6_code
def yX7_countRows : MethodName := ⟨RX7, "countRows", "()J"⟩
abbrev cX7_stepTo : ByteArray := prog_9_method_7_code
def yX7_stepTo : MethodName := ⟨RX7, "stepTo", "(I)V"⟩
abbrev cX7_anyFits : ByteArray := prog_9_method_8_code
def yX7_anyFits : MethodName := ⟨RX7, "anyFits", "()Z"⟩
abbrev cX7_hopesBehind : ByteArray := prog_9_method_9_code
def yX7_hopesBehind : MethodName := ⟨RX7, "hopesBehind", "(II)I"⟩
abbrev cX7_masksBefore : ByteArray := prog_9_method_10_code
def yX7_masksBefore : MethodName := ⟨RX7, "masksBefore", "(II)I"⟩
abbrev cX7_masksAfter : ByteArray := prog_9_method_11_code
def yX7_masksAfter : MethodName := ⟨RX7, "masksAfter", "(II)I"⟩
abbrev cX7_cellsIn : ByteArray := prog_9_method_12_code
def yX7_cellsIn : MethodName := ⟨RX7, "cellsIn", "(I)J"⟩
abbrev cX7_holdIn : ByteArray := prog_9_method_13_code
def yX7_holdIn : MethodName := ⟨RX7, "holdIn", "(I)V"⟩
abbrev cX7_firstRowAt : ByteArray := prog_9_method_14_code
def yX7_firstRowAt : MethodName := ⟨RX7, "firstRowAt", "(I)I"⟩
abbrev cX7_lowestNext : ByteArray := prog_9_method_15_code
def yX7_lowestNext : MethodName := ⟨RX7, "lowestNext", "(III)I"⟩
abbrev cX7_findCore : ByteArray := prog_9_method_16_code
def yX7_findCore : MethodName := ⟨RX7, "findCore", "()I"⟩
def RX8 : String := "LateGlass$Tokens"
def TX8 : u_T := fun k => match k with
  | 0 => ("LateGlass$Tokens", "kinds", "[I", true)
  | 1 => ("LateGlass$Tokens", "numbers", "[I", true)
  | _ => ("LateGlass$Tokens", "places", "[I", true)
def tyX8 : Nat → FieldType := fun k => match k with
  | 0 => .array .int
  | 1 => .array .int
  | _ => .array .int
abbrev wsX80 : List Cond := u_ws RX8 TX8 3
theorem nmX8 : ∀ a, a < 3 → ∀ b, b < 3 → a ≠ b → (TX8 a).2.1 ≠ (TX8 b).2.1 := by decide +kernel
theorem tyX8_ok : ∀ k, k < 3 → parseFieldDescriptor (TX8 k).2.2.1 = some (tyX8 k) := by decide +kernel
abbrev cX8_init : ByteArray := prog_10_method_1_code
def yX8_init : MethodName := ⟨RX8, "<init>", "()V"⟩
abbrev cX8_cut : ByteArray := prog_10_method_2_code
def yX8_cut : MethodName := ⟨RX8, "cut", "([II)V"⟩
abbrev cX8_kindAt : ByteArray := prog_10_method_3_code
def yX8_kindAt : MethodName := ⟨RX8, "kindAt", "(I)I"⟩
abbrev cX8_isLetter : ByteArray := prog_10_method_4_code
def yX8_isLetter : MethodName := ⟨RX8, "isLetter", "(I)Z"⟩
abbrev cX8_isDigit : ByteArray := prog_10_method_5_code
def yX8_isDigit : MethodName := ⟨RX8, "isDigit", "(I)Z"⟩
abbrev cX8_endOf : ByteArray := prog_10_method_6_code
def yX8_endOf : MethodName := ⟨RX8, "endOf", "([III)I"⟩
abbrev cX8_kindOf : ByteArray := prog_10_method_7_code
def yX8_kindOf : MethodName := ⟨RX8, "kindOf", "([III)I"⟩
abbrev cX8_numberIn : ByteArray := prog_10_method_8_code
def yX8_numberIn : MethodName := ⟨RX8, "numberIn", "([III)I"⟩
abbrev cX8_wordIn : ByteArray := prog_10_method_9_code
def yX8_wordIn : MethodName := ⟨RX8, "wordIn", "([III)I"⟩
def RX9 : String := "LateGlass$Walker"
def TX9 : u_T := fun k => match k with
  | 0 => ("LateGlass$Walker", "house", "LLateGlass$House;", true)
  | 1 => ("LateGlass$Walker", "eye", "LLateGlass$Look;", true)
  | 2 => ("LateGlass$Walker", "goals", "[J", true)
  | _ => ("LateGlass$Walker", "met", "[I", true)
def tyX9 : Nat → FieldType := fun k => match k with
  | 0 => .object "LateGlass$House"
  | 1 => .object "LateGlass$Look"
  | 2 => .array .long
  | _ => .array .int
abbrev wsX90 : List Cond := u_ws RX9 TX9 4
theorem nmX9 : ∀ a, a < 4 → ∀ b, b < 4 → a ≠ b → (TX9 a).2.1 ≠ (TX9 b).2.1 := by decide +kernel
theorem tyX9_ok : ∀ k, k < 4 → parseFieldDescriptor (TX9 k).2.2.1 = some (tyX9 k) := by decide +kernel
abbrev cX9_init : ByteArray := prog_11_method_1_code
def yX9_init : MethodName := ⟨RX9, "<init>", "(LLateGlass$House;LLateGlass$Look;)V"⟩
abbrev cX9_firstSight : ByteArray := prog_11_method_2_code
def yX9_firstSight : MethodName := ⟨RX9, "firstSight", "(IIII)I"⟩
abbrev cX9_sightBy : ByteArray := prog_11_method_3_code
def yX9_sightBy : MethodName := ⟨RX9, "sightBy", "(IIIII)I"⟩
abbrev cX9_isEverIn : ByteArray := prog_11_method_4_code
def yX9_isEverIn : MethodName := ⟨RX9, "isEverIn", "(II)Z"⟩
abbrev cX9_firstRowAt : ByteArray := prog_11_method_5_code
def yX9_firstRowAt : MethodName := ⟨RX9, "firstRowAt", "(IIII)I"⟩
abbrev cX9_lowestNext : ByteArray := prog_11_method_6_code
def yX9_lowestNext : MethodName := ⟨RX9, "lowestNext", "(IJ)I"⟩
abbrev cX9_spread : ByteArray := prog_11_method_7_code
def yX9_spread : MethodName := ⟨RX9, "spread", "(J)J"⟩
def RX10 : String := "LateGlass$Watch"
def TX10 : u_T := fun k => match k with
  | 0 => ("LateGlass$Watch", "house", "LLateGlass$House;", true)
  | 1 => ("LateGlass$Watch", "eye", "LLateGlass$Look;", true)
  | _ => ("LateGlass$Watch", "boards", "[J", true)
def tyX10 : Nat → FieldType := fun k => match k with
  | 0 => .object "LateGlass$House"
  | 1 => .object "LateGlass$Look"
  | _ => .array .long
abbrev wsX100 : List Cond := u_ws RX10 TX10 3
theorem nmX10 : ∀ a, a < 3 → ∀ b, b < 3 → a ≠ b → (TX10 a).2.1 ≠ (TX10 b).2.1 := by decide +kernel
theorem tyX10_ok : ∀ k, k < 3 → parseFieldDescriptor (TX10 k).2.2.1 = some (tyX10 k) := by decide +kernel
abbrev cX10_init : ByteArray := prog_12_method_1_code
def yX10_init : MethodName := ⟨RX10, "<init>", "(LLateGlass$House;LLateGlass$Look;)V"⟩
abbrev cX10_lookAround : ByteArray := prog_12_method_2_code
def yX10_lookAround : MethodName := ⟨RX10, "lookAround", "()V"⟩
abbrev cX10_addPoints : ByteArray := prog_12_method_3_code
def yX10_addPoints : MethodName := ⟨RX10, "addPoints", "()V"⟩
def RX11 : String := "LateGlass"
def TX11 : u_T := fun k => match k with
  | 0 => ("LateGlass", "house", "LLateGlass$House;", true)
  | 1 => ("LateGlass", "images", "[LLateGlass$House;", true)
  | 2 => ("LateGlass", "kept", "[Z", true)
  | 3 => ("LateGlass", "eye", "LLateGlass$Look;", true)
  | 4 => ("LateGlass", "watch", "LLateGlass$Watch;", true)
  | 5 => ("LateGlass", "thief", "LLateGlass$Thief;", true)
  | 6 => ("LateGlass", "hanger", "LLateGlass$Hanger;", true)
  | 7 => ("LateGlass", "walker", "LLateGlass$Walker;", true)
  | 8 => ("LateGlass", "reader", "LLateGlass$LawReader;", true)
  | 9 => ("LateGlass", "tape", "[I", true)
  | 10 => ("LateGlass", "tapeLength", "I", false)
  | 11 => ("LateGlass", "fadedStays", "I", false)
  | 12 => ("LateGlass", "faultPlace", "I", false)
  | 13 => ("LateGlass", "wandering", "[I", true)
  | 14 => ("LateGlass", "wandered", "Z", false)
  | 15 => ("LateGlass", "refusals", "[I", true)
  | _ => ("LateGlass", "latestRefusal", "I", false)
def tyX11 : Nat → FieldType := fun k => match k with
  | 0 => .object "LateGlass$House"
  | 1 => .array (.object "LateGlass$House")
  | 2 => .array .boolean
  | 3 => .object "LateGlass$Look"
  | 4 => .object "LateGlass$Watch"
  | 5 => .object "LateGlass$Thief"
  | 6 => .object "LateGlass$Hanger"
  | 7 => .object "LateGlass$Walker"
  | 8 => .object "LateGlass$LawReader"
  | 9 => .array .int
  | 10 => .int
  | 11 => .int
  | 12 => .int
  | 13 => .array .int
  | 14 => .boolean
  | 15 => .array .int
  | _ => .int
abbrev wsX110 : List Cond := u_ws RX11 TX11 17
theorem nmX11 : ∀ a, a < 17 → ∀ b, b < 17 → a ≠ b → (TX11 a).2.1 ≠ (TX11 b).2.1 := by decide +kernel
theorem tyX11_ok : ∀ k, k < 17 → parseFieldDescriptor (TX11 k).2.2.1 = some (tyX11 k) := by decide +kernel
abbrev cX11_init : ByteArray := prog_1_method_1_code
def yX11_init : MethodName := ⟨RX11, "<init>", "()V"⟩
abbrev cX11_wall : ByteArray := prog_1_method_2_code
def yX11_wall : MethodName := ⟨RX11, "wall", "(II)I"⟩
abbrev cX11_glass : ByteArray := prog_1_method_3_code
def yX11_glass : MethodName := ⟨RX11, "glass", "(IIII)I"⟩
abbrev cX11_turn : ByteArray := prog_1_method_4_code
def yX11_turn : MethodName := ⟨RX11, "turn", "(III)I"⟩
abbrev cX11_of : ByteArray := prog_1_method_5_code
def yX11_of : MethodName := ⟨RX11, "of", "(II)I"⟩
abbrev cX11_body : ByteArray := prog_1_method_6_code
def yX11_body : MethodName := ⟨RX11, "body", "()I"⟩
abbrev cX11_stay : ByteArray := prog_1_method_7_code
def yX11_stay : MethodName := ⟨RX11, "stay", "(IIII)I"⟩
abbrev cX11_where : ByteArray := prog_1_method_8_code
def yX11_where : MethodName := ⟨RX11, "where", "(II)I"⟩
abbrev cX11_least : ByteArray := prog_1_method_9_code
def yX11_least : MethodName := ⟨RX11, "least", "(I)I"⟩
abbrev cX11_feed : ByteArray := prog_1_method_10_code
def yX11_feed : MethodName := ⟨RX11, "feed", "(IIIII)I"⟩
abbrev cX11_end : ByteArray := prog_1_method_11_code
def yX11_end : MethodName := ⟨RX11, "end", "(I)I"⟩
abbrev cX11_row : ByteArray := prog_1_method_12_code
def yX11_row : MethodName := ⟨RX11, "row", "()I"⟩
abbrev cX11_faded : ByteArray := prog_1_method_13_code
def yX11_faded : MethodName := ⟨RX11, "faded", "()I"⟩
abbrev cX11_law : ByteArray := prog_1_method_14_code
def yX11_law : MethodName := ⟨RX11, "law", "()I"⟩
abbrev cX11_fault : ByteArray := prog_1_method_15_code
def yX11_fault : MethodName := ⟨RX11, "fault", "()I"⟩
abbrev cX11_force : ByteArray := prog_1_method_16_code
def yX11_force : MethodName := ⟨RX11, "force", "(I)I"⟩
abbrev cX11_look : ByteArray := prog_1_method_17_code
def yX11_look : MethodName := ⟨RX11, "look", "(IIII)I"⟩
abbrev cX11_point : ByteArray := prog_1_method_18_code
def yX11_point : MethodName := ⟨RX11, "point", "(IIII)I"⟩
abbrev cX11_sees : ByteArray := prog_1_method_19_code
def yX11_sees : MethodName := ⟨RX11, "sees", "(II)I"⟩
abbrev cX11_late : ByteArray := prog_1_method_20_code
def yX11_late : MethodName := ⟨RX11, "late", "(III)I"⟩
abbrev cX11_first : ByteArray := prog_1_method_21_code
def yX11_first : MethodName := ⟨RX11, "first", "(II)I"⟩
abbrev cX11_lit : ByteArray := prog_1_method_22_code
def yX11_lit : MethodName := ⟨RX11, "lit", "(III)I"⟩
abbrev cX11_unseen : ByteArray := prog_1_method_23_code
def yX11_unseen : MethodName := ⟨RX11, "unseen", "(I)I"⟩
abbrev cX11_sighting : ByteArray := prog_1_method_24_code
def yX11_sighting : MethodName := ⟨RX11, "sighting", "(IIII)I"⟩
abbrev cX11_drop : ByteArray := prog_1_method_25_code
def yX11_drop : MethodName := ⟨RX11, "drop", "(I)I"⟩
abbrev cX11_start : ByteArray := prog_1_method_26_code
def yX11_start : MethodName := ⟨RX11, "start", "(I)I"⟩
abbrev cX11_fits : ByteArray := prog_1_method_27_code
def yX11_fits : MethodName := ⟨RX11, "fits", "()J"⟩
abbrev cX11_could : ByteArray := prog_1_method_28_code
def yX11_could : MethodName := ⟨RX11, "could", "(II)J"⟩
abbrev cX11_path : ByteArray := prog_1_method_29_code
def yX11_path : MethodName := ⟨RX11, "path", "(I)I"⟩
abbrev cX11_core : ByteArray := prog_1_method_30_code
def yX11_core : MethodName := ⟨RX11, "core", "()I"⟩
abbrev cX11_tells : ByteArray := prog_1_method_31_code
def yX11_tells : MethodName := ⟨RX11, "tells", "(III)J"⟩
abbrev cX11_surely : ByteArray := prog_1_method_32_code
def yX11_surely : MethodName := ⟨RX11, "surely", "(I)I"⟩
abbrev cX11_spot : ByteArray := prog_1_method_33_code
def yX11_spot : MethodName := ⟨RX11, "spot", "(III)I"⟩
abbrev cX11_wish : ByteArray := prog_1_method_34_code
def yX11_wish : MethodName := ⟨RX11, "wish", "(IIIIII)I"⟩
abbrev cX11_lacks : ByteArray := prog_1_method_35_code
def yX11_lacks : MethodName := ⟨RX11, "lacks", "(I)I"⟩
abbrev cX11_hang : ByteArray := prog_1_method_36_code
def yX11_hang : MethodName := ⟨RX11, "hang", "(I)I"⟩
abbrev cX11_soonest : ByteArray := prog_1_method_37_code
def yX11_soonest : MethodName := ⟨RX11, "soonest", "(III)I"⟩
abbrev cX11_way : ByteArray := prog_1_method_38_code
def yX11_way : MethodName := ⟨RX11, "way", "(IIII)I"⟩
abbrev cX11_sooner : ByteArray := prog_1_method_39_code
def yX11_sooner : MethodName := ⟨RX11, "sooner", "(IIII)I"⟩
abbrev cX11_wander : ByteArray := prog_1_method_40_code
def yX11_wander : MethodName := ⟨RX11, "wander", "(II)I"⟩
abbrev cX11_drawn : ByteArray := prog_1_method_41_code
def yX11_drawn : MethodName := ⟨RX11, "drawn", "(I)I"⟩
abbrev cX11_image : ByteArray := prog_1_method_42_code
def yX11_image : MethodName := ⟨RX11, "image", "(I)I"⟩
abbrev cX11_back : ByteArray := prog_1_method_43_code
def yX11_back : MethodName := ⟨RX11, "back", "(I)I"⟩
abbrev cX11_count : ByteArray := prog_1_method_44_code
def yX11_count : MethodName := ⟨RX11, "count", "(I)I"⟩
abbrev cX11_status : ByteArray := prog_1_method_45_code
def yX11_status : MethodName := ⟨RX11, "status", "()I"⟩
abbrev cX11_done : ByteArray := prog_1_method_46_code
def yX11_done : MethodName := ⟨RX11, "done", "(I)I"⟩
abbrev cX11_refuse : ByteArray := prog_1_method_47_code
def yX11_refuse : MethodName := ⟨RX11, "refuse", "(I)I"⟩
abbrev cX11_write : ByteArray := prog_1_method_48_code
def yX11_write : MethodName := ⟨RX11, "write", "(I)V"⟩
abbrev cX11_readStay : ByteArray := prog_1_method_49_code
def yX11_readStay : MethodName := ⟨RX11, "readStay", "(I)Z"⟩
abbrev cX11_canWalk : ByteArray := prog_1_method_50_code
def yX11_canWalk : MethodName := ⟨RX11, "canWalk", "(III)Z"⟩
abbrev cX11_isCell : ByteArray := prog_1_method_51_code
def yX11_isCell : MethodName := ⟨RX11, "isCell", "(I)Z"⟩
abbrev cX11_isCellOrNone : ByteArray := prog_1_method_52_code
def yX11_isCellOrNone : MethodName := ⟨RX11, "isCellOrNone", "(I)Z"⟩
abbrev cX11_isHour : ByteArray := prog_1_method_53_code
def yX11_isHour : MethodName := ⟨RX11, "isHour", "(I)Z"⟩
abbrev cX11_isSort : ByteArray := prog_1_method_54_code
def yX11_isSort : MethodName := ⟨RX11, "isSort", "(I)Z"⟩
abbrev cX11_isDust : ByteArray := prog_1_method_55_code
def yX11_isDust : MethodName := ⟨RX11, "isDust", "(I)Z"⟩
abbrev cX11_isFlag : ByteArray := prog_1_method_56_code
def yX11_isFlag : MethodName := ⟨RX11, "isFlag", "(I)Z"⟩
abbrev cX11_isImage : ByteArray := prog_1_method_57_code
def yX11_isImage : MethodName := ⟨RX11, "isImage", "(I)Z"⟩
abbrev cX11_isLook : ByteArray := prog_1_method_58_code
def yX11_isLook : MethodName := ⟨RX11, "isLook", "(III)Z"⟩
abbrev cX11_isStay : ByteArray := prog_1_method_59_code
def yX11_isStay : MethodName := ⟨RX11, "isStay", "(III)Z"⟩
abbrev cX11_isTurn : ByteArray := prog_1_method_60_code
def yX11_isTurn : MethodName := ⟨RX11, "isTurn", "(II)Z"⟩
abbrev cX11_isOn : ByteArray := prog_1_method_61_code
def yX11_isOn : MethodName := ⟨RX11, "isOn", "(JI)Z"⟩
abbrev cX11_beside : ByteArray := prog_1_method_62_code
def yX11_beside : MethodName := ⟨RX11, "beside", "(II)I"⟩
def RX12 : String := "LateGlassModel"
def TX12 : u_T := fun k => match k with
  | 0 => ("LateGlassModel", "thrown", "I", false)
  | 1 => ("LateGlassModel", "status", "I", false)
  | 2 => ("LateGlassModel", "refusals", "[I", true)
  | 3 => ("LateGlassModel", "row", "[I", true)
  | 4 => ("LateGlassModel", "images", "[I", true)
  | 5 => ("LateGlassModel", "isKept", "[Z", true)
  | 6 => ("LateGlassModel", "faded", "I", false)
  | 7 => ("LateGlassModel", "tape", "[I", true)
  | 8 => ("LateGlassModel", "taped", "I", false)
  | 9 => ("LateGlassModel", "from", "I", false)
  | 10 => ("LateGlassModel", "to", "I", false)
  | 11 => ("LateGlassModel", "sort", "I", false)
  | 12 => ("LateGlassModel", "worth", "J", false)
  | 13 => ("LateGlassModel", "fault", "I", false)
  | 14 => ("LateGlassModel", "bad", "Z", false)
  | 15 => ("LateGlassModel", "nClauses", "I", false)
  | 16 => ("LateGlassModel", "nClause", "[I", true)
  | 17 => ("LateGlassModel", "nCode", "I", false)
  | 18 => ("LateGlassModel", "nOp", "[I", true)
  | 19 => ("LateGlassModel", "nArg", "[I", true)
  | 20 => ("LateGlassModel", "nLeaves", "I", false)
  | 21 => ("LateGlassModel", "pile", "[I", true)
  | 22 => ("LateGlassModel", "pileAt", "[I", true)
  | 23 => ("LateGlassModel", "piled", "I", false)
  | 24 => ("LateGlassModel", "opened", "I", false)
  | 25 => ("LateGlassModel", "words", "[J", true)
  | 26 => ("LateGlassModel", "headWords", "[J", true)
  | 27 => ("LateGlassModel", "law", "I", false)
  | 28 => ("LateGlassModel", "set", "[J", true)
  | 29 => ("LateGlassModel", "rest", "[J", true)
  | 30 => ("LateGlassModel", "broken", "Z", false)
  | 31 => ("LateGlassModel", "value", "J", false)
  | 32 => ("LateGlassModel", "sum", "J", false)
  | 33 => ("LateGlassModel", "cell", "I", false)
  | 34 => ("LateGlassModel", "hour", "I", false)
  | 35 => ("LateGlassModel", "way", "I", false)
  | 36 => ("LateGlassModel", "bright", "I", false)
  | 37 => ("LateGlassModel", "points", "I", false)
  | 38 => ("LateGlassModel", "point", "[I", true)
  | 39 => ("LateGlassModel", "through", "I", false)
  | 40 => ("LateGlassModel", "seen", "I", false)
  | 41 => ("LateGlassModel", "isPoint", "[Z", true)
  | 42 => ("LateGlassModel", "isCounted", "Z", false)
  | 43 => ("LateGlassModel", "ahead", "[J", true)
  | 44 => ("LateGlassModel", "behind", "[J", true)
  | 45 => ("LateGlassModel", "meets", "[I", true)
  | 46 => ("LateGlassModel", "wanted", "I", false)
  | 47 => ("LateGlassModel", "there", "[Z", true)
  | 48 => ("LateGlassModel", "leads", "[Z", true)
  | 49 => ("LateGlassModel", "state", "J", false)
  | 50 => ("LateGlassModel", "wandered", "[I", true)
  | _ => ("LateGlassModel", "isDrawn", "Z", false)
def tyX12 : Nat → FieldType := fun k => match k with
  | 0 => .int
  | 1 => .int
  | 2 => .array .int
  | 3 => .array .int
  | 4 => .array .int
  | 5 => .array .boolean
  | 6 => .int
  | 7 => .array .int
  | 8 => .int
  | 9 => .int
  | 10 => .int
  | 11 => .int
  | 12 => .long
  | 13 => .int
  | 14 => .boolean
  | 15 => .int
  | 16 => .array .int
  | 17 => .int
  | 18 => .array .int
  | 19 => .array .int
  | 20 => .int
  | 21 => .array .int
  | 22 => .array .int
  | 23 => .int
  | 24 => .int
  | 25 => .array .long
  | 26 => .array .long
  | 27 => .int
  | 28 => .array .long
  | 29 => .array .long
  | 30 => .boolean
  | 31 => .long
  | 32 => .long
  | 33 => .int
  | 34 => .int
  | 35 => .int
  | 36 => .int
  | 37 => .int
  | 38 => .array .int
  | 39 => .int
  | 40 => .int
  | 41 => .array .boolean
  | 42 => .boolean
  | 43 => .array .long
  | 44 => .array .long
  | 45 => .array .int
  | 46 => .int
  | 47 => .array .boolean
  | 48 => .array .boolean
  | 49 => .long
  | 50 => .array .int
  | _ => .boolean
abbrev wsX120 : List Cond := u_ws RX12 TX12 52
theorem nmX12 : ∀ a, a < 52 → ∀ b, b < 52 → a ≠ b → (TX12 a).2.1 ≠ (TX12 b).2.1 := by decide +kernel
theorem tyX12_ok : ∀ k, k < 52 → parseFieldDescriptor (TX12 k).2.2.1 = some (tyX12 k) := by decide +kernel
abbrev cX12_init : ByteArray := prog_14_method_1_code
def yX12_init : MethodName := ⟨RX12, "<init>", "()V"⟩
abbrev cX12_in : ByteArray := prog_14_method_3_code
def yX12_in : MethodName := ⟨RX12, "in", "(JJJ)Z"⟩
abbrev cX12_is : ByteArray := prog_14_method_4_code
def yX12_is : MethodName := ⟨RX12, "is", "(II)Z"⟩
abbrev cX12_tell : ByteArray := prog_14_method_5_code
def yX12_tell : MethodName := ⟨RX12, "tell", "(I)I"⟩
abbrev cX12_was : ByteArray := prog_14_method_6_code
def yX12_was : MethodName := ⟨RX12, "was", "(I)I"⟩
abbrev cX12_change : ByteArray := prog_14_method_7_code
def yX12_change : MethodName := ⟨RX12, "change", "(II)I"⟩
abbrev cX12_image : ByteArray := prog_14_method_8_code
def yX12_image : MethodName := ⟨RX12, "image", "(I)I"⟩
abbrev cX12_back : ByteArray := prog_14_method_9_code
def yX12_back : MethodName := ⟨RX12, "back", "(I)I"⟩
abbrev cX12_isCell : ByteArray := prog_14_method_10_code
def yX12_isCell : MethodName := ⟨RX12, "isCell", "(I)Z"⟩
abbrev cX12_isHour : ByteArray := prog_14_method_11_code
def yX12_isHour : MethodName := ⟨RX12, "isHour", "(I)Z"⟩
abbrev cX12_isWay : ByteArray := prog_14_method_12_code
def yX12_isWay : MethodName := ⟨RX12, "isWay", "(I)Z"⟩
abbrev cX12_isWall : ByteArray := prog_14_method_13_code
def yX12_isWall : MethodName := ⟨RX12, "isWall", "(I)Z"⟩
abbrev cX12_ofGlass : ByteArray := prog_14_method_14_code
def yX12_ofGlass : MethodName := ⟨RX12, "ofGlass", "(II)I"⟩
abbrev cX12_hasGlass : ByteArray := prog_14_method_15_code
def yX12_hasGlass : MethodName := ⟨RX12, "hasGlass", "(I)Z"⟩
abbrev cX12_hasSpot : ByteArray := prog_14_method_16_code
def yX12_hasSpot : MethodName := ⟨RX12, "hasSpot", "(I)Z"⟩
abbrev cX12_hasBody : ByteArray := prog_14_method_17_code
def yX12_hasBody : MethodName := ⟨RX12, "hasBody", "(I)Z"⟩
abbrev cX12_wall : ByteArray := prog_14_method_18_code
def yX12_wall : MethodName := ⟨RX12, "wall", "(II)I"⟩
abbrev cX12_fits : ByteArray := prog_14_method_19_code
def yX12_fits : MethodName := ⟨RX12, "fits", "(II)Z"⟩
abbrev cX12_canHang : ByteArray := prog_14_method_20_code
def yX12_canHang : MethodName := ⟨RX12, "canHang", "(I)Z"⟩
abbrev cX12_glass : ByteArray := prog_14_method_21_code
def yX12_glass : MethodName := ⟨RX12, "glass", "(IIII)I"⟩
abbrev cX12_isGlass : ByteArray := prog_14_method_22_code
def yX12_isGlass : MethodName := ⟨RX12, "isGlass", "(I)Z"⟩
abbrev cX12_turn : ByteArray := prog_14_method_23_code
def yX12_turn : MethodName := ⟨RX12, "turn", "(III)I"⟩
abbrev cX12_of : ByteArray := prog_14_method_24_code
def yX12_of : MethodName := ⟨RX12, "of", "(II)I"⟩
abbrev cX12_body : ByteArray := prog_14_method_25_code
def yX12_body : MethodName := ⟨RX12, "body", "()I"⟩
abbrev cX12_isBody : ByteArray := prog_14_method_26_code
def yX12_isBody : MethodName := ⟨RX12, "isBody", "(I)Z"⟩
abbrev cX12_stays : ByteArray := prog_14_method_27_code
def yX12_stays : MethodName := ⟨RX12, "stays", "(IIII)V"⟩
abbrev cX12_stay : ByteArray := prog_14_method_28_code
def yX12_stay : MethodName := ⟨RX12, "stay", "(IIII)I"⟩
abbrev cX12_whereIs : ByteArray := prog_14_method_29_code
def yX12_whereIs : MethodName := ⟨RX12, "whereIs", "(II)I"⟩
abbrev cX12_where : ByteArray := prog_14_method_30_code
def yX12_where : MethodName := ⟨RX12, "where", "(II)I"⟩
abbrev cX12_least : ByteArray := prog_14_method_31_code
def yX12_least : MethodName := ⟨RX12, "least", "(I)I"⟩
abbrev cX12_row : ByteArray := prog_14_method_32_code
def yX12_row : MethodName := ⟨RX12, "row", "()I"⟩
abbrev cX12_faded : ByteArray := prog_14_method_33_code
def yX12_faded : MethodName := ⟨RX12, "faded", "()I"⟩
abbrev cX12_four : ByteArray := prog_14_method_34_code
def yX12_four : MethodName := ⟨RX12, "four", "(I)V"⟩
abbrev cX12_feed : ByteArray := prog_14_method_35_code
def yX12_feed : MethodName := ⟨RX12, "feed", "(IIIII)I"⟩
abbrev cX12_end : ByteArray := prog_14_method_36_code
def yX12_end : MethodName := ⟨RX12, "end", "(I)I"⟩
abbrev cX12_isSmall : ByteArray := prog_14_method_37_code
def yX12_isSmall : MethodName := ⟨RX12, "isSmall", "(I)Z"⟩
abbrev cX12_isDigit : ByteArray := prog_14_method_38_code
def yX12_isDigit : MethodName := ⟨RX12, "isDigit", "(I)Z"⟩
abbrev cX12_begin : ByteArray := prog_14_method_39_code
def yX12_begin : MethodName := ⟨RX12, "begin", "()V"⟩
abbrev cX12_next : ByteArray := prog_14_method_40_code
def yX12_next : MethodName := ⟨RX12, "next", "()V"⟩
abbrev cX12_isWord : ByteArray := prog_14_method_41_code
def yX12_isWord : MethodName := ⟨RX12, "isWord", "(J)Z"⟩
abbrev cX12_isSign : ByteArray := prog_14_method_42_code
def yX12_isSign : MethodName := ⟨RX12, "isSign", "(I)Z"⟩
abbrev cX12_must : ByteArray := prog_14_method_43_code
def yX12_must : MethodName := ⟨RX12, "must", "(Z)V"⟩
abbrev cX12_fault : ByteArray := prog_14_method_45_code
def yX12_fault : MethodName := ⟨RX12, "fault", "()I"⟩
abbrev cX12_emit : ByteArray := prog_14_method_46_code
def yX12_emit : MethodName := ⟨RX12, "emit", "(II)V"⟩
abbrev cX12_push : ByteArray := prog_14_method_47_code
def yX12_push : MethodName := ⟨RX12, "push", "(II)V"⟩
abbrev cX12_binds : ByteArray := prog_14_method_48_code
def yX12_binds : MethodName := ⟨RX12, "binds", "(I)I"⟩
abbrev cX12_settle : ByteArray := prog_14_method_49_code
def yX12_settle : MethodName := ⟨RX12, "settle", "(I)V"⟩
abbrev cX12_inner : ByteArray := prog_14_method_50_code
def yX12_inner : MethodName := ⟨RX12, "inner", "()I"⟩
abbrev cX12_isCompared : ByteArray := prog_14_method_51_code
def yX12_isCompared : MethodName := ⟨RX12, "isCompared", "()Z"⟩
abbrev cX12_partAt : ByteArray := prog_14_method_52_code
def yX12_partAt : MethodName := ⟨RX12, "partAt", "()I"⟩
abbrev cX12_openBracket : ByteArray := prog_14_method_53_code
def yX12_openBracket : MethodName := ⟨RX12, "openBracket", "(I)V"⟩
abbrev cX12_leaf : ByteArray := prog_14_method_54_code
def yX12_leaf : MethodName := ⟨RX12, "leaf", "(ZII)V"⟩
abbrev cX12_readPart : ByteArray := prog_14_method_55_code
def yX12_readPart : MethodName := ⟨RX12, "readPart", "()I"⟩
abbrev cX12_readPlain : ByteArray := prog_14_method_56_code
def yX12_readPlain : MethodName := ⟨RX12, "readPlain", "()I"⟩
abbrev cX12_behindSum : ByteArray := prog_14_method_57_code
def yX12_behindSum : MethodName := ⟨RX12, "behindSum", "(Z)I"⟩
abbrev cX12_behindTest : ByteArray := prog_14_method_58_code
def yX12_behindTest : MethodName := ⟨RX12, "behindTest", "()I"⟩
abbrev cX12_readExpression : ByteArray := prog_14_method_59_code
def yX12_readExpression : MethodName := ⟨RX12, "readExpression", "(Z)V"⟩
abbrev cX12_readClause : ByteArray := prog_14_method_60_code
def yX12_readClause : MethodName := ⟨RX12, "readClause", "()V"⟩
abbrev cX12_law : ByteArray := prog_14_method_61_code
def yX12_law : MethodName := ⟨RX12, "law", "()I"⟩
abbrev cX12_force : ByteArray := prog_14_method_62_code
def yX12_force : MethodName := ⟨RX12, "force", "(I)I"⟩
abbrev cX12_reckon : ByteArray := prog_14_method_63_code
def yX12_reckon : MethodName := ⟨RX12, "reckon", "(IJJ)J"⟩
abbrev cX12_reckonAll : ByteArray := prog_14_method_64_code
def yX12_reckonAll : MethodName := ⟨RX12, "reckonAll", "(II)V"⟩
abbrev cX12_isSo : ByteArray := prog_14_method_65_code
def yX12_isSo : MethodName := ⟨RX12, "isSo", "(I)Z"⟩
abbrev cX12_asks : ByteArray := prog_14_method_66_code
def yX12_asks : MethodName := ⟨RX12, "asks", "(IIIII)I"⟩
abbrev cX12_beside : ByteArray := prog_14_method_67_code
def yX12_beside : MethodName := ⟨RX12, "beside", "(II)I"⟩
abbrev cX12_go : ByteArray := prog_14_method_68_code
def yX12_go : MethodName := ⟨RX12, "go", "(IIII)V"⟩
abbrev cX12_isFree : ByteArray := prog_14_method_69_code
def yX12_isFree : MethodName := ⟨RX12, "isFree", "()Z"⟩
abbrev cX12_passes : ByteArray := prog_14_method_70_code
def yX12_passes : MethodName := ⟨RX12, "passes", "(I)Z"⟩
abbrev cX12_turns : ByteArray := prog_14_method_71_code
def yX12_turns : MethodName := ⟨RX12, "turns", "(IIIIZ)Z"⟩
abbrev cX12_isLook : ByteArray := prog_14_method_72_code
def yX12_isLook : MethodName := ⟨RX12, "isLook", "(III)Z"⟩
abbrev cX12_look : ByteArray := prog_14_method_73_code
def yX12_look : MethodName := ⟨RX12, "look", "(IIII)I"⟩
abbrev cX12_point : ByteArray := prog_14_method_74_code
def yX12_point : MethodName := ⟨RX12, "point", "(IIII)I"⟩
abbrev cX12_seenFrom : ByteArray := prog_14_method_75_code
def yX12_seenFrom : MethodName := ⟨RX12, "seenFrom", "(II)I"⟩
abbrev cX12_sees : ByteArray := prog_14_method_76_code
def yX12_sees : MethodName := ⟨RX12, "sees", "(II)I"⟩
abbrev cX12_lateness : ByteArray := prog_14_method_77_code
def yX12_lateness : MethodName := ⟨RX12, "lateness", "(III)I"⟩
abbrev cX12_late : ByteArray := prog_14_method_78_code
def yX12_late : MethodName := ⟨RX12, "late", "(III)I"⟩
abbrev cX12_first : ByteArray := prog_14_method_79_code
def yX12_first : MethodName := ⟨RX12, "first", "(II)I"⟩
abbrev cX12_mark : ByteArray := prog_14_method_80_code
def yX12_mark : MethodName := ⟨RX12, "mark", "(II)V"⟩
abbrev cX12_clearPoints : ByteArray := prog_14_method_81_code
def yX12_clearPoints : MethodName := ⟨RX12, "clearPoints", "()V"⟩
abbrev cX12_lit : ByteArray := prog_14_method_82_code
def yX12_lit : MethodName := ⟨RX12, "lit", "(III)I"⟩
abbrev cX12_markAll : ByteArray := prog_14_method_83_code
def yX12_markAll : MethodName := ⟨RX12, "markAll", "()V"⟩
abbrev cX12_unseen : ByteArray := prog_14_method_84_code
def yX12_unseen : MethodName := ⟨RX12, "unseen", "(I)I"⟩
abbrev cX12_sighting : ByteArray := prog_14_method_85_code
def yX12_sighting : MethodName := ⟨RX12, "sighting", "(IIII)I"⟩
abbrev cX12_drop : ByteArray := prog_14_method_86_code
def yX12_drop : MethodName := ⟨RX12, "drop", "(I)I"⟩
abbrev cX12_start : ByteArray := prog_14_method_87_code
def yX12_start : MethodName := ⟨RX12, "start", "(I)I"⟩
abbrev cX12_findMeets : ByteArray := prog_14_method_88_code
def yX12_findMeets : MethodName := ⟨RX12, "findMeets", "(IIII)V"⟩
abbrev cX12_countRows : ByteArray := prog_14_method_89_code
def yX12_countRows : MethodName := ⟨RX12, "countRows", "()V"⟩
abbrev cX12_countFor : ByteArray := prog_14_method_90_code
def yX12_countFor : MethodName := ⟨RX12, "countFor", "(IIII)V"⟩
abbrev cX12_step : ByteArray := prog_14_method_91_code
def yX12_step : MethodName := ⟨RX12, "step", "(III)I"⟩
abbrev cX12_goesOn : ByteArray := prog_14_method_92_code
def yX12_goesOn : MethodName := ⟨RX12, "goesOn", "(II)V"⟩
abbrev cX12_comesFrom : ByteArray := prog_14_method_93_code
def yX12_comesFrom : MethodName := ⟨RX12, "comesFrom", "(II)V"⟩
abbrev cX12_rowsAt : ByteArray := prog_14_method_94_code
def yX12_rowsAt : MethodName := ⟨RX12, "rowsAt", "(II)J"⟩
abbrev cX12_allRows : ByteArray := prog_14_method_95_code
def yX12_allRows : MethodName := ⟨RX12, "allRows", "()J"⟩
abbrev cX12_fits_ : ByteArray := prog_14_method_96_code
def yX12_fits_ : MethodName := ⟨RX12, "fits", "()J"⟩
abbrev cX12_canFit : ByteArray := prog_14_method_97_code
def yX12_canFit : MethodName := ⟨RX12, "canFit", "(I)Z"⟩
abbrev cX12_core : ByteArray := prog_14_method_98_code
def yX12_core : MethodName := ⟨RX12, "core", "()I"⟩
abbrev cX12_tells : ByteArray := prog_14_method_99_code
def yX12_tells : MethodName := ⟨RX12, "tells", "(III)J"⟩
abbrev cX12_surely : ByteArray := prog_14_method_100_code
def yX12_surely : MethodName := ⟨RX12, "surely", "(I)I"⟩
abbrev cX12_could : ByteArray := prog_14_method_101_code
def yX12_could : MethodName := ⟨RX12, "could", "(II)J"⟩
abbrev cX12_path : ByteArray := prog_14_method_102_code
def yX12_path : MethodName := ⟨RX12, "path", "(I)I"⟩
abbrev cX12_isStep : ByteArray := prog_14_method_103_code
def yX12_isStep : MethodName := ⟨RX12, "isStep", "(II)Z"⟩
abbrev cX12_spot : ByteArray := prog_14_method_104_code
def yX12_spot : MethodName := ⟨RX12, "spot", "(III)I"⟩
abbrev cX12_wish : ByteArray := prog_14_method_105_code
def yX12_wish : MethodName := ⟨RX12, "wish", "(IIIIII)I"⟩
abbrev cX12_lacking : ByteArray := prog_14_method_106_code
def yX12_lacking : MethodName := ⟨RX12, "lacking", "(I)I"⟩
abbrev cX12_areSpots : ByteArray := prog_14_method_107_code
def yX12_areSpots : MethodName := ⟨RX12, "areSpots", "(I)Z"⟩
abbrev cX12_lacks : ByteArray := prog_14_method_108_code
def yX12_lacks : MethodName := ⟨RX12, "lacks", "(I)I"⟩
abbrev cX12_bits : ByteArray := prog_14_method_109_code
def yX12_bits : MethodName := ⟨RX12, "bits", "(I)I"⟩
abbrev cX12_hang : ByteArray := prog_14_method_110_code
def yX12_hang : MethodName := ⟨RX12, "hang", "(I)I"⟩
abbrev cX12_findSoonest : ByteArray := prog_14_method_111_code
def yX12_findSoonest : MethodName := ⟨RX12, "findSoonest", "(III)I"⟩
abbrev cX12_soonest : ByteArray := prog_14_method_112_code
def yX12_soonest : MethodName := ⟨RX12, "soonest", "(III)I"⟩
abbrev cX12_way : ByteArray := prog_14_method_113_code
def yX12_way : MethodName := ⟨RX12, "way", "(IIII)I"⟩
abbrev cX12_sooner : ByteArray := prog_14_method_114_code
def yX12_sooner : MethodName := ⟨RX12, "sooner", "(IIII)I"⟩
abbrev cX12_wander : ByteArray := prog_14_method_115_code
def yX12_wander : MethodName := ⟨RX12, "wander", "(II)I"⟩
abbrev cX12_drawn : ByteArray := prog_14_method_116_code
def yX12_drawn : MethodName := ⟨RX12, "drawn", "(I)I"⟩
abbrev cX12_count : ByteArray := prog_14_method_117_code
def yX12_count : MethodName := ⟨RX12, "count", "(I)I"⟩
abbrev cX12_status : ByteArray := prog_14_method_118_code
def yX12_status : MethodName := ⟨RX12, "status", "()I"⟩
def RJx145de : String := "java/io/Serializable"
def TJx145de : u_T := fun k => match k with
  | _ => ("", "", "", false)
def tyJx145de : Nat → FieldType := fun k => match k with
  | _ => .int
abbrev wsJx145de0 : List Cond := u_ws RJx145de TJx145de 0
theorem nmJx145de : ∀ a, a < 0 → ∀ b, b < 0 → a ≠ b → (TJx145de a).2.1 ≠ (TJx145de b).2.1 := by decide +kernel
theorem tyJx145de_ok : ∀ k, k < 0 → parseFieldDescriptor (TJx145de k).2.2.1 = some (tyJx145de k) := by decide +kernel
def RJx9f9b0 : String := "java/lang/CharSequence"
def TJx9f9b0 : u_T := fun k => match k with
  | _ => ("", "", "", false)
def tyJx9f9b0 : Nat → FieldType := fun k => match k with
  | _ => .int
abbrev wsJx9f9b00 : List Cond := u_ws RJx9f9b0 TJx9f9b0 0
theorem nmJx9f9b0 : ∀ a, a < 0 → ∀ b, b < 0 → a ≠ b → (TJx9f9b0 a).2.1 ≠ (TJx9f9b0 b).2.1 := by decide +kernel
theorem tyJx9f9b0_ok : ∀ k, k < 0 → parseFieldDescriptor (TJx9f9b0 k).2.2.1 = some (tyJx9f9b0 k) := by decide +kernel
def RJx8e188 : String := "java/lang/Cloneable"
def TJx8e188 : u_T := fun k => match k with
  | _ => ("", "", "", false)
def tyJx8e188 : Nat → FieldType := fun k => match k with
  | _ => .int
abbrev wsJx8e1880 : List Cond := u_ws RJx8e188 TJx8e188 0
theorem nmJx8e188 : ∀ a, a < 0 → ∀ b, b < 0 → a ≠ b → (TJx8e188 a).2.1 ≠ (TJx8e188 b).2.1 := by decide +kernel
theorem tyJx8e188_ok : ∀ k, k < 0 → parseFieldDescriptor (TJx8e188 k).2.2.1 = some (tyJx8e188 k) := by decide +kernel
def RJxb160c : String := "java/lang/Comparable"
def TJxb160c : u_T := fun k => match k with
  | _ => ("", "", "", false)
def tyJxb160c : Nat → FieldType := fun k => match k with
  | _ => .int
abbrev wsJxb160c0 : List Cond := u_ws RJxb160c TJxb160c 0
theorem nmJxb160c : ∀ a, a < 0 → ∀ b, b < 0 → a ≠ b → (TJxb160c a).2.1 ≠ (TJxb160c b).2.1 := by decide +kernel
theorem tyJxb160c_ok : ∀ k, k < 0 → parseFieldDescriptor (TJxb160c k).2.2.1 = some (tyJxb160c k) := by decide +kernel
def RJ6 : String := "java/lang/Integer"
def TJ6 : u_T := fun k => match k with
  | _ => ("", "", "", false)
def tyJ6 : Nat → FieldType := fun k => match k with
  | _ => .int
abbrev wsJ60 : List Cond := u_ws RJ6 TJ6 0
theorem nmJ6 : ∀ a, a < 0 → ∀ b, b < 0 → a ≠ b → (TJ6 a).2.1 ≠ (TJ6 b).2.1 := by decide +kernel
theorem tyJ6_ok : ∀ k, k < 0 → parseFieldDescriptor (TJ6 k).2.2.1 = some (tyJ6 k) := by decide +kernel
abbrev cJ6_numberOfTrailingZeros_0f7a4 : ByteArray := prog_16_method_48_code
def yJ6_numberOfTrailingZeros_0f7a4 : MethodName := ⟨RJ6, "numberOfTrailingZeros", "(I)I"⟩
abbrev cJ6_bitCount_0f7a4 : ByteArray := prog_16_method_49_code
def yJ6_bitCount_0f7a4 : MethodName := ⟨RJ6, "bitCount", "(I)I"⟩
def RJ13 : String := "java/lang/Long"
def TJ13 : u_T := fun k => match k with
  | _ => ("", "", "", false)
def tyJ13 : Nat → FieldType := fun k => match k with
  | _ => .int
abbrev wsJ130 : List Cond := u_ws RJ13 TJ13 0
theorem nmJ13 : ∀ a, a < 0 → ∀ b, b < 0 → a ≠ b → (TJ13 a).2.1 ≠ (TJ13 b).2.1 := by decide +kernel
theorem tyJ13_ok : ∀ k, k < 0 → parseFieldDescriptor (TJ13 k).2.2.1 = some (tyJ13 k) := by decide +kernel
abbrev cJ13_numberOfTrailingZeros_95d88 : ByteArray := prog_17_method_49_code
def yJ13_numberOfTrailingZeros_95d88 : MethodName := ⟨RJ13, "numberOfTrailingZeros", "(J)I"⟩
abbrev cJ13_bitCount_95d88 : ByteArray := prog_17_method_50_code
def yJ13_bitCount_95d88 : MethodName := ⟨RJ13, "bitCount", "(J)I"⟩
def RJ9 : String := "java/lang/Math"
def TJ9 : u_T := fun k => match k with
  | _ => ("", "", "", false)
def tyJ9 : Nat → FieldType := fun k => match k with
  | _ => .int
abbrev wsJ90 : List Cond := u_ws RJ9 TJ9 0
theorem nmJ9 : ∀ a, a < 0 → ∀ b, b < 0 → a ≠ b → (TJ9 a).2.1 ≠ (TJ9 b).2.1 := by decide +kernel
theorem tyJ9_ok : ∀ k, k < 0 → parseFieldDescriptor (TJ9 k).2.2.1 = some (tyJ9 k) := by decide +kernel
abbrev cJ9_max_7cf53 : ByteArray := prog_18_method_65_code
def yJ9_max_7cf53 : MethodName := ⟨RJ9, "max", "(II)I"⟩
abbrev cJ9_max_f86c9 : ByteArray := prog_18_method_66_code
def yJ9_max_f86c9 : MethodName := ⟨RJ9, "max", "(JJ)J"⟩
abbrev cJ9_min_7cf53 : ByteArray := prog_18_method_69_code
def yJ9_min_7cf53 : MethodName := ⟨RJ9, "min", "(II)I"⟩
abbrev cJ9_min_f86c9 : ByteArray := prog_18_method_70_code
def yJ9_min_f86c9 : MethodName := ⟨RJ9, "min", "(JJ)J"⟩
def RJxd2413 : String := "java/lang/Number"
def TJxd2413 : u_T := fun k => match k with
  | _ => ("", "", "", false)
def tyJxd2413 : Nat → FieldType := fun k => match k with
  | _ => .int
abbrev wsJxd24130 : List Cond := u_ws RJxd2413 TJxd2413 0
theorem nmJxd2413 : ∀ a, a < 0 → ∀ b, b < 0 → a ≠ b → (TJxd2413 a).2.1 ≠ (TJxd2413 b).2.1 := by decide +kernel
theorem tyJxd2413_ok : ∀ k, k < 0 → parseFieldDescriptor (TJxd2413 k).2.2.1 = some (tyJxd2413 k) := by decide +kernel
def RJ0 : String := "java/lang/String"
def TJ0 : u_T := fun k => match k with
  | _ => ("", "", "", false)
def tyJ0 : Nat → FieldType := fun k => match k with
  | _ => .int
abbrev wsJ00 : List Cond := u_ws RJ0 TJ0 0
theorem nmJ0 : ∀ a, a < 0 → ∀ b, b < 0 → a ≠ b → (TJ0 a).2.1 ≠ (TJ0 b).2.1 := by decide +kernel
theorem tyJ0_ok : ∀ k, k < 0 → parseFieldDescriptor (TJ0 k).2.2.1 = some (tyJ0 k) := by decide +kernel
abbrev cJ0_length_8abf5 : ByteArray := prog_20_method_54_code
def yJ0_length_8abf5 : MethodName := ⟨RJ0, "length", "()I"⟩
abbrev cJ0_charAt_5068e : ByteArray := prog_20_method_56_code
def yJ0_charAt_5068e : MethodName := ⟨RJ0, "charAt", "(I)C"⟩
abbrev cJ0_coder_7d493 : ByteArray := prog_20_method_152_code
def yJ0_coder_7d493 : MethodName := ⟨RJ0, "coder", "()B"⟩
abbrev cJ0_isLatin1_aae02 : ByteArray := prog_20_method_154_code
def yJ0_isLatin1_aae02 : MethodName := ⟨RJ0, "isLatin1", "()Z"⟩
abbrev cJ0_checkIndex_df160 : ByteArray := prog_20_method_155_code
def yJ0_checkIndex_df160 : MethodName := ⟨RJ0, "checkIndex", "(II)V"⟩
def RJ1 : String := "java/lang/StringLatin1"
def TJ1 : u_T := fun k => match k with
  | _ => ("", "", "", false)
def tyJ1 : Nat → FieldType := fun k => match k with
  | _ => .int
abbrev wsJ10 : List Cond := u_ws RJ1 TJ1 0
theorem nmJ1 : ∀ a, a < 0 → ∀ b, b < 0 → a ≠ b → (TJ1 a).2.1 ≠ (TJ1 b).2.1 := by decide +kernel
theorem tyJ1_ok : ∀ k, k < 0 → parseFieldDescriptor (TJ1 k).2.2.1 = some (tyJ1 k) := by decide +kernel
abbrev cJ1_charAt_3b067 : ByteArray := prog_21_method_2_code
def yJ1_charAt_3b067 : MethodName := ⟨RJ1, "charAt", "([BI)C"⟩
def RJ2 : String := "java/lang/StringUTF16"
def TJ2 : u_T := fun k => match k with
  | _ => ("", "", "", false)
def tyJ2 : Nat → FieldType := fun k => match k with
  | _ => .int
abbrev wsJ20 : List Cond := u_ws RJ2 TJ2 0
theorem nmJ2 : ∀ a, a < 0 → ∀ b, b < 0 → a ≠ b → (TJ2 a).2.1 ≠ (TJ2 b).2.1 := by decide +kernel
theorem tyJ2_ok : ∀ k, k < 0 → parseFieldDescriptor (TJ2 k).2.2.1 = some (tyJ2 k) := by decide +kernel
abbrev cJ2_getChar_3b067 : ByteArray := prog_22_method_5_code
def yJ2_getChar_3b067 : MethodName := ⟨RJ2, "getChar", "([BI)C"⟩
abbrev cJ2_length_9d52b : ByteArray := prog_22_method_6_code
def yJ2_length_9d52b : MethodName := ⟨RJ2, "length", "([B)I"⟩
abbrev cJ2_charAt_3b067 : ByteArray := prog_22_method_83_code
def yJ2_charAt_3b067 : MethodName := ⟨RJ2, "charAt", "([BI)C"⟩
abbrev cJ2_checkIndex_2214a : ByteArray := prog_22_method_91_code
def yJ2_checkIndex_2214a : MethodName := ⟨RJ2, "checkIndex", "(I[B)V"⟩
def RJ10 : String := "java/lang/System"
def TJ10 : u_T := fun k => match k with
  | _ => ("", "", "", false)
def tyJ10 : Nat → FieldType := fun k => match k with
  | _ => .int
abbrev wsJ100 : List Cond := u_ws RJ10 TJ10 0
theorem nmJ10 : ∀ a, a < 0 → ∀ b, b < 0 → a ≠ b → (TJ10 a).2.1 ≠ (TJ10 b).2.1 := by decide +kernel
theorem tyJ10_ok : ∀ k, k < 0 → parseFieldDescriptor (TJ10 k).2.2.1 = some (tyJ10 k) := by decide +kernel
def RJxfd54e : String := "java/lang/constant/Constable"
def TJxfd54e : u_T := fun k => match k with
  | _ => ("", "", "", false)
def tyJxfd54e : Nat → FieldType := fun k => match k with
  | _ => .int
abbrev wsJxfd54e0 : List Cond := u_ws RJxfd54e TJxfd54e 0
theorem nmJxfd54e : ∀ a, a < 0 → ∀ b, b < 0 → a ≠ b → (TJxfd54e a).2.1 ≠ (TJxfd54e b).2.1 := by decide +kernel
theorem tyJxfd54e_ok : ∀ k, k < 0 → parseFieldDescriptor (TJxfd54e k).2.2.1 = some (tyJxfd54e k) := by decide +kernel
def RJx3cf43 : String := "java/lang/constant/ConstantDesc"
def TJx3cf43 : u_T := fun k => match k with
  | _ => ("", "", "", false)
def tyJx3cf43 : Nat → FieldType := fun k => match k with
  | _ => .int
abbrev wsJx3cf430 : List Cond := u_ws RJx3cf43 TJx3cf43 0
theorem nmJx3cf43 : ∀ a, a < 0 → ∀ b, b < 0 → a ≠ b → (TJx3cf43 a).2.1 ≠ (TJx3cf43 b).2.1 := by decide +kernel
theorem tyJx3cf43_ok : ∀ k, k < 0 → parseFieldDescriptor (TJx3cf43 k).2.2.1 = some (tyJx3cf43 k) := by decide +kernel
def RJ7 : String := "java/util/Arrays"
def TJ7 : u_T := fun k => match k with
  | _ => ("", "", "", false)
def tyJ7 : Nat → FieldType := fun k => match k with
  | _ => .int
abbrev wsJ70 : List Cond := u_ws RJ7 TJ7 0
theorem nmJ7 : ∀ a, a < 0 → ∀ b, b < 0 → a ≠ b → (TJ7 a).2.1 ≠ (TJ7 b).2.1 := by decide +kernel
theorem tyJ7_ok : ∀ k, k < 0 → parseFieldDescriptor (TJ7 k).2.2.1 = some (tyJ7 k) := by decide +kernel
abbrev cJ7_fill_d0a16 : ByteArray := prog_24_method_101_code
def yJ7_fill_d0a16 : MethodName := ⟨RJ7, "fill", "([JJ)V"⟩
abbrev cJ7_fill_53178 : ByteArray := prog_24_method_103_code
def yJ7_fill_53178 : MethodName := ⟨RJ7, "fill", "([II)V"⟩
abbrev cJ7_copyOf_59c91 : ByteArray := prog_24_method_123_code
def yJ7_copyOf_59c91 : MethodName := ⟨RJ7, "copyOf", "([II)[I"⟩
def RJ3 : String := "jdk/internal/util/Preconditions"
def TJ3 : u_T := fun k => match k with
  | _ => ("", "", "", false)
def tyJ3 : Nat → FieldType := fun k => match k with
  | _ => .int
abbrev wsJ30 : List Cond := u_ws RJ3 TJ3 0
theorem nmJ3 : ∀ a, a < 0 → ∀ b, b < 0 → a ≠ b → (TJ3 a).2.1 ≠ (TJ3 b).2.1 := by decide +kernel
theorem tyJ3_ok : ∀ k, k < 0 → parseFieldDescriptor (TJ3 k).2.2.1 = some (tyJ3 k) := by decide +kernel
abbrev cJ3_checkIndex_8e157 : ByteArray := prog_25_method_11_code
def yJ3_checkIndex_8e157 : MethodName := ⟨RJ3, "checkIndex", "(IILjava/util/function/BiFunction;)I"⟩
def RL : String := "LateGlassLaw"
abbrev vwCl : List vw_C := [(RX0, TX0, 5), (RX1, TX1, 13), (RX2, TX2, 2), (RX3, TX3, 4), (RX4, TX4, 8), (RX5, TX5, 13), (RX6, TX6, 4), (RX7, TX7, 10), (RX8, TX8, 3), (RX9, TX9, 4), (RX10, TX10, 3), (RX11, TX11, 17), (RX12, TX12, 52)]
/-! What every contract here speaks of: the classes' numbers and the five array classes in one variable G; the nest words; a slice of the world. -/
abbrev g5_G : Type := va_G × (Nat → ClassId)
abbrev T5 (G : g5_G) : List (ClassId × FieldType) := [(G.2 0, .int), (G.2 1, .long), (G.2 2, .boolean), (G.2 3, .object "LateGlass$House"), (G.2 4, .object "LateGlass$Law")]
def nw5 : List Cond := [.methodLinkNest RX11 11 yX1_init "LateGlass", .methodLinkNest RX5 11 yX2_init "LateGlass", .methodLinkNest RX11 65 yX4_init "LateGlass", .methodLinkNest RX4 11 yX8_init "LateGlass", .methodLinkNest RX1 62 yX11_isOn "LateGlass", .methodLinkNest RX5 52 yX11_isLook "LateGlass", .methodLinkNest RX5 70 yX11_beside "LateGlass", .methodLinkNest RX5 77 yX11_isOn "LateGlass", .methodLinkNest RX7 98 yX11_isOn "LateGlass", .methodLinkNest RX7 105 yX11_beside "LateGlass", .fieldLinkNest RX7 114 "LateGlass" "HAVING" "[I" "LateGlass", .fieldLinkNest RX7 131 "LateGlass" "LOWEST_FIRST" "[I" "LateGlass", .methodLinkNest RX9 43 yX11_isOn "LateGlass", .fieldLinkNest RX9 64 "LateGlass" "LOWEST_FIRST" "[I" "LateGlass", .methodLinkNest RX9 67 yX11_beside "LateGlass"]
theorem nw5_kind : ∀ w ∈ nw5, (∃ a i x h, w = Cond.methodLinkNest a i x h) ∨ (∃ a i b n d h, w = Cond.fieldLinkNest a i b n d h) := by
  intro w hw
  simp only [nw5, List.mem_cons, List.not_mem_nil, or_false] at hw
  rcases hw with rfl | rfl | rfl | rfl | rfl | rfl | rfl | rfl | rfl | rfl | rfl | rfl | rfl | rfl | rfl <;> first | exact Or.inl ⟨_, _, _, _, rfl⟩ | exact Or.inr ⟨_, _, _, _, _, _, rfl⟩
def g5_N (U : State) : Prop := (∀ w ∈ nw5, va_Nw w U) ∧ va_AO "LateGlass$House" U ∧ va_AO "LateGlass$Law" U ∧ va_Nw (.castable "[I" "java/lang/Cloneable") U
theorem g5_N.warm {s U : State} (hW : s.WarmedH U.vm) (h : g5_N s) : g5_N U := by
  refine ⟨?_, va_AO.moved hW.alike h.2.1, va_AO.moved hW.alike h.2.2.1, va_Nw.warmC hW h.2.2.2⟩
  have h := h.1
  intro w hw
  rcases nw5_kind w hw with ⟨a, i, x, b, rfl⟩ | ⟨a, i, b, n, d, k, rfl⟩
  · exact va_Nw.warmM hW (h _ hw)
  · exact va_Nw.warmF hW (h _ hw)
theorem g5_N.same {s U : State} (e : s.vm = U.vm) (h : g5_N s) : g5_N U := by
  have ha : s.vm.Alike U.vm := by rw [← e]; exact Vm.Alike.refl s.vm
  refine ⟨?_, va_AO.moved ha h.2.1, va_AO.moved ha h.2.2.1, va_Nw.same rfl e h.2.2.2⟩
  have h := h.1
  intro w hw
  rcases nw5_kind w hw with ⟨a, i, x, b, rfl⟩ | ⟨a, i, b, n, d, k, rfl⟩
  · exact va_Nw.same rfl e (h _ hw)
  · exact va_Nw.same rfl e (h _ hw)
theorem g5_nw_X11_11 : Cond.methodLinkNest RX11 11 yX1_init "LateGlass" ∈ nw5 := List.mem_of_getElem? (i := 0) rfl
theorem g5_nw_X5_11 : Cond.methodLinkNest RX5 11 yX2_init "LateGlass" ∈ nw5 := List.mem_of_getElem? (i := 1) rfl
theorem g5_nw_X11_65 : Cond.methodLinkNest RX11 65 yX4_init "LateGlass" ∈ nw5 := List.mem_of_getElem? (i := 2) rfl
theorem g5_nw_X4_11 : Cond.methodLinkNest RX4 11 yX8_init "LateGlass" ∈ nw5 := List.mem_of_getElem? (i := 3) rfl
theorem g5_nw_X1_62 : Cond.methodLinkNest RX1 62 yX11_isOn "LateGlass" ∈ nw5 := List.mem_of_getElem? (i := 4) rfl
theorem g5_nw_X5_52 : Cond.methodLinkNest RX5 52 yX11_isLook "LateGlass" ∈ nw5 := List.mem_of_getElem? (i := 5) rfl
theorem g5_nw_X5_70 : Cond.methodLinkNest RX5 70 yX11_beside "LateGlass" ∈ nw5 := List.mem_of_getElem? (i := 6) rfl
theorem g5_nw_X5_77 : Cond.methodLinkNest RX5 77 yX11_isOn "LateGlass" ∈ nw5 := List.mem_of_getElem? (i := 7) rfl
theorem g5_nw_X7_98 : Cond.methodLinkNest RX7 98 yX11_isOn "LateGlass" ∈ nw5 := List.mem_of_getElem? (i := 8) rfl
theorem g5_nw_X7_105 : Cond.methodLinkNest RX7 105 yX11_beside "LateGlass" ∈ nw5 := List.mem_of_getElem? (i := 9) rfl
theorem g5_nw_X7_114 : Cond.fieldLinkNest RX7 114 "LateGlass" "HAVING" "[I" "LateGlass" ∈ nw5 := List.mem_of_getElem? (i := 10) rfl
theorem g5_nw_X7_131 : Cond.fieldLinkNest RX7 131 "LateGlass" "LOWEST_FIRST" "[I" "LateGlass" ∈ nw5 := List.mem_of_getElem? (i := 11) rfl
theorem g5_nw_X9_43 : Cond.methodLinkNest RX9 43 yX11_isOn "LateGlass" ∈ nw5 := List.mem_of_getElem? (i := 12) rfl
theorem g5_nw_X9_64 : Cond.fieldLinkNest RX9 64 "LateGlass" "LOWEST_FIRST" "[I" "LateGlass" ∈ nw5 := List.mem_of_getElem? (i := 13) rfl
theorem g5_nw_X9_67 : Cond.methodLinkNest RX9 67 yX11_beside "LateGlass" ∈ nw5 := List.mem_of_getElem? (i := 14) rfl
/-- the two static tables that nobody writes -/
def g5_hav : Nat → Value := fun j => match j with
  | 0 => .int (-1431655766)
  | 1 => .int (-858993460)
  | 2 => .int (-252645136)
  | 3 => .int (-16711936)
  | _ => .int (-65536)
def g5_low : Nat → Value := fun j => match j with
  | 0 => .int 0
  | 1 => .int 3
  | 2 => .int 4
  | 3 => .int 1
  | _ => .int 2
def g5_tx : String := "late dust covers clear if or and not glass x y hour way body steps bright "
def g5_by : List Int32 := [108, 97, 116, 101, 32, 100, 117, 115, 116, 32, 99, 111, 118, 101, 114, 115, 32, 99, 108, 101, 97, 114, 32, 105, 102, 32, 111, 114, 32, 97, 110, 100, 32, 110, 111, 116, 32, 103, 108, 97, 115, 115, 32, 120, 32, 121, 32, 104, 111, 117, 114, 32, 119, 97, 121, 32, 98, 111, 100, 121, 32, 115, 116, 101, 112, 115, 32, 98, 114, 105, 103, 104, 116, 32]
def g5_S (A : Nat → Prop) (U : State) (H : Heap) : Prop := ∃ (tH tL tK tV : Nat) (tF : Option Nat), va_Z "LateGlass" "HAVING" "[I" (.ref tH) A U H ∧ va_T .int tH 5 g5_hav A U H ∧ va_Z "LateGlass" "LOWEST_FIRST" "[I" (.ref tL) A U H ∧ va_T .int tL 5 g5_low A U H ∧ vk_R "LateGlass$Tokens" 41 g5_tx tK U ∧ vk_S 1 [74] [g5_by] (fun _ => tK) (fun _ => tV) A U H ∧ va_Z "java/lang/String" "COMPACT_STRINGS" "Z" (.int 1) A U H ∧ va_Z "jdk/internal/util/Preconditions" "SIOOBE_FORMATTER" "Ljava/util/function/BiFunction;" (va_rf tF) A U H
theorem g5_S.moved {A : Nat → Prop} {u U : State} {H : Heap} (hvm : u.vm.Alike U.vm) (hr : ∀ a : Nat, vk_R "LateGlass$Tokens" 41 g5_tx a u → vk_R "LateGlass$Tokens" 41 g5_tx a U) (h : g5_S A u H) : g5_S A U H := by
  obtain ⟨a, b, c, d, f, h1, h2, h3, h4, h5, h6, h7, h8⟩ := h
  exact ⟨a, b, c, d, f, h1.moved hvm, h2.moved hvm, h3.moved hvm, h4.moved hvm, hr _ h5, h6.moved hvm, h7.moved hvm, h8.moved hvm⟩
theorem g5_S.kept {A : Nat → Prop} {U : State} {H H1 : Heap} (h : g5_S A U H) (hq : ∀ a : Nat, a < H.size → ¬ A a → H1[a]? = H[a]?) : g5_S A U H1 := by
  obtain ⟨a, b, c, d, f, h1, h2, h3, h4, h5, h6, h7, h8⟩ := h
  exact ⟨a, b, c, d, f, h1.kept hq, h2.kept hq, h3.kept hq, h4.kept hq, h5, h6.kept hq, h7.kept hq, h8.kept hq⟩
theorem g5_S.narrow {A B : Nat → Prop} {U : State} {H : Heap} (h : g5_S A U H) (hAB : ∀ q, B q → A q) : g5_S B U H := by
  obtain ⟨a, b, c, d, f, h1, h2, h3, h4, h5, h6, h7, h8⟩ := h
  exact ⟨a, b, c, d, f, h1.narrow hAB, h2.narrow hAB, h3.narrow hAB, h4.narrow hAB, h5, h6.narrow hAB, h7.narrow hAB, h8.narrow hAB⟩
def g5_P (G : g5_G) (ws : va_W) (sz : Nat) (U : State) : Prop := U.heap.size = sz ∧ va_P G.1 vwCl ws U.heap ∧ va_K G.1 vwCl (T5 G) U ∧ va_D (fun _ => True) ws ∧ g5_N U ∧ g5_S (va_A ws sz) U U.heap
def g5_B (G : g5_G) (A : Nat → Prop) (w : va_W) (t : State) : Prop := va_P G.1 vwCl w t.heap ∧ va_D A w
theorem g5_blind {G : g5_G} {ws : va_W} {sz : Nat} {av : List Value} : FrameBlind (va_Pc av (g5_P G ws sz)) := by
  intro a U g mk q
  obtain ⟨q0, q1, qP, qK, qD, qN, qS⟩ := q
  exact ⟨q0, q1, qP, va_K.moved (u := U) (U := U.calling g mk a) (Vm.Alike.refl U.vm) qK, qD, g5_N.same (s := U) (U := U.calling g mk a) rfl qN, g5_S.moved (u := U) (U := U.calling g mk a) (Vm.Alike.refl U.vm) (fun _ h => vk_R.same (u := U) (U := U.calling g mk a) rfl h) qS⟩
theorem g5_preS {G : g5_G} {s : State} {H : Heap} {locs : List Loc} {A : Nat → Prop} {wc : va_W} {As : List Value} (hP : va_P G.1 vwCl wc H) (hK : va_K G.1 vwCl (T5 G) s) (hD : va_D A wc) (hN : g5_N s) (hT : g5_S A s s.heap) (hS : va_S A s.heap H locs) (hF : ∀ q, va_A wc H.size q → A q) : PreS s H (va_Pc As (g5_P G wc H.size)) As :=
  ⟨g5_blind, fun U hU hW => ⟨rfl, by rw [hU], by rw [hU]; exact hP, va_K.moved hW.alike hK, hD.weaken (fun _ _ _ _ => trivial), hN.warm hW, by rw [hU]; exact ((hT.kept hS.2.1).narrow hF).moved hW.alike (fun _ h => h.warm hW)⟩⟩
theorem g5_preV {G : g5_G} {s : State} {H : Heap} {locs : List Loc} {A : Nat → Prop} {wc : va_W} {b : Nat} {As : List Value} {C : String} {T : u_T} {N ci q0 : Nat} {fs : List Value} (hP : va_P G.1 vwCl wc H) (hK : va_K G.1 vwCl (T5 G) s) (hD : va_D A wc) (hN : g5_N s) (hT : g5_S A s s.heap) (hS : va_S A s.heap H locs) (hF : ∀ q, va_A wc H.size q → A q) (he : wc[q0]? = some (b, .inr (ci, fs))) (hc : vwCl[ci]? = some (C, T, N)) : PreV s H C b (va_Pc (.ref b :: As) (g5_P G wc H.size)) As :=
  ⟨g5_blind, va_recv hK hP hc he, fun U hU hW => ⟨rfl, by rw [hU], by rw [hU]; exact hP, va_K.moved hW.alike hK, hD.weaken (fun _ _ _ _ => trivial), hN.warm hW, by rw [hU]; exact ((hT.kept hS.2.1).narrow hF).moved hW.alike (fun _ h => h.warm hW)⟩⟩
theorem g5_ht {G : g5_G} {ws : va_W} {h H1 : Heap} (ht : h = H1) (hP : va_P G.1 vwCl ws h) : va_P G.1 vwCl ws H1 := ht ▸ hP
theorem g5_same {G : g5_G} {ws : va_W} {H H1 : Heap} (hP : va_P G.1 vwCl ws H) (hk : ∀ q : Nat, q < H.size → ¬ va_A [] H.size q → H1[q]? = H[q]?) : va_P G.1 vwCl ws H1 := by
  refine hP.kept fun k q hq => hk q.1 (hP k q hq).lt (fun h => ?_)
  rcases h with ⟨j, e, h⟩ | h
  · simp at h
  · exact absurd (hP k q hq).lt (Nat.not_lt.mpr h)
/-! ints by their values -/
theorem g5_lt {x y : Int32} {a b : Int} (hx : x.toInt = a) (hy : y.toInt = b) (c : x < y) : a < b := by rw [← hx, ← hy]; exact Int32.lt_iff_toInt_lt.mp c
theorem g5_ltN {x y : Int32} {a b : Int} (hx : x.toInt = a) (hy : y.toInt = b) (c : ¬ x < y) : b ≤ a := by rw [← hx, ← hy]; exact Int.not_lt.mp fun h => c (Int32.lt_iff_toInt_lt.mpr h)
theorem g5_le {x y : Int32} {a b : Int} (hx : x.toInt = a) (hy : y.toInt = b) (c : x ≤ y) : a ≤ b := by rw [← hx, ← hy]; exact Int32.le_iff_toInt_le.mp c
theorem g5_leN {x y : Int32} {a b : Int} (hx : x.toInt = a) (hy : y.toInt = b) (c : ¬ x ≤ y) : b < a := by rw [← hx, ← hy]; exact Int.not_le.mp fun h => c (Int32.le_iff_toInt_le.mpr h)
theorem g5_gt {x y : Int32} {a b : Int} (hx : x.toInt = a) (hy : y.toInt = b) (c : y < x) : b < a := g5_lt hy hx c
theorem g5_gtN {x y : Int32} {a b : Int} (hx : x.toInt = a) (hy : y.toInt = b) (c : ¬ y < x) : a ≤ b := g5_ltN hy hx c
theorem g5_ge {x y : Int32} {a b : Int} (hx : x.toInt = a) (hy : y.toInt = b) (c : y ≤ x) : b ≤ a := g5_le hy hx c
theorem g5_geN {x y : Int32} {a b : Int} (hx : x.toInt = a) (hy : y.toInt = b) (c : ¬ y ≤ x) : a < b := g5_leN hy hx c
theorem g5_eq {x y : Int32} {a b : Int} (hx : x.toInt = a) (hy : y.toInt = b) (c : x = y) : a = b := by rw [← hx, ← hy, c]
theorem g5_eqN {x y : Int32} {a b : Int} (hx : x.toInt = a) (hy : y.toInt = b) (c : ¬ x = y) : a ≠ b := by rw [← hx, ← hy]; exact fun h => c (Int32.toInt_inj.mp h)
theorem g5_ne {x y : Int32} {a b : Int} (hx : x.toInt = a) (hy : y.toInt = b) (c : ¬ x = y) : a ≠ b := g5_eqN hx hy c
theorem g5_neN {x y : Int32} {a b : Int} (hx : x.toInt = a) (hy : y.toInt = b) (c : x = y) : a = b := g5_eq hx hy c
theorem g5_bm {z : Int} (h1 : -2147483648 ≤ z) (h2 : z < 2147483648) : z.bmod (2 ^ 32) = z := by
  rw [Int.bmod_def]; split <;> omega
theorem g5_iadd {x y : Int32} {a b : Int} (hx : x.toInt = a) (hy : y.toInt = b) (h1 : -2147483648 ≤ a + b) (h2 : a + b < 2147483648) : (x + y).toInt = a + b := by
  rw [Int32.toInt_add, hx, hy]; exact g5_bm h1 h2
theorem g5_isub {x y : Int32} {a b : Int} (hx : x.toInt = a) (hy : y.toInt = b) (h1 : -2147483648 ≤ a - b) (h2 : a - b < 2147483648) : (x - y).toInt = a - b := by
  rw [Int32.toInt_sub, hx, hy]; exact g5_bm h1 h2
theorem g5_imul {x y : Int32} {a b : Int} (hx : x.toInt = a) (hy : y.toInt = b) (h1 : -2147483648 ≤ a * b) (h2 : a * b < 2147483648) : (x * y).toInt = a * b := by
  rw [Int32.toInt_mul, hx, hy]; exact g5_bm h1 h2
theorem g5_sh0 (y : UInt64) : ((0 : Int64).toUInt64 >>> y).toInt64 = 0 := by
  have h : (0 : Int64).toUInt64 = 0 := by decide
  rw [h, UInt64.zero_shiftRight]; decide
theorem g5_toc {x k : Int32} {n : Int} (hk : k.toInt = n) (h : x.toInt = n) : x = k := Int32.toInt_inj.mp (h.trans hk.symm)
section G5T
variable {p : Program} {l : Launch} {e : Env} {R : Room} {s : State} {m : MethodId} {args : Array Value} {below : List Frame} {meth : Method} {c : Code} {H : Heap} {locs : List Loc} {cells slots : Nat} {Q : State → Prop} {pc : Nat} {ls : Array Slot} {rest : List Value}
theorem g5_ti {x v : Int32} (h : x = v) (k : W p l e R s m args below meth c H locs cells slots Q (F0 m pc ls (.int v :: rest))) : W p l e R s m args below meth c H locs cells slots Q (F0 m pc ls (.int x :: rest)) := by subst h; exact k
theorem g5_tl {x v : Int64} (h : x = v) (k : W p l e R s m args below meth c H locs cells slots Q (F0 m pc ls (.long v :: rest))) : W p l e R s m args below meth c H locs cells slots Q (F0 m pc ls (.long x :: rest)) := by subst h; exact k
theorem g5_tv {x v : Value} (h : x = v) (k : W p l e R s m args below meth c H locs cells slots Q (F0 m pc ls (v :: rest))) : W p l e R s m args below meth c H locs cells slots Q (F0 m pc ls (x :: rest)) := by subst h; exact k
end G5T
theorem g5_cI {G : g5_G} {s : State} {cA : ClassId} (h : va_K G.1 vwCl (T5 G ++ [(cA, .int)]) s) : cA = G.2 0 := by
  have h1 : s.vm.findClass ("[" ++ FieldType.int.toString) = some cA := (h.2 5 _ rfl).2
  have h2 : s.vm.findClass ("[" ++ FieldType.int.toString) = some (G.2 0) := (h.2 0 _ rfl).2
  exact Option.some.inj (h1.symm.trans h2)
theorem g5_cJ {G : g5_G} {s : State} {cA : ClassId} (h : va_K G.1 vwCl (T5 G ++ [(cA, .long)]) s) : cA = G.2 1 := by
  have h1 : s.vm.findClass ("[" ++ FieldType.long.toString) = some cA := (h.2 5 _ rfl).2
  have h2 : s.vm.findClass ("[" ++ FieldType.long.toString) = some (G.2 1) := (h.2 1 _ rfl).2
  exact Option.some.inj (h1.symm.trans h2)
theorem g5_cZ {G : g5_G} {s : State} {cA : ClassId} (h : va_K G.1 vwCl (T5 G ++ [(cA, .boolean)]) s) : cA = G.2 2 := by
  have h1 : s.vm.findClass ("[" ++ FieldType.boolean.toString) = some cA := (h.2 5 _ rfl).2
  have h2 : s.vm.findClass ("[" ++ FieldType.boolean.toString) = some (G.2 2) := (h.2 2 _ rfl).2
  exact Option.some.inj (h1.symm.trans h2)
theorem g5_cH {G : g5_G} {s : State} {cA : ClassId} (h : va_K G.1 vwCl (T5 G ++ [(cA, .object "LateGlass$House")]) s) : cA = G.2 3 := by
  obtain ⟨k1, c1, a1, a2, a3, h1⟩ := (h.2 5 _ rfl).2
  obtain ⟨k2, c2, b1, b2, b3, h2⟩ := (h.2 3 _ rfl).2
  exact Option.some.inj (h1.symm.trans h2)
theorem g5_cW {G : g5_G} {s : State} {cA : ClassId} (h : va_K G.1 vwCl (T5 G ++ [(cA, .object "LateGlass$Law")]) s) : cA = G.2 4 := by
  obtain ⟨k1, c1, a1, a2, a3, h1⟩ := (h.2 5 _ rfl).2
  obtain ⟨k2, c2, b1, b2, b3, h2⟩ := (h.2 4 _ rfl).2
  exact Option.some.inj (h1.symm.trans h2)
theorem g5_loop {p : Program} {l : Launch} {e : Env} {R : Room} {s : State} {m : MethodId} {args : Array Value} {below : List Frame} {meth : Method} {c : Code} {H : Heap} {locs : List Loc} {cells slots : Nat} {Q : State → Prop} {pc : Nat} {ls : Array Slot} {rest : List Value} {α : Type} (I : α → Array Slot → Heap → List Loc → Prop) (mu : α → Nat) (a0 : α) (h0 : I a0 ls H locs)
    (step : ∀ (a : α) (ls : Array Slot) (H : Heap) (locs : List Loc), I a ls H locs → (∀ (b : α) (ls' : Array Slot) (H' : Heap) (locs' : List Loc), mu b < mu a → I b ls' H' locs' → W p l e R s m args below meth c H' locs' cells slots Q (F0 m pc ls' rest)) → W p l e R s m args below meth c H locs cells slots Q (F0 m pc ls rest)) : W p l e R s m args below meth c H locs cells slots Q (F0 m pc ls rest) := by
  have key : ∀ (n : Nat) (a : α) (ls : Array Slot) (H : Heap) (locs : List Loc), mu a ≤ n → I a ls H locs → W p l e R s m args below meth c H locs cells slots Q (F0 m pc ls rest) := by
    intro n
    induction n with
    | zero => intro a ls H locs hn h; exact step a ls H locs h (fun b _ _ _ hb _ => absurd hb (by omega))
    | succ n ih => intro a ls H locs hn h; exact step a ls H locs h (fun b ls' H' locs' hb h' => ih b ls' H' locs' (by omega) h')
  exact key _ a0 ls H locs (Nat.le_refl _) h0
theorem g5_nn {x : Int32} {a : Int} (hx : x.toInt = a) (h : 0 ≤ a) : x.toBitVec.toInt = (x.toBitVec.toNat : Int) := by
  have h1 : x.toBitVec.toInt = a := hx
  rw [BitVec.toInt_eq_toNat_cond] at h1 ⊢
  split at h1 <;> rename_i hc
  · rw [if_pos hc]
  · have := x.toBitVec.isLt; omega
theorem g5_andk (k : Nat) (hk : k < 31) {x y : Int32} {a : Int} (hy : y.toBitVec.toNat = 2 ^ k - 1) (hx : x.toInt = a) (h : 0 ≤ a) : (x &&& y).toInt = a % (2 ^ k : Nat) := by
  have h1 : x.toInt = (x.toBitVec.toNat : Int) := g5_nn hx h
  have h2 : (x &&& y).toBitVec.toNat = x.toBitVec.toNat % 2 ^ k := by
    rw [Int32.toBitVec_and, BitVec.toNat_and, hy, Nat.and_two_pow_sub_one_eq_mod]
  have h3 : (x &&& y).toInt = ((x &&& y).toBitVec.toNat : Int) := by
    show (x &&& y).toBitVec.toInt = _
    rw [BitVec.toInt_eq_toNat_cond, if_pos]
    rw [h2]
    have h5 : x.toBitVec.toNat % 2 ^ k < 2 ^ k := Nat.mod_lt _ (Nat.two_pow_pos k)
    have h6 : 2 ^ k ≤ 2 ^ 30 := Nat.pow_le_pow_right (by decide) (by omega)
    omega
  rw [h3, h2, ← hx, h1]; exact Int.natCast_emod _ _
theorem g5_and7 {x : Int32} {a : Int} (hx : x.toInt = a) (h : 0 ≤ a) : (x &&& 7).toInt = a % 8 := g5_andk 3 (by decide) (by decide) hx h
theorem g5_and63 {x : Int32} {a : Int} (hx : x.toInt = a) (h : 0 ≤ a) : (x &&& 63).toInt = a % 64 := g5_andk 6 (by decide) (by decide) hx h
theorem g5_and1 {x : Int32} {a : Int} (hx : x.toInt = a) (h : 0 ≤ a) : (x &&& 1).toInt = a % 2 := g5_andk 1 (by decide) (by decide) hx h
theorem g5_and31 {x : Int32} {a : Int} (hx : x.toInt = a) (h : 0 ≤ a) : (x &&& 31).toInt = a % 32 := g5_andk 5 (by decide) (by decide) hx h
theorem g5_and255 {x : Int32} {a : Int} (hx : x.toInt = a) (h : 0 ≤ a) : (x &&& 255).toInt = a % 256 := g5_andk 8 (by decide) (by decide) hx h
theorem g5_rg (x : Int32) : -2147483648 ≤ x.toInt ∧ x.toInt < 2147483648 := by
  have h1 := x.toBitVec.isLt
  have h2 : x.toInt = if 2 * x.toBitVec.toNat < 2 ^ 32 then (x.toBitVec.toNat : Int) else (x.toBitVec.toNat : Int) - (2 ^ 32 : Nat) := BitVec.toInt_eq_toNat_cond _
  rw [h2]; split <;> omega
theorem g5_idiv {x y : Int32} {a b : Int} (hx : x.toInt = a) (hy : y.toInt = b) (h0 : 0 ≤ a) (hb : 0 < b) : (x / y).toInt = a / b := by
  have hr := g5_rg x
  rw [Int32.toInt_div, hx, hy, Int.tdiv_eq_ediv_of_nonneg h0]
  have h1 : 0 ≤ a / b := Int.ediv_nonneg h0 (Int.le_of_lt hb)
  have h2 : a / b ≤ a := Int.ediv_le_self _ h0
  exact g5_bm (by omega) (by omega)
theorem g5_irem {x y : Int32} {a b : Int} (hx : x.toInt = a) (hy : y.toInt = b) (h0 : 0 ≤ a) (hb : 0 < b) : (x - x / y * y).toInt = a % b := by
  have hr := g5_rg x
  have hd := g5_idiv hx hy h0 hb
  have e : a % b = a - a / b * b := by rw [Int.emod_def, Int.mul_comm]
  have h1 : 0 ≤ a % b := Int.emod_nonneg _ (by omega)
  have h2 : 0 ≤ a / b * b := Int.mul_nonneg (Int.ediv_nonneg h0 (Int.le_of_lt hb)) (Int.le_of_lt hb)
  have hm : (x / y * y).toInt = a / b * b := g5_imul hd hy (by omega) (by omega)
  rw [e]
  exact g5_isub hx hm (by omega) (by omega)
/-- the cell next to a cell that way -/
def bs (c w : Int) : Int := if w = 0 then (if 8 ≤ c then c - 8 else -1) else if w = 1 then (if c % 8 < 7 then c + 1 else -1) else if w = 2 then (if c < 56 then c + 8 else -1) else if w = 3 then (if 0 < c % 8 then c - 1 else -1) else c
theorem g5_pts {f : Nat → Int32} {k k' v : Int32} (g : Int → Int) (ih : ∀ j : Nat, (j : Int) < k.toInt → (f j).toInt = g j) (h0 : 0 ≤ k.toInt) (h1 : k'.toInt = k.toInt + 1) (h2 : v.toInt = g k.toInt) : ∀ j : Nat, (j : Int) < k'.toInt → (upd f k.toNatClampNeg v j).toInt = g j := by
  intro j hj
  unfold upd
  have e : k.toNatClampNeg = k.toInt.toNat := rfl
  by_cases hjk : j = k.toNatClampNeg
  · rw [if_pos hjk, h2]; have : (j:Int) = k.toInt := by omega
    rw [this]
  · rw [if_neg hjk]; exact ih j (by omega)
/-! cells by short names; a slice and what is free of it in one row -/
abbrev oc0 (x0 : Nat) (x1 : Nat) (x2 : Int32) (x3 : Int32) (x4 : Int32) : va_E := .inr (0, [.ref x0, .ref x1, .int x2, .int x3, .int x4])
abbrev oc1 (x0 : Int64) (x1 : Int32) (x2 : Int32) (x3 : Int32) (x4 : Int32) (x5 : Nat) (x6 : Nat) (x7 : Nat) (x8 : Nat) (x9 : Nat) (x10 : Nat) (x11 : Int64) (x12 : Nat) : va_E := .inr (1, [.long x0, .int x1, .int x2, .int x3, .int x4, .ref x5, .ref x6, .ref x7, .ref x8, .ref x9, .ref x10, .long x11, .ref x12])
abbrev oc2 (x0 : Nat) (x1 : Nat) : va_E := .inr (2, [.ref x0, .ref x1])
abbrev oc3 (x0 : Int32) (x1 : Nat) (x2 : Nat) (x3 : Nat) : va_E := .inr (3, [.int x0, .ref x1, .ref x2, .ref x3])
abbrev oc4 (x0 : Nat) (x1 : Nat) (x2 : Nat) (x3 : Nat) (x4 : Int32) (x5 : Int32) (x6 : Int32) (x7 : Int32) : va_E := .inr (4, [.ref x0, .ref x1, .ref x2, .ref x3, .int x4, .int x5, .int x6, .int x7])
abbrev oc5 (x0 : Nat) (x1 : Nat) (x2 : Nat) (x3 : Int32) (x4 : Int32) (x5 : Int32) (x6 : Int32) (x7 : Int32) (x8 : Int32) (x9 : Int32) (x10 : Int32) (x11 : Int32) (x12 : Int32) : va_E := .inr (5, [.ref x0, .ref x1, .ref x2, .int x3, .int x4, .int x5, .int x6, .int x7, .int x8, .int x9, .int x10, .int x11, .int x12])
abbrev oc6 (x0 : Int32) (x1 : Int32) (x2 : Nat) (x3 : Int32) : va_E := .inr (6, [.int x0, .int x1, .ref x2, .int x3])
abbrev oc7 (x0 : Nat) (x1 : Nat) (x2 : Nat) (x3 : Nat) (x4 : Int32) (x5 : Nat) (x6 : Nat) (x7 : Nat) (x8 : Nat) (x9 : Nat) : va_E := .inr (7, [.ref x0, .ref x1, .ref x2, .ref x3, .int x4, .ref x5, .ref x6, .ref x7, .ref x8, .ref x9])
abbrev oc8 (x0 : Nat) (x1 : Nat) (x2 : Nat) : va_E := .inr (8, [.ref x0, .ref x1, .ref x2])
abbrev oc9 (x0 : Nat) (x1 : Nat) (x2 : Nat) (x3 : Nat) : va_E := .inr (9, [.ref x0, .ref x1, .ref x2, .ref x3])
abbrev oc10 (x0 : Nat) (x1 : Nat) (x2 : Nat) : va_E := .inr (10, [.ref x0, .ref x1, .ref x2])
abbrev oc11 (x0 : Nat) (x1 : Nat) (x2 : Nat) (x3 : Nat) (x4 : Nat) (x5 : Nat) (x6 : Nat) (x7 : Nat) (x8 : Nat) (x9 : Nat) (x10 : Int32) (x11 : Int32) (x12 : Int32) (x13 : Nat) (x14 : Int32) (x15 : Nat) (x16 : Int32) : va_E := .inr (11, [.ref x0, .ref x1, .ref x2, .ref x3, .ref x4, .ref x5, .ref x6, .ref x7, .ref x8, .ref x9, .int x10, .int x11, .int x12, .ref x13, .int x14, .ref x15, .int x16])
abbrev oc12 (x0 : Int32) (x1 : Int32) (x2 : Nat) (x3 : Nat) (x4 : Nat) (x5 : Nat) (x6 : Int32) (x7 : Nat) (x8 : Int32) (x9 : Int32) (x10 : Int32) (x11 : Int32) (x12 : Int64) (x13 : Int32) (x14 : Int32) (x15 : Int32) (x16 : Nat) (x17 : Int32) (x18 : Nat) (x19 : Nat) (x20 : Int32) (x21 : Nat) (x22 : Nat) (x23 : Int32) (x24 : Int32) (x25 : Nat) (x26 : Nat) (x27 : Int32) (x28 : Nat) (x29 : Nat) (x30 : Int32) (x31 : Int64) (x32 : Int64) (x33 : Int32) (x34 : Int32) (x35 : Int32) (x36 : Int32) (x37 : Int32) (x38 : Nat) (x39 : Int32) (x40 : Int32) (x41 : Nat) (x42 : Int32) (x43 : Nat) (x44 : Nat) (x45 : Nat) (x46 : Int32) (x47 : Nat) (x48 : Nat) (x49 : Int64) (x50 : Nat) (x51 : Int32) : va_E := .inr (12, [.int x0, .int x1, .ref x2, .ref x3, .ref x4, .ref x5, .int x6, .ref x7, .int x8, .int x9, .int x10, .int x11, .long x12, .int x13, .int x14, .int x15, .ref x16, .int x17, .ref x18, .ref x19, .int x20, .ref x21, .ref x22, .int x23, .int x24, .ref x25, .ref x26, .int x27, .ref x28, .ref x29, .int x30, .long x31, .long x32, .int x33, .int x34, .int x35, .int x36, .int x37, .ref x38, .int x39, .int x40, .ref x41, .int x42, .ref x43, .ref x44, .ref x45, .int x46, .ref x47, .ref x48, .long x49, .ref x50, .int x51])
abbrev arI (G : g5_G) (n : Nat) (f : Nat → Int32) : va_E := .inl (G.2 0, n, .inl f)
abbrev arJ (G : g5_G) (n : Nat) (f : Nat → Int64) : va_E := .inl (G.2 1, n, .inr (.inl f))
abbrev arZ (G : g5_G) (n : Nat) (f : Nat → Int32) : va_E := .inl (G.2 2, n, .inl f)
abbrev arH (G : g5_G) (n : Nat) (f : Nat → Option Nat) : va_E := .inl (G.2 3, n, .inr (.inr (.inr (.inr f))))
abbrev arW (G : g5_G) (n : Nat) (f : Nat → Option Nat) : va_E := .inl (G.2 4, n, .inr (.inr (.inr (.inr f))))
theorem g5_rs {D : va_G} {cl : List vw_C} {A : Nat → Prop} {H : Heap} {P : Prop} (w : va_W) (hP : va_P D cl w H) (hD : va_D A w) (k : va_P D cl w H → va_D A w → P) : P := k hP hD
theorem g5_fm {α β : Type} {g : α → Option β} {l : List α} {w : List β} (h : l.map g = w.map some) : l.filterMap g = w := by
  induction l generalizing w with
  | nil =>
    cases w with
    | nil => rfl
    | cons b w => simp at h
  | cons a l ih =>
    cases w with
    | nil => simp at h
    | cons b w =>
      simp only [List.map_cons, List.cons.injEq] at h
      rw [List.filterMap_cons, h.1]
      exact congrArg (List.cons b) (ih h.2)
theorem g5_sub3 {D : va_G} {cl : List vw_C} {A0 : Nat → Prop} {ws wc : va_W} {H0 H : Heap} {locs : List Loc} (hP : va_P D cl ws H) (hD : va_D A0 ws) (hS : va_S A0 H0 H locs) (hA : ∀ q, H0.size ≤ q → A0 q) (l : List Nat) (hn : va_nd l = true) (hC : l.map (fun i => ws[i]?) = wc.map some) : va_P D cl wc H ∧ va_D A0 wc ∧ (∀ q, va_A wc H.size q → A0 q) := ⟨hP.sub l (g5_fm hC), hD.sub l hn hC, va_free hD hS hA l hC⟩
theorem g5_cvJ {D : va_G} {cl : List vw_C} {A : Nat → Prop} {ws : va_W} {H : Heap} {a n : Nat} {cA : ClassId} {f g : Nat → Int64} (hP : va_P D cl ws H) (hD : va_D A ws) (q0 : Nat) (ha : ws[q0]? = some (a, .inl (cA, n, .inr (.inl f)))) (h : ∀ j : Nat, j < n → f j = g j) : va_P D cl (ws.set q0 (a, .inl (cA, n, .inr (.inl g)))) H ∧ va_D A (ws.set q0 (a, .inl (cA, n, .inr (.inl g)))) := by
  refine ⟨hP.set hD ha ?_ (fun _ _ => rfl), hD.set ha⟩
  have h1 : H[a]? = some (vp_cell cA (n, .inr (.inl f))) := hP q0 _ ha
  show H[a]? = some (vp_cell cA (n, .inr (.inl g)))
  rw [h1, vp_cell_l, vp_cell_l]
  congr 1
  unfold arrV
  congr 1
  apply Array.ext
  · simp
  · intro i hi1 hi2
    simp only [Array.getElem_ofFn]
    rw [h i (by simpa using hi1)]
theorem g5_cvI {D : va_G} {cl : List vw_C} {A : Nat → Prop} {ws : va_W} {H : Heap} {a n : Nat} {cA : ClassId} {f g : Nat → Int32} (hP : va_P D cl ws H) (hD : va_D A ws) (q0 : Nat) (ha : ws[q0]? = some (a, .inl (cA, n, .inl f))) (h : ∀ j : Nat, j < n → f j = g j) : va_P D cl (ws.set q0 (a, .inl (cA, n, .inl g))) H ∧ va_D A (ws.set q0 (a, .inl (cA, n, .inl g))) := by
  refine ⟨hP.set hD ha ?_ (fun _ _ => rfl), hD.set ha⟩
  have h1 : H[a]? = some (vp_cell cA (n, .inl f)) := hP q0 _ ha
  show H[a]? = some (vp_cell cA (n, .inl g))
  rw [h1, vp_cell_i, vp_cell_i]
  congr 1
  unfold arrV
  congr 1
  apply Array.ext
  · simp
  · intro i hi1 hi2
    simp only [Array.getElem_ofFn]
    rw [h i (by simpa using hi1)]
theorem ts_bit {w : Int64} {s : UInt64} {j : Nat} (hj : j < 64) (hs : s.toNat = j) : ((w.toUInt64 >>> s).toInt64 &&& 1) = 0 ↔ w.toBitVec.getLsbD j = false := by
  have e : (w.toUInt64 >>> s).toInt64.toBitVec = w.toBitVec >>> j := by
    apply BitVec.eq_of_toNat_eq
    show (w.toUInt64 >>> s).toNat = _
    rw [UInt64.toNat_shiftRight, hs, Nat.mod_eq_of_lt hj, BitVec.toNat_ushiftRight]
    rfl
  rw [← Int64.toBitVec_inj, Int64.toBitVec_and, e]
  show w.toBitVec >>> j &&& 1#64 = 0#64 ↔ _
  constructor
  · intro h
    have t := congrArg (fun x => x.getLsbD 0) h
    simpa using t
  · intro h
    apply BitVec.eq_of_getLsbD_eq
    intro i hi
    cases i with
    | zero => simp [h]
    | succ i => simp
/-- a bit of a board -/
def onB (b : Int64) (c : Int) : Bool := b.toBitVec.getLsbD c.toNat
theorem g5_k63 : ∀ k, k < 64 → ((nI k).toInt64.toUInt64 &&& Int64.toUInt64 63).toNat = k := by decide +kernel
theorem g5_nI {x : Int32} (h : 0 ≤ x.toInt) : x = nI x.toInt.toNat := by
  have h1 := g5_nn rfl h
  have h2 := g5_rg x
  have h3 : x.toInt = (x.toBitVec.toNat : Int) := h1
  apply Int32.toInt_inj.mp
  unfold nI
  rw [Int32.toInt_ofNat']
  rw [g5_bm] <;> omega
theorem g5_on {b : Int64} {c : Int32} (h0 : 0 ≤ c.toInt) (h1 : c.toInt ≤ 63) : ((b.toUInt64 >>> (c.toInt64.toUInt64 &&& Int64.toUInt64 63)).toInt64 &&& 1) = 0 ↔ onB b c.toInt = false := by
  refine ts_bit (j := c.toInt.toNat) (by omega) ?_
  conv => lhs; rw [g5_nI h0]
  exact g5_k63 _ (by omega)
theorem g5_cmp0 {x : Int64} (h : (lg_cmp x 0).toInt = 0) : x = 0 := by
  unfold lg_cmp at h
  split at h
  · exact absurd h (by decide)
  · split at h
    · assumption
    · exact absurd h (by decide)
theorem g5_cmp1 {x : Int64} (h : (lg_cmp x 0).toInt ≠ 0) : x ≠ 0 := by
  intro e; subst e; exact h (by decide)
theorem g5_onT {b : Int64} {c : Int32} (h0 : 0 ≤ c.toInt) (h1 : c.toInt ≤ 63) (h : (lg_cmp ((b.toUInt64 >>> (c.toInt64.toUInt64 &&& Int64.toUInt64 63)).toInt64 &&& 1) 0).toInt ≠ 0) : onB b c.toInt = true := by
  cases e : onB b c.toInt
  · exact absurd ((g5_on h0 h1).mpr e) (g5_cmp1 h)
  · rfl
theorem g5_onF {b : Int64} {c : Int32} (h0 : 0 ≤ c.toInt) (h1 : c.toInt ≤ 63) (h : (lg_cmp ((b.toUInt64 >>> (c.toInt64.toUInt64 &&& Int64.toUInt64 63)).toInt64 &&& 1) 0).toInt = 0) : onB b c.toInt = false := (g5_on h0 h1).mp (g5_cmp0 h)
/-! rows of a thief, masks left out -/
def psum (f : Nat → Int64) (c : Int) : Nat → Int64
  | 0 => 0
  | w + 1 => if bs c w = -1 then psum f c w else psum f c w + f (bs c w).toNat
def stepF (f : Nat → Int64) (b : Int64) (j : Nat) : Int64 := if onB b j = true then 0 else psum f j 5
def iniF (b : Int64) (j : Nat) : Int64 := if onB b j = true then 0 else 1
def itF (b : Nat → Int64) : Nat → Nat → Int64
  | 0 => iniF (b 0)
  | h + 1 => stepF (itF b h) (b (h + 1))
def sumF (f : Nat → Int64) : Nat → Int64
  | 0 => 0
  | n + 1 => sumF f n + f n
def cntF (b : Nat → Int64) : Int64 := sumF (itF b 23) 64
theorem bs_lo {c w : Int} (h0 : 0 ≤ c) (h1 : c ≤ 63) : -1 ≤ bs c w ∧ bs c w ≤ 63 := by unfold bs; omega
theorem psum_congr {f g : Nat → Int64} (h : ∀ j : Nat, j < 64 → f j = g j) {c : Int} (h0 : 0 ≤ c) (h1 : c ≤ 63) : ∀ w : Nat, psum f c w = psum g c w := by
  intro w
  induction w with
  | zero => rfl
  | succ w ih =>
    unfold psum
    rw [ih]
    have := bs_lo (w := w) h0 h1
    split
    · rfl
    · rw [h _ (by omega)]
theorem stepF_congr {f g : Nat → Int64} (h : ∀ j : Nat, j < 64 → f j = g j) (b : Int64) {j : Nat} (hj : j < 64) : stepF f b j = stepF g b j := by
  unfold stepF; rw [psum_congr h (by omega) (by omega)]
theorem sumF_congr {f g : Nat → Int64} {n : Nat} (h : ∀ j : Nat, j < n → f j = g j) : sumF f n = sumF g n := by
  induction n with
  | zero => rfl
  | succ n ih => unfold sumF; rw [ih (fun j hj => h j (by omega)), h n (by omega)]
theorem g5_clamp (x : Int32) : x.toNatClampNeg = x.toInt.toNat := rfl
/-- the next place of a row that is filled from the left -/
theorem g5_fillJ {f X : Nat → Int64} {k k' : Int32} {v : Int64} (ih : ∀ j : Nat, (j : Int) < k.toInt → f j = X j) (h0 : 0 ≤ k.toInt) (h1 : k'.toInt = k.toInt + 1) (h2 : v = X k.toInt.toNat) : ∀ j : Nat, (j : Int) < k'.toInt → vp_updL f k.toNatClampNeg v j = X j := by
  intro j hj
  have e := g5_clamp k
  unfold vp_updL
  by_cases hjk : j = k.toNatClampNeg
  · rw [if_pos hjk, h2, hjk, e]
  · rw [if_neg hjk]; exact ih j (by omega)
theorem g5_fillI {f X : Nat → Int32} {k k' : Int32} {v : Int32} (ih : ∀ j : Nat, (j : Int) < k.toInt → f j = X j) (h0 : 0 ≤ k.toInt) (h1 : k'.toInt = k.toInt + 1) (h2 : v = X k.toInt.toNat) : ∀ j : Nat, (j : Int) < k'.toInt → upd f k.toNatClampNeg v j = X j := by
  intro j hj
  have e := g5_clamp k
  unfold upd
  by_cases hjk : j = k.toNatClampNeg
  · rw [if_pos hjk, h2, hjk, e]
  · rw [if_neg hjk]; exact ih j (by omega)
theorem g5_keepJ {f X : Nat → Int64} {k : Int32} {v : Int64} (ih : ∀ j : Nat, (j : Int) < k.toInt → f j = X j) : ∀ j : Nat, (j : Int) < k.toInt → vp_updL f k.toNatClampNeg v j = X j := by
  intro j hj
  have e := g5_clamp k
  unfold vp_updL
  rw [if_neg (by omega)]; exact ih j hj
theorem g5_atJ {f : Nat → Int64} {k : Int32} {v : Int64} : vp_updL f k.toNatClampNeg v k.toInt.toNat = v := by
  unfold vp_updL; rw [if_pos (g5_clamp k).symm]
theorem g5_ps0 {f : Nat → Int64} {c : Int} {w w' r : Int32} {x : Int64} (h : x = psum f c w.toInt.toNat) (h0 : 0 ≤ w.toInt) (h1 : w'.toInt = w.toInt + 1) (hr : r.toInt = bs c w.toInt) (hb : r.toInt = -1) : x = psum f c w'.toInt.toNat := by
  have e : w'.toInt.toNat = w.toInt.toNat + 1 := by omega
  have e2 : ((w.toInt.toNat : Nat) : Int) = w.toInt := by omega
  rw [e]; unfold psum; rw [e2, if_pos (by omega)]; exact h
theorem g5_ps1 {f g : Nat → Int64} {c : Int} {k w w' r : Int32} (h : g k.toInt.toNat = psum f c w.toInt.toNat) (h0 : 0 ≤ w.toInt) (h1 : w'.toInt = w.toInt + 1) (hr : r.toInt = bs c w.toInt) (hb : r.toInt ≠ -1) : vp_updL g k.toNatClampNeg (g k.toNatClampNeg + f r.toNatClampNeg) k.toInt.toNat = psum f c w'.toInt.toNat := by
  have e : w'.toInt.toNat = w.toInt.toNat + 1 := by omega
  have e2 : ((w.toInt.toNat : Nat) : Int) = w.toInt := by omega
  rw [g5_atJ, e]; unfold psum; rw [e2, if_neg (by omega), ← h, ← hr]; rfl
/-- a row of a step is done -/
theorem g5_row1 {f g : Nat → Int64} {b : Int64} {k k' w : Int32} (ih : ∀ j : Nat, (j : Int) < k.toInt → g j = stepF f b j) (h0 : 0 ≤ k.toInt) (h1 : k'.toInt = k.toInt + 1) (h : g k.toInt.toNat = psum f k.toInt w.toInt.toNat) (hw : (w.toInt = 5 ∧ onB b k.toInt = false) ∨ (w.toInt = 0 ∧ onB b k.toInt = true)) : ∀ j : Nat, (j : Int) < k'.toInt → g j = stepF f b j := by
  intro j hj
  by_cases hjk : (j : Int) < k.toInt
  · exact ih j hjk
  · have e : (j : Int) = k.toInt := by omega
    have e3 : j = k.toInt.toNat := by omega
    subst e3
    unfold stepF
    rw [h, e]
    rcases hw with ⟨a, b⟩ | ⟨a, b⟩
    · rw [if_neg (by rw [b]; decide), a]; rfl
    · rw [if_pos b, a]; rfl
theorem g5_it {b f g : Nat → Int64} {n n1 : Nat} {h : Int32} (e1 : h.toInt = (n1 : Int)) (e2 : n1 = n + 1) (hI : ∀ j : Nat, j < 64 → f j = itF b n j) (hg : ∀ j : Nat, j < 64 → g j = stepF f (b h.toNatClampNeg) j) : ∀ j : Nat, j < 64 → g j = itF b n1 j := by
  intro j hj
  have e : h.toNatClampNeg = n1 := by rw [g5_clamp]; omega
  rw [hg j hj, e, stepF_congr hI _ hj, e2]; rfl
theorem g5_or1 {x : Int32} (h0 : 0 ≤ x.toInt) (h1 : x.toInt ≤ 1) : x ||| 1 = 1 := by
  rcases (show x.toInt = 0 ∨ x.toInt = 1 by omega) with h | h
  · rw [g5_toc (k := 0) (n := 0) (by decide) h]; decide
  · rw [g5_toc (k := 1) (n := 1) (by decide) h]; decide
theorem g5_ini1 {b : Int64} {k : Int32} (h0 : 0 ≤ k.toInt) (h : onB b k.toInt = true) : (0 : Int64) = iniF b k.toInt.toNat := by
  unfold iniF; rw [if_pos (by rw [Int.toNat_of_nonneg h0]; exact h)]
theorem g5_ini0 {b : Int64} {k : Int32} (h0 : 0 ≤ k.toInt) (h : onB b k.toInt = false) : (1 : Int64) = iniF b k.toInt.toNat := by
  unfold iniF; rw [if_neg (by rw [Int.toNat_of_nonneg h0, h]; decide)]
theorem g5_sum {f : Nat → Int64} {x : Int64} {k k' : Int32} (h : x = sumF f k.toInt.toNat) (h0 : 0 ≤ k.toInt) (h1 : k'.toInt = k.toInt + 1) : x + f k.toNatClampNeg = sumF f k'.toInt.toNat := by
  have e : k'.toInt.toNat = k.toInt.toNat + 1 := by omega
  rw [e]; unfold sumF; rw [h, g5_clamp]
theorem g5_cnt {b f : Nat → Int64} {x : Int64} {k : Int32} (h : x = sumF f k.toInt.toNat) (hk : k.toInt = 64) (hF : ∀ j : Nat, j < 64 → f j = itF b 23 j) : x = cntF b := by
  unfold cntF; rw [h, hk]; exact sumF_congr hF
/-- the lowest n bits -/
def fullN : Nat → Int64
  | 0 => 0
  | n + 1 => fullN n ||| ((1 : Int64) <<< ((nI n).toInt64 &&& 63))
theorem g5_full {x : Int64} {k k' : Int32} (h : x = fullN k.toInt.toNat) (h0 : 0 ≤ k.toInt) (h1 : k'.toInt = k.toInt + 1) : x ||| ((1 : Int64) <<< (k.toInt64 &&& 63)) = fullN k'.toInt.toNat := by
  have e : k'.toInt.toNat = k.toInt.toNat + 1 := by omega
  rw [e]; unfold fullN; rw [h, ← g5_nI h0]
theorem g5_full64 {x : Int64} {k : Int32} (h : x = fullN k.toInt.toNat) (hk : k.toInt = 64) : x = -1 := by
  rw [h, hk]; decide
/-- the cells of a look over an empty house, each way -/
def gW (w : Nat) (c : Int) (j : Nat) : Int := if w = 0 then c - 8 * ((j : Int) + 1) else if w = 1 then c + ((j : Int) + 1) else if w = 2 then c + 8 * ((j : Int) + 1) else c - ((j : Int) + 1)
def nW (w : Nat) (c : Int) : Int := if w = 0 then c / 8 else if w = 1 then 7 - c % 8 else if w = 2 then 7 - c / 8 else c % 8
def bitI (c : Int) : Int64 := (1 : Int64) <<< ((nI c.toNat).toInt64 &&& 63)
def rayN (b0 : Int64) (g : Nat → Int) : Nat → Int64
  | 0 => b0
  | n + 1 => rayN b0 g n ||| bitI (g n)
theorem g5_ray {b0 x : Int64} {g : Nat → Int} {i i' v : Int32} (h : x = rayN b0 g i.toInt.toNat) (h0 : 0 ≤ i.toInt) (h1 : i'.toInt = i.toInt + 1) (hv : v.toInt = g i.toInt.toNat) (h2 : 0 ≤ v.toInt) : x ||| ((1 : Int64) <<< (v.toInt64 &&& 63)) = rayN b0 g i'.toInt.toNat := by
  have e : i'.toInt.toNat = i.toInt.toNat + 1 := by omega
  rw [e]; unfold rayN bitI; rw [h, ← hv, ← g5_nI h2]
def litB (c : Int) : Int64 := rayN (rayN (rayN (rayN 0 (gW 0 c) (nW 0 c).toNat) (gW 1 c) (nW 1 c).toNat) (gW 2 c) (nW 2 c).toNat) (gW 3 c) (nW 3 c).toNat
theorem g5_bar0 {f : Nat → Int64} {h : Nat} {g : Nat → Int} {k : Int32} (hk : k.toInt = 0) : ∀ j : Nat, f j = vp_updL f h (rayN (f h) g k.toInt.toNat) j := by
  intro j; rw [hk]; unfold vp_updL; split
  · rename_i e; subst e; rfl
  · rfl
theorem g5_bar {f k : Nat → Int64} {h : Nat} {g : Nat → Int} {i i' v x : Int32} (ih : ∀ j : Nat, k j = vp_updL f h (rayN (f h) g i.toInt.toNat) j) (h0 : 0 ≤ i.toInt) (h1 : i'.toInt = i.toInt + 1) (hx : x.toInt = (h : Int)) (hv : v.toInt = g i.toInt.toNat) (h2 : 0 ≤ v.toInt) : ∀ j : Nat, vp_updL k x.toNatClampNeg (k x.toNatClampNeg ||| ((1 : Int64) <<< (v.toInt64 &&& 63))) j = vp_updL f h (rayN (f h) g i'.toInt.toNat) j := by
  intro j
  have ex : x.toNatClampNeg = h := by rw [g5_clamp]; omega
  rw [ex]
  have e0 : k h = rayN (f h) g i.toInt.toNat := by rw [ih h]; unfold vp_updL; rw [if_pos rfl]
  unfold vp_updL
  by_cases hj : j = h
  · rw [if_pos hj, if_pos hj, e0]; exact g5_ray rfl h0 h1 hv h2
  · rw [if_neg hj, if_neg hj, ih j]; unfold vp_updL; rw [if_neg hj]
theorem g5_ray0 {b0 x : Int64} {g : Nat → Int} (h : x = b0) : x = rayN b0 g (0 : Int32).toInt.toNat := by
  rw [show (0 : Int32).toInt.toNat = 0 from by decide]; exact h
/-! tables of numbers, any state -/
/-- not the same: hidden from omega, which splits at each -/
def gNe (a b : Int) : Prop := a ≠ b
theorem g_up {x k N : Int} (h : k < x) (h2 : k < N) : Int.toNat (N - x) < Int.toNat (N - k) := by omega
theorem g_dn {x k : Int} (h : x < k) (h2 : 0 ≤ k) : Int.toNat (x + 1) < Int.toNat (k + 1) := by omega
def tget (f : Nat → Int32) (n w r c : Int) : Int32 := if 0 ≤ r ∧ r < n ∧ 0 ≤ c ∧ c < w then f (r * w + c).toNat else -1
def tset (f : Nat → Int32) (n w r c : Int) (v : Int32) : Nat → Int32 := if 0 ≤ r ∧ r < n ∧ 0 ≤ c ∧ c < w then upd f (r * w + c).toNat v else f
def tfil (f : Nat → Int32) (n w : Int) (v : Int32) (k : Int) : Nat → Int32 := fun j => if n * w ≤ (j : Int) ∧ (j : Int) < n * w + k then v else f j
theorem qt_getN {f : Nat → Int32} {n w r c : Int} (h : ¬ (0 ≤ r ∧ r < n ∧ 0 ≤ c ∧ c < w)) : (-1 : Int32) = tget f n w r c := by
  unfold tget; rw [if_neg h]
theorem qt_get {f : Nat → Int32} {n w r c : Int} {x : Int32} (h : 0 ≤ r ∧ r < n ∧ 0 ≤ c ∧ c < w) (hx : x.toInt = r * w + c) : f x.toNatClampNeg = tget f n w r c := by
  unfold tget; rw [if_pos h, g5_clamp, hx]
theorem qt_setN {f : Nat → Int32} {n w r c : Int} {v : Int32} (h : ¬ (0 ≤ r ∧ r < n ∧ 0 ≤ c ∧ c < w)) : f = tset f n w r c v := by
  unfold tset; rw [if_neg h]
theorem qt_set {f : Nat → Int32} {n w r c : Int} {x v : Int32} (h : 0 ≤ r ∧ r < n ∧ 0 ≤ c ∧ c < w) (hx : x.toInt = r * w + c) : upd f x.toNatClampNeg v = tset f n w r c v := by
  unfold tset; rw [if_pos h, g5_clamp, hx]
theorem qt_fil0 {f : Nat → Int32} {n w : Int} {v : Int32} : f = tfil f n w v (0 : Int32).toInt := by
  funext j
  unfold tfil
  rw [show (0 : Int32).toInt = 0 from by decide, if_neg (by omega)]
theorem qt_filS {f g : Nat → Int32} {n w m : Int} {v : Int32} {k k' r : Int32} (h : g = tfil f n w v k.toInt) (hr : r.toInt = n) (hk : 0 ≤ k.toInt ∧ k.toInt < w) (hk' : k'.toInt = k.toInt + 1) (hn : 0 ≤ n ∧ n < m) (hw : 0 ≤ n * w) : tset g m w r.toInt k.toInt v = tfil f n w v k'.toInt := by
  unfold tset
  rw [if_pos ⟨by omega, by omega, hk.1, hk.2⟩, h, hr]
  funext j
  unfold upd tfil
  by_cases e : j = (n * w + k.toInt).toNat
  · rw [if_pos e, if_pos (by omega)]
  · rw [if_neg e]
    by_cases z : n * w ≤ (j : Int) ∧ (j : Int) < n * w + k.toInt
    · rw [if_pos z, if_pos (by omega)]
    · rw [if_neg z, if_neg (by omega)]
/-- the sightings that saw, among the first k -/
def snS (f : Nat → Int32) (n : Int) : Nat → Int
  | 0 => 0
  | k + 1 => snS f n k + (tget f n 4 k (3 : Int32).toInt).toInt
theorem h_snS0 {f : Nat → Int32} {n : Int} : (0 : Int32).toInt = snS f n (0 : Int32).toInt.toNat := by
  rw [show (0 : Int32).toInt.toNat = 0 from by decide]; show _ = (0 : Int); decide
theorem h_snS {f : Nat → Int32} {n : Int} {k k' s s' z : Int32} (h : s.toInt = snS f n k.toInt.toNat) (hz : z = tget f n 4 k.toInt (3 : Int32).toInt) (_he : ∀ r : Int, 0 ≤ r → r < n → 0 ≤ (tget f n 4 r (3 : Int32).toInt).toInt ∧ (tget f n 4 r (3 : Int32).toInt).toInt ≤ 1) (h0 : 0 ≤ k.toInt) (hk : k'.toInt = k.toInt + 1) (hs : s'.toInt = s.toInt + z.toInt) : s'.toInt = snS f n k'.toInt.toNat := by
  have e : k'.toInt.toNat = k.toInt.toNat + 1 := by omega
  have e2 : ((k.toInt.toNat : Nat) : Int) = k.toInt := by omega
  rw [e]
  show _ = snS f n k.toInt.toNat + (tget f n 4 ((k.toInt.toNat : Nat) : Int) (3 : Int32).toInt).toInt
  rw [e2, ← hz, ← h]; exact hs
/-- a body's cells from an hour to another, the last one not in it -/
def bput (f : Nat → Int32) (n r a b : Int) (v : Int32) : Nat → Int32 := fun j => if 0 ≤ r ∧ r < n ∧ r * 24 + a ≤ (j : Int) ∧ (j : Int) < r * 24 + b then v else f j
/-- where the first k bodies are in an hour -/
def bbd (f : Nat → Int32) (n h : Int) : Nat → Int64
  | 0 => 0
  | k + 1 => bbd f n h k ||| (if tget f n 24 k h = -1 then 0 else (1 : Int64) <<< ((tget f n 24 k h).toInt64 &&& 63))
theorem b_put0 {f : Nat → Int32} {n r a : Int} {v : Int32} : f = bput f n r a a v := by
  funext j; unfold bput; rw [if_neg (by omega)]
theorem b_putS {f g : Nat → Int32} {n r a : Int} {v : Int32} {h h' : Int32} (e : g = bput f n r a h.toInt v) (ha : a ≤ h.toInt) (h0 : 0 ≤ h.toInt) (h1 : h.toInt ≤ 23) (hh : h'.toInt = h.toInt + 1) : tset g n 24 r h.toInt v = bput f n r a h'.toInt v := by
  rw [e]
  funext j
  unfold tset bput
  by_cases q : 0 ≤ r ∧ r < n ∧ 0 ≤ h.toInt ∧ h.toInt < 24
  · rw [if_pos q]
    unfold upd
    by_cases z : j = (r * 24 + h.toInt).toNat
    · rw [if_pos z, if_pos (by omega)]
    · rw [if_neg z]
      show (if 0 ≤ r ∧ r < n ∧ r * 24 + a ≤ (j : Int) ∧ (j : Int) < r * 24 + h.toInt then v else f j) = _
      by_cases y : 0 ≤ r ∧ r < n ∧ r * 24 + a ≤ (j : Int) ∧ (j : Int) < r * 24 + h.toInt
      · rw [if_pos y, if_pos (by omega)]
      · rw [if_neg y, if_neg (by omega)]
  · rw [if_neg q]
    by_cases y : 0 ≤ r ∧ r < n ∧ r * 24 + a ≤ (j : Int) ∧ (j : Int) < r * 24 + h.toInt
    · rw [if_pos y, if_pos (by omega)]
    · rw [if_neg y, if_neg (by omega)]
theorem b_bbd0 {f : Nat → Int32} {n h : Int} : (0 : Int64) = bbd f n h (0 : Int32).toInt.toNat := by
  rw [show (0 : Int32).toInt.toNat = 0 from by decide]; rfl
theorem b_bbdN {f : Nat → Int32} {n h : Int} {x : Int64} {k k' z : Int32} (e : x = bbd f n h k.toInt.toNat) (hz : z = tget f n 24 k.toInt h) (hn : z.toInt = -1) (h0 : 0 ≤ k.toInt) (hk : k'.toInt = k.toInt + 1) : x = bbd f n h k'.toInt.toNat := by
  have e1 : k'.toInt.toNat = k.toInt.toNat + 1 := by omega
  have e2 : ((k.toInt.toNat : Nat) : Int) = k.toInt := by omega
  rw [e1]
  show _ = bbd f n h k.toInt.toNat ||| (if tget f n 24 ((k.toInt.toNat : Nat) : Int) h = -1 then 0 else (1 : Int64) <<< ((tget f n 24 ((k.toInt.toNat : Nat) : Int) h).toInt64 &&& 63))
  rw [e2, ← hz, if_pos (g5_toc (n := -1) (by decide) hn), ← e, Int64.or_zero]
theorem b_bbdS {f : Nat → Int32} {n h : Int} {x : Int64} {k k' z : Int32} (e : x = bbd f n h k.toInt.toNat) (hz : z = tget f n 24 k.toInt h) (hn : z.toInt ≠ -1) (h0 : 0 ≤ k.toInt) (hk : k'.toInt = k.toInt + 1) : x ||| ((1 : Int64) <<< (z.toInt64 &&& 63)) = bbd f n h k'.toInt.toNat := by
  have e1 : k'.toInt.toNat = k.toInt.toNat + 1 := by omega
  have e2 : ((k.toInt.toNat : Nat) : Int) = k.toInt := by omega
  rw [e1]
  show _ = bbd f n h k.toInt.toNat ||| (if tget f n 24 ((k.toInt.toNat : Nat) : Int) h = -1 then 0 else (1 : Int64) <<< ((tget f n 24 ((k.toInt.toNat : Nat) : Int) h).toInt64 &&& 63))
  rw [e2, ← hz, if_neg (fun q => hn (by rw [q]; decide)), e]
theorem tget_col {f : Nat → Int32} {n r h c k : Int} {v : Int32} (h0 : 0 ≤ h ∧ h < 24) (hc : 0 ≤ c ∧ c < 24) (hne : h ≠ c) : tget (tset f n 24 r h v) n 24 k c = tget f n 24 k c := by
  unfold tget tset
  by_cases q : 0 ≤ k ∧ k < n ∧ 0 ≤ c ∧ c < 24
  · rw [if_pos q, if_pos q]
    by_cases z : 0 ≤ r ∧ r < n ∧ 0 ≤ h ∧ h < 24
    · rw [if_pos z]; unfold upd; rw [if_neg (by omega)]
    · rw [if_neg z]
  · rw [if_neg q, if_neg q]
theorem bbd_col {f : Nat → Int32} {n r h c : Int} {v : Int32} (h0 : 0 ≤ h ∧ h < 24) (hc : 0 ≤ c ∧ c < 24) (hne : h ≠ c) : ∀ k : Nat, bbd (tset f n 24 r h v) n c k = bbd f n c k := by
  intro k
  induction k with
  | zero => rfl
  | succ k ih =>
    show bbd (tset f n 24 r h v) n c k ||| _ = bbd f n c k ||| _
    rw [ih, tget_col h0 hc hne]
/-- the boards stay true when an hour's cells are set and its board is made anew -/
theorem b_step {f : Nat → Int32} {bb : Nat → Int64} {n r : Int} {v : Int32} {x : Int64} {h : Int32} (h0 : 0 ≤ h.toInt ∧ h.toInt ≤ 23) (ih : ∀ c : Nat, c < 24 → bb c = bbd f n c n.toNat) (hx : x = bbd (tset f n 24 r h.toInt v) n h.toInt n.toNat) : ∀ c : Nat, c < 24 → vp_updL bb h.toNatClampNeg x c = bbd (tset f n 24 r h.toInt v) n c n.toNat := by
  intro c hc
  unfold vp_updL
  rw [g5_clamp]
  by_cases e : c = h.toInt.toNat
  · rw [if_pos e, hx]; congr 1; omega
  · rw [if_neg e, ih c hc, bbd_col (by omega) (by omega) (by omega)]
theorem g_nlt0 {x : Int32} (h : 0 ≤ x.toInt) : ¬ x < 0 := by
  intro q
  have z := Int32.lt_iff_toInt_lt.mp q
  rw [show (0 : Int32).toInt = 0 from by decide] at z
  omega
/-- a table without one of its rows -/
def trem (f : Nat → Int32) (n w r : Int) : Nat → Int32 := fun j => if r * w ≤ (j : Int) ∧ (j : Int) < (n - 1) * w then f (j + w.toNat) else f j
theorem qt_rem {f : Nat → Int32} {n w r : Int} {x y z : Int32} (hr : 0 ≤ r ∧ r < n) (hw : 0 ≤ w) (h1 : 0 ≤ r * w) (hx : x.toInt = r * w + w) (hy : y.toInt = r * w) (hz : z.toInt = n * w - (r * w + w)) (h2 : 0 ≤ n * w - (r * w + w)) (h3 : (n - 1) * w = n * w - w) : va_cpy f f x.toNatClampNeg y.toNatClampNeg z.toNatClampNeg = trem f n w r := by
  have cx := g5_clamp x
  have cy := g5_clamp y
  have cz := g5_clamp z
  funext j
  unfold va_cpy trem
  by_cases q : r * w ≤ (j : Int) ∧ (j : Int) < (n - 1) * w
  · rw [if_pos q, if_pos (by omega)]; congr 1; omega
  · rw [if_neg q, if_neg (by omega)]
theorem g_a4095 (x : Int32) : 0 ≤ (x &&& 4095).toInt ∧ (x &&& 4095).toInt ≤ 4095 := by
  have h2 : (x &&& 4095).toBitVec.toNat = x.toBitVec.toNat % 2 ^ 12 := by
    rw [Int32.toBitVec_and, BitVec.toNat_and, show (4095 : Int32).toBitVec.toNat = 2 ^ 12 - 1 from by decide, Nat.and_two_pow_sub_one_eq_mod]
  have h3 : (x &&& 4095).toInt = ((x &&& 4095).toBitVec.toNat : Int) := by
    show (x &&& 4095).toBitVec.toInt = _
    rw [BitVec.toInt_eq_toNat_cond, if_pos]
    rw [h2]; omega
  rw [h3, h2]; omega
theorem g_maxI (x y : Int32) : x.toInt ≤ (if x < y then y else x).toInt ∧ y.toInt ≤ (if x < y then y else x).toInt ∧ ((if x < y then y else x).toInt = x.toInt ∨ (if x < y then y else x).toInt = y.toInt) := by
  by_cases h : x < y
  · rw [if_pos h]
    have := Int32.lt_iff_toInt_lt.mp h
    omega
  · rw [if_neg h]
    have : ¬ x.toInt < y.toInt := fun q => h (Int32.lt_iff_toInt_lt.mpr q)
    omega
theorem g_told {m : Int32} {s : Int64} (h0 : 0 ≤ m.toInt) (h1 : m.toInt ≤ 1000) : 0 ≤ ((if (if s < m.toInt64 then s else m.toInt64) < 0 then 0 else (if s < m.toInt64 then s else m.toInt64)).toInt32).toInt ∧ ((if (if s < m.toInt64 then s else m.toInt64) < 0 then 0 else (if s < m.toInt64 then s else m.toInt64)).toInt32).toInt ≤ m.toInt := by
  have e : m.toInt64.toInt = m.toInt := Int32.toInt_toInt64 m
  have z : (0 : Int64).toInt = 0 := by decide
  have key : ∀ w : Int64, 0 ≤ w.toInt → w.toInt ≤ m.toInt → 0 ≤ w.toInt32.toInt ∧ w.toInt32.toInt ≤ m.toInt := by
    intro w a b
    rw [Int64.toInt_toInt32, g5_bm (by omega) (by omega)]
    exact ⟨a, b⟩
  generalize hw : (if s < m.toInt64 then s else m.toInt64) = w
  have hle : w.toInt ≤ m.toInt := by
    rw [← hw]
    by_cases q : s < m.toInt64
    · rw [if_pos q]
      have := Int64.lt_iff_toInt_lt.mp q
      omega
    · rw [if_neg q]; omega
  by_cases q : w < 0
  · rw [if_pos q]; exact key 0 (by omega) (by omega)
  · rw [if_neg q]
    have : ¬ w.toInt < (0 : Int64).toInt := fun r => q (Int64.lt_iff_toInt_lt.mpr r)
    exact key w (by omega) hle
theorem g_incN (x : Int32) (n : Int) (hn : -1000000 ≤ n ∧ n ≤ 0) (h1 : -2147483648 ≤ x.toInt + n) (_h2 : x.toInt + n < 2147483648) : ∃ y : Int32, x + Int32.ofInt n = y ∧ y.toInt = x.toInt + n := by
  refine ⟨_, rfl, ?_⟩
  have hx := g5_rg x
  have e : (Int32.ofInt n).toInt = n := by
    rw [Int32.toInt_ofInt, g5_bm (by omega) (by omega)]
  exact g5_iadd rfl e h1 (by omega)
theorem bitI_nat (c : Nat) (h : c < 64) : (bitI c).toBitVec = BitVec.twoPow 64 c := by
  have : ∀ k : Nat, k < 64 → (bitI k).toBitVec = BitVec.twoPow 64 k := by decide +kernel
  exact this c h
theorem onB_or (b : Int64) {c x : Int} (h0 : 0 ≤ c) (h1 : c ≤ 63) (h2 : 0 ≤ x) (h3 : x ≤ 63) : onB (b ||| bitI c) x = (onB b x || decide (x = c)) := by
  unfold onB
  have e := bitI_nat c.toNat (by omega)
  rw [Int.toNat_of_nonneg h0] at e
  rw [Int64.toBitVec_or, BitVec.getLsbD_or, e, BitVec.getLsbD_twoPow]
  congr 1
  rw [decide_eq_true (by omega : c.toNat < 64), Bool.true_and]
  rw [decide_eq_decide]; omega
theorem onB_zero (c : Int) : onB 0 c = false := by unfold onB; simp
/-- every cell of a board is the cell of a row of a table that is five wide -/
def inT (x : Int64) (f : Nat → Int32) (n : Int) : Prop := ∀ c : Int, 0 ≤ c → c ≤ 63 → onB x c = true → ∃ r : Int, 0 ≤ r ∧ r < n ∧ (tget f n 5 r (0 : Int32).toInt).toInt = c
theorem inT_zero {f : Nat → Int32} {n : Int} : inT 0 f n := by
  intro c _ _ h
  rw [onB_zero] at h; exact absurd h (by decide)
theorem inT_or {x : Int64} {f : Nat → Int32} {n : Int} {k z : Int32} (h : inT x f n) (hz : z = tget f n 5 k.toInt (0 : Int32).toInt) (hk : 0 ≤ k.toInt ∧ k.toInt < n) (hc : 0 ≤ z.toInt ∧ z.toInt ≤ 63) : inT (x ||| ((1 : Int64) <<< (z.toInt64 &&& 63))) f n := by
  intro c h0 h1 hon
  have e : (1 : Int64) <<< (z.toInt64 &&& 63) = bitI z.toInt := by
    unfold bitI; rw [← g5_nI hc.1]
  rw [e, onB_or x hc.1 hc.2 h0 h1, Bool.or_eq_true] at hon
  rcases hon with q | q
  · exact h c h0 h1 q
  · refine ⟨k.toInt, hk.1, hk.2, ?_⟩
    rw [← hz]; exact (of_decide_eq_true q).symm
/-- rows of glasses or spots: cell, sort, late, dust -/
def gOK (f : Nat → Int32) (n : Int) : Prop := ∀ r : Int, 0 ≤ r → r < n → (0 ≤ (tget f n 5 r (0 : Int32).toInt).toInt ∧ (tget f n 5 r (0 : Int32).toInt).toInt ≤ 63) ∧ (0 ≤ (tget f n 5 r (1 : Int32).toInt).toInt ∧ (tget f n 5 r (1 : Int32).toInt).toInt ≤ 5) ∧ (0 ≤ (tget f n 5 r (2 : Int32).toInt).toInt ∧ (tget f n 5 r (2 : Int32).toInt).toInt ≤ 23) ∧ (0 ≤ (tget f n 5 r (3 : Int32).toInt).toInt ∧ (tget f n 5 r (3 : Int32).toInt).toInt ≤ 10)
def inR (f : Nat → Int32) (n c : Int) : Prop := ∃ r : Int, 0 ≤ r ∧ r < n ∧ (tget f n 5 r (0 : Int32).toInt).toInt = c
theorem g_notin {f : Nat → Int32} {n : Int} {c : Int32} (h : ∀ r : Int, 0 ≤ r → r < n → tget f n 5 r (0 : Int32).toInt ≠ c) : ¬ inR f n c.toInt := by
  rintro ⟨r, a, b, e⟩
  exact h r a b (Int32.toInt_inj.mp e)
theorem g_xorN (w : Nat) (h : w < 4) : (0 ≤ ((nI w) ^^^ 1).toInt ∧ ((nI w) ^^^ 1).toInt ≤ 3) ∧ (0 ≤ ((nI w) ^^^ 2).toInt ∧ ((nI w) ^^^ 2).toInt ≤ 3) := by
  have : ∀ k : Nat, k < 4 → (0 ≤ ((nI k) ^^^ 1).toInt ∧ ((nI k) ^^^ 1).toInt ≤ 3) ∧ (0 ≤ ((nI k) ^^^ 2).toInt ∧ ((nI k) ^^^ 2).toInt ≤ 3) := by decide +kernel
  exact this w h
theorem g_xor {w : Int32} (h0 : 0 ≤ w.toInt) (h1 : w.toInt ≤ 3) : (0 ≤ (w ^^^ 1).toInt ∧ (w ^^^ 1).toInt ≤ 3) ∧ (0 ≤ (w ^^^ 2).toInt ∧ (w ^^^ 2).toInt ≤ 3) := by
  rw [g5_nI h0]; exact g_xorN _ (by omega)
theorem g_dust {b d : Int32} (hb : 0 ≤ b.toInt ∧ b.toInt ≤ 1000000) (hd : 0 ≤ d.toInt ∧ d.toInt ≤ 10) : 0 ≤ (b * (10 - d) / 10).toInt ∧ (b * (10 - d) / 10).toInt ≤ 1000000 := by
  have e1 : (10 - d).toInt = 10 - d.toInt := g5_isub (by decide) rfl (by omega) (by omega)
  have p0 : 0 ≤ b.toInt * (10 - d.toInt) := Int.mul_nonneg hb.1 (by omega)
  have p1 : b.toInt * (10 - d.toInt) ≤ 1000000 * 10 := Int.mul_le_mul hb.2 (by omega) (by omega) (by omega)
  have e2 : (b * (10 - d)).toInt = b.toInt * (10 - d.toInt) := g5_imul rfl e1 (by omega) (by omega)
  have e3 : (b * (10 - d) / 10).toInt = b.toInt * (10 - d.toInt) / 10 := g5_idiv (a := b.toInt * (10 - d.toInt)) (b := 10) e2 (by decide) (by omega) (by decide)
  rw [e3]; omega
theorem g_rows {f : Nat → Int32} {k k' v : Int32} {lo hi : Int} (ih : ∀ j : Nat, (j : Int) < k.toInt → lo ≤ (f j).toInt ∧ (f j).toInt ≤ hi) (h0 : 0 ≤ k.toInt) (h1 : k'.toInt = k.toInt + 1) (h2 : lo ≤ v.toInt ∧ v.toInt ≤ hi) : ∀ j : Nat, (j : Int) < k'.toInt → lo ≤ (upd f k.toNatClampNeg v j).toInt ∧ (upd f k.toNatClampNeg v j).toInt ≤ hi := by
  intro j hj
  have e := g5_clamp k
  unfold upd
  by_cases hjk : j = k.toNatClampNeg
  · rw [if_pos hjk]; exact h2
  · rw [if_neg hjk]; exact ih j (by omega)
theorem g_inor {a b : Int64} {f g : Nat → Int32} {n m c : Int} (ha : inT a f n) (hb : inT b g m) (h0 : 0 ≤ c) (h1 : c ≤ 63) (h : onB (a ||| b) c = true) : inR f n c ∨ inR g m c := by
  have e : onB (a ||| b) c = (onB a c || onB b c) := by
    unfold onB; rw [Int64.toBitVec_or, BitVec.getLsbD_or]
  rw [e, Bool.or_eq_true] at h
  rcases h with q | q
  · exact Or.inl (ha c h0 h1 q)
  · exact Or.inr (hb c h0 h1 q)
theorem gOK_cell {f : Nat → Int32} {n : Int} (h : gOK f n) : ∀ r : Int, 0 ≤ r → r < n → 0 ≤ (tget f n 5 r (0 : Int32).toInt).toInt ∧ (tget f n 5 r (0 : Int32).toInt).toInt ≤ 63 := fun r a b => (h r a b).1
theorem g_shlN (e : Nat) (h : e < 11) : 1 ≤ ((1 : Int32) <<< (nI e &&& 31)).toInt ∧ ((1 : Int32) <<< (nI e &&& 31)).toInt ≤ 1024 ∧ (e ≤ 8 → ((1 : Int32) <<< (nI e &&& 31)).toInt ≤ 256) := by
  have : ∀ k : Nat, k < 11 → 1 ≤ ((1 : Int32) <<< (nI k &&& 31)).toInt ∧ ((1 : Int32) <<< (nI k &&& 31)).toInt ≤ 1024 ∧ (k ≤ 8 → ((1 : Int32) <<< (nI k &&& 31)).toInt ≤ 256) := by decide +kernel
  exact this e h
theorem g_shl8 {e : Int32} (h0 : 0 ≤ e.toInt) (h1 : e.toInt ≤ 8) : 1 ≤ ((1 : Int32) <<< (e &&& 31)).toInt ∧ ((1 : Int32) <<< (e &&& 31)).toInt ≤ 256 := by
  have k := g_shlN e.toInt.toNat (by omega)
  rw [← g5_nI h0] at k
  exact ⟨k.1, k.2.2 (by omega)⟩
/-- masks of at most s bits -/
def mOK (f : Nat → Int32) (s : Nat) : Prop := ∀ j : Nat, j < 1536 → 0 ≤ (f j).toInt ∧ (f j).toInt < ((2 ^ s : Nat) : Int)
theorem m_orN : ∀ s : Nat, s < 5 → ∀ x : Nat, x < 32 → x < 2 ^ (s + 1) → 0 ≤ (nI x ||| nI (2 ^ s)).toInt ∧ (nI x ||| nI (2 ^ s)).toInt < ((2 ^ (s + 1) : Nat) : Int) := by decide +kernel
theorem m_pow {s : Nat} (h : s < 5) : ((2 ^ (s + 1) : Nat) : Int) ≤ 32 := by
  have : ∀ k : Nat, k < 5 → ((2 ^ (k + 1) : Nat) : Int) ≤ 32 := by decide
  exact this s h
theorem m_or {f : Nat → Int32} {s : Nat} {b x : Int32} (hs : s < 5) (hb : b = nI (2 ^ s)) (h : mOK f (s + 1)) (hx : 0 ≤ x.toInt ∧ x.toInt ≤ 1535) : mOK (upd f x.toNatClampNeg (f x.toNatClampNeg ||| b)) (s + 1) := by
  intro j hj
  unfold upd
  by_cases e : j = x.toNatClampNeg
  · rw [if_pos e, hb]
    have k := h x.toNatClampNeg (by rw [g5_clamp]; omega)
    have p := m_pow hs
    have q := m_orN s hs (f x.toNatClampNeg).toInt.toNat (by omega) (by omega)
    rw [← g5_nI k.1] at q
    exact q
  · rw [if_neg e]; exact h j hj
theorem mOK_up {f : Nat → Int32} {s : Nat} (h : mOK f s) : mOK f (s + 1) := by
  intro j hj
  have k := h j hj
  have e : ((2 ^ s : Nat) : Int) ≤ ((2 ^ (s + 1) : Nat) : Int) := by rw [Nat.pow_succ]; omega
  omega
/-! the two static tables at a place that is not known -/
def g_hav : Nat → Int32
  | 0 => -1431655766
  | 1 => -858993460
  | 2 => -252645136
  | 3 => -16711936
  | _ => -65536
theorem g_hav_eq : ∀ j : Nat, g5_hav j = .int (g_hav j)
  | 0 => rfl
  | 1 => rfl
  | 2 => rfl
  | 3 => rfl
  | _ + 4 => rfl
def g_low : Nat → Int32
  | 0 => 0
  | 1 => 3
  | 2 => 4
  | 3 => 1
  | _ => 2
theorem g_low_eq : ∀ j : Nat, g5_low j = .int (g_low j)
  | 0 => rfl
  | 1 => rfl
  | 2 => rfl
  | 3 => rfl
  | _ + 4 => rfl
/-! the thief's load: how many sightings that saw are taken -/
theorem sn_step {f : Nat → Int32} {n : Int} {k k' : Int32} (h0 : 0 ≤ k.toInt) (hk : k'.toInt = k.toInt + 1) : snS f n k'.toInt.toNat = snS f n k.toInt.toNat + (tget f n 4 k.toInt (3 : Int32).toInt).toInt := by
  have e1 : k'.toInt.toNat = k.toInt.toNat + 1 := by omega
  have e2 : ((k.toInt.toNat : Nat) : Int) = k.toInt := by omega
  rw [e1]
  show snS f n k.toInt.toNat + (tget f n 4 ((k.toInt.toNat : Nat) : Int) (3 : Int32).toInt).toInt = _
  rw [e2]
theorem sn_mono {f : Nat → Int32} {n : Int} (he : ∀ r : Int, 0 ≤ r → r < n → 0 ≤ (tget f n 4 r (3 : Int32).toInt).toInt ∧ (tget f n 4 r (3 : Int32).toInt).toInt ≤ 1) (a : Nat) : ∀ d : Nat, ((a + d : Nat) : Int) ≤ n → snS f n a ≤ snS f n (a + d) := by
  intro d
  induction d with
  | zero => intro _; exact Int.le_refl _
  | succ d ih =>
    intro h
    have z := (he ((a + d : Nat) : Int) (by omega) (by omega)).1
    have e : snS f n (a + (d + 1)) = snS f n (a + d) + (tget f n 4 ((a + d : Nat) : Int) (3 : Int32).toInt).toInt := rfl
    have y := ih (by omega)
    omega
theorem sn_le {f : Nat → Int32} {n : Int} {k : Int32} (he : ∀ r : Int, 0 ≤ r → r < n → 0 ≤ (tget f n 4 r (3 : Int32).toInt).toInt ∧ (tget f n 4 r (3 : Int32).toInt).toInt ≤ 1) (h0 : 0 ≤ k.toInt) (h1 : k.toInt ≤ n) : snS f n k.toInt.toNat ≤ snS f n n.toNat := by
  have z := sn_mono he k.toInt.toNat (n.toNat - k.toInt.toNat) (by omega)
  rw [show k.toInt.toNat + (n.toNat - k.toInt.toNat) = n.toNat by omega] at z
  exact z
def LDI (f : Nat → Int32) (n k : Int) (b : Int32) (ad : Nat → Int32) : Prop := ∃ s : Nat, (s : Int) ≤ snS f n k.toNat ∧ b = nI (2 ^ s) ∧ mOK ad s
theorem mOK_0 : mOK (fun _ => 0) 0 := by
  intro j _
  exact ⟨by show 0 ≤ (0 : Int32).toInt; decide, by show (0 : Int32).toInt < _; decide⟩
theorem ld_0 {f : Nat → Int32} {n : Int} : LDI f n (0 : Int32).toInt 1 (fun _ => 0) := ⟨0, by rw [show (0 : Int32).toInt.toNat = 0 from by decide]; exact Int.le_refl _, by decide, mOK_0⟩
theorem ld_stay {f : Nat → Int32} {n : Int} {k k' b : Int32} {ad : Nat → Int32} (h : LDI f n k.toInt b ad) (he : ∀ r : Int, 0 ≤ r → r < n → 0 ≤ (tget f n 4 r (3 : Int32).toInt).toInt ∧ (tget f n 4 r (3 : Int32).toInt).toInt ≤ 1) (h0 : 0 ≤ k.toInt) (h1 : k.toInt < n) (hk : k'.toInt = k.toInt + 1) : LDI f n k'.toInt b ad := by
  obtain ⟨s, a, c, d⟩ := h
  refine ⟨s, ?_, c, d⟩
  rw [sn_step h0 hk]
  have z := (he k.toInt h0 h1).1
  omega
theorem ld_lt {f : Nat → Int32} {n : Int} {k v : Int32} {s : Nat} (hs : (s : Int) ≤ snS f n k.toInt.toNat) (he : ∀ r : Int, 0 ≤ r → r < n → 0 ≤ (tget f n 4 r (3 : Int32).toInt).toInt ∧ (tget f n 4 r (3 : Int32).toInt).toInt ≤ 1) (h5 : snS f n n.toNat ≤ 5) (hv : v = tget f n 4 k.toInt (3 : Int32).toInt) (h1 : v.toInt = 1) (h0 : 0 ≤ k.toInt) (hk : k.toInt < n) : s < 5 := by
  have z := sn_mono he (k.toInt.toNat + 1) (n.toNat - (k.toInt.toNat + 1)) (by omega)
  rw [show k.toInt.toNat + 1 + (n.toNat - (k.toInt.toNat + 1)) = n.toNat by omega] at z
  have e : snS f n (k.toInt.toNat + 1) = snS f n k.toInt.toNat + (tget f n 4 ((k.toInt.toNat : Nat) : Int) (3 : Int32).toInt).toInt := rfl
  rw [show ((k.toInt.toNat : Nat) : Int) = k.toInt by omega, ← hv] at e
  omega
theorem ld_bitN : ∀ s : Nat, s < 5 → nI (2 ^ s) <<< ((1 : Int32) &&& 31) = nI (2 ^ (s + 1)) := by decide +kernel
theorem ld_go {f : Nat → Int32} {n : Int} {k k' b v : Int32} {s : Nat} {ad : Nat → Int32} (hs : (s : Int) ≤ snS f n k.toInt.toNat) (hb : b = nI (2 ^ s)) (h5 : s < 5) (hm : mOK ad (s + 1)) (hv : v = tget f n 4 k.toInt (3 : Int32).toInt) (h1 : v.toInt = 1) (h0 : 0 ≤ k.toInt) (hk : k'.toInt = k.toInt + 1) : LDI f n k'.toInt (b <<< ((1 : Int32) &&& 31)) ad := by
  refine ⟨s + 1, ?_, by rw [hb]; exact ld_bitN s h5, hm⟩
  rw [sn_step h0 hk, ← hv]
  omega
/-- the masks that are wanted, and those that cells add -/
def TOK (fu : Int32) (ad : Nat → Int32) : Prop := ∃ s : Nat, s ≤ 5 ∧ fu = nI (2 ^ s) - 1 ∧ mOK ad s
theorem ld_end {f : Nat → Int32} {n : Int} {k b : Int32} {ad : Nat → Int32} (h : LDI f n k.toInt b ad) (he : ∀ r : Int, 0 ≤ r → r < n → 0 ≤ (tget f n 4 r (3 : Int32).toInt).toInt ∧ (tget f n 4 r (3 : Int32).toInt).toInt ≤ 1) (h5 : snS f n n.toNat ≤ 5) (h0 : 0 ≤ k.toInt) (h1 : k.toInt ≤ n) : TOK (b - 1) ad := by
  obtain ⟨s, a, c, d⟩ := h
  have z := sn_le he h0 h1
  exact ⟨s, by omega, by rw [c], d⟩
theorem tk_powN : ∀ s : Nat, s < 6 → 0 ≤ (nI (2 ^ s) - 1).toInt ∧ (nI (2 ^ s) - 1).toInt ≤ 31 ∧ (nI (2 ^ s) - 1).toInt = ((2 ^ s : Nat) : Int) - 1 := by decide +kernel
theorem tk_fu {fu : Int32} {ad : Nat → Int32} (h : TOK fu ad) : 0 ≤ fu.toInt ∧ fu.toInt ≤ 31 := by
  obtain ⟨s, a, c, _⟩ := h
  have z := tk_powN s (by omega)
  rw [c]; exact ⟨z.1, z.2.1⟩
theorem tk_ad {fu : Int32} {ad : Nat → Int32} (h : TOK fu ad) {j : Nat} (hj : j < 1536) : 0 ≤ (ad j).toInt ∧ (ad j).toInt ≤ fu.toInt := by
  obtain ⟨s, a, c, d⟩ := h
  have z := tk_powN s (by omega)
  have y := d j hj
  rw [c]; omega
theorem tk_orN : ∀ s : Nat, s < 6 → ∀ x : Nat, x < 2 ^ s → ∀ y : Nat, y < 2 ^ s → 0 ≤ (nI x ||| nI y).toInt ∧ (nI x ||| nI y).toInt < ((2 ^ s : Nat) : Int) := by decide +kernel
theorem tk_or {fu : Int32} {ad : Nat → Int32} (h : TOK fu ad) {x y : Int32} (hx : 0 ≤ x.toInt ∧ x.toInt ≤ fu.toInt) (hy : 0 ≤ y.toInt ∧ y.toInt ≤ fu.toInt) : 0 ≤ (x ||| y).toInt ∧ (x ||| y).toInt ≤ fu.toInt := by
  have b := tk_fu h
  obtain ⟨s, a, c, d⟩ := h
  have z := tk_powN s (by omega)
  rw [c] at hx hy b ⊢
  have q := tk_orN s (by omega) x.toInt.toNat (by omega) y.toInt.toNat (by omega)
  rw [← g5_nI hx.1, ← g5_nI hy.1] at q
  omega
theorem g_mulc {c m : Int32} (hc : 0 ≤ c.toInt ∧ c.toInt ≤ 63) (hm : 1 ≤ m.toInt ∧ m.toInt ≤ 32) : 0 ≤ (c * m).toInt ∧ (c * m).toInt ≤ 63 * m.toInt := by
  have p0 : 0 ≤ c.toInt * m.toInt := Int.mul_nonneg hc.1 (by omega)
  have p1 : c.toInt * m.toInt ≤ 63 * m.toInt := Int.mul_le_mul_of_nonneg_right hc.2 (by omega)
  have e : (c * m).toInt = c.toInt * m.toInt := g5_imul rfl rfl (by omega) (by omega)
  rw [e]; exact ⟨p0, p1⟩
/-! the one String constant, its bytes; tokens; a law's code -/
def g5_PK (G : g5_G) (q v : Nat) (ws : va_W) (sz : Nat) (U : State) : Prop := g5_P G ws sz U ∧ vk_R "LateGlass$Tokens" 41 g5_tx q U ∧ vk_S 1 [74] [g5_by] (fun _ => q) (fun _ => v) (va_A ws sz) U U.heap
theorem g5_blindK {G : g5_G} {q v : Nat} {ws : va_W} {sz : Nat} {av : List Value} : FrameBlind (va_Pc av (g5_PK G q v ws sz)) := by
  intro a U g mk h
  obtain ⟨h0, h1, h2, h3⟩ := h
  have z : va_Pc av (g5_P G ws sz) a (U.calling g mk a) := g5_blind a U g mk ⟨h0, h1⟩
  exact ⟨z.1, z.2, vk_R.same (u := U) (U := U.calling g mk a) rfl h2, vk_S.moved (u := U) (U := U.calling g mk a) (Vm.Alike.refl U.vm) h3⟩
theorem g5_preSK {G : g5_G} {s : State} {H : Heap} {locs : List Loc} {A : Nat → Prop} {wc : va_W} {As : List Value} {q v : Nat} (hP : va_P G.1 vwCl wc H) (hK : va_K G.1 vwCl (T5 G) s) (hD : va_D A wc) (hN : g5_N s) (hT : g5_S A s s.heap) (hS : va_S A s.heap H locs) (hF : ∀ q, va_A wc H.size q → A q) (hR : vk_R "LateGlass$Tokens" 41 g5_tx q s) (hV : vk_S 1 [74] [g5_by] (fun _ => q) (fun _ => v) A s s.heap) : PreS s H (va_Pc As (g5_PK G q v wc H.size)) As :=
  ⟨g5_blindK, fun U hU hW => ⟨((g5_preS hP hK hD hN hT hS hF).2 U hU hW).1, ((g5_preS hP hK hD hN hT hS hF (As := As)).2 U hU hW).2, hR.warm hW, by rw [hU]; exact ((hV.kept hS.2.1).narrow hF).moved hW.alike⟩⟩
theorem g5_preVK {G : g5_G} {s : State} {H : Heap} {locs : List Loc} {A : Nat → Prop} {wc : va_W} {As : List Value} {q v : Nat} (hP : va_P G.1 vwCl wc H) (hK : va_K G.1 vwCl (T5 G) s) (hD : va_D A wc) (hN : g5_N s) (hT : g5_S A s s.heap) (hS : va_S A s.heap H locs) (hF : ∀ q, va_A wc H.size q → A q) (hR : vk_R "LateGlass$Tokens" 41 g5_tx q s) (hV : vk_S 1 [74] [g5_by] (fun _ => q) (fun _ => v) A s s.heap) : PreV s H "java/lang/String" q (va_Pc (.ref q :: As) (g5_PK G q v wc H.size)) As :=
  ⟨g5_blindK, vk_recv (i := 0) hV (by decide) hS, fun U hU hW => ⟨rfl, ((g5_preS hP hK hD hN hT hS hF (As := As)).2 U hU hW).2, hR.warm hW, by rw [hU]; exact ((hV.kept hS.2.1).narrow hF).moved hW.alike⟩⟩
theorem g_char (x : Int32) : narrow .char (.int ((x.toUInt32 % 65536).toInt32)) = .int ((x.toUInt32 % 65536).toInt32) := by
  show Value.int ((x.toUInt32 % 65536).toInt32.toUInt32.toUInt16.toUInt32.toInt32) = _
  have h1 : (x.toUInt32 % 65536).toInt32.toUInt32 = x.toUInt32 % 65536 := rfl
  rw [h1]
  have h2 : (x.toUInt32 % 65536).toUInt16.toUInt32 = x.toUInt32 % 65536 := by
    apply UInt32.toNat_inj.mp
    rw [UInt16.toNat_toUInt32, UInt32.toNat_toUInt16, UInt32.toNat_mod]
    have e : (65536 : UInt32).toNat = 65536 := rfl
    rw [e]; omega
  rw [h2]
/-- the number that digits spell, given up beyond 1000 -/
def nmb (f : Nat → Int32) : Nat → Nat → Int32 → Int32
  | 0, _, n => n
  | k + 1, a, n => if n.toInt ≤ 1000 then nmb f k (a + 1) (n * 10 + f a - 48) else n
def nmbO (f : Nat → Int32) (a t : Int32) (n : Int32) : Int32 := nmb f (t.toInt - a.toInt).toNat a.toInt.toNat n
theorem nmb_step {f : Nat → Int32} {a a' t n : Int32} (h0 : 0 ≤ a.toInt) (h1 : a.toInt < t.toInt) (hn : n.toInt ≤ 1000) (ha : a'.toInt = a.toInt + 1) : nmbO f a' t (n * 10 + f a.toNatClampNeg - 48) = nmbO f a t n := by
  unfold nmbO
  have e : (t.toInt - a.toInt).toNat = (t.toInt - a'.toInt).toNat + 1 := by omega
  rw [e]
  show _ = (if n.toInt ≤ 1000 then nmb f _ (a.toInt.toNat + 1) (n * 10 + f a.toInt.toNat - 48) else n)
  rw [if_pos hn, g5_clamp, show a'.toInt.toNat = a.toInt.toNat + 1 by omega]
theorem nmb_end {f : Nat → Int32} {a t n : Int32} (h : t.toInt ≤ a.toInt) : n = nmbO f a t n := by
  unfold nmbO
  rw [show (t.toInt - a.toInt).toNat = 0 by omega]; rfl
theorem nmb_over {f : Nat → Int32} {a t n : Int32} (h : 1000 < n.toInt) : n = nmbO f a t n := by
  unfold nmbO
  cases (t.toInt - a.toInt).toNat with
  | zero => rfl
  | succ k => show n = (if n.toInt ≤ 1000 then _ else n); rw [if_neg (by omega)]
/-- a token that is a number holds one of at most 1000 -/
def TOKI (kd nm : Nat → Int32) : Prop := ∀ j : Nat, kd j = 300 → (nm j).toInt ≤ 1000
theorem tok_set {kd nm : Nat → Int32} {i : Nat} {k n : Int32} (h : TOKI kd nm) (hk : k = 300 → n.toInt ≤ 1000) : TOKI (upd kd i k) (upd nm i n) := by
  intro j hj
  unfold upd at hj ⊢
  by_cases e : j = i
  · rw [if_pos e] at hj ⊢; exact hk hj
  · rw [if_neg e] at hj ⊢; exact h j hj
theorem tok_end {kd nm : Nat → Int32} {i : Nat} (h : TOKI kd nm) : TOKI (upd kd i 302) nm := by
  intro j hj
  unfold upd at hj
  by_cases e : j = i
  · rw [if_pos e] at hj; exact absurd hj (by decide)
  · rw [if_neg e] at hj; exact h j hj
/-- a step of a law's code that asks a word asks one of eight -/
def wOK (c : Int32) : Prop := (c >>> (12 &&& 31)).toInt = 1 → (c &&& 4095).toInt < 8
def CDI (f : Nat → Int32) (n : Int) : Prop := ∀ j : Nat, (j : Int) < n → wOK (f j)
def OPK (f g : Nat → Int32) (n : Int) : Prop := ∀ j : Nat, (j : Int) < n → g j >>> (12 &&& 31) = f j >>> (12 &&& 31)
theorem opk_refl {f : Nat → Int32} {n : Int} : OPK f f n := fun _ _ => rfl
theorem opk_trans {f g h : Nat → Int32} {n m : Int} (a : OPK f g n) (b : OPK g h m) (hm : n ≤ m) : OPK f h n := fun j hj => (b j (by omega)).trans (a j hj)
theorem cdi_0 {f : Nat → Int32} {n : Int} (h : n ≤ 0) : CDI f n := fun j hj => absurd hj (by omega)
theorem cdi_emit {f : Nat → Int32} {n n' v : Int32} (h : CDI f n.toInt) (h0 : 0 ≤ n.toInt) (hn : n'.toInt = n.toInt + 1) (hv : wOK v) : CDI (upd f n.toNatClampNeg v) n'.toInt := by
  intro j hj
  have e := g5_clamp n
  unfold upd
  by_cases q : j = n.toNatClampNeg
  · rw [if_pos q]; exact hv
  · rw [if_neg q]; exact h j (by omega)
theorem opk_emit {f : Nat → Int32} {n v : Int32} (h0 : 0 ≤ n.toInt) : OPK f (upd f n.toNatClampNeg v) n.toInt := by
  intro j hj
  have e := g5_clamp n
  unfold upd
  rw [if_neg (by omega)]
theorem g_orsh (c l : Int32) : (c ||| l) >>> ((12 : Int32) &&& 31) = (c >>> ((12 : Int32) &&& 31)) ||| (l >>> ((12 : Int32) &&& 31)) := by
  apply Int32.toBitVec_inj.mp
  rw [Int32.toBitVec_or, Int32.toBitVec_shiftRight, Int32.toBitVec_shiftRight, Int32.toBitVec_shiftRight, Int32.toBitVec_or]
  exact BitVec.sshiftRight_or_distrib _ _ _
theorem g_sh12 (a : Int32) : (a >>> ((12 : Int32) &&& 31)).toInt = a.toInt / 4096 := by
  show (a >>> ((12 : Int32) &&& 31)).toBitVec.toInt = _
  rw [Int32.toBitVec_shiftRight]
  show (a.toBitVec.sshiftRight (((12 : Int32) &&& 31).toBitVec.smod 32).toNat).toInt = _
  rw [BitVec.toInt_sshiftRight, show (((12 : Int32) &&& 31).toBitVec.smod 32).toNat = 12 by decide, Int.shiftRight_eq_div_pow]
  rfl
theorem g_len0 {l : Int32} (h0 : 0 ≤ l.toInt) (h1 : l.toInt ≤ 400) : l >>> ((12 : Int32) &&& 31) = 0 := by
  apply Int32.toInt_inj.mp
  rw [g_sh12, show (0 : Int32).toInt = 0 from by decide]
  omega
/-- a place where a jump stands: its step asks no word -/
def JOK (f : Nat → Int32) (n : Int) (j : Int32) : Prop := 0 ≤ j.toInt → j.toInt < n ∧ (f j.toNatClampNeg >>> (12 &&& 31)).toInt ≠ 1
theorem jok_none {f : Nat → Int32} {n : Int} : JOK f n (-1) := fun h => absurd h (by decide)
theorem jok_opk {f g : Nat → Int32} {n m : Int} {j : Int32} (h : JOK f n j) (o : OPK f g n) (hm : n ≤ m) : JOK g m j := by
  intro h0
  obtain ⟨a, b⟩ := h h0
  have e := g5_clamp j
  refine ⟨by omega, ?_⟩
  rw [o _ (by omega)]; exact b
theorem jok_emit {f : Nat → Int32} {n : Int} {j v : Int32} (h : 0 ≤ j.toInt → j.toInt < n ∧ f j.toNatClampNeg = v) (hv : (v >>> (12 &&& 31)).toInt ≠ 1) : JOK f n j := by
  intro h0
  obtain ⟨a, b⟩ := h h0
  exact ⟨a, by rw [b]; exact hv⟩
theorem opk_jump {f : Nat → Int32} {n : Int} {l j : Int32} (h0 : 0 ≤ l.toInt) (h1 : l.toInt ≤ 400) : OPK f (upd f j.toNatClampNeg (f j.toNatClampNeg ||| l)) n := by
  intro k _
  unfold upd
  by_cases e : k = j.toNatClampNeg
  · rw [if_pos e, g_orsh, g_len0 h0 h1, Int32.or_zero, e]
  · rw [if_neg e]
theorem cdi_jump {f : Nat → Int32} {n : Int} {l j : Int32} (h : CDI f n) (hj : JOK f n j) (hj0 : 0 ≤ j.toInt) (h0 : 0 ≤ l.toInt) (h1 : l.toInt ≤ 400) : CDI (upd f j.toNatClampNeg (f j.toNatClampNeg ||| l)) n := by
  intro k hk
  unfold upd
  by_cases e : k = j.toNatClampNeg
  · rw [if_pos e]
    intro q
    rw [g_orsh, g_len0 h0 h1, Int32.or_zero] at q
    exact absurd q (hj hj0).2
  · rw [if_neg e]; exact h k hk
theorem wok_wordN : ∀ a : Nat, a < 8 → wOK (((1 : Int32) <<< ((12 : Int32) &&& 31)) ||| nI a) := by unfold wOK; decide +kernel
theorem wok_word {a : Int32} (h0 : 0 ≤ a.toInt) (h1 : a.toInt ≤ 7) : wOK (((1 : Int32) <<< ((12 : Int32) &&& 31)) ||| a) := by
  rw [g5_nI h0]; exact wok_wordN _ (by omega)
theorem wok_num {a : Int32} (h : a.toInt ≤ 1000) : wOK (((0 : Int32) <<< ((12 : Int32) &&& 31)) ||| a) := by
  intro q
  rw [show ((0 : Int32) <<< ((12 : Int32) &&& 31)) = 0 from by decide, Int32.zero_or, g_sh12] at q
  omega
theorem wok_wait {w : Int32} (h : w.toInt = 2 ∨ w.toInt = 3) : wOK ((w <<< ((12 : Int32) &&& 31)) ||| 0) := by
  rcases h with h | h
  · rw [g5_toc (k := 2) (by decide) h]; unfold wOK; decide
  · rw [g5_toc (k := 3) (by decide) h]; unfold wOK; decide
theorem toki_num {kd nm : Nat → Int32} (h : TOKI kd nm) {j : Nat} (e : kd j = 300) : (nm j).toInt ≤ 1000 := h j e
/-! copies of rows; where a law's clauses start -/
theorem g_minI (x y : Int32) : (if y < x then y else x).toInt ≤ x.toInt ∧ (if y < x then y else x).toInt ≤ y.toInt ∧ ((if y < x then y else x).toInt = x.toInt ∨ (if y < x then y else x).toInt = y.toInt) := by
  by_cases h : y < x
  · rw [if_pos h]
    have := Int32.lt_iff_toInt_lt.mp h
    omega
  · rw [if_neg h]
    have : ¬ y.toInt < x.toInt := fun q => h (Int32.lt_iff_toInt_lt.mpr q)
    omega
theorem cpy_ok {f g : Nat → Int32} {n : Nat} {x : Int32} (h : (n : Int) ≤ x.toInt) : ∀ j : Nat, j < n → va_cpy f g 0 0 x.toNatClampNeg j = f j := by
  intro j hj
  have e := g5_clamp x
  unfold va_cpy
  rw [if_pos (by omega)]
  congr 1; omega
theorem g_find {G : g5_G} {s : State} (hK : va_K G.1 vwCl (T5 G) s) : s.vm.findClass "[I" = some (G.2 0) := by
  have h2 : s.vm.findClass ("[" ++ FieldType.int.toString) = some (G.2 0) := (hK.2 0 _ rfl).2
  have e : "[" ++ FieldType.int.toString = "[I" := by decide
  rw [e] at h2
  exact h2
theorem g_fitI {cA : ClassId} {n : Nat} {f : Nat → Int32} : ∀ (i : Nat) (v : Value), (vp_cell cA (n, .inl f)).slots[i]? = some v → fits .int v = true := fun i v h => va_fit (F := fun j => .int (f j)) (fun _ _ => rfl) i v h
/-- where clauses start: within the code -/
def STI (f : Nat → Int32) (n l : Int) : Prop := ∀ j : Nat, (j : Int) < n → 0 ≤ (f j).toInt ∧ (f j).toInt ≤ l
theorem sti_0 {f : Nat → Int32} {l : Int} : STI f (0 : Int32).toInt l := fun j h => absurd h (by have z : (0 : Int32).toInt = 0 := (by decide); omega)
theorem sti_set {f : Nat → Int32} {c x : Int32} {l m : Int} (h : STI f c.toInt l) (h0 : 0 ≤ c.toInt) (hx : 0 ≤ x.toInt ∧ x.toInt ≤ m) (hm : l ≤ m) : STI (upd f c.toNatClampNeg x) (c.toInt + 1) m := by
  intro j hj
  have e := g5_clamp c
  unfold upd
  by_cases q : j = c.toNatClampNeg
  · rw [if_pos q]; exact hx
  · rw [if_neg q]
    have z := h j (by omega)
    omega
theorem sti_at {f g : Nat → Int32} {n : Nat} {k l : Int} (h : STI f k l) (hn : (n : Int) ≤ k) (e : ∀ j : Nat, j < n → g j = f j) : ∀ j : Nat, j < n → 0 ≤ (g j).toInt ∧ (g j).toInt ≤ l := by
  intro j hj
  rw [e j hj]; exact h j (by omega)
theorem cdi_at {f g : Nat → Int32} {n : Nat} {l : Int} (h : CDI f l) (hn : (n : Int) ≤ l) (e : ∀ j : Nat, j < n → g j = f j) : ∀ j : Nat, j < n → (g j >>> (12 &&& 31)).toInt = 1 → (g j &&& 4095).toInt < 8 := by
  intro j hj
  rw [e j hj]; exact h j (by omega)
/-! laws as references that lie elsewhere; what a face keeps -/
def g5_LA (f : Nat → Option Nat) (A : Nat → Prop) (U : State) : Prop := ∀ j v : Nat, j < 6 → f j = some v → va_O "LateGlass$Law" v A U U.heap
def g5_PL (G : g5_G) (f : Nat → Option Nat) (ws : va_W) (sz : Nat) (U : State) : Prop := g5_P G ws sz U ∧ g5_LA f (va_A ws sz) U
theorem g5_blindL {G : g5_G} {f : Nat → Option Nat} {ws : va_W} {sz : Nat} {av : List Value} : FrameBlind (va_Pc av (g5_PL G f ws sz)) := by
  intro a U g mk h
  obtain ⟨h0, h1, h2⟩ := h
  have z : va_Pc av (g5_P G ws sz) a (U.calling g mk a) := g5_blind a U g mk ⟨h0, h1⟩
  exact ⟨z.1, z.2, fun j v hj e => va_O.moved (u := U) (U := U.calling g mk a) (Vm.Alike.refl U.vm) (h2 j v hj e)⟩
theorem g5_preVL {G : g5_G} {f : Nat → Option Nat} {s : State} {H : Heap} {locs : List Loc} {A : Nat → Prop} {wc : va_W} {b : Nat} {As : List Value} {C : String} {T : u_T} {N ci q0 : Nat} {fs : List Value} (hP : va_P G.1 vwCl wc H) (hK : va_K G.1 vwCl (T5 G) s) (hD : va_D A wc) (hN : g5_N s) (hT : g5_S A s s.heap) (hS : va_S A s.heap H locs) (hF : ∀ q, va_A wc H.size q → A q) (hLA : g5_LA f A s) (he : wc[q0]? = some (b, .inr (ci, fs))) (hc : vwCl[ci]? = some (C, T, N)) : PreV s H C b (va_Pc (.ref b :: As) (g5_PL G f wc H.size)) As :=
  ⟨g5_blindL, va_recv hK hP hc he, fun U hU hW => ⟨rfl, ((g5_preV (As := As) hP hK hD hN hT hS hF he hc).2.2 U hU hW).2, fun j v hj e => by rw [hU]; exact (((hLA j v hj e).kept hS.2.1).narrow hF).moved hW.alike⟩⟩
theorem g_any {s : State} {H : Heap} {A : Nat → Prop} {v : Nat} (h : va_O "LateGlass$Law" v A s H) : va_Any "LateGlass$Law" s H v := by
  obtain ⟨cell, h1, h2, h3, -⟩ := h
  obtain ⟨kC, hkC, -⟩ := Vm.findClass_spec h3
  exact ⟨cell, h1, h2, ⟨kC, hkC⟩, fun comp hc => by cases h3.symm.trans hc; exact va_asg _ _⟩
theorem cp_law {f g : Nat → Option Nat} {k k' : Int32} {o : Option Nat} (ih : ∀ j : Nat, (j : Int) < k.toInt → f j = g j) (h0 : 0 ≤ k.toInt) (hk : k'.toInt = k.toInt + 1) (e : g k.toNatClampNeg = o) : ∀ j : Nat, (j : Int) < k'.toInt → va_up f k.toNatClampNeg o j = g j := by
  intro j hj
  have z := g5_clamp k
  unfold va_up
  by_cases q : j = k.toNatClampNeg
  · rw [if_pos q, q, e]
  · rw [if_neg q]; exact ih j (by omega)
/-! rows of tables: what a get shows behind a set, an opened row, a row that went -/
theorem tg_set4 {f : Nat → Int32} {n r c r' c' : Int} {v : Int32} (h : 0 ≤ r ∧ r < n ∧ 0 ≤ c ∧ c < 4) : tget (tset f n 4 r c v) n 4 r' c' = if r' = r ∧ c' = c then v else tget f n 4 r' c' := by
  unfold tget tset
  rw [if_pos h]
  by_cases q : 0 ≤ r' ∧ r' < n ∧ 0 ≤ c' ∧ c' < 4
  · rw [if_pos q, if_pos q]
    unfold upd
    by_cases e : r' = r ∧ c' = c
    · rw [if_pos e, if_pos (by rw [e.1, e.2])]
    · rw [if_neg e, if_neg (by omega)]
  · rw [if_neg q, if_neg q]
    by_cases e : r' = r ∧ c' = c
    · exact absurd (by omega) q
    · rw [if_neg e]
theorem tg_fil4 {f : Nat → Int32} {n r c : Int} {v : Int32} (h0 : 0 ≤ n) (hr : 0 ≤ r ∧ r ≤ n) (hc : 0 ≤ c ∧ c < 4) : tget (tfil f n 4 v 4) (n + 1) 4 r c = if r = n then v else tget f n 4 r c := by
  unfold tget tfil
  rw [if_pos (by omega)]
  by_cases e : r = n
  · rw [if_pos e, if_pos (by omega)]
  · rw [if_neg e, if_neg (by omega), if_pos (by omega)]
theorem tg_set5 {f : Nat → Int32} {n r c r' c' : Int} {v : Int32} (h : 0 ≤ r ∧ r < n ∧ 0 ≤ c ∧ c < 5) : tget (tset f n 5 r c v) n 5 r' c' = if r' = r ∧ c' = c then v else tget f n 5 r' c' := by
  unfold tget tset
  rw [if_pos h]
  by_cases q : 0 ≤ r' ∧ r' < n ∧ 0 ≤ c' ∧ c' < 5
  · rw [if_pos q, if_pos q]
    unfold upd
    by_cases e : r' = r ∧ c' = c
    · rw [if_pos e, if_pos (by rw [e.1, e.2])]
    · rw [if_neg e, if_neg (by omega)]
  · rw [if_neg q, if_neg q]
    by_cases e : r' = r ∧ c' = c
    · exact absurd (by omega) q
    · rw [if_neg e]
theorem tg_fil5 {f : Nat → Int32} {n r c : Int} {v : Int32} (h0 : 0 ≤ n) (hr : 0 ≤ r ∧ r ≤ n) (hc : 0 ≤ c ∧ c < 5) : tget (tfil f n 5 v 5) (n + 1) 5 r c = if r = n then v else tget f n 5 r c := by
  unfold tget tfil
  rw [if_pos (by omega)]
  by_cases e : r = n
  · rw [if_pos e, if_pos (by omega)]
  · rw [if_neg e, if_neg (by omega), if_pos (by omega)]
theorem g_glass {f : Nat → Int32} {n N : Int} {c s l d : Int32} (h : gOK f n) (h0 : 0 ≤ n) (hN : N = n + 1) (hc : 0 ≤ c.toInt ∧ c.toInt ≤ 63) (hs : 0 ≤ s.toInt ∧ s.toInt ≤ 5) (hl : 0 ≤ l.toInt ∧ l.toInt ≤ 23) (hd : 0 ≤ d.toInt ∧ d.toInt ≤ 10) : gOK (tset (tset (tset (tset (tfil f n 5 0 5) N 5 n (0 : Int32).toInt c) N 5 n (1 : Int32).toInt s) N 5 n (2 : Int32).toInt l) N 5 n (3 : Int32).toInt d) N := by
  subst hN
  have z0 : (0 : Int32).toInt = 0 := (by decide)
  have z1 : (1 : Int32).toInt = 1 := (by decide)
  have z2 : (2 : Int32).toInt = 2 := (by decide)
  have z3 : (3 : Int32).toInt = 3 := (by decide)
  intro r a b
  rw [z0, z1, z2, z3]
  by_cases e : r = n
  · exact ⟨by rw [tg_set5 (by omega), if_neg (by omega), tg_set5 (by omega), if_neg (by omega), tg_set5 (by omega), if_neg (by omega), tg_set5 (by omega), if_pos (by omega)]; exact hc, by rw [tg_set5 (by omega), if_neg (by omega), tg_set5 (by omega), if_neg (by omega), tg_set5 (by omega), if_pos (by omega)]; exact hs, by rw [tg_set5 (by omega), if_neg (by omega), tg_set5 (by omega), if_pos (by omega)]; exact hl, by rw [tg_set5 (by omega), if_pos (by omega)]; exact hd⟩
  · have k := h r a (by omega)
    rw [z0, z1, z2, z3] at k
    exact ⟨by rw [tg_set5 (by omega), if_neg (by omega), tg_set5 (by omega), if_neg (by omega), tg_set5 (by omega), if_neg (by omega), tg_set5 (by omega), if_neg (by omega), tg_fil5 h0 (by omega) (by omega), if_neg (by omega)]; exact k.1, by rw [tg_set5 (by omega), if_neg (by omega), tg_set5 (by omega), if_neg (by omega), tg_set5 (by omega), if_neg (by omega), tg_set5 (by omega), if_neg (by omega), tg_fil5 h0 (by omega) (by omega), if_neg (by omega)]; exact k.2.1, by rw [tg_set5 (by omega), if_neg (by omega), tg_set5 (by omega), if_neg (by omega), tg_set5 (by omega), if_neg (by omega), tg_set5 (by omega), if_neg (by omega), tg_fil5 h0 (by omega) (by omega), if_neg (by omega)]; exact k.2.2.1, by rw [tg_set5 (by omega), if_neg (by omega), tg_set5 (by omega), if_neg (by omega), tg_set5 (by omega), if_neg (by omega), tg_set5 (by omega), if_neg (by omega), tg_fil5 h0 (by omega) (by omega), if_neg (by omega)]; exact k.2.2.2⟩
theorem g_spot {f : Nat → Int32} {n N : Int} {c s l : Int32} (h : gOK f n) (h0 : 0 ≤ n) (hN : N = n + 1) (hc : 0 ≤ c.toInt ∧ c.toInt ≤ 63) (hs : 0 ≤ s.toInt ∧ s.toInt ≤ 5) (hl : 0 ≤ l.toInt ∧ l.toInt ≤ 23) : gOK (tset (tset (tset (tfil f n 5 0 5) N 5 n (0 : Int32).toInt c) N 5 n (1 : Int32).toInt s) N 5 n (2 : Int32).toInt l) N := by
  subst hN
  have z0 : (0 : Int32).toInt = 0 := (by decide)
  have z1 : (1 : Int32).toInt = 1 := (by decide)
  have z2 : (2 : Int32).toInt = 2 := (by decide)
  have z3 : (3 : Int32).toInt = 3 := (by decide)
  intro r a b
  rw [z0, z1, z2, z3]
  by_cases e : r = n
  · exact ⟨by rw [tg_set5 (by omega), if_neg (by omega), tg_set5 (by omega), if_neg (by omega), tg_set5 (by omega), if_pos (by omega)]; exact hc, by rw [tg_set5 (by omega), if_neg (by omega), tg_set5 (by omega), if_pos (by omega)]; exact hs, by rw [tg_set5 (by omega), if_pos (by omega)]; exact hl, by rw [tg_set5 (by omega), if_neg (by omega), tg_set5 (by omega), if_neg (by omega), tg_set5 (by omega), if_neg (by omega), tg_fil5 h0 (by omega) (by omega), if_pos (by omega)]; rw [z0]; exact ⟨by decide, by decide⟩⟩
  · have k := h r a (by omega)
    rw [z0, z1, z2, z3] at k
    exact ⟨by rw [tg_set5 (by omega), if_neg (by omega), tg_set5 (by omega), if_neg (by omega), tg_set5 (by omega), if_neg (by omega), tg_fil5 h0 (by omega) (by omega), if_neg (by omega)]; exact k.1, by rw [tg_set5 (by omega), if_neg (by omega), tg_set5 (by omega), if_neg (by omega), tg_set5 (by omega), if_neg (by omega), tg_fil5 h0 (by omega) (by omega), if_neg (by omega)]; exact k.2.1, by rw [tg_set5 (by omega), if_neg (by omega), tg_set5 (by omega), if_neg (by omega), tg_set5 (by omega), if_neg (by omega), tg_fil5 h0 (by omega) (by omega), if_neg (by omega)]; exact k.2.2.1, by rw [tg_set5 (by omega), if_neg (by omega), tg_set5 (by omega), if_neg (by omega), tg_set5 (by omega), if_neg (by omega), tg_fil5 h0 (by omega) (by omega), if_neg (by omega)]; exact k.2.2.2⟩
theorem g_inTglass {x : Int64} {f : Nat → Int32} {n N : Int} {c s l d : Int32} (h : inT x f n) (h0 : 0 ≤ n) (hN : N = n + 1) (hc : 0 ≤ c.toInt ∧ c.toInt ≤ 63) : inT (x ||| ((1 : Int64) <<< (c.toInt64 &&& 63))) (tset (tset (tset (tset (tfil f n 5 0 5) N 5 n (0 : Int32).toInt c) N 5 n (1 : Int32).toInt s) N 5 n (2 : Int32).toInt l) N 5 n (3 : Int32).toInt d) N := by
  subst hN
  have z0 : (0 : Int32).toInt = 0 := (by decide)
  have z1 : (1 : Int32).toInt = 1 := (by decide)
  have z2 : (2 : Int32).toInt = 2 := (by decide)
  have z3 : (3 : Int32).toInt = 3 := (by decide)
  intro k a b hon
  have e : (1 : Int64) <<< (c.toInt64 &&& 63) = bitI c.toInt := by
    unfold bitI; rw [← g5_nI hc.1]
  rw [e, onB_or x hc.1 hc.2 a b, Bool.or_eq_true] at hon
  rw [z0, z1, z2, z3]
  rcases hon with q | q
  · obtain ⟨r, r0, r1, re⟩ := h k a b q
    rw [z0] at re
    exact ⟨r, r0, by omega, by rw [tg_set5 (by omega), if_neg (by omega), tg_set5 (by omega), if_neg (by omega), tg_set5 (by omega), if_neg (by omega), tg_set5 (by omega), if_neg (by omega), tg_fil5 h0 (by omega) (by omega), if_neg (by omega)]; exact re⟩
  · exact ⟨n, h0, by omega, by rw [tg_set5 (by omega), if_neg (by omega), tg_set5 (by omega), if_neg (by omega), tg_set5 (by omega), if_neg (by omega), tg_set5 (by omega), if_pos (by omega)]; exact (of_decide_eq_true q).symm⟩
theorem g_turn {f : Nat → Int32} {n r x : Int} {v : Int32} (h : gOK f n) (hr : 0 ≤ r ∧ r < n) (hx : (x = 1 ∧ 0 ≤ v.toInt ∧ v.toInt ≤ 5) ∨ (x = 2 ∧ 0 ≤ v.toInt ∧ v.toInt ≤ 23) ∨ (x = 3 ∧ 0 ≤ v.toInt ∧ v.toInt ≤ 10) ∨ x = 4) : gOK (tset f n 5 r x v) n := by
  have z0 : (0 : Int32).toInt = 0 := (by decide)
  have z1 : (1 : Int32).toInt = 1 := (by decide)
  have z2 : (2 : Int32).toInt = 2 := (by decide)
  have z3 : (3 : Int32).toInt = 3 := (by decide)
  intro k a b
  have q := h k a b
  rw [z0, z1, z2, z3] at q ⊢
  rw [tg_set5 (by omega), tg_set5 (by omega), tg_set5 (by omega), tg_set5 (by omega), if_neg (by omega)]
  refine ⟨q.1, ?_, ?_, ?_⟩
  · by_cases e : k = r ∧ 1 = x
    · rw [if_pos e]; omega
    · rw [if_neg e]; exact q.2.1
  · by_cases e : k = r ∧ 2 = x
    · rw [if_pos e]; omega
    · rw [if_neg e]; exact q.2.2.1
  · by_cases e : k = r ∧ 3 = x
    · rw [if_pos e]; omega
    · rw [if_neg e]; exact q.2.2.2
theorem g_inTturn {y : Int64} {f : Nat → Int32} {n r x : Int} {v : Int32} (h : inT y f n) (hr : 0 ≤ r ∧ r < n) (hx : 1 ≤ x ∧ x ≤ 4) : inT y (tset f n 5 r x v) n := by
  have z0 : (0 : Int32).toInt = 0 := (by decide)
  intro k a b hon
  obtain ⟨r2, r0, r1, re⟩ := h k a b hon
  rw [z0] at re ⊢
  exact ⟨r2, r0, r1, by rw [tg_set5 (by omega), if_neg (by omega)]; exact re⟩
theorem sg_col {f : Nat → Int32} {n N r : Int} {a b c s : Int32} (h0 : 0 ≤ n) (hN : N = n + 1) (hr : 0 ≤ r ∧ r ≤ n) : tget (tset (tset (tset (tset (tfil f n 4 0 4) N 4 n (0 : Int32).toInt a) N 4 n (1 : Int32).toInt b) N 4 n (2 : Int32).toInt c) N 4 n (3 : Int32).toInt s) N 4 r (3 : Int32).toInt = if r = n then s else tget f n 4 r (3 : Int32).toInt := by
  subst hN
  have z0 : (0 : Int32).toInt = 0 := (by decide)
  have z1 : (1 : Int32).toInt = 1 := (by decide)
  have z2 : (2 : Int32).toInt = 2 := (by decide)
  have z3 : (3 : Int32).toInt = 3 := (by decide)
  rw [z0, z1, z2, z3]
  by_cases e : r = n
  · rw [if_pos e, tg_set4 (by omega), if_pos (by omega)]
  · rw [if_neg e, tg_set4 (by omega), if_neg (by omega), tg_set4 (by omega), if_neg (by omega), tg_set4 (by omega), if_neg (by omega), tg_set4 (by omega), if_neg (by omega), tg_fil4 h0 (by omega) (by omega), if_neg (by omega)]
theorem sg_01 {f : Nat → Int32} {n N : Int} {a b c s : Int32} (h : ∀ r : Int, 0 ≤ r → r < n → 0 ≤ (tget f n 4 r (3 : Int32).toInt).toInt ∧ (tget f n 4 r (3 : Int32).toInt).toInt ≤ 1) (h0 : 0 ≤ n) (hN : N = n + 1) (hs : 0 ≤ s.toInt ∧ s.toInt ≤ 1) : ∀ r : Int, 0 ≤ r → r < N → 0 ≤ (tget (tset (tset (tset (tset (tfil f n 4 0 4) N 4 n (0 : Int32).toInt a) N 4 n (1 : Int32).toInt b) N 4 n (2 : Int32).toInt c) N 4 n (3 : Int32).toInt s) N 4 r (3 : Int32).toInt).toInt ∧ (tget (tset (tset (tset (tset (tfil f n 4 0 4) N 4 n (0 : Int32).toInt a) N 4 n (1 : Int32).toInt b) N 4 n (2 : Int32).toInt c) N 4 n (3 : Int32).toInt s) N 4 r (3 : Int32).toInt).toInt ≤ 1 := by
  intro r x y
  rw [sg_col h0 hN (by omega)]
  by_cases e : r = n
  · rw [if_pos e]; exact hs
  · rw [if_neg e]; exact h r x (by omega)
theorem sg_sn {f g : Nat → Int32} {n m : Int} : ∀ k : Nat, (∀ j : Nat, j < k → tget g m 4 j (3 : Int32).toInt = tget f n 4 j (3 : Int32).toInt) → snS g m k = snS f n k := by
  intro k
  induction k with
  | zero => intro _; rfl
  | succ k ih =>
    intro h
    show snS g m k + (tget g m 4 k (3 : Int32).toInt).toInt = snS f n k + (tget f n 4 k (3 : Int32).toInt).toInt
    rw [ih (fun j hj => h j (by omega)), h k (by omega)]
theorem sg_5 {f : Nat → Int32} {n N : Int} {a b c s : Int32} (h0 : 0 ≤ n) (hN : N = n + 1) (h : snS f n n.toNat + s.toInt ≤ 5) : snS (tset (tset (tset (tset (tfil f n 4 0 4) N 4 n (0 : Int32).toInt a) N 4 n (1 : Int32).toInt b) N 4 n (2 : Int32).toInt c) N 4 n (3 : Int32).toInt s) N N.toNat ≤ 5 := by
  have e1 : N.toNat = n.toNat + 1 := by omega
  rw [e1]
  show snS _ N n.toNat + (tget _ N 4 ((n.toNat : Nat) : Int) (3 : Int32).toInt).toInt ≤ 5
  rw [show ((n.toNat : Nat) : Int) = n by omega, sg_col h0 hN (by omega), if_pos rfl, sg_sn (f := f) (n := n) n.toNat (fun j hj => by rw [sg_col h0 hN (by omega), if_neg (by omega)])]
  exact h
theorem sg_rem {f : Nat → Int32} {n N r k : Int} (hr : 0 ≤ r ∧ r < n) (hN : N = n - 1) (hk : 0 ≤ k ∧ k < N) : tget (trem f n 4 r) N 4 k (3 : Int32).toInt = if k < r then tget f n 4 k (3 : Int32).toInt else tget f n 4 (k + 1) (3 : Int32).toInt := by
  have z3 : (3 : Int32).toInt = 3 := (by decide)
  subst hN
  rw [z3]
  by_cases e : k < r
  · rw [if_pos e]
    unfold tget trem
    rw [if_pos (by omega), if_neg (by omega), if_pos (by omega)]
  · rw [if_neg e]
    unfold tget trem
    rw [if_pos (by omega), if_pos (by omega), if_pos (by omega)]
    congr 1; omega
theorem sg_rem01 {f : Nat → Int32} {n N r : Int} (h : ∀ r : Int, 0 ≤ r → r < n → 0 ≤ (tget f n 4 r (3 : Int32).toInt).toInt ∧ (tget f n 4 r (3 : Int32).toInt).toInt ≤ 1) (hr : 0 ≤ r ∧ r < n) (hN : N = n - 1) : ∀ k : Int, 0 ≤ k → k < N → 0 ≤ (tget (trem f n 4 r) N 4 k (3 : Int32).toInt).toInt ∧ (tget (trem f n 4 r) N 4 k (3 : Int32).toInt).toInt ≤ 1 := by
  intro k a b
  rw [sg_rem hr hN ⟨a, b⟩]
  by_cases e : k < r
  · rw [if_pos e]; exact h k a (by omega)
  · rw [if_neg e]; exact h (k + 1) (by omega) (by omega)
theorem sg_remS {f : Nat → Int32} {n N r : Int} (h : ∀ r : Int, 0 ≤ r → r < n → 0 ≤ (tget f n 4 r (3 : Int32).toInt).toInt ∧ (tget f n 4 r (3 : Int32).toInt).toInt ≤ 1) (hr : 0 ≤ r ∧ r < n) (hN : N = n - 1) : ∀ k : Nat, (k : Int) ≤ N → snS (trem f n 4 r) N k ≤ snS f n (k + 1) ∧ ((k : Int) ≤ r → snS (trem f n 4 r) N k = snS f n k) := by
  intro k
  induction k with
  | zero =>
    intro _
    have z := (h 0 (by omega) (by omega)).1
    refine ⟨?_, fun _ => rfl⟩
    show (0 : Int) ≤ 0 + (tget f n 4 ((0 : Nat) : Int) (3 : Int32).toInt).toInt
    rw [show ((0 : Nat) : Int) = 0 from rfl]; omega
  | succ k ih =>
    intro hk
    obtain ⟨i1, i2⟩ := ih (by omega)
    have e : snS (trem f n 4 r) N (k + 1) = snS (trem f n 4 r) N k + (tget (trem f n 4 r) N 4 k (3 : Int32).toInt).toInt := rfl
    have e1 : snS f n (k + 1) = snS f n k + (tget f n 4 k (3 : Int32).toInt).toInt := rfl
    have e2 : snS f n (k + 1 + 1) = snS f n (k + 1) + (tget f n 4 ((k + 1 : Nat) : Int) (3 : Int32).toInt).toInt := rfl
    have c := sg_rem (f := f) hr hN (k := k) ⟨by omega, by omega⟩
    have p := (h ((k + 1 : Nat) : Int) (by omega) (by omega)).1
    rw [show (k : Int) + 1 = ((k + 1 : Nat) : Int) by omega] at c
    by_cases q : (k : Int) < r
    · rw [if_pos q] at c
      rw [c] at e
      have := i2 (by omega)
      refine ⟨by omega, fun _ => by omega⟩
    · rw [if_neg q] at c
      rw [c] at e
      refine ⟨by omega, fun z => absurd z (by omega)⟩
theorem sg_rem5 {f : Nat → Int32} {n N r : Int} (h : ∀ r : Int, 0 ≤ r → r < n → 0 ≤ (tget f n 4 r (3 : Int32).toInt).toInt ∧ (tget f n 4 r (3 : Int32).toInt).toInt ≤ 1) (h5 : snS f n n.toNat ≤ 5) (hr : 0 ≤ r ∧ r < n) (hN : N = n - 1) : snS (trem f n 4 r) N N.toNat ≤ 5 := by
  have z := (sg_remS h hr hN N.toNat (by omega)).1
  rw [show N.toNat + 1 = n.toNat by omega] at z
  omega
/-! the model's rows: what every call keeps -/
def TPI (f : Nat → Int32) : Prop := ∀ j : Nat, 0 ≤ (f j).toInt ∧ (f j).toInt ≤ 255
def PTI (f : Nat → Int32) : Prop := ∀ j : Nat, 0 ≤ (f j).toInt ∧ (f j).toInt ≤ 1535
def MEI (f : Nat → Int32) : Prop := ∀ j : Nat, 0 ≤ (f j).toInt ∧ ((f j).toInt < 32 ∨ 64 ≤ (f j).toInt) ∧ (f j).toInt ≤ 127
theorem g5_cmpI (x y : Int64) : (x.toInt < y.toInt ∧ (lg_cmp x y).toInt = -1) ∨ (x.toInt = y.toInt ∧ (lg_cmp x y).toInt = 0) ∨ (x.toInt > y.toInt ∧ (lg_cmp x y).toInt = 1) := by
  unfold lg_cmp
  by_cases h : x > y
  · right; right
    rw [if_pos h]
    exact ⟨Int64.lt_iff_toInt_lt.mp h, by decide⟩
  · rw [if_neg h]
    by_cases e : x = y
    · right; left
      rw [if_pos e, e]; exact ⟨rfl, by decide⟩
    · left
      rw [if_neg e]
      have h1 : ¬ y.toInt < x.toInt := fun q => h (Int64.lt_iff_toInt_lt.mpr q)
      have h2 : x.toInt ≠ y.toInt := fun q => e (Int64.toInt_inj.mp q)
      exact ⟨by omega, by decide⟩
theorem g5_bm64 {z : Int} (h1 : -9223372036854775808 ≤ z) (h2 : z < 9223372036854775808) : z.bmod (2 ^ 64) = z := by
  rw [Int.bmod_def]; split <;> omega
theorem g5_lsub {x y : Int64} {a b : Int} (hx : x.toInt = a) (hy : y.toInt = b) (h1 : -9223372036854775808 ≤ a - b) (h2 : a - b < 9223372036854775808) : (x - y).toInt = a - b := by
  rw [Int64.toInt_sub, hx, hy]; exact g5_bm64 h1 h2
/-- what may stand at a place of the row -/
def rOK (j : Nat) (v : Int) : Prop := (j = 0 → 0 ≤ v ∧ v ≤ 6) ∧ (j = 1 → 0 ≤ v ∧ v ≤ 5) ∧ (j = 2 → 0 ≤ v ∧ v ≤ 6) ∧ (j = 3 → -1 ≤ v ∧ v ≤ 5) ∧ (j = 5 → 0 ≤ v ∧ v ≤ 10) ∧ (j = 6 → -1 ≤ v ∧ v ≤ 63) ∧ (j = 7 → 0 ≤ v ∧ v ≤ 8) ∧ (j = 8 → 0 ≤ v ∧ v ≤ 6) ∧ (80 ≤ j → j < 110 → (j - 80) % 5 = 0 → 0 ≤ v ∧ v ≤ 63) ∧ (80 ≤ j → j < 110 → (j - 80) % 5 = 1 → 0 ≤ v ∧ v ≤ 5) ∧ (80 ≤ j → j < 110 → (j - 80) % 5 = 2 → 0 ≤ v ∧ v ≤ 23) ∧ (80 ≤ j → j < 110 → (j - 80) % 5 = 3 → 0 ≤ v ∧ v ≤ 10) ∧ (230 ≤ j → j < 270 → (j - 230) % 4 = 0 → 0 ≤ v ∧ v ≤ 63) ∧ (230 ≤ j → j < 270 → (j - 230) % 4 = 1 → 0 ≤ v ∧ v ≤ 3) ∧ (230 ≤ j → j < 270 → (j - 230) % 4 = 2 → 0 ≤ v ∧ v ≤ 23) ∧ (230 ≤ j → j < 270 → (j - 230) % 4 = 3 → 0 ≤ v ∧ v ≤ 1) ∧ (270 ≤ j → j < 294 → (j - 270) % 3 = 0 → 0 ≤ v ∧ v ≤ 63) ∧ (270 ≤ j → j < 294 → (j - 270) % 3 = 1 → 0 ≤ v ∧ v ≤ 5) ∧ (270 ≤ j → j < 294 → (j - 270) % 3 = 2 → 0 ≤ v ∧ v ≤ 23) ∧ (300 ≤ j → j < 336 → (j - 300) % 6 = 0 → 0 ≤ v ∧ v ≤ 63) ∧ (300 ≤ j → j < 336 → (j - 300) % 6 = 1 → 0 ≤ v ∧ v ≤ 3) ∧ (300 ≤ j → j < 336 → (j - 300) % 6 = 2 → 0 ≤ v ∧ v ≤ 23) ∧ (110 ≤ j → j < 230 → -1 ≤ v ∧ v ≤ 63)
/-- a step of a law's code, with the height of what is reckoned ahead of it -/
def stOK (f : Nat → Int32) (B : Nat) (h : Nat → Nat) (k : Nat) (b : Int) : Prop := h k ≤ k ∧ ((0 ≤ (f (B + 2 * k)).toInt ∧ (f (B + 2 * k)).toInt ≤ 8 ∧ h (k + 1) = h k + 1) ∨ (20 ≤ (f (B + 2 * k)).toInt ∧ (f (B + 2 * k)).toInt ≤ 26 ∧ 2 ≤ h k ∧ h (k + 1) + 1 = h k) ∨ ((f (B + 2 * k)).toInt = 27 ∧ 1 ≤ h k ∧ h (k + 1) = h k) ∨ (((f (B + 2 * k)).toInt = 28 ∨ (f (B + 2 * k)).toInt = 29) ∧ 1 ≤ h k ∧ h (k + 1) + 1 = h k ∧ (k : Int) < (f (B + 2 * k + 1)).toInt ∧ (f (B + 2 * k + 1)).toInt ≤ 400 ∧ ((f (B + 2 * k + 1)).toInt < b → h (f (B + 2 * k + 1)).toInt.toNat = h k)))
def cdOK (f : Nat → Int32) (B : Nat) (a b : Int) : Prop := ∃ h : Nat → Nat, h a.toNat = 0 ∧ ∀ k : Nat, a ≤ (k : Int) → (k : Int) < b → stOK f B h k b
/-- a clause of the law at T -/
def clOK (f : Nat → Int32) (T k : Nat) : Prop := (0 ≤ (f k).toInt ∧ (f k).toInt ≤ 3) ∧ (0 ≤ (f (k + 3)).toInt ∧ (f (k + 3)).toInt ≤ 400) ∧ (0 ≤ (f (k + 4)).toInt ∧ (f (k + 4)).toInt ≤ 400) ∧ (0 ≤ (f (k + 5)).toInt ∧ (f (k + 5)).toInt ≤ 400) ∧ (0 ≤ (f (k + 6)).toInt ∧ (f (k + 6)).toInt ≤ 400) ∧ cdOK f (T + 98) (f (k + 5)).toInt (f (k + 6)).toInt ∧ ((f k).toInt < 2 → cdOK f (T + 98) (f (k + 3)).toInt (f (k + 4)).toInt)
def lawOK (f : Nat → Int32) (T : Nat) : Prop := (0 ≤ (f (T + 1)).toInt ∧ (f (T + 1)).toInt ≤ 12) ∧ ∀ c : Nat, (c : Int) < (f (T + 1)).toInt → clOK f T (T + 2 + 8 * c)
/-- the sightings that saw -/
def mSN (f : Nat → Int32) : Int := snS (fun j => f (230 + j)) (f 5).toInt (f 5).toInt.toNat
def MI (f : Nat → Int32) : Prop := (∀ j : Nat, rOK j (f j).toInt) ∧ mSN f ≤ 5 ∧ (f 3).toInt < (f 2).toInt ∧ ∀ l : Nat, (l : Int) < (f 2).toInt → lawOK f (340 + 900 * l)
theorem mi_0 {f : Nat → Int32} (h : MI f) : 0 ≤ (f 0).toInt ∧ (f 0).toInt ≤ 6 := (h.1 0).1 rfl
theorem mi_1 {f : Nat → Int32} (h : MI f) : 0 ≤ (f 1).toInt ∧ (f 1).toInt ≤ 5 := (h.1 1).2.1 rfl
theorem mi_2 {f : Nat → Int32} (h : MI f) : 0 ≤ (f 2).toInt ∧ (f 2).toInt ≤ 6 := (h.1 2).2.2.1 rfl
theorem mi_3 {f : Nat → Int32} (h : MI f) : (-1) ≤ (f 3).toInt ∧ (f 3).toInt ≤ 5 := (h.1 3).2.2.2.1 rfl
theorem mi_5 {f : Nat → Int32} (h : MI f) : 0 ≤ (f 5).toInt ∧ (f 5).toInt ≤ 10 := (h.1 5).2.2.2.2.1 rfl
theorem mi_6 {f : Nat → Int32} (h : MI f) : (-1) ≤ (f 6).toInt ∧ (f 6).toInt ≤ 63 := (h.1 6).2.2.2.2.2.1 rfl
theorem mi_7 {f : Nat → Int32} (h : MI f) : 0 ≤ (f 7).toInt ∧ (f 7).toInt ≤ 8 := (h.1 7).2.2.2.2.2.2.1 rfl
theorem mi_8 {f : Nat → Int32} (h : MI f) : 0 ≤ (f 8).toInt ∧ (f 8).toInt ≤ 6 := (h.1 8).2.2.2.2.2.2.2.1 rfl
theorem mi_80_0 {f : Nat → Int32} (h : MI f) {j : Nat} (h1 : 80 ≤ j) (h2 : j < 110) (h3 : (j - 80) % 5 = 0) : 0 ≤ (f j).toInt ∧ (f j).toInt ≤ 63 := (h.1 j).2.2.2.2.2.2.2.2.1 h1 h2 h3
theorem mi_80_1 {f : Nat → Int32} (h : MI f) {j : Nat} (h1 : 80 ≤ j) (h2 : j < 110) (h3 : (j - 80) % 5 = 1) : 0 ≤ (f j).toInt ∧ (f j).toInt ≤ 5 := (h.1 j).2.2.2.2.2.2.2.2.2.1 h1 h2 h3
theorem mi_80_2 {f : Nat → Int32} (h : MI f) {j : Nat} (h1 : 80 ≤ j) (h2 : j < 110) (h3 : (j - 80) % 5 = 2) : 0 ≤ (f j).toInt ∧ (f j).toInt ≤ 23 := (h.1 j).2.2.2.2.2.2.2.2.2.2.1 h1 h2 h3
theorem mi_80_3 {f : Nat → Int32} (h : MI f) {j : Nat} (h1 : 80 ≤ j) (h2 : j < 110) (h3 : (j - 80) % 5 = 3) : 0 ≤ (f j).toInt ∧ (f j).toInt ≤ 10 := (h.1 j).2.2.2.2.2.2.2.2.2.2.2.1 h1 h2 h3
theorem mi_230_0 {f : Nat → Int32} (h : MI f) {j : Nat} (h1 : 230 ≤ j) (h2 : j < 270) (h3 : (j - 230) % 4 = 0) : 0 ≤ (f j).toInt ∧ (f j).toInt ≤ 63 := (h.1 j).2.2.2.2.2.2.2.2.2.2.2.2.1 h1 h2 h3
theorem mi_230_1 {f : Nat → Int32} (h : MI f) {j : Nat} (h1 : 230 ≤ j) (h2 : j < 270) (h3 : (j - 230) % 4 = 1) : 0 ≤ (f j).toInt ∧ (f j).toInt ≤ 3 := (h.1 j).2.2.2.2.2.2.2.2.2.2.2.2.2.1 h1 h2 h3
theorem mi_230_2 {f : Nat → Int32} (h : MI f) {j : Nat} (h1 : 230 ≤ j) (h2 : j < 270) (h3 : (j - 230) % 4 = 2) : 0 ≤ (f j).toInt ∧ (f j).toInt ≤ 23 := (h.1 j).2.2.2.2.2.2.2.2.2.2.2.2.2.2.1 h1 h2 h3
theorem mi_230_3 {f : Nat → Int32} (h : MI f) {j : Nat} (h1 : 230 ≤ j) (h2 : j < 270) (h3 : (j - 230) % 4 = 3) : 0 ≤ (f j).toInt ∧ (f j).toInt ≤ 1 := (h.1 j).2.2.2.2.2.2.2.2.2.2.2.2.2.2.2.1 h1 h2 h3
theorem mi_270_1 {f : Nat → Int32} (h : MI f) {j : Nat} (h1 : 270 ≤ j) (h2 : j < 294) (h3 : (j - 270) % 3 = 1) : 0 ≤ (f j).toInt ∧ (f j).toInt ≤ 5 := (h.1 j).2.2.2.2.2.2.2.2.2.2.2.2.2.2.2.2.2.1 h1 h2 h3
theorem mi_270_2 {f : Nat → Int32} (h : MI f) {j : Nat} (h1 : 270 ≤ j) (h2 : j < 294) (h3 : (j - 270) % 3 = 2) : 0 ≤ (f j).toInt ∧ (f j).toInt ≤ 23 := (h.1 j).2.2.2.2.2.2.2.2.2.2.2.2.2.2.2.2.2.2.1 h1 h2 h3
theorem mi_300_0 {f : Nat → Int32} (h : MI f) {j : Nat} (h1 : 300 ≤ j) (h2 : j < 336) (h3 : (j - 300) % 6 = 0) : 0 ≤ (f j).toInt ∧ (f j).toInt ≤ 63 := (h.1 j).2.2.2.2.2.2.2.2.2.2.2.2.2.2.2.2.2.2.2.1 h1 h2 h3
theorem mi_300_1 {f : Nat → Int32} (h : MI f) {j : Nat} (h1 : 300 ≤ j) (h2 : j < 336) (h3 : (j - 300) % 6 = 1) : 0 ≤ (f j).toInt ∧ (f j).toInt ≤ 3 := (h.1 j).2.2.2.2.2.2.2.2.2.2.2.2.2.2.2.2.2.2.2.2.1 h1 h2 h3
theorem mi_300_2 {f : Nat → Int32} (h : MI f) {j : Nat} (h1 : 300 ≤ j) (h2 : j < 336) (h3 : (j - 300) % 6 = 2) : 0 ≤ (f j).toInt ∧ (f j).toInt ≤ 23 := (h.1 j).2.2.2.2.2.2.2.2.2.2.2.2.2.2.2.2.2.2.2.2.2.1 h1 h2 h3
theorem mi_110 {f : Nat → Int32} (h : MI f) {j : Nat} (h1 : 110 ≤ j) (h2 : j < 230) : (-1) ≤ (f j).toInt ∧ (f j).toInt ≤ 63 := (h.1 j).2.2.2.2.2.2.2.2.2.2.2.2.2.2.2.2.2.2.2.2.2.2 h1 h2
theorem stOK_congr {f g : Nat → Int32} {B : Nat} {h : Nat → Nat} {k : Nat} {b : Int} (e : ∀ j : Nat, B ≤ j → g j = f j) (q : stOK f B h k b) : stOK g B h k b := by
  unfold stOK at q ⊢
  rw [e (B + 2 * k) (by omega), e (B + 2 * k + 1) (by omega)]; exact q
theorem cdOK_congr {f g : Nat → Int32} {B : Nat} {a b : Int} (e : ∀ j : Nat, B ≤ j → g j = f j) (q : cdOK f B a b) : cdOK g B a b := by
  obtain ⟨h, h0, h1⟩ := q
  exact ⟨h, h0, fun k x y => stOK_congr e (h1 k x y)⟩
theorem clOK_congr {f g : Nat → Int32} {T k : Nat} (hk : T ≤ k) (e : ∀ j : Nat, T ≤ j → g j = f j) (q : clOK f T k) : clOK g T k := by
  unfold clOK at q ⊢
  obtain ⟨c0, c3, c4, c5, c6, d1, d2⟩ := q
  rw [e k (by omega), e (k + 3) (by omega), e (k + 4) (by omega), e (k + 5) (by omega), e (k + 6) (by omega)]
  exact ⟨c0, c3, c4, c5, c6, cdOK_congr (fun j hj => e j (by omega)) d1, fun y => cdOK_congr (fun j hj => e j (by omega)) (d2 y)⟩
theorem lawOK_congr {f g : Nat → Int32} {T : Nat} (e : ∀ j : Nat, T ≤ j → g j = f j) (q : lawOK f T) : lawOK g T := by
  unfold lawOK at q ⊢
  rw [e (T + 1) (by omega)]
  exact ⟨q.1, fun c hc => clOK_congr (by omega) e (q.2 c hc)⟩
theorem mSN_congr {f g : Nat → Int32} (e5 : g 5 = f 5) (e : ∀ j : Nat, 230 ≤ j → j < 270 → g j = f j) (h5 : (f 5).toInt ≤ 10) : mSN g = mSN f := by
  unfold mSN
  rw [e5]
  refine sg_sn _ (fun j hj => ?_)
  have z3 : (3 : Int32).toInt = 3 := (by decide)
  rw [z3]
  unfold tget
  by_cases q : 0 ≤ (j : Int) ∧ (j : Int) < (f 5).toInt ∧ (0 : Int) ≤ 3 ∧ (3 : Int) < 4
  · rw [if_pos q, if_pos q]; exact e _ (by omega) (by omega)
  · rw [if_neg q, if_neg q]
/-- a place that neither counts sightings nor laws -/
theorem mi_upd {f : Nat → Int32} {i : Nat} {v : Int32} (h : MI f) (hv : rOK i v.toInt) (hi : i < 340) (h5 : i ≠ 5) (h2 : i ≠ 2) (h3 : i ≠ 3) (hs : i < 230 ∨ 270 ≤ i) : MI (upd f i v) := by
  have u : ∀ j : Nat, j ≠ i → upd f i v j = f j := fun j hj => by unfold upd; rw [if_neg hj]
  refine ⟨fun j => ?_, ?_, ?_, fun l hl => ?_⟩
  · by_cases e : j = i
    · subst e
      have z : upd f j v j = v := by unfold upd; rw [if_pos rfl]
      rw [z]; exact hv
    · rw [u j e]; exact h.1 j
  · rw [mSN_congr (u 5 (Ne.symm h5)) (fun j a b => u j (by omega)) (by have z := (h.1 5).2.2.2.2.1 rfl; omega)]
    exact h.2.1
  · rw [u 3 (Ne.symm h3), u 2 (Ne.symm h2)]; exact h.2.2.1
  · rw [u 2 (Ne.symm h2)] at hl
    exact lawOK_congr (fun j hj => u j (by omega)) (h.2.2.2 l hl)
theorem g_a255 (x : Int32) : 0 ≤ (x &&& 255).toInt ∧ (x &&& 255).toInt ≤ 255 := by
  have h2 : (x &&& 255).toBitVec.toNat = x.toBitVec.toNat % 2 ^ 8 := by
    rw [Int32.toBitVec_and, BitVec.toNat_and, show (255 : Int32).toBitVec.toNat = 2 ^ 8 - 1 from by decide, Nat.and_two_pow_sub_one_eq_mod]
  have h3 : (x &&& 255).toInt = ((x &&& 255).toBitVec.toNat : Int) := by
    show (x &&& 255).toBitVec.toInt = _
    rw [BitVec.toInt_eq_toNat_cond, if_pos]
    rw [h2]; omega
  rw [h3, h2]; omega
theorem tp_upd {f : Nat → Int32} {i : Nat} {v : Int32} (h : TPI f) (hv : 0 ≤ v.toInt ∧ v.toInt ≤ 255) : TPI (upd f i v) := by
  intro j
  unfold upd
  by_cases e : j = i
  · rw [if_pos e]; exact hv
  · rw [if_neg e]; exact h j
theorem pt_upd {f : Nat → Int32} {i : Nat} {v : Int32} (h : PTI f) (hv : 0 ≤ v.toInt ∧ v.toInt ≤ 1535) : PTI (upd f i v) := by
  intro j
  unfold upd
  by_cases e : j = i
  · rw [if_pos e]; exact hv
  · rw [if_neg e]; exact h j
theorem g_l2i {x : Int64} {m : Int32} (h0 : 0 ≤ (lg_cmp x 0).toInt) (h1 : (lg_cmp x m.toInt64).toInt ≤ 0) : 0 ≤ x.toInt32.toInt ∧ x.toInt32.toInt ≤ m.toInt := by
  have a := g5_cmpI x 0
  have b := g5_cmpI x m.toInt64
  have z : (0 : Int64).toInt = 0 := by decide
  have e : m.toInt64.toInt = m.toInt := Int32.toInt_toInt64 m
  have r := g5_rg m
  have q : x.toInt32.toInt = x.toInt := by
    rw [Int64.toInt_toInt32]; exact g5_bm (by omega) (by omega)
  omega
theorem g_clk {x y : Int32} {n : Nat} (hy : y.toInt = (n : Int)) (h0 : 0 ≤ x.toInt) (h1 : x.toInt ≤ 100000) (hn : n ≤ 100000) : (x + y).toNatClampNeg = x.toNatClampNeg + n := by
  have a := g5_iadd (x := x) (y := y) (a := x.toInt) (b := (n : Int)) rfl hy (by omega) (by omega)
  have b := g5_clamp (x + y)
  have c := g5_clamp x
  omega
theorem g_nb {v : Int32} (h0 : 0 ≤ v.toInt) (h1 : v.toInt ≤ 1) : narrow .boolean (.int v) = .int v := by
  rcases (show v.toInt = 0 ∨ v.toInt = 1 by omega) with h | h
  · rw [g5_toc (k := 0) (n := 0) (by decide) h]; rfl
  · rw [g5_toc (k := 1) (n := 1) (by decide) h]; rfl
theorem me_upd {f : Nat → Int32} {i : Nat} {v : Int32} (h : MEI f) (hv : 0 ≤ v.toInt ∧ (v.toInt < 32 ∨ 64 ≤ v.toInt) ∧ v.toInt ≤ 127) : MEI (upd f i v) := by
  intro j
  unfold upd
  by_cases e : j = i
  · rw [if_pos e]; exact hv
  · rw [if_neg e]; exact h j
theorem me_or64N : ∀ x : Nat, x < 128 → 64 ≤ (nI x ||| 64).toInt ∧ (nI x ||| 64).toInt ≤ 127 := by decide +kernel
theorem me_or64 {x : Int32} (h : 0 ≤ x.toInt ∧ (x.toInt < 32 ∨ 64 ≤ x.toInt) ∧ x.toInt ≤ 127) : 0 ≤ (x ||| 64).toInt ∧ ((x ||| 64).toInt < 32 ∨ 64 ≤ (x ||| 64).toInt) ∧ (x ||| 64).toInt ≤ 127 := by
  have q := me_or64N x.toInt.toNat (by omega)
  rw [← g5_nI h.1] at q
  omega
theorem me_or1N : ∀ n : Nat, n < 5 → ∀ x : Nat, x < 128 → (x < 32 → 0 ≤ (nI x ||| ((1 : Int32) <<< (nI n &&& 31))).toInt ∧ (nI x ||| ((1 : Int32) <<< (nI n &&& 31))).toInt < 32) ∧ (64 ≤ x → 64 ≤ (nI x ||| ((1 : Int32) <<< (nI n &&& 31))).toInt ∧ (nI x ||| ((1 : Int32) <<< (nI n &&& 31))).toInt ≤ 127) := by decide +kernel
theorem me_or1 {x n : Int32} (h : 0 ≤ x.toInt ∧ (x.toInt < 32 ∨ 64 ≤ x.toInt) ∧ x.toInt ≤ 127) (hn : 0 ≤ n.toInt ∧ n.toInt < 5) : 0 ≤ (x ||| ((1 : Int32) <<< (n &&& 31))).toInt ∧ ((x ||| ((1 : Int32) <<< (n &&& 31))).toInt < 32 ∨ 64 ≤ (x ||| ((1 : Int32) <<< (n &&& 31))).toInt) ∧ (x ||| ((1 : Int32) <<< (n &&& 31))).toInt ≤ 127 := by
  have q := me_or1N n.toInt.toNat (by omega) x.toInt.toNat (by omega)
  rw [← g5_nI h.1, ← g5_nI hn.1] at q
  rcases h.2.1 with z | z
  · have y := q.1 (by omega); omega
  · have y := q.2 (by omega); omega
theorem me_low {x y : Int32} (hx : 0 ≤ x.toInt ∧ x.toInt < 32) (hy : 0 ≤ y.toInt ∧ y.toInt < 32) : 0 ≤ (x ||| y).toInt ∧ (x ||| y).toInt < 32 := by
  have q := tk_orN 5 (by decide) x.toInt.toNat (by show x.toInt.toNat < 32; omega) y.toInt.toNat (by show y.toInt.toNat < 32; omega)
  rw [← g5_nI hx.1, ← g5_nI hy.1] at q
  exact ⟨q.1, by have z : ((2 ^ 5 : Nat) : Int) = 32 := (by decide); omega⟩
/-! the model's sightings -/
theorem m_seen {f : Nat → Int32} (h : MI f) : ∀ r : Int, 0 ≤ r → r < (f 5).toInt → 0 ≤ (tget (fun j => f (230 + j)) (f 5).toInt 4 r (3 : Int32).toInt).toInt ∧ (tget (fun j => f (230 + j)) (f 5).toInt 4 r (3 : Int32).toInt).toInt ≤ 1 := by
  intro r a b
  have z3 : (3 : Int32).toInt = 3 := (by decide)
  have h5 := mi_5 h
  rw [z3]
  unfold tget
  rw [if_pos (by omega)]
  exact mi_230_3 h (by omega) (by omega) (by omega)
theorem m_tget {f : Nat → Int32} {r x : Int32} (hr : 0 ≤ r.toInt ∧ r.toInt < (f 5).toInt) (hx : x.toInt = 230 + 4 * r.toInt + 3) : tget (fun j => f (230 + j)) (f 5).toInt 4 r.toInt (3 : Int32).toInt = f x.toNatClampNeg := by
  have z3 : (3 : Int32).toInt = 3 := (by decide)
  rw [z3]
  unfold tget
  rw [if_pos (by omega), g5_clamp]
  show f (230 + (r.toInt * 4 + 3).toNat) = _
  congr 1; omega
theorem mn_stay {f : Nat → Int32} {n k k' : Int32} (h : MI f) (hn : n.toInt ≤ snS (fun j => f (230 + j)) (f 5).toInt k.toInt.toNat) (h0 : 0 ≤ k.toInt) (h1 : k.toInt < (f 5).toInt) (hk : k'.toInt = k.toInt + 1) : n.toInt ≤ snS (fun j => f (230 + j)) (f 5).toInt k'.toInt.toNat := by
  rw [sn_step h0 hk]
  have z := (m_seen h k.toInt h0 h1).1
  omega
theorem mn_go {f : Nat → Int32} {n n' k k' x : Int32} (hn : n.toInt ≤ snS (fun j => f (230 + j)) (f 5).toInt k.toInt.toNat) (h0 : 0 ≤ k.toInt) (h1 : k.toInt < (f 5).toInt) (hx : x.toInt = 230 + 4 * k.toInt + 3) (hv : (f x.toNatClampNeg).toInt = 1) (hk : k'.toInt = k.toInt + 1) (hn' : n'.toInt = n.toInt + 1) : n'.toInt ≤ snS (fun j => f (230 + j)) (f 5).toInt k'.toInt.toNat := by
  rw [sn_step h0 hk, m_tget ⟨h0, h1⟩ hx]
  omega
theorem mn_lt {f : Nat → Int32} {n k x : Int32} (h : MI f) (hn : n.toInt ≤ snS (fun j => f (230 + j)) (f 5).toInt k.toInt.toNat) (h0 : 0 ≤ k.toInt) (h1 : k.toInt < (f 5).toInt) (hx : x.toInt = 230 + 4 * k.toInt + 3) (hv : (f x.toNatClampNeg).toInt = 1) : n.toInt < 5 := by
  have z := sn_mono (m_seen h) (k.toInt.toNat + 1) ((f 5).toInt.toNat - (k.toInt.toNat + 1)) (by omega)
  rw [show k.toInt.toNat + 1 + ((f 5).toInt.toNat - (k.toInt.toNat + 1)) = (f 5).toInt.toNat by omega] at z
  have e : snS (fun j => f (230 + j)) (f 5).toInt (k.toInt.toNat + 1) = snS (fun j => f (230 + j)) (f 5).toInt k.toInt.toNat + (tget (fun j => f (230 + j)) (f 5).toInt 4 ((k.toInt.toNat : Nat) : Int) (3 : Int32).toInt).toInt := rfl
  rw [show ((k.toInt.toNat : Nat) : Int) = k.toInt by omega, m_tget ⟨h0, h1⟩ hx] at e
  have y : snS (fun j => f (230 + j)) (f 5).toInt (f 5).toInt.toNat ≤ 5 := h.2.1
  omega
def WNI (f : Nat → Int32) : Prop := ∀ j : Nat, 0 ≤ (f j).toInt ∧ (f j).toInt ≤ 63
theorem wn_upd {f : Nat → Int32} {i : Nat} {v : Int32} (h : WNI f) (hv : 0 ≤ v.toInt ∧ v.toInt ≤ 63) : WNI (upd f i v) := by
  intro j
  unfold upd
  by_cases e : j = i
  · rw [if_pos e]; exact hv
  · rw [if_neg e]; exact h j
/-! the model's sightings set and dropped; the law in force; images -/
theorem upd_ne {f : Nat → Int32} {i j : Nat} {v : Int32} (h : j ≠ i) : upd f i v j = f j := by unfold upd; rw [if_neg h]
theorem upd_eq {f : Nat → Int32} {i : Nat} {v : Int32} : upd f i v i = v := by unfold upd; rw [if_pos rfl]
/-- a place behind the sightings that count -/
theorem mi_updS {f : Nat → Int32} {i : Nat} {v : Int32} (h : MI f) (hv : rOK i v.toInt) (h1 : 230 + 4 * (f 5).toInt ≤ (i : Int)) (h2 : i < 270) : MI (upd f i v) := by
  have h5 := mi_5 h
  have u : ∀ j : Nat, j ≠ i → upd f i v j = f j := fun j hj => upd_ne hj
  have e5 : upd f i v 5 = f 5 := u 5 (by omega)
  refine ⟨fun j => ?_, ?_, ?_, fun l hl => ?_⟩
  · by_cases e : j = i
    · subst e; rw [upd_eq]; exact hv
    · rw [u j e]; exact h.1 j
  · have e : mSN (upd f i v) = mSN f := by
      unfold mSN
      rw [e5]
      refine sg_sn _ (fun j hj => ?_)
      have z3 : (3 : Int32).toInt = 3 := (by decide)
      rw [z3]
      unfold tget
      by_cases q : 0 ≤ (j : Int) ∧ (j : Int) < (f 5).toInt ∧ (0 : Int) ≤ 3 ∧ (3 : Int) < 4
      · rw [if_pos q, if_pos q]; exact u _ (by omega)
      · rw [if_neg q, if_neg q]
    rw [e]; exact h.2.1
  · rw [u 3 (by omega), u 2 (by omega)]; exact h.2.2.1
  · rw [u 2 (by omega)] at hl
    exact lawOK_congr (fun j hj => u j (by omega)) (h.2.2.2 l hl)
/-- one sighting more counts -/
theorem mi_inc5 {f : Nat → Int32} {v : Int32} (h : MI f) (hn : (f 5).toInt < 10) (hv : v.toInt = (f 5).toInt + 1) (hs : mSN f + (f (230 + 4 * (f 5).toInt.toNat + 3)).toInt ≤ 5) : MI (upd f 5 v) := by
  have h5 := mi_5 h
  have u : ∀ j : Nat, j ≠ 5 → upd f 5 v j = f j := fun j hj => upd_ne hj
  have z3 : (3 : Int32).toInt = 3 := (by decide)
  refine ⟨fun j => ?_, ?_, ?_, fun l hl => ?_⟩
  · by_cases e : j = 5
    · subst e; rw [upd_eq]
      unfold rOK
      refine ⟨?_, ?_, ?_, ?_, ?_, ?_, ?_, ?_, ?_, ?_, ?_, ?_, ?_, ?_, ?_, ?_, ?_, ?_, ?_, ?_, ?_, ?_, ?_⟩ <;> (intros; omega)
    · rw [u j e]; exact h.1 j
  · unfold mSN at hs ⊢
    rw [upd_eq, show v.toInt.toNat = (f 5).toInt.toNat + 1 by omega]
    show snS _ v.toInt (f 5).toInt.toNat + (tget _ v.toInt 4 (((f 5).toInt.toNat : Nat) : Int) (3 : Int32).toInt).toInt ≤ 5
    have e : snS (fun j => upd f 5 v (230 + j)) v.toInt (f 5).toInt.toNat = snS (fun j => f (230 + j)) (f 5).toInt (f 5).toInt.toNat := by
      refine sg_sn _ (fun j hj => ?_)
      rw [z3]
      unfold tget
      rw [if_pos (by omega), if_pos (by omega)]
      exact u _ (by omega)
    rw [e, z3]
    unfold tget
    rw [if_pos (by omega)]
    show snS (fun j => f (230 + j)) (f 5).toInt (f 5).toInt.toNat + (upd f 5 v (230 + ((((f 5).toInt.toNat : Nat) : Int) * 4 + 3).toNat)).toInt ≤ 5
    rw [u _ (by omega), show 230 + ((((f 5).toInt.toNat : Nat) : Int) * 4 + 3).toNat = 230 + 4 * (f 5).toInt.toNat + 3 by omega]
    exact hs
  · rw [u 3 (by omega), u 2 (by omega)]; exact h.2.2.1
  · rw [u 2 (by omega)] at hl
    exact lawOK_congr (fun j hj => u j (by omega)) (h.2.2.2 l hl)
/-- another law in force -/
theorem mi_upd3 {f : Nat → Int32} {v : Int32} (h : MI f) (h0 : -1 ≤ v.toInt) (h1 : v.toInt < (f 2).toInt) : MI (upd f 3 v) := by
  have h2 := mi_2 h
  have u : ∀ j : Nat, j ≠ 3 → upd f 3 v j = f j := fun j hj => upd_ne hj
  refine ⟨fun j => ?_, ?_, ?_, fun l hl => ?_⟩
  · by_cases e : j = 3
    · subst e; rw [upd_eq]
      unfold rOK
      refine ⟨?_, ?_, ?_, ?_, ?_, ?_, ?_, ?_, ?_, ?_, ?_, ?_, ?_, ?_, ?_, ?_, ?_, ?_, ?_, ?_, ?_, ?_, ?_⟩ <;> (intros; omega)
    · rw [u j e]; exact h.1 j
  · rw [mSN_congr (u 5 (by omega)) (fun j a b => u j (by omega)) (by have z := mi_5 h; omega)]; exact h.2.1
  · rw [upd_eq, u 2 (by omega)]; exact h1
  · rw [u 2 (by omega)] at hl
    exact lawOK_congr (fun j hj => u j (by omega)) (h.2.2.2 l hl)
theorem mSN_updS {f : Nat → Int32} {i : Nat} {v : Int32} (h5 : 0 ≤ (f 5).toInt) (h1 : 230 + 4 * (f 5).toInt ≤ (i : Int)) : mSN (upd f i v) = mSN f := by
  unfold mSN
  rw [upd_ne (f := f) (i := i) (v := v) (j := 5) (by omega)]
  refine sg_sn _ (fun j hj => ?_)
  have z3 : (3 : Int32).toInt = 3 := (by decide)
  rw [z3]
  unfold tget
  by_cases q : 0 ≤ (j : Int) ∧ (j : Int) < (f 5).toInt ∧ (0 : Int) ≤ 3 ∧ (3 : Int) < 4
  · rw [if_pos q, if_pos q]; exact upd_ne (by omega)
  · rw [if_neg q, if_neg q]
theorem mi_sight {f : Nat → Int32} {a0 a1 a2 a3 c w hh s v : Int32} (h : MI f) (hn : (f 5).toInt < 10) (e0 : a0.toInt = 230 + 4 * (f 5).toInt) (e1 : a1.toInt = a0.toInt + 1) (e2 : a2.toInt = a0.toInt + 2) (e3 : a3.toInt = a0.toInt + 3) (hc : 0 ≤ c.toInt ∧ c.toInt ≤ 63) (hw : 0 ≤ w.toInt ∧ w.toInt ≤ 3) (hh' : 0 ≤ hh.toInt ∧ hh.toInt ≤ 23) (hs : 0 ≤ s.toInt ∧ s.toInt ≤ 1) (hv : v.toInt = (f 5).toInt + 1) (h5 : mSN f + s.toInt ≤ 5) : MI (upd (upd (upd (upd (upd f a0.toNatClampNeg c) a1.toNatClampNeg w) a2.toNatClampNeg hh) a3.toNatClampNeg s) 5 v) := by
  have g := mi_5 h
  have c0 := g5_clamp a0
  have c1 := g5_clamp a1
  have c2 := g5_clamp a2
  have c3 := g5_clamp a3
  have m1 := mi_updS (i := a0.toNatClampNeg) (v := c) h (by unfold rOK; refine ⟨?_, ?_, ?_, ?_, ?_, ?_, ?_, ?_, ?_, ?_, ?_, ?_, ?_, ?_, ?_, ?_, ?_, ?_, ?_, ?_, ?_, ?_, ?_⟩ <;> (intros; omega)) (by omega) (by omega)
  have s1 := mSN_updS (f := f) (i := a0.toNatClampNeg) (v := c) (by omega) (by omega)
  have f1 : upd f a0.toNatClampNeg c 5 = f 5 := upd_ne (by omega)
  generalize upd f a0.toNatClampNeg c = F1 at m1 s1 f1 ⊢
  have m2 := mi_updS (i := a1.toNatClampNeg) (v := w) m1 (by unfold rOK; refine ⟨?_, ?_, ?_, ?_, ?_, ?_, ?_, ?_, ?_, ?_, ?_, ?_, ?_, ?_, ?_, ?_, ?_, ?_, ?_, ?_, ?_, ?_, ?_⟩ <;> (intros; omega)) (by rw [f1]; omega) (by omega)
  have s2 := mSN_updS (f := F1) (i := a1.toNatClampNeg) (v := w) (by rw [f1]; omega) (by rw [f1]; omega)
  have f2 : upd F1 a1.toNatClampNeg w 5 = F1 5 := upd_ne (by omega)
  generalize upd F1 a1.toNatClampNeg w = F2 at m2 s2 f2 ⊢
  rw [f1] at f2
  have m3 := mi_updS (i := a2.toNatClampNeg) (v := hh) m2 (by unfold rOK; refine ⟨?_, ?_, ?_, ?_, ?_, ?_, ?_, ?_, ?_, ?_, ?_, ?_, ?_, ?_, ?_, ?_, ?_, ?_, ?_, ?_, ?_, ?_, ?_⟩ <;> (intros; omega)) (by rw [f2]; omega) (by omega)
  have s3 := mSN_updS (f := F2) (i := a2.toNatClampNeg) (v := hh) (by rw [f2]; omega) (by rw [f2]; omega)
  have f3 : upd F2 a2.toNatClampNeg hh 5 = F2 5 := upd_ne (by omega)
  generalize upd F2 a2.toNatClampNeg hh = F3 at m3 s3 f3 ⊢
  rw [f2] at f3
  have m4 := mi_updS (i := a3.toNatClampNeg) (v := s) m3 (by unfold rOK; refine ⟨?_, ?_, ?_, ?_, ?_, ?_, ?_, ?_, ?_, ?_, ?_, ?_, ?_, ?_, ?_, ?_, ?_, ?_, ?_, ?_, ?_, ?_, ?_⟩ <;> (intros; omega)) (by rw [f3]; omega) (by omega)
  have s4 := mSN_updS (f := F3) (i := a3.toNatClampNeg) (v := s) (by rw [f3]; omega) (by rw [f3]; omega)
  have f4 : upd F3 a3.toNatClampNeg s 5 = F3 5 := upd_ne (by omega)
  rw [f3] at f4
  refine mi_inc5 m4 (by rw [f4]; exact hn) (by rw [f4]; exact hv) ?_
  rw [f4, show 230 + 4 * (f 5).toInt.toNat + 3 = a3.toNatClampNeg by omega, upd_eq, s4, s3, s2, s1]
  exact h5
/-! images of the row; a sighting that went -/
theorem cdOK_congrB {f g : Nat → Int32} {B : Nat} {a b : Int} (hb : b ≤ 400) (e : ∀ j : Nat, B ≤ j → j < B + 802 → g j = f j) (q : cdOK f B a b) : cdOK g B a b := by
  obtain ⟨h, h0, h1⟩ := q
  refine ⟨h, h0, fun k x y => ?_⟩
  have z := h1 k x y
  unfold stOK at z ⊢
  rw [e (B + 2 * k) (by omega) (by omega), e (B + 2 * k + 1) (by omega) (by omega)]; exact z
theorem clOK_congrB {f g : Nat → Int32} {T k : Nat} (hk : T ≤ k) (hk2 : k ≤ T + 90) (e : ∀ j : Nat, T ≤ j → j < T + 900 → g j = f j) (q : clOK f T k) : clOK g T k := by
  unfold clOK at q ⊢
  obtain ⟨c0, c3, c4, c5, c6, d1, d2⟩ := q
  rw [e k (by omega) (by omega), e (k + 3) (by omega) (by omega), e (k + 4) (by omega) (by omega), e (k + 5) (by omega) (by omega), e (k + 6) (by omega) (by omega)]
  exact ⟨c0, c3, c4, c5, c6, cdOK_congrB c6.2 (fun j a b => e j (by omega) (by omega)) d1, fun y => cdOK_congrB c4.2 (fun j a b => e j (by omega) (by omega)) (d2 y)⟩
theorem lawOK_congrB {f g : Nat → Int32} {T : Nat} (e : ∀ j : Nat, T ≤ j → j < T + 900 → g j = f j) (q : lawOK f T) : lawOK g T := by
  unfold lawOK at q ⊢
  rw [e (T + 1) (by omega) (by omega)]
  exact ⟨q.1, fun c hc => clOK_congrB (by omega) (by have z := q.1; omega) e (q.2 c hc)⟩
theorem mi_congr {f g : Nat → Int32} (e : ∀ j : Nat, j < 5740 → g j = f j) (h : MI f) : MI g := by
  have h2 := mi_2 h
  refine ⟨fun j => ?_, ?_, ?_, fun l hl => ?_⟩
  · by_cases q : j < 5740
    · rw [e j q]; exact h.1 j
    · unfold rOK
      refine ⟨?_, ?_, ?_, ?_, ?_, ?_, ?_, ?_, ?_, ?_, ?_, ?_, ?_, ?_, ?_, ?_, ?_, ?_, ?_, ?_, ?_, ?_, ?_⟩ <;> (intros; omega)
  · rw [mSN_congr (e 5 (by omega)) (fun j a b => e j (by omega)) (by have z := mi_5 h; omega)]; exact h.2.1
  · rw [e 3 (by omega), e 2 (by omega)]; exact h.2.2.1
  · rw [e 2 (by omega)] at hl
    exact lawOK_congrB (fun j a b => e j (by omega)) (h.2.2.2 l hl)
def IMI (f ke : Nat → Int32) : Prop := ∀ k : Nat, k < 2 → (ke k).toInt ≠ 0 → MI (fun j => f (5740 * k + j))
theorem im_back {f ke g : Nat → Int32} {p k : Int32} (h : IMI f ke) (hp : 0 ≤ p.toInt ∧ p.toInt ≤ 1) (hk : (ke p.toNatClampNeg).toInt ≠ 0) (e : ∀ j : Nat, (j : Int) < k.toInt → g j = f (5740 * p.toInt.toNat + j)) (hk2 : k.toInt = 5740) : MI g := by
  have c := g5_clamp p
  have z := h p.toInt.toNat (by omega) (by rw [← c]; exact hk)
  exact mi_congr (fun j hj => e j (by omega)) z
theorem im_step {g r : Nat → Int32} {p k k' x : Int32} (e : ∀ j : Nat, (j : Int) < k.toInt → g (5740 * p.toInt.toNat + j) = r j) (h0 : 0 ≤ k.toInt) (hp : 0 ≤ p.toInt) (hk : k'.toInt = k.toInt + 1) (hx : x.toInt = 5740 * p.toInt + k.toInt) : ∀ j : Nat, (j : Int) < k'.toInt → upd g x.toNatClampNeg (r k.toNatClampNeg) (5740 * p.toInt.toNat + j) = r j := by
  intro j hj
  have c := g5_clamp x
  have d := g5_clamp k
  by_cases q : j = k.toNatClampNeg
  · subst q
    rw [show 5740 * p.toInt.toNat + k.toNatClampNeg = x.toNatClampNeg by omega, upd_eq]
  · rw [upd_ne (by omega)]; exact e j (by omega)
theorem im_keep {f g : Nat → Int32} {p k x v : Int32} (e : ∀ j : Nat, ((j : Int) < 5740 * p.toInt ∨ 5740 * p.toInt + 5740 ≤ (j : Int)) → g j = f j) (hk : 0 ≤ k.toInt ∧ k.toInt < 5740) (hp : 0 ≤ p.toInt) (hx : x.toInt = 5740 * p.toInt + k.toInt) : ∀ j : Nat, ((j : Int) < 5740 * p.toInt ∨ 5740 * p.toInt + 5740 ≤ (j : Int)) → upd g x.toNatClampNeg v j = f j := by
  intro j hj
  have c := g5_clamp x
  rw [upd_ne (by omega)]; exact e j hj
theorem im_image {f g r ke : Nat → Int32} {p k : Int32} (h : IMI f ke) (hr : MI r) (hp : 0 ≤ p.toInt ∧ p.toInt ≤ 1) (hk : k.toInt = 5740) (e : ∀ j : Nat, (j : Int) < k.toInt → g (5740 * p.toInt.toNat + j) = r j) (e2 : ∀ j : Nat, ((j : Int) < 5740 * p.toInt ∨ 5740 * p.toInt + 5740 ≤ (j : Int)) → g j = f j) : IMI g (upd ke p.toNatClampNeg 1) := by
  intro q hq hne
  have c := g5_clamp p
  by_cases z : q = p.toNatClampNeg
  · subst z
    exact mi_congr (fun j hj => by show g (5740 * p.toNatClampNeg + j) = r j; rw [c]; exact e j (by omega)) hr
  · rw [upd_ne z] at hne
    exact mi_congr (fun j hj => by show g (5740 * q + j) = f (5740 * q + j); exact e2 _ (by omega)) (h q hq hne)
/-- the row without one of its sightings: rows behind it moved down, up to a place -/
def mshf (f : Nat → Int32) (s k : Int) : Nat → Int32 := fun j => if 230 + 4 * s ≤ (j : Int) ∧ (j : Int) < k then f (j + 4) else f j
theorem sh_0 {f : Nat → Int32} {s : Int} {k : Int32} (h : k.toInt = 230 + 4 * s) : f = mshf f s k.toInt := by
  funext j; unfold mshf; rw [if_neg (by omega)]
theorem sh_S {f g : Nat → Int32} {s : Int} {k k' x : Int32} (e : g = mshf f s k.toInt) (h0 : 230 + 4 * s ≤ k.toInt) (hs : 0 ≤ s) (hk : k'.toInt = k.toInt + 1) (hx : x.toInt = k.toInt + 4) : upd g k.toNatClampNeg (g x.toNatClampNeg) = mshf f s k'.toInt := by
  have c := g5_clamp k
  have d := g5_clamp x
  subst e
  funext j
  by_cases q : j = k.toNatClampNeg
  · subst q
    rw [upd_eq]
    unfold mshf
    rw [if_neg (by omega), if_pos (by omega)]
    congr 1; omega
  · rw [upd_ne q]
    unfold mshf
    by_cases z : 230 + 4 * s ≤ (j : Int) ∧ (j : Int) < k.toInt
    · rw [if_pos z, if_pos (by omega)]
    · rw [if_neg z, if_neg (by omega)]
theorem mi_drop {f g : Nat → Int32} {s : Int} {k v : Int32} (h : MI f) (e : g = mshf f s k.toInt) (hk : k.toInt = 266) (hs : 0 ≤ s ∧ s < (f 5).toInt) (hv : v.toInt = (f 5).toInt - 1) : MI (upd g 5 v) := by
  have h5 := mi_5 h
  have z3 : (3 : Int32).toInt = 3 := (by decide)
  rw [hk] at e
  have lo : ∀ j : Nat, ((j : Int) < 230 ∨ 266 ≤ (j : Int)) → g j = f j := by
    intro j hj; rw [e]; unfold mshf; rw [if_neg (by omega)]
  refine ⟨fun j => ?_, ?_, ?_, fun l hl => ?_⟩
  · by_cases q : j = 5
    · subst q; rw [upd_eq]
      unfold rOK
      refine ⟨?_, ?_, ?_, ?_, ?_, ?_, ?_, ?_, ?_, ?_, ?_, ?_, ?_, ?_, ?_, ?_, ?_, ?_, ?_, ?_, ?_, ?_, ?_⟩ <;> (intros; omega)
    · rw [upd_ne q]
      by_cases y : 230 + 4 * s ≤ (j : Int) ∧ (j : Int) < 266
      · have w : g j = f (j + 4) := by rw [e]; unfold mshf; rw [if_pos y]
        rw [w]
        have q0 : (j - 230) % 4 = 0 → 0 ≤ (f (j + 4)).toInt ∧ (f (j + 4)).toInt ≤ 63 := fun z => mi_230_0 h (by omega) (by omega) (by omega)
        have q1 : (j - 230) % 4 = 1 → 0 ≤ (f (j + 4)).toInt ∧ (f (j + 4)).toInt ≤ 3 := fun z => mi_230_1 h (by omega) (by omega) (by omega)
        have q2 : (j - 230) % 4 = 2 → 0 ≤ (f (j + 4)).toInt ∧ (f (j + 4)).toInt ≤ 23 := fun z => mi_230_2 h (by omega) (by omega) (by omega)
        have q3 : (j - 230) % 4 = 3 → 0 ≤ (f (j + 4)).toInt ∧ (f (j + 4)).toInt ≤ 1 := fun z => mi_230_3 h (by omega) (by omega) (by omega)
        unfold rOK
        refine ⟨?_, ?_, ?_, ?_, ?_, ?_, ?_, ?_, ?_, ?_, ?_, ?_, fun _ _ z => q0 z, fun _ _ z => q1 z, fun _ _ z => q2 z, fun _ _ z => q3 z, ?_, ?_, ?_, ?_, ?_, ?_, ?_⟩ <;> (intros; omega)
      · have w : g j = f j := by rw [e]; unfold mshf; rw [if_neg y]
        rw [w]; exact h.1 j
  · unfold mSN
    rw [upd_eq]
    have t := sg_rem5 (f := fun j => f (230 + j)) (N := v.toInt) (m_seen h) h.2.1 hs (by omega)
    rw [← sg_sn (g := fun j => upd g 5 v (230 + j)) (m := v.toInt) v.toInt.toNat (fun j hj => ?_)] at t
    · exact t
    · rw [sg_rem hs (by omega) ⟨by omega, by omega⟩, z3]
      unfold tget
      rw [if_pos (by omega)]
      show upd g 5 v (230 + ((j : Int) * 4 + 3).toNat) = _
      rw [upd_ne (by omega), e]
      unfold mshf
      by_cases y : (j : Int) < s
      · rw [if_neg (by omega), if_pos y, if_pos (by omega)]
      · rw [if_pos (by omega), if_neg y, if_pos (by omega)]
        show f (230 + ((j : Int) * 4 + 3).toNat + 4) = f (230 + (((j : Int) + 1) * 4 + 3).toNat)
        congr 1; omega
  · rw [upd_ne (by omega), upd_ne (by omega), lo 3 (by omega), lo 2 (by omega)]; exact h.2.2.1
  · rw [upd_ne (by omega), lo 2 (by omega)] at hl
    exact lawOK_congr (fun j hj => by rw [upd_ne (by omega)]; exact lo j (by omega)) (h.2.2.2 l hl)
/-! the model's reader: its tokens, its pile, its code, the heights of what is reckoned -/
def TKs (so fr to : Int) : Prop := so = 0 ∨ fr < to
theorem tks_lt {so fr to : Int} (h : TKs so fr to) (q : ¬ so = 0) : fr < to := by
  rcases h with h | h
  · exact absurd h q
  · exact h
def twt (t : Int) : Int := if t = 3 then 2 else if t = 2 then 1 else 0
theorem twt_rg (t : Int) : 0 ≤ twt t ∧ twt t ≤ 2 := by
  unfold twt
  split
  · omega
  · split <;> omega
theorem twt_0 {t : Int} (h : t = 0 ∨ t = 1 ∨ t = 4) : twt t = 0 := by
  unfold twt; rw [if_neg (by omega), if_neg (by omega)]
theorem twt_2 {t : Int} (h : t = 2) : twt t = 1 := by
  unfold twt; rw [if_neg (by omega), if_pos h]
theorem twt_3 {t : Int} (h : t = 3) : twt t = 2 := by
  unfold twt; rw [if_pos h]
def bnd (x : Int) : Int := if 30 ≤ x then 0 else if x = 29 then 1 else if x = 28 then 2 else if x = 27 then 3 else if 24 ≤ x then 4 else if 22 ≤ x then 6 else 5
theorem bnd_0 {x : Int} (h : 30 ≤ x) : bnd x = 0 := by unfold bnd; rw [if_pos h]
theorem bnd_1 {x : Int} (h : x = 29) : bnd x = 1 := by unfold bnd; rw [if_neg (by omega), if_pos h]
theorem bnd_2 {x : Int} (h : x = 28) : bnd x = 2 := by unfold bnd; rw [if_neg (by omega), if_neg (by omega), if_pos h]
theorem bnd_3 {x : Int} (h : x = 27) : bnd x = 3 := by unfold bnd; rw [if_neg (by omega), if_neg (by omega), if_neg (by omega), if_pos h]
theorem bnd_4 {x : Int} (h : 24 ≤ x) (h2 : x < 27) : bnd x = 4 := by unfold bnd; rw [if_neg (by omega), if_neg (by omega), if_neg (by omega), if_neg (by omega), if_pos h]
theorem bnd_6 {x : Int} (h : 22 ≤ x) (h2 : x < 24) : bnd x = 6 := by unfold bnd; rw [if_neg (by omega), if_neg (by omega), if_neg (by omega), if_neg (by omega), if_neg (by omega), if_pos h]
theorem bnd_5 {x : Int} (h : x < 22) : bnd x = 5 := by unfold bnd; rw [if_neg (by omega), if_neg (by omega), if_neg (by omega), if_neg (by omega), if_neg (by omega), if_neg (by omega)]
theorem bnd_lt5 {x : Int} (h : bnd x < 5) : 24 ≤ x := by
  by_cases q : 24 ≤ x
  · exact q
  · exfalso
    by_cases q2 : 22 ≤ x
    · have z := bnd_6 q2 (by omega); omega
    · have z := bnd_5 (x := x) (by omega); omega
theorem bnd_lt1 {x : Int} (h : bnd x < 1) : 30 ≤ x := by
  by_cases q : 30 ≤ x
  · exact q
  · exfalso
    by_cases q1 : x = 29
    · have z := bnd_1 q1; omega
    by_cases q2 : x = 28
    · have z := bnd_2 q2; omega
    by_cases q3 : x = 27
    · have z := bnd_3 q3; omega
    by_cases q4 : 24 ≤ x
    · have z := bnd_4 q4 (by omega); omega
    have z := bnd_lt5 (x := x) (by omega); omega
theorem bnd_ge1 {x : Int} (h : 1 ≤ bnd x) : x < 30 := by
  by_cases q : 30 ≤ x
  · have z := bnd_0 q; omega
  · omega
def nbP (pl : Nat → Int32) : Nat → Int
  | 0 => 0
  | n + 1 => nbP pl n + (if (pl n).toInt < 28 then 1 else 0)
def biP (pl : Nat → Int32) : Nat → Nat
  | 0 => 0
  | n + 1 => biP pl n + (if (pl n).toInt < 27 then 1 else 0)
theorem nbP_S (pl : Nat → Int32) (n : Nat) : nbP pl (n + 1) = nbP pl n + (if (pl n).toInt < 28 then 1 else 0) := rfl
theorem biP_S (pl : Nat → Int32) (n : Nat) : biP pl (n + 1) = biP pl n + (if (pl n).toInt < 27 then 1 else 0) := rfl
theorem nbP_ge (pl : Nat → Int32) (n : Nat) : 0 ≤ nbP pl n := by
  induction n with
  | zero => exact Int.le_refl _
  | succ n ih =>
    rw [nbP_S]
    split <;> omega
theorem nbP_congr {pl pl' : Nat → Int32} (n : Nat) (e : ∀ i : Nat, i < n → pl' i = pl i) : nbP pl' n = nbP pl n := by
  induction n with
  | zero => rfl
  | succ n ih => rw [nbP_S, nbP_S, ih (fun i h => e i (by omega)), e n (by omega)]
theorem biP_congr {pl pl' : Nat → Int32} (n : Nat) (e : ∀ i : Nat, i < n → pl' i = pl i) : biP pl' n = biP pl n := by
  induction n with
  | zero => rfl
  | succ n ih => rw [biP_S, biP_S, ih (fun i h => e i (by omega)), e n (by omega)]
theorem nbP_push {pl : Nat → Int32} {P : Nat} {x : Int32} : nbP (upd pl P x) (P + 1) = nbP pl P + (if x.toInt < 28 then 1 else 0) := by
  rw [nbP_S, upd_eq, nbP_congr P (fun i h => upd_ne (by omega))]
theorem biP_push {pl : Nat → Int32} {P : Nat} {x : Int32} : biP (upd pl P x) (P + 1) = biP pl P + (if x.toInt < 27 then 1 else 0) := by
  rw [biP_S, upd_eq, biP_congr P (fun i h => upd_ne (by omega))]
def isJ (x : Int32) : Prop := x.toInt = 28 ∨ x.toInt = 29
/-- what always holds of the pile and of the code, whether the text is bad or not -/
def XJ (go ga op ar pl pa : Nat → Int32) (a m p fr : Int) : Prop := 0 ≤ a ∧ a ≤ m ∧ 0 ≤ p ∧ p ≤ fr ∧ m + nbP pl p.toNat ≤ fr ∧ (∀ k : Nat, (k : Int) < a → op k = go k ∧ ar k = ga k) ∧ (∀ i : Nat, (i : Int) < p → 20 ≤ (pl i).toInt ∧ (pl i).toInt ≤ 31 ∧ (isJ (pl i) → a ≤ (pa i).toInt ∧ (pa i).toInt < m))
theorem xj_0 {op ar pl pa : Nat → Int32} {m p fr : Int} (hp : p = 0) (h0 : 0 ≤ m) (h1 : m ≤ fr) : XJ op ar op ar pl pa m m p fr := by
  subst hp
  exact ⟨h0, Int.le_refl _, Int.le_refl _, by omega, by show m + 0 ≤ fr; omega, fun _ _ => ⟨rfl, rfl⟩, fun i h => by omega⟩
theorem xj_mf {go ga op ar pl pa : Nat → Int32} {a m p fr : Int} (X : XJ go ga op ar pl pa a m p fr) : m ≤ fr ∧ p ≤ fr ∧ 0 ≤ a ∧ a ≤ m := by
  obtain ⟨x1, x2, x3, x4, x5, x6, x7⟩ := X
  have z := nbP_ge pl p.toNat
  omega
theorem xj_at {go ga op ar pl pa : Nat → Int32} {a m fr : Int} {p p' : Int32} (X : XJ go ga op ar pl pa a m p.toInt fr) (h : 0 < p.toInt) (e : p'.toInt = p.toInt - 1) : 20 ≤ (pl p'.toNatClampNeg).toInt ∧ (pl p'.toNatClampNeg).toInt ≤ 31 := by
  have c := g5_clamp p'
  have z := X.2.2.2.2.2.2 p'.toNatClampNeg (by omega)
  exact ⟨z.1, z.2.1⟩
theorem xj_pa {go ga op ar pl pa : Nat → Int32} {a m fr : Int} {p p' : Int32} (X : XJ go ga op ar pl pa a m p.toInt fr) (h : 0 < p.toInt) (e : p'.toInt = p.toInt - 1) (hf : fr ≤ 400) (j : isJ (pl p'.toNatClampNeg)) : 0 ≤ (pa p'.toNatClampNeg).toInt ∧ (pa p'.toNatClampNeg).toInt ≤ 399 := by
  have c := g5_clamp p'
  have z := (X.2.2.2.2.2.2 p'.toNatClampNeg (by omega)).2.2 j
  have y := xj_mf X
  omega
theorem xj_room {go ga op ar pl pa : Nat → Int32} {a m fr : Int} {p p' : Int32} (X : XJ go ga op ar pl pa a m p.toInt fr) (h : 0 < p.toInt) (e : p'.toInt = p.toInt - 1) (hf : fr ≤ 400) (x : (pl p'.toNatClampNeg).toInt < 28) : m < 400 := by
  have c := g5_clamp p'
  have y : m + nbP pl p.toInt.toNat ≤ fr := X.2.2.2.2.1
  rw [show p.toInt.toNat = p'.toNatClampNeg + 1 by omega, nbP_S, if_pos x] at y
  have z := nbP_ge pl p'.toNatClampNeg
  omega
theorem xj_up {go ga op ar pl pa : Nat → Int32} {a m p fr fr' : Int} (X : XJ go ga op ar pl pa a m p fr) (h : fr ≤ fr') : XJ go ga op ar pl pa a m p fr' := by
  obtain ⟨x1, x2, x3, x4, x5, x6, x7⟩ := X
  exact ⟨x1, x2, x3, by omega, by omega, x6, x7⟩
/-- a step more -/
theorem xj_emit {go ga op ar pl pa : Nat → Int32} {a p fr fr' : Int} {m m' x y : Int32} (X : XJ go ga op ar pl pa a m.toInt p fr) (e : m'.toInt = m.toInt + 1) (hf : fr + 1 ≤ fr') : XJ go ga (upd op m.toNatClampNeg x) (upd ar m.toNatClampNeg y) pl pa a m'.toInt p fr' := by
  obtain ⟨x1, x2, x3, x4, x5, x6, x7⟩ := X
  have c := g5_clamp m
  refine ⟨x1, by omega, x3, by omega, by omega, fun k hk => ?_, fun i hi => ?_⟩
  · rw [upd_ne (by omega), upd_ne (by omega)]; exact x6 k hk
  · have z := x7 i hi
    exact ⟨z.1, z.2.1, fun j => by have w := z.2.2 j; omega⟩
/-- what stood on top of the pile is a step now -/
theorem xj_popE {go ga op ar pl pa : Nat → Int32} {a fr : Int} {m m' p p' x y : Int32} (X : XJ go ga op ar pl pa a m.toInt p.toInt fr) (h : 0 < p.toInt) (e : p'.toInt = p.toInt - 1) (em : m'.toInt = m.toInt + 1) (hx : (pl p'.toNatClampNeg).toInt < 28) : XJ go ga (upd op m.toNatClampNeg x) (upd ar m.toNatClampNeg y) pl pa a m'.toInt p'.toInt fr := by
  obtain ⟨x1, x2, x3, x4, x5, x6, x7⟩ := X
  have c := g5_clamp m
  have d := g5_clamp p'
  rw [show p.toInt.toNat = p'.toInt.toNat + 1 by omega, nbP_S, show p'.toInt.toNat = p'.toNatClampNeg from rfl, if_pos hx] at x5
  refine ⟨x1, by omega, by omega, by omega, by rw [show p'.toInt.toNat = p'.toNatClampNeg from rfl]; omega, fun k hk => ?_, fun i hi => ?_⟩
  · rw [upd_ne (by omega), upd_ne (by omega)]; exact x6 k hk
  · have z := x7 i (by omega)
    exact ⟨z.1, z.2.1, fun j => by have w := z.2.2 j; omega⟩
theorem xj_popB {go ga op ar pl pa : Nat → Int32} {a m fr : Int} {p p' : Int32} (X : XJ go ga op ar pl pa a m p.toInt fr) (h : 0 < p.toInt) (e : p'.toInt = p.toInt - 1) : XJ go ga op ar pl pa a m p'.toInt fr := by
  obtain ⟨x1, x2, x3, x4, x5, x6, x7⟩ := X
  have s : nbP pl p.toInt.toNat = nbP pl p'.toInt.toNat + (if (pl p'.toInt.toNat).toInt < 28 then 1 else 0) := by
    rw [show p.toInt.toNat = p'.toInt.toNat + 1 by omega, nbP_S]
  have t : (0 : Int) ≤ (if (pl p'.toInt.toNat).toInt < 28 then 1 else 0) := by split <;> omega
  exact ⟨x1, x2, by omega, by omega, by omega, x6, fun i hi => x7 i (by omega)⟩
theorem xj_popJ {go ga op ar pl pa : Nat → Int32} {a fr : Int} {m p p' : Int32} (X : XJ go ga op ar pl pa a m.toInt p.toInt fr) (h : 0 < p.toInt) (e : p'.toInt = p.toInt - 1) (j : isJ (pl p'.toNatClampNeg)) : XJ go ga op (upd ar (pa p'.toNatClampNeg).toNatClampNeg m) pl pa a m.toInt p'.toInt fr := by
  have w := (X.2.2.2.2.2.2 p'.toNatClampNeg (by have d := g5_clamp p'; omega)).2.2 j
  obtain ⟨x1, x2, x3, x4, x5, x6, x7⟩ := xj_popB X h e
  have c := g5_clamp (pa p'.toNatClampNeg)
  exact ⟨x1, x2, x3, x4, x5, fun k hk => ⟨(x6 k hk).1, by rw [upd_ne (by omega)]; exact (x6 k hk).2⟩, x7⟩
/-- one more on the pile -/
theorem xj_push {go ga op ar pl pa : Nat → Int32} {a m fr fr' : Int} {p p' x y : Int32} (X : XJ go ga op ar pl pa a m p.toInt fr) (e : p'.toInt = p.toInt + 1) (hf : fr + 1 ≤ fr') (hx : 20 ≤ x.toInt ∧ x.toInt ≤ 31) (hj : x.toInt < 28 ∨ 29 < x.toInt) : XJ go ga op ar (upd pl p.toNatClampNeg x) (upd pa p.toNatClampNeg y) a m p'.toInt fr' := by
  obtain ⟨x1, x2, x3, x4, x5, x6, x7⟩ := X
  have c := g5_clamp p
  have s : nbP (upd pl p.toNatClampNeg x) p'.toInt.toNat = nbP pl p.toInt.toNat + (if x.toInt < 28 then 1 else 0) := by
    rw [show p'.toInt.toNat = p.toNatClampNeg + 1 by omega, nbP_push]; rfl
  have t : (if x.toInt < 28 then (1 : Int) else 0) ≤ 1 := by split <;> omega
  refine ⟨x1, x2, by omega, by omega, by omega, x6, fun i hi => ?_⟩
  by_cases q : i = p.toNatClampNeg
  · subst q
    rw [upd_eq]
    exact ⟨hx.1, hx.2, fun j => by unfold isJ at j; omega⟩
  · rw [upd_ne q, upd_ne q]; exact x7 i (by omega)
theorem xj_pushJ {go ga op ar pl pa : Nat → Int32} {a fr fr' : Int} {m m' p p' x z : Int32} (X : XJ go ga op ar pl pa a m.toInt p.toInt fr) (e : p'.toInt = p.toInt + 1) (em : m'.toInt = m.toInt + 1) (hf : fr + 1 ≤ fr') (hx : isJ x) : XJ go ga (upd op m.toNatClampNeg x) (upd ar m.toNatClampNeg z) (upd pl p.toNatClampNeg x) (upd pa p.toNatClampNeg m) a m'.toInt p'.toInt fr' := by
  obtain ⟨x1, x2, x3, x4, x5, x6, x7⟩ := X
  have c := g5_clamp p
  have d := g5_clamp m
  have hx2 := hx
  unfold isJ at hx2
  have s : nbP (upd pl p.toNatClampNeg x) p'.toInt.toNat = nbP pl p.toInt.toNat := by
    rw [show p'.toInt.toNat = p.toNatClampNeg + 1 by omega, nbP_push, if_neg (by omega)]
    show nbP pl p.toNatClampNeg + 0 = nbP pl p.toNatClampNeg
    omega
  refine ⟨x1, by omega, by omega, by omega, by omega, fun k hk => ?_, fun i hi => ?_⟩
  · rw [upd_ne (by omega), upd_ne (by omega)]; exact x6 k hk
  · by_cases q : i = p.toNatClampNeg
    · subst q
      rw [upd_eq, upd_eq]
      exact ⟨by omega, by omega, fun _ => by omega⟩
    · rw [upd_ne q, upd_ne q]
      have z := x7 i (by omega)
      exact ⟨z.1, z.2.1, fun j => by have w := z.2.2 j; omega⟩
/-! the heights -/
def hSt (op ar pl pa : Nat → Int32) (h : Nat → Nat) (k : Nat) (m p : Int) : Prop := h k ≤ k ∧ ((0 ≤ (op k).toInt ∧ (op k).toInt ≤ 8 ∧ h (k + 1) = h k + 1) ∨ (20 ≤ (op k).toInt ∧ (op k).toInt ≤ 26 ∧ 2 ≤ h k ∧ h (k + 1) + 1 = h k) ∨ ((op k).toInt = 27 ∧ 1 ≤ h k ∧ h (k + 1) = h k) ∨ (isJ (op k) ∧ 1 ≤ h k ∧ h (k + 1) + 1 = h k ∧ (((k : Int) < (ar k).toInt ∧ (ar k).toInt ≤ m ∧ h (ar k).toInt.toNat = h k) ∨ ∃ i : Nat, (i : Int) < p ∧ isJ (pl i) ∧ (pa i).toInt = (k : Int))))
def HG (op ar pl pa : Nat → Int32) (h : Nat → Nat) (a m p : Int) (d : Nat) : Prop := h a.toNat = 0 ∧ h m.toNat = biP pl p.toNat + d ∧ h m.toNat ≤ m.toNat ∧ (∀ k : Nat, a ≤ (k : Int) → (k : Int) < m → hSt op ar pl pa h k m p) ∧ (∀ i : Nat, (i : Int) < p → isJ (pl i) → h (pa i).toInt.toNat = biP pl i + 1)
def SQ (pl : Nat → Int32) (p : Int) : Prop := ∀ i j : Nat, i < j → (j : Int) < p → (pl i).toInt = 31 → (pl j).toInt ≤ 23 ∨ (pl j).toInt = 31
def no31 (pl : Nat → Int32) (p : Int) : Prop := ∀ i : Nat, (i : Int) < p → (pl i).toInt ≠ 31
def no30 (pl : Nat → Int32) (p : Int) : Prop := ∀ i : Nat, (i : Int) < p → (pl i).toInt < 30
def HJ (op ar pl pa : Nat → Int32) (a m p : Int) (d : Nat) : Prop := (∃ h : Nat → Nat, HG op ar pl pa h a m p d) ∧ SQ pl p
theorem hg_emit {op ar pl pa : Nat → Int32} {h : Nat → Nat} {a m p : Int} {d M v d' : Nat} {x y : Int32} (H : HG op ar pl pa h a m p d) (hM : (M : Int) = m) (h0 : 0 ≤ a) (ha : a ≤ m) (hp : ∀ i : Nat, (i : Int) < p → isJ (pl i) → 0 ≤ (pa i).toInt ∧ (pa i).toInt ≤ m) (hv : v ≤ M + 1) (hd : v = biP pl p.toNat + d') (st : (0 ≤ x.toInt ∧ x.toInt ≤ 8 ∧ v = h M + 1) ∨ (20 ≤ x.toInt ∧ x.toInt ≤ 26 ∧ 2 ≤ h M ∧ v + 1 = h M) ∨ (x.toInt = 27 ∧ 1 ≤ h M ∧ v = h M) ∨ (isJ x ∧ 1 ≤ h M ∧ v + 1 = h M ∧ ∃ i : Nat, (i : Int) < p ∧ isJ (pl i) ∧ (pa i).toInt = (M : Int))) : ∃ h' : Nat → Nat, HG (upd op M x) (upd ar M y) pl pa h' a (m + 1) p d' := by
  obtain ⟨h1, h2, h3, h4, h5⟩ := H
  obtain ⟨h', e1, e2⟩ : ∃ h' : Nat → Nat, h' (M + 1) = v ∧ ∀ k : Nat, k ≠ M + 1 → h' k = h k := ⟨fun k => if k = M + 1 then v else h k, if_pos rfl, fun k hk => if_neg hk⟩
  have em : (m + 1).toNat = M + 1 := by omega
  refine ⟨h', ?_, ?_, ?_, ?_, ?_⟩
  · rw [e2 a.toNat (by omega)]; exact h1
  · rw [em, e1]; exact hd
  · rw [em, e1]; exact hv
  · intro k hk1 hk2
    by_cases q : k = M
    · subst q
      have u1 : upd op k x k = x := upd_eq
      have u2 : h' k = h k := e2 k (by omega)
      have hk : h k ≤ k := by
        have z : m.toNat = k := by clear st; omega
        rw [z] at h3; exact h3
      unfold hSt
      rw [u1, u2, e1]
      refine ⟨hk, ?_⟩
      rcases st with s | s | s | ⟨s1, s2, s3, s4⟩
      · exact Or.inl s
      · exact Or.inr (Or.inl s)
      · exact Or.inr (Or.inr (Or.inl s))
      · exact Or.inr (Or.inr (Or.inr ⟨s1, s2, s3, Or.inr s4⟩))
    · have z := h4 k hk1 (by omega)
      have u1 : upd op M x k = op k := upd_ne q
      have u2 : upd ar M y k = ar k := upd_ne q
      have u3 : h' k = h k := e2 k (by omega)
      have u4 : h' (k + 1) = h (k + 1) := e2 (k + 1) (by omega)
      unfold hSt at z ⊢
      rw [u1, u2, u3, u4]
      obtain ⟨z1, z2⟩ := z
      refine ⟨z1, ?_⟩
      rcases z2 with s | s | s | ⟨s1, s2, s3, s4⟩
      · exact Or.inl s
      · exact Or.inr (Or.inl s)
      · exact Or.inr (Or.inr (Or.inl s))
      · refine Or.inr (Or.inr (Or.inr ⟨s1, s2, s3, ?_⟩))
        rcases s4 with ⟨t1, t2, t3⟩ | t
        · exact Or.inl ⟨t1, by omega, by rw [e2 (ar k).toInt.toNat (by omega)]; exact t3⟩
        · exact Or.inr t
  · intro i hi hj
    have z := h5 i hi hj
    have b := hp i hi hj
    rw [e2 (pa i).toInt.toNat (by omega)]; exact z
theorem hg_push {op ar pl pa : Nat → Int32} {h : Nat → Nat} {a m p : Int} {d P d' : Nat} {x y : Int32} (H : HG op ar pl pa h a m p d) (hP : (P : Int) = p) (hd : biP pl P + d = biP (upd pl P x) (P + 1) + d') (hj : isJ x → y.toInt.toNat = m.toNat ∧ d = 1) : HG op ar (upd pl P x) (upd pa P y) h a m (p + 1) d' := by
  obtain ⟨h1, h2, h3, h4, h5⟩ := H
  have ep : (p + 1).toNat = P + 1 := by omega
  have ep2 : p.toNat = P := by omega
  rw [ep2] at h2
  refine ⟨h1, ?_, h3, ?_, ?_⟩
  · rw [ep]; omega
  · intro k hk1 hk2
    have z := h4 k hk1 hk2
    unfold hSt at z ⊢
    obtain ⟨z1, z2⟩ := z
    refine ⟨z1, ?_⟩
    rcases z2 with s | s | s | ⟨s1, s2, s3, s4⟩
    · exact Or.inl s
    · exact Or.inr (Or.inl s)
    · exact Or.inr (Or.inr (Or.inl s))
    · refine Or.inr (Or.inr (Or.inr ⟨s1, s2, s3, ?_⟩))
      rcases s4 with t | ⟨i, i1, i2, i3⟩
      · exact Or.inl t
      · exact Or.inr ⟨i, by omega, by rw [upd_ne (by omega)]; exact i2, by rw [upd_ne (by omega)]; exact i3⟩
  · intro i hi hj2
    by_cases q : i = P
    · subst q
      rw [upd_eq] at hj2 ⊢
      have w := hj hj2
      rw [w.1, h2, biP_congr i (fun j hj => upd_ne (by omega)), w.2]
    · rw [upd_ne q] at hj2 ⊢
      rw [biP_congr i (fun j hj => upd_ne (by omega))]
      exact h5 i (by omega) hj2
theorem hg_pop {op ar pl pa : Nat → Int32} {h : Nat → Nat} {a m p : Int} {d P d' : Nat} (H : HG op ar pl pa h a m p d) (hP : (P : Int) + 1 = p) (hd : biP pl (P + 1) + d = biP pl P + d') (hj : ¬ isJ (pl P)) : HG op ar pl pa h a m (P : Int) d' := by
  obtain ⟨h1, h2, h3, h4, h5⟩ := H
  rw [show p.toNat = P + 1 by omega] at h2
  refine ⟨h1, ?_, h3, ?_, fun i hi => h5 i (by omega)⟩
  · rw [show ((P : Nat) : Int).toNat = P by omega]; omega
  · intro k hk1 hk2
    have z := h4 k hk1 hk2
    unfold hSt at z ⊢
    obtain ⟨z1, z2⟩ := z
    refine ⟨z1, ?_⟩
    rcases z2 with s | s | s | ⟨s1, s2, s3, s4⟩
    · exact Or.inl s
    · exact Or.inr (Or.inl s)
    · exact Or.inr (Or.inr (Or.inl s))
    · refine Or.inr (Or.inr (Or.inr ⟨s1, s2, s3, ?_⟩))
      rcases s4 with t | ⟨i, i1, i2, i3⟩
      · exact Or.inl t
      · by_cases q : i = P
        · subst q; exact absurd i2 hj
        · exact Or.inr ⟨i, by omega, i2, i3⟩
theorem hg_res {op ar pl pa : Nat → Int32} {h : Nat → Nat} {a m p : Int} {P Q : Nat} {y : Int32} (H : HG op ar pl pa h a m p 1) (hP : (P : Int) + 1 = p) (j : isJ (pl P)) (hQ : (Q : Int) = (pa P).toInt) (hb : (pa P).toInt < m) (hy : y.toInt = m) : HG op (upd ar Q y) pl pa h a m (P : Int) 1 := by
  obtain ⟨h1, h2, h3, h4, h5⟩ := H
  have j2 := j
  unfold isJ at j2
  rw [show p.toNat = P + 1 by omega, biP_S, if_neg (by omega)] at h2
  have hq : h Q = biP pl P + 1 := by
    have z := h5 P (by omega) j
    rw [show (pa P).toInt.toNat = Q by omega] at z; exact z
  refine ⟨h1, ?_, h3, ?_, fun i hi => h5 i (by omega)⟩
  · rw [show ((P : Nat) : Int).toNat = P by omega]; omega
  · intro k hk1 hk2
    have z := h4 k hk1 hk2
    unfold hSt at z ⊢
    obtain ⟨z1, z2⟩ := z
    refine ⟨z1, ?_⟩
    rcases z2 with s | s | s | ⟨s1, s2, s3, s4⟩
    · exact Or.inl s
    · exact Or.inr (Or.inl s)
    · exact Or.inr (Or.inr (Or.inl s))
    · refine Or.inr (Or.inr (Or.inr ⟨s1, s2, s3, ?_⟩))
      by_cases q : k = Q
      · subst q
        refine Or.inl ?_
        rw [upd_eq]
        exact ⟨by omega, by omega, by rw [hy, hq, h2]⟩
      · rw [upd_ne q]
        rcases s4 with t | ⟨i, i1, i2, i3⟩
        · exact Or.inl t
        · by_cases r : i = P
          · subst r; exact absurd (show k = Q by omega) q
          · exact Or.inr ⟨i, by omega, i2, i3⟩
theorem hj_0 {op ar pl pa : Nat → Int32} {m p : Int} (hp : p = 0) : HJ op ar pl pa m m p 0 := by
  subst hp
  exact ⟨⟨fun _ => 0, rfl, rfl, Nat.zero_le _, fun k h1 h2 => absurd h2 (by omega), fun i h => absurd h (by omega)⟩, fun i j _ h => absurd h (by omega)⟩
theorem xj_hp {go ga op ar pl pa : Nat → Int32} {a m p fr : Int} (X : XJ go ga op ar pl pa a m p fr) : ∀ i : Nat, (i : Int) < p → isJ (pl i) → 0 ≤ (pa i).toInt ∧ (pa i).toInt ≤ m := by
  intro i hi j
  have w := (X.2.2.2.2.2.2 i hi).2.2 j
  have a0 := X.1
  omega
/-- a leaf -/
theorem hj_leaf {go ga op ar pl pa : Nat → Int32} {a p fr : Int} {m m' x y : Int32} (X : XJ go ga op ar pl pa a m.toInt p fr) (H : HJ op ar pl pa a m.toInt p 0) (e : m'.toInt = m.toInt + 1) (hx : 0 ≤ x.toInt ∧ x.toInt ≤ 8) : HJ (upd op m.toNatClampNeg x) (upd ar m.toNatClampNeg y) pl pa a m'.toInt p 1 := by
  obtain ⟨⟨h, H⟩, S⟩ := H
  have b := xj_mf X
  have c := g5_clamp m
  have h3 := H.2.2.1
  have h2 := H.2.1
  have hm : h m.toNatClampNeg = biP pl p.toNat + 0 := h2
  have hm3 : h m.toNatClampNeg ≤ m.toNatClampNeg := h3
  obtain ⟨h', H'⟩ := hg_emit (M := m.toNatClampNeg) (v := h m.toNatClampNeg + 1) (d' := 1) (x := x) (y := y) H (by omega) (by omega) (by omega) (xj_hp X) (by omega) (by omega) (Or.inl ⟨hx.1, hx.2, rfl⟩)
  rw [← e] at H'
  exact ⟨⟨h', H'⟩, S⟩
/-- an operator of the pile becomes a step -/
theorem hj_popE {go ga op ar pl pa : Nat → Int32} {a fr : Int} {m m' p p' y : Int32} (X : XJ go ga op ar pl pa a m.toInt p.toInt fr) (H : HJ op ar pl pa a m.toInt p.toInt 1) (h : 0 < p.toInt) (e : p'.toInt = p.toInt - 1) (em : m'.toInt = m.toInt + 1) (hx : (pl p'.toNatClampNeg).toInt < 28) : HJ (upd op m.toNatClampNeg (pl p'.toNatClampNeg)) (upd ar m.toNatClampNeg y) pl pa a m'.toInt p'.toInt 1 := by
  obtain ⟨⟨hh, H⟩, S⟩ := H
  have b := xj_mf X
  have c := g5_clamp m
  have d := g5_clamp p'
  have r := xj_at X h e
  have hp := xj_hp X
  have x3 : 0 ≤ p.toInt := X.2.2.1
  have nj : ¬ isJ (pl p'.toNatClampNeg) := fun q => by unfold isJ at q; omega
  have S' : SQ pl p'.toInt := fun i j h1 h2 => S i j h1 (by omega)
  have ep : ((p'.toNatClampNeg : Nat) : Int) = p'.toInt := by omega
  by_cases q : (pl p'.toNatClampNeg).toInt < 27
  · have H1 := hg_pop (P := p'.toNatClampNeg) (d' := 2) H (by omega) (by rw [biP_S, if_pos q]) nj
    rw [ep] at H1
    have hm : hh m.toNatClampNeg = biP pl p'.toNatClampNeg + 2 := H1.2.1
    have hm3 : hh m.toNatClampNeg ≤ m.toNatClampNeg := H1.2.2.1
    obtain ⟨h', H'⟩ := hg_emit (M := m.toNatClampNeg) (v := biP pl p'.toNatClampNeg + 1) (d' := 1) (x := pl p'.toNatClampNeg) (y := y) H1 (by omega) (by omega) (by omega) (fun i hi => hp i (by omega)) (by omega) rfl (Or.inr (Or.inl ⟨by omega, by omega, by omega, by omega⟩))
    rw [← em] at H'
    exact ⟨⟨h', H'⟩, S'⟩
  · have H1 := hg_pop (P := p'.toNatClampNeg) (d' := 1) H (by omega) (by rw [biP_S, if_neg q]) nj
    rw [ep] at H1
    have hm : hh m.toNatClampNeg = biP pl p'.toNatClampNeg + 1 := H1.2.1
    have hm3 : hh m.toNatClampNeg ≤ m.toNatClampNeg := H1.2.2.1
    obtain ⟨h', H'⟩ := hg_emit (M := m.toNatClampNeg) (v := biP pl p'.toNatClampNeg + 1) (d' := 1) (x := pl p'.toNatClampNeg) (y := y) H1 (by omega) (by omega) (by omega) (fun i hi => hp i (by omega)) (by omega) rfl (Or.inr (Or.inr (Or.inl ⟨by omega, by omega, by omega⟩)))
    rw [← em] at H'
    exact ⟨⟨h', H'⟩, S'⟩
theorem hj_popJ {go ga op ar pl pa : Nat → Int32} {a fr : Int} {m p p' : Int32} (X : XJ go ga op ar pl pa a m.toInt p.toInt fr) (H : HJ op ar pl pa a m.toInt p.toInt 1) (h : 0 < p.toInt) (e : p'.toInt = p.toInt - 1) (j : isJ (pl p'.toNatClampNeg)) : HJ op (upd ar (pa p'.toNatClampNeg).toNatClampNeg m) pl pa a m.toInt p'.toInt 1 := by
  obtain ⟨⟨hh, H⟩, S⟩ := H
  have d := g5_clamp p'
  have c := g5_clamp (pa p'.toNatClampNeg)
  have w := (X.2.2.2.2.2.2 p'.toNatClampNeg (by omega)).2.2 j
  have x0 := X.1
  have H1 := hg_res (P := p'.toNatClampNeg) (Q := (pa p'.toNatClampNeg).toNatClampNeg) (y := m) H (by omega) j (by omega) (by omega) rfl
  rw [show ((p'.toNatClampNeg : Nat) : Int) = p'.toInt by omega] at H1
  exact ⟨⟨hh, H1⟩, fun i j h1 h2 => S i j h1 (by omega)⟩
/-- a bracket closed -/
theorem hj_popB {op ar pl pa : Nat → Int32} {a m : Int} {p p' : Int32} {d : Nat} (H : HJ op ar pl pa a m p.toInt d) (h : 0 < p.toInt) (e : p'.toInt = p.toInt - 1) (x : 30 ≤ (pl p'.toNatClampNeg).toInt) : HJ op ar pl pa a m p'.toInt d := by
  obtain ⟨⟨hh, H⟩, S⟩ := H
  have c := g5_clamp p'
  have H1 := hg_pop (P := p'.toNatClampNeg) (d' := d) H (by omega) (by rw [biP_S, if_neg (by omega), Nat.add_zero]) (fun q => by unfold isJ at q; omega)
  rw [show ((p'.toNatClampNeg : Nat) : Int) = p'.toInt by omega] at H1
  exact ⟨⟨hh, H1⟩, fun i j h1 h2 => S i j h1 (by omega)⟩
theorem sq_push {pl : Nat → Int32} {p : Int} {P : Nat} {x : Int32} (S : SQ pl p) (hP : (P : Int) = p) (hx : x.toInt ≤ 23 ∨ x.toInt = 31 ∨ no31 pl p) : SQ (upd pl P x) (p + 1) := by
  intro i j h1 h2 h3
  rw [upd_ne (by omega)] at h3
  by_cases q : j = P
  · subst q
    rw [upd_eq]
    rcases hx with z | z | z
    · exact Or.inl z
    · exact Or.inr z
    · exact absurd h3 (z i (by omega))
  · rw [upd_ne q]; exact S i j h1 (by omega) h3
theorem no31_le {pl : Nat → Int32} {p q : Int} (n : no31 pl p) (h : q ≤ p) : no31 pl q := fun i hi => n i (by omega)
theorem no31_0 {pl : Nat → Int32} {p : Int} (h : p = 0) : no31 pl p := fun i hi => absurd hi (by omega)
theorem no31_push {pl : Nat → Int32} {p p' x : Int32} (n : no31 pl p.toInt) (e : p'.toInt = p.toInt + 1) (h0 : 0 ≤ p.toInt) (hx : x.toInt ≠ 31) : no31 (upd pl p.toNatClampNeg x) p'.toInt := by
  have c := g5_clamp p
  intro i hi
  by_cases q : i = p.toNatClampNeg
  · subst q; rw [upd_eq]; exact hx
  · rw [upd_ne q]; exact n i (by omega)
/-- a binary operator on the pile -/
theorem hj_push2 {op ar pl pa : Nat → Int32} {a m : Int} {p p' x y : Int32} (H : HJ op ar pl pa a m p.toInt 1) (h0 : 0 ≤ p.toInt) (e : p'.toInt = p.toInt + 1) (hx : 20 ≤ x.toInt ∧ x.toInt ≤ 26) (hn : x.toInt ≤ 23 ∨ no31 pl p.toInt) : HJ op ar (upd pl p.toNatClampNeg x) (upd pa p.toNatClampNeg y) a m p'.toInt 0 := by
  obtain ⟨⟨hh, H⟩, S⟩ := H
  have c := g5_clamp p
  have H1 := hg_push (P := p.toNatClampNeg) (d' := 0) (x := x) (y := y) H (by omega) (by rw [biP_push, if_pos (by omega)]) (fun q => by unfold isJ at q; omega)
  have S1 := sq_push (P := p.toNatClampNeg) (x := x) S (by omega) (hn.elim Or.inl (fun z => Or.inr (Or.inr z)))
  rw [← e] at H1 S1
  exact ⟨⟨hh, H1⟩, S1⟩
/-- a bracket, or a NOT, on the pile -/
theorem hj_push0 {op ar pl pa : Nat → Int32} {a m : Int} {p p' x y : Int32} {d : Nat} (H : HJ op ar pl pa a m p.toInt d) (h0 : 0 ≤ p.toInt) (e : p'.toInt = p.toInt + 1) (hx : x.toInt = 27 ∨ 30 ≤ x.toInt) (hn : x.toInt = 31 ∨ no31 pl p.toInt) : HJ op ar (upd pl p.toNatClampNeg x) (upd pa p.toNatClampNeg y) a m p'.toInt d := by
  obtain ⟨⟨hh, H⟩, S⟩ := H
  have c := g5_clamp p
  have H1 := hg_push (P := p.toNatClampNeg) (d' := d) (x := x) (y := y) H (by omega) (by rw [biP_push, if_neg (by omega)]; rfl) (fun q => by unfold isJ at q; omega)
  have S1 := sq_push (P := p.toNatClampNeg) (x := x) S (by omega) (Or.inr hn)
  rw [← e] at H1 S1
  exact ⟨⟨hh, H1⟩, S1⟩
/-- an AND, an OR -/
theorem hj_pushJ {go ga op ar pl pa : Nat → Int32} {a fr : Int} {m m' p p' x z : Int32} (X : XJ go ga op ar pl pa a m.toInt p.toInt fr) (H : HJ op ar pl pa a m.toInt p.toInt 1) (e : p'.toInt = p.toInt + 1) (em : m'.toInt = m.toInt + 1) (hx : isJ x) (hn : no31 pl p.toInt) : HJ (upd op m.toNatClampNeg x) (upd ar m.toNatClampNeg z) (upd pl p.toNatClampNeg x) (upd pa p.toNatClampNeg m) a m'.toInt p'.toInt 0 := by
  obtain ⟨⟨hh, H⟩, S⟩ := H
  have b := xj_mf X
  have x3 : 0 ≤ p.toInt := X.2.2.1
  have c := g5_clamp p
  have d := g5_clamp m
  have hx2 := hx
  unfold isJ at hx2
  have H1 := hg_push (P := p.toNatClampNeg) (d' := 1) (x := x) (y := m) H (by omega) (by rw [biP_push, if_neg (by omega)]) (fun _ => ⟨rfl, rfl⟩)
  have S1 := sq_push (P := p.toNatClampNeg) (x := x) S (by omega) (Or.inr (Or.inr hn))
  rw [← e] at H1 S1
  have hp : ∀ i : Nat, (i : Int) < p'.toInt → isJ (upd pl p.toNatClampNeg x i) → 0 ≤ (upd pa p.toNatClampNeg m i).toInt ∧ (upd pa p.toNatClampNeg m i).toInt ≤ m.toInt := by
    intro i hi j
    by_cases q : i = p.toNatClampNeg
    · subst q; rw [upd_eq]; omega
    · rw [upd_ne q] at j ⊢; exact xj_hp X i (by omega) j
  have hm : hh m.toNatClampNeg = biP (upd pl p.toNatClampNeg x) p'.toInt.toNat + 1 := H1.2.1
  have hm3 : hh m.toNatClampNeg ≤ m.toNatClampNeg := H1.2.2.1
  obtain ⟨h', H'⟩ := hg_emit (M := m.toNatClampNeg) (v := biP (upd pl p.toNatClampNeg x) p'.toInt.toNat) (d' := 0) (x := x) (y := z) H1 (by omega) (by omega) (by omega) hp (by omega) rfl (Or.inr (Or.inr (Or.inr ⟨hx, by omega, by omega, p.toNatClampNeg, by omega, by rw [upd_eq]; exact hx, by rw [upd_eq]; omega⟩)))
  rw [← em] at H'
  exact ⟨⟨h', H'⟩, S1⟩
/-! the innermost bracket -/
def innP (pl : Nat → Int32) (k r : Int) : Prop := (r = -1 ∧ ∀ i : Nat, (i : Int) < k → (pl i).toInt < 30) ∨ (30 ≤ r ∧ ∃ i : Nat, (i : Int) < k ∧ (pl i).toInt = r ∧ ∀ j : Nat, i < j → (j : Int) < k → (pl j).toInt < 30)
theorem inn_0 {pl : Nat → Int32} {k r : Int} (hk : k = 0) (hr : r = -1) : innP pl k r := Or.inl ⟨hr, fun i h => absurd h (by omega)⟩
theorem inn_yes {pl : Nat → Int32} {k k' : Int32} (h0 : 0 ≤ k.toInt) (e : k'.toInt = k.toInt + 1) (hx : 30 ≤ (pl k.toNatClampNeg).toInt) : innP pl k'.toInt (pl k.toNatClampNeg).toInt := by
  have c := g5_clamp k
  exact Or.inr ⟨hx, k.toNatClampNeg, by omega, rfl, fun j h1 h2 => absurd h2 (by omega)⟩
theorem inn_no {pl : Nat → Int32} {k k' : Int32} {r : Int} (I : innP pl k.toInt r) (h0 : 0 ≤ k.toInt) (e : k'.toInt = k.toInt + 1) (hx : (pl k.toNatClampNeg).toInt < 30) : innP pl k'.toInt r := by
  have c := g5_clamp k
  rcases I with ⟨a, b⟩ | ⟨a, i, b1, b2, b3⟩
  · refine Or.inl ⟨a, fun i hi => ?_⟩
    by_cases q : i = k.toNatClampNeg
    · subst q; exact hx
    · exact b i (by omega)
  · refine Or.inr ⟨a, i, by omega, b2, fun j h1 h2 => ?_⟩
    by_cases q : j = k.toNatClampNeg
    · subst q; exact hx
    · exact b3 j h1 (by omega)
theorem inn_no31 {op ar pl pa : Nat → Int32} {a m p r : Int} {d : Nat} (I : innP pl p r) (H : HJ op ar pl pa a m p d) (hr : ¬ r = 31) : no31 pl p := by
  intro i hi q
  rcases I with ⟨z, b⟩ | ⟨z, k, b1, b2, b3⟩
  · have w := b i hi; omega
  · by_cases u : i < k
    · have w := H.2 i k u b1 q; omega
    · by_cases v : i = k
      · subst v; omega
      · have w := b3 i (by omega) hi; omega
theorem inn_no30 {pl : Nat → Int32} {p r : Int} (I : innP pl p r) (hr : r = -1) : no30 pl p := by
  rcases I with ⟨_, b⟩ | ⟨z, _⟩
  · exact b
  · omega
/-- what settling leaves -/
def S1 (pl : Nat → Int32) (p p' : Int) : Prop := ∀ i : Nat, (i : Int) < p → 30 ≤ (pl i).toInt → (i : Int) < p'
def S2 (pl : Nat → Int32) (p : Int) (l : Int) : Prop := p = 0 ∨ bnd (pl (p - 1).toNat).toInt < l
theorem s1_0 {pl : Nat → Int32} {p : Int} : S1 pl p p := fun _ h _ => h
theorem s1_S {pl : Nat → Int32} {p0 : Int} {p p' : Int32} (h : S1 pl p0 p.toInt) (h0 : 0 < p.toInt) (e : p'.toInt = p.toInt - 1) (x : (pl p'.toNatClampNeg).toInt < 30) : S1 pl p0 p'.toInt := by
  have c := g5_clamp p'
  intro i hi h30
  have w := h i hi h30
  by_cases q : i = p'.toNatClampNeg
  · subst q; omega
  · omega
theorem s2_lt {pl : Nat → Int32} {p p' : Int32} {l : Int} (h0 : 0 < p.toInt) (e : p'.toInt = p.toInt - 1) (x : bnd (pl p'.toNatClampNeg).toInt < l) : S2 pl p.toInt l := by
  refine Or.inr ?_
  rw [show (p.toInt - 1).toNat = p'.toNatClampNeg by have c := g5_clamp p'; omega]; exact x
/-- a square bracket is on top when the sum within it is settled -/
theorem top_sq {op ar pl pa : Nat → Int32} {a m r : Int} {d : Nat} {p q q' : Int32} (I : innP pl p.toInt r) (hr : r = 31) (H : HJ op ar pl pa a m q.toInt d) {l : Int} (hl : l ≤ 5) (s1 : S1 pl p.toInt q.toInt) (s2 : S2 pl q.toInt l) : 0 < q.toInt ∧ (q'.toInt = q.toInt - 1 → 30 ≤ (pl q'.toNatClampNeg).toInt) := by
  rcases I with ⟨z, _⟩ | ⟨z, k, b1, b2, b3⟩
  · omega
  · have w := s1 k b1 (by omega)
    refine ⟨by omega, fun e => ?_⟩
    have c := g5_clamp q'
    rcases s2 with y | y
    · omega
    · rw [show (q.toInt - 1).toNat = q'.toNatClampNeg by omega] at y
      have y5 := bnd_lt5 (Int.lt_of_lt_of_le y hl)
      by_cases v : k = q'.toNatClampNeg
      · subst v; omega
      · have u := H.2 k q'.toNatClampNeg (by omega) (by omega) (by omega)
        omega
theorem top_rd {pl : Nat → Int32} {r : Int} {p q q' : Int32} (I : innP pl p.toInt r) (hr : ¬ r = -1) {l : Int} (hl : l ≤ 1) (s1 : S1 pl p.toInt q.toInt) (s2 : S2 pl q.toInt l) : 0 < q.toInt ∧ (q'.toInt = q.toInt - 1 → 30 ≤ (pl q'.toNatClampNeg).toInt) := by
  rcases I with ⟨z, _⟩ | ⟨z, k, b1, b2, b3⟩
  · omega
  · have w := s1 k b1 (by omega)
    refine ⟨by omega, fun e => ?_⟩
    have c := g5_clamp q'
    rcases s2 with y | y
    · omega
    · rw [show (q.toInt - 1).toNat = q'.toNatClampNeg by omega] at y
      exact bnd_lt1 (Int.lt_of_lt_of_le y hl)
theorem end_0 {pl : Nat → Int32} {p q l : Int} (n : no30 pl p) (h : q ≤ p) (h0 : 0 ≤ q) (hl : l ≤ 1) (s2 : S2 pl q l) : q = 0 := by
  rcases s2 with y | y
  · exact y
  · have z := bnd_lt1 (Int.lt_of_lt_of_le y hl)
    by_cases w : q = 0
    · exact w
    · have u := n (q - 1).toNat (by omega); omega
/-! a turn of the reader -/
def dT (t : Int) : Nat := if t = 0 ∨ t = 1 then 0 else 1
def TJ (op ar pl pa : Nat → Int32) (a m p t : Int) : Prop := HJ op ar pl pa a m p (dT t) ∧ ((t = 0 ∨ t = 2) → no31 pl p) ∧ (t = 4 → no30 pl p)
theorem tj_d0 {op ar pl pa : Nat → Int32} {a m p t : Int} (T : TJ op ar pl pa a m p t) (h : t = 0 ∨ t = 1) : HJ op ar pl pa a m p 0 := by
  have z := T.1
  unfold dT at z
  rw [if_pos h] at z; exact z
theorem tj_d1 {op ar pl pa : Nat → Int32} {a m p t : Int} (T : TJ op ar pl pa a m p t) (h : 2 ≤ t) : HJ op ar pl pa a m p 1 := by
  have z := T.1
  unfold dT at z
  rw [if_neg (by omega)] at z; exact z
theorem tj_0 {op ar pl pa : Nat → Int32} {a m p t : Int} (H : HJ op ar pl pa a m p 0) (ht : t = 0) (n : no31 pl p) : TJ op ar pl pa a m p t := by
  subst ht
  exact ⟨H, fun _ => n, fun h => absurd h (by decide)⟩
theorem tj_1 {op ar pl pa : Nat → Int32} {a m p t : Int} (H : HJ op ar pl pa a m p 0) (ht : t = 1) : TJ op ar pl pa a m p t := by
  subst ht
  exact ⟨H, fun h => absurd h (by decide), fun h => absurd h (by decide)⟩
theorem tj_2 {op ar pl pa : Nat → Int32} {a m p t : Int} (H : HJ op ar pl pa a m p 1) (ht : t = 2) (n : no31 pl p) : TJ op ar pl pa a m p t := by
  subst ht
  exact ⟨H, fun _ => n, fun h => absurd h (by decide)⟩
theorem tj_3 {op ar pl pa : Nat → Int32} {a m p t : Int} (H : HJ op ar pl pa a m p 1) (ht : t = 3) : TJ op ar pl pa a m p t := by
  subst ht
  exact ⟨H, fun h => absurd h (by decide), fun h => absurd h (by decide)⟩
theorem tj_4 {op ar pl pa : Nat → Int32} {a m p t : Int} (H : HJ op ar pl pa a m p 1) (ht : t = 4) (n : no30 pl p) : TJ op ar pl pa a m p t := by
  subst ht
  exact ⟨H, fun h => absurd h (by decide), fun _ => n⟩
/-! an expression that was read -/
def stN (op ar : Nat → Int32) (h : Nat → Nat) (k : Nat) (b : Int) : Prop := h k ≤ k ∧ ((0 ≤ (op k).toInt ∧ (op k).toInt ≤ 8 ∧ h (k + 1) = h k + 1) ∨ (20 ≤ (op k).toInt ∧ (op k).toInt ≤ 26 ∧ 2 ≤ h k ∧ h (k + 1) + 1 = h k) ∨ ((op k).toInt = 27 ∧ 1 ≤ h k ∧ h (k + 1) = h k) ∨ (((op k).toInt = 28 ∨ (op k).toInt = 29) ∧ 1 ≤ h k ∧ h (k + 1) + 1 = h k ∧ (k : Int) < (ar k).toInt ∧ (ar k).toInt ≤ 400 ∧ ((ar k).toInt < b → h (ar k).toInt.toNat = h k)))
def cdN (op ar : Nat → Int32) (a b : Int) : Prop := ∃ h : Nat → Nat, h a.toNat = 0 ∧ ∀ k : Nat, a ≤ (k : Int) → (k : Int) < b → stN op ar h k b
theorem cdN_of {op ar pl pa : Nat → Int32} {a m p : Int} {d : Nat} (H : HJ op ar pl pa a m p d) (hp : p = 0) (hm : m ≤ 400) : cdN op ar a m := by
  obtain ⟨⟨h, h1, h2, h3, h4, h5⟩, _⟩ := H
  refine ⟨h, h1, fun k hk1 hk2 => ?_⟩
  have z := h4 k hk1 hk2
  unfold hSt at z
  unfold stN
  obtain ⟨z1, z2⟩ := z
  refine ⟨z1, ?_⟩
  rcases z2 with s | s | s | ⟨s1, s2, s3, s4⟩
  · exact Or.inl s
  · exact Or.inr (Or.inl s)
  · exact Or.inr (Or.inr (Or.inl s))
  · refine Or.inr (Or.inr (Or.inr ⟨s1, s2, s3, ?_⟩))
    rcases s4 with ⟨t1, t2, t3⟩ | ⟨i, i1, _⟩
    · exact ⟨t1, by omega, fun _ => t3⟩
    · omega
theorem cdN_empty {op ar : Nat → Int32} {a : Int} : cdN op ar a a := ⟨fun _ => 0, rfl, fun k h1 h2 => absurd h2 (by omega)⟩
theorem cdN_congr {op ar op' ar' : Nat → Int32} {a b : Int} (C : cdN op ar a b) (e : ∀ k : Nat, (k : Int) < b → op' k = op k ∧ ar' k = ar k) : cdN op' ar' a b := by
  obtain ⟨h, h1, h2⟩ := C
  refine ⟨h, h1, fun k hk1 hk2 => ?_⟩
  have z := h2 k hk1 hk2
  unfold stN at z ⊢
  rw [(e k hk2).1, (e k hk2).2]; exact z
def KP (op ar op' ar' : Nat → Int32) (m : Int) : Prop := ∀ k : Nat, (k : Int) < m → op' k = op k ∧ ar' k = ar k
theorem kp_rf {op ar : Nat → Int32} {m : Int} : KP op ar op ar m := fun _ _ => ⟨rfl, rfl⟩
theorem kp_tr {a b c d e f : Nat → Int32} {m n : Int} (h : KP a b c d m) (g : KP c d e f n) (q : m ≤ n) : KP a b e f m := fun k hk => ⟨(g k (by omega)).1.trans (h k hk).1, (g k (by omega)).2.trans (h k hk).2⟩
theorem xj_kp {go ga op ar pl pa : Nat → Int32} {a m p fr : Int} (X : XJ go ga op ar pl pa a m p fr) : KP go ga op ar a := X.2.2.2.2.2.1
/-! clauses -/
def clN (cl op ar : Nat → Int32) (k : Nat) (m : Int) : Prop := (0 ≤ (cl k).toInt ∧ (cl k).toInt ≤ 3) ∧ (0 ≤ (cl (k + 3)).toInt ∧ (cl (k + 3)).toInt ≤ m) ∧ (0 ≤ (cl (k + 4)).toInt ∧ (cl (k + 4)).toInt ≤ m) ∧ (0 ≤ (cl (k + 5)).toInt ∧ (cl (k + 5)).toInt ≤ m) ∧ (0 ≤ (cl (k + 6)).toInt ∧ (cl (k + 6)).toInt ≤ m) ∧ cdN op ar (cl (k + 5)).toInt (cl (k + 6)).toInt ∧ ((cl k).toInt < 2 → cdN op ar (cl (k + 3)).toInt (cl (k + 4)).toInt)
def LWJ (cl op ar : Nat → Int32) (n m : Int) : Prop := ∀ c : Nat, (c : Int) < n → clN cl op ar (8 * c) m
theorem clN_congr {cl op ar cl' op' ar' : Nat → Int32} {k : Nat} {m m' : Int} (C : clN cl op ar k m) (e : ∀ j : Nat, k ≤ j → j < k + 8 → cl' j = cl j) (g : KP op ar op' ar' m) (h : m ≤ m') : clN cl' op' ar' k m' := by
  unfold clN at C ⊢
  rw [e k (by omega) (by omega), e (k + 3) (by omega) (by omega), e (k + 4) (by omega) (by omega), e (k + 5) (by omega) (by omega), e (k + 6) (by omega) (by omega)]
  obtain ⟨c0, c3, c4, c5, c6, d1, d2⟩ := C
  exact ⟨c0, by omega, by omega, by omega, by omega, cdN_congr d1 (fun j hj => g j (by omega)), fun y => cdN_congr (d2 y) (fun j hj => g j (by omega))⟩
theorem lwj_S {cl op ar cl' op' ar' : Nat → Int32} {n n' m m' : Int} (L : LWJ cl op ar n m) (e : ∀ j : Nat, (j : Int) < 8 * n → cl' j = cl j) (g : KP op ar op' ar' m) (h : m ≤ m') (hn : n' = n + 1) (h0 : 0 ≤ n) (C : clN cl' op' ar' (8 * n.toNat) m') : LWJ cl' op' ar' n' m' := by
  intro c hc
  by_cases q : c = n.toNat
  · subst q; exact C
  · exact clN_congr (L c (by omega)) (fun j h1 h2 => e j (by omega)) g h
theorem cl_keep {f g : Nat → Int32} {n : Int} {x v : Int32} (e : ∀ j : Nat, (j : Int) < n → g j = f j) (h : n ≤ x.toInt) : ∀ j : Nat, (j : Int) < n → upd g x.toNatClampNeg v j = f j := by
  intro j hj
  have c := g5_clamp x
  rw [upd_ne (by omega)]; exact e j hj
theorem lwj_new {cl0 cl op0 ar0 op2 ar2 : Nat → Int32} {n n' i0 i3 i4 i5 i6 hd m0 m1 m2 : Int32} (L : LWJ cl0 op0 ar0 n.toInt m0.toInt) (e : ∀ j : Nat, (j : Int) < 8 * n.toInt → cl j = cl0 j) (g : KP op0 ar0 op2 ar2 m0.toInt) (h0 : 0 ≤ n.toInt) (hn : n'.toInt = n.toInt + 1) (e0 : i0.toInt = 8 * n.toInt) (e3 : i3.toInt = i0.toInt + 3) (e4 : i4.toInt = i0.toInt + 4) (e5 : i5.toInt = i0.toInt + 5) (e6 : i6.toInt = i0.toInt + 6) (q0 : 0 ≤ m0.toInt) (q1 : m0.toInt ≤ m1.toInt) (q2 : m1.toInt ≤ m2.toInt) (hh : 0 ≤ hd.toInt ∧ hd.toInt ≤ 3) (D1 : hd.toInt < 2 → cdN op2 ar2 m0.toInt m1.toInt) (D2 : cdN op2 ar2 m1.toInt m2.toInt) : LWJ (upd (upd (upd (upd (upd cl i0.toNatClampNeg hd) i3.toNatClampNeg m0) i4.toNatClampNeg m1) i5.toNatClampNeg m1) i6.toNatClampNeg m2) op2 ar2 n'.toInt m2.toInt := by
  have c0 := g5_clamp i0
  have c3 := g5_clamp i3
  have c4 := g5_clamp i4
  have c5 := g5_clamp i5
  have c6 := g5_clamp i6
  refine lwj_S L (fun j hj => ?_) g (by omega) hn h0 ?_
  · rw [upd_ne (by omega), upd_ne (by omega), upd_ne (by omega), upd_ne (by omega), upd_ne (by omega)]; exact e j hj
  · have k0 : 8 * n.toInt.toNat = i0.toNatClampNeg := by omega
    have f0 : upd (upd (upd (upd (upd cl i0.toNatClampNeg hd) i3.toNatClampNeg m0) i4.toNatClampNeg m1) i5.toNatClampNeg m1) i6.toNatClampNeg m2 i0.toNatClampNeg = hd := by
      rw [upd_ne (by omega), upd_ne (by omega), upd_ne (by omega), upd_ne (by omega), upd_eq]
    have f3 : upd (upd (upd (upd (upd cl i0.toNatClampNeg hd) i3.toNatClampNeg m0) i4.toNatClampNeg m1) i5.toNatClampNeg m1) i6.toNatClampNeg m2 (i0.toNatClampNeg + 3) = m0 := by
      rw [show i0.toNatClampNeg + 3 = i3.toNatClampNeg by omega, upd_ne (by omega), upd_ne (by omega), upd_ne (by omega), upd_eq]
    have f4 : upd (upd (upd (upd (upd cl i0.toNatClampNeg hd) i3.toNatClampNeg m0) i4.toNatClampNeg m1) i5.toNatClampNeg m1) i6.toNatClampNeg m2 (i0.toNatClampNeg + 4) = m1 := by
      rw [show i0.toNatClampNeg + 4 = i4.toNatClampNeg by omega, upd_ne (by omega), upd_ne (by omega), upd_eq]
    have f5 : upd (upd (upd (upd (upd cl i0.toNatClampNeg hd) i3.toNatClampNeg m0) i4.toNatClampNeg m1) i5.toNatClampNeg m1) i6.toNatClampNeg m2 (i0.toNatClampNeg + 5) = m1 := by
      rw [show i0.toNatClampNeg + 5 = i5.toNatClampNeg by omega, upd_ne (by omega), upd_eq]
    have f6 : upd (upd (upd (upd (upd cl i0.toNatClampNeg hd) i3.toNatClampNeg m0) i4.toNatClampNeg m1) i5.toNatClampNeg m1) i6.toNatClampNeg m2 (i0.toNatClampNeg + 6) = m2 := by
      rw [show i0.toNatClampNeg + 6 = i6.toNatClampNeg by omega, upd_eq]
    rw [k0]
    unfold clN
    rw [f0, f3, f4, f5, f6]
    exact ⟨hh, ⟨by omega, by omega⟩, ⟨by omega, by omega⟩, ⟨by omega, by omega⟩, ⟨by omega, by omega⟩, D2, D1⟩
/-! a law that was read stands in the row -/
theorem cdOK_of {op ar f : Nat → Int32} {a b : Int} {B : Nat} {m : Int} (C : cdN op ar a b) (hb : b ≤ m) (e : ∀ j : Nat, (j : Int) < m → f (B + 2 * j) = op j ∧ f (B + 2 * j + 1) = ar j) : cdOK f B a b := by
  obtain ⟨h, h1, h2⟩ := C
  refine ⟨h, h1, fun k hk1 hk2 => ?_⟩
  have z := h2 k hk1 hk2
  have w := e k (by omega)
  unfold stN at z
  unfold stOK
  rw [w.1, w.2]; exact z
theorem mi_law {f f1 f2 f3 cl op ar : Nat → Int32} {aw nc co k1 k2 v x1 : Int32} (h : MI f) (hn : (f 2).toInt < 6) (ha : aw.toInt = 340 + 900 * (f 2).toInt) (hx : x1.toInt = aw.toInt + 1) (e1 : f1 = upd f x1.toNatClampNeg nc) (hnc : 0 ≤ nc.toInt ∧ nc.toInt ≤ 12) (hco : 0 ≤ co.toInt ∧ co.toInt ≤ 400) (e2 : ∀ j : Nat, (j : Int) < k1.toInt → f2 (aw.toNatClampNeg + 2 + j) = cl j) (e2' : ∀ j : Nat, (j < aw.toNatClampNeg + 2 ∨ aw.toNatClampNeg + 98 ≤ j) → f2 j = f1 j) (hk1 : k1.toInt = 8 * nc.toInt) (e3 : ∀ j : Nat, (j : Int) < k2.toInt → f3 (aw.toNatClampNeg + 98 + 2 * j) = op j ∧ f3 (aw.toNatClampNeg + 98 + 2 * j + 1) = ar j) (e3' : ∀ j : Nat, (j < aw.toNatClampNeg + 98 ∨ aw.toNatClampNeg + 900 ≤ j) → f3 j = f2 j) (hk2 : k2.toInt = co.toInt) (L : LWJ cl op ar nc.toInt co.toInt) (hv : v.toInt = (f 2).toInt + 1) : MI (upd f3 2 v) := by
  have c := g5_clamp aw
  have cx := g5_clamp x1
  have h2 := mi_2 h
  have h3 := mi_3 h
  have low : ∀ j : Nat, j ≠ 2 → j < aw.toNatClampNeg → upd f3 2 v j = f j := by
    intro j hj hl
    rw [upd_ne hj, e3' j (by omega), e2' j (by omega), e1, upd_ne (by omega)]
  refine ⟨fun j => ?_, ?_, ?_, fun l hl => ?_⟩
  · by_cases q : j = 2
    · subst q; rw [upd_eq]
      unfold rOK
      refine ⟨?_, ?_, ?_, ?_, ?_, ?_, ?_, ?_, ?_, ?_, ?_, ?_, ?_, ?_, ?_, ?_, ?_, ?_, ?_, ?_, ?_, ?_, ?_⟩ <;> (intros; omega)
    · by_cases q2 : j < 340
      · rw [low j q (by omega)]; exact h.1 j
      · unfold rOK
        refine ⟨?_, ?_, ?_, ?_, ?_, ?_, ?_, ?_, ?_, ?_, ?_, ?_, ?_, ?_, ?_, ?_, ?_, ?_, ?_, ?_, ?_, ?_, ?_⟩ <;> (intros; omega)
  · rw [mSN_congr (low 5 (by omega) (by omega)) (fun j a b => low j (by omega) (by omega)) (by have z := mi_5 h; omega)]; exact h.2.1
  · rw [low 3 (by omega) (by omega), upd_eq]; have z := h.2.2.1; omega
  · rw [upd_eq] at hl
    by_cases q : (l : Int) < (f 2).toInt
    · exact lawOK_congrB (fun j a b => low j (by omega) (by omega)) (h.2.2.2 l q)
    · have el : 340 + 900 * l = aw.toNatClampNeg := by omega
      rw [el]
      have g1 : upd f3 2 v (aw.toNatClampNeg + 1) = nc := by
        rw [upd_ne (by omega), e3' _ (by omega), e2' _ (by omega), e1, show aw.toNatClampNeg + 1 = x1.toNatClampNeg by omega, upd_eq]
      have g2 : ∀ j : Nat, (j : Int) < 8 * nc.toInt → upd f3 2 v (aw.toNatClampNeg + 2 + j) = cl j := by
        intro j hj
        rw [upd_ne (by omega), e3' _ (by omega)]; exact e2 j (by omega)
      have g3 : ∀ j : Nat, (j : Int) < co.toInt → upd f3 2 v (aw.toNatClampNeg + 98 + 2 * j) = op j ∧ upd f3 2 v (aw.toNatClampNeg + 98 + 2 * j + 1) = ar j := by
        intro j hj
        rw [upd_ne (by omega), upd_ne (by omega)]; exact e3 j (by omega)
      unfold lawOK
      rw [g1]
      refine ⟨hnc, fun d hd => ?_⟩
      obtain ⟨d0, d3, d4, d5, d6, dd, de⟩ := L d hd
      have p0 := g2 (8 * d) (by omega)
      have p3 := g2 (8 * d + 3) (by omega)
      have p4 := g2 (8 * d + 4) (by omega)
      have p5 := g2 (8 * d + 5) (by omega)
      have p6 := g2 (8 * d + 6) (by omega)
      rw [← Nat.add_assoc] at p3 p4 p5 p6
      unfold clOK
      rw [p0, p3, p4, p5, p6]
      exact ⟨d0, ⟨by omega, by omega⟩, ⟨by omega, by omega⟩, ⟨by omega, by omega⟩, ⟨by omega, by omega⟩, cdOK_of dd (by omega) g3, fun y => cdOK_of (de y) (by omega) g3⟩
theorem lw_c1 {g cl : Nat → Int32} {a k k' x : Int32} (e : ∀ j : Nat, (j : Int) < k.toInt → g (a.toNatClampNeg + 2 + j) = cl j) (h0 : 0 ≤ k.toInt) (ha : 0 ≤ a.toInt) (hk : k'.toInt = k.toInt + 1) (hx : x.toInt = a.toInt + 2 + k.toInt) : ∀ j : Nat, (j : Int) < k'.toInt → upd g x.toNatClampNeg (cl k.toNatClampNeg) (a.toNatClampNeg + 2 + j) = cl j := by
  intro j hj
  have c := g5_clamp x
  have d := g5_clamp k
  have ca := g5_clamp a
  by_cases q : j = k.toNatClampNeg
  · subst q
    rw [show a.toNatClampNeg + 2 + k.toNatClampNeg = x.toNatClampNeg by omega, upd_eq]
  · rw [upd_ne (by omega)]; exact e j (by omega)
theorem lw_c2 {g f1 : Nat → Int32} {a k x v : Int32} (e : ∀ j : Nat, (j < a.toNatClampNeg + 2 ∨ a.toNatClampNeg + 98 ≤ j) → g j = f1 j) (h0 : 0 ≤ k.toInt ∧ k.toInt < 96) (ha : 0 ≤ a.toInt) (hx : x.toInt = a.toInt + 2 + k.toInt) : ∀ j : Nat, (j < a.toNatClampNeg + 2 ∨ a.toNatClampNeg + 98 ≤ j) → upd g x.toNatClampNeg v j = f1 j := by
  intro j hj
  have c := g5_clamp x
  have ca := g5_clamp a
  rw [upd_ne (by omega)]; exact e j hj
theorem lw_d1 {g op ar : Nat → Int32} {a k k' x y : Int32} (e : ∀ j : Nat, (j : Int) < k.toInt → g (a.toNatClampNeg + 98 + 2 * j) = op j ∧ g (a.toNatClampNeg + 98 + 2 * j + 1) = ar j) (h0 : 0 ≤ k.toInt) (ha : 0 ≤ a.toInt) (hk : k'.toInt = k.toInt + 1) (hx : x.toInt = a.toInt + 98 + 2 * k.toInt) (hy : y.toInt = x.toInt + 1) : ∀ j : Nat, (j : Int) < k'.toInt → upd (upd g x.toNatClampNeg (op k.toNatClampNeg)) y.toNatClampNeg (ar k.toNatClampNeg) (a.toNatClampNeg + 98 + 2 * j) = op j ∧ upd (upd g x.toNatClampNeg (op k.toNatClampNeg)) y.toNatClampNeg (ar k.toNatClampNeg) (a.toNatClampNeg + 98 + 2 * j + 1) = ar j := by
  intro j hj
  have c := g5_clamp x
  have cy := g5_clamp y
  have d := g5_clamp k
  have ca := g5_clamp a
  by_cases q : j = k.toNatClampNeg
  · subst q
    rw [show a.toNatClampNeg + 98 + 2 * k.toNatClampNeg + 1 = y.toNatClampNeg by omega, show a.toNatClampNeg + 98 + 2 * k.toNatClampNeg = x.toNatClampNeg by omega, upd_eq, upd_ne (by omega), upd_eq]
    exact ⟨rfl, rfl⟩
  · rw [upd_ne (by omega), upd_ne (by omega), upd_ne (by omega), upd_ne (by omega)]; exact e j (by omega)
theorem lw_d2 {g f2 : Nat → Int32} {a k x y v w : Int32} (e : ∀ j : Nat, (j < a.toNatClampNeg + 98 ∨ a.toNatClampNeg + 900 ≤ j) → g j = f2 j) (h0 : 0 ≤ k.toInt ∧ k.toInt < 400) (ha : 0 ≤ a.toInt) (hx : x.toInt = a.toInt + 98 + 2 * k.toInt) (hy : y.toInt = x.toInt + 1) : ∀ j : Nat, (j < a.toNatClampNeg + 98 ∨ a.toNatClampNeg + 900 ≤ j) → upd (upd g x.toNatClampNeg v) y.toNatClampNeg w j = f2 j := by
  intro j hj
  have c := g5_clamp x
  have cy := g5_clamp y
  have ca := g5_clamp a
  rw [upd_ne (by omega), upd_ne (by omega)]; exact e j hj
theorem lwj_00 {cl op ar : Nat → Int32} {n m : Int} (h : n = 0) : LWJ cl op ar n m := fun c hc => absurd hc (by omega)
/-! rows counted ahead: a cell that is barred in hour 0 has none -/
def AH0 (ah : Nat → Int64) (me : Nat → Int32) : Prop := ∀ c k : Nat, c < 64 → k < 32 → 64 ≤ (me c).toInt → ah (32 * c + k) = 0
def AHK (f g : Nat → Int64) : Prop := ∀ j : Nat, j < 2048 → f j = g j
theorem ahk_rf {f : Nat → Int64} : AHK f f := fun _ _ => rfl
theorem ahk_upd {f g : Nat → Int64} {x : Int32} {v : Int64} (h : AHK f g) (hx : 2048 ≤ x.toInt) : AHK (vp_updL f x.toNatClampNeg v) g := by
  intro j hj
  have c := g5_clamp x
  unfold vp_updL
  rw [if_neg (by omega)]; exact h j hj
theorem ah0_k {f g : Nat → Int64} {me : Nat → Int32} (h : AH0 g me) (e : AHK f g) : AH0 f me := by
  intro c k hc hk hm
  rw [e _ (by omega)]; exact h c k hc hk hm
theorem az_step {f : Nat → Int64} {k k' : Int32} (e : ∀ j : Nat, (j : Int) < k.toInt → f j = 0) (h0 : 0 ≤ k.toInt) (hk : k'.toInt = k.toInt + 1) : ∀ j : Nat, (j : Int) < k'.toInt → vp_updL f k.toNatClampNeg 0 j = 0 := by
  intro j hj
  have c := g5_clamp k
  unfold vp_updL
  by_cases q : j = k.toNatClampNeg
  · rw [if_pos q]
  · rw [if_neg q]; exact e j (by omega)
theorem ah0_zero {f : Nat → Int64} {me : Nat → Int32} {k : Int32} (e : ∀ j : Nat, (j : Int) < k.toInt → f j = 0) (hk : 2048 ≤ k.toInt) : AH0 f me := fun c i hc hi _ => e _ (by omega)
theorem ah0_set {ah : Nat → Int64} {me : Nat → Int32} {c x : Int32} {v : Int64} (h : AH0 ah me) (hc : 0 ≤ c.toInt) (hm : 0 ≤ (me c.toNatClampNeg).toInt ∧ (me c.toNatClampNeg).toInt < 32) (hx : x.toInt = 32 * c.toInt + (me c.toNatClampNeg).toInt) : AH0 (vp_updL ah x.toNatClampNeg v) me := by
  intro d k hd hk hmd
  have e1 := g5_clamp c
  have e2 := g5_clamp x
  unfold vp_updL
  by_cases q : 32 * d + k = x.toNatClampNeg
  · have z : d = c.toNatClampNeg := by omega
    rw [z] at hmd; omega
  · rw [if_neg q]; exact h d k hd hk hmd
theorem ra_step {ah : Nat → Int64} {me : Nat → Int32} {p k x : Int32} {n b : Int64} (A : AH0 ah me) (h : 64 ≤ (me p.toNatClampNeg).toInt → n = 0) (hp : 0 ≤ p.toInt ∧ p.toInt ≤ 63) (hk : 0 ≤ k.toInt ∧ k.toInt < 32) (hx : x.toInt = 32 * p.toInt + k.toInt) : 64 ≤ (me p.toNatClampNeg).toInt → n + ah x.toNatClampNeg * b = 0 := by
  intro q
  have e1 := g5_clamp p
  have e2 := g5_clamp x
  have z : ah x.toNatClampNeg = 0 := by
    rw [show x.toNatClampNeg = 32 * p.toNatClampNeg + k.toInt.toNat by omega]
    exact A _ _ (by omega) (by omega) q
  rw [z, h q]; simp
theorem ra_pos {z : Int64} {P : Prop} (h : P → z = 0) (c : (lg_cmp z 0).toInt > 0) : ¬ P := fun p => by rw [h p] at c; exact absurd c (by decide)
theorem cpy_atN {α : Type} {f g : Nat → α} {n j : Nat} (h : j < n) : va_cpy f g 0 0 n j = f j := by
  unfold va_cpy; rw [if_pos (by omega)]; congr 1; omega
theorem tget_cpyN {f g : Nat → Int32} {N : Nat} {n w : Int} (hn : n * w ≤ (N : Int)) (hw : 0 ≤ w) {r c : Int} : tget (va_cpy f g 0 0 N) n w r c = tget f n w r c := by
  unfold tget
  by_cases q : 0 ≤ r ∧ r < n ∧ 0 ≤ c ∧ c < w
  · rw [if_pos q, if_pos q]
    refine cpy_atN ?_
    have z : (r + 1) * w ≤ n * w := Int.mul_le_mul_of_nonneg_right (by omega) hw
    have y : (r + 1) * w = r * w + w := by rw [Int.add_mul, Int.one_mul]
    have x : 0 ≤ r * w := Int.mul_nonneg q.1 hw
    omega
  · rw [if_neg q, if_neg q]
/-! the row that class and model both tell of: what each call makes of it, what it answers -/
noncomputable def cif {α : Type} (P : Prop) (a b : α) : α := @ite α P (Classical.propDecidable P) a b
theorem cif_t {α : Type} {P : Prop} {a b : α} (h : P) : cif P a b = a := by unfold cif; exact if_pos h
theorem cif_f {α : Type} {P : Prop} {a b : α} (h : ¬ P) : cif P a b = b := by unfold cif; exact if_neg h
def addRow (f : Nat → Int32) (ci B mw n : Nat) (v : Int32) (vals : Nat → Int32) : Nat → Int32 := fun j => if j = ci then v else if B + mw * n ≤ j ∧ j < B + mw * n + mw then vals (j - (B + mw * n)) else f j
theorem ar_ne {f : Nat → Int32} {ci B mw n : Nat} {v : Int32} {vals : Nat → Int32} {j : Nat} (h1 : j ≠ ci) (h2 : j < B + mw * n ∨ B + mw * n + mw ≤ j) : addRow f ci B mw n v vals j = f j := by
  unfold addRow
  rw [if_neg h1, if_neg (by omega)]
theorem ar_ci {f : Nat → Int32} {ci B mw n : Nat} {v : Int32} {vals : Nat → Int32} : addRow f ci B mw n v vals ci = v := by
  unfold addRow
  rw [if_pos rfl]
def bfill (f : Nat → Int32) (a b : Int) (v : Int32) : Nat → Int32 := fun j => if a ≤ (j : Int) ∧ (j : Int) < b then v else f j
theorem bf_0 {f : Nat → Int32} {a b : Int} {v : Int32} (h : b ≤ a) : f = bfill f a b v := by
  funext j; unfold bfill; rw [if_neg (by omega)]
theorem bf_S {f g : Nat → Int32} {a b b2 : Int} {v : Int32} {x : Nat} (h : g = bfill f a b v) (hx : (x : Int) = b) (hb : b2 = b + 1) (hab : a ≤ b) : upd g x v = bfill f a b2 v := by
  subst h
  funext j
  by_cases q : j = x
  · rw [q, upd_eq]; unfold bfill; rw [if_pos (by omega)]
  · rw [upd_ne q]; unfold bfill
    by_cases r : a ≤ (j : Int) ∧ (j : Int) < b
    · rw [if_pos r, if_pos (by omega)]
    · rw [if_neg r, if_neg (by omega)]
theorem bf_ne {f : Nat → Int32} {a b : Int} {v : Int32} {j : Nat} (h : (j : Int) < a ∨ b ≤ (j : Int)) : bfill f a b v j = f j := by
  unfold bfill; rw [if_neg (by omega)]
def v3 (x0 x1 x2 : Int32) : Nat → Int32 := fun k => if k = 0 then x0 else if k = 1 then x1 else x2
theorem mr3 {f : Nat → Int32} {ci B n i0 i1 i2 : Nat} {v x0 x1 x2 : Int32} (hc : ci < B) (e0 : i0 = B + 3 * n + 0) (e1 : i1 = B + 3 * n + 1) (e2 : i2 = B + 3 * n + 2) : upd (upd (upd (upd f i0 x0) i1 x1) i2 x2) ci v = addRow f ci B 3 n v (v3 x0 x1 x2) := by
  subst e0
  subst e1
  subst e2
  funext j
  unfold addRow
  by_cases q : j = ci
  · rw [if_pos q, q, upd_eq]
  · rw [if_neg q, upd_ne q]
    by_cases r : B + 3 * n ≤ j ∧ j < B + 3 * n + 3
    · rw [if_pos r]
      unfold v3
      by_cases z2 : j = B + 3 * n + 2
      · rw [z2, upd_eq, if_neg (by omega), if_neg (by omega)]
      · rw [upd_ne z2]
        by_cases z1 : j = B + 3 * n + 1
        · rw [z1, upd_eq, if_neg (by omega), if_pos (by omega)]
        · rw [upd_ne z1]
          rw [show j = B + 3 * n + 0 by omega, upd_eq, if_pos (by omega)]
    · rw [if_neg r, upd_ne (by omega), upd_ne (by omega), upd_ne (by omega)]
def v4 (x0 x1 x2 x3 : Int32) : Nat → Int32 := fun k => if k = 0 then x0 else if k = 1 then x1 else if k = 2 then x2 else x3
theorem mr4 {f : Nat → Int32} {ci B n i0 i1 i2 i3 : Nat} {v x0 x1 x2 x3 : Int32} (hc : ci < B) (e0 : i0 = B + 4 * n + 0) (e1 : i1 = B + 4 * n + 1) (e2 : i2 = B + 4 * n + 2) (e3 : i3 = B + 4 * n + 3) : upd (upd (upd (upd (upd f i0 x0) i1 x1) i2 x2) i3 x3) ci v = addRow f ci B 4 n v (v4 x0 x1 x2 x3) := by
  subst e0
  subst e1
  subst e2
  subst e3
  funext j
  unfold addRow
  by_cases q : j = ci
  · rw [if_pos q, q, upd_eq]
  · rw [if_neg q, upd_ne q]
    by_cases r : B + 4 * n ≤ j ∧ j < B + 4 * n + 4
    · rw [if_pos r]
      unfold v4
      by_cases z3 : j = B + 4 * n + 3
      · rw [z3, upd_eq, if_neg (by omega), if_neg (by omega), if_neg (by omega)]
      · rw [upd_ne z3]
        by_cases z2 : j = B + 4 * n + 2
        · rw [z2, upd_eq, if_neg (by omega), if_neg (by omega), if_pos (by omega)]
        · rw [upd_ne z2]
          by_cases z1 : j = B + 4 * n + 1
          · rw [z1, upd_eq, if_neg (by omega), if_pos (by omega)]
          · rw [upd_ne z1]
            rw [show j = B + 4 * n + 0 by omega, upd_eq, if_pos (by omega)]
    · rw [if_neg r, upd_ne (by omega), upd_ne (by omega), upd_ne (by omega), upd_ne (by omega)]
def v5 (x0 x1 x2 x3 x4 : Int32) : Nat → Int32 := fun k => if k = 0 then x0 else if k = 1 then x1 else if k = 2 then x2 else if k = 3 then x3 else x4
theorem mr5 {f : Nat → Int32} {ci B n i0 i1 i2 i3 i4 : Nat} {v x0 x1 x2 x3 x4 : Int32} (hc : ci < B) (e0 : i0 = B + 5 * n + 0) (e1 : i1 = B + 5 * n + 1) (e2 : i2 = B + 5 * n + 2) (e3 : i3 = B + 5 * n + 3) (e4 : i4 = B + 5 * n + 4) : upd (upd (upd (upd (upd (upd f i0 x0) i1 x1) i2 x2) i3 x3) i4 x4) ci v = addRow f ci B 5 n v (v5 x0 x1 x2 x3 x4) := by
  subst e0
  subst e1
  subst e2
  subst e3
  subst e4
  funext j
  unfold addRow
  by_cases q : j = ci
  · rw [if_pos q, q, upd_eq]
  · rw [if_neg q, upd_ne q]
    by_cases r : B + 5 * n ≤ j ∧ j < B + 5 * n + 5
    · rw [if_pos r]
      unfold v5
      by_cases z4 : j = B + 5 * n + 4
      · rw [z4, upd_eq, if_neg (by omega), if_neg (by omega), if_neg (by omega), if_neg (by omega)]
      · rw [upd_ne z4]
        by_cases z3 : j = B + 5 * n + 3
        · rw [z3, upd_eq, if_neg (by omega), if_neg (by omega), if_neg (by omega), if_pos (by omega)]
        · rw [upd_ne z3]
          by_cases z2 : j = B + 5 * n + 2
          · rw [z2, upd_eq, if_neg (by omega), if_neg (by omega), if_pos (by omega)]
          · rw [upd_ne z2]
            by_cases z1 : j = B + 5 * n + 1
            · rw [z1, upd_eq, if_neg (by omega), if_pos (by omega)]
            · rw [upd_ne z1]
              rw [show j = B + 5 * n + 0 by omega, upd_eq, if_pos (by omega)]
    · rw [if_neg r, upd_ne (by omega), upd_ne (by omega), upd_ne (by omega), upd_ne (by omega), upd_ne (by omega)]
def v6 (x0 x1 x2 x3 x4 x5 : Int32) : Nat → Int32 := fun k => if k = 0 then x0 else if k = 1 then x1 else if k = 2 then x2 else if k = 3 then x3 else if k = 4 then x4 else x5
theorem mr6 {f : Nat → Int32} {ci B n i0 i1 i2 i3 i4 i5 : Nat} {v x0 x1 x2 x3 x4 x5 : Int32} (hc : ci < B) (e0 : i0 = B + 6 * n + 0) (e1 : i1 = B + 6 * n + 1) (e2 : i2 = B + 6 * n + 2) (e3 : i3 = B + 6 * n + 3) (e4 : i4 = B + 6 * n + 4) (e5 : i5 = B + 6 * n + 5) : upd (upd (upd (upd (upd (upd (upd f i0 x0) i1 x1) i2 x2) i3 x3) i4 x4) i5 x5) ci v = addRow f ci B 6 n v (v6 x0 x1 x2 x3 x4 x5) := by
  subst e0
  subst e1
  subst e2
  subst e3
  subst e4
  subst e5
  funext j
  unfold addRow
  by_cases q : j = ci
  · rw [if_pos q, q, upd_eq]
  · rw [if_neg q, upd_ne q]
    by_cases r : B + 6 * n ≤ j ∧ j < B + 6 * n + 6
    · rw [if_pos r]
      unfold v6
      by_cases z5 : j = B + 6 * n + 5
      · rw [z5, upd_eq, if_neg (by omega), if_neg (by omega), if_neg (by omega), if_neg (by omega), if_neg (by omega)]
      · rw [upd_ne z5]
        by_cases z4 : j = B + 6 * n + 4
        · rw [z4, upd_eq, if_neg (by omega), if_neg (by omega), if_neg (by omega), if_neg (by omega), if_pos (by omega)]
        · rw [upd_ne z4]
          by_cases z3 : j = B + 6 * n + 3
          · rw [z3, upd_eq, if_neg (by omega), if_neg (by omega), if_neg (by omega), if_pos (by omega)]
          · rw [upd_ne z3]
            by_cases z2 : j = B + 6 * n + 2
            · rw [z2, upd_eq, if_neg (by omega), if_neg (by omega), if_pos (by omega)]
            · rw [upd_ne z2]
              by_cases z1 : j = B + 6 * n + 1
              · rw [z1, upd_eq, if_neg (by omega), if_pos (by omega)]
              · rw [upd_ne z1]
                rw [show j = B + 6 * n + 0 by omega, upd_eq, if_pos (by omega)]
    · rw [if_neg r, upd_ne (by omega), upd_ne (by omega), upd_ne (by omega), upd_ne (by omega), upd_ne (by omega), upd_ne (by omega)]
theorem tg_set6 {f : Nat → Int32} {n r c r' c' : Int} {v : Int32} (h : 0 ≤ r ∧ r < n ∧ 0 ≤ c ∧ c < 6) : tget (tset f n 6 r c v) n 6 r' c' = if r' = r ∧ c' = c then v else tget f n 6 r' c' := by
  unfold tget tset
  rw [if_pos h]
  by_cases q : 0 ≤ r' ∧ r' < n ∧ 0 ≤ c' ∧ c' < 6
  · rw [if_pos q, if_pos q]
    unfold upd
    by_cases e : r' = r ∧ c' = c
    · rw [if_pos e, if_pos (by rw [e.1, e.2])]
    · rw [if_neg e, if_neg (by omega)]
  · rw [if_neg q, if_neg q]
    by_cases e : r' = r ∧ c' = c
    · exact absurd (by omega) q
    · rw [if_neg e]
theorem tg_fil6 {f : Nat → Int32} {n r c : Int} {v : Int32} (h0 : 0 ≤ n) (hr : 0 ≤ r ∧ r ≤ n) (hc : 0 ≤ c ∧ c < 6) : tget (tfil f n 6 v 6) (n + 1) 6 r c = if r = n then v else tget f n 6 r c := by
  unfold tget tfil
  rw [if_pos (by omega)]
  by_cases e : r = n
  · rw [if_pos e, if_pos (by omega)]
  · rw [if_neg e, if_neg (by omega), if_pos (by omega)]
theorem tg_fil24 {f : Nat → Int32} {n r c : Int} {v : Int32} (h0 : 0 ≤ n) (hr : 0 ≤ r ∧ r ≤ n) (hc : 0 ≤ c ∧ c < 24) : tget (tfil f n 24 v 24) (n + 1) 24 r c = if r = n then v else tget f n 24 r c := by
  unfold tget tfil
  rw [if_pos (by omega)]
  by_cases e : r = n
  · rw [if_pos e, if_pos (by omega)]
  · rw [if_neg e, if_neg (by omega), if_pos (by omega)]
/-- a table of the class as the row has it -/
def HTb (B mw : Nat) (cw : Int) (n : Int) (t f : Nat → Int32) : Prop := ∀ r c : Nat, (r : Int) < n → c < mw → f (B + mw * r + c) = tget t n cw r c
theorem ht_add {B mw ci : Nat} {cw : Int} {t t' f : Nat → Int32} {n N : Int} {v : Int32} {vals : Nat → Int32} (h : HTb B mw cw n t f) (hn : 0 ≤ n) (hN : N = n + 1) (hci : ci < B) (h1 : ∀ r c : Nat, (r : Int) < n → c < mw → tget t' N cw r c = tget t n cw r c) (h2 : ∀ c : Nat, c < mw → tget t' N cw n c = vals c) : HTb B mw cw N t' (addRow f ci B mw n.toNat v vals) := by
  intro r c hr hc
  by_cases q : (r : Int) = n
  · have q2 : r = n.toNat := by omega
    unfold addRow
    rw [if_neg (by rw [q2]; omega), if_pos (by rw [q2]; omega), q, h2 c hc]
    congr 1
    rw [q2]; omega
  · have q2 : r + 1 ≤ n.toNat := by omega
    have m := Nat.mul_le_mul_left mw q2
    rw [Nat.mul_add, Nat.mul_one] at m
    rw [ar_ne (by omega) (by omega), h1 r c (by omega) hc]
    exact h r c (by omega) hc
theorem ht_cpy {B mw N : Nat} {cw : Int} {n : Int} {t x f g : Nat → Int32} (h : HTb B mw cw n t f) (hw : 0 ≤ cw) (hN : n * cw ≤ (N : Int)) (e : ∀ r c : Nat, (r : Int) < n → c < mw → g (B + mw * r + c) = f (B + mw * r + c)) : HTb B mw cw n (va_cpy t x 0 0 N) g := by
  intro r c hr hc
  rw [e r c hr hc, h r c hr hc, tget_cpyN hN hw]
def QH (wa : Int64) (le st : Int32) (f : Nat → Int32) : Prop := (∀ c : Nat, c < 64 → (f (10 + c)).toInt = if onB wa (c : Int) = true then 1 else 0) ∧ f 4 = le ∧ f 6 = st
def QG (n : Int32) (t : Nat → Int32) (gb : Int64) (f : Nat → Int32) : Prop := (0 ≤ n.toInt ∧ n.toInt ≤ 6) ∧ f 0 = n ∧ HTb 80 5 5 n.toInt t f ∧ inT gb t n.toInt ∧ (∀ r : Int, 0 ≤ r → r < n.toInt → onB gb (tget t n.toInt 5 r 0).toInt = true)
def QB (n : Int32) (t : Nat → Int32) (bb : Nat → Int64) (f : Nat → Int32) : Prop := (0 ≤ n.toInt ∧ n.toInt ≤ 5) ∧ f 1 = n ∧ HTb 110 24 24 n.toInt t f ∧ (∀ c : Nat, c < 24 → bb c = bbd t n.toInt c n.toInt.toNat) ∧ (∀ r c : Int, 0 ≤ r → r < n.toInt → 0 ≤ c → c < 24 → -1 ≤ (tget t n.toInt 24 r c).toInt ∧ (tget t n.toInt 24 r c).toInt ≤ 63)
/-- what stands in a table's rows: numbers that can be; no two spots in a cell -/
def QSE (n : Int) (t : Nat → Int32) : Prop := ∀ r : Int, 0 ≤ r → r < n → (0 ≤ (tget t n 4 r 0).toInt ∧ (tget t n 4 r 0).toInt ≤ 63) ∧ (0 ≤ (tget t n 4 r 1).toInt ∧ (tget t n 4 r 1).toInt ≤ 3) ∧ (0 ≤ (tget t n 4 r 2).toInt ∧ (tget t n 4 r 2).toInt ≤ 23) ∧ (0 ≤ (tget t n 4 r 3).toInt ∧ (tget t n 4 r 3).toInt ≤ 1)
def QPE (n : Int) (t : Nat → Int32) : Prop := ∀ r : Int, 0 ≤ r → r < n → (tget t n 5 r 3).toInt = 0 ∧ (tget t n 5 r 4).toInt = 0 ∧ ∀ k : Int, 0 ≤ k → k < r → tget t n 5 k 0 ≠ tget t n 5 r 0
def QWE (n : Int) (t : Nat → Int32) : Prop := ∀ r : Int, 0 ≤ r → r < n → (0 ≤ (tget t n 6 r 0).toInt ∧ (tget t n 6 r 0).toInt ≤ 63) ∧ (0 ≤ (tget t n 6 r 1).toInt ∧ (tget t n 6 r 1).toInt ≤ 3) ∧ (0 ≤ (tget t n 6 r 2).toInt ∧ (tget t n 6 r 2).toInt ≤ 23) ∧ (0 ≤ (tget t n 6 r 3).toInt ∧ (tget t n 6 r 3).toInt ≤ 63) ∧ (0 ≤ (tget t n 6 r 4).toInt ∧ (tget t n 6 r 4).toInt ≤ 23) ∧ (0 ≤ (tget t n 6 r 5).toInt ∧ (tget t n 6 r 5).toInt ≤ 1)
def QS (n : Int32) (t f : Nat → Int32) : Prop := (0 ≤ n.toInt ∧ n.toInt ≤ 10) ∧ f 5 = n ∧ HTb 230 4 4 n.toInt t f ∧ QSE n.toInt t
def QP (n : Int32) (t f : Nat → Int32) : Prop := (0 ≤ n.toInt ∧ n.toInt ≤ 8) ∧ f 7 = n ∧ HTb 270 3 5 n.toInt t f ∧ QPE n.toInt t
def QW (n : Int32) (t f : Nat → Int32) : Prop := (0 ≤ n.toInt ∧ n.toInt ≤ 6) ∧ f 8 = n ∧ HTb 300 6 6 n.toInt t f ∧ QWE n.toInt t
theorem hh_c {wa : Int64} {le st : Int32} {f g : Nat → Int32} (h : QH wa le st f) (e : ∀ j : Nat, (j = 4 ∨ j = 6 ∨ (10 ≤ j ∧ j < 74)) → g j = f j) : QH wa le st g :=
  ⟨fun c hc => by rw [e _ (by omega)]; exact h.1 c hc, (e 4 (by omega)).trans h.2.1, (e 6 (by omega)).trans h.2.2⟩
theorem hg_c {n : Int32} {t : Nat → Int32} {gb : Int64} {f g : Nat → Int32} (h : QG n t gb f) (e : ∀ j : Nat, (j = 0 ∨ (80 ≤ j ∧ j < 110)) → g j = f j) : QG n t gb g :=
  ⟨h.1, (e 0 (by omega)).trans h.2.1, fun r c hr hc => (e _ (by have := h.1; omega)).trans (h.2.2.1 r c hr hc), h.2.2.2⟩
theorem hb_c {n : Int32} {t : Nat → Int32} {bb : Nat → Int64} {f g : Nat → Int32} (h : QB n t bb f) (e : ∀ j : Nat, (j = 1 ∨ (110 ≤ j ∧ j < 230)) → g j = f j) : QB n t bb g :=
  ⟨h.1, (e 1 (by omega)).trans h.2.1, fun r c hr hc => (e _ (by have := h.1; omega)).trans (h.2.2.1 r c hr hc), h.2.2.2⟩
theorem hs_c {n : Int32} {t f g : Nat → Int32} (h : QS n t f) (e : ∀ j : Nat, (j = 5 ∨ (230 ≤ j ∧ j < 270)) → g j = f j) : QS n t g :=
  ⟨h.1, (e 5 (by omega)).trans h.2.1, fun r c hr hc => (e _ (by have := h.1; omega)).trans (h.2.2.1 r c hr hc), h.2.2.2⟩
theorem hp_c {n : Int32} {t f g : Nat → Int32} (h : QP n t f) (e : ∀ j : Nat, (j = 7 ∨ (270 ≤ j ∧ j < 294)) → g j = f j) : QP n t g :=
  ⟨h.1, (e 7 (by omega)).trans h.2.1, fun r c hr hc => (e _ (by have := h.1; omega)).trans (h.2.2.1 r c hr hc), h.2.2.2⟩
theorem hwi_c {n : Int32} {t f g : Nat → Int32} (h : QW n t f) (e : ∀ j : Nat, (j = 8 ∨ (300 ≤ j ∧ j < 336)) → g j = f j) : QW n t g :=
  ⟨h.1, (e 8 (by omega)).trans h.2.1, fun r c hr hc => (e _ (by have := h.1; omega)).trans (h.2.2.1 r c hr hc), h.2.2.2⟩
/-! what stands where -/
def gAt (f : Nat → Int32) (c : Int) : Prop := ∃ g : Nat, (g : Int) < (f 0).toInt ∧ (f (80 + 5 * g)).toInt = c
def sAt (f : Nat → Int32) (c : Int) : Prop := ∃ s : Nat, (s : Int) < (f 7).toInt ∧ (f (270 + 3 * s)).toInt = c
def bAt (f : Nat → Int32) (c : Int) : Prop := ∃ k : Nat, (k : Int) < 24 * (f 1).toInt ∧ (f (110 + k)).toInt = c
def takenR (f : Nat → Int32) (c : Int) : Prop := gAt f c ∨ sAt f c ∨ bAt f c ∨ (f 6).toInt = c
def canR (f : Nat → Int32) (c : Int) : Prop := (f (10 + c.toNat)).toInt ≠ 1 ∧ ¬ gAt f c ∧ ¬ sAt f c
def wallAt (f : Nat → Int32) (c : Int) : Prop := 0 ≤ c ∧ (f (10 + c.toNat)).toInt = 1
/-- no wall where something is -/
def NW (f : Nat → Int32) : Prop := ∀ c : Int, 0 ≤ c → c ≤ 63 → takenR f c → (f (10 + c.toNat)).toInt ≠ 1
theorem onB_orT {a b : Int64} {x : Int} (h : onB a x = true) : onB (a ||| b) x = true := by
  unfold onB at h ⊢; rw [Int64.toBitVec_or, BitVec.getLsbD_or, h, Bool.true_or]
theorem onB_orF {a b : Int64} {x : Int} (h : onB (a ||| b) x = false) : onB a x = false ∧ onB b x = false := by
  unfold onB at h ⊢; rw [Int64.toBitVec_or, BitVec.getLsbD_or, Bool.or_eq_false_iff] at h; exact h
theorem onB_orE {a b : Int64} {x : Int} (h : onB (a ||| b) x = true) : onB a x = true ∨ onB b x = true := by
  unfold onB at h ⊢; rw [Int64.toBitVec_or, BitVec.getLsbD_or, Bool.or_eq_true] at h; exact h
theorem bit_of {c : Int32} (h : 0 ≤ c.toInt) : (1 : Int64) <<< (c.toInt64 &&& 63) = bitI c.toInt := by
  unfold bitI; rw [← g5_nI h]
theorem onB_bit {a : Int64} {c : Int32} (h : 0 ≤ c.toInt ∧ c.toInt ≤ 63) {x : Int} (h0 : 0 ≤ x) (h1 : x ≤ 63) : onB (a ||| ((1 : Int64) <<< (c.toInt64 &&& 63))) x = (onB a x || decide (x = c.toInt)) := by
  rw [bit_of h.1, onB_or a h.1 h.2 h0 h1]
theorem hh_wall {wa : Int64} {le st : Int32} {f : Nat → Int32} (h : QH wa le st f) {c : Int} (h0 : 0 ≤ c) (h1 : c ≤ 63) : ((f (10 + c.toNat)).toInt = 1 ↔ onB wa c = true) ∧ ((f (10 + c.toNat)).toInt = 0 ↔ onB wa c = false) := by
  have z := h.1 c.toNat (by omega)
  rw [Int.toNat_of_nonneg h0] at z
  rw [z]
  cases onB wa c <;> simp
theorem wl_y {wa : Int64} {le st : Int32} {f : Nat → Int32} (h : QH wa le st f) {c : Int} (h1 : c ≤ 63) (q : 0 ≤ c ∧ onB wa c = true) : wallAt f c := ⟨q.1, (hh_wall h q.1 h1).1.mpr q.2⟩
theorem wl_n {wa : Int64} {le st : Int32} {f : Nat → Int32} (h : QH wa le st f) {c : Int} (h1 : c ≤ 63) (q : c = -1 ∨ onB wa c = false) : ¬ wallAt f c := by
  rintro ⟨a, b⟩
  rcases q with q | q
  · omega
  · have z := (hh_wall h a h1).1.mp b
    rw [q] at z; exact absurd z (by decide)
theorem gat_iff {n : Int32} {t : Nat → Int32} {gb : Int64} {f : Nat → Int32} (h : QG n t gb f) {c : Int} (h0 : 0 ≤ c) (h1 : c ≤ 63) : onB gb c = true ↔ gAt f c := by
  obtain ⟨hb, h2, h3, h4, h5⟩ := h
  have z0 : (0 : Int32).toInt = 0 := (by decide)
  constructor
  · intro q
    obtain ⟨r, a, b, e⟩ := h4 c h0 h1 q
    refine ⟨r.toNat, by rw [h2]; omega, ?_⟩
    have y := h3 r.toNat 0 (by omega) (by omega)
    rw [Int.toNat_of_nonneg a] at y
    rw [z0] at e
    rw [show 80 + 5 * r.toNat = 80 + 5 * r.toNat + 0 by omega, y]; exact e
  · rintro ⟨g, a, e⟩
    rw [h2] at a
    have y := h3 g 0 a (by omega)
    have w := h5 g (by omega) a
    rw [show 80 + 5 * g = 80 + 5 * g + 0 by omega, y] at e
    rw [← e]; exact w
theorem sat_iff {n : Int32} {t : Nat → Int32} {f : Nat → Int32} (h : QP n t f) {c : Int32} : (∃ r : Int, 0 ≤ r ∧ r < n.toInt ∧ tget t n.toInt 5 r (0 : Int32).toInt = c) ↔ sAt f c.toInt := by
  obtain ⟨hb, h2, h3, -⟩ := h
  have z0 : (0 : Int32).toInt = 0 := (by decide)
  rw [z0]
  constructor
  · rintro ⟨r, a, b, e⟩
    refine ⟨r.toNat, by rw [h2]; omega, ?_⟩
    have y := h3 r.toNat 0 (by omega) (by omega)
    rw [Int.toNat_of_nonneg a] at y
    rw [show 270 + 3 * r.toNat = 270 + 3 * r.toNat + 0 by omega, y]
    exact congrArg Int32.toInt e
  · rintro ⟨s, a, e⟩
    rw [h2] at a
    have y := h3 s 0 a (by omega)
    rw [show 270 + 3 * s = 270 + 3 * s + 0 by omega, y] at e
    exact ⟨s, by omega, a, Int32.toInt_inj.mp e⟩
theorem onB_bbd {t : Nat → Int32} {n h : Int} (R : ∀ r : Int, 0 ≤ r → r < n → -1 ≤ (tget t n 24 r h).toInt ∧ (tget t n 24 r h).toInt ≤ 63) {x : Int} (h0 : 0 ≤ x) (h1 : x ≤ 63) : ∀ k : Nat, (k : Int) ≤ n → (onB (bbd t n h k) x = true ↔ ∃ r : Nat, r < k ∧ (tget t n 24 r h).toInt = x) := by
  intro k
  induction k with
  | zero =>
    intro _
    constructor
    · intro q
      have z : onB (0 : Int64) x = true := q
      rw [onB_zero] at z; exact absurd z (by decide)
    · rintro ⟨r, a, _⟩; omega
  | succ k ih =>
    intro hk
    have ih := ih (by omega)
    have rk := R k (by omega) (by omega)
    have e : bbd t n h (k + 1) = bbd t n h k ||| (if tget t n 24 k h = -1 then 0 else (1 : Int64) <<< ((tget t n 24 k h).toInt64 &&& 63)) := rfl
    rw [e]
    by_cases q : tget t n 24 k h = -1
    · rw [if_pos q, Int64.or_zero, ih]
      constructor
      · rintro ⟨r, a, b⟩; exact ⟨r, by omega, b⟩
      · rintro ⟨r, a, b⟩
        by_cases z : r = k
        · subst z
          rw [q] at b
          have y : (-1 : Int32).toInt = -1 := (by decide)
          omega
        · exact ⟨r, by omega, b⟩
    · have pos : 0 ≤ (tget t n 24 k h).toInt := by
        by_cases z : (tget t n 24 k h).toInt = -1
        · exact absurd (g5_toc (n := -1) (by decide) z) q
        · omega
      rw [if_neg q, onB_bit ⟨pos, rk.2⟩ h0 h1, Bool.or_eq_true, ih, decide_eq_true_eq]
      constructor
      · rintro (⟨r, a, b⟩ | b)
        · exact ⟨r, by omega, b⟩
        · exact ⟨k, by omega, b.symm⟩
      · rintro ⟨r, a, b⟩
        by_cases z : r = k
        · subst z; exact Or.inr b.symm
        · exact Or.inl ⟨r, by omega, b⟩
theorem bat_iff {n : Int32} {t : Nat → Int32} {bb : Nat → Int64} {f : Nat → Int32} (h : QB n t bb f) {c : Int} (h0 : 0 ≤ c) (h1 : c ≤ 63) : (∃ h : Nat, h < 24 ∧ onB (bb h) c = true) ↔ bAt f c := by
  obtain ⟨hb, h2, h3, h4, h5⟩ := h
  constructor
  · rintro ⟨k, hk, q⟩
    rw [h4 k hk, onB_bbd (fun r a b => h5 r k a b (by omega) (by omega)) h0 h1 _ (by omega)] at q
    obtain ⟨r, a, b⟩ := q
    refine ⟨24 * r + k, by rw [h2]; omega, ?_⟩
    rw [show 110 + (24 * r + k) = 110 + 24 * r + k by omega, h3 r k (by omega) hk]; exact b
  · rintro ⟨k, a, b⟩
    rw [h2] at a
    refine ⟨k % 24, by omega, ?_⟩
    rw [h4 _ (by omega), onB_bbd (fun r a b => h5 r _ a b (by omega) (by omega)) h0 h1 _ (by omega)]
    refine ⟨k / 24, by omega, ?_⟩
    rw [← h3 (k / 24) (k % 24) (by omega) (by omega), show 110 + 24 * (k / 24) + k % 24 = 110 + k by omega]; exact b
theorem tk_y {wa : Int64} {le st n m k : Int32} {t u v : Nat → Int32} {gb : Int64} {bb : Nat → Int64} {f : Nat → Int32} {c : Int32} (hH : QH wa le st f) (hG : QG n t gb f) (hB : QB m u bb f) (hP : QP k v f) (hc : 0 ≤ c.toInt ∧ c.toInt ≤ 63) (q : (∃ h : Nat, h < 24 ∧ onB (bb h) c.toInt = true) ∨ onB gb c.toInt = true ∨ (∃ r : Int, 0 ≤ r ∧ r < k.toInt ∧ tget v k.toInt 5 r (0 : Int32).toInt = c) ∨ st = c) : takenR f c.toInt := by
  rcases q with q | q | q | q
  · exact Or.inr (Or.inr (Or.inl ((bat_iff hB hc.1 hc.2).mp q)))
  · exact Or.inl ((gat_iff hG hc.1 hc.2).mp q)
  · exact Or.inr (Or.inl ((sat_iff hP).mp q))
  · exact Or.inr (Or.inr (Or.inr (by rw [hH.2.2, q])))
theorem tk_n {wa : Int64} {le st n m k : Int32} {t u v : Nat → Int32} {gb : Int64} {bb : Nat → Int64} {f : Nat → Int32} {c : Int32} (hH : QH wa le st f) (hG : QG n t gb f) (hB : QB m u bb f) (hP : QP k v f) (hc : 0 ≤ c.toInt ∧ c.toInt ≤ 63) (q : (∀ h : Nat, h < 24 → onB (bb h) c.toInt = false) ∧ onB gb c.toInt = false ∧ (∀ r : Int, 0 ≤ r → r < k.toInt → tget v k.toInt 5 r (0 : Int32).toInt ≠ c) ∧ st ≠ c) : ¬ takenR f c.toInt := by
  obtain ⟨q1, q2, q3, q4⟩ := q
  rintro (z | z | z | z)
  · have y := (gat_iff hG hc.1 hc.2).mpr z
    rw [q2] at y; exact absurd y (by decide)
  · obtain ⟨r, a, b, e⟩ := (sat_iff hP).mpr z
    exact q3 r a b e
  · obtain ⟨h, a, b⟩ := (bat_iff hB hc.1 hc.2).mpr z
    rw [q1 h a] at b; exact absurd b (by decide)
  · rw [hH.2.2] at z; exact q4 (Int32.toInt_inj.mp z)
theorem cn_y {wa : Int64} {le st n k : Int32} {t v : Nat → Int32} {gb : Int64} {f : Nat → Int32} {c : Int32} (hH : QH wa le st f) (hG : QG n t gb f) (hP : QP k v f) (hc : 0 ≤ c.toInt ∧ c.toInt ≤ 63) (q1 : onB (wa ||| gb) c.toInt = false) (q2 : ∀ r : Int, 0 ≤ r → r < k.toInt → tget v k.toInt 5 r (0 : Int32).toInt ≠ c) : canR f c.toInt := by
  obtain ⟨a, b⟩ := onB_orF q1
  refine ⟨fun z => ?_, fun z => ?_, fun z => ?_⟩
  · have y := (hh_wall hH hc.1 hc.2).1.mp z
    rw [a] at y; exact absurd y (by decide)
  · have y := (gat_iff hG hc.1 hc.2).mpr z
    rw [b] at y; exact absurd y (by decide)
  · obtain ⟨r, x, y, e⟩ := (sat_iff hP).mpr z
    exact q2 r x y e
theorem cn_n {wa : Int64} {le st n k : Int32} {t v : Nat → Int32} {gb : Int64} {f : Nat → Int32} {c : Int32} (hH : QH wa le st f) (hG : QG n t gb f) (hP : QP k v f) (hc : 0 ≤ c.toInt ∧ c.toInt ≤ 63) (q : onB (wa ||| gb) c.toInt = true ∨ ∃ r : Int, 0 ≤ r ∧ r < k.toInt ∧ tget v k.toInt 5 r (0 : Int32).toInt = c) : ¬ canR f c.toInt := by
  rintro ⟨z1, z2, z3⟩
  rcases q with q | q
  · rcases onB_orE q with y | y
    · exact z1 ((hh_wall hH hc.1 hc.2).1.mpr y)
    · exact z2 ((gat_iff hG hc.1 hc.2).mp y)
  · exact z3 ((sat_iff hP).mp q)
/-! what each call makes of the row, and its answer -/
def okG (c s l d : Int32) : Prop := (0 ≤ c.toInt ∧ c.toInt ≤ 63) ∧ (0 ≤ s.toInt ∧ s.toInt ≤ 5) ∧ (0 ≤ l.toInt ∧ l.toInt ≤ 23) ∧ (0 ≤ d.toInt ∧ d.toInt ≤ 10)
noncomputable def sglass (f : Nat → Int32) (c s l d : Int32) : Nat → Int32 := cif (okG c s l d ∧ canR f c.toInt ∧ (f 0).toInt ≠ 6) (addRow f 0 80 5 (f 0).toInt.toNat (f 0 + 1) (v5 c s l d 0)) f
noncomputable def aglass (f : Nat → Int32) (c s l d : Int32) : Int32 := cif (okG c s l d) (cif (canR f c.toInt) (cif ((f 0).toInt ≠ 6) (f 0) (-5)) (-3)) (-1)
theorem glass_1 {f : Nat → Int32} {c s l d : Int32} (h : ¬ okG c s l d) : aglass f c s l d = -1 ∧ sglass f c s l d = f := ⟨cif_f h, cif_f (fun q => h q.1)⟩
theorem glass_3 {f : Nat → Int32} {c s l d : Int32} (h : okG c s l d) (h2 : ¬ canR f c.toInt) : aglass f c s l d = -3 ∧ sglass f c s l d = f := ⟨(cif_t h).trans (cif_f h2), cif_f (fun q => h2 q.2.1)⟩
theorem glass_5 {f : Nat → Int32} {c s l d : Int32} (h : okG c s l d) (h2 : canR f c.toInt) (h3 : (f 0).toInt = 6) : aglass f c s l d = -5 ∧ sglass f c s l d = f := ⟨(cif_t h).trans ((cif_t h2).trans (cif_f (fun q => q h3))), cif_f (fun q => q.2.2 h3)⟩
theorem glass_0 {f : Nat → Int32} {c s l d : Int32} (h : okG c s l d) (h2 : canR f c.toInt) (h3 : (f 0).toInt ≠ 6) : aglass f c s l d = f 0 ∧ sglass f c s l d = addRow f 0 80 5 (f 0).toInt.toNat (f 0 + 1) (v5 c s l d 0) := ⟨(cif_t h).trans ((cif_t h2).trans (cif_t h3)), cif_t ⟨h, h2, h3⟩⟩
theorem kp_glass {f : Nat → Int32} {c s l d : Int32} {j : Nat} (b : (f 0).toInt ≤ 6) (h : j ≠ 0 ∧ (j < 80 ∨ 110 ≤ j)) : sglass f c s l d j = f j := by
  by_cases q : okG c s l d ∧ canR f c.toInt ∧ (f 0).toInt ≠ 6
  · unfold sglass; rw [cif_t q, ar_ne h.1 (by omega)]
  · unfold sglass; rw [cif_f q]
theorem hg_glass {n N : Int32} {t : Nat → Int32} {gb : Int64} {f : Nat → Int32} {c s l d : Int32} (h : QG n t gb f) (hk : gOK t n.toInt) (hn : n.toInt < 6) (hN : N.toInt = n.toInt + 1) (ok : okG c s l d) (cn : canR f c.toInt) : QG N (tset (tset (tset (tset (tfil t n.toInt 5 0 5) N.toInt 5 n.toInt (0 : Int32).toInt c) N.toInt 5 n.toInt (1 : Int32).toInt s) N.toInt 5 n.toInt (2 : Int32).toInt l) N.toInt 5 n.toInt (3 : Int32).toInt d) (gb ||| ((1 : Int64) <<< (c.toInt64 &&& 63))) (sglass f c s l d) := by
  obtain ⟨hb, h2, h3, h4, h5⟩ := h
  have z0 : (0 : Int32).toInt = 0 := (by decide)
  have z1 : (1 : Int32).toInt = 1 := (by decide)
  have z2 : (2 : Int32).toInt = 2 := (by decide)
  have z3 : (3 : Int32).toInt = 3 := (by decide)
  have hN' : N = n + 1 := Int32.toInt_inj.mp (by rw [hN]; exact (g5_iadd rfl (by decide) (by omega) (by omega)).symm)
  rw [(glass_0 ok cn (by rw [h2]; omega)).2, h2]
  have old : ∀ r c' : Int, 0 ≤ r → r < n.toInt → 0 ≤ c' → c' < 5 → tget (tset (tset (tset (tset (tfil t n.toInt 5 0 5) N.toInt 5 n.toInt (0 : Int32).toInt c) N.toInt 5 n.toInt (1 : Int32).toInt s) N.toInt 5 n.toInt (2 : Int32).toInt l) N.toInt 5 n.toInt (3 : Int32).toInt d) N.toInt 5 r c' = tget t n.toInt 5 r c' := by
    intro r c' a b x y
    rw [z0, z1, z2, z3, tg_set5 (by omega), if_neg (by omega), tg_set5 (by omega), if_neg (by omega), tg_set5 (by omega), if_neg (by omega), tg_set5 (by omega), if_neg (by omega), hN, tg_fil5 hb.1 (by omega) (by omega), if_neg (by omega)]
  have new0 : tget (tset (tset (tset (tset (tfil t n.toInt 5 0 5) N.toInt 5 n.toInt (0 : Int32).toInt c) N.toInt 5 n.toInt (1 : Int32).toInt s) N.toInt 5 n.toInt (2 : Int32).toInt l) N.toInt 5 n.toInt (3 : Int32).toInt d) N.toInt 5 n.toInt 0 = c := by
    rw [z0, z1, z2, z3, tg_set5 (by omega), if_neg (by omega), tg_set5 (by omega), if_neg (by omega), tg_set5 (by omega), if_neg (by omega), tg_set5 (by omega), if_pos (by omega)]
  refine ⟨by omega, ?_, ?_, ?_, ?_⟩
  · rw [ar_ci, hN']
  · refine ht_add h3 hb.1 hN (by omega) (fun r c' a b => old r c' (by omega) a (by omega) (by omega)) (fun c' hc => ?_)
    rcases (show c' = 0 ∨ c' = 1 ∨ c' = 2 ∨ c' = 3 ∨ c' = 4 by omega) with rfl | rfl | rfl | rfl | rfl
    · exact new0
    · rw [z0, z1, z2, z3, tg_set5 (by omega), if_neg (by omega), tg_set5 (by omega), if_neg (by omega), tg_set5 (by omega), if_pos (by omega)]; rfl
    · rw [z0, z1, z2, z3, tg_set5 (by omega), if_neg (by omega), tg_set5 (by omega), if_pos (by omega)]; rfl
    · rw [z0, z1, z2, z3, tg_set5 (by omega), if_pos (by omega)]; rfl
    · rw [z0, z1, z2, z3, tg_set5 (by omega), if_neg (by omega), tg_set5 (by omega), if_neg (by omega), tg_set5 (by omega), if_neg (by omega), tg_set5 (by omega), if_neg (by omega), hN, tg_fil5 hb.1 (by omega) (by omega), if_pos (by omega)]; rfl
  · exact g_inTglass h4 hb.1 hN ok.1
  · intro r a b
    by_cases q : r = n.toInt
    · rw [q, new0, onB_bit ok.1 ok.1.1 ok.1.2, decide_eq_true rfl, Bool.or_true]
    · rw [old r 0 a (by omega) (by omega) (by omega)]
      exact onB_orT (h5 r a (by omega))
/-! a glass turned -/
def okT (w v : Int32) : Prop := (w.toInt = 0 ∧ 0 ≤ v.toInt ∧ v.toInt ≤ 5) ∨ (w.toInt = 1 ∧ 0 ≤ v.toInt ∧ v.toInt ≤ 23) ∨ (w.toInt = 2 ∧ 0 ≤ v.toInt ∧ v.toInt ≤ 10) ∨ (w.toInt = 3 ∧ 0 ≤ v.toInt ∧ v.toInt ≤ 16777215)
def isG (f : Nat → Int32) (g : Int32) : Prop := 0 ≤ g.toInt ∧ g.toInt < (f 0).toInt
noncomputable def sturn (f : Nat → Int32) (g w v : Int32) : Nat → Int32 := cif (okT w v ∧ isG f g) (upd f (81 + 5 * g.toInt.toNat + w.toInt.toNat) v) f
noncomputable def aturn (f : Nat → Int32) (g w v : Int32) : Int32 := cif (okT w v) (cif (isG f g) (f (81 + 5 * g.toInt.toNat + w.toInt.toNat)) (-2)) (-1)
theorem turn_1 {f : Nat → Int32} {g w v : Int32} (h : ¬ okT w v) : aturn f g w v = -1 ∧ sturn f g w v = f := ⟨cif_f h, cif_f (fun q => h q.1)⟩
theorem turn_2 {f : Nat → Int32} {g w v : Int32} (h : okT w v) (h2 : ¬ isG f g) : aturn f g w v = -2 ∧ sturn f g w v = f := ⟨(cif_t h).trans (cif_f h2), cif_f (fun q => h2 q.2)⟩
theorem turn_0 {f : Nat → Int32} {g w v : Int32} (h : okT w v) (h2 : isG f g) : aturn f g w v = f (81 + 5 * g.toInt.toNat + w.toInt.toNat) ∧ sturn f g w v = upd f (81 + 5 * g.toInt.toNat + w.toInt.toNat) v := ⟨(cif_t h).trans (cif_t h2), cif_t ⟨h, h2⟩⟩
theorem kp_turn {f : Nat → Int32} {g w v : Int32} {j : Nat} (b : (f 0).toInt ≤ 6) (h : j < 80 ∨ 110 ≤ j) : sturn f g w v j = f j := by
  by_cases q : okT w v ∧ isG f g
  · unfold sturn; rw [cif_t q]
    have q1 := q.1
    have q2 := q.2
    unfold okT at q1
    unfold isG at q2
    exact upd_ne (by omega)
  · unfold sturn; rw [cif_f q]
theorem isg_y {n : Int32} {t : Nat → Int32} {gb : Int64} {f : Nat → Int32} {g : Int32} (h : QG n t gb f) (q : 0 ≤ g.toInt ∧ g.toInt < n.toInt) : isG f g := by unfold isG; rw [h.2.1]; exact q
theorem isg_n {n : Int32} {t : Nat → Int32} {gb : Int64} {f : Nat → Int32} {g : Int32} (h : QG n t gb f) (q : g.toInt < 0 ∨ n.toInt ≤ g.toInt) : ¬ isG f g := by unfold isG; rw [h.2.1]; omega
theorem hg_get {n : Int32} {t : Nat → Int32} {gb : Int64} {f : Nat → Int32} (h : QG n t gb f) {r c : Int} (hr : 0 ≤ r ∧ r < n.toInt) (hc : 0 ≤ c ∧ c < 5) {j : Nat} (hj : (j : Int) = 80 + 5 * r + c) : tget t n.toInt 5 r c = f j := by
  have z := h.2.2.1 r.toNat c.toNat (by omega) (by omega)
  rw [Int.toNat_of_nonneg hr.1, Int.toNat_of_nonneg hc.1] at z
  rw [← z]; congr 1; omega
theorem hg_turn {n : Int32} {t : Nat → Int32} {gb : Int64} {f : Nat → Int32} {g w v : Int32} {c : Int} (h : QG n t gb f) (ok : okT w v) (hg : 0 ≤ g.toInt ∧ g.toInt < n.toInt) (hc : c = w.toInt + 1) : QG n (tset t n.toInt 5 g.toInt c v) gb (sturn f g w v) := by
  have ok2 := ok
  unfold okT at ok2
  have i4 := g_inTturn (v := v) h.2.2.2.1 (r := g.toInt) (x := c) hg ⟨by omega, by omega⟩
  obtain ⟨hb, h2, h3, h4, h5⟩ := h
  rw [(turn_0 ok (by unfold isG; rw [h2]; exact hg)).2]
  refine ⟨hb, ?_, ?_, i4, ?_⟩
  · rw [upd_ne (by omega)]; exact h2
  · intro r c' a b
    rw [tg_set5 (by omega)]
    by_cases q : (r : Int) = g.toInt ∧ (c' : Int) = c
    · rw [if_pos q, show 80 + 5 * r + c' = 81 + 5 * g.toInt.toNat + w.toInt.toNat by omega, upd_eq]
    · rw [if_neg q, upd_ne (by omega)]; exact h3 r c' a b
  · intro r a b
    rw [tg_set5 (by omega), if_neg (by omega)]; exact h5 r a b
noncomputable def aof (f : Nat → Int32) (g w : Int32) : Int32 := cif (isG f g ∧ 0 ≤ w.toInt ∧ w.toInt ≤ 4) (f (80 + 5 * g.toInt.toNat + w.toInt.toNat)) (-1)
theorem of_x {n : Int32} {t : Nat → Int32} {gb : Int64} {f : Nat → Int32} {g w : Int32} (h : QG n t gb f) : tget t n.toInt 5 g.toInt w.toInt = aof f g w := by
  unfold aof
  by_cases q : isG f g ∧ 0 ≤ w.toInt ∧ w.toInt ≤ 4
  · have q1 := q.1
    unfold isG at q1
    rw [h.2.1] at q1
    rw [cif_t q]
    exact hg_get h q1 (by omega) (by omega)
  · rw [cif_f q]
    unfold tget
    rw [if_neg]
    intro r
    exact q ⟨isg_y h ⟨r.1, r.2.1⟩, by omega, by omega⟩
/-! a wall -/
noncomputable def swall (f : Nat → Int32) (c i : Int32) : Nat → Int32 := cif ((0 ≤ c.toInt ∧ c.toInt ≤ 63) ∧ (0 ≤ i.toInt ∧ i.toInt ≤ 1) ∧ ¬ (i.toInt = 1 ∧ takenR f c.toInt)) (upd f (10 + c.toInt.toNat) i) f
theorem wall_1 {f : Nat → Int32} {c i : Int32} (h : ¬ ((0 ≤ c.toInt ∧ c.toInt ≤ 63) ∧ (0 ≤ i.toInt ∧ i.toInt ≤ 1))) : swall f c i = f := cif_f (fun q => h ⟨q.1, q.2.1⟩)
theorem wall_3m {f : Nat → Int32} {c i : Int32} (h : i.toInt = 1) (t : takenR f c.toInt) : swall f c i = f := cif_f (fun q => q.2.2 ⟨h, t⟩)
theorem wall_0 {f : Nat → Int32} {c i : Int32} (h : 0 ≤ c.toInt ∧ c.toInt ≤ 63) (h2 : 0 ≤ i.toInt ∧ i.toInt ≤ 1) (h3 : ¬ (i.toInt = 1 ∧ takenR f c.toInt)) : swall f c i = upd f (10 + c.toInt.toNat) i := cif_t ⟨h, h2, h3⟩
theorem wall_3 {wa : Int64} {le st : Int32} {f : Nat → Int32} {c i : Int32} (hH : QH wa le st f) (hN : NW f) (h : 0 ≤ c.toInt ∧ c.toInt ≤ 63) (h2 : 0 ≤ i.toInt ∧ i.toInt ≤ 1) (t : takenR f c.toInt) : swall f c i = f := by
  by_cases q : i.toInt = 1
  · exact wall_3m q t
  · rw [wall_0 h h2 (fun z => q z.1)]
    have z := hN c.toInt h.1 h.2 t
    have y := hh_wall hH h.1 h.2
    have x : (f (10 + c.toInt.toNat)).toInt = 0 := by
      rw [y.2]
      cases w : onB wa c.toInt
      · rfl
      · exact absurd (y.1.mpr w) z
    have e : f (10 + c.toInt.toNat) = i := Int32.toInt_inj.mp (by omega)
    funext j
    by_cases w : j = 10 + c.toInt.toNat
    · rw [w, upd_eq, e]
    · rw [upd_ne w]
theorem kp_wall {f : Nat → Int32} {c i : Int32} {j : Nat} (h : j < 10 ∨ 74 ≤ j) : swall f c i j = f j := by
  by_cases q : (0 ≤ c.toInt ∧ c.toInt ≤ 63) ∧ (0 ≤ i.toInt ∧ i.toInt ≤ 1) ∧ ¬ (i.toInt = 1 ∧ takenR f c.toInt)
  · unfold swall; rw [cif_t q, upd_ne (by omega)]
  · unfold swall; rw [cif_f q]
theorem onB_butI {a : Int64} {c : Int32} (h : 0 ≤ c.toInt ∧ c.toInt ≤ 63) {x : Int} (h0 : 0 ≤ x) (h1 : x ≤ 63) : onB (a &&& (((1 : Int64) <<< (c.toInt64 &&& 63)) ^^^ (-1))) x = (onB a x && decide (x ≠ c.toInt)) := by
  have key : ∀ c : Nat, c < 64 → ∀ x : Nat, x < 64 → onB (bitI (c : Int) ^^^ (-1)) (x : Int) = decide (x ≠ c) := by decide +kernel
  have z := key c.toInt.toNat (by omega) x.toNat (by omega)
  rw [Int.toNat_of_nonneg h.1, Int.toNat_of_nonneg h0] at z
  rw [bit_of h.1]
  have e : onB (a &&& (bitI c.toInt ^^^ (-1))) x = (onB a x && onB (bitI c.toInt ^^^ (-1)) x) := by
    unfold onB; rw [Int64.toBitVec_and, BitVec.getLsbD_and]
  rw [e, z]
  congr 1
  rw [decide_eq_decide]; omega
theorem hh_wall1 {wa : Int64} {le st : Int32} {f : Nat → Int32} {c i : Int32} (hH : QH wa le st f) (h : 0 ≤ c.toInt ∧ c.toInt ≤ 63) (h2 : i.toInt = 1) (h3 : ¬ takenR f c.toInt) : QH (wa ||| ((1 : Int64) <<< (c.toInt64 &&& 63))) le st (swall f c i) := by
  rw [wall_0 h (by omega) (fun q => h3 q.2)]
  refine ⟨fun x hx => ?_, by rw [upd_ne (by omega)]; exact hH.2.1, by rw [upd_ne (by omega)]; exact hH.2.2⟩
  rw [onB_bit h (by omega) (by omega)]
  by_cases q : x = c.toInt.toNat
  · rw [q, upd_eq, decide_eq_true (by omega), Bool.or_true, if_pos rfl]; exact h2
  · rw [upd_ne (by omega), decide_eq_false (by omega), Bool.or_false]; exact hH.1 x hx
theorem hh_wall0 {wa : Int64} {le st : Int32} {f : Nat → Int32} {c i : Int32} (hH : QH wa le st f) (h : 0 ≤ c.toInt ∧ c.toInt ≤ 63) (h2 : i.toInt = 0) : QH (wa &&& (((1 : Int64) <<< (c.toInt64 &&& 63)) ^^^ (-1))) le st (swall f c i) := by
  rw [wall_0 h (by omega) (fun q => by omega)]
  refine ⟨fun x hx => ?_, by rw [upd_ne (by omega)]; exact hH.2.1, by rw [upd_ne (by omega)]; exact hH.2.2⟩
  rw [onB_butI h (by omega) (by omega)]
  by_cases q : x = c.toInt.toNat
  · rw [q, upd_eq, decide_eq_false (by omega), Bool.and_false, if_neg (by decide)]; exact h2
  · rw [upd_ne (by omega), decide_eq_true (by omega), Bool.and_true]; exact hH.1 x hx
/-! bodies -/
noncomputable def sbody (f : Nat → Int32) : Nat → Int32 := cif ((f 1).toInt ≠ 5) (addRow f 1 110 24 (f 1).toInt.toNat (f 1 + 1) (fun _ => -1)) f
noncomputable def abody (f : Nat → Int32) : Int32 := cif ((f 1).toInt ≠ 5) (f 1) (-5)
theorem body_5 {f : Nat → Int32} (h : (f 1).toInt = 5) : abody f = -5 ∧ sbody f = f := ⟨cif_f (fun q => q h), cif_f (fun q => q h)⟩
theorem body_0 {f : Nat → Int32} (h : (f 1).toInt ≠ 5) : abody f = f 1 ∧ sbody f = addRow f 1 110 24 (f 1).toInt.toNat (f 1 + 1) (fun _ => -1) := ⟨cif_t h, cif_t h⟩
theorem kp_body {f : Nat → Int32} {j : Nat} (b : (f 1).toInt ≤ 5) (h : j ≠ 1 ∧ (j < 110 ∨ 230 ≤ j)) : sbody f j = f j := by
  by_cases q : (f 1).toInt ≠ 5
  · rw [(body_0 q).2, ar_ne h.1 (by omega)]
  · rw [(body_5 (by omega)).2]
theorem bbd_fil {t : Nat → Int32} {n h : Int} (h0 : 0 ≤ n) (hh : 0 ≤ h ∧ h < 24) : ∀ k : Nat, (k : Int) ≤ n → bbd (tfil t n 24 (-1) 24) (n + 1) h k = bbd t n h k := by
  intro k
  induction k with
  | zero => intro _; rfl
  | succ k ih =>
    intro hk
    show bbd (tfil t n 24 (-1) 24) (n + 1) h k ||| _ = bbd t n h k ||| _
    rw [ih (by omega), tg_fil24 h0 (by omega) hh, if_neg (show ¬ ((k : Int) = n) by omega)]
theorem hb_body {n N : Int32} {t : Nat → Int32} {bb : Nat → Int64} {f : Nat → Int32} (h : QB n t bb f) (hn : n.toInt < 5) (hN : N.toInt = n.toInt + 1) : QB N (tfil t n.toInt 24 (-1) 24) bb (sbody f) := by
  obtain ⟨hb, h2, h3, h4, h5⟩ := h
  have hN' : N = n + 1 := Int32.toInt_inj.mp (by rw [hN]; exact (g5_iadd rfl (by decide) (by omega) (by omega)).symm)
  rw [(body_0 (by rw [h2]; omega)).2, h2]
  refine ⟨by omega, ?_, ?_, ?_, ?_⟩
  · rw [ar_ci, hN']
  · refine ht_add h3 hb.1 hN (by omega) (fun r c' a b => ?_) (fun c' hc => ?_)
    · rw [hN, tg_fil24 hb.1 (by omega) (by omega), if_neg (by omega)]
    · rw [hN, tg_fil24 hb.1 (by omega) (by omega), if_pos rfl]
  · intro c hc
    rw [h4 c hc, hN, show (n.toInt + 1).toNat = n.toInt.toNat + 1 by omega]
    show _ = bbd (tfil t n.toInt 24 (-1) 24) (n.toInt + 1) c n.toInt.toNat ||| (if tget (tfil t n.toInt 24 (-1) 24) (n.toInt + 1) 24 ((n.toInt.toNat : Nat) : Int) c = -1 then 0 else (1 : Int64) <<< ((tget (tfil t n.toInt 24 (-1) 24) (n.toInt + 1) 24 ((n.toInt.toNat : Nat) : Int) c).toInt64 &&& 63))
    rw [bbd_fil hb.1 (by omega) _ (by omega), tg_fil24 hb.1 (by omega) (by omega), if_pos (show ((n.toInt.toNat : Nat) : Int) = n.toInt by omega), if_pos rfl, Int64.or_zero]
  · intro r c a b x y
    rw [hN] at b
    rw [hN, tg_fil24 hb.1 (by omega) ⟨x, y⟩]
    by_cases q : r = n.toInt
    · rw [if_pos q]; decide
    · rw [if_neg q]; exact h5 r c a (by omega) x y
def okS (b e c : Int32) : Prop := (0 ≤ b.toInt ∧ b.toInt ≤ 23) ∧ (0 ≤ e.toInt ∧ e.toInt ≤ 23) ∧ b.toInt ≤ e.toInt ∧ (-1 ≤ c.toInt ∧ c.toInt ≤ 63)
def isB (f : Nat → Int32) (b : Int32) : Prop := 0 ≤ b.toInt ∧ b.toInt < (f 1).toInt
def stR (f : Nat → Int32) (b a e : Int) (c : Int32) : Nat → Int32 := bfill f (110 + 24 * b + a) (110 + 24 * b + e + 1) c
noncomputable def sstay (f : Nat → Int32) (b a e c : Int32) : Nat → Int32 := cif (okS a e c ∧ isB f b ∧ ¬ wallAt f c.toInt) (stR f b.toInt a.toInt e.toInt c) f
noncomputable def astay (f : Nat → Int32) (b a e c : Int32) : Int32 := cif (okS a e c) (cif (isB f b) (cif (¬ wallAt f c.toInt) 0 (-3)) (-2)) (-1)
theorem stay_1 {f : Nat → Int32} {b a e c : Int32} (h : ¬ okS a e c) : astay f b a e c = -1 ∧ sstay f b a e c = f := ⟨cif_f h, cif_f (fun q => h q.1)⟩
theorem stay_2 {f : Nat → Int32} {b a e c : Int32} (h : okS a e c) (h2 : ¬ isB f b) : astay f b a e c = -2 ∧ sstay f b a e c = f := ⟨(cif_t h).trans (cif_f h2), cif_f (fun q => h2 q.2.1)⟩
theorem stay_3 {f : Nat → Int32} {b a e c : Int32} (h : okS a e c) (h2 : isB f b) (h3 : wallAt f c.toInt) : astay f b a e c = -3 ∧ sstay f b a e c = f := ⟨(cif_t h).trans ((cif_t h2).trans (cif_f (fun q => q h3))), cif_f (fun q => q.2.2 h3)⟩
theorem stay_0 {f : Nat → Int32} {b a e c : Int32} (h : okS a e c) (h2 : isB f b) (h3 : ¬ wallAt f c.toInt) : astay f b a e c = 0 ∧ sstay f b a e c = stR f b.toInt a.toInt e.toInt c := ⟨(cif_t h).trans ((cif_t h2).trans (cif_t h3)), cif_t ⟨h, h2, h3⟩⟩
theorem kp_stR {f : Nat → Int32} {b a e : Int} {c : Int32} {j : Nat} (hb : 0 ≤ b ∧ b < 5) (ha : 0 ≤ a) (he : e ≤ 23) (h : j < 110 ∨ 230 ≤ j) : stR f b a e c j = f j := by
  unfold stR; exact bf_ne (by omega)
theorem kp_stay {f : Nat → Int32} {b a e c : Int32} {j : Nat} (bd : (f 1).toInt ≤ 5) (h : j < 110 ∨ 230 ≤ j) : sstay f b a e c j = f j := by
  by_cases q : okS a e c ∧ isB f b ∧ ¬ wallAt f c.toInt
  · have q1 := q.1
    have q2 := q.2.1
    unfold okS at q1
    unfold isB at q2
    unfold sstay; rw [cif_t q]
    exact kp_stR (by omega) (by omega) (by omega) h
  · unfold sstay; rw [cif_f q]
theorem isb_y {n : Int32} {t : Nat → Int32} {bb : Nat → Int64} {f : Nat → Int32} {g : Int32} (h : QB n t bb f) (q : 0 ≤ g.toInt ∧ g.toInt < n.toInt) : isB f g := by unfold isB; rw [h.2.1]; exact q
theorem isb_n {n : Int32} {t : Nat → Int32} {bb : Nat → Int64} {f : Nat → Int32} {g : Int32} (h : QB n t bb f) (q : g.toInt < 0 ∨ n.toInt ≤ g.toInt) : ¬ isB f g := by unfold isB; rw [h.2.1]; omega
theorem hb_put {n : Int32} {t t' : Nat → Int32} {bb bb' : Nat → Int64} {f : Nat → Int32} {r a e : Int} {c : Int32} (h : QB n t bb f) (hr : 0 ≤ r ∧ r < n.toInt) (ha : 0 ≤ a) (he : e ≤ 23) (hc : -1 ≤ c.toInt ∧ c.toInt ≤ 63) (ht : t' = bput t n.toInt r a (e + 1) c) (hbb : ∀ c : Nat, c < 24 → bb' c = bbd t' n.toInt c n.toInt.toNat) : QB n t' bb' (stR f r a e c) := by
  obtain ⟨hb, h2, h3, h4, h5⟩ := h
  have g : ∀ r' c' : Int, 0 ≤ r' → r' < n.toInt → 0 ≤ c' → c' < 24 → tget t' n.toInt 24 r' c' = if r' = r ∧ a ≤ c' ∧ c' ≤ e then c else tget t n.toInt 24 r' c' := by
    intro r' c' x y z w
    rw [ht]
    unfold tget bput
    have hq : 0 ≤ r' ∧ r' < n.toInt ∧ 0 ≤ c' ∧ c' < 24 := ⟨x, y, z, w⟩
    rw [if_pos hq, if_pos hq]
    by_cases q : r' = r ∧ a ≤ c' ∧ c' ≤ e
    · rw [if_pos q, if_pos (by omega)]
    · rw [if_neg q, if_neg (by omega)]
  refine ⟨hb, ?_, ?_, hbb, ?_⟩
  · rw [kp_stR (by omega) ha he (by omega)]; exact h2
  · intro r' c' x y
    rw [g r' c' (by omega) x (by omega) (by omega)]
    unfold stR bfill
    by_cases q : (r' : Int) = r ∧ a ≤ (c' : Int) ∧ (c' : Int) ≤ e
    · rw [if_pos q, if_pos (by omega)]
    · rw [if_neg q, if_neg (by omega)]; exact h3 r' c' x y
  · intro r' c' x y z w
    rw [g r' c' x y z w]
    by_cases q : r' = r ∧ a ≤ c' ∧ c' ≤ e
    · rw [if_pos q]; exact hc
    · rw [if_neg q]; exact h5 r' c' x y z w
noncomputable def awhere (f : Nat → Int32) (b h : Int32) : Int32 := cif (isB f b ∧ 0 ≤ h.toInt ∧ h.toInt ≤ 23) (f (110 + 24 * b.toInt.toNat + h.toInt.toNat)) (-1)
theorem where_x {n : Int32} {t : Nat → Int32} {bb : Nat → Int64} {f : Nat → Int32} {b hr : Int32} (h : QB n t bb f) : tget t n.toInt 24 b.toInt hr.toInt = awhere f b hr := by
  unfold awhere
  by_cases q : isB f b ∧ 0 ≤ hr.toInt ∧ hr.toInt ≤ 23
  · have q1 := q.1
    unfold isB at q1
    rw [h.2.1] at q1
    rw [cif_t q]
    have z := h.2.2.1 b.toInt.toNat hr.toInt.toNat (by omega) (by omega)
    rw [Int.toNat_of_nonneg q1.1, Int.toNat_of_nonneg q.2.1] at z
    exact z.symm
  · rw [cif_f q]
    unfold tget
    rw [if_neg]
    intro r
    exact q ⟨isb_y h ⟨r.1, r.2.1⟩, by omega, by omega⟩
/-! least, start -/
noncomputable def sleast (f : Nat → Int32) (v : Int32) : Nat → Int32 := cif (0 ≤ v.toInt ∧ v.toInt ≤ 1000000) (upd f 4 v) f
noncomputable def aleast (f : Nat → Int32) (v : Int32) : Int32 := cif (0 ≤ v.toInt ∧ v.toInt ≤ 1000000) (f 4) (-1)
theorem least_1 {f : Nat → Int32} {v : Int32} (h : v.toInt < 0 ∨ 1000000 < v.toInt) : aleast f v = -1 ∧ sleast f v = f := ⟨cif_f (fun q => by omega), cif_f (fun q => by omega)⟩
theorem least_0 {f : Nat → Int32} {v : Int32} (h : 0 ≤ v.toInt ∧ v.toInt ≤ 1000000) : aleast f v = f 4 ∧ sleast f v = upd f 4 v := ⟨cif_t h, cif_t h⟩
theorem kp_least {f : Nat → Int32} {v : Int32} {j : Nat} (h : j ≠ 4) : sleast f v j = f j := by
  by_cases q : 0 ≤ v.toInt ∧ v.toInt ≤ 1000000
  · rw [(least_0 q).2, upd_ne h]
  · rw [(least_1 (by omega)).2]
theorem hh_least {wa : Int64} {le st : Int32} {f : Nat → Int32} {v : Int32} (hH : QH wa le st f) (h : 0 ≤ v.toInt ∧ v.toInt ≤ 1000000) : QH wa v st (sleast f v) := by
  rw [(least_0 h).2]
  exact ⟨fun c hc => by rw [upd_ne (by omega)]; exact hH.1 c hc, upd_eq, by rw [upd_ne (by omega)]; exact hH.2.2⟩
noncomputable def sstart (f : Nat → Int32) (c : Int32) : Nat → Int32 := cif ((-1 ≤ c.toInt ∧ c.toInt ≤ 63) ∧ ¬ wallAt f c.toInt) (upd f 6 c) f
noncomputable def astart (f : Nat → Int32) (c : Int32) : Int32 := cif (-1 ≤ c.toInt ∧ c.toInt ≤ 63) (cif (¬ wallAt f c.toInt) (f 6) (-3)) (-1)
theorem start_1 {f : Nat → Int32} {c : Int32} (h : c.toInt < -1 ∨ 63 < c.toInt) : astart f c = -1 ∧ sstart f c = f := ⟨cif_f (fun q => by omega), cif_f (fun q => by omega)⟩
theorem start_3 {f : Nat → Int32} {c : Int32} (h : -1 ≤ c.toInt ∧ c.toInt ≤ 63) (h2 : wallAt f c.toInt) : astart f c = -3 ∧ sstart f c = f := ⟨(cif_t h).trans (cif_f (fun q => q h2)), cif_f (fun q => q.2 h2)⟩
theorem start_0 {f : Nat → Int32} {c : Int32} (h : -1 ≤ c.toInt ∧ c.toInt ≤ 63) (h2 : ¬ wallAt f c.toInt) : astart f c = f 6 ∧ sstart f c = upd f 6 c := ⟨(cif_t h).trans (cif_t h2), cif_t ⟨h, h2⟩⟩
theorem kp_start {f : Nat → Int32} {c : Int32} {j : Nat} (h : j ≠ 6) : sstart f c j = f j := by
  by_cases q : (-1 ≤ c.toInt ∧ c.toInt ≤ 63) ∧ ¬ wallAt f c.toInt
  · rw [(start_0 q.1 q.2).2, upd_ne h]
  · unfold sstart; rw [cif_f q]
theorem hh_start {wa : Int64} {le st : Int32} {f : Nat → Int32} {c : Int32} (hH : QH wa le st f) (h : -1 ≤ c.toInt ∧ c.toInt ≤ 63) (h2 : ¬ wallAt f c.toInt) : QH wa le c (sstart f c) := by
  rw [(start_0 h h2).2]
  exact ⟨fun x hx => by rw [upd_ne (by omega)]; exact hH.1 x hx, by rw [upd_ne (by omega)]; exact hH.2.1, upd_eq⟩
/-! sightings -/
def okL (c w h : Int32) : Prop := (0 ≤ c.toInt ∧ c.toInt ≤ 63) ∧ (0 ≤ w.toInt ∧ w.toInt ≤ 3) ∧ (0 ≤ h.toInt ∧ h.toInt ≤ 23)
def okI (c w h s : Int32) : Prop := okL c w h ∧ (0 ≤ s.toInt ∧ s.toInt ≤ 1)
def rmS (f : Nat → Int32) (s : Int32) : Prop := (f 5).toInt ≠ 10 ∧ ¬ (s.toInt = 1 ∧ mSN f = 5)
noncomputable def ssight (f : Nat → Int32) (c w h s : Int32) : Nat → Int32 := cif (okI c w h s ∧ rmS f s) (addRow f 5 230 4 (f 5).toInt.toNat (f 5 + 1) (v4 c w h s)) f
noncomputable def asight (f : Nat → Int32) (c w h s : Int32) : Int32 := cif (okI c w h s) (cif (rmS f s) (f 5 + 1) (-5)) (-1)
theorem sight_1 {f : Nat → Int32} {c w h s : Int32} (q : ¬ okI c w h s) : asight f c w h s = -1 ∧ ssight f c w h s = f := ⟨cif_f q, cif_f (fun z => q z.1)⟩
theorem sight_5 {f : Nat → Int32} {c w h s : Int32} (q : okI c w h s) (q2 : ¬ rmS f s) : asight f c w h s = -5 ∧ ssight f c w h s = f := ⟨(cif_t q).trans (cif_f q2), cif_f (fun z => q2 z.2)⟩
theorem sight_0 {f : Nat → Int32} {c w h s : Int32} (q : okI c w h s) (q2 : rmS f s) : asight f c w h s = f 5 + 1 ∧ ssight f c w h s = addRow f 5 230 4 (f 5).toInt.toNat (f 5 + 1) (v4 c w h s) := ⟨(cif_t q).trans (cif_t q2), cif_t ⟨q, q2⟩⟩
theorem kp_sight {f : Nat → Int32} {c w h s : Int32} {j : Nat} (b : (f 5).toInt ≤ 10) (q : j ≠ 5 ∧ (j < 230 ∨ 270 ≤ j)) : ssight f c w h s j = f j := by
  by_cases z : okI c w h s ∧ rmS f s
  · have y := z.2.1
    rw [(sight_0 z.1 z.2).2, ar_ne q.1 (by omega)]
  · unfold ssight; rw [cif_f z]
theorem hs_sn {n : Int32} {t f : Nat → Int32} (h : QS n t f) : snS t n.toInt n.toInt.toNat = mSN f := by
  unfold mSN
  rw [h.2.1]
  refine sg_sn _ (fun j hj => ?_)
  have z3 : (3 : Int32).toInt = 3 := (by decide)
  have y := h.2.2.1 j 3 (by omega) (by omega)
  rw [z3]
  have w : tget (fun j => f (230 + j)) n.toInt 4 (j : Int) 3 = f (230 + 4 * j + 3) := by
    unfold tget
    rw [if_pos (by omega)]
    show f (230 + ((j : Int) * 4 + 3).toNat) = _
    congr 1; omega
  rw [w]; exact y.symm
theorem rm_y {n : Int32} {t f : Nat → Int32} {s : Int32} (h : QS n t f) (q : n.toInt < 10) (q2 : s.toInt = 1 → snS t n.toInt n.toInt.toNat < 5) : rmS f s := by
  refine ⟨by rw [h.2.1]; omega, fun z => ?_⟩
  have y := q2 z.1
  rw [hs_sn h] at y
  omega
theorem rm_n1 {n : Int32} {t f : Nat → Int32} {s : Int32} (h : QS n t f) (q : n.toInt = 10) : ¬ rmS f s := fun z => z.1 (by rw [h.2.1]; exact q)
theorem rm_n2 {n : Int32} {t f : Nat → Int32} {s : Int32} (h : QS n t f) (q : s.toInt = 1) (q2 : 5 ≤ snS t n.toInt n.toInt.toNat) (q3 : snS t n.toInt n.toInt.toNat ≤ 5) : ¬ rmS f s := fun z => z.2 ⟨q, by rw [← hs_sn h]; omega⟩
theorem qs_mk {t t' f : Nat → Int32} {n N : Int} {x c w h s : Int32} (h3 : HTb 230 4 4 n t f) (h4 : QSE n t) (hn : 0 ≤ n) (hN : N = n + 1) (ok : okI c w h s) (A1 : ∀ r c : Nat, (r : Int) < n → c < 4 → tget t' N 4 r c = tget t n 4 r c) (A2 : ∀ c' : Nat, c' < 4 → tget t' N 4 n c' = v4 c w h s c') : HTb 230 4 4 N t' (addRow f 5 230 4 n.toNat x (v4 c w h s)) ∧ QSE N t' := by
  refine ⟨ht_add h3 hn hN (by omega) A1 A2, fun r ra rb => ?_⟩
  unfold okI okL at ok
  by_cases q : r = n
  · have z0 := A2 0 (by omega)
    have z1 := A2 1 (by omega)
    have z2 := A2 2 (by omega)
    have z3 := A2 3 (by omega)
    rw [q]
    rw [show ((0 : Nat) : Int) = 0 from rfl] at z0
    rw [show ((1 : Nat) : Int) = 1 from rfl] at z1
    rw [show ((2 : Nat) : Int) = 2 from rfl] at z2
    rw [show ((3 : Nat) : Int) = 3 from rfl] at z3
    rw [z0, z1, z2, z3]
    exact ⟨ok.1.1, ok.1.2.1, ok.1.2.2, ok.2⟩
  · have y := h4 r ra (by omega)
    have z0 := A1 r.toNat 0 (by omega) (by omega)
    have z1 := A1 r.toNat 1 (by omega) (by omega)
    have z2 := A1 r.toNat 2 (by omega) (by omega)
    have z3 := A1 r.toNat 3 (by omega) (by omega)
    rw [Int.toNat_of_nonneg ra, show ((0 : Nat) : Int) = 0 from rfl] at z0
    rw [Int.toNat_of_nonneg ra, show ((1 : Nat) : Int) = 1 from rfl] at z1
    rw [Int.toNat_of_nonneg ra, show ((2 : Nat) : Int) = 2 from rfl] at z2
    rw [Int.toNat_of_nonneg ra, show ((3 : Nat) : Int) = 3 from rfl] at z3
    rw [z0, z1, z2, z3]
    exact y
theorem hs_sight {n N : Int32} {t f : Nat → Int32} {c w h s : Int32} (hS : QS n t f) (hn : n.toInt < 10) (hN : N.toInt = n.toInt + 1) (ok : okI c w h s) (rm : rmS f s) : QS N (tset (tset (tset (tset (tfil t n.toInt 4 0 4) N.toInt 4 n.toInt (0 : Int32).toInt c) N.toInt 4 n.toInt (1 : Int32).toInt w) N.toInt 4 n.toInt (2 : Int32).toInt h) N.toInt 4 n.toInt (3 : Int32).toInt s) (ssight f c w h s) := by
  obtain ⟨hb, h2, h3, h4⟩ := hS
  have z0 : (0 : Int32).toInt = 0 := (by decide)
  have z1 : (1 : Int32).toInt = 1 := (by decide)
  have z2 : (2 : Int32).toInt = 2 := (by decide)
  have z3 : (3 : Int32).toInt = 3 := (by decide)
  have hN' : N = n + 1 := Int32.toInt_inj.mp (by rw [hN]; exact (g5_iadd rfl (by decide) (by omega) (by omega)).symm)
  rw [(sight_0 ok rm).2, h2]
  refine ⟨by omega, by rw [ar_ci, hN'], ?_⟩
  refine qs_mk h3 h4 hb.1 hN ok (fun r c' a b => ?_) (fun c' hc => ?_)
  · rw [z0, z1, z2, z3, tg_set4 (by omega), if_neg (by omega), tg_set4 (by omega), if_neg (by omega), tg_set4 (by omega), if_neg (by omega), tg_set4 (by omega), if_neg (by omega), hN, tg_fil4 hb.1 (by omega) (by omega), if_neg (by omega)]
  · rcases (show c' = 0 ∨ c' = 1 ∨ c' = 2 ∨ c' = 3 by omega) with rfl | rfl | rfl | rfl
    · rw [z0, z1, z2, z3, tg_set4 (by omega), if_neg (by omega), tg_set4 (by omega), if_neg (by omega), tg_set4 (by omega), if_neg (by omega), tg_set4 (by omega), if_pos (by omega)]; rfl
    · rw [z0, z1, z2, z3, tg_set4 (by omega), if_neg (by omega), tg_set4 (by omega), if_neg (by omega), tg_set4 (by omega), if_pos (by omega)]; rfl
    · rw [z0, z1, z2, z3, tg_set4 (by omega), if_neg (by omega), tg_set4 (by omega), if_pos (by omega)]; rfl
    · rw [z0, z1, z2, z3, tg_set4 (by omega), if_pos (by omega)]; rfl
def isI (f : Nat → Int32) (i : Int32) : Prop := 0 ≤ i.toInt ∧ i.toInt < (f 5).toInt
noncomputable def sdrop (f : Nat → Int32) (i : Int32) : Nat → Int32 := cif (isI f i) (upd (mshf f i.toInt 266) 5 (f 5 - 1)) f
noncomputable def adrop (f : Nat → Int32) (i : Int32) : Int32 := cif (isI f i) (f 5 - 1) (-2)
theorem drop_2 {f : Nat → Int32} {i : Int32} (h : ¬ isI f i) : adrop f i = -2 ∧ sdrop f i = f := ⟨cif_f h, cif_f h⟩
theorem drop_0 {f : Nat → Int32} {i : Int32} (h : isI f i) : adrop f i = f 5 - 1 ∧ sdrop f i = upd (mshf f i.toInt 266) 5 (f 5 - 1) := ⟨cif_t h, cif_t h⟩
theorem kp_drop {f : Nat → Int32} {i : Int32} {j : Nat} (q : j ≠ 5 ∧ (j < 230 ∨ 270 ≤ j)) : sdrop f i j = f j := by
  by_cases z : isI f i
  · have y := z
    unfold isI at y
    rw [(drop_0 z).2, upd_ne q.1]
    unfold mshf
    rw [if_neg (by omega)]
  · rw [(drop_2 z).2]
theorem isi_y {n : Int32} {t f : Nat → Int32} {g : Int32} (h : QS n t f) (q : 0 ≤ g.toInt ∧ g.toInt < n.toInt) : isI f g := by unfold isI; rw [h.2.1]; exact q
theorem isi_n {n : Int32} {t f : Nat → Int32} {g : Int32} (h : QS n t f) (q : g.toInt < 0 ∨ n.toInt ≤ g.toInt) : ¬ isI f g := by unfold isI; rw [h.2.1]; omega
theorem qse_drop {t : Nat → Int32} {n N i : Int} (h : QSE n t) (hi : 0 ≤ i ∧ i < n) (hN : N = n - 1) : QSE N (trem t n 4 i) := by
  intro r ra rb
  have key : ∀ c : Int, 0 ≤ c → c < 4 → tget (trem t n 4 i) N 4 r c = tget t n 4 (if r < i then r else r + 1) c := by
    intro c c0 c1
    unfold tget trem
    rw [if_pos (c := 0 ≤ r ∧ _) (by omega)]
    by_cases q : r < i
    · rw [if_pos q, if_neg (by omega), if_pos (by omega)]
    · rw [if_neg q, if_pos (by omega), if_pos (by omega)]
      congr 1; omega
  rw [key 0 (by omega) (by omega), key 1 (by omega) (by omega), key 2 (by omega) (by omega), key 3 (by omega) (by omega)]
  by_cases q : r < i
  · rw [if_pos q]; exact h r ra (by omega)
  · rw [if_neg q]; exact h (r + 1) (by omega) (by omega)
theorem hs_drop {n N : Int32} {t f : Nat → Int32} {i : Int32} (hS : QS n t f) (hi : 0 ≤ i.toInt ∧ i.toInt < n.toInt) (hN : N.toInt = n.toInt - 1) : QS N (trem t n.toInt 4 i.toInt) (sdrop f i) := by
  have is := isi_y hS hi
  obtain ⟨hb, h2, h3, h4⟩ := hS
  have hN' : N = n - 1 := Int32.toInt_inj.mp (by rw [hN]; exact (g5_isub rfl (by decide) (by omega) (by omega)).symm)
  rw [(drop_0 is).2]
  refine ⟨by omega, by rw [upd_eq, h2, hN'], ?_, qse_drop h4 hi hN⟩
  intro r c hr hc
  rw [upd_ne (by omega)]
  unfold mshf tget trem
  rw [if_pos (c := 0 ≤ (r : Int) ∧ _) (by omega)]
  by_cases q : (r : Int) < i.toInt
  · rw [if_neg (by omega), if_neg (by omega)]
    have z := h3 r c (by omega) hc
    unfold tget at z
    rw [if_pos (by omega)] at z
    exact z
  · rw [if_pos (by omega), if_pos (by omega)]
    have z := h3 (r + 1) c (by omega) hc
    unfold tget at z
    rw [if_pos (by omega)] at z
    rw [show 230 + 4 * r + c + 4 = 230 + 4 * (r + 1) + c by omega, z]
    congr 1; omega
/-! spots, wishes -/
def okP (c s l : Int32) : Prop := (0 ≤ c.toInt ∧ c.toInt ≤ 63) ∧ (0 ≤ s.toInt ∧ s.toInt ≤ 5) ∧ (0 ≤ l.toInt ∧ l.toInt ≤ 23)
noncomputable def sspot (f : Nat → Int32) (c s l : Int32) : Nat → Int32 := cif (okP c s l ∧ canR f c.toInt ∧ (f 7).toInt ≠ 8) (addRow f 7 270 3 (f 7).toInt.toNat (f 7 + 1) (v3 c s l)) f
noncomputable def aspot (f : Nat → Int32) (c s l : Int32) : Int32 := cif (okP c s l) (cif (canR f c.toInt) (cif ((f 7).toInt ≠ 8) (f 7) (-5)) (-3)) (-1)
theorem spot_1 {f : Nat → Int32} {c s l : Int32} (h : ¬ okP c s l) : aspot f c s l = -1 ∧ sspot f c s l = f := ⟨cif_f h, cif_f (fun q => h q.1)⟩
theorem spot_3 {f : Nat → Int32} {c s l : Int32} (h : okP c s l) (h2 : ¬ canR f c.toInt) : aspot f c s l = -3 ∧ sspot f c s l = f := ⟨(cif_t h).trans (cif_f h2), cif_f (fun q => h2 q.2.1)⟩
theorem spot_5 {f : Nat → Int32} {c s l : Int32} (h : okP c s l) (h2 : canR f c.toInt) (h3 : (f 7).toInt = 8) : aspot f c s l = -5 ∧ sspot f c s l = f := ⟨(cif_t h).trans ((cif_t h2).trans (cif_f (fun q => q h3))), cif_f (fun q => q.2.2 h3)⟩
theorem spot_0 {f : Nat → Int32} {c s l : Int32} (h : okP c s l) (h2 : canR f c.toInt) (h3 : (f 7).toInt ≠ 8) : aspot f c s l = f 7 ∧ sspot f c s l = addRow f 7 270 3 (f 7).toInt.toNat (f 7 + 1) (v3 c s l) := ⟨(cif_t h).trans ((cif_t h2).trans (cif_t h3)), cif_t ⟨h, h2, h3⟩⟩
theorem kp_spot {f : Nat → Int32} {c s l : Int32} {j : Nat} (b : (f 7).toInt ≤ 8) (h : j ≠ 7 ∧ (j < 270 ∨ 294 ≤ j)) : sspot f c s l j = f j := by
  by_cases q : okP c s l ∧ canR f c.toInt ∧ (f 7).toInt ≠ 8
  · rw [(spot_0 q.1 q.2.1 q.2.2).2, ar_ne h.1 (by omega)]
  · unfold sspot; rw [cif_f q]
theorem qp_mk {t t' f : Nat → Int32} {n N : Int} {x c s l : Int32} (h3 : HTb 270 3 5 n t f) (h4 : QPE n t) (hn : 0 ≤ n) (hN : N = n + 1) (cn : ∀ k : Int, 0 ≤ k → k < n → tget t n 5 k 0 ≠ c) (A1 : ∀ r c : Nat, (r : Int) < n → c < 3 → tget t' N 5 r c = tget t n 5 r c) (A2 : ∀ c' : Nat, c' < 3 → tget t' N 5 n c' = v3 c s l c') (A3 : ∀ r c' : Int, 0 ≤ r → r < N → (c' = 3 ∨ c' = 4) → tget t' N 5 r c' = if r = n then 0 else tget t n 5 r c') : HTb 270 3 5 N t' (addRow f 7 270 3 n.toNat x (v3 c s l)) ∧ QPE N t' := by
  refine ⟨ht_add h3 hn hN (by omega) A1 A2, fun r ra rb => ?_⟩
  rw [A3 r 3 ra rb (Or.inl rfl), A3 r 4 ra rb (Or.inr rfl)]
  have B1 : ∀ k : Int, 0 ≤ k → k < n → tget t' N 5 k 0 = tget t n 5 k 0 := by
    intro k k0 k1
    have z := A1 k.toNat 0 (by omega) (by omega)
    rw [Int.toNat_of_nonneg k0, show ((0 : Nat) : Int) = 0 from rfl] at z
    exact z
  by_cases q : r = n
  · have z := A2 0 (by omega)
    rw [show ((0 : Nat) : Int) = 0 from rfl] at z
    rw [if_pos q, if_pos q, q, z]
    exact ⟨by decide, by decide, fun k a b => by rw [B1 k a b]; exact cn k a b⟩
  · have y := h4 r ra (by omega)
    rw [if_neg q, if_neg q]
    exact ⟨y.1, y.2.1, fun k a b => by rw [B1 k a (by omega), B1 r ra (by omega)]; exact y.2.2 k a b⟩
theorem hp_spot {n N : Int32} {t : Nat → Int32} {f : Nat → Int32} {c s l : Int32} (h : QP n t f) (hn : n.toInt < 8) (hN : N.toInt = n.toInt + 1) (ok : okP c s l) (cn : canR f c.toInt) : QP N (tset (tset (tset (tfil t n.toInt 5 0 5) N.toInt 5 n.toInt (0 : Int32).toInt c) N.toInt 5 n.toInt (1 : Int32).toInt s) N.toInt 5 n.toInt (2 : Int32).toInt l) (sspot f c s l) := by
  have cn2 := fun (k : Int) (a : 0 ≤ k) (b : k < n.toInt) (e : tget t n.toInt 5 k 0 = c) => cn.2.2 ((sat_iff h).mp ⟨k, a, b, by rw [show (0 : Int32).toInt = 0 by decide]; exact e⟩)
  obtain ⟨hb, h2, h3, h4⟩ := h
  have z0 : (0 : Int32).toInt = 0 := (by decide)
  have z1 : (1 : Int32).toInt = 1 := (by decide)
  have z2 : (2 : Int32).toInt = 2 := (by decide)
  have hN' : N = n + 1 := Int32.toInt_inj.mp (by rw [hN]; exact (g5_iadd rfl (by decide) (by omega) (by omega)).symm)
  rw [(spot_0 ok cn (by rw [h2]; omega)).2, h2]
  refine ⟨by omega, by rw [ar_ci, hN'], ?_⟩
  refine qp_mk h3 h4 hb.1 hN cn2 (fun r c' a b => ?_) (fun c' hc => ?_) (fun r c' a b d => ?_)
  · rw [z0, z1, z2, tg_set5 (by omega), if_neg (by omega), tg_set5 (by omega), if_neg (by omega), tg_set5 (by omega), if_neg (by omega), hN, tg_fil5 hb.1 (by omega) (by omega), if_neg (by omega)]
  · rcases (show c' = 0 ∨ c' = 1 ∨ c' = 2 by omega) with rfl | rfl | rfl
    · rw [z0, z1, z2, tg_set5 (by omega), if_neg (by omega), tg_set5 (by omega), if_neg (by omega), tg_set5 (by omega), if_pos (by omega)]; rfl
    · rw [z0, z1, z2, tg_set5 (by omega), if_neg (by omega), tg_set5 (by omega), if_pos (by omega)]; rfl
    · rw [z0, z1, z2, tg_set5 (by omega), if_pos (by omega)]; rfl
  · rw [z0, z1, z2, tg_set5 (by omega), if_neg (by omega), tg_set5 (by omega), if_neg (by omega), tg_set5 (by omega), if_neg (by omega), hN, tg_fil5 hb.1 (by omega) (by omega)]
def okW (c w h a t i : Int32) : Prop := okL c w h ∧ (0 ≤ a.toInt ∧ a.toInt ≤ 63) ∧ (0 ≤ t.toInt ∧ t.toInt ≤ 23) ∧ (0 ≤ i.toInt ∧ i.toInt ≤ 1)
noncomputable def swish (f : Nat → Int32) (c w h a t i : Int32) : Nat → Int32 := cif (okW c w h a t i ∧ (f 8).toInt ≠ 6) (addRow f 8 300 6 (f 8).toInt.toNat (f 8 + 1) (v6 c w h a t i)) f
noncomputable def awish (f : Nat → Int32) (c w h a t i : Int32) : Int32 := cif (okW c w h a t i) (cif ((f 8).toInt ≠ 6) (f 8 + 1) (-5)) (-1)
theorem wish_1 {f : Nat → Int32} {c w h a t i : Int32} (q : ¬ okW c w h a t i) : awish f c w h a t i = -1 ∧ swish f c w h a t i = f := ⟨cif_f q, cif_f (fun z => q z.1)⟩
theorem wish_5 {f : Nat → Int32} {c w h a t i : Int32} (q : okW c w h a t i) (q2 : (f 8).toInt = 6) : awish f c w h a t i = -5 ∧ swish f c w h a t i = f := ⟨(cif_t q).trans (cif_f (fun z => z q2)), cif_f (fun z => z.2 q2)⟩
theorem wish_0 {f : Nat → Int32} {c w h a t i : Int32} (q : okW c w h a t i) (q2 : (f 8).toInt ≠ 6) : awish f c w h a t i = f 8 + 1 ∧ swish f c w h a t i = addRow f 8 300 6 (f 8).toInt.toNat (f 8 + 1) (v6 c w h a t i) := ⟨(cif_t q).trans (cif_t q2), cif_t ⟨q, q2⟩⟩
theorem kp_wish {f : Nat → Int32} {c w h a t i : Int32} {j : Nat} (b : (f 8).toInt ≤ 6) (q : j ≠ 8 ∧ (j < 300 ∨ 336 ≤ j)) : swish f c w h a t i j = f j := by
  by_cases z : okW c w h a t i ∧ (f 8).toInt ≠ 6
  · rw [(wish_0 z.1 z.2).2, ar_ne q.1 (by omega)]
  · unfold swish; rw [cif_f z]
theorem qw_mk {t t' f : Nat → Int32} {n N : Int} {x c w h a u i : Int32} (h3 : HTb 300 6 6 n t f) (h4 : QWE n t) (hn : 0 ≤ n) (hN : N = n + 1) (ok : okW c w h a u i) (A1 : ∀ r c : Nat, (r : Int) < n → c < 6 → tget t' N 6 r c = tget t n 6 r c) (A2 : ∀ c' : Nat, c' < 6 → tget t' N 6 n c' = v6 c w h a u i c') : HTb 300 6 6 N t' (addRow f 8 300 6 n.toNat x (v6 c w h a u i)) ∧ QWE N t' := by
  refine ⟨ht_add h3 hn hN (by omega) A1 A2, fun r ra rb => ?_⟩
  unfold okW okL at ok
  by_cases q : r = n
  · have z0 := A2 0 (by omega)
    rw [show ((0 : Nat) : Int) = 0 from rfl] at z0
    have z1 := A2 1 (by omega)
    rw [show ((1 : Nat) : Int) = 1 from rfl] at z1
    have z2 := A2 2 (by omega)
    rw [show ((2 : Nat) : Int) = 2 from rfl] at z2
    have z3 := A2 3 (by omega)
    rw [show ((3 : Nat) : Int) = 3 from rfl] at z3
    have z4 := A2 4 (by omega)
    rw [show ((4 : Nat) : Int) = 4 from rfl] at z4
    have z5 := A2 5 (by omega)
    rw [show ((5 : Nat) : Int) = 5 from rfl] at z5
    rw [q, z0, z1, z2, z3, z4, z5]
    exact ⟨ok.1.1, ok.1.2.1, ok.1.2.2, ok.2.1, ok.2.2.1, ok.2.2.2⟩
  · have z0 := A1 r.toNat 0 (by omega) (by omega)
    rw [Int.toNat_of_nonneg ra, show ((0 : Nat) : Int) = 0 from rfl] at z0
    have z1 := A1 r.toNat 1 (by omega) (by omega)
    rw [Int.toNat_of_nonneg ra, show ((1 : Nat) : Int) = 1 from rfl] at z1
    have z2 := A1 r.toNat 2 (by omega) (by omega)
    rw [Int.toNat_of_nonneg ra, show ((2 : Nat) : Int) = 2 from rfl] at z2
    have z3 := A1 r.toNat 3 (by omega) (by omega)
    rw [Int.toNat_of_nonneg ra, show ((3 : Nat) : Int) = 3 from rfl] at z3
    have z4 := A1 r.toNat 4 (by omega) (by omega)
    rw [Int.toNat_of_nonneg ra, show ((4 : Nat) : Int) = 4 from rfl] at z4
    have z5 := A1 r.toNat 5 (by omega) (by omega)
    rw [Int.toNat_of_nonneg ra, show ((5 : Nat) : Int) = 5 from rfl] at z5
    rw [z0, z1, z2, z3, z4, z5]
    exact h4 r ra (by omega)
theorem hwi_wish {n N : Int32} {u f : Nat → Int32} {c w h a t i : Int32} (hW : QW n u f) (hn : n.toInt < 6) (hN : N.toInt = n.toInt + 1) (ok : okW c w h a t i) : QW N (tset (tset (tset (tset (tset (tset (tfil u n.toInt 6 0 6) N.toInt 6 n.toInt (0 : Int32).toInt c) N.toInt 6 n.toInt (1 : Int32).toInt w) N.toInt 6 n.toInt (2 : Int32).toInt h) N.toInt 6 n.toInt (3 : Int32).toInt a) N.toInt 6 n.toInt (4 : Int32).toInt t) N.toInt 6 n.toInt (5 : Int32).toInt i) (swish f c w h a t i) := by
  obtain ⟨hb, h2, h3, h4⟩ := hW
  have z0 : (0 : Int32).toInt = 0 := (by decide)
  have z1 : (1 : Int32).toInt = 1 := (by decide)
  have z2 : (2 : Int32).toInt = 2 := (by decide)
  have z3 : (3 : Int32).toInt = 3 := (by decide)
  have z4 : (4 : Int32).toInt = 4 := (by decide)
  have z5 : (5 : Int32).toInt = 5 := (by decide)
  have hN' : N = n + 1 := Int32.toInt_inj.mp (by rw [hN]; exact (g5_iadd rfl (by decide) (by omega) (by omega)).symm)
  rw [(wish_0 ok (by rw [h2]; omega)).2, h2]
  refine ⟨by omega, by rw [ar_ci, hN'], ?_⟩
  refine qw_mk h3 h4 hb.1 hN ok (fun r c' a b => ?_) (fun c' hc => ?_)
  · rw [z0, z1, z2, z3, z4, z5, tg_set6 (by omega), if_neg (by omega), tg_set6 (by omega), if_neg (by omega), tg_set6 (by omega), if_neg (by omega), tg_set6 (by omega), if_neg (by omega), tg_set6 (by omega), if_neg (by omega), tg_set6 (by omega), if_neg (by omega), hN, tg_fil6 hb.1 (by omega) (by omega), if_neg (by omega)]
  · rcases (show c' = 0 ∨ c' = 1 ∨ c' = 2 ∨ c' = 3 ∨ c' = 4 ∨ c' = 5 by omega) with rfl | rfl | rfl | rfl | rfl | rfl
    · rw [z0, z1, z2, z3, z4, z5, tg_set6 (by omega), if_neg (by omega), tg_set6 (by omega), if_neg (by omega), tg_set6 (by omega), if_neg (by omega), tg_set6 (by omega), if_neg (by omega), tg_set6 (by omega), if_neg (by omega), tg_set6 (by omega), if_pos (by omega)]; rfl
    · rw [z0, z1, z2, z3, z4, z5, tg_set6 (by omega), if_neg (by omega), tg_set6 (by omega), if_neg (by omega), tg_set6 (by omega), if_neg (by omega), tg_set6 (by omega), if_neg (by omega), tg_set6 (by omega), if_pos (by omega)]; rfl
    · rw [z0, z1, z2, z3, z4, z5, tg_set6 (by omega), if_neg (by omega), tg_set6 (by omega), if_neg (by omega), tg_set6 (by omega), if_neg (by omega), tg_set6 (by omega), if_pos (by omega)]; rfl
    · rw [z0, z1, z2, z3, z4, z5, tg_set6 (by omega), if_neg (by omega), tg_set6 (by omega), if_neg (by omega), tg_set6 (by omega), if_pos (by omega)]; rfl
    · rw [z0, z1, z2, z3, z4, z5, tg_set6 (by omega), if_neg (by omega), tg_set6 (by omega), if_pos (by omega)]; rfl
    · rw [z0, z1, z2, z3, z4, z5, tg_set6 (by omega), if_pos (by omega)]; rfl
/-! no wall where something is: kept -/
theorem tk_c {f g : Nat → Int32} {x : Int} (b0 : (f 0).toInt ≤ 6) (b1 : (f 1).toInt ≤ 5) (b7 : (f 7).toInt ≤ 8) (e : ∀ j : Nat, (j = 0 ∨ j = 1 ∨ j = 6 ∨ j = 7 ∨ (80 ≤ j ∧ j < 110 ∧ (j - 80) % 5 = 0) ∨ (110 ≤ j ∧ j < 230) ∨ (270 ≤ j ∧ j < 294 ∧ (j - 270) % 3 = 0)) → g j = f j) (h : takenR g x) : takenR f x := by
  rcases h with ⟨k, a, b⟩ | ⟨k, a, b⟩ | ⟨k, a, b⟩ | b
  · rw [e 0 (by omega)] at a
    rw [e _ (by omega)] at b
    exact Or.inl ⟨k, a, b⟩
  · rw [e 7 (by omega)] at a
    rw [e _ (by omega)] at b
    exact Or.inr (Or.inl ⟨k, a, b⟩)
  · rw [e 1 (by omega)] at a
    rw [e _ (by omega)] at b
    exact Or.inr (Or.inr (Or.inl ⟨k, a, b⟩))
  · rw [e 6 (by omega)] at b
    exact Or.inr (Or.inr (Or.inr b))
def bd3 (f : Nat → Int32) : Prop := (f 0).toInt ≤ 6 ∧ (f 1).toInt ≤ 5 ∧ (f 7).toInt ≤ 8
theorem bd3_of {n m k : Int32} {t u v : Nat → Int32} {gb : Int64} {bb : Nat → Int64} {f : Nat → Int32} (hG : QG n t gb f) (hB : QB m u bb f) (hP : QP k v f) : bd3 f := ⟨by rw [hG.2.1]; exact hG.1.2, by rw [hB.2.1]; exact hB.1.2, by rw [hP.2.1]; exact hP.1.2⟩
theorem nw_c {f g : Nat → Int32} (b : bd3 f) (e : ∀ j : Nat, (j = 0 ∨ j = 1 ∨ j = 6 ∨ j = 7 ∨ (10 ≤ j ∧ j < 74) ∨ (80 ≤ j ∧ j < 110 ∧ (j - 80) % 5 = 0) ∨ (110 ≤ j ∧ j < 230) ∨ (270 ≤ j ∧ j < 294 ∧ (j - 270) % 3 = 0)) → g j = f j) (h : NW f) : NW g := by
  intro c h0 h1 q
  rw [e _ (by omega)]
  exact h c h0 h1 (tk_c b.1 b.2.1 b.2.2 (fun j hj => e j (by omega)) q)
theorem nw_wall {f : Nat → Int32} {c i : Int32} (b : bd3 f) (h : NW f) : NW (swall f c i) := by
  intro x h0 h1 q
  have q2 : takenR f x := tk_c b.1 b.2.1 b.2.2 (fun j hj => kp_wall (by omega)) q
  by_cases z : (0 ≤ c.toInt ∧ c.toInt ≤ 63) ∧ (0 ≤ i.toInt ∧ i.toInt ≤ 1) ∧ ¬ (i.toInt = 1 ∧ takenR f c.toInt)
  · rw [wall_0 z.1 z.2.1 z.2.2]
    by_cases w : x = c.toInt
    · rw [w, upd_eq]
      intro y
      exact z.2.2 ⟨y, by rw [← w]; exact q2⟩
    · rw [upd_ne (by omega)]; exact h x h0 h1 q2
  · have y : swall f c i = f := by unfold swall; exact cif_f z
    rw [y]; exact h x h0 h1 q2
theorem nw_glass {f : Nat → Int32} {c s l d : Int32} (b : bd3 f) (b0 : 0 ≤ (f 0).toInt) (h : NW f) : NW (sglass f c s l d) := by
  by_cases z : okG c s l d ∧ canR f c.toInt ∧ (f 0).toInt ≠ 6
  · intro x h0 h1 q
    rw [kp_glass b.1 (by omega)]
    have k : ∀ j : Nat, (j ≠ 0 ∧ (j < 80 ∨ 110 ≤ j)) → sglass f c s l d j = f j := fun j hj => kp_glass b.1 hj
    rcases q with ⟨g, a, e⟩ | ⟨g, a, e⟩ | ⟨g, a, e⟩ | e
    · rw [(glass_0 z.1 z.2.1 z.2.2).2] at a e
      rw [ar_ci] at a
      have n1 : (f 0 + 1).toInt = (f 0).toInt + 1 := g5_iadd rfl (by decide) (by omega) (by have := b.1; omega)
      by_cases w : (g : Int) = (f 0).toInt
      · have w2 : (f 0).toInt.toNat = g := by omega
        have y : addRow f 0 80 5 (f 0).toInt.toNat (f 0 + 1) (v5 c s l d 0) (80 + 5 * g) = c := by
          unfold addRow
          rw [if_neg (by omega), if_pos (by omega), w2, Nat.sub_self]; rfl
        rw [y] at e
        rw [← e]; exact z.2.1.1
      · rw [ar_ne (by omega) (by omega)] at e
        exact h x h0 h1 (Or.inl ⟨g, by omega, e⟩)
    · have := b.2.2
      rw [k 7 (by omega)] at a
      rw [k _ (by omega)] at e
      exact h x h0 h1 (Or.inr (Or.inl ⟨g, a, e⟩))
    · have := b.2.1
      rw [k 1 (by omega)] at a
      rw [k _ (by omega)] at e
      exact h x h0 h1 (Or.inr (Or.inr (Or.inl ⟨g, a, e⟩)))
    · rw [k 6 (by omega)] at e
      exact h x h0 h1 (Or.inr (Or.inr (Or.inr e)))
  · have y : sglass f c s l d = f := by unfold sglass; exact cif_f z
    rw [y]; exact h
theorem nw_spot {f : Nat → Int32} {c s l : Int32} (b : bd3 f) (b0 : 0 ≤ (f 7).toInt) (h : NW f) : NW (sspot f c s l) := by
  by_cases z : okP c s l ∧ canR f c.toInt ∧ (f 7).toInt ≠ 8
  · intro x h0 h1 q
    rw [kp_spot b.2.2 (by omega)]
    have k : ∀ j : Nat, (j ≠ 7 ∧ (j < 270 ∨ 294 ≤ j)) → sspot f c s l j = f j := fun j hj => kp_spot b.2.2 hj
    rcases q with ⟨g, a, e⟩ | ⟨g, a, e⟩ | ⟨g, a, e⟩ | e
    · have := b.1
      rw [k 0 (by omega)] at a
      rw [k _ (by omega)] at e
      exact h x h0 h1 (Or.inl ⟨g, a, e⟩)
    · rw [(spot_0 z.1 z.2.1 z.2.2).2] at a e
      rw [ar_ci] at a
      have n1 : (f 7 + 1).toInt = (f 7).toInt + 1 := g5_iadd rfl (by decide) (by omega) (by have := b.2.2; omega)
      by_cases w : (g : Int) = (f 7).toInt
      · have w2 : (f 7).toInt.toNat = g := by omega
        have y : addRow f 7 270 3 (f 7).toInt.toNat (f 7 + 1) (v3 c s l) (270 + 3 * g) = c := by
          unfold addRow
          rw [if_neg (by omega), if_pos (by omega), w2, Nat.sub_self]; rfl
        rw [y] at e
        rw [← e]; exact z.2.1.1
      · rw [ar_ne (by omega) (by omega)] at e
        exact h x h0 h1 (Or.inr (Or.inl ⟨g, by omega, e⟩))
    · have := b.2.1
      rw [k 1 (by omega)] at a
      rw [k _ (by omega)] at e
      exact h x h0 h1 (Or.inr (Or.inr (Or.inl ⟨g, a, e⟩)))
    · rw [k 6 (by omega)] at e
      exact h x h0 h1 (Or.inr (Or.inr (Or.inr e)))
  · have y : sspot f c s l = f := by unfold sspot; exact cif_f z
    rw [y]; exact h
theorem nw_body {f : Nat → Int32} (b : bd3 f) (b0 : 0 ≤ (f 1).toInt) (h : NW f) : NW (sbody f) := by
  by_cases z : (f 1).toInt ≠ 5
  · intro x h0 h1 q
    rw [kp_body b.2.1 (by omega)]
    have k : ∀ j : Nat, (j ≠ 1 ∧ (j < 110 ∨ 230 ≤ j)) → sbody f j = f j := fun j hj => kp_body b.2.1 hj
    rcases q with ⟨g, a, e⟩ | ⟨g, a, e⟩ | ⟨g, a, e⟩ | e
    · have := b.1
      rw [k 0 (by omega)] at a
      rw [k _ (by omega)] at e
      exact h x h0 h1 (Or.inl ⟨g, a, e⟩)
    · have := b.2.2
      rw [k 7 (by omega)] at a
      rw [k _ (by omega)] at e
      exact h x h0 h1 (Or.inr (Or.inl ⟨g, a, e⟩))
    · rw [(body_0 z).2] at a e
      rw [ar_ci] at a
      have n1 : (f 1 + 1).toInt = (f 1).toInt + 1 := g5_iadd rfl (by decide) (by omega) (by have := b.2.1; omega)
      by_cases w : 24 * (f 1).toInt ≤ (g : Int)
      · have y : addRow f 1 110 24 (f 1).toInt.toNat (f 1 + 1) (fun _ => -1) (110 + g) = -1 := by
          unfold addRow
          rw [if_neg (by omega), if_pos (by omega)]
        rw [y] at e
        have y1 : (-1 : Int32).toInt = -1 := (by decide)
        omega
      · rw [ar_ne (by omega) (by omega)] at e
        exact h x h0 h1 (Or.inr (Or.inr (Or.inl ⟨g, by omega, e⟩)))
    · rw [k 6 (by omega)] at e
      exact h x h0 h1 (Or.inr (Or.inr (Or.inr e)))
  · rw [(body_5 (by omega)).2]; exact h
theorem nw_stR {f : Nat → Int32} {b a e : Int} {c : Int32} (bd : bd3 f) (hb : 0 ≤ b ∧ b < 5) (ha : 0 ≤ a) (he : e ≤ 23) (hw : ¬ wallAt f c.toInt) (h : NW f) : NW (stR f b a e c) := by
  intro x h0 h1 q
  rw [kp_stR hb ha he (by omega)]
  have k : ∀ j : Nat, (j < 110 ∨ 230 ≤ j) → stR f b a e c j = f j := fun j hj => kp_stR hb ha he hj
  rcases q with ⟨g, y, z⟩ | ⟨g, y, z⟩ | ⟨g, y, z⟩ | z
  · have := bd.1
    rw [k 0 (by omega)] at y
    rw [k _ (by omega)] at z
    exact h x h0 h1 (Or.inl ⟨g, y, z⟩)
  · have := bd.2.2
    rw [k 7 (by omega)] at y
    rw [k _ (by omega)] at z
    exact h x h0 h1 (Or.inr (Or.inl ⟨g, y, z⟩))
  · rw [k 1 (by omega)] at y
    unfold stR bfill at z
    by_cases w : 110 + 24 * b + a ≤ ((110 + g : Nat) : Int) ∧ ((110 + g : Nat) : Int) < 110 + 24 * b + e + 1
    · rw [if_pos w] at z
      intro v
      exact hw ⟨by omega, by rw [z]; exact v⟩
    · rw [if_neg w] at z
      exact h x h0 h1 (Or.inr (Or.inr (Or.inl ⟨g, y, z⟩)))
  · rw [k 6 (by omega)] at z
    exact h x h0 h1 (Or.inr (Or.inr (Or.inr z)))
theorem nw_stay {f : Nat → Int32} {b a e c : Int32} (bd : bd3 f) (h : NW f) : NW (sstay f b a e c) := by
  by_cases q : okS a e c ∧ isB f b ∧ ¬ wallAt f c.toInt
  · have q1 := q.1
    have q2 := q.2.1
    have q3 := bd.2.1
    unfold okS at q1
    unfold isB at q2
    unfold sstay; rw [cif_t q]
    exact nw_stR bd (by omega) (by omega) (by omega) q.2.2 h
  · unfold sstay; rw [cif_f q]; exact h
theorem nw_start {f : Nat → Int32} {c : Int32} (b : bd3 f) (h : NW f) : NW (sstart f c) := by
  by_cases q : (-1 ≤ c.toInt ∧ c.toInt ≤ 63) ∧ ¬ wallAt f c.toInt
  · intro x h0 h1 z
    have k : ∀ j : Nat, j ≠ 6 → sstart f c j = f j := fun j hj => kp_start hj
    rw [k _ (by omega)]
    rcases z with ⟨g, y, z⟩ | ⟨g, y, z⟩ | ⟨g, y, z⟩ | z
    · rw [k 0 (by omega)] at y
      rw [k _ (by omega)] at z
      exact h x h0 h1 (Or.inl ⟨g, y, z⟩)
    · rw [k 7 (by omega)] at y
      rw [k _ (by omega)] at z
      exact h x h0 h1 (Or.inr (Or.inl ⟨g, y, z⟩))
    · rw [k 1 (by omega)] at y
      rw [k _ (by omega)] at z
      exact h x h0 h1 (Or.inr (Or.inr (Or.inl ⟨g, y, z⟩)))
    · rw [(start_0 q.1 q.2).2, upd_eq] at z
      intro v
      exact q.2 ⟨by omega, by rw [z]; exact v⟩
  · unfold sstart; rw [cif_f q]; exact h
/-! the tape -/
def byteA (v : Int32) (k : Nat) : Int32 := (v >>> (nI (24 - 8 * k) &&& 31)) &&& 255
def wr4 (t : Nat → Int32) (n : Nat) (v : Int32) : Nat → (Nat → Int32)
  | 0 => t
  | k + 1 => upd (wr4 t n v k) (n + k) (byteA v k)
def w20 (t : Nat → Int32) (n : Nat) (a b c d e : Int32) : Nat → Int32 := wr4 (wr4 (wr4 (wr4 (wr4 t n a 4) (n + 4) b 4) (n + 8) c 4) (n + 12) d 4) (n + 16) e 4
noncomputable def sfeedT (t : Nat → Int32) (td a b c d e : Int32) : Nat → Int32 := cif (td.toInt ≤ 380) (w20 t td.toInt.toNat a b c d e) t
noncomputable def sfeedN (td : Int32) : Int32 := cif (td.toInt ≤ 380) (td + 20) td
noncomputable def afeed (td : Int32) : Int32 := cif (td.toInt ≤ 380) (td + 20) (-1)
theorem byte_u (v : Int32) (k : Nat) (hk : k < 4) {s : Int32} (hs : s.toInt = 24 - 8 * (k : Int)) : ((v.toUInt32 >>> (s.toUInt32 &&& Int32.toUInt32 31)).toInt32 &&& 255) = byteA v k := by
  have es : s = nI (24 - 8 * k) := by
    rw [g5_nI (x := s) (by omega)]
    congr 1; omega
  subst es
  unfold byteA
  apply Int32.toBitVec_inj.mp
  apply BitVec.eq_of_getLsbD_eq
  intro i hi
  rw [Int32.toBitVec_and, Int32.toBitVec_and, BitVec.getLsbD_and, BitVec.getLsbD_and]
  by_cases q : i < 8
  · congr 1
    have hsh : ∀ k : Nat, k < 4 → ((nI (24 - 8 * k)).toUInt32 &&& Int32.toUInt32 31).toNat % 32 = 24 - 8 * k ∧ (((nI (24 - 8 * k) &&& 31)).toBitVec.smod 32).toNat = 24 - 8 * k := by decide +kernel
    have h1 := (hsh k hk).1
    have h2 := (hsh k hk).2
    have e1 : ((v.toUInt32 >>> ((nI (24 - 8 * k)).toUInt32 &&& Int32.toUInt32 31)).toInt32).toBitVec = v.toBitVec >>> (24 - 8 * k) := by
      show (v.toUInt32 >>> ((nI (24 - 8 * k)).toUInt32 &&& Int32.toUInt32 31)).toBitVec = _
      rw [UInt32.toBitVec_shiftRight]
      show v.toUInt32.toBitVec >>> (((nI (24 - 8 * k)).toUInt32 &&& Int32.toUInt32 31).toBitVec % 32) = _
      rw [BitVec.ushiftRight_eq']
      show v.toBitVec >>> ((((nI (24 - 8 * k)).toUInt32 &&& Int32.toUInt32 31).toBitVec % 32).toNat) = _
      rw [show (((nI (24 - 8 * k)).toUInt32 &&& Int32.toUInt32 31).toBitVec % 32).toNat = 24 - 8 * k by rw [BitVec.toNat_umod]; exact h1]
    have e2 : (v >>> (nI (24 - 8 * k) &&& 31)).toBitVec = v.toBitVec.sshiftRight (24 - 8 * k) := by
      rw [Int32.toBitVec_shiftRight, BitVec.sshiftRight_eq', h2]
    rw [e1, e2, BitVec.getLsbD_ushiftRight, BitVec.getLsbD_sshiftRight, decide_eq_false (by omega), if_pos (by omega)]
    rfl
  · have z : (255 : Int32).toBitVec.getLsbD i = false := by
      have key : ∀ i : Nat, i < 32 → ¬ i < 8 → (255 : Int32).toBitVec.getLsbD i = false := by decide +kernel
      exact key i (by omega) q
    rw [z, Bool.and_false, Bool.and_false]
theorem byte_s (v : Int32) (k : Nat) {s : Int32} (hs : s.toInt = 24 - 8 * (k : Int)) (hk : k < 4) : ((v >>> (s &&& 31)) &&& 255) = byteA v k := by
  have es : s = nI (24 - 8 * k) := by
    rw [g5_nI (x := s) (by omega)]
    congr 1; omega
  rw [es]; rfl
theorem wr_S {t g : Nat → Int32} {n k x : Nat} {v b : Int32} (h : g = wr4 t n v k) (hx : x = n + k) (hb : b = byteA v k) : upd g x b = wr4 t n v (k + 1) := by
  subst h; subst hx; subst hb; rfl
theorem feed_0 {t : Nat → Int32} {td a b c d e : Int32} (h : td.toInt ≤ 380) : sfeedT t td a b c d e = w20 t td.toInt.toNat a b c d e ∧ sfeedN td = td + 20 ∧ afeed td = td + 20 := ⟨cif_t h, cif_t h, cif_t h⟩
theorem feed_1 {t : Nat → Int32} {td a b c d e : Int32} (h : 380 < td.toInt) : sfeedT t td a b c d e = t ∧ sfeedN td = td ∧ afeed td = -1 := ⟨cif_f (by omega), cif_f (by omega), cif_f (by omega)⟩
theorem w20_of {t x1 x2 x3 x4 x5 : Nat → Int32} {td t1 t2 t3 t4 a b c d e : Int32} (h0 : 0 ≤ td.toInt) (e1 : x1 = wr4 t td.toInt.toNat a 4) (n1 : t1.toInt = td.toInt + 4) (e2 : x2 = wr4 x1 t1.toInt.toNat b 4) (n2 : t2.toInt = t1.toInt + 4) (e3 : x3 = wr4 x2 t2.toInt.toNat c 4) (n3 : t3.toInt = t2.toInt + 4) (e4 : x4 = wr4 x3 t3.toInt.toNat d 4) (n4 : t4.toInt = t3.toInt + 4) (e5 : x5 = wr4 x4 t4.toInt.toNat e 4) : x5 = w20 t td.toInt.toNat a b c d e := by
  unfold w20
  rw [e5, e4, e3, e2, e1, show t1.toInt.toNat = td.toInt.toNat + 4 by omega, show t2.toInt.toNat = td.toInt.toNat + 8 by omega, show t3.toInt.toNat = td.toInt.toNat + 12 by omega, show t4.toInt.toNat = td.toInt.toNat + 16 by omega]
theorem tp_wr4 {t : Nat → Int32} {n : Nat} {v : Int32} (h : TPI t) : ∀ k : Nat, TPI (wr4 t n v k) := by
  intro k
  induction k with
  | zero => exact h
  | succ k ih => exact tp_upd ih (g_a255 _)
theorem tp_feed {t : Nat → Int32} {td a b c d e : Int32} (h : TPI t) : TPI (sfeedT t td a b c d e) := by
  by_cases q : td.toInt ≤ 380
  · rw [(feed_0 q).1]; exact tp_wr4 (tp_wr4 (tp_wr4 (tp_wr4 (tp_wr4 h 4) 4) 4) 4) 4
  · rw [(feed_1 (by omega)).1]; exact h
noncomputable def sendN (td n : Int32) : Int32 := cif (0 ≤ n.toInt ∧ n.toInt ≤ td.toInt) n td
noncomputable def aend (td n : Int32) : Int32 := cif (0 ≤ n.toInt ∧ n.toInt ≤ td.toInt) n (-1)
theorem tend_0 {td n : Int32} (h : 0 ≤ n.toInt ∧ n.toInt ≤ td.toInt) : sendN td n = n ∧ aend td n = n := ⟨cif_t h, cif_t h⟩
theorem tend_1 {td n : Int32} (h : n.toInt < 0 ∨ td.toInt < n.toInt) : sendN td n = td ∧ aend td n = -1 := ⟨cif_f (by omega), cif_f (by omega)⟩
/-! rows of stays -/
def cellQ (x : Int32) : Int32 := if x.toInt = 255 then -1 else x
def canQ (t : Nat → Int32) (td : Int) (f : Nat → Int32) (k : Nat) : Prop := (k : Int) + 3 < td ∧ isB f (t k) ∧ okS (t (k + 1)) (t (k + 2)) (cellQ (t (k + 3))) ∧ ¬ wallAt f (cellQ (t (k + 3))).toInt
theorem cq_255 {x : Int32} (h : x.toInt = 255) : cellQ x = -1 := if_pos h
theorem cq_n {x : Int32} (h : x.toInt ≠ 255) : cellQ x = x := if_neg h
theorem cq_mk {t : Nat → Int32} {td : Int} {f : Nat → Int32} {k : Nat} {y0 y1 y2 y3 c : Int32} (e0 : t k = y0) (e1 : t (k + 1) = y1) (e2 : t (k + 2) = y2) (e3 : t (k + 3) = y3) (ec : cellQ y3 = c) : canQ t td f k ↔ ((k : Int) + 3 < td ∧ isB f y0 ∧ okS y1 y2 c ∧ ¬ wallAt f c.toInt) := by
  unfold canQ
  rw [e0, e1, e2, e3, ec]
noncomputable def rw1 (t : Nat → Int32) (td : Int) (f : Nat → Int32) (k : Nat) : Nat → Int32 := cif (canQ t td f k) (stR f (t k).toInt (t (k + 1)).toInt (t (k + 2)).toInt (cellQ (t (k + 3)))) f
noncomputable def rwS (t : Nat → Int32) (td : Int) (f : Nat → Int32) : Nat → (Nat → Int32)
  | 0 => f
  | n + 1 => rw1 t td (rwS t td f n) (4 * n)
noncomputable def rwC (t : Nat → Int32) (td : Int) (f : Nat → Int32) : Nat → Int
  | 0 => 0
  | n + 1 => rwC t td f n + cif (canQ t td (rwS t td f n) (4 * n)) 1 0
theorem rwS_S {t : Nat → Int32} {td : Int} {f : Nat → Int32} {n k : Nat} (h : 4 * n = k) : rwS t td f (n + 1) = rw1 t td (rwS t td f n) k := by subst h; rfl
theorem rwC_S {t : Nat → Int32} {td : Int} {f : Nat → Int32} {n k : Nat} (h : 4 * n = k) : rwC t td f (n + 1) = rwC t td f n + cif (canQ t td (rwS t td f n) k) 1 0 := by subst h; rfl
def rwN (td : Int32) : Nat := ((td.toInt + 3) / 4).toNat
noncomputable def srow (t : Nat → Int32) (td : Int32) (f : Nat → Int32) : Nat → Int32 := rwS t td.toInt f (rwN td)
noncomputable def arow (t : Nat → Int32) (td : Int32) (f : Nat → Int32) : Int32 := cif (td.toInt = 0) (-6) (Int32.ofInt (rwC t td.toInt f (rwN td)))
noncomputable def srowF (t : Nat → Int32) (td fd : Int32) (f : Nat → Int32) : Int32 := cif (td.toInt = 0) fd (Int32.ofInt ((rwN td : Int) - rwC t td.toInt f (rwN td)))
theorem ofInt_i {x : Int32} {n : Int} (h : x.toInt = n) : x = Int32.ofInt n := by
  subst h
  exact Int32.toInt_inj.mp (by
    have r := g5_rg x
    rw [Int32.toInt_ofInt, g5_bm (by omega) (by omega)])
theorem row_6 {t : Nat → Int32} {td fd : Int32} {f : Nat → Int32} (h : td.toInt = 0) : arow t td f = -6 ∧ srow t td f = f ∧ srowF t td fd f = fd := by
  refine ⟨cif_t h, ?_, cif_t h⟩
  unfold srow rwN
  rw [h]; rfl
theorem row_0 {t : Nat → Int32} {td fd a c g : Int32} {f : Nat → Int32} (h : td.toInt ≠ 0) (h0 : 0 ≤ td.toInt) (ha : td.toInt ≤ a.toInt) (hb : a.toInt ≤ td.toInt + 3) (h4 : a.toInt % 4 = 0) (hc : c.toInt = rwC t td.toInt f (a.toInt / 4).toNat) (hg : c.toInt + g.toInt = a.toInt / 4) : c = arow t td f ∧ rwS t td.toInt f (a.toInt / 4).toNat = srow t td f ∧ g = srowF t td fd f := by
  have e : (a.toInt / 4).toNat = rwN td := by unfold rwN; omega
  refine ⟨?_, ?_, ?_⟩
  · unfold arow; rw [cif_f h, ← e]; exact ofInt_i hc
  · unfold srow; rw [e]
  · unfold srowF; rw [cif_f h, ← e, ← hc]; exact ofInt_i (by omega)
theorem rw_stayY {t : Nat → Int32} {td : Int} {f : Nat → Int32} {k : Nat} (h : canQ t td f k) : rw1 t td f k = stR f (t k).toInt (t (k + 1)).toInt (t (k + 2)).toInt (cellQ (t (k + 3))) := by unfold rw1; exact cif_t h
theorem rw_stayN {t : Nat → Int32} {td : Int} {f : Nat → Int32} {k : Nat} (h : ¬ canQ t td f k) : rw1 t td f k = f := by unfold rw1; exact cif_f h
theorem kp_rw1 {t : Nat → Int32} {td : Int} {f : Nat → Int32} {k j : Nat} (bd : (f 1).toInt ≤ 5) (h : j < 110 ∨ 230 ≤ j) : rw1 t td f k j = f j := by
  by_cases q : canQ t td f k
  · rw [rw_stayY q]
    have q2 := q.2.1
    have q3 := q.2.2.1
    unfold isB at q2
    unfold okS at q3
    exact kp_stR (by omega) (by omega) (by omega) h
  · rw [rw_stayN q]
theorem kp_rwS {t : Nat → Int32} {td : Int} {f : Nat → Int32} (bd : (f 1).toInt ≤ 5) : ∀ n j : Nat, (j < 110 ∨ 230 ≤ j) → rwS t td f n j = f j := by
  intro n
  induction n with
  | zero => intro j _; rfl
  | succ n ih =>
    intro j hj
    show rw1 t td (rwS t td f n) (4 * n) j = f j
    rw [kp_rw1 (by rw [ih 1 (by omega)]; exact bd) hj, ih j hj]
theorem kp_row {t : Nat → Int32} {td : Int32} {f : Nat → Int32} {j : Nat} (bd : (f 1).toInt ≤ 5) (h : j < 110 ∨ 230 ≤ j) : srow t td f j = f j := kp_rwS bd _ j h
theorem nw_rwS {t : Nat → Int32} {td : Int} {f : Nat → Int32} (bd : bd3 f) (h : NW f) : ∀ n : Nat, NW (rwS t td f n) := by
  intro n
  induction n with
  | zero => exact h
  | succ n ih =>
    have k := kp_rwS (t := t) (td := td) bd.2.1 n
    have bd2 : bd3 (rwS t td f n) := ⟨by rw [k 0 (by omega)]; exact bd.1, by rw [k 1 (by omega)]; exact bd.2.1, by rw [k 7 (by omega)]; exact bd.2.2⟩
    show NW (rw1 t td (rwS t td f n) (4 * n))
    by_cases q : canQ t td (rwS t td f n) (4 * n)
    · rw [rw_stayY q]
      have q2 := q.2.1
      have q3 := q.2.2.1
      have q4 := bd2.2.1
      unfold isB at q2
      unfold okS at q3
      exact nw_stR bd2 (by omega) (by omega) (by omega) q.2.2.2 ih
    · rw [rw_stayN q]; exact ih
theorem nw_row {t : Nat → Int32} {td : Int32} {f : Nat → Int32} (bd : bd3 f) (h : NW f) : NW (srow t td f) := nw_rwS bd h _
/-! images -/
def QALL (wa : Int64) (le st : Int32) (ng : Int32) (tg : Nat → Int32) (gb : Int64) (nb : Int32) (tb : Nat → Int32) (bb : Nat → Int64) (ns : Int32) (ts : Nat → Int32) (np : Int32) (tp : Nat → Int32) (nw : Int32) (tw : Nat → Int32) (f : Nat → Int32) : Prop := QH wa le st f ∧ QG ng tg gb f ∧ QB nb tb bb f ∧ QS ns ts f ∧ QP np tp f ∧ QW nw tw f ∧ NW f
theorem bbd_cpy {t x : Nat → Int32} {n h : Int} (hn : n ≤ 5) : ∀ k : Nat, bbd (va_cpy t x 0 0 120) n h k = bbd t n h k := by
  intro k
  induction k with
  | zero => rfl
  | succ k ih =>
    show bbd (va_cpy t x 0 0 120) n h k ||| _ = bbd t n h k ||| _
    rw [ih, tget_cpyN (by omega) (by omega)]
theorem inT_cpyN {x : Int64} {f g : Nat → Int32} {N : Nat} {n : Int} (h : inT x f n) (hn : n * 5 ≤ (N : Int)) : inT x (va_cpy f g 0 0 N) n := by
  intro c h0 h1 h2
  obtain ⟨r, a, b, e⟩ := h c h0 h1 h2
  exact ⟨r, a, b, by rw [tget_cpyN hn (by omega)]; exact e⟩
theorem qse_cpy {t x : Nat → Int32} {n : Int} {N : Nat} (h : QSE n t) (hN : n * 4 ≤ (N : Int)) : QSE n (va_cpy t x 0 0 N) := by
  have e : ∀ r c : Int, tget (va_cpy t x 0 0 N) n 4 r c = tget t n 4 r c := fun r c => tget_cpyN hN (by omega)
  intro r ra rb
  simp only [e]
  exact h r ra rb
theorem qpe_cpy {t x : Nat → Int32} {n : Int} {N : Nat} (h : QPE n t) (hN : n * 5 ≤ (N : Int)) : QPE n (va_cpy t x 0 0 N) := by
  have e : ∀ r c : Int, tget (va_cpy t x 0 0 N) n 5 r c = tget t n 5 r c := fun r c => tget_cpyN hN (by omega)
  intro r ra rb
  simp only [e]
  exact h r ra rb
theorem qwe_cpy {t x : Nat → Int32} {n : Int} {N : Nat} (h : QWE n t) (hN : n * 6 ≤ (N : Int)) : QWE n (va_cpy t x 0 0 N) := by
  have e : ∀ r c : Int, tget (va_cpy t x 0 0 N) n 6 r c = tget t n 6 r c := fun r c => tget_cpyN hN (by omega)
  intro r ra rb
  simp only [e]
  exact h r ra rb
theorem hall_cpy {wa : Int64} {le st : Int32} {ng : Int32} {tg : Nat → Int32} {gb : Int64} {nb : Int32} {tb : Nat → Int32} {bb : Nat → Int64} {ns : Int32} {ts : Nat → Int32} {np : Int32} {tp : Nat → Int32} {nw : Int32} {tw : Nat → Int32} {f g : Nat → Int32} {x1 x2 x3 x4 x5 : Nat → Int32} {xb : Nat → Int64} (h : QALL wa le st ng tg gb nb tb bb ns ts np tp nw tw f) (e : ∀ j : Nat, j < 340 → g j = f j) : QALL wa le st ng (va_cpy tg x1 0 0 30) gb nb (va_cpy tb x2 0 0 120) (va_cpy bb xb 0 0 24) ns (va_cpy ts x3 0 0 40) np (va_cpy tp x4 0 0 40) nw (va_cpy tw x5 0 0 36) g := by
  obtain ⟨hH, hG, hB, hS, hP, hW, hN⟩ := h
  have bd := bd3_of hG hB hP
  refine ⟨hh_c hH (fun j hj => e j (by omega)), ?_, ?_, ?_, ?_, ?_, nw_c bd (fun j hj => e j (by omega)) hN⟩
  · obtain ⟨a, b, c, d, i⟩ := hg_c hG (fun j hj => e j (by omega))
    refine ⟨a, b, ht_cpy c (by omega) (by omega) (fun _ _ _ _ => rfl), inT_cpyN d (by omega), fun r x y => ?_⟩
    rw [tget_cpyN (by omega) (by omega)]; exact i r x y
  · obtain ⟨a, b, c, d, i⟩ := hb_c hB (fun j hj => e j (by omega))
    refine ⟨a, b, ht_cpy c (by omega) (by omega) (fun _ _ _ _ => rfl), fun q hq => ?_, fun r q x y z w => ?_⟩
    · rw [cpy_atN hq, bbd_cpy (by omega)]; exact d q hq
    · rw [tget_cpyN (by omega) (by omega)]; exact i r q x y z w
  · obtain ⟨a, b, c, d⟩ := hs_c hS (fun j hj => e j (by omega))
    exact ⟨a, b, ht_cpy c (by omega) (by omega) (fun _ _ _ _ => rfl), qse_cpy d (by omega)⟩
  · obtain ⟨a, b, c, d⟩ := hp_c hP (fun j hj => e j (by omega))
    exact ⟨a, b, ht_cpy c (by omega) (by omega) (fun _ _ _ _ => rfl), qpe_cpy d (by omega)⟩
  · obtain ⟨a, b, c, d⟩ := hwi_c hW (fun j hj => e j (by omega))
    exact ⟨a, b, ht_cpy c (by omega) (by omega) (fun _ _ _ _ => rfl), qwe_cpy d (by omega)⟩
theorem hall_c {wa : Int64} {le st : Int32} {ng : Int32} {tg : Nat → Int32} {gb : Int64} {nb : Int32} {tb : Nat → Int32} {bb : Nat → Int64} {ns : Int32} {ts : Nat → Int32} {np : Int32} {tp : Nat → Int32} {nw : Int32} {tw : Nat → Int32} {f g : Nat → Int32} (h : QALL wa le st ng tg gb nb tb bb ns ts np tp nw tw f) (e : ∀ j : Nat, j < 340 → g j = f j) : QALL wa le st ng tg gb nb tb bb ns ts np tp nw tw g := by
  obtain ⟨hH, hG, hB, hS, hP, hW, hN⟩ := h
  have bd := bd3_of hG hB hP
  exact ⟨hh_c hH (fun j hj => e j (by omega)), hg_c hG (fun j hj => e j (by omega)), hb_c hB (fun j hj => e j (by omega)), hs_c hS (fun j hj => e j (by omega)), hp_c hP (fun j hj => e j (by omega)), hwi_c hW (fun j hj => e j (by omega)), nw_c bd (fun j hj => e j (by omega)) hN⟩
def QIM (k : Nat) (ke im : Nat → Int32) (wa : Int64) (le st : Int32) (ng : Int32) (tg : Nat → Int32) (gb : Int64) (nb : Int32) (tb : Nat → Int32) (bb : Nat → Int64) (ns : Int32) (ts : Nat → Int32) (np : Int32) (tp : Nat → Int32) (nw : Int32) (tw : Nat → Int32) : Prop := (ke k).toInt ≠ 0 → QALL wa le st ng tg gb nb tb bb ns ts np tp nw tw (fun j => im (5740 * k + j))
def okM (p : Int32) : Prop := 0 ≤ p.toInt ∧ p.toInt ≤ 1
def imgR (im f : Nat → Int32) (k : Nat) : Nat → Int32 := fun j => if 5740 * k ≤ j ∧ j < 5740 * k + 5740 then f (j - 5740 * k) else im j
noncomputable def simg (im f : Nat → Int32) (p : Int32) : Nat → Int32 := cif (okM p) (imgR im f p.toInt.toNat) im
noncomputable def skep (ke : Nat → Int32) (p : Int32) : Nat → Int32 := cif (okM p) (upd ke p.toInt.toNat 1) ke
noncomputable def aimg (p : Int32) : Int32 := cif (okM p) 0 (-1)
noncomputable def sback (f im ke : Nat → Int32) (p : Int32) : Nat → Int32 := cif (okM p ∧ (ke p.toInt.toNat).toInt ≠ 0) (fun j => im (5740 * p.toInt.toNat + j)) f
noncomputable def aback (ke : Nat → Int32) (p : Int32) : Int32 := cif (okM p) (cif ((ke p.toInt.toNat).toInt ≠ 0) 0 (-2)) (-1)
theorem img_0 {im f ke : Nat → Int32} {p : Int32} (h : okM p) : aimg p = 0 ∧ simg im f p = imgR im f p.toInt.toNat ∧ skep ke p = upd ke p.toInt.toNat 1 := ⟨cif_t h, cif_t h, cif_t h⟩
theorem img_1 {im f ke : Nat → Int32} {p : Int32} (h : ¬ okM p) : aimg p = -1 ∧ simg im f p = im ∧ skep ke p = ke := ⟨cif_f h, cif_f h, cif_f h⟩
theorem back_0 {f im ke : Nat → Int32} {p : Int32} (h : okM p) (h2 : (ke p.toInt.toNat).toInt ≠ 0) : aback ke p = 0 ∧ sback f im ke p = (fun j => im (5740 * p.toInt.toNat + j)) := ⟨(cif_t h).trans (cif_t h2), cif_t ⟨h, h2⟩⟩
theorem back_2 {f im ke : Nat → Int32} {p : Int32} (h : okM p) (h2 : (ke p.toInt.toNat).toInt = 0) : aback ke p = -2 ∧ sback f im ke p = f := ⟨(cif_t h).trans (cif_f (fun q => q h2)), cif_f (fun q => q.2 h2)⟩
theorem back_1 {f im ke : Nat → Int32} {p : Int32} (h : ¬ okM p) : aback ke p = -1 ∧ sback f im ke p = f := ⟨cif_f h, cif_f (fun q => h q.1)⟩
theorem okM_n {p : Int32} (h : p.toInt < 0 ∨ 1 < p.toInt) : ¬ okM p := fun q => by unfold okM at q; omega
theorem him_new {k : Nat} {p : Int32} {ke im f : Nat → Int32} {wa : Int64} {le st : Int32} {ng : Int32} {tg : Nat → Int32} {gb : Int64} {nb : Int32} {tb : Nat → Int32} {bb : Nat → Int64} {ns : Int32} {ts : Nat → Int32} {np : Int32} {tp : Nat → Int32} {nw : Int32} {tw : Nat → Int32} {x1 x2 x3 x4 x5 : Nat → Int32} {xb : Nat → Int64} (hk : p.toInt = (k : Int)) (ok : okM p) (h : QALL wa le st ng tg gb nb tb bb ns ts np tp nw tw f) : QIM k (skep ke p) (simg im f p) wa le st ng (va_cpy tg x1 0 0 30) gb nb (va_cpy tb x2 0 0 120) (va_cpy bb xb 0 0 24) ns (va_cpy ts x3 0 0 40) np (va_cpy tp x4 0 0 40) nw (va_cpy tw x5 0 0 36) := by
  intro _
  refine hall_cpy h (fun j hj => ?_)
  show simg im f p (5740 * k + j) = f j
  rw [(img_0 (ke := ke) ok).2.1]
  unfold imgR
  rw [if_pos (by omega)]
  congr 1; omega
theorem him_oth {k : Nat} {p : Int32} {ke im f : Nat → Int32} {wa : Int64} {le st : Int32} {ng : Int32} {tg : Nat → Int32} {gb : Int64} {nb : Int32} {tb : Nat → Int32} {bb : Nat → Int64} {ns : Int32} {ts : Nat → Int32} {np : Int32} {tp : Nat → Int32} {nw : Int32} {tw : Nat → Int32} (hk : p.toInt ≠ (k : Int)) (h : QIM k ke im wa le st ng tg gb nb tb bb ns ts np tp nw tw) : QIM k (skep ke p) (simg im f p) wa le st ng tg gb nb tb bb ns ts np tp nw tw := by
  by_cases ok : okM p
  · have ok2 := ok
    unfold okM at ok2
    intro q
    rw [(img_0 (im := im) (f := f) ok).2.2, upd_ne (by omega)] at q
    refine hall_c (h q) (fun j hj => ?_)
    show simg im f p (5740 * k + j) = im (5740 * k + j)
    rw [(img_0 (ke := ke) ok).2.1]
    unfold imgR
    rw [if_neg (by omega)]
  · rw [(img_1 (ke := ke) ok).2.1, (img_1 (im := im) (f := f) ok).2.2]; exact h
theorem him_0 {k : Nat} {ke im : Nat → Int32} {wa : Int64} {le st : Int32} {ng : Int32} {tg : Nat → Int32} {gb : Int64} {nb : Int32} {tb : Nat → Int32} {bb : Nat → Int64} {ns : Int32} {ts : Nat → Int32} {np : Int32} {tp : Nat → Int32} {nw : Int32} {tw : Nat → Int32} (h : (ke k).toInt = 0) : QIM k ke im wa le st ng tg gb nb tb bb ns ts np tp nw tw := fun q => absurd h q
theorem hall_back {k : Nat} {p : Int32} {ke im f : Nat → Int32} {wa : Int64} {le st : Int32} {ng : Int32} {tg : Nat → Int32} {gb : Int64} {nb : Int32} {tb : Nat → Int32} {bb : Nat → Int64} {ns : Int32} {ts : Nat → Int32} {np : Int32} {tp : Nat → Int32} {nw : Int32} {tw : Nat → Int32} {x1 x2 x3 x4 x5 : Nat → Int32} {xb : Nat → Int64} (hk : p.toInt = (k : Int)) (ok : okM p) (hne : (ke k).toInt ≠ 0) (h : QIM k ke im wa le st ng tg gb nb tb bb ns ts np tp nw tw) : QALL wa le st ng (va_cpy tg x1 0 0 30) gb nb (va_cpy tb x2 0 0 120) (va_cpy bb xb 0 0 24) ns (va_cpy ts x3 0 0 40) np (va_cpy tp x4 0 0 40) nw (va_cpy tw x5 0 0 36) (sback f im ke p) := by
  have ek : p.toInt.toNat = k := by omega
  refine hall_cpy (h hne) (fun j hj => ?_)
  rw [(back_0 ok (by rw [ek]; exact hne)).2, ek]
/-- the row at first -/
theorem hall_start {f : Nat → Int32} (h4 : f 4 = 1000) (h6 : f 6 = -1) (e : ∀ j : Nat, j ≠ 3 → j ≠ 4 → j ≠ 6 → f j = 0) {tg tb ts tp tw : Nat → Int32} : QALL 0 1000 (-1) 0 tg 0 0 tb (fun _ => 0) 0 ts 0 tp 0 tw f := by
  have z0 : (0 : Int32).toInt = 0 := (by decide)
  have e0 : f 0 = 0 := e 0 (by omega) (by omega) (by omega)
  have e1 : f 1 = 0 := e 1 (by omega) (by omega) (by omega)
  have e7 : f 7 = 0 := e 7 (by omega) (by omega) (by omega)
  refine ⟨⟨fun c hc => ?_, h4, h6⟩, ⟨by decide, e0, fun r c hr _ => absurd hr (by rw [z0]; omega), inT_zero, fun r a b => absurd b (by rw [z0]; omega)⟩, ⟨by decide, e1, fun r c hr _ => absurd hr (by rw [z0]; omega), fun c hc => rfl, fun r c a b _ _ => absurd b (by rw [z0]; omega)⟩, ⟨by decide, e 5 (by omega) (by omega) (by omega), fun r c hr _ => absurd hr (by rw [z0]; omega), fun r a b => absurd b (by rw [z0]; omega)⟩, ⟨by decide, e7, fun r c hr _ => absurd hr (by rw [z0]; omega), fun r a b => absurd b (by rw [z0]; omega)⟩, ⟨by decide, e 8 (by omega) (by omega) (by omega), fun r c hr _ => absurd hr (by rw [z0]; omega), fun r a b => absurd b (by rw [z0]; omega)⟩, ?_⟩
  · rw [e _ (by omega) (by omega) (by omega), onB_zero, if_neg (by decide)]; exact z0
  · intro c h0 h1 q
    rw [e _ (by omega) (by omega) (by omega), z0]; omega
/-! the model's loops -/
def bIff (z : Int) (P : Prop) : Prop := z = 1 ↔ P
theorem bI_y {z : Int} {P : Prop} (h : bIff z P) (q : z = 1) : P := h.mp q
theorem bI_n {z : Int} {P : Prop} (h : bIff z P) (q : z = 0) : ¬ P := fun p => by have := h.mpr p; omega
def exB (f : Nat → Int32) (B w : Nat) (n c : Int) : Prop := ∃ g : Nat, (g : Int) < n ∧ (f (B + w * g)).toInt = c
theorem exB_0 {f : Nat → Int32} {B w : Nat} {c z n : Int} (hz : z = 0) (hn : n = 0) : bIff z (exB f B w n c) := ⟨fun q => by omega, fun ⟨g, a, _⟩ => by omega⟩
theorem exB_k {f : Nat → Int32} {B w : Nat} {c z z' n n' : Int} (h : bIff z (exB f B w n c)) (hz : z = 1) (hz' : z' = 1) (hn : n ≤ n') : bIff z' (exB f B w n' c) := by
  obtain ⟨g, a, b⟩ := h.mp hz
  exact ⟨fun _ => ⟨g, by omega, b⟩, fun _ => hz'⟩
theorem exB_y {f : Nat → Int32} {B w : Nat} {c z' n' : Int} (hz' : z' = 1) (g : Nat) (hg : (g : Int) < n') (e : (f (B + w * g)).toInt = c) : bIff z' (exB f B w n' c) := ⟨fun _ => ⟨g, hg, e⟩, fun _ => hz'⟩
theorem exB_n {f : Nat → Int32} {B w : Nat} {c z z' n n' : Int} (h : bIff z (exB f B w n c)) (hz : z = 0) (hz' : z' = 0) (hn : n' = n + 1) (g : Nat) (hg : (g : Int) = n) (e : (f (B + w * g)).toInt ≠ c) : bIff z' (exB f B w n' c) := by
  refine ⟨fun q => by omega, fun ⟨k, a, b⟩ => ?_⟩
  by_cases q : (k : Int) = n
  · have y : k = g := by omega
    rw [y] at b; exact absurd b e
  · have y := h.mpr ⟨k, by omega, b⟩
    omega
theorem bat_ex {f : Nat → Int32} {c z : Int} (h : bIff z (exB f 110 1 (24 * (f 1).toInt) c)) : bIff z (bAt f c) := by
  refine ⟨fun q => ?_, fun ⟨k, a, b⟩ => ?_⟩
  · obtain ⟨g, a, b⟩ := h.mp q
    exact ⟨g, a, by rw [Nat.one_mul] at b; exact b⟩
  · exact h.mpr ⟨k, a, by rw [Nat.one_mul]; exact b⟩
theorem can_w {f : Nat → Int32} {c : Int} (h : wallAt f c) : ¬ canR f c := fun q => q.1 h.2
theorem can_g {f : Nat → Int32} {c : Int} (h : gAt f c) : ¬ canR f c := fun q => q.2.1 h
theorem can_s {f : Nat → Int32} {c : Int} (h : sAt f c) : ¬ canR f c := fun q => q.2.2 h
theorem can_y {f : Nat → Int32} {c : Int} (h0 : 0 ≤ c) (h1 : ¬ wallAt f c) (h2 : ¬ gAt f c) (h3 : ¬ sAt f c) : canR f c := ⟨fun q => h1 ⟨h0, q⟩, h2, h3⟩
theorem tk_none {f : Nat → Int32} {c : Int} (h1 : ¬ gAt f c) (h2 : ¬ sAt f c) (h3 : ¬ bAt f c) (h4 : (f 6).toInt ≠ c) : ¬ takenR f c := fun q => by
  rcases q with q | q | q | q
  · exact h1 q
  · exact h2 q
  · exact h3 q
  · exact h4 q
theorem mr_body {f g : Nat → Int32} {v : Int32} {n : Int} {k : Int} (h : g = bfill f (110 + 24 * n) (110 + 24 * n + k) (-1)) (hk : k = 24) (h0 : 0 ≤ n) : upd g 1 v = addRow f 1 110 24 n.toNat v (fun _ => -1) := by
  subst h; subst hk
  funext j
  unfold addRow
  by_cases q : j = 1
  · rw [if_pos q, q, upd_eq]
  · rw [if_neg q, upd_ne q]
    unfold bfill
    by_cases r : 110 + 24 * n ≤ (j : Int) ∧ (j : Int) < 110 + 24 * n + 24
    · rw [if_pos r, if_pos (by omega)]
    · rw [if_neg r, if_neg (by omega)]
theorem img_fun {f g r ke : Nat → Int32} {p k : Int32} (ok : okM p) (hk : k.toInt = 5740) (e : ∀ j : Nat, (j : Int) < k.toInt → g (5740 * p.toInt.toNat + j) = r j) (e2 : ∀ j : Nat, ((j : Int) < 5740 * p.toInt ∨ 5740 * p.toInt + 5740 ≤ (j : Int)) → g j = f j) : g = simg f r p := by
  have ok2 := ok
  unfold okM at ok2
  rw [(img_0 (im := f) (f := r) (ke := r) ok).2.1]
  funext j
  unfold imgR
  by_cases q : 5740 * p.toInt.toNat ≤ j ∧ j < 5740 * p.toInt.toNat + 5740
  · rw [if_pos q, ← e (j - 5740 * p.toInt.toNat) (by omega)]
    congr 1; omega
  · rw [if_neg q]; exact e2 j (by omega)
/-! what a call leaves as it was, piece by piece -/
theorem kQG_wall {f : Nat → Int32} {n0 : Int32} {t0 : Nat → Int32} {gb0 : Int64} {c i : Int32} (h0 : QG n0 t0 gb0 f) : QG n0 t0 gb0 (swall f c i) := hg_c h0 (fun j hj => kp_wall (by omega))
theorem kQB_wall {f : Nat → Int32} {n0 : Int32} {t0 : Nat → Int32} {bb0 : Nat → Int64} {c i : Int32} (h0 : QB n0 t0 bb0 f) : QB n0 t0 bb0 (swall f c i) := hb_c h0 (fun j hj => kp_wall (by omega))
theorem kQS_wall {f : Nat → Int32} {n0 : Int32} {t0 : Nat → Int32} {c i : Int32} (h0 : QS n0 t0 f) : QS n0 t0 (swall f c i) := hs_c h0 (fun j hj => kp_wall (by omega))
theorem kQP_wall {f : Nat → Int32} {n0 : Int32} {t0 : Nat → Int32} {c i : Int32} (h0 : QP n0 t0 f) : QP n0 t0 (swall f c i) := hp_c h0 (fun j hj => kp_wall (by omega))
theorem kQW_wall {f : Nat → Int32} {n0 : Int32} {t0 : Nat → Int32} {c i : Int32} (h0 : QW n0 t0 f) : QW n0 t0 (swall f c i) := hwi_c h0 (fun j hj => kp_wall (by omega))
theorem kQH_glass {f : Nat → Int32} {wa0 : Int64} {le0 st0 : Int32} {c s l d : Int32} (b0 : (f 0).toInt ≤ 6) (h0 : QH wa0 le0 st0 f) : QH wa0 le0 st0 (sglass f c s l d) := hh_c h0 (fun j hj => kp_glass b0 (by omega))
theorem kQB_glass {f : Nat → Int32} {n0 : Int32} {t0 : Nat → Int32} {bb0 : Nat → Int64} {c s l d : Int32} (b0 : (f 0).toInt ≤ 6) (h0 : QB n0 t0 bb0 f) : QB n0 t0 bb0 (sglass f c s l d) := hb_c h0 (fun j hj => kp_glass b0 (by omega))
theorem kQS_glass {f : Nat → Int32} {n0 : Int32} {t0 : Nat → Int32} {c s l d : Int32} (b0 : (f 0).toInt ≤ 6) (h0 : QS n0 t0 f) : QS n0 t0 (sglass f c s l d) := hs_c h0 (fun j hj => kp_glass b0 (by omega))
theorem kQP_glass {f : Nat → Int32} {n0 : Int32} {t0 : Nat → Int32} {c s l d : Int32} (b0 : (f 0).toInt ≤ 6) (h0 : QP n0 t0 f) : QP n0 t0 (sglass f c s l d) := hp_c h0 (fun j hj => kp_glass b0 (by omega))
theorem kQW_glass {f : Nat → Int32} {n0 : Int32} {t0 : Nat → Int32} {c s l d : Int32} (b0 : (f 0).toInt ≤ 6) (h0 : QW n0 t0 f) : QW n0 t0 (sglass f c s l d) := hwi_c h0 (fun j hj => kp_glass b0 (by omega))
theorem kQH_turn {f : Nat → Int32} {wa0 : Int64} {le0 st0 : Int32} {g w v : Int32} (b0 : (f 0).toInt ≤ 6) (h0 : QH wa0 le0 st0 f) : QH wa0 le0 st0 (sturn f g w v) := hh_c h0 (fun j hj => kp_turn b0 (by omega))
theorem kQB_turn {f : Nat → Int32} {n0 : Int32} {t0 : Nat → Int32} {bb0 : Nat → Int64} {g w v : Int32} (b0 : (f 0).toInt ≤ 6) (h0 : QB n0 t0 bb0 f) : QB n0 t0 bb0 (sturn f g w v) := hb_c h0 (fun j hj => kp_turn b0 (by omega))
theorem kQS_turn {f : Nat → Int32} {n0 : Int32} {t0 : Nat → Int32} {g w v : Int32} (b0 : (f 0).toInt ≤ 6) (h0 : QS n0 t0 f) : QS n0 t0 (sturn f g w v) := hs_c h0 (fun j hj => kp_turn b0 (by omega))
theorem kQP_turn {f : Nat → Int32} {n0 : Int32} {t0 : Nat → Int32} {g w v : Int32} (b0 : (f 0).toInt ≤ 6) (h0 : QP n0 t0 f) : QP n0 t0 (sturn f g w v) := hp_c h0 (fun j hj => kp_turn b0 (by omega))
theorem kQW_turn {f : Nat → Int32} {n0 : Int32} {t0 : Nat → Int32} {g w v : Int32} (b0 : (f 0).toInt ≤ 6) (h0 : QW n0 t0 f) : QW n0 t0 (sturn f g w v) := hwi_c h0 (fun j hj => kp_turn b0 (by omega))
theorem kQH_body {f : Nat → Int32} {wa0 : Int64} {le0 st0 : Int32}  (b0 : (f 1).toInt ≤ 5) (h0 : QH wa0 le0 st0 f) : QH wa0 le0 st0 (sbody f) := hh_c h0 (fun j hj => kp_body b0 (by omega))
theorem kQG_body {f : Nat → Int32} {n0 : Int32} {t0 : Nat → Int32} {gb0 : Int64}  (b0 : (f 1).toInt ≤ 5) (h0 : QG n0 t0 gb0 f) : QG n0 t0 gb0 (sbody f) := hg_c h0 (fun j hj => kp_body b0 (by omega))
theorem kQS_body {f : Nat → Int32} {n0 : Int32} {t0 : Nat → Int32}  (b0 : (f 1).toInt ≤ 5) (h0 : QS n0 t0 f) : QS n0 t0 (sbody f) := hs_c h0 (fun j hj => kp_body b0 (by omega))
theorem kQP_body {f : Nat → Int32} {n0 : Int32} {t0 : Nat → Int32}  (b0 : (f 1).toInt ≤ 5) (h0 : QP n0 t0 f) : QP n0 t0 (sbody f) := hp_c h0 (fun j hj => kp_body b0 (by omega))
theorem kQW_body {f : Nat → Int32} {n0 : Int32} {t0 : Nat → Int32}  (b0 : (f 1).toInt ≤ 5) (h0 : QW n0 t0 f) : QW n0 t0 (sbody f) := hwi_c h0 (fun j hj => kp_body b0 (by omega))
theorem kQH_stay {f : Nat → Int32} {wa0 : Int64} {le0 st0 : Int32} {b a e c : Int32} (b0 : (f 1).toInt ≤ 5) (h0 : QH wa0 le0 st0 f) : QH wa0 le0 st0 (sstay f b a e c) := hh_c h0 (fun j hj => kp_stay b0 (by omega))
theorem kQG_stay {f : Nat → Int32} {n0 : Int32} {t0 : Nat → Int32} {gb0 : Int64} {b a e c : Int32} (b0 : (f 1).toInt ≤ 5) (h0 : QG n0 t0 gb0 f) : QG n0 t0 gb0 (sstay f b a e c) := hg_c h0 (fun j hj => kp_stay b0 (by omega))
theorem kQS_stay {f : Nat → Int32} {n0 : Int32} {t0 : Nat → Int32} {b a e c : Int32} (b0 : (f 1).toInt ≤ 5) (h0 : QS n0 t0 f) : QS n0 t0 (sstay f b a e c) := hs_c h0 (fun j hj => kp_stay b0 (by omega))
theorem kQP_stay {f : Nat → Int32} {n0 : Int32} {t0 : Nat → Int32} {b a e c : Int32} (b0 : (f 1).toInt ≤ 5) (h0 : QP n0 t0 f) : QP n0 t0 (sstay f b a e c) := hp_c h0 (fun j hj => kp_stay b0 (by omega))
theorem kQW_stay {f : Nat → Int32} {n0 : Int32} {t0 : Nat → Int32} {b a e c : Int32} (b0 : (f 1).toInt ≤ 5) (h0 : QW n0 t0 f) : QW n0 t0 (sstay f b a e c) := hwi_c h0 (fun j hj => kp_stay b0 (by omega))
theorem kQG_least {f : Nat → Int32} {n0 : Int32} {t0 : Nat → Int32} {gb0 : Int64} {v : Int32} (h0 : QG n0 t0 gb0 f) : QG n0 t0 gb0 (sleast f v) := hg_c h0 (fun j hj => kp_least (by omega))
theorem kQB_least {f : Nat → Int32} {n0 : Int32} {t0 : Nat → Int32} {bb0 : Nat → Int64} {v : Int32} (h0 : QB n0 t0 bb0 f) : QB n0 t0 bb0 (sleast f v) := hb_c h0 (fun j hj => kp_least (by omega))
theorem kQS_least {f : Nat → Int32} {n0 : Int32} {t0 : Nat → Int32} {v : Int32} (h0 : QS n0 t0 f) : QS n0 t0 (sleast f v) := hs_c h0 (fun j hj => kp_least (by omega))
theorem kQP_least {f : Nat → Int32} {n0 : Int32} {t0 : Nat → Int32} {v : Int32} (h0 : QP n0 t0 f) : QP n0 t0 (sleast f v) := hp_c h0 (fun j hj => kp_least (by omega))
theorem kQW_least {f : Nat → Int32} {n0 : Int32} {t0 : Nat → Int32} {v : Int32} (h0 : QW n0 t0 f) : QW n0 t0 (sleast f v) := hwi_c h0 (fun j hj => kp_least (by omega))
theorem kQG_start {f : Nat → Int32} {n0 : Int32} {t0 : Nat → Int32} {gb0 : Int64} {c : Int32} (h0 : QG n0 t0 gb0 f) : QG n0 t0 gb0 (sstart f c) := hg_c h0 (fun j hj => kp_start (by omega))
theorem kQB_start {f : Nat → Int32} {n0 : Int32} {t0 : Nat → Int32} {bb0 : Nat → Int64} {c : Int32} (h0 : QB n0 t0 bb0 f) : QB n0 t0 bb0 (sstart f c) := hb_c h0 (fun j hj => kp_start (by omega))
theorem kQS_start {f : Nat → Int32} {n0 : Int32} {t0 : Nat → Int32} {c : Int32} (h0 : QS n0 t0 f) : QS n0 t0 (sstart f c) := hs_c h0 (fun j hj => kp_start (by omega))
theorem kQP_start {f : Nat → Int32} {n0 : Int32} {t0 : Nat → Int32} {c : Int32} (h0 : QP n0 t0 f) : QP n0 t0 (sstart f c) := hp_c h0 (fun j hj => kp_start (by omega))
theorem kQW_start {f : Nat → Int32} {n0 : Int32} {t0 : Nat → Int32} {c : Int32} (h0 : QW n0 t0 f) : QW n0 t0 (sstart f c) := hwi_c h0 (fun j hj => kp_start (by omega))
theorem kQH_sight {f : Nat → Int32} {wa0 : Int64} {le0 st0 : Int32} {c w h s : Int32} (b0 : (f 5).toInt ≤ 10) (h0 : QH wa0 le0 st0 f) : QH wa0 le0 st0 (ssight f c w h s) := hh_c h0 (fun j hj => kp_sight b0 (by omega))
theorem kQG_sight {f : Nat → Int32} {n0 : Int32} {t0 : Nat → Int32} {gb0 : Int64} {c w h s : Int32} (b0 : (f 5).toInt ≤ 10) (h0 : QG n0 t0 gb0 f) : QG n0 t0 gb0 (ssight f c w h s) := hg_c h0 (fun j hj => kp_sight b0 (by omega))
theorem kQB_sight {f : Nat → Int32} {n0 : Int32} {t0 : Nat → Int32} {bb0 : Nat → Int64} {c w h s : Int32} (b0 : (f 5).toInt ≤ 10) (h0 : QB n0 t0 bb0 f) : QB n0 t0 bb0 (ssight f c w h s) := hb_c h0 (fun j hj => kp_sight b0 (by omega))
theorem kQP_sight {f : Nat → Int32} {n0 : Int32} {t0 : Nat → Int32} {c w h s : Int32} (b0 : (f 5).toInt ≤ 10) (h0 : QP n0 t0 f) : QP n0 t0 (ssight f c w h s) := hp_c h0 (fun j hj => kp_sight b0 (by omega))
theorem kQW_sight {f : Nat → Int32} {n0 : Int32} {t0 : Nat → Int32} {c w h s : Int32} (b0 : (f 5).toInt ≤ 10) (h0 : QW n0 t0 f) : QW n0 t0 (ssight f c w h s) := hwi_c h0 (fun j hj => kp_sight b0 (by omega))
theorem kQH_drop {f : Nat → Int32} {wa0 : Int64} {le0 st0 : Int32} {i : Int32} (h0 : QH wa0 le0 st0 f) : QH wa0 le0 st0 (sdrop f i) := hh_c h0 (fun j hj => kp_drop (by omega))
theorem kQG_drop {f : Nat → Int32} {n0 : Int32} {t0 : Nat → Int32} {gb0 : Int64} {i : Int32} (h0 : QG n0 t0 gb0 f) : QG n0 t0 gb0 (sdrop f i) := hg_c h0 (fun j hj => kp_drop (by omega))
theorem kQB_drop {f : Nat → Int32} {n0 : Int32} {t0 : Nat → Int32} {bb0 : Nat → Int64} {i : Int32} (h0 : QB n0 t0 bb0 f) : QB n0 t0 bb0 (sdrop f i) := hb_c h0 (fun j hj => kp_drop (by omega))
theorem kQP_drop {f : Nat → Int32} {n0 : Int32} {t0 : Nat → Int32} {i : Int32} (h0 : QP n0 t0 f) : QP n0 t0 (sdrop f i) := hp_c h0 (fun j hj => kp_drop (by omega))
theorem kQW_drop {f : Nat → Int32} {n0 : Int32} {t0 : Nat → Int32} {i : Int32} (h0 : QW n0 t0 f) : QW n0 t0 (sdrop f i) := hwi_c h0 (fun j hj => kp_drop (by omega))
theorem kQH_spot {f : Nat → Int32} {wa0 : Int64} {le0 st0 : Int32} {c s l : Int32} (b0 : (f 7).toInt ≤ 8) (h0 : QH wa0 le0 st0 f) : QH wa0 le0 st0 (sspot f c s l) := hh_c h0 (fun j hj => kp_spot b0 (by omega))
theorem kQG_spot {f : Nat → Int32} {n0 : Int32} {t0 : Nat → Int32} {gb0 : Int64} {c s l : Int32} (b0 : (f 7).toInt ≤ 8) (h0 : QG n0 t0 gb0 f) : QG n0 t0 gb0 (sspot f c s l) := hg_c h0 (fun j hj => kp_spot b0 (by omega))
theorem kQB_spot {f : Nat → Int32} {n0 : Int32} {t0 : Nat → Int32} {bb0 : Nat → Int64} {c s l : Int32} (b0 : (f 7).toInt ≤ 8) (h0 : QB n0 t0 bb0 f) : QB n0 t0 bb0 (sspot f c s l) := hb_c h0 (fun j hj => kp_spot b0 (by omega))
theorem kQS_spot {f : Nat → Int32} {n0 : Int32} {t0 : Nat → Int32} {c s l : Int32} (b0 : (f 7).toInt ≤ 8) (h0 : QS n0 t0 f) : QS n0 t0 (sspot f c s l) := hs_c h0 (fun j hj => kp_spot b0 (by omega))
theorem kQW_spot {f : Nat → Int32} {n0 : Int32} {t0 : Nat → Int32} {c s l : Int32} (b0 : (f 7).toInt ≤ 8) (h0 : QW n0 t0 f) : QW n0 t0 (sspot f c s l) := hwi_c h0 (fun j hj => kp_spot b0 (by omega))
theorem kQH_wish {f : Nat → Int32} {wa0 : Int64} {le0 st0 : Int32} {c w h a t i : Int32} (b0 : (f 8).toInt ≤ 6) (h0 : QH wa0 le0 st0 f) : QH wa0 le0 st0 (swish f c w h a t i) := hh_c h0 (fun j hj => kp_wish b0 (by omega))
theorem kQG_wish {f : Nat → Int32} {n0 : Int32} {t0 : Nat → Int32} {gb0 : Int64} {c w h a t i : Int32} (b0 : (f 8).toInt ≤ 6) (h0 : QG n0 t0 gb0 f) : QG n0 t0 gb0 (swish f c w h a t i) := hg_c h0 (fun j hj => kp_wish b0 (by omega))
theorem kQB_wish {f : Nat → Int32} {n0 : Int32} {t0 : Nat → Int32} {bb0 : Nat → Int64} {c w h a t i : Int32} (b0 : (f 8).toInt ≤ 6) (h0 : QB n0 t0 bb0 f) : QB n0 t0 bb0 (swish f c w h a t i) := hb_c h0 (fun j hj => kp_wish b0 (by omega))
theorem kQS_wish {f : Nat → Int32} {n0 : Int32} {t0 : Nat → Int32} {c w h a t i : Int32} (b0 : (f 8).toInt ≤ 6) (h0 : QS n0 t0 f) : QS n0 t0 (swish f c w h a t i) := hs_c h0 (fun j hj => kp_wish b0 (by omega))
theorem kQP_wish {f : Nat → Int32} {n0 : Int32} {t0 : Nat → Int32} {c w h a t i : Int32} (b0 : (f 8).toInt ≤ 6) (h0 : QP n0 t0 f) : QP n0 t0 (swish f c w h a t i) := hp_c h0 (fun j hj => kp_wish b0 (by omega))
theorem kQH_row {f : Nat → Int32} {wa0 : Int64} {le0 st0 : Int32} {u : Nat → Int32} {td : Int32} (b0 : (f 1).toInt ≤ 5) (h0 : QH wa0 le0 st0 f) : QH wa0 le0 st0 (srow u td f) := hh_c h0 (fun j hj => kp_row b0 (by omega))
theorem kQG_row {f : Nat → Int32} {n0 : Int32} {t0 : Nat → Int32} {gb0 : Int64} {u : Nat → Int32} {td : Int32} (b0 : (f 1).toInt ≤ 5) (h0 : QG n0 t0 gb0 f) : QG n0 t0 gb0 (srow u td f) := hg_c h0 (fun j hj => kp_row b0 (by omega))
theorem kQS_row {f : Nat → Int32} {n0 : Int32} {t0 : Nat → Int32} {u : Nat → Int32} {td : Int32} (b0 : (f 1).toInt ≤ 5) (h0 : QS n0 t0 f) : QS n0 t0 (srow u td f) := hs_c h0 (fun j hj => kp_row b0 (by omega))
theorem kQP_row {f : Nat → Int32} {n0 : Int32} {t0 : Nat → Int32} {u : Nat → Int32} {td : Int32} (b0 : (f 1).toInt ≤ 5) (h0 : QP n0 t0 f) : QP n0 t0 (srow u td f) := hp_c h0 (fun j hj => kp_row b0 (by omega))
theorem kQW_row {f : Nat → Int32} {n0 : Int32} {t0 : Nat → Int32} {u : Nat → Int32} {td : Int32} (b0 : (f 1).toInt ≤ 5) (h0 : QW n0 t0 f) : QW n0 t0 (srow u td f) := hwi_c h0 (fun j hj => kp_row b0 (by omega))
theorem nw_least {f : Nat → Int32} {v : Int32} (b : bd3 f) (h0 : NW f) : NW (sleast f v) := nw_c b (fun j hj => kp_least (by omega)) h0
theorem nw_sight {f : Nat → Int32} {c w h s : Int32} (b : bd3 f) (b0 : (f 5).toInt ≤ 10) (h0 : NW f) : NW (ssight f c w h s) := nw_c b (fun j hj => kp_sight b0 (by omega)) h0
theorem nw_drop {f : Nat → Int32} {i : Int32} (b : bd3 f) (h0 : NW f) : NW (sdrop f i) := nw_c b (fun j hj => kp_drop (by omega)) h0
theorem nw_wish {f : Nat → Int32} {c w h a t i : Int32} (b : bd3 f) (b0 : (f 8).toInt ≤ 6) (h0 : NW f) : NW (swish f c w h a t i) := nw_c b (fun j hj => kp_wish b0 (by omega)) h0
theorem nw_turn {f : Nat → Int32} {g w v : Int32} (b : bd3 f) (h0 : NW f) : NW (sturn f g w v) := by
  refine nw_c b (fun j hj => ?_) h0
  by_cases q : okT w v ∧ isG f g
  · have q1 := q.1
    have q2 := q.2
    have q3 := b.1
    unfold okT at q1
    unfold isG at q2
    unfold sturn; rw [cif_t q]
    exact upd_ne (by omega)
  · unfold sturn; rw [cif_f q]
theorem hg_b {n : Int32} {t : Nat → Int32} {gb : Int64} {f : Nat → Int32} (h : QG n t gb f) : (f 0).toInt ≤ 6 := by rw [h.2.1]; exact h.1.2
theorem hb_b {n : Int32} {t : Nat → Int32} {bb : Nat → Int64} {f : Nat → Int32} (h : QB n t bb f) : (f 1).toInt ≤ 5 := by rw [h.2.1]; exact h.1.2
theorem hs_b {n : Int32} {t f : Nat → Int32} (h : QS n t f) : (f 5).toInt ≤ 10 := by rw [h.2.1]; exact h.1.2
theorem hp_b {n : Int32} {t f : Nat → Int32} (h : QP n t f) : (f 7).toInt ≤ 8 := by rw [h.2.1]; exact h.1.2
theorem hwi_b {n : Int32} {t f : Nat → Int32} (h : QW n t f) : (f 8).toInt ≤ 6 := by rw [h.2.1]; exact h.1.2
theorem hg_0 {n : Int32} {t : Nat → Int32} {gb : Int64} {f : Nat → Int32} (h : QG n t gb f) : 0 ≤ (f 0).toInt := by rw [h.2.1]; exact h.1.1
theorem hb_0 {n : Int32} {t : Nat → Int32} {bb : Nat → Int64} {f : Nat → Int32} (h : QB n t bb f) : 0 ≤ (f 1).toInt := by rw [h.2.1]; exact h.1.1
theorem hp_0 {n : Int32} {t f : Nat → Int32} (h : QP n t f) : 0 ≤ (f 7).toInt := by rw [h.2.1]; exact h.1.1
theorem hg_same {n : Int32} {t u : Nat → Int32} {gb : Int64} {f : Nat → Int32} (h : QG n t gb f) (e : ∀ r c : Int, tget u n.toInt 5 r c = tget t n.toInt 5 r c) : QG n u gb f := by
  obtain ⟨a, b, c, d, i⟩ := h
  refine ⟨a, b, fun r q x y => (c r q x y).trans (e _ _).symm, fun q x y z => ?_, fun r x y => ?_⟩
  · obtain ⟨r, s, t, v⟩ := d q x y z
    exact ⟨r, s, t, by rw [e]; exact v⟩
  · rw [e]; exact i r x y
theorem okM_0 : okM 0 := by unfold okM; decide
theorem okM_1 : okM 1 := by unfold okM; decide
theorem skep_0 {ke : Nat → Int32} : upd ke 0 1 = skep ke 0 := by
  rw [(img_0 (im := ke) (f := ke) okM_0).2.2, show (0 : Int32).toInt.toNat = 0 from by decide]
theorem skep_1 {ke : Nat → Int32} : upd ke 1 1 = skep ke 1 := by
  rw [(img_0 (im := ke) (f := ke) okM_1).2.2, show (1 : Int32).toInt.toNat = 1 from by decide]
theorem back_k0 {f im ke : Nat → Int32} (h : (ke 0).toInt = 0) : aback ke 0 = -2 ∧ sback f im ke 0 = f := back_2 okM_0 (by rw [show (0 : Int32).toInt.toNat = 0 from by decide]; exact h)
theorem back_k1 {f im ke : Nat → Int32} (h : (ke 1).toInt = 0) : aback ke 1 = -2 ∧ sback f im ke 1 = f := back_2 okM_1 (by rw [show (1 : Int32).toInt.toNat = 1 from by decide]; exact h)
/-! wandering: draws, cells -/
theorem lr64 {x n : Int64} {a b : Int} (hx : x.toInt = a) (hn : n.toInt = b) (h0 : 0 ≤ a) (hb : 0 < b) (h1 : a < 9223372036854775808) : (x - x / n * n).toInt = a % b := by
  have hd : (x / n).toInt = a / b := by
    rw [Int64.toInt_div, hx, hn, Int.tdiv_eq_ediv_of_nonneg h0]
    have k1 : 0 ≤ a / b := Int.ediv_nonneg h0 (Int.le_of_lt hb)
    have k2 : a / b ≤ a := Int.ediv_le_self _ h0
    exact g5_bm64 (by omega) (by omega)
  have e : a % b = a - a / b * b := by rw [Int.emod_def, Int.mul_comm]
  have k1 : 0 ≤ a % b := Int.emod_nonneg _ (by omega)
  have k2 : 0 ≤ a / b * b := Int.mul_nonneg (Int.ediv_nonneg h0 (Int.le_of_lt hb)) (Int.le_of_lt hb)
  have hm : (x / n * n).toInt = a / b * b := by
    rw [Int64.toInt_mul, hd, hn]; exact g5_bm64 (by omega) (by omega)
  rw [e]
  exact g5_lsub hx hm (by omega) (by omega)
def drw (x : Int64) : Int64 := ((x * 1103) + 12345) - ((x * 1103) + 12345) / 1000003 * 1000003
theorem drw_rg {x : Int64} (h0 : 0 ≤ x.toInt) (h1 : x.toInt ≤ 1000003) : 0 ≤ (drw x).toInt ∧ (drw x).toInt ≤ 1000003 := by
  have e1 : (x * 1103).toInt = x.toInt * 1103 := by
    rw [Int64.toInt_mul, show (1103 : Int64).toInt = 1103 from by decide]; exact g5_bm64 (by omega) (by omega)
  have e2 : ((x * 1103) + 12345).toInt = x.toInt * 1103 + 12345 := by
    rw [Int64.toInt_add, e1, show (12345 : Int64).toInt = 12345 from by decide]; exact g5_bm64 (by omega) (by omega)
  have e3 : (drw x).toInt = (x.toInt * 1103 + 12345) % 1000003 := lr64 e2 (by decide) (by omega) (by omega) (by omega)
  rw [e3]; omega
def wdS (s : Int64) : Nat → Int64
  | 0 => s
  | h + 1 => drw (wdS s h)
theorem wdS_S {s : Int64} {n : Nat} : wdS s (n + 1) = drw (wdS s n) := rfl
theorem wdS_rg {s : Int64} (h0 : 0 ≤ s.toInt) (h1 : s.toInt ≤ 1000000) : ∀ n : Nat, 0 ≤ (wdS s n).toInt ∧ (wdS s n).toInt ≤ 1000003 := by
  intro n
  induction n with
  | zero => exact ⟨h0, by show s.toInt ≤ 1000003; omega⟩
  | succ n ih => exact drw_rg ih.1 ih.2
def wdK (s : Int64) (h : Nat) : Int32 := (wdS s h - wdS s h / 5 * 5).toInt32
theorem wdK_rg {s : Int64} (h0 : 0 ≤ s.toInt) (h1 : s.toInt ≤ 1000000) (n : Nat) : 0 ≤ (wdK s n).toInt ∧ (wdK s n).toInt ≤ 4 := by
  have r := wdS_rg h0 h1 n
  have e : (wdS s n - wdS s n / 5 * 5).toInt = (wdS s n).toInt % 5 := lr64 rfl (by decide) r.1 (by omega) (by omega)
  unfold wdK
  rw [Int64.toInt_toInt32, e, g5_bm (by omega) (by omega)]
  omega
noncomputable def wstep (f : Nat → Int32) (a k : Int) : Int := cif (bs a k = -1 ∨ wallAt f (bs a k)) a (bs a k)
theorem ws_n {f : Nat → Int32} {a k : Int} (h : bs a k = -1) : wstep f a k = a := cif_t (Or.inl h)
theorem ws_w {f : Nat → Int32} {a k : Int} (h : wallAt f (bs a k)) : wstep f a k = a := cif_t (Or.inr h)
theorem ws_y {f : Nat → Int32} {a k : Int} (h : bs a k ≠ -1) (h2 : ¬ wallAt f (bs a k)) : wstep f a k = bs a k := cif_f (fun q => q.elim h h2)
theorem ws_4 {f : Nat → Int32} {a k : Int} (h : bs a k = a) : wstep f a k = a := by
  unfold wstep
  by_cases q : bs a k = -1 ∨ wallAt f (bs a k)
  · rw [cif_t q]
  · rw [cif_f q, h]
noncomputable def wdC (f : Nat → Int32) (s : Int64) (c : Int) : Nat → Int
  | 0 => c
  | h + 1 => wstep f (wdC f s c h) (wdK s (h + 1)).toInt
theorem wdC_S {f : Nat → Int32} {s : Int64} {c : Int} {n : Nat} {y : Int32} (h : wdK s (n + 1) = y) : wdC f s c (n + 1) = wstep f (wdC f s c n) y.toInt := by subst h; rfl
noncomputable def wdR (f : Nat → Int32) (s : Int64) (c : Int) (g : Nat → Int32) : Nat → (Nat → Int32)
  | 0 => g
  | k + 1 => upd (wdR f s c g k) k (Int32.ofInt (wdC f s c k))
theorem wdR_S {f : Nat → Int32} {s : Int64} {c : Int} {g r : Nat → Int32} {k x : Nat} {v : Int32} (h : r = wdR f s c g k) (hx : x = k) (hv : v.toInt = wdC f s c k) : upd r x v = wdR f s c g (k + 1) := by
  subst h; subst hx
  show upd _ _ v = upd _ _ (Int32.ofInt (wdC f s c x))
  rw [← ofInt_i hv]
theorem wdk_of {s d : Int64} {n : Nat} {y : Int32} (hd : d = wdS s n) (hy : (drw d - drw d / 5 * 5).toInt32 = y) : wdK s (n + 1) = y := by
  subst hd; exact hy
def okD (s c : Int32) : Prop := (0 ≤ s.toInt ∧ s.toInt ≤ 1000000) ∧ (0 ≤ c.toInt ∧ c.toInt ≤ 63)
noncomputable def swand (f g : Nat → Int32) (s c : Int32) : Nat → Int32 := cif (okD s c ∧ ¬ wallAt f c.toInt) (wdR f s.toInt64 c.toInt g 24) g
noncomputable def swanf (f : Nat → Int32) (n s c : Int32) : Int32 := cif (okD s c ∧ ¬ wallAt f c.toInt) 1 n
theorem wand_0 {f g : Nat → Int32} {n s c : Int32} (h : okD s c) (h2 : ¬ wallAt f c.toInt) : swand f g s c = wdR f s.toInt64 c.toInt g 24 ∧ swanf f n s c = 1 := ⟨cif_t ⟨h, h2⟩, cif_t ⟨h, h2⟩⟩
theorem wand_1 {f g : Nat → Int32} {n s c : Int32} (h : ¬ okD s c) : swand f g s c = g ∧ swanf f n s c = n := ⟨cif_f (fun q => h q.1), cif_f (fun q => h q.1)⟩
theorem wand_3 {f g : Nat → Int32} {n s c : Int32} (h : wallAt f c.toInt) : swand f g s c = g ∧ swanf f n s c = n := ⟨cif_f (fun q => q.2 h), cif_f (fun q => q.2 h)⟩
noncomputable def adrawn (g : Nat → Int32) (n h : Int32) : Int32 := cif (n.toInt ≠ 0 ∧ 0 ≤ h.toInt ∧ h.toInt ≤ 23) (g h.toInt.toNat) (-1)
theorem bs_4 {c k : Int} (h : k = 4) : bs c k = c := by subst h; unfold bs; rw [if_neg (by omega), if_neg (by omega), if_neg (by omega), if_neg (by omega)]
/-! laws: what a text tells, by its kinds of tokens; the model's machine over them -/
abbrev DS : Type := (Nat → Int64) → Option Int64
def rb {α β : Type} (r : Nat × Nat × Option α) (k : Nat → Nat → α → Nat × Nat × Option β) : Nat × Nat × Option β :=
  match r with
  | (a, p, none) => (a, p, none)
  | (a, p, some d) => k a p d
def SpS {α : Type} (good : Nat → Nat → α → Prop) (bad : Nat → Prop) (r : Nat × Nat × Option α) : Prop :=
  match r with
  | (a, _, none) => bad a
  | (a, p, some d) => good a p d
theorem sp_rb {α β : Type} {G1 : Nat → Nat → α → Prop} {B1 B : Nat → Prop} {G : Nat → Nat → β → Prop} {r : Nat × Nat × Option α} {k : Nat → Nat → α → Nat × Nat × Option β} (h : SpS G1 B1 r) (hB : ∀ a, B1 a → B a) (hk : ∀ a p d, G1 a p d → SpS G B (k a p d)) : SpS G B (rb r k) := by
  obtain ⟨a, p, d⟩ := r
  cases d with
  | none => exact hB a h
  | some d => exact hk a p d h
theorem sp_mono {α : Type} {G1 G : Nat → Nat → α → Prop} {B1 B : Nat → Prop} {r : Nat × Nat × Option α} (h : SpS G1 B1 r) (hB : ∀ a, B1 a → B a) (hG : ∀ a p d, G1 a p d → G a p d) : SpS G B r := by
  obtain ⟨a, p, d⟩ := r
  cases d with
  | none => exact hB a h
  | some d => exact hG a p d h
def bv (o : Int) (a b : Int64) : Int64 := if o = 20 then a + b else if o = 21 then a - b else if o = 22 then a * b else if o = 23 then a / b else if o = 24 then (if a < b then 1 else 0) else if o = 25 then (if b < a then 1 else 0) else (if a = b then 1 else 0)
def bo (o : Int) (a b : Int64) : Option Int64 := if o = 23 ∧ b = 0 then none else if -1000000000 ≤ (bv o a b).toInt ∧ (bv o a b).toInt ≤ 1000000000 then some (bv o a b) else none
def bS (o : Int) (l r : DS) : DS := fun q => (l q).bind fun a => (r q).bind fun b => bo o a b
def nS (d : DS) : DS := fun q => (d q).map fun v => 1 - v
def nT (t : Bool) (d : DS) : DS := if t = true then nS d else d
def aT (l r : DS) : DS := fun q => (l q).bind fun v => if v = 0 then some v else r q
def oT (l r : DS) : DS := fun q => (l q).bind fun v => if v = 0 then r q else some v
def lfS (k : Int) (n : Int32) : DS := fun q => if k = 300 then some n.toInt64 else some (q (k - 264).toNat)
def is01 (d : DS) : Prop := ∀ q v, d q = some v → v = 0 ∨ v = 1
/-- what is read -/
def partP (lo : Option (Nat → Nat → Nat × Nat × Option DS)) (kd : Nat → Int) (nm : Nat → Int32) (a p : Nat) : Nat × Nat × Option DS :=
  if kd a = 91 then
    match lo with
    | none => (a, p, none)
    | some f => rb (f (a + 1) p) fun b q d => if kd b = 93 then (b + 1, q, some d) else (b, q, none)
  else if (kd a = 300 ∨ (264 ≤ kd a ∧ kd a < 272)) ∧ p < 50 then (a + 1, p + 1, some (lfS (kd a) (nm a)))
  else (a, p, none)
def opM (k : Int) : Int := if k = 43 then 20 else if k = 45 then 21 else if k = 42 then 22 else if k = 47 then 23 else 0
def cpM (k : Int) : Int := if k = 60 then 24 else if k = 62 then 25 else if k = 61 then 26 else 0
theorem opM_rg (k : Int) : opM k = 0 ∨ (20 ≤ opM k ∧ opM k ≤ 23) := by unfold opM; repeat (split; omega); omega
theorem cpM_rg (k : Int) : cpM k = 0 ∨ (24 ≤ cpM k ∧ cpM k ≤ 26) := by unfold cpM; repeat (split; omega); omega
theorem opM_302 {k : Int} (h : opM k ≠ 0) : k ≠ 302 := by intro e; subst e; exact h (by decide)
theorem cpM_302 {k : Int} (h : cpM k ≠ 0) : k ≠ 302 := by intro e; subst e; exact h (by decide)
def pnd (w : Option (Int × DS)) (d : DS) : DS :=
  match w with
  | none => d
  | some x => bS x.1 x.2 d
def sumL (pt : Nat → Nat → Nat × Nat × Option DS) (kd : Nat → Int) : Nat → Nat → Nat → Option (Int × DS) → DS → Nat × Nat × Option DS
  | 0, a, p, _, _ => (a, p, none)
  | n + 1, a, p, w, d =>
    if opM (kd a) = 0 then (a, p, some (pnd w d))
    else rb (pt (a + 1) p) fun b q e => if opM (kd a) ≤ 21 then sumL pt kd n b q (some (opM (kd a), pnd w d)) e else sumL pt kd n b q w (bS (opM (kd a)) d e)
def sumP (lo : Option (Nat → Nat → Nat × Nat × Option DS)) (kd : Nat → Int) (nm : Nat → Int32) (a p : Nat) : Nat × Nat × Option DS :=
  rb (partP lo kd nm a p) fun b q d => sumL (partP lo kd nm) kd 400 b q none d
def notL (kd : Nat → Int) : Nat → Nat → Bool → Nat × Bool
  | 0, a, t => (a, t)
  | n + 1, a, t => if kd a = 263 then notL kd n (a + 1) (!t) else (a, t)
def plainP (sm : Nat → Nat → Nat × Nat × Option DS) (lt : Option (Nat → Nat → Nat × Nat × Option DS)) (kd : Nat → Int) (a p : Nat) : Nat × Nat × Option DS :=
  if kd (notL kd 400 a false).1 = 40 then
    match lt with
    | none => ((notL kd 400 a false).1, p, none)
    | some f => rb (f ((notL kd 400 a false).1 + 1) p) fun b q d => if kd b = 41 then (b + 1, q, some (nT (notL kd 400 a false).2 d)) else (b, q, none)
  else rb (sm (notL kd 400 a false).1 p) fun b q l => if cpM (kd b) = 0 then (b, q, none) else rb (sm (b + 1) q) fun b' q' r => (b', q', some (nT (notL kd 400 a false).2 (bS (cpM (kd b)) l r)))
def pndT (w : Option DS) (d : DS) : DS :=
  match w with
  | none => d
  | some l => oT l d
def tstL (pl : Nat → Nat → Nat × Nat × Option DS) (kd : Nat → Int) : Nat → Nat → Nat → Option DS → DS → Nat × Nat × Option DS
  | 0, a, p, w, d => (a, p, some (pndT w d))
  | n + 1, a, p, w, d =>
    if kd a = 261 then rb (pl (a + 1) p) fun b q e => tstL pl kd n b q (some (pndT w d)) e
    else if kd a = 262 then rb (pl (a + 1) p) fun b q e => tstL pl kd n b q w (aT d e)
    else (a, p, some (pndT w d))
def testP (sm : Nat → Nat → Nat × Nat × Option DS) (lt : Option (Nat → Nat → Nat × Nat × Option DS)) (kd : Nat → Int) (a p : Nat) : Nat × Nat × Option DS :=
  rb (plainP sm lt kd a p) fun b q d => tstL (plainP sm lt kd) kd 400 b q none d
/-- sums and tests within so many brackets -/
def rdP (kd : Nat → Int) (nm : Nat → Int32) : Nat → (Nat → Nat → Nat × Nat × Option DS) × (Nat → Nat → Nat × Nat × Option DS)
  | 0 => (sumP none kd nm, testP (sumP none kd nm) none kd)
  | k + 1 => (sumP (some (rdP kd nm k).1) kd nm, testP (sumP (some (rdP kd nm k).1) kd nm) (some (rdP kd nm k).2) kd)
/-! the model's machine -/
abbrev CD : Type := (Nat → Int32) × (Nat → Int32) × Nat
abbrev PLT : Type := List (Int32 × Nat)
def emC (c : CD) (o x : Int32) : CD := (upd c.1 c.2.2 o, upd c.2.1 c.2.2 x, c.2.2 + 1)
def paC (c : CD) (j : Nat) : CD := (c.1, upd c.2.1 j (Int32.ofNat c.2.2), c.2.2)
def stl (m : Int) : PLT → CD → PLT × CD
  | [], c => ([], c)
  | (o, j) :: L, c => if m ≤ bnd o.toInt then stl m L (if o.toInt = 28 ∨ o.toInt = 29 then paC c j else emC c o 0) else ((o, j) :: L, c)
theorem stl_y {m : Int} {o : Int32} {j : Nat} {L : PLT} {c : CD} (h : m ≤ bnd o.toInt) : stl m ((o, j) :: L) c = stl m L (if o.toInt = 28 ∨ o.toInt = 29 then paC c j else emC c o 0) := by
  show (if _ then _ else _) = _; rw [if_pos h]
theorem stl_n {m : Int} {o : Int32} {j : Nat} {L : PLT} {c : CD} (h : ¬ m ≤ bnd o.toInt) : stl m ((o, j) :: L) c = ((o, j) :: L, c) := by
  show (if _ then _ else _) = _; rw [if_neg h]
theorem stl_stl {m m' : Int} (h : m ≤ m') : ∀ (P : PLT) (c : CD), stl m (stl m' P c).1 (stl m' P c).2 = stl m P c := by
  intro P
  induction P with
  | nil => intro c; rfl
  | cons x L ih =>
    intro c
    obtain ⟨o, j⟩ := x
    by_cases q : m' ≤ bnd o.toInt
    · rw [stl_y q, stl_y (m := m) (by omega)]; exact ih _
    · rw [stl_n q]
theorem stl_to {m m' : Int} {P P1 : PLT} {c c1 : CD} (e : stl m' P c = (P1, c1)) (h : m ≤ m') : stl m P c = stl m P1 c1 := by
  have z := stl_stl h P c
  rw [e] at z; exact z.symm
def inr : PLT → Int
  | [] => -1
  | x :: L => if 30 ≤ x.1.toInt then x.1.toInt else inr L
theorem inr_app {P : PLT} : ∀ (W : PLT), (∀ x ∈ W, x.1.toInt < 30) → inr (W ++ P) = inr P := by
  intro W
  induction W with
  | nil => intro _; rfl
  | cons x L ih =>
    intro h
    show (if 30 ≤ x.1.toInt then x.1.toInt else inr (L ++ P)) = _
    rw [if_neg (by have := h x List.mem_cons_self; omega)]
    exact ih (fun y hy => h y (List.mem_cons_of_mem _ hy))
def cmpd : PLT → Bool
  | [] => false
  | x :: L => if 20 ≤ x.1.toInt ∧ x.1.toInt ≤ 23 then cmpd L else decide (24 ≤ x.1.toInt ∧ x.1.toInt ≤ 26)
def sOps (W : PLT) : Prop := ∀ x ∈ W, 20 ≤ x.1.toInt ∧ x.1.toInt ≤ 23
theorem cmpd_app {P : PLT} : ∀ (W : PLT), sOps W → cmpd (W ++ P) = cmpd P := by
  intro W
  induction W with
  | nil => intro _; rfl
  | cons x L ih =>
    intro h
    show (if 20 ≤ x.1.toInt ∧ x.1.toInt ≤ 23 then cmpd (L ++ P) else _) = _
    rw [if_pos (h x List.mem_cons_self)]
    exact ih (fun y hy => h y (List.mem_cons_of_mem _ hy))
theorem sops_30 {W : PLT} (h : sOps W) : ∀ x ∈ W, x.1.toInt < 30 := fun x hx => by have := h x hx; omega
def sTop (P : PLT) : Prop := ∀ x L, P = x :: L → 24 ≤ x.1.toInt
theorem stl_top {m : Int} {P : PLT} {c : CD} (h : ∀ x L, P = x :: L → bnd x.1.toInt < m) : stl m P c = (P, c) := by
  cases P with
  | nil => rfl
  | cons x L => obtain ⟨o, j⟩ := x; exact stl_n (by have z : bnd o.toInt < m := h (o, j) L rfl; omega)
theorem bnd_24 {x : Int} (h : 24 ≤ x) : bnd x < 5 := by
  by_cases a : 30 ≤ x
  · rw [bnd_0 a]; decide
  · by_cases b : x = 29
    · rw [bnd_1 b]; decide
    · by_cases c : x = 28
      · rw [bnd_2 c]; decide
      · by_cases d : x = 27
        · rw [bnd_3 d]; decide
        · rw [bnd_4 h (by omega)]; decide
theorem bnd_2x {x : Int} (h : 20 ≤ x ∧ x ≤ 21) : bnd x = 5 := bnd_5 (by omega)
theorem stl_sTop {m : Int} {P : PLT} {c : CD} (hm : 5 ≤ m) (h : sTop P) : stl m P c = (P, c) := stl_top (fun x L e => by have := bnd_24 (h x L e); omega)
/-- token, turn, bad, pile, opened, code, leaves -/
abbrev MS : Type := Nat × Nat × Bool × PLT × Nat × CD × Nat
def mOpen (b : Int32) (t k : Nat) (P : PLT) (od : Nat) (c : CD) (p : Nat) : MS :=
  if od < 8 then (k + 1, t, false, (b, 0) :: P, od + 1, c, p) else (k, t, true, P, od, c, p)
def mPart (kd : Nat → Int) (nm : Nat → Int32) (k : Nat) (P : PLT) (od : Nat) (c : CD) (p : Nat) : MS :=
  if kd k = 91 then mOpen 31 1 k P od c p
  else if (kd k = 300 ∨ (264 ≤ kd k ∧ kd k < 272)) ∧ p < 50 then (k + 1, 3, false, P, od, emC c (Int32.ofInt (if kd k = 300 then 0 else kd k - 263)) (if kd k = 300 then nm k else 0), p + 1)
  else (k, 3, true, P, od, c, p)
def mPlain (kd : Nat → Int) (nm : Nat → Int32) (k : Nat) (P : PLT) (od : Nat) (c : CD) (p : Nat) : MS :=
  if kd k = 263 then (k + 1, 0, false, (27, 0) :: P, od, c, p)
  else if kd k = 40 then mOpen 30 0 k P od c p
  else mPart kd nm k P od c p
def mSum (t0 : Bool) (kd : Nat → Int) (k : Nat) (P : PLT) (od : Nat) (c : CD) (p : Nat) : MS :=
  if opM (kd k) ≠ 0 then (k + 1, 1, false, (Int32.ofInt (opM (kd k)), 0) :: (stl (bnd (opM (kd k))) P c).1, od, (stl (bnd (opM (kd k))) P c).2, p)
  else if inr P = 31 then (if kd k = 93 then (k + 1, 3, false, (stl 5 P c).1.tail, od - 1, (stl 5 P c).2, p) else (k, 3, true, P, od, c, p))
  else if inr P = -1 ∧ t0 = false then (k, 4, false, P, od, c, p)
  else if cmpd P = true then (k, 2, false, P, od, c, p)
  else if cpM (kd k) ≠ 0 then (k + 1, 1, false, (Int32.ofInt (cpM (kd k)), 0) :: (stl 5 P c).1, od, (stl 5 P c).2, p)
  else (k, 1, true, P, od, c, p)
def mTest (kd : Nat → Int) (k : Nat) (P : PLT) (od : Nat) (c : CD) (p : Nat) : MS :=
  if kd k = 262 then (k + 1, 0, false, (28, (stl 2 P c).2.2.2) :: (stl 2 P c).1, od, emC (stl 2 P c).2 28 0, p)
  else if kd k = 261 then (k + 1, 0, false, (29, (stl 1 P c).2.2.2) :: (stl 1 P c).1, od, emC (stl 1 P c).2 29 0, p)
  else if inr P = -1 then (k, 4, false, P, od, c, p)
  else if kd k = 41 then (k + 1, 2, false, (stl 1 P c).1.tail, od - 1, (stl 1 P c).2, p)
  else (k, 2, true, P, od, c, p)
def mst (t0 : Bool) (kd : Nat → Int) (nm : Nat → Int32) : MS → MS
  | (k, 0, false, P, od, c, p) => mPlain kd nm k P od c p
  | (k, 1, false, P, od, c, p) => mPart kd nm k P od c p
  | (k, 2, false, P, od, c, p) => mTest kd k P od c p
  | (k, 3, false, P, od, c, p) => mSum t0 kd k P od c p
  | S => S
def itr (f : MS → MS) : Nat → MS → MS
  | 0, S => S
  | n + 1, S => itr f n (f S)
theorem itr_add (f : MS → MS) (b : Nat) : ∀ (a : Nat) (S : MS), itr f (a + b) S = itr f b (itr f a S) := by
  intro a
  induction a with
  | zero => intro S; rw [Nat.zero_add]; rfl
  | succ a ih =>
    intro S
    rw [show a + 1 + b = (a + b) + 1 by omega]
    exact ih (f S)
def RC (f : MS → MS) (S T : MS) : Prop := ∃ n, itr f n S = T
theorem rc_rf {f : MS → MS} {S : MS} : RC f S S := ⟨0, rfl⟩
theorem rc_st {f : MS → MS} {S T : MS} (h : f S = T) : RC f S T := ⟨1, h⟩
theorem rc_tr {f : MS → MS} {S T U : MS} (h : RC f S T) (k : RC f T U) : RC f S U := by
  obtain ⟨a, ha⟩ := h
  obtain ⟨b, hb⟩ := k
  exact ⟨a + b, by rw [itr_add, ha, hb]⟩
/-- bad there -/
def BAD (f : MS → MS) (S : MS) (a : Nat) : Prop := ∃ t P od c p, RC f S (a, t, true, P, od, c, p)
theorem bad_tr {f : MS → MS} {S T : MS} {a : Nat} (h : RC f S T) (k : BAD f T a) : BAD f S a := by
  obtain ⟨t, P, od, c, p, z⟩ := k
  exact ⟨t, P, od, c, p, rc_tr h z⟩
theorem bad_st {f : MS → MS} {S : MS} {a t : Nat} {P : PLT} {od : Nat} {c : CD} {p : Nat} (h : f S = (a, t, true, P, od, c, p)) : BAD f S a := ⟨t, P, od, c, p, rc_st h⟩
/-! what the model's code computes -/
/-- whether it goes on behind: the model asks for 1, the class for what is not 0 -/
def jpB (z : Bool) (o : Int) (v : Int64) : Bool := if o = 28 then decide (v = 0) else if z = true then decide (v ≠ 0) else decide (v = 1)
def goM (z : Bool) (op ar : Nat → Int32) (q : Nat → Int64) (last : Nat) : Nat → Nat → Nat → (Nat → Int64) → Option (Nat × (Nat → Int64))
  | 0, _, n, st => some (n, st)
  | f + 1, k, n, st =>
    if k < last then
      if (op k).toInt < 20 then (if z = true ∧ 50 ≤ n then none else goM z op ar q last f (k + 1) (n + 1) (vp_updL st n (if (op k).toInt = 0 then (ar k).toInt64 else q ((op k).toInt - 1).toNat)))
      else if (op k).toInt < 27 then (if z = true ∧ n < 2 then none else
        match bo (op k).toInt (st (n - 2)) (st (n - 1)) with
        | none => none
        | some v => goM z op ar q last f (k + 1) (n - 1) (vp_updL st (n - 2) v))
      else if z = true ∧ n < 1 then none
      else if (op k).toInt = 27 then goM z op ar q last f (k + 1) n (vp_updL st (n - 1) (1 - st (n - 1)))
      else if (op k).toInt ≤ 29 then (if jpB z (op k).toInt (st (n - 1)) = true then goM z op ar q last f (max (k + 1) (ar k).toInt.toNat) n st else goM z op ar q last f (k + 1) (n - 1) st)
      else if st (n - 1) = 0 then none
      else goM z op ar q last f (k + 1) (n - 1) st
    else some (n, st)
/-- how many leaves -/
def lvM (op : Nat → Int32) (a : Nat) : Nat → Nat
  | 0 => 0
  | n + 1 => lvM op a n + (if (op (a + n)).toInt < 20 then 1 else 0)
theorem lvM_congr {op op' : Nat → Int32} {a : Nat} : ∀ n : Nat, (∀ k, a ≤ k → k < a + n → ((op' k).toInt < 20 ↔ (op k).toInt < 20)) → lvM op' a n = lvM op a n := by
  intro n
  induction n with
  | zero => intro _; rfl
  | succ n ih =>
    intro h
    show lvM op' a n + (if (op' (a + n)).toInt < 20 then 1 else 0) = lvM op a n + (if (op (a + n)).toInt < 20 then 1 else 0)
    rw [ih (fun k h1 h2 => h k h1 (by omega))]
    by_cases q : (op (a + n)).toInt < 20
    · rw [if_pos q, if_pos ((h (a + n) (by omega) (by omega)).mpr q)]
    · rw [if_neg q, if_neg (fun z => q ((h (a + n) (by omega) (by omega)).mp z))]
theorem lvM_add {op : Nat → Int32} {a n : Nat} : ∀ m : Nat, lvM op a (n + m) = lvM op a n + lvM op (a + n) m := by
  intro m
  induction m with
  | zero => rfl
  | succ m ih =>
    show lvM op a (n + m) + (if (op (a + (n + m))).toInt < 20 then 1 else 0) = lvM op a n + (lvM op (a + n) m + (if (op (a + n + m)).toInt < 20 then 1 else 0))
    rw [ih, show a + (n + m) = a + n + m by omega]; omega
def lvS (op : Nat → Int32) (a b : Nat) : Nat := lvM op a (b - a)
theorem lvS_add {op : Nat → Int32} {a m b : Nat} (h : a ≤ m) (k : m ≤ b) : lvS op a b = lvS op a m + lvS op m b := by
  unfold lvS
  have z := lvM_add (op := op) (a := a) (n := m - a) (b - m)
  rw [show m - a + (b - m) = b - a by omega, show a + (m - a) = m by omega] at z
  exact z
theorem lvS_y {op : Nat → Int32} {a : Nat} (h : (op a).toInt < 20) : lvS op a (a + 1) = 1 := by
  unfold lvS
  rw [show a + 1 - a = 0 + 1 by omega]
  show 0 + (if (op (a + 0)).toInt < 20 then 1 else 0) = 1
  rw [Nat.add_zero, if_pos h]
theorem lvS_n {op : Nat → Int32} {a : Nat} (h : 20 ≤ (op a).toInt) : lvS op a (a + 1) = 0 := by
  unfold lvS
  rw [show a + 1 - a = 0 + 1 by omega]
  show 0 + (if (op (a + 0)).toInt < 20 then 1 else 0) = 0
  rw [Nat.add_zero, if_neg (by omega)]
def MC (op ar : Nat → Int32) (a b : Nat) (d : DS) : Prop := a ≤ b ∧ 1 ≤ lvS op a b ∧ ∀ op' ar' : Nat → Int32, (∀ k, a ≤ k → k < b → op' k = op k ∧ ar' k = ar k) → ∀ (z : Bool) (q : Nat → Int64) (last n : Nat) (st : Nat → Int64) (f : Nat), b ≤ last → last ≤ a + f → (z = true → n + lvS op a b ≤ 50) → (d q = none → goM z op' ar' q last f a n st = none) ∧ (∀ v, d q = some v → ∃ (st' : Nat → Int64) (f' : Nat), last ≤ b + f' ∧ (∀ i, i < n → st' i = st i) ∧ st' n = v ∧ goM z op' ar' q last f a n st = goM z op' ar' q last f' b (n + 1) st')
theorem mc_congr {op ar op' ar' : Nat → Int32} {a b : Nat} {d : DS} (h : MC op ar a b d) (e : ∀ k, a ≤ k → k < b → op' k = op k ∧ ar' k = ar k) : MC op' ar' a b d := by
  have el : lvS op' a b = lvS op a b := lvM_congr _ (fun k h1 h2 => by rw [(e k h1 (by omega)).1])
  refine ⟨h.1, by rw [el]; exact h.2.1, fun o2 a2 e2 => ?_⟩
  rw [el]
  exact h.2.2 o2 a2 (fun k h1 h2 => ⟨(e2 k h1 h2).1.trans (e k h1 h2).1, (e2 k h1 h2).2.trans (e k h1 h2).2⟩)
theorem vpu_eq {f : Nat → Int64} {k : Nat} {x : Int64} : vp_updL f k x k = x := by unfold vp_updL; rw [if_pos rfl]
theorem vpu_ne {f : Nat → Int64} {k j : Nat} {x : Int64} (h : j ≠ k) : vp_updL f k x j = f j := by unfold vp_updL; rw [if_neg h]
theorem mc_leaf {op ar : Nat → Int32} {a : Nat} {k : Int} {n : Int32} (h : (k = 300 ∧ (op a).toInt = 0 ∧ ar a = n) ∨ (264 ≤ k ∧ k < 272 ∧ (op a).toInt = k - 263)) : MC op ar a (a + 1) (lfS k n) := by
  have h20 : (op a).toInt < 20 := by omega
  have l1 := lvS_y h20
  refine ⟨by omega, by omega, fun op' ar' e z q last m st f h1 h2 hz => ?_⟩
  rw [l1] at hz
  obtain ⟨e1, e2⟩ := e a (Nat.le_refl _) (by omega)
  obtain ⟨g, rfl⟩ : ∃ g, f = g + 1 := ⟨f - 1, by omega⟩
  have hlt : (op' a).toInt < 20 := by rw [e1]; omega
  have hgo : goM z op' ar' q last (g + 1) a m st = goM z op' ar' q last g (a + 1) (m + 1) (vp_updL st m (if (op' a).toInt = 0 then (ar' a).toInt64 else q ((op' a).toInt - 1).toNat)) := by
    show (if a < last then _ else _) = _
    rw [if_pos (by omega), if_pos hlt, if_neg (fun y => by have u := hz y.1; omega)]
  have hv : lfS k n q = some (if (op' a).toInt = 0 then (ar' a).toInt64 else q ((op' a).toInt - 1).toNat) := by
    unfold lfS
    rcases h with ⟨k1, k2, k3⟩ | ⟨k1, k2, k3⟩
    · rw [if_pos k1, if_pos (by rw [e1]; exact k2), e2, k3]
    · rw [if_neg (by omega), if_neg (by rw [e1]; omega), e1, k3, show k - 263 - 1 = k - 264 by omega]
  refine ⟨fun zz => ?_, fun v hv2 => ?_⟩
  · rw [hv] at zz; cases zz
  · rw [hv] at hv2
    exact ⟨_, g, by omega, fun i hi => vpu_ne (by omega), by rw [vpu_eq]; exact Option.some.inj hv2, hgo⟩
theorem mc_bin {op ar : Nat → Int32} {a m b : Nat} {l r : DS} {o : Int} (hl : MC op ar a m l) (hr : MC op ar m b r) (ho : (op b).toInt = o) (h1 : 20 ≤ o) (h2 : o < 27) : MC op ar a (b + 1) (bS o l r) := by
  have ha := hl.1
  have hb := hr.1
  have hl1 := hl.2.1
  have hr1 := hr.2.1
  have ls : lvS op a (b + 1) = lvS op a m + lvS op m b := by
    rw [lvS_add (m := b) (by omega) (by omega), lvS_add ha hb, lvS_n (by omega)]; rfl
  refine ⟨by omega, by omega, fun op' ar' e z q last n st f h3 h4 hz => ?_⟩
  rw [ls] at hz
  have L := hl.2.2 op' ar' (fun k x y => e k x (by omega)) z q last n st f (by omega) (by omega) (fun y => by have u := hz y; omega)
  obtain ⟨e1, e2⟩ := e b (by omega) (by omega)
  cases hlq : l q with
  | none =>
    refine ⟨fun _ => L.1 hlq, fun v hv => ?_⟩
    unfold bS at hv; rw [hlq] at hv; cases hv
  | some x =>
    obtain ⟨st1, f1, g1, g2, g3, g4⟩ := L.2 x hlq
    have Rr := hr.2.2 op' ar' (fun k x y => e k (by omega) (by omega)) z q last (n + 1) st1 f1 (by omega) (by omega) (fun y => by have u := hz y; omega)
    cases hrq : r q with
    | none =>
      refine ⟨fun _ => by rw [g4]; exact Rr.1 hrq, fun v hv => ?_⟩
      unfold bS at hv; rw [hlq] at hv
      have hv : (r q).bind (fun b => bo o x b) = some v := hv
      rw [hrq] at hv; cases hv
    | some y =>
      obtain ⟨st2, f2, k1, k2, k3, k4⟩ := Rr.2 y hrq
      have hbS : bS o l r q = bo o x y := by
        unfold bS; rw [hlq]
        show (r q).bind (fun b => bo o x b) = _
        rw [hrq]; rfl
      obtain ⟨g, rfl⟩ : ∃ g, f2 = g + 1 := ⟨f2 - 1, by omega⟩
      have hx : st2 n = x := by rw [k2 n (by omega)]; exact g3
      have hgo : goM z op' ar' q last (g + 1) b (n + 1 + 1) st2 = (match bo o x y with | none => none | some v => goM z op' ar' q last g (b + 1) (n + 1) (vp_updL st2 n v)) := by
        show (if b < last then _ else _) = _
        rw [if_pos (by omega), if_neg (by rw [e1, ho]; omega), if_pos (by rw [e1, ho]; omega), if_neg (fun y => by omega)]
        rw [show n + 1 + 1 - 2 = n by omega, show n + 1 + 1 - 1 = n + 1 by omega, hx, k3, e1, ho]
      refine ⟨fun zz => ?_, fun v hv => ?_⟩
      · rw [hbS] at zz
        rw [g4, k4, hgo, zz]
      · rw [hbS] at hv
        refine ⟨vp_updL st2 n v, g, by omega, fun i hi => ?_, vpu_eq, ?_⟩
        · rw [vpu_ne (by omega), k2 i (by omega), g2 i hi]
        · rw [g4, k4, hgo, hv]
theorem mc_not {op ar : Nat → Int32} {a b : Nat} {d : DS} (h : MC op ar a b d) (ho : (op b).toInt = 27) : MC op ar a (b + 1) (nS d) := by
  have hb := h.1
  have hl1 := h.2.1
  have ls : lvS op a (b + 1) = lvS op a b := by
    rw [lvS_add (m := b) (by omega) (by omega), lvS_n (by omega)]; rfl
  refine ⟨by omega, by omega, fun op' ar' e z q last n st f h3 h4 hz => ?_⟩
  rw [ls] at hz
  have D := h.2.2 op' ar' (fun k x y => e k x (by omega)) z q last n st f (by omega) (by omega) hz
  obtain ⟨e1, e2⟩ := e b (by omega) (by omega)
  refine ⟨fun zz => ?_, fun v hv => ?_⟩
  · cases hd : d q with
    | none => exact D.1 hd
    | some x => unfold nS at zz; rw [hd] at zz; cases zz
  · cases hd : d q with
    | none => unfold nS at hv; rw [hd] at hv; cases hv
    | some x =>
      obtain ⟨st1, f1, g1, g2, g3, g4⟩ := D.2 x hd
      have hv : some (1 - x) = some v := by unfold nS at hv; rw [hd] at hv; exact hv
      obtain ⟨g, rfl⟩ : ∃ g, f1 = g + 1 := ⟨f1 - 1, by omega⟩
      refine ⟨vp_updL st1 n (1 - x), g, by omega, fun i hi => ?_, ?_, ?_⟩
      · rw [vpu_ne (by omega), g2 i hi]
      · rw [vpu_eq]; exact Option.some.inj hv
      · rw [g4]
        show (if b < last then _ else _) = _
        rw [if_pos (by omega), if_neg (by rw [e1, ho]; omega), if_neg (by rw [e1, ho]; omega), if_neg (fun y => by omega), if_pos (by rw [e1]; exact ho)]
        rw [show n + 1 - 1 = n by omega, g3]
theorem mc_jmp {op ar : Nat → Int32} {a j b : Nat} {l r : DS} {o : Int} (hl : MC op ar a j l) (ho : (op j).toInt = o) (ho2 : o = 28 ∨ o = 29) (ht : (ar j).toInt = (b : Int)) (hr : MC op ar (j + 1) b r) (h01 : is01 l) : MC op ar a b (if o = 28 then aT l r else oT l r) := by
  have ha := hl.1
  have hb := hr.1
  have hl1 := hl.2.1
  have ls : lvS op a b = lvS op a j + lvS op (j + 1) b := by
    rw [lvS_add (m := j) (by omega) (by omega), lvS_add (a := j) (m := j + 1) (by omega) (by omega), lvS_n (by omega), Nat.zero_add]
  refine ⟨by omega, by omega, fun op' ar' e z q last n st f h3 h4 hz => ?_⟩
  rw [ls] at hz
  have L := hl.2.2 op' ar' (fun k x y => e k x (by omega)) z q last n st f (by omega) (by omega) (fun y => by have u := hz y; omega)
  obtain ⟨e1, e2⟩ := e j (by omega) (by omega)
  cases hlq : l q with
  | none =>
    refine ⟨fun _ => L.1 hlq, fun v hv => ?_⟩
    exfalso
    rcases ho2 with w | w
    · rw [if_pos w] at hv; unfold aT at hv; rw [hlq] at hv; cases hv
    · rw [if_neg (by omega)] at hv; unfold oT at hv; rw [hlq] at hv; cases hv
  | some x =>
    obtain ⟨st1, f1, g1, g2, g3, g4⟩ := L.2 x hlq
    obtain ⟨g, rfl⟩ : ∃ g, f1 = g + 1 := ⟨f1 - 1, by omega⟩
    have hval : (if o = 28 then aT l r else oT l r) q = if jpB z o x = true then some x else r q := by
      rcases ho2 with w | w
      · subst w
        rw [if_pos rfl]
        have e3 : aT l r q = if x = 0 then some x else r q := by unfold aT; rw [hlq]; rfl
        rw [e3]
        by_cases y : x = 0
        · rw [if_pos y, y, if_pos (by cases z <;> decide)]
        · have e4 : jpB z 28 x = false := by
            unfold jpB; rw [if_pos rfl]; exact decide_eq_false y
          rw [if_neg y, e4]; rfl
      · subst w
        rw [if_neg (by decide)]
        have e3 : oT l r q = if x = 0 then r q else some x := by unfold oT; rw [hlq]; rfl
        rw [e3]
        rcases h01 q x hlq with y | y
        · rw [if_pos y, y, if_neg (by cases z <;> decide)]
        · rw [y, if_neg (by decide), if_pos (by cases z <;> decide)]
    have hgo : goM z op' ar' q last (g + 1) j (n + 1) st1 = if jpB z o x = true then goM z op' ar' q last g b (n + 1) st1 else goM z op' ar' q last g (j + 1) n st1 := by
      show (if j < last then _ else _) = _
      rw [if_pos (by omega), if_neg (by rw [e1, ho]; omega), if_neg (by rw [e1, ho]; omega), if_neg (fun y => by omega), if_neg (by rw [e1, ho]; omega), if_pos (by rw [e1, ho]; omega)]
      rw [show n + 1 - 1 = n by omega, g3, e1, ho, e2, ht, show max (j + 1) ((b : Int).toNat) = b by omega]
    rw [hval]
    by_cases q9 : jpB z o x = true
    · rw [if_pos q9] at hgo ⊢
      refine ⟨fun zz => (by cases zz), fun v hv => ⟨st1, g, by omega, g2, by rw [g3]; exact Option.some.inj hv, by rw [g4, hgo]⟩⟩
    · rw [if_neg q9] at hgo ⊢
      have Rr := hr.2.2 op' ar' (fun k x y => e k (by omega) (by omega)) z q last n st1 g (by omega) (by omega) (fun y => by have u := hz y; omega)
      refine ⟨fun zz => by rw [g4, hgo]; exact Rr.1 zz, fun v hv => ?_⟩
      obtain ⟨st2, f2, k1, k2, k3, k4⟩ := Rr.2 v hv
      exact ⟨st2, f2, k1, fun i hi => by rw [k2 i hi, g2 i hi], k3, by rw [g4, hgo, k4]⟩
theorem mc_and {op ar : Nat → Int32} {a j b : Nat} {l r : DS} (hl : MC op ar a j l) (ho : (op j).toInt = 28) (ht : (ar j).toInt = (b : Int)) (hr : MC op ar (j + 1) b r) (h01 : is01 l) : MC op ar a b (aT l r) := mc_jmp hl ho (Or.inl rfl) ht hr h01
theorem mc_or {op ar : Nat → Int32} {a j b : Nat} {l r : DS} (hl : MC op ar a j l) (ho : (op j).toInt = 29) (ht : (ar j).toInt = (b : Int)) (hr : MC op ar (j + 1) b r) (h01 : is01 l) : MC op ar a b (oT l r) := mc_jmp hl ho (Or.inr rfl) ht hr h01
theorem i01_n {d : DS} (h : is01 d) : is01 (nS d) := by
  intro q v hv
  unfold nS at hv
  cases hd : d q with
  | none => rw [hd] at hv; cases hv
  | some x =>
    rw [hd] at hv
    have hv : some (1 - x) = some v := hv
    have e := Option.some.inj hv
    rcases h q x hd with y | y
    · right; rw [← e, y]; decide
    · left; rw [← e, y]; decide
theorem i01_nT {d : DS} {t : Bool} (h : is01 d) : is01 (nT t d) := by
  unfold nT; split
  · exact i01_n h
  · exact h
theorem i01_a {l r : DS} (h : is01 l) (k : is01 r) : is01 (aT l r) := by
  intro q v hv
  unfold aT at hv
  cases hd : l q with
  | none => rw [hd] at hv; cases hv
  | some x =>
    rw [hd] at hv
    have hv : (if x = 0 then some x else r q) = some v := hv
    by_cases z : x = 0
    · rw [if_pos z] at hv; left; rw [← Option.some.inj hv, z]
    · rw [if_neg z] at hv; exact k q v hv
theorem i01_o {l r : DS} (h : is01 l) (k : is01 r) : is01 (oT l r) := by
  intro q v hv
  unfold oT at hv
  cases hd : l q with
  | none => rw [hd] at hv; cases hv
  | some x =>
    rw [hd] at hv
    have hv : (if x = 0 then r q else some x) = some v := hv
    by_cases z : x = 0
    · rw [if_pos z] at hv; exact k q v hv
    · rw [if_neg z] at hv; exact h q v (hd.trans hv)
theorem i01_c {l r : DS} {o : Int} (h : 24 ≤ o) : is01 (bS o l r) := by
  intro q v hv
  unfold bS at hv
  cases hl : l q with
  | none => rw [hl] at hv; cases hv
  | some x =>
    rw [hl] at hv
    have hv : (r q).bind (fun b => bo o x b) = some v := hv
    cases hr : r q with
    | none => rw [hr] at hv; cases hv
    | some y =>
      rw [hr] at hv
      have hv : bo o x y = some v := hv
      have e : bv o x y = 0 ∨ bv o x y = 1 := by
        unfold bv
        rw [if_neg (by omega), if_neg (by omega), if_neg (by omega), if_neg (by omega)]
        split
        · split
          · exact Or.inr rfl
          · exact Or.inl rfl
        · split
          · split
            · exact Or.inr rfl
            · exact Or.inl rfl
          · split
            · exact Or.inr rfl
            · exact Or.inl rfl
      unfold bo at hv
      rw [if_neg (by omega)] at hv
      split at hv
      · rw [← Option.some.inj hv]; exact e
      · cases hv
theorem nS_nS {d : DS} : nS (nS d) = d := by
  funext q
  unfold nS
  cases d q with
  | none => rfl
  | some x =>
    show some (1 - (1 - x)) = some x
    have z : (1 : Int64) = x + (1 - x) := by
      rw [Int64.add_comm]; exact (Int64.sub_add_cancel 1 x).symm
    rw [Int64.sub_eq_iff_eq_add.mpr z]
theorem ofI {x : Int} (h : -400 ≤ x ∧ x ≤ 400) : (Int32.ofInt x).toInt = x := Int32.toInt_ofInt_of_le (by omega) (by omega)
theorem ofN {x : Nat} (h : x ≤ 400) : (Int32.ofNat x).toInt = (x : Int) := Int32.toInt_ofNat_of_lt (by omega)
/-! the machine reads what is read by rule: sums -/
def KC (c c' : CD) : Prop := c.2.2 ≤ c'.2.2 ∧ ∀ k, k < c.2.2 → c'.1 k = c.1 k ∧ c'.2.1 k = c.2.1 k
theorem kc_rf {c : CD} : KC c c := ⟨Nat.le_refl _, fun _ _ => ⟨rfl, rfl⟩⟩
theorem kc_tr {a b c : CD} (h : KC a b) (k : KC b c) : KC a c := ⟨Nat.le_trans h.1 k.1, fun j hj => by
  have x := h.2 j hj
  have y := k.2 j (Nat.lt_of_lt_of_le hj h.1)
  exact ⟨y.1.trans x.1, y.2.trans x.2⟩⟩
theorem kc_em {c : CD} {o x : Int32} : KC c (emC c o x) := ⟨Nat.le_succ _, fun k hk => ⟨upd_ne (by omega), upd_ne (by omega)⟩⟩
theorem kc_pa {c c' : CD} {j : Nat} (h : KC c c') (hj : c.2.2 ≤ j) : KC c (paC c' j) := ⟨h.1, fun k hk => ⟨(h.2 k hk).1, by
  show upd c'.2.1 j _ k = _
  rw [upd_ne (by omega)]; exact (h.2 k hk).2⟩⟩
theorem mc_kc {c c' : CD} {a b : Nat} {d : DS} (h : MC c.1 c.2.1 a b d) (k : KC c c') (hb : b ≤ c.2.2) : MC c'.1 c'.2.1 a b d := mc_congr h (fun j _ h2 => k.2 j (by omega))
def CC (c : CD) (a b : Nat) (d : DS) : Prop := MC c.1 c.2.1 a b d
theorem cc_em {c : CD} {a b : Nat} {d : DS} {o x : Int32} (h : CC c a b d) (hb : b ≤ c.2.2) : CC (emC c o x) a b d := mc_kc h kc_em hb
theorem emC_op {c : CD} {o x : Int32} : (emC c o x).1 c.2.2 = o := upd_eq
theorem emC_ar {c : CD} {o x : Int32} : (emC c o x).2.1 c.2.2 = x := upd_eq
def EN (kd : Nat → Int) (N : Nat) : Prop := N ≤ 400 ∧ ∀ k, N ≤ k → kd k = 302
theorem en_lt {kd : Nat → Int} {N a : Nat} (h : EN kd N) (k : kd a ≠ 302) : a < N := Nat.lt_of_not_le (fun q => k (h.2 a q))
section MACH
variable (t0 : Bool) (kd : Nat → Int) (nm : Nat → Int32) (N : Nat)
def PartOK (K : Nat) (f : Nat → Nat → Nat × Nat × Option DS) : Prop := ∀ (a p : Nat) (P : PLT) (od : Nat) (c : CD), od + K = 8 → a ≤ N → SpS (fun b q d => a < b ∧ b ≤ N ∧ ∃ c', RC (mst t0 kd nm) (a, 1, false, P, od, c, p) (b, 3, false, P, od, c', q) ∧ KC c c' ∧ CC c' c.2.2 c'.2.2 d ∧ c'.2.2 + a ≤ c.2.2 + b) (BAD (mst t0 kd nm) (a, 1, false, P, od, c, p)) (f a p)
def SumOK (K : Nat) (f : Nat → Nat → Nat × Nat × Option DS) : Prop := ∀ (a p : Nat) (P : PLT) (od : Nat) (c : CD), od + K = 8 → a ≤ N → sTop P → SpS (fun b q d => a < b ∧ b ≤ N ∧ opM (kd b) = 0 ∧ ∃ W c' c'', RC (mst t0 kd nm) (a, 1, false, P, od, c, p) (b, 3, false, W ++ P, od, c', q) ∧ sOps W ∧ stl 5 (W ++ P) c' = (P, c'') ∧ KC c c'' ∧ CC c'' c.2.2 c''.2.2 d ∧ c''.2.2 + a ≤ c.2.2 + b) (BAD (mst t0 kd nm) (a, 1, false, P, od, c, p)) (f a p)
end MACH
theorem stop31 {j : Nat} {P : PLT} : sTop ((31, j) :: P) := fun x L e => by
  cases e; exact (by decide : (24 : Int) ≤ (31 : Int32).toInt)
theorem part_ok {t0 : Bool} {kd : Nat → Int} {nm : Nat → Int32} {N K : Nat} {lo : Option (Nat → Nat → Nat × Nat × Option DS)} (en : EN kd N) (hlo : (lo = none ∧ K = 0) ∨ ∃ g K', lo = some g ∧ K = K' + 1 ∧ SumOK t0 kd nm N K' g) : PartOK t0 kd nm N K (partP lo kd nm) := by
  intro a p P od c hod ha
  unfold partP
  by_cases h91 : kd a = 91
  · rw [if_pos h91]
    have haN : a < N := en_lt en (by rw [h91]; decide)
    rcases hlo with ⟨rfl, hK⟩ | ⟨g, K', rfl, hK, hg⟩
    · refine bad_st (t := 1) (P := P) (od := od) (c := c) (p := p) ?_
      show (if kd a = 91 then mOpen 31 1 a P od c p else _) = _
      rw [if_pos h91]
      show (if od < 8 then _ else _) = _
      rw [if_neg (by omega)]
    · have st : mst t0 kd nm (a, 1, false, P, od, c, p) = (a + 1, 1, false, (31, 0) :: P, od + 1, c, p) := by
        show (if kd a = 91 then mOpen 31 1 a P od c p else _) = _
        rw [if_pos h91]
        show (if od < 8 then _ else _) = _
        rw [if_pos (by omega)]
      refine sp_rb (hg (a + 1) p ((31, 0) :: P) (od + 1) c (by omega) (by omega) stop31) (fun b hb => bad_tr (rc_st st) hb) ?_
      intro b q d hG
      obtain ⟨h1, h2, h3, W, c', c'', hr, hW, hs, hk, hm, hgr⟩ := hG
      have hi : inr (W ++ (31, 0) :: P) = 31 := by
        rw [inr_app W (sops_30 hW)]
        show (if 30 ≤ (31 : Int32).toInt then (31 : Int32).toInt else inr P) = 31
        rw [if_pos (by decide)]; decide
      have rc := rc_tr (rc_st st) hr
      by_cases h93 : kd b = 93
      · rw [if_pos h93]
        have hbN : b < N := en_lt en (by rw [h93]; decide)
        refine ⟨by omega, by omega, c'', rc_tr rc (rc_st ?_), hk, hm, by omega⟩
        show (if opM (kd b) ≠ 0 then _ else _) = _
        rw [if_neg (fun z => z h3), if_pos hi, if_pos h93, hs]
        rfl
      · rw [if_neg h93]
        refine bad_tr rc (bad_st (t := 3) (P := W ++ (31, 0) :: P) (od := od + 1) (c := c') (p := q) ?_)
        show (if opM (kd b) ≠ 0 then _ else _) = _
        rw [if_neg (fun z => z h3), if_pos hi, if_neg h93]
  · rw [if_neg h91]
    by_cases hl : (kd a = 300 ∨ (264 ≤ kd a ∧ kd a < 272)) ∧ p < 50
    · rw [if_pos hl]
      have haN : a < N := en_lt en (by omega)
      have st : mst t0 kd nm (a, 1, false, P, od, c, p) = (a + 1, 3, false, P, od, emC c (Int32.ofInt (if kd a = 300 then 0 else kd a - 263)) (if kd a = 300 then nm a else 0), p + 1) := by
        show (if kd a = 91 then _ else if _ then _ else _) = _
        rw [if_neg h91, if_pos hl]
      refine ⟨by omega, by omega, _, rc_st st, kc_em, ?_, by show c.2.2 + 1 + a ≤ c.2.2 + (a + 1); omega⟩
      refine mc_leaf ?_
      rw [emC_op, emC_ar]
      by_cases h300 : kd a = 300
      · rw [if_pos h300, if_pos h300]
        exact Or.inl ⟨h300, by decide, rfl⟩
      · rw [if_neg h300]
        exact Or.inr ⟨by omega, by omega, ofI (by omega)⟩
    · rw [if_neg hl]
      refine bad_st (t := 3) (P := P) (od := od) (c := c) (p := p) ?_
      show (if kd a = 91 then _ else if _ then _ else _) = _
      rw [if_neg h91, if_neg hl]
/-- what waits on the pile of a sum -/
def wPile (w : Option (Int × DS)) : PLT :=
  match w with
  | none => []
  | some x => [(Int32.ofInt x.1, 0)]
def wCC (c : CD) (a : Nat) (w : Option (Int × DS)) (d : DS) : Prop :=
  match w with
  | none => CC c a c.2.2 d
  | some x => (20 ≤ x.1 ∧ x.1 ≤ 21) ∧ ∃ m, CC c a m x.2 ∧ CC c m c.2.2 d
theorem wpile_rg {w : Option (Int × DS)} {c : CD} {a : Nat} {d : DS} (h : wCC c a w d) : ∀ x ∈ wPile w, 20 ≤ x.1.toInt ∧ x.1.toInt ≤ 21 := by
  intro x hx
  cases w with
  | none => cases hx
  | some y =>
    have e : x = (Int32.ofInt y.1, 0) := List.mem_singleton.mp hx
    have z := h.1
    rw [e]
    show 20 ≤ (Int32.ofInt y.1).toInt ∧ (Int32.ofInt y.1).toInt ≤ 21
    rw [ofI (by omega)]; exact z
/-- the sum that waits, settled -/
theorem pend_ok {P : PLT} {c : CD} {a : Nat} {w : Option (Int × DS)} {d : DS} (hP : sTop P) (h : wCC c a w d) : ∃ c'', stl 5 (wPile w ++ P) c = (P, c'') ∧ KC c c'' ∧ CC c'' a c''.2.2 (pnd w d) ∧ c''.2.2 ≤ c.2.2 + (wPile w).length := by
  cases w with
  | none => exact ⟨c, stl_sTop (by omega) hP, kc_rf, h, Nat.le_refl _⟩
  | some x =>
    obtain ⟨hx, m, h1, h2⟩ := h
    have e : (Int32.ofInt x.1).toInt = x.1 := ofI (by omega)
    refine ⟨emC c (Int32.ofInt x.1) 0, ?_, kc_em, ?_, Nat.le_refl _⟩
    · show stl 5 ((Int32.ofInt x.1, 0) :: P) c = _
      rw [stl_y (by rw [e, bnd_2x hx]; omega), if_neg (by rw [e]; omega)]
      exact stl_sTop (by omega) hP
    · have z := h2.1
      exact mc_bin (cc_em h1 z) (cc_em h2 (Nat.le_refl _)) (by rw [emC_op]; exact e) (by omega) (by omega)
theorem sum_loop {t0 : Bool} {kd : Nat → Int} {nm : Nat → Int32} {N K : Nat} {pt : Nat → Nat → Nat × Nat × Option DS} (en : EN kd N) (hpt : PartOK t0 kd nm N K pt) (P : PLT) (od : Nat) (c : CD) (hod : od + K = 8) (hP : sTop P) (S : MS) (a0 : Nat) : ∀ (n a p : Nat) (w : Option (Int × DS)) (d : DS) (W : PLT) (c1 c2 : CD), a0 < a → a ≤ N → 401 ≤ a + n → RC (mst t0 kd nm) S (a, 3, false, W ++ P, od, c1, p) → sOps W → stl 6 (W ++ P) c1 = (wPile w ++ P, c2) → KC c c2 → wCC c2 c.2.2 w d → c2.2.2 + (wPile w).length + a0 ≤ c.2.2 + a → SpS (fun b q e => a0 < b ∧ b ≤ N ∧ opM (kd b) = 0 ∧ ∃ W c' c'', RC (mst t0 kd nm) S (b, 3, false, W ++ P, od, c', q) ∧ sOps W ∧ stl 5 (W ++ P) c' = (P, c'') ∧ KC c c'' ∧ CC c'' c.2.2 c''.2.2 e ∧ c''.2.2 + a0 ≤ c.2.2 + b) (BAD (mst t0 kd nm) S) (sumL pt kd n a p w d) := by
  intro n
  induction n with
  | zero =>
    intro a p w d W c1 c2 h0 ha hn
    have z := en.1
    omega
  | succ n ih =>
    intro a p w d W c1 c2 h0 ha hn hS hW hs hk hw hgr
    have hop := opM_rg (kd a)
    obtain ⟨c3, hs3, hk3, hm3, hl3⟩ := pend_ok hP hw
    have hs5 : stl 5 (W ++ P) c1 = (P, c3) := (stl_to hs (by omega)).trans hs3
    show SpS _ _ (if opM (kd a) = 0 then _ else _)
    by_cases ho : opM (kd a) = 0
    · rw [if_pos ho]
      exact ⟨h0, ha, ho, W, c1, c3, hS, hW, hs5, kc_tr hk hk3, hm3, by omega⟩
    · rw [if_neg ho]
      have haN : a < N := en_lt en (opM_302 ho)
      have hr : 20 ≤ opM (kd a) ∧ opM (kd a) ≤ 23 := by omega
      have eo : (Int32.ofInt (opM (kd a))).toInt = opM (kd a) := ofI (by omega)
      by_cases hlow : opM (kd a) ≤ 21
      · have st : mst t0 kd nm (a, 3, false, W ++ P, od, c1, p) = (a + 1, 1, false, (Int32.ofInt (opM (kd a)), 0) :: P, od, c3, p) := by
          show (if opM (kd a) ≠ 0 then _ else _) = _
          rw [if_pos ho, bnd_2x ⟨hr.1, hlow⟩, hs5]
        have rc := rc_tr hS (rc_st st)
        refine sp_rb (hpt (a + 1) p _ od c3 hod (by omega)) (fun b hb => bad_tr rc hb) ?_
        intro b q e hG
        obtain ⟨g1, g2, c4, g3, g4, g5, g6⟩ := hG
        rw [if_pos hlow]
        refine ih b q _ e [(Int32.ofInt (opM (kd a)), 0)] c4 c4 (by omega) g2 (by omega) (rc_tr rc g3) ?_ ?_ (kc_tr (kc_tr hk hk3) g4) ?_ (by show c4.2.2 + 1 + a0 ≤ c.2.2 + b; omega)
        · intro x hx
          rw [List.mem_singleton.mp hx]
          show 20 ≤ (Int32.ofInt (opM (kd a))).toInt ∧ (Int32.ofInt (opM (kd a))).toInt ≤ 23
          rw [eo]; exact hr
        · exact stl_n (by rw [eo, bnd_2x ⟨hr.1, hlow⟩]; omega)
        · exact ⟨⟨hr.1, hlow⟩, c3.2.2, mc_kc hm3 g4 (Nat.le_refl _), g5⟩
      · have hb6 : bnd (opM (kd a)) = 6 := bnd_6 (by omega) (by omega)
        have st : mst t0 kd nm (a, 3, false, W ++ P, od, c1, p) = (a + 1, 1, false, (Int32.ofInt (opM (kd a)), 0) :: (wPile w ++ P), od, c2, p) := by
          show (if opM (kd a) ≠ 0 then _ else _) = _
          rw [if_pos ho, hb6, hs]
        have rc := rc_tr hS (rc_st st)
        refine sp_rb (hpt (a + 1) p _ od c2 hod (by omega)) (fun b hb => bad_tr rc hb) ?_
        intro b q e hG
        obtain ⟨g1, g2, c4, g3, g4, g5, g6⟩ := hG
        rw [if_neg hlow]
        have hwp := wpile_rg hw
        refine ih b q w (bS (opM (kd a)) d e) ((Int32.ofInt (opM (kd a)), 0) :: wPile w) c4 (emC c4 (Int32.ofInt (opM (kd a))) 0) (by omega) g2 (by omega) (rc_tr rc g3) ?_ ?_ (kc_tr (kc_tr hk g4) kc_em) ?_ (by show c4.2.2 + 1 + (wPile w).length + a0 ≤ c.2.2 + b; omega)
        · intro x hx
          rcases List.mem_cons.mp hx with z | z
          · rw [z]
            show 20 ≤ (Int32.ofInt (opM (kd a))).toInt ∧ (Int32.ofInt (opM (kd a))).toInt ≤ 23
            rw [eo]; exact hr
          · have y := hwp x z
            omega
        · show stl 6 ((Int32.ofInt (opM (kd a)), 0) :: (wPile w ++ P)) c4 = _
          rw [stl_y (by rw [eo, hb6]; omega), if_neg (by rw [eo]; omega)]
          refine stl_top (fun x L ex => ?_)
          cases w with
          | none => have y := bnd_24 (hP x L ex); omega
          | some y =>
            have z : x = (Int32.ofInt y.1, 0) := (List.cons.inj ex).1.symm
            have v := hwp x (by rw [z]; exact List.mem_singleton.mpr rfl)
            have u := bnd_2x v
            omega
        · have gg := g5.1
          have eop : ((emC c4 (Int32.ofInt (opM (kd a))) 0).1 c4.2.2).toInt = opM (kd a) := by rw [emC_op]; exact eo
          cases w with
          | none => exact mc_bin (cc_em (mc_kc hw g4 (Nat.le_refl _)) gg) (cc_em g5 (Nat.le_refl _)) eop hr.1 (by omega)
          | some y =>
            obtain ⟨y1, m, y2, y3⟩ := hw
            have y4 := y3.1
            exact ⟨y1, m, cc_em (mc_kc y2 g4 y4) (by omega), mc_bin (cc_em (mc_kc y3 g4 (Nat.le_refl _)) gg) (cc_em g5 (Nat.le_refl _)) eop hr.1 (by omega)⟩
theorem sum_ok {t0 : Bool} {kd : Nat → Int} {nm : Nat → Int32} {N K : Nat} {lo : Option (Nat → Nat → Nat × Nat × Option DS)} (en : EN kd N) (hlo : (lo = none ∧ K = 0) ∨ ∃ g K', lo = some g ∧ K = K' + 1 ∧ SumOK t0 kd nm N K' g) : SumOK t0 kd nm N K (sumP lo kd nm) := by
  intro a p P od c hod ha hP
  have hpt := part_ok en hlo
  refine sp_rb (hpt a p P od c hod ha) (fun b hb => hb) ?_
  intro b q d hG
  obtain ⟨g1, g2, c4, g3, g4, g5, g6⟩ := hG
  exact sum_loop en hpt P od c hod hP (a, 1, false, P, od, c, p) a 400 b q none d [] c4 c4 g1 g2 (by omega) g3 (fun x hx => by cases hx) (stl_sTop (by omega) hP) g4 g5 (by show c4.2.2 + 0 + a ≤ c.2.2 + b; omega)
/-! the machine reads what is read by rule: tests -/
section MACH2
variable (kd : Nat → Int) (nm : Nat → Int32) (N : Nat)
def PlainOK (K : Nat) (f : Nat → Nat → Nat × Nat × Option DS) : Prop := ∀ (a p : Nat) (P : PLT) (od : Nat) (c : CD), od + K = 8 → 1 ≤ a → a ≤ N → c.2.2 ≤ a → (∀ x L, P = x :: L → 28 ≤ x.1.toInt) → inr P ≠ 31 → SpS (fun b q d => a < b ∧ b ≤ N ∧ is01 d ∧ ∃ W c' c'', RC (mst true kd nm) (a, 0, false, P, od, c, p) (b, 2, false, W ++ P, od, c', q) ∧ (∀ x ∈ W, x.1.toInt < 30) ∧ stl 3 (W ++ P) c' = (P, c'') ∧ KC c c'' ∧ CC c'' c.2.2 c''.2.2 d ∧ c''.2.2 + a ≤ c.2.2 + b) (BAD (mst true kd nm) (a, 0, false, P, od, c, p)) (f a p)
def TestOK (K : Nat) (f : Nat → Nat → Nat × Nat × Option DS) : Prop := ∀ (a p : Nat) (P : PLT) (od : Nat) (c : CD), od + K = 8 → 1 ≤ a → a ≤ N → c.2.2 ≤ a → (∀ x L, P = x :: L → x.1.toInt = 30) → SpS (fun b q d => a < b ∧ b ≤ N ∧ kd b ≠ 261 ∧ kd b ≠ 262 ∧ is01 d ∧ ∃ W c' c'', RC (mst true kd nm) (a, 0, false, P, od, c, p) (b, 2, false, W ++ P, od, c', q) ∧ (∀ x ∈ W, x.1.toInt < 30) ∧ stl 1 (W ++ P) c' = (P, c'') ∧ KC c c'' ∧ CC c'' c.2.2 c''.2.2 d ∧ c''.2.2 + a ≤ c.2.2 + b) (BAD (mst true kd nm) (a, 0, false, P, od, c, p)) (f a p)
end MACH2
/-- so many times "not" on the pile -/
def nots (n : Nat) : PLT := List.replicate n (27, 0)
theorem nots_app (n : Nat) (P : PLT) : nots n ++ (27, 0) :: P = nots (n + 1) ++ P := by
  unfold nots
  rw [List.replicate_succ', List.append_assoc]; rfl
theorem nots_30 {n : Nat} : ∀ x ∈ nots n, x.1.toInt < 30 := by
  intro x hx
  rw [(List.mem_replicate.mp hx).2]; decide
theorem not_loop {t0 : Bool} {kd : Nat → Int} {nm : Nat → Int32} {N : Nat} (en : EN kd N) {od p : Nat} {c : CD} : ∀ (n a : Nat) (P : PLT) (t : Bool), a ≤ N → 401 ≤ a + n → ∃ m, (notL kd n a t).1 = a + m ∧ (notL kd n a t).1 ≤ N ∧ kd (notL kd n a t).1 ≠ 263 ∧ RC (mst t0 kd nm) (a, 0, false, P, od, c, p) ((notL kd n a t).1, 0, false, nots m ++ P, od, c, p) ∧ (notL kd n a t).2 = Bool.xor t (m % 2 == 1) := by
  intro n
  induction n with
  | zero =>
    intro a P t h1 h2
    have z := en.1
    omega
  | succ n ih =>
    intro a P t h1 h2
    by_cases h : kd a = 263
    · have haN : a < N := en_lt en (by rw [h]; decide)
      have st : mst t0 kd nm (a, 0, false, P, od, c, p) = (a + 1, 0, false, (27, 0) :: P, od, c, p) := by
        show (if kd a = 263 then _ else _) = _
        rw [if_pos h]
      obtain ⟨m, g1, g2, g3, g4, g5⟩ := ih (a + 1) ((27, 0) :: P) (!t) (by omega) (by omega)
      have e : notL kd (n + 1) a t = notL kd n (a + 1) (!t) := by
        show (if kd a = 263 then _ else _) = _
        rw [if_pos h]
      rw [e]
      refine ⟨m + 1, by omega, g2, g3, ?_, ?_⟩
      · rw [← nots_app]; exact rc_tr (rc_st st) g4
      · rw [g5]
        rcases Nat.mod_two_eq_zero_or_one m with z | z
        · rw [show (m + 1) % 2 = 1 by omega, z]; cases t <;> rfl
        · rw [show (m + 1) % 2 = 0 by omega, z]; cases t <;> rfl
    · have e : notL kd (n + 1) a t = (a, t) := by
        show (if kd a = 263 then _ else _) = _
        rw [if_neg h]
      rw [e]
      exact ⟨0, rfl, h1, h, rc_rf, by cases t <;> rfl⟩
/-- the nots settle -/
theorem nots_ok {m : Int} (hm : m ≤ 3) {P : PLT} : ∀ (n : Nat) (c : CD) (a : Nat) (d : DS), CC c a c.2.2 d → is01 d → ∃ c'', stl m (nots n ++ P) c = stl m P c'' ∧ KC c c'' ∧ CC c'' a c''.2.2 (nT (n % 2 == 1) d) ∧ c''.2.2 = c.2.2 + n := by
  intro n
  induction n with
  | zero => intro c a d h _; exact ⟨c, rfl, kc_rf, h, rfl⟩
  | succ n ih =>
    intro c a d h h0
    have hb : bnd (27 : Int32).toInt = 3 := by decide
    have z := h.1
    have h2 : CC (emC c 27 0) a (emC c 27 0).2.2 (nS d) := mc_not (cc_em h (Nat.le_refl _)) (by rw [emC_op]; decide)
    obtain ⟨c'', g1, g2, g3, g4⟩ := ih (emC c 27 0) a (nS d) h2 (i01_n h0)
    refine ⟨c'', ?_, kc_tr kc_em g2, ?_, by rw [g4]; show c.2.2 + 1 + n = c.2.2 + (n + 1); omega⟩
    · rw [← g1]
      show stl m ((27, 0) :: (nots n ++ P)) c = _
      rw [stl_y (by rw [hb]; exact hm), if_neg (by decide)]
    · have e : nT (n % 2 == 1) (nS d) = nT ((n + 1) % 2 == 1) d := by
        rcases Nat.mod_two_eq_zero_or_one n with y | y
        · rw [show (n + 1) % 2 = 1 by omega, y]; rfl
        · rw [show (n + 1) % 2 = 0 by omega, y]
          show nS (nS d) = d
          exact nS_nS
      rw [e] at g3; exact g3
theorem rc_01 {t0 : Bool} {kd : Nat → Int} {nm : Nat → Int32} {a b : Nat} {P Q : PLT} {od od' p q : Nat} {c c' : CD} {B : Bool} {t : Nat} (h1 : kd a ≠ 263) (h2 : kd a ≠ 40) (ht : t ≠ 1 ∨ B = true) (h : RC (mst t0 kd nm) (a, 1, false, P, od, c, p) (b, t, B, Q, od', c', q)) : RC (mst t0 kd nm) (a, 0, false, P, od, c, p) (b, t, B, Q, od', c', q) := by
  obtain ⟨n, hn⟩ := h
  cases n with
  | zero =>
    exfalso
    have e : (a, 1, false, P, od, c, p) = (b, t, B, Q, od', c', q) := hn
    have e1 : (1 : Nat) = t := congrArg (fun z : MS => z.2.1) e
    have e2 : false = B := congrArg (fun z : MS => z.2.2.1) e
    rcases ht with y | y
    · exact y e1.symm
    · rw [y] at e2; cases e2
  | succ n =>
    refine ⟨n + 1, ?_⟩
    have st : mst t0 kd nm (a, 0, false, P, od, c, p) = mst t0 kd nm (a, 1, false, P, od, c, p) := by
      show (if kd a = 263 then _ else if kd a = 40 then _ else _) = _
      rw [if_neg h1, if_neg h2]; rfl
    show itr _ n (mst t0 kd nm (a, 0, false, P, od, c, p)) = _
    rw [st]; exact hn
theorem bad_01 {t0 : Bool} {kd : Nat → Int} {nm : Nat → Int32} {a b : Nat} {P : PLT} {od p : Nat} {c : CD} (h1 : kd a ≠ 263) (h2 : kd a ≠ 40) (h : BAD (mst t0 kd nm) (a, 1, false, P, od, c, p) b) : BAD (mst t0 kd nm) (a, 0, false, P, od, c, p) b := by
  obtain ⟨t, Q, od', c', q, z⟩ := h
  exact ⟨t, Q, od', c', q, rc_01 h1 h2 (Or.inr rfl) z⟩
theorem inr_nots {n : Nat} {P : PLT} : inr (nots n ++ P) = inr P := inr_app _ nots_30
theorem cmpd_nots {n : Nat} {P : PLT} (h : ∀ x L, P = x :: L → 28 ≤ x.1.toInt) : cmpd (nots n ++ P) = false := by
  cases n with
  | zero =>
    show cmpd P = false
    cases P with
    | nil => rfl
    | cons x L =>
      have z := h x L rfl
      show (if 20 ≤ x.1.toInt ∧ x.1.toInt ≤ 23 then cmpd L else decide (24 ≤ x.1.toInt ∧ x.1.toInt ≤ 26)) = false
      rw [if_neg (by omega)]
      exact decide_eq_false (by omega)
  | succ n =>
    show (if 20 ≤ (27 : Int32).toInt ∧ (27 : Int32).toInt ≤ 23 then cmpd (nots n ++ P) else decide (24 ≤ (27 : Int32).toInt ∧ (27 : Int32).toInt ≤ 26)) = false
    rw [if_neg (by decide)]; decide
theorem stop_nots {n : Nat} {P : PLT} (h : ∀ x L, P = x :: L → 28 ≤ x.1.toInt) : sTop (nots n ++ P) := by
  intro x L e
  cases n with
  | zero =>
    have z := h x L e
    omega
  | succ n =>
    have e : (27, 0) :: (nots n ++ P) = x :: L := e
    rw [← (List.cons.inj e).1]
    exact (by decide : (24 : Int) ≤ (27 : Int32).toInt)
theorem bnd_28 {x : Int} (h : 28 ≤ x) : bnd x < 3 := by
  by_cases q : 30 ≤ x
  · rw [bnd_0 q]; decide
  · by_cases q2 : x = 29
    · rw [bnd_1 q2]; decide
    · rw [bnd_2 (by omega)]; decide
theorem inr_one {x : Int32 × Nat} {P : PLT} (h : x.1.toInt < 30) : inr (x :: P) = inr P := by
  show (if 30 ≤ x.1.toInt then x.1.toInt else inr P) = _
  rw [if_neg (by omega)]
theorem plain_ok {kd : Nat → Int} {nm : Nat → Int32} {N K : Nat} {sm : Nat → Nat → Nat × Nat × Option DS} {lt : Option (Nat → Nat → Nat × Nat × Option DS)} (en : EN kd N) (hsm : SumOK true kd nm N K sm) (hlt : (lt = none ∧ K = 0) ∨ ∃ g K', lt = some g ∧ K = K' + 1 ∧ TestOK kd nm N K' g) : PlainOK kd nm N K (plainP sm lt kd) := by
  intro a p P od c hod ha1 ha hca hP hi
  have nl := not_loop (t0 := true) (nm := nm) en (od := od) (p := p) (c := c) 400 a P false ha (by omega)
  unfold plainP
  generalize notL kd 400 a false = Z at nl ⊢
  obtain ⟨b, t⟩ := Z
  obtain ⟨m, g1, g2, g3, g4, g5⟩ := nl
  have g1 : b = a + m := g1
  have g2 : b ≤ N := g2
  have g3 : kd b ≠ 263 := g3
  have g5 : t = (m % 2 == 1) := by
    have z : t = Bool.xor false (m % 2 == 1) := g5
    rw [z]; cases (m % 2 == 1) <;> rfl
  have hPt : ∀ x L, P = x :: L → bnd x.1.toInt < 3 := fun x L e => bnd_28 (hP x L e)
  show SpS _ _ (if kd b = 40 then _ else _)
  by_cases h40 : kd b = 40
  · rw [if_pos h40]
    have hbN : b < N := en_lt en (by rw [h40]; decide)
    rcases hlt with ⟨rfl, hK⟩ | ⟨g, K', rfl, hK, hg⟩
    · refine bad_tr g4 (bad_st (t := 0) (P := nots m ++ P) (od := od) (c := c) (p := p) ?_)
      show (if kd b = 263 then _ else if kd b = 40 then mOpen 30 0 b (nots m ++ P) od c p else _) = _
      rw [if_neg g3, if_pos h40]
      show (if od < 8 then _ else _) = _
      rw [if_neg (by omega)]
    · have st : mst true kd nm (b, 0, false, nots m ++ P, od, c, p) = (b + 1, 0, false, (30, 0) :: (nots m ++ P), od + 1, c, p) := by
        show (if kd b = 263 then _ else if kd b = 40 then mOpen 30 0 b (nots m ++ P) od c p else _) = _
        rw [if_neg g3, if_pos h40]
        show (if od < 8 then _ else _) = _
        rw [if_pos (by omega)]
      have rc := rc_tr g4 (rc_st st)
      refine sp_rb (hg (b + 1) p ((30, 0) :: (nots m ++ P)) (od + 1) c (by omega) (by omega) (by omega) (by omega) (fun x L e => by rw [← (List.cons.inj e).1]; decide)) (fun b hb => bad_tr rc hb) ?_
      intro b2 q d hG
      obtain ⟨k1, k2, k3, k4, k5, W, c', c'', hr, hW, hs, hk, hm, hgr⟩ := hG
      have hin : inr (W ++ (30, 0) :: (nots m ++ P)) = 30 := by
        rw [inr_app W hW]
        show (if 30 ≤ (30 : Int32).toInt then (30 : Int32).toInt else _) = 30
        rw [if_pos (by decide)]; decide
      have rc2 := rc_tr rc hr
      by_cases h41 : kd b2 = 41
      · rw [if_pos h41]
        have hb2 : b2 < N := en_lt en (by rw [h41]; decide)
        obtain ⟨c3, n1, n2, n3, n4⟩ := nots_ok (m := 3) (by decide) (P := P) m c'' c.2.2 d hm k5
        refine ⟨by omega, by omega, i01_nT k5, nots m, c'', c3, rc_tr rc2 (rc_st ?_), nots_30, ?_, kc_tr hk n2, ?_, by omega⟩
        · show (if kd b2 = 262 then _ else if kd b2 = 261 then _ else if _ then _ else if _ then _ else _) = _
          rw [if_neg k4, if_neg k3, if_neg (by rw [hin]; decide), if_pos h41, hs]
          rfl
        · rw [n1]; exact stl_top hPt
        · show CC c3 c.2.2 c3.2.2 (nT t d)
          rw [g5]; exact n3
      · rw [if_neg h41]
        refine bad_tr rc2 (bad_st (t := 2) (P := W ++ (30, 0) :: (nots m ++ P)) (od := od + 1) (c := c') (p := q) ?_)
        show (if kd b2 = 262 then _ else if kd b2 = 261 then _ else if _ then _ else if _ then _ else _) = _
        rw [if_neg k4, if_neg k3, if_neg (by rw [hin]; decide), if_neg h41]
  · rw [if_neg h40]
    refine sp_rb (hsm b p (nots m ++ P) od c hod g2 (stop_nots hP)) (fun b hb => bad_tr g4 (bad_01 g3 h40 hb)) ?_
    intro b1 q l hG
    obtain ⟨k1, k2, k3, W, c', c'', hr, hW, hs, hk, hm, hgr⟩ := hG
    have rc := rc_tr g4 (rc_01 g3 h40 (Or.inl (by decide)) hr)
    have hin : inr (W ++ (nots m ++ P)) = inr P := by rw [inr_app W (sops_30 hW), inr_nots]
    have hcm : cmpd (W ++ (nots m ++ P)) = false := by rw [cmpd_app W hW, cmpd_nots hP]
    have hcp := cpM_rg (kd b1)
    by_cases hc : cpM (kd b1) = 0
    · rw [if_pos hc]
      refine bad_tr rc (bad_st (t := 1) (P := W ++ (nots m ++ P)) (od := od) (c := c') (p := q) ?_)
      show (if opM (kd b1) ≠ 0 then _ else if _ then _ else if _ then _ else if _ then _ else if _ then _ else _) = _
      rw [if_neg (fun z => z k3), if_neg (by rw [hin]; exact hi), if_neg (fun z => by cases z.2), if_neg (by rw [hcm]; decide), if_neg (fun z => z hc)]
    · rw [if_neg hc]
      have hb1 : b1 < N := en_lt en (cpM_302 hc)
      have eo : (Int32.ofInt (cpM (kd b1))).toInt = cpM (kd b1) := ofI (by omega)
      have st : mst true kd nm (b1, 3, false, W ++ (nots m ++ P), od, c', q) = (b1 + 1, 1, false, (Int32.ofInt (cpM (kd b1)), 0) :: (nots m ++ P), od, c'', q) := by
        show (if opM (kd b1) ≠ 0 then _ else if _ then _ else if _ then _ else if _ then _ else if _ then _ else _) = _
        rw [if_neg (fun z => z k3), if_neg (by rw [hin]; exact hi), if_neg (fun z => by cases z.2), if_neg (by rw [hcm]; decide), if_pos hc, hs]
      have rc2 := rc_tr rc (rc_st st)
      refine sp_rb (hsm (b1 + 1) q ((Int32.ofInt (cpM (kd b1)), 0) :: (nots m ++ P)) od c'' hod (by omega) (fun x L e => by rw [← (List.cons.inj e).1]; show 24 ≤ (Int32.ofInt (cpM (kd b1))).toInt; omega)) (fun b hb => bad_tr rc2 hb) ?_
      intro b2 q2 r hG2
      obtain ⟨j1, j2, j3, W2, d', d'', jr, jW, js, jk, jm, jg⟩ := hG2
      have hx : (Int32.ofInt (cpM (kd b1)), (0 : Nat)).1.toInt < 30 := by show (Int32.ofInt (cpM (kd b1))).toInt < 30; omega
      have hin2 : inr (W2 ++ (Int32.ofInt (cpM (kd b1)), 0) :: (nots m ++ P)) = inr P := by rw [inr_app W2 (sops_30 jW), inr_one hx, inr_nots]
      have hcm2 : cmpd (W2 ++ (Int32.ofInt (cpM (kd b1)), 0) :: (nots m ++ P)) = true := by
        rw [cmpd_app W2 jW]
        show (if 20 ≤ (Int32.ofInt (cpM (kd b1))).toInt ∧ (Int32.ofInt (cpM (kd b1))).toInt ≤ 23 then _ else decide (24 ≤ (Int32.ofInt (cpM (kd b1))).toInt ∧ (Int32.ofInt (cpM (kd b1))).toInt ≤ 26)) = true
        rw [if_neg (by omega)]
        exact decide_eq_true (by omega)
      have b4 : bnd (cpM (kd b1)) = 4 := bnd_4 (by omega) (by omega)
      have z1 := hm.1
      have z2 := jm.1
      have hC : CC (emC d'' (Int32.ofInt (cpM (kd b1))) 0) c.2.2 (emC d'' (Int32.ofInt (cpM (kd b1))) 0).2.2 (bS (cpM (kd b1)) l r) := mc_bin (cc_em (mc_kc hm jk (Nat.le_refl _)) z2) (cc_em jm (Nat.le_refl _)) (by rw [emC_op]; exact eo) (by omega) (by omega)
      obtain ⟨c3, n1, n2, n3, n4⟩ := nots_ok (m := 3) (by decide) (P := P) m _ c.2.2 _ hC (i01_c (by omega))
      have n4 : c3.2.2 = d''.2.2 + 1 + m := n4
      refine ⟨by omega, j2, i01_nT (i01_c (by omega)), W2 ++ (Int32.ofInt (cpM (kd b1)), 0) :: nots m, d', c3, ?_, ?_, ?_, kc_tr (kc_tr (kc_tr hk jk) kc_em) n2, ?_, by omega⟩
      · rw [List.append_assoc, List.cons_append]
        refine rc_tr (rc_tr rc2 jr) (rc_st ?_)
        show (if opM (kd b2) ≠ 0 then _ else if _ then _ else if _ then _ else if _ then _ else if _ then _ else _) = _
        rw [if_neg (fun z => z j3), if_neg (by rw [hin2]; exact hi), if_neg (fun z => by cases z.2), if_pos hcm2]
      · intro x hx2
        rcases List.mem_append.mp hx2 with z | z
        · exact sops_30 jW x z
        · rcases List.mem_cons.mp z with y | y
          · rw [y]; exact hx
          · exact nots_30 x y
      · rw [List.append_assoc, List.cons_append, stl_to js (by decide), stl_y (by rw [eo, b4]; decide), if_neg (by rw [eo]; omega), n1]
        exact stl_top hPt
      · show CC c3 c.2.2 c3.2.2 (nT t _)
        rw [g5]; exact n3
theorem l29 {j : Nat} : ((29 : Int32), j).1.toInt < 30 := (by decide : (29 : Int32).toInt < 30)
theorem l28 {j : Nat} : ((28 : Int32), j).1.toInt < 30 := (by decide : (28 : Int32).toInt < 30)
/-- the "or" that waits -/
def oPile (w : Option (Nat × DS)) : PLT :=
  match w with
  | none => []
  | some x => [(29, x.1)]
def oCC (c : CD) (a : Nat) (w : Option (Nat × DS)) (d : DS) : Prop :=
  match w with
  | none => CC c a c.2.2 d
  | some x => CC c a x.1 x.2 ∧ (c.1 x.1).toInt = 29 ∧ CC c (x.1 + 1) c.2.2 d ∧ is01 x.2
theorem paC_ar {c : CD} {j : Nat} (h : c.2.2 ≤ 400) : ((paC c j).2.1 j).toInt = (c.2.2 : Int) := by
  show (upd c.2.1 j _ j).toInt = _
  rw [upd_eq]; exact ofN h
theorem cc_pa {c : CD} {a b j : Nat} {d : DS} (h : CC c a b d) (hj : j < a ∨ b ≤ j) : CC (paC c j) a b d := mc_congr h (fun k h1 h2 => ⟨rfl, upd_ne (by omega)⟩)
theorem or_ok {P : PLT} {c c0 : CD} {a : Nat} {w : Option (Nat × DS)} {d : DS} (hP : ∀ x L, P = x :: L → x.1.toInt = 30) (hk : KC c0 c) (ha : c0.2.2 = a) (hco : c.2.2 ≤ 400) (h : oCC c a w d) (h01 : is01 d) : ∃ c'', stl 1 (oPile w ++ P) c = (P, c'') ∧ KC c0 c'' ∧ CC c'' a c''.2.2 (pndT (w.map (·.2)) d) ∧ is01 (pndT (w.map (·.2)) d) ∧ c''.2.2 = c.2.2 := by
  have hPt : ∀ x L, P = x :: L → bnd x.1.toInt < 1 := fun x L e => by rw [hP x L e]; decide
  cases w with
  | none => exact ⟨c, stl_top hPt, hk, h, h01, rfl⟩
  | some x =>
    obtain ⟨h1, h2, h3, h4⟩ := h
    have z1 := h1.1
    have z3 := h3.1
    refine ⟨paC c x.1, ?_, kc_pa hk (by omega), ?_, i01_o h4 h01, rfl⟩
    · show stl 1 ((29, x.1) :: P) c = _
      rw [stl_y (by decide), if_pos (Or.inr (by decide))]
      exact stl_top hPt
    · exact mc_or (cc_pa h1 (Or.inr (Nat.le_refl _))) h2 (paC_ar hco) (cc_pa h3 (Or.inl (by omega))) h4
theorem test_loop {kd : Nat → Int} {nm : Nat → Int32} {N K : Nat} {pl : Nat → Nat → Nat × Nat × Option DS} (en : EN kd N) (hpl : PlainOK kd nm N K pl) (P : PLT) (od : Nat) (c : CD) (hod : od + K = 8) (hP : ∀ x L, P = x :: L → x.1.toInt = 30) (S : MS) (a0 : Nat) (hca : c.2.2 ≤ a0) : ∀ (n a p : Nat) (w : Option (Nat × DS)) (d : DS) (W : PLT) (c1 c2 : CD), a0 < a → a ≤ N → 401 ≤ a + n → RC (mst true kd nm) S (a, 2, false, W ++ P, od, c1, p) → (∀ x ∈ W, x.1.toInt < 30) → stl 2 (W ++ P) c1 = (oPile w ++ P, c2) → KC c c2 → oCC c2 c.2.2 w d → is01 d → c2.2.2 + a0 ≤ c.2.2 + a → SpS (fun b q e => a0 < b ∧ b ≤ N ∧ kd b ≠ 261 ∧ kd b ≠ 262 ∧ is01 e ∧ ∃ W c' c'', RC (mst true kd nm) S (b, 2, false, W ++ P, od, c', q) ∧ (∀ x ∈ W, x.1.toInt < 30) ∧ stl 1 (W ++ P) c' = (P, c'') ∧ KC c c'' ∧ CC c'' c.2.2 c''.2.2 e ∧ c''.2.2 + a0 ≤ c.2.2 + b) (BAD (mst true kd nm) S) (tstL pl kd n a p (w.map (·.2)) d) := by
  have hP28 : ∀ (j : Nat) (o : Int32), 28 ≤ o.toInt → ∀ L : PLT, ∀ x L', (o, j) :: L = x :: L' → 28 ≤ x.1.toInt := fun j o h L x L' e => by
    rw [← (List.cons.inj e).1]; exact h
  intro n
  induction n with
  | zero =>
    intro a p w d W c1 c2 h0 ha hn
    have z := en.1
    omega
  | succ n ih =>
    intro a p w d W c1 c2 h0 ha hn hS hW hs hk hw h01 hgr
    have en1 := en.1
    obtain ⟨c3, hs3, hk3, hm3, hi3, hl3⟩ := or_ok (a := c.2.2) hP hk rfl (by omega) hw h01
    have hs1 : stl 1 (W ++ P) c1 = (P, c3) := (stl_to hs (by decide)).trans hs3
    have hni : inr P ≠ 31 := by
      cases P with
      | nil => decide
      | cons x L =>
        have z := hP x L rfl
        show (if 30 ≤ x.1.toInt then x.1.toInt else inr L) ≠ 31
        rw [if_pos (by omega)]; omega
    show SpS _ _ (if kd a = 261 then _ else if kd a = 262 then _ else _)
    by_cases h261 : kd a = 261
    · rw [if_pos h261]
      have haN : a < N := en_lt en (by rw [h261]; decide)
      have st : mst true kd nm (a, 2, false, W ++ P, od, c1, p) = (a + 1, 0, false, (29, c3.2.2) :: P, od, emC c3 29 0, p) := by
        show (if kd a = 262 then _ else if kd a = 261 then _ else _) = _
        rw [if_neg (by rw [h261]; decide), if_pos h261, hs1]
      have rc := rc_tr hS (rc_st st)
      refine sp_rb (hpl (a + 1) p ((29, c3.2.2) :: P) od (emC c3 29 0) hod (by omega) (by omega) (by show c3.2.2 + 1 ≤ a + 1; omega) (hP28 _ _ (by decide) P) (by rw [inr_one l29]; exact hni)) (fun b hb => bad_tr rc hb) ?_
      intro b q e hG
      obtain ⟨k1, k2, k3, W2, c', c'', hr, hW2, hs2, hk2, hm2, hg2⟩ := hG
      have hg2 : c''.2.2 + (a + 1) ≤ c3.2.2 + 1 + b := hg2
      refine ih b q (some (c3.2.2, pndT (w.map (·.2)) d)) e (W2 ++ [(29, c3.2.2)]) c' c'' (by omega) k2 (by omega) ?_ ?_ ?_ (kc_tr hk3 (kc_tr kc_em hk2)) ?_ k3 (by omega)
      · rw [List.append_assoc]; exact rc_tr rc hr
      · intro x hx
        rcases List.mem_append.mp hx with z | z
        · exact hW2 x z
        · rw [List.mem_singleton.mp z]; exact l29
      · rw [List.append_assoc]
        show stl 2 (W2 ++ (29, c3.2.2) :: P) c' = _
        rw [stl_to hs2 (by decide)]
        exact stl_n (by decide)
      · refine ⟨mc_kc hm3 (kc_tr kc_em hk2) (Nat.le_refl _), ?_, hm2, hi3⟩
        rw [(hk2.2 c3.2.2 (Nat.lt_succ_self _)).1, emC_op]; decide
    · rw [if_neg h261]
      by_cases h262 : kd a = 262
      · rw [if_pos h262]
        have haN : a < N := en_lt en (by rw [h262]; decide)
        have st : mst true kd nm (a, 2, false, W ++ P, od, c1, p) = (a + 1, 0, false, (28, c2.2.2) :: (oPile w ++ P), od, emC c2 28 0, p) := by
          show (if kd a = 262 then _ else _) = _
          rw [if_pos h262, hs]
        have rc := rc_tr hS (rc_st st)
        have hino : inr (oPile w ++ P) = inr P := inr_app _ (fun x hx => by
          cases w with
          | none => cases hx
          | some y => rw [List.mem_singleton.mp hx]; exact l29)
        refine sp_rb (hpl (a + 1) p ((28, c2.2.2) :: (oPile w ++ P)) od (emC c2 28 0) hod (by omega) (by omega) (by show c2.2.2 + 1 ≤ a + 1; omega) (hP28 _ _ (by decide) _) (by rw [inr_one l28, hino]; exact hni)) (fun b hb => bad_tr rc hb) ?_
        intro b q e hG
        obtain ⟨k1, k2, k3, W2, c', c'', hr, hW2, hs2, hk2, hm2, hg2⟩ := hG
        have hg2 : c''.2.2 + (a + 1) ≤ c2.2.2 + 1 + b := hg2
        have hkc : KC c2 c'' := kc_tr kc_em hk2
        have hcl := hk.1
        have hop : (c''.1 c2.2.2).toInt = 28 := by
          rw [(hk2.2 c2.2.2 (Nat.lt_succ_self _)).1, emC_op]; decide
        have zm : c2.2.2 + 1 ≤ c''.2.2 := hm2.1
        refine ih b q w (aT d e) (W2 ++ (28, c2.2.2) :: oPile w) c' (paC c'' c2.2.2) (by omega) k2 (by omega) ?_ ?_ ?_ (kc_pa (kc_tr hk hkc) (by omega)) ?_ (i01_a h01 k3) (by show c''.2.2 + a0 ≤ c.2.2 + b; omega)
        · rw [List.append_assoc, List.cons_append]; exact rc_tr rc hr
        · intro x hx
          rcases List.mem_append.mp hx with z | z
          · exact hW2 x z
          · rcases List.mem_cons.mp z with y | y
            · rw [y]; exact l28
            · cases w with
              | none => cases y
              | some v => rw [List.mem_singleton.mp y]; exact l29
        · rw [List.append_assoc, List.cons_append, stl_to hs2 (by decide), stl_y (by decide), if_pos (Or.inl (by decide))]
          refine stl_top (fun x L ex => ?_)
          cases w with
          | none =>
            have z := hP x L ex
            rw [z]; decide
          | some v =>
            rw [← (List.cons.inj ex).1]; exact (by decide : bnd (29 : Int32).toInt < 2)
        · have hA : ∀ a9, CC c2 a9 c2.2.2 d → CC (paC c'' c2.2.2) a9 (paC c'' c2.2.2).2.2 (aT d e) := fun a9 h9 =>
            mc_and (cc_pa (mc_kc h9 hkc (Nat.le_refl _)) (Or.inr (Nat.le_refl _))) hop (paC_ar (by omega)) (cc_pa hm2 (Or.inl (Nat.lt_succ_self _))) h01
          cases w with
          | none => exact hA _ hw
          | some v =>
            obtain ⟨v1, v2, v3, v4⟩ := hw
            have z3 := v3.1
            refine ⟨cc_pa (mc_kc v1 hkc (by omega)) (Or.inr (by omega)), ?_, hA _ v3, v4⟩
            show (c''.1 v.1).toInt = 29
            rw [(hkc.2 v.1 (by omega)).1]; exact v2
      · rw [if_neg h262]
        exact ⟨h0, ha, h261, h262, hi3, W, c1, c3, hS, hW, hs1, hk3, hm3, by omega⟩
theorem test_ok {kd : Nat → Int} {nm : Nat → Int32} {N K : Nat} {sm : Nat → Nat → Nat × Nat × Option DS} {lt : Option (Nat → Nat → Nat × Nat × Option DS)} (en : EN kd N) (hsm : SumOK true kd nm N K sm) (hlt : (lt = none ∧ K = 0) ∨ ∃ g K', lt = some g ∧ K = K' + 1 ∧ TestOK kd nm N K' g) : TestOK kd nm N K (testP sm lt kd) := by
  intro a p P od c hod ha1 ha hca hP
  have hpl := plain_ok en hsm hlt
  have hni : inr P ≠ 31 := by
    cases P with
    | nil => decide
    | cons x L =>
      have z := hP x L rfl
      show (if 30 ≤ x.1.toInt then x.1.toInt else inr L) ≠ 31
      rw [if_pos (by omega)]; omega
  refine sp_rb (hpl a p P od c hod ha1 ha hca (fun x L e => by rw [hP x L e]; decide) hni) (fun b hb => hb) ?_
  intro b q d hG
  obtain ⟨k1, k2, k3, W, c', c'', hr, hW, hs, hk, hm, hg⟩ := hG
  refine test_loop en hpl P od c hod hP (a, 0, false, P, od, c, p) a hca 400 b q none d W c' c'' k1 k2 (by omega) hr hW ?_ hk hm k3 hg
  rw [stl_to hs (by decide)]
  exact stl_top (fun x L e => by rw [hP x L e]; decide)
/-- sums and tests within so many brackets -/
theorem rd_ok {kd : Nat → Int} {nm : Nat → Int32} {N : Nat} (en : EN kd N) : ∀ K : Nat, (∀ t0, SumOK t0 kd nm N K (rdP kd nm K).1) ∧ TestOK kd nm N K (rdP kd nm K).2 := by
  intro K
  induction K with
  | zero => exact ⟨fun t0 => sum_ok en (Or.inl ⟨rfl, rfl⟩), test_ok en (sum_ok en (Or.inl ⟨rfl, rfl⟩)) (Or.inl ⟨rfl, rfl⟩)⟩
  | succ k ih =>
    have hs : ∀ t0, SumOK t0 kd nm N (k + 1) (sumP (some (rdP kd nm k).1) kd nm) := fun t0 => sum_ok en (Or.inr ⟨_, k, rfl, rfl, ih.1 t0⟩)
    exact ⟨hs, test_ok en (hs true) (Or.inr ⟨_, k, rfl, rfl, ih.2⟩)⟩
/-- a head's sum, a test: the whole expression, the pile empty behind it -/
theorem expr_sum {kd : Nat → Int} {nm : Nat → Int32} {N a p : Nat} {c : CD} (en : EN kd N) (ha : a ≤ N) : SpS (fun b q d => a < b ∧ b ≤ N ∧ ∃ W c' c'', RC (mst false kd nm) (a, 1, false, [], 0, c, p) (b, 4, false, W, 0, c', q) ∧ stl 1 W c' = ([], c'') ∧ KC c c'' ∧ CC c'' c.2.2 c''.2.2 d ∧ c''.2.2 + a ≤ c.2.2 + b) (BAD (mst false kd nm) (a, 1, false, [], 0, c, p)) ((rdP kd nm 8).1 a p) := by
  refine sp_mono ((rd_ok en 8).1 false a p [] 0 c (by omega) ha (fun x L e => by cases e)) (fun b hb => hb) ?_
  intro b q d hG
  obtain ⟨h1, h2, h3, W, c', c'', hr, hW, hs, hk, hm, hg⟩ := hG
  rw [List.append_nil] at hr hs
  have hin : inr W = -1 := by
    have z := inr_app (P := []) W (sops_30 hW)
    rw [List.append_nil] at z; exact z
  refine ⟨h1, h2, W, c', c'', rc_tr hr (rc_st ?_), ?_, hk, hm, hg⟩
  · show (if opM (kd b) ≠ 0 then _ else if _ then _ else if _ then _ else _) = _
    rw [if_neg (fun z => z h3), if_neg (by rw [hin]; decide), if_pos ⟨hin, rfl⟩]
  · exact (stl_to hs (by decide)).trans rfl
theorem expr_test {kd : Nat → Int} {nm : Nat → Int32} {N a p : Nat} {c : CD} (en : EN kd N) (ha1 : 1 ≤ a) (ha : a ≤ N) (hca : c.2.2 ≤ a) : SpS (fun b q d => a < b ∧ b ≤ N ∧ is01 d ∧ ∃ W c' c'', RC (mst true kd nm) (a, 0, false, [], 0, c, p) (b, 4, false, W, 0, c', q) ∧ stl 1 W c' = ([], c'') ∧ KC c c'' ∧ CC c'' c.2.2 c''.2.2 d ∧ c''.2.2 + a ≤ c.2.2 + b) (BAD (mst true kd nm) (a, 0, false, [], 0, c, p)) ((rdP kd nm 8).2 a p) := by
  refine sp_mono ((rd_ok en 8).2 a p [] 0 c (by omega) ha1 ha hca (fun x L e => by cases e)) (fun b hb => hb) ?_
  intro b q d hG
  obtain ⟨h1, h2, h3, h4, h5, W, c', c'', hr, hW, hs, hk, hm, hg⟩ := hG
  rw [List.append_nil] at hr hs
  have hin : inr W = -1 := by
    have z := inr_app (P := []) W hW
    rw [List.append_nil] at z; exact z
  refine ⟨h1, h2, h5, W, c', c'', rc_tr hr (rc_st ?_), hs, hk, hm, hg⟩
  show (if kd b = 262 then _ else if kd b = 261 then _ else if _ then _ else _) = _
  rw [if_neg h4, if_neg h3, if_pos hin]
/-- stopped: bad, or over -/
def stopd (S : MS) : Prop := S.2.2.1 = true ∨ S.2.1 = 4
theorem mst_stop {t0 : Bool} {kd : Nat → Int} {nm : Nat → Int32} {S : MS} (h : stopd S) : mst t0 kd nm S = S := by
  obtain ⟨k, t, B, P, od, c, p⟩ := S
  have h : B = true ∨ t = 4 := h
  cases B with
  | true =>
    match t with
    | 0 => rfl
    | 1 => rfl
    | 2 => rfl
    | 3 => rfl
    | t + 4 => rfl
  | false =>
    rcases h with z | z
    · cases z
    · subst z; rfl
theorem itr_stop {t0 : Bool} {kd : Nat → Int} {nm : Nat → Int32} {S : MS} (h : stopd S) : ∀ n, itr (mst t0 kd nm) n S = S := by
  intro n
  induction n with
  | zero => rfl
  | succ n ih =>
    show itr _ n (mst t0 kd nm S) = S
    rw [mst_stop h]; exact ih
theorem rc_fin {t0 : Bool} {kd : Nat → Int} {nm : Nat → Int32} {S T U : MS} (h : RC (mst t0 kd nm) S T) (k : RC (mst t0 kd nm) S U) (hT : stopd T) (hU : stopd U) : T = U := by
  obtain ⟨a, ha⟩ := h
  obtain ⟨b, hb⟩ := k
  have e1 : itr (mst t0 kd nm) (a + b) S = T := by rw [itr_add, ha, itr_stop hT]
  have e2 : itr (mst t0 kd nm) (b + a) S = U := by rw [itr_add, hb, itr_stop hU]
  rw [Nat.add_comm] at e2
  exact e1.symm.trans e2
/-! tokens of a text, by its bytes -/
def bLt (c : Int32) : Bool := decide (97 ≤ c.toInt ∧ c.toInt ≤ 122)
def bDg (c : Int32) : Bool := decide (48 ≤ c.toInt ∧ c.toInt ≤ 57)
def bBl (c : Int32) : Bool := decide (c.toInt = 32)
def runF (q : Int32 → Bool) (x : Nat → Int32) (n : Nat) : Nat → Nat → Nat
  | 0, i => i
  | f + 1, i => if i < n ∧ q (x i) = true then runF q x n f (i + 1) else i
def runT (q : Int32 → Bool) (x : Nat → Int32) (n i : Nat) : Nat := runF q x n (n - i) i
theorem runT_y {q : Int32 → Bool} {x : Nat → Int32} {n i : Nat} (h : i < n) (k : q (x i) = true) : runT q x n i = runT q x n (i + 1) := by
  unfold runT
  rw [show n - i = (n - (i + 1)) + 1 by omega]
  show (if i < n ∧ q (x i) = true then _ else _) = _
  rw [if_pos ⟨h, k⟩]
theorem runT_n {q : Int32 → Bool} {x : Nat → Int32} {n i : Nat} (h : ¬ (i < n ∧ q (x i) = true)) : runT q x n i = i := by
  unfold runT
  cases z : n - i with
  | zero => rfl
  | succ f =>
    show (if i < n ∧ q (x i) = true then _ else _) = _
    rw [if_neg h]
theorem runT_rg {q : Int32 → Bool} {x : Nat → Int32} {n : Nat} : ∀ (f i : Nat), n - i = f → i ≤ n → i ≤ runT q x n i ∧ runT q x n i ≤ n := by
  intro f
  induction f with
  | zero =>
    intro i h1 h2
    rw [runT_n (fun z => by omega)]
    omega
  | succ f ih =>
    intro i h1 h2
    by_cases h : i < n ∧ q (x i) = true
    · rw [runT_y h.1 h.2]
      have z := ih (i + 1) (by omega) (by omega)
      omega
    · rw [runT_n h]; omega
theorem runT_rg' {q : Int32 → Bool} {x : Nat → Int32} {n i : Nat} (h : i ≤ n) : i ≤ runT q x n i ∧ runT q x n i ≤ n := runT_rg _ i rfl h
theorem runT_all {q : Int32 → Bool} {x : Nat → Int32} {n : Nat} : ∀ (f i : Nat), n - i = f → ∀ j, i ≤ j → j < runT q x n i → q (x j) = true := by
  intro f
  induction f with
  | zero =>
    intro i h1 j h2 h3
    rw [runT_n (fun z => by omega)] at h3
    omega
  | succ f ih =>
    intro i h1 j h2 h3
    by_cases h : i < n ∧ q (x i) = true
    · by_cases e : j = i
      · rw [e]; exact h.2
      · rw [runT_y h.1 h.2] at h3
        exact ih (i + 1) (by omega) j (by omega) h3
    · rw [runT_n h] at h3; omega
/-- past blanks; behind the token that begins there -/
def skT (x : Nat → Int32) (n i : Nat) : Nat := runT bBl x n i
def enT (x : Nat → Int32) (n i : Nat) : Nat := if bLt (x i) = true then runT bLt x n (i + 1) else if bDg (x i) = true then runT bDg x n (i + 1) else i + 1
theorem enT_rg {x : Nat → Int32} {n i : Nat} (h : i < n) : i < enT x n i ∧ enT x n i ≤ n := by
  unfold enT
  split
  · have z := runT_rg' (q := bLt) (x := x) (n := n) (i := i + 1) (by omega); omega
  · split
    · have z := runT_rg' (q := bDg) (x := x) (n := n) (i := i + 1) (by omega); omega
    · omega
theorem skT_rg {x : Nat → Int32} {n i : Nat} (h : i ≤ n) : i ≤ skT x n i ∧ skT x n i ≤ n := runT_rg' h
/-- where the tokens begin -/
def pT (x : Nat → Int32) (n : Nat) : Nat → Nat
  | 0 => skT x n 0
  | k + 1 => if pT x n k < n then skT x n (enT x n (pT x n k)) else pT x n k
theorem pT_le {x : Nat → Int32} {n : Nat} : ∀ k, pT x n k ≤ n := by
  intro k
  induction k with
  | zero => exact (skT_rg (Nat.zero_le _)).2
  | succ k ih =>
    show (if pT x n k < n then _ else _) ≤ n
    split
    · rename_i h
      exact (skT_rg (enT_rg h).2).2
    · exact ih
theorem pT_S {x : Nat → Int32} {n k : Nat} (h : pT x n k < n) : pT x n (k + 1) = skT x n (enT x n (pT x n k)) := by
  show (if pT x n k < n then _ else _) = _
  rw [if_pos h]
theorem pT_lt {x : Nat → Int32} {n k : Nat} (h : pT x n k < n) : pT x n k < pT x n (k + 1) := by
  rw [pT_S h]
  have z := enT_rg (x := x) h
  have y := skT_rg (x := x) z.2
  omega
theorem pT_N {x : Nat → Int32} {n k : Nat} (h : ¬ pT x n k < n) : pT x n (k + 1) = pT x n k := by
  show (if pT x n k < n then _ else _) = _
  rw [if_neg h]
theorem pT_ge {x : Nat → Int32} {n : Nat} : ∀ k, pT x n k < n → k ≤ pT x n k := by
  intro k
  induction k with
  | zero => intro _; exact Nat.zero_le _
  | succ k ih =>
    intro h
    have z : pT x n k < n := Nat.lt_of_not_le (fun q => by
      rw [pT_N (by omega)] at h
      omega)
    have y := ih z
    have w := pT_lt z
    omega
def wds : List (List Int32) := [[108, 97, 116, 101], [100, 117, 115, 116], [99, 111, 118, 101, 114, 115], [99, 108, 101, 97, 114], [105, 102], [111, 114], [97, 110, 100], [110, 111, 116], [103, 108, 97, 115, 115], [120], [121], [104, 111, 117, 114], [119, 97, 121], [98, 111, 100, 121], [115, 116, 101, 112, 115], [98, 114, 105, 103, 104, 116]]
theorem wds_by : (wds.flatMap (fun w => w ++ [32])) = g5_by := by decide +kernel
/-- the bytes from a place on are a word's -/
def mtW (x : Nat → Int32) : Nat → List Int32 → Bool
  | _, [] => true
  | i, b :: w => decide (x i = b) && mtW x (i + 1) w
def isWd (x : Nat → Int32) (i e : Nat) (w : List Int32) : Bool := decide (i + w.length = e) && mtW x i w
def fnW (x : Nat → Int32) (i e : Nat) : Nat → List (List Int32) → Int
  | _, [] => -1
  | k, w :: L => if isWd x i e w = true then (k : Int) else fnW x i e (k + 1) L
def wdT (x : Nat → Int32) (i e : Nat) : Int := fnW x i e 0 wds
/-- a token's kind, its number -/
def kdT (x : Nat → Int32) (n i : Nat) : Int :=
  if i < n then
    if bDg (x i) = true then (if (nmb x (enT x n i - i) i 0).toInt ≤ 1000 then 300 else 301)
    else if bLt (x i) = true then (if wdT x i (enT x n i) = -1 then 301 else 256 + wdT x i (enT x n i))
    else (x i).toInt
  else 302
def nmT (x : Nat → Int32) (n i : Nat) : Int32 := if bDg (x i) = true then nmb x (enT x n i - i) i 0 else 0
def KDT (x : Nat → Int32) (n k : Nat) : Int := kdT x n (pT x n k)
def NMT (x : Nat → Int32) (n k : Nat) : Int32 := nmT x n (pT x n k)
theorem en_tape {x : Nat → Int32} {n : Nat} (h : n ≤ 400) : EN (KDT x n) n := by
  refine ⟨h, fun k hk => ?_⟩
  unfold KDT kdT
  rw [if_neg (fun z => by have y := pT_ge k z; omega)]
/-! the class's look at a word, byte by byte of all words in a row -/
def wcF (x : Nat → Int32) (p t : Nat) : List Int32 → Int → Nat → Bool → Int
  | [], _, _, _ => -1
  | b :: L, w, a, s => if b ≠ 32 then wcF x p t L w (a + 1) (s && (decide (a < t) && decide (x a = b))) else if s = true ∧ a = t then w else wcF x p t L (w + 1) p true
theorem wcF_word {x : Nat → Int32} {p t : Nat} {L : List Int32} {w : Int} : ∀ (ws : List Int32) (a : Nat) (s : Bool), (∀ b ∈ ws, b ≠ 32) → wcF x p t (ws ++ 32 :: L) w a s = if (s && (decide (a + ws.length ≤ t) && mtW x a ws)) = true ∧ a + ws.length = t then w else wcF x p t L (w + 1) p true := by
  intro ws
  induction ws with
  | nil =>
    intro a s _
    show (if (32 : Int32) ≠ 32 then _ else if s = true ∧ a = t then w else _) = _
    rw [if_neg (fun z => z rfl)]
    by_cases q : s = true ∧ a = t
    · rw [if_pos q, if_pos]
      refine ⟨?_, q.2⟩
      rw [q.1]
      show (decide (a + 0 ≤ t) && true) = true
      rw [Bool.and_true]
      exact decide_eq_true (by omega)
    · rw [if_neg q, if_neg]
      intro z
      apply q
      refine ⟨?_, z.2⟩
      have y := z.1
      rw [Bool.and_eq_true] at y
      exact y.1
  | cons b ws ih =>
    intro a s h
    have hb : b ≠ 32 := h b List.mem_cons_self
    show (if b ≠ 32 then wcF x p t (ws ++ 32 :: L) w (a + 1) (s && (decide (a < t) && decide (x a = b))) else _) = _
    rw [if_pos hb, ih (a + 1) _ (fun c hc => h c (List.mem_cons_of_mem _ hc))]
    have e : a + 1 + ws.length = a + (b :: ws).length := by rw [List.length_cons]; omega
    rw [e]
    have e2 : ((s && (decide (a < t) && decide (x a = b))) && (decide (a + (b :: ws).length ≤ t) && mtW x (a + 1) ws)) = (s && (decide (a + (b :: ws).length ≤ t) && mtW x a (b :: ws))) := by
      show _ = (s && (decide (a + (b :: ws).length ≤ t) && (decide (x a = b) && mtW x (a + 1) ws)))
      by_cases q : a + (b :: ws).length ≤ t
      · have q2 : a < t := by rw [List.length_cons] at q; omega
        rw [decide_eq_true q, decide_eq_true q2]
        cases s <;> cases decide (x a = b) <;> cases mtW x (a + 1) ws <;> rfl
      · rw [decide_eq_false q]
        cases s <;> cases decide (a < t) <;> cases decide (x a = b) <;> rfl
    rw [e2]
theorem wcF_all {x : Nat → Int32} {p t : Nat} : ∀ (Ls : List (List Int32)) (k : Nat), (∀ ws ∈ Ls, ∀ b ∈ ws, b ≠ 32) → wcF x p t (Ls.flatMap (fun w => w ++ [32])) (k : Int) p true = fnW x p t k Ls := by
  intro Ls
  induction Ls with
  | nil => intro k _; rfl
  | cons ws Ls ih =>
    intro k h
    rw [List.flatMap_cons, List.append_assoc]
    show wcF x p t (ws ++ 32 :: (Ls.flatMap (fun w => w ++ [32]))) (k : Int) p true = (if isWd x p t ws = true then (k : Int) else fnW x p t (k + 1) Ls)
    rw [wcF_word ws p true (h ws List.mem_cons_self)]
    have e : (((true && (decide (p + ws.length ≤ t) && mtW x p ws)) = true ∧ p + ws.length = t) ↔ isWd x p t ws = true) := by
      unfold isWd
      rw [Bool.true_and, Bool.and_eq_true, Bool.and_eq_true, decide_eq_true_iff, decide_eq_true_iff]
      constructor
      · intro z; exact ⟨z.2, z.1.2⟩
      · intro z; exact ⟨⟨by omega, z.2⟩, z.1⟩
    by_cases q : isWd x p t ws = true
    · rw [if_pos q, if_pos (e.mpr q)]
    · rw [if_neg q, if_neg (fun z => q (e.mp z))]
      exact ih (k + 1) (fun v hv => h v (List.mem_cons_of_mem _ hv))
theorem wcF_wds {x : Nat → Int32} {p t : Nat} : wcF x p t g5_by 0 p true = wdT x p t := by
  rw [← wds_by]
  exact wcF_all wds 0 (by decide +kernel)
/-! the model's look: a word as one number, five bits a letter -/
def vlW : List Int32 → Int → Int
  | [], v => v
  | b :: w, v => vlW w (32 * v + (b.toInt - 96))
theorem vlW_rg : ∀ (w : List Int32) (v : Int), (∀ b ∈ w, 97 ≤ b.toInt ∧ b.toInt ≤ 122) → 0 ≤ v → v ≤ vlW w v ∧ (w ≠ [] → 0 < vlW w v) := by
  intro w
  induction w with
  | nil => intro v _ _; exact ⟨Int.le_refl _, fun z => absurd rfl z⟩
  | cons b w ih =>
    intro v h h0
    have hb := h b List.mem_cons_self
    have z := ih (32 * v + (b.toInt - 96)) (fun c hc => h c (List.mem_cons_of_mem _ hc)) (by omega)
    have e : vlW (b :: w) v = vlW w (32 * v + (b.toInt - 96)) := rfl
    rw [e]
    exact ⟨by omega, fun _ => by omega⟩
theorem vlW_app : ∀ (w : List Int32) (b : Int32) (v : Int), vlW (w ++ [b]) v = 32 * vlW w v + (b.toInt - 96) := by
  intro w
  induction w with
  | nil => intro b v; rfl
  | cons c w ih => intro b v; exact ih b _
/-- the bytes from a place on, so many -/
def byF (x : Nat → Int32) : Nat → Nat → List Int32
  | _, 0 => []
  | i, n + 1 => x i :: byF x (i + 1) n
theorem byF_len {x : Nat → Int32} : ∀ (n i : Nat), (byF x i n).length = n := by
  intro n
  induction n with
  | zero => intro i; rfl
  | succ n ih => intro i; show (byF x (i + 1) n).length + 1 = n + 1; rw [ih]
theorem byF_S {x : Nat → Int32} : ∀ (n i : Nat), byF x i (n + 1) = byF x i n ++ [x (i + n)] := by
  intro n
  induction n with
  | zero => intro i; rfl
  | succ n ih =>
    intro i
    show x i :: byF x (i + 1) (n + 1) = (x i :: byF x (i + 1) n) ++ [x (i + (n + 1))]
    rw [ih (i + 1), List.cons_append, show i + 1 + n = i + (n + 1) by omega]
theorem mtW_by {x : Nat → Int32} : ∀ (w : List Int32) (i : Nat), mtW x i w = true ↔ byF x i w.length = w := by
  intro w
  induction w with
  | nil => intro i; exact ⟨fun _ => rfl, fun _ => rfl⟩
  | cons b w ih =>
    intro i
    show (decide (x i = b) && mtW x (i + 1) w) = true ↔ x i :: byF x (i + 1) w.length = b :: w
    rw [Bool.and_eq_true, decide_eq_true_iff, ih (i + 1)]
    constructor
    · intro z; rw [z.1, z.2]
    · intro z; exact ⟨(List.cons.inj z).1, (List.cons.inj z).2⟩
theorem isWd_by {x : Nat → Int32} {i e : Nat} {w : List Int32} (h : i ≤ e) : isWd x i e w = true ↔ byF x i (e - i) = w := by
  unfold isWd
  rw [Bool.and_eq_true, decide_eq_true_iff, mtW_by]
  constructor
  · intro z
    rw [show e - i = w.length by omega]; exact z.2
  · intro z
    have l : e - i = w.length := by rw [← z, byF_len]
    exact ⟨by omega, by rw [← l]; exact z⟩
/-- two rows of letters with one number are the same -/
theorem vlW_inj : ∀ (n m : Nat) (u w : List Int32), u.length = n → w.length = m → (∀ b ∈ u, 97 ≤ b.toInt ∧ b.toInt ≤ 122) → (∀ b ∈ w, 97 ≤ b.toInt ∧ b.toInt ≤ 122) → vlW u 0 = vlW w 0 → u = w := by
  intro n
  induction n with
  | zero =>
    intro m u w hu hw _ h2 e
    have e1 : u = [] := List.eq_nil_of_length_eq_zero hu
    subst e1
    cases w with
    | nil => rfl
    | cons b w =>
      have z := (vlW_rg (b :: w) 0 h2 (Int.le_refl _)).2 (by simp)
      have y : vlW [] 0 = 0 := rfl
      omega
  | succ n ih =>
    intro m u w hu hw h1 h2 e
    rcases List.eq_nil_or_concat u with z | ⟨u', b, eu⟩
    · rw [z] at hu; cases hu
    · rw [List.concat_eq_append] at eu
      subst eu
      rcases List.eq_nil_or_concat w with z | ⟨w', c, ew⟩
      · have y := (vlW_rg (u' ++ [b]) 0 h1 (Int.le_refl _)).2 (by simp)
        rw [z] at e
        have y2 : vlW [] 0 = 0 := rfl
        omega
      · rw [List.concat_eq_append] at ew
        subst ew
        rw [vlW_app, vlW_app] at e
        have hb := h1 b (List.mem_append_right _ (List.mem_singleton.mpr rfl))
        have hc := h2 c (List.mem_append_right _ (List.mem_singleton.mpr rfl))
        have e1 : b.toInt = c.toInt := by omega
        have e2 : vlW u' 0 = vlW w' 0 := by omega
        have hu' : u'.length = n := by
          rw [List.length_append] at hu
          have : [b].length = 1 := rfl
          omega
        rw [ih w'.length u' w' hu' rfl (fun x hx => h1 x (List.mem_append_left _ hx)) (fun x hx => h2 x (List.mem_append_left _ hx)) e2, Int32.toInt_inj.mp e1]
