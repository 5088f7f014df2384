abbrev cX0_init : ByteArray := prog_2_method_1_code
def yX0_init : MethodName := ⟨RX0, "<init>", "([I[IIII)V"⟩
def tyX1 : Nat → FieldType := fun k => match k with
  | 0 => .object "ColdShips$World"
  | 1 => .array .long
  | 2 => .array .int
  | 3 => .array .long
  | 4 => .array .int
  | 5 => .int
  | 6 => .int
  | 7 => .int
  | 8 => .long
  | 9 => .int
  | 10 => .array .int
  | 11 => .array .int
  | 12 => .array .int
  | 13 => .array .int
  | _ => .array .long
theorem nmX1 : ∀ a, a < 15 → ∀ b, b < 15 → a ≠ b → (TX1 a).2.1 ≠ (TX1 b).2.1 := by decide +kernel
theorem tyX1_ok : ∀ k, k < 15 → parseFieldDescriptor (TX1 k).2.2.1 = some (tyX1 k) := by decide +kernel
abbrev cX1_findBest : ByteArray := prog_3_method_3_code
def yX1_findBest : MethodName := ⟨RX1, "findBest", "(I)J"⟩
abbrev cX1_extend : ByteArray := prog_3_method_4_code
def yX1_extend : MethodName := ⟨RX1, "extend", "(IIIIIJI)V"⟩
abbrev cX1_keepRow : ByteArray := prog_3_method_5_code
def yX1_keepRow : MethodName := ⟨RX1, "keepRow", "(IJI)V"⟩
abbrev cX1_addShip : ByteArray := prog_3_method_6_code
def yX1_addShip : MethodName := ⟨RX1, "addShip", "(II)V"⟩
abbrev cX1_joinSets : ByteArray := prog_3_method_7_code
def yX1_joinSets : MethodName := ⟨RX1, "joinSets", "(III)V"⟩
abbrev cX1_isBetter : ByteArray := prog_3_method_8_code
def yX1_isBetter : MethodName := ⟨RX1, "isBetter", "(II)Z"⟩
abbrev cX1_keepPlan : ByteArray := prog_3_method_9_code
def yX1_keepPlan : MethodName := ⟨RX1, "keepPlan", "(II)V"⟩
abbrev cX1_keepVoyage : ByteArray := prog_3_method_10_code
def yX1_keepVoyage : MethodName := ⟨RX1, "keepVoyage", "(II)V"⟩
abbrev cX1_cargoAt : ByteArray := prog_3_method_11_code
def yX1_cargoAt : MethodName := ⟨RX1, "cargoAt", "(III)I"⟩
abbrev cX2_hasRoom : ByteArray := prog_4_method_2_code
def yX2_hasRoom : MethodName := ⟨RX2, "hasRoom", "()Z"⟩
abbrev cX2_addFour : ByteArray := prog_4_method_3_code
def yX2_addFour : MethodName := ⟨RX2, "addFour", "(I)V"⟩
abbrev cX2_emptyTape : ByteArray := prog_4_method_4_code
def yX2_emptyTape : MethodName := ⟨RX2, "emptyTape", "()V"⟩
abbrev cX2_readTape : ByteArray := prog_4_method_5_code
def yX2_readTape : MethodName := ⟨RX2, "readTape", "()LColdShips$Contract;"⟩
abbrev cX2_readClauses : ByteArray := prog_4_method_6_code
def yX2_readClauses : MethodName := ⟨RX2, "readClauses", "()Z"⟩
abbrev cX2_readClause : ByteArray := prog_4_method_7_code
def yX2_readClause : MethodName := ⟨RX2, "readClause", "()Z"⟩
abbrev cX2_readWindow : ByteArray := prog_4_method_8_code
def yX2_readWindow : MethodName := ⟨RX2, "readWindow", "()Z"⟩
abbrev cX2_readMoney : ByteArray := prog_4_method_9_code
def yX2_readMoney : MethodName := ⟨RX2, "readMoney", "(I)Z"⟩
abbrev cX2_readTest : ByteArray := prog_4_method_10_code
def yX2_readTest : MethodName := ⟨RX2, "readTest", "()Z"⟩
abbrev cX2_readBoth : ByteArray := prog_4_method_11_code
def yX2_readBoth : MethodName := ⟨RX2, "readBoth", "()Z"⟩
abbrev cX2_readPlain : ByteArray := prog_4_method_12_code
def yX2_readPlain : MethodName := ⟨RX2, "readPlain", "()Z"⟩
abbrev cX2_readCompared : ByteArray := prog_4_method_13_code
def yX2_readCompared : MethodName := ⟨RX2, "readCompared", "()Z"⟩
abbrev cX2_readSum : ByteArray := prog_4_method_14_code
def yX2_readSum : MethodName := ⟨RX2, "readSum", "()Z"⟩
abbrev cX2_readTerm : ByteArray := prog_4_method_15_code
def yX2_readTerm : MethodName := ⟨RX2, "readTerm", "()Z"⟩
abbrev cX2_readPart : ByteArray := prog_4_method_16_code
def yX2_readPart : MethodName := ⟨RX2, "readPart", "()Z"⟩
abbrev cX2_readInBrackets : ByteArray := prog_4_method_17_code
def yX2_readInBrackets : MethodName := ⟨RX2, "readInBrackets", "(Z)Z"⟩
abbrev cX2_leafHere : ByteArray := prog_4_method_18_code
def yX2_leafHere : MethodName := ⟨RX2, "leafHere", "()I"⟩
abbrev cX2_factHere : ByteArray := prog_4_method_19_code
def yX2_factHere : MethodName := ⟨RX2, "factHere", "()I"⟩
abbrev cX2_isNumber : ByteArray := prog_4_method_20_code
def yX2_isNumber : MethodName := ⟨RX2, "isNumber", "(II)Z"⟩
abbrev cX2_passWord : ByteArray := prog_4_method_21_code
def yX2_passWord : MethodName := ⟨RX2, "passWord", "(Ljava/lang/String;)Z"⟩
abbrev cX2_passSign : ByteArray := prog_4_method_22_code
def yX2_passSign : MethodName := ⟨RX2, "passSign", "(C)Z"⟩
abbrev cX2_isSign : ByteArray := prog_4_method_23_code
def yX2_isSign : MethodName := ⟨RX2, "isSign", "(C)Z"⟩
abbrev cX2_isWord : ByteArray := prog_4_method_24_code
def yX2_isWord : MethodName := ⟨RX2, "isWord", "(Ljava/lang/String;)Z"⟩
abbrev cX2_advance : ByteArray := prog_4_method_25_code
def yX2_advance : MethodName := ⟨RX2, "advance", "()V"⟩
abbrev cX2_isLetter : ByteArray := prog_4_method_26_code
def yX2_isLetter : MethodName := ⟨RX2, "isLetter", "(C)Z"⟩
abbrev cX2_isDigit : ByteArray := prog_4_method_27_code
def yX2_isDigit : MethodName := ⟨RX2, "isDigit", "(C)Z"⟩
abbrev cX2_emit : ByteArray := prog_4_method_28_code
def yX2_emit : MethodName := ⟨RX2, "emit", "(I)V"⟩
abbrev cX2_emitJump : ByteArray := prog_4_method_29_code
def yX2_emitJump : MethodName := ⟨RX2, "emitJump", "(I)I"⟩
abbrev cX2_land : ByteArray := prog_4_method_30_code
def yX2_land : MethodName := ⟨RX2, "land", "(I)V"⟩
abbrev cX5_endOrder : ByteArray := prog_7_method_4_code
def yX5_endOrder : MethodName := ⟨RX5, "endOrder", "()V"⟩
abbrev cX5_burnFuel : ByteArray := prog_7_method_6_code
def yX5_burnFuel : MethodName := ⟨RX5, "burnFuel", "(I)V"⟩
abbrev cX5_putAshore : ByteArray := prog_7_method_7_code
def yX5_putAshore : MethodName := ⟨RX5, "putAshore", "(II)V"⟩
def tyX6 : Nat → FieldType := fun k => match k with
  | 0 => .array .int
  | 1 => .array .int
  | 2 => .array .int
  | _ => .int
theorem nmX6 : ∀ a, a < 4 → ∀ b, b < 4 → a ≠ b → (TX6 a).2.1 ≠ (TX6 b).2.1 := by decide +kernel
theorem tyX6_ok : ∀ k, k < 4 → parseFieldDescriptor (TX6 k).2.2.1 = some (tyX6 k) := by decide +kernel
abbrev cX7_heel : ByteArray := prog_9_method_3_code
def yX7_heel : MethodName := ⟨RX7, "heel", "()I"⟩
abbrev cX7_boil : ByteArray := prog_9_method_7_code
def yX7_boil : MethodName := ⟨RX7, "boil", "(I)V"⟩
abbrev cX7_warmOrCool : ByteArray := prog_9_method_8_code
def yX7_warmOrCool : MethodName := ⟨RX7, "warmOrCool", "()V"⟩
abbrev cX7_burn : ByteArray := prog_9_method_9_code
def yX7_burn : MethodName := ⟨RX7, "burn", "(I)I"⟩
abbrev cX7_fill : ByteArray := prog_9_method_10_code
def yX7_fill : MethodName := ⟨RX7, "fill", "(II)V"⟩
abbrev cX7_vent : ByteArray := prog_9_method_11_code
def yX7_vent : MethodName := ⟨RX7, "vent", "(I)I"⟩
abbrev cX7_takeGas : ByteArray := prog_9_method_12_code
def yX7_takeGas : MethodName := ⟨RX7, "takeGas", "(I)V"⟩
abbrev cX7_giveByRests : ByteArray := prog_9_method_14_code
def yX7_giveByRests : MethodName := ⟨RX7, "giveByRests", "(I)V"⟩
abbrev cX7_evaporate : ByteArray := prog_9_method_15_code
def yX7_evaporate : MethodName := ⟨RX7, "evaporate", "(I)V"⟩
def tyX8 : Nat → FieldType := fun k => match k with
  | 0 => .int
  | 1 => .int
  | 2 => .int
  | 3 => .int
  | 4 => .int
  | 5 => .array .int
  | _ => .array .int
theorem nmX8 : ∀ a, a < 7 → ∀ b, b < 7 → a ≠ b → (TX8 a).2.1 ≠ (TX8 b).2.1 := by decide +kernel
theorem tyX8_ok : ∀ k, k < 7 → parseFieldDescriptor (TX8 k).2.2.1 = some (tyX8 k) := by decide +kernel
abbrev cX8_begin : ByteArray := prog_10_method_2_code
def yX8_begin : MethodName := ⟨RX8, "begin", "(IIII)V"⟩
def tyX9 : Nat → FieldType := fun k => match k with
  | 0 => .object "ColdShips$World"
  | 1 => .int
  | 2 => .int
  | _ => .boolean
abbrev wsX90 : List Cond := u_ws RX9 TX9 4
theorem nmX9 : ∀ a, a < 4 → ∀ b, b < 4 → a ≠ b → (TX9 a).2.1 ≠ (TX9 b).2.1 := by decide +kernel
theorem tyX9_ok : ∀ k, k < 4 → parseFieldDescriptor (TX9 k).2.2.1 = some (tyX9 k) := by decide +kernel
abbrev cX9_passHour : ByteArray := prog_11_method_2_code
def yX9_passHour : MethodName := ⟨RX9, "passHour", "()V"⟩
abbrev cX9_passShip : ByteArray := prog_11_method_3_code
def yX9_passShip : MethodName := ⟨RX9, "passShip", "(I)V"⟩
abbrev cX9_sail : ByteArray := prog_11_method_4_code
def yX9_sail : MethodName := ⟨RX9, "sail", "(LColdShips$Ship;)V"⟩
abbrev cX9_takesTurn : ByteArray := prog_11_method_5_code
def yX9_takesTurn : MethodName := ⟨RX9, "takesTurn", "()Z"⟩
abbrev cX9_tonsMayGo : ByteArray := prog_11_method_6_code
def yX9_tonsMayGo : MethodName := ⟨RX9, "tonsMayGo", "(ILColdShips$Ship;)Z"⟩
abbrev cX9_load : ByteArray := prog_11_method_7_code
def yX9_load : MethodName := ⟨RX9, "load", "(LColdShips$Ship;)V"⟩
abbrev cX9_land : ByteArray := prog_11_method_8_code
def yX9_land : MethodName := ⟨RX9, "land", "(ILColdShips$Ship;)V"⟩
abbrev cX9_keepLanding : ByteArray := prog_11_method_9_code
def yX9_keepLanding : MethodName := ⟨RX9, "keepLanding", "(ILColdShips$Ship;)V"⟩
abbrev cX11_terminal : ByteArray := prog_1_method_2_code
def yX11_terminal : MethodName := ⟨RX11, "terminal", "(IIII)I"⟩
abbrev cX11_go : ByteArray := prog_1_method_11_code
def yX11_go : MethodName := ⟨RX11, "go", "(I)I"⟩
abbrev cX11_price : ByteArray := prog_1_method_19_code
def yX11_price : MethodName := ⟨RX11, "price", "(III)I"⟩
abbrev cX11_force : ByteArray := prog_1_method_20_code
def yX11_force : MethodName := ⟨RX11, "force", "(III)I"⟩
abbrev cX11_feed : ByteArray := prog_1_method_22_code
def yX11_feed : MethodName := ⟨RX11, "feed", "(IIIII)I"⟩
abbrev cX11_contract : ByteArray := prog_1_method_24_code
def yX11_contract : MethodName := ⟨RX11, "contract", "()I"⟩
abbrev cX11_best : ByteArray := prog_1_method_35_code
def yX11_best : MethodName := ⟨RX11, "best", "(I)J"⟩
def RJ6 : String := "java/lang/Integer"
abbrev cJ6_bitCount_0f7a4 : ByteArray := prog_16_method_49_code
def yJ6_bitCount_0f7a4 : MethodName := ⟨RJ6, "bitCount", "(I)I"⟩
def RJ0 : String := "java/lang/String"
abbrev cJ0_length_8abf5 : ByteArray := prog_18_method_54_code
def yJ0_length_8abf5 : MethodName := ⟨RJ0, "length", "()I"⟩
abbrev cJ0_charAt_5068e : ByteArray := prog_18_method_56_code
def yJ0_charAt_5068e : MethodName := ⟨RJ0, "charAt", "(I)C"⟩
abbrev cJ0_coder_7d493 : ByteArray := prog_18_method_152_code
def yJ0_coder_7d493 : MethodName := ⟨RJ0, "coder", "()B"⟩
abbrev cJ0_isLatin1_aae02 : ByteArray := prog_18_method_154_code
def yJ0_isLatin1_aae02 : MethodName := ⟨RJ0, "isLatin1", "()Z"⟩
abbrev cJ0_checkIndex_df160 : ByteArray := prog_18_method_155_code
def yJ0_checkIndex_df160 : MethodName := ⟨RJ0, "checkIndex", "(II)V"⟩
def RJ1 : String := "java/lang/StringLatin1"
abbrev cJ1_charAt_3b067 : ByteArray := prog_19_method_2_code
def yJ1_charAt_3b067 : MethodName := ⟨RJ1, "charAt", "([BI)C"⟩
def RJ2 : String := "java/lang/StringUTF16"
abbrev cJ2_getChar_3b067 : ByteArray := prog_20_method_5_code
def yJ2_getChar_3b067 : MethodName := ⟨RJ2, "getChar", "([BI)C"⟩
abbrev cJ2_length_9d52b : ByteArray := prog_20_method_6_code
def yJ2_length_9d52b : MethodName := ⟨RJ2, "length", "([B)I"⟩
abbrev cJ2_charAt_3b067 : ByteArray := prog_20_method_83_code
def yJ2_charAt_3b067 : MethodName := ⟨RJ2, "charAt", "([BI)C"⟩
abbrev cJ2_checkIndex_2214a : ByteArray := prog_20_method_91_code
def yJ2_checkIndex_2214a : MethodName := ⟨RJ2, "checkIndex", "(I[B)V"⟩
abbrev cJ7_copyOf_59c91 : ByteArray := prog_22_method_123_code
def yJ7_copyOf_59c91 : MethodName := ⟨RJ7, "copyOf", "([II)[I"⟩
def RJ3 : String := "jdk/internal/util/Preconditions"
abbrev cJ3_checkIndex_8e157 : ByteArray := prog_23_method_11_code
def yJ3_checkIndex_8e157 : MethodName := ⟨RJ3, "checkIndex", "(IILjava/util/function/BiFunction;)I"⟩
def wsJ7_fill_d0a16 : List Cond := .code yJ7_fill_d0a16 cJ7_fill_d0a16 5 none :: ([])
def wsJ7_rangeCheck_23922 : List Cond := .code yJ7_rangeCheck_23922 cJ7_rangeCheck_23922 3 none :: ([])
def wsJ7_fill_bad5a : List Cond := .code yJ7_fill_bad5a cJ7_fill_bad5a 6 none :: ([.methodLink RJ7 13 yJ7_rangeCheck_23922, .static yJ7_rangeCheck_23922, .initialized RJ7, .code yJ7_rangeCheck_23922 cJ7_rangeCheck_23922 3 none])
def wsX1_keepPlan_r1 : List Cond := [Cond.fieldLink RX1 40 "ColdShips$Planner" "world" "LColdShips$World;", Cond.methodLink RX1 60 Lib.Math.min.name, Cond.static Lib.Math.min.name, Cond.initialized "java/lang/Math", Cond.code Lib.Math.min.name Lib.Math.min.code 2 (some .int), Cond.fieldLink RX1 132 "ColdShips$Planner" "planned" "I", Cond.fieldLink RX1 25 "ColdShips$Planner" "shipOf" "[I", Cond.methodLink RX1 135 yX1_keepVoyage, Cond.instanceMethod yX1_keepVoyage, Cond.selects RX1 yX1_keepVoyage yX1_keepVoyage, Cond.initialized RX1, Cond.code yX1_keepVoyage cX1_keepVoyage 9 none, Cond.fieldLink RX1 15 "ColdShips$Planner" "rowPlaces" "[I", Cond.fieldLink RX1 28 "ColdShips$Planner" "placeOf" "[I", Cond.fieldLink RX1 31 "ColdShips$Planner" "loadOf" "[I", Cond.fieldLink RX1 142 "ColdShips$Planner" "loadAt" "I", Cond.fieldLink RX1 34 "ColdShips$Planner" "landOf" "[I", Cond.fieldLink RX1 145 "ColdShips$Planner" "landAt" "I", Cond.fieldLink RX1 37 "ColdShips$Planner" "worthOf" "[J", Cond.fieldLink RX1 108 "ColdShips$Planner" "worth" "J", Cond.fieldLink RX1 119 "ColdShips$Planner" "freeAt" "I", Cond.methodLink RX1 138 yX1_cargoAt, Cond.instanceMethod yX1_cargoAt, Cond.selects RX1 yX1_cargoAt yX1_cargoAt]
def wsX1_keepPlan_r2 : List Cond := [Cond.code yX1_cargoAt cX1_cargoAt 5 (some .int), Cond.methodLink RX1 104 yX1_reckon, Cond.instanceMethod yX1_reckon, Cond.selects RX1 yX1_reckon yX1_reckon, Cond.code yX1_reckon cX1_reckon 14 (some .boolean), Cond.methodLink RX1 164 Lib.Math.max.name, Cond.static Lib.Math.max.name, Cond.code Lib.Math.max.name Lib.Math.max.code 2 (some .int), Cond.constantLong RX1 189 (100000), Cond.methodLink RX1 191 Lib.MathLoose.min_long.x, Cond.static Lib.MathLoose.min_long.x, Cond.code Lib.MathLoose.min_long.x Lib.MathLoose.min_long.code 4 (some .long), Cond.constantLong RX1 198 (100), Cond.methodLink RX1 116 yX4_number, Cond.instanceMethod yX4_number, Cond.selects RX4 yX4_number yX4_number, Cond.initialized RX4, Cond.code yX4_number cX4_number 3 (some .int), Cond.methodLink RX4 34 yX4_at, Cond.instanceMethod yX4_at, Cond.selects RX4 yX4_at yX4_at, Cond.code yX4_at cX4_at 4 (some .long), Cond.fieldLink RX4 25 "ColdShips$Rows" "size" "I", Cond.fieldLink RX4 15 "ColdShips$Rows" "width" "I"]
def wsX1_keepPlan_r3 : List Cond := [Cond.fieldLink RX4 21 "ColdShips$Rows" "cells" "[J", Cond.methodLink RX1 151 yX10_hoursBetween, Cond.instanceMethod yX10_hoursBetween, Cond.selects RX10 yX10_hoursBetween yX10_hoursBetween, Cond.initialized RX10, Cond.code yX10_hoursBetween cX10_hoursBetween 4 (some .int), Cond.fieldLink RX10 27 "ColdShips$World" "terminals" "[LColdShips$Terminal;", Cond.methodLink RX10 93 yX10_hasTerminal, Cond.instanceMethod yX10_hasTerminal, Cond.selects RX10 yX10_hasTerminal yX10_hasTerminal, Cond.code yX10_hasTerminal cX10_hasTerminal 2 (some .boolean), Cond.fieldLink RX10 78 "ColdShips$World" "terminalCount" "I", Cond.methodLink RX1 158 yX7_top, Cond.instanceMethod yX7_top, Cond.selects RX7 yX7_top yX7_top, Cond.initialized RX7, Cond.code yX7_top cX7_top 1 (some .int), Cond.fieldLink RX7 9 "ColdShips$Tank" "cap" "I", Cond.methodLink RX1 175 yX8_hoursFor, Cond.instanceMethod yX8_hoursFor, Cond.selects RX8 yX8_hoursFor yX8_hoursFor, Cond.initialized RX8, Cond.code yX8_hoursFor cX8_hoursFor 2 (some .int), Cond.fieldLink RX8 9 "ColdShips$Terminal" "rate" "I"]
def wsX1_keepPlan_r4 : List Cond := [Cond.methodLink RX1 180 yX6_hourBehind, Cond.instanceMethod yX6_hourBehind, Cond.selects RX6 yX6_hourBehind yX6_hourBehind, Cond.initialized RX6, Cond.code yX6_hourBehind cX6_hourBehind 8 (some .int), Cond.fieldLink RX6 27 "ColdShips$Spans" "size" "I", Cond.fieldLink RX6 21 "ColdShips$Spans" "begins" "[I", Cond.fieldLink RX6 15 "ColdShips$Spans" "owners" "[I", Cond.fieldLink RX6 24 "ColdShips$Spans" "ends" "[I", Cond.methodLink RX6 9 Lib.Math.max.name, Cond.methodLink RX1 194 yX4_at]
def wsX1_keepPlan : List Cond := .code yX1_keepPlan cX1_keepPlan 5 none :: ((wsX1_keepPlan_r1 ++ (wsX1_keepPlan_r2 ++ (wsX1_keepPlan_r3 ++ wsX1_keepPlan_r4))) ++ wsX10 ++ wsX100 ++ wsX40 ++ wsX50 ++ wsX80 ++ wsX70 ++ wsX60)
def wsX1_findBest_r1 : List Cond := [Cond.fieldLink RX1 40 "ColdShips$Planner" "world" "LColdShips$World;", Cond.methodLink RX1 60 Lib.Math.min.name, Cond.static Lib.Math.min.name, Cond.initialized "java/lang/Math", Cond.code Lib.Math.min.name Lib.Math.min.code 2 (some .int), Cond.fieldLink RX1 19 "ColdShips$Planner" "setWorths" "[J", Cond.constantLong RX1 66 (-2000000000000000), Cond.fieldLink RX1 22 "ColdShips$Planner" "setShips" "[I", Cond.fieldLink RX1 11 "ColdShips$Planner" "rowWorths" "[J", Cond.fieldLink RX1 15 "ColdShips$Planner" "rowPlaces" "[I", Cond.methodLink RX1 68 yJ7_fill_d0a16, Cond.static yJ7_fill_d0a16, Cond.initialized RJ7, Cond.code yJ7_fill_d0a16 cJ7_fill_d0a16 5 none, Cond.methodLink RX1 77 yJ7_fill_bad5a, Cond.static yJ7_fill_bad5a, Cond.code yJ7_fill_bad5a cJ7_fill_bad5a 6 none, Cond.methodLink RJ7 13 yJ7_rangeCheck_23922, Cond.static yJ7_rangeCheck_23922, Cond.code yJ7_rangeCheck_23922 cJ7_rangeCheck_23922 3 none, Cond.methodLink RX1 89 yX1_extend, Cond.instanceMethod yX1_extend, Cond.selects RX1 yX1_extend yX1_extend, Cond.initialized RX1]
def wsX1_findBest_r2 : List Cond := [Cond.code yX1_extend cX1_extend 14 none, Cond.fieldLink RX1 108 "ColdShips$Planner" "worth" "J", Cond.fieldLink RX1 119 "ColdShips$Planner" "freeAt" "I", Cond.methodLink RX1 104 yX1_reckon, Cond.instanceMethod yX1_reckon, Cond.selects RX1 yX1_reckon yX1_reckon, Cond.code yX1_reckon cX1_reckon 14 (some .boolean), Cond.methodLink RX1 164 Lib.Math.max.name, Cond.static Lib.Math.max.name, Cond.code Lib.Math.max.name Lib.Math.max.code 2 (some .int), Cond.fieldLink RX1 142 "ColdShips$Planner" "loadAt" "I", Cond.fieldLink RX1 145 "ColdShips$Planner" "landAt" "I", Cond.constantLong RX1 189 (100000), Cond.methodLink RX1 191 Lib.MathLoose.min_long.x, Cond.static Lib.MathLoose.min_long.x, Cond.code Lib.MathLoose.min_long.x Lib.MathLoose.min_long.code 4 (some .long), Cond.constantLong RX1 198 (100), Cond.methodLink RX1 116 yX4_number, Cond.instanceMethod yX4_number, Cond.selects RX4 yX4_number yX4_number, Cond.initialized RX4, Cond.code yX4_number cX4_number 3 (some .int), Cond.methodLink RX4 34 yX4_at, Cond.instanceMethod yX4_at]
def wsX1_findBest_r3 : List Cond := [Cond.selects RX4 yX4_at yX4_at, Cond.code yX4_at cX4_at 4 (some .long), Cond.fieldLink RX4 25 "ColdShips$Rows" "size" "I", Cond.fieldLink RX4 15 "ColdShips$Rows" "width" "I", Cond.fieldLink RX4 21 "ColdShips$Rows" "cells" "[J", Cond.methodLink RX1 151 yX10_hoursBetween, Cond.instanceMethod yX10_hoursBetween, Cond.selects RX10 yX10_hoursBetween yX10_hoursBetween, Cond.initialized RX10, Cond.code yX10_hoursBetween cX10_hoursBetween 4 (some .int), Cond.fieldLink RX10 27 "ColdShips$World" "terminals" "[LColdShips$Terminal;", Cond.methodLink RX10 93 yX10_hasTerminal, Cond.instanceMethod yX10_hasTerminal, Cond.selects RX10 yX10_hasTerminal yX10_hasTerminal, Cond.code yX10_hasTerminal cX10_hasTerminal 2 (some .boolean), Cond.fieldLink RX10 78 "ColdShips$World" "terminalCount" "I", Cond.methodLink RX1 158 yX7_top, Cond.instanceMethod yX7_top, Cond.selects RX7 yX7_top yX7_top, Cond.initialized RX7, Cond.code yX7_top cX7_top 1 (some .int), Cond.fieldLink RX7 9 "ColdShips$Tank" "cap" "I", Cond.methodLink RX1 175 yX8_hoursFor, Cond.instanceMethod yX8_hoursFor]
def wsX1_findBest_r4 : List Cond := [Cond.selects RX8 yX8_hoursFor yX8_hoursFor, Cond.initialized RX8, Cond.code yX8_hoursFor cX8_hoursFor 2 (some .int), Cond.fieldLink RX8 9 "ColdShips$Terminal" "rate" "I", Cond.methodLink RX1 180 yX6_hourBehind, Cond.instanceMethod yX6_hourBehind, Cond.selects RX6 yX6_hourBehind yX6_hourBehind, Cond.initialized RX6, Cond.code yX6_hourBehind cX6_hourBehind 8 (some .int), Cond.fieldLink RX6 27 "ColdShips$Spans" "size" "I", Cond.fieldLink RX6 21 "ColdShips$Spans" "begins" "[I", Cond.fieldLink RX6 15 "ColdShips$Spans" "owners" "[I", Cond.fieldLink RX6 24 "ColdShips$Spans" "ends" "[I", Cond.methodLink RX6 9 Lib.Math.max.name, Cond.methodLink RX1 194 yX4_at, Cond.methodLink RX1 112 yX1_keepRow, Cond.instanceMethod yX1_keepRow, Cond.selects RX1 yX1_keepRow yX1_keepRow, Cond.code yX1_keepRow cX1_keepRow 5 none, Cond.methodLink RX1 93 yX1_addShip, Cond.instanceMethod yX1_addShip, Cond.selects RX1 yX1_addShip yX1_addShip, Cond.code yX1_addShip cX1_addShip 6 none, Cond.methodLink RX1 122 yX1_joinSets]
def wsX1_findBest_r5 : List Cond := [Cond.instanceMethod yX1_joinSets, Cond.selects RX1 yX1_joinSets yX1_joinSets, Cond.code yX1_joinSets cX1_joinSets 10 none, Cond.methodLink RX1 97 yX1_isBetter, Cond.instanceMethod yX1_isBetter, Cond.selects RX1 yX1_isBetter yX1_isBetter, Cond.code yX1_isBetter cX1_isBetter 4 (some .boolean), Cond.methodLink RX1 126 yJ6_bitCount_0f7a4, Cond.static yJ6_bitCount_0f7a4, Cond.initialized RJ6, Cond.code yJ6_bitCount_0f7a4 cJ6_bitCount_0f7a4 1 (some .int), Cond.constant RJ6 265 (1431655765), Cond.constant RJ6 266 (858993459), Cond.constant RJ6 267 (252645135), Cond.methodLink RX1 101 yX1_keepPlan, Cond.instanceMethod yX1_keepPlan, Cond.selects RX1 yX1_keepPlan yX1_keepPlan, Cond.code yX1_keepPlan cX1_keepPlan 5 none, Cond.fieldLink RX1 132 "ColdShips$Planner" "planned" "I", Cond.fieldLink RX1 25 "ColdShips$Planner" "shipOf" "[I", Cond.methodLink RX1 135 yX1_keepVoyage, Cond.instanceMethod yX1_keepVoyage, Cond.selects RX1 yX1_keepVoyage yX1_keepVoyage, Cond.code yX1_keepVoyage cX1_keepVoyage 9 none]
def wsX1_findBest_r6 : List Cond := [Cond.fieldLink RX1 28 "ColdShips$Planner" "placeOf" "[I", Cond.fieldLink RX1 31 "ColdShips$Planner" "loadOf" "[I", Cond.fieldLink RX1 34 "ColdShips$Planner" "landOf" "[I", Cond.fieldLink RX1 37 "ColdShips$Planner" "worthOf" "[J", Cond.methodLink RX1 138 yX1_cargoAt, Cond.instanceMethod yX1_cargoAt, Cond.selects RX1 yX1_cargoAt yX1_cargoAt, Cond.code yX1_cargoAt cX1_cargoAt 5 (some .int)]
def wsX1_findBest : List Cond := .code yX1_findBest cX1_findBest 5 (some .long) :: ((wsX1_findBest_r1 ++ (wsX1_findBest_r2 ++ (wsX1_findBest_r3 ++ (wsX1_findBest_r4 ++ (wsX1_findBest_r5 ++ wsX1_findBest_r6))))) ++ wsX10 ++ wsX100 ++ wsX40 ++ wsX50 ++ wsX80 ++ wsX70 ++ wsX60)
def wsX2_hasRoom : List Cond := .code yX2_hasRoom cX2_hasRoom 1 (some .boolean) :: ([.fieldLink RX2 26 "ColdShips$Reader" "size" "I"] ++ wsX20)
def wsX2_addFour : List Cond := .code yX2_addFour cX2_addFour 3 none :: ([.fieldLink RX2 26 "ColdShips$Reader" "size" "I", .fieldLink RX2 11 "ColdShips$Reader" "tape" "[C"] ++ wsX20)
def wsX2_emptyTape : List Cond := .code yX2_emptyTape cX2_emptyTape 1 none :: ([.fieldLink RX2 26 "ColdShips$Reader" "size" "I"] ++ wsX20)
def wsX2_advance : List Cond := .code yX2_advance cX2_advance 1 none :: ([.fieldLink RX2 29 "ColdShips$Reader" "behind" "I", .fieldLink RX2 60 "ColdShips$Reader" "place" "I", .fieldLink RX2 26 "ColdShips$Reader" "size" "I", .fieldLink RX2 11 "ColdShips$Reader" "tape" "[C", .fieldLink RX2 77 "ColdShips$Reader" "kind" "I", .fieldLink RX2 99 "ColdShips$Reader" "value" "I", .constant RX2 205 (100001), .methodLink RX2 206 Lib.Math.min.name, .static Lib.Math.min.name, .initialized "java/lang/Math", .code Lib.Math.min.name Lib.Math.min.code 2 (some .int), .methodLink RX2 199 yX2_isLetter, .static yX2_isLetter, .initialized RX2, .code yX2_isLetter cX2_isLetter 1 (some .boolean), .methodLink RX2 202 yX2_isDigit, .static yX2_isDigit, .code yX2_isDigit cX2_isDigit 1 (some .boolean)] ++ wsX20)
def wsX2_isWord_r1 : List Cond := [Cond.fieldLink RX2 77 "ColdShips$Reader" "kind" "I", Cond.fieldLink RX2 29 "ColdShips$Reader" "behind" "I", Cond.fieldLink RX2 60 "ColdShips$Reader" "place" "I", Cond.fieldLink RX2 11 "ColdShips$Reader" "tape" "[C", Cond.methodLink RX2 190 yJ0_length_8abf5, Cond.instanceMethod yJ0_length_8abf5, Cond.selects RJ0 yJ0_length_8abf5 yJ0_length_8abf5, Cond.initialized RJ0, Cond.code yJ0_length_8abf5 cJ0_length_8abf5 1 (some .int), Cond.fieldLink RJ0 9 "java/lang/String" "value" "[B", Cond.methodLink RJ0 335 yJ0_coder_7d493, Cond.instanceMethod yJ0_coder_7d493, Cond.selects RJ0 yJ0_coder_7d493 yJ0_coder_7d493, Cond.code yJ0_coder_7d493 cJ0_coder_7d493 1 (some .byte), Cond.fieldLink RJ0 38 "java/lang/String" "COMPACT_STRINGS" "Z", Cond.fieldLink RJ0 15 "java/lang/String" "coder" "B", Cond.methodLink RX2 195 yJ0_charAt_5068e, Cond.instanceMethod yJ0_charAt_5068e, Cond.selects RJ0 yJ0_charAt_5068e yJ0_charAt_5068e, Cond.code yJ0_charAt_5068e cJ0_charAt_5068e 2 (some .char), Cond.methodLink RJ0 492 yJ0_isLatin1_aae02, Cond.instanceMethod yJ0_isLatin1_aae02, Cond.selects RJ0 yJ0_isLatin1_aae02 yJ0_isLatin1_aae02, Cond.code yJ0_isLatin1_aae02 cJ0_isLatin1_aae02 1 (some .boolean)]
def wsX2_isWord_r2 : List Cond := [Cond.methodLink RJ0 495 yJ1_charAt_3b067, Cond.static yJ1_charAt_3b067, Cond.initialized RJ1, Cond.code yJ1_charAt_3b067 cJ1_charAt_3b067 2 (some .char), Cond.methodLink RJ1 9 yJ0_checkIndex_df160, Cond.static yJ0_checkIndex_df160, Cond.code yJ0_checkIndex_df160 cJ0_checkIndex_df160 2 none, Cond.fieldLink RJ0 1053 "jdk/internal/util/Preconditions" "SIOOBE_FORMATTER" "Ljava/util/function/BiFunction;", Cond.methodLink RJ0 1059 yJ3_checkIndex_8e157, Cond.static yJ3_checkIndex_8e157, Cond.initialized RJ3, Cond.code yJ3_checkIndex_8e157 cJ3_checkIndex_8e157 3 (some .int), Cond.methodLink RJ0 498 yJ2_charAt_3b067, Cond.static yJ2_charAt_3b067, Cond.initialized RJ2, Cond.code yJ2_charAt_3b067 cJ2_charAt_3b067 2 (some .char), Cond.methodLink RJ2 67 yJ2_checkIndex_2214a, Cond.static yJ2_checkIndex_2214a, Cond.code yJ2_checkIndex_2214a cJ2_checkIndex_2214a 2 none, Cond.methodLink RJ2 48 yJ2_length_9d52b, Cond.static yJ2_length_9d52b, Cond.code yJ2_length_9d52b cJ2_length_9d52b 1 (some .int), Cond.methodLink RJ2 414 yJ0_checkIndex_df160, Cond.methodLink RJ2 71 yJ2_getChar_3b067]
def wsX2_isWord_r3 : List Cond := [Cond.static yJ2_getChar_3b067, Cond.code yJ2_getChar_3b067 cJ2_getChar_3b067 2 (some .char), Cond.fieldLink RJ2 44 "java/lang/StringUTF16" "$assertionsDisabled" "Z", Cond.fieldLink RJ2 59 "java/lang/StringUTF16" "HI_BYTE_SHIFT" "I", Cond.fieldLink RJ2 63 "java/lang/StringUTF16" "LO_BYTE_SHIFT" "I"]
def wsX2_isWord : List Cond := .code yX2_isWord cX2_isWord 3 (some .boolean) :: ((wsX2_isWord_r1 ++ (wsX2_isWord_r2 ++ wsX2_isWord_r3)) ++ wsX20)
def wsX2_passWord_r1 : List Cond := [Cond.methodLink RX2 169 yX2_isWord, Cond.instanceMethod yX2_isWord, Cond.selects RX2 yX2_isWord yX2_isWord, Cond.initialized RX2, Cond.code yX2_isWord cX2_isWord 3 (some .boolean), Cond.fieldLink RX2 77 "ColdShips$Reader" "kind" "I", Cond.fieldLink RX2 29 "ColdShips$Reader" "behind" "I", Cond.fieldLink RX2 60 "ColdShips$Reader" "place" "I", Cond.fieldLink RX2 11 "ColdShips$Reader" "tape" "[C", Cond.methodLink RX2 190 yJ0_length_8abf5, Cond.instanceMethod yJ0_length_8abf5, Cond.selects RJ0 yJ0_length_8abf5 yJ0_length_8abf5, Cond.initialized RJ0, Cond.code yJ0_length_8abf5 cJ0_length_8abf5 1 (some .int), Cond.fieldLink RJ0 9 "java/lang/String" "value" "[B", Cond.methodLink RJ0 335 yJ0_coder_7d493, Cond.instanceMethod yJ0_coder_7d493, Cond.selects RJ0 yJ0_coder_7d493 yJ0_coder_7d493, Cond.code yJ0_coder_7d493 cJ0_coder_7d493 1 (some .byte), Cond.fieldLink RJ0 38 "java/lang/String" "COMPACT_STRINGS" "Z", Cond.fieldLink RJ0 15 "java/lang/String" "coder" "B", Cond.methodLink RX2 195 yJ0_charAt_5068e, Cond.instanceMethod yJ0_charAt_5068e, Cond.selects RJ0 yJ0_charAt_5068e yJ0_charAt_5068e]
def wsX2_passWord_r2 : List Cond := [Cond.code yJ0_charAt_5068e cJ0_charAt_5068e 2 (some .char), Cond.methodLink RJ0 492 yJ0_isLatin1_aae02, Cond.instanceMethod yJ0_isLatin1_aae02, Cond.selects RJ0 yJ0_isLatin1_aae02 yJ0_isLatin1_aae02, Cond.code yJ0_isLatin1_aae02 cJ0_isLatin1_aae02 1 (some .boolean), Cond.methodLink RJ0 495 yJ1_charAt_3b067, Cond.static yJ1_charAt_3b067, Cond.initialized RJ1, Cond.code yJ1_charAt_3b067 cJ1_charAt_3b067 2 (some .char), Cond.methodLink RJ1 9 yJ0_checkIndex_df160, Cond.static yJ0_checkIndex_df160, Cond.code yJ0_checkIndex_df160 cJ0_checkIndex_df160 2 none, Cond.fieldLink RJ0 1053 "jdk/internal/util/Preconditions" "SIOOBE_FORMATTER" "Ljava/util/function/BiFunction;", Cond.methodLink RJ0 1059 yJ3_checkIndex_8e157, Cond.static yJ3_checkIndex_8e157, Cond.initialized RJ3, Cond.code yJ3_checkIndex_8e157 cJ3_checkIndex_8e157 3 (some .int), Cond.methodLink RJ0 498 yJ2_charAt_3b067, Cond.static yJ2_charAt_3b067, Cond.initialized RJ2, Cond.code yJ2_charAt_3b067 cJ2_charAt_3b067 2 (some .char), Cond.methodLink RJ2 67 yJ2_checkIndex_2214a, Cond.static yJ2_checkIndex_2214a, Cond.code yJ2_checkIndex_2214a cJ2_checkIndex_2214a 2 none]
def wsX2_passWord_r3 : List Cond := [Cond.methodLink RJ2 48 yJ2_length_9d52b, Cond.static yJ2_length_9d52b, Cond.code yJ2_length_9d52b cJ2_length_9d52b 1 (some .int), Cond.methodLink RJ2 414 yJ0_checkIndex_df160, Cond.methodLink RJ2 71 yJ2_getChar_3b067, Cond.static yJ2_getChar_3b067, Cond.code yJ2_getChar_3b067 cJ2_getChar_3b067 2 (some .char), Cond.fieldLink RJ2 44 "java/lang/StringUTF16" "$assertionsDisabled" "Z", Cond.fieldLink RJ2 59 "java/lang/StringUTF16" "HI_BYTE_SHIFT" "I", Cond.fieldLink RJ2 63 "java/lang/StringUTF16" "LO_BYTE_SHIFT" "I", Cond.methodLink RX2 53 yX2_advance, Cond.instanceMethod yX2_advance, Cond.selects RX2 yX2_advance yX2_advance, Cond.code yX2_advance cX2_advance 1 none, Cond.fieldLink RX2 26 "ColdShips$Reader" "size" "I", Cond.fieldLink RX2 99 "ColdShips$Reader" "value" "I", Cond.constant RX2 205 (100001), Cond.methodLink RX2 206 Lib.Math.min.name, Cond.static Lib.Math.min.name, Cond.initialized "java/lang/Math", Cond.code Lib.Math.min.name Lib.Math.min.code 2 (some .int), Cond.methodLink RX2 199 yX2_isLetter, Cond.static yX2_isLetter, Cond.code yX2_isLetter cX2_isLetter 1 (some .boolean)]
def wsX2_passWord_r4 : List Cond := [Cond.methodLink RX2 202 yX2_isDigit, Cond.static yX2_isDigit, Cond.code yX2_isDigit cX2_isDigit 1 (some .boolean)]
def wsX2_passWord : List Cond := .code yX2_passWord cX2_passWord 3 (some .boolean) :: ((wsX2_passWord_r1 ++ (wsX2_passWord_r2 ++ (wsX2_passWord_r3 ++ wsX2_passWord_r4))) ++ wsX20)
def wsX2_readClause_r1 : List Cond := [Cond.fieldLink RX2 99 "ColdShips$Reader" "value" "I", Cond.fieldLink RX2 50 "ColdShips$Reader" "wantedPlace" "I", Cond.methodLink RX2 86 yX2_passWord, Cond.instanceMethod yX2_passWord, Cond.selects RX2 yX2_passWord yX2_passWord, Cond.initialized RX2, Cond.code yX2_passWord cX2_passWord 3 (some .boolean), Cond.methodLink RX2 169 yX2_isWord, Cond.instanceMethod yX2_isWord, Cond.selects RX2 yX2_isWord yX2_isWord, Cond.code yX2_isWord cX2_isWord 3 (some .boolean), Cond.fieldLink RX2 77 "ColdShips$Reader" "kind" "I", Cond.fieldLink RX2 29 "ColdShips$Reader" "behind" "I", Cond.fieldLink RX2 60 "ColdShips$Reader" "place" "I", Cond.fieldLink RX2 11 "ColdShips$Reader" "tape" "[C", Cond.methodLink RX2 190 yJ0_length_8abf5, Cond.instanceMethod yJ0_length_8abf5, Cond.selects RJ0 yJ0_length_8abf5 yJ0_length_8abf5, Cond.initialized RJ0, Cond.code yJ0_length_8abf5 cJ0_length_8abf5 1 (some .int), Cond.fieldLink RJ0 9 "java/lang/String" "value" "[B", Cond.methodLink RJ0 335 yJ0_coder_7d493, Cond.instanceMethod yJ0_coder_7d493, Cond.selects RJ0 yJ0_coder_7d493 yJ0_coder_7d493]
def wsX2_readClause_r2 : List Cond := [Cond.code yJ0_coder_7d493 cJ0_coder_7d493 1 (some .byte), Cond.fieldLink RJ0 38 "java/lang/String" "COMPACT_STRINGS" "Z", Cond.fieldLink RJ0 15 "java/lang/String" "coder" "B", Cond.methodLink RX2 195 yJ0_charAt_5068e, Cond.instanceMethod yJ0_charAt_5068e, Cond.selects RJ0 yJ0_charAt_5068e yJ0_charAt_5068e, Cond.code yJ0_charAt_5068e cJ0_charAt_5068e 2 (some .char), Cond.methodLink RJ0 492 yJ0_isLatin1_aae02, Cond.instanceMethod yJ0_isLatin1_aae02, Cond.selects RJ0 yJ0_isLatin1_aae02 yJ0_isLatin1_aae02, Cond.code yJ0_isLatin1_aae02 cJ0_isLatin1_aae02 1 (some .boolean), Cond.methodLink RJ0 495 yJ1_charAt_3b067, Cond.static yJ1_charAt_3b067, Cond.initialized RJ1, Cond.code yJ1_charAt_3b067 cJ1_charAt_3b067 2 (some .char), Cond.methodLink RJ1 9 yJ0_checkIndex_df160, Cond.static yJ0_checkIndex_df160, Cond.code yJ0_checkIndex_df160 cJ0_checkIndex_df160 2 none, Cond.fieldLink RJ0 1053 "jdk/internal/util/Preconditions" "SIOOBE_FORMATTER" "Ljava/util/function/BiFunction;", Cond.methodLink RJ0 1059 yJ3_checkIndex_8e157, Cond.static yJ3_checkIndex_8e157, Cond.initialized RJ3, Cond.code yJ3_checkIndex_8e157 cJ3_checkIndex_8e157 3 (some .int), Cond.methodLink RJ0 498 yJ2_charAt_3b067]
def wsX2_readClause_r3 : List Cond := [Cond.static yJ2_charAt_3b067, Cond.initialized RJ2, Cond.code yJ2_charAt_3b067 cJ2_charAt_3b067 2 (some .char), Cond.methodLink RJ2 67 yJ2_checkIndex_2214a, Cond.static yJ2_checkIndex_2214a, Cond.code yJ2_checkIndex_2214a cJ2_checkIndex_2214a 2 none, Cond.methodLink RJ2 48 yJ2_length_9d52b, Cond.static yJ2_length_9d52b, Cond.code yJ2_length_9d52b cJ2_length_9d52b 1 (some .int), Cond.methodLink RJ2 414 yJ0_checkIndex_df160, Cond.methodLink RJ2 71 yJ2_getChar_3b067, Cond.static yJ2_getChar_3b067, Cond.code yJ2_getChar_3b067 cJ2_getChar_3b067 2 (some .char), Cond.fieldLink RJ2 44 "java/lang/StringUTF16" "$assertionsDisabled" "Z", Cond.fieldLink RJ2 59 "java/lang/StringUTF16" "HI_BYTE_SHIFT" "I", Cond.fieldLink RJ2 63 "java/lang/StringUTF16" "LO_BYTE_SHIFT" "I", Cond.methodLink RX2 53 yX2_advance, Cond.instanceMethod yX2_advance, Cond.selects RX2 yX2_advance yX2_advance, Cond.code yX2_advance cX2_advance 1 none, Cond.fieldLink RX2 26 "ColdShips$Reader" "size" "I", Cond.constant RX2 205 (100001), Cond.methodLink RX2 206 Lib.Math.min.name, Cond.static Lib.Math.min.name]
def wsX2_readClause_r4 : List Cond := [Cond.initialized "java/lang/Math", Cond.code Lib.Math.min.name Lib.Math.min.code 2 (some .int), Cond.methodLink RX2 199 yX2_isLetter, Cond.static yX2_isLetter, Cond.code yX2_isLetter cX2_isLetter 1 (some .boolean), Cond.methodLink RX2 202 yX2_isDigit, Cond.static yX2_isDigit, Cond.code yX2_isDigit cX2_isDigit 1 (some .boolean), Cond.methodLink RX2 90 yX2_readWindow, Cond.instanceMethod yX2_readWindow, Cond.selects RX2 yX2_readWindow yX2_readWindow, Cond.code yX2_readWindow cX2_readWindow 2 (some .boolean), Cond.fieldLink RX2 44 "ColdShips$Reader" "windowFrom" "I", Cond.fieldLink RX2 47 "ColdShips$Reader" "windowTo" "I", Cond.methodLink RX2 95 yX2_isNumber, Cond.instanceMethod yX2_isNumber, Cond.selects RX2 yX2_isNumber yX2_isNumber, Cond.code yX2_isNumber cX2_isNumber 3 (some .boolean), Cond.static yX11_within, Cond.initialized RX11, Cond.code yX11_within cX11_within 3 (some .boolean), Cond.methodLink RX2 104 yX2_readMoney, Cond.instanceMethod yX2_readMoney, Cond.selects RX2 yX2_readMoney yX2_readMoney]
def wsX2_readClause_r5 : List Cond := [Cond.code yX2_readMoney cX2_readMoney 2 (some .boolean), Cond.fieldLink RX2 35 "ColdShips$Reader" "sums" "I", Cond.fieldLink RX2 23 "ColdShips$Reader" "starts" "[I", Cond.fieldLink RX2 32 "ColdShips$Reader" "cells" "I", Cond.methodLink RX2 112 yX2_readSum, Cond.instanceMethod yX2_readSum, Cond.selects RX2 yX2_readSum yX2_readSum, Cond.code yX2_readSum cX2_readSum 3 (some .boolean), Cond.methodLink RX2 153 yX2_readTerm, Cond.instanceMethod yX2_readTerm, Cond.selects RX2 yX2_readTerm yX2_readTerm, Cond.methodLink RX2 143 yX2_isSign, Cond.instanceMethod yX2_isSign, Cond.selects RX2 yX2_isSign yX2_isSign, Cond.code yX2_isSign cX2_isSign 2 (some .boolean), Cond.methodLink RX2 120 yX2_emit, Cond.instanceMethod yX2_emit, Cond.selects RX2 yX2_emit yX2_emit, Cond.code yX2_emit cX2_emit 2 none, Cond.fieldLink RX2 19 "ColdShips$Reader" "code" "[I", Cond.code yX2_readBoth cX2_readBoth 3 (some .boolean), Cond.methodLink RX2 136 yX2_readPlain, Cond.instanceMethod yX2_readPlain, Cond.selects RX2 yX2_readPlain yX2_readPlain]
def wsX2_readClause_r6 : List Cond := [Cond.methodLink RX2 129 yX2_emitJump, Cond.instanceMethod yX2_emitJump, Cond.selects RX2 yX2_emitJump yX2_emitJump, Cond.code yX2_emitJump cX2_emitJump 2 (some .int), Cond.methodLink RX2 133 yX2_land, Cond.instanceMethod yX2_land, Cond.selects RX2 yX2_land yX2_land, Cond.code yX2_land cX2_land 2 none, Cond.code yX2_readCompared cX2_readCompared 2 (some .boolean), Cond.code yX2_readInBrackets cX2_readInBrackets 3 (some .boolean), Cond.fieldLink RX2 41 "ColdShips$Reader" "brackets" "I", Cond.methodLink RX2 117 yX2_readTest, Cond.instanceMethod yX2_readTest, Cond.selects RX2 yX2_readTest yX2_readTest, Cond.methodLink RX2 80 yX2_passSign, Cond.instanceMethod yX2_passSign, Cond.selects RX2 yX2_passSign yX2_passSign, Cond.code yX2_passSign cX2_passSign 3 (some .boolean), Cond.code yX2_readPart cX2_readPart 2 (some .boolean), Cond.fieldLink RX2 38 "ColdShips$Reader" "leaves" "I", Cond.methodLink RX2 146 yX2_readInBrackets, Cond.instanceMethod yX2_readInBrackets, Cond.selects RX2 yX2_readInBrackets yX2_readInBrackets, Cond.methodLink RX2 159 yX2_leafHere]
def wsX2_readClause_r7 : List Cond := [Cond.instanceMethod yX2_leafHere, Cond.selects RX2 yX2_leafHere yX2_leafHere, Cond.code yX2_leafHere cX2_leafHere 2 (some .int), Cond.constant RX2 163 (100000), Cond.methodLink RX2 164 yX2_factHere, Cond.instanceMethod yX2_factHere, Cond.selects RX2 yX2_factHere yX2_factHere, Cond.code yX2_factHere cX2_factHere 1 (some .int), Cond.code yX2_readPlain cX2_readPlain 3 (some .boolean), Cond.methodLink RX2 150 yX2_readCompared, Cond.instanceMethod yX2_readCompared, Cond.selects RX2 yX2_readCompared yX2_readCompared, Cond.code yX2_readTerm cX2_readTerm 3 (some .boolean), Cond.methodLink RX2 156 yX2_readPart, Cond.instanceMethod yX2_readPart, Cond.selects RX2 yX2_readPart yX2_readPart, Cond.code yX2_readTest cX2_readTest 3 (some .boolean), Cond.methodLink RX2 124 yX2_readBoth, Cond.instanceMethod yX2_readBoth, Cond.selects RX2 yX2_readBoth yX2_readBoth]
def wsX2_readClause : List Cond := .code yX2_readClause cX2_readClause 1 (some .boolean) :: ((wsX2_readClause_r1 ++ (wsX2_readClause_r2 ++ (wsX2_readClause_r3 ++ (wsX2_readClause_r4 ++ (wsX2_readClause_r5 ++ (wsX2_readClause_r6 ++ wsX2_readClause_r7)))))) ++ wsX20)
def wsX2_readClauses_r1 : List Cond := [Cond.fieldLink RX2 77 "ColdShips$Reader" "kind" "I", Cond.methodLink RX2 74 yX2_readClause, Cond.instanceMethod yX2_readClause, Cond.selects RX2 yX2_readClause yX2_readClause, Cond.initialized RX2, Cond.code yX2_readClause cX2_readClause 1 (some .boolean), Cond.fieldLink RX2 99 "ColdShips$Reader" "value" "I", Cond.fieldLink RX2 50 "ColdShips$Reader" "wantedPlace" "I", Cond.methodLink RX2 86 yX2_passWord, Cond.instanceMethod yX2_passWord, Cond.selects RX2 yX2_passWord yX2_passWord, Cond.code yX2_passWord cX2_passWord 3 (some .boolean), Cond.methodLink RX2 169 yX2_isWord, Cond.instanceMethod yX2_isWord, Cond.selects RX2 yX2_isWord yX2_isWord, Cond.code yX2_isWord cX2_isWord 3 (some .boolean), Cond.fieldLink RX2 29 "ColdShips$Reader" "behind" "I", Cond.fieldLink RX2 60 "ColdShips$Reader" "place" "I", Cond.fieldLink RX2 11 "ColdShips$Reader" "tape" "[C", Cond.methodLink RX2 190 yJ0_length_8abf5, Cond.instanceMethod yJ0_length_8abf5, Cond.selects RJ0 yJ0_length_8abf5 yJ0_length_8abf5, Cond.initialized RJ0, Cond.code yJ0_length_8abf5 cJ0_length_8abf5 1 (some .int)]
def wsX2_readClauses_r2 : List Cond := [Cond.fieldLink RJ0 9 "java/lang/String" "value" "[B", Cond.methodLink RJ0 335 yJ0_coder_7d493, Cond.instanceMethod yJ0_coder_7d493, Cond.selects RJ0 yJ0_coder_7d493 yJ0_coder_7d493, Cond.code yJ0_coder_7d493 cJ0_coder_7d493 1 (some .byte), Cond.fieldLink RJ0 38 "java/lang/String" "COMPACT_STRINGS" "Z", Cond.fieldLink RJ0 15 "java/lang/String" "coder" "B", Cond.methodLink RX2 195 yJ0_charAt_5068e, Cond.instanceMethod yJ0_charAt_5068e, Cond.selects RJ0 yJ0_charAt_5068e yJ0_charAt_5068e, Cond.code yJ0_charAt_5068e cJ0_charAt_5068e 2 (some .char), Cond.methodLink RJ0 492 yJ0_isLatin1_aae02, Cond.instanceMethod yJ0_isLatin1_aae02, Cond.selects RJ0 yJ0_isLatin1_aae02 yJ0_isLatin1_aae02, Cond.code yJ0_isLatin1_aae02 cJ0_isLatin1_aae02 1 (some .boolean), Cond.methodLink RJ0 495 yJ1_charAt_3b067, Cond.static yJ1_charAt_3b067, Cond.initialized RJ1, Cond.code yJ1_charAt_3b067 cJ1_charAt_3b067 2 (some .char), Cond.methodLink RJ1 9 yJ0_checkIndex_df160, Cond.static yJ0_checkIndex_df160, Cond.code yJ0_checkIndex_df160 cJ0_checkIndex_df160 2 none, Cond.fieldLink RJ0 1053 "jdk/internal/util/Preconditions" "SIOOBE_FORMATTER" "Ljava/util/function/BiFunction;", Cond.methodLink RJ0 1059 yJ3_checkIndex_8e157]
def wsX2_readClauses_r3 : List Cond := [Cond.static yJ3_checkIndex_8e157, Cond.initialized RJ3, Cond.code yJ3_checkIndex_8e157 cJ3_checkIndex_8e157 3 (some .int), Cond.methodLink RJ0 498 yJ2_charAt_3b067, Cond.static yJ2_charAt_3b067, Cond.initialized RJ2, Cond.code yJ2_charAt_3b067 cJ2_charAt_3b067 2 (some .char), Cond.methodLink RJ2 67 yJ2_checkIndex_2214a, Cond.static yJ2_checkIndex_2214a, Cond.code yJ2_checkIndex_2214a cJ2_checkIndex_2214a 2 none, Cond.methodLink RJ2 48 yJ2_length_9d52b, Cond.static yJ2_length_9d52b, Cond.code yJ2_length_9d52b cJ2_length_9d52b 1 (some .int), Cond.methodLink RJ2 414 yJ0_checkIndex_df160, Cond.methodLink RJ2 71 yJ2_getChar_3b067, Cond.static yJ2_getChar_3b067, Cond.code yJ2_getChar_3b067 cJ2_getChar_3b067 2 (some .char), Cond.fieldLink RJ2 44 "java/lang/StringUTF16" "$assertionsDisabled" "Z", Cond.fieldLink RJ2 59 "java/lang/StringUTF16" "HI_BYTE_SHIFT" "I", Cond.fieldLink RJ2 63 "java/lang/StringUTF16" "LO_BYTE_SHIFT" "I", Cond.methodLink RX2 53 yX2_advance, Cond.instanceMethod yX2_advance, Cond.selects RX2 yX2_advance yX2_advance, Cond.code yX2_advance cX2_advance 1 none]
def wsX2_readClauses_r4 : List Cond := [Cond.fieldLink RX2 26 "ColdShips$Reader" "size" "I", Cond.constant RX2 205 (100001), Cond.methodLink RX2 206 Lib.Math.min.name, Cond.static Lib.Math.min.name, Cond.initialized "java/lang/Math", Cond.code Lib.Math.min.name Lib.Math.min.code 2 (some .int), Cond.methodLink RX2 199 yX2_isLetter, Cond.static yX2_isLetter, Cond.code yX2_isLetter cX2_isLetter 1 (some .boolean), Cond.methodLink RX2 202 yX2_isDigit, Cond.static yX2_isDigit, Cond.code yX2_isDigit cX2_isDigit 1 (some .boolean), Cond.methodLink RX2 90 yX2_readWindow, Cond.instanceMethod yX2_readWindow, Cond.selects RX2 yX2_readWindow yX2_readWindow, Cond.code yX2_readWindow cX2_readWindow 2 (some .boolean), Cond.fieldLink RX2 44 "ColdShips$Reader" "windowFrom" "I", Cond.fieldLink RX2 47 "ColdShips$Reader" "windowTo" "I", Cond.methodLink RX2 95 yX2_isNumber, Cond.instanceMethod yX2_isNumber, Cond.selects RX2 yX2_isNumber yX2_isNumber, Cond.code yX2_isNumber cX2_isNumber 3 (some .boolean), Cond.static yX11_within, Cond.initialized RX11]
def wsX2_readClauses_r5 : List Cond := [Cond.code yX11_within cX11_within 3 (some .boolean), Cond.methodLink RX2 104 yX2_readMoney, Cond.instanceMethod yX2_readMoney, Cond.selects RX2 yX2_readMoney yX2_readMoney, Cond.code yX2_readMoney cX2_readMoney 2 (some .boolean), Cond.fieldLink RX2 35 "ColdShips$Reader" "sums" "I", Cond.fieldLink RX2 23 "ColdShips$Reader" "starts" "[I", Cond.fieldLink RX2 32 "ColdShips$Reader" "cells" "I", Cond.methodLink RX2 112 yX2_readSum, Cond.instanceMethod yX2_readSum, Cond.selects RX2 yX2_readSum yX2_readSum, Cond.code yX2_readSum cX2_readSum 3 (some .boolean), Cond.methodLink RX2 153 yX2_readTerm, Cond.instanceMethod yX2_readTerm, Cond.selects RX2 yX2_readTerm yX2_readTerm, Cond.methodLink RX2 143 yX2_isSign, Cond.instanceMethod yX2_isSign, Cond.selects RX2 yX2_isSign yX2_isSign, Cond.code yX2_isSign cX2_isSign 2 (some .boolean), Cond.methodLink RX2 120 yX2_emit, Cond.instanceMethod yX2_emit, Cond.selects RX2 yX2_emit yX2_emit, Cond.code yX2_emit cX2_emit 2 none, Cond.fieldLink RX2 19 "ColdShips$Reader" "code" "[I"]
def wsX2_readClauses_r6 : List Cond := [Cond.code yX2_readBoth cX2_readBoth 3 (some .boolean), Cond.methodLink RX2 136 yX2_readPlain, Cond.instanceMethod yX2_readPlain, Cond.selects RX2 yX2_readPlain yX2_readPlain, Cond.methodLink RX2 129 yX2_emitJump, Cond.instanceMethod yX2_emitJump, Cond.selects RX2 yX2_emitJump yX2_emitJump, Cond.code yX2_emitJump cX2_emitJump 2 (some .int), Cond.methodLink RX2 133 yX2_land, Cond.instanceMethod yX2_land, Cond.selects RX2 yX2_land yX2_land, Cond.code yX2_land cX2_land 2 none, Cond.code yX2_readCompared cX2_readCompared 2 (some .boolean), Cond.code yX2_readInBrackets cX2_readInBrackets 3 (some .boolean), Cond.fieldLink RX2 41 "ColdShips$Reader" "brackets" "I", Cond.methodLink RX2 117 yX2_readTest, Cond.instanceMethod yX2_readTest, Cond.selects RX2 yX2_readTest yX2_readTest, Cond.methodLink RX2 80 yX2_passSign, Cond.instanceMethod yX2_passSign, Cond.selects RX2 yX2_passSign yX2_passSign, Cond.code yX2_passSign cX2_passSign 3 (some .boolean), Cond.code yX2_readPart cX2_readPart 2 (some .boolean), Cond.fieldLink RX2 38 "ColdShips$Reader" "leaves" "I"]
def wsX2_readClauses_r7 : List Cond := [Cond.methodLink RX2 146 yX2_readInBrackets, Cond.instanceMethod yX2_readInBrackets, Cond.selects RX2 yX2_readInBrackets yX2_readInBrackets, Cond.methodLink RX2 159 yX2_leafHere, Cond.instanceMethod yX2_leafHere, Cond.selects RX2 yX2_leafHere yX2_leafHere, Cond.code yX2_leafHere cX2_leafHere 2 (some .int), Cond.constant RX2 163 (100000), Cond.methodLink RX2 164 yX2_factHere, Cond.instanceMethod yX2_factHere, Cond.selects RX2 yX2_factHere yX2_factHere, Cond.code yX2_factHere cX2_factHere 1 (some .int), Cond.code yX2_readPlain cX2_readPlain 3 (some .boolean), Cond.methodLink RX2 150 yX2_readCompared, Cond.instanceMethod yX2_readCompared, Cond.selects RX2 yX2_readCompared yX2_readCompared, Cond.code yX2_readTerm cX2_readTerm 3 (some .boolean), Cond.methodLink RX2 156 yX2_readPart, Cond.instanceMethod yX2_readPart, Cond.selects RX2 yX2_readPart yX2_readPart, Cond.code yX2_readTest cX2_readTest 3 (some .boolean), Cond.methodLink RX2 124 yX2_readBoth, Cond.instanceMethod yX2_readBoth, Cond.selects RX2 yX2_readBoth yX2_readBoth]
def wsX2_readClauses : List Cond := .code yX2_readClauses cX2_readClauses 2 (some .boolean) :: ((wsX2_readClauses_r1 ++ (wsX2_readClauses_r2 ++ (wsX2_readClauses_r3 ++ (wsX2_readClauses_r4 ++ (wsX2_readClauses_r5 ++ (wsX2_readClauses_r6 ++ wsX2_readClauses_r7)))))) ++ wsX20)
def wsX2_readTape_r1 : List Cond := [Cond.fieldLink RX2 29 "ColdShips$Reader" "behind" "I", Cond.fieldLink RX2 32 "ColdShips$Reader" "cells" "I", Cond.fieldLink RX2 35 "ColdShips$Reader" "sums" "I", Cond.fieldLink RX2 38 "ColdShips$Reader" "leaves" "I", Cond.fieldLink RX2 41 "ColdShips$Reader" "brackets" "I", Cond.fieldLink RX2 44 "ColdShips$Reader" "windowFrom" "I", Cond.fieldLink RX2 47 "ColdShips$Reader" "windowTo" "I", Cond.fieldLink RX2 50 "ColdShips$Reader" "wantedPlace" "I", Cond.fieldLink RX2 60 "ColdShips$Reader" "place" "I", Cond.fieldLink RX2 15 "ColdShips$Reader" "faultAt" "I", Cond.fieldLink RX2 23 "ColdShips$Reader" "starts" "[I", Cond.classLink RX2 63 RX0, Cond.instantiable RX0 5, Cond.initialized RX0, Cond.fieldLink RX2 19 "ColdShips$Reader" "code" "[I", Cond.methodLink RX2 53 yX2_advance, Cond.instanceMethod yX2_advance, Cond.selects RX2 yX2_advance yX2_advance, Cond.initialized RX2, Cond.code yX2_advance cX2_advance 1 none, Cond.fieldLink RX2 26 "ColdShips$Reader" "size" "I", Cond.fieldLink RX2 11 "ColdShips$Reader" "tape" "[C", Cond.fieldLink RX2 77 "ColdShips$Reader" "kind" "I", Cond.fieldLink RX2 99 "ColdShips$Reader" "value" "I"]
def wsX2_readTape_r2 : List Cond := [Cond.constant RX2 205 (100001), Cond.methodLink RX2 206 Lib.Math.min.name, Cond.static Lib.Math.min.name, Cond.initialized "java/lang/Math", Cond.code Lib.Math.min.name Lib.Math.min.code 2 (some .int), Cond.methodLink RX2 199 yX2_isLetter, Cond.static yX2_isLetter, Cond.code yX2_isLetter cX2_isLetter 1 (some .boolean), Cond.methodLink RX2 202 yX2_isDigit, Cond.static yX2_isDigit, Cond.code yX2_isDigit cX2_isDigit 1 (some .boolean), Cond.methodLink RX2 56 yX2_readClauses, Cond.instanceMethod yX2_readClauses, Cond.selects RX2 yX2_readClauses yX2_readClauses, Cond.code yX2_readClauses cX2_readClauses 2 (some .boolean), Cond.methodLink RX2 74 yX2_readClause, Cond.instanceMethod yX2_readClause, Cond.selects RX2 yX2_readClause yX2_readClause, Cond.code yX2_readClause cX2_readClause 1 (some .boolean), Cond.methodLink RX2 86 yX2_passWord, Cond.instanceMethod yX2_passWord, Cond.selects RX2 yX2_passWord yX2_passWord, Cond.code yX2_passWord cX2_passWord 3 (some .boolean), Cond.methodLink RX2 169 yX2_isWord]
def wsX2_readTape_r3 : List Cond := [Cond.instanceMethod yX2_isWord, Cond.selects RX2 yX2_isWord yX2_isWord, Cond.code yX2_isWord cX2_isWord 3 (some .boolean), Cond.methodLink RX2 190 yJ0_length_8abf5, Cond.instanceMethod yJ0_length_8abf5, Cond.selects RJ0 yJ0_length_8abf5 yJ0_length_8abf5, Cond.initialized RJ0, Cond.code yJ0_length_8abf5 cJ0_length_8abf5 1 (some .int), Cond.fieldLink RJ0 9 "java/lang/String" "value" "[B", Cond.methodLink RJ0 335 yJ0_coder_7d493, Cond.instanceMethod yJ0_coder_7d493, Cond.selects RJ0 yJ0_coder_7d493 yJ0_coder_7d493, Cond.code yJ0_coder_7d493 cJ0_coder_7d493 1 (some .byte), Cond.fieldLink RJ0 38 "java/lang/String" "COMPACT_STRINGS" "Z", Cond.fieldLink RJ0 15 "java/lang/String" "coder" "B", Cond.methodLink RX2 195 yJ0_charAt_5068e, Cond.instanceMethod yJ0_charAt_5068e, Cond.selects RJ0 yJ0_charAt_5068e yJ0_charAt_5068e, Cond.code yJ0_charAt_5068e cJ0_charAt_5068e 2 (some .char), Cond.methodLink RJ0 492 yJ0_isLatin1_aae02, Cond.instanceMethod yJ0_isLatin1_aae02, Cond.selects RJ0 yJ0_isLatin1_aae02 yJ0_isLatin1_aae02, Cond.code yJ0_isLatin1_aae02 cJ0_isLatin1_aae02 1 (some .boolean), Cond.methodLink RJ0 495 yJ1_charAt_3b067]
def wsX2_readTape_r4 : List Cond := [Cond.static yJ1_charAt_3b067, Cond.initialized RJ1, Cond.code yJ1_charAt_3b067 cJ1_charAt_3b067 2 (some .char), Cond.methodLink RJ1 9 yJ0_checkIndex_df160, Cond.static yJ0_checkIndex_df160, Cond.code yJ0_checkIndex_df160 cJ0_checkIndex_df160 2 none, Cond.fieldLink RJ0 1053 "jdk/internal/util/Preconditions" "SIOOBE_FORMATTER" "Ljava/util/function/BiFunction;", Cond.methodLink RJ0 1059 yJ3_checkIndex_8e157, Cond.static yJ3_checkIndex_8e157, Cond.initialized RJ3, Cond.code yJ3_checkIndex_8e157 cJ3_checkIndex_8e157 3 (some .int), Cond.methodLink RJ0 498 yJ2_charAt_3b067, Cond.static yJ2_charAt_3b067, Cond.initialized RJ2, Cond.code yJ2_charAt_3b067 cJ2_charAt_3b067 2 (some .char), Cond.methodLink RJ2 67 yJ2_checkIndex_2214a, Cond.static yJ2_checkIndex_2214a, Cond.code yJ2_checkIndex_2214a cJ2_checkIndex_2214a 2 none, Cond.methodLink RJ2 48 yJ2_length_9d52b, Cond.static yJ2_length_9d52b, Cond.code yJ2_length_9d52b cJ2_length_9d52b 1 (some .int), Cond.methodLink RJ2 414 yJ0_checkIndex_df160, Cond.methodLink RJ2 71 yJ2_getChar_3b067, Cond.static yJ2_getChar_3b067]
def wsX2_readTape_r5 : List Cond := [Cond.code yJ2_getChar_3b067 cJ2_getChar_3b067 2 (some .char), Cond.fieldLink RJ2 44 "java/lang/StringUTF16" "$assertionsDisabled" "Z", Cond.fieldLink RJ2 59 "java/lang/StringUTF16" "HI_BYTE_SHIFT" "I", Cond.fieldLink RJ2 63 "java/lang/StringUTF16" "LO_BYTE_SHIFT" "I", Cond.methodLink RX2 90 yX2_readWindow, Cond.instanceMethod yX2_readWindow, Cond.selects RX2 yX2_readWindow yX2_readWindow, Cond.code yX2_readWindow cX2_readWindow 2 (some .boolean), Cond.methodLink RX2 95 yX2_isNumber, Cond.instanceMethod yX2_isNumber, Cond.selects RX2 yX2_isNumber yX2_isNumber, Cond.code yX2_isNumber cX2_isNumber 3 (some .boolean), Cond.static yX11_within, Cond.initialized RX11, Cond.code yX11_within cX11_within 3 (some .boolean), Cond.methodLink RX2 104 yX2_readMoney, Cond.instanceMethod yX2_readMoney, Cond.selects RX2 yX2_readMoney yX2_readMoney, Cond.code yX2_readMoney cX2_readMoney 2 (some .boolean), Cond.methodLink RX2 112 yX2_readSum, Cond.instanceMethod yX2_readSum, Cond.selects RX2 yX2_readSum yX2_readSum, Cond.code yX2_readSum cX2_readSum 3 (some .boolean), Cond.methodLink RX2 153 yX2_readTerm]
def wsX2_readTape_r6 : List Cond := [Cond.instanceMethod yX2_readTerm, Cond.selects RX2 yX2_readTerm yX2_readTerm, Cond.methodLink RX2 143 yX2_isSign, Cond.instanceMethod yX2_isSign, Cond.selects RX2 yX2_isSign yX2_isSign, Cond.code yX2_isSign cX2_isSign 2 (some .boolean), Cond.methodLink RX2 120 yX2_emit, Cond.instanceMethod yX2_emit, Cond.selects RX2 yX2_emit yX2_emit, Cond.code yX2_emit cX2_emit 2 none, Cond.code yX2_readBoth cX2_readBoth 3 (some .boolean), Cond.methodLink RX2 136 yX2_readPlain, Cond.instanceMethod yX2_readPlain, Cond.selects RX2 yX2_readPlain yX2_readPlain, Cond.methodLink RX2 129 yX2_emitJump, Cond.instanceMethod yX2_emitJump, Cond.selects RX2 yX2_emitJump yX2_emitJump, Cond.code yX2_emitJump cX2_emitJump 2 (some .int), Cond.methodLink RX2 133 yX2_land, Cond.instanceMethod yX2_land, Cond.selects RX2 yX2_land yX2_land, Cond.code yX2_land cX2_land 2 none, Cond.code yX2_readCompared cX2_readCompared 2 (some .boolean), Cond.code yX2_readInBrackets cX2_readInBrackets 3 (some .boolean)]
def wsX2_readTape_r7 : List Cond := [Cond.methodLink RX2 117 yX2_readTest, Cond.instanceMethod yX2_readTest, Cond.selects RX2 yX2_readTest yX2_readTest, Cond.methodLink RX2 80 yX2_passSign, Cond.instanceMethod yX2_passSign, Cond.selects RX2 yX2_passSign yX2_passSign, Cond.code yX2_passSign cX2_passSign 3 (some .boolean), Cond.code yX2_readPart cX2_readPart 2 (some .boolean), Cond.methodLink RX2 146 yX2_readInBrackets, Cond.instanceMethod yX2_readInBrackets, Cond.selects RX2 yX2_readInBrackets yX2_readInBrackets, Cond.methodLink RX2 159 yX2_leafHere, Cond.instanceMethod yX2_leafHere, Cond.selects RX2 yX2_leafHere yX2_leafHere, Cond.code yX2_leafHere cX2_leafHere 2 (some .int), Cond.constant RX2 163 (100000), Cond.methodLink RX2 164 yX2_factHere, Cond.instanceMethod yX2_factHere, Cond.selects RX2 yX2_factHere yX2_factHere, Cond.code yX2_factHere cX2_factHere 1 (some .int), Cond.code yX2_readPlain cX2_readPlain 3 (some .boolean), Cond.methodLink RX2 150 yX2_readCompared, Cond.instanceMethod yX2_readCompared, Cond.selects RX2 yX2_readCompared yX2_readCompared]
def wsX2_readTape_r8 : List Cond := [Cond.code yX2_readTerm cX2_readTerm 3 (some .boolean), Cond.methodLink RX2 156 yX2_readPart, Cond.instanceMethod yX2_readPart, Cond.selects RX2 yX2_readPart yX2_readPart, Cond.code yX2_readTest cX2_readTest 3 (some .boolean), Cond.methodLink RX2 124 yX2_readBoth, Cond.instanceMethod yX2_readBoth, Cond.selects RX2 yX2_readBoth yX2_readBoth, Cond.methodLink RX2 65 yJ7_copyOf_59c91, Cond.static yJ7_copyOf_59c91, Cond.initialized RJ7, Cond.code yJ7_copyOf_59c91 cJ7_copyOf_59c91 3 (some (.array .int)), Cond.methodLink RJ7 316 ⟨"[I", "clone", "()Ljava/lang/Object;"⟩, Cond.sameMethod "[I" "java/lang/Object" "clone" "()Ljava/lang/Object;", Cond.native ⟨"java/lang/Object", "clone", "()Ljava/lang/Object;"⟩, Cond.instanceMethod ⟨"java/lang/Object", "clone", "()Ljava/lang/Object;"⟩, Cond.selects "[I" ⟨"[I", "clone", "()Ljava/lang/Object;"⟩ ⟨"java/lang/Object", "clone", "()Ljava/lang/Object;"⟩, Cond.classLink RJ7 317 "[I", Cond.arrayClass .int, Cond.methodLink RJ7 304 Lib.Math.min.name, Cond.methodLink RJ7 150 arraycopyName, Cond.native arraycopyName, Cond.static arraycopyName, Cond.initialized "java/lang/System"]
def wsX2_readTape_r9 : List Cond := [Cond.methodLink RX2 71 yX0_init, Cond.instanceMethod yX0_init, Cond.code yX0_init cX0_init 6 none, Cond.methodLink RX0 1 objectInit, Cond.instanceMethod objectInit, Cond.code objectInit ⟨#[0xb1]⟩ 1 none, Cond.fieldLink RX0 7 "ColdShips$Contract" "code" "[I", Cond.fieldLink RX0 13 "ColdShips$Contract" "starts" "[I", Cond.fieldLink RX0 16 "ColdShips$Contract" "windowFrom" "I", Cond.fieldLink RX0 20 "ColdShips$Contract" "windowTo" "I", Cond.fieldLink RX0 23 "ColdShips$Contract" "place" "I"]
def wsX2_readTape : List Cond := .code yX2_readTape cX2_readTape 2 (some (.object "ColdShips$Contract")) :: ((wsX2_readTape_r1 ++ (wsX2_readTape_r2 ++ (wsX2_readTape_r3 ++ (wsX2_readTape_r4 ++ (wsX2_readTape_r5 ++ (wsX2_readTape_r6 ++ (wsX2_readTape_r7 ++ (wsX2_readTape_r8 ++ wsX2_readTape_r9)))))))) ++ wsX20 ++ wsX00)
def wsX4_addRow : List Cond := .code yX4_addRow cX4_addRow 2 (some .int) :: ([.fieldLink RX4 25 "ColdShips$Rows" "size" "I", .fieldLink RX4 15 "ColdShips$Rows" "width" "I", .fieldLink RX4 21 "ColdShips$Rows" "cells" "[J", .methodLink RX4 28 yJ7_fill_bad5a, .static yJ7_fill_bad5a, .initialized RJ7, .code yJ7_fill_bad5a cJ7_fill_bad5a 6 none, .methodLink RJ7 13 yJ7_rangeCheck_23922, .static yJ7_rangeCheck_23922, .code yJ7_rangeCheck_23922 cJ7_rangeCheck_23922 3 none] ++ wsX40)
def wsX4_set : List Cond := .code yX4_set cX4_set 5 none :: ([.fieldLink RX4 15 "ColdShips$Rows" "width" "I", .fieldLink RX4 21 "ColdShips$Rows" "cells" "[J", .methodLink RX4 38 yX4_has, .instanceMethod yX4_has, .selects RX4 yX4_has yX4_has, .initialized RX4, .code yX4_has cX4_has 2 (some .boolean), .fieldLink RX4 25 "ColdShips$Rows" "size" "I"] ++ wsX40)
def wsJ7_fill_53178 : List Cond := .code yJ7_fill_53178 cJ7_fill_53178 4 none :: ([])
def wsX6_add : List Cond := .code yX6_add cX6_add 5 (some .int) :: ([.fieldLink RX6 27 "ColdShips$Spans" "size" "I", .fieldLink RX6 15 "ColdShips$Spans" "owners" "[I", .fieldLink RX6 21 "ColdShips$Spans" "begins" "[I", .fieldLink RX6 24 "ColdShips$Spans" "ends" "[I"] ++ wsX60)
def wsX8_begin : List Cond := .code yX8_begin cX8_begin 5 none :: ([.fieldLink RX8 22 "ColdShips$Terminal" "store" "I", .fieldLink RX8 25 "ColdShips$Terminal" "cap" "I", .methodLink RX8 28 Lib.Math.max.name, .static Lib.Math.max.name, .initialized "java/lang/Math", .code Lib.Math.max.name Lib.Math.max.code 2 (some .int), .fieldLink RX8 9 "ColdShips$Terminal" "rate" "I", .fieldLink RX8 34 "ColdShips$Terminal" "depth" "I", .fieldLink RX8 37 "ColdShips$Terminal" "heat" "I", .fieldLink RX8 15 "ColdShips$Terminal" "wayHours" "[I", .methodLink RX8 40 yJ7_fill_53178, .static yJ7_fill_53178, .initialized RJ7, .code yJ7_fill_53178 cJ7_fill_53178 4 none] ++ wsX80)
def wsX9_passHour_r1 : List Cond := [Cond.fieldLink RX9 9 "ColdShips$Watch" "world" "LColdShips$World;", Cond.fieldLink RX9 25 "ColdShips$Watch" "hour" "I", Cond.fieldLink RX9 32 "ColdShips$Watch" "sea" "I", Cond.fieldLink RX9 35 "ColdShips$Watch" "turnTaken" "Z", Cond.static yX11_isHour, Cond.initialized RX11, Cond.code yX11_isHour cX11_isHour 1 (some .boolean), Cond.methodLink RX11 51 yX11_within, Cond.static yX11_within, Cond.code yX11_within cX11_within 3 (some .boolean), Cond.methodLink RX9 42 yX9_passShip, Cond.instanceMethod yX9_passShip, Cond.selects RX9 yX9_passShip yX9_passShip, Cond.initialized RX9, Cond.code yX9_passShip cX9_passShip 5 none, Cond.methodLink RX9 62 yX7_boil, Cond.instanceMethod yX7_boil, Cond.selects RX7 yX7_boil yX7_boil, Cond.initialized RX7, Cond.code yX7_boil cX7_boil 2 none, Cond.fieldLink RX7 32 "ColdShips$Tank" "gas" "I", Cond.constantLong RX7 53 (100000), Cond.methodLink RX7 55 yX7_evaporate, Cond.instanceMethod yX7_evaporate]
def wsX9_passHour_r2 : List Cond := [Cond.selects RX7 yX7_evaporate yX7_evaporate, Cond.code yX7_evaporate cX7_evaporate 2 none, Cond.fieldLink RX7 35 "ColdShips$Tank" "vapor" "I", Cond.methodLink RX7 68 yX7_takeGas, Cond.instanceMethod yX7_takeGas, Cond.selects RX7 yX7_takeGas yX7_takeGas, Cond.code yX7_takeGas cX7_takeGas 6 none, Cond.fieldLink RX7 15 "ColdShips$Tank" "parts" "[I", Cond.fieldLink RX7 19 "ColdShips$Tank" "given" "[I", Cond.fieldLink RX7 22 "ColdShips$Tank" "rests" "[J", Cond.methodLink RX7 71 yX7_giveByRests, Cond.instanceMethod yX7_giveByRests, Cond.selects RX7 yX7_giveByRests yX7_giveByRests, Cond.code yX7_giveByRests cX7_giveByRests 5 none, Cond.constantLong RX7 80 (-1), Cond.methodLink RX9 67 yX7_warmOrCool, Cond.instanceMethod yX7_warmOrCool, Cond.selects RX7 yX7_warmOrCool yX7_warmOrCool, Cond.code yX7_warmOrCool cX7_warmOrCool 2 none, Cond.fieldLink RX7 38 "ColdShips$Tank" "warm" "I", Cond.methodLink RX7 62 Lib.Math.min.name, Cond.static Lib.Math.min.name, Cond.initialized "java/lang/Math", Cond.code Lib.Math.min.name Lib.Math.min.code 2 (some .int)]
def wsX9_passHour_r3 : List Cond := [Cond.fieldLink RX7 9 "ColdShips$Tank" "cap" "I", Cond.methodLink RX7 65 Lib.MathLoose.min_long.x, Cond.static Lib.MathLoose.min_long.x, Cond.code Lib.MathLoose.min_long.x Lib.MathLoose.min_long.code 4 (some .long), Cond.methodLink RX7 59 yX7_heel, Cond.instanceMethod yX7_heel, Cond.selects RX7 yX7_heel yX7_heel, Cond.code yX7_heel cX7_heel 1 (some .int), Cond.methodLink RX9 73 yX5_burnFuel, Cond.instanceMethod yX5_burnFuel, Cond.selects RX5 yX5_burnFuel yX5_burnFuel, Cond.initialized RX5, Cond.code yX5_burnFuel cX5_burnFuel 3 none, Cond.fieldLink RX5 12 "ColdShips$Ship" "tank" "LColdShips$Tank;", Cond.fieldLink RX5 55 "ColdShips$Ship" "drifting" "Z", Cond.fieldLink RX5 25 "ColdShips$Ship" "book" "[J", Cond.methodLink RX5 83 yX7_burn, Cond.instanceMethod yX7_burn, Cond.selects RX7 yX7_burn yX7_burn, Cond.code yX7_burn cX7_burn 4 (some .int), Cond.methodLink RX9 82 yX9_sail, Cond.instanceMethod yX9_sail, Cond.selects RX9 yX9_sail yX9_sail, Cond.code yX9_sail cX9_sail 4 none]
def wsX9_passHour_r4 : List Cond := [Cond.methodLink RX9 117 yX10_hoursBetween, Cond.instanceMethod yX10_hoursBetween, Cond.selects RX10 yX10_hoursBetween yX10_hoursBetween, Cond.initialized RX10, Cond.code yX10_hoursBetween cX10_hoursBetween 4 (some .int), Cond.fieldLink RX10 27 "ColdShips$World" "terminals" "[LColdShips$Terminal;", Cond.methodLink RX10 93 yX10_hasTerminal, Cond.instanceMethod yX10_hasTerminal, Cond.selects RX10 yX10_hasTerminal yX10_hasTerminal, Cond.code yX10_hasTerminal cX10_hasTerminal 2 (some .boolean), Cond.fieldLink RX10 78 "ColdShips$World" "terminalCount" "I", Cond.methodLink RX9 100 yX5_endOrder, Cond.instanceMethod yX5_endOrder, Cond.selects RX5 yX5_endOrder yX5_endOrder, Cond.code yX5_endOrder cX5_endOrder 1 none, Cond.fieldLink RX5 59 "ColdShips$Ship" "orders" "I", Cond.fieldLink RX5 18 "ColdShips$Ship" "orderSorts" "[I", Cond.methodLink RX5 77 arraycopyName, Cond.native arraycopyName, Cond.static arraycopyName, Cond.initialized "java/lang/System", Cond.fieldLink RX5 22 "ColdShips$Ship" "orderWhats" "[I", Cond.methodLink RX9 136 yX9_takesTurn, Cond.instanceMethod yX9_takesTurn]
def wsX9_passHour_r5 : List Cond := [Cond.selects RX9 yX9_takesTurn yX9_takesTurn, Cond.code yX9_takesTurn cX9_takesTurn 2 (some .boolean), Cond.methodLink RX9 86 yX9_tonsMayGo, Cond.instanceMethod yX9_tonsMayGo, Cond.selects RX9 yX9_tonsMayGo yX9_tonsMayGo, Cond.code yX9_tonsMayGo cX9_tonsMayGo 6 (some .boolean), Cond.methodLink RX9 140 yX10_hasTerminal, Cond.static yX11_slotOwner, Cond.code yX11_slotOwner cX11_slotOwner 2 (some .int), Cond.methodLink RX9 152 yX7_draft, Cond.instanceMethod yX7_draft, Cond.selects RX7 yX7_draft yX7_draft, Cond.code yX7_draft cX7_draft 1 (some .int), Cond.methodLink RX9 160 yX6_meets, Cond.instanceMethod yX6_meets, Cond.selects RX6 yX6_meets yX6_meets, Cond.initialized RX6, Cond.code yX6_meets cX6_meets 6 (some .boolean), Cond.fieldLink RX6 27 "ColdShips$Spans" "size" "I", Cond.fieldLink RX6 21 "ColdShips$Spans" "begins" "[I", Cond.fieldLink RX6 15 "ColdShips$Spans" "owners" "[I", Cond.fieldLink RX6 24 "ColdShips$Spans" "ends" "[I", Cond.methodLink RX9 90 yX9_load, Cond.instanceMethod yX9_load]
def wsX9_passHour_r6 : List Cond := [Cond.selects RX9 yX9_load yX9_load, Cond.code yX9_load cX9_load 6 none, Cond.methodLink RX9 175 Lib.Math.max.name, Cond.static Lib.Math.max.name, Cond.code Lib.Math.max.name Lib.Math.max.code 2 (some .int), Cond.methodLink RX9 186 Lib.Math.min.name, Cond.methodLink RX9 180 yX7_top, Cond.instanceMethod yX7_top, Cond.selects RX7 yX7_top yX7_top, Cond.code yX7_top cX7_top 1 (some .int), Cond.methodLink RX9 192 yX7_fill, Cond.instanceMethod yX7_fill, Cond.selects RX7 yX7_fill yX7_fill, Cond.code yX7_fill cX7_fill 3 none, Cond.methodLink RX9 93 yX9_land, Cond.instanceMethod yX9_land, Cond.selects RX9 yX9_land yX9_land, Cond.code yX9_land cX9_land 7 none, Cond.methodLink RX9 196 yX7_heel, Cond.methodLink RX9 202 yX5_putAshore, Cond.instanceMethod yX5_putAshore, Cond.selects RX5 yX5_putAshore yX5_putAshore, Cond.code yX5_putAshore cX5_putAshore 4 none, Cond.fieldLink RX5 29 "ColdShips$Ship" "landParts" "[I"]
def wsX9_passHour_r7 : List Cond := [Cond.fieldLink RX5 93 "ColdShips$Ship" "landTons" "I", Cond.fieldLink RX5 96 "ColdShips$Ship" "landFirst" "I", Cond.fieldLink RX5 99 "ColdShips$Ship" "landLast" "I", Cond.methodLink RX5 87 yX7_takeGas, Cond.methodLink RX9 205 yX9_keepLanding, Cond.instanceMethod yX9_keepLanding, Cond.selects RX9 yX9_keepLanding yX9_keepLanding, Cond.code yX9_keepLanding cX9_keepLanding 5 none, Cond.constantLong RX9 236 (-1), Cond.methodLink RX9 218 yX4_addRow, Cond.instanceMethod yX4_addRow, Cond.selects RX4 yX4_addRow yX4_addRow, Cond.initialized RX4, Cond.code yX4_addRow cX4_addRow 2 (some .int), Cond.fieldLink RX4 25 "ColdShips$Rows" "size" "I", Cond.fieldLink RX4 15 "ColdShips$Rows" "width" "I", Cond.fieldLink RX4 21 "ColdShips$Rows" "cells" "[J", Cond.methodLink RX4 28 yJ7_fill_bad5a, Cond.static yJ7_fill_bad5a, Cond.initialized RJ7, Cond.code yJ7_fill_bad5a cJ7_fill_bad5a 6 none, Cond.methodLink RJ7 13 yJ7_rangeCheck_23922, Cond.static yJ7_rangeCheck_23922, Cond.code yJ7_rangeCheck_23922 cJ7_rangeCheck_23922 3 none]
def wsX9_passHour_r8 : List Cond := [Cond.methodLink RX9 223 yX4_set, Cond.instanceMethod yX4_set, Cond.selects RX4 yX4_set yX4_set, Cond.code yX4_set cX4_set 5 none, Cond.methodLink RX4 38 yX4_has, Cond.instanceMethod yX4_has, Cond.selects RX4 yX4_has yX4_has, Cond.code yX4_has cX4_has 2 (some .boolean), Cond.methodLink RX9 208 yX5_forgetLanding, Cond.instanceMethod yX5_forgetLanding, Cond.selects RX5 yX5_forgetLanding yX5_forgetLanding, Cond.code yX5_forgetLanding cX5_forgetLanding 1 none, Cond.methodLink RX5 71 yJ7_fill_53178, Cond.static yJ7_fill_53178, Cond.code yJ7_fill_53178 cJ7_fill_53178 4 none, Cond.methodLink RX9 110 yX7_vent, Cond.instanceMethod yX7_vent, Cond.selects RX7 yX7_vent yX7_vent, Cond.code yX7_vent cX7_vent 4 (some .int), Cond.constantLong RX7 47 (1000), Cond.methodLink RX7 26 Lib.Math.max.name, Cond.methodLink RX7 49 yX7_space, Cond.instanceMethod yX7_space, Cond.selects RX7 yX7_space yX7_space]
def wsX9_passHour_r9 : List Cond := [Cond.code yX7_space cX7_space 1 (some .int)]
def wsX9_passHour : List Cond := .code yX9_passHour cX9_passHour 2 none :: ((wsX9_passHour_r1 ++ (wsX9_passHour_r2 ++ (wsX9_passHour_r3 ++ (wsX9_passHour_r4 ++ (wsX9_passHour_r5 ++ (wsX9_passHour_r6 ++ (wsX9_passHour_r7 ++ (wsX9_passHour_r8 ++ wsX9_passHour_r9)))))))) ++ wsX90 ++ wsX100 ++ wsX50 ++ wsX70 ++ wsX80 ++ wsX60 ++ wsX40)
def wsX11_terminal_r1 : List Cond := [Cond.constant RX11 50 (500000), Cond.fieldLink RX11 10 "ColdShips" "world" "LColdShips$World;", Cond.methodLink RX11 51 yX11_within, Cond.static yX11_within, Cond.initialized RX11, Cond.code yX11_within cX11_within 3 (some .boolean), Cond.methodLink RX11 55 yX11_refuse, Cond.instanceMethod yX11_refuse, Cond.selects RX11 yX11_refuse yX11_refuse, Cond.code yX11_refuse cX11_refuse 2 (some .int), Cond.fieldLink RX11 354 "ColdShips" "refusal" "I", Cond.methodLink RX11 67 yX8_begin, Cond.instanceMethod yX8_begin, Cond.selects RX8 yX8_begin yX8_begin, Cond.initialized RX8, Cond.code yX8_begin cX8_begin 5 none, Cond.fieldLink RX8 22 "ColdShips$Terminal" "store" "I", Cond.fieldLink RX8 25 "ColdShips$Terminal" "cap" "I", Cond.methodLink RX8 28 Lib.Math.max.name, Cond.static Lib.Math.max.name, Cond.initialized "java/lang/Math", Cond.code Lib.Math.max.name Lib.Math.max.code 2 (some .int), Cond.fieldLink RX8 9 "ColdShips$Terminal" "rate" "I", Cond.fieldLink RX8 34 "ColdShips$Terminal" "depth" "I"]
def wsX11_terminal_r2 : List Cond := [Cond.fieldLink RX8 37 "ColdShips$Terminal" "heat" "I", Cond.fieldLink RX8 15 "ColdShips$Terminal" "wayHours" "[I", Cond.methodLink RX8 40 yJ7_fill_53178, Cond.static yJ7_fill_53178, Cond.initialized RJ7, Cond.code yJ7_fill_53178 cJ7_fill_53178 4 none, Cond.methodLink RX11 73 yX11_accept, Cond.instanceMethod yX11_accept, Cond.selects RX11 yX11_accept yX11_accept, Cond.code yX11_accept cX11_accept 2 (some .int)]
def wsX11_terminal : List Cond := .code yX11_terminal cX11_terminal 6 (some .int) :: ((wsX11_terminal_r1 ++ wsX11_terminal_r2) ++ wsX110 ++ wsX100 ++ wsX80)
def wsX11_acceptOrFull : List Cond := .code yX11_acceptOrFull cX11_acceptOrFull 2 (some .int) :: ([.methodLink RX11 55 yX11_refuse, .instanceMethod yX11_refuse, .selects RX11 yX11_refuse yX11_refuse, .initialized RX11, .code yX11_refuse cX11_refuse 2 (some .int), .fieldLink RX11 354 "ColdShips" "refusal" "I", .methodLink RX11 73 yX11_accept, .instanceMethod yX11_accept, .selects RX11 yX11_accept yX11_accept, .code yX11_accept cX11_accept 2 (some .int)] ++ wsX110)
def wsX11_go_r1 : List Cond := [Cond.fieldLink RX11 10 "ColdShips" "world" "LColdShips$World;", Cond.fieldLink RX11 25 "ColdShips" "watch" "LColdShips$Watch;", Cond.methodLink RX11 51 yX11_within, Cond.static yX11_within, Cond.initialized RX11, Cond.code yX11_within cX11_within 3 (some .boolean), Cond.methodLink RX11 55 yX11_refuse, Cond.instanceMethod yX11_refuse, Cond.selects RX11 yX11_refuse yX11_refuse, Cond.code yX11_refuse cX11_refuse 2 (some .int), Cond.fieldLink RX11 354 "ColdShips" "refusal" "I", Cond.methodLink RX11 157 yX9_passHour, Cond.instanceMethod yX9_passHour, Cond.selects RX9 yX9_passHour yX9_passHour, Cond.initialized RX9, Cond.code yX9_passHour cX9_passHour 2 none, Cond.fieldLink RX9 9 "ColdShips$Watch" "world" "LColdShips$World;", Cond.fieldLink RX9 25 "ColdShips$Watch" "hour" "I", Cond.fieldLink RX9 32 "ColdShips$Watch" "sea" "I", Cond.fieldLink RX9 35 "ColdShips$Watch" "turnTaken" "Z", Cond.static yX11_isHour, Cond.code yX11_isHour cX11_isHour 1 (some .boolean), Cond.methodLink RX9 42 yX9_passShip, Cond.instanceMethod yX9_passShip]
def wsX11_go_r2 : List Cond := [Cond.selects RX9 yX9_passShip yX9_passShip, Cond.code yX9_passShip cX9_passShip 5 none, Cond.methodLink RX9 62 yX7_boil, Cond.instanceMethod yX7_boil, Cond.selects RX7 yX7_boil yX7_boil, Cond.initialized RX7, Cond.code yX7_boil cX7_boil 2 none, Cond.fieldLink RX7 32 "ColdShips$Tank" "gas" "I", Cond.constantLong RX7 53 (100000), Cond.methodLink RX7 55 yX7_evaporate, Cond.instanceMethod yX7_evaporate, Cond.selects RX7 yX7_evaporate yX7_evaporate, Cond.code yX7_evaporate cX7_evaporate 2 none, Cond.fieldLink RX7 35 "ColdShips$Tank" "vapor" "I", Cond.methodLink RX7 68 yX7_takeGas, Cond.instanceMethod yX7_takeGas, Cond.selects RX7 yX7_takeGas yX7_takeGas, Cond.code yX7_takeGas cX7_takeGas 6 none, Cond.fieldLink RX7 15 "ColdShips$Tank" "parts" "[I", Cond.fieldLink RX7 19 "ColdShips$Tank" "given" "[I", Cond.fieldLink RX7 22 "ColdShips$Tank" "rests" "[J", Cond.methodLink RX7 71 yX7_giveByRests, Cond.instanceMethod yX7_giveByRests, Cond.selects RX7 yX7_giveByRests yX7_giveByRests]
def wsX11_go_r3 : List Cond := [Cond.code yX7_giveByRests cX7_giveByRests 5 none, Cond.constantLong RX7 80 (-1), Cond.methodLink RX9 67 yX7_warmOrCool, Cond.instanceMethod yX7_warmOrCool, Cond.selects RX7 yX7_warmOrCool yX7_warmOrCool, Cond.code yX7_warmOrCool cX7_warmOrCool 2 none, Cond.fieldLink RX7 38 "ColdShips$Tank" "warm" "I", Cond.methodLink RX7 62 Lib.Math.min.name, Cond.static Lib.Math.min.name, Cond.initialized "java/lang/Math", Cond.code Lib.Math.min.name Lib.Math.min.code 2 (some .int), Cond.fieldLink RX7 9 "ColdShips$Tank" "cap" "I", Cond.methodLink RX7 65 Lib.MathLoose.min_long.x, Cond.static Lib.MathLoose.min_long.x, Cond.code Lib.MathLoose.min_long.x Lib.MathLoose.min_long.code 4 (some .long), Cond.methodLink RX7 59 yX7_heel, Cond.instanceMethod yX7_heel, Cond.selects RX7 yX7_heel yX7_heel, Cond.code yX7_heel cX7_heel 1 (some .int), Cond.methodLink RX9 73 yX5_burnFuel, Cond.instanceMethod yX5_burnFuel, Cond.selects RX5 yX5_burnFuel yX5_burnFuel, Cond.initialized RX5, Cond.code yX5_burnFuel cX5_burnFuel 3 none]
def wsX11_go_r4 : List Cond := [Cond.fieldLink RX5 12 "ColdShips$Ship" "tank" "LColdShips$Tank;", Cond.fieldLink RX5 55 "ColdShips$Ship" "drifting" "Z", Cond.fieldLink RX5 25 "ColdShips$Ship" "book" "[J", Cond.methodLink RX5 83 yX7_burn, Cond.instanceMethod yX7_burn, Cond.selects RX7 yX7_burn yX7_burn, Cond.code yX7_burn cX7_burn 4 (some .int), Cond.methodLink RX9 82 yX9_sail, Cond.instanceMethod yX9_sail, Cond.selects RX9 yX9_sail yX9_sail, Cond.code yX9_sail cX9_sail 4 none, Cond.methodLink RX9 117 yX10_hoursBetween, Cond.instanceMethod yX10_hoursBetween, Cond.selects RX10 yX10_hoursBetween yX10_hoursBetween, Cond.initialized RX10, Cond.code yX10_hoursBetween cX10_hoursBetween 4 (some .int), Cond.fieldLink RX10 27 "ColdShips$World" "terminals" "[LColdShips$Terminal;", Cond.methodLink RX10 93 yX10_hasTerminal, Cond.instanceMethod yX10_hasTerminal, Cond.selects RX10 yX10_hasTerminal yX10_hasTerminal, Cond.code yX10_hasTerminal cX10_hasTerminal 2 (some .boolean), Cond.fieldLink RX10 78 "ColdShips$World" "terminalCount" "I", Cond.methodLink RX9 100 yX5_endOrder, Cond.instanceMethod yX5_endOrder]
def wsX11_go_r5 : List Cond := [Cond.selects RX5 yX5_endOrder yX5_endOrder, Cond.code yX5_endOrder cX5_endOrder 1 none, Cond.fieldLink RX5 59 "ColdShips$Ship" "orders" "I", Cond.fieldLink RX5 18 "ColdShips$Ship" "orderSorts" "[I", Cond.methodLink RX5 77 arraycopyName, Cond.native arraycopyName, Cond.static arraycopyName, Cond.initialized "java/lang/System", Cond.fieldLink RX5 22 "ColdShips$Ship" "orderWhats" "[I", Cond.methodLink RX9 136 yX9_takesTurn, Cond.instanceMethod yX9_takesTurn, Cond.selects RX9 yX9_takesTurn yX9_takesTurn, Cond.code yX9_takesTurn cX9_takesTurn 2 (some .boolean), Cond.methodLink RX9 86 yX9_tonsMayGo, Cond.instanceMethod yX9_tonsMayGo, Cond.selects RX9 yX9_tonsMayGo yX9_tonsMayGo, Cond.code yX9_tonsMayGo cX9_tonsMayGo 6 (some .boolean), Cond.methodLink RX9 140 yX10_hasTerminal, Cond.static yX11_slotOwner, Cond.code yX11_slotOwner cX11_slotOwner 2 (some .int), Cond.methodLink RX9 152 yX7_draft, Cond.instanceMethod yX7_draft, Cond.selects RX7 yX7_draft yX7_draft, Cond.code yX7_draft cX7_draft 1 (some .int)]
def wsX11_go_r6 : List Cond := [Cond.methodLink RX9 160 yX6_meets, Cond.instanceMethod yX6_meets, Cond.selects RX6 yX6_meets yX6_meets, Cond.initialized RX6, Cond.code yX6_meets cX6_meets 6 (some .boolean), Cond.fieldLink RX6 27 "ColdShips$Spans" "size" "I", Cond.fieldLink RX6 21 "ColdShips$Spans" "begins" "[I", Cond.fieldLink RX6 15 "ColdShips$Spans" "owners" "[I", Cond.fieldLink RX6 24 "ColdShips$Spans" "ends" "[I", Cond.methodLink RX9 90 yX9_load, Cond.instanceMethod yX9_load, Cond.selects RX9 yX9_load yX9_load, Cond.code yX9_load cX9_load 6 none, Cond.methodLink RX9 175 Lib.Math.max.name, Cond.static Lib.Math.max.name, Cond.code Lib.Math.max.name Lib.Math.max.code 2 (some .int), Cond.methodLink RX9 186 Lib.Math.min.name, Cond.methodLink RX9 180 yX7_top, Cond.instanceMethod yX7_top, Cond.selects RX7 yX7_top yX7_top, Cond.code yX7_top cX7_top 1 (some .int), Cond.methodLink RX9 192 yX7_fill, Cond.instanceMethod yX7_fill, Cond.selects RX7 yX7_fill yX7_fill]
def wsX11_go_r7 : List Cond := [Cond.code yX7_fill cX7_fill 3 none, Cond.methodLink RX9 93 yX9_land, Cond.instanceMethod yX9_land, Cond.selects RX9 yX9_land yX9_land, Cond.code yX9_land cX9_land 7 none, Cond.methodLink RX9 196 yX7_heel, Cond.methodLink RX9 202 yX5_putAshore, Cond.instanceMethod yX5_putAshore, Cond.selects RX5 yX5_putAshore yX5_putAshore, Cond.code yX5_putAshore cX5_putAshore 4 none, Cond.fieldLink RX5 29 "ColdShips$Ship" "landParts" "[I", Cond.fieldLink RX5 93 "ColdShips$Ship" "landTons" "I", Cond.fieldLink RX5 96 "ColdShips$Ship" "landFirst" "I", Cond.fieldLink RX5 99 "ColdShips$Ship" "landLast" "I", Cond.methodLink RX5 87 yX7_takeGas, Cond.methodLink RX9 205 yX9_keepLanding, Cond.instanceMethod yX9_keepLanding, Cond.selects RX9 yX9_keepLanding yX9_keepLanding, Cond.code yX9_keepLanding cX9_keepLanding 5 none, Cond.constantLong RX9 236 (-1), Cond.methodLink RX9 218 yX4_addRow, Cond.instanceMethod yX4_addRow, Cond.selects RX4 yX4_addRow yX4_addRow, Cond.initialized RX4]
def wsX11_go_r8 : List Cond := [Cond.code yX4_addRow cX4_addRow 2 (some .int), Cond.fieldLink RX4 25 "ColdShips$Rows" "size" "I", Cond.fieldLink RX4 15 "ColdShips$Rows" "width" "I", Cond.fieldLink RX4 21 "ColdShips$Rows" "cells" "[J", Cond.methodLink RX4 28 yJ7_fill_bad5a, Cond.static yJ7_fill_bad5a, Cond.initialized RJ7, Cond.code yJ7_fill_bad5a cJ7_fill_bad5a 6 none, Cond.methodLink RJ7 13 yJ7_rangeCheck_23922, Cond.static yJ7_rangeCheck_23922, Cond.code yJ7_rangeCheck_23922 cJ7_rangeCheck_23922 3 none, Cond.methodLink RX9 223 yX4_set, Cond.instanceMethod yX4_set, Cond.selects RX4 yX4_set yX4_set, Cond.code yX4_set cX4_set 5 none, Cond.methodLink RX4 38 yX4_has, Cond.instanceMethod yX4_has, Cond.selects RX4 yX4_has yX4_has, Cond.code yX4_has cX4_has 2 (some .boolean), Cond.methodLink RX9 208 yX5_forgetLanding, Cond.instanceMethod yX5_forgetLanding, Cond.selects RX5 yX5_forgetLanding yX5_forgetLanding, Cond.code yX5_forgetLanding cX5_forgetLanding 1 none, Cond.methodLink RX5 71 yJ7_fill_53178]
def wsX11_go_r9 : List Cond := [Cond.static yJ7_fill_53178, Cond.code yJ7_fill_53178 cJ7_fill_53178 4 none, Cond.methodLink RX9 110 yX7_vent, Cond.instanceMethod yX7_vent, Cond.selects RX7 yX7_vent yX7_vent, Cond.code yX7_vent cX7_vent 4 (some .int), Cond.constantLong RX7 47 (1000), Cond.methodLink RX7 26 Lib.Math.max.name, Cond.methodLink RX7 49 yX7_space, Cond.instanceMethod yX7_space, Cond.selects RX7 yX7_space yX7_space, Cond.code yX7_space cX7_space 1 (some .int), Cond.methodLink RX11 73 yX11_accept, Cond.instanceMethod yX11_accept, Cond.selects RX11 yX11_accept yX11_accept, Cond.code yX11_accept cX11_accept 2 (some .int)]
def wsX11_go : List Cond := .code yX11_go cX11_go 3 (some .int) :: ((wsX11_go_r1 ++ (wsX11_go_r2 ++ (wsX11_go_r3 ++ (wsX11_go_r4 ++ (wsX11_go_r5 ++ (wsX11_go_r6 ++ (wsX11_go_r7 ++ (wsX11_go_r8 ++ wsX11_go_r9)))))))) ++ wsX110 ++ wsX100 ++ wsX90 ++ wsX50 ++ wsX70 ++ wsX80 ++ wsX60 ++ wsX40)
def wsX11_price_r1 : List Cond := [Cond.fieldLink RX11 10 "ColdShips" "world" "LColdShips$World;", Cond.methodLink RX11 51 yX11_within, Cond.static yX11_within, Cond.initialized RX11, Cond.code yX11_within cX11_within 3 (some .boolean), Cond.methodLink RX11 229 yX11_isHour, Cond.static yX11_isHour, Cond.code yX11_isHour cX11_isHour 1 (some .boolean), Cond.methodLink RX11 55 yX11_refuse, Cond.instanceMethod yX11_refuse, Cond.selects RX11 yX11_refuse yX11_refuse, Cond.code yX11_refuse cX11_refuse 2 (some .int), Cond.fieldLink RX11 354 "ColdShips" "refusal" "I", Cond.methodLink RX11 235 yX4_addRow, Cond.instanceMethod yX4_addRow, Cond.selects RX4 yX4_addRow yX4_addRow, Cond.initialized RX4, Cond.code yX4_addRow cX4_addRow 2 (some .int), Cond.fieldLink RX4 25 "ColdShips$Rows" "size" "I", Cond.fieldLink RX4 15 "ColdShips$Rows" "width" "I", Cond.fieldLink RX4 21 "ColdShips$Rows" "cells" "[J", Cond.methodLink RX4 28 yJ7_fill_bad5a, Cond.static yJ7_fill_bad5a, Cond.initialized RJ7]
def wsX11_price_r2 : List Cond := [Cond.code yJ7_fill_bad5a cJ7_fill_bad5a 6 none, Cond.methodLink RJ7 13 yJ7_rangeCheck_23922, Cond.static yJ7_rangeCheck_23922, Cond.code yJ7_rangeCheck_23922 cJ7_rangeCheck_23922 3 none, Cond.methodLink RX11 238 yX4_set, Cond.instanceMethod yX4_set, Cond.selects RX4 yX4_set yX4_set, Cond.code yX4_set cX4_set 5 none, Cond.methodLink RX4 38 yX4_has, Cond.instanceMethod yX4_has, Cond.selects RX4 yX4_has yX4_has, Cond.code yX4_has cX4_has 2 (some .boolean), Cond.methodLink RX11 73 yX11_accept, Cond.instanceMethod yX11_accept, Cond.selects RX11 yX11_accept yX11_accept, Cond.code yX11_accept cX11_accept 2 (some .int)]
def wsX11_price : List Cond := .code yX11_price cX11_price 5 (some .int) :: ((wsX11_price_r1 ++ wsX11_price_r2) ++ wsX110 ++ wsX100 ++ wsX40)
def wsX11_force_r1 : List Cond := [Cond.fieldLink RX11 10 "ColdShips" "world" "LColdShips$World;", Cond.methodLink RX11 104 yX11_isSpan, Cond.static yX11_isSpan, Cond.initialized RX11, Cond.code yX11_isSpan cX11_isSpan 2 (some .boolean), Cond.methodLink RX11 229 yX11_isHour, Cond.static yX11_isHour, Cond.code yX11_isHour cX11_isHour 1 (some .boolean), Cond.methodLink RX11 51 yX11_within, Cond.static yX11_within, Cond.code yX11_within cX11_within 3 (some .boolean), Cond.methodLink RX11 55 yX11_refuse, Cond.instanceMethod yX11_refuse, Cond.selects RX11 yX11_refuse yX11_refuse, Cond.code yX11_refuse cX11_refuse 2 (some .int), Cond.fieldLink RX11 354 "ColdShips" "refusal" "I", Cond.methodLink RX11 125 yX6_add, Cond.instanceMethod yX6_add, Cond.selects RX6 yX6_add yX6_add, Cond.initialized RX6, Cond.code yX6_add cX6_add 5 (some .int), Cond.fieldLink RX6 27 "ColdShips$Spans" "size" "I", Cond.fieldLink RX6 15 "ColdShips$Spans" "owners" "[I", Cond.fieldLink RX6 21 "ColdShips$Spans" "begins" "[I"]
def wsX11_force_r2 : List Cond := [Cond.fieldLink RX6 24 "ColdShips$Spans" "ends" "[I", Cond.methodLink RX11 129 yX11_acceptOrFull, Cond.instanceMethod yX11_acceptOrFull, Cond.selects RX11 yX11_acceptOrFull yX11_acceptOrFull, Cond.code yX11_acceptOrFull cX11_acceptOrFull 2 (some .int), Cond.methodLink RX11 73 yX11_accept, Cond.instanceMethod yX11_accept, Cond.selects RX11 yX11_accept yX11_accept, Cond.code yX11_accept cX11_accept 2 (some .int)]
def wsX11_force : List Cond := .code yX11_force cX11_force 4 (some .int) :: ((wsX11_force_r1 ++ wsX11_force_r2) ++ wsX110 ++ wsX100 ++ wsX60)
def wsX11_feed : List Cond := .code yX11_feed cX11_feed 6 (some .int) :: ([.fieldLink RX11 32 "ColdShips" "reader" "LColdShips$Reader;", .methodLink RX11 252 yX2_hasRoom, .instanceMethod yX2_hasRoom, .selects RX2 yX2_hasRoom yX2_hasRoom, .initialized RX2, .code yX2_hasRoom cX2_hasRoom 1 (some .boolean), .fieldLink RX2 26 "ColdShips$Reader" "size" "I", .methodLink RX11 256 yX2_addFour, .instanceMethod yX2_addFour, .selects RX2 yX2_addFour yX2_addFour, .code yX2_addFour cX2_addFour 3 none, .fieldLink RX2 11 "ColdShips$Reader" "tape" "[C"] ++ wsX110 ++ wsX20)
def wsX11_contract_r1 : List Cond := [Cond.fieldLink RX11 10 "ColdShips" "world" "LColdShips$World;", Cond.fieldLink RX11 32 "ColdShips" "reader" "LColdShips$Reader;", Cond.methodLink RX11 264 yX2_readTape, Cond.instanceMethod yX2_readTape, Cond.selects RX2 yX2_readTape yX2_readTape, Cond.initialized RX2, Cond.code yX2_readTape cX2_readTape 2 (some (.object "ColdShips$Contract")), Cond.fieldLink RX2 29 "ColdShips$Reader" "behind" "I", Cond.fieldLink RX2 32 "ColdShips$Reader" "cells" "I", Cond.fieldLink RX2 35 "ColdShips$Reader" "sums" "I", Cond.fieldLink RX2 38 "ColdShips$Reader" "leaves" "I", Cond.fieldLink RX2 41 "ColdShips$Reader" "brackets" "I", Cond.fieldLink RX2 44 "ColdShips$Reader" "windowFrom" "I", Cond.fieldLink RX2 47 "ColdShips$Reader" "windowTo" "I", Cond.fieldLink RX2 50 "ColdShips$Reader" "wantedPlace" "I", Cond.fieldLink RX2 60 "ColdShips$Reader" "place" "I", Cond.fieldLink RX2 15 "ColdShips$Reader" "faultAt" "I", Cond.fieldLink RX2 23 "ColdShips$Reader" "starts" "[I", Cond.classLink RX2 63 RX0, Cond.instantiable RX0 5, Cond.initialized RX0, Cond.fieldLink RX2 19 "ColdShips$Reader" "code" "[I", Cond.methodLink RX2 53 yX2_advance, Cond.instanceMethod yX2_advance]
def wsX11_contract_r2 : List Cond := [Cond.selects RX2 yX2_advance yX2_advance, Cond.code yX2_advance cX2_advance 1 none, Cond.fieldLink RX2 26 "ColdShips$Reader" "size" "I", Cond.fieldLink RX2 11 "ColdShips$Reader" "tape" "[C", Cond.fieldLink RX2 77 "ColdShips$Reader" "kind" "I", Cond.fieldLink RX2 99 "ColdShips$Reader" "value" "I", Cond.constant RX2 205 (100001), Cond.methodLink RX2 206 Lib.Math.min.name, Cond.static Lib.Math.min.name, Cond.initialized "java/lang/Math", Cond.code Lib.Math.min.name Lib.Math.min.code 2 (some .int), Cond.methodLink RX2 199 yX2_isLetter, Cond.static yX2_isLetter, Cond.code yX2_isLetter cX2_isLetter 1 (some .boolean), Cond.methodLink RX2 202 yX2_isDigit, Cond.static yX2_isDigit, Cond.code yX2_isDigit cX2_isDigit 1 (some .boolean), Cond.methodLink RX2 56 yX2_readClauses, Cond.instanceMethod yX2_readClauses, Cond.selects RX2 yX2_readClauses yX2_readClauses, Cond.code yX2_readClauses cX2_readClauses 2 (some .boolean), Cond.methodLink RX2 74 yX2_readClause, Cond.instanceMethod yX2_readClause, Cond.selects RX2 yX2_readClause yX2_readClause]
def wsX11_contract_r3 : List Cond := [Cond.code yX2_readClause cX2_readClause 1 (some .boolean), Cond.methodLink RX2 86 yX2_passWord, Cond.instanceMethod yX2_passWord, Cond.selects RX2 yX2_passWord yX2_passWord, Cond.code yX2_passWord cX2_passWord 3 (some .boolean), Cond.methodLink RX2 169 yX2_isWord, Cond.instanceMethod yX2_isWord, Cond.selects RX2 yX2_isWord yX2_isWord, Cond.code yX2_isWord cX2_isWord 3 (some .boolean), Cond.methodLink RX2 190 yJ0_length_8abf5, Cond.instanceMethod yJ0_length_8abf5, Cond.selects RJ0 yJ0_length_8abf5 yJ0_length_8abf5, Cond.initialized RJ0, Cond.code yJ0_length_8abf5 cJ0_length_8abf5 1 (some .int), Cond.fieldLink RJ0 9 "java/lang/String" "value" "[B", Cond.methodLink RJ0 335 yJ0_coder_7d493, Cond.instanceMethod yJ0_coder_7d493, Cond.selects RJ0 yJ0_coder_7d493 yJ0_coder_7d493, Cond.code yJ0_coder_7d493 cJ0_coder_7d493 1 (some .byte), Cond.fieldLink RJ0 38 "java/lang/String" "COMPACT_STRINGS" "Z", Cond.fieldLink RJ0 15 "java/lang/String" "coder" "B", Cond.methodLink RX2 195 yJ0_charAt_5068e, Cond.instanceMethod yJ0_charAt_5068e, Cond.selects RJ0 yJ0_charAt_5068e yJ0_charAt_5068e]
def wsX11_contract_r4 : List Cond := [Cond.code yJ0_charAt_5068e cJ0_charAt_5068e 2 (some .char), Cond.methodLink RJ0 492 yJ0_isLatin1_aae02, Cond.instanceMethod yJ0_isLatin1_aae02, Cond.selects RJ0 yJ0_isLatin1_aae02 yJ0_isLatin1_aae02, Cond.code yJ0_isLatin1_aae02 cJ0_isLatin1_aae02 1 (some .boolean), Cond.methodLink RJ0 495 yJ1_charAt_3b067, Cond.static yJ1_charAt_3b067, Cond.initialized RJ1, Cond.code yJ1_charAt_3b067 cJ1_charAt_3b067 2 (some .char), Cond.methodLink RJ1 9 yJ0_checkIndex_df160, Cond.static yJ0_checkIndex_df160, Cond.code yJ0_checkIndex_df160 cJ0_checkIndex_df160 2 none, Cond.fieldLink RJ0 1053 "jdk/internal/util/Preconditions" "SIOOBE_FORMATTER" "Ljava/util/function/BiFunction;", Cond.methodLink RJ0 1059 yJ3_checkIndex_8e157, Cond.static yJ3_checkIndex_8e157, Cond.initialized RJ3, Cond.code yJ3_checkIndex_8e157 cJ3_checkIndex_8e157 3 (some .int), Cond.methodLink RJ0 498 yJ2_charAt_3b067, Cond.static yJ2_charAt_3b067, Cond.initialized RJ2, Cond.code yJ2_charAt_3b067 cJ2_charAt_3b067 2 (some .char), Cond.methodLink RJ2 67 yJ2_checkIndex_2214a, Cond.static yJ2_checkIndex_2214a, Cond.code yJ2_checkIndex_2214a cJ2_checkIndex_2214a 2 none]
def wsX11_contract_r5 : List Cond := [Cond.methodLink RJ2 48 yJ2_length_9d52b, Cond.static yJ2_length_9d52b, Cond.code yJ2_length_9d52b cJ2_length_9d52b 1 (some .int), Cond.methodLink RJ2 414 yJ0_checkIndex_df160, Cond.methodLink RJ2 71 yJ2_getChar_3b067, Cond.static yJ2_getChar_3b067, Cond.code yJ2_getChar_3b067 cJ2_getChar_3b067 2 (some .char), Cond.fieldLink RJ2 44 "java/lang/StringUTF16" "$assertionsDisabled" "Z", Cond.fieldLink RJ2 59 "java/lang/StringUTF16" "HI_BYTE_SHIFT" "I", Cond.fieldLink RJ2 63 "java/lang/StringUTF16" "LO_BYTE_SHIFT" "I", Cond.methodLink RX2 90 yX2_readWindow, Cond.instanceMethod yX2_readWindow, Cond.selects RX2 yX2_readWindow yX2_readWindow, Cond.code yX2_readWindow cX2_readWindow 2 (some .boolean), Cond.methodLink RX2 95 yX2_isNumber, Cond.instanceMethod yX2_isNumber, Cond.selects RX2 yX2_isNumber yX2_isNumber, Cond.code yX2_isNumber cX2_isNumber 3 (some .boolean), Cond.static yX11_within, Cond.initialized RX11, Cond.code yX11_within cX11_within 3 (some .boolean), Cond.methodLink RX2 104 yX2_readMoney, Cond.instanceMethod yX2_readMoney, Cond.selects RX2 yX2_readMoney yX2_readMoney]
def wsX11_contract_r6 : List Cond := [Cond.code yX2_readMoney cX2_readMoney 2 (some .boolean), Cond.methodLink RX2 112 yX2_readSum, Cond.instanceMethod yX2_readSum, Cond.selects RX2 yX2_readSum yX2_readSum, Cond.code yX2_readSum cX2_readSum 3 (some .boolean), Cond.methodLink RX2 153 yX2_readTerm, Cond.instanceMethod yX2_readTerm, Cond.selects RX2 yX2_readTerm yX2_readTerm, Cond.methodLink RX2 143 yX2_isSign, Cond.instanceMethod yX2_isSign, Cond.selects RX2 yX2_isSign yX2_isSign, Cond.code yX2_isSign cX2_isSign 2 (some .boolean), Cond.methodLink RX2 120 yX2_emit, Cond.instanceMethod yX2_emit, Cond.selects RX2 yX2_emit yX2_emit, Cond.code yX2_emit cX2_emit 2 none, Cond.code yX2_readBoth cX2_readBoth 3 (some .boolean), Cond.methodLink RX2 136 yX2_readPlain, Cond.instanceMethod yX2_readPlain, Cond.selects RX2 yX2_readPlain yX2_readPlain, Cond.methodLink RX2 129 yX2_emitJump, Cond.instanceMethod yX2_emitJump, Cond.selects RX2 yX2_emitJump yX2_emitJump, Cond.code yX2_emitJump cX2_emitJump 2 (some .int)]
def wsX11_contract_r7 : List Cond := [Cond.methodLink RX2 133 yX2_land, Cond.instanceMethod yX2_land, Cond.selects RX2 yX2_land yX2_land, Cond.code yX2_land cX2_land 2 none, Cond.code yX2_readCompared cX2_readCompared 2 (some .boolean), Cond.code yX2_readInBrackets cX2_readInBrackets 3 (some .boolean), Cond.methodLink RX2 117 yX2_readTest, Cond.instanceMethod yX2_readTest, Cond.selects RX2 yX2_readTest yX2_readTest, Cond.methodLink RX2 80 yX2_passSign, Cond.instanceMethod yX2_passSign, Cond.selects RX2 yX2_passSign yX2_passSign, Cond.code yX2_passSign cX2_passSign 3 (some .boolean), Cond.code yX2_readPart cX2_readPart 2 (some .boolean), Cond.methodLink RX2 146 yX2_readInBrackets, Cond.instanceMethod yX2_readInBrackets, Cond.selects RX2 yX2_readInBrackets yX2_readInBrackets, Cond.methodLink RX2 159 yX2_leafHere, Cond.instanceMethod yX2_leafHere, Cond.selects RX2 yX2_leafHere yX2_leafHere, Cond.code yX2_leafHere cX2_leafHere 2 (some .int), Cond.constant RX2 163 (100000), Cond.methodLink RX2 164 yX2_factHere, Cond.instanceMethod yX2_factHere]
def wsX11_contract_r8 : List Cond := [Cond.selects RX2 yX2_factHere yX2_factHere, Cond.code yX2_factHere cX2_factHere 1 (some .int), Cond.code yX2_readPlain cX2_readPlain 3 (some .boolean), Cond.methodLink RX2 150 yX2_readCompared, Cond.instanceMethod yX2_readCompared, Cond.selects RX2 yX2_readCompared yX2_readCompared, Cond.code yX2_readTerm cX2_readTerm 3 (some .boolean), Cond.methodLink RX2 156 yX2_readPart, Cond.instanceMethod yX2_readPart, Cond.selects RX2 yX2_readPart yX2_readPart, Cond.code yX2_readTest cX2_readTest 3 (some .boolean), Cond.methodLink RX2 124 yX2_readBoth, Cond.instanceMethod yX2_readBoth, Cond.selects RX2 yX2_readBoth yX2_readBoth, Cond.methodLink RX2 65 yJ7_copyOf_59c91, Cond.static yJ7_copyOf_59c91, Cond.initialized RJ7, Cond.code yJ7_copyOf_59c91 cJ7_copyOf_59c91 3 (some (.array .int)), Cond.methodLink RJ7 316 ⟨"[I", "clone", "()Ljava/lang/Object;"⟩, Cond.sameMethod "[I" "java/lang/Object" "clone" "()Ljava/lang/Object;", Cond.native ⟨"java/lang/Object", "clone", "()Ljava/lang/Object;"⟩, Cond.instanceMethod ⟨"java/lang/Object", "clone", "()Ljava/lang/Object;"⟩, Cond.selects "[I" ⟨"[I", "clone", "()Ljava/lang/Object;"⟩ ⟨"java/lang/Object", "clone", "()Ljava/lang/Object;"⟩, Cond.classLink RJ7 317 "[I"]
def wsX11_contract_r9 : List Cond := [Cond.arrayClass .int, Cond.methodLink RJ7 304 Lib.Math.min.name, Cond.methodLink RJ7 150 arraycopyName, Cond.native arraycopyName, Cond.static arraycopyName, Cond.initialized "java/lang/System", Cond.methodLink RX2 71 yX0_init, Cond.instanceMethod yX0_init, Cond.code yX0_init cX0_init 6 none, Cond.methodLink RX0 1 objectInit, Cond.instanceMethod objectInit, Cond.code objectInit ⟨#[0xb1]⟩ 1 none, Cond.fieldLink RX0 7 "ColdShips$Contract" "code" "[I", Cond.fieldLink RX0 13 "ColdShips$Contract" "starts" "[I", Cond.fieldLink RX0 16 "ColdShips$Contract" "windowFrom" "I", Cond.fieldLink RX0 20 "ColdShips$Contract" "windowTo" "I", Cond.fieldLink RX0 23 "ColdShips$Contract" "place" "I", Cond.methodLink RX11 268 yX2_emptyTape, Cond.instanceMethod yX2_emptyTape, Cond.selects RX2 yX2_emptyTape yX2_emptyTape, Cond.code yX2_emptyTape cX2_emptyTape 1 none, Cond.methodLink RX11 55 yX11_refuse, Cond.instanceMethod yX11_refuse, Cond.selects RX11 yX11_refuse yX11_refuse]
def wsX11_contract_r10 : List Cond := [Cond.code yX11_refuse cX11_refuse 2 (some .int), Cond.fieldLink RX11 354 "ColdShips" "refusal" "I", Cond.methodLink RX11 73 yX11_accept, Cond.instanceMethod yX11_accept, Cond.selects RX11 yX11_accept yX11_accept, Cond.code yX11_accept cX11_accept 2 (some .int)]
def wsX11_contract : List Cond := .code yX11_contract cX11_contract 4 (some .int) :: ((wsX11_contract_r1 ++ (wsX11_contract_r2 ++ (wsX11_contract_r3 ++ (wsX11_contract_r4 ++ (wsX11_contract_r5 ++ (wsX11_contract_r6 ++ (wsX11_contract_r7 ++ (wsX11_contract_r8 ++ (wsX11_contract_r9 ++ wsX11_contract_r10))))))))) ++ wsX110 ++ wsX100 ++ wsX20 ++ wsX00)
def wsX11_best_r1 : List Cond := [Cond.fieldLink RX11 46 "ColdShips" "planner" "LColdShips$Planner;", Cond.constantLong RX11 198 (-1), Cond.methodLink RX11 229 yX11_isHour, Cond.static yX11_isHour, Cond.initialized RX11, Cond.code yX11_isHour cX11_isHour 1 (some .boolean), Cond.methodLink RX11 51 yX11_within, Cond.static yX11_within, Cond.code yX11_within cX11_within 3 (some .boolean), Cond.methodLink RX11 322 yX1_findBest, Cond.instanceMethod yX1_findBest, Cond.selects RX1 yX1_findBest yX1_findBest, Cond.initialized RX1, Cond.code yX1_findBest cX1_findBest 5 (some .long), Cond.fieldLink RX1 40 "ColdShips$Planner" "world" "LColdShips$World;", Cond.methodLink RX1 60 Lib.Math.min.name, Cond.static Lib.Math.min.name, Cond.initialized "java/lang/Math", Cond.code Lib.Math.min.name Lib.Math.min.code 2 (some .int), Cond.fieldLink RX1 19 "ColdShips$Planner" "setWorths" "[J", Cond.constantLong RX1 66 (-2000000000000000), Cond.fieldLink RX1 22 "ColdShips$Planner" "setShips" "[I", Cond.fieldLink RX1 11 "ColdShips$Planner" "rowWorths" "[J", Cond.fieldLink RX1 15 "ColdShips$Planner" "rowPlaces" "[I"]
def wsX11_best_r2 : List Cond := [Cond.methodLink RX1 68 yJ7_fill_d0a16, Cond.static yJ7_fill_d0a16, Cond.initialized RJ7, Cond.code yJ7_fill_d0a16 cJ7_fill_d0a16 5 none, Cond.methodLink RX1 77 yJ7_fill_bad5a, Cond.static yJ7_fill_bad5a, Cond.code yJ7_fill_bad5a cJ7_fill_bad5a 6 none, Cond.methodLink RJ7 13 yJ7_rangeCheck_23922, Cond.static yJ7_rangeCheck_23922, Cond.code yJ7_rangeCheck_23922 cJ7_rangeCheck_23922 3 none, Cond.methodLink RX1 89 yX1_extend, Cond.instanceMethod yX1_extend, Cond.selects RX1 yX1_extend yX1_extend, Cond.code yX1_extend cX1_extend 14 none, Cond.fieldLink RX1 108 "ColdShips$Planner" "worth" "J", Cond.fieldLink RX1 119 "ColdShips$Planner" "freeAt" "I", Cond.methodLink RX1 104 yX1_reckon, Cond.instanceMethod yX1_reckon, Cond.selects RX1 yX1_reckon yX1_reckon, Cond.code yX1_reckon cX1_reckon 14 (some .boolean), Cond.methodLink RX1 164 Lib.Math.max.name, Cond.static Lib.Math.max.name, Cond.code Lib.Math.max.name Lib.Math.max.code 2 (some .int), Cond.fieldLink RX1 142 "ColdShips$Planner" "loadAt" "I"]
def wsX11_best_r3 : List Cond := [Cond.fieldLink RX1 145 "ColdShips$Planner" "landAt" "I", Cond.constantLong RX1 189 (100000), Cond.methodLink RX1 191 Lib.MathLoose.min_long.x, Cond.static Lib.MathLoose.min_long.x, Cond.code Lib.MathLoose.min_long.x Lib.MathLoose.min_long.code 4 (some .long), Cond.constantLong RX1 198 (100), Cond.methodLink RX1 116 yX4_number, Cond.instanceMethod yX4_number, Cond.selects RX4 yX4_number yX4_number, Cond.initialized RX4, Cond.code yX4_number cX4_number 3 (some .int), Cond.methodLink RX4 34 yX4_at, Cond.instanceMethod yX4_at, Cond.selects RX4 yX4_at yX4_at, Cond.code yX4_at cX4_at 4 (some .long), Cond.fieldLink RX4 25 "ColdShips$Rows" "size" "I", Cond.fieldLink RX4 15 "ColdShips$Rows" "width" "I", Cond.fieldLink RX4 21 "ColdShips$Rows" "cells" "[J", Cond.methodLink RX1 151 yX10_hoursBetween, Cond.instanceMethod yX10_hoursBetween, Cond.selects RX10 yX10_hoursBetween yX10_hoursBetween, Cond.initialized RX10, Cond.code yX10_hoursBetween cX10_hoursBetween 4 (some .int), Cond.fieldLink RX10 27 "ColdShips$World" "terminals" "[LColdShips$Terminal;"]
def wsX11_best_r4 : List Cond := [Cond.methodLink RX10 93 yX10_hasTerminal, Cond.instanceMethod yX10_hasTerminal, Cond.selects RX10 yX10_hasTerminal yX10_hasTerminal, Cond.code yX10_hasTerminal cX10_hasTerminal 2 (some .boolean), Cond.fieldLink RX10 78 "ColdShips$World" "terminalCount" "I", Cond.methodLink RX1 158 yX7_top, Cond.instanceMethod yX7_top, Cond.selects RX7 yX7_top yX7_top, Cond.initialized RX7, Cond.code yX7_top cX7_top 1 (some .int), Cond.fieldLink RX7 9 "ColdShips$Tank" "cap" "I", Cond.methodLink RX1 175 yX8_hoursFor, Cond.instanceMethod yX8_hoursFor, Cond.selects RX8 yX8_hoursFor yX8_hoursFor, Cond.initialized RX8, Cond.code yX8_hoursFor cX8_hoursFor 2 (some .int), Cond.fieldLink RX8 9 "ColdShips$Terminal" "rate" "I", Cond.methodLink RX1 180 yX6_hourBehind, Cond.instanceMethod yX6_hourBehind, Cond.selects RX6 yX6_hourBehind yX6_hourBehind, Cond.initialized RX6, Cond.code yX6_hourBehind cX6_hourBehind 8 (some .int), Cond.fieldLink RX6 27 "ColdShips$Spans" "size" "I", Cond.fieldLink RX6 21 "ColdShips$Spans" "begins" "[I"]
def wsX11_best_r5 : List Cond := [Cond.fieldLink RX6 15 "ColdShips$Spans" "owners" "[I", Cond.fieldLink RX6 24 "ColdShips$Spans" "ends" "[I", Cond.methodLink RX6 9 Lib.Math.max.name, Cond.methodLink RX1 194 yX4_at, Cond.methodLink RX1 112 yX1_keepRow, Cond.instanceMethod yX1_keepRow, Cond.selects RX1 yX1_keepRow yX1_keepRow, Cond.code yX1_keepRow cX1_keepRow 5 none, Cond.methodLink RX1 93 yX1_addShip, Cond.instanceMethod yX1_addShip, Cond.selects RX1 yX1_addShip yX1_addShip, Cond.code yX1_addShip cX1_addShip 6 none, Cond.methodLink RX1 122 yX1_joinSets, Cond.instanceMethod yX1_joinSets, Cond.selects RX1 yX1_joinSets yX1_joinSets, Cond.code yX1_joinSets cX1_joinSets 10 none, Cond.methodLink RX1 97 yX1_isBetter, Cond.instanceMethod yX1_isBetter, Cond.selects RX1 yX1_isBetter yX1_isBetter, Cond.code yX1_isBetter cX1_isBetter 4 (some .boolean), Cond.methodLink RX1 126 yJ6_bitCount_0f7a4, Cond.static yJ6_bitCount_0f7a4, Cond.initialized RJ6, Cond.code yJ6_bitCount_0f7a4 cJ6_bitCount_0f7a4 1 (some .int)]
def wsX11_best_r6 : List Cond := [Cond.constant RJ6 265 (1431655765), Cond.constant RJ6 266 (858993459), Cond.constant RJ6 267 (252645135), Cond.methodLink RX1 101 yX1_keepPlan, Cond.instanceMethod yX1_keepPlan, Cond.selects RX1 yX1_keepPlan yX1_keepPlan, Cond.code yX1_keepPlan cX1_keepPlan 5 none, Cond.fieldLink RX1 132 "ColdShips$Planner" "planned" "I", Cond.fieldLink RX1 25 "ColdShips$Planner" "shipOf" "[I", Cond.methodLink RX1 135 yX1_keepVoyage, Cond.instanceMethod yX1_keepVoyage, Cond.selects RX1 yX1_keepVoyage yX1_keepVoyage, Cond.code yX1_keepVoyage cX1_keepVoyage 9 none, Cond.fieldLink RX1 28 "ColdShips$Planner" "placeOf" "[I", Cond.fieldLink RX1 31 "ColdShips$Planner" "loadOf" "[I", Cond.fieldLink RX1 34 "ColdShips$Planner" "landOf" "[I", Cond.fieldLink RX1 37 "ColdShips$Planner" "worthOf" "[J", Cond.methodLink RX1 138 yX1_cargoAt, Cond.instanceMethod yX1_cargoAt, Cond.selects RX1 yX1_cargoAt yX1_cargoAt, Cond.code yX1_cargoAt cX1_cargoAt 5 (some .int)]
def wsX11_best : List Cond := .code yX11_best cX11_best 2 (some .long) :: ((wsX11_best_r1 ++ (wsX11_best_r2 ++ (wsX11_best_r3 ++ (wsX11_best_r4 ++ (wsX11_best_r5 ++ wsX11_best_r6))))) ++ wsX110 ++ wsX10 ++ wsX100 ++ wsX40 ++ wsX50 ++ wsX80 ++ wsX70 ++ wsX60)
set_option maxRecDepth 20000 in
theorem ggX1_findBest_J7_fill_d0a16 : GoodIn wsX1_findBest wsJ7_fill_d0a16 := goodIn_r _ [14] (by decide +kernel) (by decide +kernel)
set_option maxRecDepth 20000 in
theorem gX1_findBest_J7_fill_d0a16 : GoodIn wsX1_findBest (va_wsS RX1 68 yJ7_fill_d0a16 wsJ7_fill_d0a16) := goodIn_app (goodIn_of _ (by decide +kernel)) ggX1_findBest_J7_fill_d0a16
set_option maxRecDepth 20000 in
theorem ggX1_findBest_X1_keepPlan : GoodIn wsX1_findBest wsX1_keepPlan := goodIn_r _ [114, 1, 2, 3, 4, 5, 115, 116, 117, 118, 119, 24, 120, 10, 121, 122, 35, 123, 36, 124, 26, 27, 125, 126, 127, 128, 28, 29, 30, 31, 32, 33, 34, 37, 38, 39, 40, 41, 42, 43, 44, 45, 46, 47, 48, 49, 50, 51, 52, 53, 54, 55, 56, 57, 58, 59, 60, 61, 62, 63, 64, 65, 66, 67, 68, 69, 70, 71, 72, 73, 74, 75, 76, 77, 78, 79, 80, 81, 82, 83, 84, 85, 86, 87, 129, 130, 131, 132, 133, 134, 135, 136, 137, 138, 139, 140, 141, 142, 143, 144, 145, 146, 147, 148, 149, 150, 151, 152, 153, 154, 155, 156, 157, 158, 159, 160, 161, 162, 163, 164, 165, 166, 167, 168, 169, 170, 171, 172, 173, 174, 175, 176, 177, 178, 179, 180, 181, 182, 183, 184, 185, 186, 187, 188, 189, 190, 191, 192, 193, 194, 195, 196, 197, 198, 199, 200] (by decide +kernel) (by decide +kernel)
set_option maxRecDepth 20000 in
theorem gX1_findBest_X1_keepPlan : GoodIn wsX1_findBest (wsV RX1 101 RX1 yX1_keepPlan wsX1_keepPlan) := goodIn_app (goodIn_of _ (by decide +kernel)) ggX1_findBest_X1_keepPlan
theorem dX1_findBest_0 : decode cX1_findBest 0 = .ok (.iconst 1, 1) := by decide +kernel
theorem dX1_findBest_1 : decode cX1_findBest 1 = .ok (.bipush 6, 2) := by decide +kernel
theorem dX1_findBest_3 : decode cX1_findBest 3 = .ok (.aload_n 0, 1) := by decide +kernel
theorem dX1_findBest_4 : decode cX1_findBest 4 = .ok (.getfield 40, 3) := by decide +kernel
theorem dX1_findBest_7 : decode cX1_findBest 7 = .ok (.getfield 50, 3) := by decide +kernel
theorem dX1_findBest_10 : decode cX1_findBest 10 = .ok (.getfield 54, 3) := by decide +kernel
theorem dX1_findBest_13 : decode cX1_findBest 13 = .ok (.invokestatic 60, 3) := by decide +kernel
theorem dX1_findBest_16 : decode cX1_findBest 16 = .ok (.ishl, 1) := by decide +kernel
theorem dX1_findBest_17 : decode cX1_findBest 17 = .ok (.istore_n 2, 1) := by decide +kernel
theorem dX1_findBest_18 : decode cX1_findBest 18 = .ok (.aload_n 0, 1) := by decide +kernel
theorem dX1_findBest_19 : decode cX1_findBest 19 = .ok (.getfield 19, 3) := by decide +kernel
theorem dX1_findBest_22 : decode cX1_findBest 22 = .ok (.ldc2_w 66, 3) := by decide +kernel
theorem dX1_findBest_25 : decode cX1_findBest 25 = .ok (.invokestatic 68, 3) := by decide +kernel
theorem dX1_findBest_28 : decode cX1_findBest 28 = .ok (.aload_n 0, 1) := by decide +kernel
theorem dX1_findBest_29 : decode cX1_findBest 29 = .ok (.getfield 19, 3) := by decide +kernel
theorem dX1_findBest_32 : decode cX1_findBest 32 = .ok (.iconst 0, 1) := by decide +kernel
theorem dX1_findBest_33 : decode cX1_findBest 33 = .ok (.lconst 0, 1) := by decide +kernel
theorem dX1_findBest_34 : decode cX1_findBest 34 = .ok (.lastore, 1) := by decide +kernel
theorem dX1_findBest_35 : decode cX1_findBest 35 = .ok (.aload_n 0, 1) := by decide +kernel
theorem dX1_findBest_36 : decode cX1_findBest 36 = .ok (.getfield 22, 3) := by decide +kernel
theorem dX1_findBest_39 : decode cX1_findBest 39 = .ok (.iconst 0, 1) := by decide +kernel
theorem dX1_findBest_40 : decode cX1_findBest 40 = .ok (.sipush 4095, 3) := by decide +kernel
theorem dX1_findBest_43 : decode cX1_findBest 43 = .ok (.iastore, 1) := by decide +kernel
theorem dX1_findBest_44 : decode cX1_findBest 44 = .ok (.iconst 0, 1) := by decide +kernel
theorem dX1_findBest_45 : decode cX1_findBest 45 = .ok (.istore_n 3, 1) := by decide +kernel
theorem dX1_findBest_46 : decode cX1_findBest 46 = .ok (.iload_n 3, 1) := by decide +kernel
theorem dX1_findBest_47 : decode cX1_findBest 47 = .ok (.iconst 3, 1) := by decide +kernel
theorem dX1_findBest_48 : decode cX1_findBest 48 = .ok (.if_icmp .ge 88, 3) := by decide +kernel
theorem dX1_findBest_51 : decode cX1_findBest 51 = .ok (.iload_n 3, 1) := by decide +kernel
theorem dX1_findBest_52 : decode cX1_findBest 52 = .ok (.aload_n 0, 1) := by decide +kernel
theorem dX1_findBest_53 : decode cX1_findBest 53 = .ok (.getfield 40, 3) := by decide +kernel
theorem dX1_findBest_56 : decode cX1_findBest 56 = .ok (.getfield 74, 3) := by decide +kernel
theorem dX1_findBest_59 : decode cX1_findBest 59 = .ok (.if_icmp .ge 77, 3) := by decide +kernel
theorem dX1_findBest_136 : decode cX1_findBest 136 = .ok (.iconst 0, 1) := by decide +kernel
theorem dX1_findBest_137 : decode cX1_findBest 137 = .ok (.istore_n 3, 1) := by decide +kernel
theorem dX1_findBest_138 : decode cX1_findBest 138 = .ok (.iconst 1, 1) := by decide +kernel
theorem dX1_findBest_139 : decode cX1_findBest 139 = .ok (.istore 4, 2) := by decide +kernel
theorem dX1_findBest_141 : decode cX1_findBest 141 = .ok (.iload 4, 2) := by decide +kernel
theorem dX1_findBest_143 : decode cX1_findBest 143 = .ok (.iload_n 2, 1) := by decide +kernel
theorem dX1_findBest_144 : decode cX1_findBest 144 = .ok (.if_icmp .ge 22, 3) := by decide +kernel
theorem dX1_findBest_166 : decode cX1_findBest 166 = .ok (.aload_n 0, 1) := by decide +kernel
theorem dX1_findBest_167 : decode cX1_findBest 167 = .ok (.aload_n 0, 1) := by decide +kernel
theorem dX1_findBest_168 : decode cX1_findBest 168 = .ok (.getfield 22, 3) := by decide +kernel
theorem dX1_findBest_171 : decode cX1_findBest 171 = .ok (.iload_n 3, 1) := by decide +kernel
theorem dX1_findBest_172 : decode cX1_findBest 172 = .ok (.iaload, 1) := by decide +kernel
theorem dX1_findBest_173 : decode cX1_findBest 173 = .ok (.iload_n 1, 1) := by decide +kernel
theorem dX1_findBest_174 : decode cX1_findBest 174 = .ok (.invokevirtual 101, 3) := by decide +kernel
theorem dX1_findBest_177 : decode cX1_findBest 177 = .ok (.aload_n 0, 1) := by decide +kernel
theorem dX1_findBest_178 : decode cX1_findBest 178 = .ok (.getfield 19, 3) := by decide +kernel
theorem dX1_findBest_181 : decode cX1_findBest 181 = .ok (.iload_n 3, 1) := by decide +kernel
theorem dX1_findBest_182 : decode cX1_findBest 182 = .ok (.laload, 1) := by decide +kernel
theorem dX1_findBest_183 : decode cX1_findBest 183 = .ok (.lreturn, 1) := by decide +kernel
theorem dX1_keepPlan_0 : decode cX1_keepPlan 0 = .ok (.aload_n 0, 1) := by decide +kernel
theorem dX1_keepPlan_1 : decode cX1_keepPlan 1 = .ok (.bipush 6, 2) := by decide +kernel
theorem dX1_keepPlan_3 : decode cX1_keepPlan 3 = .ok (.aload_n 0, 1) := by decide +kernel
theorem dX1_keepPlan_4 : decode cX1_keepPlan 4 = .ok (.getfield 40, 3) := by decide +kernel
theorem dX1_keepPlan_7 : decode cX1_keepPlan 7 = .ok (.getfield 50, 3) := by decide +kernel
theorem dX1_keepPlan_10 : decode cX1_keepPlan 10 = .ok (.getfield 54, 3) := by decide +kernel
theorem dX1_keepPlan_13 : decode cX1_keepPlan 13 = .ok (.invokestatic 60, 3) := by decide +kernel
theorem dX1_keepPlan_16 : decode cX1_keepPlan 16 = .ok (.putfield 132, 3) := by decide +kernel
theorem dX1_keepPlan_19 : decode cX1_keepPlan 19 = .ok (.iconst 0, 1) := by decide +kernel
theorem dX1_keepPlan_20 : decode cX1_keepPlan 20 = .ok (.istore_n 3, 1) := by decide +kernel
theorem dX1_keepPlan_21 : decode cX1_keepPlan 21 = .ok (.iload_n 3, 1) := by decide +kernel
theorem dX1_keepPlan_22 : decode cX1_keepPlan 22 = .ok (.aload_n 0, 1) := by decide +kernel
theorem dX1_keepPlan_23 : decode cX1_keepPlan 23 = .ok (.getfield 132, 3) := by decide +kernel
theorem dX1_keepPlan_26 : decode cX1_keepPlan 26 = .ok (.if_icmp .ge 38, 3) := by decide +kernel
theorem dX1_keepPlan_64 : decode cX1_keepPlan 64 = .ok (.iconst 0, 1) := by decide +kernel
theorem dX1_keepPlan_65 : decode cX1_keepPlan 65 = .ok (.istore_n 3, 1) := by decide +kernel
theorem dX1_keepPlan_66 : decode cX1_keepPlan 66 = .ok (.iload_n 3, 1) := by decide +kernel
theorem dX1_keepPlan_67 : decode cX1_keepPlan 67 = .ok (.iconst 3, 1) := by decide +kernel
theorem dX1_keepPlan_68 : decode cX1_keepPlan 68 = .ok (.if_icmp .ge 26, 3) := by decide +kernel
theorem dX1_keepPlan_71 : decode cX1_keepPlan 71 = .ok (.iload_n 3, 1) := by decide +kernel
theorem dX1_keepPlan_72 : decode cX1_keepPlan 72 = .ok (.aload_n 0, 1) := by decide +kernel
theorem dX1_keepPlan_73 : decode cX1_keepPlan 73 = .ok (.getfield 40, 3) := by decide +kernel
theorem dX1_keepPlan_76 : decode cX1_keepPlan 76 = .ok (.getfield 74, 3) := by decide +kernel
theorem dX1_keepPlan_79 : decode cX1_keepPlan 79 = .ok (.if_icmp .ge 15, 3) := by decide +kernel
theorem dX1_keepPlan_94 : decode cX1_keepPlan 94 = .ok (.return_, 1) := by decide +kernel
theorem dX2_hasRoom_0 : decode cX2_hasRoom 0 = .ok (.aload_n 0, 1) := by decide +kernel
theorem dX2_hasRoom_1 : decode cX2_hasRoom 1 = .ok (.getfield 26, 3) := by decide +kernel
theorem dX2_hasRoom_4 : decode cX2_hasRoom 4 = .ok (.bipush 20, 2) := by decide +kernel
theorem dX2_hasRoom_6 : decode cX2_hasRoom 6 = .ok (.iadd, 1) := by decide +kernel
theorem dX2_hasRoom_7 : decode cX2_hasRoom 7 = .ok (.sipush 400, 3) := by decide +kernel
theorem dX2_hasRoom_10 : decode cX2_hasRoom 10 = .ok (.if_icmp .gt 7, 3) := by decide +kernel
theorem dX2_hasRoom_13 : decode cX2_hasRoom 13 = .ok (.iconst 1, 1) := by decide +kernel
theorem dX2_hasRoom_14 : decode cX2_hasRoom 14 = .ok (.goto 4, 3) := by decide +kernel
theorem dX2_hasRoom_18 : decode cX2_hasRoom 18 = .ok (.ireturn, 1) := by decide +kernel
theorem dX2_addFour_0 : decode cX2_addFour 0 = .ok (.bipush 24, 2) := by decide +kernel
theorem dX2_addFour_2 : decode cX2_addFour 2 = .ok (.istore_n 2, 1) := by decide +kernel
theorem dX2_addFour_3 : decode cX2_addFour 3 = .ok (.iload_n 2, 1) := by decide +kernel
theorem dX2_addFour_4 : decode cX2_addFour 4 = .ok (.ifCond .lt 46, 3) := by decide +kernel
theorem dX2_addFour_7 : decode cX2_addFour 7 = .ok (.aload_n 0, 1) := by decide +kernel
theorem dX2_addFour_8 : decode cX2_addFour 8 = .ok (.getfield 26, 3) := by decide +kernel
theorem dX2_addFour_11 : decode cX2_addFour 11 = .ok (.sipush 400, 3) := by decide +kernel
theorem dX2_addFour_14 : decode cX2_addFour 14 = .ok (.if_icmp .ge 36, 3) := by decide +kernel
theorem dX2_addFour_17 : decode cX2_addFour 17 = .ok (.aload_n 0, 1) := by decide +kernel
theorem dX2_addFour_18 : decode cX2_addFour 18 = .ok (.getfield 11, 3) := by decide +kernel
theorem dX2_addFour_21 : decode cX2_addFour 21 = .ok (.aload_n 0, 1) := by decide +kernel
theorem dX2_addFour_22 : decode cX2_addFour 22 = .ok (.getfield 26, 3) := by decide +kernel
theorem dX2_addFour_25 : decode cX2_addFour 25 = .ok (.iload_n 1, 1) := by decide +kernel
theorem dX2_addFour_26 : decode cX2_addFour 26 = .ok (.iload_n 2, 1) := by decide +kernel
theorem dX2_addFour_27 : decode cX2_addFour 27 = .ok (.iushr, 1) := by decide +kernel
theorem dX2_addFour_28 : decode cX2_addFour 28 = .ok (.sipush 255, 3) := by decide +kernel
theorem dX2_addFour_31 : decode cX2_addFour 31 = .ok (.iand, 1) := by decide +kernel
theorem dX2_addFour_32 : decode cX2_addFour 32 = .ok (.i2c, 1) := by decide +kernel
theorem dX2_addFour_33 : decode cX2_addFour 33 = .ok (.castore, 1) := by decide +kernel
theorem dX2_addFour_34 : decode cX2_addFour 34 = .ok (.aload_n 0, 1) := by decide +kernel
theorem dX2_addFour_35 : decode cX2_addFour 35 = .ok (.dup, 1) := by decide +kernel
theorem dX2_addFour_36 : decode cX2_addFour 36 = .ok (.getfield 26, 3) := by decide +kernel
theorem dX2_addFour_39 : decode cX2_addFour 39 = .ok (.iconst 1, 1) := by decide +kernel
theorem dX2_addFour_40 : decode cX2_addFour 40 = .ok (.iadd, 1) := by decide +kernel
theorem dX2_addFour_41 : decode cX2_addFour 41 = .ok (.putfield 26, 3) := by decide +kernel
theorem dX2_addFour_44 : decode cX2_addFour 44 = .ok (.iinc 2 (-8), 3) := by decide +kernel
theorem dX2_addFour_47 : decode cX2_addFour 47 = .ok (.goto (-44), 3) := by decide +kernel
theorem dX2_addFour_50 : decode cX2_addFour 50 = .ok (.return_, 1) := by decide +kernel
theorem dX2_emptyTape_0 : decode cX2_emptyTape 0 = .ok (.aload_n 0, 1) := by decide +kernel
theorem dX2_emptyTape_1 : decode cX2_emptyTape 1 = .ok (.iconst 0, 1) := by decide +kernel
theorem dX2_emptyTape_2 : decode cX2_emptyTape 2 = .ok (.putfield 26, 3) := by decide +kernel
theorem dX2_emptyTape_5 : decode cX2_emptyTape 5 = .ok (.return_, 1) := by decide +kernel
set_option maxRecDepth 20000 in
theorem ggX2_readTape_X2_advance : GoodIn wsX2_readTape wsX2_advance := goodIn_r _ [20, 1, 9, 21, 22, 23, 24, 25, 26, 27, 28, 29, 30, 31, 19, 32, 33, 34, 35, 204, 205, 206, 207, 208, 209, 210, 211, 212, 213, 214, 215, 216, 217, 218, 219] (by decide +kernel) (by decide +kernel)
set_option maxRecDepth 20000 in
theorem gX2_readTape_X2_advance : GoodIn wsX2_readTape (wsV RX2 53 RX2 yX2_advance wsX2_advance) := goodIn_app (goodIn_of _ (by decide +kernel)) ggX2_readTape_X2_advance
set_option maxRecDepth 20000 in
theorem ggX2_readTape_X2_readClauses : GoodIn wsX2_readTape wsX2_readClauses := goodIn_r _ [39, 23, 40, 41, 42, 19, 43, 24, 8, 44, 45, 46, 47, 48, 49, 50, 51, 1, 9, 22, 52, 53, 54, 55, 56, 57, 58, 59, 60, 61, 62, 63, 64, 65, 66, 67, 68, 69, 70, 71, 72, 73, 74, 75, 76, 77, 78, 79, 80, 81, 82, 83, 84, 85, 86, 87, 88, 89, 90, 91, 92, 93, 94, 95, 96, 97, 98, 99, 100, 16, 17, 18, 20, 21, 25, 26, 27, 28, 29, 30, 31, 32, 33, 34, 35, 101, 102, 103, 104, 6, 7, 105, 106, 107, 108, 109, 110, 111, 112, 113, 114, 115, 3, 11, 2, 116, 117, 118, 119, 120, 121, 122, 123, 124, 125, 126, 127, 128, 129, 130, 15, 131, 132, 133, 134, 135, 136, 137, 138, 139, 140, 141, 142, 143, 144, 5, 145, 146, 147, 148, 149, 150, 151, 152, 4, 153, 154, 155, 156, 157, 158, 159, 160, 161, 162, 163, 164, 165, 166, 167, 168, 169, 170, 171, 172, 173, 174, 175, 176, 204, 205, 206, 207, 208, 209, 210, 211, 212, 213, 214, 215, 216, 217, 218, 219] (by decide +kernel) (by decide +kernel)
set_option maxRecDepth 20000 in
theorem gX2_readTape_X2_readClauses : GoodIn wsX2_readTape (wsV RX2 56 RX2 yX2_readClauses wsX2_readClauses) := goodIn_app (goodIn_of _ (by decide +kernel)) ggX2_readTape_X2_readClauses
theorem dX2_readTape_0 : decode cX2_readTape 0 = .ok (.aload_n 0, 1) := by decide +kernel
theorem dX2_readTape_1 : decode cX2_readTape 1 = .ok (.iconst 0, 1) := by decide +kernel
theorem dX2_readTape_2 : decode cX2_readTape 2 = .ok (.putfield 29, 3) := by decide +kernel
theorem dX2_readTape_5 : decode cX2_readTape 5 = .ok (.aload_n 0, 1) := by decide +kernel
theorem dX2_readTape_6 : decode cX2_readTape 6 = .ok (.iconst 0, 1) := by decide +kernel
theorem dX2_readTape_7 : decode cX2_readTape 7 = .ok (.putfield 32, 3) := by decide +kernel
theorem dX2_readTape_10 : decode cX2_readTape 10 = .ok (.aload_n 0, 1) := by decide +kernel
theorem dX2_readTape_11 : decode cX2_readTape 11 = .ok (.iconst 0, 1) := by decide +kernel
theorem dX2_readTape_12 : decode cX2_readTape 12 = .ok (.putfield 35, 3) := by decide +kernel
theorem dX2_readTape_15 : decode cX2_readTape 15 = .ok (.aload_n 0, 1) := by decide +kernel
theorem dX2_readTape_16 : decode cX2_readTape 16 = .ok (.iconst 0, 1) := by decide +kernel
theorem dX2_readTape_17 : decode cX2_readTape 17 = .ok (.putfield 38, 3) := by decide +kernel
theorem dX2_readTape_20 : decode cX2_readTape 20 = .ok (.aload_n 0, 1) := by decide +kernel
theorem dX2_readTape_21 : decode cX2_readTape 21 = .ok (.iconst 0, 1) := by decide +kernel
theorem dX2_readTape_22 : decode cX2_readTape 22 = .ok (.putfield 41, 3) := by decide +kernel
theorem dX2_readTape_25 : decode cX2_readTape 25 = .ok (.aload_n 0, 1) := by decide +kernel
theorem dX2_readTape_26 : decode cX2_readTape 26 = .ok (.iconst 0, 1) := by decide +kernel
theorem dX2_readTape_27 : decode cX2_readTape 27 = .ok (.putfield 44, 3) := by decide +kernel
theorem dX2_readTape_30 : decode cX2_readTape 30 = .ok (.aload_n 0, 1) := by decide +kernel
theorem dX2_readTape_31 : decode cX2_readTape 31 = .ok (.sipush 2399, 3) := by decide +kernel
theorem dX2_readTape_34 : decode cX2_readTape 34 = .ok (.putfield 47, 3) := by decide +kernel
theorem dX2_readTape_37 : decode cX2_readTape 37 = .ok (.aload_n 0, 1) := by decide +kernel
theorem dX2_readTape_38 : decode cX2_readTape 38 = .ok (.iconst (-1), 1) := by decide +kernel
theorem dX2_readTape_39 : decode cX2_readTape 39 = .ok (.putfield 50, 3) := by decide +kernel
theorem dX2_readTape_42 : decode cX2_readTape 42 = .ok (.aload_n 0, 1) := by decide +kernel
theorem dX2_readTape_43 : decode cX2_readTape 43 = .ok (.invokevirtual 53, 3) := by decide +kernel
theorem dX2_readTape_46 : decode cX2_readTape 46 = .ok (.aload_n 0, 1) := by decide +kernel
theorem dX2_readTape_47 : decode cX2_readTape 47 = .ok (.invokevirtual 56, 3) := by decide +kernel
theorem dX2_readTape_50 : decode cX2_readTape 50 = .ok (.istore_n 1, 1) := by decide +kernel
theorem dX2_readTape_51 : decode cX2_readTape 51 = .ok (.aload_n 0, 1) := by decide +kernel
theorem dX2_readTape_52 : decode cX2_readTape 52 = .ok (.iload_n 1, 1) := by decide +kernel
theorem dX2_readTape_53 : decode cX2_readTape 53 = .ok (.ifCond .eq 7, 3) := by decide +kernel
theorem dX2_readTape_60 : decode cX2_readTape 60 = .ok (.aload_n 0, 1) := by decide +kernel
theorem dX2_readTape_61 : decode cX2_readTape 61 = .ok (.getfield 60, 3) := by decide +kernel
theorem dX2_readTape_64 : decode cX2_readTape 64 = .ok (.putfield 15, 3) := by decide +kernel
theorem dX2_readTape_67 : decode cX2_readTape 67 = .ok (.iload_n 1, 1) := by decide +kernel
theorem dX2_readTape_68 : decode cX2_readTape 68 = .ok (.ifCond .ne 5, 3) := by decide +kernel
theorem dX2_readTape_71 : decode cX2_readTape 71 = .ok (.aconst_null, 1) := by decide +kernel
theorem dX2_readTape_72 : decode cX2_readTape 72 = .ok (.areturn, 1) := by decide +kernel
set_option maxRecDepth 20000 in
theorem ggX2_readClauses_X2_readClause : GoodIn wsX2_readClauses wsX2_readClause := goodIn_r _ [6, 7, 8, 9, 10, 11, 5, 12, 13, 14, 15, 16, 1, 17, 18, 19, 20, 21, 22, 23, 24, 25, 26, 27, 28, 29, 30, 31, 32, 33, 34, 35, 36, 37, 38, 39, 40, 41, 42, 43, 44, 45, 46, 47, 48, 49, 50, 51, 52, 53, 54, 55, 56, 57, 58, 59, 60, 61, 62, 63, 64, 65, 66, 67, 68, 69, 70, 71, 72, 73, 74, 75, 76, 77, 78, 79, 80, 81, 82, 83, 84, 85, 86, 87, 88, 89, 90, 91, 92, 93, 94, 95, 96, 97, 98, 99, 100, 101, 102, 103, 104, 105, 106, 107, 108, 109, 110, 111, 112, 113, 114, 115, 116, 117, 118, 119, 120, 121, 122, 123, 124, 125, 126, 127, 128, 129, 130, 131, 132, 133, 134, 135, 136, 137, 138, 139, 140, 141, 142, 143, 144, 145, 146, 147, 148, 149, 150, 151, 152, 153, 154, 155, 156, 157, 158, 159, 160, 161, 162, 163, 164, 165, 166, 167, 168, 169, 170, 171, 172, 173, 174, 175, 176, 177, 178, 179, 180, 181, 182, 183, 184] (by decide +kernel) (by decide +kernel)
set_option maxRecDepth 20000 in
theorem gX2_readClauses_X2_readClause : GoodIn wsX2_readClauses (wsV RX2 74 RX2 yX2_readClause wsX2_readClause) := goodIn_app (goodIn_of _ (by decide +kernel)) ggX2_readClauses_X2_readClause
theorem dX2_readClauses_0 : decode cX2_readClauses 0 = .ok (.iconst 0, 1) := by decide +kernel
theorem dX2_readClauses_1 : decode cX2_readClauses 1 = .ok (.istore_n 1, 1) := by decide +kernel
theorem dX2_readClauses_2 : decode cX2_readClauses 2 = .ok (.iload_n 1, 1) := by decide +kernel
theorem dX2_readClauses_3 : decode cX2_readClauses 3 = .ok (.bipush 12, 2) := by decide +kernel
theorem dX2_readClauses_5 : decode cX2_readClauses 5 = .ok (.if_icmp .ge 38, 3) := by decide +kernel
theorem dX2_readClauses_8 : decode cX2_readClauses 8 = .ok (.aload_n 0, 1) := by decide +kernel
theorem dX2_readClauses_9 : decode cX2_readClauses 9 = .ok (.invokevirtual 74, 3) := by decide +kernel
theorem dX2_readClauses_12 : decode cX2_readClauses 12 = .ok (.ifCond .ne 5, 3) := by decide +kernel
theorem dX2_readClauses_15 : decode cX2_readClauses 15 = .ok (.iconst 0, 1) := by decide +kernel
theorem dX2_readClauses_16 : decode cX2_readClauses 16 = .ok (.ireturn, 1) := by decide +kernel
set_option maxRecDepth 20000 in
theorem ggX2_readClause_X2_passWord : GoodIn wsX2_readClause wsX2_passWord := goodIn_r _ [7, 8, 9, 10, 6, 11, 12, 13, 14, 15, 16, 17, 18, 19, 20, 21, 22, 23, 24, 25, 26, 27, 28, 29, 30, 31, 32, 33, 34, 35, 36, 37, 38, 39, 40, 41, 42, 43, 44, 45, 46, 47, 48, 49, 50, 51, 52, 53, 54, 55, 56, 57, 58, 59, 60, 61, 62, 63, 64, 65, 66, 67, 68, 69, 1, 70, 71, 72, 73, 74, 75, 76, 77, 78, 79, 80, 165, 166, 167, 168, 169, 170, 171, 172, 173, 174, 175, 176, 177, 178, 179, 180] (by decide +kernel) (by decide +kernel)
set_option maxRecDepth 20000 in
theorem gX2_readClause_X2_passWord : GoodIn wsX2_readClause (wsV RX2 86 RX2 yX2_passWord wsX2_passWord) := goodIn_app (goodIn_of _ (by decide +kernel)) ggX2_readClause_X2_passWord
theorem dX2_readClause_0 : decode cX2_readClause 0 = .ok (.aload_n 0, 1) := by decide +kernel
theorem dX2_readClause_1 : decode cX2_readClause 1 = .ok (.ldc 84, 2) := by decide +kernel
theorem dX2_readClause_3 : decode cX2_readClause 3 = .ok (.invokevirtual 86, 3) := by decide +kernel
theorem dX2_readClause_6 : decode cX2_readClause 6 = .ok (.ifCond .eq 8, 3) := by decide +kernel
theorem dX2_readClause_14 : decode cX2_readClause 14 = .ok (.aload_n 0, 1) := by decide +kernel
theorem dX2_readClause_15 : decode cX2_readClause 15 = .ok (.ldc 93, 2) := by decide +kernel
theorem dX2_readClause_17 : decode cX2_readClause 17 = .ok (.invokevirtual 86, 3) := by decide +kernel
theorem dX2_readClause_20 : decode cX2_readClause 20 = .ok (.ifCond .eq 28, 3) := by decide +kernel
theorem dX2_readClause_48 : decode cX2_readClause 48 = .ok (.aload_n 0, 1) := by decide +kernel
theorem dX2_readClause_49 : decode cX2_readClause 49 = .ok (.ldc 102, 2) := by decide +kernel
theorem dX2_readClause_51 : decode cX2_readClause 51 = .ok (.invokevirtual 86, 3) := by decide +kernel
theorem dX2_readClause_54 : decode cX2_readClause 54 = .ok (.ifCond .eq 10, 3) := by decide +kernel
theorem dX2_readClause_64 : decode cX2_readClause 64 = .ok (.aload_n 0, 1) := by decide +kernel
theorem dX2_readClause_65 : decode cX2_readClause 65 = .ok (.ldc 108, 2) := by decide +kernel
theorem dX2_readClause_67 : decode cX2_readClause 67 = .ok (.invokevirtual 86, 3) := by decide +kernel
theorem dX2_readClause_70 : decode cX2_readClause 70 = .ok (.ifCond .eq 16, 3) := by decide +kernel
theorem dX2_readClause_86 : decode cX2_readClause 86 = .ok (.iconst 0, 1) := by decide +kernel
theorem dX2_readClause_87 : decode cX2_readClause 87 = .ok (.ireturn, 1) := by decide +kernel
set_option maxRecDepth 20000 in
theorem ggX2_passWord_X2_isWord : GoodIn wsX2_passWord wsX2_isWord := goodIn_r _ [5, 6, 7, 8, 9, 10, 11, 12, 13, 14, 15, 16, 17, 18, 19, 20, 21, 22, 23, 24, 25, 26, 27, 28, 29, 30, 31, 32, 33, 34, 35, 36, 37, 38, 39, 40, 41, 42, 43, 44, 45, 46, 47, 48, 49, 50, 51, 52, 53, 54, 55, 56, 57, 58, 76, 77, 78, 79, 80, 81, 82, 83, 84, 85, 86, 87, 88, 89, 90, 91] (by decide +kernel) (by decide +kernel)
set_option maxRecDepth 20000 in
theorem gX2_passWord_X2_isWord : GoodIn wsX2_passWord (wsV RX2 169 RX2 yX2_isWord wsX2_isWord) := goodIn_app (goodIn_of _ (by decide +kernel)) ggX2_passWord_X2_isWord
theorem dX2_passWord_0 : decode cX2_passWord 0 = .ok (.aload_n 0, 1) := by decide +kernel
theorem dX2_passWord_1 : decode cX2_passWord 1 = .ok (.aload_n 1, 1) := by decide +kernel
theorem dX2_passWord_2 : decode cX2_passWord 2 = .ok (.invokevirtual 169, 3) := by decide +kernel
theorem dX2_passWord_5 : decode cX2_passWord 5 = .ok (.istore_n 2, 1) := by decide +kernel
theorem dX2_passWord_6 : decode cX2_passWord 6 = .ok (.iload_n 2, 1) := by decide +kernel
theorem dX2_passWord_7 : decode cX2_passWord 7 = .ok (.ifCond .eq 7, 3) := by decide +kernel
theorem dX2_passWord_14 : decode cX2_passWord 14 = .ok (.iload_n 2, 1) := by decide +kernel
theorem dX2_passWord_15 : decode cX2_passWord 15 = .ok (.ireturn, 1) := by decide +kernel
theorem dX2_isWord_0 : decode cX2_isWord 0 = .ok (.aload_n 0, 1) := by decide +kernel
theorem dX2_isWord_1 : decode cX2_isWord 1 = .ok (.getfield 77, 3) := by decide +kernel
theorem dX2_isWord_4 : decode cX2_isWord 4 = .ok (.iconst 1, 1) := by decide +kernel
theorem dX2_isWord_5 : decode cX2_isWord 5 = .ok (.if_icmp .ne 19, 3) := by decide +kernel
theorem dX2_isWord_24 : decode cX2_isWord 24 = .ok (.iconst 0, 1) := by decide +kernel
theorem dX2_isWord_25 : decode cX2_isWord 25 = .ok (.ireturn, 1) := by decide +kernel
theorem dX2_advance_0 : decode cX2_advance 0 = .ok (.aload_n 0, 1) := by decide +kernel
theorem dX2_advance_1 : decode cX2_advance 1 = .ok (.aload_n 0, 1) := by decide +kernel
theorem dX2_advance_2 : decode cX2_advance 2 = .ok (.getfield 29, 3) := by decide +kernel
theorem dX2_advance_5 : decode cX2_advance 5 = .ok (.putfield 60, 3) := by decide +kernel
theorem dX2_advance_8 : decode cX2_advance 8 = .ok (.aload_n 0, 1) := by decide +kernel
theorem dX2_advance_9 : decode cX2_advance 9 = .ok (.getfield 60, 3) := by decide +kernel
theorem dX2_advance_12 : decode cX2_advance 12 = .ok (.aload_n 0, 1) := by decide +kernel
theorem dX2_advance_13 : decode cX2_advance 13 = .ok (.getfield 26, 3) := by decide +kernel
theorem dX2_advance_16 : decode cX2_advance 16 = .ok (.if_icmp .ge 30, 3) := by decide +kernel
theorem dX2_advance_46 : decode cX2_advance 46 = .ok (.aload_n 0, 1) := by decide +kernel
theorem dX2_advance_47 : decode cX2_advance 47 = .ok (.aload_n 0, 1) := by decide +kernel
theorem dX2_advance_48 : decode cX2_advance 48 = .ok (.getfield 60, 3) := by decide +kernel
theorem dX2_advance_51 : decode cX2_advance 51 = .ok (.putfield 29, 3) := by decide +kernel
theorem dX2_advance_54 : decode cX2_advance 54 = .ok (.aload_n 0, 1) := by decide +kernel
theorem dX2_advance_55 : decode cX2_advance 55 = .ok (.getfield 60, 3) := by decide +kernel
theorem dX2_advance_58 : decode cX2_advance 58 = .ok (.aload_n 0, 1) := by decide +kernel
theorem dX2_advance_59 : decode cX2_advance 59 = .ok (.getfield 26, 3) := by decide +kernel
theorem dX2_advance_62 : decode cX2_advance 62 = .ok (.if_icmp .lt 11, 3) := by decide +kernel
theorem dX2_advance_65 : decode cX2_advance 65 = .ok (.aload_n 0, 1) := by decide +kernel
theorem dX2_advance_66 : decode cX2_advance 66 = .ok (.iconst 0, 1) := by decide +kernel
theorem dX2_advance_67 : decode cX2_advance 67 = .ok (.putfield 77, 3) := by decide +kernel
theorem dX2_advance_70 : decode cX2_advance 70 = .ok (.goto 170, 3) := by decide +kernel
theorem dX2_advance_240 : decode cX2_advance 240 = .ok (.return_, 1) := by decide +kernel
set_option maxRecDepth 20000 in
theorem ggX4_addRow_J7_fill_bad5a : GoodIn wsX4_addRow wsJ7_fill_bad5a := goodIn_r _ [7, 8, 9, 6, 10] (by decide +kernel) (by decide +kernel)
set_option maxRecDepth 20000 in
theorem gX4_addRow_J7_fill_bad5a : GoodIn wsX4_addRow (va_wsS RX4 28 yJ7_fill_bad5a wsJ7_fill_bad5a) := goodIn_app (goodIn_of _ (by decide +kernel)) ggX4_addRow_J7_fill_bad5a
theorem dX4_addRow_0 : decode cX4_addRow 0 = .ok (.aload_n 0, 1) := by decide +kernel
theorem dX4_addRow_1 : decode cX4_addRow 1 = .ok (.getfield 25, 3) := by decide +kernel
theorem dX4_addRow_4 : decode cX4_addRow 4 = .ok (.aload_n 0, 1) := by decide +kernel
theorem dX4_addRow_5 : decode cX4_addRow 5 = .ok (.getfield 15, 3) := by decide +kernel
theorem dX4_addRow_8 : decode cX4_addRow 8 = .ok (.imul, 1) := by decide +kernel
theorem dX4_addRow_9 : decode cX4_addRow 9 = .ok (.istore_n 1, 1) := by decide +kernel
theorem dX4_addRow_10 : decode cX4_addRow 10 = .ok (.iload_n 1, 1) := by decide +kernel
theorem dX4_addRow_11 : decode cX4_addRow 11 = .ok (.aload_n 0, 1) := by decide +kernel
theorem dX4_addRow_12 : decode cX4_addRow 12 = .ok (.getfield 15, 3) := by decide +kernel
theorem dX4_addRow_15 : decode cX4_addRow 15 = .ok (.iadd, 1) := by decide +kernel
theorem dX4_addRow_16 : decode cX4_addRow 16 = .ok (.aload_n 0, 1) := by decide +kernel
theorem dX4_addRow_17 : decode cX4_addRow 17 = .ok (.getfield 21, 3) := by decide +kernel
theorem dX4_addRow_20 : decode cX4_addRow 20 = .ok (.arraylength, 1) := by decide +kernel
theorem dX4_addRow_21 : decode cX4_addRow 21 = .ok (.if_icmp .le 5, 3) := by decide +kernel
theorem dX4_addRow_26 : decode cX4_addRow 26 = .ok (.aload_n 0, 1) := by decide +kernel
theorem dX4_addRow_27 : decode cX4_addRow 27 = .ok (.getfield 21, 3) := by decide +kernel
theorem dX4_addRow_30 : decode cX4_addRow 30 = .ok (.iload_n 1, 1) := by decide +kernel
theorem dX4_addRow_31 : decode cX4_addRow 31 = .ok (.iload_n 1, 1) := by decide +kernel
theorem dX4_addRow_32 : decode cX4_addRow 32 = .ok (.aload_n 0, 1) := by decide +kernel
theorem dX4_addRow_33 : decode cX4_addRow 33 = .ok (.getfield 15, 3) := by decide +kernel
theorem dX4_addRow_36 : decode cX4_addRow 36 = .ok (.iadd, 1) := by decide +kernel
theorem dX4_addRow_37 : decode cX4_addRow 37 = .ok (.lconst 0, 1) := by decide +kernel
theorem dX4_addRow_38 : decode cX4_addRow 38 = .ok (.invokestatic 28, 3) := by decide +kernel
theorem dX4_addRow_41 : decode cX4_addRow 41 = .ok (.aload_n 0, 1) := by decide +kernel
theorem dX4_addRow_42 : decode cX4_addRow 42 = .ok (.dup, 1) := by decide +kernel
theorem dX4_addRow_43 : decode cX4_addRow 43 = .ok (.getfield 25, 3) := by decide +kernel
theorem dX4_addRow_46 : decode cX4_addRow 46 = .ok (.dup_x1, 1) := by decide +kernel
theorem dX4_addRow_47 : decode cX4_addRow 47 = .ok (.iconst 1, 1) := by decide +kernel
theorem dX4_addRow_48 : decode cX4_addRow 48 = .ok (.iadd, 1) := by decide +kernel
theorem dX4_addRow_49 : decode cX4_addRow 49 = .ok (.putfield 25, 3) := by decide +kernel
theorem dX4_addRow_52 : decode cX4_addRow 52 = .ok (.ireturn, 1) := by decide +kernel
set_option maxRecDepth 20000 in
theorem ggX4_set_X4_has : GoodIn wsX4_set wsX4_has := goodIn_r _ [7, 8, 9, 10, 11] (by decide +kernel) (by decide +kernel)
set_option maxRecDepth 20000 in
theorem gX4_set_X4_has : GoodIn wsX4_set (wsV RX4 38 RX4 yX4_has wsX4_has) := goodIn_app (goodIn_of _ (by decide +kernel)) ggX4_set_X4_has
theorem dX4_set_0 : decode cX4_set 0 = .ok (.aload_n 0, 1) := by decide +kernel
theorem dX4_set_1 : decode cX4_set 1 = .ok (.iload_n 1, 1) := by decide +kernel
theorem dX4_set_2 : decode cX4_set 2 = .ok (.invokevirtual 38, 3) := by decide +kernel
theorem dX4_set_5 : decode cX4_set 5 = .ok (.ifCond .eq 29, 3) := by decide +kernel
theorem dX4_set_8 : decode cX4_set 8 = .ok (.iload_n 2, 1) := by decide +kernel
theorem dX4_set_9 : decode cX4_set 9 = .ok (.ifCond .lt 25, 3) := by decide +kernel
theorem dX4_set_12 : decode cX4_set 12 = .ok (.iload_n 2, 1) := by decide +kernel
theorem dX4_set_13 : decode cX4_set 13 = .ok (.aload_n 0, 1) := by decide +kernel
theorem dX4_set_14 : decode cX4_set 14 = .ok (.getfield 15, 3) := by decide +kernel
theorem dX4_set_17 : decode cX4_set 17 = .ok (.if_icmp .ge 17, 3) := by decide +kernel
theorem dX4_set_20 : decode cX4_set 20 = .ok (.aload_n 0, 1) := by decide +kernel
theorem dX4_set_21 : decode cX4_set 21 = .ok (.getfield 21, 3) := by decide +kernel
theorem dX4_set_24 : decode cX4_set 24 = .ok (.iload_n 1, 1) := by decide +kernel
theorem dX4_set_25 : decode cX4_set 25 = .ok (.aload_n 0, 1) := by decide +kernel
theorem dX4_set_26 : decode cX4_set 26 = .ok (.getfield 15, 3) := by decide +kernel
theorem dX4_set_29 : decode cX4_set 29 = .ok (.imul, 1) := by decide +kernel
theorem dX4_set_30 : decode cX4_set 30 = .ok (.iload_n 2, 1) := by decide +kernel
theorem dX4_set_31 : decode cX4_set 31 = .ok (.iadd, 1) := by decide +kernel
theorem dX4_set_32 : decode cX4_set 32 = .ok (.lload_n 3, 1) := by decide +kernel
theorem dX4_set_33 : decode cX4_set 33 = .ok (.lastore, 1) := by decide +kernel
theorem dX4_set_34 : decode cX4_set 34 = .ok (.return_, 1) := by decide +kernel
theorem dX6_add_0 : decode cX6_add 0 = .ok (.aload_n 0, 1) := by decide +kernel
theorem dX6_add_1 : decode cX6_add 1 = .ok (.getfield 27, 3) := by decide +kernel
theorem dX6_add_4 : decode cX6_add 4 = .ok (.aload_n 0, 1) := by decide +kernel
theorem dX6_add_5 : decode cX6_add 5 = .ok (.getfield 15, 3) := by decide +kernel
theorem dX6_add_8 : decode cX6_add 8 = .ok (.arraylength, 1) := by decide +kernel
theorem dX6_add_9 : decode cX6_add 9 = .ok (.if_icmp .lt 5, 3) := by decide +kernel
theorem dX6_add_14 : decode cX6_add 14 = .ok (.aload_n 0, 1) := by decide +kernel
theorem dX6_add_15 : decode cX6_add 15 = .ok (.getfield 27, 3) := by decide +kernel
theorem dX6_add_18 : decode cX6_add 18 = .ok (.istore 4, 2) := by decide +kernel
theorem dX6_add_20 : decode cX6_add 20 = .ok (.iload 4, 2) := by decide +kernel
theorem dX6_add_22 : decode cX6_add 22 = .ok (.ifCond .le 70, 3) := by decide +kernel
theorem dX6_add_92 : decode cX6_add 92 = .ok (.aload_n 0, 1) := by decide +kernel
theorem dX6_add_93 : decode cX6_add 93 = .ok (.getfield 15, 3) := by decide +kernel
theorem dX6_add_96 : decode cX6_add 96 = .ok (.iload 4, 2) := by decide +kernel
theorem dX6_add_98 : decode cX6_add 98 = .ok (.iload_n 1, 1) := by decide +kernel
theorem dX6_add_99 : decode cX6_add 99 = .ok (.iastore, 1) := by decide +kernel
theorem dX6_add_100 : decode cX6_add 100 = .ok (.aload_n 0, 1) := by decide +kernel
theorem dX6_add_101 : decode cX6_add 101 = .ok (.getfield 21, 3) := by decide +kernel
theorem dX6_add_104 : decode cX6_add 104 = .ok (.iload 4, 2) := by decide +kernel
theorem dX6_add_106 : decode cX6_add 106 = .ok (.iload_n 2, 1) := by decide +kernel
theorem dX6_add_107 : decode cX6_add 107 = .ok (.iastore, 1) := by decide +kernel
theorem dX6_add_108 : decode cX6_add 108 = .ok (.aload_n 0, 1) := by decide +kernel
theorem dX6_add_109 : decode cX6_add 109 = .ok (.getfield 24, 3) := by decide +kernel
theorem dX6_add_112 : decode cX6_add 112 = .ok (.iload 4, 2) := by decide +kernel
theorem dX6_add_114 : decode cX6_add 114 = .ok (.iload_n 3, 1) := by decide +kernel
theorem dX6_add_115 : decode cX6_add 115 = .ok (.iastore, 1) := by decide +kernel
theorem dX6_add_116 : decode cX6_add 116 = .ok (.aload_n 0, 1) := by decide +kernel
theorem dX6_add_117 : decode cX6_add 117 = .ok (.dup, 1) := by decide +kernel
theorem dX6_add_118 : decode cX6_add 118 = .ok (.getfield 27, 3) := by decide +kernel
theorem dX6_add_121 : decode cX6_add 121 = .ok (.iconst 1, 1) := by decide +kernel
theorem dX6_add_122 : decode cX6_add 122 = .ok (.iadd, 1) := by decide +kernel
theorem dX6_add_123 : decode cX6_add 123 = .ok (.putfield 27, 3) := by decide +kernel
theorem dX6_add_126 : decode cX6_add 126 = .ok (.aload_n 0, 1) := by decide +kernel
theorem dX6_add_127 : decode cX6_add 127 = .ok (.getfield 27, 3) := by decide +kernel
theorem dX6_add_130 : decode cX6_add 130 = .ok (.ireturn, 1) := by decide +kernel
set_option maxRecDepth 20000 in
theorem ggX8_begin_J7_fill_53178 : GoodIn wsX8_begin wsJ7_fill_53178 := goodIn_r _ [14] (by decide +kernel) (by decide +kernel)
set_option maxRecDepth 20000 in
theorem gX8_begin_J7_fill_53178 : GoodIn wsX8_begin (va_wsS RX8 40 yJ7_fill_53178 wsJ7_fill_53178) := goodIn_app (goodIn_of _ (by decide +kernel)) ggX8_begin_J7_fill_53178
theorem dX8_begin_0 : decode cX8_begin 0 = .ok (.aload_n 0, 1) := by decide +kernel
theorem dX8_begin_1 : decode cX8_begin 1 = .ok (.iload_n 1, 1) := by decide +kernel
theorem dX8_begin_2 : decode cX8_begin 2 = .ok (.putfield 22, 3) := by decide +kernel
theorem dX8_begin_5 : decode cX8_begin 5 = .ok (.aload_n 0, 1) := by decide +kernel
theorem dX8_begin_6 : decode cX8_begin 6 = .ok (.iload_n 2, 1) := by decide +kernel
theorem dX8_begin_7 : decode cX8_begin 7 = .ok (.putfield 25, 3) := by decide +kernel
theorem dX8_begin_10 : decode cX8_begin 10 = .ok (.aload_n 0, 1) := by decide +kernel
theorem dX8_begin_11 : decode cX8_begin 11 = .ok (.iconst 1, 1) := by decide +kernel
theorem dX8_begin_12 : decode cX8_begin 12 = .ok (.iload_n 3, 1) := by decide +kernel
theorem dX8_begin_13 : decode cX8_begin 13 = .ok (.invokestatic 28, 3) := by decide +kernel
theorem dX8_begin_16 : decode cX8_begin 16 = .ok (.putfield 9, 3) := by decide +kernel
theorem dX8_begin_19 : decode cX8_begin 19 = .ok (.aload_n 0, 1) := by decide +kernel
theorem dX8_begin_20 : decode cX8_begin 20 = .ok (.iload 4, 2) := by decide +kernel
theorem dX8_begin_22 : decode cX8_begin 22 = .ok (.putfield 34, 3) := by decide +kernel
theorem dX8_begin_25 : decode cX8_begin 25 = .ok (.aload_n 0, 1) := by decide +kernel
theorem dX8_begin_26 : decode cX8_begin 26 = .ok (.sipush 1000, 3) := by decide +kernel
theorem dX8_begin_29 : decode cX8_begin 29 = .ok (.putfield 37, 3) := by decide +kernel
theorem dX8_begin_32 : decode cX8_begin 32 = .ok (.aload_n 0, 1) := by decide +kernel
theorem dX8_begin_33 : decode cX8_begin 33 = .ok (.getfield 15, 3) := by decide +kernel
theorem dX8_begin_36 : decode cX8_begin 36 = .ok (.iconst 0, 1) := by decide +kernel
theorem dX8_begin_37 : decode cX8_begin 37 = .ok (.invokestatic 40, 3) := by decide +kernel
theorem dX8_begin_40 : decode cX8_begin 40 = .ok (.return_, 1) := by decide +kernel
set_option maxRecDepth 20000 in
theorem ggX9_passHour_X11_isHour : GoodIn wsX9_passHour wsX11_isHour := goodIn_r _ [7, 8, 9, 6, 10] (by decide +kernel) (by decide +kernel)
theorem dX9_passHour_0 : decode cX9_passHour 0 = .ok (.aload_n 0, 1) := by decide +kernel
theorem dX9_passHour_1 : decode cX9_passHour 1 = .ok (.getfield 9, 3) := by decide +kernel
theorem dX9_passHour_4 : decode cX9_passHour 4 = .ok (.getfield 15, 3) := by decide +kernel
theorem dX9_passHour_7 : decode cX9_passHour 7 = .ok (.invokestatic 21, 3) := by decide +kernel
theorem dX9_passHour_10 : decode cX9_passHour 10 = .ok (.ifCond .ne 4, 3) := by decide +kernel
theorem dX9_passHour_14 : decode cX9_passHour 14 = .ok (.aload_n 0, 1) := by decide +kernel
theorem dX9_passHour_15 : decode cX9_passHour 15 = .ok (.aload_n 0, 1) := by decide +kernel
theorem dX9_passHour_16 : decode cX9_passHour 16 = .ok (.getfield 9, 3) := by decide +kernel
theorem dX9_passHour_19 : decode cX9_passHour 19 = .ok (.getfield 15, 3) := by decide +kernel
theorem dX9_passHour_22 : decode cX9_passHour 22 = .ok (.putfield 25, 3) := by decide +kernel
theorem dX9_passHour_25 : decode cX9_passHour 25 = .ok (.aload_n 0, 1) := by decide +kernel
theorem dX9_passHour_26 : decode cX9_passHour 26 = .ok (.aload_n 0, 1) := by decide +kernel
theorem dX9_passHour_27 : decode cX9_passHour 27 = .ok (.getfield 9, 3) := by decide +kernel
theorem dX9_passHour_30 : decode cX9_passHour 30 = .ok (.getfield 28, 3) := by decide +kernel
theorem dX9_passHour_33 : decode cX9_passHour 33 = .ok (.aload_n 0, 1) := by decide +kernel
theorem dX9_passHour_34 : decode cX9_passHour 34 = .ok (.getfield 25, 3) := by decide +kernel
theorem dX9_passHour_37 : decode cX9_passHour 37 = .ok (.bipush 24, 2) := by decide +kernel
theorem dX9_passHour_39 : decode cX9_passHour 39 = .ok (.idiv, 1) := by decide +kernel
theorem dX9_passHour_40 : decode cX9_passHour 40 = .ok (.iaload, 1) := by decide +kernel
theorem dX9_passHour_41 : decode cX9_passHour 41 = .ok (.putfield 32, 3) := by decide +kernel
theorem dX9_passHour_44 : decode cX9_passHour 44 = .ok (.aload_n 0, 1) := by decide +kernel
theorem dX9_passHour_45 : decode cX9_passHour 45 = .ok (.iconst 0, 1) := by decide +kernel
theorem dX9_passHour_46 : decode cX9_passHour 46 = .ok (.putfield 35, 3) := by decide +kernel
theorem dX9_passHour_49 : decode cX9_passHour 49 = .ok (.iconst 0, 1) := by decide +kernel
theorem dX9_passHour_50 : decode cX9_passHour 50 = .ok (.istore_n 1, 1) := by decide +kernel
theorem dX9_passHour_51 : decode cX9_passHour 51 = .ok (.iload_n 1, 1) := by decide +kernel
theorem dX9_passHour_52 : decode cX9_passHour 52 = .ok (.aload_n 0, 1) := by decide +kernel
theorem dX9_passHour_53 : decode cX9_passHour 53 = .ok (.getfield 9, 3) := by decide +kernel
theorem dX9_passHour_56 : decode cX9_passHour 56 = .ok (.getfield 39, 3) := by decide +kernel
theorem dX9_passHour_59 : decode cX9_passHour 59 = .ok (.if_icmp .ge 14, 3) := by decide +kernel
theorem dX9_passHour_73 : decode cX9_passHour 73 = .ok (.aload_n 0, 1) := by decide +kernel
theorem dX9_passHour_74 : decode cX9_passHour 74 = .ok (.getfield 9, 3) := by decide +kernel
theorem dX9_passHour_77 : decode cX9_passHour 77 = .ok (.dup, 1) := by decide +kernel
theorem dX9_passHour_78 : decode cX9_passHour 78 = .ok (.getfield 15, 3) := by decide +kernel
theorem dX9_passHour_81 : decode cX9_passHour 81 = .ok (.iconst 1, 1) := by decide +kernel
theorem dX9_passHour_82 : decode cX9_passHour 82 = .ok (.iadd, 1) := by decide +kernel
theorem dX9_passHour_83 : decode cX9_passHour 83 = .ok (.putfield 15, 3) := by decide +kernel
theorem dX9_passHour_86 : decode cX9_passHour 86 = .ok (.return_, 1) := by decide +kernel
set_option maxRecDepth 20000 in
theorem ggX11_terminal_X11_within : GoodIn wsX11_terminal wsX11_within := goodIn_r _ [6] (by decide +kernel) (by decide +kernel)
set_option maxRecDepth 20000 in
theorem gX11_terminal_X11_within : GoodIn wsX11_terminal (va_wsS RX11 51 yX11_within wsX11_within) := goodIn_app (goodIn_of _ (by decide +kernel)) ggX11_terminal_X11_within
set_option maxRecDepth 20000 in
theorem ggX11_terminal_X11_refuse : GoodIn wsX11_terminal wsX11_refuse := goodIn_r _ [10, 11, 35, 36, 37, 38, 39, 40, 41] (by decide +kernel) (by decide +kernel)
set_option maxRecDepth 20000 in
theorem gX11_terminal_X11_refuse : GoodIn wsX11_terminal (wsV RX11 55 RX11 yX11_refuse wsX11_refuse) := goodIn_app (goodIn_of _ (by decide +kernel)) ggX11_terminal_X11_refuse
set_option maxRecDepth 20000 in
theorem ggX11_terminal_X8_begin : GoodIn wsX11_terminal wsX8_begin := goodIn_r _ [16, 17, 18, 19, 20, 21, 22, 23, 24, 25, 26, 27, 28, 29, 30, 61, 62, 63, 64, 65, 66, 67] (by decide +kernel) (by decide +kernel)
set_option maxRecDepth 20000 in
theorem gX11_terminal_X8_begin : GoodIn wsX11_terminal (wsV RX11 67 RX8 yX8_begin wsX8_begin) := goodIn_app (goodIn_of _ (by decide +kernel)) ggX11_terminal_X8_begin
set_option maxRecDepth 20000 in
theorem ggX11_terminal_X11_accept : GoodIn wsX11_terminal wsX11_accept := goodIn_r _ [34, 11, 35, 36, 37, 38, 39, 40, 41] (by decide +kernel) (by decide +kernel)
set_option maxRecDepth 20000 in
theorem gX11_terminal_X11_accept : GoodIn wsX11_terminal (wsV RX11 73 RX11 yX11_accept wsX11_accept) := goodIn_app (goodIn_of _ (by decide +kernel)) ggX11_terminal_X11_accept
theorem dX11_terminal_0 : decode cX11_terminal 0 = .ok (.iload_n 2, 1) := by decide +kernel
theorem dX11_terminal_1 : decode cX11_terminal 1 = .ok (.iconst 0, 1) := by decide +kernel
theorem dX11_terminal_2 : decode cX11_terminal 2 = .ok (.ldc 50, 2) := by decide +kernel
theorem dX11_terminal_4 : decode cX11_terminal 4 = .ok (.invokestatic 51, 3) := by decide +kernel
theorem dX11_terminal_7 : decode cX11_terminal 7 = .ok (.ifCond .eq 34, 3) := by decide +kernel
theorem dX11_terminal_10 : decode cX11_terminal 10 = .ok (.iload_n 1, 1) := by decide +kernel
theorem dX11_terminal_11 : decode cX11_terminal 11 = .ok (.iconst 0, 1) := by decide +kernel
theorem dX11_terminal_12 : decode cX11_terminal 12 = .ok (.iload_n 2, 1) := by decide +kernel
theorem dX11_terminal_13 : decode cX11_terminal 13 = .ok (.invokestatic 51, 3) := by decide +kernel
theorem dX11_terminal_16 : decode cX11_terminal 16 = .ok (.ifCond .eq 25, 3) := by decide +kernel
theorem dX11_terminal_19 : decode cX11_terminal 19 = .ok (.iload_n 3, 1) := by decide +kernel
theorem dX11_terminal_20 : decode cX11_terminal 20 = .ok (.iconst 1, 1) := by decide +kernel
theorem dX11_terminal_21 : decode cX11_terminal 21 = .ok (.sipush 10000, 3) := by decide +kernel
theorem dX11_terminal_24 : decode cX11_terminal 24 = .ok (.invokestatic 51, 3) := by decide +kernel
theorem dX11_terminal_27 : decode cX11_terminal 27 = .ok (.ifCond .eq 14, 3) := by decide +kernel
theorem dX11_terminal_30 : decode cX11_terminal 30 = .ok (.iload 4, 2) := by decide +kernel
theorem dX11_terminal_32 : decode cX11_terminal 32 = .ok (.iconst 0, 1) := by decide +kernel
theorem dX11_terminal_33 : decode cX11_terminal 33 = .ok (.bipush 30, 2) := by decide +kernel
theorem dX11_terminal_35 : decode cX11_terminal 35 = .ok (.invokestatic 51, 3) := by decide +kernel
theorem dX11_terminal_38 : decode cX11_terminal 38 = .ok (.ifCond .ne 9, 3) := by decide +kernel
theorem dX11_terminal_41 : decode cX11_terminal 41 = .ok (.aload_n 0, 1) := by decide +kernel
theorem dX11_terminal_42 : decode cX11_terminal 42 = .ok (.iconst (-1), 1) := by decide +kernel
theorem dX11_terminal_43 : decode cX11_terminal 43 = .ok (.invokevirtual 55, 3) := by decide +kernel
theorem dX11_terminal_46 : decode cX11_terminal 46 = .ok (.ireturn, 1) := by decide +kernel
theorem dX11_terminal_47 : decode cX11_terminal 47 = .ok (.aload_n 0, 1) := by decide +kernel
theorem dX11_terminal_48 : decode cX11_terminal 48 = .ok (.getfield 10, 3) := by decide +kernel
theorem dX11_terminal_51 : decode cX11_terminal 51 = .ok (.getfield 59, 3) := by decide +kernel
theorem dX11_terminal_54 : decode cX11_terminal 54 = .ok (.bipush 6, 2) := by decide +kernel
theorem dX11_terminal_56 : decode cX11_terminal 56 = .ok (.if_icmp .lt 10, 3) := by decide +kernel
theorem dX11_terminal_66 : decode cX11_terminal 66 = .ok (.aload_n 0, 1) := by decide +kernel
theorem dX11_terminal_67 : decode cX11_terminal 67 = .ok (.getfield 10, 3) := by decide +kernel
theorem dX11_terminal_70 : decode cX11_terminal 70 = .ok (.getfield 59, 3) := by decide +kernel
theorem dX11_terminal_73 : decode cX11_terminal 73 = .ok (.istore 5, 2) := by decide +kernel
theorem dX11_terminal_75 : decode cX11_terminal 75 = .ok (.aload_n 0, 1) := by decide +kernel
theorem dX11_terminal_76 : decode cX11_terminal 76 = .ok (.getfield 10, 3) := by decide +kernel
theorem dX11_terminal_79 : decode cX11_terminal 79 = .ok (.getfield 63, 3) := by decide +kernel
theorem dX11_terminal_82 : decode cX11_terminal 82 = .ok (.iload 5, 2) := by decide +kernel
theorem dX11_terminal_84 : decode cX11_terminal 84 = .ok (.aaload, 1) := by decide +kernel
theorem dX11_terminal_85 : decode cX11_terminal 85 = .ok (.iload_n 1, 1) := by decide +kernel
theorem dX11_terminal_86 : decode cX11_terminal 86 = .ok (.iload_n 2, 1) := by decide +kernel
theorem dX11_terminal_87 : decode cX11_terminal 87 = .ok (.iload_n 3, 1) := by decide +kernel
theorem dX11_terminal_88 : decode cX11_terminal 88 = .ok (.iload 4, 2) := by decide +kernel
theorem dX11_terminal_90 : decode cX11_terminal 90 = .ok (.invokevirtual 67, 3) := by decide +kernel
theorem dX11_terminal_93 : decode cX11_terminal 93 = .ok (.aload_n 0, 1) := by decide +kernel
theorem dX11_terminal_94 : decode cX11_terminal 94 = .ok (.getfield 10, 3) := by decide +kernel
theorem dX11_terminal_97 : decode cX11_terminal 97 = .ok (.dup, 1) := by decide +kernel
theorem dX11_terminal_98 : decode cX11_terminal 98 = .ok (.getfield 59, 3) := by decide +kernel
theorem dX11_terminal_101 : decode cX11_terminal 101 = .ok (.iconst 1, 1) := by decide +kernel
theorem dX11_terminal_102 : decode cX11_terminal 102 = .ok (.iadd, 1) := by decide +kernel
theorem dX11_terminal_103 : decode cX11_terminal 103 = .ok (.putfield 59, 3) := by decide +kernel
theorem dX11_terminal_106 : decode cX11_terminal 106 = .ok (.aload_n 0, 1) := by decide +kernel
theorem dX11_terminal_107 : decode cX11_terminal 107 = .ok (.iload 5, 2) := by decide +kernel
theorem dX11_terminal_109 : decode cX11_terminal 109 = .ok (.invokevirtual 73, 3) := by decide +kernel
theorem dX11_terminal_112 : decode cX11_terminal 112 = .ok (.ireturn, 1) := by decide +kernel
set_option maxRecDepth 20000 in
theorem ggX11_go_X11_within : GoodIn wsX11_go wsX11_within := goodIn_r _ [6] (by decide +kernel) (by decide +kernel)
set_option maxRecDepth 20000 in
theorem gX11_go_X11_within : GoodIn wsX11_go (va_wsS RX11 51 yX11_within wsX11_within) := goodIn_app (goodIn_of _ (by decide +kernel)) ggX11_go_X11_within
set_option maxRecDepth 20000 in
theorem ggX11_go_X11_refuse : GoodIn wsX11_go wsX11_refuse := goodIn_r _ [10, 11, 209, 210, 211, 212, 213, 214, 215] (by decide +kernel) (by decide +kernel)
set_option maxRecDepth 20000 in
theorem gX11_go_X11_refuse : GoodIn wsX11_go (wsV RX11 55 RX11 yX11_refuse wsX11_refuse) := goodIn_app (goodIn_of _ (by decide +kernel)) ggX11_go_X11_refuse
set_option maxRecDepth 20000 in
theorem ggX11_go_X9_passHour : GoodIn wsX11_go wsX9_passHour := goodIn_r _ [16, 17, 18, 19, 20, 21, 5, 22, 3, 4, 6, 23, 24, 25, 15, 26, 27, 28, 29, 30, 31, 32, 33, 34, 35, 36, 37, 38, 39, 40, 41, 42, 43, 44, 45, 46, 47, 48, 49, 50, 51, 52, 53, 54, 55, 56, 57, 58, 59, 60, 61, 62, 63, 64, 65, 66, 67, 68, 69, 70, 71, 72, 73, 74, 75, 76, 77, 78, 79, 80, 81, 82, 83, 84, 85, 86, 87, 88, 89, 90, 91, 92, 93, 94, 95, 96, 97, 98, 99, 100, 101, 102, 103, 104, 105, 106, 107, 108, 109, 110, 111, 112, 113, 114, 115, 116, 117, 118, 119, 120, 121, 122, 123, 124, 125, 126, 127, 128, 129, 130, 131, 132, 133, 134, 135, 136, 137, 138, 139, 140, 141, 142, 143, 144, 145, 146, 147, 148, 149, 150, 151, 152, 153, 154, 155, 156, 157, 158, 159, 160, 161, 162, 163, 164, 165, 166, 167, 168, 169, 170, 171, 172, 173, 174, 175, 176, 177, 178, 179, 180, 181, 182, 183, 184, 185, 186, 187, 188, 189, 190, 191, 192, 193, 194, 195, 196, 197, 198, 199, 200, 201, 202, 203, 204, 235, 236, 237, 238, 216, 217, 218, 219, 220, 221, 222, 223, 224, 225, 226, 227, 228, 229, 230, 231, 232, 233, 234, 239, 240, 241, 242, 243, 244, 245, 246, 247, 248, 249, 250, 251, 252, 253, 254, 255, 256, 257, 258, 259, 260, 261, 262, 263, 264, 265, 266, 267, 268, 269, 270, 271, 272, 273, 274, 275, 276] (by decide +kernel) (by decide +kernel)
set_option maxRecDepth 20000 in
theorem gX11_go_X9_passHour : GoodIn wsX11_go (wsV RX11 157 RX9 yX9_passHour wsX9_passHour) := goodIn_app (goodIn_of _ (by decide +kernel)) ggX11_go_X9_passHour
set_option maxRecDepth 20000 in
theorem ggX11_go_X11_accept : GoodIn wsX11_go wsX11_accept := goodIn_r _ [208, 11, 209, 210, 211, 212, 213, 214, 215] (by decide +kernel) (by decide +kernel)
set_option maxRecDepth 20000 in
theorem gX11_go_X11_accept : GoodIn wsX11_go (wsV RX11 73 RX11 yX11_accept wsX11_accept) := goodIn_app (goodIn_of _ (by decide +kernel)) ggX11_go_X11_accept
theorem dX11_go_0 : decode cX11_go 0 = .ok (.iload_n 1, 1) := by decide +kernel
theorem dX11_go_1 : decode cX11_go 1 = .ok (.iconst 1, 1) := by decide +kernel
theorem dX11_go_2 : decode cX11_go 2 = .ok (.sipush 480, 3) := by decide +kernel
theorem dX11_go_5 : decode cX11_go 5 = .ok (.invokestatic 51, 3) := by decide +kernel
theorem dX11_go_8 : decode cX11_go 8 = .ok (.ifCond .eq 18, 3) := by decide +kernel
theorem dX11_go_11 : decode cX11_go 11 = .ok (.aload_n 0, 1) := by decide +kernel
theorem dX11_go_12 : decode cX11_go 12 = .ok (.getfield 10, 3) := by decide +kernel
theorem dX11_go_15 : decode cX11_go 15 = .ok (.getfield 154, 3) := by decide +kernel
theorem dX11_go_18 : decode cX11_go 18 = .ok (.iload_n 1, 1) := by decide +kernel
theorem dX11_go_19 : decode cX11_go 19 = .ok (.iadd, 1) := by decide +kernel
theorem dX11_go_20 : decode cX11_go 20 = .ok (.sipush 2399, 3) := by decide +kernel
theorem dX11_go_23 : decode cX11_go 23 = .ok (.if_icmp .le 9, 3) := by decide +kernel
theorem dX11_go_26 : decode cX11_go 26 = .ok (.aload_n 0, 1) := by decide +kernel
theorem dX11_go_27 : decode cX11_go 27 = .ok (.iconst (-1), 1) := by decide +kernel
theorem dX11_go_28 : decode cX11_go 28 = .ok (.invokevirtual 55, 3) := by decide +kernel
theorem dX11_go_31 : decode cX11_go 31 = .ok (.ireturn, 1) := by decide +kernel
theorem dX11_go_32 : decode cX11_go 32 = .ok (.iconst 0, 1) := by decide +kernel
theorem dX11_go_33 : decode cX11_go 33 = .ok (.istore_n 2, 1) := by decide +kernel
theorem dX11_go_34 : decode cX11_go 34 = .ok (.iload_n 2, 1) := by decide +kernel
theorem dX11_go_35 : decode cX11_go 35 = .ok (.iload_n 1, 1) := by decide +kernel
theorem dX11_go_36 : decode cX11_go 36 = .ok (.if_icmp .ge 16, 3) := by decide +kernel
theorem dX11_go_39 : decode cX11_go 39 = .ok (.aload_n 0, 1) := by decide +kernel
theorem dX11_go_40 : decode cX11_go 40 = .ok (.getfield 25, 3) := by decide +kernel
theorem dX11_go_43 : decode cX11_go 43 = .ok (.invokevirtual 157, 3) := by decide +kernel
theorem dX11_go_46 : decode cX11_go 46 = .ok (.iinc 2 1, 3) := by decide +kernel
theorem dX11_go_49 : decode cX11_go 49 = .ok (.goto (-15), 3) := by decide +kernel
theorem dX11_go_52 : decode cX11_go 52 = .ok (.aload_n 0, 1) := by decide +kernel
theorem dX11_go_53 : decode cX11_go 53 = .ok (.aload_n 0, 1) := by decide +kernel
theorem dX11_go_54 : decode cX11_go 54 = .ok (.getfield 10, 3) := by decide +kernel
theorem dX11_go_57 : decode cX11_go 57 = .ok (.getfield 154, 3) := by decide +kernel
theorem dX11_go_60 : decode cX11_go 60 = .ok (.invokevirtual 73, 3) := by decide +kernel
theorem dX11_go_63 : decode cX11_go 63 = .ok (.ireturn, 1) := by decide +kernel
set_option maxRecDepth 20000 in
theorem ggX11_price_X11_within : GoodIn wsX11_price wsX11_within := goodIn_r _ [5] (by decide +kernel) (by decide +kernel)
set_option maxRecDepth 20000 in
theorem gX11_price_X11_within : GoodIn wsX11_price (va_wsS RX11 51 yX11_within wsX11_within) := goodIn_app (goodIn_of _ (by decide +kernel)) ggX11_price_X11_within
set_option maxRecDepth 20000 in
theorem ggX11_price_X11_isHour : GoodIn wsX11_price wsX11_isHour := goodIn_r _ [8, 2, 3, 4, 5] (by decide +kernel) (by decide +kernel)
set_option maxRecDepth 20000 in
theorem gX11_price_X11_isHour : GoodIn wsX11_price (va_wsS RX11 229 yX11_isHour wsX11_isHour) := goodIn_app (goodIn_of _ (by decide +kernel)) ggX11_price_X11_isHour
set_option maxRecDepth 20000 in
theorem ggX11_price_X11_refuse : GoodIn wsX11_price wsX11_refuse := goodIn_r _ [12, 13, 41, 42, 43, 44, 45, 46, 47] (by decide +kernel) (by decide +kernel)
set_option maxRecDepth 20000 in
theorem gX11_price_X11_refuse : GoodIn wsX11_price (wsV RX11 55 RX11 yX11_refuse wsX11_refuse) := goodIn_app (goodIn_of _ (by decide +kernel)) ggX11_price_X11_refuse
set_option maxRecDepth 20000 in
theorem ggX11_price_X4_addRow : GoodIn wsX11_price wsX4_addRow := goodIn_r _ [18, 19, 20, 21, 22, 23, 24, 25, 26, 27, 28, 67, 68, 69] (by decide +kernel) (by decide +kernel)
set_option maxRecDepth 20000 in
theorem gX11_price_X4_addRow : GoodIn wsX11_price (wsV RX11 235 RX4 yX4_addRow wsX4_addRow) := goodIn_app (goodIn_of _ (by decide +kernel)) ggX11_price_X4_addRow
set_option maxRecDepth 20000 in
theorem ggX11_price_X4_set : GoodIn wsX11_price wsX4_set := goodIn_r _ [32, 20, 21, 33, 34, 35, 17, 36, 19, 67, 68, 69] (by decide +kernel) (by decide +kernel)
set_option maxRecDepth 20000 in
theorem gX11_price_X4_set : GoodIn wsX11_price (wsV RX11 238 RX4 yX4_set wsX4_set) := goodIn_app (goodIn_of _ (by decide +kernel)) ggX11_price_X4_set
set_option maxRecDepth 20000 in
theorem ggX11_price_X11_accept : GoodIn wsX11_price wsX11_accept := goodIn_r _ [40, 13, 41, 42, 43, 44, 45, 46, 47] (by decide +kernel) (by decide +kernel)
set_option maxRecDepth 20000 in
theorem gX11_price_X11_accept : GoodIn wsX11_price (wsV RX11 73 RX11 yX11_accept wsX11_accept) := goodIn_app (goodIn_of _ (by decide +kernel)) ggX11_price_X11_accept
theorem dX11_price_0 : decode cX11_price 0 = .ok (.iload_n 1, 1) := by decide +kernel
theorem dX11_price_1 : decode cX11_price 1 = .ok (.iconst 0, 1) := by decide +kernel
theorem dX11_price_2 : decode cX11_price 2 = .ok (.bipush 99, 2) := by decide +kernel
theorem dX11_price_4 : decode cX11_price 4 = .ok (.invokestatic 51, 3) := by decide +kernel
theorem dX11_price_7 : decode cX11_price 7 = .ok (.ifCond .eq 21, 3) := by decide +kernel
theorem dX11_price_10 : decode cX11_price 10 = .ok (.iload_n 2, 1) := by decide +kernel
theorem dX11_price_11 : decode cX11_price 11 = .ok (.iconst 0, 1) := by decide +kernel
theorem dX11_price_12 : decode cX11_price 12 = .ok (.sipush 10000, 3) := by decide +kernel
theorem dX11_price_15 : decode cX11_price 15 = .ok (.invokestatic 51, 3) := by decide +kernel
theorem dX11_price_18 : decode cX11_price 18 = .ok (.ifCond .eq 10, 3) := by decide +kernel
theorem dX11_price_21 : decode cX11_price 21 = .ok (.iload_n 3, 1) := by decide +kernel
theorem dX11_price_22 : decode cX11_price 22 = .ok (.invokestatic 229, 3) := by decide +kernel
theorem dX11_price_25 : decode cX11_price 25 = .ok (.ifCond .ne 9, 3) := by decide +kernel
theorem dX11_price_28 : decode cX11_price 28 = .ok (.aload_n 0, 1) := by decide +kernel
theorem dX11_price_29 : decode cX11_price 29 = .ok (.iconst (-1), 1) := by decide +kernel
theorem dX11_price_30 : decode cX11_price 30 = .ok (.invokevirtual 55, 3) := by decide +kernel
theorem dX11_price_33 : decode cX11_price 33 = .ok (.ireturn, 1) := by decide +kernel
theorem dX11_price_34 : decode cX11_price 34 = .ok (.aload_n 0, 1) := by decide +kernel
theorem dX11_price_35 : decode cX11_price 35 = .ok (.getfield 10, 3) := by decide +kernel
theorem dX11_price_38 : decode cX11_price 38 = .ok (.getfield 232, 3) := by decide +kernel
theorem dX11_price_41 : decode cX11_price 41 = .ok (.invokevirtual 235, 3) := by decide +kernel
theorem dX11_price_44 : decode cX11_price 44 = .ok (.istore 4, 2) := by decide +kernel
theorem dX11_price_46 : decode cX11_price 46 = .ok (.iload 4, 2) := by decide +kernel
theorem dX11_price_48 : decode cX11_price 48 = .ok (.iconst (-1), 1) := by decide +kernel
theorem dX11_price_49 : decode cX11_price 49 = .ok (.if_icmp .ne 10, 3) := by decide +kernel
theorem dX11_price_59 : decode cX11_price 59 = .ok (.aload_n 0, 1) := by decide +kernel
theorem dX11_price_60 : decode cX11_price 60 = .ok (.getfield 10, 3) := by decide +kernel
theorem dX11_price_63 : decode cX11_price 63 = .ok (.getfield 232, 3) := by decide +kernel
theorem dX11_price_66 : decode cX11_price 66 = .ok (.iload 4, 2) := by decide +kernel
theorem dX11_price_68 : decode cX11_price 68 = .ok (.iconst 0, 1) := by decide +kernel
theorem dX11_price_69 : decode cX11_price 69 = .ok (.iload_n 1, 1) := by decide +kernel
theorem dX11_price_70 : decode cX11_price 70 = .ok (.i2l, 1) := by decide +kernel
theorem dX11_price_71 : decode cX11_price 71 = .ok (.invokevirtual 238, 3) := by decide +kernel
theorem dX11_price_74 : decode cX11_price 74 = .ok (.aload_n 0, 1) := by decide +kernel
theorem dX11_price_75 : decode cX11_price 75 = .ok (.getfield 10, 3) := by decide +kernel
theorem dX11_price_78 : decode cX11_price 78 = .ok (.getfield 232, 3) := by decide +kernel
theorem dX11_price_81 : decode cX11_price 81 = .ok (.iload 4, 2) := by decide +kernel
theorem dX11_price_83 : decode cX11_price 83 = .ok (.iconst 1, 1) := by decide +kernel
theorem dX11_price_84 : decode cX11_price 84 = .ok (.iload_n 2, 1) := by decide +kernel
theorem dX11_price_85 : decode cX11_price 85 = .ok (.i2l, 1) := by decide +kernel
theorem dX11_price_86 : decode cX11_price 86 = .ok (.invokevirtual 238, 3) := by decide +kernel
theorem dX11_price_89 : decode cX11_price 89 = .ok (.aload_n 0, 1) := by decide +kernel
theorem dX11_price_90 : decode cX11_price 90 = .ok (.getfield 10, 3) := by decide +kernel
theorem dX11_price_93 : decode cX11_price 93 = .ok (.getfield 232, 3) := by decide +kernel
theorem dX11_price_96 : decode cX11_price 96 = .ok (.iload 4, 2) := by decide +kernel
theorem dX11_price_98 : decode cX11_price 98 = .ok (.iconst 2, 1) := by decide +kernel
theorem dX11_price_99 : decode cX11_price 99 = .ok (.iload_n 3, 1) := by decide +kernel
theorem dX11_price_100 : decode cX11_price 100 = .ok (.i2l, 1) := by decide +kernel
theorem dX11_price_101 : decode cX11_price 101 = .ok (.invokevirtual 238, 3) := by decide +kernel
theorem dX11_price_104 : decode cX11_price 104 = .ok (.aload_n 0, 1) := by decide +kernel
theorem dX11_price_105 : decode cX11_price 105 = .ok (.aload_n 0, 1) := by decide +kernel
theorem dX11_price_106 : decode cX11_price 106 = .ok (.getfield 10, 3) := by decide +kernel
theorem dX11_price_109 : decode cX11_price 109 = .ok (.getfield 232, 3) := by decide +kernel
theorem dX11_price_112 : decode cX11_price 112 = .ok (.getfield 242, 3) := by decide +kernel
theorem dX11_price_115 : decode cX11_price 115 = .ok (.invokevirtual 73, 3) := by decide +kernel
theorem dX11_price_118 : decode cX11_price 118 = .ok (.ireturn, 1) := by decide +kernel
set_option maxRecDepth 20000 in
theorem ggX11_force_X11_isSpan : GoodIn wsX11_force wsX11_isSpan := goodIn_r _ [5, 6, 7, 4, 8, 9, 10, 11] (by decide +kernel) (by decide +kernel)
set_option maxRecDepth 20000 in
theorem gX11_force_X11_isSpan : GoodIn wsX11_force (va_wsS RX11 104 yX11_isSpan wsX11_isSpan) := goodIn_app (goodIn_of _ (by decide +kernel)) ggX11_force_X11_isSpan
set_option maxRecDepth 20000 in
theorem ggX11_force_X11_isHour : GoodIn wsX11_force wsX11_isHour := goodIn_r _ [8, 9, 10, 4, 11] (by decide +kernel) (by decide +kernel)
set_option maxRecDepth 20000 in
theorem gX11_force_X11_isHour : GoodIn wsX11_force (va_wsS RX11 229 yX11_isHour wsX11_isHour) := goodIn_app (goodIn_of _ (by decide +kernel)) ggX11_force_X11_isHour
set_option maxRecDepth 20000 in
theorem ggX11_force_X11_refuse : GoodIn wsX11_force wsX11_refuse := goodIn_r _ [15, 16, 34, 35, 36, 37, 38, 39, 40] (by decide +kernel) (by decide +kernel)
set_option maxRecDepth 20000 in
theorem gX11_force_X11_refuse : GoodIn wsX11_force (wsV RX11 55 RX11 yX11_refuse wsX11_refuse) := goodIn_app (goodIn_of _ (by decide +kernel)) ggX11_force_X11_refuse
set_option maxRecDepth 20000 in
theorem ggX11_force_X6_add : GoodIn wsX11_force wsX6_add := goodIn_r _ [21, 22, 23, 24, 25, 60, 61, 62, 63] (by decide +kernel) (by decide +kernel)
set_option maxRecDepth 20000 in
theorem gX11_force_X6_add : GoodIn wsX11_force (wsV RX11 125 RX6 yX6_add wsX6_add) := goodIn_app (goodIn_of _ (by decide +kernel)) ggX11_force_X6_add
set_option maxRecDepth 20000 in
theorem ggX11_force_X11_acceptOrFull : GoodIn wsX11_force wsX11_acceptOrFull := goodIn_r _ [29, 12, 13, 14, 4, 15, 16, 30, 31, 32, 33, 34, 35, 36, 37, 38, 39, 40] (by decide +kernel) (by decide +kernel)
set_option maxRecDepth 20000 in
theorem gX11_force_X11_acceptOrFull : GoodIn wsX11_force (wsV RX11 129 RX11 yX11_acceptOrFull wsX11_acceptOrFull) := goodIn_app (goodIn_of _ (by decide +kernel)) ggX11_force_X11_acceptOrFull
theorem dX11_force_0 : decode cX11_force 0 = .ok (.iload_n 1, 1) := by decide +kernel
theorem dX11_force_1 : decode cX11_force 1 = .ok (.iload_n 2, 1) := by decide +kernel
theorem dX11_force_2 : decode cX11_force 2 = .ok (.invokestatic 104, 3) := by decide +kernel
theorem dX11_force_5 : decode cX11_force 5 = .ok (.ifCond .eq 10, 3) := by decide +kernel
theorem dX11_force_8 : decode cX11_force 8 = .ok (.iload_n 3, 1) := by decide +kernel
theorem dX11_force_9 : decode cX11_force 9 = .ok (.invokestatic 229, 3) := by decide +kernel
theorem dX11_force_12 : decode cX11_force 12 = .ok (.ifCond .ne 9, 3) := by decide +kernel
theorem dX11_force_15 : decode cX11_force 15 = .ok (.aload_n 0, 1) := by decide +kernel
theorem dX11_force_16 : decode cX11_force 16 = .ok (.iconst (-1), 1) := by decide +kernel
theorem dX11_force_17 : decode cX11_force 17 = .ok (.invokevirtual 55, 3) := by decide +kernel
theorem dX11_force_20 : decode cX11_force 20 = .ok (.ireturn, 1) := by decide +kernel
theorem dX11_force_21 : decode cX11_force 21 = .ok (.aload_n 0, 1) := by decide +kernel
theorem dX11_force_22 : decode cX11_force 22 = .ok (.aload_n 0, 1) := by decide +kernel
theorem dX11_force_23 : decode cX11_force 23 = .ok (.getfield 10, 3) := by decide +kernel
theorem dX11_force_26 : decode cX11_force 26 = .ok (.getfield 245, 3) := by decide +kernel
theorem dX11_force_29 : decode cX11_force 29 = .ok (.iload_n 3, 1) := by decide +kernel
theorem dX11_force_30 : decode cX11_force 30 = .ok (.iload_n 1, 1) := by decide +kernel
theorem dX11_force_31 : decode cX11_force 31 = .ok (.iload_n 2, 1) := by decide +kernel
theorem dX11_force_32 : decode cX11_force 32 = .ok (.invokevirtual 125, 3) := by decide +kernel
theorem dX11_force_35 : decode cX11_force 35 = .ok (.invokevirtual 129, 3) := by decide +kernel
theorem dX11_force_38 : decode cX11_force 38 = .ok (.ireturn, 1) := by decide +kernel
set_option maxRecDepth 20000 in
theorem ggX11_feed_X2_hasRoom : GoodIn wsX11_feed wsX2_hasRoom := goodIn_r _ [6, 7, 20, 21, 22, 23, 24, 25, 26, 27, 28, 29, 30, 31, 32, 33, 34, 35] (by decide +kernel) (by decide +kernel)
set_option maxRecDepth 20000 in
theorem gX11_feed_X2_hasRoom : GoodIn wsX11_feed (wsV RX11 252 RX2 yX2_hasRoom wsX2_hasRoom) := goodIn_app (goodIn_of _ (by decide +kernel)) ggX11_feed_X2_hasRoom
set_option maxRecDepth 20000 in
theorem ggX11_feed_X2_addFour : GoodIn wsX11_feed wsX2_addFour := goodIn_r _ [11, 7, 12, 20, 21, 22, 23, 24, 25, 26, 27, 28, 29, 30, 31, 32, 33, 34, 35] (by decide +kernel) (by decide +kernel)
set_option maxRecDepth 20000 in
theorem gX11_feed_X2_addFour : GoodIn wsX11_feed (wsV RX11 256 RX2 yX2_addFour wsX2_addFour) := goodIn_app (goodIn_of _ (by decide +kernel)) ggX11_feed_X2_addFour
theorem dX11_feed_0 : decode cX11_feed 0 = .ok (.aload_n 0, 1) := by decide +kernel
theorem dX11_feed_1 : decode cX11_feed 1 = .ok (.getfield 32, 3) := by decide +kernel
theorem dX11_feed_4 : decode cX11_feed 4 = .ok (.invokevirtual 252, 3) := by decide +kernel
theorem dX11_feed_7 : decode cX11_feed 7 = .ok (.ifCond .ne 5, 3) := by decide +kernel
theorem dX11_feed_12 : decode cX11_feed 12 = .ok (.aload_n 0, 1) := by decide +kernel
theorem dX11_feed_13 : decode cX11_feed 13 = .ok (.getfield 32, 3) := by decide +kernel
theorem dX11_feed_16 : decode cX11_feed 16 = .ok (.iload_n 1, 1) := by decide +kernel
theorem dX11_feed_17 : decode cX11_feed 17 = .ok (.invokevirtual 256, 3) := by decide +kernel
theorem dX11_feed_20 : decode cX11_feed 20 = .ok (.aload_n 0, 1) := by decide +kernel
theorem dX11_feed_21 : decode cX11_feed 21 = .ok (.getfield 32, 3) := by decide +kernel
theorem dX11_feed_24 : decode cX11_feed 24 = .ok (.iload_n 2, 1) := by decide +kernel
theorem dX11_feed_25 : decode cX11_feed 25 = .ok (.invokevirtual 256, 3) := by decide +kernel
theorem dX11_feed_28 : decode cX11_feed 28 = .ok (.aload_n 0, 1) := by decide +kernel
theorem dX11_feed_29 : decode cX11_feed 29 = .ok (.getfield 32, 3) := by decide +kernel
theorem dX11_feed_32 : decode cX11_feed 32 = .ok (.iload_n 3, 1) := by decide +kernel
theorem dX11_feed_33 : decode cX11_feed 33 = .ok (.invokevirtual 256, 3) := by decide +kernel
theorem dX11_feed_36 : decode cX11_feed 36 = .ok (.aload_n 0, 1) := by decide +kernel
theorem dX11_feed_37 : decode cX11_feed 37 = .ok (.getfield 32, 3) := by decide +kernel
theorem dX11_feed_40 : decode cX11_feed 40 = .ok (.iload 4, 2) := by decide +kernel
theorem dX11_feed_42 : decode cX11_feed 42 = .ok (.invokevirtual 256, 3) := by decide +kernel
theorem dX11_feed_45 : decode cX11_feed 45 = .ok (.aload_n 0, 1) := by decide +kernel
theorem dX11_feed_46 : decode cX11_feed 46 = .ok (.getfield 32, 3) := by decide +kernel
theorem dX11_feed_49 : decode cX11_feed 49 = .ok (.iload 5, 2) := by decide +kernel
theorem dX11_feed_51 : decode cX11_feed 51 = .ok (.invokevirtual 256, 3) := by decide +kernel
theorem dX11_feed_54 : decode cX11_feed 54 = .ok (.aload_n 0, 1) := by decide +kernel
theorem dX11_feed_55 : decode cX11_feed 55 = .ok (.getfield 32, 3) := by decide +kernel
theorem dX11_feed_58 : decode cX11_feed 58 = .ok (.getfield 260, 3) := by decide +kernel
theorem dX11_feed_61 : decode cX11_feed 61 = .ok (.ireturn, 1) := by decide +kernel
set_option maxRecDepth 20000 in
theorem ggX11_contract_X2_readTape : GoodIn wsX11_contract wsX2_readTape := goodIn_r _ [7, 8, 9, 10, 11, 12, 13, 14, 15, 16, 17, 18, 19, 20, 21, 22, 23, 24, 25, 6, 26, 27, 28, 29, 30, 31, 32, 33, 34, 35, 36, 37, 38, 39, 40, 41, 42, 43, 44, 45, 46, 47, 48, 49, 50, 51, 52, 53, 54, 55, 56, 57, 58, 59, 60, 61, 62, 63, 64, 65, 66, 67, 68, 69, 70, 71, 72, 73, 74, 75, 76, 77, 78, 79, 80, 81, 82, 83, 84, 85, 86, 87, 88, 89, 90, 91, 92, 93, 94, 95, 96, 97, 98, 99, 100, 101, 102, 103, 104, 105, 106, 107, 108, 109, 110, 111, 112, 113, 114, 115, 116, 117, 118, 119, 120, 121, 122, 123, 124, 125, 126, 127, 128, 129, 130, 131, 132, 133, 134, 135, 136, 137, 138, 139, 140, 141, 142, 143, 144, 145, 146, 147, 148, 149, 150, 151, 152, 153, 154, 155, 156, 157, 158, 159, 160, 161, 162, 163, 164, 165, 166, 167, 168, 169, 170, 171, 172, 173, 174, 175, 176, 177, 178, 179, 180, 181, 182, 183, 184, 185, 186, 187, 188, 189, 190, 191, 192, 193, 194, 195, 196, 197, 198, 199, 200, 201, 202, 203, 204, 205, 206, 207, 208, 209, 249, 250, 251, 252, 253, 254, 255, 256, 257, 258, 259, 260, 261, 262, 263, 264, 265, 266, 267, 268, 269] (by decide +kernel) (by decide +kernel)
set_option maxRecDepth 20000 in
theorem gX11_contract_X2_readTape : GoodIn wsX11_contract (wsV RX11 264 RX2 yX2_readTape wsX2_readTape) := goodIn_app (goodIn_of _ (by decide +kernel)) ggX11_contract_X2_readTape
set_option maxRecDepth 20000 in
theorem ggX11_contract_X2_emptyTape : GoodIn wsX11_contract wsX2_emptyTape := goodIn_r _ [213, 27, 249, 250, 251, 252, 253, 254, 255, 256, 257, 258, 259, 260, 261, 262, 263, 264] (by decide +kernel) (by decide +kernel)
set_option maxRecDepth 20000 in
theorem gX11_contract_X2_emptyTape : GoodIn wsX11_contract (wsV RX11 268 RX2 yX2_emptyTape wsX2_emptyTape) := goodIn_app (goodIn_of _ (by decide +kernel)) ggX11_contract_X2_emptyTape
set_option maxRecDepth 20000 in
theorem ggX11_contract_X11_refuse : GoodIn wsX11_contract wsX11_refuse := goodIn_r _ [217, 218, 223, 224, 225, 226, 227, 228, 229] (by decide +kernel) (by decide +kernel)
set_option maxRecDepth 20000 in
theorem gX11_contract_X11_refuse : GoodIn wsX11_contract (wsV RX11 55 RX11 yX11_refuse wsX11_refuse) := goodIn_app (goodIn_of _ (by decide +kernel)) ggX11_contract_X11_refuse
theorem dX11_contract_0 : decode cX11_contract 0 = .ok (.aload_n 0, 1) := by decide +kernel
theorem dX11_contract_1 : decode cX11_contract 1 = .ok (.getfield 10, 3) := by decide +kernel
theorem dX11_contract_4 : decode cX11_contract 4 = .ok (.getfield 261, 3) := by decide +kernel
theorem dX11_contract_7 : decode cX11_contract 7 = .ok (.bipush 12, 2) := by decide +kernel
theorem dX11_contract_9 : decode cX11_contract 9 = .ok (.if_icmp .ge 7, 3) := by decide +kernel
theorem dX11_contract_12 : decode cX11_contract 12 = .ok (.iconst 1, 1) := by decide +kernel
theorem dX11_contract_13 : decode cX11_contract 13 = .ok (.goto 4, 3) := by decide +kernel
theorem dX11_contract_17 : decode cX11_contract 17 = .ok (.istore_n 1, 1) := by decide +kernel
theorem dX11_contract_18 : decode cX11_contract 18 = .ok (.iload_n 1, 1) := by decide +kernel
theorem dX11_contract_19 : decode cX11_contract 19 = .ok (.ifCond .eq 13, 3) := by decide +kernel
theorem dX11_contract_22 : decode cX11_contract 22 = .ok (.aload_n 0, 1) := by decide +kernel
theorem dX11_contract_23 : decode cX11_contract 23 = .ok (.getfield 32, 3) := by decide +kernel
theorem dX11_contract_26 : decode cX11_contract 26 = .ok (.invokevirtual 264, 3) := by decide +kernel
theorem dX11_contract_29 : decode cX11_contract 29 = .ok (.goto 4, 3) := by decide +kernel
theorem dX11_contract_33 : decode cX11_contract 33 = .ok (.astore_n 2, 1) := by decide +kernel
theorem dX11_contract_34 : decode cX11_contract 34 = .ok (.aload_n 0, 1) := by decide +kernel
theorem dX11_contract_35 : decode cX11_contract 35 = .ok (.getfield 32, 3) := by decide +kernel
theorem dX11_contract_38 : decode cX11_contract 38 = .ok (.invokevirtual 268, 3) := by decide +kernel
theorem dX11_contract_41 : decode cX11_contract 41 = .ok (.aload_n 2, 1) := by decide +kernel
theorem dX11_contract_42 : decode cX11_contract 42 = .ok (.ifnonnull 19, 3) := by decide +kernel
theorem dX11_contract_45 : decode cX11_contract 45 = .ok (.aload_n 0, 1) := by decide +kernel
theorem dX11_contract_46 : decode cX11_contract 46 = .ok (.iload_n 1, 1) := by decide +kernel
theorem dX11_contract_47 : decode cX11_contract 47 = .ok (.ifCond .eq 8, 3) := by decide +kernel
theorem dX11_contract_50 : decode cX11_contract 50 = .ok (.bipush (-6), 2) := by decide +kernel
theorem dX11_contract_52 : decode cX11_contract 52 = .ok (.goto 5, 3) := by decide +kernel
theorem dX11_contract_57 : decode cX11_contract 57 = .ok (.invokevirtual 55, 3) := by decide +kernel
theorem dX11_contract_60 : decode cX11_contract 60 = .ok (.ireturn, 1) := by decide +kernel
set_option maxRecDepth 20000 in
theorem ggX11_best_X11_isHour : GoodIn wsX11_best wsX11_isHour := goodIn_r _ [6, 7, 8, 5, 9] (by decide +kernel) (by decide +kernel)
set_option maxRecDepth 20000 in
theorem gX11_best_X11_isHour : GoodIn wsX11_best (va_wsS RX11 229 yX11_isHour wsX11_isHour) := goodIn_app (goodIn_of _ (by decide +kernel)) ggX11_best_X11_isHour
set_option maxRecDepth 20000 in
theorem ggX11_best_X1_findBest : GoodIn wsX11_best wsX1_findBest := goodIn_r _ [14, 15, 16, 17, 18, 19, 20, 21, 22, 23, 24, 25, 26, 27, 28, 29, 30, 31, 32, 33, 34, 35, 36, 37, 13, 38, 39, 40, 41, 42, 43, 44, 45, 46, 47, 48, 49, 50, 51, 52, 53, 54, 55, 56, 57, 58, 59, 60, 61, 62, 63, 64, 65, 66, 67, 68, 69, 70, 71, 72, 73, 74, 75, 76, 77, 78, 79, 80, 81, 82, 83, 84, 85, 86, 87, 88, 89, 90, 91, 92, 93, 94, 95, 96, 97, 98, 99, 100, 101, 102, 103, 104, 105, 106, 107, 108, 109, 110, 111, 112, 113, 114, 115, 116, 117, 118, 119, 120, 121, 122, 123, 124, 125, 126, 127, 128, 129, 130, 131, 132, 133, 134, 135, 136, 137, 138, 139, 140, 141, 149, 150, 151, 152, 153, 154, 155, 156, 157, 158, 159, 160, 161, 162, 163, 164, 165, 166, 167, 168, 169, 170, 171, 172, 173, 174, 175, 176, 177, 178, 179, 180, 181, 182, 183, 184, 185, 186, 187, 188, 189, 190, 191, 192, 193, 194, 195, 196, 197, 198, 199, 200, 201, 202, 203, 204, 205, 206, 207, 208, 209, 210, 211, 212, 213, 214, 215, 216, 217, 218, 219, 220] (by decide +kernel) (by decide +kernel)
set_option maxRecDepth 20000 in
theorem gX11_best_X1_findBest : GoodIn wsX11_best (wsV RX11 322 RX1 yX1_findBest wsX1_findBest) := goodIn_app (goodIn_of _ (by decide +kernel)) ggX11_best_X1_findBest
theorem dX11_best_0 : decode cX11_best 0 = .ok (.iload_n 1, 1) := by decide +kernel
theorem dX11_best_1 : decode cX11_best 1 = .ok (.invokestatic 229, 3) := by decide +kernel
theorem dX11_best_4 : decode cX11_best 4 = .ok (.ifCond .eq 14, 3) := by decide +kernel
theorem dX11_best_7 : decode cX11_best 7 = .ok (.aload_n 0, 1) := by decide +kernel
theorem dX11_best_8 : decode cX11_best 8 = .ok (.getfield 46, 3) := by decide +kernel
theorem dX11_best_11 : decode cX11_best 11 = .ok (.iload_n 1, 1) := by decide +kernel
theorem dX11_best_12 : decode cX11_best 12 = .ok (.invokevirtual 322, 3) := by decide +kernel
theorem dX11_best_15 : decode cX11_best 15 = .ok (.goto 6, 3) := by decide +kernel
theorem dX11_best_18 : decode cX11_best 18 = .ok (.ldc2_w 198, 3) := by decide +kernel
theorem dX11_best_21 : decode cX11_best 21 = .ok (.lreturn, 1) := by decide +kernel
set_option maxRecDepth 20000 in
theorem ggX11_acceptOrFull_X11_accept : GoodIn wsX11_acceptOrFull wsX11_accept := goodIn_r _ [10, 6, 11, 12, 13, 14, 15, 16, 17] (by decide +kernel) (by decide +kernel)
set_option maxRecDepth 20000 in
theorem gX11_acceptOrFull_X11_accept : GoodIn wsX11_acceptOrFull (wsV RX11 73 RX11 yX11_accept wsX11_accept) := goodIn_app (goodIn_of _ (by decide +kernel)) ggX11_acceptOrFull_X11_accept
theorem dX11_acceptOrFull_0 : decode cX11_acceptOrFull 0 = .ok (.iload_n 1, 1) := by decide +kernel
theorem dX11_acceptOrFull_1 : decode cX11_acceptOrFull 1 = .ok (.iconst (-1), 1) := by decide +kernel
theorem dX11_acceptOrFull_2 : decode cX11_acceptOrFull 2 = .ok (.if_icmp .ne 12, 3) := by decide +kernel
theorem dX11_acceptOrFull_14 : decode cX11_acceptOrFull 14 = .ok (.aload_n 0, 1) := by decide +kernel
theorem dX11_acceptOrFull_15 : decode cX11_acceptOrFull 15 = .ok (.iload_n 1, 1) := by decide +kernel
theorem dX11_acceptOrFull_16 : decode cX11_acceptOrFull 16 = .ok (.invokevirtual 73, 3) := by decide +kernel
theorem dX11_acceptOrFull_19 : decode cX11_acceptOrFull 19 = .ok (.ireturn, 1) := by decide +kernel
theorem dJ7_rangeCheck_23922_0 : decode cJ7_rangeCheck_23922 0 = .ok (.iload_n 1, 1) := by decide +kernel
theorem dJ7_rangeCheck_23922_1 : decode cJ7_rangeCheck_23922 1 = .ok (.iload_n 2, 1) := by decide +kernel
theorem dJ7_rangeCheck_23922_2 : decode cJ7_rangeCheck_23922 2 = .ok (.if_icmp .le 44, 3) := by decide +kernel
theorem dJ7_rangeCheck_23922_46 : decode cJ7_rangeCheck_23922 46 = .ok (.iload_n 1, 1) := by decide +kernel
theorem dJ7_rangeCheck_23922_47 : decode cJ7_rangeCheck_23922 47 = .ok (.ifCond .ge 12, 3) := by decide +kernel
theorem dJ7_rangeCheck_23922_59 : decode cJ7_rangeCheck_23922 59 = .ok (.iload_n 2, 1) := by decide +kernel
theorem dJ7_rangeCheck_23922_60 : decode cJ7_rangeCheck_23922 60 = .ok (.iload_n 0, 1) := by decide +kernel
theorem dJ7_rangeCheck_23922_61 : decode cJ7_rangeCheck_23922 61 = .ok (.if_icmp .le 12, 3) := by decide +kernel
theorem dJ7_rangeCheck_23922_73 : decode cJ7_rangeCheck_23922 73 = .ok (.return_, 1) := by decide +kernel
theorem dJ7_fill_d0a16_0 : decode cJ7_fill_d0a16 0 = .ok (.iconst 0, 1) := by decide +kernel
theorem dJ7_fill_d0a16_1 : decode cJ7_fill_d0a16 1 = .ok (.istore_n 3, 1) := by decide +kernel
theorem dJ7_fill_d0a16_2 : decode cJ7_fill_d0a16 2 = .ok (.aload_n 0, 1) := by decide +kernel
theorem dJ7_fill_d0a16_3 : decode cJ7_fill_d0a16 3 = .ok (.arraylength, 1) := by decide +kernel
theorem dJ7_fill_d0a16_4 : decode cJ7_fill_d0a16 4 = .ok (.istore 4, 2) := by decide +kernel
theorem dJ7_fill_d0a16_6 : decode cJ7_fill_d0a16 6 = .ok (.iload_n 3, 1) := by decide +kernel
theorem dJ7_fill_d0a16_7 : decode cJ7_fill_d0a16 7 = .ok (.iload 4, 2) := by decide +kernel
theorem dJ7_fill_d0a16_9 : decode cJ7_fill_d0a16 9 = .ok (.if_icmp .ge 13, 3) := by decide +kernel
theorem dJ7_fill_d0a16_12 : decode cJ7_fill_d0a16 12 = .ok (.aload_n 0, 1) := by decide +kernel
theorem dJ7_fill_d0a16_13 : decode cJ7_fill_d0a16 13 = .ok (.iload_n 3, 1) := by decide +kernel
theorem dJ7_fill_d0a16_14 : decode cJ7_fill_d0a16 14 = .ok (.lload_n 1, 1) := by decide +kernel
theorem dJ7_fill_d0a16_15 : decode cJ7_fill_d0a16 15 = .ok (.lastore, 1) := by decide +kernel
theorem dJ7_fill_d0a16_16 : decode cJ7_fill_d0a16 16 = .ok (.iinc 3 1, 3) := by decide +kernel
theorem dJ7_fill_d0a16_19 : decode cJ7_fill_d0a16 19 = .ok (.goto (-13), 3) := by decide +kernel
theorem dJ7_fill_d0a16_22 : decode cJ7_fill_d0a16 22 = .ok (.return_, 1) := by decide +kernel
set_option maxRecDepth 20000 in
theorem ggJ7_fill_bad5a_J7_rangeCheck_23922 : GoodIn wsJ7_fill_bad5a wsJ7_rangeCheck_23922 := goodIn_r _ [4] (by decide +kernel) (by decide +kernel)
set_option maxRecDepth 20000 in
theorem gJ7_fill_bad5a_J7_rangeCheck_23922 : GoodIn wsJ7_fill_bad5a (va_wsS RJ7 13 yJ7_rangeCheck_23922 wsJ7_rangeCheck_23922) := goodIn_app (goodIn_of _ (by decide +kernel)) ggJ7_fill_bad5a_J7_rangeCheck_23922
theorem dJ7_fill_bad5a_0 : decode cJ7_fill_bad5a 0 = .ok (.aload_n 0, 1) := by decide +kernel
theorem dJ7_fill_bad5a_1 : decode cJ7_fill_bad5a 1 = .ok (.arraylength, 1) := by decide +kernel
theorem dJ7_fill_bad5a_2 : decode cJ7_fill_bad5a 2 = .ok (.iload_n 1, 1) := by decide +kernel
theorem dJ7_fill_bad5a_3 : decode cJ7_fill_bad5a 3 = .ok (.iload_n 2, 1) := by decide +kernel
theorem dJ7_fill_bad5a_4 : decode cJ7_fill_bad5a 4 = .ok (.invokestatic 13, 3) := by decide +kernel
theorem dJ7_fill_bad5a_7 : decode cJ7_fill_bad5a 7 = .ok (.iload_n 1, 1) := by decide +kernel
theorem dJ7_fill_bad5a_8 : decode cJ7_fill_bad5a 8 = .ok (.istore 5, 2) := by decide +kernel
theorem dJ7_fill_bad5a_10 : decode cJ7_fill_bad5a 10 = .ok (.iload 5, 2) := by decide +kernel
theorem dJ7_fill_bad5a_12 : decode cJ7_fill_bad5a 12 = .ok (.iload_n 2, 1) := by decide +kernel
theorem dJ7_fill_bad5a_13 : decode cJ7_fill_bad5a 13 = .ok (.if_icmp .ge 14, 3) := by decide +kernel
theorem dJ7_fill_bad5a_16 : decode cJ7_fill_bad5a 16 = .ok (.aload_n 0, 1) := by decide +kernel
theorem dJ7_fill_bad5a_17 : decode cJ7_fill_bad5a 17 = .ok (.iload 5, 2) := by decide +kernel
theorem dJ7_fill_bad5a_19 : decode cJ7_fill_bad5a 19 = .ok (.lload_n 3, 1) := by decide +kernel
theorem dJ7_fill_bad5a_20 : decode cJ7_fill_bad5a 20 = .ok (.lastore, 1) := by decide +kernel
theorem dJ7_fill_bad5a_21 : decode cJ7_fill_bad5a 21 = .ok (.iinc 5 1, 3) := by decide +kernel
theorem dJ7_fill_bad5a_24 : decode cJ7_fill_bad5a 24 = .ok (.goto (-14), 3) := by decide +kernel
theorem dJ7_fill_bad5a_27 : decode cJ7_fill_bad5a 27 = .ok (.return_, 1) := by decide +kernel
theorem dJ7_fill_53178_0 : decode cJ7_fill_53178 0 = .ok (.iconst 0, 1) := by decide +kernel
theorem dJ7_fill_53178_1 : decode cJ7_fill_53178 1 = .ok (.istore_n 2, 1) := by decide +kernel
theorem dJ7_fill_53178_2 : decode cJ7_fill_53178 2 = .ok (.aload_n 0, 1) := by decide +kernel
theorem dJ7_fill_53178_3 : decode cJ7_fill_53178 3 = .ok (.arraylength, 1) := by decide +kernel
theorem dJ7_fill_53178_4 : decode cJ7_fill_53178 4 = .ok (.istore_n 3, 1) := by decide +kernel
theorem dJ7_fill_53178_5 : decode cJ7_fill_53178 5 = .ok (.iload_n 2, 1) := by decide +kernel
theorem dJ7_fill_53178_6 : decode cJ7_fill_53178 6 = .ok (.iload_n 3, 1) := by decide +kernel
theorem dJ7_fill_53178_7 : decode cJ7_fill_53178 7 = .ok (.if_icmp .ge 13, 3) := by decide +kernel
theorem dJ7_fill_53178_10 : decode cJ7_fill_53178 10 = .ok (.aload_n 0, 1) := by decide +kernel
theorem dJ7_fill_53178_11 : decode cJ7_fill_53178 11 = .ok (.iload_n 2, 1) := by decide +kernel
theorem dJ7_fill_53178_12 : decode cJ7_fill_53178 12 = .ok (.iload_n 1, 1) := by decide +kernel
theorem dJ7_fill_53178_13 : decode cJ7_fill_53178 13 = .ok (.iastore, 1) := by decide +kernel
theorem dJ7_fill_53178_14 : decode cJ7_fill_53178 14 = .ok (.iinc 2 1, 3) := by decide +kernel
theorem dJ7_fill_53178_17 : decode cJ7_fill_53178 17 = .ok (.goto (-12), 3) := by decide +kernel
theorem dJ7_fill_53178_20 : decode cJ7_fill_53178 20 = .ok (.return_, 1) := by decide +kernel
