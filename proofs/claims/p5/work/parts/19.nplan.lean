abbrev cX1_sails : ByteArray := prog_3_method_2_code
def yX1_sails : MethodName := ⟨RX1, "sails", "(I)Z"⟩
abbrev cX1_findBest : ByteArray := prog_3_method_3_code
def yX1_findBest : MethodName := ⟨RX1, "findBest", "(I)J"⟩
abbrev cX1_extend : ByteArray := prog_3_method_4_code
def yX1_extend : MethodName := ⟨RX1, "extend", "(IIIIIJI)V"⟩
abbrev cX1_keepRow : ByteArray := prog_3_method_5_code
def yX1_keepRow : MethodName := ⟨RX1, "keepRow", "(IJI)V"⟩
abbrev cX1_addShip : ByteArray := prog_3_method_6_code
def yX1_addShip : MethodName := ⟨RX1, "addShip", "(II)V"⟩
abbrev cX1_joinSets : ByteArray := prog_3_method_7_code
def yX1_joinSets : MethodName := ⟨RX1, "joinSets", "(III)V"⟩
abbrev cX1_isBetter : ByteArray := prog_3_method_8_code
def yX1_isBetter : MethodName := ⟨RX1, "isBetter", "(II)Z"⟩
abbrev cX1_keepPlan : ByteArray := prog_3_method_9_code
def yX1_keepPlan : MethodName := ⟨RX1, "keepPlan", "(II)V"⟩
abbrev cX1_keepVoyage : ByteArray := prog_3_method_10_code
def yX1_keepVoyage : MethodName := ⟨RX1, "keepVoyage", "(II)V"⟩
abbrev cX1_cargoAt : ByteArray := prog_3_method_11_code
def yX1_cargoAt : MethodName := ⟨RX1, "cargoAt", "(III)I"⟩
abbrev cX1_worthOfRow : ByteArray := prog_3_method_12_code
def yX1_worthOfRow : MethodName := ⟨RX1, "worthOfRow", "(IIIII)J"⟩
abbrev cX1_reckon : ByteArray := prog_3_method_13_code
def yX1_reckon : MethodName := ⟨RX1, "reckon", "(IIII)Z"⟩
def RJ6 : String := "java/lang/Integer"
abbrev cJ6_bitCount_0f7a4 : ByteArray := prog_16_method_49_code
def yJ6_bitCount_0f7a4 : MethodName := ⟨RJ6, "bitCount", "(I)I"⟩
def wsX1_sails : List Cond := .code yX1_sails cX1_sails 2 (some .boolean) :: ([.fieldLink RX1 40 "ColdShips$Planner" "world" "LColdShips$World;", .methodLink RX1 44 yX10_hasShip, .instanceMethod yX10_hasShip, .selects RX10 yX10_hasShip yX10_hasShip, .initialized RX10, .code yX10_hasShip cX10_hasShip 2 (some .boolean), .fieldLink RX10 81 "ColdShips$World" "shipCount" "I"] ++ wsX10 ++ wsX100)
def wsX1_reckon_r1 : List Cond := [Cond.fieldLink RX1 40 "ColdShips$Planner" "world" "LColdShips$World;", Cond.methodLink RX1 164 Lib.Math.max.name, Cond.static Lib.Math.max.name, Cond.initialized "java/lang/Math", Cond.code Lib.Math.max.name Lib.Math.max.code 2 (some .int), Cond.fieldLink RX1 142 "ColdShips$Planner" "loadAt" "I", Cond.fieldLink RX1 145 "ColdShips$Planner" "landAt" "I", Cond.fieldLink RX1 119 "ColdShips$Planner" "freeAt" "I", Cond.constantLong RX1 189 (100000), Cond.methodLink RX1 191 Lib.MathLoose.min_long.x, Cond.static Lib.MathLoose.min_long.x, Cond.code Lib.MathLoose.min_long.x Lib.MathLoose.min_long.code 4 (some .long), Cond.constantLong RX1 198 (100), Cond.fieldLink RX1 108 "ColdShips$Planner" "worth" "J", Cond.methodLink RX1 116 yX4_number, Cond.instanceMethod yX4_number, Cond.selects RX4 yX4_number yX4_number, Cond.initialized RX4, Cond.code yX4_number cX4_number 3 (some .int), Cond.methodLink RX4 34 yX4_at, Cond.instanceMethod yX4_at, Cond.selects RX4 yX4_at yX4_at, Cond.code yX4_at cX4_at 4 (some .long), Cond.fieldLink RX4 25 "ColdShips$Rows" "size" "I"]
def wsX1_reckon_r2 : List Cond := [Cond.fieldLink RX4 15 "ColdShips$Rows" "width" "I", Cond.fieldLink RX4 21 "ColdShips$Rows" "cells" "[J", Cond.methodLink RX1 151 yX10_hoursBetween, Cond.instanceMethod yX10_hoursBetween, Cond.selects RX10 yX10_hoursBetween yX10_hoursBetween, Cond.initialized RX10, Cond.code yX10_hoursBetween cX10_hoursBetween 4 (some .int), Cond.fieldLink RX10 27 "ColdShips$World" "terminals" "[LColdShips$Terminal;", Cond.methodLink RX10 93 yX10_hasTerminal, Cond.instanceMethod yX10_hasTerminal, Cond.selects RX10 yX10_hasTerminal yX10_hasTerminal, Cond.code yX10_hasTerminal cX10_hasTerminal 2 (some .boolean), Cond.fieldLink RX10 78 "ColdShips$World" "terminalCount" "I", Cond.methodLink RX1 158 yX7_top, Cond.instanceMethod yX7_top, Cond.selects RX7 yX7_top yX7_top, Cond.initialized RX7, Cond.code yX7_top cX7_top 1 (some .int), Cond.fieldLink RX7 9 "ColdShips$Tank" "cap" "I", Cond.methodLink RX1 175 yX8_hoursFor, Cond.instanceMethod yX8_hoursFor, Cond.selects RX8 yX8_hoursFor yX8_hoursFor, Cond.initialized RX8, Cond.code yX8_hoursFor cX8_hoursFor 2 (some .int)]
def wsX1_reckon_r3 : List Cond := [Cond.fieldLink RX8 9 "ColdShips$Terminal" "rate" "I", Cond.methodLink RX1 180 yX6_hourBehind, Cond.instanceMethod yX6_hourBehind, Cond.selects RX6 yX6_hourBehind yX6_hourBehind, Cond.initialized RX6, Cond.code yX6_hourBehind cX6_hourBehind 8 (some .int), Cond.fieldLink RX6 27 "ColdShips$Spans" "size" "I", Cond.fieldLink RX6 21 "ColdShips$Spans" "begins" "[I", Cond.fieldLink RX6 15 "ColdShips$Spans" "owners" "[I", Cond.fieldLink RX6 24 "ColdShips$Spans" "ends" "[I", Cond.methodLink RX6 9 Lib.Math.max.name, Cond.methodLink RX1 194 yX4_at]
def wsX1_reckon : List Cond := .code yX1_reckon cX1_reckon 14 (some .boolean) :: ((wsX1_reckon_r1 ++ (wsX1_reckon_r2 ++ wsX1_reckon_r3)) ++ wsX10 ++ wsX100 ++ wsX50 ++ wsX40 ++ wsX80 ++ wsX70 ++ wsX60)
def wsX1_keepRow : List Cond := .code yX1_keepRow cX1_keepRow 5 none :: ([.fieldLink RX1 11 "ColdShips$Planner" "rowWorths" "[J", .fieldLink RX1 15 "ColdShips$Planner" "rowPlaces" "[I"] ++ wsX10)
def wsX1_extend_r1 : List Cond := [Cond.fieldLink RX1 40 "ColdShips$Planner" "world" "LColdShips$World;", Cond.fieldLink RX1 108 "ColdShips$Planner" "worth" "J", Cond.fieldLink RX1 119 "ColdShips$Planner" "freeAt" "I", Cond.methodLink RX1 104 yX1_reckon, Cond.instanceMethod yX1_reckon, Cond.selects RX1 yX1_reckon yX1_reckon, Cond.initialized RX1, Cond.code yX1_reckon cX1_reckon 14 (some .boolean), Cond.methodLink RX1 164 Lib.Math.max.name, Cond.static Lib.Math.max.name, Cond.initialized "java/lang/Math", Cond.code Lib.Math.max.name Lib.Math.max.code 2 (some .int), Cond.fieldLink RX1 142 "ColdShips$Planner" "loadAt" "I", Cond.fieldLink RX1 145 "ColdShips$Planner" "landAt" "I", Cond.constantLong RX1 189 (100000), Cond.methodLink RX1 191 Lib.MathLoose.min_long.x, Cond.static Lib.MathLoose.min_long.x, Cond.code Lib.MathLoose.min_long.x Lib.MathLoose.min_long.code 4 (some .long), Cond.constantLong RX1 198 (100), Cond.methodLink RX1 116 yX4_number, Cond.instanceMethod yX4_number, Cond.selects RX4 yX4_number yX4_number, Cond.initialized RX4, Cond.code yX4_number cX4_number 3 (some .int)]
def wsX1_extend_r2 : List Cond := [Cond.methodLink RX4 34 yX4_at, Cond.instanceMethod yX4_at, Cond.selects RX4 yX4_at yX4_at, Cond.code yX4_at cX4_at 4 (some .long), Cond.fieldLink RX4 25 "ColdShips$Rows" "size" "I", Cond.fieldLink RX4 15 "ColdShips$Rows" "width" "I", Cond.fieldLink RX4 21 "ColdShips$Rows" "cells" "[J", Cond.methodLink RX1 151 yX10_hoursBetween, Cond.instanceMethod yX10_hoursBetween, Cond.selects RX10 yX10_hoursBetween yX10_hoursBetween, Cond.initialized RX10, Cond.code yX10_hoursBetween cX10_hoursBetween 4 (some .int), Cond.fieldLink RX10 27 "ColdShips$World" "terminals" "[LColdShips$Terminal;", Cond.methodLink RX10 93 yX10_hasTerminal, Cond.instanceMethod yX10_hasTerminal, Cond.selects RX10 yX10_hasTerminal yX10_hasTerminal, Cond.code yX10_hasTerminal cX10_hasTerminal 2 (some .boolean), Cond.fieldLink RX10 78 "ColdShips$World" "terminalCount" "I", Cond.methodLink RX1 158 yX7_top, Cond.instanceMethod yX7_top, Cond.selects RX7 yX7_top yX7_top, Cond.initialized RX7, Cond.code yX7_top cX7_top 1 (some .int), Cond.fieldLink RX7 9 "ColdShips$Tank" "cap" "I"]
def wsX1_extend_r3 : List Cond := [Cond.methodLink RX1 175 yX8_hoursFor, Cond.instanceMethod yX8_hoursFor, Cond.selects RX8 yX8_hoursFor yX8_hoursFor, Cond.initialized RX8, Cond.code yX8_hoursFor cX8_hoursFor 2 (some .int), Cond.fieldLink RX8 9 "ColdShips$Terminal" "rate" "I", Cond.methodLink RX1 180 yX6_hourBehind, Cond.instanceMethod yX6_hourBehind, Cond.selects RX6 yX6_hourBehind yX6_hourBehind, Cond.initialized RX6, Cond.code yX6_hourBehind cX6_hourBehind 8 (some .int), Cond.fieldLink RX6 27 "ColdShips$Spans" "size" "I", Cond.fieldLink RX6 21 "ColdShips$Spans" "begins" "[I", Cond.fieldLink RX6 15 "ColdShips$Spans" "owners" "[I", Cond.fieldLink RX6 24 "ColdShips$Spans" "ends" "[I", Cond.methodLink RX6 9 Lib.Math.max.name, Cond.methodLink RX1 194 yX4_at, Cond.methodLink RX1 112 yX1_keepRow, Cond.instanceMethod yX1_keepRow, Cond.selects RX1 yX1_keepRow yX1_keepRow, Cond.code yX1_keepRow cX1_keepRow 5 none, Cond.fieldLink RX1 11 "ColdShips$Planner" "rowWorths" "[J", Cond.fieldLink RX1 15 "ColdShips$Planner" "rowPlaces" "[I", Cond.methodLink RX1 89 yX1_extend]
def wsX1_extend_r4 : List Cond := [Cond.instanceMethod yX1_extend, Cond.selects RX1 yX1_extend yX1_extend]
def wsX1_extend : List Cond := .code yX1_extend cX1_extend 14 none :: ((wsX1_extend_r1 ++ (wsX1_extend_r2 ++ (wsX1_extend_r3 ++ wsX1_extend_r4))) ++ wsX10 ++ wsX100 ++ wsX40 ++ wsX50 ++ wsX80 ++ wsX70 ++ wsX60)
def wsX1_joinSets : List Cond := .code yX1_joinSets cX1_joinSets 10 none :: ([.fieldLink RX1 19 "ColdShips$Planner" "setWorths" "[J", .fieldLink RX1 11 "ColdShips$Planner" "rowWorths" "[J", .fieldLink RX1 22 "ColdShips$Planner" "setShips" "[I"] ++ wsX10)
def wsX1_addShip : List Cond := .code yX1_addShip cX1_addShip 6 none :: ([.fieldLink RX1 11 "ColdShips$Planner" "rowWorths" "[J", .constantLong RX1 66 (-2000000000000000), .fieldLink RX1 19 "ColdShips$Planner" "setWorths" "[J", .methodLink RX1 122 yX1_joinSets, .instanceMethod yX1_joinSets, .selects RX1 yX1_joinSets yX1_joinSets, .initialized RX1, .code yX1_joinSets cX1_joinSets 10 none, .fieldLink RX1 22 "ColdShips$Planner" "setShips" "[I"] ++ wsX10)
def wsJ6_bitCount_0f7a4 : List Cond := .code yJ6_bitCount_0f7a4 cJ6_bitCount_0f7a4 1 (some .int) :: ([.constant RJ6 265 (1431655765), .constant RJ6 266 (858993459), .constant RJ6 267 (252645135)])
def wsX1_isBetter : List Cond := .code yX1_isBetter cX1_isBetter 4 (some .boolean) :: ([.fieldLink RX1 19 "ColdShips$Planner" "setWorths" "[J", .fieldLink RX1 22 "ColdShips$Planner" "setShips" "[I", .methodLink RX1 126 yJ6_bitCount_0f7a4, .static yJ6_bitCount_0f7a4, .initialized RJ6, .code yJ6_bitCount_0f7a4 cJ6_bitCount_0f7a4 1 (some .int), .constant RJ6 265 (1431655765), .constant RJ6 266 (858993459), .constant RJ6 267 (252645135)] ++ wsX10)
def wsX1_cargoAt : List Cond := .code yX1_cargoAt cX1_cargoAt 5 (some .int) :: ([.fieldLink RX1 132 "ColdShips$Planner" "planned" "I"] ++ wsX10)
def wsX1_keepVoyage_r1 : List Cond := [Cond.fieldLink RX1 132 "ColdShips$Planner" "planned" "I", Cond.fieldLink RX1 25 "ColdShips$Planner" "shipOf" "[I", Cond.fieldLink RX1 15 "ColdShips$Planner" "rowPlaces" "[I", Cond.fieldLink RX1 40 "ColdShips$Planner" "world" "LColdShips$World;", Cond.fieldLink RX1 28 "ColdShips$Planner" "placeOf" "[I", Cond.fieldLink RX1 31 "ColdShips$Planner" "loadOf" "[I", Cond.fieldLink RX1 142 "ColdShips$Planner" "loadAt" "I", Cond.fieldLink RX1 34 "ColdShips$Planner" "landOf" "[I", Cond.fieldLink RX1 145 "ColdShips$Planner" "landAt" "I", Cond.fieldLink RX1 37 "ColdShips$Planner" "worthOf" "[J", Cond.fieldLink RX1 108 "ColdShips$Planner" "worth" "J", Cond.fieldLink RX1 119 "ColdShips$Planner" "freeAt" "I", Cond.methodLink RX1 138 yX1_cargoAt, Cond.instanceMethod yX1_cargoAt, Cond.selects RX1 yX1_cargoAt yX1_cargoAt, Cond.initialized RX1, Cond.code yX1_cargoAt cX1_cargoAt 5 (some .int), Cond.methodLink RX1 104 yX1_reckon, Cond.instanceMethod yX1_reckon, Cond.selects RX1 yX1_reckon yX1_reckon, Cond.code yX1_reckon cX1_reckon 14 (some .boolean), Cond.methodLink RX1 164 Lib.Math.max.name, Cond.static Lib.Math.max.name, Cond.initialized "java/lang/Math"]
def wsX1_keepVoyage_r2 : List Cond := [Cond.code Lib.Math.max.name Lib.Math.max.code 2 (some .int), Cond.constantLong RX1 189 (100000), Cond.methodLink RX1 191 Lib.MathLoose.min_long.x, Cond.static Lib.MathLoose.min_long.x, Cond.code Lib.MathLoose.min_long.x Lib.MathLoose.min_long.code 4 (some .long), Cond.constantLong RX1 198 (100), Cond.methodLink RX1 116 yX4_number, Cond.instanceMethod yX4_number, Cond.selects RX4 yX4_number yX4_number, Cond.initialized RX4, Cond.code yX4_number cX4_number 3 (some .int), Cond.methodLink RX4 34 yX4_at, Cond.instanceMethod yX4_at, Cond.selects RX4 yX4_at yX4_at, Cond.code yX4_at cX4_at 4 (some .long), Cond.fieldLink RX4 25 "ColdShips$Rows" "size" "I", Cond.fieldLink RX4 15 "ColdShips$Rows" "width" "I", Cond.fieldLink RX4 21 "ColdShips$Rows" "cells" "[J", Cond.methodLink RX1 151 yX10_hoursBetween, Cond.instanceMethod yX10_hoursBetween, Cond.selects RX10 yX10_hoursBetween yX10_hoursBetween, Cond.initialized RX10, Cond.code yX10_hoursBetween cX10_hoursBetween 4 (some .int), Cond.fieldLink RX10 27 "ColdShips$World" "terminals" "[LColdShips$Terminal;"]
def wsX1_keepVoyage_r3 : List Cond := [Cond.methodLink RX10 93 yX10_hasTerminal, Cond.instanceMethod yX10_hasTerminal, Cond.selects RX10 yX10_hasTerminal yX10_hasTerminal, Cond.code yX10_hasTerminal cX10_hasTerminal 2 (some .boolean), Cond.fieldLink RX10 78 "ColdShips$World" "terminalCount" "I", Cond.methodLink RX1 158 yX7_top, Cond.instanceMethod yX7_top, Cond.selects RX7 yX7_top yX7_top, Cond.initialized RX7, Cond.code yX7_top cX7_top 1 (some .int), Cond.fieldLink RX7 9 "ColdShips$Tank" "cap" "I", Cond.methodLink RX1 175 yX8_hoursFor, Cond.instanceMethod yX8_hoursFor, Cond.selects RX8 yX8_hoursFor yX8_hoursFor, Cond.initialized RX8, Cond.code yX8_hoursFor cX8_hoursFor 2 (some .int), Cond.fieldLink RX8 9 "ColdShips$Terminal" "rate" "I", Cond.methodLink RX1 180 yX6_hourBehind, Cond.instanceMethod yX6_hourBehind, Cond.selects RX6 yX6_hourBehind yX6_hourBehind, Cond.initialized RX6, Cond.code yX6_hourBehind cX6_hourBehind 8 (some .int), Cond.fieldLink RX6 27 "ColdShips$Spans" "size" "I", Cond.fieldLink RX6 21 "ColdShips$Spans" "begins" "[I"]
def wsX1_keepVoyage_r4 : List Cond := [Cond.fieldLink RX6 15 "ColdShips$Spans" "owners" "[I", Cond.fieldLink RX6 24 "ColdShips$Spans" "ends" "[I", Cond.methodLink RX6 9 Lib.Math.max.name, Cond.methodLink RX1 194 yX4_at]
def wsX1_keepVoyage : List Cond := .code yX1_keepVoyage cX1_keepVoyage 9 none :: ((wsX1_keepVoyage_r1 ++ (wsX1_keepVoyage_r2 ++ (wsX1_keepVoyage_r3 ++ wsX1_keepVoyage_r4))) ++ wsX10 ++ wsX100 ++ wsX50 ++ wsX40 ++ wsX80 ++ wsX70 ++ wsX60)
def wsX1_keepPlan_r1 : List Cond := [Cond.fieldLink RX1 40 "ColdShips$Planner" "world" "LColdShips$World;", Cond.methodLink RX1 60 Lib.Math.min.name, Cond.static Lib.Math.min.name, Cond.initialized "java/lang/Math", Cond.code Lib.Math.min.name Lib.Math.min.code 2 (some .int), Cond.fieldLink RX1 132 "ColdShips$Planner" "planned" "I", Cond.fieldLink RX1 25 "ColdShips$Planner" "shipOf" "[I", Cond.methodLink RX1 135 yX1_keepVoyage, Cond.instanceMethod yX1_keepVoyage, Cond.selects RX1 yX1_keepVoyage yX1_keepVoyage, Cond.initialized RX1, Cond.code yX1_keepVoyage cX1_keepVoyage 9 none, Cond.fieldLink RX1 15 "ColdShips$Planner" "rowPlaces" "[I", Cond.fieldLink RX1 28 "ColdShips$Planner" "placeOf" "[I", Cond.fieldLink RX1 31 "ColdShips$Planner" "loadOf" "[I", Cond.fieldLink RX1 142 "ColdShips$Planner" "loadAt" "I", Cond.fieldLink RX1 34 "ColdShips$Planner" "landOf" "[I", Cond.fieldLink RX1 145 "ColdShips$Planner" "landAt" "I", Cond.fieldLink RX1 37 "ColdShips$Planner" "worthOf" "[J", Cond.fieldLink RX1 108 "ColdShips$Planner" "worth" "J", Cond.fieldLink RX1 119 "ColdShips$Planner" "freeAt" "I", Cond.methodLink RX1 138 yX1_cargoAt, Cond.instanceMethod yX1_cargoAt, Cond.selects RX1 yX1_cargoAt yX1_cargoAt]
def wsX1_keepPlan_r2 : List Cond := [Cond.code yX1_cargoAt cX1_cargoAt 5 (some .int), Cond.methodLink RX1 104 yX1_reckon, Cond.instanceMethod yX1_reckon, Cond.selects RX1 yX1_reckon yX1_reckon, Cond.code yX1_reckon cX1_reckon 14 (some .boolean), Cond.methodLink RX1 164 Lib.Math.max.name, Cond.static Lib.Math.max.name, Cond.code Lib.Math.max.name Lib.Math.max.code 2 (some .int), Cond.constantLong RX1 189 (100000), Cond.methodLink RX1 191 Lib.MathLoose.min_long.x, Cond.static Lib.MathLoose.min_long.x, Cond.code Lib.MathLoose.min_long.x Lib.MathLoose.min_long.code 4 (some .long), Cond.constantLong RX1 198 (100), Cond.methodLink RX1 116 yX4_number, Cond.instanceMethod yX4_number, Cond.selects RX4 yX4_number yX4_number, Cond.initialized RX4, Cond.code yX4_number cX4_number 3 (some .int), Cond.methodLink RX4 34 yX4_at, Cond.instanceMethod yX4_at, Cond.selects RX4 yX4_at yX4_at, Cond.code yX4_at cX4_at 4 (some .long), Cond.fieldLink RX4 25 "ColdShips$Rows" "size" "I", Cond.fieldLink RX4 15 "ColdShips$Rows" "width" "I"]
def wsX1_keepPlan_r3 : List Cond := [Cond.fieldLink RX4 21 "ColdShips$Rows" "cells" "[J", Cond.methodLink RX1 151 yX10_hoursBetween, Cond.instanceMethod yX10_hoursBetween, Cond.selects RX10 yX10_hoursBetween yX10_hoursBetween, Cond.initialized RX10, Cond.code yX10_hoursBetween cX10_hoursBetween 4 (some .int), Cond.fieldLink RX10 27 "ColdShips$World" "terminals" "[LColdShips$Terminal;", Cond.methodLink RX10 93 yX10_hasTerminal, Cond.instanceMethod yX10_hasTerminal, Cond.selects RX10 yX10_hasTerminal yX10_hasTerminal, Cond.code yX10_hasTerminal cX10_hasTerminal 2 (some .boolean), Cond.fieldLink RX10 78 "ColdShips$World" "terminalCount" "I", Cond.methodLink RX1 158 yX7_top, Cond.instanceMethod yX7_top, Cond.selects RX7 yX7_top yX7_top, Cond.initialized RX7, Cond.code yX7_top cX7_top 1 (some .int), Cond.fieldLink RX7 9 "ColdShips$Tank" "cap" "I", Cond.methodLink RX1 175 yX8_hoursFor, Cond.instanceMethod yX8_hoursFor, Cond.selects RX8 yX8_hoursFor yX8_hoursFor, Cond.initialized RX8, Cond.code yX8_hoursFor cX8_hoursFor 2 (some .int), Cond.fieldLink RX8 9 "ColdShips$Terminal" "rate" "I"]
def wsX1_keepPlan_r4 : List Cond := [Cond.methodLink RX1 180 yX6_hourBehind, Cond.instanceMethod yX6_hourBehind, Cond.selects RX6 yX6_hourBehind yX6_hourBehind, Cond.initialized RX6, Cond.code yX6_hourBehind cX6_hourBehind 8 (some .int), Cond.fieldLink RX6 27 "ColdShips$Spans" "size" "I", Cond.fieldLink RX6 21 "ColdShips$Spans" "begins" "[I", Cond.fieldLink RX6 15 "ColdShips$Spans" "owners" "[I", Cond.fieldLink RX6 24 "ColdShips$Spans" "ends" "[I", Cond.methodLink RX6 9 Lib.Math.max.name, Cond.methodLink RX1 194 yX4_at]
def wsX1_keepPlan : List Cond := .code yX1_keepPlan cX1_keepPlan 5 none :: ((wsX1_keepPlan_r1 ++ (wsX1_keepPlan_r2 ++ (wsX1_keepPlan_r3 ++ wsX1_keepPlan_r4))) ++ wsX10 ++ wsX100 ++ wsX40 ++ wsX50 ++ wsX80 ++ wsX70 ++ wsX60)
def wsX1_findBest_r1 : List Cond := [Cond.fieldLink RX1 40 "ColdShips$Planner" "world" "LColdShips$World;", Cond.methodLink RX1 60 Lib.Math.min.name, Cond.static Lib.Math.min.name, Cond.initialized "java/lang/Math", Cond.code Lib.Math.min.name Lib.Math.min.code 2 (some .int), Cond.fieldLink RX1 19 "ColdShips$Planner" "setWorths" "[J", Cond.constantLong RX1 66 (-2000000000000000), Cond.fieldLink RX1 22 "ColdShips$Planner" "setShips" "[I", Cond.fieldLink RX1 11 "ColdShips$Planner" "rowWorths" "[J", Cond.fieldLink RX1 15 "ColdShips$Planner" "rowPlaces" "[I", Cond.methodLink RX1 68 yJ7_fill_d0a16, Cond.static yJ7_fill_d0a16, Cond.initialized RJ7, Cond.code yJ7_fill_d0a16 cJ7_fill_d0a16 5 none, Cond.methodLink RX1 77 yJ7_fill_bad5a, Cond.static yJ7_fill_bad5a, Cond.code yJ7_fill_bad5a cJ7_fill_bad5a 6 none, Cond.methodLink RJ7 13 yJ7_rangeCheck_23922, Cond.static yJ7_rangeCheck_23922, Cond.code yJ7_rangeCheck_23922 cJ7_rangeCheck_23922 3 none, Cond.methodLink RX1 89 yX1_extend, Cond.instanceMethod yX1_extend, Cond.selects RX1 yX1_extend yX1_extend, Cond.initialized RX1]
def wsX1_findBest_r2 : List Cond := [Cond.code yX1_extend cX1_extend 14 none, Cond.fieldLink RX1 108 "ColdShips$Planner" "worth" "J", Cond.fieldLink RX1 119 "ColdShips$Planner" "freeAt" "I", Cond.methodLink RX1 104 yX1_reckon, Cond.instanceMethod yX1_reckon, Cond.selects RX1 yX1_reckon yX1_reckon, Cond.code yX1_reckon cX1_reckon 14 (some .boolean), Cond.methodLink RX1 164 Lib.Math.max.name, Cond.static Lib.Math.max.name, Cond.code Lib.Math.max.name Lib.Math.max.code 2 (some .int), Cond.fieldLink RX1 142 "ColdShips$Planner" "loadAt" "I", Cond.fieldLink RX1 145 "ColdShips$Planner" "landAt" "I", Cond.constantLong RX1 189 (100000), Cond.methodLink RX1 191 Lib.MathLoose.min_long.x, Cond.static Lib.MathLoose.min_long.x, Cond.code Lib.MathLoose.min_long.x Lib.MathLoose.min_long.code 4 (some .long), Cond.constantLong RX1 198 (100), Cond.methodLink RX1 116 yX4_number, Cond.instanceMethod yX4_number, Cond.selects RX4 yX4_number yX4_number, Cond.initialized RX4, Cond.code yX4_number cX4_number 3 (some .int), Cond.methodLink RX4 34 yX4_at, Cond.instanceMethod yX4_at]
def wsX1_findBest_r3 : List Cond := [Cond.selects RX4 yX4_at yX4_at, Cond.code yX4_at cX4_at 4 (some .long), Cond.fieldLink RX4 25 "ColdShips$Rows" "size" "I", Cond.fieldLink RX4 15 "ColdShips$Rows" "width" "I", Cond.fieldLink RX4 21 "ColdShips$Rows" "cells" "[J", Cond.methodLink RX1 151 yX10_hoursBetween, Cond.instanceMethod yX10_hoursBetween, Cond.selects RX10 yX10_hoursBetween yX10_hoursBetween, Cond.initialized RX10, Cond.code yX10_hoursBetween cX10_hoursBetween 4 (some .int), Cond.fieldLink RX10 27 "ColdShips$World" "terminals" "[LColdShips$Terminal;", Cond.methodLink RX10 93 yX10_hasTerminal, Cond.instanceMethod yX10_hasTerminal, Cond.selects RX10 yX10_hasTerminal yX10_hasTerminal, Cond.code yX10_hasTerminal cX10_hasTerminal 2 (some .boolean), Cond.fieldLink RX10 78 "ColdShips$World" "terminalCount" "I", Cond.methodLink RX1 158 yX7_top, Cond.instanceMethod yX7_top, Cond.selects RX7 yX7_top yX7_top, Cond.initialized RX7, Cond.code yX7_top cX7_top 1 (some .int), Cond.fieldLink RX7 9 "ColdShips$Tank" "cap" "I", Cond.methodLink RX1 175 yX8_hoursFor, Cond.instanceMethod yX8_hoursFor]
def wsX1_findBest_r4 : List Cond := [Cond.selects RX8 yX8_hoursFor yX8_hoursFor, Cond.initialized RX8, Cond.code yX8_hoursFor cX8_hoursFor 2 (some .int), Cond.fieldLink RX8 9 "ColdShips$Terminal" "rate" "I", Cond.methodLink RX1 180 yX6_hourBehind, Cond.instanceMethod yX6_hourBehind, Cond.selects RX6 yX6_hourBehind yX6_hourBehind, Cond.initialized RX6, Cond.code yX6_hourBehind cX6_hourBehind 8 (some .int), Cond.fieldLink RX6 27 "ColdShips$Spans" "size" "I", Cond.fieldLink RX6 21 "ColdShips$Spans" "begins" "[I", Cond.fieldLink RX6 15 "ColdShips$Spans" "owners" "[I", Cond.fieldLink RX6 24 "ColdShips$Spans" "ends" "[I", Cond.methodLink RX6 9 Lib.Math.max.name, Cond.methodLink RX1 194 yX4_at, Cond.methodLink RX1 112 yX1_keepRow, Cond.instanceMethod yX1_keepRow, Cond.selects RX1 yX1_keepRow yX1_keepRow, Cond.code yX1_keepRow cX1_keepRow 5 none, Cond.methodLink RX1 93 yX1_addShip, Cond.instanceMethod yX1_addShip, Cond.selects RX1 yX1_addShip yX1_addShip, Cond.code yX1_addShip cX1_addShip 6 none, Cond.methodLink RX1 122 yX1_joinSets]
def wsX1_findBest_r5 : List Cond := [Cond.instanceMethod yX1_joinSets, Cond.selects RX1 yX1_joinSets yX1_joinSets, Cond.code yX1_joinSets cX1_joinSets 10 none, Cond.methodLink RX1 97 yX1_isBetter, Cond.instanceMethod yX1_isBetter, Cond.selects RX1 yX1_isBetter yX1_isBetter, Cond.code yX1_isBetter cX1_isBetter 4 (some .boolean), Cond.methodLink RX1 126 yJ6_bitCount_0f7a4, Cond.static yJ6_bitCount_0f7a4, Cond.initialized RJ6, Cond.code yJ6_bitCount_0f7a4 cJ6_bitCount_0f7a4 1 (some .int), Cond.constant RJ6 265 (1431655765), Cond.constant RJ6 266 (858993459), Cond.constant RJ6 267 (252645135), Cond.methodLink RX1 101 yX1_keepPlan, Cond.instanceMethod yX1_keepPlan, Cond.selects RX1 yX1_keepPlan yX1_keepPlan, Cond.code yX1_keepPlan cX1_keepPlan 5 none, Cond.fieldLink RX1 132 "ColdShips$Planner" "planned" "I", Cond.fieldLink RX1 25 "ColdShips$Planner" "shipOf" "[I", Cond.methodLink RX1 135 yX1_keepVoyage, Cond.instanceMethod yX1_keepVoyage, Cond.selects RX1 yX1_keepVoyage yX1_keepVoyage, Cond.code yX1_keepVoyage cX1_keepVoyage 9 none]
def wsX1_findBest_r6 : List Cond := [Cond.fieldLink RX1 28 "ColdShips$Planner" "placeOf" "[I", Cond.fieldLink RX1 31 "ColdShips$Planner" "loadOf" "[I", Cond.fieldLink RX1 34 "ColdShips$Planner" "landOf" "[I", Cond.fieldLink RX1 37 "ColdShips$Planner" "worthOf" "[J", Cond.methodLink RX1 138 yX1_cargoAt, Cond.instanceMethod yX1_cargoAt, Cond.selects RX1 yX1_cargoAt yX1_cargoAt, Cond.code yX1_cargoAt cX1_cargoAt 5 (some .int)]
def wsX1_findBest : List Cond := .code yX1_findBest cX1_findBest 5 (some .long) :: ((wsX1_findBest_r1 ++ (wsX1_findBest_r2 ++ (wsX1_findBest_r3 ++ (wsX1_findBest_r4 ++ (wsX1_findBest_r5 ++ wsX1_findBest_r6))))) ++ wsX10 ++ wsX100 ++ wsX40 ++ wsX50 ++ wsX80 ++ wsX70 ++ wsX60)
def wsX1_worthOfRow_r1 : List Cond := [Cond.fieldLink RX1 40 "ColdShips$Planner" "world" "LColdShips$World;", Cond.constantLong RX1 66 (-2000000000000000), Cond.fieldLink RX1 108 "ColdShips$Planner" "worth" "J", Cond.fieldLink RX1 119 "ColdShips$Planner" "freeAt" "I", Cond.methodLink RX1 148 yX4_has, Cond.instanceMethod yX4_has, Cond.selects RX4 yX4_has yX4_has, Cond.initialized RX4, Cond.code yX4_has cX4_has 2 (some .boolean), Cond.fieldLink RX4 25 "ColdShips$Rows" "size" "I", Cond.methodLink RX1 104 yX1_reckon, Cond.instanceMethod yX1_reckon, Cond.selects RX1 yX1_reckon yX1_reckon, Cond.initialized RX1, Cond.code yX1_reckon cX1_reckon 14 (some .boolean), Cond.methodLink RX1 164 Lib.Math.max.name, Cond.static Lib.Math.max.name, Cond.initialized "java/lang/Math", Cond.code Lib.Math.max.name Lib.Math.max.code 2 (some .int), Cond.fieldLink RX1 142 "ColdShips$Planner" "loadAt" "I", Cond.fieldLink RX1 145 "ColdShips$Planner" "landAt" "I", Cond.constantLong RX1 189 (100000), Cond.methodLink RX1 191 Lib.MathLoose.min_long.x, Cond.static Lib.MathLoose.min_long.x]
def wsX1_worthOfRow_r2 : List Cond := [Cond.code Lib.MathLoose.min_long.x Lib.MathLoose.min_long.code 4 (some .long), Cond.constantLong RX1 198 (100), Cond.methodLink RX1 116 yX4_number, Cond.instanceMethod yX4_number, Cond.selects RX4 yX4_number yX4_number, Cond.code yX4_number cX4_number 3 (some .int), Cond.methodLink RX4 34 yX4_at, Cond.instanceMethod yX4_at, Cond.selects RX4 yX4_at yX4_at, Cond.code yX4_at cX4_at 4 (some .long), Cond.fieldLink RX4 15 "ColdShips$Rows" "width" "I", Cond.fieldLink RX4 21 "ColdShips$Rows" "cells" "[J", Cond.methodLink RX1 151 yX10_hoursBetween, Cond.instanceMethod yX10_hoursBetween, Cond.selects RX10 yX10_hoursBetween yX10_hoursBetween, Cond.initialized RX10, Cond.code yX10_hoursBetween cX10_hoursBetween 4 (some .int), Cond.fieldLink RX10 27 "ColdShips$World" "terminals" "[LColdShips$Terminal;", Cond.methodLink RX10 93 yX10_hasTerminal, Cond.instanceMethod yX10_hasTerminal, Cond.selects RX10 yX10_hasTerminal yX10_hasTerminal, Cond.code yX10_hasTerminal cX10_hasTerminal 2 (some .boolean), Cond.fieldLink RX10 78 "ColdShips$World" "terminalCount" "I", Cond.methodLink RX1 158 yX7_top]
def wsX1_worthOfRow_r3 : List Cond := [Cond.instanceMethod yX7_top, Cond.selects RX7 yX7_top yX7_top, Cond.initialized RX7, Cond.code yX7_top cX7_top 1 (some .int), Cond.fieldLink RX7 9 "ColdShips$Tank" "cap" "I", Cond.methodLink RX1 175 yX8_hoursFor, Cond.instanceMethod yX8_hoursFor, Cond.selects RX8 yX8_hoursFor yX8_hoursFor, Cond.initialized RX8, Cond.code yX8_hoursFor cX8_hoursFor 2 (some .int), Cond.fieldLink RX8 9 "ColdShips$Terminal" "rate" "I", Cond.methodLink RX1 180 yX6_hourBehind, Cond.instanceMethod yX6_hourBehind, Cond.selects RX6 yX6_hourBehind yX6_hourBehind, Cond.initialized RX6, Cond.code yX6_hourBehind cX6_hourBehind 8 (some .int), Cond.fieldLink RX6 27 "ColdShips$Spans" "size" "I", Cond.fieldLink RX6 21 "ColdShips$Spans" "begins" "[I", Cond.fieldLink RX6 15 "ColdShips$Spans" "owners" "[I", Cond.fieldLink RX6 24 "ColdShips$Spans" "ends" "[I", Cond.methodLink RX6 9 Lib.Math.max.name, Cond.methodLink RX1 194 yX4_at]
def wsX1_worthOfRow : List Cond := .code yX1_worthOfRow cX1_worthOfRow 13 (some .long) :: ((wsX1_worthOfRow_r1 ++ (wsX1_worthOfRow_r2 ++ wsX1_worthOfRow_r3)) ++ wsX10 ++ wsX100 ++ wsX50 ++ wsX40 ++ wsX80 ++ wsX70 ++ wsX60)
set_option maxRecDepth 20000 in
theorem ggX1_sails_X10_hasShip : GoodIn wsX1_sails wsX10_hasShip := goodIn_r _ [6, 7, 23, 24, 25, 26, 27, 28, 29, 30, 31, 32, 33, 34, 35, 36, 37, 38, 39, 40, 41] (by decide +kernel) (by decide +kernel)
set_option maxRecDepth 20000 in
theorem gX1_sails_X10_hasShip : GoodIn wsX1_sails (wsV RX1 44 RX10 yX10_hasShip wsX10_hasShip) := goodIn_app (goodIn_of _ (by decide +kernel)) ggX1_sails_X10_hasShip
theorem dX1_sails_0 : decode cX1_sails 0 = .ok (.aload_n 0, 1) := by decide +kernel
theorem dX1_sails_1 : decode cX1_sails 1 = .ok (.getfield 40, 3) := by decide +kernel
theorem dX1_sails_4 : decode cX1_sails 4 = .ok (.iload_n 1, 1) := by decide +kernel
theorem dX1_sails_5 : decode cX1_sails 5 = .ok (.invokevirtual 44, 3) := by decide +kernel
theorem dX1_sails_8 : decode cX1_sails 8 = .ok (.ifCond .eq 12, 3) := by decide +kernel
theorem dX1_sails_11 : decode cX1_sails 11 = .ok (.iload_n 1, 1) := by decide +kernel
theorem dX1_sails_12 : decode cX1_sails 12 = .ok (.iconst 3, 1) := by decide +kernel
theorem dX1_sails_13 : decode cX1_sails 13 = .ok (.if_icmp .ge 7, 3) := by decide +kernel
theorem dX1_sails_16 : decode cX1_sails 16 = .ok (.iconst 1, 1) := by decide +kernel
theorem dX1_sails_17 : decode cX1_sails 17 = .ok (.goto 4, 3) := by decide +kernel
theorem dX1_sails_20 : decode cX1_sails 20 = .ok (.iconst 0, 1) := by decide +kernel
theorem dX1_sails_21 : decode cX1_sails 21 = .ok (.ireturn, 1) := by decide +kernel
set_option maxRecDepth 20000 in
theorem ggX1_findBest_J7_fill_d0a16 : GoodIn wsX1_findBest wsJ7_fill_d0a16 := goodIn_r _ [14] (by decide +kernel) (by decide +kernel)
set_option maxRecDepth 20000 in
theorem gX1_findBest_J7_fill_d0a16 : GoodIn wsX1_findBest (va_wsS RX1 68 yJ7_fill_d0a16 wsJ7_fill_d0a16) := goodIn_app (goodIn_of _ (by decide +kernel)) ggX1_findBest_J7_fill_d0a16
set_option maxRecDepth 20000 in
theorem ggX1_findBest_J7_fill_bad5a : GoodIn wsX1_findBest wsJ7_fill_bad5a := goodIn_r _ [17, 18, 19, 13, 20] (by decide +kernel) (by decide +kernel)
set_option maxRecDepth 20000 in
theorem gX1_findBest_J7_fill_bad5a : GoodIn wsX1_findBest (va_wsS RX1 77 yJ7_fill_bad5a wsJ7_fill_bad5a) := goodIn_app (goodIn_of _ (by decide +kernel)) ggX1_findBest_J7_fill_bad5a
set_option maxRecDepth 20000 in
theorem ggX1_findBest_X1_extend : GoodIn wsX1_findBest wsX1_extend := goodIn_r _ [25, 1, 26, 27, 28, 29, 30, 24, 31, 32, 33, 4, 34, 35, 36, 37, 38, 39, 40, 41, 42, 43, 44, 45, 46, 47, 48, 49, 50, 51, 52, 53, 54, 55, 56, 57, 58, 59, 60, 61, 62, 63, 64, 65, 66, 67, 68, 69, 70, 71, 72, 73, 74, 75, 76, 77, 78, 79, 80, 81, 82, 83, 84, 85, 86, 87, 88, 89, 90, 91, 9, 10, 21, 22, 23, 129, 130, 131, 132, 133, 134, 135, 136, 137, 138, 139, 140, 141, 142, 143, 144, 145, 146, 147, 148, 149, 150, 151, 152, 153, 154, 155, 156, 157, 158, 159, 160, 161, 162, 163, 164, 165, 166, 167, 168, 169, 170, 171, 172, 173, 174, 175, 176, 177, 178, 179, 180, 181, 182, 183, 184, 185, 186, 187, 188, 189, 190, 191, 192, 193, 194, 195, 196, 197, 198, 199, 200] (by decide +kernel) (by decide +kernel)
set_option maxRecDepth 20000 in
theorem gX1_findBest_X1_extend : GoodIn wsX1_findBest (wsV RX1 89 RX1 yX1_extend wsX1_extend) := goodIn_app (goodIn_of _ (by decide +kernel)) ggX1_findBest_X1_extend
set_option maxRecDepth 20000 in
theorem ggX1_findBest_X1_addShip : GoodIn wsX1_findBest wsX1_addShip := goodIn_r _ [95, 9, 7, 6, 96, 97, 98, 24, 99, 8, 129, 130, 131, 132, 133, 134, 135, 136, 137, 138, 139, 140, 141, 142, 143] (by decide +kernel) (by decide +kernel)
set_option maxRecDepth 20000 in
theorem gX1_findBest_X1_addShip : GoodIn wsX1_findBest (wsV RX1 93 RX1 yX1_addShip wsX1_addShip) := goodIn_app (goodIn_of _ (by decide +kernel)) ggX1_findBest_X1_addShip
set_option maxRecDepth 20000 in
theorem ggX1_findBest_X1_isBetter : GoodIn wsX1_findBest wsX1_isBetter := goodIn_r _ [103, 6, 8, 104, 105, 106, 107, 108, 109, 110, 129, 130, 131, 132, 133, 134, 135, 136, 137, 138, 139, 140, 141, 142, 143] (by decide +kernel) (by decide +kernel)
set_option maxRecDepth 20000 in
theorem gX1_findBest_X1_isBetter : GoodIn wsX1_findBest (wsV RX1 97 RX1 yX1_isBetter wsX1_isBetter) := goodIn_app (goodIn_of _ (by decide +kernel)) ggX1_findBest_X1_isBetter
set_option maxRecDepth 20000 in
theorem ggX1_findBest_X1_keepPlan : GoodIn wsX1_findBest wsX1_keepPlan := goodIn_r _ [114, 1, 2, 3, 4, 5, 115, 116, 117, 118, 119, 24, 120, 10, 121, 122, 35, 123, 36, 124, 26, 27, 125, 126, 127, 128, 28, 29, 30, 31, 32, 33, 34, 37, 38, 39, 40, 41, 42, 43, 44, 45, 46, 47, 48, 49, 50, 51, 52, 53, 54, 55, 56, 57, 58, 59, 60, 61, 62, 63, 64, 65, 66, 67, 68, 69, 70, 71, 72, 73, 74, 75, 76, 77, 78, 79, 80, 81, 82, 83, 84, 85, 86, 87, 129, 130, 131, 132, 133, 134, 135, 136, 137, 138, 139, 140, 141, 142, 143, 144, 145, 146, 147, 148, 149, 150, 151, 152, 153, 154, 155, 156, 157, 158, 159, 160, 161, 162, 163, 164, 165, 166, 167, 168, 169, 170, 171, 172, 173, 174, 175, 176, 177, 178, 179, 180, 181, 182, 183, 184, 185, 186, 187, 188, 189, 190, 191, 192, 193, 194, 195, 196, 197, 198, 199, 200] (by decide +kernel) (by decide +kernel)
set_option maxRecDepth 20000 in
theorem gX1_findBest_X1_keepPlan : GoodIn wsX1_findBest (wsV RX1 101 RX1 yX1_keepPlan wsX1_keepPlan) := goodIn_app (goodIn_of _ (by decide +kernel)) ggX1_findBest_X1_keepPlan
theorem dX1_findBest_0 : decode cX1_findBest 0 = .ok (.iconst 1, 1) := by decide +kernel
theorem dX1_findBest_1 : decode cX1_findBest 1 = .ok (.bipush 6, 2) := by decide +kernel
theorem dX1_findBest_3 : decode cX1_findBest 3 = .ok (.aload_n 0, 1) := by decide +kernel
theorem dX1_findBest_4 : decode cX1_findBest 4 = .ok (.getfield 40, 3) := by decide +kernel
theorem dX1_findBest_7 : decode cX1_findBest 7 = .ok (.getfield 50, 3) := by decide +kernel
theorem dX1_findBest_10 : decode cX1_findBest 10 = .ok (.getfield 54, 3) := by decide +kernel
theorem dX1_findBest_13 : decode cX1_findBest 13 = .ok (.invokestatic 60, 3) := by decide +kernel
theorem dX1_findBest_16 : decode cX1_findBest 16 = .ok (.ishl, 1) := by decide +kernel
theorem dX1_findBest_17 : decode cX1_findBest 17 = .ok (.istore_n 2, 1) := by decide +kernel
theorem dX1_findBest_18 : decode cX1_findBest 18 = .ok (.aload_n 0, 1) := by decide +kernel
theorem dX1_findBest_19 : decode cX1_findBest 19 = .ok (.getfield 19, 3) := by decide +kernel
theorem dX1_findBest_22 : decode cX1_findBest 22 = .ok (.ldc2_w 66, 3) := by decide +kernel
theorem dX1_findBest_25 : decode cX1_findBest 25 = .ok (.invokestatic 68, 3) := by decide +kernel
theorem dX1_findBest_28 : decode cX1_findBest 28 = .ok (.aload_n 0, 1) := by decide +kernel
theorem dX1_findBest_29 : decode cX1_findBest 29 = .ok (.getfield 19, 3) := by decide +kernel
theorem dX1_findBest_32 : decode cX1_findBest 32 = .ok (.iconst 0, 1) := by decide +kernel
theorem dX1_findBest_33 : decode cX1_findBest 33 = .ok (.lconst 0, 1) := by decide +kernel
theorem dX1_findBest_34 : decode cX1_findBest 34 = .ok (.lastore, 1) := by decide +kernel
theorem dX1_findBest_35 : decode cX1_findBest 35 = .ok (.aload_n 0, 1) := by decide +kernel
theorem dX1_findBest_36 : decode cX1_findBest 36 = .ok (.getfield 22, 3) := by decide +kernel
theorem dX1_findBest_39 : decode cX1_findBest 39 = .ok (.iconst 0, 1) := by decide +kernel
theorem dX1_findBest_40 : decode cX1_findBest 40 = .ok (.sipush 4095, 3) := by decide +kernel
theorem dX1_findBest_43 : decode cX1_findBest 43 = .ok (.iastore, 1) := by decide +kernel
theorem dX1_findBest_44 : decode cX1_findBest 44 = .ok (.iconst 0, 1) := by decide +kernel
theorem dX1_findBest_45 : decode cX1_findBest 45 = .ok (.istore_n 3, 1) := by decide +kernel
theorem dX1_findBest_46 : decode cX1_findBest 46 = .ok (.iload_n 3, 1) := by decide +kernel
theorem dX1_findBest_47 : decode cX1_findBest 47 = .ok (.iconst 3, 1) := by decide +kernel
theorem dX1_findBest_48 : decode cX1_findBest 48 = .ok (.if_icmp .ge 88, 3) := by decide +kernel
theorem dX1_findBest_51 : decode cX1_findBest 51 = .ok (.iload_n 3, 1) := by decide +kernel
theorem dX1_findBest_52 : decode cX1_findBest 52 = .ok (.aload_n 0, 1) := by decide +kernel
theorem dX1_findBest_53 : decode cX1_findBest 53 = .ok (.getfield 40, 3) := by decide +kernel
theorem dX1_findBest_56 : decode cX1_findBest 56 = .ok (.getfield 74, 3) := by decide +kernel
theorem dX1_findBest_59 : decode cX1_findBest 59 = .ok (.if_icmp .ge 77, 3) := by decide +kernel
theorem dX1_findBest_62 : decode cX1_findBest 62 = .ok (.aload_n 0, 1) := by decide +kernel
theorem dX1_findBest_63 : decode cX1_findBest 63 = .ok (.getfield 11, 3) := by decide +kernel
theorem dX1_findBest_66 : decode cX1_findBest 66 = .ok (.iload_n 3, 1) := by decide +kernel
theorem dX1_findBest_67 : decode cX1_findBest 67 = .ok (.bipush 64, 2) := by decide +kernel
theorem dX1_findBest_69 : decode cX1_findBest 69 = .ok (.imul, 1) := by decide +kernel
theorem dX1_findBest_70 : decode cX1_findBest 70 = .ok (.iload_n 3, 1) := by decide +kernel
theorem dX1_findBest_71 : decode cX1_findBest 71 = .ok (.iconst 1, 1) := by decide +kernel
theorem dX1_findBest_72 : decode cX1_findBest 72 = .ok (.iadd, 1) := by decide +kernel
theorem dX1_findBest_73 : decode cX1_findBest 73 = .ok (.bipush 64, 2) := by decide +kernel
theorem dX1_findBest_75 : decode cX1_findBest 75 = .ok (.imul, 1) := by decide +kernel
theorem dX1_findBest_76 : decode cX1_findBest 76 = .ok (.ldc2_w 66, 3) := by decide +kernel
theorem dX1_findBest_79 : decode cX1_findBest 79 = .ok (.invokestatic 77, 3) := by decide +kernel
theorem dX1_findBest_82 : decode cX1_findBest 82 = .ok (.aload_n 0, 1) := by decide +kernel
theorem dX1_findBest_83 : decode cX1_findBest 83 = .ok (.getfield 11, 3) := by decide +kernel
theorem dX1_findBest_86 : decode cX1_findBest 86 = .ok (.iload_n 3, 1) := by decide +kernel
theorem dX1_findBest_87 : decode cX1_findBest 87 = .ok (.bipush 64, 2) := by decide +kernel
theorem dX1_findBest_89 : decode cX1_findBest 89 = .ok (.imul, 1) := by decide +kernel
theorem dX1_findBest_90 : decode cX1_findBest 90 = .ok (.lconst 0, 1) := by decide +kernel
theorem dX1_findBest_91 : decode cX1_findBest 91 = .ok (.lastore, 1) := by decide +kernel
theorem dX1_findBest_92 : decode cX1_findBest 92 = .ok (.aload_n 0, 1) := by decide +kernel
theorem dX1_findBest_93 : decode cX1_findBest 93 = .ok (.getfield 15, 3) := by decide +kernel
theorem dX1_findBest_96 : decode cX1_findBest 96 = .ok (.iload_n 3, 1) := by decide +kernel
theorem dX1_findBest_97 : decode cX1_findBest 97 = .ok (.bipush 64, 2) := by decide +kernel
theorem dX1_findBest_99 : decode cX1_findBest 99 = .ok (.imul, 1) := by decide +kernel
theorem dX1_findBest_100 : decode cX1_findBest 100 = .ok (.iconst 0, 1) := by decide +kernel
theorem dX1_findBest_101 : decode cX1_findBest 101 = .ok (.iastore, 1) := by decide +kernel
theorem dX1_findBest_102 : decode cX1_findBest 102 = .ok (.aload_n 0, 1) := by decide +kernel
theorem dX1_findBest_103 : decode cX1_findBest 103 = .ok (.iload_n 3, 1) := by decide +kernel
theorem dX1_findBest_104 : decode cX1_findBest 104 = .ok (.iconst 0, 1) := by decide +kernel
theorem dX1_findBest_105 : decode cX1_findBest 105 = .ok (.iconst 0, 1) := by decide +kernel
theorem dX1_findBest_106 : decode cX1_findBest 106 = .ok (.aload_n 0, 1) := by decide +kernel
theorem dX1_findBest_107 : decode cX1_findBest 107 = .ok (.getfield 40, 3) := by decide +kernel
theorem dX1_findBest_110 : decode cX1_findBest 110 = .ok (.getfield 80, 3) := by decide +kernel
theorem dX1_findBest_113 : decode cX1_findBest 113 = .ok (.iload_n 3, 1) := by decide +kernel
theorem dX1_findBest_114 : decode cX1_findBest 114 = .ok (.aaload, 1) := by decide +kernel
theorem dX1_findBest_115 : decode cX1_findBest 115 = .ok (.getfield 84, 3) := by decide +kernel
theorem dX1_findBest_118 : decode cX1_findBest 118 = .ok (.iload_n 1, 1) := by decide +kernel
theorem dX1_findBest_119 : decode cX1_findBest 119 = .ok (.lconst 0, 1) := by decide +kernel
theorem dX1_findBest_120 : decode cX1_findBest 120 = .ok (.iconst 0, 1) := by decide +kernel
theorem dX1_findBest_121 : decode cX1_findBest 121 = .ok (.invokevirtual 89, 3) := by decide +kernel
theorem dX1_findBest_124 : decode cX1_findBest 124 = .ok (.aload_n 0, 1) := by decide +kernel
theorem dX1_findBest_125 : decode cX1_findBest 125 = .ok (.iload_n 3, 1) := by decide +kernel
theorem dX1_findBest_126 : decode cX1_findBest 126 = .ok (.iload_n 2, 1) := by decide +kernel
theorem dX1_findBest_127 : decode cX1_findBest 127 = .ok (.invokevirtual 93, 3) := by decide +kernel
theorem dX1_findBest_130 : decode cX1_findBest 130 = .ok (.iinc 3 1, 3) := by decide +kernel
theorem dX1_findBest_133 : decode cX1_findBest 133 = .ok (.goto (-87), 3) := by decide +kernel
theorem dX1_findBest_136 : decode cX1_findBest 136 = .ok (.iconst 0, 1) := by decide +kernel
theorem dX1_findBest_137 : decode cX1_findBest 137 = .ok (.istore_n 3, 1) := by decide +kernel
theorem dX1_findBest_138 : decode cX1_findBest 138 = .ok (.iconst 1, 1) := by decide +kernel
theorem dX1_findBest_139 : decode cX1_findBest 139 = .ok (.istore 4, 2) := by decide +kernel
theorem dX1_findBest_141 : decode cX1_findBest 141 = .ok (.iload 4, 2) := by decide +kernel
theorem dX1_findBest_143 : decode cX1_findBest 143 = .ok (.iload_n 2, 1) := by decide +kernel
theorem dX1_findBest_144 : decode cX1_findBest 144 = .ok (.if_icmp .ge 22, 3) := by decide +kernel
theorem dX1_findBest_147 : decode cX1_findBest 147 = .ok (.aload_n 0, 1) := by decide +kernel
theorem dX1_findBest_148 : decode cX1_findBest 148 = .ok (.iload 4, 2) := by decide +kernel
theorem dX1_findBest_150 : decode cX1_findBest 150 = .ok (.iload_n 3, 1) := by decide +kernel
theorem dX1_findBest_151 : decode cX1_findBest 151 = .ok (.invokevirtual 97, 3) := by decide +kernel
theorem dX1_findBest_154 : decode cX1_findBest 154 = .ok (.ifCond .eq 6, 3) := by decide +kernel
theorem dX1_findBest_157 : decode cX1_findBest 157 = .ok (.iload 4, 2) := by decide +kernel
theorem dX1_findBest_159 : decode cX1_findBest 159 = .ok (.istore_n 3, 1) := by decide +kernel
theorem dX1_findBest_160 : decode cX1_findBest 160 = .ok (.iinc 4 1, 3) := by decide +kernel
theorem dX1_findBest_163 : decode cX1_findBest 163 = .ok (.goto (-22), 3) := by decide +kernel
theorem dX1_findBest_166 : decode cX1_findBest 166 = .ok (.aload_n 0, 1) := by decide +kernel
theorem dX1_findBest_167 : decode cX1_findBest 167 = .ok (.aload_n 0, 1) := by decide +kernel
theorem dX1_findBest_168 : decode cX1_findBest 168 = .ok (.getfield 22, 3) := by decide +kernel
theorem dX1_findBest_171 : decode cX1_findBest 171 = .ok (.iload_n 3, 1) := by decide +kernel
theorem dX1_findBest_172 : decode cX1_findBest 172 = .ok (.iaload, 1) := by decide +kernel
theorem dX1_findBest_173 : decode cX1_findBest 173 = .ok (.iload_n 1, 1) := by decide +kernel
theorem dX1_findBest_174 : decode cX1_findBest 174 = .ok (.invokevirtual 101, 3) := by decide +kernel
theorem dX1_findBest_177 : decode cX1_findBest 177 = .ok (.aload_n 0, 1) := by decide +kernel
theorem dX1_findBest_178 : decode cX1_findBest 178 = .ok (.getfield 19, 3) := by decide +kernel
theorem dX1_findBest_181 : decode cX1_findBest 181 = .ok (.iload_n 3, 1) := by decide +kernel
theorem dX1_findBest_182 : decode cX1_findBest 182 = .ok (.laload, 1) := by decide +kernel
theorem dX1_findBest_183 : decode cX1_findBest 183 = .ok (.lreturn, 1) := by decide +kernel
set_option maxRecDepth 20000 in
theorem ggX1_extend_X1_reckon : GoodIn wsX1_extend wsX1_reckon := goodIn_r _ [8, 1, 9, 10, 11, 12, 13, 14, 3, 15, 16, 17, 18, 19, 2, 20, 21, 22, 23, 24, 25, 26, 27, 28, 29, 30, 31, 32, 33, 34, 35, 36, 37, 38, 39, 40, 41, 42, 43, 44, 45, 46, 47, 48, 49, 50, 51, 52, 53, 54, 55, 56, 57, 58, 59, 60, 61, 62, 63, 64, 65, 75, 76, 77, 78, 79, 80, 81, 82, 83, 84, 85, 86, 87, 88, 89, 90, 91, 92, 93, 94, 95, 96, 97, 98, 99, 100, 101, 102, 103, 104, 105, 106, 107, 108, 112, 113, 114, 115, 116, 117, 118, 119, 120, 121, 122, 123, 124, 125, 126, 127, 128, 109, 110, 111, 129, 130, 131, 132, 133, 134, 135, 136, 137, 138, 139, 140, 141, 142, 143, 144, 145, 146] (by decide +kernel) (by decide +kernel)
set_option maxRecDepth 20000 in
theorem gX1_extend_X1_reckon : GoodIn wsX1_extend (wsV RX1 104 RX1 yX1_reckon wsX1_reckon) := goodIn_app (goodIn_of _ (by decide +kernel)) ggX1_extend_X1_reckon
set_option maxRecDepth 20000 in
theorem ggX1_extend_X1_keepRow : GoodIn wsX1_extend wsX1_keepRow := goodIn_r _ [69, 70, 71, 75, 76, 77, 78, 79, 80, 81, 82, 83, 84, 85, 86, 87, 88, 89] (by decide +kernel) (by decide +kernel)
set_option maxRecDepth 20000 in
theorem gX1_extend_X1_keepRow : GoodIn wsX1_extend (wsV RX1 112 RX1 yX1_keepRow wsX1_keepRow) := goodIn_app (goodIn_of _ (by decide +kernel)) ggX1_extend_X1_keepRow
set_option maxRecDepth 20000 in
theorem ggX1_extend_X4_number : GoodIn wsX1_extend wsX4_number := goodIn_r _ [24, 25, 26, 27, 23, 28, 29, 30, 31, 109, 110, 111] (by decide +kernel) (by decide +kernel)
set_option maxRecDepth 20000 in
theorem gX1_extend_X4_number : GoodIn wsX1_extend (wsV RX1 116 RX4 yX4_number wsX4_number) := goodIn_app (goodIn_of _ (by decide +kernel)) ggX1_extend_X4_number
set_option maxRecDepth 20000 in
theorem ggX1_extend_X1_extend : GoodIn wsX1_extend wsX1_extend := goodIn_r _ [0, 1, 2, 3, 4, 5, 6, 7, 8, 9, 10, 11, 12, 13, 14, 15, 16, 17, 18, 19, 20, 21, 22, 23, 24, 25, 26, 27, 28, 29, 30, 31, 32, 33, 34, 35, 36, 37, 38, 39, 40, 41, 42, 43, 44, 45, 46, 47, 48, 49, 50, 51, 52, 53, 54, 55, 56, 57, 58, 59, 60, 61, 62, 63, 64, 65, 66, 67, 68, 69, 70, 71, 72, 73, 74, 75, 76, 77, 78, 79, 80, 81, 82, 83, 84, 85, 86, 87, 88, 89, 90, 91, 92, 93, 94, 95, 96, 97, 98, 99, 100, 101, 102, 103, 104, 105, 106, 107, 108, 109, 110, 111, 112, 113, 114, 115, 116, 117, 118, 119, 120, 121, 122, 123, 124, 125, 126, 127, 128, 129, 130, 131, 132, 133, 134, 135, 136, 137, 138, 139, 140, 141, 142, 143, 144, 145, 146] (by decide +kernel) (by decide +kernel)
set_option maxRecDepth 20000 in
theorem gX1_extend_X1_extend : GoodIn wsX1_extend (wsV RX1 89 RX1 yX1_extend wsX1_extend) := goodIn_app (goodIn_of _ (by decide +kernel)) ggX1_extend_X1_extend
theorem dX1_extend_0 : decode cX1_extend 0 = .ok (.iload_n 2, 1) := by decide +kernel
theorem dX1_extend_1 : decode cX1_extend 1 = .ok (.bipush 6, 2) := by decide +kernel
theorem dX1_extend_3 : decode cX1_extend 3 = .ok (.if_icmp .lt 4, 3) := by decide +kernel
theorem dX1_extend_6 : decode cX1_extend 6 = .ok (.return_, 1) := by decide +kernel
theorem dX1_extend_7 : decode cX1_extend 7 = .ok (.iconst 0, 1) := by decide +kernel
theorem dX1_extend_8 : decode cX1_extend 8 = .ok (.istore 9, 2) := by decide +kernel
theorem dX1_extend_10 : decode cX1_extend 10 = .ok (.iload 9, 2) := by decide +kernel
theorem dX1_extend_12 : decode cX1_extend 12 = .ok (.aload_n 0, 1) := by decide +kernel
theorem dX1_extend_13 : decode cX1_extend 13 = .ok (.getfield 40, 3) := by decide +kernel
theorem dX1_extend_16 : decode cX1_extend 16 = .ok (.getfield 50, 3) := by decide +kernel
theorem dX1_extend_19 : decode cX1_extend 19 = .ok (.getfield 54, 3) := by decide +kernel
theorem dX1_extend_22 : decode cX1_extend 22 = .ok (.if_icmp .ge 115, 3) := by decide +kernel
theorem dX1_extend_25 : decode cX1_extend 25 = .ok (.iload 9, 2) := by decide +kernel
theorem dX1_extend_27 : decode cX1_extend 27 = .ok (.bipush 6, 2) := by decide +kernel
theorem dX1_extend_29 : decode cX1_extend 29 = .ok (.if_icmp .ge 108, 3) := by decide +kernel
theorem dX1_extend_32 : decode cX1_extend 32 = .ok (.iload_n 3, 1) := by decide +kernel
theorem dX1_extend_33 : decode cX1_extend 33 = .ok (.iload 9, 2) := by decide +kernel
theorem dX1_extend_35 : decode cX1_extend 35 = .ok (.ishr, 1) := by decide +kernel
theorem dX1_extend_36 : decode cX1_extend 36 = .ok (.iconst 1, 1) := by decide +kernel
theorem dX1_extend_37 : decode cX1_extend 37 = .ok (.iand, 1) := by decide +kernel
theorem dX1_extend_38 : decode cX1_extend 38 = .ok (.ifCond .ne 93, 3) := by decide +kernel
theorem dX1_extend_41 : decode cX1_extend 41 = .ok (.aload_n 0, 1) := by decide +kernel
theorem dX1_extend_42 : decode cX1_extend 42 = .ok (.iload_n 1, 1) := by decide +kernel
theorem dX1_extend_43 : decode cX1_extend 43 = .ok (.iload 9, 2) := by decide +kernel
theorem dX1_extend_45 : decode cX1_extend 45 = .ok (.iload 4, 2) := by decide +kernel
theorem dX1_extend_47 : decode cX1_extend 47 = .ok (.iload 5, 2) := by decide +kernel
theorem dX1_extend_49 : decode cX1_extend 49 = .ok (.invokevirtual 104, 3) := by decide +kernel
theorem dX1_extend_52 : decode cX1_extend 52 = .ok (.ifCond .eq 79, 3) := by decide +kernel
theorem dX1_extend_55 : decode cX1_extend 55 = .ok (.iload_n 3, 1) := by decide +kernel
theorem dX1_extend_56 : decode cX1_extend 56 = .ok (.iconst 1, 1) := by decide +kernel
theorem dX1_extend_57 : decode cX1_extend 57 = .ok (.iload 9, 2) := by decide +kernel
theorem dX1_extend_59 : decode cX1_extend 59 = .ok (.ishl, 1) := by decide +kernel
theorem dX1_extend_60 : decode cX1_extend 60 = .ok (.ior, 1) := by decide +kernel
theorem dX1_extend_61 : decode cX1_extend 61 = .ok (.istore 10, 2) := by decide +kernel
theorem dX1_extend_63 : decode cX1_extend 63 = .ok (.iload 8, 2) := by decide +kernel
theorem dX1_extend_65 : decode cX1_extend 65 = .ok (.iload_n 2, 1) := by decide +kernel
theorem dX1_extend_66 : decode cX1_extend 66 = .ok (.iconst 3, 1) := by decide +kernel
theorem dX1_extend_67 : decode cX1_extend 67 = .ok (.iconst 5, 1) := by decide +kernel
theorem dX1_extend_68 : decode cX1_extend 68 = .ok (.iload 9, 2) := by decide +kernel
theorem dX1_extend_70 : decode cX1_extend 70 = .ok (.isub, 1) := by decide +kernel
theorem dX1_extend_71 : decode cX1_extend 71 = .ok (.imul, 1) := by decide +kernel
theorem dX1_extend_72 : decode cX1_extend 72 = .ok (.ishl, 1) := by decide +kernel
theorem dX1_extend_73 : decode cX1_extend 73 = .ok (.ior, 1) := by decide +kernel
theorem dX1_extend_74 : decode cX1_extend 74 = .ok (.istore 11, 2) := by decide +kernel
theorem dX1_extend_76 : decode cX1_extend 76 = .ok (.lload 6, 2) := by decide +kernel
theorem dX1_extend_78 : decode cX1_extend 78 = .ok (.aload_n 0, 1) := by decide +kernel
theorem dX1_extend_79 : decode cX1_extend 79 = .ok (.getfield 108, 3) := by decide +kernel
theorem dX1_extend_82 : decode cX1_extend 82 = .ok (.ladd, 1) := by decide +kernel
theorem dX1_extend_83 : decode cX1_extend 83 = .ok (.lstore 12, 2) := by decide +kernel
theorem dX1_extend_85 : decode cX1_extend 85 = .ok (.aload_n 0, 1) := by decide +kernel
theorem dX1_extend_86 : decode cX1_extend 86 = .ok (.iload_n 1, 1) := by decide +kernel
theorem dX1_extend_87 : decode cX1_extend 87 = .ok (.bipush 64, 2) := by decide +kernel
theorem dX1_extend_89 : decode cX1_extend 89 = .ok (.imul, 1) := by decide +kernel
theorem dX1_extend_90 : decode cX1_extend 90 = .ok (.iload 10, 2) := by decide +kernel
theorem dX1_extend_92 : decode cX1_extend 92 = .ok (.iadd, 1) := by decide +kernel
theorem dX1_extend_93 : decode cX1_extend 93 = .ok (.lload 12, 2) := by decide +kernel
theorem dX1_extend_95 : decode cX1_extend 95 = .ok (.iload 11, 2) := by decide +kernel
theorem dX1_extend_97 : decode cX1_extend 97 = .ok (.invokevirtual 112, 3) := by decide +kernel
theorem dX1_extend_100 : decode cX1_extend 100 = .ok (.aload_n 0, 1) := by decide +kernel
theorem dX1_extend_101 : decode cX1_extend 101 = .ok (.iload_n 1, 1) := by decide +kernel
theorem dX1_extend_102 : decode cX1_extend 102 = .ok (.iload_n 2, 1) := by decide +kernel
theorem dX1_extend_103 : decode cX1_extend 103 = .ok (.iconst 1, 1) := by decide +kernel
theorem dX1_extend_104 : decode cX1_extend 104 = .ok (.iadd, 1) := by decide +kernel
theorem dX1_extend_105 : decode cX1_extend 105 = .ok (.iload 10, 2) := by decide +kernel
theorem dX1_extend_107 : decode cX1_extend 107 = .ok (.aload_n 0, 1) := by decide +kernel
theorem dX1_extend_108 : decode cX1_extend 108 = .ok (.getfield 40, 3) := by decide +kernel
theorem dX1_extend_111 : decode cX1_extend 111 = .ok (.getfield 50, 3) := by decide +kernel
theorem dX1_extend_114 : decode cX1_extend 114 = .ok (.iload 9, 2) := by decide +kernel
theorem dX1_extend_116 : decode cX1_extend 116 = .ok (.iconst 1, 1) := by decide +kernel
theorem dX1_extend_117 : decode cX1_extend 117 = .ok (.invokevirtual 116, 3) := by decide +kernel
theorem dX1_extend_120 : decode cX1_extend 120 = .ok (.aload_n 0, 1) := by decide +kernel
theorem dX1_extend_121 : decode cX1_extend 121 = .ok (.getfield 119, 3) := by decide +kernel
theorem dX1_extend_124 : decode cX1_extend 124 = .ok (.lload 12, 2) := by decide +kernel
theorem dX1_extend_126 : decode cX1_extend 126 = .ok (.iload 11, 2) := by decide +kernel
theorem dX1_extend_128 : decode cX1_extend 128 = .ok (.invokevirtual 89, 3) := by decide +kernel
theorem dX1_extend_131 : decode cX1_extend 131 = .ok (.iinc 9 1, 3) := by decide +kernel
theorem dX1_extend_134 : decode cX1_extend 134 = .ok (.goto (-124), 3) := by decide +kernel
theorem dX1_extend_137 : decode cX1_extend 137 = .ok (.return_, 1) := by decide +kernel
theorem dX1_keepRow_0 : decode cX1_keepRow 0 = .ok (.iload_n 1, 1) := by decide +kernel
theorem dX1_keepRow_1 : decode cX1_keepRow 1 = .ok (.ifCond .lt 12, 3) := by decide +kernel
theorem dX1_keepRow_4 : decode cX1_keepRow 4 = .ok (.iload_n 1, 1) := by decide +kernel
theorem dX1_keepRow_5 : decode cX1_keepRow 5 = .ok (.aload_n 0, 1) := by decide +kernel
theorem dX1_keepRow_6 : decode cX1_keepRow 6 = .ok (.getfield 11, 3) := by decide +kernel
theorem dX1_keepRow_9 : decode cX1_keepRow 9 = .ok (.arraylength, 1) := by decide +kernel
theorem dX1_keepRow_10 : decode cX1_keepRow 10 = .ok (.if_icmp .lt 4, 3) := by decide +kernel
theorem dX1_keepRow_13 : decode cX1_keepRow 13 = .ok (.return_, 1) := by decide +kernel
theorem dX1_keepRow_14 : decode cX1_keepRow 14 = .ok (.lload_n 2, 1) := by decide +kernel
theorem dX1_keepRow_15 : decode cX1_keepRow 15 = .ok (.aload_n 0, 1) := by decide +kernel
theorem dX1_keepRow_16 : decode cX1_keepRow 16 = .ok (.getfield 11, 3) := by decide +kernel
theorem dX1_keepRow_19 : decode cX1_keepRow 19 = .ok (.iload_n 1, 1) := by decide +kernel
theorem dX1_keepRow_20 : decode cX1_keepRow 20 = .ok (.laload, 1) := by decide +kernel
theorem dX1_keepRow_21 : decode cX1_keepRow 21 = .ok (.lcmp, 1) := by decide +kernel
theorem dX1_keepRow_22 : decode cX1_keepRow 22 = .ok (.ifCond .gt 25, 3) := by decide +kernel
theorem dX1_keepRow_25 : decode cX1_keepRow 25 = .ok (.lload_n 2, 1) := by decide +kernel
theorem dX1_keepRow_26 : decode cX1_keepRow 26 = .ok (.aload_n 0, 1) := by decide +kernel
theorem dX1_keepRow_27 : decode cX1_keepRow 27 = .ok (.getfield 11, 3) := by decide +kernel
theorem dX1_keepRow_30 : decode cX1_keepRow 30 = .ok (.iload_n 1, 1) := by decide +kernel
theorem dX1_keepRow_31 : decode cX1_keepRow 31 = .ok (.laload, 1) := by decide +kernel
theorem dX1_keepRow_32 : decode cX1_keepRow 32 = .ok (.lcmp, 1) := by decide +kernel
theorem dX1_keepRow_33 : decode cX1_keepRow 33 = .ok (.ifCond .ne 29, 3) := by decide +kernel
theorem dX1_keepRow_36 : decode cX1_keepRow 36 = .ok (.iload 4, 2) := by decide +kernel
theorem dX1_keepRow_38 : decode cX1_keepRow 38 = .ok (.aload_n 0, 1) := by decide +kernel
theorem dX1_keepRow_39 : decode cX1_keepRow 39 = .ok (.getfield 15, 3) := by decide +kernel
theorem dX1_keepRow_42 : decode cX1_keepRow 42 = .ok (.iload_n 1, 1) := by decide +kernel
theorem dX1_keepRow_43 : decode cX1_keepRow 43 = .ok (.iaload, 1) := by decide +kernel
theorem dX1_keepRow_44 : decode cX1_keepRow 44 = .ok (.if_icmp .ge 18, 3) := by decide +kernel
theorem dX1_keepRow_47 : decode cX1_keepRow 47 = .ok (.aload_n 0, 1) := by decide +kernel
theorem dX1_keepRow_48 : decode cX1_keepRow 48 = .ok (.getfield 11, 3) := by decide +kernel
theorem dX1_keepRow_51 : decode cX1_keepRow 51 = .ok (.iload_n 1, 1) := by decide +kernel
theorem dX1_keepRow_52 : decode cX1_keepRow 52 = .ok (.lload_n 2, 1) := by decide +kernel
theorem dX1_keepRow_53 : decode cX1_keepRow 53 = .ok (.lastore, 1) := by decide +kernel
theorem dX1_keepRow_54 : decode cX1_keepRow 54 = .ok (.aload_n 0, 1) := by decide +kernel
theorem dX1_keepRow_55 : decode cX1_keepRow 55 = .ok (.getfield 15, 3) := by decide +kernel
theorem dX1_keepRow_58 : decode cX1_keepRow 58 = .ok (.iload_n 1, 1) := by decide +kernel
theorem dX1_keepRow_59 : decode cX1_keepRow 59 = .ok (.iload 4, 2) := by decide +kernel
theorem dX1_keepRow_61 : decode cX1_keepRow 61 = .ok (.iastore, 1) := by decide +kernel
theorem dX1_keepRow_62 : decode cX1_keepRow 62 = .ok (.return_, 1) := by decide +kernel
set_option maxRecDepth 20000 in
theorem ggX1_addShip_X1_joinSets : GoodIn wsX1_addShip wsX1_joinSets := goodIn_r _ [8, 3, 1, 9, 10, 11, 12, 13, 14, 15, 16, 17, 18, 19, 20, 21, 22, 23, 24] (by decide +kernel) (by decide +kernel)
set_option maxRecDepth 20000 in
theorem gX1_addShip_X1_joinSets : GoodIn wsX1_addShip (wsV RX1 122 RX1 yX1_joinSets wsX1_joinSets) := goodIn_app (goodIn_of _ (by decide +kernel)) ggX1_addShip_X1_joinSets
theorem dX1_addShip_0 : decode cX1_addShip 0 = .ok (.iload_n 2, 1) := by decide +kernel
theorem dX1_addShip_1 : decode cX1_addShip 1 = .ok (.iconst 1, 1) := by decide +kernel
theorem dX1_addShip_2 : decode cX1_addShip 2 = .ok (.isub, 1) := by decide +kernel
theorem dX1_addShip_3 : decode cX1_addShip 3 = .ok (.istore_n 3, 1) := by decide +kernel
theorem dX1_addShip_4 : decode cX1_addShip 4 = .ok (.iload_n 3, 1) := by decide +kernel
theorem dX1_addShip_5 : decode cX1_addShip 5 = .ok (.ifCond .le 82, 3) := by decide +kernel
theorem dX1_addShip_8 : decode cX1_addShip 8 = .ok (.iconst 1, 1) := by decide +kernel
theorem dX1_addShip_9 : decode cX1_addShip 9 = .ok (.istore 4, 2) := by decide +kernel
theorem dX1_addShip_11 : decode cX1_addShip 11 = .ok (.iload 4, 2) := by decide +kernel
theorem dX1_addShip_13 : decode cX1_addShip 13 = .ok (.iload_n 3, 1) := by decide +kernel
theorem dX1_addShip_14 : decode cX1_addShip 14 = .ok (.if_icmp .gt 67, 3) := by decide +kernel
theorem dX1_addShip_17 : decode cX1_addShip 17 = .ok (.iload_n 3, 1) := by decide +kernel
theorem dX1_addShip_18 : decode cX1_addShip 18 = .ok (.iload 4, 2) := by decide +kernel
theorem dX1_addShip_20 : decode cX1_addShip 20 = .ok (.iconst (-1), 1) := by decide +kernel
theorem dX1_addShip_21 : decode cX1_addShip 21 = .ok (.ixor, 1) := by decide +kernel
theorem dX1_addShip_22 : decode cX1_addShip 22 = .ok (.iand, 1) := by decide +kernel
theorem dX1_addShip_23 : decode cX1_addShip 23 = .ok (.istore 5, 2) := by decide +kernel
theorem dX1_addShip_25 : decode cX1_addShip 25 = .ok (.iload 4, 2) := by decide +kernel
theorem dX1_addShip_27 : decode cX1_addShip 27 = .ok (.iload_n 3, 1) := by decide +kernel
theorem dX1_addShip_28 : decode cX1_addShip 28 = .ok (.iconst (-1), 1) := by decide +kernel
theorem dX1_addShip_29 : decode cX1_addShip 29 = .ok (.ixor, 1) := by decide +kernel
theorem dX1_addShip_30 : decode cX1_addShip 30 = .ok (.iand, 1) := by decide +kernel
theorem dX1_addShip_31 : decode cX1_addShip 31 = .ok (.ifCond .ne 44, 3) := by decide +kernel
theorem dX1_addShip_34 : decode cX1_addShip 34 = .ok (.aload_n 0, 1) := by decide +kernel
theorem dX1_addShip_35 : decode cX1_addShip 35 = .ok (.getfield 11, 3) := by decide +kernel
theorem dX1_addShip_38 : decode cX1_addShip 38 = .ok (.iload_n 1, 1) := by decide +kernel
theorem dX1_addShip_39 : decode cX1_addShip 39 = .ok (.bipush 64, 2) := by decide +kernel
theorem dX1_addShip_41 : decode cX1_addShip 41 = .ok (.imul, 1) := by decide +kernel
theorem dX1_addShip_42 : decode cX1_addShip 42 = .ok (.iload 4, 2) := by decide +kernel
theorem dX1_addShip_44 : decode cX1_addShip 44 = .ok (.iadd, 1) := by decide +kernel
theorem dX1_addShip_45 : decode cX1_addShip 45 = .ok (.laload, 1) := by decide +kernel
theorem dX1_addShip_46 : decode cX1_addShip 46 = .ok (.ldc2_w 66, 3) := by decide +kernel
theorem dX1_addShip_49 : decode cX1_addShip 49 = .ok (.lcmp, 1) := by decide +kernel
theorem dX1_addShip_50 : decode cX1_addShip 50 = .ok (.ifCond .eq 25, 3) := by decide +kernel
theorem dX1_addShip_53 : decode cX1_addShip 53 = .ok (.aload_n 0, 1) := by decide +kernel
theorem dX1_addShip_54 : decode cX1_addShip 54 = .ok (.getfield 19, 3) := by decide +kernel
theorem dX1_addShip_57 : decode cX1_addShip 57 = .ok (.iload 5, 2) := by decide +kernel
theorem dX1_addShip_59 : decode cX1_addShip 59 = .ok (.laload, 1) := by decide +kernel
theorem dX1_addShip_60 : decode cX1_addShip 60 = .ok (.ldc2_w 66, 3) := by decide +kernel
theorem dX1_addShip_63 : decode cX1_addShip 63 = .ok (.lcmp, 1) := by decide +kernel
theorem dX1_addShip_64 : decode cX1_addShip 64 = .ok (.ifCond .eq 11, 3) := by decide +kernel
theorem dX1_addShip_67 : decode cX1_addShip 67 = .ok (.aload_n 0, 1) := by decide +kernel
theorem dX1_addShip_68 : decode cX1_addShip 68 = .ok (.iload_n 1, 1) := by decide +kernel
theorem dX1_addShip_69 : decode cX1_addShip 69 = .ok (.iload_n 3, 1) := by decide +kernel
theorem dX1_addShip_70 : decode cX1_addShip 70 = .ok (.iload 4, 2) := by decide +kernel
theorem dX1_addShip_72 : decode cX1_addShip 72 = .ok (.invokevirtual 122, 3) := by decide +kernel
theorem dX1_addShip_75 : decode cX1_addShip 75 = .ok (.iinc 4 1, 3) := by decide +kernel
theorem dX1_addShip_78 : decode cX1_addShip 78 = .ok (.goto (-67), 3) := by decide +kernel
theorem dX1_addShip_81 : decode cX1_addShip 81 = .ok (.iinc 3 (-1), 3) := by decide +kernel
theorem dX1_addShip_84 : decode cX1_addShip 84 = .ok (.goto (-80), 3) := by decide +kernel
theorem dX1_addShip_87 : decode cX1_addShip 87 = .ok (.return_, 1) := by decide +kernel
theorem dX1_joinSets_0 : decode cX1_joinSets 0 = .ok (.iload_n 2, 1) := by decide +kernel
theorem dX1_joinSets_1 : decode cX1_joinSets 1 = .ok (.iload_n 3, 1) := by decide +kernel
theorem dX1_joinSets_2 : decode cX1_joinSets 2 = .ok (.iconst (-1), 1) := by decide +kernel
theorem dX1_joinSets_3 : decode cX1_joinSets 3 = .ok (.ixor, 1) := by decide +kernel
theorem dX1_joinSets_4 : decode cX1_joinSets 4 = .ok (.iand, 1) := by decide +kernel
theorem dX1_joinSets_5 : decode cX1_joinSets 5 = .ok (.istore 4, 2) := by decide +kernel
theorem dX1_joinSets_7 : decode cX1_joinSets 7 = .ok (.aload_n 0, 1) := by decide +kernel
theorem dX1_joinSets_8 : decode cX1_joinSets 8 = .ok (.getfield 19, 3) := by decide +kernel
theorem dX1_joinSets_11 : decode cX1_joinSets 11 = .ok (.iload 4, 2) := by decide +kernel
theorem dX1_joinSets_13 : decode cX1_joinSets 13 = .ok (.laload, 1) := by decide +kernel
theorem dX1_joinSets_14 : decode cX1_joinSets 14 = .ok (.aload_n 0, 1) := by decide +kernel
theorem dX1_joinSets_15 : decode cX1_joinSets 15 = .ok (.getfield 11, 3) := by decide +kernel
theorem dX1_joinSets_18 : decode cX1_joinSets 18 = .ok (.iload_n 1, 1) := by decide +kernel
theorem dX1_joinSets_19 : decode cX1_joinSets 19 = .ok (.bipush 64, 2) := by decide +kernel
theorem dX1_joinSets_21 : decode cX1_joinSets 21 = .ok (.imul, 1) := by decide +kernel
theorem dX1_joinSets_22 : decode cX1_joinSets 22 = .ok (.iload_n 3, 1) := by decide +kernel
theorem dX1_joinSets_23 : decode cX1_joinSets 23 = .ok (.iadd, 1) := by decide +kernel
theorem dX1_joinSets_24 : decode cX1_joinSets 24 = .ok (.laload, 1) := by decide +kernel
theorem dX1_joinSets_25 : decode cX1_joinSets 25 = .ok (.ladd, 1) := by decide +kernel
theorem dX1_joinSets_26 : decode cX1_joinSets 26 = .ok (.lstore 5, 2) := by decide +kernel
theorem dX1_joinSets_28 : decode cX1_joinSets 28 = .ok (.lload 5, 2) := by decide +kernel
theorem dX1_joinSets_30 : decode cX1_joinSets 30 = .ok (.aload_n 0, 1) := by decide +kernel
theorem dX1_joinSets_31 : decode cX1_joinSets 31 = .ok (.getfield 19, 3) := by decide +kernel
theorem dX1_joinSets_34 : decode cX1_joinSets 34 = .ok (.iload_n 2, 1) := by decide +kernel
theorem dX1_joinSets_35 : decode cX1_joinSets 35 = .ok (.laload, 1) := by decide +kernel
theorem dX1_joinSets_36 : decode cX1_joinSets 36 = .ok (.lcmp, 1) := by decide +kernel
theorem dX1_joinSets_37 : decode cX1_joinSets 37 = .ok (.ifCond .ge 4, 3) := by decide +kernel
theorem dX1_joinSets_40 : decode cX1_joinSets 40 = .ok (.return_, 1) := by decide +kernel
theorem dX1_joinSets_41 : decode cX1_joinSets 41 = .ok (.aload_n 0, 1) := by decide +kernel
theorem dX1_joinSets_42 : decode cX1_joinSets 42 = .ok (.getfield 22, 3) := by decide +kernel
theorem dX1_joinSets_45 : decode cX1_joinSets 45 = .ok (.iload 4, 2) := by decide +kernel
theorem dX1_joinSets_47 : decode cX1_joinSets 47 = .ok (.iaload, 1) := by decide +kernel
theorem dX1_joinSets_48 : decode cX1_joinSets 48 = .ok (.istore 7, 2) := by decide +kernel
theorem dX1_joinSets_50 : decode cX1_joinSets 50 = .ok (.iconst 0, 1) := by decide +kernel
theorem dX1_joinSets_51 : decode cX1_joinSets 51 = .ok (.istore 8, 2) := by decide +kernel
theorem dX1_joinSets_53 : decode cX1_joinSets 53 = .ok (.iload 8, 2) := by decide +kernel
theorem dX1_joinSets_55 : decode cX1_joinSets 55 = .ok (.bipush 6, 2) := by decide +kernel
theorem dX1_joinSets_57 : decode cX1_joinSets 57 = .ok (.if_icmp .ge 43, 3) := by decide +kernel
theorem dX1_joinSets_60 : decode cX1_joinSets 60 = .ok (.iload_n 3, 1) := by decide +kernel
theorem dX1_joinSets_61 : decode cX1_joinSets 61 = .ok (.iload 8, 2) := by decide +kernel
theorem dX1_joinSets_63 : decode cX1_joinSets 63 = .ok (.ishr, 1) := by decide +kernel
theorem dX1_joinSets_64 : decode cX1_joinSets 64 = .ok (.iconst 1, 1) := by decide +kernel
theorem dX1_joinSets_65 : decode cX1_joinSets 65 = .ok (.iand, 1) := by decide +kernel
theorem dX1_joinSets_66 : decode cX1_joinSets 66 = .ok (.iconst 1, 1) := by decide +kernel
theorem dX1_joinSets_67 : decode cX1_joinSets 67 = .ok (.if_icmp .ne 27, 3) := by decide +kernel
theorem dX1_joinSets_70 : decode cX1_joinSets 70 = .ok (.iconst 2, 1) := by decide +kernel
theorem dX1_joinSets_71 : decode cX1_joinSets 71 = .ok (.iconst 5, 1) := by decide +kernel
theorem dX1_joinSets_72 : decode cX1_joinSets 72 = .ok (.iload 8, 2) := by decide +kernel
theorem dX1_joinSets_74 : decode cX1_joinSets 74 = .ok (.isub, 1) := by decide +kernel
theorem dX1_joinSets_75 : decode cX1_joinSets 75 = .ok (.imul, 1) := by decide +kernel
theorem dX1_joinSets_76 : decode cX1_joinSets 76 = .ok (.istore 9, 2) := by decide +kernel
theorem dX1_joinSets_78 : decode cX1_joinSets 78 = .ok (.iload 7, 2) := by decide +kernel
theorem dX1_joinSets_80 : decode cX1_joinSets 80 = .ok (.iconst 3, 1) := by decide +kernel
theorem dX1_joinSets_81 : decode cX1_joinSets 81 = .ok (.iload 9, 2) := by decide +kernel
theorem dX1_joinSets_83 : decode cX1_joinSets 83 = .ok (.ishl, 1) := by decide +kernel
theorem dX1_joinSets_84 : decode cX1_joinSets 84 = .ok (.iconst (-1), 1) := by decide +kernel
theorem dX1_joinSets_85 : decode cX1_joinSets 85 = .ok (.ixor, 1) := by decide +kernel
theorem dX1_joinSets_86 : decode cX1_joinSets 86 = .ok (.iand, 1) := by decide +kernel
theorem dX1_joinSets_87 : decode cX1_joinSets 87 = .ok (.iload_n 1, 1) := by decide +kernel
theorem dX1_joinSets_88 : decode cX1_joinSets 88 = .ok (.iload 9, 2) := by decide +kernel
theorem dX1_joinSets_90 : decode cX1_joinSets 90 = .ok (.ishl, 1) := by decide +kernel
theorem dX1_joinSets_91 : decode cX1_joinSets 91 = .ok (.ior, 1) := by decide +kernel
theorem dX1_joinSets_92 : decode cX1_joinSets 92 = .ok (.istore 7, 2) := by decide +kernel
theorem dX1_joinSets_94 : decode cX1_joinSets 94 = .ok (.iinc 8 1, 3) := by decide +kernel
theorem dX1_joinSets_97 : decode cX1_joinSets 97 = .ok (.goto (-44), 3) := by decide +kernel
theorem dX1_joinSets_100 : decode cX1_joinSets 100 = .ok (.lload 5, 2) := by decide +kernel
theorem dX1_joinSets_102 : decode cX1_joinSets 102 = .ok (.aload_n 0, 1) := by decide +kernel
theorem dX1_joinSets_103 : decode cX1_joinSets 103 = .ok (.getfield 19, 3) := by decide +kernel
theorem dX1_joinSets_106 : decode cX1_joinSets 106 = .ok (.iload_n 2, 1) := by decide +kernel
theorem dX1_joinSets_107 : decode cX1_joinSets 107 = .ok (.laload, 1) := by decide +kernel
theorem dX1_joinSets_108 : decode cX1_joinSets 108 = .ok (.lcmp, 1) := by decide +kernel
theorem dX1_joinSets_109 : decode cX1_joinSets 109 = .ok (.ifCond .gt 14, 3) := by decide +kernel
theorem dX1_joinSets_112 : decode cX1_joinSets 112 = .ok (.iload 7, 2) := by decide +kernel
theorem dX1_joinSets_114 : decode cX1_joinSets 114 = .ok (.aload_n 0, 1) := by decide +kernel
theorem dX1_joinSets_115 : decode cX1_joinSets 115 = .ok (.getfield 22, 3) := by decide +kernel
theorem dX1_joinSets_118 : decode cX1_joinSets 118 = .ok (.iload_n 2, 1) := by decide +kernel
theorem dX1_joinSets_119 : decode cX1_joinSets 119 = .ok (.iaload, 1) := by decide +kernel
theorem dX1_joinSets_120 : decode cX1_joinSets 120 = .ok (.if_icmp .ge 19, 3) := by decide +kernel
theorem dX1_joinSets_123 : decode cX1_joinSets 123 = .ok (.aload_n 0, 1) := by decide +kernel
theorem dX1_joinSets_124 : decode cX1_joinSets 124 = .ok (.getfield 19, 3) := by decide +kernel
theorem dX1_joinSets_127 : decode cX1_joinSets 127 = .ok (.iload_n 2, 1) := by decide +kernel
theorem dX1_joinSets_128 : decode cX1_joinSets 128 = .ok (.lload 5, 2) := by decide +kernel
theorem dX1_joinSets_130 : decode cX1_joinSets 130 = .ok (.lastore, 1) := by decide +kernel
theorem dX1_joinSets_131 : decode cX1_joinSets 131 = .ok (.aload_n 0, 1) := by decide +kernel
theorem dX1_joinSets_132 : decode cX1_joinSets 132 = .ok (.getfield 22, 3) := by decide +kernel
theorem dX1_joinSets_135 : decode cX1_joinSets 135 = .ok (.iload_n 2, 1) := by decide +kernel
theorem dX1_joinSets_136 : decode cX1_joinSets 136 = .ok (.iload 7, 2) := by decide +kernel
theorem dX1_joinSets_138 : decode cX1_joinSets 138 = .ok (.iastore, 1) := by decide +kernel
theorem dX1_joinSets_139 : decode cX1_joinSets 139 = .ok (.return_, 1) := by decide +kernel
set_option maxRecDepth 20000 in
theorem ggX1_isBetter_J6_bitCount_0f7a4 : GoodIn wsX1_isBetter wsJ6_bitCount_0f7a4 := goodIn_r _ [6, 7, 8, 9] (by decide +kernel) (by decide +kernel)
set_option maxRecDepth 20000 in
theorem gX1_isBetter_J6_bitCount_0f7a4 : GoodIn wsX1_isBetter (va_wsS RX1 126 yJ6_bitCount_0f7a4 wsJ6_bitCount_0f7a4) := goodIn_app (goodIn_of _ (by decide +kernel)) ggX1_isBetter_J6_bitCount_0f7a4
theorem dX1_isBetter_0 : decode cX1_isBetter 0 = .ok (.aload_n 0, 1) := by decide +kernel
theorem dX1_isBetter_1 : decode cX1_isBetter 1 = .ok (.getfield 19, 3) := by decide +kernel
theorem dX1_isBetter_4 : decode cX1_isBetter 4 = .ok (.iload_n 1, 1) := by decide +kernel
theorem dX1_isBetter_5 : decode cX1_isBetter 5 = .ok (.laload, 1) := by decide +kernel
theorem dX1_isBetter_6 : decode cX1_isBetter 6 = .ok (.aload_n 0, 1) := by decide +kernel
theorem dX1_isBetter_7 : decode cX1_isBetter 7 = .ok (.getfield 19, 3) := by decide +kernel
theorem dX1_isBetter_10 : decode cX1_isBetter 10 = .ok (.iload_n 2, 1) := by decide +kernel
theorem dX1_isBetter_11 : decode cX1_isBetter 11 = .ok (.laload, 1) := by decide +kernel
theorem dX1_isBetter_12 : decode cX1_isBetter 12 = .ok (.lcmp, 1) := by decide +kernel
theorem dX1_isBetter_13 : decode cX1_isBetter 13 = .ok (.ifCond .eq 25, 3) := by decide +kernel
theorem dX1_isBetter_16 : decode cX1_isBetter 16 = .ok (.aload_n 0, 1) := by decide +kernel
theorem dX1_isBetter_17 : decode cX1_isBetter 17 = .ok (.getfield 19, 3) := by decide +kernel
theorem dX1_isBetter_20 : decode cX1_isBetter 20 = .ok (.iload_n 1, 1) := by decide +kernel
theorem dX1_isBetter_21 : decode cX1_isBetter 21 = .ok (.laload, 1) := by decide +kernel
theorem dX1_isBetter_22 : decode cX1_isBetter 22 = .ok (.aload_n 0, 1) := by decide +kernel
theorem dX1_isBetter_23 : decode cX1_isBetter 23 = .ok (.getfield 19, 3) := by decide +kernel
theorem dX1_isBetter_26 : decode cX1_isBetter 26 = .ok (.iload_n 2, 1) := by decide +kernel
theorem dX1_isBetter_27 : decode cX1_isBetter 27 = .ok (.laload, 1) := by decide +kernel
theorem dX1_isBetter_28 : decode cX1_isBetter 28 = .ok (.lcmp, 1) := by decide +kernel
theorem dX1_isBetter_29 : decode cX1_isBetter 29 = .ok (.ifCond .le 7, 3) := by decide +kernel
theorem dX1_isBetter_32 : decode cX1_isBetter 32 = .ok (.iconst 1, 1) := by decide +kernel
theorem dX1_isBetter_33 : decode cX1_isBetter 33 = .ok (.goto 4, 3) := by decide +kernel
theorem dX1_isBetter_36 : decode cX1_isBetter 36 = .ok (.iconst 0, 1) := by decide +kernel
theorem dX1_isBetter_37 : decode cX1_isBetter 37 = .ok (.ireturn, 1) := by decide +kernel
theorem dX1_isBetter_38 : decode cX1_isBetter 38 = .ok (.iload_n 1, 1) := by decide +kernel
theorem dX1_isBetter_39 : decode cX1_isBetter 39 = .ok (.invokestatic 126, 3) := by decide +kernel
theorem dX1_isBetter_42 : decode cX1_isBetter 42 = .ok (.iload_n 2, 1) := by decide +kernel
theorem dX1_isBetter_43 : decode cX1_isBetter 43 = .ok (.invokestatic 126, 3) := by decide +kernel
theorem dX1_isBetter_46 : decode cX1_isBetter 46 = .ok (.isub, 1) := by decide +kernel
theorem dX1_isBetter_47 : decode cX1_isBetter 47 = .ok (.istore_n 3, 1) := by decide +kernel
theorem dX1_isBetter_48 : decode cX1_isBetter 48 = .ok (.iload_n 3, 1) := by decide +kernel
theorem dX1_isBetter_49 : decode cX1_isBetter 49 = .ok (.ifCond .eq 15, 3) := by decide +kernel
theorem dX1_isBetter_52 : decode cX1_isBetter 52 = .ok (.iload_n 3, 1) := by decide +kernel
theorem dX1_isBetter_53 : decode cX1_isBetter 53 = .ok (.ifCond .ge 7, 3) := by decide +kernel
theorem dX1_isBetter_56 : decode cX1_isBetter 56 = .ok (.iconst 1, 1) := by decide +kernel
theorem dX1_isBetter_57 : decode cX1_isBetter 57 = .ok (.goto 27, 3) := by decide +kernel
theorem dX1_isBetter_60 : decode cX1_isBetter 60 = .ok (.iconst 0, 1) := by decide +kernel
theorem dX1_isBetter_61 : decode cX1_isBetter 61 = .ok (.goto 23, 3) := by decide +kernel
theorem dX1_isBetter_64 : decode cX1_isBetter 64 = .ok (.aload_n 0, 1) := by decide +kernel
theorem dX1_isBetter_65 : decode cX1_isBetter 65 = .ok (.getfield 22, 3) := by decide +kernel
theorem dX1_isBetter_68 : decode cX1_isBetter 68 = .ok (.iload_n 1, 1) := by decide +kernel
theorem dX1_isBetter_69 : decode cX1_isBetter 69 = .ok (.iaload, 1) := by decide +kernel
theorem dX1_isBetter_70 : decode cX1_isBetter 70 = .ok (.aload_n 0, 1) := by decide +kernel
theorem dX1_isBetter_71 : decode cX1_isBetter 71 = .ok (.getfield 22, 3) := by decide +kernel
theorem dX1_isBetter_74 : decode cX1_isBetter 74 = .ok (.iload_n 2, 1) := by decide +kernel
theorem dX1_isBetter_75 : decode cX1_isBetter 75 = .ok (.iaload, 1) := by decide +kernel
theorem dX1_isBetter_76 : decode cX1_isBetter 76 = .ok (.if_icmp .ge 7, 3) := by decide +kernel
theorem dX1_isBetter_79 : decode cX1_isBetter 79 = .ok (.iconst 1, 1) := by decide +kernel
theorem dX1_isBetter_80 : decode cX1_isBetter 80 = .ok (.goto 4, 3) := by decide +kernel
theorem dX1_isBetter_83 : decode cX1_isBetter 83 = .ok (.iconst 0, 1) := by decide +kernel
theorem dX1_isBetter_84 : decode cX1_isBetter 84 = .ok (.ireturn, 1) := by decide +kernel
set_option maxRecDepth 20000 in
theorem ggX1_keepPlan_X1_keepVoyage : GoodIn wsX1_keepPlan wsX1_keepVoyage := goodIn_r _ [12, 6, 7, 13, 1, 14, 15, 16, 17, 18, 19, 20, 21, 22, 23, 24, 11, 25, 26, 27, 28, 29, 30, 31, 4, 32, 33, 34, 35, 36, 37, 38, 39, 40, 41, 42, 43, 44, 45, 46, 47, 48, 49, 50, 51, 52, 53, 54, 55, 56, 57, 58, 59, 60, 61, 62, 63, 64, 65, 66, 67, 68, 69, 70, 71, 72, 73, 74, 75, 76, 77, 78, 79, 80, 81, 82, 83, 84, 85, 86, 87, 88, 89, 90, 91, 92, 93, 94, 95, 96, 97, 98, 99, 100, 101, 102, 103, 104, 105, 106, 107, 108, 109, 110, 111, 112, 113, 114, 115, 116, 117, 121, 122, 123, 124, 125, 126, 127, 128, 129, 130, 131, 132, 133, 134, 135, 136, 137, 118, 119, 120, 138, 139, 140, 141, 142, 143, 144, 145, 146, 147, 148, 149, 150, 151, 152, 153, 154, 155] (by decide +kernel) (by decide +kernel)
set_option maxRecDepth 20000 in
theorem gX1_keepPlan_X1_keepVoyage : GoodIn wsX1_keepPlan (wsV RX1 135 RX1 yX1_keepVoyage wsX1_keepVoyage) := goodIn_app (goodIn_of _ (by decide +kernel)) ggX1_keepPlan_X1_keepVoyage
theorem dX1_keepPlan_0 : decode cX1_keepPlan 0 = .ok (.aload_n 0, 1) := by decide +kernel
theorem dX1_keepPlan_1 : decode cX1_keepPlan 1 = .ok (.bipush 6, 2) := by decide +kernel
theorem dX1_keepPlan_3 : decode cX1_keepPlan 3 = .ok (.aload_n 0, 1) := by decide +kernel
theorem dX1_keepPlan_4 : decode cX1_keepPlan 4 = .ok (.getfield 40, 3) := by decide +kernel
theorem dX1_keepPlan_7 : decode cX1_keepPlan 7 = .ok (.getfield 50, 3) := by decide +kernel
theorem dX1_keepPlan_10 : decode cX1_keepPlan 10 = .ok (.getfield 54, 3) := by decide +kernel
theorem dX1_keepPlan_13 : decode cX1_keepPlan 13 = .ok (.invokestatic 60, 3) := by decide +kernel
theorem dX1_keepPlan_16 : decode cX1_keepPlan 16 = .ok (.putfield 132, 3) := by decide +kernel
theorem dX1_keepPlan_19 : decode cX1_keepPlan 19 = .ok (.iconst 0, 1) := by decide +kernel
theorem dX1_keepPlan_20 : decode cX1_keepPlan 20 = .ok (.istore_n 3, 1) := by decide +kernel
theorem dX1_keepPlan_21 : decode cX1_keepPlan 21 = .ok (.iload_n 3, 1) := by decide +kernel
theorem dX1_keepPlan_22 : decode cX1_keepPlan 22 = .ok (.aload_n 0, 1) := by decide +kernel
theorem dX1_keepPlan_23 : decode cX1_keepPlan 23 = .ok (.getfield 132, 3) := by decide +kernel
theorem dX1_keepPlan_26 : decode cX1_keepPlan 26 = .ok (.if_icmp .ge 38, 3) := by decide +kernel
theorem dX1_keepPlan_29 : decode cX1_keepPlan 29 = .ok (.iload_n 1, 1) := by decide +kernel
theorem dX1_keepPlan_30 : decode cX1_keepPlan 30 = .ok (.iconst 2, 1) := by decide +kernel
theorem dX1_keepPlan_31 : decode cX1_keepPlan 31 = .ok (.iconst 5, 1) := by decide +kernel
theorem dX1_keepPlan_32 : decode cX1_keepPlan 32 = .ok (.iload_n 3, 1) := by decide +kernel
theorem dX1_keepPlan_33 : decode cX1_keepPlan 33 = .ok (.isub, 1) := by decide +kernel
theorem dX1_keepPlan_34 : decode cX1_keepPlan 34 = .ok (.imul, 1) := by decide +kernel
theorem dX1_keepPlan_35 : decode cX1_keepPlan 35 = .ok (.ishr, 1) := by decide +kernel
theorem dX1_keepPlan_36 : decode cX1_keepPlan 36 = .ok (.iconst 3, 1) := by decide +kernel
theorem dX1_keepPlan_37 : decode cX1_keepPlan 37 = .ok (.iand, 1) := by decide +kernel
theorem dX1_keepPlan_38 : decode cX1_keepPlan 38 = .ok (.istore 4, 2) := by decide +kernel
theorem dX1_keepPlan_40 : decode cX1_keepPlan 40 = .ok (.aload_n 0, 1) := by decide +kernel
theorem dX1_keepPlan_41 : decode cX1_keepPlan 41 = .ok (.getfield 25, 3) := by decide +kernel
theorem dX1_keepPlan_44 : decode cX1_keepPlan 44 = .ok (.iload_n 3, 1) := by decide +kernel
theorem dX1_keepPlan_45 : decode cX1_keepPlan 45 = .ok (.iload 4, 2) := by decide +kernel
theorem dX1_keepPlan_47 : decode cX1_keepPlan 47 = .ok (.iconst 3, 1) := by decide +kernel
theorem dX1_keepPlan_48 : decode cX1_keepPlan 48 = .ok (.if_icmp .ge 8, 3) := by decide +kernel
theorem dX1_keepPlan_51 : decode cX1_keepPlan 51 = .ok (.iload 4, 2) := by decide +kernel
theorem dX1_keepPlan_53 : decode cX1_keepPlan 53 = .ok (.goto 4, 3) := by decide +kernel
theorem dX1_keepPlan_56 : decode cX1_keepPlan 56 = .ok (.iconst (-1), 1) := by decide +kernel
theorem dX1_keepPlan_57 : decode cX1_keepPlan 57 = .ok (.iastore, 1) := by decide +kernel
theorem dX1_keepPlan_58 : decode cX1_keepPlan 58 = .ok (.iinc 3 1, 3) := by decide +kernel
theorem dX1_keepPlan_61 : decode cX1_keepPlan 61 = .ok (.goto (-40), 3) := by decide +kernel
theorem dX1_keepPlan_64 : decode cX1_keepPlan 64 = .ok (.iconst 0, 1) := by decide +kernel
theorem dX1_keepPlan_65 : decode cX1_keepPlan 65 = .ok (.istore_n 3, 1) := by decide +kernel
theorem dX1_keepPlan_66 : decode cX1_keepPlan 66 = .ok (.iload_n 3, 1) := by decide +kernel
theorem dX1_keepPlan_67 : decode cX1_keepPlan 67 = .ok (.iconst 3, 1) := by decide +kernel
theorem dX1_keepPlan_68 : decode cX1_keepPlan 68 = .ok (.if_icmp .ge 26, 3) := by decide +kernel
theorem dX1_keepPlan_71 : decode cX1_keepPlan 71 = .ok (.iload_n 3, 1) := by decide +kernel
theorem dX1_keepPlan_72 : decode cX1_keepPlan 72 = .ok (.aload_n 0, 1) := by decide +kernel
theorem dX1_keepPlan_73 : decode cX1_keepPlan 73 = .ok (.getfield 40, 3) := by decide +kernel
theorem dX1_keepPlan_76 : decode cX1_keepPlan 76 = .ok (.getfield 74, 3) := by decide +kernel
theorem dX1_keepPlan_79 : decode cX1_keepPlan 79 = .ok (.if_icmp .ge 15, 3) := by decide +kernel
theorem dX1_keepPlan_82 : decode cX1_keepPlan 82 = .ok (.aload_n 0, 1) := by decide +kernel
theorem dX1_keepPlan_83 : decode cX1_keepPlan 83 = .ok (.iload_n 3, 1) := by decide +kernel
theorem dX1_keepPlan_84 : decode cX1_keepPlan 84 = .ok (.iload_n 2, 1) := by decide +kernel
theorem dX1_keepPlan_85 : decode cX1_keepPlan 85 = .ok (.invokevirtual 135, 3) := by decide +kernel
theorem dX1_keepPlan_88 : decode cX1_keepPlan 88 = .ok (.iinc 3 1, 3) := by decide +kernel
theorem dX1_keepPlan_91 : decode cX1_keepPlan 91 = .ok (.goto (-25), 3) := by decide +kernel
theorem dX1_keepPlan_94 : decode cX1_keepPlan 94 = .ok (.return_, 1) := by decide +kernel
set_option maxRecDepth 20000 in
theorem ggX1_keepVoyage_X1_cargoAt : GoodIn wsX1_keepVoyage wsX1_cargoAt := goodIn_r _ [17, 1, 77, 78, 79, 80, 81, 82, 83, 84, 85, 86, 87, 88, 89, 90, 91] (by decide +kernel) (by decide +kernel)
set_option maxRecDepth 20000 in
theorem gX1_keepVoyage_X1_cargoAt : GoodIn wsX1_keepVoyage (wsV RX1 138 RX1 yX1_cargoAt wsX1_cargoAt) := goodIn_app (goodIn_of _ (by decide +kernel)) ggX1_keepVoyage_X1_cargoAt
set_option maxRecDepth 20000 in
theorem ggX1_keepVoyage_X1_reckon : GoodIn wsX1_keepVoyage wsX1_reckon := goodIn_r _ [21, 4, 22, 23, 24, 25, 7, 9, 12, 26, 27, 28, 29, 30, 11, 31, 32, 33, 34, 35, 36, 37, 38, 39, 40, 41, 42, 43, 44, 45, 46, 47, 48, 49, 50, 51, 52, 53, 54, 55, 56, 57, 58, 59, 60, 61, 62, 63, 64, 65, 66, 67, 68, 69, 70, 71, 72, 73, 74, 75, 76, 77, 78, 79, 80, 81, 82, 83, 84, 85, 86, 87, 88, 89, 90, 91, 92, 93, 94, 95, 96, 97, 98, 99, 100, 101, 102, 103, 104, 105, 106, 107, 108, 109, 110, 111, 112, 113, 114, 115, 116, 117, 118, 119, 120, 121, 122, 123, 124, 125, 126, 127, 128, 129, 130, 131, 132, 133, 134, 135, 136, 137, 138, 139, 140, 141, 142, 143, 144, 145, 146, 147, 148] (by decide +kernel) (by decide +kernel)
set_option maxRecDepth 20000 in
theorem gX1_keepVoyage_X1_reckon : GoodIn wsX1_keepVoyage (wsV RX1 104 RX1 yX1_reckon wsX1_reckon) := goodIn_app (goodIn_of _ (by decide +kernel)) ggX1_keepVoyage_X1_reckon
set_option maxRecDepth 20000 in
theorem ggX1_keepVoyage_X4_number : GoodIn wsX1_keepVoyage wsX4_number := goodIn_r _ [35, 36, 37, 38, 34, 39, 40, 41, 42, 128, 129, 130] (by decide +kernel) (by decide +kernel)
set_option maxRecDepth 20000 in
theorem gX1_keepVoyage_X4_number : GoodIn wsX1_keepVoyage (wsV RX1 116 RX4 yX4_number wsX4_number) := goodIn_app (goodIn_of _ (by decide +kernel)) ggX1_keepVoyage_X4_number
theorem dX1_keepVoyage_0 : decode cX1_keepVoyage 0 = .ok (.iconst 0, 1) := by decide +kernel
theorem dX1_keepVoyage_1 : decode cX1_keepVoyage 1 = .ok (.istore_n 3, 1) := by decide +kernel
theorem dX1_keepVoyage_2 : decode cX1_keepVoyage 2 = .ok (.iconst 0, 1) := by decide +kernel
theorem dX1_keepVoyage_3 : decode cX1_keepVoyage 3 = .ok (.istore 4, 2) := by decide +kernel
theorem dX1_keepVoyage_5 : decode cX1_keepVoyage 5 = .ok (.iload 4, 2) := by decide +kernel
theorem dX1_keepVoyage_7 : decode cX1_keepVoyage 7 = .ok (.aload_n 0, 1) := by decide +kernel
theorem dX1_keepVoyage_8 : decode cX1_keepVoyage 8 = .ok (.getfield 132, 3) := by decide +kernel
theorem dX1_keepVoyage_11 : decode cX1_keepVoyage 11 = .ok (.if_icmp .ge 31, 3) := by decide +kernel
theorem dX1_keepVoyage_14 : decode cX1_keepVoyage 14 = .ok (.iload_n 3, 1) := by decide +kernel
theorem dX1_keepVoyage_15 : decode cX1_keepVoyage 15 = .ok (.aload_n 0, 1) := by decide +kernel
theorem dX1_keepVoyage_16 : decode cX1_keepVoyage 16 = .ok (.getfield 25, 3) := by decide +kernel
theorem dX1_keepVoyage_19 : decode cX1_keepVoyage 19 = .ok (.iload 4, 2) := by decide +kernel
theorem dX1_keepVoyage_21 : decode cX1_keepVoyage 21 = .ok (.iaload, 1) := by decide +kernel
theorem dX1_keepVoyage_22 : decode cX1_keepVoyage 22 = .ok (.iload_n 1, 1) := by decide +kernel
theorem dX1_keepVoyage_23 : decode cX1_keepVoyage 23 = .ok (.if_icmp .ne 10, 3) := by decide +kernel
theorem dX1_keepVoyage_26 : decode cX1_keepVoyage 26 = .ok (.iconst 1, 1) := by decide +kernel
theorem dX1_keepVoyage_27 : decode cX1_keepVoyage 27 = .ok (.iload 4, 2) := by decide +kernel
theorem dX1_keepVoyage_29 : decode cX1_keepVoyage 29 = .ok (.ishl, 1) := by decide +kernel
theorem dX1_keepVoyage_30 : decode cX1_keepVoyage 30 = .ok (.goto 4, 3) := by decide +kernel
theorem dX1_keepVoyage_33 : decode cX1_keepVoyage 33 = .ok (.iconst 0, 1) := by decide +kernel
theorem dX1_keepVoyage_34 : decode cX1_keepVoyage 34 = .ok (.ior, 1) := by decide +kernel
theorem dX1_keepVoyage_35 : decode cX1_keepVoyage 35 = .ok (.istore_n 3, 1) := by decide +kernel
theorem dX1_keepVoyage_36 : decode cX1_keepVoyage 36 = .ok (.iinc 4 1, 3) := by decide +kernel
theorem dX1_keepVoyage_39 : decode cX1_keepVoyage 39 = .ok (.goto (-34), 3) := by decide +kernel
theorem dX1_keepVoyage_42 : decode cX1_keepVoyage 42 = .ok (.aload_n 0, 1) := by decide +kernel
theorem dX1_keepVoyage_43 : decode cX1_keepVoyage 43 = .ok (.getfield 15, 3) := by decide +kernel
theorem dX1_keepVoyage_46 : decode cX1_keepVoyage 46 = .ok (.iload_n 1, 1) := by decide +kernel
theorem dX1_keepVoyage_47 : decode cX1_keepVoyage 47 = .ok (.bipush 64, 2) := by decide +kernel
theorem dX1_keepVoyage_49 : decode cX1_keepVoyage 49 = .ok (.imul, 1) := by decide +kernel
theorem dX1_keepVoyage_50 : decode cX1_keepVoyage 50 = .ok (.iload_n 3, 1) := by decide +kernel
theorem dX1_keepVoyage_51 : decode cX1_keepVoyage 51 = .ok (.iadd, 1) := by decide +kernel
theorem dX1_keepVoyage_52 : decode cX1_keepVoyage 52 = .ok (.iaload, 1) := by decide +kernel
theorem dX1_keepVoyage_53 : decode cX1_keepVoyage 53 = .ok (.istore 4, 2) := by decide +kernel
theorem dX1_keepVoyage_55 : decode cX1_keepVoyage 55 = .ok (.aload_n 0, 1) := by decide +kernel
theorem dX1_keepVoyage_56 : decode cX1_keepVoyage 56 = .ok (.getfield 40, 3) := by decide +kernel
theorem dX1_keepVoyage_59 : decode cX1_keepVoyage 59 = .ok (.getfield 80, 3) := by decide +kernel
theorem dX1_keepVoyage_62 : decode cX1_keepVoyage 62 = .ok (.iload_n 1, 1) := by decide +kernel
theorem dX1_keepVoyage_63 : decode cX1_keepVoyage 63 = .ok (.aaload, 1) := by decide +kernel
theorem dX1_keepVoyage_64 : decode cX1_keepVoyage 64 = .ok (.getfield 84, 3) := by decide +kernel
theorem dX1_keepVoyage_67 : decode cX1_keepVoyage 67 = .ok (.istore 5, 2) := by decide +kernel
theorem dX1_keepVoyage_69 : decode cX1_keepVoyage 69 = .ok (.iload_n 2, 1) := by decide +kernel
theorem dX1_keepVoyage_70 : decode cX1_keepVoyage 70 = .ok (.istore 6, 2) := by decide +kernel
theorem dX1_keepVoyage_72 : decode cX1_keepVoyage 72 = .ok (.iconst 0, 1) := by decide +kernel
theorem dX1_keepVoyage_73 : decode cX1_keepVoyage 73 = .ok (.istore 7, 2) := by decide +kernel
theorem dX1_keepVoyage_75 : decode cX1_keepVoyage 75 = .ok (.iload 7, 2) := by decide +kernel
theorem dX1_keepVoyage_77 : decode cX1_keepVoyage 77 = .ok (.aload_n 0, 1) := by decide +kernel
theorem dX1_keepVoyage_78 : decode cX1_keepVoyage 78 = .ok (.getfield 132, 3) := by decide +kernel
theorem dX1_keepVoyage_81 : decode cX1_keepVoyage 81 = .ok (.if_icmp .ge 104, 3) := by decide +kernel
theorem dX1_keepVoyage_84 : decode cX1_keepVoyage 84 = .ok (.aload_n 0, 1) := by decide +kernel
theorem dX1_keepVoyage_85 : decode cX1_keepVoyage 85 = .ok (.iload_n 3, 1) := by decide +kernel
theorem dX1_keepVoyage_86 : decode cX1_keepVoyage 86 = .ok (.iload 4, 2) := by decide +kernel
theorem dX1_keepVoyage_88 : decode cX1_keepVoyage 88 = .ok (.iload 7, 2) := by decide +kernel
theorem dX1_keepVoyage_90 : decode cX1_keepVoyage 90 = .ok (.invokevirtual 138, 3) := by decide +kernel
theorem dX1_keepVoyage_93 : decode cX1_keepVoyage 93 = .ok (.istore 8, 2) := by decide +kernel
theorem dX1_keepVoyage_95 : decode cX1_keepVoyage 95 = .ok (.iload 8, 2) := by decide +kernel
theorem dX1_keepVoyage_97 : decode cX1_keepVoyage 97 = .ok (.iconst (-1), 1) := by decide +kernel
theorem dX1_keepVoyage_98 : decode cX1_keepVoyage 98 = .ok (.if_icmp .eq 17, 3) := by decide +kernel
theorem dX1_keepVoyage_101 : decode cX1_keepVoyage 101 = .ok (.aload_n 0, 1) := by decide +kernel
theorem dX1_keepVoyage_102 : decode cX1_keepVoyage 102 = .ok (.iload_n 1, 1) := by decide +kernel
theorem dX1_keepVoyage_103 : decode cX1_keepVoyage 103 = .ok (.iload 8, 2) := by decide +kernel
theorem dX1_keepVoyage_105 : decode cX1_keepVoyage 105 = .ok (.iload 5, 2) := by decide +kernel
theorem dX1_keepVoyage_107 : decode cX1_keepVoyage 107 = .ok (.iload 6, 2) := by decide +kernel
theorem dX1_keepVoyage_109 : decode cX1_keepVoyage 109 = .ok (.invokevirtual 104, 3) := by decide +kernel
theorem dX1_keepVoyage_112 : decode cX1_keepVoyage 112 = .ok (.ifCond .ne 4, 3) := by decide +kernel
theorem dX1_keepVoyage_115 : decode cX1_keepVoyage 115 = .ok (.return_, 1) := by decide +kernel
theorem dX1_keepVoyage_116 : decode cX1_keepVoyage 116 = .ok (.aload_n 0, 1) := by decide +kernel
theorem dX1_keepVoyage_117 : decode cX1_keepVoyage 117 = .ok (.getfield 28, 3) := by decide +kernel
theorem dX1_keepVoyage_120 : decode cX1_keepVoyage 120 = .ok (.iload 8, 2) := by decide +kernel
theorem dX1_keepVoyage_122 : decode cX1_keepVoyage 122 = .ok (.iload 7, 2) := by decide +kernel
theorem dX1_keepVoyage_124 : decode cX1_keepVoyage 124 = .ok (.iastore, 1) := by decide +kernel
theorem dX1_keepVoyage_125 : decode cX1_keepVoyage 125 = .ok (.aload_n 0, 1) := by decide +kernel
theorem dX1_keepVoyage_126 : decode cX1_keepVoyage 126 = .ok (.getfield 31, 3) := by decide +kernel
theorem dX1_keepVoyage_129 : decode cX1_keepVoyage 129 = .ok (.iload 8, 2) := by decide +kernel
theorem dX1_keepVoyage_131 : decode cX1_keepVoyage 131 = .ok (.aload_n 0, 1) := by decide +kernel
theorem dX1_keepVoyage_132 : decode cX1_keepVoyage 132 = .ok (.getfield 142, 3) := by decide +kernel
theorem dX1_keepVoyage_135 : decode cX1_keepVoyage 135 = .ok (.iastore, 1) := by decide +kernel
theorem dX1_keepVoyage_136 : decode cX1_keepVoyage 136 = .ok (.aload_n 0, 1) := by decide +kernel
theorem dX1_keepVoyage_137 : decode cX1_keepVoyage 137 = .ok (.getfield 34, 3) := by decide +kernel
theorem dX1_keepVoyage_140 : decode cX1_keepVoyage 140 = .ok (.iload 8, 2) := by decide +kernel
theorem dX1_keepVoyage_142 : decode cX1_keepVoyage 142 = .ok (.aload_n 0, 1) := by decide +kernel
theorem dX1_keepVoyage_143 : decode cX1_keepVoyage 143 = .ok (.getfield 145, 3) := by decide +kernel
theorem dX1_keepVoyage_146 : decode cX1_keepVoyage 146 = .ok (.iastore, 1) := by decide +kernel
theorem dX1_keepVoyage_147 : decode cX1_keepVoyage 147 = .ok (.aload_n 0, 1) := by decide +kernel
theorem dX1_keepVoyage_148 : decode cX1_keepVoyage 148 = .ok (.getfield 37, 3) := by decide +kernel
theorem dX1_keepVoyage_151 : decode cX1_keepVoyage 151 = .ok (.iload 8, 2) := by decide +kernel
theorem dX1_keepVoyage_153 : decode cX1_keepVoyage 153 = .ok (.aload_n 0, 1) := by decide +kernel
theorem dX1_keepVoyage_154 : decode cX1_keepVoyage 154 = .ok (.getfield 108, 3) := by decide +kernel
theorem dX1_keepVoyage_157 : decode cX1_keepVoyage 157 = .ok (.lastore, 1) := by decide +kernel
theorem dX1_keepVoyage_158 : decode cX1_keepVoyage 158 = .ok (.aload_n 0, 1) := by decide +kernel
theorem dX1_keepVoyage_159 : decode cX1_keepVoyage 159 = .ok (.getfield 40, 3) := by decide +kernel
theorem dX1_keepVoyage_162 : decode cX1_keepVoyage 162 = .ok (.getfield 50, 3) := by decide +kernel
theorem dX1_keepVoyage_165 : decode cX1_keepVoyage 165 = .ok (.iload 8, 2) := by decide +kernel
theorem dX1_keepVoyage_167 : decode cX1_keepVoyage 167 = .ok (.iconst 1, 1) := by decide +kernel
theorem dX1_keepVoyage_168 : decode cX1_keepVoyage 168 = .ok (.invokevirtual 116, 3) := by decide +kernel
theorem dX1_keepVoyage_171 : decode cX1_keepVoyage 171 = .ok (.istore 5, 2) := by decide +kernel
theorem dX1_keepVoyage_173 : decode cX1_keepVoyage 173 = .ok (.aload_n 0, 1) := by decide +kernel
theorem dX1_keepVoyage_174 : decode cX1_keepVoyage 174 = .ok (.getfield 119, 3) := by decide +kernel
theorem dX1_keepVoyage_177 : decode cX1_keepVoyage 177 = .ok (.istore 6, 2) := by decide +kernel
theorem dX1_keepVoyage_179 : decode cX1_keepVoyage 179 = .ok (.iinc 7 1, 3) := by decide +kernel
theorem dX1_keepVoyage_182 : decode cX1_keepVoyage 182 = .ok (.goto (-107), 3) := by decide +kernel
theorem dX1_keepVoyage_185 : decode cX1_keepVoyage 185 = .ok (.return_, 1) := by decide +kernel
theorem dX1_cargoAt_0 : decode cX1_cargoAt 0 = .ok (.iconst 0, 1) := by decide +kernel
theorem dX1_cargoAt_1 : decode cX1_cargoAt 1 = .ok (.istore 4, 2) := by decide +kernel
theorem dX1_cargoAt_3 : decode cX1_cargoAt 3 = .ok (.iload 4, 2) := by decide +kernel
theorem dX1_cargoAt_5 : decode cX1_cargoAt 5 = .ok (.aload_n 0, 1) := by decide +kernel
theorem dX1_cargoAt_6 : decode cX1_cargoAt 6 = .ok (.getfield 132, 3) := by decide +kernel
theorem dX1_cargoAt_9 : decode cX1_cargoAt 9 = .ok (.if_icmp .ge 37, 3) := by decide +kernel
theorem dX1_cargoAt_12 : decode cX1_cargoAt 12 = .ok (.iload_n 1, 1) := by decide +kernel
theorem dX1_cargoAt_13 : decode cX1_cargoAt 13 = .ok (.iload 4, 2) := by decide +kernel
theorem dX1_cargoAt_15 : decode cX1_cargoAt 15 = .ok (.ishr, 1) := by decide +kernel
theorem dX1_cargoAt_16 : decode cX1_cargoAt 16 = .ok (.iconst 1, 1) := by decide +kernel
theorem dX1_cargoAt_17 : decode cX1_cargoAt 17 = .ok (.iand, 1) := by decide +kernel
theorem dX1_cargoAt_18 : decode cX1_cargoAt 18 = .ok (.iconst 1, 1) := by decide +kernel
theorem dX1_cargoAt_19 : decode cX1_cargoAt 19 = .ok (.if_icmp .ne 21, 3) := by decide +kernel
theorem dX1_cargoAt_22 : decode cX1_cargoAt 22 = .ok (.iload_n 2, 1) := by decide +kernel
theorem dX1_cargoAt_23 : decode cX1_cargoAt 23 = .ok (.iconst 3, 1) := by decide +kernel
theorem dX1_cargoAt_24 : decode cX1_cargoAt 24 = .ok (.iconst 5, 1) := by decide +kernel
theorem dX1_cargoAt_25 : decode cX1_cargoAt 25 = .ok (.iload 4, 2) := by decide +kernel
theorem dX1_cargoAt_27 : decode cX1_cargoAt 27 = .ok (.isub, 1) := by decide +kernel
theorem dX1_cargoAt_28 : decode cX1_cargoAt 28 = .ok (.imul, 1) := by decide +kernel
theorem dX1_cargoAt_29 : decode cX1_cargoAt 29 = .ok (.ishr, 1) := by decide +kernel
theorem dX1_cargoAt_30 : decode cX1_cargoAt 30 = .ok (.bipush 7, 2) := by decide +kernel
theorem dX1_cargoAt_32 : decode cX1_cargoAt 32 = .ok (.iand, 1) := by decide +kernel
theorem dX1_cargoAt_33 : decode cX1_cargoAt 33 = .ok (.iload_n 3, 1) := by decide +kernel
theorem dX1_cargoAt_34 : decode cX1_cargoAt 34 = .ok (.if_icmp .ne 6, 3) := by decide +kernel
theorem dX1_cargoAt_37 : decode cX1_cargoAt 37 = .ok (.iload 4, 2) := by decide +kernel
theorem dX1_cargoAt_39 : decode cX1_cargoAt 39 = .ok (.ireturn, 1) := by decide +kernel
theorem dX1_cargoAt_40 : decode cX1_cargoAt 40 = .ok (.iinc 4 1, 3) := by decide +kernel
theorem dX1_cargoAt_43 : decode cX1_cargoAt 43 = .ok (.goto (-40), 3) := by decide +kernel
theorem dX1_cargoAt_46 : decode cX1_cargoAt 46 = .ok (.iconst (-1), 1) := by decide +kernel
theorem dX1_cargoAt_47 : decode cX1_cargoAt 47 = .ok (.ireturn, 1) := by decide +kernel
set_option maxRecDepth 20000 in
theorem ggX1_worthOfRow_X4_has : GoodIn wsX1_worthOfRow wsX4_has := goodIn_r _ [9, 10, 122, 123, 124] (by decide +kernel) (by decide +kernel)
set_option maxRecDepth 20000 in
theorem gX1_worthOfRow_X4_has : GoodIn wsX1_worthOfRow (wsV RX1 148 RX4 yX4_has wsX4_has) := goodIn_app (goodIn_of _ (by decide +kernel)) ggX1_worthOfRow_X4_has
set_option maxRecDepth 20000 in
theorem ggX1_worthOfRow_X1_reckon : GoodIn wsX1_worthOfRow wsX1_reckon := goodIn_r _ [15, 1, 16, 17, 18, 19, 20, 21, 4, 22, 23, 24, 25, 26, 3, 27, 28, 29, 8, 30, 31, 32, 33, 34, 10, 35, 36, 37, 38, 39, 40, 41, 42, 43, 44, 45, 46, 47, 48, 49, 50, 51, 52, 53, 54, 55, 56, 57, 58, 59, 60, 61, 62, 63, 64, 65, 66, 67, 68, 69, 70, 71, 72, 73, 74, 75, 76, 77, 78, 79, 80, 81, 82, 83, 84, 85, 86, 87, 88, 89, 90, 91, 92, 93, 94, 95, 96, 97, 98, 99, 100, 101, 102, 103, 104, 105, 106, 107, 108, 109, 110, 111, 112, 113, 114, 115, 116, 117, 118, 119, 120, 121, 122, 123, 124, 125, 126, 127, 128, 129, 130, 131, 132, 133, 134, 135, 136, 137, 138, 139, 140, 141, 142] (by decide +kernel) (by decide +kernel)
set_option maxRecDepth 20000 in
theorem gX1_worthOfRow_X1_reckon : GoodIn wsX1_worthOfRow (wsV RX1 104 RX1 yX1_reckon wsX1_reckon) := goodIn_app (goodIn_of _ (by decide +kernel)) ggX1_worthOfRow_X1_reckon
set_option maxRecDepth 20000 in
theorem ggX1_worthOfRow_X4_number : GoodIn wsX1_worthOfRow wsX4_number := goodIn_r _ [30, 31, 32, 33, 8, 34, 10, 35, 36, 122, 123, 124] (by decide +kernel) (by decide +kernel)
set_option maxRecDepth 20000 in
theorem gX1_worthOfRow_X4_number : GoodIn wsX1_worthOfRow (wsV RX1 116 RX4 yX4_number wsX4_number) := goodIn_app (goodIn_of _ (by decide +kernel)) ggX1_worthOfRow_X4_number
theorem dX1_worthOfRow_0 : decode cX1_worthOfRow 0 = .ok (.lconst 0, 1) := by decide +kernel
theorem dX1_worthOfRow_1 : decode cX1_worthOfRow 1 = .ok (.lstore 6, 2) := by decide +kernel
theorem dX1_worthOfRow_3 : decode cX1_worthOfRow 3 = .ok (.iconst 0, 1) := by decide +kernel
theorem dX1_worthOfRow_4 : decode cX1_worthOfRow 4 = .ok (.istore 8, 2) := by decide +kernel
theorem dX1_worthOfRow_6 : decode cX1_worthOfRow 6 = .ok (.aload_n 0, 1) := by decide +kernel
theorem dX1_worthOfRow_7 : decode cX1_worthOfRow 7 = .ok (.getfield 40, 3) := by decide +kernel
theorem dX1_worthOfRow_10 : decode cX1_worthOfRow 10 = .ok (.getfield 80, 3) := by decide +kernel
theorem dX1_worthOfRow_13 : decode cX1_worthOfRow 13 = .ok (.iload_n 1, 1) := by decide +kernel
theorem dX1_worthOfRow_14 : decode cX1_worthOfRow 14 = .ok (.aaload, 1) := by decide +kernel
theorem dX1_worthOfRow_15 : decode cX1_worthOfRow 15 = .ok (.getfield 84, 3) := by decide +kernel
theorem dX1_worthOfRow_18 : decode cX1_worthOfRow 18 = .ok (.istore 9, 2) := by decide +kernel
theorem dX1_worthOfRow_20 : decode cX1_worthOfRow 20 = .ok (.iload 5, 2) := by decide +kernel
theorem dX1_worthOfRow_22 : decode cX1_worthOfRow 22 = .ok (.istore 10, 2) := by decide +kernel
theorem dX1_worthOfRow_24 : decode cX1_worthOfRow 24 = .ok (.iconst 0, 1) := by decide +kernel
theorem dX1_worthOfRow_25 : decode cX1_worthOfRow 25 = .ok (.istore 11, 2) := by decide +kernel
theorem dX1_worthOfRow_27 : decode cX1_worthOfRow 27 = .ok (.iload 11, 2) := by decide +kernel
theorem dX1_worthOfRow_29 : decode cX1_worthOfRow 29 = .ok (.iconst 3, 1) := by decide +kernel
theorem dX1_worthOfRow_30 : decode cX1_worthOfRow 30 = .ok (.if_icmp .ge 124, 3) := by decide +kernel
theorem dX1_worthOfRow_33 : decode cX1_worthOfRow 33 = .ok (.iload 11, 2) := by decide +kernel
theorem dX1_worthOfRow_35 : decode cX1_worthOfRow 35 = .ok (.ifCond .ne 7, 3) := by decide +kernel
theorem dX1_worthOfRow_38 : decode cX1_worthOfRow 38 = .ok (.iload_n 2, 1) := by decide +kernel
theorem dX1_worthOfRow_39 : decode cX1_worthOfRow 39 = .ok (.goto 15, 3) := by decide +kernel
theorem dX1_worthOfRow_42 : decode cX1_worthOfRow 42 = .ok (.iload 11, 2) := by decide +kernel
theorem dX1_worthOfRow_44 : decode cX1_worthOfRow 44 = .ok (.iconst 1, 1) := by decide +kernel
theorem dX1_worthOfRow_45 : decode cX1_worthOfRow 45 = .ok (.if_icmp .ne 7, 3) := by decide +kernel
theorem dX1_worthOfRow_48 : decode cX1_worthOfRow 48 = .ok (.iload_n 3, 1) := by decide +kernel
theorem dX1_worthOfRow_49 : decode cX1_worthOfRow 49 = .ok (.goto 5, 3) := by decide +kernel
theorem dX1_worthOfRow_52 : decode cX1_worthOfRow 52 = .ok (.iload 4, 2) := by decide +kernel
theorem dX1_worthOfRow_54 : decode cX1_worthOfRow 54 = .ok (.istore 12, 2) := by decide +kernel
theorem dX1_worthOfRow_56 : decode cX1_worthOfRow 56 = .ok (.iload 12, 2) := by decide +kernel
theorem dX1_worthOfRow_58 : decode cX1_worthOfRow 58 = .ok (.iconst (-1), 1) := by decide +kernel
theorem dX1_worthOfRow_59 : decode cX1_worthOfRow 59 = .ok (.if_icmp .ne 6, 3) := by decide +kernel
theorem dX1_worthOfRow_62 : decode cX1_worthOfRow 62 = .ok (.lload 6, 2) := by decide +kernel
theorem dX1_worthOfRow_64 : decode cX1_worthOfRow 64 = .ok (.lreturn, 1) := by decide +kernel
theorem dX1_worthOfRow_65 : decode cX1_worthOfRow 65 = .ok (.aload_n 0, 1) := by decide +kernel
theorem dX1_worthOfRow_66 : decode cX1_worthOfRow 66 = .ok (.getfield 40, 3) := by decide +kernel
theorem dX1_worthOfRow_69 : decode cX1_worthOfRow 69 = .ok (.getfield 50, 3) := by decide +kernel
theorem dX1_worthOfRow_72 : decode cX1_worthOfRow 72 = .ok (.iload 12, 2) := by decide +kernel
theorem dX1_worthOfRow_74 : decode cX1_worthOfRow 74 = .ok (.invokevirtual 148, 3) := by decide +kernel
theorem dX1_worthOfRow_77 : decode cX1_worthOfRow 77 = .ok (.ifCond .eq 28, 3) := by decide +kernel
theorem dX1_worthOfRow_80 : decode cX1_worthOfRow 80 = .ok (.iload 8, 2) := by decide +kernel
theorem dX1_worthOfRow_82 : decode cX1_worthOfRow 82 = .ok (.iload 12, 2) := by decide +kernel
theorem dX1_worthOfRow_84 : decode cX1_worthOfRow 84 = .ok (.ishr, 1) := by decide +kernel
theorem dX1_worthOfRow_85 : decode cX1_worthOfRow 85 = .ok (.iconst 1, 1) := by decide +kernel
theorem dX1_worthOfRow_86 : decode cX1_worthOfRow 86 = .ok (.iand, 1) := by decide +kernel
theorem dX1_worthOfRow_87 : decode cX1_worthOfRow 87 = .ok (.iconst 1, 1) := by decide +kernel
theorem dX1_worthOfRow_88 : decode cX1_worthOfRow 88 = .ok (.if_icmp .eq 17, 3) := by decide +kernel
theorem dX1_worthOfRow_91 : decode cX1_worthOfRow 91 = .ok (.aload_n 0, 1) := by decide +kernel
theorem dX1_worthOfRow_92 : decode cX1_worthOfRow 92 = .ok (.iload_n 1, 1) := by decide +kernel
theorem dX1_worthOfRow_93 : decode cX1_worthOfRow 93 = .ok (.iload 12, 2) := by decide +kernel
theorem dX1_worthOfRow_95 : decode cX1_worthOfRow 95 = .ok (.iload 9, 2) := by decide +kernel
theorem dX1_worthOfRow_97 : decode cX1_worthOfRow 97 = .ok (.iload 10, 2) := by decide +kernel
theorem dX1_worthOfRow_99 : decode cX1_worthOfRow 99 = .ok (.invokevirtual 104, 3) := by decide +kernel
theorem dX1_worthOfRow_102 : decode cX1_worthOfRow 102 = .ok (.ifCond .ne 7, 3) := by decide +kernel
theorem dX1_worthOfRow_105 : decode cX1_worthOfRow 105 = .ok (.ldc2_w 66, 3) := by decide +kernel
theorem dX1_worthOfRow_108 : decode cX1_worthOfRow 108 = .ok (.lreturn, 1) := by decide +kernel
theorem dX1_worthOfRow_109 : decode cX1_worthOfRow 109 = .ok (.iload 8, 2) := by decide +kernel
theorem dX1_worthOfRow_111 : decode cX1_worthOfRow 111 = .ok (.iconst 1, 1) := by decide +kernel
theorem dX1_worthOfRow_112 : decode cX1_worthOfRow 112 = .ok (.iload 12, 2) := by decide +kernel
theorem dX1_worthOfRow_114 : decode cX1_worthOfRow 114 = .ok (.ishl, 1) := by decide +kernel
theorem dX1_worthOfRow_115 : decode cX1_worthOfRow 115 = .ok (.ior, 1) := by decide +kernel
theorem dX1_worthOfRow_116 : decode cX1_worthOfRow 116 = .ok (.istore 8, 2) := by decide +kernel
theorem dX1_worthOfRow_118 : decode cX1_worthOfRow 118 = .ok (.lload 6, 2) := by decide +kernel
theorem dX1_worthOfRow_120 : decode cX1_worthOfRow 120 = .ok (.aload_n 0, 1) := by decide +kernel
theorem dX1_worthOfRow_121 : decode cX1_worthOfRow 121 = .ok (.getfield 108, 3) := by decide +kernel
theorem dX1_worthOfRow_124 : decode cX1_worthOfRow 124 = .ok (.ladd, 1) := by decide +kernel
theorem dX1_worthOfRow_125 : decode cX1_worthOfRow 125 = .ok (.lstore 6, 2) := by decide +kernel
theorem dX1_worthOfRow_127 : decode cX1_worthOfRow 127 = .ok (.aload_n 0, 1) := by decide +kernel
theorem dX1_worthOfRow_128 : decode cX1_worthOfRow 128 = .ok (.getfield 40, 3) := by decide +kernel
theorem dX1_worthOfRow_131 : decode cX1_worthOfRow 131 = .ok (.getfield 50, 3) := by decide +kernel
theorem dX1_worthOfRow_134 : decode cX1_worthOfRow 134 = .ok (.iload 12, 2) := by decide +kernel
theorem dX1_worthOfRow_136 : decode cX1_worthOfRow 136 = .ok (.iconst 1, 1) := by decide +kernel
theorem dX1_worthOfRow_137 : decode cX1_worthOfRow 137 = .ok (.invokevirtual 116, 3) := by decide +kernel
theorem dX1_worthOfRow_140 : decode cX1_worthOfRow 140 = .ok (.istore 9, 2) := by decide +kernel
theorem dX1_worthOfRow_142 : decode cX1_worthOfRow 142 = .ok (.aload_n 0, 1) := by decide +kernel
theorem dX1_worthOfRow_143 : decode cX1_worthOfRow 143 = .ok (.getfield 119, 3) := by decide +kernel
theorem dX1_worthOfRow_146 : decode cX1_worthOfRow 146 = .ok (.istore 10, 2) := by decide +kernel
theorem dX1_worthOfRow_148 : decode cX1_worthOfRow 148 = .ok (.iinc 11 1, 3) := by decide +kernel
theorem dX1_worthOfRow_151 : decode cX1_worthOfRow 151 = .ok (.goto (-124), 3) := by decide +kernel
theorem dX1_worthOfRow_154 : decode cX1_worthOfRow 154 = .ok (.lload 6, 2) := by decide +kernel
theorem dX1_worthOfRow_156 : decode cX1_worthOfRow 156 = .ok (.lreturn, 1) := by decide +kernel
set_option maxRecDepth 20000 in
theorem ggX1_reckon_X4_number : GoodIn wsX1_reckon wsX4_number := goodIn_r _ [19, 20, 21, 22, 18, 23, 24, 25, 26, 112, 113, 114] (by decide +kernel) (by decide +kernel)
set_option maxRecDepth 20000 in
theorem gX1_reckon_X4_number : GoodIn wsX1_reckon (wsV RX1 116 RX4 yX4_number wsX4_number) := goodIn_app (goodIn_of _ (by decide +kernel)) ggX1_reckon_X4_number
set_option maxRecDepth 20000 in
theorem ggX1_reckon_X10_hoursBetween : GoodIn wsX1_reckon wsX10_hoursBetween := goodIn_r _ [31, 32, 33, 34, 35, 30, 36, 37, 76, 77, 78, 79, 80, 81, 82, 83, 84, 85, 86, 87, 88, 89, 90, 91, 92, 93, 94, 115, 116, 117, 118, 119, 120, 121] (by decide +kernel) (by decide +kernel)
set_option maxRecDepth 20000 in
theorem gX1_reckon_X10_hoursBetween : GoodIn wsX1_reckon (wsV RX1 151 RX10 yX10_hoursBetween wsX10_hoursBetween) := goodIn_app (goodIn_of _ (by decide +kernel)) ggX1_reckon_X10_hoursBetween
set_option maxRecDepth 20000 in
theorem ggX1_reckon_X7_top : GoodIn wsX1_reckon wsX7_top := goodIn_r _ [42, 43, 122, 123, 124, 125, 126, 127, 128] (by decide +kernel) (by decide +kernel)
set_option maxRecDepth 20000 in
theorem gX1_reckon_X7_top : GoodIn wsX1_reckon (wsV RX1 158 RX7 yX7_top wsX7_top) := goodIn_app (goodIn_of _ (by decide +kernel)) ggX1_reckon_X7_top
set_option maxRecDepth 20000 in
theorem ggX1_reckon_X8_hoursFor : GoodIn wsX1_reckon wsX8_hoursFor := goodIn_r _ [48, 49, 115, 116, 117, 118, 119, 120, 121] (by decide +kernel) (by decide +kernel)
set_option maxRecDepth 20000 in
theorem gX1_reckon_X8_hoursFor : GoodIn wsX1_reckon (wsV RX1 175 RX8 yX8_hoursFor wsX8_hoursFor) := goodIn_app (goodIn_of _ (by decide +kernel)) ggX1_reckon_X8_hoursFor
set_option maxRecDepth 20000 in
theorem ggX1_reckon_X6_hourBehind : GoodIn wsX1_reckon wsX6_hourBehind := goodIn_r _ [54, 55, 56, 57, 58, 59, 3, 4, 5, 129, 130, 131, 132] (by decide +kernel) (by decide +kernel)
set_option maxRecDepth 20000 in
theorem gX1_reckon_X6_hourBehind : GoodIn wsX1_reckon (wsV RX1 180 RX6 yX6_hourBehind wsX6_hourBehind) := goodIn_app (goodIn_of _ (by decide +kernel)) ggX1_reckon_X6_hourBehind
set_option maxRecDepth 20000 in
theorem ggX1_reckon_X4_at : GoodIn wsX1_reckon wsX4_at := goodIn_r _ [23, 24, 25, 26, 112, 113, 114] (by decide +kernel) (by decide +kernel)
set_option maxRecDepth 20000 in
theorem gX1_reckon_X4_at : GoodIn wsX1_reckon (wsV RX1 194 RX4 yX4_at wsX4_at) := goodIn_app (goodIn_of _ (by decide +kernel)) ggX1_reckon_X4_at
theorem dX1_reckon_0 : decode cX1_reckon 0 = .ok (.aload_n 0, 1) := by decide +kernel
theorem dX1_reckon_1 : decode cX1_reckon 1 = .ok (.getfield 40, 3) := by decide +kernel
theorem dX1_reckon_4 : decode cX1_reckon 4 = .ok (.getfield 50, 3) := by decide +kernel
theorem dX1_reckon_7 : decode cX1_reckon 7 = .ok (.astore 5, 2) := by decide +kernel
theorem dX1_reckon_9 : decode cX1_reckon 9 = .ok (.aload 5, 2) := by decide +kernel
theorem dX1_reckon_11 : decode cX1_reckon 11 = .ok (.iload_n 2, 1) := by decide +kernel
theorem dX1_reckon_12 : decode cX1_reckon 12 = .ok (.iconst 0, 1) := by decide +kernel
theorem dX1_reckon_13 : decode cX1_reckon 13 = .ok (.invokevirtual 116, 3) := by decide +kernel
theorem dX1_reckon_16 : decode cX1_reckon 16 = .ok (.istore 6, 2) := by decide +kernel
theorem dX1_reckon_18 : decode cX1_reckon 18 = .ok (.aload 5, 2) := by decide +kernel
theorem dX1_reckon_20 : decode cX1_reckon 20 = .ok (.iload_n 2, 1) := by decide +kernel
theorem dX1_reckon_21 : decode cX1_reckon 21 = .ok (.iconst 1, 1) := by decide +kernel
theorem dX1_reckon_22 : decode cX1_reckon 22 = .ok (.invokevirtual 116, 3) := by decide +kernel
theorem dX1_reckon_25 : decode cX1_reckon 25 = .ok (.istore 7, 2) := by decide +kernel
theorem dX1_reckon_27 : decode cX1_reckon 27 = .ok (.aload 5, 2) := by decide +kernel
theorem dX1_reckon_29 : decode cX1_reckon 29 = .ok (.iload_n 2, 1) := by decide +kernel
theorem dX1_reckon_30 : decode cX1_reckon 30 = .ok (.bipush 6, 2) := by decide +kernel
theorem dX1_reckon_32 : decode cX1_reckon 32 = .ok (.invokevirtual 116, 3) := by decide +kernel
theorem dX1_reckon_35 : decode cX1_reckon 35 = .ok (.istore 8, 2) := by decide +kernel
theorem dX1_reckon_37 : decode cX1_reckon 37 = .ok (.aload_n 0, 1) := by decide +kernel
theorem dX1_reckon_38 : decode cX1_reckon 38 = .ok (.getfield 40, 3) := by decide +kernel
theorem dX1_reckon_41 : decode cX1_reckon 41 = .ok (.iload_n 3, 1) := by decide +kernel
theorem dX1_reckon_42 : decode cX1_reckon 42 = .ok (.iload 6, 2) := by decide +kernel
theorem dX1_reckon_44 : decode cX1_reckon 44 = .ok (.invokevirtual 151, 3) := by decide +kernel
theorem dX1_reckon_47 : decode cX1_reckon 47 = .ok (.istore 9, 2) := by decide +kernel
theorem dX1_reckon_49 : decode cX1_reckon 49 = .ok (.aload_n 0, 1) := by decide +kernel
theorem dX1_reckon_50 : decode cX1_reckon 50 = .ok (.getfield 40, 3) := by decide +kernel
theorem dX1_reckon_53 : decode cX1_reckon 53 = .ok (.iload 6, 2) := by decide +kernel
theorem dX1_reckon_55 : decode cX1_reckon 55 = .ok (.iload 7, 2) := by decide +kernel
theorem dX1_reckon_57 : decode cX1_reckon 57 = .ok (.invokevirtual 151, 3) := by decide +kernel
theorem dX1_reckon_60 : decode cX1_reckon 60 = .ok (.istore 10, 2) := by decide +kernel
theorem dX1_reckon_62 : decode cX1_reckon 62 = .ok (.iload 9, 2) := by decide +kernel
theorem dX1_reckon_64 : decode cX1_reckon 64 = .ok (.iconst (-1), 1) := by decide +kernel
theorem dX1_reckon_65 : decode cX1_reckon 65 = .ok (.if_icmp .eq 29, 3) := by decide +kernel
theorem dX1_reckon_68 : decode cX1_reckon 68 = .ok (.iload 10, 2) := by decide +kernel
theorem dX1_reckon_70 : decode cX1_reckon 70 = .ok (.iconst (-1), 1) := by decide +kernel
theorem dX1_reckon_71 : decode cX1_reckon 71 = .ok (.if_icmp .eq 23, 3) := by decide +kernel
theorem dX1_reckon_74 : decode cX1_reckon 74 = .ok (.iload 8, 2) := by decide +kernel
theorem dX1_reckon_76 : decode cX1_reckon 76 = .ok (.aload_n 0, 1) := by decide +kernel
theorem dX1_reckon_77 : decode cX1_reckon 77 = .ok (.getfield 40, 3) := by decide +kernel
theorem dX1_reckon_80 : decode cX1_reckon 80 = .ok (.getfield 80, 3) := by decide +kernel
theorem dX1_reckon_83 : decode cX1_reckon 83 = .ok (.iload_n 1, 1) := by decide +kernel
theorem dX1_reckon_84 : decode cX1_reckon 84 = .ok (.aaload, 1) := by decide +kernel
theorem dX1_reckon_85 : decode cX1_reckon 85 = .ok (.getfield 154, 3) := by decide +kernel
theorem dX1_reckon_88 : decode cX1_reckon 88 = .ok (.invokevirtual 158, 3) := by decide +kernel
theorem dX1_reckon_91 : decode cX1_reckon 91 = .ok (.if_icmp .le 5, 3) := by decide +kernel
theorem dX1_reckon_94 : decode cX1_reckon 94 = .ok (.iconst 0, 1) := by decide +kernel
theorem dX1_reckon_95 : decode cX1_reckon 95 = .ok (.ireturn, 1) := by decide +kernel
theorem dX1_reckon_96 : decode cX1_reckon 96 = .ok (.aload_n 0, 1) := by decide +kernel
theorem dX1_reckon_97 : decode cX1_reckon 97 = .ok (.iload 4, 2) := by decide +kernel
theorem dX1_reckon_99 : decode cX1_reckon 99 = .ok (.iload 9, 2) := by decide +kernel
theorem dX1_reckon_101 : decode cX1_reckon 101 = .ok (.iadd, 1) := by decide +kernel
theorem dX1_reckon_102 : decode cX1_reckon 102 = .ok (.aload 5, 2) := by decide +kernel
theorem dX1_reckon_104 : decode cX1_reckon 104 = .ok (.iload_n 2, 1) := by decide +kernel
theorem dX1_reckon_105 : decode cX1_reckon 105 = .ok (.iconst 2, 1) := by decide +kernel
theorem dX1_reckon_106 : decode cX1_reckon 106 = .ok (.invokevirtual 116, 3) := by decide +kernel
theorem dX1_reckon_109 : decode cX1_reckon 109 = .ok (.invokestatic 164, 3) := by decide +kernel
theorem dX1_reckon_112 : decode cX1_reckon 112 = .ok (.putfield 142, 3) := by decide +kernel
theorem dX1_reckon_115 : decode cX1_reckon 115 = .ok (.aload_n 0, 1) := by decide +kernel
theorem dX1_reckon_116 : decode cX1_reckon 116 = .ok (.getfield 142, 3) := by decide +kernel
theorem dX1_reckon_119 : decode cX1_reckon 119 = .ok (.aload 5, 2) := by decide +kernel
theorem dX1_reckon_121 : decode cX1_reckon 121 = .ok (.iload_n 2, 1) := by decide +kernel
theorem dX1_reckon_122 : decode cX1_reckon 122 = .ok (.iconst 3, 1) := by decide +kernel
theorem dX1_reckon_123 : decode cX1_reckon 123 = .ok (.invokevirtual 116, 3) := by decide +kernel
theorem dX1_reckon_126 : decode cX1_reckon 126 = .ok (.if_icmp .le 5, 3) := by decide +kernel
theorem dX1_reckon_129 : decode cX1_reckon 129 = .ok (.iconst 0, 1) := by decide +kernel
theorem dX1_reckon_130 : decode cX1_reckon 130 = .ok (.ireturn, 1) := by decide +kernel
theorem dX1_reckon_131 : decode cX1_reckon 131 = .ok (.aload_n 0, 1) := by decide +kernel
theorem dX1_reckon_132 : decode cX1_reckon 132 = .ok (.getfield 40, 3) := by decide +kernel
theorem dX1_reckon_135 : decode cX1_reckon 135 = .ok (.getfield 167, 3) := by decide +kernel
theorem dX1_reckon_138 : decode cX1_reckon 138 = .ok (.iload 6, 2) := by decide +kernel
theorem dX1_reckon_140 : decode cX1_reckon 140 = .ok (.iload 6, 2) := by decide +kernel
theorem dX1_reckon_142 : decode cX1_reckon 142 = .ok (.aload_n 0, 1) := by decide +kernel
theorem dX1_reckon_143 : decode cX1_reckon 143 = .ok (.getfield 142, 3) := by decide +kernel
theorem dX1_reckon_146 : decode cX1_reckon 146 = .ok (.aload_n 0, 1) := by decide +kernel
theorem dX1_reckon_147 : decode cX1_reckon 147 = .ok (.getfield 40, 3) := by decide +kernel
theorem dX1_reckon_150 : decode cX1_reckon 150 = .ok (.getfield 171, 3) := by decide +kernel
theorem dX1_reckon_153 : decode cX1_reckon 153 = .ok (.iload 6, 2) := by decide +kernel
theorem dX1_reckon_155 : decode cX1_reckon 155 = .ok (.aaload, 1) := by decide +kernel
theorem dX1_reckon_156 : decode cX1_reckon 156 = .ok (.iload 8, 2) := by decide +kernel
theorem dX1_reckon_158 : decode cX1_reckon 158 = .ok (.invokevirtual 175, 3) := by decide +kernel
theorem dX1_reckon_161 : decode cX1_reckon 161 = .ok (.invokevirtual 180, 3) := by decide +kernel
theorem dX1_reckon_164 : decode cX1_reckon 164 = .ok (.istore 11, 2) := by decide +kernel
theorem dX1_reckon_166 : decode cX1_reckon 166 = .ok (.iload 11, 2) := by decide +kernel
theorem dX1_reckon_168 : decode cX1_reckon 168 = .ok (.iconst (-1), 1) := by decide +kernel
theorem dX1_reckon_169 : decode cX1_reckon 169 = .ok (.if_icmp .ne 5, 3) := by decide +kernel
theorem dX1_reckon_172 : decode cX1_reckon 172 = .ok (.iconst 0, 1) := by decide +kernel
theorem dX1_reckon_173 : decode cX1_reckon 173 = .ok (.ireturn, 1) := by decide +kernel
theorem dX1_reckon_174 : decode cX1_reckon 174 = .ok (.aload_n 0, 1) := by decide +kernel
theorem dX1_reckon_175 : decode cX1_reckon 175 = .ok (.iload 11, 2) := by decide +kernel
theorem dX1_reckon_177 : decode cX1_reckon 177 = .ok (.iload 10, 2) := by decide +kernel
theorem dX1_reckon_179 : decode cX1_reckon 179 = .ok (.iadd, 1) := by decide +kernel
theorem dX1_reckon_180 : decode cX1_reckon 180 = .ok (.aload 5, 2) := by decide +kernel
theorem dX1_reckon_182 : decode cX1_reckon 182 = .ok (.iload_n 2, 1) := by decide +kernel
theorem dX1_reckon_183 : decode cX1_reckon 183 = .ok (.iconst 4, 1) := by decide +kernel
theorem dX1_reckon_184 : decode cX1_reckon 184 = .ok (.invokevirtual 116, 3) := by decide +kernel
theorem dX1_reckon_187 : decode cX1_reckon 187 = .ok (.invokestatic 164, 3) := by decide +kernel
theorem dX1_reckon_190 : decode cX1_reckon 190 = .ok (.putfield 145, 3) := by decide +kernel
theorem dX1_reckon_193 : decode cX1_reckon 193 = .ok (.aload_n 0, 1) := by decide +kernel
theorem dX1_reckon_194 : decode cX1_reckon 194 = .ok (.getfield 145, 3) := by decide +kernel
theorem dX1_reckon_197 : decode cX1_reckon 197 = .ok (.aload 5, 2) := by decide +kernel
theorem dX1_reckon_199 : decode cX1_reckon 199 = .ok (.iload_n 2, 1) := by decide +kernel
theorem dX1_reckon_200 : decode cX1_reckon 200 = .ok (.iconst 5, 1) := by decide +kernel
theorem dX1_reckon_201 : decode cX1_reckon 201 = .ok (.invokevirtual 116, 3) := by decide +kernel
theorem dX1_reckon_204 : decode cX1_reckon 204 = .ok (.if_icmp .le 5, 3) := by decide +kernel
theorem dX1_reckon_207 : decode cX1_reckon 207 = .ok (.iconst 0, 1) := by decide +kernel
theorem dX1_reckon_208 : decode cX1_reckon 208 = .ok (.ireturn, 1) := by decide +kernel
theorem dX1_reckon_209 : decode cX1_reckon 209 = .ok (.aload_n 0, 1) := by decide +kernel
theorem dX1_reckon_210 : decode cX1_reckon 210 = .ok (.aload_n 0, 1) := by decide +kernel
theorem dX1_reckon_211 : decode cX1_reckon 211 = .ok (.getfield 40, 3) := by decide +kernel
theorem dX1_reckon_214 : decode cX1_reckon 214 = .ok (.getfield 167, 3) := by decide +kernel
theorem dX1_reckon_217 : decode cX1_reckon 217 = .ok (.iload 7, 2) := by decide +kernel
theorem dX1_reckon_219 : decode cX1_reckon 219 = .ok (.iload 7, 2) := by decide +kernel
theorem dX1_reckon_221 : decode cX1_reckon 221 = .ok (.aload_n 0, 1) := by decide +kernel
theorem dX1_reckon_222 : decode cX1_reckon 222 = .ok (.getfield 145, 3) := by decide +kernel
theorem dX1_reckon_225 : decode cX1_reckon 225 = .ok (.aload_n 0, 1) := by decide +kernel
theorem dX1_reckon_226 : decode cX1_reckon 226 = .ok (.getfield 40, 3) := by decide +kernel
theorem dX1_reckon_229 : decode cX1_reckon 229 = .ok (.getfield 171, 3) := by decide +kernel
theorem dX1_reckon_232 : decode cX1_reckon 232 = .ok (.iload 7, 2) := by decide +kernel
theorem dX1_reckon_234 : decode cX1_reckon 234 = .ok (.aaload, 1) := by decide +kernel
theorem dX1_reckon_235 : decode cX1_reckon 235 = .ok (.iload 8, 2) := by decide +kernel
theorem dX1_reckon_237 : decode cX1_reckon 237 = .ok (.invokevirtual 175, 3) := by decide +kernel
theorem dX1_reckon_240 : decode cX1_reckon 240 = .ok (.invokevirtual 180, 3) := by decide +kernel
theorem dX1_reckon_243 : decode cX1_reckon 243 = .ok (.putfield 119, 3) := by decide +kernel
theorem dX1_reckon_246 : decode cX1_reckon 246 = .ok (.iload 8, 2) := by decide +kernel
theorem dX1_reckon_248 : decode cX1_reckon 248 = .ok (.i2l, 1) := by decide +kernel
theorem dX1_reckon_249 : decode cX1_reckon 249 = .ok (.iload 8, 2) := by decide +kernel
theorem dX1_reckon_251 : decode cX1_reckon 251 = .ok (.i2l, 1) := by decide +kernel
theorem dX1_reckon_252 : decode cX1_reckon 252 = .ok (.aload_n 0, 1) := by decide +kernel
theorem dX1_reckon_253 : decode cX1_reckon 253 = .ok (.getfield 145, 3) := by decide +kernel
theorem dX1_reckon_256 : decode cX1_reckon 256 = .ok (.aload_n 0, 1) := by decide +kernel
theorem dX1_reckon_257 : decode cX1_reckon 257 = .ok (.getfield 142, 3) := by decide +kernel
theorem dX1_reckon_260 : decode cX1_reckon 260 = .ok (.isub, 1) := by decide +kernel
theorem dX1_reckon_261 : decode cX1_reckon 261 = .ok (.i2l, 1) := by decide +kernel
theorem dX1_reckon_262 : decode cX1_reckon 262 = .ok (.lmul, 1) := by decide +kernel
theorem dX1_reckon_263 : decode cX1_reckon 263 = .ok (.aload_n 0, 1) := by decide +kernel
theorem dX1_reckon_264 : decode cX1_reckon 264 = .ok (.getfield 40, 3) := by decide +kernel
theorem dX1_reckon_267 : decode cX1_reckon 267 = .ok (.getfield 186, 3) := by decide +kernel
theorem dX1_reckon_270 : decode cX1_reckon 270 = .ok (.i2l, 1) := by decide +kernel
theorem dX1_reckon_271 : decode cX1_reckon 271 = .ok (.lmul, 1) := by decide +kernel
theorem dX1_reckon_272 : decode cX1_reckon 272 = .ok (.ldc2_w 189, 3) := by decide +kernel
theorem dX1_reckon_275 : decode cX1_reckon 275 = .ok (.ldiv, 1) := by decide +kernel
theorem dX1_reckon_276 : decode cX1_reckon 276 = .ok (.invokestatic 191, 3) := by decide +kernel
theorem dX1_reckon_279 : decode cX1_reckon 279 = .ok (.lstore 12, 2) := by decide +kernel
theorem dX1_reckon_281 : decode cX1_reckon 281 = .ok (.aload_n 0, 1) := by decide +kernel
theorem dX1_reckon_282 : decode cX1_reckon 282 = .ok (.iload 8, 2) := by decide +kernel
theorem dX1_reckon_284 : decode cX1_reckon 284 = .ok (.i2l, 1) := by decide +kernel
theorem dX1_reckon_285 : decode cX1_reckon 285 = .ok (.lload 12, 2) := by decide +kernel
theorem dX1_reckon_287 : decode cX1_reckon 287 = .ok (.lsub, 1) := by decide +kernel
theorem dX1_reckon_288 : decode cX1_reckon 288 = .ok (.aload 5, 2) := by decide +kernel
theorem dX1_reckon_290 : decode cX1_reckon 290 = .ok (.iload_n 2, 1) := by decide +kernel
theorem dX1_reckon_291 : decode cX1_reckon 291 = .ok (.bipush 7, 2) := by decide +kernel
theorem dX1_reckon_293 : decode cX1_reckon 293 = .ok (.invokevirtual 194, 3) := by decide +kernel
theorem dX1_reckon_296 : decode cX1_reckon 296 = .ok (.lmul, 1) := by decide +kernel
theorem dX1_reckon_297 : decode cX1_reckon 297 = .ok (.ldc2_w 198, 3) := by decide +kernel
theorem dX1_reckon_300 : decode cX1_reckon 300 = .ok (.aload_n 0, 1) := by decide +kernel
theorem dX1_reckon_301 : decode cX1_reckon 301 = .ok (.getfield 40, 3) := by decide +kernel
theorem dX1_reckon_304 : decode cX1_reckon 304 = .ok (.getfield 80, 3) := by decide +kernel
theorem dX1_reckon_307 : decode cX1_reckon 307 = .ok (.iload_n 1, 1) := by decide +kernel
theorem dX1_reckon_308 : decode cX1_reckon 308 = .ok (.aaload, 1) := by decide +kernel
theorem dX1_reckon_309 : decode cX1_reckon 309 = .ok (.getfield 200, 3) := by decide +kernel
theorem dX1_reckon_312 : decode cX1_reckon 312 = .ok (.i2l, 1) := by decide +kernel
theorem dX1_reckon_313 : decode cX1_reckon 313 = .ok (.lmul, 1) := by decide +kernel
theorem dX1_reckon_314 : decode cX1_reckon 314 = .ok (.iload 9, 2) := by decide +kernel
theorem dX1_reckon_316 : decode cX1_reckon 316 = .ok (.iload 10, 2) := by decide +kernel
theorem dX1_reckon_318 : decode cX1_reckon 318 = .ok (.iadd, 1) := by decide +kernel
theorem dX1_reckon_319 : decode cX1_reckon 319 = .ok (.i2l, 1) := by decide +kernel
theorem dX1_reckon_320 : decode cX1_reckon 320 = .ok (.lmul, 1) := by decide +kernel
theorem dX1_reckon_321 : decode cX1_reckon 321 = .ok (.lsub, 1) := by decide +kernel
theorem dX1_reckon_322 : decode cX1_reckon 322 = .ok (.putfield 108, 3) := by decide +kernel
theorem dX1_reckon_325 : decode cX1_reckon 325 = .ok (.aload_n 0, 1) := by decide +kernel
theorem dX1_reckon_326 : decode cX1_reckon 326 = .ok (.getfield 119, 3) := by decide +kernel
theorem dX1_reckon_329 : decode cX1_reckon 329 = .ok (.iconst (-1), 1) := by decide +kernel
theorem dX1_reckon_330 : decode cX1_reckon 330 = .ok (.if_icmp .eq 7, 3) := by decide +kernel
theorem dX1_reckon_333 : decode cX1_reckon 333 = .ok (.iconst 1, 1) := by decide +kernel
theorem dX1_reckon_334 : decode cX1_reckon 334 = .ok (.goto 4, 3) := by decide +kernel
theorem dX1_reckon_337 : decode cX1_reckon 337 = .ok (.iconst 0, 1) := by decide +kernel
theorem dX1_reckon_338 : decode cX1_reckon 338 = .ok (.ireturn, 1) := by decide +kernel
theorem dJ6_bitCount_0f7a4_0 : decode cJ6_bitCount_0f7a4 0 = .ok (.iload_n 0, 1) := by decide +kernel
theorem dJ6_bitCount_0f7a4_1 : decode cJ6_bitCount_0f7a4 1 = .ok (.iload_n 0, 1) := by decide +kernel
theorem dJ6_bitCount_0f7a4_2 : decode cJ6_bitCount_0f7a4 2 = .ok (.iconst 1, 1) := by decide +kernel
theorem dJ6_bitCount_0f7a4_3 : decode cJ6_bitCount_0f7a4 3 = .ok (.iushr, 1) := by decide +kernel
theorem dJ6_bitCount_0f7a4_4 : decode cJ6_bitCount_0f7a4 4 = .ok (.ldc_w 265, 3) := by decide +kernel
theorem dJ6_bitCount_0f7a4_7 : decode cJ6_bitCount_0f7a4 7 = .ok (.iand, 1) := by decide +kernel
theorem dJ6_bitCount_0f7a4_8 : decode cJ6_bitCount_0f7a4 8 = .ok (.isub, 1) := by decide +kernel
theorem dJ6_bitCount_0f7a4_9 : decode cJ6_bitCount_0f7a4 9 = .ok (.istore_n 0, 1) := by decide +kernel
theorem dJ6_bitCount_0f7a4_10 : decode cJ6_bitCount_0f7a4 10 = .ok (.iload_n 0, 1) := by decide +kernel
theorem dJ6_bitCount_0f7a4_11 : decode cJ6_bitCount_0f7a4 11 = .ok (.ldc_w 266, 3) := by decide +kernel
theorem dJ6_bitCount_0f7a4_14 : decode cJ6_bitCount_0f7a4 14 = .ok (.iand, 1) := by decide +kernel
theorem dJ6_bitCount_0f7a4_15 : decode cJ6_bitCount_0f7a4 15 = .ok (.iload_n 0, 1) := by decide +kernel
theorem dJ6_bitCount_0f7a4_16 : decode cJ6_bitCount_0f7a4 16 = .ok (.iconst 2, 1) := by decide +kernel
theorem dJ6_bitCount_0f7a4_17 : decode cJ6_bitCount_0f7a4 17 = .ok (.iushr, 1) := by decide +kernel
theorem dJ6_bitCount_0f7a4_18 : decode cJ6_bitCount_0f7a4 18 = .ok (.ldc_w 266, 3) := by decide +kernel
theorem dJ6_bitCount_0f7a4_21 : decode cJ6_bitCount_0f7a4 21 = .ok (.iand, 1) := by decide +kernel
theorem dJ6_bitCount_0f7a4_22 : decode cJ6_bitCount_0f7a4 22 = .ok (.iadd, 1) := by decide +kernel
theorem dJ6_bitCount_0f7a4_23 : decode cJ6_bitCount_0f7a4 23 = .ok (.istore_n 0, 1) := by decide +kernel
theorem dJ6_bitCount_0f7a4_24 : decode cJ6_bitCount_0f7a4 24 = .ok (.iload_n 0, 1) := by decide +kernel
theorem dJ6_bitCount_0f7a4_25 : decode cJ6_bitCount_0f7a4 25 = .ok (.iload_n 0, 1) := by decide +kernel
theorem dJ6_bitCount_0f7a4_26 : decode cJ6_bitCount_0f7a4 26 = .ok (.iconst 4, 1) := by decide +kernel
theorem dJ6_bitCount_0f7a4_27 : decode cJ6_bitCount_0f7a4 27 = .ok (.iushr, 1) := by decide +kernel
theorem dJ6_bitCount_0f7a4_28 : decode cJ6_bitCount_0f7a4 28 = .ok (.iadd, 1) := by decide +kernel
theorem dJ6_bitCount_0f7a4_29 : decode cJ6_bitCount_0f7a4 29 = .ok (.ldc_w 267, 3) := by decide +kernel
theorem dJ6_bitCount_0f7a4_32 : decode cJ6_bitCount_0f7a4 32 = .ok (.iand, 1) := by decide +kernel
theorem dJ6_bitCount_0f7a4_33 : decode cJ6_bitCount_0f7a4 33 = .ok (.istore_n 0, 1) := by decide +kernel
theorem dJ6_bitCount_0f7a4_34 : decode cJ6_bitCount_0f7a4 34 = .ok (.iload_n 0, 1) := by decide +kernel
theorem dJ6_bitCount_0f7a4_35 : decode cJ6_bitCount_0f7a4 35 = .ok (.iload_n 0, 1) := by decide +kernel
theorem dJ6_bitCount_0f7a4_36 : decode cJ6_bitCount_0f7a4 36 = .ok (.bipush 8, 2) := by decide +kernel
theorem dJ6_bitCount_0f7a4_38 : decode cJ6_bitCount_0f7a4 38 = .ok (.iushr, 1) := by decide +kernel
theorem dJ6_bitCount_0f7a4_39 : decode cJ6_bitCount_0f7a4 39 = .ok (.iadd, 1) := by decide +kernel
theorem dJ6_bitCount_0f7a4_40 : decode cJ6_bitCount_0f7a4 40 = .ok (.istore_n 0, 1) := by decide +kernel
theorem dJ6_bitCount_0f7a4_41 : decode cJ6_bitCount_0f7a4 41 = .ok (.iload_n 0, 1) := by decide +kernel
theorem dJ6_bitCount_0f7a4_42 : decode cJ6_bitCount_0f7a4 42 = .ok (.iload_n 0, 1) := by decide +kernel
theorem dJ6_bitCount_0f7a4_43 : decode cJ6_bitCount_0f7a4 43 = .ok (.bipush 16, 2) := by decide +kernel
theorem dJ6_bitCount_0f7a4_45 : decode cJ6_bitCount_0f7a4 45 = .ok (.iushr, 1) := by decide +kernel
theorem dJ6_bitCount_0f7a4_46 : decode cJ6_bitCount_0f7a4 46 = .ok (.iadd, 1) := by decide +kernel
theorem dJ6_bitCount_0f7a4_47 : decode cJ6_bitCount_0f7a4 47 = .ok (.istore_n 0, 1) := by decide +kernel
theorem dJ6_bitCount_0f7a4_48 : decode cJ6_bitCount_0f7a4 48 = .ok (.iload_n 0, 1) := by decide +kernel
theorem dJ6_bitCount_0f7a4_49 : decode cJ6_bitCount_0f7a4 49 = .ok (.bipush 63, 2) := by decide +kernel
theorem dJ6_bitCount_0f7a4_51 : decode cJ6_bitCount_0f7a4 51 = .ok (.iand, 1) := by decide +kernel
theorem dJ6_bitCount_0f7a4_52 : decode cJ6_bitCount_0f7a4 52 = .ok (.ireturn, 1) := by decide +kernel
