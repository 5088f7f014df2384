abbrev cX11_feed : ByteArray := prog_1_method_22_code
def yX11_feed : MethodName := ⟨RX11, "feed", "(IIIII)I"⟩
abbrev cX11_end : ByteArray := prog_1_method_23_code
def yX11_end : MethodName := ⟨RX11, "end", "(I)I"⟩
abbrev cX11_fault : ByteArray := prog_1_method_25_code
def yX11_fault : MethodName := ⟨RX11, "fault", "()I"⟩
abbrev cX11_due : ByteArray := prog_1_method_26_code
def yX11_due : MethodName := ⟨RX11, "due", "(IIII)J"⟩
abbrev cX11_settle : ByteArray := prog_1_method_27_code
def yX11_settle : MethodName := ⟨RX11, "settle", "(II)I"⟩
abbrev cX11_settled : ByteArray := prog_1_method_28_code
def yX11_settled : MethodName := ⟨RX11, "settled", "(II)J"⟩
abbrev cX11_table : ByteArray := prog_1_method_29_code
def yX11_table : MethodName := ⟨RX11, "table", "(IIII)I"⟩
abbrev cX11_list : ByteArray := prog_1_method_30_code
def yX11_list : MethodName := ⟨RX11, "list", "(II)I"⟩
abbrev cX11_reading : ByteArray := prog_1_method_31_code
def yX11_reading : MethodName := ⟨RX11, "reading", "(IIIII)I"⟩
abbrev cX11_gauged : ByteArray := prog_1_method_32_code
def yX11_gauged : MethodName := ⟨RX11, "gauged", "(III)J"⟩
abbrev cX11_cargo : ByteArray := prog_1_method_33_code
def yX11_cargo : MethodName := ⟨RX11, "cargo", "(IIIIIIII)I"⟩
abbrev cX11_clear : ByteArray := prog_1_method_34_code
def yX11_clear : MethodName := ⟨RX11, "clear", "()I"⟩
abbrev cX11_best : ByteArray := prog_1_method_35_code
def yX11_best : MethodName := ⟨RX11, "best", "(I)J"⟩
abbrev cX11_voyage : ByteArray := prog_1_method_36_code
def yX11_voyage : MethodName := ⟨RX11, "voyage", "(II)J"⟩
abbrev cX11_judge : ByteArray := prog_1_method_37_code
def yX11_judge : MethodName := ⟨RX11, "judge", "(IIIII)J"⟩
abbrev cX11_back : ByteArray := prog_1_method_39_code
def yX11_back : MethodName := ⟨RX11, "back", "(I)I"⟩
abbrev cX11_count : ByteArray := prog_1_method_40_code
def yX11_count : MethodName := ⟨RX11, "count", "(I)I"⟩
abbrev cX11_status : ByteArray := prog_1_method_41_code
def yX11_status : MethodName := ⟨RX11, "status", "()I"⟩
def wsX11_feed : List Cond := .code yX11_feed cX11_feed 6 (some .int) :: ([.fieldLink RX11 32 "ColdShips" "reader" "LColdShips$Reader;", .methodLink RX11 252 yX2_hasRoom, .instanceMethod yX2_hasRoom, .selects RX2 yX2_hasRoom yX2_hasRoom, .initialized RX2, .code yX2_hasRoom cX2_hasRoom 1 (some .boolean), .fieldLink RX2 26 "ColdShips$Reader" "size" "I", .methodLink RX11 256 yX2_addFour, .instanceMethod yX2_addFour, .selects RX2 yX2_addFour yX2_addFour, .code yX2_addFour cX2_addFour 3 none, .fieldLink RX2 11 "ColdShips$Reader" "tape" "[C"] ++ wsX110 ++ wsX20)
def wsX11_end : List Cond := .code yX11_end cX11_end 2 (some .int) :: ([.fieldLink RX11 32 "ColdShips" "reader" "LColdShips$Reader;", .methodLink RX11 51 yX11_within, .static yX11_within, .initialized RX11, .code yX11_within cX11_within 3 (some .boolean)] ++ wsX110 ++ wsX20)
def wsX11_fault : List Cond := .code yX11_fault cX11_fault 1 (some .int) :: ([.fieldLink RX11 32 "ColdShips" "reader" "LColdShips$Reader;"] ++ wsX110 ++ wsX20)
def wsX11_due_r1 : List Cond := [Cond.fieldLink RX11 10 "ColdShips" "world" "LColdShips$World;", Cond.constantLong RX11 281 (-2000000000000000), Cond.fieldLink RX11 39 "ColdShips" "reckoner" "LColdShips$Reckoner;", Cond.methodLink RX11 211 yX4_has, Cond.instanceMethod yX4_has, Cond.selects RX4 yX4_has yX4_has, Cond.initialized RX4, Cond.code yX4_has cX4_has 2 (some .boolean), Cond.fieldLink RX4 25 "ColdShips$Rows" "size" "I", Cond.methodLink RX11 278 yX10_hasContract, Cond.instanceMethod yX10_hasContract, Cond.selects RX10 yX10_hasContract yX10_hasContract, Cond.initialized RX10, Cond.code yX10_hasContract cX10_hasContract 2 (some .boolean), Cond.fieldLink RX10 84 "ColdShips$World" "contractCount" "I", Cond.fieldLink RX10 39 "ColdShips$World" "contracts" "[LColdShips$Contract;", Cond.methodLink RX11 229 yX11_isHour, Cond.static yX11_isHour, Cond.initialized RX11, Cond.code yX11_isHour cX11_isHour 1 (some .boolean), Cond.methodLink RX11 51 yX11_within, Cond.static yX11_within, Cond.code yX11_within cX11_within 3 (some .boolean), Cond.methodLink RX11 283 yX3_reckon]
def wsX11_due_r2 : List Cond := [Cond.instanceMethod yX3_reckon, Cond.selects RX3 yX3_reckon yX3_reckon, Cond.initialized RX3, Cond.code yX3_reckon cX3_reckon 5 none, Cond.fieldLink RX3 22 "ColdShips$Reckoner" "pays" "J", Cond.fieldLink RX3 26 "ColdShips$Reckoner" "fines" "J", Cond.methodLink RX3 29 yX3_findFacts, Cond.instanceMethod yX3_findFacts, Cond.selects RX3 yX3_findFacts yX3_findFacts, Cond.code yX3_findFacts cX3_findFacts 7 none, Cond.fieldLink RX3 18 "ColdShips$Reckoner" "world" "LColdShips$World;", Cond.fieldLink RX3 9 "ColdShips$Reckoner" "facts" "[J", Cond.methodLink RX3 89 Lib.Math.max.name, Cond.static Lib.Math.max.name, Cond.initialized "java/lang/Math", Cond.code Lib.Math.max.name Lib.Math.max.code 2 (some .int), Cond.methodLink RX3 52 yX4_number, Cond.instanceMethod yX4_number, Cond.selects RX4 yX4_number yX4_number, Cond.code yX4_number cX4_number 3 (some .int), Cond.methodLink RX4 34 yX4_at, Cond.instanceMethod yX4_at, Cond.selects RX4 yX4_at yX4_at, Cond.code yX4_at cX4_at 4 (some .long)]
def wsX11_due_r3 : List Cond := [Cond.fieldLink RX4 15 "ColdShips$Rows" "width" "I", Cond.fieldLink RX4 21 "ColdShips$Rows" "cells" "[J", Cond.methodLink RX3 62 yX4_at, Cond.methodLink RX3 66 yX10_billedOf, Cond.instanceMethod yX10_billedOf, Cond.selects RX10 yX10_billedOf yX10_billedOf, Cond.code yX10_billedOf cX10_billedOf 4 (some .long), Cond.fieldLink RX10 70 "ColdShips$World" "landings" "LColdShips$Rows;", Cond.constantLong RX10 91 (-1), Cond.methodLink RX10 87 yX4_at, Cond.methodLink RX3 70 yX10_heatOf, Cond.instanceMethod yX10_heatOf, Cond.selects RX10 yX10_heatOf yX10_heatOf, Cond.code yX10_heatOf cX10_heatOf 7 (some .long), Cond.fieldLink RX10 27 "ColdShips$World" "terminals" "[LColdShips$Terminal;", Cond.methodLink RX3 80 yX6_freeHours, Cond.instanceMethod yX6_freeHours, Cond.selects RX6 yX6_freeHours yX6_freeHours, Cond.initialized RX6, Cond.code yX6_freeHours cX6_freeHours 9 (some .int), Cond.methodLink RX6 9 Lib.Math.max.name, Cond.fieldLink RX6 27 "ColdShips$Spans" "size" "I", Cond.fieldLink RX6 21 "ColdShips$Spans" "begins" "[I", Cond.fieldLink RX6 15 "ColdShips$Spans" "owners" "[I"]
def wsX11_due_r4 : List Cond := [Cond.fieldLink RX6 24 "ColdShips$Spans" "ends" "[I", Cond.methodLink RX6 31 Lib.Math.min.name, Cond.static Lib.Math.min.name, Cond.code Lib.Math.min.name Lib.Math.min.code 2 (some .int), Cond.methodLink RX3 94 yX10_priceOf, Cond.instanceMethod yX10_priceOf, Cond.selects RX10 yX10_priceOf yX10_priceOf, Cond.code yX10_priceOf cX10_priceOf 12 (some .long), Cond.constantLong RX10 103 (24), Cond.fieldLink RX10 63 "ColdShips$World" "prices" "LColdShips$Rows;", Cond.methodLink RX3 42 yX3_runClause, Cond.instanceMethod yX3_runClause, Cond.selects RX3 yX3_runClause yX3_runClause, Cond.code yX3_runClause cX3_runClause 9 none, Cond.fieldLink RX3 97 "ColdShips$Reckoner" "depth" "I", Cond.methodLink RX3 100 Lib.Math.min.name, Cond.methodLink RX3 103 yX3_push, Cond.instanceMethod yX3_push, Cond.selects RX3 yX3_push yX3_push, Cond.code yX3_push cX3_push 3 none, Cond.fieldLink RX3 15 "ColdShips$Reckoner" "stack" "[J", Cond.methodLink RX3 107 yX3_pop, Cond.instanceMethod yX3_pop, Cond.selects RX3 yX3_pop yX3_pop]
def wsX11_due_r5 : List Cond := [Cond.code yX3_pop cX3_pop 1 (some .long), Cond.methodLink RX3 111 yX3_combine, Cond.instanceMethod yX3_combine, Cond.selects RX3 yX3_combine yX3_combine, Cond.code yX3_combine cX3_combine 6 (some .boolean), Cond.methodLink RX3 119 Lib.MathLoose.abs_long.x, Cond.static Lib.MathLoose.abs_long.x, Cond.code Lib.MathLoose.abs_long.x Lib.MathLoose.abs_long.code 2 (some .long), Cond.constantLong RX3 123 (1000000000000), Cond.methodLink RX3 115 yX3_pushSum, Cond.instanceMethod yX3_pushSum, Cond.selects RX3 yX3_pushSum yX3_pushSum, Cond.code yX3_pushSum cX3_pushSum 3 (some .boolean)]
def wsX11_due : List Cond := .code yX11_due cX11_due 5 (some .long) :: ((wsX11_due_r1 ++ (wsX11_due_r2 ++ (wsX11_due_r3 ++ (wsX11_due_r4 ++ wsX11_due_r5)))) ++ wsX110 ++ wsX100 ++ wsX30 ++ wsX40 ++ wsX00 ++ wsX80 ++ wsX60)
def wsX11_settle_r1 : List Cond := [Cond.fieldLink RX11 10 "ColdShips" "world" "LColdShips$World;", Cond.fieldLink RX11 39 "ColdShips" "reckoner" "LColdShips$Reckoner;", Cond.methodLink RX11 211 yX4_has, Cond.instanceMethod yX4_has, Cond.selects RX4 yX4_has yX4_has, Cond.initialized RX4, Cond.code yX4_has cX4_has 2 (some .boolean), Cond.fieldLink RX4 25 "ColdShips$Rows" "size" "I", Cond.methodLink RX11 278 yX10_hasContract, Cond.instanceMethod yX10_hasContract, Cond.selects RX10 yX10_hasContract yX10_hasContract, Cond.initialized RX10, Cond.code yX10_hasContract cX10_hasContract 2 (some .boolean), Cond.fieldLink RX10 84 "ColdShips$World" "contractCount" "I", Cond.fieldLink RX10 39 "ColdShips$World" "contracts" "[LColdShips$Contract;", Cond.methodLink RX11 55 yX11_refuse, Cond.instanceMethod yX11_refuse, Cond.selects RX11 yX11_refuse yX11_refuse, Cond.initialized RX11, Cond.code yX11_refuse cX11_refuse 2 (some .int), Cond.fieldLink RX11 354 "ColdShips" "refusal" "I", Cond.methodLink RX11 223 yX10_isSettled, Cond.instanceMethod yX10_isSettled, Cond.selects RX10 yX10_isSettled yX10_isSettled]
def wsX11_settle_r2 : List Cond := [Cond.code yX10_isSettled cX10_isSettled 2 (some .boolean), Cond.fieldLink RX10 70 "ColdShips$World" "landings" "LColdShips$Rows;", Cond.constantLong RX10 91 (-1), Cond.methodLink RX10 87 yX4_at, Cond.instanceMethod yX4_at, Cond.selects RX4 yX4_at yX4_at, Cond.code yX4_at cX4_at 4 (some .long), Cond.fieldLink RX4 15 "ColdShips$Rows" "width" "I", Cond.fieldLink RX4 21 "ColdShips$Rows" "cells" "[J", Cond.methodLink RX11 283 yX3_reckon, Cond.instanceMethod yX3_reckon, Cond.selects RX3 yX3_reckon yX3_reckon, Cond.initialized RX3, Cond.code yX3_reckon cX3_reckon 5 none, Cond.fieldLink RX3 22 "ColdShips$Reckoner" "pays" "J", Cond.fieldLink RX3 26 "ColdShips$Reckoner" "fines" "J", Cond.methodLink RX3 29 yX3_findFacts, Cond.instanceMethod yX3_findFacts, Cond.selects RX3 yX3_findFacts yX3_findFacts, Cond.code yX3_findFacts cX3_findFacts 7 none, Cond.fieldLink RX3 18 "ColdShips$Reckoner" "world" "LColdShips$World;", Cond.fieldLink RX3 9 "ColdShips$Reckoner" "facts" "[J", Cond.methodLink RX3 89 Lib.Math.max.name, Cond.static Lib.Math.max.name]
def wsX11_settle_r3 : List Cond := [Cond.initialized "java/lang/Math", Cond.code Lib.Math.max.name Lib.Math.max.code 2 (some .int), Cond.methodLink RX3 52 yX4_number, Cond.instanceMethod yX4_number, Cond.selects RX4 yX4_number yX4_number, Cond.code yX4_number cX4_number 3 (some .int), Cond.methodLink RX4 34 yX4_at, Cond.methodLink RX3 62 yX4_at, Cond.methodLink RX3 66 yX10_billedOf, Cond.instanceMethod yX10_billedOf, Cond.selects RX10 yX10_billedOf yX10_billedOf, Cond.code yX10_billedOf cX10_billedOf 4 (some .long), Cond.methodLink RX3 70 yX10_heatOf, Cond.instanceMethod yX10_heatOf, Cond.selects RX10 yX10_heatOf yX10_heatOf, Cond.code yX10_heatOf cX10_heatOf 7 (some .long), Cond.fieldLink RX10 27 "ColdShips$World" "terminals" "[LColdShips$Terminal;", Cond.methodLink RX3 80 yX6_freeHours, Cond.instanceMethod yX6_freeHours, Cond.selects RX6 yX6_freeHours yX6_freeHours, Cond.initialized RX6, Cond.code yX6_freeHours cX6_freeHours 9 (some .int), Cond.methodLink RX6 9 Lib.Math.max.name, Cond.fieldLink RX6 27 "ColdShips$Spans" "size" "I"]
def wsX11_settle_r4 : List Cond := [Cond.fieldLink RX6 21 "ColdShips$Spans" "begins" "[I", Cond.fieldLink RX6 15 "ColdShips$Spans" "owners" "[I", Cond.fieldLink RX6 24 "ColdShips$Spans" "ends" "[I", Cond.methodLink RX6 31 Lib.Math.min.name, Cond.static Lib.Math.min.name, Cond.code Lib.Math.min.name Lib.Math.min.code 2 (some .int), Cond.methodLink RX3 94 yX10_priceOf, Cond.instanceMethod yX10_priceOf, Cond.selects RX10 yX10_priceOf yX10_priceOf, Cond.code yX10_priceOf cX10_priceOf 12 (some .long), Cond.constantLong RX10 103 (24), Cond.fieldLink RX10 63 "ColdShips$World" "prices" "LColdShips$Rows;", Cond.methodLink RX3 42 yX3_runClause, Cond.instanceMethod yX3_runClause, Cond.selects RX3 yX3_runClause yX3_runClause, Cond.code yX3_runClause cX3_runClause 9 none, Cond.fieldLink RX3 97 "ColdShips$Reckoner" "depth" "I", Cond.methodLink RX3 100 Lib.Math.min.name, Cond.methodLink RX3 103 yX3_push, Cond.instanceMethod yX3_push, Cond.selects RX3 yX3_push yX3_push, Cond.code yX3_push cX3_push 3 none, Cond.fieldLink RX3 15 "ColdShips$Reckoner" "stack" "[J", Cond.methodLink RX3 107 yX3_pop]
def wsX11_settle_r5 : List Cond := [Cond.instanceMethod yX3_pop, Cond.selects RX3 yX3_pop yX3_pop, Cond.code yX3_pop cX3_pop 1 (some .long), Cond.methodLink RX3 111 yX3_combine, Cond.instanceMethod yX3_combine, Cond.selects RX3 yX3_combine yX3_combine, Cond.code yX3_combine cX3_combine 6 (some .boolean), Cond.methodLink RX3 119 Lib.MathLoose.abs_long.x, Cond.static Lib.MathLoose.abs_long.x, Cond.code Lib.MathLoose.abs_long.x Lib.MathLoose.abs_long.code 2 (some .long), Cond.constantLong RX3 123 (1000000000000), Cond.methodLink RX3 115 yX3_pushSum, Cond.instanceMethod yX3_pushSum, Cond.selects RX3 yX3_pushSum yX3_pushSum, Cond.code yX3_pushSum cX3_pushSum 3 (some .boolean), Cond.methodLink RX11 238 yX4_set, Cond.instanceMethod yX4_set, Cond.selects RX4 yX4_set yX4_set, Cond.code yX4_set cX4_set 5 none, Cond.methodLink RX4 38 yX4_has, Cond.methodLink RX11 73 yX11_accept, Cond.instanceMethod yX11_accept, Cond.selects RX11 yX11_accept yX11_accept, Cond.code yX11_accept cX11_accept 2 (some .int)]
def wsX11_settle : List Cond := .code yX11_settle cX11_settle 3 (some .int) :: ((wsX11_settle_r1 ++ (wsX11_settle_r2 ++ (wsX11_settle_r3 ++ (wsX11_settle_r4 ++ wsX11_settle_r5)))) ++ wsX110 ++ wsX100 ++ wsX30 ++ wsX40 ++ wsX00 ++ wsX80 ++ wsX60)
def wsX11_settled : List Cond := .code yX11_settled cX11_settled 3 (some .long) :: ([.fieldLink RX11 10 "ColdShips" "world" "LColdShips$World;", .constantLong RX11 281 (-2000000000000000), .methodLink RX11 211 yX4_has, .instanceMethod yX4_has, .selects RX4 yX4_has yX4_has, .initialized RX4, .code yX4_has cX4_has 2 (some .boolean), .fieldLink RX4 25 "ColdShips$Rows" "size" "I", .methodLink RX11 223 yX10_isSettled, .instanceMethod yX10_isSettled, .selects RX10 yX10_isSettled yX10_isSettled, .initialized RX10, .code yX10_isSettled cX10_isSettled 2 (some .boolean), .fieldLink RX10 70 "ColdShips$World" "landings" "LColdShips$Rows;", .constantLong RX10 91 (-1), .methodLink RX10 87 yX4_at, .instanceMethod yX4_at, .selects RX4 yX4_at yX4_at, .code yX4_at cX4_at 4 (some .long), .fieldLink RX4 15 "ColdShips$Rows" "width" "I", .fieldLink RX4 21 "ColdShips$Rows" "cells" "[J", .methodLink RX11 248 yX4_at] ++ wsX110 ++ wsX100 ++ wsX40)
def wsX11_table : List Cond := .code yX11_table cX11_table 5 (some .int) :: ([.constant RX11 76 (200000), .fieldLink RX11 10 "ColdShips" "world" "LColdShips$World;", .methodLink RX11 51 yX11_within, .static yX11_within, .initialized RX11, .code yX11_within cX11_within 3 (some .boolean), .methodLink RX11 55 yX11_refuse, .instanceMethod yX11_refuse, .selects RX11 yX11_refuse yX11_refuse, .code yX11_refuse cX11_refuse 2 (some .int), .fieldLink RX11 354 "ColdShips" "refusal" "I", .methodLink RX11 108 yX10_hasShip, .instanceMethod yX10_hasShip, .selects RX10 yX10_hasShip yX10_hasShip, .initialized RX10, .code yX10_hasShip cX10_hasShip 2 (some .boolean), .fieldLink RX10 81 "ColdShips$World" "shipCount" "I", .methodLink RX11 73 yX11_accept, .instanceMethod yX11_accept, .selects RX11 yX11_accept yX11_accept, .code yX11_accept cX11_accept 2 (some .int)] ++ wsX110 ++ wsX100 ++ wsX50)
def wsX11_list : List Cond := .code yX11_list cX11_list 4 (some .int) :: ([.fieldLink RX11 10 "ColdShips" "world" "LColdShips$World;", .methodLink RX11 51 yX11_within, .static yX11_within, .initialized RX11, .code yX11_within cX11_within 3 (some .boolean), .methodLink RX11 55 yX11_refuse, .instanceMethod yX11_refuse, .selects RX11 yX11_refuse yX11_refuse, .code yX11_refuse cX11_refuse 2 (some .int), .fieldLink RX11 354 "ColdShips" "refusal" "I", .methodLink RX11 108 yX10_hasShip, .instanceMethod yX10_hasShip, .selects RX10 yX10_hasShip yX10_hasShip, .initialized RX10, .code yX10_hasShip cX10_hasShip 2 (some .boolean), .fieldLink RX10 81 "ColdShips$World" "shipCount" "I", .methodLink RX11 73 yX11_accept, .instanceMethod yX11_accept, .selects RX11 yX11_accept yX11_accept, .code yX11_accept cX11_accept 2 (some .int)] ++ wsX110 ++ wsX100 ++ wsX50)
def wsX11_reading_r1 : List Cond := [Cond.fieldLink RX11 10 "ColdShips" "world" "LColdShips$World;", Cond.methodLink RX11 51 yX11_within, Cond.static yX11_within, Cond.initialized RX11, Cond.code yX11_within cX11_within 3 (some .boolean), Cond.methodLink RX11 229 yX11_isHour, Cond.static yX11_isHour, Cond.code yX11_isHour cX11_isHour 1 (some .boolean), Cond.methodLink RX11 55 yX11_refuse, Cond.instanceMethod yX11_refuse, Cond.selects RX11 yX11_refuse yX11_refuse, Cond.code yX11_refuse cX11_refuse 2 (some .int), Cond.fieldLink RX11 354 "ColdShips" "refusal" "I", Cond.methodLink RX11 211 yX4_has, Cond.instanceMethod yX4_has, Cond.selects RX4 yX4_has yX4_has, Cond.initialized RX4, Cond.code yX4_has cX4_has 2 (some .boolean), Cond.fieldLink RX4 25 "ColdShips$Rows" "size" "I", Cond.methodLink RX11 235 yX4_addRow, Cond.instanceMethod yX4_addRow, Cond.selects RX4 yX4_addRow yX4_addRow, Cond.code yX4_addRow cX4_addRow 2 (some .int), Cond.fieldLink RX4 15 "ColdShips$Rows" "width" "I"]
def wsX11_reading_r2 : List Cond := [Cond.fieldLink RX4 21 "ColdShips$Rows" "cells" "[J", Cond.methodLink RX4 28 yJ7_fill_bad5a, Cond.static yJ7_fill_bad5a, Cond.initialized RJ7, Cond.code yJ7_fill_bad5a cJ7_fill_bad5a 6 none, Cond.methodLink RJ7 13 yJ7_rangeCheck_23922, Cond.static yJ7_rangeCheck_23922, Cond.code yJ7_rangeCheck_23922 cJ7_rangeCheck_23922 3 none, Cond.methodLink RX11 238 yX4_set, Cond.instanceMethod yX4_set, Cond.selects RX4 yX4_set yX4_set, Cond.code yX4_set cX4_set 5 none, Cond.methodLink RX4 38 yX4_has, Cond.methodLink RX11 73 yX11_accept, Cond.instanceMethod yX11_accept, Cond.selects RX11 yX11_accept yX11_accept, Cond.code yX11_accept cX11_accept 2 (some .int)]
def wsX11_reading : List Cond := .code yX11_reading cX11_reading 7 (some .int) :: ((wsX11_reading_r1 ++ wsX11_reading_r2) ++ wsX110 ++ wsX100 ++ wsX40)
def wsX11_gauged_r1 : List Cond := [Cond.fieldLink RX11 10 "ColdShips" "world" "LColdShips$World;", Cond.constantLong RX11 281 (-2000000000000000), Cond.fieldLink RX11 39 "ColdShips" "reckoner" "LColdShips$Reckoner;", Cond.methodLink RX11 211 yX4_has, Cond.instanceMethod yX4_has, Cond.selects RX4 yX4_has yX4_has, Cond.initialized RX4, Cond.code yX4_has cX4_has 2 (some .boolean), Cond.fieldLink RX4 25 "ColdShips$Rows" "size" "I", Cond.methodLink RX11 229 yX11_isHour, Cond.static yX11_isHour, Cond.initialized RX11, Cond.code yX11_isHour cX11_isHour 1 (some .boolean), Cond.methodLink RX11 51 yX11_within, Cond.static yX11_within, Cond.code yX11_within cX11_within 3 (some .boolean), Cond.methodLink RX11 309 yX3_tonsRead, Cond.instanceMethod yX3_tonsRead, Cond.selects RX3 yX3_tonsRead yX3_tonsRead, Cond.initialized RX3, Cond.code yX3_tonsRead cX3_tonsRead 7 (some .long), Cond.fieldLink RX3 18 "ColdShips$Reckoner" "world" "LColdShips$World;", Cond.constantLong RX3 138 (-2000000000000000), Cond.methodLink RX3 52 yX4_number]
def wsX11_gauged_r2 : List Cond := [Cond.instanceMethod yX4_number, Cond.selects RX4 yX4_number yX4_number, Cond.code yX4_number cX4_number 3 (some .int), Cond.methodLink RX4 34 yX4_at, Cond.instanceMethod yX4_at, Cond.selects RX4 yX4_at yX4_at, Cond.code yX4_at cX4_at 4 (some .long), Cond.fieldLink RX4 15 "ColdShips$Rows" "width" "I", Cond.fieldLink RX4 21 "ColdShips$Rows" "cells" "[J", Cond.methodLink RX3 125 yX10_hasShip, Cond.instanceMethod yX10_hasShip, Cond.selects RX10 yX10_hasShip yX10_hasShip, Cond.initialized RX10, Cond.code yX10_hasShip cX10_hasShip 2 (some .boolean), Cond.fieldLink RX10 81 "ColdShips$World" "shipCount" "I", Cond.methodLink RX3 132 yX5_gaugeCounts, Cond.instanceMethod yX5_gaugeCounts, Cond.selects RX5 yX5_gaugeCounts yX5_gaugeCounts, Cond.initialized RX5, Cond.code yX5_gaugeCounts cX5_gaugeCounts 2 (some .boolean), Cond.fieldLink RX5 32 "ColdShips$Ship" "gaugeCentimetres" "[I", Cond.fieldLink RX5 35 "ColdShips$Ship" "gaugeTons" "[I", Cond.methodLink RX3 62 yX4_at, Cond.methodLink RX3 149 yX5_tonsAt]
def wsX11_gauged_r3 : List Cond := [Cond.instanceMethod yX5_tonsAt, Cond.selects RX5 yX5_tonsAt yX5_tonsAt, Cond.code yX5_tonsAt cX5_tonsAt 6 (some .long), Cond.methodLink RX11 313 yX3_tonsGauged, Cond.instanceMethod yX3_tonsGauged, Cond.selects RX3 yX3_tonsGauged yX3_tonsGauged, Cond.code yX3_tonsGauged cX3_tonsGauged 7 (some .long), Cond.methodLink RX3 152 yX3_tonsRead, Cond.methodLink RX11 316 yX3_claimOf, Cond.instanceMethod yX3_claimOf, Cond.selects RX3 yX3_claimOf yX3_claimOf, Cond.code yX3_claimOf cX3_claimOf 5 (some .long), Cond.methodLink RX3 156 yX3_tonsGauged, Cond.methodLink RX3 66 yX10_billedOf, Cond.instanceMethod yX10_billedOf, Cond.selects RX10 yX10_billedOf yX10_billedOf, Cond.code yX10_billedOf cX10_billedOf 4 (some .long), Cond.fieldLink RX10 70 "ColdShips$World" "landings" "LColdShips$Rows;", Cond.constantLong RX10 91 (-1), Cond.methodLink RX10 87 yX4_at, Cond.methodLink RX3 94 yX10_priceOf, Cond.instanceMethod yX10_priceOf, Cond.selects RX10 yX10_priceOf yX10_priceOf, Cond.code yX10_priceOf cX10_priceOf 12 (some .long)]
def wsX11_gauged_r4 : List Cond := [Cond.constantLong RX10 103 (24), Cond.fieldLink RX10 63 "ColdShips$World" "prices" "LColdShips$Rows;"]
def wsX11_gauged : List Cond := .code yX11_gauged cX11_gauged 4 (some .long) :: ((wsX11_gauged_r1 ++ (wsX11_gauged_r2 ++ (wsX11_gauged_r3 ++ wsX11_gauged_r4))) ++ wsX110 ++ wsX100 ++ wsX40 ++ wsX30 ++ wsX50)
def wsX11_cargo_r1 : List Cond := [Cond.constant RX11 76 (200000), Cond.fieldLink RX11 10 "ColdShips" "world" "LColdShips$World;", Cond.methodLink RX11 104 yX11_isSpan, Cond.static yX11_isSpan, Cond.initialized RX11, Cond.code yX11_isSpan cX11_isSpan 2 (some .boolean), Cond.methodLink RX11 229 yX11_isHour, Cond.static yX11_isHour, Cond.code yX11_isHour cX11_isHour 1 (some .boolean), Cond.methodLink RX11 51 yX11_within, Cond.static yX11_within, Cond.code yX11_within cX11_within 3 (some .boolean), Cond.methodLink RX11 55 yX11_refuse, Cond.instanceMethod yX11_refuse, Cond.selects RX11 yX11_refuse yX11_refuse, Cond.code yX11_refuse cX11_refuse 2 (some .int), Cond.fieldLink RX11 354 "ColdShips" "refusal" "I", Cond.methodLink RX11 77 yX10_hasTerminal, Cond.instanceMethod yX10_hasTerminal, Cond.selects RX10 yX10_hasTerminal yX10_hasTerminal, Cond.initialized RX10, Cond.code yX10_hasTerminal cX10_hasTerminal 2 (some .boolean), Cond.fieldLink RX10 78 "ColdShips$World" "terminalCount" "I", Cond.methodLink RX11 235 yX4_addRow]
def wsX11_cargo_r2 : List Cond := [Cond.instanceMethod yX4_addRow, Cond.selects RX4 yX4_addRow yX4_addRow, Cond.initialized RX4, Cond.code yX4_addRow cX4_addRow 2 (some .int), Cond.fieldLink RX4 25 "ColdShips$Rows" "size" "I", Cond.fieldLink RX4 15 "ColdShips$Rows" "width" "I", Cond.fieldLink RX4 21 "ColdShips$Rows" "cells" "[J", Cond.methodLink RX4 28 yJ7_fill_bad5a, Cond.static yJ7_fill_bad5a, Cond.initialized RJ7, Cond.code yJ7_fill_bad5a cJ7_fill_bad5a 6 none, Cond.methodLink RJ7 13 yJ7_rangeCheck_23922, Cond.static yJ7_rangeCheck_23922, Cond.code yJ7_rangeCheck_23922 cJ7_rangeCheck_23922 3 none, Cond.methodLink RX11 238 yX4_set, Cond.instanceMethod yX4_set, Cond.selects RX4 yX4_set yX4_set, Cond.code yX4_set cX4_set 5 none, Cond.methodLink RX4 38 yX4_has, Cond.instanceMethod yX4_has, Cond.selects RX4 yX4_has yX4_has, Cond.code yX4_has cX4_has 2 (some .boolean), Cond.methodLink RX11 73 yX11_accept, Cond.instanceMethod yX11_accept]
def wsX11_cargo_r3 : List Cond := [Cond.selects RX11 yX11_accept yX11_accept, Cond.code yX11_accept cX11_accept 2 (some .int)]
def wsX11_cargo : List Cond := .code yX11_cargo cX11_cargo 10 (some .int) :: ((wsX11_cargo_r1 ++ (wsX11_cargo_r2 ++ wsX11_cargo_r3)) ++ wsX110 ++ wsX100 ++ wsX40)
def wsX11_clear : List Cond := .code yX11_clear cX11_clear 2 (some .int) :: ([.fieldLink RX11 10 "ColdShips" "world" "LColdShips$World;"] ++ wsX110 ++ wsX100 ++ wsX40)
def wsX11_best_r1 : List Cond := [Cond.fieldLink RX11 46 "ColdShips" "planner" "LColdShips$Planner;", Cond.constantLong RX11 198 (-1), Cond.methodLink RX11 229 yX11_isHour, Cond.static yX11_isHour, Cond.initialized RX11, Cond.code yX11_isHour cX11_isHour 1 (some .boolean), Cond.methodLink RX11 51 yX11_within, Cond.static yX11_within, Cond.code yX11_within cX11_within 3 (some .boolean), Cond.methodLink RX11 322 yX1_findBest, Cond.instanceMethod yX1_findBest, Cond.selects RX1 yX1_findBest yX1_findBest, Cond.initialized RX1, Cond.code yX1_findBest cX1_findBest 5 (some .long), Cond.fieldLink RX1 40 "ColdShips$Planner" "world" "LColdShips$World;", Cond.methodLink RX1 60 Lib.Math.min.name, Cond.static Lib.Math.min.name, Cond.initialized "java/lang/Math", Cond.code Lib.Math.min.name Lib.Math.min.code 2 (some .int), Cond.fieldLink RX1 19 "ColdShips$Planner" "setWorths" "[J", Cond.constantLong RX1 66 (-2000000000000000), Cond.fieldLink RX1 22 "ColdShips$Planner" "setShips" "[I", Cond.fieldLink RX1 11 "ColdShips$Planner" "rowWorths" "[J", Cond.fieldLink RX1 15 "ColdShips$Planner" "rowPlaces" "[I"]
def wsX11_best_r2 : List Cond := [Cond.methodLink RX1 68 yJ7_fill_d0a16, Cond.static yJ7_fill_d0a16, Cond.initialized RJ7, Cond.code yJ7_fill_d0a16 cJ7_fill_d0a16 5 none, Cond.methodLink RX1 77 yJ7_fill_bad5a, Cond.static yJ7_fill_bad5a, Cond.code yJ7_fill_bad5a cJ7_fill_bad5a 6 none, Cond.methodLink RJ7 13 yJ7_rangeCheck_23922, Cond.static yJ7_rangeCheck_23922, Cond.code yJ7_rangeCheck_23922 cJ7_rangeCheck_23922 3 none, Cond.methodLink RX1 89 yX1_extend, Cond.instanceMethod yX1_extend, Cond.selects RX1 yX1_extend yX1_extend, Cond.code yX1_extend cX1_extend 14 none, Cond.fieldLink RX1 108 "ColdShips$Planner" "worth" "J", Cond.fieldLink RX1 119 "ColdShips$Planner" "freeAt" "I", Cond.methodLink RX1 104 yX1_reckon, Cond.instanceMethod yX1_reckon, Cond.selects RX1 yX1_reckon yX1_reckon, Cond.code yX1_reckon cX1_reckon 14 (some .boolean), Cond.methodLink RX1 164 Lib.Math.max.name, Cond.static Lib.Math.max.name, Cond.code Lib.Math.max.name Lib.Math.max.code 2 (some .int), Cond.fieldLink RX1 142 "ColdShips$Planner" "loadAt" "I"]
def wsX11_best_r3 : List Cond := [Cond.fieldLink RX1 145 "ColdShips$Planner" "landAt" "I", Cond.constantLong RX1 189 (100000), Cond.methodLink RX1 191 Lib.MathLoose.min_long.x, Cond.static Lib.MathLoose.min_long.x, Cond.code Lib.MathLoose.min_long.x Lib.MathLoose.min_long.code 4 (some .long), Cond.constantLong RX1 198 (100), Cond.methodLink RX1 116 yX4_number, Cond.instanceMethod yX4_number, Cond.selects RX4 yX4_number yX4_number, Cond.initialized RX4, Cond.code yX4_number cX4_number 3 (some .int), Cond.methodLink RX4 34 yX4_at, Cond.instanceMethod yX4_at, Cond.selects RX4 yX4_at yX4_at, Cond.code yX4_at cX4_at 4 (some .long), Cond.fieldLink RX4 25 "ColdShips$Rows" "size" "I", Cond.fieldLink RX4 15 "ColdShips$Rows" "width" "I", Cond.fieldLink RX4 21 "ColdShips$Rows" "cells" "[J", Cond.methodLink RX1 151 yX10_hoursBetween, Cond.instanceMethod yX10_hoursBetween, Cond.selects RX10 yX10_hoursBetween yX10_hoursBetween, Cond.initialized RX10, Cond.code yX10_hoursBetween cX10_hoursBetween 4 (some .int), Cond.fieldLink RX10 27 "ColdShips$World" "terminals" "[LColdShips$Terminal;"]
def wsX11_best_r4 : List Cond := [Cond.methodLink RX10 93 yX10_hasTerminal, Cond.instanceMethod yX10_hasTerminal, Cond.selects RX10 yX10_hasTerminal yX10_hasTerminal, Cond.code yX10_hasTerminal cX10_hasTerminal 2 (some .boolean), Cond.fieldLink RX10 78 "ColdShips$World" "terminalCount" "I", Cond.methodLink RX1 158 yX7_top, Cond.instanceMethod yX7_top, Cond.selects RX7 yX7_top yX7_top, Cond.initialized RX7, Cond.code yX7_top cX7_top 1 (some .int), Cond.fieldLink RX7 9 "ColdShips$Tank" "cap" "I", Cond.methodLink RX1 175 yX8_hoursFor, Cond.instanceMethod yX8_hoursFor, Cond.selects RX8 yX8_hoursFor yX8_hoursFor, Cond.initialized RX8, Cond.code yX8_hoursFor cX8_hoursFor 2 (some .int), Cond.fieldLink RX8 9 "ColdShips$Terminal" "rate" "I", Cond.methodLink RX1 180 yX6_hourBehind, Cond.instanceMethod yX6_hourBehind, Cond.selects RX6 yX6_hourBehind yX6_hourBehind, Cond.initialized RX6, Cond.code yX6_hourBehind cX6_hourBehind 8 (some .int), Cond.fieldLink RX6 27 "ColdShips$Spans" "size" "I", Cond.fieldLink RX6 21 "ColdShips$Spans" "begins" "[I"]
def wsX11_best_r5 : List Cond := [Cond.fieldLink RX6 15 "ColdShips$Spans" "owners" "[I", Cond.fieldLink RX6 24 "ColdShips$Spans" "ends" "[I", Cond.methodLink RX6 9 Lib.Math.max.name, Cond.methodLink RX1 194 yX4_at, Cond.methodLink RX1 112 yX1_keepRow, Cond.instanceMethod yX1_keepRow, Cond.selects RX1 yX1_keepRow yX1_keepRow, Cond.code yX1_keepRow cX1_keepRow 5 none, Cond.methodLink RX1 93 yX1_addShip, Cond.instanceMethod yX1_addShip, Cond.selects RX1 yX1_addShip yX1_addShip, Cond.code yX1_addShip cX1_addShip 6 none, Cond.methodLink RX1 122 yX1_joinSets, Cond.instanceMethod yX1_joinSets, Cond.selects RX1 yX1_joinSets yX1_joinSets, Cond.code yX1_joinSets cX1_joinSets 10 none, Cond.methodLink RX1 97 yX1_isBetter, Cond.instanceMethod yX1_isBetter, Cond.selects RX1 yX1_isBetter yX1_isBetter, Cond.code yX1_isBetter cX1_isBetter 4 (some .boolean), Cond.methodLink RX1 126 yJ6_bitCount_0f7a4, Cond.static yJ6_bitCount_0f7a4, Cond.initialized RJ6, Cond.code yJ6_bitCount_0f7a4 cJ6_bitCount_0f7a4 1 (some .int)]
def wsX11_best_r6 : List Cond := [Cond.constant RJ6 265 (1431655765), Cond.constant RJ6 266 (858993459), Cond.constant RJ6 267 (252645135), Cond.methodLink RX1 101 yX1_keepPlan, Cond.instanceMethod yX1_keepPlan, Cond.selects RX1 yX1_keepPlan yX1_keepPlan, Cond.code yX1_keepPlan cX1_keepPlan 5 none, Cond.fieldLink RX1 132 "ColdShips$Planner" "planned" "I", Cond.fieldLink RX1 25 "ColdShips$Planner" "shipOf" "[I", Cond.methodLink RX1 135 yX1_keepVoyage, Cond.instanceMethod yX1_keepVoyage, Cond.selects RX1 yX1_keepVoyage yX1_keepVoyage, Cond.code yX1_keepVoyage cX1_keepVoyage 9 none, Cond.fieldLink RX1 28 "ColdShips$Planner" "placeOf" "[I", Cond.fieldLink RX1 31 "ColdShips$Planner" "loadOf" "[I", Cond.fieldLink RX1 34 "ColdShips$Planner" "landOf" "[I", Cond.fieldLink RX1 37 "ColdShips$Planner" "worthOf" "[J", Cond.methodLink RX1 138 yX1_cargoAt, Cond.instanceMethod yX1_cargoAt, Cond.selects RX1 yX1_cargoAt yX1_cargoAt, Cond.code yX1_cargoAt cX1_cargoAt 5 (some .int)]
def wsX11_best : List Cond := .code yX11_best cX11_best 2 (some .long) :: ((wsX11_best_r1 ++ (wsX11_best_r2 ++ (wsX11_best_r3 ++ (wsX11_best_r4 ++ (wsX11_best_r5 ++ wsX11_best_r6))))) ++ wsX110 ++ wsX10 ++ wsX100 ++ wsX40 ++ wsX50 ++ wsX80 ++ wsX70 ++ wsX60)
def wsX11_voyage : List Cond := .code yX11_voyage cX11_voyage 3 (some .long) :: ([.fieldLink RX11 46 "ColdShips" "planner" "LColdShips$Planner;", .constantLong RX11 281 (-2000000000000000), .methodLink RX11 51 yX11_within, .static yX11_within, .initialized RX11, .code yX11_within cX11_within 3 (some .boolean)] ++ wsX110 ++ wsX10)
def wsX11_judge_r1 : List Cond := [Cond.fieldLink RX11 46 "ColdShips" "planner" "LColdShips$Planner;", Cond.constantLong RX11 281 (-2000000000000000), Cond.methodLink RX11 343 yX1_sails, Cond.instanceMethod yX1_sails, Cond.selects RX1 yX1_sails yX1_sails, Cond.initialized RX1, Cond.code yX1_sails cX1_sails 2 (some .boolean), Cond.fieldLink RX1 40 "ColdShips$Planner" "world" "LColdShips$World;", Cond.methodLink RX1 44 yX10_hasShip, Cond.instanceMethod yX10_hasShip, Cond.selects RX10 yX10_hasShip yX10_hasShip, Cond.initialized RX10, Cond.code yX10_hasShip cX10_hasShip 2 (some .boolean), Cond.fieldLink RX10 81 "ColdShips$World" "shipCount" "I", Cond.methodLink RX11 229 yX11_isHour, Cond.static yX11_isHour, Cond.initialized RX11, Cond.code yX11_isHour cX11_isHour 1 (some .boolean), Cond.methodLink RX11 51 yX11_within, Cond.static yX11_within, Cond.code yX11_within cX11_within 3 (some .boolean), Cond.methodLink RX11 346 yX1_worthOfRow, Cond.instanceMethod yX1_worthOfRow, Cond.selects RX1 yX1_worthOfRow yX1_worthOfRow]
def wsX11_judge_r2 : List Cond := [Cond.code yX1_worthOfRow cX1_worthOfRow 13 (some .long), Cond.constantLong RX1 66 (-2000000000000000), Cond.fieldLink RX1 108 "ColdShips$Planner" "worth" "J", Cond.fieldLink RX1 119 "ColdShips$Planner" "freeAt" "I", Cond.methodLink RX1 148 yX4_has, Cond.instanceMethod yX4_has, Cond.selects RX4 yX4_has yX4_has, Cond.initialized RX4, Cond.code yX4_has cX4_has 2 (some .boolean), Cond.fieldLink RX4 25 "ColdShips$Rows" "size" "I", Cond.methodLink RX1 104 yX1_reckon, Cond.instanceMethod yX1_reckon, Cond.selects RX1 yX1_reckon yX1_reckon, Cond.code yX1_reckon cX1_reckon 14 (some .boolean), Cond.methodLink RX1 164 Lib.Math.max.name, Cond.static Lib.Math.max.name, Cond.initialized "java/lang/Math", Cond.code Lib.Math.max.name Lib.Math.max.code 2 (some .int), Cond.fieldLink RX1 142 "ColdShips$Planner" "loadAt" "I", Cond.fieldLink RX1 145 "ColdShips$Planner" "landAt" "I", Cond.constantLong RX1 189 (100000), Cond.methodLink RX1 191 Lib.MathLoose.min_long.x, Cond.static Lib.MathLoose.min_long.x, Cond.code Lib.MathLoose.min_long.x Lib.MathLoose.min_long.code 4 (some .long)]
def wsX11_judge_r3 : List Cond := [Cond.constantLong RX1 198 (100), Cond.methodLink RX1 116 yX4_number, Cond.instanceMethod yX4_number, Cond.selects RX4 yX4_number yX4_number, Cond.code yX4_number cX4_number 3 (some .int), Cond.methodLink RX4 34 yX4_at, Cond.instanceMethod yX4_at, Cond.selects RX4 yX4_at yX4_at, Cond.code yX4_at cX4_at 4 (some .long), Cond.fieldLink RX4 15 "ColdShips$Rows" "width" "I", Cond.fieldLink RX4 21 "ColdShips$Rows" "cells" "[J", Cond.methodLink RX1 151 yX10_hoursBetween, Cond.instanceMethod yX10_hoursBetween, Cond.selects RX10 yX10_hoursBetween yX10_hoursBetween, Cond.code yX10_hoursBetween cX10_hoursBetween 4 (some .int), Cond.fieldLink RX10 27 "ColdShips$World" "terminals" "[LColdShips$Terminal;", Cond.methodLink RX10 93 yX10_hasTerminal, Cond.instanceMethod yX10_hasTerminal, Cond.selects RX10 yX10_hasTerminal yX10_hasTerminal, Cond.code yX10_hasTerminal cX10_hasTerminal 2 (some .boolean), Cond.fieldLink RX10 78 "ColdShips$World" "terminalCount" "I", Cond.methodLink RX1 158 yX7_top, Cond.instanceMethod yX7_top, Cond.selects RX7 yX7_top yX7_top]
def wsX11_judge_r4 : List Cond := [Cond.initialized RX7, Cond.code yX7_top cX7_top 1 (some .int), Cond.fieldLink RX7 9 "ColdShips$Tank" "cap" "I", Cond.methodLink RX1 175 yX8_hoursFor, Cond.instanceMethod yX8_hoursFor, Cond.selects RX8 yX8_hoursFor yX8_hoursFor, Cond.initialized RX8, Cond.code yX8_hoursFor cX8_hoursFor 2 (some .int), Cond.fieldLink RX8 9 "ColdShips$Terminal" "rate" "I", Cond.methodLink RX1 180 yX6_hourBehind, Cond.instanceMethod yX6_hourBehind, Cond.selects RX6 yX6_hourBehind yX6_hourBehind, Cond.initialized RX6, Cond.code yX6_hourBehind cX6_hourBehind 8 (some .int), Cond.fieldLink RX6 27 "ColdShips$Spans" "size" "I", Cond.fieldLink RX6 21 "ColdShips$Spans" "begins" "[I", Cond.fieldLink RX6 15 "ColdShips$Spans" "owners" "[I", Cond.fieldLink RX6 24 "ColdShips$Spans" "ends" "[I", Cond.methodLink RX6 9 Lib.Math.max.name, Cond.methodLink RX1 194 yX4_at]
def wsX11_judge : List Cond := .code yX11_judge cX11_judge 6 (some .long) :: ((wsX11_judge_r1 ++ (wsX11_judge_r2 ++ (wsX11_judge_r3 ++ wsX11_judge_r4))) ++ wsX110 ++ wsX10 ++ wsX100 ++ wsX50 ++ wsX40 ++ wsX80 ++ wsX70 ++ wsX60)
def wsX11_back_r1 : List Cond := [Cond.fieldLink RX11 16 "ColdShips" "images" "[LColdShips$World;", Cond.fieldLink RX11 10 "ColdShips" "world" "LColdShips$World;", Cond.methodLink RX11 51 yX11_within, Cond.static yX11_within, Cond.initialized RX11, Cond.code yX11_within cX11_within 3 (some .boolean), Cond.methodLink RX11 55 yX11_refuse, Cond.instanceMethod yX11_refuse, Cond.selects RX11 yX11_refuse yX11_refuse, Cond.code yX11_refuse cX11_refuse 2 (some .int), Cond.fieldLink RX11 354 "ColdShips" "refusal" "I", Cond.methodLink RX11 350 yX10_copyFrom, Cond.instanceMethod yX10_copyFrom, Cond.selects RX10 yX10_copyFrom yX10_copyFrom, Cond.initialized RX10, Cond.code yX10_copyFrom cX10_copyFrom 3 none, Cond.fieldLink RX10 108 "ColdShips$World" "now" "I", Cond.fieldLink RX10 9 "ColdShips$World" "boils" "I", Cond.fieldLink RX10 15 "ColdShips$World" "limit" "I", Cond.fieldLink RX10 111 "ColdShips$World" "ordersGiven" "I", Cond.fieldLink RX10 78 "ColdShips$World" "terminalCount" "I", Cond.fieldLink RX10 81 "ColdShips$World" "shipCount" "I", Cond.fieldLink RX10 84 "ColdShips$World" "contractCount" "I", Cond.fieldLink RX10 18 "ColdShips$World" "tides" "[I"]
def wsX11_back_r2 : List Cond := [Cond.methodLink RX10 114 arraycopyName, Cond.native arraycopyName, Cond.static arraycopyName, Cond.initialized "java/lang/System", Cond.fieldLink RX10 22 "ColdShips$World" "seas" "[I", Cond.fieldLink RX10 39 "ColdShips$World" "contracts" "[LColdShips$Contract;", Cond.fieldLink RX10 27 "ColdShips$World" "terminals" "[LColdShips$Terminal;", Cond.fieldLink RX10 33 "ColdShips$World" "ships" "[LColdShips$Ship;", Cond.fieldLink RX10 48 "ColdShips$World" "slots" "LColdShips$Spans;", Cond.fieldLink RX10 52 "ColdShips$World" "breaks" "LColdShips$Spans;", Cond.fieldLink RX10 55 "ColdShips$World" "forces" "LColdShips$Spans;", Cond.fieldLink RX10 63 "ColdShips$World" "prices" "LColdShips$Rows;", Cond.fieldLink RX10 67 "ColdShips$World" "readings" "LColdShips$Rows;", Cond.fieldLink RX10 70 "ColdShips$World" "landings" "LColdShips$Rows;", Cond.fieldLink RX10 73 "ColdShips$World" "cargoes" "LColdShips$Rows;", Cond.methodLink RX10 120 yX8_copyFrom, Cond.instanceMethod yX8_copyFrom, Cond.selects RX8 yX8_copyFrom yX8_copyFrom, Cond.initialized RX8, Cond.code yX8_copyFrom cX8_copyFrom 2 none, Cond.fieldLink RX8 22 "ColdShips$Terminal" "store" "I", Cond.fieldLink RX8 25 "ColdShips$Terminal" "cap" "I", Cond.fieldLink RX8 9 "ColdShips$Terminal" "rate" "I", Cond.fieldLink RX8 34 "ColdShips$Terminal" "depth" "I"]
def wsX11_back_r3 : List Cond := [Cond.fieldLink RX8 37 "ColdShips$Terminal" "heat" "I", Cond.fieldLink RX8 15 "ColdShips$Terminal" "wayHours" "[I", Cond.methodLink RX8 50 arraycopyName, Cond.fieldLink RX8 19 "ColdShips$Terminal" "wayHalf" "[I", Cond.methodLink RX10 124 yX5_copyFrom, Cond.instanceMethod yX5_copyFrom, Cond.selects RX5 yX5_copyFrom yX5_copyFrom, Cond.initialized RX5, Cond.code yX5_copyFrom cX5_copyFrom 2 none, Cond.fieldLink RX5 12 "ColdShips$Ship" "tank" "LColdShips$Tank;", Cond.fieldLink RX5 42 "ColdShips$Ship" "fuel" "I", Cond.fieldLink RX5 46 "ColdShips$Ship" "where" "I", Cond.fieldLink RX5 49 "ColdShips$Ship" "left" "I", Cond.fieldLink RX5 52 "ColdShips$Ship" "half" "I", Cond.fieldLink RX5 55 "ColdShips$Ship" "drifting" "Z", Cond.fieldLink RX5 59 "ColdShips$Ship" "orders" "I", Cond.fieldLink RX5 62 "ColdShips$Ship" "list" "I", Cond.fieldLink RX5 96 "ColdShips$Ship" "landFirst" "I", Cond.fieldLink RX5 99 "ColdShips$Ship" "landLast" "I", Cond.fieldLink RX5 93 "ColdShips$Ship" "landTons" "I", Cond.fieldLink RX5 18 "ColdShips$Ship" "orderSorts" "[I", Cond.methodLink RX5 77 arraycopyName, Cond.fieldLink RX5 22 "ColdShips$Ship" "orderWhats" "[I", Cond.fieldLink RX5 25 "ColdShips$Ship" "book" "[J"]
def wsX11_back_r4 : List Cond := [Cond.fieldLink RX5 29 "ColdShips$Ship" "landParts" "[I", Cond.fieldLink RX5 32 "ColdShips$Ship" "gaugeCentimetres" "[I", Cond.fieldLink RX5 35 "ColdShips$Ship" "gaugeTons" "[I", Cond.methodLink RX5 102 yX7_copyFrom, Cond.instanceMethod yX7_copyFrom, Cond.selects RX7 yX7_copyFrom yX7_copyFrom, Cond.initialized RX7, Cond.code yX7_copyFrom cX7_copyFrom 2 none, Cond.fieldLink RX7 9 "ColdShips$Tank" "cap" "I", Cond.fieldLink RX7 32 "ColdShips$Tank" "gas" "I", Cond.fieldLink RX7 35 "ColdShips$Tank" "vapor" "I", Cond.fieldLink RX7 38 "ColdShips$Tank" "warm" "I", Cond.fieldLink RX7 15 "ColdShips$Tank" "parts" "[I", Cond.methodLink RX7 74 arraycopyName, Cond.methodLink RX10 127 yX6_copyFrom, Cond.instanceMethod yX6_copyFrom, Cond.selects RX6 yX6_copyFrom yX6_copyFrom, Cond.initialized RX6, Cond.code yX6_copyFrom cX6_copyFrom 2 none, Cond.fieldLink RX6 27 "ColdShips$Spans" "size" "I", Cond.fieldLink RX6 15 "ColdShips$Spans" "owners" "[I", Cond.methodLink RX6 34 arraycopyName, Cond.fieldLink RX6 21 "ColdShips$Spans" "begins" "[I", Cond.fieldLink RX6 24 "ColdShips$Spans" "ends" "[I"]
def wsX11_back_r5 : List Cond := [Cond.methodLink RX10 130 yX4_copyFrom, Cond.instanceMethod yX4_copyFrom, Cond.selects RX4 yX4_copyFrom yX4_copyFrom, Cond.initialized RX4, Cond.code yX4_copyFrom cX4_copyFrom 3 none, Cond.fieldLink RX4 25 "ColdShips$Rows" "size" "I", Cond.fieldLink RX4 15 "ColdShips$Rows" "width" "I", Cond.fieldLink RX4 21 "ColdShips$Rows" "cells" "[J", Cond.methodLink RX4 42 arraycopyName, Cond.methodLink RX11 73 yX11_accept, Cond.instanceMethod yX11_accept, Cond.selects RX11 yX11_accept yX11_accept, Cond.code yX11_accept cX11_accept 2 (some .int)]
def wsX11_back : List Cond := .code yX11_back cX11_back 2 (some .int) :: ((wsX11_back_r1 ++ (wsX11_back_r2 ++ (wsX11_back_r3 ++ (wsX11_back_r4 ++ wsX11_back_r5)))) ++ wsX110 ++ wsX100 ++ wsX80 ++ wsX50 ++ wsX70 ++ wsX60 ++ wsX40)
def wsX11_count : List Cond := .code yX11_count cX11_count 2 (some .int) :: ([.fieldLink RX11 10 "ColdShips" "world" "LColdShips$World;", .fieldLink RX11 32 "ColdShips" "reader" "LColdShips$Reader;"] ++ wsX110 ++ wsX100 ++ wsX60 ++ wsX40 ++ wsX20)
def wsX11_status : List Cond := .code yX11_status cX11_status 1 (some .int) :: ([.fieldLink RX11 354 "ColdShips" "refusal" "I"] ++ wsX110)
set_option maxRecDepth 20000 in
theorem ggX11_feed_X2_hasRoom : GoodIn wsX11_feed wsX2_hasRoom := goodIn_r _ [6, 7, 20, 21, 22, 23, 24, 25, 26, 27, 28, 29, 30, 31, 32, 33, 34, 35] (by decide +kernel) (by decide +kernel)
set_option maxRecDepth 20000 in
theorem gX11_feed_X2_hasRoom : GoodIn wsX11_feed (wsV RX11 252 RX2 yX2_hasRoom wsX2_hasRoom) := goodIn_app (goodIn_of _ (by decide +kernel)) ggX11_feed_X2_hasRoom
set_option maxRecDepth 20000 in
theorem ggX11_feed_X2_addFour : GoodIn wsX11_feed wsX2_addFour := goodIn_r _ [11, 7, 12, 20, 21, 22, 23, 24, 25, 26, 27, 28, 29, 30, 31, 32, 33, 34, 35] (by decide +kernel) (by decide +kernel)
set_option maxRecDepth 20000 in
theorem gX11_feed_X2_addFour : GoodIn wsX11_feed (wsV RX11 256 RX2 yX2_addFour wsX2_addFour) := goodIn_app (goodIn_of _ (by decide +kernel)) ggX11_feed_X2_addFour
theorem dX11_feed_0 : decode cX11_feed 0 = .ok (.aload_n 0, 1) := by decide +kernel
theorem dX11_feed_1 : decode cX11_feed 1 = .ok (.getfield 32, 3) := by decide +kernel
theorem dX11_feed_4 : decode cX11_feed 4 = .ok (.invokevirtual 252, 3) := by decide +kernel
theorem dX11_feed_7 : decode cX11_feed 7 = .ok (.ifCond .ne 5, 3) := by decide +kernel
theorem dX11_feed_10 : decode cX11_feed 10 = .ok (.iconst (-1), 1) := by decide +kernel
theorem dX11_feed_11 : decode cX11_feed 11 = .ok (.ireturn, 1) := by decide +kernel
theorem dX11_feed_12 : decode cX11_feed 12 = .ok (.aload_n 0, 1) := by decide +kernel
theorem dX11_feed_13 : decode cX11_feed 13 = .ok (.getfield 32, 3) := by decide +kernel
theorem dX11_feed_16 : decode cX11_feed 16 = .ok (.iload_n 1, 1) := by decide +kernel
theorem dX11_feed_17 : decode cX11_feed 17 = .ok (.invokevirtual 256, 3) := by decide +kernel
theorem dX11_feed_20 : decode cX11_feed 20 = .ok (.aload_n 0, 1) := by decide +kernel
theorem dX11_feed_21 : decode cX11_feed 21 = .ok (.getfield 32, 3) := by decide +kernel
theorem dX11_feed_24 : decode cX11_feed 24 = .ok (.iload_n 2, 1) := by decide +kernel
theorem dX11_feed_25 : decode cX11_feed 25 = .ok (.invokevirtual 256, 3) := by decide +kernel
theorem dX11_feed_28 : decode cX11_feed 28 = .ok (.aload_n 0, 1) := by decide +kernel
theorem dX11_feed_29 : decode cX11_feed 29 = .ok (.getfield 32, 3) := by decide +kernel
theorem dX11_feed_32 : decode cX11_feed 32 = .ok (.iload_n 3, 1) := by decide +kernel
theorem dX11_feed_33 : decode cX11_feed 33 = .ok (.invokevirtual 256, 3) := by decide +kernel
theorem dX11_feed_36 : decode cX11_feed 36 = .ok (.aload_n 0, 1) := by decide +kernel
theorem dX11_feed_37 : decode cX11_feed 37 = .ok (.getfield 32, 3) := by decide +kernel
theorem dX11_feed_40 : decode cX11_feed 40 = .ok (.iload 4, 2) := by decide +kernel
theorem dX11_feed_42 : decode cX11_feed 42 = .ok (.invokevirtual 256, 3) := by decide +kernel
theorem dX11_feed_45 : decode cX11_feed 45 = .ok (.aload_n 0, 1) := by decide +kernel
theorem dX11_feed_46 : decode cX11_feed 46 = .ok (.getfield 32, 3) := by decide +kernel
theorem dX11_feed_49 : decode cX11_feed 49 = .ok (.iload 5, 2) := by decide +kernel
theorem dX11_feed_51 : decode cX11_feed 51 = .ok (.invokevirtual 256, 3) := by decide +kernel
theorem dX11_feed_54 : decode cX11_feed 54 = .ok (.aload_n 0, 1) := by decide +kernel
theorem dX11_feed_55 : decode cX11_feed 55 = .ok (.getfield 32, 3) := by decide +kernel
theorem dX11_feed_58 : decode cX11_feed 58 = .ok (.getfield 260, 3) := by decide +kernel
theorem dX11_feed_61 : decode cX11_feed 61 = .ok (.ireturn, 1) := by decide +kernel
set_option maxRecDepth 20000 in
theorem ggX11_end_X11_within : GoodIn wsX11_end wsX11_within := goodIn_r _ [5] (by decide +kernel) (by decide +kernel)
set_option maxRecDepth 20000 in
theorem gX11_end_X11_within : GoodIn wsX11_end (va_wsS RX11 51 yX11_within wsX11_within) := goodIn_app (goodIn_of _ (by decide +kernel)) ggX11_end_X11_within
theorem dX11_end_0 : decode cX11_end 0 = .ok (.iload_n 1, 1) := by decide +kernel
theorem dX11_end_1 : decode cX11_end 1 = .ok (.iconst 0, 1) := by decide +kernel
theorem dX11_end_2 : decode cX11_end 2 = .ok (.aload_n 0, 1) := by decide +kernel
theorem dX11_end_3 : decode cX11_end 3 = .ok (.getfield 32, 3) := by decide +kernel
theorem dX11_end_6 : decode cX11_end 6 = .ok (.getfield 260, 3) := by decide +kernel
theorem dX11_end_9 : decode cX11_end 9 = .ok (.invokestatic 51, 3) := by decide +kernel
theorem dX11_end_12 : decode cX11_end 12 = .ok (.ifCond .ne 5, 3) := by decide +kernel
theorem dX11_end_15 : decode cX11_end 15 = .ok (.iconst (-1), 1) := by decide +kernel
theorem dX11_end_16 : decode cX11_end 16 = .ok (.ireturn, 1) := by decide +kernel
theorem dX11_end_17 : decode cX11_end 17 = .ok (.aload_n 0, 1) := by decide +kernel
theorem dX11_end_18 : decode cX11_end 18 = .ok (.getfield 32, 3) := by decide +kernel
theorem dX11_end_21 : decode cX11_end 21 = .ok (.iload_n 1, 1) := by decide +kernel
theorem dX11_end_22 : decode cX11_end 22 = .ok (.putfield 260, 3) := by decide +kernel
theorem dX11_end_25 : decode cX11_end 25 = .ok (.iload_n 1, 1) := by decide +kernel
theorem dX11_end_26 : decode cX11_end 26 = .ok (.ireturn, 1) := by decide +kernel
theorem dX11_fault_0 : decode cX11_fault 0 = .ok (.aload_n 0, 1) := by decide +kernel
theorem dX11_fault_1 : decode cX11_fault 1 = .ok (.getfield 32, 3) := by decide +kernel
theorem dX11_fault_4 : decode cX11_fault 4 = .ok (.getfield 275, 3) := by decide +kernel
theorem dX11_fault_7 : decode cX11_fault 7 = .ok (.ireturn, 1) := by decide +kernel
set_option maxRecDepth 20000 in
theorem ggX11_due_X4_has : GoodIn wsX11_due wsX4_has := goodIn_r _ [8, 9, 142, 143, 144] (by decide +kernel) (by decide +kernel)
set_option maxRecDepth 20000 in
theorem gX11_due_X4_has : GoodIn wsX11_due (wsV RX11 211 RX4 yX4_has wsX4_has) := goodIn_app (goodIn_of _ (by decide +kernel)) ggX11_due_X4_has
set_option maxRecDepth 20000 in
theorem ggX11_due_X10_hasContract : GoodIn wsX11_due wsX10_hasContract := goodIn_r _ [14, 15, 16, 117, 118, 119, 120, 121, 122, 123, 124, 125, 126, 127, 128, 129, 130, 131, 132, 133, 134, 135] (by decide +kernel) (by decide +kernel)
set_option maxRecDepth 20000 in
theorem gX11_due_X10_hasContract : GoodIn wsX11_due (wsV RX11 278 RX10 yX10_hasContract wsX10_hasContract) := goodIn_app (goodIn_of _ (by decide +kernel)) ggX11_due_X10_hasContract
set_option maxRecDepth 20000 in
theorem ggX11_due_X11_isHour : GoodIn wsX11_due wsX11_isHour := goodIn_r _ [20, 21, 22, 19, 23] (by decide +kernel) (by decide +kernel)
set_option maxRecDepth 20000 in
theorem gX11_due_X11_isHour : GoodIn wsX11_due (va_wsS RX11 229 yX11_isHour wsX11_isHour) := goodIn_app (goodIn_of _ (by decide +kernel)) ggX11_due_X11_isHour
set_option maxRecDepth 20000 in
theorem ggX11_due_X3_reckon : GoodIn wsX11_due wsX3_reckon := goodIn_r _ [28, 29, 30, 31, 32, 33, 27, 34, 35, 36, 37, 38, 39, 40, 41, 42, 43, 7, 44, 45, 46, 47, 48, 9, 49, 50, 51, 52, 53, 54, 13, 55, 56, 57, 58, 59, 60, 61, 62, 63, 64, 65, 66, 67, 68, 69, 70, 71, 72, 73, 74, 75, 76, 77, 78, 79, 80, 81, 82, 83, 84, 85, 86, 87, 88, 89, 90, 91, 92, 93, 94, 95, 96, 97, 98, 99, 100, 101, 102, 103, 104, 105, 106, 107, 108, 109, 136, 137, 138, 139, 140, 141, 145, 146, 147, 148, 149, 117, 118, 119, 120, 121, 122, 123, 124, 125, 126, 127, 128, 129, 130, 131, 132, 133, 134, 135, 142, 143, 144, 150, 151, 152, 153, 154, 155, 156, 157, 158, 159, 160] (by decide +kernel) (by decide +kernel)
set_option maxRecDepth 20000 in
theorem gX11_due_X3_reckon : GoodIn wsX11_due (wsV RX11 283 RX3 yX3_reckon wsX3_reckon) := goodIn_app (goodIn_of _ (by decide +kernel)) ggX11_due_X3_reckon
theorem dX11_due_0 : decode cX11_due 0 = .ok (.aload_n 0, 1) := by decide +kernel
theorem dX11_due_1 : decode cX11_due 1 = .ok (.getfield 10, 3) := by decide +kernel
theorem dX11_due_4 : decode cX11_due 4 = .ok (.getfield 207, 3) := by decide +kernel
theorem dX11_due_7 : decode cX11_due 7 = .ok (.iload_n 1, 1) := by decide +kernel
theorem dX11_due_8 : decode cX11_due 8 = .ok (.invokevirtual 211, 3) := by decide +kernel
theorem dX11_due_11 : decode cX11_due 11 = .ok (.ifCond .eq 21, 3) := by decide +kernel
theorem dX11_due_14 : decode cX11_due 14 = .ok (.aload_n 0, 1) := by decide +kernel
theorem dX11_due_15 : decode cX11_due 15 = .ok (.getfield 10, 3) := by decide +kernel
theorem dX11_due_18 : decode cX11_due 18 = .ok (.iload_n 2, 1) := by decide +kernel
theorem dX11_due_19 : decode cX11_due 19 = .ok (.invokevirtual 278, 3) := by decide +kernel
theorem dX11_due_22 : decode cX11_due 22 = .ok (.ifCond .eq 10, 3) := by decide +kernel
theorem dX11_due_25 : decode cX11_due 25 = .ok (.iload_n 3, 1) := by decide +kernel
theorem dX11_due_26 : decode cX11_due 26 = .ok (.invokestatic 229, 3) := by decide +kernel
theorem dX11_due_29 : decode cX11_due 29 = .ok (.ifCond .ne 7, 3) := by decide +kernel
theorem dX11_due_32 : decode cX11_due 32 = .ok (.ldc2_w 281, 3) := by decide +kernel
theorem dX11_due_35 : decode cX11_due 35 = .ok (.lreturn, 1) := by decide +kernel
theorem dX11_due_36 : decode cX11_due 36 = .ok (.aload_n 0, 1) := by decide +kernel
theorem dX11_due_37 : decode cX11_due 37 = .ok (.getfield 39, 3) := by decide +kernel
theorem dX11_due_40 : decode cX11_due 40 = .ok (.iload_n 1, 1) := by decide +kernel
theorem dX11_due_41 : decode cX11_due 41 = .ok (.aload_n 0, 1) := by decide +kernel
theorem dX11_due_42 : decode cX11_due 42 = .ok (.getfield 10, 3) := by decide +kernel
theorem dX11_due_45 : decode cX11_due 45 = .ok (.getfield 271, 3) := by decide +kernel
theorem dX11_due_48 : decode cX11_due 48 = .ok (.iload_n 2, 1) := by decide +kernel
theorem dX11_due_49 : decode cX11_due 49 = .ok (.aaload, 1) := by decide +kernel
theorem dX11_due_50 : decode cX11_due 50 = .ok (.iload_n 3, 1) := by decide +kernel
theorem dX11_due_51 : decode cX11_due 51 = .ok (.invokevirtual 283, 3) := by decide +kernel
theorem dX11_due_54 : decode cX11_due 54 = .ok (.iload 4, 2) := by decide +kernel
theorem dX11_due_56 : decode cX11_due 56 = .ok (.tableswitch 88 0 4 #[36, 52, 60, 68, 78], 36) := by decide +kernel
theorem dX11_due_92 : decode cX11_due 92 = .ok (.aload_n 0, 1) := by decide +kernel
theorem dX11_due_93 : decode cX11_due 93 = .ok (.getfield 39, 3) := by decide +kernel
theorem dX11_due_96 : decode cX11_due 96 = .ok (.getfield 287, 3) := by decide +kernel
theorem dX11_due_99 : decode cX11_due 99 = .ok (.aload_n 0, 1) := by decide +kernel
theorem dX11_due_100 : decode cX11_due 100 = .ok (.getfield 39, 3) := by decide +kernel
theorem dX11_due_103 : decode cX11_due 103 = .ok (.getfield 291, 3) := by decide +kernel
theorem dX11_due_106 : decode cX11_due 106 = .ok (.lsub, 1) := by decide +kernel
theorem dX11_due_107 : decode cX11_due 107 = .ok (.lreturn, 1) := by decide +kernel
theorem dX11_due_108 : decode cX11_due 108 = .ok (.aload_n 0, 1) := by decide +kernel
theorem dX11_due_109 : decode cX11_due 109 = .ok (.getfield 39, 3) := by decide +kernel
theorem dX11_due_112 : decode cX11_due 112 = .ok (.getfield 287, 3) := by decide +kernel
theorem dX11_due_115 : decode cX11_due 115 = .ok (.lreturn, 1) := by decide +kernel
theorem dX11_due_116 : decode cX11_due 116 = .ok (.aload_n 0, 1) := by decide +kernel
theorem dX11_due_117 : decode cX11_due 117 = .ok (.getfield 39, 3) := by decide +kernel
theorem dX11_due_120 : decode cX11_due 120 = .ok (.getfield 291, 3) := by decide +kernel
theorem dX11_due_123 : decode cX11_due 123 = .ok (.lreturn, 1) := by decide +kernel
theorem dX11_due_124 : decode cX11_due 124 = .ok (.aload_n 0, 1) := by decide +kernel
theorem dX11_due_125 : decode cX11_due 125 = .ok (.getfield 39, 3) := by decide +kernel
theorem dX11_due_128 : decode cX11_due 128 = .ok (.getfield 294, 3) := by decide +kernel
theorem dX11_due_131 : decode cX11_due 131 = .ok (.iconst 3, 1) := by decide +kernel
theorem dX11_due_132 : decode cX11_due 132 = .ok (.laload, 1) := by decide +kernel
theorem dX11_due_133 : decode cX11_due 133 = .ok (.lreturn, 1) := by decide +kernel
theorem dX11_due_134 : decode cX11_due 134 = .ok (.aload_n 0, 1) := by decide +kernel
theorem dX11_due_135 : decode cX11_due 135 = .ok (.getfield 39, 3) := by decide +kernel
theorem dX11_due_138 : decode cX11_due 138 = .ok (.getfield 294, 3) := by decide +kernel
theorem dX11_due_141 : decode cX11_due 141 = .ok (.iconst 5, 1) := by decide +kernel
theorem dX11_due_142 : decode cX11_due 142 = .ok (.laload, 1) := by decide +kernel
theorem dX11_due_143 : decode cX11_due 143 = .ok (.lreturn, 1) := by decide +kernel
theorem dX11_due_144 : decode cX11_due 144 = .ok (.ldc2_w 281, 3) := by decide +kernel
theorem dX11_due_147 : decode cX11_due 147 = .ok (.lreturn, 1) := by decide +kernel
set_option maxRecDepth 20000 in
theorem ggX11_settle_X4_has : GoodIn wsX11_settle wsX4_has := goodIn_r _ [7, 8, 153, 154, 155] (by decide +kernel) (by decide +kernel)
set_option maxRecDepth 20000 in
theorem gX11_settle_X4_has : GoodIn wsX11_settle (wsV RX11 211 RX4 yX4_has wsX4_has) := goodIn_app (goodIn_of _ (by decide +kernel)) ggX11_settle_X4_has
set_option maxRecDepth 20000 in
theorem ggX11_settle_X10_hasContract : GoodIn wsX11_settle wsX10_hasContract := goodIn_r _ [13, 14, 15, 128, 129, 130, 131, 132, 133, 134, 135, 136, 137, 138, 139, 140, 141, 142, 143, 144, 145, 146] (by decide +kernel) (by decide +kernel)
set_option maxRecDepth 20000 in
theorem gX11_settle_X10_hasContract : GoodIn wsX11_settle (wsV RX11 278 RX10 yX10_hasContract wsX10_hasContract) := goodIn_app (goodIn_of _ (by decide +kernel)) ggX11_settle_X10_hasContract
set_option maxRecDepth 20000 in
theorem ggX11_settle_X11_refuse : GoodIn wsX11_settle wsX11_refuse := goodIn_r _ [20, 21, 121, 122, 123, 124, 125, 126, 127] (by decide +kernel) (by decide +kernel)
set_option maxRecDepth 20000 in
theorem gX11_settle_X11_refuse : GoodIn wsX11_settle (wsV RX11 55 RX11 yX11_refuse wsX11_refuse) := goodIn_app (goodIn_of _ (by decide +kernel)) ggX11_settle_X11_refuse
set_option maxRecDepth 20000 in
theorem ggX11_settle_X10_isSettled : GoodIn wsX11_settle wsX10_isSettled := goodIn_r _ [25, 26, 27, 28, 29, 30, 6, 31, 8, 32, 33, 128, 129, 130, 131, 132, 133, 134, 135, 136, 137, 138, 139, 140, 141, 142, 143, 144, 145, 146, 153, 154, 155] (by decide +kernel) (by decide +kernel)
set_option maxRecDepth 20000 in
theorem gX11_settle_X10_isSettled : GoodIn wsX11_settle (wsV RX11 223 RX10 yX10_isSettled wsX10_isSettled) := goodIn_app (goodIn_of _ (by decide +kernel)) ggX11_settle_X10_isSettled
set_option maxRecDepth 20000 in
theorem ggX11_settle_X3_reckon : GoodIn wsX11_settle wsX3_reckon := goodIn_r _ [38, 39, 40, 41, 42, 43, 37, 44, 45, 46, 47, 48, 49, 50, 51, 52, 53, 6, 54, 55, 29, 30, 31, 8, 32, 33, 56, 57, 58, 59, 12, 60, 26, 27, 28, 61, 62, 63, 64, 65, 66, 67, 68, 69, 70, 71, 72, 73, 74, 75, 76, 77, 78, 79, 80, 81, 82, 83, 84, 85, 86, 87, 88, 89, 90, 91, 92, 93, 94, 95, 96, 97, 98, 99, 100, 101, 102, 103, 104, 105, 106, 107, 108, 109, 110, 111, 147, 148, 149, 150, 151, 152, 156, 157, 158, 159, 160, 128, 129, 130, 131, 132, 133, 134, 135, 136, 137, 138, 139, 140, 141, 142, 143, 144, 145, 146, 153, 154, 155, 161, 162, 163, 164, 165, 166, 167, 168, 169, 170, 171] (by decide +kernel) (by decide +kernel)
set_option maxRecDepth 20000 in
theorem gX11_settle_X3_reckon : GoodIn wsX11_settle (wsV RX11 283 RX3 yX3_reckon wsX3_reckon) := goodIn_app (goodIn_of _ (by decide +kernel)) ggX11_settle_X3_reckon
set_option maxRecDepth 20000 in
theorem ggX11_settle_X4_set : GoodIn wsX11_settle wsX4_set := goodIn_r _ [115, 32, 33, 116, 4, 5, 6, 7, 8, 153, 154, 155] (by decide +kernel) (by decide +kernel)
set_option maxRecDepth 20000 in
theorem gX11_settle_X4_set : GoodIn wsX11_settle (wsV RX11 238 RX4 yX4_set wsX4_set) := goodIn_app (goodIn_of _ (by decide +kernel)) ggX11_settle_X4_set
set_option maxRecDepth 20000 in
theorem ggX11_settle_X11_accept : GoodIn wsX11_settle wsX11_accept := goodIn_r _ [120, 21, 121, 122, 123, 124, 125, 126, 127] (by decide +kernel) (by decide +kernel)
set_option maxRecDepth 20000 in
theorem gX11_settle_X11_accept : GoodIn wsX11_settle (wsV RX11 73 RX11 yX11_accept wsX11_accept) := goodIn_app (goodIn_of _ (by decide +kernel)) ggX11_settle_X11_accept
theorem dX11_settle_0 : decode cX11_settle 0 = .ok (.aload_n 0, 1) := by decide +kernel
theorem dX11_settle_1 : decode cX11_settle 1 = .ok (.getfield 10, 3) := by decide +kernel
theorem dX11_settle_4 : decode cX11_settle 4 = .ok (.getfield 207, 3) := by decide +kernel
theorem dX11_settle_7 : decode cX11_settle 7 = .ok (.iload_n 1, 1) := by decide +kernel
theorem dX11_settle_8 : decode cX11_settle 8 = .ok (.invokevirtual 211, 3) := by decide +kernel
theorem dX11_settle_11 : decode cX11_settle 11 = .ok (.ifCond .eq 14, 3) := by decide +kernel
theorem dX11_settle_14 : decode cX11_settle 14 = .ok (.aload_n 0, 1) := by decide +kernel
theorem dX11_settle_15 : decode cX11_settle 15 = .ok (.getfield 10, 3) := by decide +kernel
theorem dX11_settle_18 : decode cX11_settle 18 = .ok (.iload_n 2, 1) := by decide +kernel
theorem dX11_settle_19 : decode cX11_settle 19 = .ok (.invokevirtual 278, 3) := by decide +kernel
theorem dX11_settle_22 : decode cX11_settle 22 = .ok (.ifCond .ne 10, 3) := by decide +kernel
theorem dX11_settle_25 : decode cX11_settle 25 = .ok (.aload_n 0, 1) := by decide +kernel
theorem dX11_settle_26 : decode cX11_settle 26 = .ok (.bipush (-2), 2) := by decide +kernel
theorem dX11_settle_28 : decode cX11_settle 28 = .ok (.invokevirtual 55, 3) := by decide +kernel
theorem dX11_settle_31 : decode cX11_settle 31 = .ok (.ireturn, 1) := by decide +kernel
theorem dX11_settle_32 : decode cX11_settle 32 = .ok (.aload_n 0, 1) := by decide +kernel
theorem dX11_settle_33 : decode cX11_settle 33 = .ok (.getfield 10, 3) := by decide +kernel
theorem dX11_settle_36 : decode cX11_settle 36 = .ok (.iload_n 1, 1) := by decide +kernel
theorem dX11_settle_37 : decode cX11_settle 37 = .ok (.invokevirtual 223, 3) := by decide +kernel
theorem dX11_settle_40 : decode cX11_settle 40 = .ok (.ifCond .eq 10, 3) := by decide +kernel
theorem dX11_settle_43 : decode cX11_settle 43 = .ok (.aload_n 0, 1) := by decide +kernel
theorem dX11_settle_44 : decode cX11_settle 44 = .ok (.bipush (-4), 2) := by decide +kernel
theorem dX11_settle_46 : decode cX11_settle 46 = .ok (.invokevirtual 55, 3) := by decide +kernel
theorem dX11_settle_49 : decode cX11_settle 49 = .ok (.ireturn, 1) := by decide +kernel
theorem dX11_settle_50 : decode cX11_settle 50 = .ok (.aload_n 0, 1) := by decide +kernel
theorem dX11_settle_51 : decode cX11_settle 51 = .ok (.getfield 39, 3) := by decide +kernel
theorem dX11_settle_54 : decode cX11_settle 54 = .ok (.iload_n 1, 1) := by decide +kernel
theorem dX11_settle_55 : decode cX11_settle 55 = .ok (.aload_n 0, 1) := by decide +kernel
theorem dX11_settle_56 : decode cX11_settle 56 = .ok (.getfield 10, 3) := by decide +kernel
theorem dX11_settle_59 : decode cX11_settle 59 = .ok (.getfield 271, 3) := by decide +kernel
theorem dX11_settle_62 : decode cX11_settle 62 = .ok (.iload_n 2, 1) := by decide +kernel
theorem dX11_settle_63 : decode cX11_settle 63 = .ok (.aaload, 1) := by decide +kernel
theorem dX11_settle_64 : decode cX11_settle 64 = .ok (.aload_n 0, 1) := by decide +kernel
theorem dX11_settle_65 : decode cX11_settle 65 = .ok (.getfield 10, 3) := by decide +kernel
theorem dX11_settle_68 : decode cX11_settle 68 = .ok (.getfield 154, 3) := by decide +kernel
theorem dX11_settle_71 : decode cX11_settle 71 = .ok (.invokevirtual 283, 3) := by decide +kernel
theorem dX11_settle_74 : decode cX11_settle 74 = .ok (.aload_n 0, 1) := by decide +kernel
theorem dX11_settle_75 : decode cX11_settle 75 = .ok (.getfield 10, 3) := by decide +kernel
theorem dX11_settle_78 : decode cX11_settle 78 = .ok (.getfield 207, 3) := by decide +kernel
theorem dX11_settle_81 : decode cX11_settle 81 = .ok (.iload_n 1, 1) := by decide +kernel
theorem dX11_settle_82 : decode cX11_settle 82 = .ok (.bipush 12, 2) := by decide +kernel
theorem dX11_settle_84 : decode cX11_settle 84 = .ok (.iload_n 2, 1) := by decide +kernel
theorem dX11_settle_85 : decode cX11_settle 85 = .ok (.i2l, 1) := by decide +kernel
theorem dX11_settle_86 : decode cX11_settle 86 = .ok (.invokevirtual 238, 3) := by decide +kernel
theorem dX11_settle_89 : decode cX11_settle 89 = .ok (.aload_n 0, 1) := by decide +kernel
theorem dX11_settle_90 : decode cX11_settle 90 = .ok (.getfield 10, 3) := by decide +kernel
theorem dX11_settle_93 : decode cX11_settle 93 = .ok (.getfield 207, 3) := by decide +kernel
theorem dX11_settle_96 : decode cX11_settle 96 = .ok (.iload_n 1, 1) := by decide +kernel
theorem dX11_settle_97 : decode cX11_settle 97 = .ok (.bipush 13, 2) := by decide +kernel
theorem dX11_settle_99 : decode cX11_settle 99 = .ok (.aload_n 0, 1) := by decide +kernel
theorem dX11_settle_100 : decode cX11_settle 100 = .ok (.getfield 39, 3) := by decide +kernel
theorem dX11_settle_103 : decode cX11_settle 103 = .ok (.getfield 287, 3) := by decide +kernel
theorem dX11_settle_106 : decode cX11_settle 106 = .ok (.aload_n 0, 1) := by decide +kernel
theorem dX11_settle_107 : decode cX11_settle 107 = .ok (.getfield 39, 3) := by decide +kernel
theorem dX11_settle_110 : decode cX11_settle 110 = .ok (.getfield 291, 3) := by decide +kernel
theorem dX11_settle_113 : decode cX11_settle 113 = .ok (.lsub, 1) := by decide +kernel
theorem dX11_settle_114 : decode cX11_settle 114 = .ok (.invokevirtual 238, 3) := by decide +kernel
theorem dX11_settle_117 : decode cX11_settle 117 = .ok (.aload_n 0, 1) := by decide +kernel
theorem dX11_settle_118 : decode cX11_settle 118 = .ok (.getfield 10, 3) := by decide +kernel
theorem dX11_settle_121 : decode cX11_settle 121 = .ok (.getfield 207, 3) := by decide +kernel
theorem dX11_settle_124 : decode cX11_settle 124 = .ok (.iload_n 1, 1) := by decide +kernel
theorem dX11_settle_125 : decode cX11_settle 125 = .ok (.bipush 14, 2) := by decide +kernel
theorem dX11_settle_127 : decode cX11_settle 127 = .ok (.aload_n 0, 1) := by decide +kernel
theorem dX11_settle_128 : decode cX11_settle 128 = .ok (.getfield 10, 3) := by decide +kernel
theorem dX11_settle_131 : decode cX11_settle 131 = .ok (.getfield 154, 3) := by decide +kernel
theorem dX11_settle_134 : decode cX11_settle 134 = .ok (.i2l, 1) := by decide +kernel
theorem dX11_settle_135 : decode cX11_settle 135 = .ok (.invokevirtual 238, 3) := by decide +kernel
theorem dX11_settle_138 : decode cX11_settle 138 = .ok (.aload_n 0, 1) := by decide +kernel
theorem dX11_settle_139 : decode cX11_settle 139 = .ok (.iconst 0, 1) := by decide +kernel
theorem dX11_settle_140 : decode cX11_settle 140 = .ok (.invokevirtual 73, 3) := by decide +kernel
theorem dX11_settle_143 : decode cX11_settle 143 = .ok (.ireturn, 1) := by decide +kernel
set_option maxRecDepth 20000 in
theorem ggX11_settled_X4_has : GoodIn wsX11_settled wsX4_has := goodIn_r _ [7, 8, 49, 50, 51] (by decide +kernel) (by decide +kernel)
set_option maxRecDepth 20000 in
theorem gX11_settled_X4_has : GoodIn wsX11_settled (wsV RX11 211 RX4 yX4_has wsX4_has) := goodIn_app (goodIn_of _ (by decide +kernel)) ggX11_settled_X4_has
set_option maxRecDepth 20000 in
theorem ggX11_settled_X10_isSettled : GoodIn wsX11_settled wsX10_isSettled := goodIn_r _ [13, 14, 15, 16, 17, 18, 6, 19, 8, 20, 21, 30, 31, 32, 33, 34, 35, 36, 37, 38, 39, 40, 41, 42, 43, 44, 45, 46, 47, 48, 49, 50, 51] (by decide +kernel) (by decide +kernel)
set_option maxRecDepth 20000 in
theorem gX11_settled_X10_isSettled : GoodIn wsX11_settled (wsV RX11 223 RX10 yX10_isSettled wsX10_isSettled) := goodIn_app (goodIn_of _ (by decide +kernel)) ggX11_settled_X10_isSettled
set_option maxRecDepth 20000 in
theorem ggX11_settled_X4_at : GoodIn wsX11_settled wsX4_at := goodIn_r _ [19, 8, 20, 21, 49, 50, 51] (by decide +kernel) (by decide +kernel)
set_option maxRecDepth 20000 in
theorem gX11_settled_X4_at : GoodIn wsX11_settled (wsV RX11 248 RX4 yX4_at wsX4_at) := goodIn_app (goodIn_of _ (by decide +kernel)) ggX11_settled_X4_at
theorem dX11_settled_0 : decode cX11_settled 0 = .ok (.aload_n 0, 1) := by decide +kernel
theorem dX11_settled_1 : decode cX11_settled 1 = .ok (.getfield 10, 3) := by decide +kernel
theorem dX11_settled_4 : decode cX11_settled 4 = .ok (.getfield 207, 3) := by decide +kernel
theorem dX11_settled_7 : decode cX11_settled 7 = .ok (.iload_n 1, 1) := by decide +kernel
theorem dX11_settled_8 : decode cX11_settled 8 = .ok (.invokevirtual 211, 3) := by decide +kernel
theorem dX11_settled_11 : decode cX11_settled 11 = .ok (.ifCond .eq 14, 3) := by decide +kernel
theorem dX11_settled_14 : decode cX11_settled 14 = .ok (.aload_n 0, 1) := by decide +kernel
theorem dX11_settled_15 : decode cX11_settled 15 = .ok (.getfield 10, 3) := by decide +kernel
theorem dX11_settled_18 : decode cX11_settled 18 = .ok (.iload_n 1, 1) := by decide +kernel
theorem dX11_settled_19 : decode cX11_settled 19 = .ok (.invokevirtual 223, 3) := by decide +kernel
theorem dX11_settled_22 : decode cX11_settled 22 = .ok (.ifCond .ne 7, 3) := by decide +kernel
theorem dX11_settled_25 : decode cX11_settled 25 = .ok (.ldc2_w 281, 3) := by decide +kernel
theorem dX11_settled_28 : decode cX11_settled 28 = .ok (.lreturn, 1) := by decide +kernel
theorem dX11_settled_29 : decode cX11_settled 29 = .ok (.iload_n 2, 1) := by decide +kernel
theorem dX11_settled_30 : decode cX11_settled 30 = .ok (.tableswitch 68 0 2 #[26, 40, 54], 26) := by decide +kernel
theorem dX11_settled_56 : decode cX11_settled 56 = .ok (.aload_n 0, 1) := by decide +kernel
theorem dX11_settled_57 : decode cX11_settled 57 = .ok (.getfield 10, 3) := by decide +kernel
theorem dX11_settled_60 : decode cX11_settled 60 = .ok (.getfield 207, 3) := by decide +kernel
theorem dX11_settled_63 : decode cX11_settled 63 = .ok (.iload_n 1, 1) := by decide +kernel
theorem dX11_settled_64 : decode cX11_settled 64 = .ok (.bipush 13, 2) := by decide +kernel
theorem dX11_settled_66 : decode cX11_settled 66 = .ok (.invokevirtual 248, 3) := by decide +kernel
theorem dX11_settled_69 : decode cX11_settled 69 = .ok (.lreturn, 1) := by decide +kernel
theorem dX11_settled_70 : decode cX11_settled 70 = .ok (.aload_n 0, 1) := by decide +kernel
theorem dX11_settled_71 : decode cX11_settled 71 = .ok (.getfield 10, 3) := by decide +kernel
theorem dX11_settled_74 : decode cX11_settled 74 = .ok (.getfield 207, 3) := by decide +kernel
theorem dX11_settled_77 : decode cX11_settled 77 = .ok (.iload_n 1, 1) := by decide +kernel
theorem dX11_settled_78 : decode cX11_settled 78 = .ok (.bipush 12, 2) := by decide +kernel
theorem dX11_settled_80 : decode cX11_settled 80 = .ok (.invokevirtual 248, 3) := by decide +kernel
theorem dX11_settled_83 : decode cX11_settled 83 = .ok (.lreturn, 1) := by decide +kernel
theorem dX11_settled_84 : decode cX11_settled 84 = .ok (.aload_n 0, 1) := by decide +kernel
theorem dX11_settled_85 : decode cX11_settled 85 = .ok (.getfield 10, 3) := by decide +kernel
theorem dX11_settled_88 : decode cX11_settled 88 = .ok (.getfield 207, 3) := by decide +kernel
theorem dX11_settled_91 : decode cX11_settled 91 = .ok (.iload_n 1, 1) := by decide +kernel
theorem dX11_settled_92 : decode cX11_settled 92 = .ok (.bipush 14, 2) := by decide +kernel
theorem dX11_settled_94 : decode cX11_settled 94 = .ok (.invokevirtual 248, 3) := by decide +kernel
theorem dX11_settled_97 : decode cX11_settled 97 = .ok (.lreturn, 1) := by decide +kernel
theorem dX11_settled_98 : decode cX11_settled 98 = .ok (.ldc2_w 281, 3) := by decide +kernel
theorem dX11_settled_101 : decode cX11_settled 101 = .ok (.lreturn, 1) := by decide +kernel
set_option maxRecDepth 20000 in
theorem ggX11_table_X11_within : GoodIn wsX11_table wsX11_within := goodIn_r _ [6] (by decide +kernel) (by decide +kernel)
set_option maxRecDepth 20000 in
theorem gX11_table_X11_within : GoodIn wsX11_table (va_wsS RX11 51 yX11_within wsX11_within) := goodIn_app (goodIn_of _ (by decide +kernel)) ggX11_table_X11_within
set_option maxRecDepth 20000 in
theorem ggX11_table_X11_refuse : GoodIn wsX11_table wsX11_refuse := goodIn_r _ [10, 11, 22, 23, 24, 25, 26, 27, 28] (by decide +kernel) (by decide +kernel)
set_option maxRecDepth 20000 in
theorem gX11_table_X11_refuse : GoodIn wsX11_table (wsV RX11 55 RX11 yX11_refuse wsX11_refuse) := goodIn_app (goodIn_of _ (by decide +kernel)) ggX11_table_X11_refuse
set_option maxRecDepth 20000 in
theorem ggX11_table_X10_hasShip : GoodIn wsX11_table wsX10_hasShip := goodIn_r _ [16, 17, 29, 30, 31, 32, 33, 34, 35, 36, 37, 38, 39, 40, 41, 42, 43, 44, 45, 46, 47] (by decide +kernel) (by decide +kernel)
set_option maxRecDepth 20000 in
theorem gX11_table_X10_hasShip : GoodIn wsX11_table (wsV RX11 108 RX10 yX10_hasShip wsX10_hasShip) := goodIn_app (goodIn_of _ (by decide +kernel)) ggX11_table_X10_hasShip
set_option maxRecDepth 20000 in
theorem ggX11_table_X11_accept : GoodIn wsX11_table wsX11_accept := goodIn_r _ [21, 11, 22, 23, 24, 25, 26, 27, 28] (by decide +kernel) (by decide +kernel)
set_option maxRecDepth 20000 in
theorem gX11_table_X11_accept : GoodIn wsX11_table (wsV RX11 73 RX11 yX11_accept wsX11_accept) := goodIn_app (goodIn_of _ (by decide +kernel)) ggX11_table_X11_accept
theorem dX11_table_0 : decode cX11_table 0 = .ok (.iload_n 2, 1) := by decide +kernel
theorem dX11_table_1 : decode cX11_table 1 = .ok (.iconst 0, 1) := by decide +kernel
theorem dX11_table_2 : decode cX11_table 2 = .ok (.iconst 3, 1) := by decide +kernel
theorem dX11_table_3 : decode cX11_table 3 = .ok (.invokestatic 51, 3) := by decide +kernel
theorem dX11_table_6 : decode cX11_table 6 = .ok (.ifCond .eq 25, 3) := by decide +kernel
theorem dX11_table_9 : decode cX11_table 9 = .ok (.iload_n 3, 1) := by decide +kernel
theorem dX11_table_10 : decode cX11_table 10 = .ok (.iconst 0, 1) := by decide +kernel
theorem dX11_table_11 : decode cX11_table 11 = .ok (.sipush 5000, 3) := by decide +kernel
theorem dX11_table_14 : decode cX11_table 14 = .ok (.invokestatic 51, 3) := by decide +kernel
theorem dX11_table_17 : decode cX11_table 17 = .ok (.ifCond .eq 14, 3) := by decide +kernel
theorem dX11_table_20 : decode cX11_table 20 = .ok (.iload 4, 2) := by decide +kernel
theorem dX11_table_22 : decode cX11_table 22 = .ok (.iconst 0, 1) := by decide +kernel
theorem dX11_table_23 : decode cX11_table 23 = .ok (.ldc 76, 2) := by decide +kernel
theorem dX11_table_25 : decode cX11_table 25 = .ok (.invokestatic 51, 3) := by decide +kernel
theorem dX11_table_28 : decode cX11_table 28 = .ok (.ifCond .ne 9, 3) := by decide +kernel
theorem dX11_table_31 : decode cX11_table 31 = .ok (.aload_n 0, 1) := by decide +kernel
theorem dX11_table_32 : decode cX11_table 32 = .ok (.iconst (-1), 1) := by decide +kernel
theorem dX11_table_33 : decode cX11_table 33 = .ok (.invokevirtual 55, 3) := by decide +kernel
theorem dX11_table_36 : decode cX11_table 36 = .ok (.ireturn, 1) := by decide +kernel
theorem dX11_table_37 : decode cX11_table 37 = .ok (.aload_n 0, 1) := by decide +kernel
theorem dX11_table_38 : decode cX11_table 38 = .ok (.getfield 10, 3) := by decide +kernel
theorem dX11_table_41 : decode cX11_table 41 = .ok (.iload_n 1, 1) := by decide +kernel
theorem dX11_table_42 : decode cX11_table 42 = .ok (.invokevirtual 108, 3) := by decide +kernel
theorem dX11_table_45 : decode cX11_table 45 = .ok (.ifCond .ne 10, 3) := by decide +kernel
theorem dX11_table_48 : decode cX11_table 48 = .ok (.aload_n 0, 1) := by decide +kernel
theorem dX11_table_49 : decode cX11_table 49 = .ok (.bipush (-2), 2) := by decide +kernel
theorem dX11_table_51 : decode cX11_table 51 = .ok (.invokevirtual 55, 3) := by decide +kernel
theorem dX11_table_54 : decode cX11_table 54 = .ok (.ireturn, 1) := by decide +kernel
theorem dX11_table_55 : decode cX11_table 55 = .ok (.aload_n 0, 1) := by decide +kernel
theorem dX11_table_56 : decode cX11_table 56 = .ok (.getfield 10, 3) := by decide +kernel
theorem dX11_table_59 : decode cX11_table 59 = .ok (.getfield 84, 3) := by decide +kernel
theorem dX11_table_62 : decode cX11_table 62 = .ok (.iload_n 1, 1) := by decide +kernel
theorem dX11_table_63 : decode cX11_table 63 = .ok (.aaload, 1) := by decide +kernel
theorem dX11_table_64 : decode cX11_table 64 = .ok (.getfield 297, 3) := by decide +kernel
theorem dX11_table_67 : decode cX11_table 67 = .ok (.iload_n 2, 1) := by decide +kernel
theorem dX11_table_68 : decode cX11_table 68 = .ok (.iload_n 3, 1) := by decide +kernel
theorem dX11_table_69 : decode cX11_table 69 = .ok (.iastore, 1) := by decide +kernel
theorem dX11_table_70 : decode cX11_table 70 = .ok (.aload_n 0, 1) := by decide +kernel
theorem dX11_table_71 : decode cX11_table 71 = .ok (.getfield 10, 3) := by decide +kernel
theorem dX11_table_74 : decode cX11_table 74 = .ok (.getfield 84, 3) := by decide +kernel
theorem dX11_table_77 : decode cX11_table 77 = .ok (.iload_n 1, 1) := by decide +kernel
theorem dX11_table_78 : decode cX11_table 78 = .ok (.aaload, 1) := by decide +kernel
theorem dX11_table_79 : decode cX11_table 79 = .ok (.getfield 300, 3) := by decide +kernel
theorem dX11_table_82 : decode cX11_table 82 = .ok (.iload_n 2, 1) := by decide +kernel
theorem dX11_table_83 : decode cX11_table 83 = .ok (.iload 4, 2) := by decide +kernel
theorem dX11_table_85 : decode cX11_table 85 = .ok (.iastore, 1) := by decide +kernel
theorem dX11_table_86 : decode cX11_table 86 = .ok (.aload_n 0, 1) := by decide +kernel
theorem dX11_table_87 : decode cX11_table 87 = .ok (.iconst 0, 1) := by decide +kernel
theorem dX11_table_88 : decode cX11_table 88 = .ok (.invokevirtual 73, 3) := by decide +kernel
theorem dX11_table_91 : decode cX11_table 91 = .ok (.ireturn, 1) := by decide +kernel
set_option maxRecDepth 20000 in
theorem ggX11_list_X11_within : GoodIn wsX11_list wsX11_within := goodIn_r _ [5] (by decide +kernel) (by decide +kernel)
set_option maxRecDepth 20000 in
theorem gX11_list_X11_within : GoodIn wsX11_list (va_wsS RX11 51 yX11_within wsX11_within) := goodIn_app (goodIn_of _ (by decide +kernel)) ggX11_list_X11_within
set_option maxRecDepth 20000 in
theorem ggX11_list_X11_refuse : GoodIn wsX11_list wsX11_refuse := goodIn_r _ [9, 10, 21, 22, 23, 24, 25, 26, 27] (by decide +kernel) (by decide +kernel)
set_option maxRecDepth 20000 in
theorem gX11_list_X11_refuse : GoodIn wsX11_list (wsV RX11 55 RX11 yX11_refuse wsX11_refuse) := goodIn_app (goodIn_of _ (by decide +kernel)) ggX11_list_X11_refuse
set_option maxRecDepth 20000 in
theorem ggX11_list_X10_hasShip : GoodIn wsX11_list wsX10_hasShip := goodIn_r _ [15, 16, 28, 29, 30, 31, 32, 33, 34, 35, 36, 37, 38, 39, 40, 41, 42, 43, 44, 45, 46] (by decide +kernel) (by decide +kernel)
set_option maxRecDepth 20000 in
theorem gX11_list_X10_hasShip : GoodIn wsX11_list (wsV RX11 108 RX10 yX10_hasShip wsX10_hasShip) := goodIn_app (goodIn_of _ (by decide +kernel)) ggX11_list_X10_hasShip
set_option maxRecDepth 20000 in
theorem ggX11_list_X11_accept : GoodIn wsX11_list wsX11_accept := goodIn_r _ [20, 10, 21, 22, 23, 24, 25, 26, 27] (by decide +kernel) (by decide +kernel)
set_option maxRecDepth 20000 in
theorem gX11_list_X11_accept : GoodIn wsX11_list (wsV RX11 73 RX11 yX11_accept wsX11_accept) := goodIn_app (goodIn_of _ (by decide +kernel)) ggX11_list_X11_accept
theorem dX11_list_0 : decode cX11_list 0 = .ok (.iload_n 2, 1) := by decide +kernel
theorem dX11_list_1 : decode cX11_list 1 = .ok (.bipush (-50), 2) := by decide +kernel
theorem dX11_list_3 : decode cX11_list 3 = .ok (.bipush 50, 2) := by decide +kernel
theorem dX11_list_5 : decode cX11_list 5 = .ok (.invokestatic 51, 3) := by decide +kernel
theorem dX11_list_8 : decode cX11_list 8 = .ok (.ifCond .ne 9, 3) := by decide +kernel
theorem dX11_list_11 : decode cX11_list 11 = .ok (.aload_n 0, 1) := by decide +kernel
theorem dX11_list_12 : decode cX11_list 12 = .ok (.iconst (-1), 1) := by decide +kernel
theorem dX11_list_13 : decode cX11_list 13 = .ok (.invokevirtual 55, 3) := by decide +kernel
theorem dX11_list_16 : decode cX11_list 16 = .ok (.ireturn, 1) := by decide +kernel
theorem dX11_list_17 : decode cX11_list 17 = .ok (.aload_n 0, 1) := by decide +kernel
theorem dX11_list_18 : decode cX11_list 18 = .ok (.getfield 10, 3) := by decide +kernel
theorem dX11_list_21 : decode cX11_list 21 = .ok (.iload_n 1, 1) := by decide +kernel
theorem dX11_list_22 : decode cX11_list 22 = .ok (.invokevirtual 108, 3) := by decide +kernel
theorem dX11_list_25 : decode cX11_list 25 = .ok (.ifCond .ne 10, 3) := by decide +kernel
theorem dX11_list_28 : decode cX11_list 28 = .ok (.aload_n 0, 1) := by decide +kernel
theorem dX11_list_29 : decode cX11_list 29 = .ok (.bipush (-2), 2) := by decide +kernel
theorem dX11_list_31 : decode cX11_list 31 = .ok (.invokevirtual 55, 3) := by decide +kernel
theorem dX11_list_34 : decode cX11_list 34 = .ok (.ireturn, 1) := by decide +kernel
theorem dX11_list_35 : decode cX11_list 35 = .ok (.aload_n 0, 1) := by decide +kernel
theorem dX11_list_36 : decode cX11_list 36 = .ok (.getfield 10, 3) := by decide +kernel
theorem dX11_list_39 : decode cX11_list 39 = .ok (.getfield 84, 3) := by decide +kernel
theorem dX11_list_42 : decode cX11_list 42 = .ok (.iload_n 1, 1) := by decide +kernel
theorem dX11_list_43 : decode cX11_list 43 = .ok (.aaload, 1) := by decide +kernel
theorem dX11_list_44 : decode cX11_list 44 = .ok (.getfield 303, 3) := by decide +kernel
theorem dX11_list_47 : decode cX11_list 47 = .ok (.istore_n 3, 1) := by decide +kernel
theorem dX11_list_48 : decode cX11_list 48 = .ok (.aload_n 0, 1) := by decide +kernel
theorem dX11_list_49 : decode cX11_list 49 = .ok (.getfield 10, 3) := by decide +kernel
theorem dX11_list_52 : decode cX11_list 52 = .ok (.getfield 84, 3) := by decide +kernel
theorem dX11_list_55 : decode cX11_list 55 = .ok (.iload_n 1, 1) := by decide +kernel
theorem dX11_list_56 : decode cX11_list 56 = .ok (.aaload, 1) := by decide +kernel
theorem dX11_list_57 : decode cX11_list 57 = .ok (.iload_n 2, 1) := by decide +kernel
theorem dX11_list_58 : decode cX11_list 58 = .ok (.putfield 303, 3) := by decide +kernel
theorem dX11_list_61 : decode cX11_list 61 = .ok (.aload_n 0, 1) := by decide +kernel
theorem dX11_list_62 : decode cX11_list 62 = .ok (.iload_n 3, 1) := by decide +kernel
theorem dX11_list_63 : decode cX11_list 63 = .ok (.invokevirtual 73, 3) := by decide +kernel
theorem dX11_list_66 : decode cX11_list 66 = .ok (.ireturn, 1) := by decide +kernel
set_option maxRecDepth 20000 in
theorem ggX11_reading_X11_within : GoodIn wsX11_reading wsX11_within := goodIn_r _ [5] (by decide +kernel) (by decide +kernel)
set_option maxRecDepth 20000 in
theorem gX11_reading_X11_within : GoodIn wsX11_reading (va_wsS RX11 51 yX11_within wsX11_within) := goodIn_app (goodIn_of _ (by decide +kernel)) ggX11_reading_X11_within
set_option maxRecDepth 20000 in
theorem ggX11_reading_X11_isHour : GoodIn wsX11_reading wsX11_isHour := goodIn_r _ [8, 2, 3, 4, 5] (by decide +kernel) (by decide +kernel)
set_option maxRecDepth 20000 in
theorem gX11_reading_X11_isHour : GoodIn wsX11_reading (va_wsS RX11 229 yX11_isHour wsX11_isHour) := goodIn_app (goodIn_of _ (by decide +kernel)) ggX11_reading_X11_isHour
set_option maxRecDepth 20000 in
theorem ggX11_reading_X11_refuse : GoodIn wsX11_reading wsX11_refuse := goodIn_r _ [12, 13, 42, 43, 44, 45, 46, 47, 48] (by decide +kernel) (by decide +kernel)
set_option maxRecDepth 20000 in
theorem gX11_reading_X11_refuse : GoodIn wsX11_reading (wsV RX11 55 RX11 yX11_refuse wsX11_refuse) := goodIn_app (goodIn_of _ (by decide +kernel)) ggX11_reading_X11_refuse
set_option maxRecDepth 20000 in
theorem ggX11_reading_X4_has : GoodIn wsX11_reading wsX4_has := goodIn_r _ [18, 19, 68, 69, 70] (by decide +kernel) (by decide +kernel)
set_option maxRecDepth 20000 in
theorem gX11_reading_X4_has : GoodIn wsX11_reading (wsV RX11 211 RX4 yX4_has wsX4_has) := goodIn_app (goodIn_of _ (by decide +kernel)) ggX11_reading_X4_has
set_option maxRecDepth 20000 in
theorem ggX11_reading_X4_addRow : GoodIn wsX11_reading wsX4_addRow := goodIn_r _ [23, 19, 24, 25, 26, 27, 28, 29, 30, 31, 32, 68, 69, 70] (by decide +kernel) (by decide +kernel)
set_option maxRecDepth 20000 in
theorem gX11_reading_X4_addRow : GoodIn wsX11_reading (wsV RX11 235 RX4 yX4_addRow wsX4_addRow) := goodIn_app (goodIn_of _ (by decide +kernel)) ggX11_reading_X4_addRow
set_option maxRecDepth 20000 in
theorem ggX11_reading_X4_set : GoodIn wsX11_reading wsX4_set := goodIn_r _ [36, 24, 25, 37, 15, 16, 17, 18, 19, 68, 69, 70] (by decide +kernel) (by decide +kernel)
set_option maxRecDepth 20000 in
theorem gX11_reading_X4_set : GoodIn wsX11_reading (wsV RX11 238 RX4 yX4_set wsX4_set) := goodIn_app (goodIn_of _ (by decide +kernel)) ggX11_reading_X4_set
set_option maxRecDepth 20000 in
theorem ggX11_reading_X11_accept : GoodIn wsX11_reading wsX11_accept := goodIn_r _ [41, 13, 42, 43, 44, 45, 46, 47, 48] (by decide +kernel) (by decide +kernel)
set_option maxRecDepth 20000 in
theorem gX11_reading_X11_accept : GoodIn wsX11_reading (wsV RX11 73 RX11 yX11_accept wsX11_accept) := goodIn_app (goodIn_of _ (by decide +kernel)) ggX11_reading_X11_accept
theorem dX11_reading_0 : decode cX11_reading 0 = .ok (.iload_n 2, 1) := by decide +kernel
theorem dX11_reading_1 : decode cX11_reading 1 = .ok (.iconst 0, 1) := by decide +kernel
theorem dX11_reading_2 : decode cX11_reading 2 = .ok (.iconst 1, 1) := by decide +kernel
theorem dX11_reading_3 : decode cX11_reading 3 = .ok (.invokestatic 51, 3) := by decide +kernel
theorem dX11_reading_6 : decode cX11_reading 6 = .ok (.ifCond .eq 34, 3) := by decide +kernel
theorem dX11_reading_9 : decode cX11_reading 9 = .ok (.iload_n 3, 1) := by decide +kernel
theorem dX11_reading_10 : decode cX11_reading 10 = .ok (.iconst 0, 1) := by decide +kernel
theorem dX11_reading_11 : decode cX11_reading 11 = .ok (.sipush 5000, 3) := by decide +kernel
theorem dX11_reading_14 : decode cX11_reading 14 = .ok (.invokestatic 51, 3) := by decide +kernel
theorem dX11_reading_17 : decode cX11_reading 17 = .ok (.ifCond .eq 23, 3) := by decide +kernel
theorem dX11_reading_20 : decode cX11_reading 20 = .ok (.iload 4, 2) := by decide +kernel
theorem dX11_reading_22 : decode cX11_reading 22 = .ok (.bipush (-20), 2) := by decide +kernel
theorem dX11_reading_24 : decode cX11_reading 24 = .ok (.bipush 20, 2) := by decide +kernel
theorem dX11_reading_26 : decode cX11_reading 26 = .ok (.invokestatic 51, 3) := by decide +kernel
theorem dX11_reading_29 : decode cX11_reading 29 = .ok (.ifCond .eq 11, 3) := by decide +kernel
theorem dX11_reading_32 : decode cX11_reading 32 = .ok (.iload 5, 2) := by decide +kernel
theorem dX11_reading_34 : decode cX11_reading 34 = .ok (.invokestatic 229, 3) := by decide +kernel
theorem dX11_reading_37 : decode cX11_reading 37 = .ok (.ifCond .ne 9, 3) := by decide +kernel
theorem dX11_reading_40 : decode cX11_reading 40 = .ok (.aload_n 0, 1) := by decide +kernel
theorem dX11_reading_41 : decode cX11_reading 41 = .ok (.iconst (-1), 1) := by decide +kernel
theorem dX11_reading_42 : decode cX11_reading 42 = .ok (.invokevirtual 55, 3) := by decide +kernel
theorem dX11_reading_45 : decode cX11_reading 45 = .ok (.ireturn, 1) := by decide +kernel
theorem dX11_reading_46 : decode cX11_reading 46 = .ok (.aload_n 0, 1) := by decide +kernel
theorem dX11_reading_47 : decode cX11_reading 47 = .ok (.getfield 10, 3) := by decide +kernel
theorem dX11_reading_50 : decode cX11_reading 50 = .ok (.getfield 207, 3) := by decide +kernel
theorem dX11_reading_53 : decode cX11_reading 53 = .ok (.iload_n 1, 1) := by decide +kernel
theorem dX11_reading_54 : decode cX11_reading 54 = .ok (.invokevirtual 211, 3) := by decide +kernel
theorem dX11_reading_57 : decode cX11_reading 57 = .ok (.ifCond .ne 10, 3) := by decide +kernel
theorem dX11_reading_60 : decode cX11_reading 60 = .ok (.aload_n 0, 1) := by decide +kernel
theorem dX11_reading_61 : decode cX11_reading 61 = .ok (.bipush (-2), 2) := by decide +kernel
theorem dX11_reading_63 : decode cX11_reading 63 = .ok (.invokevirtual 55, 3) := by decide +kernel
theorem dX11_reading_66 : decode cX11_reading 66 = .ok (.ireturn, 1) := by decide +kernel
theorem dX11_reading_67 : decode cX11_reading 67 = .ok (.aload_n 0, 1) := by decide +kernel
theorem dX11_reading_68 : decode cX11_reading 68 = .ok (.getfield 10, 3) := by decide +kernel
theorem dX11_reading_71 : decode cX11_reading 71 = .ok (.getfield 306, 3) := by decide +kernel
theorem dX11_reading_74 : decode cX11_reading 74 = .ok (.invokevirtual 235, 3) := by decide +kernel
theorem dX11_reading_77 : decode cX11_reading 77 = .ok (.istore 6, 2) := by decide +kernel
theorem dX11_reading_79 : decode cX11_reading 79 = .ok (.iload 6, 2) := by decide +kernel
theorem dX11_reading_81 : decode cX11_reading 81 = .ok (.iconst (-1), 1) := by decide +kernel
theorem dX11_reading_82 : decode cX11_reading 82 = .ok (.if_icmp .ne 10, 3) := by decide +kernel
theorem dX11_reading_85 : decode cX11_reading 85 = .ok (.aload_n 0, 1) := by decide +kernel
theorem dX11_reading_86 : decode cX11_reading 86 = .ok (.bipush (-5), 2) := by decide +kernel
theorem dX11_reading_88 : decode cX11_reading 88 = .ok (.invokevirtual 55, 3) := by decide +kernel
theorem dX11_reading_91 : decode cX11_reading 91 = .ok (.ireturn, 1) := by decide +kernel
theorem dX11_reading_92 : decode cX11_reading 92 = .ok (.aload_n 0, 1) := by decide +kernel
theorem dX11_reading_93 : decode cX11_reading 93 = .ok (.getfield 10, 3) := by decide +kernel
theorem dX11_reading_96 : decode cX11_reading 96 = .ok (.getfield 306, 3) := by decide +kernel
theorem dX11_reading_99 : decode cX11_reading 99 = .ok (.iload 6, 2) := by decide +kernel
theorem dX11_reading_101 : decode cX11_reading 101 = .ok (.iconst 0, 1) := by decide +kernel
theorem dX11_reading_102 : decode cX11_reading 102 = .ok (.iload_n 1, 1) := by decide +kernel
theorem dX11_reading_103 : decode cX11_reading 103 = .ok (.i2l, 1) := by decide +kernel
theorem dX11_reading_104 : decode cX11_reading 104 = .ok (.invokevirtual 238, 3) := by decide +kernel
theorem dX11_reading_107 : decode cX11_reading 107 = .ok (.aload_n 0, 1) := by decide +kernel
theorem dX11_reading_108 : decode cX11_reading 108 = .ok (.getfield 10, 3) := by decide +kernel
theorem dX11_reading_111 : decode cX11_reading 111 = .ok (.getfield 306, 3) := by decide +kernel
theorem dX11_reading_114 : decode cX11_reading 114 = .ok (.iload 6, 2) := by decide +kernel
theorem dX11_reading_116 : decode cX11_reading 116 = .ok (.iconst 1, 1) := by decide +kernel
theorem dX11_reading_117 : decode cX11_reading 117 = .ok (.iload_n 2, 1) := by decide +kernel
theorem dX11_reading_118 : decode cX11_reading 118 = .ok (.i2l, 1) := by decide +kernel
theorem dX11_reading_119 : decode cX11_reading 119 = .ok (.invokevirtual 238, 3) := by decide +kernel
theorem dX11_reading_122 : decode cX11_reading 122 = .ok (.aload_n 0, 1) := by decide +kernel
theorem dX11_reading_123 : decode cX11_reading 123 = .ok (.getfield 10, 3) := by decide +kernel
theorem dX11_reading_126 : decode cX11_reading 126 = .ok (.getfield 306, 3) := by decide +kernel
theorem dX11_reading_129 : decode cX11_reading 129 = .ok (.iload 6, 2) := by decide +kernel
theorem dX11_reading_131 : decode cX11_reading 131 = .ok (.iconst 2, 1) := by decide +kernel
theorem dX11_reading_132 : decode cX11_reading 132 = .ok (.iload_n 3, 1) := by decide +kernel
theorem dX11_reading_133 : decode cX11_reading 133 = .ok (.i2l, 1) := by decide +kernel
theorem dX11_reading_134 : decode cX11_reading 134 = .ok (.invokevirtual 238, 3) := by decide +kernel
theorem dX11_reading_137 : decode cX11_reading 137 = .ok (.aload_n 0, 1) := by decide +kernel
theorem dX11_reading_138 : decode cX11_reading 138 = .ok (.getfield 10, 3) := by decide +kernel
theorem dX11_reading_141 : decode cX11_reading 141 = .ok (.getfield 306, 3) := by decide +kernel
theorem dX11_reading_144 : decode cX11_reading 144 = .ok (.iload 6, 2) := by decide +kernel
theorem dX11_reading_146 : decode cX11_reading 146 = .ok (.iconst 3, 1) := by decide +kernel
theorem dX11_reading_147 : decode cX11_reading 147 = .ok (.iload 4, 2) := by decide +kernel
theorem dX11_reading_149 : decode cX11_reading 149 = .ok (.i2l, 1) := by decide +kernel
theorem dX11_reading_150 : decode cX11_reading 150 = .ok (.invokevirtual 238, 3) := by decide +kernel
theorem dX11_reading_153 : decode cX11_reading 153 = .ok (.aload_n 0, 1) := by decide +kernel
theorem dX11_reading_154 : decode cX11_reading 154 = .ok (.getfield 10, 3) := by decide +kernel
theorem dX11_reading_157 : decode cX11_reading 157 = .ok (.getfield 306, 3) := by decide +kernel
theorem dX11_reading_160 : decode cX11_reading 160 = .ok (.iload 6, 2) := by decide +kernel
theorem dX11_reading_162 : decode cX11_reading 162 = .ok (.iconst 4, 1) := by decide +kernel
theorem dX11_reading_163 : decode cX11_reading 163 = .ok (.iload 5, 2) := by decide +kernel
theorem dX11_reading_165 : decode cX11_reading 165 = .ok (.i2l, 1) := by decide +kernel
theorem dX11_reading_166 : decode cX11_reading 166 = .ok (.invokevirtual 238, 3) := by decide +kernel
theorem dX11_reading_169 : decode cX11_reading 169 = .ok (.aload_n 0, 1) := by decide +kernel
theorem dX11_reading_170 : decode cX11_reading 170 = .ok (.aload_n 0, 1) := by decide +kernel
theorem dX11_reading_171 : decode cX11_reading 171 = .ok (.getfield 10, 3) := by decide +kernel
theorem dX11_reading_174 : decode cX11_reading 174 = .ok (.getfield 306, 3) := by decide +kernel
theorem dX11_reading_177 : decode cX11_reading 177 = .ok (.getfield 242, 3) := by decide +kernel
theorem dX11_reading_180 : decode cX11_reading 180 = .ok (.invokevirtual 73, 3) := by decide +kernel
theorem dX11_reading_183 : decode cX11_reading 183 = .ok (.ireturn, 1) := by decide +kernel
set_option maxRecDepth 20000 in
theorem ggX11_gauged_X4_has : GoodIn wsX11_gauged wsX4_has := goodIn_r _ [8, 9, 101, 102, 103] (by decide +kernel) (by decide +kernel)
set_option maxRecDepth 20000 in
theorem gX11_gauged_X4_has : GoodIn wsX11_gauged (wsV RX11 211 RX4 yX4_has wsX4_has) := goodIn_app (goodIn_of _ (by decide +kernel)) ggX11_gauged_X4_has
set_option maxRecDepth 20000 in
theorem ggX11_gauged_X11_isHour : GoodIn wsX11_gauged wsX11_isHour := goodIn_r _ [13, 14, 15, 12, 16] (by decide +kernel) (by decide +kernel)
set_option maxRecDepth 20000 in
theorem gX11_gauged_X11_isHour : GoodIn wsX11_gauged (va_wsS RX11 229 yX11_isHour wsX11_isHour) := goodIn_app (goodIn_of _ (by decide +kernel)) ggX11_gauged_X11_isHour
set_option maxRecDepth 20000 in
theorem ggX11_gauged_X3_tonsRead : GoodIn wsX11_gauged wsX3_tonsRead := goodIn_r _ [21, 22, 23, 24, 25, 26, 7, 27, 28, 29, 30, 31, 9, 32, 33, 34, 35, 36, 37, 38, 39, 40, 41, 42, 43, 44, 45, 46, 47, 48, 49, 50, 51, 104, 105, 106, 107, 108, 109, 82, 83, 84, 85, 86, 87, 88, 89, 90, 91, 92, 93, 94, 95, 96, 97, 98, 99, 100, 101, 102, 103, 110, 111, 112, 113, 114, 115, 116, 117, 118, 119, 120, 121, 122, 123, 124, 125, 126] (by decide +kernel) (by decide +kernel)
set_option maxRecDepth 20000 in
theorem gX11_gauged_X3_tonsRead : GoodIn wsX11_gauged (wsV RX11 309 RX3 yX3_tonsRead wsX3_tonsRead) := goodIn_app (goodIn_of _ (by decide +kernel)) ggX11_gauged_X3_tonsRead
set_option maxRecDepth 20000 in
theorem ggX11_gauged_X3_tonsGauged : GoodIn wsX11_gauged wsX3_tonsGauged := goodIn_r _ [55, 23, 56, 18, 19, 20, 21, 22, 24, 25, 26, 7, 27, 28, 29, 30, 31, 9, 32, 33, 34, 35, 36, 37, 38, 39, 40, 41, 42, 43, 44, 45, 46, 47, 48, 49, 50, 51, 104, 105, 106, 107, 108, 109, 82, 83, 84, 85, 86, 87, 88, 89, 90, 91, 92, 93, 94, 95, 96, 97, 98, 99, 100, 101, 102, 103, 110, 111, 112, 113, 114, 115, 116, 117, 118, 119, 120, 121, 122, 123, 124, 125, 126] (by decide +kernel) (by decide +kernel)
set_option maxRecDepth 20000 in
theorem gX11_gauged_X3_tonsGauged : GoodIn wsX11_gauged (wsV RX11 313 RX3 yX3_tonsGauged wsX3_tonsGauged) := goodIn_app (goodIn_of _ (by decide +kernel)) ggX11_gauged_X3_tonsGauged
set_option maxRecDepth 20000 in
theorem ggX11_gauged_X3_claimOf : GoodIn wsX11_gauged wsX3_claimOf := goodIn_r _ [60, 23, 22, 61, 53, 54, 20, 55, 56, 18, 19, 21, 24, 25, 26, 7, 27, 28, 29, 30, 31, 9, 32, 33, 34, 35, 36, 37, 38, 39, 40, 41, 42, 43, 44, 45, 46, 47, 48, 49, 50, 51, 62, 63, 64, 65, 66, 67, 68, 69, 70, 71, 72, 73, 74, 104, 105, 106, 107, 108, 109, 82, 83, 84, 85, 86, 87, 88, 89, 90, 91, 92, 93, 94, 95, 96, 97, 98, 99, 100, 101, 102, 103, 110, 111, 112, 113, 114, 115, 116, 117, 118, 119, 120, 121, 122, 123, 124, 125, 126] (by decide +kernel) (by decide +kernel)
set_option maxRecDepth 20000 in
theorem gX11_gauged_X3_claimOf : GoodIn wsX11_gauged (wsV RX11 316 RX3 yX3_claimOf wsX3_claimOf) := goodIn_app (goodIn_of _ (by decide +kernel)) ggX11_gauged_X3_claimOf
theorem dX11_gauged_0 : decode cX11_gauged 0 = .ok (.aload_n 0, 1) := by decide +kernel
theorem dX11_gauged_1 : decode cX11_gauged 1 = .ok (.getfield 10, 3) := by decide +kernel
theorem dX11_gauged_4 : decode cX11_gauged 4 = .ok (.getfield 207, 3) := by decide +kernel
theorem dX11_gauged_7 : decode cX11_gauged 7 = .ok (.iload_n 1, 1) := by decide +kernel
theorem dX11_gauged_8 : decode cX11_gauged 8 = .ok (.invokevirtual 211, 3) := by decide +kernel
theorem dX11_gauged_11 : decode cX11_gauged 11 = .ok (.ifCond .eq 10, 3) := by decide +kernel
theorem dX11_gauged_14 : decode cX11_gauged 14 = .ok (.iload_n 2, 1) := by decide +kernel
theorem dX11_gauged_15 : decode cX11_gauged 15 = .ok (.invokestatic 229, 3) := by decide +kernel
theorem dX11_gauged_18 : decode cX11_gauged 18 = .ok (.ifCond .ne 7, 3) := by decide +kernel
theorem dX11_gauged_21 : decode cX11_gauged 21 = .ok (.ldc2_w 281, 3) := by decide +kernel
theorem dX11_gauged_24 : decode cX11_gauged 24 = .ok (.lreturn, 1) := by decide +kernel
theorem dX11_gauged_25 : decode cX11_gauged 25 = .ok (.iload_n 3, 1) := by decide +kernel
theorem dX11_gauged_26 : decode cX11_gauged 26 = .ok (.tableswitch 72 0 3 #[30, 41, 52, 62], 30) := by decide +kernel
theorem dX11_gauged_56 : decode cX11_gauged 56 = .ok (.aload_n 0, 1) := by decide +kernel
theorem dX11_gauged_57 : decode cX11_gauged 57 = .ok (.getfield 39, 3) := by decide +kernel
theorem dX11_gauged_60 : decode cX11_gauged 60 = .ok (.iload_n 1, 1) := by decide +kernel
theorem dX11_gauged_61 : decode cX11_gauged 61 = .ok (.iconst 0, 1) := by decide +kernel
theorem dX11_gauged_62 : decode cX11_gauged 62 = .ok (.iload_n 2, 1) := by decide +kernel
theorem dX11_gauged_63 : decode cX11_gauged 63 = .ok (.invokevirtual 309, 3) := by decide +kernel
theorem dX11_gauged_66 : decode cX11_gauged 66 = .ok (.lreturn, 1) := by decide +kernel
theorem dX11_gauged_67 : decode cX11_gauged 67 = .ok (.aload_n 0, 1) := by decide +kernel
theorem dX11_gauged_68 : decode cX11_gauged 68 = .ok (.getfield 39, 3) := by decide +kernel
theorem dX11_gauged_71 : decode cX11_gauged 71 = .ok (.iload_n 1, 1) := by decide +kernel
theorem dX11_gauged_72 : decode cX11_gauged 72 = .ok (.iconst 1, 1) := by decide +kernel
theorem dX11_gauged_73 : decode cX11_gauged 73 = .ok (.iload_n 2, 1) := by decide +kernel
theorem dX11_gauged_74 : decode cX11_gauged 74 = .ok (.invokevirtual 309, 3) := by decide +kernel
theorem dX11_gauged_77 : decode cX11_gauged 77 = .ok (.lreturn, 1) := by decide +kernel
theorem dX11_gauged_78 : decode cX11_gauged 78 = .ok (.aload_n 0, 1) := by decide +kernel
theorem dX11_gauged_79 : decode cX11_gauged 79 = .ok (.getfield 39, 3) := by decide +kernel
theorem dX11_gauged_82 : decode cX11_gauged 82 = .ok (.iload_n 1, 1) := by decide +kernel
theorem dX11_gauged_83 : decode cX11_gauged 83 = .ok (.iload_n 2, 1) := by decide +kernel
theorem dX11_gauged_84 : decode cX11_gauged 84 = .ok (.invokevirtual 313, 3) := by decide +kernel
theorem dX11_gauged_87 : decode cX11_gauged 87 = .ok (.lreturn, 1) := by decide +kernel
theorem dX11_gauged_88 : decode cX11_gauged 88 = .ok (.aload_n 0, 1) := by decide +kernel
theorem dX11_gauged_89 : decode cX11_gauged 89 = .ok (.getfield 39, 3) := by decide +kernel
theorem dX11_gauged_92 : decode cX11_gauged 92 = .ok (.iload_n 1, 1) := by decide +kernel
theorem dX11_gauged_93 : decode cX11_gauged 93 = .ok (.iload_n 2, 1) := by decide +kernel
theorem dX11_gauged_94 : decode cX11_gauged 94 = .ok (.invokevirtual 316, 3) := by decide +kernel
theorem dX11_gauged_97 : decode cX11_gauged 97 = .ok (.lreturn, 1) := by decide +kernel
theorem dX11_gauged_98 : decode cX11_gauged 98 = .ok (.ldc2_w 281, 3) := by decide +kernel
theorem dX11_gauged_101 : decode cX11_gauged 101 = .ok (.lreturn, 1) := by decide +kernel
set_option maxRecDepth 20000 in
theorem ggX11_cargo_X11_isSpan : GoodIn wsX11_cargo wsX11_isSpan := goodIn_r _ [6, 7, 8, 5, 9, 10, 11, 12] (by decide +kernel) (by decide +kernel)
set_option maxRecDepth 20000 in
theorem gX11_cargo_X11_isSpan : GoodIn wsX11_cargo (va_wsS RX11 104 yX11_isSpan wsX11_isSpan) := goodIn_app (goodIn_of _ (by decide +kernel)) ggX11_cargo_X11_isSpan
set_option maxRecDepth 20000 in
theorem ggX11_cargo_X11_within : GoodIn wsX11_cargo wsX11_within := goodIn_r _ [12] (by decide +kernel) (by decide +kernel)
set_option maxRecDepth 20000 in
theorem gX11_cargo_X11_within : GoodIn wsX11_cargo (va_wsS RX11 51 yX11_within wsX11_within) := goodIn_app (goodIn_of _ (by decide +kernel)) ggX11_cargo_X11_within
set_option maxRecDepth 20000 in
theorem ggX11_cargo_X11_refuse : GoodIn wsX11_cargo wsX11_refuse := goodIn_r _ [16, 17, 51, 52, 53, 54, 55, 56, 57] (by decide +kernel) (by decide +kernel)
set_option maxRecDepth 20000 in
theorem gX11_cargo_X11_refuse : GoodIn wsX11_cargo (wsV RX11 55 RX11 yX11_refuse wsX11_refuse) := goodIn_app (goodIn_of _ (by decide +kernel)) ggX11_cargo_X11_refuse
set_option maxRecDepth 20000 in
theorem ggX11_cargo_X10_hasTerminal : GoodIn wsX11_cargo wsX10_hasTerminal := goodIn_r _ [22, 23, 58, 59, 60, 61, 62, 63, 64, 65, 66, 67, 68, 69, 70, 71, 72, 73, 74, 75, 76] (by decide +kernel) (by decide +kernel)
set_option maxRecDepth 20000 in
theorem gX11_cargo_X10_hasTerminal : GoodIn wsX11_cargo (wsV RX11 77 RX10 yX10_hasTerminal wsX10_hasTerminal) := goodIn_app (goodIn_of _ (by decide +kernel)) ggX11_cargo_X10_hasTerminal
set_option maxRecDepth 20000 in
theorem ggX11_cargo_X4_addRow : GoodIn wsX11_cargo wsX4_addRow := goodIn_r _ [28, 29, 30, 31, 32, 33, 34, 35, 36, 37, 38, 77, 78, 79] (by decide +kernel) (by decide +kernel)
set_option maxRecDepth 20000 in
theorem gX11_cargo_X4_addRow : GoodIn wsX11_cargo (wsV RX11 235 RX4 yX4_addRow wsX4_addRow) := goodIn_app (goodIn_of _ (by decide +kernel)) ggX11_cargo_X4_addRow
set_option maxRecDepth 20000 in
theorem ggX11_cargo_X4_set : GoodIn wsX11_cargo wsX4_set := goodIn_r _ [42, 30, 31, 43, 44, 45, 27, 46, 29, 77, 78, 79] (by decide +kernel) (by decide +kernel)
set_option maxRecDepth 20000 in
theorem gX11_cargo_X4_set : GoodIn wsX11_cargo (wsV RX11 238 RX4 yX4_set wsX4_set) := goodIn_app (goodIn_of _ (by decide +kernel)) ggX11_cargo_X4_set
set_option maxRecDepth 20000 in
theorem ggX11_cargo_X11_accept : GoodIn wsX11_cargo wsX11_accept := goodIn_r _ [50, 17, 51, 52, 53, 54, 55, 56, 57] (by decide +kernel) (by decide +kernel)
set_option maxRecDepth 20000 in
theorem gX11_cargo_X11_accept : GoodIn wsX11_cargo (wsV RX11 73 RX11 yX11_accept wsX11_accept) := goodIn_app (goodIn_of _ (by decide +kernel)) ggX11_cargo_X11_accept
theorem dX11_cargo_0 : decode cX11_cargo 0 = .ok (.iload_n 3, 1) := by decide +kernel
theorem dX11_cargo_1 : decode cX11_cargo 1 = .ok (.iload 4, 2) := by decide +kernel
theorem dX11_cargo_3 : decode cX11_cargo 3 = .ok (.invokestatic 104, 3) := by decide +kernel
theorem dX11_cargo_6 : decode cX11_cargo 6 = .ok (.ifCond .eq 36, 3) := by decide +kernel
theorem dX11_cargo_9 : decode cX11_cargo 9 = .ok (.iload 5, 2) := by decide +kernel
theorem dX11_cargo_11 : decode cX11_cargo 11 = .ok (.iload 6, 2) := by decide +kernel
theorem dX11_cargo_13 : decode cX11_cargo 13 = .ok (.invokestatic 104, 3) := by decide +kernel
theorem dX11_cargo_16 : decode cX11_cargo 16 = .ok (.ifCond .eq 26, 3) := by decide +kernel
theorem dX11_cargo_19 : decode cX11_cargo 19 = .ok (.iload 7, 2) := by decide +kernel
theorem dX11_cargo_21 : decode cX11_cargo 21 = .ok (.iconst 1, 1) := by decide +kernel
theorem dX11_cargo_22 : decode cX11_cargo 22 = .ok (.ldc 76, 2) := by decide +kernel
theorem dX11_cargo_24 : decode cX11_cargo 24 = .ok (.invokestatic 51, 3) := by decide +kernel
theorem dX11_cargo_27 : decode cX11_cargo 27 = .ok (.ifCond .eq 15, 3) := by decide +kernel
theorem dX11_cargo_30 : decode cX11_cargo 30 = .ok (.iload 8, 2) := by decide +kernel
theorem dX11_cargo_32 : decode cX11_cargo 32 = .ok (.iconst 0, 1) := by decide +kernel
theorem dX11_cargo_33 : decode cX11_cargo 33 = .ok (.sipush 1000, 3) := by decide +kernel
theorem dX11_cargo_36 : decode cX11_cargo 36 = .ok (.invokestatic 51, 3) := by decide +kernel
theorem dX11_cargo_39 : decode cX11_cargo 39 = .ok (.ifCond .ne 9, 3) := by decide +kernel
theorem dX11_cargo_42 : decode cX11_cargo 42 = .ok (.aload_n 0, 1) := by decide +kernel
theorem dX11_cargo_43 : decode cX11_cargo 43 = .ok (.iconst (-1), 1) := by decide +kernel
theorem dX11_cargo_44 : decode cX11_cargo 44 = .ok (.invokevirtual 55, 3) := by decide +kernel
theorem dX11_cargo_47 : decode cX11_cargo 47 = .ok (.ireturn, 1) := by decide +kernel
theorem dX11_cargo_48 : decode cX11_cargo 48 = .ok (.aload_n 0, 1) := by decide +kernel
theorem dX11_cargo_49 : decode cX11_cargo 49 = .ok (.getfield 10, 3) := by decide +kernel
theorem dX11_cargo_52 : decode cX11_cargo 52 = .ok (.iload_n 1, 1) := by decide +kernel
theorem dX11_cargo_53 : decode cX11_cargo 53 = .ok (.invokevirtual 77, 3) := by decide +kernel
theorem dX11_cargo_56 : decode cX11_cargo 56 = .ok (.ifCond .eq 14, 3) := by decide +kernel
theorem dX11_cargo_59 : decode cX11_cargo 59 = .ok (.aload_n 0, 1) := by decide +kernel
theorem dX11_cargo_60 : decode cX11_cargo 60 = .ok (.getfield 10, 3) := by decide +kernel
theorem dX11_cargo_63 : decode cX11_cargo 63 = .ok (.iload_n 2, 1) := by decide +kernel
theorem dX11_cargo_64 : decode cX11_cargo 64 = .ok (.invokevirtual 77, 3) := by decide +kernel
theorem dX11_cargo_67 : decode cX11_cargo 67 = .ok (.ifCond .ne 10, 3) := by decide +kernel
theorem dX11_cargo_70 : decode cX11_cargo 70 = .ok (.aload_n 0, 1) := by decide +kernel
theorem dX11_cargo_71 : decode cX11_cargo 71 = .ok (.bipush (-2), 2) := by decide +kernel
theorem dX11_cargo_73 : decode cX11_cargo 73 = .ok (.invokevirtual 55, 3) := by decide +kernel
theorem dX11_cargo_76 : decode cX11_cargo 76 = .ok (.ireturn, 1) := by decide +kernel
theorem dX11_cargo_77 : decode cX11_cargo 77 = .ok (.iload_n 1, 1) := by decide +kernel
theorem dX11_cargo_78 : decode cX11_cargo 78 = .ok (.iload_n 2, 1) := by decide +kernel
theorem dX11_cargo_79 : decode cX11_cargo 79 = .ok (.if_icmp .ne 10, 3) := by decide +kernel
theorem dX11_cargo_82 : decode cX11_cargo 82 = .ok (.aload_n 0, 1) := by decide +kernel
theorem dX11_cargo_83 : decode cX11_cargo 83 = .ok (.bipush (-3), 2) := by decide +kernel
theorem dX11_cargo_85 : decode cX11_cargo 85 = .ok (.invokevirtual 55, 3) := by decide +kernel
theorem dX11_cargo_88 : decode cX11_cargo 88 = .ok (.ireturn, 1) := by decide +kernel
theorem dX11_cargo_89 : decode cX11_cargo 89 = .ok (.aload_n 0, 1) := by decide +kernel
theorem dX11_cargo_90 : decode cX11_cargo 90 = .ok (.getfield 10, 3) := by decide +kernel
theorem dX11_cargo_93 : decode cX11_cargo 93 = .ok (.getfield 319, 3) := by decide +kernel
theorem dX11_cargo_96 : decode cX11_cargo 96 = .ok (.invokevirtual 235, 3) := by decide +kernel
theorem dX11_cargo_99 : decode cX11_cargo 99 = .ok (.istore 9, 2) := by decide +kernel
theorem dX11_cargo_101 : decode cX11_cargo 101 = .ok (.iload 9, 2) := by decide +kernel
theorem dX11_cargo_103 : decode cX11_cargo 103 = .ok (.iconst (-1), 1) := by decide +kernel
theorem dX11_cargo_104 : decode cX11_cargo 104 = .ok (.if_icmp .ne 10, 3) := by decide +kernel
theorem dX11_cargo_107 : decode cX11_cargo 107 = .ok (.aload_n 0, 1) := by decide +kernel
theorem dX11_cargo_108 : decode cX11_cargo 108 = .ok (.bipush (-5), 2) := by decide +kernel
theorem dX11_cargo_110 : decode cX11_cargo 110 = .ok (.invokevirtual 55, 3) := by decide +kernel
theorem dX11_cargo_113 : decode cX11_cargo 113 = .ok (.ireturn, 1) := by decide +kernel
theorem dX11_cargo_114 : decode cX11_cargo 114 = .ok (.aload_n 0, 1) := by decide +kernel
theorem dX11_cargo_115 : decode cX11_cargo 115 = .ok (.getfield 10, 3) := by decide +kernel
theorem dX11_cargo_118 : decode cX11_cargo 118 = .ok (.getfield 319, 3) := by decide +kernel
theorem dX11_cargo_121 : decode cX11_cargo 121 = .ok (.iload 9, 2) := by decide +kernel
theorem dX11_cargo_123 : decode cX11_cargo 123 = .ok (.iconst 0, 1) := by decide +kernel
theorem dX11_cargo_124 : decode cX11_cargo 124 = .ok (.iload_n 1, 1) := by decide +kernel
theorem dX11_cargo_125 : decode cX11_cargo 125 = .ok (.i2l, 1) := by decide +kernel
theorem dX11_cargo_126 : decode cX11_cargo 126 = .ok (.invokevirtual 238, 3) := by decide +kernel
theorem dX11_cargo_129 : decode cX11_cargo 129 = .ok (.aload_n 0, 1) := by decide +kernel
theorem dX11_cargo_130 : decode cX11_cargo 130 = .ok (.getfield 10, 3) := by decide +kernel
theorem dX11_cargo_133 : decode cX11_cargo 133 = .ok (.getfield 319, 3) := by decide +kernel
theorem dX11_cargo_136 : decode cX11_cargo 136 = .ok (.iload 9, 2) := by decide +kernel
theorem dX11_cargo_138 : decode cX11_cargo 138 = .ok (.iconst 1, 1) := by decide +kernel
theorem dX11_cargo_139 : decode cX11_cargo 139 = .ok (.iload_n 2, 1) := by decide +kernel
theorem dX11_cargo_140 : decode cX11_cargo 140 = .ok (.i2l, 1) := by decide +kernel
theorem dX11_cargo_141 : decode cX11_cargo 141 = .ok (.invokevirtual 238, 3) := by decide +kernel
theorem dX11_cargo_144 : decode cX11_cargo 144 = .ok (.aload_n 0, 1) := by decide +kernel
theorem dX11_cargo_145 : decode cX11_cargo 145 = .ok (.getfield 10, 3) := by decide +kernel
theorem dX11_cargo_148 : decode cX11_cargo 148 = .ok (.getfield 319, 3) := by decide +kernel
theorem dX11_cargo_151 : decode cX11_cargo 151 = .ok (.iload 9, 2) := by decide +kernel
theorem dX11_cargo_153 : decode cX11_cargo 153 = .ok (.iconst 2, 1) := by decide +kernel
theorem dX11_cargo_154 : decode cX11_cargo 154 = .ok (.iload_n 3, 1) := by decide +kernel
theorem dX11_cargo_155 : decode cX11_cargo 155 = .ok (.i2l, 1) := by decide +kernel
theorem dX11_cargo_156 : decode cX11_cargo 156 = .ok (.invokevirtual 238, 3) := by decide +kernel
theorem dX11_cargo_159 : decode cX11_cargo 159 = .ok (.aload_n 0, 1) := by decide +kernel
theorem dX11_cargo_160 : decode cX11_cargo 160 = .ok (.getfield 10, 3) := by decide +kernel
theorem dX11_cargo_163 : decode cX11_cargo 163 = .ok (.getfield 319, 3) := by decide +kernel
theorem dX11_cargo_166 : decode cX11_cargo 166 = .ok (.iload 9, 2) := by decide +kernel
theorem dX11_cargo_168 : decode cX11_cargo 168 = .ok (.iconst 3, 1) := by decide +kernel
theorem dX11_cargo_169 : decode cX11_cargo 169 = .ok (.iload 4, 2) := by decide +kernel
theorem dX11_cargo_171 : decode cX11_cargo 171 = .ok (.i2l, 1) := by decide +kernel
theorem dX11_cargo_172 : decode cX11_cargo 172 = .ok (.invokevirtual 238, 3) := by decide +kernel
theorem dX11_cargo_175 : decode cX11_cargo 175 = .ok (.aload_n 0, 1) := by decide +kernel
theorem dX11_cargo_176 : decode cX11_cargo 176 = .ok (.getfield 10, 3) := by decide +kernel
theorem dX11_cargo_179 : decode cX11_cargo 179 = .ok (.getfield 319, 3) := by decide +kernel
theorem dX11_cargo_182 : decode cX11_cargo 182 = .ok (.iload 9, 2) := by decide +kernel
theorem dX11_cargo_184 : decode cX11_cargo 184 = .ok (.iconst 4, 1) := by decide +kernel
theorem dX11_cargo_185 : decode cX11_cargo 185 = .ok (.iload 5, 2) := by decide +kernel
theorem dX11_cargo_187 : decode cX11_cargo 187 = .ok (.i2l, 1) := by decide +kernel
theorem dX11_cargo_188 : decode cX11_cargo 188 = .ok (.invokevirtual 238, 3) := by decide +kernel
theorem dX11_cargo_191 : decode cX11_cargo 191 = .ok (.aload_n 0, 1) := by decide +kernel
theorem dX11_cargo_192 : decode cX11_cargo 192 = .ok (.getfield 10, 3) := by decide +kernel
theorem dX11_cargo_195 : decode cX11_cargo 195 = .ok (.getfield 319, 3) := by decide +kernel
theorem dX11_cargo_198 : decode cX11_cargo 198 = .ok (.iload 9, 2) := by decide +kernel
theorem dX11_cargo_200 : decode cX11_cargo 200 = .ok (.iconst 5, 1) := by decide +kernel
theorem dX11_cargo_201 : decode cX11_cargo 201 = .ok (.iload 6, 2) := by decide +kernel
theorem dX11_cargo_203 : decode cX11_cargo 203 = .ok (.i2l, 1) := by decide +kernel
theorem dX11_cargo_204 : decode cX11_cargo 204 = .ok (.invokevirtual 238, 3) := by decide +kernel
theorem dX11_cargo_207 : decode cX11_cargo 207 = .ok (.aload_n 0, 1) := by decide +kernel
theorem dX11_cargo_208 : decode cX11_cargo 208 = .ok (.getfield 10, 3) := by decide +kernel
theorem dX11_cargo_211 : decode cX11_cargo 211 = .ok (.getfield 319, 3) := by decide +kernel
theorem dX11_cargo_214 : decode cX11_cargo 214 = .ok (.iload 9, 2) := by decide +kernel
theorem dX11_cargo_216 : decode cX11_cargo 216 = .ok (.bipush 6, 2) := by decide +kernel
theorem dX11_cargo_218 : decode cX11_cargo 218 = .ok (.iload 7, 2) := by decide +kernel
theorem dX11_cargo_220 : decode cX11_cargo 220 = .ok (.i2l, 1) := by decide +kernel
theorem dX11_cargo_221 : decode cX11_cargo 221 = .ok (.invokevirtual 238, 3) := by decide +kernel
theorem dX11_cargo_224 : decode cX11_cargo 224 = .ok (.aload_n 0, 1) := by decide +kernel
theorem dX11_cargo_225 : decode cX11_cargo 225 = .ok (.getfield 10, 3) := by decide +kernel
theorem dX11_cargo_228 : decode cX11_cargo 228 = .ok (.getfield 319, 3) := by decide +kernel
theorem dX11_cargo_231 : decode cX11_cargo 231 = .ok (.iload 9, 2) := by decide +kernel
theorem dX11_cargo_233 : decode cX11_cargo 233 = .ok (.bipush 7, 2) := by decide +kernel
theorem dX11_cargo_235 : decode cX11_cargo 235 = .ok (.iload 8, 2) := by decide +kernel
theorem dX11_cargo_237 : decode cX11_cargo 237 = .ok (.i2l, 1) := by decide +kernel
theorem dX11_cargo_238 : decode cX11_cargo 238 = .ok (.invokevirtual 238, 3) := by decide +kernel
theorem dX11_cargo_241 : decode cX11_cargo 241 = .ok (.aload_n 0, 1) := by decide +kernel
theorem dX11_cargo_242 : decode cX11_cargo 242 = .ok (.aload_n 0, 1) := by decide +kernel
theorem dX11_cargo_243 : decode cX11_cargo 243 = .ok (.getfield 10, 3) := by decide +kernel
theorem dX11_cargo_246 : decode cX11_cargo 246 = .ok (.getfield 319, 3) := by decide +kernel
theorem dX11_cargo_249 : decode cX11_cargo 249 = .ok (.getfield 242, 3) := by decide +kernel
theorem dX11_cargo_252 : decode cX11_cargo 252 = .ok (.invokevirtual 73, 3) := by decide +kernel
theorem dX11_cargo_255 : decode cX11_cargo 255 = .ok (.ireturn, 1) := by decide +kernel
theorem dX11_clear_0 : decode cX11_clear 0 = .ok (.aload_n 0, 1) := by decide +kernel
theorem dX11_clear_1 : decode cX11_clear 1 = .ok (.getfield 10, 3) := by decide +kernel
theorem dX11_clear_4 : decode cX11_clear 4 = .ok (.getfield 319, 3) := by decide +kernel
theorem dX11_clear_7 : decode cX11_clear 7 = .ok (.getfield 242, 3) := by decide +kernel
theorem dX11_clear_10 : decode cX11_clear 10 = .ok (.istore_n 1, 1) := by decide +kernel
theorem dX11_clear_11 : decode cX11_clear 11 = .ok (.aload_n 0, 1) := by decide +kernel
theorem dX11_clear_12 : decode cX11_clear 12 = .ok (.getfield 10, 3) := by decide +kernel
theorem dX11_clear_15 : decode cX11_clear 15 = .ok (.getfield 319, 3) := by decide +kernel
theorem dX11_clear_18 : decode cX11_clear 18 = .ok (.iconst 0, 1) := by decide +kernel
theorem dX11_clear_19 : decode cX11_clear 19 = .ok (.putfield 242, 3) := by decide +kernel
theorem dX11_clear_22 : decode cX11_clear 22 = .ok (.iload_n 1, 1) := by decide +kernel
theorem dX11_clear_23 : decode cX11_clear 23 = .ok (.ireturn, 1) := by decide +kernel
set_option maxRecDepth 20000 in
theorem ggX11_best_X11_isHour : GoodIn wsX11_best wsX11_isHour := goodIn_r _ [6, 7, 8, 5, 9] (by decide +kernel) (by decide +kernel)
set_option maxRecDepth 20000 in
theorem gX11_best_X11_isHour : GoodIn wsX11_best (va_wsS RX11 229 yX11_isHour wsX11_isHour) := goodIn_app (goodIn_of _ (by decide +kernel)) ggX11_best_X11_isHour
set_option maxRecDepth 20000 in
theorem ggX11_best_X1_findBest : GoodIn wsX11_best wsX1_findBest := goodIn_r _ [14, 15, 16, 17, 18, 19, 20, 21, 22, 23, 24, 25, 26, 27, 28, 29, 30, 31, 32, 33, 34, 35, 36, 37, 13, 38, 39, 40, 41, 42, 43, 44, 45, 46, 47, 48, 49, 50, 51, 52, 53, 54, 55, 56, 57, 58, 59, 60, 61, 62, 63, 64, 65, 66, 67, 68, 69, 70, 71, 72, 73, 74, 75, 76, 77, 78, 79, 80, 81, 82, 83, 84, 85, 86, 87, 88, 89, 90, 91, 92, 93, 94, 95, 96, 97, 98, 99, 100, 101, 102, 103, 104, 105, 106, 107, 108, 109, 110, 111, 112, 113, 114, 115, 116, 117, 118, 119, 120, 121, 122, 123, 124, 125, 126, 127, 128, 129, 130, 131, 132, 133, 134, 135, 136, 137, 138, 139, 140, 141, 149, 150, 151, 152, 153, 154, 155, 156, 157, 158, 159, 160, 161, 162, 163, 164, 165, 166, 167, 168, 169, 170, 171, 172, 173, 174, 175, 176, 177, 178, 179, 180, 181, 182, 183, 184, 185, 186, 187, 188, 189, 190, 191, 192, 193, 194, 195, 196, 197, 198, 199, 200, 201, 202, 203, 204, 205, 206, 207, 208, 209, 210, 211, 212, 213, 214, 215, 216, 217, 218, 219, 220] (by decide +kernel) (by decide +kernel)
set_option maxRecDepth 20000 in
theorem gX11_best_X1_findBest : GoodIn wsX11_best (wsV RX11 322 RX1 yX1_findBest wsX1_findBest) := goodIn_app (goodIn_of _ (by decide +kernel)) ggX11_best_X1_findBest
theorem dX11_best_0 : decode cX11_best 0 = .ok (.iload_n 1, 1) := by decide +kernel
theorem dX11_best_1 : decode cX11_best 1 = .ok (.invokestatic 229, 3) := by decide +kernel
theorem dX11_best_4 : decode cX11_best 4 = .ok (.ifCond .eq 14, 3) := by decide +kernel
theorem dX11_best_7 : decode cX11_best 7 = .ok (.aload_n 0, 1) := by decide +kernel
theorem dX11_best_8 : decode cX11_best 8 = .ok (.getfield 46, 3) := by decide +kernel
theorem dX11_best_11 : decode cX11_best 11 = .ok (.iload_n 1, 1) := by decide +kernel
theorem dX11_best_12 : decode cX11_best 12 = .ok (.invokevirtual 322, 3) := by decide +kernel
theorem dX11_best_15 : decode cX11_best 15 = .ok (.goto 6, 3) := by decide +kernel
theorem dX11_best_18 : decode cX11_best 18 = .ok (.ldc2_w 198, 3) := by decide +kernel
theorem dX11_best_21 : decode cX11_best 21 = .ok (.lreturn, 1) := by decide +kernel
set_option maxRecDepth 20000 in
theorem ggX11_voyage_X11_within : GoodIn wsX11_voyage wsX11_within := goodIn_r _ [6] (by decide +kernel) (by decide +kernel)
set_option maxRecDepth 20000 in
theorem gX11_voyage_X11_within : GoodIn wsX11_voyage (va_wsS RX11 51 yX11_within wsX11_within) := goodIn_app (goodIn_of _ (by decide +kernel)) ggX11_voyage_X11_within
theorem dX11_voyage_0 : decode cX11_voyage 0 = .ok (.iload_n 1, 1) := by decide +kernel
theorem dX11_voyage_1 : decode cX11_voyage 1 = .ok (.iconst 0, 1) := by decide +kernel
theorem dX11_voyage_2 : decode cX11_voyage 2 = .ok (.aload_n 0, 1) := by decide +kernel
theorem dX11_voyage_3 : decode cX11_voyage 3 = .ok (.getfield 46, 3) := by decide +kernel
theorem dX11_voyage_6 : decode cX11_voyage 6 = .ok (.getfield 325, 3) := by decide +kernel
theorem dX11_voyage_9 : decode cX11_voyage 9 = .ok (.iconst 1, 1) := by decide +kernel
theorem dX11_voyage_10 : decode cX11_voyage 10 = .ok (.isub, 1) := by decide +kernel
theorem dX11_voyage_11 : decode cX11_voyage 11 = .ok (.invokestatic 51, 3) := by decide +kernel
theorem dX11_voyage_14 : decode cX11_voyage 14 = .ok (.ifCond .ne 7, 3) := by decide +kernel
theorem dX11_voyage_17 : decode cX11_voyage 17 = .ok (.ldc2_w 281, 3) := by decide +kernel
theorem dX11_voyage_20 : decode cX11_voyage 20 = .ok (.lreturn, 1) := by decide +kernel
theorem dX11_voyage_21 : decode cX11_voyage 21 = .ok (.iload_n 2, 1) := by decide +kernel
theorem dX11_voyage_22 : decode cX11_voyage 22 = .ok (.ifCond .ne 14, 3) := by decide +kernel
theorem dX11_voyage_25 : decode cX11_voyage 25 = .ok (.aload_n 0, 1) := by decide +kernel
theorem dX11_voyage_26 : decode cX11_voyage 26 = .ok (.getfield 46, 3) := by decide +kernel
theorem dX11_voyage_29 : decode cX11_voyage 29 = .ok (.getfield 328, 3) := by decide +kernel
theorem dX11_voyage_32 : decode cX11_voyage 32 = .ok (.iload_n 1, 1) := by decide +kernel
theorem dX11_voyage_33 : decode cX11_voyage 33 = .ok (.iaload, 1) := by decide +kernel
theorem dX11_voyage_34 : decode cX11_voyage 34 = .ok (.i2l, 1) := by decide +kernel
theorem dX11_voyage_35 : decode cX11_voyage 35 = .ok (.lreturn, 1) := by decide +kernel
theorem dX11_voyage_36 : decode cX11_voyage 36 = .ok (.aload_n 0, 1) := by decide +kernel
theorem dX11_voyage_37 : decode cX11_voyage 37 = .ok (.getfield 46, 3) := by decide +kernel
theorem dX11_voyage_40 : decode cX11_voyage 40 = .ok (.getfield 328, 3) := by decide +kernel
theorem dX11_voyage_43 : decode cX11_voyage 43 = .ok (.iload_n 1, 1) := by decide +kernel
theorem dX11_voyage_44 : decode cX11_voyage 44 = .ok (.iaload, 1) := by decide +kernel
theorem dX11_voyage_45 : decode cX11_voyage 45 = .ok (.iconst (-1), 1) := by decide +kernel
theorem dX11_voyage_46 : decode cX11_voyage 46 = .ok (.if_icmp .ne 7, 3) := by decide +kernel
theorem dX11_voyage_49 : decode cX11_voyage 49 = .ok (.ldc2_w 281, 3) := by decide +kernel
theorem dX11_voyage_52 : decode cX11_voyage 52 = .ok (.lreturn, 1) := by decide +kernel
theorem dX11_voyage_53 : decode cX11_voyage 53 = .ok (.iload_n 2, 1) := by decide +kernel
theorem dX11_voyage_54 : decode cX11_voyage 54 = .ok (.tableswitch 73 1 4 #[30, 41, 52, 63], 30) := by decide +kernel
theorem dX11_voyage_84 : decode cX11_voyage 84 = .ok (.aload_n 0, 1) := by decide +kernel
theorem dX11_voyage_85 : decode cX11_voyage 85 = .ok (.getfield 46, 3) := by decide +kernel
theorem dX11_voyage_88 : decode cX11_voyage 88 = .ok (.getfield 331, 3) := by decide +kernel
theorem dX11_voyage_91 : decode cX11_voyage 91 = .ok (.iload_n 1, 1) := by decide +kernel
theorem dX11_voyage_92 : decode cX11_voyage 92 = .ok (.iaload, 1) := by decide +kernel
theorem dX11_voyage_93 : decode cX11_voyage 93 = .ok (.i2l, 1) := by decide +kernel
theorem dX11_voyage_94 : decode cX11_voyage 94 = .ok (.lreturn, 1) := by decide +kernel
theorem dX11_voyage_95 : decode cX11_voyage 95 = .ok (.aload_n 0, 1) := by decide +kernel
theorem dX11_voyage_96 : decode cX11_voyage 96 = .ok (.getfield 46, 3) := by decide +kernel
theorem dX11_voyage_99 : decode cX11_voyage 99 = .ok (.getfield 334, 3) := by decide +kernel
theorem dX11_voyage_102 : decode cX11_voyage 102 = .ok (.iload_n 1, 1) := by decide +kernel
theorem dX11_voyage_103 : decode cX11_voyage 103 = .ok (.iaload, 1) := by decide +kernel
theorem dX11_voyage_104 : decode cX11_voyage 104 = .ok (.i2l, 1) := by decide +kernel
theorem dX11_voyage_105 : decode cX11_voyage 105 = .ok (.lreturn, 1) := by decide +kernel
theorem dX11_voyage_106 : decode cX11_voyage 106 = .ok (.aload_n 0, 1) := by decide +kernel
theorem dX11_voyage_107 : decode cX11_voyage 107 = .ok (.getfield 46, 3) := by decide +kernel
theorem dX11_voyage_110 : decode cX11_voyage 110 = .ok (.getfield 337, 3) := by decide +kernel
theorem dX11_voyage_113 : decode cX11_voyage 113 = .ok (.iload_n 1, 1) := by decide +kernel
theorem dX11_voyage_114 : decode cX11_voyage 114 = .ok (.iaload, 1) := by decide +kernel
theorem dX11_voyage_115 : decode cX11_voyage 115 = .ok (.i2l, 1) := by decide +kernel
theorem dX11_voyage_116 : decode cX11_voyage 116 = .ok (.lreturn, 1) := by decide +kernel
theorem dX11_voyage_117 : decode cX11_voyage 117 = .ok (.aload_n 0, 1) := by decide +kernel
theorem dX11_voyage_118 : decode cX11_voyage 118 = .ok (.getfield 46, 3) := by decide +kernel
theorem dX11_voyage_121 : decode cX11_voyage 121 = .ok (.getfield 340, 3) := by decide +kernel
theorem dX11_voyage_124 : decode cX11_voyage 124 = .ok (.iload_n 1, 1) := by decide +kernel
theorem dX11_voyage_125 : decode cX11_voyage 125 = .ok (.laload, 1) := by decide +kernel
theorem dX11_voyage_126 : decode cX11_voyage 126 = .ok (.lreturn, 1) := by decide +kernel
theorem dX11_voyage_127 : decode cX11_voyage 127 = .ok (.ldc2_w 281, 3) := by decide +kernel
theorem dX11_voyage_130 : decode cX11_voyage 130 = .ok (.lreturn, 1) := by decide +kernel
set_option maxRecDepth 20000 in
theorem ggX11_judge_X1_sails : GoodIn wsX11_judge wsX1_sails := goodIn_r _ [7, 8, 9, 10, 11, 12, 13, 14, 100, 101, 102, 103, 104, 105, 106, 107, 108, 109, 110, 111, 112, 113, 114, 115, 116, 117, 118, 119, 120, 121, 122, 123, 124, 125, 126, 127, 128, 129, 130, 131, 132, 133] (by decide +kernel) (by decide +kernel)
set_option maxRecDepth 20000 in
theorem gX11_judge_X1_sails : GoodIn wsX11_judge (wsV RX11 343 RX1 yX1_sails wsX1_sails) := goodIn_app (goodIn_of _ (by decide +kernel)) ggX11_judge_X1_sails
set_option maxRecDepth 20000 in
theorem ggX11_judge_X11_isHour : GoodIn wsX11_judge wsX11_isHour := goodIn_r _ [18, 19, 20, 17, 21] (by decide +kernel) (by decide +kernel)
set_option maxRecDepth 20000 in
theorem gX11_judge_X11_isHour : GoodIn wsX11_judge (va_wsS RX11 229 yX11_isHour wsX11_isHour) := goodIn_app (goodIn_of _ (by decide +kernel)) ggX11_judge_X11_isHour
set_option maxRecDepth 20000 in
theorem ggX11_judge_X1_worthOfRow : GoodIn wsX11_judge wsX1_worthOfRow := goodIn_r _ [25, 8, 26, 27, 28, 29, 30, 31, 32, 33, 34, 35, 36, 37, 6, 38, 39, 40, 41, 42, 43, 44, 45, 46, 47, 48, 49, 50, 51, 52, 53, 54, 55, 56, 57, 58, 59, 60, 61, 62, 12, 63, 64, 65, 66, 67, 68, 69, 70, 71, 72, 73, 74, 75, 76, 77, 78, 79, 80, 81, 82, 83, 84, 85, 86, 87, 88, 89, 90, 91, 92, 100, 101, 102, 103, 104, 105, 106, 107, 108, 109, 110, 111, 112, 113, 114, 115, 116, 117, 118, 119, 120, 121, 122, 123, 124, 125, 126, 127, 128, 129, 130, 131, 132, 133, 134, 135, 136, 137, 138, 139, 140, 141, 142, 143, 144, 145, 146, 147, 148, 149, 150, 151, 152, 153, 154, 155, 156, 157, 158, 159, 160, 161, 162, 163, 164, 165, 166, 167, 168, 169, 170, 171] (by decide +kernel) (by decide +kernel)
set_option maxRecDepth 20000 in
theorem gX11_judge_X1_worthOfRow : GoodIn wsX11_judge (wsV RX11 346 RX1 yX1_worthOfRow wsX1_worthOfRow) := goodIn_app (goodIn_of _ (by decide +kernel)) ggX11_judge_X1_worthOfRow
theorem dX11_judge_0 : decode cX11_judge 0 = .ok (.aload_n 0, 1) := by decide +kernel
theorem dX11_judge_1 : decode cX11_judge 1 = .ok (.getfield 46, 3) := by decide +kernel
theorem dX11_judge_4 : decode cX11_judge 4 = .ok (.iload_n 1, 1) := by decide +kernel
theorem dX11_judge_5 : decode cX11_judge 5 = .ok (.invokevirtual 343, 3) := by decide +kernel
theorem dX11_judge_8 : decode cX11_judge 8 = .ok (.ifCond .eq 11, 3) := by decide +kernel
theorem dX11_judge_11 : decode cX11_judge 11 = .ok (.iload 5, 2) := by decide +kernel
theorem dX11_judge_13 : decode cX11_judge 13 = .ok (.invokestatic 229, 3) := by decide +kernel
theorem dX11_judge_16 : decode cX11_judge 16 = .ok (.ifCond .ne 7, 3) := by decide +kernel
theorem dX11_judge_19 : decode cX11_judge 19 = .ok (.ldc2_w 281, 3) := by decide +kernel
theorem dX11_judge_22 : decode cX11_judge 22 = .ok (.lreturn, 1) := by decide +kernel
theorem dX11_judge_23 : decode cX11_judge 23 = .ok (.aload_n 0, 1) := by decide +kernel
theorem dX11_judge_24 : decode cX11_judge 24 = .ok (.getfield 46, 3) := by decide +kernel
theorem dX11_judge_27 : decode cX11_judge 27 = .ok (.iload_n 1, 1) := by decide +kernel
theorem dX11_judge_28 : decode cX11_judge 28 = .ok (.iload_n 2, 1) := by decide +kernel
theorem dX11_judge_29 : decode cX11_judge 29 = .ok (.iload_n 3, 1) := by decide +kernel
theorem dX11_judge_30 : decode cX11_judge 30 = .ok (.iload 4, 2) := by decide +kernel
theorem dX11_judge_32 : decode cX11_judge 32 = .ok (.iload 5, 2) := by decide +kernel
theorem dX11_judge_34 : decode cX11_judge 34 = .ok (.invokevirtual 346, 3) := by decide +kernel
theorem dX11_judge_37 : decode cX11_judge 37 = .ok (.lreturn, 1) := by decide +kernel
set_option maxRecDepth 20000 in
theorem ggX11_back_X11_within : GoodIn wsX11_back wsX11_within := goodIn_r _ [6] (by decide +kernel) (by decide +kernel)
set_option maxRecDepth 20000 in
theorem gX11_back_X11_within : GoodIn wsX11_back (va_wsS RX11 51 yX11_within wsX11_within) := goodIn_app (goodIn_of _ (by decide +kernel)) ggX11_back_X11_within
set_option maxRecDepth 20000 in
theorem ggX11_back_X11_refuse : GoodIn wsX11_back wsX11_refuse := goodIn_r _ [10, 11, 110, 111, 112, 113, 114, 115, 116] (by decide +kernel) (by decide +kernel)
set_option maxRecDepth 20000 in
theorem gX11_back_X11_refuse : GoodIn wsX11_back (wsV RX11 55 RX11 yX11_refuse wsX11_refuse) := goodIn_app (goodIn_of _ (by decide +kernel)) ggX11_back_X11_refuse
set_option maxRecDepth 20000 in
theorem ggX11_back_X10_copyFrom : GoodIn wsX11_back wsX10_copyFrom := goodIn_r _ [16, 17, 18, 19, 20, 21, 22, 23, 24, 25, 26, 27, 28, 29, 30, 31, 32, 33, 34, 35, 36, 37, 38, 39, 40, 41, 42, 43, 44, 45, 46, 47, 48, 49, 50, 51, 52, 53, 54, 55, 56, 57, 58, 59, 60, 61, 62, 63, 64, 65, 66, 67, 68, 69, 70, 71, 72, 73, 74, 75, 76, 77, 78, 79, 80, 81, 82, 83, 84, 85, 86, 87, 88, 89, 90, 91, 92, 93, 94, 95, 96, 97, 98, 99, 100, 101, 102, 103, 104, 105, 117, 118, 119, 120, 121, 122, 123, 124, 125, 126, 127, 128, 129, 130, 131, 132, 133, 134, 135, 136, 137, 138, 139, 140, 141, 142, 143, 144, 145, 146, 147, 148, 149, 150, 151, 152, 153, 154, 155, 156, 157, 158, 159, 160, 161, 162, 163, 164, 165, 166, 167, 168, 169, 170, 171, 172, 173] (by decide +kernel) (by decide +kernel)
set_option maxRecDepth 20000 in
theorem gX11_back_X10_copyFrom : GoodIn wsX11_back (wsV RX11 350 RX10 yX10_copyFrom wsX10_copyFrom) := goodIn_app (goodIn_of _ (by decide +kernel)) ggX11_back_X10_copyFrom
set_option maxRecDepth 20000 in
theorem ggX11_back_X11_accept : GoodIn wsX11_back wsX11_accept := goodIn_r _ [109, 11, 110, 111, 112, 113, 114, 115, 116] (by decide +kernel) (by decide +kernel)
set_option maxRecDepth 20000 in
theorem gX11_back_X11_accept : GoodIn wsX11_back (wsV RX11 73 RX11 yX11_accept wsX11_accept) := goodIn_app (goodIn_of _ (by decide +kernel)) ggX11_back_X11_accept
theorem dX11_back_0 : decode cX11_back 0 = .ok (.iload_n 1, 1) := by decide +kernel
theorem dX11_back_1 : decode cX11_back 1 = .ok (.iconst 0, 1) := by decide +kernel
theorem dX11_back_2 : decode cX11_back 2 = .ok (.aload_n 0, 1) := by decide +kernel
theorem dX11_back_3 : decode cX11_back 3 = .ok (.getfield 16, 3) := by decide +kernel
theorem dX11_back_6 : decode cX11_back 6 = .ok (.arraylength, 1) := by decide +kernel
theorem dX11_back_7 : decode cX11_back 7 = .ok (.iconst 1, 1) := by decide +kernel
theorem dX11_back_8 : decode cX11_back 8 = .ok (.isub, 1) := by decide +kernel
theorem dX11_back_9 : decode cX11_back 9 = .ok (.invokestatic 51, 3) := by decide +kernel
theorem dX11_back_12 : decode cX11_back 12 = .ok (.ifCond .ne 9, 3) := by decide +kernel
theorem dX11_back_15 : decode cX11_back 15 = .ok (.aload_n 0, 1) := by decide +kernel
theorem dX11_back_16 : decode cX11_back 16 = .ok (.iconst (-1), 1) := by decide +kernel
theorem dX11_back_17 : decode cX11_back 17 = .ok (.invokevirtual 55, 3) := by decide +kernel
theorem dX11_back_20 : decode cX11_back 20 = .ok (.ireturn, 1) := by decide +kernel
theorem dX11_back_21 : decode cX11_back 21 = .ok (.aload_n 0, 1) := by decide +kernel
theorem dX11_back_22 : decode cX11_back 22 = .ok (.getfield 16, 3) := by decide +kernel
theorem dX11_back_25 : decode cX11_back 25 = .ok (.iload_n 1, 1) := by decide +kernel
theorem dX11_back_26 : decode cX11_back 26 = .ok (.aaload, 1) := by decide +kernel
theorem dX11_back_27 : decode cX11_back 27 = .ok (.ifnonnull 10, 3) := by decide +kernel
theorem dX11_back_30 : decode cX11_back 30 = .ok (.aload_n 0, 1) := by decide +kernel
theorem dX11_back_31 : decode cX11_back 31 = .ok (.bipush (-2), 2) := by decide +kernel
theorem dX11_back_33 : decode cX11_back 33 = .ok (.invokevirtual 55, 3) := by decide +kernel
theorem dX11_back_36 : decode cX11_back 36 = .ok (.ireturn, 1) := by decide +kernel
theorem dX11_back_37 : decode cX11_back 37 = .ok (.aload_n 0, 1) := by decide +kernel
theorem dX11_back_38 : decode cX11_back 38 = .ok (.getfield 10, 3) := by decide +kernel
theorem dX11_back_41 : decode cX11_back 41 = .ok (.aload_n 0, 1) := by decide +kernel
theorem dX11_back_42 : decode cX11_back 42 = .ok (.getfield 16, 3) := by decide +kernel
theorem dX11_back_45 : decode cX11_back 45 = .ok (.iload_n 1, 1) := by decide +kernel
theorem dX11_back_46 : decode cX11_back 46 = .ok (.aaload, 1) := by decide +kernel
theorem dX11_back_47 : decode cX11_back 47 = .ok (.invokevirtual 350, 3) := by decide +kernel
theorem dX11_back_50 : decode cX11_back 50 = .ok (.aload_n 0, 1) := by decide +kernel
theorem dX11_back_51 : decode cX11_back 51 = .ok (.iconst 0, 1) := by decide +kernel
theorem dX11_back_52 : decode cX11_back 52 = .ok (.invokevirtual 73, 3) := by decide +kernel
theorem dX11_back_55 : decode cX11_back 55 = .ok (.ireturn, 1) := by decide +kernel
theorem dX11_count_0 : decode cX11_count 0 = .ok (.iload_n 1, 1) := by decide +kernel
theorem dX11_count_1 : decode cX11_count 1 = .ok (.tableswitch 135 0 8 #[51, 59, 67, 75, 86, 97, 105, 116, 127], 51) := by decide +kernel
theorem dX11_count_52 : decode cX11_count 52 = .ok (.aload_n 0, 1) := by decide +kernel
theorem dX11_count_53 : decode cX11_count 53 = .ok (.getfield 10, 3) := by decide +kernel
theorem dX11_count_56 : decode cX11_count 56 = .ok (.getfield 154, 3) := by decide +kernel
theorem dX11_count_59 : decode cX11_count 59 = .ok (.ireturn, 1) := by decide +kernel
theorem dX11_count_60 : decode cX11_count 60 = .ok (.aload_n 0, 1) := by decide +kernel
theorem dX11_count_61 : decode cX11_count 61 = .ok (.getfield 10, 3) := by decide +kernel
theorem dX11_count_64 : decode cX11_count 64 = .ok (.getfield 59, 3) := by decide +kernel
theorem dX11_count_67 : decode cX11_count 67 = .ok (.ireturn, 1) := by decide +kernel
theorem dX11_count_68 : decode cX11_count 68 = .ok (.aload_n 0, 1) := by decide +kernel
theorem dX11_count_69 : decode cX11_count 69 = .ok (.getfield 10, 3) := by decide +kernel
theorem dX11_count_72 : decode cX11_count 72 = .ok (.getfield 81, 3) := by decide +kernel
theorem dX11_count_75 : decode cX11_count 75 = .ok (.ireturn, 1) := by decide +kernel
theorem dX11_count_76 : decode cX11_count 76 = .ok (.aload_n 0, 1) := by decide +kernel
theorem dX11_count_77 : decode cX11_count 77 = .ok (.getfield 10, 3) := by decide +kernel
theorem dX11_count_80 : decode cX11_count 80 = .ok (.getfield 111, 3) := by decide +kernel
theorem dX11_count_83 : decode cX11_count 83 = .ok (.getfield 353, 3) := by decide +kernel
theorem dX11_count_86 : decode cX11_count 86 = .ok (.ireturn, 1) := by decide +kernel
theorem dX11_count_87 : decode cX11_count 87 = .ok (.aload_n 0, 1) := by decide +kernel
theorem dX11_count_88 : decode cX11_count 88 = .ok (.getfield 10, 3) := by decide +kernel
theorem dX11_count_91 : decode cX11_count 91 = .ok (.getfield 207, 3) := by decide +kernel
theorem dX11_count_94 : decode cX11_count 94 = .ok (.getfield 242, 3) := by decide +kernel
theorem dX11_count_97 : decode cX11_count 97 = .ok (.ireturn, 1) := by decide +kernel
theorem dX11_count_98 : decode cX11_count 98 = .ok (.aload_n 0, 1) := by decide +kernel
theorem dX11_count_99 : decode cX11_count 99 = .ok (.getfield 10, 3) := by decide +kernel
theorem dX11_count_102 : decode cX11_count 102 = .ok (.getfield 261, 3) := by decide +kernel
theorem dX11_count_105 : decode cX11_count 105 = .ok (.ireturn, 1) := by decide +kernel
theorem dX11_count_106 : decode cX11_count 106 = .ok (.aload_n 0, 1) := by decide +kernel
theorem dX11_count_107 : decode cX11_count 107 = .ok (.getfield 10, 3) := by decide +kernel
theorem dX11_count_110 : decode cX11_count 110 = .ok (.getfield 319, 3) := by decide +kernel
theorem dX11_count_113 : decode cX11_count 113 = .ok (.getfield 242, 3) := by decide +kernel
theorem dX11_count_116 : decode cX11_count 116 = .ok (.ireturn, 1) := by decide +kernel
theorem dX11_count_117 : decode cX11_count 117 = .ok (.aload_n 0, 1) := by decide +kernel
theorem dX11_count_118 : decode cX11_count 118 = .ok (.getfield 10, 3) := by decide +kernel
theorem dX11_count_121 : decode cX11_count 121 = .ok (.getfield 306, 3) := by decide +kernel
theorem dX11_count_124 : decode cX11_count 124 = .ok (.getfield 242, 3) := by decide +kernel
theorem dX11_count_127 : decode cX11_count 127 = .ok (.ireturn, 1) := by decide +kernel
theorem dX11_count_128 : decode cX11_count 128 = .ok (.aload_n 0, 1) := by decide +kernel
theorem dX11_count_129 : decode cX11_count 129 = .ok (.getfield 32, 3) := by decide +kernel
theorem dX11_count_132 : decode cX11_count 132 = .ok (.getfield 260, 3) := by decide +kernel
theorem dX11_count_135 : decode cX11_count 135 = .ok (.ireturn, 1) := by decide +kernel
theorem dX11_count_136 : decode cX11_count 136 = .ok (.iconst (-1), 1) := by decide +kernel
theorem dX11_count_137 : decode cX11_count 137 = .ok (.ireturn, 1) := by decide +kernel
theorem dX11_status_0 : decode cX11_status 0 = .ok (.aload_n 0, 1) := by decide +kernel
theorem dX11_status_1 : decode cX11_status 1 = .ok (.getfield 354, 3) := by decide +kernel
theorem dX11_status_4 : decode cX11_status 4 = .ok (.ireturn, 1) := by decide +kernel
