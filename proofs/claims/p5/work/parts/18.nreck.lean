abbrev cX3_reckon : ByteArray := prog_5_method_2_code
def yX3_reckon : MethodName := ⟨RX3, "reckon", "(ILColdShips$Contract;I)V"⟩
abbrev cX3_findFacts : ByteArray := prog_5_method_3_code
def yX3_findFacts : MethodName := ⟨RX3, "findFacts", "(ILColdShips$Contract;I)V"⟩
abbrev cX3_runClause : ByteArray := prog_5_method_4_code
def yX3_runClause : MethodName := ⟨RX3, "runClause", "([III)V"⟩
abbrev cX3_combine : ByteArray := prog_5_method_5_code
def yX3_combine : MethodName := ⟨RX3, "combine", "(I)Z"⟩
abbrev cX3_pushSum : ByteArray := prog_5_method_6_code
def yX3_pushSum : MethodName := ⟨RX3, "pushSum", "(J)Z"⟩
abbrev cX3_push : ByteArray := prog_5_method_7_code
def yX3_push : MethodName := ⟨RX3, "push", "(J)V"⟩
abbrev cX3_pop : ByteArray := prog_5_method_8_code
def yX3_pop : MethodName := ⟨RX3, "pop", "()J"⟩
abbrev cX3_tonsRead : ByteArray := prog_5_method_9_code
def yX3_tonsRead : MethodName := ⟨RX3, "tonsRead", "(III)J"⟩
abbrev cX3_tonsGauged : ByteArray := prog_5_method_10_code
def yX3_tonsGauged : MethodName := ⟨RX3, "tonsGauged", "(II)J"⟩
abbrev cX3_claimOf : ByteArray := prog_5_method_11_code
def yX3_claimOf : MethodName := ⟨RX3, "claimOf", "(II)J"⟩
def wsX3_findFacts_r1 : List Cond := [Cond.fieldLink RX3 18 "ColdShips$Reckoner" "world" "LColdShips$World;", Cond.fieldLink RX3 9 "ColdShips$Reckoner" "facts" "[J", Cond.methodLink RX3 89 Lib.Math.max.name, Cond.static Lib.Math.max.name, Cond.initialized "java/lang/Math", Cond.code Lib.Math.max.name Lib.Math.max.code 2 (some .int), Cond.methodLink RX3 52 yX4_number, Cond.instanceMethod yX4_number, Cond.selects RX4 yX4_number yX4_number, Cond.initialized RX4, Cond.code yX4_number cX4_number 3 (some .int), Cond.methodLink RX4 34 yX4_at, Cond.instanceMethod yX4_at, Cond.selects RX4 yX4_at yX4_at, Cond.code yX4_at cX4_at 4 (some .long), Cond.fieldLink RX4 25 "ColdShips$Rows" "size" "I", Cond.fieldLink RX4 15 "ColdShips$Rows" "width" "I", Cond.fieldLink RX4 21 "ColdShips$Rows" "cells" "[J", Cond.methodLink RX3 62 yX4_at, Cond.methodLink RX3 66 yX10_billedOf, Cond.instanceMethod yX10_billedOf, Cond.selects RX10 yX10_billedOf yX10_billedOf, Cond.initialized RX10, Cond.code yX10_billedOf cX10_billedOf 4 (some .long)]
def wsX3_findFacts_r2 : List Cond := [Cond.fieldLink RX10 70 "ColdShips$World" "landings" "LColdShips$Rows;", Cond.constantLong RX10 91 (-1), Cond.methodLink RX10 87 yX4_at, Cond.methodLink RX3 70 yX10_heatOf, Cond.instanceMethod yX10_heatOf, Cond.selects RX10 yX10_heatOf yX10_heatOf, Cond.code yX10_heatOf cX10_heatOf 7 (some .long), Cond.fieldLink RX10 27 "ColdShips$World" "terminals" "[LColdShips$Terminal;", Cond.methodLink RX3 80 yX6_freeHours, Cond.instanceMethod yX6_freeHours, Cond.selects RX6 yX6_freeHours yX6_freeHours, Cond.initialized RX6, Cond.code yX6_freeHours cX6_freeHours 9 (some .int), Cond.methodLink RX6 9 Lib.Math.max.name, Cond.fieldLink RX6 27 "ColdShips$Spans" "size" "I", Cond.fieldLink RX6 21 "ColdShips$Spans" "begins" "[I", Cond.fieldLink RX6 15 "ColdShips$Spans" "owners" "[I", Cond.fieldLink RX6 24 "ColdShips$Spans" "ends" "[I", Cond.methodLink RX6 31 Lib.Math.min.name, Cond.static Lib.Math.min.name, Cond.code Lib.Math.min.name Lib.Math.min.code 2 (some .int), Cond.methodLink RX3 94 yX10_priceOf, Cond.instanceMethod yX10_priceOf, Cond.selects RX10 yX10_priceOf yX10_priceOf]
def wsX3_findFacts_r3 : List Cond := [Cond.code yX10_priceOf cX10_priceOf 12 (some .long), Cond.constantLong RX10 103 (24), Cond.fieldLink RX10 63 "ColdShips$World" "prices" "LColdShips$Rows;"]
def wsX3_findFacts : List Cond := .code yX3_findFacts cX3_findFacts 7 none :: ((wsX3_findFacts_r1 ++ (wsX3_findFacts_r2 ++ wsX3_findFacts_r3)) ++ wsX30 ++ wsX100 ++ wsX00 ++ wsX40 ++ wsX80 ++ wsX60)
def wsX3_push : List Cond := .code yX3_push cX3_push 3 none :: ([.fieldLink RX3 97 "ColdShips$Reckoner" "depth" "I", .fieldLink RX3 15 "ColdShips$Reckoner" "stack" "[J"] ++ wsX30)
def wsX3_pop : List Cond := .code yX3_pop cX3_pop 1 (some .long) :: ([.fieldLink RX3 97 "ColdShips$Reckoner" "depth" "I", .fieldLink RX3 15 "ColdShips$Reckoner" "stack" "[J"] ++ wsX30)
def wsX3_pushSum : List Cond := .code yX3_pushSum cX3_pushSum 3 (some .boolean) :: ([.methodLink RX3 119 Lib.MathLoose.abs_long.x, .static Lib.MathLoose.abs_long.x, .initialized "java/lang/Math", .code Lib.MathLoose.abs_long.x Lib.MathLoose.abs_long.code 2 (some .long), .constantLong RX3 123 (1000000000000), .methodLink RX3 103 yX3_push, .instanceMethod yX3_push, .selects RX3 yX3_push yX3_push, .initialized RX3, .code yX3_push cX3_push 3 none, .fieldLink RX3 97 "ColdShips$Reckoner" "depth" "I", .fieldLink RX3 15 "ColdShips$Reckoner" "stack" "[J"] ++ wsX30)
def wsX3_combine : List Cond := .code yX3_combine cX3_combine 6 (some .boolean) :: ([.methodLink RX3 119 Lib.MathLoose.abs_long.x, .static Lib.MathLoose.abs_long.x, .initialized "java/lang/Math", .code Lib.MathLoose.abs_long.x Lib.MathLoose.abs_long.code 2 (some .long), .constantLong RX3 123 (1000000000000), .methodLink RX3 107 yX3_pop, .instanceMethod yX3_pop, .selects RX3 yX3_pop yX3_pop, .initialized RX3, .code yX3_pop cX3_pop 1 (some .long), .fieldLink RX3 97 "ColdShips$Reckoner" "depth" "I", .fieldLink RX3 15 "ColdShips$Reckoner" "stack" "[J", .methodLink RX3 115 yX3_pushSum, .instanceMethod yX3_pushSum, .selects RX3 yX3_pushSum yX3_pushSum, .code yX3_pushSum cX3_pushSum 3 (some .boolean), .methodLink RX3 103 yX3_push, .instanceMethod yX3_push, .selects RX3 yX3_push yX3_push, .code yX3_push cX3_push 3 none] ++ wsX30)
def wsX3_runClause_r1 : List Cond := [Cond.fieldLink RX3 97 "ColdShips$Reckoner" "depth" "I", Cond.methodLink RX3 100 Lib.Math.min.name, Cond.static Lib.Math.min.name, Cond.initialized "java/lang/Math", Cond.code Lib.Math.min.name Lib.Math.min.code 2 (some .int), Cond.methodLink RX3 89 Lib.Math.max.name, Cond.static Lib.Math.max.name, Cond.code Lib.Math.max.name Lib.Math.max.code 2 (some .int), Cond.fieldLink RX3 9 "ColdShips$Reckoner" "facts" "[J", Cond.fieldLink RX3 22 "ColdShips$Reckoner" "pays" "J", Cond.fieldLink RX3 26 "ColdShips$Reckoner" "fines" "J", Cond.methodLink RX3 103 yX3_push, Cond.instanceMethod yX3_push, Cond.selects RX3 yX3_push yX3_push, Cond.initialized RX3, Cond.code yX3_push cX3_push 3 none, Cond.fieldLink RX3 15 "ColdShips$Reckoner" "stack" "[J", Cond.methodLink RX3 107 yX3_pop, Cond.instanceMethod yX3_pop, Cond.selects RX3 yX3_pop yX3_pop, Cond.code yX3_pop cX3_pop 1 (some .long), Cond.methodLink RX3 111 yX3_combine, Cond.instanceMethod yX3_combine, Cond.selects RX3 yX3_combine yX3_combine]
def wsX3_runClause_r2 : List Cond := [Cond.code yX3_combine cX3_combine 6 (some .boolean), Cond.methodLink RX3 119 Lib.MathLoose.abs_long.x, Cond.static Lib.MathLoose.abs_long.x, Cond.code Lib.MathLoose.abs_long.x Lib.MathLoose.abs_long.code 2 (some .long), Cond.constantLong RX3 123 (1000000000000), Cond.methodLink RX3 115 yX3_pushSum, Cond.instanceMethod yX3_pushSum, Cond.selects RX3 yX3_pushSum yX3_pushSum, Cond.code yX3_pushSum cX3_pushSum 3 (some .boolean)]
def wsX3_runClause : List Cond := .code yX3_runClause cX3_runClause 9 none :: ((wsX3_runClause_r1 ++ wsX3_runClause_r2) ++ wsX30)
def wsX3_reckon_r1 : List Cond := [Cond.fieldLink RX3 22 "ColdShips$Reckoner" "pays" "J", Cond.fieldLink RX3 26 "ColdShips$Reckoner" "fines" "J", Cond.methodLink RX3 29 yX3_findFacts, Cond.instanceMethod yX3_findFacts, Cond.selects RX3 yX3_findFacts yX3_findFacts, Cond.initialized RX3, Cond.code yX3_findFacts cX3_findFacts 7 none, Cond.fieldLink RX3 18 "ColdShips$Reckoner" "world" "LColdShips$World;", Cond.fieldLink RX3 9 "ColdShips$Reckoner" "facts" "[J", Cond.methodLink RX3 89 Lib.Math.max.name, Cond.static Lib.Math.max.name, Cond.initialized "java/lang/Math", Cond.code Lib.Math.max.name Lib.Math.max.code 2 (some .int), Cond.methodLink RX3 52 yX4_number, Cond.instanceMethod yX4_number, Cond.selects RX4 yX4_number yX4_number, Cond.initialized RX4, Cond.code yX4_number cX4_number 3 (some .int), Cond.methodLink RX4 34 yX4_at, Cond.instanceMethod yX4_at, Cond.selects RX4 yX4_at yX4_at, Cond.code yX4_at cX4_at 4 (some .long), Cond.fieldLink RX4 25 "ColdShips$Rows" "size" "I", Cond.fieldLink RX4 15 "ColdShips$Rows" "width" "I"]
def wsX3_reckon_r2 : List Cond := [Cond.fieldLink RX4 21 "ColdShips$Rows" "cells" "[J", Cond.methodLink RX3 62 yX4_at, Cond.methodLink RX3 66 yX10_billedOf, Cond.instanceMethod yX10_billedOf, Cond.selects RX10 yX10_billedOf yX10_billedOf, Cond.initialized RX10, Cond.code yX10_billedOf cX10_billedOf 4 (some .long), Cond.fieldLink RX10 70 "ColdShips$World" "landings" "LColdShips$Rows;", Cond.constantLong RX10 91 (-1), Cond.methodLink RX10 87 yX4_at, Cond.methodLink RX3 70 yX10_heatOf, Cond.instanceMethod yX10_heatOf, Cond.selects RX10 yX10_heatOf yX10_heatOf, Cond.code yX10_heatOf cX10_heatOf 7 (some .long), Cond.fieldLink RX10 27 "ColdShips$World" "terminals" "[LColdShips$Terminal;", Cond.methodLink RX3 80 yX6_freeHours, Cond.instanceMethod yX6_freeHours, Cond.selects RX6 yX6_freeHours yX6_freeHours, Cond.initialized RX6, Cond.code yX6_freeHours cX6_freeHours 9 (some .int), Cond.methodLink RX6 9 Lib.Math.max.name, Cond.fieldLink RX6 27 "ColdShips$Spans" "size" "I", Cond.fieldLink RX6 21 "ColdShips$Spans" "begins" "[I", Cond.fieldLink RX6 15 "ColdShips$Spans" "owners" "[I"]
def wsX3_reckon_r3 : List Cond := [Cond.fieldLink RX6 24 "ColdShips$Spans" "ends" "[I", Cond.methodLink RX6 31 Lib.Math.min.name, Cond.static Lib.Math.min.name, Cond.code Lib.Math.min.name Lib.Math.min.code 2 (some .int), Cond.methodLink RX3 94 yX10_priceOf, Cond.instanceMethod yX10_priceOf, Cond.selects RX10 yX10_priceOf yX10_priceOf, Cond.code yX10_priceOf cX10_priceOf 12 (some .long), Cond.constantLong RX10 103 (24), Cond.fieldLink RX10 63 "ColdShips$World" "prices" "LColdShips$Rows;", Cond.methodLink RX3 42 yX3_runClause, Cond.instanceMethod yX3_runClause, Cond.selects RX3 yX3_runClause yX3_runClause, Cond.code yX3_runClause cX3_runClause 9 none, Cond.fieldLink RX3 97 "ColdShips$Reckoner" "depth" "I", Cond.methodLink RX3 100 Lib.Math.min.name, Cond.methodLink RX3 103 yX3_push, Cond.instanceMethod yX3_push, Cond.selects RX3 yX3_push yX3_push, Cond.code yX3_push cX3_push 3 none, Cond.fieldLink RX3 15 "ColdShips$Reckoner" "stack" "[J", Cond.methodLink RX3 107 yX3_pop, Cond.instanceMethod yX3_pop, Cond.selects RX3 yX3_pop yX3_pop]
def wsX3_reckon_r4 : List Cond := [Cond.code yX3_pop cX3_pop 1 (some .long), Cond.methodLink RX3 111 yX3_combine, Cond.instanceMethod yX3_combine, Cond.selects RX3 yX3_combine yX3_combine, Cond.code yX3_combine cX3_combine 6 (some .boolean), Cond.methodLink RX3 119 Lib.MathLoose.abs_long.x, Cond.static Lib.MathLoose.abs_long.x, Cond.code Lib.MathLoose.abs_long.x Lib.MathLoose.abs_long.code 2 (some .long), Cond.constantLong RX3 123 (1000000000000), Cond.methodLink RX3 115 yX3_pushSum, Cond.instanceMethod yX3_pushSum, Cond.selects RX3 yX3_pushSum yX3_pushSum, Cond.code yX3_pushSum cX3_pushSum 3 (some .boolean)]
def wsX3_reckon : List Cond := .code yX3_reckon cX3_reckon 5 none :: ((wsX3_reckon_r1 ++ (wsX3_reckon_r2 ++ (wsX3_reckon_r3 ++ wsX3_reckon_r4))) ++ wsX30 ++ wsX00 ++ wsX100 ++ wsX40 ++ wsX80 ++ wsX60)
def wsX3_tonsRead_r1 : List Cond := [Cond.fieldLink RX3 18 "ColdShips$Reckoner" "world" "LColdShips$World;", Cond.constantLong RX3 138 (-2000000000000000), Cond.methodLink RX3 52 yX4_number, Cond.instanceMethod yX4_number, Cond.selects RX4 yX4_number yX4_number, Cond.initialized RX4, Cond.code yX4_number cX4_number 3 (some .int), Cond.methodLink RX4 34 yX4_at, Cond.instanceMethod yX4_at, Cond.selects RX4 yX4_at yX4_at, Cond.code yX4_at cX4_at 4 (some .long), Cond.fieldLink RX4 25 "ColdShips$Rows" "size" "I", Cond.fieldLink RX4 15 "ColdShips$Rows" "width" "I", Cond.fieldLink RX4 21 "ColdShips$Rows" "cells" "[J", Cond.methodLink RX3 125 yX10_hasShip, Cond.instanceMethod yX10_hasShip, Cond.selects RX10 yX10_hasShip yX10_hasShip, Cond.initialized RX10, Cond.code yX10_hasShip cX10_hasShip 2 (some .boolean), Cond.fieldLink RX10 81 "ColdShips$World" "shipCount" "I", Cond.methodLink RX3 132 yX5_gaugeCounts, Cond.instanceMethod yX5_gaugeCounts, Cond.selects RX5 yX5_gaugeCounts yX5_gaugeCounts, Cond.initialized RX5]
def wsX3_tonsRead_r2 : List Cond := [Cond.code yX5_gaugeCounts cX5_gaugeCounts 2 (some .boolean), Cond.fieldLink RX5 32 "ColdShips$Ship" "gaugeCentimetres" "[I", Cond.fieldLink RX5 35 "ColdShips$Ship" "gaugeTons" "[I", Cond.methodLink RX3 62 yX4_at, Cond.methodLink RX3 149 yX5_tonsAt, Cond.instanceMethod yX5_tonsAt, Cond.selects RX5 yX5_tonsAt yX5_tonsAt, Cond.code yX5_tonsAt cX5_tonsAt 6 (some .long)]
def wsX3_tonsRead : List Cond := .code yX3_tonsRead cX3_tonsRead 7 (some .long) :: ((wsX3_tonsRead_r1 ++ wsX3_tonsRead_r2) ++ wsX30 ++ wsX100 ++ wsX40 ++ wsX50)
def wsX3_tonsGauged_r1 : List Cond := [Cond.constantLong RX3 138 (-2000000000000000), Cond.methodLink RX3 152 yX3_tonsRead, Cond.instanceMethod yX3_tonsRead, Cond.selects RX3 yX3_tonsRead yX3_tonsRead, Cond.initialized RX3, Cond.code yX3_tonsRead cX3_tonsRead 7 (some .long), Cond.fieldLink RX3 18 "ColdShips$Reckoner" "world" "LColdShips$World;", Cond.methodLink RX3 52 yX4_number, Cond.instanceMethod yX4_number, Cond.selects RX4 yX4_number yX4_number, Cond.initialized RX4, Cond.code yX4_number cX4_number 3 (some .int), Cond.methodLink RX4 34 yX4_at, Cond.instanceMethod yX4_at, Cond.selects RX4 yX4_at yX4_at, Cond.code yX4_at cX4_at 4 (some .long), Cond.fieldLink RX4 25 "ColdShips$Rows" "size" "I", Cond.fieldLink RX4 15 "ColdShips$Rows" "width" "I", Cond.fieldLink RX4 21 "ColdShips$Rows" "cells" "[J", Cond.methodLink RX3 125 yX10_hasShip, Cond.instanceMethod yX10_hasShip, Cond.selects RX10 yX10_hasShip yX10_hasShip, Cond.initialized RX10, Cond.code yX10_hasShip cX10_hasShip 2 (some .boolean)]
def wsX3_tonsGauged_r2 : List Cond := [Cond.fieldLink RX10 81 "ColdShips$World" "shipCount" "I", Cond.methodLink RX3 132 yX5_gaugeCounts, Cond.instanceMethod yX5_gaugeCounts, Cond.selects RX5 yX5_gaugeCounts yX5_gaugeCounts, Cond.initialized RX5, Cond.code yX5_gaugeCounts cX5_gaugeCounts 2 (some .boolean), Cond.fieldLink RX5 32 "ColdShips$Ship" "gaugeCentimetres" "[I", Cond.fieldLink RX5 35 "ColdShips$Ship" "gaugeTons" "[I", Cond.methodLink RX3 62 yX4_at, Cond.methodLink RX3 149 yX5_tonsAt, Cond.instanceMethod yX5_tonsAt, Cond.selects RX5 yX5_tonsAt yX5_tonsAt, Cond.code yX5_tonsAt cX5_tonsAt 6 (some .long)]
def wsX3_tonsGauged : List Cond := .code yX3_tonsGauged cX3_tonsGauged 7 (some .long) :: ((wsX3_tonsGauged_r1 ++ wsX3_tonsGauged_r2) ++ wsX30 ++ wsX100 ++ wsX40 ++ wsX50)
def wsX3_claimOf_r1 : List Cond := [Cond.constantLong RX3 138 (-2000000000000000), Cond.fieldLink RX3 18 "ColdShips$Reckoner" "world" "LColdShips$World;", Cond.methodLink RX3 156 yX3_tonsGauged, Cond.instanceMethod yX3_tonsGauged, Cond.selects RX3 yX3_tonsGauged yX3_tonsGauged, Cond.initialized RX3, Cond.code yX3_tonsGauged cX3_tonsGauged 7 (some .long), Cond.methodLink RX3 152 yX3_tonsRead, Cond.instanceMethod yX3_tonsRead, Cond.selects RX3 yX3_tonsRead yX3_tonsRead, Cond.code yX3_tonsRead cX3_tonsRead 7 (some .long), Cond.methodLink RX3 52 yX4_number, Cond.instanceMethod yX4_number, Cond.selects RX4 yX4_number yX4_number, Cond.initialized RX4, Cond.code yX4_number cX4_number 3 (some .int), Cond.methodLink RX4 34 yX4_at, Cond.instanceMethod yX4_at, Cond.selects RX4 yX4_at yX4_at, Cond.code yX4_at cX4_at 4 (some .long), Cond.fieldLink RX4 25 "ColdShips$Rows" "size" "I", Cond.fieldLink RX4 15 "ColdShips$Rows" "width" "I", Cond.fieldLink RX4 21 "ColdShips$Rows" "cells" "[J", Cond.methodLink RX3 125 yX10_hasShip]
def wsX3_claimOf_r2 : List Cond := [Cond.instanceMethod yX10_hasShip, Cond.selects RX10 yX10_hasShip yX10_hasShip, Cond.initialized RX10, Cond.code yX10_hasShip cX10_hasShip 2 (some .boolean), Cond.fieldLink RX10 81 "ColdShips$World" "shipCount" "I", Cond.methodLink RX3 132 yX5_gaugeCounts, Cond.instanceMethod yX5_gaugeCounts, Cond.selects RX5 yX5_gaugeCounts yX5_gaugeCounts, Cond.initialized RX5, Cond.code yX5_gaugeCounts cX5_gaugeCounts 2 (some .boolean), Cond.fieldLink RX5 32 "ColdShips$Ship" "gaugeCentimetres" "[I", Cond.fieldLink RX5 35 "ColdShips$Ship" "gaugeTons" "[I", Cond.methodLink RX3 62 yX4_at, Cond.methodLink RX3 149 yX5_tonsAt, Cond.instanceMethod yX5_tonsAt, Cond.selects RX5 yX5_tonsAt yX5_tonsAt, Cond.code yX5_tonsAt cX5_tonsAt 6 (some .long), Cond.methodLink RX3 66 yX10_billedOf, Cond.instanceMethod yX10_billedOf, Cond.selects RX10 yX10_billedOf yX10_billedOf, Cond.code yX10_billedOf cX10_billedOf 4 (some .long), Cond.fieldLink RX10 70 "ColdShips$World" "landings" "LColdShips$Rows;", Cond.constantLong RX10 91 (-1), Cond.methodLink RX10 87 yX4_at]
def wsX3_claimOf_r3 : List Cond := [Cond.methodLink RX3 94 yX10_priceOf, Cond.instanceMethod yX10_priceOf, Cond.selects RX10 yX10_priceOf yX10_priceOf, Cond.code yX10_priceOf cX10_priceOf 12 (some .long), Cond.constantLong RX10 103 (24), Cond.fieldLink RX10 63 "ColdShips$World" "prices" "LColdShips$Rows;"]
def wsX3_claimOf : List Cond := .code yX3_claimOf cX3_claimOf 5 (some .long) :: ((wsX3_claimOf_r1 ++ (wsX3_claimOf_r2 ++ wsX3_claimOf_r3)) ++ wsX30 ++ wsX100 ++ wsX40 ++ wsX50)
set_option maxRecDepth 20000 in
theorem ggX3_reckon_X3_findFacts : GoodIn wsX3_reckon wsX3_findFacts := goodIn_r _ [7, 8, 9, 10, 11, 12, 13, 14, 15, 16, 17, 18, 19, 20, 21, 22, 23, 24, 25, 26, 27, 28, 29, 30, 31, 32, 33, 34, 35, 36, 37, 38, 39, 40, 41, 42, 43, 44, 45, 46, 47, 48, 49, 50, 51, 52, 53, 54, 55, 56, 57, 58, 86, 87, 88, 89, 90, 91, 97, 98, 99, 100, 101, 102, 103, 104, 105, 106, 107, 108, 109, 110, 111, 112, 113, 114, 115, 92, 93, 94, 95, 96, 116, 117, 118, 119, 120, 121, 122, 123, 124, 125, 126, 127, 128, 129] (by decide +kernel) (by decide +kernel)
set_option maxRecDepth 20000 in
theorem gX3_reckon_X3_findFacts : GoodIn wsX3_reckon (wsV RX3 29 RX3 yX3_findFacts wsX3_findFacts) := goodIn_app (goodIn_of _ (by decide +kernel)) ggX3_reckon_X3_findFacts
set_option maxRecDepth 20000 in
theorem ggX3_reckon_X3_runClause : GoodIn wsX3_reckon wsX3_runClause := goodIn_r _ [62, 63, 64, 51, 12, 52, 10, 11, 13, 9, 1, 2, 65, 66, 67, 6, 68, 69, 70, 71, 72, 73, 74, 75, 76, 77, 78, 79, 80, 81, 82, 83, 84, 85, 86, 87, 88, 89, 90, 91] (by decide +kernel) (by decide +kernel)
set_option maxRecDepth 20000 in
theorem gX3_reckon_X3_runClause : GoodIn wsX3_reckon (wsV RX3 42 RX3 yX3_runClause wsX3_runClause) := goodIn_app (goodIn_of _ (by decide +kernel)) ggX3_reckon_X3_runClause
theorem dX3_reckon_0 : decode cX3_reckon 0 = .ok (.aload_n 0, 1) := by decide +kernel
theorem dX3_reckon_1 : decode cX3_reckon 1 = .ok (.lconst 0, 1) := by decide +kernel
theorem dX3_reckon_2 : decode cX3_reckon 2 = .ok (.putfield 22, 3) := by decide +kernel
theorem dX3_reckon_5 : decode cX3_reckon 5 = .ok (.aload_n 0, 1) := by decide +kernel
theorem dX3_reckon_6 : decode cX3_reckon 6 = .ok (.lconst 0, 1) := by decide +kernel
theorem dX3_reckon_7 : decode cX3_reckon 7 = .ok (.putfield 26, 3) := by decide +kernel
theorem dX3_reckon_10 : decode cX3_reckon 10 = .ok (.aload_n 0, 1) := by decide +kernel
theorem dX3_reckon_11 : decode cX3_reckon 11 = .ok (.iload_n 1, 1) := by decide +kernel
theorem dX3_reckon_12 : decode cX3_reckon 12 = .ok (.aload_n 2, 1) := by decide +kernel
theorem dX3_reckon_13 : decode cX3_reckon 13 = .ok (.iload_n 3, 1) := by decide +kernel
theorem dX3_reckon_14 : decode cX3_reckon 14 = .ok (.invokevirtual 29, 3) := by decide +kernel
theorem dX3_reckon_17 : decode cX3_reckon 17 = .ok (.iconst 0, 1) := by decide +kernel
theorem dX3_reckon_18 : decode cX3_reckon 18 = .ok (.istore 4, 2) := by decide +kernel
theorem dX3_reckon_20 : decode cX3_reckon 20 = .ok (.iload 4, 2) := by decide +kernel
theorem dX3_reckon_22 : decode cX3_reckon 22 = .ok (.iconst 1, 1) := by decide +kernel
theorem dX3_reckon_23 : decode cX3_reckon 23 = .ok (.iadd, 1) := by decide +kernel
theorem dX3_reckon_24 : decode cX3_reckon 24 = .ok (.aload_n 2, 1) := by decide +kernel
theorem dX3_reckon_25 : decode cX3_reckon 25 = .ok (.getfield 33, 3) := by decide +kernel
theorem dX3_reckon_28 : decode cX3_reckon 28 = .ok (.arraylength, 1) := by decide +kernel
theorem dX3_reckon_29 : decode cX3_reckon 29 = .ok (.if_icmp .ge 33, 3) := by decide +kernel
theorem dX3_reckon_32 : decode cX3_reckon 32 = .ok (.aload_n 0, 1) := by decide +kernel
theorem dX3_reckon_33 : decode cX3_reckon 33 = .ok (.aload_n 2, 1) := by decide +kernel
theorem dX3_reckon_34 : decode cX3_reckon 34 = .ok (.getfield 39, 3) := by decide +kernel
theorem dX3_reckon_37 : decode cX3_reckon 37 = .ok (.aload_n 2, 1) := by decide +kernel
theorem dX3_reckon_38 : decode cX3_reckon 38 = .ok (.getfield 33, 3) := by decide +kernel
theorem dX3_reckon_41 : decode cX3_reckon 41 = .ok (.iload 4, 2) := by decide +kernel
theorem dX3_reckon_43 : decode cX3_reckon 43 = .ok (.iaload, 1) := by decide +kernel
theorem dX3_reckon_44 : decode cX3_reckon 44 = .ok (.aload_n 2, 1) := by decide +kernel
theorem dX3_reckon_45 : decode cX3_reckon 45 = .ok (.getfield 33, 3) := by decide +kernel
theorem dX3_reckon_48 : decode cX3_reckon 48 = .ok (.iload 4, 2) := by decide +kernel
theorem dX3_reckon_50 : decode cX3_reckon 50 = .ok (.iconst 1, 1) := by decide +kernel
theorem dX3_reckon_51 : decode cX3_reckon 51 = .ok (.iadd, 1) := by decide +kernel
theorem dX3_reckon_52 : decode cX3_reckon 52 = .ok (.iaload, 1) := by decide +kernel
theorem dX3_reckon_53 : decode cX3_reckon 53 = .ok (.invokevirtual 42, 3) := by decide +kernel
theorem dX3_reckon_56 : decode cX3_reckon 56 = .ok (.iinc 4 1, 3) := by decide +kernel
theorem dX3_reckon_59 : decode cX3_reckon 59 = .ok (.goto (-39), 3) := by decide +kernel
theorem dX3_reckon_62 : decode cX3_reckon 62 = .ok (.return_, 1) := by decide +kernel
set_option maxRecDepth 20000 in
theorem ggX3_findFacts_X4_number : GoodIn wsX3_findFacts wsX4_number := goodIn_r _ [11, 12, 13, 14, 10, 15, 16, 17, 18, 82, 83, 84] (by decide +kernel) (by decide +kernel)
set_option maxRecDepth 20000 in
theorem gX3_findFacts_X4_number : GoodIn wsX3_findFacts (wsV RX3 52 RX4 yX4_number wsX4_number) := goodIn_app (goodIn_of _ (by decide +kernel)) ggX3_findFacts_X4_number
set_option maxRecDepth 20000 in
theorem ggX3_findFacts_X4_at : GoodIn wsX3_findFacts wsX4_at := goodIn_r _ [15, 16, 17, 18, 82, 83, 84] (by decide +kernel) (by decide +kernel)
set_option maxRecDepth 20000 in
theorem gX3_findFacts_X4_at : GoodIn wsX3_findFacts (wsV RX3 62 RX4 yX4_at wsX4_at) := goodIn_app (goodIn_of _ (by decide +kernel)) ggX3_findFacts_X4_at
set_option maxRecDepth 20000 in
theorem ggX3_findFacts_X10_billedOf : GoodIn wsX3_findFacts wsX10_billedOf := goodIn_r _ [24, 25, 26, 27, 13, 14, 10, 15, 16, 17, 18, 58, 59, 60, 61, 62, 63, 64, 65, 66, 67, 68, 69, 70, 71, 72, 73, 74, 75, 76, 82, 83, 84] (by decide +kernel) (by decide +kernel)
set_option maxRecDepth 20000 in
theorem gX3_findFacts_X10_billedOf : GoodIn wsX3_findFacts (wsV RX3 66 RX10 yX10_billedOf wsX10_billedOf) := goodIn_app (goodIn_of _ (by decide +kernel)) ggX3_findFacts_X10_billedOf
set_option maxRecDepth 20000 in
theorem ggX3_findFacts_X10_heatOf : GoodIn wsX3_findFacts wsX10_heatOf := goodIn_r _ [31, 25, 32, 27, 13, 14, 10, 15, 16, 17, 18, 58, 59, 60, 61, 62, 63, 64, 65, 66, 67, 68, 69, 70, 71, 72, 73, 74, 75, 76, 85, 86, 87, 88, 89, 90, 91, 82, 83, 84] (by decide +kernel) (by decide +kernel)
set_option maxRecDepth 20000 in
theorem gX3_findFacts_X10_heatOf : GoodIn wsX3_findFacts (wsV RX3 70 RX10 yX10_heatOf wsX10_heatOf) := goodIn_app (goodIn_of _ (by decide +kernel)) ggX3_findFacts_X10_heatOf
set_option maxRecDepth 20000 in
theorem ggX3_findFacts_X6_freeHours : GoodIn wsX3_findFacts wsX6_freeHours := goodIn_r _ [37, 38, 4, 5, 6, 39, 40, 41, 42, 43, 44, 45, 92, 93, 94, 95] (by decide +kernel) (by decide +kernel)
set_option maxRecDepth 20000 in
theorem gX3_findFacts_X6_freeHours : GoodIn wsX3_findFacts (wsV RX3 80 RX6 yX6_freeHours wsX6_freeHours) := goodIn_app (goodIn_of _ (by decide +kernel)) ggX3_findFacts_X6_freeHours
set_option maxRecDepth 20000 in
theorem ggX3_findFacts_X10_priceOf : GoodIn wsX3_findFacts wsX10_priceOf := goodIn_r _ [49, 25, 50, 26, 51, 27, 13, 14, 10, 15, 16, 17, 18, 58, 59, 60, 61, 62, 63, 64, 65, 66, 67, 68, 69, 70, 71, 72, 73, 74, 75, 76, 82, 83, 84] (by decide +kernel) (by decide +kernel)
set_option maxRecDepth 20000 in
theorem gX3_findFacts_X10_priceOf : GoodIn wsX3_findFacts (wsV RX3 94 RX10 yX10_priceOf wsX10_priceOf) := goodIn_app (goodIn_of _ (by decide +kernel)) ggX3_findFacts_X10_priceOf
theorem dX3_findFacts_0 : decode cX3_findFacts 0 = .ok (.aload_n 0, 1) := by decide +kernel
theorem dX3_findFacts_1 : decode cX3_findFacts 1 = .ok (.getfield 18, 3) := by decide +kernel
theorem dX3_findFacts_4 : decode cX3_findFacts 4 = .ok (.getfield 46, 3) := by decide +kernel
theorem dX3_findFacts_7 : decode cX3_findFacts 7 = .ok (.iload_n 1, 1) := by decide +kernel
theorem dX3_findFacts_8 : decode cX3_findFacts 8 = .ok (.iconst 2, 1) := by decide +kernel
theorem dX3_findFacts_9 : decode cX3_findFacts 9 = .ok (.invokevirtual 52, 3) := by decide +kernel
theorem dX3_findFacts_12 : decode cX3_findFacts 12 = .ok (.istore 4, 2) := by decide +kernel
theorem dX3_findFacts_14 : decode cX3_findFacts 14 = .ok (.aload_n 0, 1) := by decide +kernel
theorem dX3_findFacts_15 : decode cX3_findFacts 15 = .ok (.getfield 18, 3) := by decide +kernel
theorem dX3_findFacts_18 : decode cX3_findFacts 18 = .ok (.getfield 46, 3) := by decide +kernel
theorem dX3_findFacts_21 : decode cX3_findFacts 21 = .ok (.iload_n 1, 1) := by decide +kernel
theorem dX3_findFacts_22 : decode cX3_findFacts 22 = .ok (.iconst 3, 1) := by decide +kernel
theorem dX3_findFacts_23 : decode cX3_findFacts 23 = .ok (.invokevirtual 52, 3) := by decide +kernel
theorem dX3_findFacts_26 : decode cX3_findFacts 26 = .ok (.istore 5, 2) := by decide +kernel
theorem dX3_findFacts_28 : decode cX3_findFacts 28 = .ok (.aload_n 2, 1) := by decide +kernel
theorem dX3_findFacts_29 : decode cX3_findFacts 29 = .ok (.getfield 58, 3) := by decide +kernel
theorem dX3_findFacts_32 : decode cX3_findFacts 32 = .ok (.aload_n 0, 1) := by decide +kernel
theorem dX3_findFacts_33 : decode cX3_findFacts 33 = .ok (.getfield 18, 3) := by decide +kernel
theorem dX3_findFacts_36 : decode cX3_findFacts 36 = .ok (.getfield 46, 3) := by decide +kernel
theorem dX3_findFacts_39 : decode cX3_findFacts 39 = .ok (.iload_n 1, 1) := by decide +kernel
theorem dX3_findFacts_40 : decode cX3_findFacts 40 = .ok (.iconst 1, 1) := by decide +kernel
theorem dX3_findFacts_41 : decode cX3_findFacts 41 = .ok (.invokevirtual 52, 3) := by decide +kernel
theorem dX3_findFacts_44 : decode cX3_findFacts 44 = .ok (.if_icmp .eq 7, 3) := by decide +kernel
theorem dX3_findFacts_47 : decode cX3_findFacts 47 = .ok (.iconst 1, 1) := by decide +kernel
theorem dX3_findFacts_48 : decode cX3_findFacts 48 = .ok (.goto 4, 3) := by decide +kernel
theorem dX3_findFacts_51 : decode cX3_findFacts 51 = .ok (.iconst 0, 1) := by decide +kernel
theorem dX3_findFacts_52 : decode cX3_findFacts 52 = .ok (.istore 6, 2) := by decide +kernel
theorem dX3_findFacts_54 : decode cX3_findFacts 54 = .ok (.aload_n 0, 1) := by decide +kernel
theorem dX3_findFacts_55 : decode cX3_findFacts 55 = .ok (.getfield 9, 3) := by decide +kernel
theorem dX3_findFacts_58 : decode cX3_findFacts 58 = .ok (.iconst 0, 1) := by decide +kernel
theorem dX3_findFacts_59 : decode cX3_findFacts 59 = .ok (.aload_n 0, 1) := by decide +kernel
theorem dX3_findFacts_60 : decode cX3_findFacts 60 = .ok (.getfield 18, 3) := by decide +kernel
theorem dX3_findFacts_63 : decode cX3_findFacts 63 = .ok (.getfield 46, 3) := by decide +kernel
theorem dX3_findFacts_66 : decode cX3_findFacts 66 = .ok (.iload_n 1, 1) := by decide +kernel
theorem dX3_findFacts_67 : decode cX3_findFacts 67 = .ok (.iconst 4, 1) := by decide +kernel
theorem dX3_findFacts_68 : decode cX3_findFacts 68 = .ok (.invokevirtual 62, 3) := by decide +kernel
theorem dX3_findFacts_71 : decode cX3_findFacts 71 = .ok (.lastore, 1) := by decide +kernel
theorem dX3_findFacts_72 : decode cX3_findFacts 72 = .ok (.aload_n 0, 1) := by decide +kernel
theorem dX3_findFacts_73 : decode cX3_findFacts 73 = .ok (.getfield 9, 3) := by decide +kernel
theorem dX3_findFacts_76 : decode cX3_findFacts 76 = .ok (.iconst 1, 1) := by decide +kernel
theorem dX3_findFacts_77 : decode cX3_findFacts 77 = .ok (.aload_n 0, 1) := by decide +kernel
theorem dX3_findFacts_78 : decode cX3_findFacts 78 = .ok (.getfield 18, 3) := by decide +kernel
theorem dX3_findFacts_81 : decode cX3_findFacts 81 = .ok (.iload_n 1, 1) := by decide +kernel
theorem dX3_findFacts_82 : decode cX3_findFacts 82 = .ok (.invokevirtual 66, 3) := by decide +kernel
theorem dX3_findFacts_85 : decode cX3_findFacts 85 = .ok (.lastore, 1) := by decide +kernel
theorem dX3_findFacts_86 : decode cX3_findFacts 86 = .ok (.aload_n 0, 1) := by decide +kernel
theorem dX3_findFacts_87 : decode cX3_findFacts 87 = .ok (.getfield 9, 3) := by decide +kernel
theorem dX3_findFacts_90 : decode cX3_findFacts 90 = .ok (.iconst 2, 1) := by decide +kernel
theorem dX3_findFacts_91 : decode cX3_findFacts 91 = .ok (.aload_n 0, 1) := by decide +kernel
theorem dX3_findFacts_92 : decode cX3_findFacts 92 = .ok (.getfield 18, 3) := by decide +kernel
theorem dX3_findFacts_95 : decode cX3_findFacts 95 = .ok (.iload_n 1, 1) := by decide +kernel
theorem dX3_findFacts_96 : decode cX3_findFacts 96 = .ok (.invokevirtual 70, 3) := by decide +kernel
theorem dX3_findFacts_99 : decode cX3_findFacts 99 = .ok (.lastore, 1) := by decide +kernel
theorem dX3_findFacts_100 : decode cX3_findFacts 100 = .ok (.aload_n 0, 1) := by decide +kernel
theorem dX3_findFacts_101 : decode cX3_findFacts 101 = .ok (.getfield 9, 3) := by decide +kernel
theorem dX3_findFacts_104 : decode cX3_findFacts 104 = .ok (.iconst 3, 1) := by decide +kernel
theorem dX3_findFacts_105 : decode cX3_findFacts 105 = .ok (.aload_n 0, 1) := by decide +kernel
theorem dX3_findFacts_106 : decode cX3_findFacts 106 = .ok (.getfield 18, 3) := by decide +kernel
theorem dX3_findFacts_109 : decode cX3_findFacts 109 = .ok (.getfield 73, 3) := by decide +kernel
theorem dX3_findFacts_112 : decode cX3_findFacts 112 = .ok (.iconst 0, 1) := by decide +kernel
theorem dX3_findFacts_113 : decode cX3_findFacts 113 = .ok (.iload_n 3, 1) := by decide +kernel
theorem dX3_findFacts_114 : decode cX3_findFacts 114 = .ok (.aload_n 2, 1) := by decide +kernel
theorem dX3_findFacts_115 : decode cX3_findFacts 115 = .ok (.getfield 77, 3) := by decide +kernel
theorem dX3_findFacts_118 : decode cX3_findFacts 118 = .ok (.iconst 1, 1) := by decide +kernel
theorem dX3_findFacts_119 : decode cX3_findFacts 119 = .ok (.iadd, 1) := by decide +kernel
theorem dX3_findFacts_120 : decode cX3_findFacts 120 = .ok (.iload 5, 2) := by decide +kernel
theorem dX3_findFacts_122 : decode cX3_findFacts 122 = .ok (.invokevirtual 80, 3) := by decide +kernel
theorem dX3_findFacts_125 : decode cX3_findFacts 125 = .ok (.i2l, 1) := by decide +kernel
theorem dX3_findFacts_126 : decode cX3_findFacts 126 = .ok (.lastore, 1) := by decide +kernel
theorem dX3_findFacts_127 : decode cX3_findFacts 127 = .ok (.aload_n 0, 1) := by decide +kernel
theorem dX3_findFacts_128 : decode cX3_findFacts 128 = .ok (.getfield 9, 3) := by decide +kernel
theorem dX3_findFacts_131 : decode cX3_findFacts 131 = .ok (.iconst 4, 1) := by decide +kernel
theorem dX3_findFacts_132 : decode cX3_findFacts 132 = .ok (.iconst 0, 1) := by decide +kernel
theorem dX3_findFacts_133 : decode cX3_findFacts 133 = .ok (.aload_n 2, 1) := by decide +kernel
theorem dX3_findFacts_134 : decode cX3_findFacts 134 = .ok (.getfield 86, 3) := by decide +kernel
theorem dX3_findFacts_137 : decode cX3_findFacts 137 = .ok (.iload 4, 2) := by decide +kernel
theorem dX3_findFacts_139 : decode cX3_findFacts 139 = .ok (.isub, 1) := by decide +kernel
theorem dX3_findFacts_140 : decode cX3_findFacts 140 = .ok (.invokestatic 89, 3) := by decide +kernel
theorem dX3_findFacts_143 : decode cX3_findFacts 143 = .ok (.i2l, 1) := by decide +kernel
theorem dX3_findFacts_144 : decode cX3_findFacts 144 = .ok (.lastore, 1) := by decide +kernel
theorem dX3_findFacts_145 : decode cX3_findFacts 145 = .ok (.aload_n 0, 1) := by decide +kernel
theorem dX3_findFacts_146 : decode cX3_findFacts 146 = .ok (.getfield 9, 3) := by decide +kernel
theorem dX3_findFacts_149 : decode cX3_findFacts 149 = .ok (.iconst 5, 1) := by decide +kernel
theorem dX3_findFacts_150 : decode cX3_findFacts 150 = .ok (.aload_n 0, 1) := by decide +kernel
theorem dX3_findFacts_151 : decode cX3_findFacts 151 = .ok (.getfield 18, 3) := by decide +kernel
theorem dX3_findFacts_154 : decode cX3_findFacts 154 = .ok (.iload_n 1, 1) := by decide +kernel
theorem dX3_findFacts_155 : decode cX3_findFacts 155 = .ok (.iload_n 3, 1) := by decide +kernel
theorem dX3_findFacts_156 : decode cX3_findFacts 156 = .ok (.invokevirtual 94, 3) := by decide +kernel
theorem dX3_findFacts_159 : decode cX3_findFacts 159 = .ok (.lastore, 1) := by decide +kernel
theorem dX3_findFacts_160 : decode cX3_findFacts 160 = .ok (.aload_n 0, 1) := by decide +kernel
theorem dX3_findFacts_161 : decode cX3_findFacts 161 = .ok (.getfield 9, 3) := by decide +kernel
theorem dX3_findFacts_164 : decode cX3_findFacts 164 = .ok (.bipush 6, 2) := by decide +kernel
theorem dX3_findFacts_166 : decode cX3_findFacts 166 = .ok (.iload 5, 2) := by decide +kernel
theorem dX3_findFacts_168 : decode cX3_findFacts 168 = .ok (.iload 4, 2) := by decide +kernel
theorem dX3_findFacts_170 : decode cX3_findFacts 170 = .ok (.isub, 1) := by decide +kernel
theorem dX3_findFacts_171 : decode cX3_findFacts 171 = .ok (.iconst 1, 1) := by decide +kernel
theorem dX3_findFacts_172 : decode cX3_findFacts 172 = .ok (.iadd, 1) := by decide +kernel
theorem dX3_findFacts_173 : decode cX3_findFacts 173 = .ok (.i2l, 1) := by decide +kernel
theorem dX3_findFacts_174 : decode cX3_findFacts 174 = .ok (.lastore, 1) := by decide +kernel
theorem dX3_findFacts_175 : decode cX3_findFacts 175 = .ok (.aload_n 0, 1) := by decide +kernel
theorem dX3_findFacts_176 : decode cX3_findFacts 176 = .ok (.getfield 9, 3) := by decide +kernel
theorem dX3_findFacts_179 : decode cX3_findFacts 179 = .ok (.bipush 7, 2) := by decide +kernel
theorem dX3_findFacts_181 : decode cX3_findFacts 181 = .ok (.iload 6, 2) := by decide +kernel
theorem dX3_findFacts_183 : decode cX3_findFacts 183 = .ok (.ifCond .eq 7, 3) := by decide +kernel
theorem dX3_findFacts_186 : decode cX3_findFacts 186 = .ok (.lconst 1, 1) := by decide +kernel
theorem dX3_findFacts_187 : decode cX3_findFacts 187 = .ok (.goto 4, 3) := by decide +kernel
theorem dX3_findFacts_190 : decode cX3_findFacts 190 = .ok (.lconst 0, 1) := by decide +kernel
theorem dX3_findFacts_191 : decode cX3_findFacts 191 = .ok (.lastore, 1) := by decide +kernel
theorem dX3_findFacts_192 : decode cX3_findFacts 192 = .ok (.return_, 1) := by decide +kernel
set_option maxRecDepth 20000 in
theorem ggX3_runClause_X3_push : GoodIn wsX3_runClause wsX3_push := goodIn_r _ [16, 1, 17, 34, 35, 36, 37, 38, 39] (by decide +kernel) (by decide +kernel)
set_option maxRecDepth 20000 in
theorem gX3_runClause_X3_push : GoodIn wsX3_runClause (wsV RX3 103 RX3 yX3_push wsX3_push) := goodIn_app (goodIn_of _ (by decide +kernel)) ggX3_runClause_X3_push
set_option maxRecDepth 20000 in
theorem ggX3_runClause_X3_pop : GoodIn wsX3_runClause wsX3_pop := goodIn_r _ [21, 1, 17, 34, 35, 36, 37, 38, 39] (by decide +kernel) (by decide +kernel)
set_option maxRecDepth 20000 in
theorem gX3_runClause_X3_pop : GoodIn wsX3_runClause (wsV RX3 107 RX3 yX3_pop wsX3_pop) := goodIn_app (goodIn_of _ (by decide +kernel)) ggX3_runClause_X3_pop
set_option maxRecDepth 20000 in
theorem ggX3_runClause_X3_combine : GoodIn wsX3_runClause wsX3_combine := goodIn_r _ [25, 26, 27, 4, 28, 29, 18, 19, 20, 15, 21, 1, 17, 30, 31, 32, 33, 12, 13, 14, 16, 34, 35, 36, 37, 38, 39] (by decide +kernel) (by decide +kernel)
set_option maxRecDepth 20000 in
theorem gX3_runClause_X3_combine : GoodIn wsX3_runClause (wsV RX3 111 RX3 yX3_combine wsX3_combine) := goodIn_app (goodIn_of _ (by decide +kernel)) ggX3_runClause_X3_combine
theorem dX3_runClause_0 : decode cX3_runClause 0 = .ok (.aload_n 0, 1) := by decide +kernel
theorem dX3_runClause_1 : decode cX3_runClause 1 = .ok (.iconst 0, 1) := by decide +kernel
theorem dX3_runClause_2 : decode cX3_runClause 2 = .ok (.putfield 97, 3) := by decide +kernel
theorem dX3_runClause_5 : decode cX3_runClause 5 = .ok (.iload_n 3, 1) := by decide +kernel
theorem dX3_runClause_6 : decode cX3_runClause 6 = .ok (.aload_n 1, 1) := by decide +kernel
theorem dX3_runClause_7 : decode cX3_runClause 7 = .ok (.arraylength, 1) := by decide +kernel
theorem dX3_runClause_8 : decode cX3_runClause 8 = .ok (.invokestatic 100, 3) := by decide +kernel
theorem dX3_runClause_11 : decode cX3_runClause 11 = .ok (.istore 4, 2) := by decide +kernel
theorem dX3_runClause_13 : decode cX3_runClause 13 = .ok (.iconst 0, 1) := by decide +kernel
theorem dX3_runClause_14 : decode cX3_runClause 14 = .ok (.iload_n 2, 1) := by decide +kernel
theorem dX3_runClause_15 : decode cX3_runClause 15 = .ok (.invokestatic 89, 3) := by decide +kernel
theorem dX3_runClause_18 : decode cX3_runClause 18 = .ok (.istore 5, 2) := by decide +kernel
theorem dX3_runClause_20 : decode cX3_runClause 20 = .ok (.iload 5, 2) := by decide +kernel
theorem dX3_runClause_22 : decode cX3_runClause 22 = .ok (.iload 4, 2) := by decide +kernel
theorem dX3_runClause_24 : decode cX3_runClause 24 = .ok (.if_icmp .ge 268, 3) := by decide +kernel
theorem dX3_runClause_27 : decode cX3_runClause 27 = .ok (.aload_n 1, 1) := by decide +kernel
theorem dX3_runClause_28 : decode cX3_runClause 28 = .ok (.iload 5, 2) := by decide +kernel
theorem dX3_runClause_30 : decode cX3_runClause 30 = .ok (.iaload, 1) := by decide +kernel
theorem dX3_runClause_31 : decode cX3_runClause 31 = .ok (.istore 6, 2) := by decide +kernel
theorem dX3_runClause_33 : decode cX3_runClause 33 = .ok (.iload 6, 2) := by decide +kernel
theorem dX3_runClause_35 : decode cX3_runClause 35 = .ok (.ifCond .lt 13, 3) := by decide +kernel
theorem dX3_runClause_38 : decode cX3_runClause 38 = .ok (.aload_n 0, 1) := by decide +kernel
theorem dX3_runClause_39 : decode cX3_runClause 39 = .ok (.iload 6, 2) := by decide +kernel
theorem dX3_runClause_41 : decode cX3_runClause 41 = .ok (.i2l, 1) := by decide +kernel
theorem dX3_runClause_42 : decode cX3_runClause 42 = .ok (.invokevirtual 103, 3) := by decide +kernel
theorem dX3_runClause_45 : decode cX3_runClause 45 = .ok (.goto 241, 3) := by decide +kernel
theorem dX3_runClause_48 : decode cX3_runClause 48 = .ok (.iload 6, 2) := by decide +kernel
theorem dX3_runClause_50 : decode cX3_runClause 50 = .ok (.bipush (-8), 2) := by decide +kernel
theorem dX3_runClause_52 : decode cX3_runClause 52 = .ok (.if_icmp .lt 19, 3) := by decide +kernel
theorem dX3_runClause_55 : decode cX3_runClause 55 = .ok (.aload_n 0, 1) := by decide +kernel
theorem dX3_runClause_56 : decode cX3_runClause 56 = .ok (.aload_n 0, 1) := by decide +kernel
theorem dX3_runClause_57 : decode cX3_runClause 57 = .ok (.getfield 9, 3) := by decide +kernel
theorem dX3_runClause_60 : decode cX3_runClause 60 = .ok (.iconst (-1), 1) := by decide +kernel
theorem dX3_runClause_61 : decode cX3_runClause 61 = .ok (.iload 6, 2) := by decide +kernel
theorem dX3_runClause_63 : decode cX3_runClause 63 = .ok (.isub, 1) := by decide +kernel
theorem dX3_runClause_64 : decode cX3_runClause 64 = .ok (.laload, 1) := by decide +kernel
theorem dX3_runClause_65 : decode cX3_runClause 65 = .ok (.invokevirtual 103, 3) := by decide +kernel
theorem dX3_runClause_68 : decode cX3_runClause 68 = .ok (.goto 218, 3) := by decide +kernel
theorem dX3_runClause_71 : decode cX3_runClause 71 = .ok (.iload 6, 2) := by decide +kernel
theorem dX3_runClause_73 : decode cX3_runClause 73 = .ok (.bipush (-19), 2) := by decide +kernel
theorem dX3_runClause_75 : decode cX3_runClause 75 = .ok (.if_icmp .eq 10, 3) := by decide +kernel
theorem dX3_runClause_78 : decode cX3_runClause 78 = .ok (.iload 6, 2) := by decide +kernel
theorem dX3_runClause_80 : decode cX3_runClause 80 = .ok (.bipush (-20), 2) := by decide +kernel
theorem dX3_runClause_82 : decode cX3_runClause 82 = .ok (.if_icmp .ne 103, 3) := by decide +kernel
theorem dX3_runClause_85 : decode cX3_runClause 85 = .ok (.aload_n 0, 1) := by decide +kernel
theorem dX3_runClause_86 : decode cX3_runClause 86 = .ok (.invokevirtual 107, 3) := by decide +kernel
theorem dX3_runClause_89 : decode cX3_runClause 89 = .ok (.lconst 0, 1) := by decide +kernel
theorem dX3_runClause_90 : decode cX3_runClause 90 = .ok (.lcmp, 1) := by decide +kernel
theorem dX3_runClause_91 : decode cX3_runClause 91 = .ok (.ifCond .eq 7, 3) := by decide +kernel
theorem dX3_runClause_94 : decode cX3_runClause 94 = .ok (.iconst 1, 1) := by decide +kernel
theorem dX3_runClause_95 : decode cX3_runClause 95 = .ok (.goto 4, 3) := by decide +kernel
theorem dX3_runClause_98 : decode cX3_runClause 98 = .ok (.iconst 0, 1) := by decide +kernel
theorem dX3_runClause_99 : decode cX3_runClause 99 = .ok (.istore 7, 2) := by decide +kernel
theorem dX3_runClause_101 : decode cX3_runClause 101 = .ok (.iload 7, 2) := by decide +kernel
theorem dX3_runClause_103 : decode cX3_runClause 103 = .ok (.iload 6, 2) := by decide +kernel
theorem dX3_runClause_105 : decode cX3_runClause 105 = .ok (.bipush (-19), 2) := by decide +kernel
theorem dX3_runClause_107 : decode cX3_runClause 107 = .ok (.if_icmp .ne 7, 3) := by decide +kernel
theorem dX3_runClause_110 : decode cX3_runClause 110 = .ok (.iconst 1, 1) := by decide +kernel
theorem dX3_runClause_111 : decode cX3_runClause 111 = .ok (.goto 4, 3) := by decide +kernel
theorem dX3_runClause_114 : decode cX3_runClause 114 = .ok (.iconst 0, 1) := by decide +kernel
theorem dX3_runClause_115 : decode cX3_runClause 115 = .ok (.if_icmp .ne 7, 3) := by decide +kernel
theorem dX3_runClause_118 : decode cX3_runClause 118 = .ok (.iconst 1, 1) := by decide +kernel
theorem dX3_runClause_119 : decode cX3_runClause 119 = .ok (.goto 4, 3) := by decide +kernel
theorem dX3_runClause_122 : decode cX3_runClause 122 = .ok (.iconst 0, 1) := by decide +kernel
theorem dX3_runClause_123 : decode cX3_runClause 123 = .ok (.istore 8, 2) := by decide +kernel
theorem dX3_runClause_125 : decode cX3_runClause 125 = .ok (.iload 8, 2) := by decide +kernel
theorem dX3_runClause_127 : decode cX3_runClause 127 = .ok (.ifCond .eq 17, 3) := by decide +kernel
theorem dX3_runClause_130 : decode cX3_runClause 130 = .ok (.aload_n 0, 1) := by decide +kernel
theorem dX3_runClause_131 : decode cX3_runClause 131 = .ok (.iload 7, 2) := by decide +kernel
theorem dX3_runClause_133 : decode cX3_runClause 133 = .ok (.ifCond .eq 7, 3) := by decide +kernel
theorem dX3_runClause_136 : decode cX3_runClause 136 = .ok (.lconst 1, 1) := by decide +kernel
theorem dX3_runClause_137 : decode cX3_runClause 137 = .ok (.goto 4, 3) := by decide +kernel
theorem dX3_runClause_140 : decode cX3_runClause 140 = .ok (.lconst 0, 1) := by decide +kernel
theorem dX3_runClause_141 : decode cX3_runClause 141 = .ok (.invokevirtual 103, 3) := by decide +kernel
theorem dX3_runClause_144 : decode cX3_runClause 144 = .ok (.iload 8, 2) := by decide +kernel
theorem dX3_runClause_146 : decode cX3_runClause 146 = .ok (.ifCond .eq 30, 3) := by decide +kernel
theorem dX3_runClause_149 : decode cX3_runClause 149 = .ok (.iload 5, 2) := by decide +kernel
theorem dX3_runClause_151 : decode cX3_runClause 151 = .ok (.iconst 1, 1) := by decide +kernel
theorem dX3_runClause_152 : decode cX3_runClause 152 = .ok (.iadd, 1) := by decide +kernel
theorem dX3_runClause_153 : decode cX3_runClause 153 = .ok (.iload 4, 2) := by decide +kernel
theorem dX3_runClause_155 : decode cX3_runClause 155 = .ok (.if_icmp .ge 21, 3) := by decide +kernel
theorem dX3_runClause_158 : decode cX3_runClause 158 = .ok (.iload 5, 2) := by decide +kernel
theorem dX3_runClause_160 : decode cX3_runClause 160 = .ok (.iconst 1, 1) := by decide +kernel
theorem dX3_runClause_161 : decode cX3_runClause 161 = .ok (.iadd, 1) := by decide +kernel
theorem dX3_runClause_162 : decode cX3_runClause 162 = .ok (.aload_n 1, 1) := by decide +kernel
theorem dX3_runClause_163 : decode cX3_runClause 163 = .ok (.iload 5, 2) := by decide +kernel
theorem dX3_runClause_165 : decode cX3_runClause 165 = .ok (.iconst 1, 1) := by decide +kernel
theorem dX3_runClause_166 : decode cX3_runClause 166 = .ok (.iadd, 1) := by decide +kernel
theorem dX3_runClause_167 : decode cX3_runClause 167 = .ok (.iaload, 1) := by decide +kernel
theorem dX3_runClause_168 : decode cX3_runClause 168 = .ok (.iconst 1, 1) := by decide +kernel
theorem dX3_runClause_169 : decode cX3_runClause 169 = .ok (.isub, 1) := by decide +kernel
theorem dX3_runClause_170 : decode cX3_runClause 170 = .ok (.invokestatic 89, 3) := by decide +kernel
theorem dX3_runClause_173 : decode cX3_runClause 173 = .ok (.goto 7, 3) := by decide +kernel
theorem dX3_runClause_176 : decode cX3_runClause 176 = .ok (.iload 5, 2) := by decide +kernel
theorem dX3_runClause_178 : decode cX3_runClause 178 = .ok (.iconst 1, 1) := by decide +kernel
theorem dX3_runClause_179 : decode cX3_runClause 179 = .ok (.iadd, 1) := by decide +kernel
theorem dX3_runClause_180 : decode cX3_runClause 180 = .ok (.istore 5, 2) := by decide +kernel
theorem dX3_runClause_182 : decode cX3_runClause 182 = .ok (.goto 104, 3) := by decide +kernel
theorem dX3_runClause_185 : decode cX3_runClause 185 = .ok (.iload 6, 2) := by decide +kernel
theorem dX3_runClause_187 : decode cX3_runClause 187 = .ok (.bipush (-18), 2) := by decide +kernel
theorem dX3_runClause_189 : decode cX3_runClause 189 = .ok (.if_icmp .ne 24, 3) := by decide +kernel
theorem dX3_runClause_192 : decode cX3_runClause 192 = .ok (.aload_n 0, 1) := by decide +kernel
theorem dX3_runClause_193 : decode cX3_runClause 193 = .ok (.aload_n 0, 1) := by decide +kernel
theorem dX3_runClause_194 : decode cX3_runClause 194 = .ok (.invokevirtual 107, 3) := by decide +kernel
theorem dX3_runClause_197 : decode cX3_runClause 197 = .ok (.lconst 0, 1) := by decide +kernel
theorem dX3_runClause_198 : decode cX3_runClause 198 = .ok (.lcmp, 1) := by decide +kernel
theorem dX3_runClause_199 : decode cX3_runClause 199 = .ok (.ifCond .ne 7, 3) := by decide +kernel
theorem dX3_runClause_202 : decode cX3_runClause 202 = .ok (.lconst 1, 1) := by decide +kernel
theorem dX3_runClause_203 : decode cX3_runClause 203 = .ok (.goto 4, 3) := by decide +kernel
theorem dX3_runClause_206 : decode cX3_runClause 206 = .ok (.lconst 0, 1) := by decide +kernel
theorem dX3_runClause_207 : decode cX3_runClause 207 = .ok (.invokevirtual 103, 3) := by decide +kernel
theorem dX3_runClause_210 : decode cX3_runClause 210 = .ok (.goto 76, 3) := by decide +kernel
theorem dX3_runClause_213 : decode cX3_runClause 213 = .ok (.iload 6, 2) := by decide +kernel
theorem dX3_runClause_215 : decode cX3_runClause 215 = .ok (.bipush (-21), 2) := by decide +kernel
theorem dX3_runClause_217 : decode cX3_runClause 217 = .ok (.if_icmp .ne 13, 3) := by decide +kernel
theorem dX3_runClause_220 : decode cX3_runClause 220 = .ok (.aload_n 0, 1) := by decide +kernel
theorem dX3_runClause_221 : decode cX3_runClause 221 = .ok (.invokevirtual 107, 3) := by decide +kernel
theorem dX3_runClause_224 : decode cX3_runClause 224 = .ok (.lconst 0, 1) := by decide +kernel
theorem dX3_runClause_225 : decode cX3_runClause 225 = .ok (.lcmp, 1) := by decide +kernel
theorem dX3_runClause_226 : decode cX3_runClause 226 = .ok (.ifCond .ne 60, 3) := by decide +kernel
theorem dX3_runClause_229 : decode cX3_runClause 229 = .ok (.return_, 1) := by decide +kernel
theorem dX3_runClause_230 : decode cX3_runClause 230 = .ok (.iload 6, 2) := by decide +kernel
theorem dX3_runClause_232 : decode cX3_runClause 232 = .ok (.bipush (-22), 2) := by decide +kernel
theorem dX3_runClause_234 : decode cX3_runClause 234 = .ok (.if_icmp .ne 19, 3) := by decide +kernel
theorem dX3_runClause_237 : decode cX3_runClause 237 = .ok (.aload_n 0, 1) := by decide +kernel
theorem dX3_runClause_238 : decode cX3_runClause 238 = .ok (.dup, 1) := by decide +kernel
theorem dX3_runClause_239 : decode cX3_runClause 239 = .ok (.getfield 22, 3) := by decide +kernel
theorem dX3_runClause_242 : decode cX3_runClause 242 = .ok (.aload_n 0, 1) := by decide +kernel
theorem dX3_runClause_243 : decode cX3_runClause 243 = .ok (.invokevirtual 107, 3) := by decide +kernel
theorem dX3_runClause_246 : decode cX3_runClause 246 = .ok (.ladd, 1) := by decide +kernel
theorem dX3_runClause_247 : decode cX3_runClause 247 = .ok (.putfield 22, 3) := by decide +kernel
theorem dX3_runClause_250 : decode cX3_runClause 250 = .ok (.goto 36, 3) := by decide +kernel
theorem dX3_runClause_253 : decode cX3_runClause 253 = .ok (.iload 6, 2) := by decide +kernel
theorem dX3_runClause_255 : decode cX3_runClause 255 = .ok (.bipush (-23), 2) := by decide +kernel
theorem dX3_runClause_257 : decode cX3_runClause 257 = .ok (.if_icmp .ne 19, 3) := by decide +kernel
theorem dX3_runClause_260 : decode cX3_runClause 260 = .ok (.aload_n 0, 1) := by decide +kernel
theorem dX3_runClause_261 : decode cX3_runClause 261 = .ok (.dup, 1) := by decide +kernel
theorem dX3_runClause_262 : decode cX3_runClause 262 = .ok (.getfield 26, 3) := by decide +kernel
theorem dX3_runClause_265 : decode cX3_runClause 265 = .ok (.aload_n 0, 1) := by decide +kernel
theorem dX3_runClause_266 : decode cX3_runClause 266 = .ok (.invokevirtual 107, 3) := by decide +kernel
theorem dX3_runClause_269 : decode cX3_runClause 269 = .ok (.ladd, 1) := by decide +kernel
theorem dX3_runClause_270 : decode cX3_runClause 270 = .ok (.putfield 26, 3) := by decide +kernel
theorem dX3_runClause_273 : decode cX3_runClause 273 = .ok (.goto 13, 3) := by decide +kernel
theorem dX3_runClause_276 : decode cX3_runClause 276 = .ok (.aload_n 0, 1) := by decide +kernel
theorem dX3_runClause_277 : decode cX3_runClause 277 = .ok (.iload 6, 2) := by decide +kernel
theorem dX3_runClause_279 : decode cX3_runClause 279 = .ok (.invokevirtual 111, 3) := by decide +kernel
theorem dX3_runClause_282 : decode cX3_runClause 282 = .ok (.ifCond .ne 4, 3) := by decide +kernel
theorem dX3_runClause_285 : decode cX3_runClause 285 = .ok (.return_, 1) := by decide +kernel
theorem dX3_runClause_286 : decode cX3_runClause 286 = .ok (.iinc 5 1, 3) := by decide +kernel
theorem dX3_runClause_289 : decode cX3_runClause 289 = .ok (.goto (-269), 3) := by decide +kernel
theorem dX3_runClause_292 : decode cX3_runClause 292 = .ok (.return_, 1) := by decide +kernel
set_option maxRecDepth 20000 in
theorem ggX3_combine_X3_pop : GoodIn wsX3_combine wsX3_pop := goodIn_r _ [10, 11, 12, 21, 22, 23, 24, 25, 26] (by decide +kernel) (by decide +kernel)
set_option maxRecDepth 20000 in
theorem gX3_combine_X3_pop : GoodIn wsX3_combine (wsV RX3 107 RX3 yX3_pop wsX3_pop) := goodIn_app (goodIn_of _ (by decide +kernel)) ggX3_combine_X3_pop
set_option maxRecDepth 20000 in
theorem ggX3_combine_X3_pushSum : GoodIn wsX3_combine wsX3_pushSum := goodIn_r _ [16, 1, 2, 3, 4, 5, 17, 18, 19, 9, 20, 11, 12, 21, 22, 23, 24, 25, 26] (by decide +kernel) (by decide +kernel)
set_option maxRecDepth 20000 in
theorem gX3_combine_X3_pushSum : GoodIn wsX3_combine (wsV RX3 115 RX3 yX3_pushSum wsX3_pushSum) := goodIn_app (goodIn_of _ (by decide +kernel)) ggX3_combine_X3_pushSum
theorem dX3_combine_0 : decode cX3_combine 0 = .ok (.aload_n 0, 1) := by decide +kernel
theorem dX3_combine_1 : decode cX3_combine 1 = .ok (.invokevirtual 107, 3) := by decide +kernel
theorem dX3_combine_4 : decode cX3_combine 4 = .ok (.lstore_n 2, 1) := by decide +kernel
theorem dX3_combine_5 : decode cX3_combine 5 = .ok (.aload_n 0, 1) := by decide +kernel
theorem dX3_combine_6 : decode cX3_combine 6 = .ok (.invokevirtual 107, 3) := by decide +kernel
theorem dX3_combine_9 : decode cX3_combine 9 = .ok (.lstore 4, 2) := by decide +kernel
theorem dX3_combine_11 : decode cX3_combine 11 = .ok (.iload_n 1, 1) := by decide +kernel
theorem dX3_combine_12 : decode cX3_combine 12 = .ok (.tableswitch 155 (-16) (-11) #[138, 121, 98, 58, 49, 40], 40) := by decide +kernel
theorem dX3_combine_52 : decode cX3_combine 52 = .ok (.aload_n 0, 1) := by decide +kernel
theorem dX3_combine_53 : decode cX3_combine 53 = .ok (.lload 4, 2) := by decide +kernel
theorem dX3_combine_55 : decode cX3_combine 55 = .ok (.lload_n 2, 1) := by decide +kernel
theorem dX3_combine_56 : decode cX3_combine 56 = .ok (.ladd, 1) := by decide +kernel
theorem dX3_combine_57 : decode cX3_combine 57 = .ok (.invokevirtual 115, 3) := by decide +kernel
theorem dX3_combine_60 : decode cX3_combine 60 = .ok (.ireturn, 1) := by decide +kernel
theorem dX3_combine_61 : decode cX3_combine 61 = .ok (.aload_n 0, 1) := by decide +kernel
theorem dX3_combine_62 : decode cX3_combine 62 = .ok (.lload 4, 2) := by decide +kernel
theorem dX3_combine_64 : decode cX3_combine 64 = .ok (.lload_n 2, 1) := by decide +kernel
theorem dX3_combine_65 : decode cX3_combine 65 = .ok (.lsub, 1) := by decide +kernel
theorem dX3_combine_66 : decode cX3_combine 66 = .ok (.invokevirtual 115, 3) := by decide +kernel
theorem dX3_combine_69 : decode cX3_combine 69 = .ok (.ireturn, 1) := by decide +kernel
theorem dX3_combine_70 : decode cX3_combine 70 = .ok (.lload_n 2, 1) := by decide +kernel
theorem dX3_combine_71 : decode cX3_combine 71 = .ok (.lconst 0, 1) := by decide +kernel
theorem dX3_combine_72 : decode cX3_combine 72 = .ok (.lcmp, 1) := by decide +kernel
theorem dX3_combine_73 : decode cX3_combine 73 = .ok (.ifCond .eq 20, 3) := by decide +kernel
theorem dX3_combine_76 : decode cX3_combine 76 = .ok (.lload 4, 2) := by decide +kernel
theorem dX3_combine_78 : decode cX3_combine 78 = .ok (.invokestatic 119, 3) := by decide +kernel
theorem dX3_combine_81 : decode cX3_combine 81 = .ok (.ldc2_w 123, 3) := by decide +kernel
theorem dX3_combine_84 : decode cX3_combine 84 = .ok (.lload_n 2, 1) := by decide +kernel
theorem dX3_combine_85 : decode cX3_combine 85 = .ok (.invokestatic 119, 3) := by decide +kernel
theorem dX3_combine_88 : decode cX3_combine 88 = .ok (.ldiv, 1) := by decide +kernel
theorem dX3_combine_89 : decode cX3_combine 89 = .ok (.lcmp, 1) := by decide +kernel
theorem dX3_combine_90 : decode cX3_combine 90 = .ok (.ifCond .gt 18, 3) := by decide +kernel
theorem dX3_combine_93 : decode cX3_combine 93 = .ok (.aload_n 0, 1) := by decide +kernel
theorem dX3_combine_94 : decode cX3_combine 94 = .ok (.lload 4, 2) := by decide +kernel
theorem dX3_combine_96 : decode cX3_combine 96 = .ok (.lload_n 2, 1) := by decide +kernel
theorem dX3_combine_97 : decode cX3_combine 97 = .ok (.lmul, 1) := by decide +kernel
theorem dX3_combine_98 : decode cX3_combine 98 = .ok (.invokevirtual 115, 3) := by decide +kernel
theorem dX3_combine_101 : decode cX3_combine 101 = .ok (.ifCond .eq 7, 3) := by decide +kernel
theorem dX3_combine_104 : decode cX3_combine 104 = .ok (.iconst 1, 1) := by decide +kernel
theorem dX3_combine_105 : decode cX3_combine 105 = .ok (.goto 4, 3) := by decide +kernel
theorem dX3_combine_108 : decode cX3_combine 108 = .ok (.iconst 0, 1) := by decide +kernel
theorem dX3_combine_109 : decode cX3_combine 109 = .ok (.ireturn, 1) := by decide +kernel
theorem dX3_combine_110 : decode cX3_combine 110 = .ok (.lload_n 2, 1) := by decide +kernel
theorem dX3_combine_111 : decode cX3_combine 111 = .ok (.lconst 0, 1) := by decide +kernel
theorem dX3_combine_112 : decode cX3_combine 112 = .ok (.lcmp, 1) := by decide +kernel
theorem dX3_combine_113 : decode cX3_combine 113 = .ok (.ifCond .eq 18, 3) := by decide +kernel
theorem dX3_combine_116 : decode cX3_combine 116 = .ok (.aload_n 0, 1) := by decide +kernel
theorem dX3_combine_117 : decode cX3_combine 117 = .ok (.lload 4, 2) := by decide +kernel
theorem dX3_combine_119 : decode cX3_combine 119 = .ok (.lload_n 2, 1) := by decide +kernel
theorem dX3_combine_120 : decode cX3_combine 120 = .ok (.ldiv, 1) := by decide +kernel
theorem dX3_combine_121 : decode cX3_combine 121 = .ok (.invokevirtual 115, 3) := by decide +kernel
theorem dX3_combine_124 : decode cX3_combine 124 = .ok (.ifCond .eq 7, 3) := by decide +kernel
theorem dX3_combine_127 : decode cX3_combine 127 = .ok (.iconst 1, 1) := by decide +kernel
theorem dX3_combine_128 : decode cX3_combine 128 = .ok (.goto 4, 3) := by decide +kernel
theorem dX3_combine_131 : decode cX3_combine 131 = .ok (.iconst 0, 1) := by decide +kernel
theorem dX3_combine_132 : decode cX3_combine 132 = .ok (.ireturn, 1) := by decide +kernel
theorem dX3_combine_133 : decode cX3_combine 133 = .ok (.aload_n 0, 1) := by decide +kernel
theorem dX3_combine_134 : decode cX3_combine 134 = .ok (.lload 4, 2) := by decide +kernel
theorem dX3_combine_136 : decode cX3_combine 136 = .ok (.lload_n 2, 1) := by decide +kernel
theorem dX3_combine_137 : decode cX3_combine 137 = .ok (.lcmp, 1) := by decide +kernel
theorem dX3_combine_138 : decode cX3_combine 138 = .ok (.ifCond .ge 7, 3) := by decide +kernel
theorem dX3_combine_141 : decode cX3_combine 141 = .ok (.lconst 1, 1) := by decide +kernel
theorem dX3_combine_142 : decode cX3_combine 142 = .ok (.goto 4, 3) := by decide +kernel
theorem dX3_combine_145 : decode cX3_combine 145 = .ok (.lconst 0, 1) := by decide +kernel
theorem dX3_combine_146 : decode cX3_combine 146 = .ok (.invokevirtual 115, 3) := by decide +kernel
theorem dX3_combine_149 : decode cX3_combine 149 = .ok (.ireturn, 1) := by decide +kernel
theorem dX3_combine_150 : decode cX3_combine 150 = .ok (.aload_n 0, 1) := by decide +kernel
theorem dX3_combine_151 : decode cX3_combine 151 = .ok (.lload 4, 2) := by decide +kernel
theorem dX3_combine_153 : decode cX3_combine 153 = .ok (.lload_n 2, 1) := by decide +kernel
theorem dX3_combine_154 : decode cX3_combine 154 = .ok (.lcmp, 1) := by decide +kernel
theorem dX3_combine_155 : decode cX3_combine 155 = .ok (.ifCond .le 7, 3) := by decide +kernel
theorem dX3_combine_158 : decode cX3_combine 158 = .ok (.lconst 1, 1) := by decide +kernel
theorem dX3_combine_159 : decode cX3_combine 159 = .ok (.goto 4, 3) := by decide +kernel
theorem dX3_combine_162 : decode cX3_combine 162 = .ok (.lconst 0, 1) := by decide +kernel
theorem dX3_combine_163 : decode cX3_combine 163 = .ok (.invokevirtual 115, 3) := by decide +kernel
theorem dX3_combine_166 : decode cX3_combine 166 = .ok (.ireturn, 1) := by decide +kernel
theorem dX3_combine_167 : decode cX3_combine 167 = .ok (.aload_n 0, 1) := by decide +kernel
theorem dX3_combine_168 : decode cX3_combine 168 = .ok (.lload 4, 2) := by decide +kernel
theorem dX3_combine_170 : decode cX3_combine 170 = .ok (.lload_n 2, 1) := by decide +kernel
theorem dX3_combine_171 : decode cX3_combine 171 = .ok (.lcmp, 1) := by decide +kernel
theorem dX3_combine_172 : decode cX3_combine 172 = .ok (.ifCond .ne 7, 3) := by decide +kernel
theorem dX3_combine_175 : decode cX3_combine 175 = .ok (.lconst 1, 1) := by decide +kernel
theorem dX3_combine_176 : decode cX3_combine 176 = .ok (.goto 4, 3) := by decide +kernel
theorem dX3_combine_179 : decode cX3_combine 179 = .ok (.lconst 0, 1) := by decide +kernel
theorem dX3_combine_180 : decode cX3_combine 180 = .ok (.invokevirtual 115, 3) := by decide +kernel
theorem dX3_combine_183 : decode cX3_combine 183 = .ok (.ireturn, 1) := by decide +kernel
set_option maxRecDepth 20000 in
theorem ggX3_pushSum_X3_push : GoodIn wsX3_pushSum wsX3_push := goodIn_r _ [10, 11, 12, 13, 14, 15, 16, 17, 18] (by decide +kernel) (by decide +kernel)
set_option maxRecDepth 20000 in
theorem gX3_pushSum_X3_push : GoodIn wsX3_pushSum (wsV RX3 103 RX3 yX3_push wsX3_push) := goodIn_app (goodIn_of _ (by decide +kernel)) ggX3_pushSum_X3_push
theorem dX3_pushSum_0 : decode cX3_pushSum 0 = .ok (.aload_n 0, 1) := by decide +kernel
theorem dX3_pushSum_1 : decode cX3_pushSum 1 = .ok (.lload_n 1, 1) := by decide +kernel
theorem dX3_pushSum_2 : decode cX3_pushSum 2 = .ok (.invokevirtual 103, 3) := by decide +kernel
theorem dX3_pushSum_5 : decode cX3_pushSum 5 = .ok (.lload_n 1, 1) := by decide +kernel
theorem dX3_pushSum_6 : decode cX3_pushSum 6 = .ok (.invokestatic 119, 3) := by decide +kernel
theorem dX3_pushSum_9 : decode cX3_pushSum 9 = .ok (.ldc2_w 123, 3) := by decide +kernel
theorem dX3_pushSum_12 : decode cX3_pushSum 12 = .ok (.lcmp, 1) := by decide +kernel
theorem dX3_pushSum_13 : decode cX3_pushSum 13 = .ok (.ifCond .gt 7, 3) := by decide +kernel
theorem dX3_pushSum_16 : decode cX3_pushSum 16 = .ok (.iconst 1, 1) := by decide +kernel
theorem dX3_pushSum_17 : decode cX3_pushSum 17 = .ok (.goto 4, 3) := by decide +kernel
theorem dX3_pushSum_20 : decode cX3_pushSum 20 = .ok (.iconst 0, 1) := by decide +kernel
theorem dX3_pushSum_21 : decode cX3_pushSum 21 = .ok (.ireturn, 1) := by decide +kernel
theorem dX3_push_0 : decode cX3_push 0 = .ok (.aload_n 0, 1) := by decide +kernel
theorem dX3_push_1 : decode cX3_push 1 = .ok (.getfield 97, 3) := by decide +kernel
theorem dX3_push_4 : decode cX3_push 4 = .ok (.aload_n 0, 1) := by decide +kernel
theorem dX3_push_5 : decode cX3_push 5 = .ok (.getfield 15, 3) := by decide +kernel
theorem dX3_push_8 : decode cX3_push 8 = .ok (.arraylength, 1) := by decide +kernel
theorem dX3_push_9 : decode cX3_push 9 = .ok (.if_icmp .ge 23, 3) := by decide +kernel
theorem dX3_push_12 : decode cX3_push 12 = .ok (.aload_n 0, 1) := by decide +kernel
theorem dX3_push_13 : decode cX3_push 13 = .ok (.getfield 15, 3) := by decide +kernel
theorem dX3_push_16 : decode cX3_push 16 = .ok (.aload_n 0, 1) := by decide +kernel
theorem dX3_push_17 : decode cX3_push 17 = .ok (.getfield 97, 3) := by decide +kernel
theorem dX3_push_20 : decode cX3_push 20 = .ok (.lload_n 1, 1) := by decide +kernel
theorem dX3_push_21 : decode cX3_push 21 = .ok (.lastore, 1) := by decide +kernel
theorem dX3_push_22 : decode cX3_push 22 = .ok (.aload_n 0, 1) := by decide +kernel
theorem dX3_push_23 : decode cX3_push 23 = .ok (.dup, 1) := by decide +kernel
theorem dX3_push_24 : decode cX3_push 24 = .ok (.getfield 97, 3) := by decide +kernel
theorem dX3_push_27 : decode cX3_push 27 = .ok (.iconst 1, 1) := by decide +kernel
theorem dX3_push_28 : decode cX3_push 28 = .ok (.iadd, 1) := by decide +kernel
theorem dX3_push_29 : decode cX3_push 29 = .ok (.putfield 97, 3) := by decide +kernel
theorem dX3_push_32 : decode cX3_push 32 = .ok (.return_, 1) := by decide +kernel
theorem dX3_pop_0 : decode cX3_pop 0 = .ok (.aload_n 0, 1) := by decide +kernel
theorem dX3_pop_1 : decode cX3_pop 1 = .ok (.getfield 97, 3) := by decide +kernel
theorem dX3_pop_4 : decode cX3_pop 4 = .ok (.ifCond .ne 5, 3) := by decide +kernel
theorem dX3_pop_7 : decode cX3_pop 7 = .ok (.lconst 0, 1) := by decide +kernel
theorem dX3_pop_8 : decode cX3_pop 8 = .ok (.lreturn, 1) := by decide +kernel
theorem dX3_pop_9 : decode cX3_pop 9 = .ok (.aload_n 0, 1) := by decide +kernel
theorem dX3_pop_10 : decode cX3_pop 10 = .ok (.dup, 1) := by decide +kernel
theorem dX3_pop_11 : decode cX3_pop 11 = .ok (.getfield 97, 3) := by decide +kernel
theorem dX3_pop_14 : decode cX3_pop 14 = .ok (.iconst 1, 1) := by decide +kernel
theorem dX3_pop_15 : decode cX3_pop 15 = .ok (.isub, 1) := by decide +kernel
theorem dX3_pop_16 : decode cX3_pop 16 = .ok (.putfield 97, 3) := by decide +kernel
theorem dX3_pop_19 : decode cX3_pop 19 = .ok (.aload_n 0, 1) := by decide +kernel
theorem dX3_pop_20 : decode cX3_pop 20 = .ok (.getfield 15, 3) := by decide +kernel
theorem dX3_pop_23 : decode cX3_pop 23 = .ok (.aload_n 0, 1) := by decide +kernel
theorem dX3_pop_24 : decode cX3_pop 24 = .ok (.getfield 97, 3) := by decide +kernel
theorem dX3_pop_27 : decode cX3_pop 27 = .ok (.laload, 1) := by decide +kernel
theorem dX3_pop_28 : decode cX3_pop 28 = .ok (.lreturn, 1) := by decide +kernel
set_option maxRecDepth 20000 in
theorem ggX3_tonsRead_X4_number : GoodIn wsX3_tonsRead wsX4_number := goodIn_r _ [7, 8, 9, 10, 6, 11, 12, 13, 14, 58, 59, 60] (by decide +kernel) (by decide +kernel)
set_option maxRecDepth 20000 in
theorem gX3_tonsRead_X4_number : GoodIn wsX3_tonsRead (wsV RX3 52 RX4 yX4_number wsX4_number) := goodIn_app (goodIn_of _ (by decide +kernel)) ggX3_tonsRead_X4_number
set_option maxRecDepth 20000 in
theorem ggX3_tonsRead_X10_hasShip : GoodIn wsX3_tonsRead wsX10_hasShip := goodIn_r _ [19, 20, 39, 40, 41, 42, 43, 44, 45, 46, 47, 48, 49, 50, 51, 52, 53, 54, 55, 56, 57] (by decide +kernel) (by decide +kernel)
set_option maxRecDepth 20000 in
theorem gX3_tonsRead_X10_hasShip : GoodIn wsX3_tonsRead (wsV RX3 125 RX10 yX10_hasShip wsX10_hasShip) := goodIn_app (goodIn_of _ (by decide +kernel)) ggX3_tonsRead_X10_hasShip
set_option maxRecDepth 20000 in
theorem ggX3_tonsRead_X5_gaugeCounts : GoodIn wsX3_tonsRead wsX5_gaugeCounts := goodIn_r _ [25, 26, 27, 61, 62, 63, 64, 65, 66, 67, 68, 69, 70, 71, 72, 73, 74, 75, 76, 77] (by decide +kernel) (by decide +kernel)
set_option maxRecDepth 20000 in
theorem gX3_tonsRead_X5_gaugeCounts : GoodIn wsX3_tonsRead (wsV RX3 132 RX5 yX5_gaugeCounts wsX5_gaugeCounts) := goodIn_app (goodIn_of _ (by decide +kernel)) ggX3_tonsRead_X5_gaugeCounts
set_option maxRecDepth 20000 in
theorem ggX3_tonsRead_X4_at : GoodIn wsX3_tonsRead wsX4_at := goodIn_r _ [11, 12, 13, 14, 58, 59, 60] (by decide +kernel) (by decide +kernel)
set_option maxRecDepth 20000 in
theorem gX3_tonsRead_X4_at : GoodIn wsX3_tonsRead (wsV RX3 62 RX4 yX4_at wsX4_at) := goodIn_app (goodIn_of _ (by decide +kernel)) ggX3_tonsRead_X4_at
set_option maxRecDepth 20000 in
theorem ggX3_tonsRead_X5_tonsAt : GoodIn wsX3_tonsRead wsX5_tonsAt := goodIn_r _ [32, 26, 27, 61, 62, 63, 64, 65, 66, 67, 68, 69, 70, 71, 72, 73, 74, 75, 76, 77] (by decide +kernel) (by decide +kernel)
set_option maxRecDepth 20000 in
theorem gX3_tonsRead_X5_tonsAt : GoodIn wsX3_tonsRead (wsV RX3 149 RX5 yX5_tonsAt wsX5_tonsAt) := goodIn_app (goodIn_of _ (by decide +kernel)) ggX3_tonsRead_X5_tonsAt
theorem dX3_tonsRead_0 : decode cX3_tonsRead 0 = .ok (.aload_n 0, 1) := by decide +kernel
theorem dX3_tonsRead_1 : decode cX3_tonsRead 1 = .ok (.getfield 18, 3) := by decide +kernel
theorem dX3_tonsRead_4 : decode cX3_tonsRead 4 = .ok (.getfield 46, 3) := by decide +kernel
theorem dX3_tonsRead_7 : decode cX3_tonsRead 7 = .ok (.iload_n 1, 1) := by decide +kernel
theorem dX3_tonsRead_8 : decode cX3_tonsRead 8 = .ok (.iconst 0, 1) := by decide +kernel
theorem dX3_tonsRead_9 : decode cX3_tonsRead 9 = .ok (.invokevirtual 52, 3) := by decide +kernel
theorem dX3_tonsRead_12 : decode cX3_tonsRead 12 = .ok (.istore 4, 2) := by decide +kernel
theorem dX3_tonsRead_14 : decode cX3_tonsRead 14 = .ok (.aload_n 0, 1) := by decide +kernel
theorem dX3_tonsRead_15 : decode cX3_tonsRead 15 = .ok (.getfield 18, 3) := by decide +kernel
theorem dX3_tonsRead_18 : decode cX3_tonsRead 18 = .ok (.iload 4, 2) := by decide +kernel
theorem dX3_tonsRead_20 : decode cX3_tonsRead 20 = .ok (.invokevirtual 125, 3) := by decide +kernel
theorem dX3_tonsRead_23 : decode cX3_tonsRead 23 = .ok (.ifCond .eq 19, 3) := by decide +kernel
theorem dX3_tonsRead_26 : decode cX3_tonsRead 26 = .ok (.aload_n 0, 1) := by decide +kernel
theorem dX3_tonsRead_27 : decode cX3_tonsRead 27 = .ok (.getfield 18, 3) := by decide +kernel
theorem dX3_tonsRead_30 : decode cX3_tonsRead 30 = .ok (.getfield 128, 3) := by decide +kernel
theorem dX3_tonsRead_33 : decode cX3_tonsRead 33 = .ok (.iload 4, 2) := by decide +kernel
theorem dX3_tonsRead_35 : decode cX3_tonsRead 35 = .ok (.aaload, 1) := by decide +kernel
theorem dX3_tonsRead_36 : decode cX3_tonsRead 36 = .ok (.invokevirtual 132, 3) := by decide +kernel
theorem dX3_tonsRead_39 : decode cX3_tonsRead 39 = .ok (.ifCond .ne 7, 3) := by decide +kernel
theorem dX3_tonsRead_42 : decode cX3_tonsRead 42 = .ok (.ldc2_w 138, 3) := by decide +kernel
theorem dX3_tonsRead_45 : decode cX3_tonsRead 45 = .ok (.lreturn, 1) := by decide +kernel
theorem dX3_tonsRead_46 : decode cX3_tonsRead 46 = .ok (.aload_n 0, 1) := by decide +kernel
theorem dX3_tonsRead_47 : decode cX3_tonsRead 47 = .ok (.getfield 18, 3) := by decide +kernel
theorem dX3_tonsRead_50 : decode cX3_tonsRead 50 = .ok (.getfield 140, 3) := by decide +kernel
theorem dX3_tonsRead_53 : decode cX3_tonsRead 53 = .ok (.getfield 143, 3) := by decide +kernel
theorem dX3_tonsRead_56 : decode cX3_tonsRead 56 = .ok (.iconst 1, 1) := by decide +kernel
theorem dX3_tonsRead_57 : decode cX3_tonsRead 57 = .ok (.isub, 1) := by decide +kernel
theorem dX3_tonsRead_58 : decode cX3_tonsRead 58 = .ok (.istore 5, 2) := by decide +kernel
theorem dX3_tonsRead_60 : decode cX3_tonsRead 60 = .ok (.iload 5, 2) := by decide +kernel
theorem dX3_tonsRead_62 : decode cX3_tonsRead 62 = .ok (.ifCond .lt 125, 3) := by decide +kernel
theorem dX3_tonsRead_65 : decode cX3_tonsRead 65 = .ok (.aload_n 0, 1) := by decide +kernel
theorem dX3_tonsRead_66 : decode cX3_tonsRead 66 = .ok (.getfield 18, 3) := by decide +kernel
theorem dX3_tonsRead_69 : decode cX3_tonsRead 69 = .ok (.getfield 140, 3) := by decide +kernel
theorem dX3_tonsRead_72 : decode cX3_tonsRead 72 = .ok (.iload 5, 2) := by decide +kernel
theorem dX3_tonsRead_74 : decode cX3_tonsRead 74 = .ok (.iconst 0, 1) := by decide +kernel
theorem dX3_tonsRead_75 : decode cX3_tonsRead 75 = .ok (.invokevirtual 62, 3) := by decide +kernel
theorem dX3_tonsRead_78 : decode cX3_tonsRead 78 = .ok (.iload_n 1, 1) := by decide +kernel
theorem dX3_tonsRead_79 : decode cX3_tonsRead 79 = .ok (.i2l, 1) := by decide +kernel
theorem dX3_tonsRead_80 : decode cX3_tonsRead 80 = .ok (.lcmp, 1) := by decide +kernel
theorem dX3_tonsRead_81 : decode cX3_tonsRead 81 = .ok (.ifCond .ne 100, 3) := by decide +kernel
theorem dX3_tonsRead_84 : decode cX3_tonsRead 84 = .ok (.aload_n 0, 1) := by decide +kernel
theorem dX3_tonsRead_85 : decode cX3_tonsRead 85 = .ok (.getfield 18, 3) := by decide +kernel
theorem dX3_tonsRead_88 : decode cX3_tonsRead 88 = .ok (.getfield 140, 3) := by decide +kernel
theorem dX3_tonsRead_91 : decode cX3_tonsRead 91 = .ok (.iload 5, 2) := by decide +kernel
theorem dX3_tonsRead_93 : decode cX3_tonsRead 93 = .ok (.iconst 1, 1) := by decide +kernel
theorem dX3_tonsRead_94 : decode cX3_tonsRead 94 = .ok (.invokevirtual 62, 3) := by decide +kernel
theorem dX3_tonsRead_97 : decode cX3_tonsRead 97 = .ok (.iload_n 2, 1) := by decide +kernel
theorem dX3_tonsRead_98 : decode cX3_tonsRead 98 = .ok (.i2l, 1) := by decide +kernel
theorem dX3_tonsRead_99 : decode cX3_tonsRead 99 = .ok (.lcmp, 1) := by decide +kernel
theorem dX3_tonsRead_100 : decode cX3_tonsRead 100 = .ok (.ifCond .ne 81, 3) := by decide +kernel
theorem dX3_tonsRead_103 : decode cX3_tonsRead 103 = .ok (.aload_n 0, 1) := by decide +kernel
theorem dX3_tonsRead_104 : decode cX3_tonsRead 104 = .ok (.getfield 18, 3) := by decide +kernel
theorem dX3_tonsRead_107 : decode cX3_tonsRead 107 = .ok (.getfield 140, 3) := by decide +kernel
theorem dX3_tonsRead_110 : decode cX3_tonsRead 110 = .ok (.iload 5, 2) := by decide +kernel
theorem dX3_tonsRead_112 : decode cX3_tonsRead 112 = .ok (.iconst 4, 1) := by decide +kernel
theorem dX3_tonsRead_113 : decode cX3_tonsRead 113 = .ok (.invokevirtual 62, 3) := by decide +kernel
theorem dX3_tonsRead_116 : decode cX3_tonsRead 116 = .ok (.iload_n 3, 1) := by decide +kernel
theorem dX3_tonsRead_117 : decode cX3_tonsRead 117 = .ok (.i2l, 1) := by decide +kernel
theorem dX3_tonsRead_118 : decode cX3_tonsRead 118 = .ok (.lcmp, 1) := by decide +kernel
theorem dX3_tonsRead_119 : decode cX3_tonsRead 119 = .ok (.ifCond .gt 62, 3) := by decide +kernel
theorem dX3_tonsRead_122 : decode cX3_tonsRead 122 = .ok (.aload_n 0, 1) := by decide +kernel
theorem dX3_tonsRead_123 : decode cX3_tonsRead 123 = .ok (.getfield 18, 3) := by decide +kernel
theorem dX3_tonsRead_126 : decode cX3_tonsRead 126 = .ok (.getfield 140, 3) := by decide +kernel
theorem dX3_tonsRead_129 : decode cX3_tonsRead 129 = .ok (.iload 5, 2) := by decide +kernel
theorem dX3_tonsRead_131 : decode cX3_tonsRead 131 = .ok (.iconst 2, 1) := by decide +kernel
theorem dX3_tonsRead_132 : decode cX3_tonsRead 132 = .ok (.invokevirtual 52, 3) := by decide +kernel
theorem dX3_tonsRead_135 : decode cX3_tonsRead 135 = .ok (.aload_n 0, 1) := by decide +kernel
theorem dX3_tonsRead_136 : decode cX3_tonsRead 136 = .ok (.getfield 18, 3) := by decide +kernel
theorem dX3_tonsRead_139 : decode cX3_tonsRead 139 = .ok (.getfield 140, 3) := by decide +kernel
theorem dX3_tonsRead_142 : decode cX3_tonsRead 142 = .ok (.iload 5, 2) := by decide +kernel
theorem dX3_tonsRead_144 : decode cX3_tonsRead 144 = .ok (.iconst 3, 1) := by decide +kernel
theorem dX3_tonsRead_145 : decode cX3_tonsRead 145 = .ok (.invokevirtual 52, 3) := by decide +kernel
theorem dX3_tonsRead_148 : decode cX3_tonsRead 148 = .ok (.aload_n 0, 1) := by decide +kernel
theorem dX3_tonsRead_149 : decode cX3_tonsRead 149 = .ok (.getfield 18, 3) := by decide +kernel
theorem dX3_tonsRead_152 : decode cX3_tonsRead 152 = .ok (.getfield 128, 3) := by decide +kernel
theorem dX3_tonsRead_155 : decode cX3_tonsRead 155 = .ok (.iload 4, 2) := by decide +kernel
theorem dX3_tonsRead_157 : decode cX3_tonsRead 157 = .ok (.aaload, 1) := by decide +kernel
theorem dX3_tonsRead_158 : decode cX3_tonsRead 158 = .ok (.getfield 146, 3) := by decide +kernel
theorem dX3_tonsRead_161 : decode cX3_tonsRead 161 = .ok (.imul, 1) := by decide +kernel
theorem dX3_tonsRead_162 : decode cX3_tonsRead 162 = .ok (.isub, 1) := by decide +kernel
theorem dX3_tonsRead_163 : decode cX3_tonsRead 163 = .ok (.istore 6, 2) := by decide +kernel
theorem dX3_tonsRead_165 : decode cX3_tonsRead 165 = .ok (.aload_n 0, 1) := by decide +kernel
theorem dX3_tonsRead_166 : decode cX3_tonsRead 166 = .ok (.getfield 18, 3) := by decide +kernel
theorem dX3_tonsRead_169 : decode cX3_tonsRead 169 = .ok (.getfield 128, 3) := by decide +kernel
theorem dX3_tonsRead_172 : decode cX3_tonsRead 172 = .ok (.iload 4, 2) := by decide +kernel
theorem dX3_tonsRead_174 : decode cX3_tonsRead 174 = .ok (.aaload, 1) := by decide +kernel
theorem dX3_tonsRead_175 : decode cX3_tonsRead 175 = .ok (.iload 6, 2) := by decide +kernel
theorem dX3_tonsRead_177 : decode cX3_tonsRead 177 = .ok (.invokevirtual 149, 3) := by decide +kernel
theorem dX3_tonsRead_180 : decode cX3_tonsRead 180 = .ok (.lreturn, 1) := by decide +kernel
theorem dX3_tonsRead_181 : decode cX3_tonsRead 181 = .ok (.iinc 5 (-1), 3) := by decide +kernel
theorem dX3_tonsRead_184 : decode cX3_tonsRead 184 = .ok (.goto (-124), 3) := by decide +kernel
theorem dX3_tonsRead_187 : decode cX3_tonsRead 187 = .ok (.ldc2_w 138, 3) := by decide +kernel
theorem dX3_tonsRead_190 : decode cX3_tonsRead 190 = .ok (.lreturn, 1) := by decide +kernel
set_option maxRecDepth 20000 in
theorem ggX3_tonsGauged_X3_tonsRead : GoodIn wsX3_tonsGauged wsX3_tonsRead := goodIn_r _ [6, 7, 1, 8, 9, 10, 11, 12, 13, 14, 15, 16, 17, 18, 19, 20, 21, 22, 23, 24, 25, 26, 27, 28, 29, 30, 31, 32, 33, 34, 35, 36, 37, 38, 39, 40, 41, 42, 43, 44, 45, 46, 47, 48, 49, 50, 51, 52, 53, 54, 55, 56, 57, 58, 59, 60, 61, 62, 63, 64, 65, 66, 67, 68, 69, 70, 71, 72, 73, 74, 75, 76, 77, 78, 79, 80, 81, 82] (by decide +kernel) (by decide +kernel)
set_option maxRecDepth 20000 in
theorem gX3_tonsGauged_X3_tonsRead : GoodIn wsX3_tonsGauged (wsV RX3 152 RX3 yX3_tonsRead wsX3_tonsRead) := goodIn_app (goodIn_of _ (by decide +kernel)) ggX3_tonsGauged_X3_tonsRead
theorem dX3_tonsGauged_0 : decode cX3_tonsGauged 0 = .ok (.aload_n 0, 1) := by decide +kernel
theorem dX3_tonsGauged_1 : decode cX3_tonsGauged 1 = .ok (.iload_n 1, 1) := by decide +kernel
theorem dX3_tonsGauged_2 : decode cX3_tonsGauged 2 = .ok (.iconst 0, 1) := by decide +kernel
theorem dX3_tonsGauged_3 : decode cX3_tonsGauged 3 = .ok (.iload_n 2, 1) := by decide +kernel
theorem dX3_tonsGauged_4 : decode cX3_tonsGauged 4 = .ok (.invokevirtual 152, 3) := by decide +kernel
theorem dX3_tonsGauged_7 : decode cX3_tonsGauged 7 = .ok (.lstore_n 3, 1) := by decide +kernel
theorem dX3_tonsGauged_8 : decode cX3_tonsGauged 8 = .ok (.aload_n 0, 1) := by decide +kernel
theorem dX3_tonsGauged_9 : decode cX3_tonsGauged 9 = .ok (.iload_n 1, 1) := by decide +kernel
theorem dX3_tonsGauged_10 : decode cX3_tonsGauged 10 = .ok (.iconst 1, 1) := by decide +kernel
theorem dX3_tonsGauged_11 : decode cX3_tonsGauged 11 = .ok (.iload_n 2, 1) := by decide +kernel
theorem dX3_tonsGauged_12 : decode cX3_tonsGauged 12 = .ok (.invokevirtual 152, 3) := by decide +kernel
theorem dX3_tonsGauged_15 : decode cX3_tonsGauged 15 = .ok (.lstore 5, 2) := by decide +kernel
theorem dX3_tonsGauged_17 : decode cX3_tonsGauged 17 = .ok (.lload_n 3, 1) := by decide +kernel
theorem dX3_tonsGauged_18 : decode cX3_tonsGauged 18 = .ok (.ldc2_w 138, 3) := by decide +kernel
theorem dX3_tonsGauged_21 : decode cX3_tonsGauged 21 = .ok (.lcmp, 1) := by decide +kernel
theorem dX3_tonsGauged_22 : decode cX3_tonsGauged 22 = .ok (.ifCond .eq 12, 3) := by decide +kernel
theorem dX3_tonsGauged_25 : decode cX3_tonsGauged 25 = .ok (.lload 5, 2) := by decide +kernel
theorem dX3_tonsGauged_27 : decode cX3_tonsGauged 27 = .ok (.ldc2_w 138, 3) := by decide +kernel
theorem dX3_tonsGauged_30 : decode cX3_tonsGauged 30 = .ok (.lcmp, 1) := by decide +kernel
theorem dX3_tonsGauged_31 : decode cX3_tonsGauged 31 = .ok (.ifCond .ne 9, 3) := by decide +kernel
theorem dX3_tonsGauged_34 : decode cX3_tonsGauged 34 = .ok (.ldc2_w 138, 3) := by decide +kernel
theorem dX3_tonsGauged_37 : decode cX3_tonsGauged 37 = .ok (.goto 7, 3) := by decide +kernel
theorem dX3_tonsGauged_40 : decode cX3_tonsGauged 40 = .ok (.lload_n 3, 1) := by decide +kernel
theorem dX3_tonsGauged_41 : decode cX3_tonsGauged 41 = .ok (.lload 5, 2) := by decide +kernel
theorem dX3_tonsGauged_43 : decode cX3_tonsGauged 43 = .ok (.lsub, 1) := by decide +kernel
theorem dX3_tonsGauged_44 : decode cX3_tonsGauged 44 = .ok (.lreturn, 1) := by decide +kernel
set_option maxRecDepth 20000 in
theorem ggX3_claimOf_X3_tonsGauged : GoodIn wsX3_claimOf wsX3_tonsGauged := goodIn_r _ [7, 1, 8, 9, 10, 6, 11, 2, 12, 13, 14, 15, 16, 17, 18, 19, 20, 21, 22, 23, 24, 25, 26, 27, 28, 29, 30, 31, 32, 33, 34, 35, 36, 37, 38, 39, 40, 41, 55, 56, 57, 58, 59, 60, 61, 62, 63, 64, 65, 66, 67, 68, 69, 70, 71, 72, 73, 74, 75, 76, 77, 78, 79, 80, 81, 82, 83, 84, 85, 86, 87, 88, 89, 90, 91, 92, 93, 94, 95, 96, 97, 98, 99] (by decide +kernel) (by decide +kernel)
set_option maxRecDepth 20000 in
theorem gX3_claimOf_X3_tonsGauged : GoodIn wsX3_claimOf (wsV RX3 156 RX3 yX3_tonsGauged wsX3_tonsGauged) := goodIn_app (goodIn_of _ (by decide +kernel)) ggX3_claimOf_X3_tonsGauged
set_option maxRecDepth 20000 in
theorem ggX3_claimOf_X10_billedOf : GoodIn wsX3_claimOf wsX10_billedOf := goodIn_r _ [45, 46, 47, 48, 18, 19, 15, 20, 21, 22, 23, 61, 62, 63, 64, 65, 66, 67, 68, 69, 70, 71, 72, 73, 74, 75, 76, 77, 78, 79, 80, 81, 82] (by decide +kernel) (by decide +kernel)
set_option maxRecDepth 20000 in
theorem gX3_claimOf_X10_billedOf : GoodIn wsX3_claimOf (wsV RX3 66 RX10 yX10_billedOf wsX10_billedOf) := goodIn_app (goodIn_of _ (by decide +kernel)) ggX3_claimOf_X10_billedOf
set_option maxRecDepth 20000 in
theorem ggX3_claimOf_X10_priceOf : GoodIn wsX3_claimOf wsX10_priceOf := goodIn_r _ [52, 46, 53, 47, 54, 48, 18, 19, 15, 20, 21, 22, 23, 61, 62, 63, 64, 65, 66, 67, 68, 69, 70, 71, 72, 73, 74, 75, 76, 77, 78, 79, 80, 81, 82] (by decide +kernel) (by decide +kernel)
set_option maxRecDepth 20000 in
theorem gX3_claimOf_X10_priceOf : GoodIn wsX3_claimOf (wsV RX3 94 RX10 yX10_priceOf wsX10_priceOf) := goodIn_app (goodIn_of _ (by decide +kernel)) ggX3_claimOf_X10_priceOf
theorem dX3_claimOf_0 : decode cX3_claimOf 0 = .ok (.aload_n 0, 1) := by decide +kernel
theorem dX3_claimOf_1 : decode cX3_claimOf 1 = .ok (.iload_n 1, 1) := by decide +kernel
theorem dX3_claimOf_2 : decode cX3_claimOf 2 = .ok (.iload_n 2, 1) := by decide +kernel
theorem dX3_claimOf_3 : decode cX3_claimOf 3 = .ok (.invokevirtual 156, 3) := by decide +kernel
theorem dX3_claimOf_6 : decode cX3_claimOf 6 = .ok (.lstore_n 3, 1) := by decide +kernel
theorem dX3_claimOf_7 : decode cX3_claimOf 7 = .ok (.lload_n 3, 1) := by decide +kernel
theorem dX3_claimOf_8 : decode cX3_claimOf 8 = .ok (.ldc2_w 138, 3) := by decide +kernel
theorem dX3_claimOf_11 : decode cX3_claimOf 11 = .ok (.lcmp, 1) := by decide +kernel
theorem dX3_claimOf_12 : decode cX3_claimOf 12 = .ok (.ifCond .ne 9, 3) := by decide +kernel
theorem dX3_claimOf_15 : decode cX3_claimOf 15 = .ok (.ldc2_w 138, 3) := by decide +kernel
theorem dX3_claimOf_18 : decode cX3_claimOf 18 = .ok (.goto 23, 3) := by decide +kernel
theorem dX3_claimOf_21 : decode cX3_claimOf 21 = .ok (.aload_n 0, 1) := by decide +kernel
theorem dX3_claimOf_22 : decode cX3_claimOf 22 = .ok (.getfield 18, 3) := by decide +kernel
theorem dX3_claimOf_25 : decode cX3_claimOf 25 = .ok (.iload_n 1, 1) := by decide +kernel
theorem dX3_claimOf_26 : decode cX3_claimOf 26 = .ok (.invokevirtual 66, 3) := by decide +kernel
theorem dX3_claimOf_29 : decode cX3_claimOf 29 = .ok (.lload_n 3, 1) := by decide +kernel
theorem dX3_claimOf_30 : decode cX3_claimOf 30 = .ok (.lsub, 1) := by decide +kernel
theorem dX3_claimOf_31 : decode cX3_claimOf 31 = .ok (.aload_n 0, 1) := by decide +kernel
theorem dX3_claimOf_32 : decode cX3_claimOf 32 = .ok (.getfield 18, 3) := by decide +kernel
theorem dX3_claimOf_35 : decode cX3_claimOf 35 = .ok (.iload_n 1, 1) := by decide +kernel
theorem dX3_claimOf_36 : decode cX3_claimOf 36 = .ok (.iload_n 2, 1) := by decide +kernel
theorem dX3_claimOf_37 : decode cX3_claimOf 37 = .ok (.invokevirtual 94, 3) := by decide +kernel
theorem dX3_claimOf_40 : decode cX3_claimOf 40 = .ok (.lmul, 1) := by decide +kernel
theorem dX3_claimOf_41 : decode cX3_claimOf 41 = .ok (.lreturn, 1) := by decide +kernel
