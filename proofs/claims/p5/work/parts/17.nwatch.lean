abbrev cX9_passHour : ByteArray := prog_11_method_2_code
def yX9_passHour : MethodName := ⟨RX9, "passHour", "()V"⟩
abbrev cX9_passShip : ByteArray := prog_11_method_3_code
def yX9_passShip : MethodName := ⟨RX9, "passShip", "(I)V"⟩
abbrev cX9_sail : ByteArray := prog_11_method_4_code
def yX9_sail : MethodName := ⟨RX9, "sail", "(LColdShips$Ship;)V"⟩
abbrev cX9_takesTurn : ByteArray := prog_11_method_5_code
def yX9_takesTurn : MethodName := ⟨RX9, "takesTurn", "()Z"⟩
abbrev cX9_tonsMayGo : ByteArray := prog_11_method_6_code
def yX9_tonsMayGo : MethodName := ⟨RX9, "tonsMayGo", "(ILColdShips$Ship;)Z"⟩
abbrev cX9_load : ByteArray := prog_11_method_7_code
def yX9_load : MethodName := ⟨RX9, "load", "(LColdShips$Ship;)V"⟩
abbrev cX9_land : ByteArray := prog_11_method_8_code
def yX9_land : MethodName := ⟨RX9, "land", "(ILColdShips$Ship;)V"⟩
abbrev cX9_keepLanding : ByteArray := prog_11_method_9_code
def yX9_keepLanding : MethodName := ⟨RX9, "keepLanding", "(ILColdShips$Ship;)V"⟩
def wsX9_takesTurn : List Cond := .code yX9_takesTurn cX9_takesTurn 2 (some .boolean) :: ([.fieldLink RX9 25 "ColdShips$Watch" "hour" "I", .fieldLink RX9 35 "ColdShips$Watch" "turnTaken" "Z"] ++ wsX90)
def wsX9_sail_r1 : List Cond := [Cond.fieldLink RX9 9 "ColdShips$Watch" "world" "LColdShips$World;", Cond.fieldLink RX9 32 "ColdShips$Watch" "sea" "I", Cond.fieldLink RX9 25 "ColdShips$Watch" "hour" "I", Cond.methodLink RX9 117 yX10_hoursBetween, Cond.instanceMethod yX10_hoursBetween, Cond.selects RX10 yX10_hoursBetween yX10_hoursBetween, Cond.initialized RX10, Cond.code yX10_hoursBetween cX10_hoursBetween 4 (some .int), Cond.fieldLink RX10 27 "ColdShips$World" "terminals" "[LColdShips$Terminal;", Cond.methodLink RX10 93 yX10_hasTerminal, Cond.instanceMethod yX10_hasTerminal, Cond.selects RX10 yX10_hasTerminal yX10_hasTerminal, Cond.code yX10_hasTerminal cX10_hasTerminal 2 (some .boolean), Cond.fieldLink RX10 78 "ColdShips$World" "terminalCount" "I", Cond.methodLink RX9 100 yX5_endOrder, Cond.instanceMethod yX5_endOrder, Cond.selects RX5 yX5_endOrder yX5_endOrder, Cond.initialized RX5, Cond.code yX5_endOrder cX5_endOrder 1 none, Cond.fieldLink RX5 59 "ColdShips$Ship" "orders" "I", Cond.fieldLink RX5 18 "ColdShips$Ship" "orderSorts" "[I", Cond.methodLink RX5 77 arraycopyName, Cond.native arraycopyName, Cond.static arraycopyName]
def wsX9_sail_r2 : List Cond := [Cond.initialized "java/lang/System", Cond.fieldLink RX5 22 "ColdShips$Ship" "orderWhats" "[I", Cond.methodLink RX9 136 yX9_takesTurn, Cond.instanceMethod yX9_takesTurn, Cond.selects RX9 yX9_takesTurn yX9_takesTurn, Cond.initialized RX9, Cond.code yX9_takesTurn cX9_takesTurn 2 (some .boolean), Cond.fieldLink RX9 35 "ColdShips$Watch" "turnTaken" "Z"]
def wsX9_sail : List Cond := .code yX9_sail cX9_sail 4 none :: ((wsX9_sail_r1 ++ wsX9_sail_r2) ++ wsX50 ++ wsX90 ++ wsX100 ++ wsX80)
def wsX9_tonsMayGo_r1 : List Cond := [Cond.fieldLink RX9 9 "ColdShips$Watch" "world" "LColdShips$World;", Cond.fieldLink RX9 25 "ColdShips$Watch" "hour" "I", Cond.methodLink RX9 140 yX10_hasTerminal, Cond.instanceMethod yX10_hasTerminal, Cond.selects RX10 yX10_hasTerminal yX10_hasTerminal, Cond.initialized RX10, Cond.code yX10_hasTerminal cX10_hasTerminal 2 (some .boolean), Cond.fieldLink RX10 78 "ColdShips$World" "terminalCount" "I", Cond.static yX11_slotOwner, Cond.initialized RX11, Cond.code yX11_slotOwner cX11_slotOwner 2 (some .int), Cond.methodLink RX9 152 yX7_draft, Cond.instanceMethod yX7_draft, Cond.selects RX7 yX7_draft yX7_draft, Cond.initialized RX7, Cond.code yX7_draft cX7_draft 1 (some .int), Cond.fieldLink RX7 32 "ColdShips$Tank" "gas" "I", Cond.fieldLink RX7 9 "ColdShips$Tank" "cap" "I", Cond.methodLink RX9 160 yX6_meets, Cond.instanceMethod yX6_meets, Cond.selects RX6 yX6_meets yX6_meets, Cond.initialized RX6, Cond.code yX6_meets cX6_meets 6 (some .boolean), Cond.fieldLink RX6 27 "ColdShips$Spans" "size" "I"]
def wsX9_tonsMayGo_r2 : List Cond := [Cond.fieldLink RX6 21 "ColdShips$Spans" "begins" "[I", Cond.fieldLink RX6 15 "ColdShips$Spans" "owners" "[I", Cond.fieldLink RX6 24 "ColdShips$Spans" "ends" "[I"]
def wsX9_tonsMayGo : List Cond := .code yX9_tonsMayGo cX9_tonsMayGo 6 (some .boolean) :: ((wsX9_tonsMayGo_r1 ++ wsX9_tonsMayGo_r2) ++ wsX50 ++ wsX90 ++ wsX100 ++ wsX80 ++ wsX70 ++ wsX60)
def wsX9_load_r1 : List Cond := [Cond.fieldLink RX9 9 "ColdShips$Watch" "world" "LColdShips$World;", Cond.methodLink RX9 175 Lib.Math.max.name, Cond.static Lib.Math.max.name, Cond.initialized "java/lang/Math", Cond.code Lib.Math.max.name Lib.Math.max.code 2 (some .int), Cond.methodLink RX9 186 Lib.Math.min.name, Cond.static Lib.Math.min.name, Cond.code Lib.Math.min.name Lib.Math.min.code 2 (some .int), Cond.methodLink RX9 180 yX7_top, Cond.instanceMethod yX7_top, Cond.selects RX7 yX7_top yX7_top, Cond.initialized RX7, Cond.code yX7_top cX7_top 1 (some .int), Cond.fieldLink RX7 9 "ColdShips$Tank" "cap" "I", Cond.methodLink RX9 192 yX7_fill, Cond.instanceMethod yX7_fill, Cond.selects RX7 yX7_fill yX7_fill, Cond.code yX7_fill cX7_fill 3 none, Cond.fieldLink RX7 32 "ColdShips$Tank" "gas" "I", Cond.fieldLink RX7 15 "ColdShips$Tank" "parts" "[I", Cond.methodLink RX9 100 yX5_endOrder, Cond.instanceMethod yX5_endOrder, Cond.selects RX5 yX5_endOrder yX5_endOrder, Cond.initialized RX5]
def wsX9_load_r2 : List Cond := [Cond.code yX5_endOrder cX5_endOrder 1 none, Cond.fieldLink RX5 59 "ColdShips$Ship" "orders" "I", Cond.fieldLink RX5 18 "ColdShips$Ship" "orderSorts" "[I", Cond.methodLink RX5 77 arraycopyName, Cond.native arraycopyName, Cond.static arraycopyName, Cond.initialized "java/lang/System", Cond.fieldLink RX5 22 "ColdShips$Ship" "orderWhats" "[I"]
def wsX9_load : List Cond := .code yX9_load cX9_load 6 none :: ((wsX9_load_r1 ++ wsX9_load_r2) ++ wsX90 ++ wsX100 ++ wsX50 ++ wsX70 ++ wsX80)
def wsX9_keepLanding_r1 : List Cond := [Cond.fieldLink RX9 9 "ColdShips$Watch" "world" "LColdShips$World;", Cond.constantLong RX9 236 (-1), Cond.methodLink RX9 218 yX4_addRow, Cond.instanceMethod yX4_addRow, Cond.selects RX4 yX4_addRow yX4_addRow, Cond.initialized RX4, Cond.code yX4_addRow cX4_addRow 2 (some .int), Cond.fieldLink RX4 25 "ColdShips$Rows" "size" "I", Cond.fieldLink RX4 15 "ColdShips$Rows" "width" "I", Cond.fieldLink RX4 21 "ColdShips$Rows" "cells" "[J", Cond.methodLink RX4 28 yJ7_fill_bad5a, Cond.static yJ7_fill_bad5a, Cond.initialized RJ7, Cond.code yJ7_fill_bad5a cJ7_fill_bad5a 6 none, Cond.methodLink RJ7 13 yJ7_rangeCheck_23922, Cond.static yJ7_rangeCheck_23922, Cond.code yJ7_rangeCheck_23922 cJ7_rangeCheck_23922 3 none, Cond.methodLink RX9 223 yX4_set, Cond.instanceMethod yX4_set, Cond.selects RX4 yX4_set yX4_set, Cond.code yX4_set cX4_set 5 none, Cond.methodLink RX4 38 yX4_has, Cond.instanceMethod yX4_has, Cond.selects RX4 yX4_has yX4_has]
def wsX9_keepLanding_r2 : List Cond := [Cond.code yX4_has cX4_has 2 (some .boolean)]
def wsX9_keepLanding : List Cond := .code yX9_keepLanding cX9_keepLanding 5 none :: ((wsX9_keepLanding_r1 ++ wsX9_keepLanding_r2) ++ wsX50 ++ wsX90 ++ wsX100 ++ wsX40)
def wsX9_land_r1 : List Cond := [Cond.fieldLink RX9 9 "ColdShips$Watch" "world" "LColdShips$World;", Cond.methodLink RX9 175 Lib.Math.max.name, Cond.static Lib.Math.max.name, Cond.initialized "java/lang/Math", Cond.code Lib.Math.max.name Lib.Math.max.code 2 (some .int), Cond.methodLink RX9 186 Lib.Math.min.name, Cond.static Lib.Math.min.name, Cond.code Lib.Math.min.name Lib.Math.min.code 2 (some .int), Cond.fieldLink RX9 25 "ColdShips$Watch" "hour" "I", Cond.methodLink RX9 196 yX7_heel, Cond.instanceMethod yX7_heel, Cond.selects RX7 yX7_heel yX7_heel, Cond.initialized RX7, Cond.code yX7_heel cX7_heel 1 (some .int), Cond.fieldLink RX7 9 "ColdShips$Tank" "cap" "I", Cond.methodLink RX9 202 yX5_putAshore, Cond.instanceMethod yX5_putAshore, Cond.selects RX5 yX5_putAshore yX5_putAshore, Cond.initialized RX5, Cond.code yX5_putAshore cX5_putAshore 4 none, Cond.fieldLink RX5 12 "ColdShips$Ship" "tank" "LColdShips$Tank;", Cond.fieldLink RX5 29 "ColdShips$Ship" "landParts" "[I", Cond.fieldLink RX5 93 "ColdShips$Ship" "landTons" "I", Cond.fieldLink RX5 96 "ColdShips$Ship" "landFirst" "I"]
def wsX9_land_r2 : List Cond := [Cond.fieldLink RX5 99 "ColdShips$Ship" "landLast" "I", Cond.fieldLink RX5 25 "ColdShips$Ship" "book" "[J", Cond.methodLink RX5 87 yX7_takeGas, Cond.instanceMethod yX7_takeGas, Cond.selects RX7 yX7_takeGas yX7_takeGas, Cond.code yX7_takeGas cX7_takeGas 6 none, Cond.fieldLink RX7 32 "ColdShips$Tank" "gas" "I", Cond.fieldLink RX7 15 "ColdShips$Tank" "parts" "[I", Cond.fieldLink RX7 19 "ColdShips$Tank" "given" "[I", Cond.fieldLink RX7 22 "ColdShips$Tank" "rests" "[J", Cond.methodLink RX7 71 yX7_giveByRests, Cond.instanceMethod yX7_giveByRests, Cond.selects RX7 yX7_giveByRests yX7_giveByRests, Cond.code yX7_giveByRests cX7_giveByRests 5 none, Cond.constantLong RX7 80 (-1), Cond.methodLink RX9 205 yX9_keepLanding, Cond.instanceMethod yX9_keepLanding, Cond.selects RX9 yX9_keepLanding yX9_keepLanding, Cond.initialized RX9, Cond.code yX9_keepLanding cX9_keepLanding 5 none, Cond.constantLong RX9 236 (-1), Cond.methodLink RX9 218 yX4_addRow, Cond.instanceMethod yX4_addRow, Cond.selects RX4 yX4_addRow yX4_addRow]
def wsX9_land_r3 : List Cond := [Cond.initialized RX4, Cond.code yX4_addRow cX4_addRow 2 (some .int), Cond.fieldLink RX4 25 "ColdShips$Rows" "size" "I", Cond.fieldLink RX4 15 "ColdShips$Rows" "width" "I", Cond.fieldLink RX4 21 "ColdShips$Rows" "cells" "[J", Cond.methodLink RX4 28 yJ7_fill_bad5a, Cond.static yJ7_fill_bad5a, Cond.initialized RJ7, Cond.code yJ7_fill_bad5a cJ7_fill_bad5a 6 none, Cond.methodLink RJ7 13 yJ7_rangeCheck_23922, Cond.static yJ7_rangeCheck_23922, Cond.code yJ7_rangeCheck_23922 cJ7_rangeCheck_23922 3 none, Cond.methodLink RX9 223 yX4_set, Cond.instanceMethod yX4_set, Cond.selects RX4 yX4_set yX4_set, Cond.code yX4_set cX4_set 5 none, Cond.methodLink RX4 38 yX4_has, Cond.instanceMethod yX4_has, Cond.selects RX4 yX4_has yX4_has, Cond.code yX4_has cX4_has 2 (some .boolean), Cond.methodLink RX9 208 yX5_forgetLanding, Cond.instanceMethod yX5_forgetLanding, Cond.selects RX5 yX5_forgetLanding yX5_forgetLanding, Cond.code yX5_forgetLanding cX5_forgetLanding 1 none]
def wsX9_land_r4 : List Cond := [Cond.methodLink RX5 71 yJ7_fill_53178, Cond.static yJ7_fill_53178, Cond.code yJ7_fill_53178 cJ7_fill_53178 4 none, Cond.methodLink RX9 100 yX5_endOrder, Cond.instanceMethod yX5_endOrder, Cond.selects RX5 yX5_endOrder yX5_endOrder, Cond.code yX5_endOrder cX5_endOrder 1 none, Cond.fieldLink RX5 59 "ColdShips$Ship" "orders" "I", Cond.fieldLink RX5 18 "ColdShips$Ship" "orderSorts" "[I", Cond.methodLink RX5 77 arraycopyName, Cond.native arraycopyName, Cond.static arraycopyName, Cond.initialized "java/lang/System", Cond.fieldLink RX5 22 "ColdShips$Ship" "orderWhats" "[I"]
def wsX9_land : List Cond := .code yX9_land cX9_land 7 none :: ((wsX9_land_r1 ++ (wsX9_land_r2 ++ (wsX9_land_r3 ++ wsX9_land_r4))) ++ wsX90 ++ wsX100 ++ wsX50 ++ wsX70 ++ wsX80 ++ wsX40)
def wsX9_passShip_r1 : List Cond := [Cond.fieldLink RX9 9 "ColdShips$Watch" "world" "LColdShips$World;", Cond.fieldLink RX9 32 "ColdShips$Watch" "sea" "I", Cond.fieldLink RX9 25 "ColdShips$Watch" "hour" "I", Cond.methodLink RX9 62 yX7_boil, Cond.instanceMethod yX7_boil, Cond.selects RX7 yX7_boil yX7_boil, Cond.initialized RX7, Cond.code yX7_boil cX7_boil 2 none, Cond.fieldLink RX7 32 "ColdShips$Tank" "gas" "I", Cond.constantLong RX7 53 (100000), Cond.methodLink RX7 55 yX7_evaporate, Cond.instanceMethod yX7_evaporate, Cond.selects RX7 yX7_evaporate yX7_evaporate, Cond.code yX7_evaporate cX7_evaporate 2 none, Cond.fieldLink RX7 35 "ColdShips$Tank" "vapor" "I", Cond.methodLink RX7 68 yX7_takeGas, Cond.instanceMethod yX7_takeGas, Cond.selects RX7 yX7_takeGas yX7_takeGas, Cond.code yX7_takeGas cX7_takeGas 6 none, Cond.fieldLink RX7 15 "ColdShips$Tank" "parts" "[I", Cond.fieldLink RX7 19 "ColdShips$Tank" "given" "[I", Cond.fieldLink RX7 22 "ColdShips$Tank" "rests" "[J", Cond.methodLink RX7 71 yX7_giveByRests, Cond.instanceMethod yX7_giveByRests]
def wsX9_passShip_r2 : List Cond := [Cond.selects RX7 yX7_giveByRests yX7_giveByRests, Cond.code yX7_giveByRests cX7_giveByRests 5 none, Cond.constantLong RX7 80 (-1), Cond.methodLink RX9 67 yX7_warmOrCool, Cond.instanceMethod yX7_warmOrCool, Cond.selects RX7 yX7_warmOrCool yX7_warmOrCool, Cond.code yX7_warmOrCool cX7_warmOrCool 2 none, Cond.fieldLink RX7 38 "ColdShips$Tank" "warm" "I", Cond.methodLink RX7 62 Lib.Math.min.name, Cond.static Lib.Math.min.name, Cond.initialized "java/lang/Math", Cond.code Lib.Math.min.name Lib.Math.min.code 2 (some .int), Cond.fieldLink RX7 9 "ColdShips$Tank" "cap" "I", Cond.methodLink RX7 65 Lib.MathLoose.min_long.x, Cond.static Lib.MathLoose.min_long.x, Cond.code Lib.MathLoose.min_long.x Lib.MathLoose.min_long.code 4 (some .long), Cond.methodLink RX7 59 yX7_heel, Cond.instanceMethod yX7_heel, Cond.selects RX7 yX7_heel yX7_heel, Cond.code yX7_heel cX7_heel 1 (some .int), Cond.methodLink RX9 73 yX5_burnFuel, Cond.instanceMethod yX5_burnFuel, Cond.selects RX5 yX5_burnFuel yX5_burnFuel, Cond.initialized RX5]
def wsX9_passShip_r3 : List Cond := [Cond.code yX5_burnFuel cX5_burnFuel 3 none, Cond.fieldLink RX5 12 "ColdShips$Ship" "tank" "LColdShips$Tank;", Cond.fieldLink RX5 55 "ColdShips$Ship" "drifting" "Z", Cond.fieldLink RX5 25 "ColdShips$Ship" "book" "[J", Cond.methodLink RX5 83 yX7_burn, Cond.instanceMethod yX7_burn, Cond.selects RX7 yX7_burn yX7_burn, Cond.code yX7_burn cX7_burn 4 (some .int), Cond.methodLink RX9 82 yX9_sail, Cond.instanceMethod yX9_sail, Cond.selects RX9 yX9_sail yX9_sail, Cond.initialized RX9, Cond.code yX9_sail cX9_sail 4 none, Cond.methodLink RX9 117 yX10_hoursBetween, Cond.instanceMethod yX10_hoursBetween, Cond.selects RX10 yX10_hoursBetween yX10_hoursBetween, Cond.initialized RX10, Cond.code yX10_hoursBetween cX10_hoursBetween 4 (some .int), Cond.fieldLink RX10 27 "ColdShips$World" "terminals" "[LColdShips$Terminal;", Cond.methodLink RX10 93 yX10_hasTerminal, Cond.instanceMethod yX10_hasTerminal, Cond.selects RX10 yX10_hasTerminal yX10_hasTerminal, Cond.code yX10_hasTerminal cX10_hasTerminal 2 (some .boolean), Cond.fieldLink RX10 78 "ColdShips$World" "terminalCount" "I"]
def wsX9_passShip_r4 : List Cond := [Cond.methodLink RX9 100 yX5_endOrder, Cond.instanceMethod yX5_endOrder, Cond.selects RX5 yX5_endOrder yX5_endOrder, Cond.code yX5_endOrder cX5_endOrder 1 none, Cond.fieldLink RX5 59 "ColdShips$Ship" "orders" "I", Cond.fieldLink RX5 18 "ColdShips$Ship" "orderSorts" "[I", Cond.methodLink RX5 77 arraycopyName, Cond.native arraycopyName, Cond.static arraycopyName, Cond.initialized "java/lang/System", Cond.fieldLink RX5 22 "ColdShips$Ship" "orderWhats" "[I", Cond.methodLink RX9 136 yX9_takesTurn, Cond.instanceMethod yX9_takesTurn, Cond.selects RX9 yX9_takesTurn yX9_takesTurn, Cond.code yX9_takesTurn cX9_takesTurn 2 (some .boolean), Cond.fieldLink RX9 35 "ColdShips$Watch" "turnTaken" "Z", Cond.methodLink RX9 86 yX9_tonsMayGo, Cond.instanceMethod yX9_tonsMayGo, Cond.selects RX9 yX9_tonsMayGo yX9_tonsMayGo, Cond.code yX9_tonsMayGo cX9_tonsMayGo 6 (some .boolean), Cond.methodLink RX9 140 yX10_hasTerminal, Cond.static yX11_slotOwner, Cond.initialized RX11, Cond.code yX11_slotOwner cX11_slotOwner 2 (some .int)]
def wsX9_passShip_r5 : List Cond := [Cond.methodLink RX9 152 yX7_draft, Cond.instanceMethod yX7_draft, Cond.selects RX7 yX7_draft yX7_draft, Cond.code yX7_draft cX7_draft 1 (some .int), Cond.methodLink RX9 160 yX6_meets, Cond.instanceMethod yX6_meets, Cond.selects RX6 yX6_meets yX6_meets, Cond.initialized RX6, Cond.code yX6_meets cX6_meets 6 (some .boolean), Cond.fieldLink RX6 27 "ColdShips$Spans" "size" "I", Cond.fieldLink RX6 21 "ColdShips$Spans" "begins" "[I", Cond.fieldLink RX6 15 "ColdShips$Spans" "owners" "[I", Cond.fieldLink RX6 24 "ColdShips$Spans" "ends" "[I", Cond.methodLink RX9 90 yX9_load, Cond.instanceMethod yX9_load, Cond.selects RX9 yX9_load yX9_load, Cond.code yX9_load cX9_load 6 none, Cond.methodLink RX9 175 Lib.Math.max.name, Cond.static Lib.Math.max.name, Cond.code Lib.Math.max.name Lib.Math.max.code 2 (some .int), Cond.methodLink RX9 186 Lib.Math.min.name, Cond.methodLink RX9 180 yX7_top, Cond.instanceMethod yX7_top, Cond.selects RX7 yX7_top yX7_top]
def wsX9_passShip_r6 : List Cond := [Cond.code yX7_top cX7_top 1 (some .int), Cond.methodLink RX9 192 yX7_fill, Cond.instanceMethod yX7_fill, Cond.selects RX7 yX7_fill yX7_fill, Cond.code yX7_fill cX7_fill 3 none, Cond.methodLink RX9 93 yX9_land, Cond.instanceMethod yX9_land, Cond.selects RX9 yX9_land yX9_land, Cond.code yX9_land cX9_land 7 none, Cond.methodLink RX9 196 yX7_heel, Cond.methodLink RX9 202 yX5_putAshore, Cond.instanceMethod yX5_putAshore, Cond.selects RX5 yX5_putAshore yX5_putAshore, Cond.code yX5_putAshore cX5_putAshore 4 none, Cond.fieldLink RX5 29 "ColdShips$Ship" "landParts" "[I", Cond.fieldLink RX5 93 "ColdShips$Ship" "landTons" "I", Cond.fieldLink RX5 96 "ColdShips$Ship" "landFirst" "I", Cond.fieldLink RX5 99 "ColdShips$Ship" "landLast" "I", Cond.methodLink RX5 87 yX7_takeGas, Cond.methodLink RX9 205 yX9_keepLanding, Cond.instanceMethod yX9_keepLanding, Cond.selects RX9 yX9_keepLanding yX9_keepLanding, Cond.code yX9_keepLanding cX9_keepLanding 5 none, Cond.constantLong RX9 236 (-1)]
def wsX9_passShip_r7 : List Cond := [Cond.methodLink RX9 218 yX4_addRow, Cond.instanceMethod yX4_addRow, Cond.selects RX4 yX4_addRow yX4_addRow, Cond.initialized RX4, Cond.code yX4_addRow cX4_addRow 2 (some .int), Cond.fieldLink RX4 25 "ColdShips$Rows" "size" "I", Cond.fieldLink RX4 15 "ColdShips$Rows" "width" "I", Cond.fieldLink RX4 21 "ColdShips$Rows" "cells" "[J", Cond.methodLink RX4 28 yJ7_fill_bad5a, Cond.static yJ7_fill_bad5a, Cond.initialized RJ7, Cond.code yJ7_fill_bad5a cJ7_fill_bad5a 6 none, Cond.methodLink RJ7 13 yJ7_rangeCheck_23922, Cond.static yJ7_rangeCheck_23922, Cond.code yJ7_rangeCheck_23922 cJ7_rangeCheck_23922 3 none, Cond.methodLink RX9 223 yX4_set, Cond.instanceMethod yX4_set, Cond.selects RX4 yX4_set yX4_set, Cond.code yX4_set cX4_set 5 none, Cond.methodLink RX4 38 yX4_has, Cond.instanceMethod yX4_has, Cond.selects RX4 yX4_has yX4_has, Cond.code yX4_has cX4_has 2 (some .boolean), Cond.methodLink RX9 208 yX5_forgetLanding]
def wsX9_passShip_r8 : List Cond := [Cond.instanceMethod yX5_forgetLanding, Cond.selects RX5 yX5_forgetLanding yX5_forgetLanding, Cond.code yX5_forgetLanding cX5_forgetLanding 1 none, Cond.methodLink RX5 71 yJ7_fill_53178, Cond.static yJ7_fill_53178, Cond.code yJ7_fill_53178 cJ7_fill_53178 4 none, Cond.methodLink RX9 110 yX7_vent, Cond.instanceMethod yX7_vent, Cond.selects RX7 yX7_vent yX7_vent, Cond.code yX7_vent cX7_vent 4 (some .int), Cond.constantLong RX7 47 (1000), Cond.methodLink RX7 26 Lib.Math.max.name, Cond.methodLink RX7 49 yX7_space, Cond.instanceMethod yX7_space, Cond.selects RX7 yX7_space yX7_space, Cond.code yX7_space cX7_space 1 (some .int)]
def wsX9_passShip : List Cond := .code yX9_passShip cX9_passShip 5 none :: ((wsX9_passShip_r1 ++ (wsX9_passShip_r2 ++ (wsX9_passShip_r3 ++ (wsX9_passShip_r4 ++ (wsX9_passShip_r5 ++ (wsX9_passShip_r6 ++ (wsX9_passShip_r7 ++ wsX9_passShip_r8))))))) ++ wsX90 ++ wsX100 ++ wsX50 ++ wsX70 ++ wsX80 ++ wsX60 ++ wsX40)
def wsX9_passHour_r1 : List Cond := [Cond.fieldLink RX9 9 "ColdShips$Watch" "world" "LColdShips$World;", Cond.fieldLink RX9 25 "ColdShips$Watch" "hour" "I", Cond.fieldLink RX9 32 "ColdShips$Watch" "sea" "I", Cond.fieldLink RX9 35 "ColdShips$Watch" "turnTaken" "Z", Cond.static yX11_isHour, Cond.initialized RX11, Cond.code yX11_isHour cX11_isHour 1 (some .boolean), Cond.methodLink RX11 51 yX11_within, Cond.static yX11_within, Cond.code yX11_within cX11_within 3 (some .boolean), Cond.methodLink RX9 42 yX9_passShip, Cond.instanceMethod yX9_passShip, Cond.selects RX9 yX9_passShip yX9_passShip, Cond.initialized RX9, Cond.code yX9_passShip cX9_passShip 5 none, Cond.methodLink RX9 62 yX7_boil, Cond.instanceMethod yX7_boil, Cond.selects RX7 yX7_boil yX7_boil, Cond.initialized RX7, Cond.code yX7_boil cX7_boil 2 none, Cond.fieldLink RX7 32 "ColdShips$Tank" "gas" "I", Cond.constantLong RX7 53 (100000), Cond.methodLink RX7 55 yX7_evaporate, Cond.instanceMethod yX7_evaporate]
def wsX9_passHour_r2 : List Cond := [Cond.selects RX7 yX7_evaporate yX7_evaporate, Cond.code yX7_evaporate cX7_evaporate 2 none, Cond.fieldLink RX7 35 "ColdShips$Tank" "vapor" "I", Cond.methodLink RX7 68 yX7_takeGas, Cond.instanceMethod yX7_takeGas, Cond.selects RX7 yX7_takeGas yX7_takeGas, Cond.code yX7_takeGas cX7_takeGas 6 none, Cond.fieldLink RX7 15 "ColdShips$Tank" "parts" "[I", Cond.fieldLink RX7 19 "ColdShips$Tank" "given" "[I", Cond.fieldLink RX7 22 "ColdShips$Tank" "rests" "[J", Cond.methodLink RX7 71 yX7_giveByRests, Cond.instanceMethod yX7_giveByRests, Cond.selects RX7 yX7_giveByRests yX7_giveByRests, Cond.code yX7_giveByRests cX7_giveByRests 5 none, Cond.constantLong RX7 80 (-1), Cond.methodLink RX9 67 yX7_warmOrCool, Cond.instanceMethod yX7_warmOrCool, Cond.selects RX7 yX7_warmOrCool yX7_warmOrCool, Cond.code yX7_warmOrCool cX7_warmOrCool 2 none, Cond.fieldLink RX7 38 "ColdShips$Tank" "warm" "I", Cond.methodLink RX7 62 Lib.Math.min.name, Cond.static Lib.Math.min.name, Cond.initialized "java/lang/Math", Cond.code Lib.Math.min.name Lib.Math.min.code 2 (some .int)]
def wsX9_passHour_r3 : List Cond := [Cond.fieldLink RX7 9 "ColdShips$Tank" "cap" "I", Cond.methodLink RX7 65 Lib.MathLoose.min_long.x, Cond.static Lib.MathLoose.min_long.x, Cond.code Lib.MathLoose.min_long.x Lib.MathLoose.min_long.code 4 (some .long), Cond.methodLink RX7 59 yX7_heel, Cond.instanceMethod yX7_heel, Cond.selects RX7 yX7_heel yX7_heel, Cond.code yX7_heel cX7_heel 1 (some .int), Cond.methodLink RX9 73 yX5_burnFuel, Cond.instanceMethod yX5_burnFuel, Cond.selects RX5 yX5_burnFuel yX5_burnFuel, Cond.initialized RX5, Cond.code yX5_burnFuel cX5_burnFuel 3 none, Cond.fieldLink RX5 12 "ColdShips$Ship" "tank" "LColdShips$Tank;", Cond.fieldLink RX5 55 "ColdShips$Ship" "drifting" "Z", Cond.fieldLink RX5 25 "ColdShips$Ship" "book" "[J", Cond.methodLink RX5 83 yX7_burn, Cond.instanceMethod yX7_burn, Cond.selects RX7 yX7_burn yX7_burn, Cond.code yX7_burn cX7_burn 4 (some .int), Cond.methodLink RX9 82 yX9_sail, Cond.instanceMethod yX9_sail, Cond.selects RX9 yX9_sail yX9_sail, Cond.code yX9_sail cX9_sail 4 none]
def wsX9_passHour_r4 : List Cond := [Cond.methodLink RX9 117 yX10_hoursBetween, Cond.instanceMethod yX10_hoursBetween, Cond.selects RX10 yX10_hoursBetween yX10_hoursBetween, Cond.initialized RX10, Cond.code yX10_hoursBetween cX10_hoursBetween 4 (some .int), Cond.fieldLink RX10 27 "ColdShips$World" "terminals" "[LColdShips$Terminal;", Cond.methodLink RX10 93 yX10_hasTerminal, Cond.instanceMethod yX10_hasTerminal, Cond.selects RX10 yX10_hasTerminal yX10_hasTerminal, Cond.code yX10_hasTerminal cX10_hasTerminal 2 (some .boolean), Cond.fieldLink RX10 78 "ColdShips$World" "terminalCount" "I", Cond.methodLink RX9 100 yX5_endOrder, Cond.instanceMethod yX5_endOrder, Cond.selects RX5 yX5_endOrder yX5_endOrder, Cond.code yX5_endOrder cX5_endOrder 1 none, Cond.fieldLink RX5 59 "ColdShips$Ship" "orders" "I", Cond.fieldLink RX5 18 "ColdShips$Ship" "orderSorts" "[I", Cond.methodLink RX5 77 arraycopyName, Cond.native arraycopyName, Cond.static arraycopyName, Cond.initialized "java/lang/System", Cond.fieldLink RX5 22 "ColdShips$Ship" "orderWhats" "[I", Cond.methodLink RX9 136 yX9_takesTurn, Cond.instanceMethod yX9_takesTurn]
def wsX9_passHour_r5 : List Cond := [Cond.selects RX9 yX9_takesTurn yX9_takesTurn, Cond.code yX9_takesTurn cX9_takesTurn 2 (some .boolean), Cond.methodLink RX9 86 yX9_tonsMayGo, Cond.instanceMethod yX9_tonsMayGo, Cond.selects RX9 yX9_tonsMayGo yX9_tonsMayGo, Cond.code yX9_tonsMayGo cX9_tonsMayGo 6 (some .boolean), Cond.methodLink RX9 140 yX10_hasTerminal, Cond.static yX11_slotOwner, Cond.code yX11_slotOwner cX11_slotOwner 2 (some .int), Cond.methodLink RX9 152 yX7_draft, Cond.instanceMethod yX7_draft, Cond.selects RX7 yX7_draft yX7_draft, Cond.code yX7_draft cX7_draft 1 (some .int), Cond.methodLink RX9 160 yX6_meets, Cond.instanceMethod yX6_meets, Cond.selects RX6 yX6_meets yX6_meets, Cond.initialized RX6, Cond.code yX6_meets cX6_meets 6 (some .boolean), Cond.fieldLink RX6 27 "ColdShips$Spans" "size" "I", Cond.fieldLink RX6 21 "ColdShips$Spans" "begins" "[I", Cond.fieldLink RX6 15 "ColdShips$Spans" "owners" "[I", Cond.fieldLink RX6 24 "ColdShips$Spans" "ends" "[I", Cond.methodLink RX9 90 yX9_load, Cond.instanceMethod yX9_load]
def wsX9_passHour_r6 : List Cond := [Cond.selects RX9 yX9_load yX9_load, Cond.code yX9_load cX9_load 6 none, Cond.methodLink RX9 175 Lib.Math.max.name, Cond.static Lib.Math.max.name, Cond.code Lib.Math.max.name Lib.Math.max.code 2 (some .int), Cond.methodLink RX9 186 Lib.Math.min.name, Cond.methodLink RX9 180 yX7_top, Cond.instanceMethod yX7_top, Cond.selects RX7 yX7_top yX7_top, Cond.code yX7_top cX7_top 1 (some .int), Cond.methodLink RX9 192 yX7_fill, Cond.instanceMethod yX7_fill, Cond.selects RX7 yX7_fill yX7_fill, Cond.code yX7_fill cX7_fill 3 none, Cond.methodLink RX9 93 yX9_land, Cond.instanceMethod yX9_land, Cond.selects RX9 yX9_land yX9_land, Cond.code yX9_land cX9_land 7 none, Cond.methodLink RX9 196 yX7_heel, Cond.methodLink RX9 202 yX5_putAshore, Cond.instanceMethod yX5_putAshore, Cond.selects RX5 yX5_putAshore yX5_putAshore, Cond.code yX5_putAshore cX5_putAshore 4 none, Cond.fieldLink RX5 29 "ColdShips$Ship" "landParts" "[I"]
def wsX9_passHour_r7 : List Cond := [Cond.fieldLink RX5 93 "ColdShips$Ship" "landTons" "I", Cond.fieldLink RX5 96 "ColdShips$Ship" "landFirst" "I", Cond.fieldLink RX5 99 "ColdShips$Ship" "landLast" "I", Cond.methodLink RX5 87 yX7_takeGas, Cond.methodLink RX9 205 yX9_keepLanding, Cond.instanceMethod yX9_keepLanding, Cond.selects RX9 yX9_keepLanding yX9_keepLanding, Cond.code yX9_keepLanding cX9_keepLanding 5 none, Cond.constantLong RX9 236 (-1), Cond.methodLink RX9 218 yX4_addRow, Cond.instanceMethod yX4_addRow, Cond.selects RX4 yX4_addRow yX4_addRow, Cond.initialized RX4, Cond.code yX4_addRow cX4_addRow 2 (some .int), Cond.fieldLink RX4 25 "ColdShips$Rows" "size" "I", Cond.fieldLink RX4 15 "ColdShips$Rows" "width" "I", Cond.fieldLink RX4 21 "ColdShips$Rows" "cells" "[J", Cond.methodLink RX4 28 yJ7_fill_bad5a, Cond.static yJ7_fill_bad5a, Cond.initialized RJ7, Cond.code yJ7_fill_bad5a cJ7_fill_bad5a 6 none, Cond.methodLink RJ7 13 yJ7_rangeCheck_23922, Cond.static yJ7_rangeCheck_23922, Cond.code yJ7_rangeCheck_23922 cJ7_rangeCheck_23922 3 none]
def wsX9_passHour_r8 : List Cond := [Cond.methodLink RX9 223 yX4_set, Cond.instanceMethod yX4_set, Cond.selects RX4 yX4_set yX4_set, Cond.code yX4_set cX4_set 5 none, Cond.methodLink RX4 38 yX4_has, Cond.instanceMethod yX4_has, Cond.selects RX4 yX4_has yX4_has, Cond.code yX4_has cX4_has 2 (some .boolean), Cond.methodLink RX9 208 yX5_forgetLanding, Cond.instanceMethod yX5_forgetLanding, Cond.selects RX5 yX5_forgetLanding yX5_forgetLanding, Cond.code yX5_forgetLanding cX5_forgetLanding 1 none, Cond.methodLink RX5 71 yJ7_fill_53178, Cond.static yJ7_fill_53178, Cond.code yJ7_fill_53178 cJ7_fill_53178 4 none, Cond.methodLink RX9 110 yX7_vent, Cond.instanceMethod yX7_vent, Cond.selects RX7 yX7_vent yX7_vent, Cond.code yX7_vent cX7_vent 4 (some .int), Cond.constantLong RX7 47 (1000), Cond.methodLink RX7 26 Lib.Math.max.name, Cond.methodLink RX7 49 yX7_space, Cond.instanceMethod yX7_space, Cond.selects RX7 yX7_space yX7_space]
def wsX9_passHour_r9 : List Cond := [Cond.code yX7_space cX7_space 1 (some .int)]
def wsX9_passHour : List Cond := .code yX9_passHour cX9_passHour 2 none :: ((wsX9_passHour_r1 ++ (wsX9_passHour_r2 ++ (wsX9_passHour_r3 ++ (wsX9_passHour_r4 ++ (wsX9_passHour_r5 ++ (wsX9_passHour_r6 ++ (wsX9_passHour_r7 ++ (wsX9_passHour_r8 ++ wsX9_passHour_r9)))))))) ++ wsX90 ++ wsX100 ++ wsX50 ++ wsX70 ++ wsX80 ++ wsX60 ++ wsX40)
set_option maxRecDepth 20000 in
theorem ggX9_passHour_X11_isHour : GoodIn wsX9_passHour wsX11_isHour := goodIn_r _ [7, 8, 9, 6, 10] (by decide +kernel) (by decide +kernel)
set_option maxRecDepth 20000 in
theorem ggX9_passHour_X9_passShip : GoodIn wsX9_passHour wsX9_passShip := goodIn_r _ [15, 1, 3, 2, 16, 17, 18, 19, 20, 21, 22, 23, 24, 25, 26, 27, 28, 29, 30, 31, 32, 33, 34, 35, 36, 37, 38, 39, 40, 41, 42, 43, 44, 45, 46, 47, 48, 49, 50, 51, 52, 53, 54, 55, 56, 57, 58, 59, 60, 61, 62, 63, 64, 65, 66, 67, 68, 69, 70, 71, 14, 72, 73, 74, 75, 76, 77, 78, 79, 80, 81, 82, 83, 84, 85, 86, 87, 88, 89, 90, 91, 92, 93, 94, 95, 96, 97, 98, 4, 99, 100, 101, 102, 103, 104, 6, 105, 106, 107, 108, 109, 110, 111, 112, 113, 114, 115, 116, 117, 118, 119, 120, 121, 122, 123, 124, 125, 126, 127, 128, 129, 130, 131, 132, 133, 134, 135, 136, 137, 138, 139, 140, 141, 142, 143, 144, 145, 146, 147, 148, 149, 150, 151, 152, 153, 154, 155, 156, 157, 158, 159, 160, 161, 162, 163, 164, 165, 166, 167, 168, 169, 170, 171, 172, 173, 174, 175, 176, 177, 178, 179, 180, 181, 182, 183, 184, 185, 186, 187, 188, 189, 190, 191, 192, 193, 194, 195, 196, 197, 198, 199, 200, 201, 202, 203, 204, 205, 206, 207, 208, 209, 210, 211, 212, 213, 214, 215, 216, 217, 218, 219, 220, 221, 222, 223, 224, 225, 226, 227, 228, 229, 230, 231, 232, 233, 234, 235, 236, 237, 238, 239, 240, 241, 242, 243, 244, 245, 246, 247, 248, 249, 250, 251, 252, 253, 254] (by decide +kernel) (by decide +kernel)
set_option maxRecDepth 20000 in
theorem gX9_passHour_X9_passShip : GoodIn wsX9_passHour (wsV RX9 42 RX9 yX9_passShip wsX9_passShip) := goodIn_app (goodIn_of _ (by decide +kernel)) ggX9_passHour_X9_passShip
theorem dX9_passHour_0 : decode cX9_passHour 0 = .ok (.aload_n 0, 1) := by decide +kernel
theorem dX9_passHour_1 : decode cX9_passHour 1 = .ok (.getfield 9, 3) := by decide +kernel
theorem dX9_passHour_4 : decode cX9_passHour 4 = .ok (.getfield 15, 3) := by decide +kernel
theorem dX9_passHour_7 : decode cX9_passHour 7 = .ok (.invokestatic 21, 3) := by decide +kernel
theorem dX9_passHour_10 : decode cX9_passHour 10 = .ok (.ifCond .ne 4, 3) := by decide +kernel
theorem dX9_passHour_13 : decode cX9_passHour 13 = .ok (.return_, 1) := by decide +kernel
theorem dX9_passHour_14 : decode cX9_passHour 14 = .ok (.aload_n 0, 1) := by decide +kernel
theorem dX9_passHour_15 : decode cX9_passHour 15 = .ok (.aload_n 0, 1) := by decide +kernel
theorem dX9_passHour_16 : decode cX9_passHour 16 = .ok (.getfield 9, 3) := by decide +kernel
theorem dX9_passHour_19 : decode cX9_passHour 19 = .ok (.getfield 15, 3) := by decide +kernel
theorem dX9_passHour_22 : decode cX9_passHour 22 = .ok (.putfield 25, 3) := by decide +kernel
theorem dX9_passHour_25 : decode cX9_passHour 25 = .ok (.aload_n 0, 1) := by decide +kernel
theorem dX9_passHour_26 : decode cX9_passHour 26 = .ok (.aload_n 0, 1) := by decide +kernel
theorem dX9_passHour_27 : decode cX9_passHour 27 = .ok (.getfield 9, 3) := by decide +kernel
theorem dX9_passHour_30 : decode cX9_passHour 30 = .ok (.getfield 28, 3) := by decide +kernel
theorem dX9_passHour_33 : decode cX9_passHour 33 = .ok (.aload_n 0, 1) := by decide +kernel
theorem dX9_passHour_34 : decode cX9_passHour 34 = .ok (.getfield 25, 3) := by decide +kernel
theorem dX9_passHour_37 : decode cX9_passHour 37 = .ok (.bipush 24, 2) := by decide +kernel
theorem dX9_passHour_39 : decode cX9_passHour 39 = .ok (.idiv, 1) := by decide +kernel
theorem dX9_passHour_40 : decode cX9_passHour 40 = .ok (.iaload, 1) := by decide +kernel
theorem dX9_passHour_41 : decode cX9_passHour 41 = .ok (.putfield 32, 3) := by decide +kernel
theorem dX9_passHour_44 : decode cX9_passHour 44 = .ok (.aload_n 0, 1) := by decide +kernel
theorem dX9_passHour_45 : decode cX9_passHour 45 = .ok (.iconst 0, 1) := by decide +kernel
theorem dX9_passHour_46 : decode cX9_passHour 46 = .ok (.putfield 35, 3) := by decide +kernel
theorem dX9_passHour_49 : decode cX9_passHour 49 = .ok (.iconst 0, 1) := by decide +kernel
theorem dX9_passHour_50 : decode cX9_passHour 50 = .ok (.istore_n 1, 1) := by decide +kernel
theorem dX9_passHour_51 : decode cX9_passHour 51 = .ok (.iload_n 1, 1) := by decide +kernel
theorem dX9_passHour_52 : decode cX9_passHour 52 = .ok (.aload_n 0, 1) := by decide +kernel
theorem dX9_passHour_53 : decode cX9_passHour 53 = .ok (.getfield 9, 3) := by decide +kernel
theorem dX9_passHour_56 : decode cX9_passHour 56 = .ok (.getfield 39, 3) := by decide +kernel
theorem dX9_passHour_59 : decode cX9_passHour 59 = .ok (.if_icmp .ge 14, 3) := by decide +kernel
theorem dX9_passHour_62 : decode cX9_passHour 62 = .ok (.aload_n 0, 1) := by decide +kernel
theorem dX9_passHour_63 : decode cX9_passHour 63 = .ok (.iload_n 1, 1) := by decide +kernel
theorem dX9_passHour_64 : decode cX9_passHour 64 = .ok (.invokevirtual 42, 3) := by decide +kernel
theorem dX9_passHour_67 : decode cX9_passHour 67 = .ok (.iinc 1 1, 3) := by decide +kernel
theorem dX9_passHour_70 : decode cX9_passHour 70 = .ok (.goto (-19), 3) := by decide +kernel
theorem dX9_passHour_73 : decode cX9_passHour 73 = .ok (.aload_n 0, 1) := by decide +kernel
theorem dX9_passHour_74 : decode cX9_passHour 74 = .ok (.getfield 9, 3) := by decide +kernel
theorem dX9_passHour_77 : decode cX9_passHour 77 = .ok (.dup, 1) := by decide +kernel
theorem dX9_passHour_78 : decode cX9_passHour 78 = .ok (.getfield 15, 3) := by decide +kernel
theorem dX9_passHour_81 : decode cX9_passHour 81 = .ok (.iconst 1, 1) := by decide +kernel
theorem dX9_passHour_82 : decode cX9_passHour 82 = .ok (.iadd, 1) := by decide +kernel
theorem dX9_passHour_83 : decode cX9_passHour 83 = .ok (.putfield 15, 3) := by decide +kernel
theorem dX9_passHour_86 : decode cX9_passHour 86 = .ok (.return_, 1) := by decide +kernel
set_option maxRecDepth 20000 in
theorem ggX9_passShip_X7_boil : GoodIn wsX9_passShip wsX7_boil := goodIn_r _ [8, 9, 10, 11, 12, 13, 7, 14, 15, 16, 17, 18, 19, 20, 21, 22, 23, 24, 25, 26, 27, 225, 226, 227, 228, 229, 230, 231] (by decide +kernel) (by decide +kernel)
set_option maxRecDepth 20000 in
theorem gX9_passShip_X7_boil : GoodIn wsX9_passShip (wsV RX9 62 RX7 yX7_boil wsX7_boil) := goodIn_app (goodIn_of _ (by decide +kernel)) ggX9_passShip_X7_boil
set_option maxRecDepth 20000 in
theorem ggX9_passShip_X7_warmOrCool : GoodIn wsX9_passShip wsX7_warmOrCool := goodIn_r _ [31, 9, 32, 33, 34, 35, 36, 37, 10, 38, 39, 40, 41, 42, 43, 7, 44, 11, 12, 13, 14, 15, 16, 17, 18, 19, 20, 21, 22, 23, 24, 25, 26, 27, 225, 226, 227, 228, 229, 230, 231] (by decide +kernel) (by decide +kernel)
set_option maxRecDepth 20000 in
theorem gX9_passShip_X7_warmOrCool : GoodIn wsX9_passShip (wsV RX9 67 RX7 yX7_warmOrCool wsX7_warmOrCool) := goodIn_app (goodIn_of _ (by decide +kernel)) ggX9_passShip_X7_warmOrCool
set_option maxRecDepth 20000 in
theorem ggX9_passShip_X5_burnFuel : GoodIn wsX9_passShip wsX5_burnFuel := goodIn_r _ [49, 50, 51, 52, 53, 54, 55, 7, 56, 15, 33, 34, 35, 36, 9, 16, 17, 18, 19, 20, 21, 22, 23, 24, 25, 26, 27, 208, 209, 210, 211, 212, 213, 214, 215, 216, 217, 218, 219, 220, 221, 222, 223, 224, 225, 226, 227, 228, 229, 230, 231] (by decide +kernel) (by decide +kernel)
set_option maxRecDepth 20000 in
theorem gX9_passShip_X5_burnFuel : GoodIn wsX9_passShip (wsV RX9 73 RX5 yX5_burnFuel wsX5_burnFuel) := goodIn_app (goodIn_of _ (by decide +kernel)) ggX9_passShip_X5_burnFuel
set_option maxRecDepth 20000 in
theorem ggX9_passShip_X9_sail : GoodIn wsX9_passShip wsX9_sail := goodIn_r _ [61, 1, 2, 3, 62, 63, 64, 65, 66, 67, 68, 69, 70, 71, 72, 73, 74, 75, 48, 76, 77, 78, 79, 80, 81, 82, 83, 84, 85, 86, 60, 87, 88, 208, 209, 210, 211, 212, 213, 214, 215, 216, 217, 218, 219, 220, 221, 222, 223, 224, 185, 186, 187, 188, 189, 190, 191, 192, 193, 194, 195, 196, 197, 198, 199, 200, 201, 202, 203, 204, 205, 206, 207, 232, 233, 234, 235, 236, 237, 238] (by decide +kernel) (by decide +kernel)
set_option maxRecDepth 20000 in
theorem gX9_passShip_X9_sail : GoodIn wsX9_passShip (wsV RX9 82 RX9 yX9_sail wsX9_sail) := goodIn_app (goodIn_of _ (by decide +kernel)) ggX9_passShip_X9_sail
set_option maxRecDepth 20000 in
theorem ggX9_passShip_X9_tonsMayGo : GoodIn wsX9_passShip wsX9_tonsMayGo := goodIn_r _ [92, 1, 3, 93, 69, 70, 65, 71, 72, 94, 95, 96, 97, 98, 99, 7, 100, 9, 37, 101, 102, 103, 104, 105, 106, 107, 108, 109, 208, 209, 210, 211, 212, 213, 214, 215, 216, 217, 218, 219, 220, 221, 222, 223, 224, 185, 186, 187, 188, 189, 190, 191, 192, 193, 194, 195, 196, 197, 198, 199, 200, 201, 202, 203, 204, 205, 206, 207, 232, 233, 234, 235, 236, 237, 238, 225, 226, 227, 228, 229, 230, 231, 239, 240, 241, 242] (by decide +kernel) (by decide +kernel)
set_option maxRecDepth 20000 in
theorem gX9_passShip_X9_tonsMayGo : GoodIn wsX9_passShip (wsV RX9 86 RX9 yX9_tonsMayGo wsX9_tonsMayGo) := goodIn_app (goodIn_of _ (by decide +kernel)) ggX9_passShip_X9_tonsMayGo
set_option maxRecDepth 20000 in
theorem ggX9_passShip_X9_load : GoodIn wsX9_passShip wsX9_load := goodIn_r _ [113, 1, 114, 115, 35, 116, 117, 34, 36, 118, 119, 120, 7, 121, 37, 122, 123, 124, 125, 9, 20, 73, 74, 75, 48, 76, 77, 78, 79, 80, 81, 82, 83, 185, 186, 187, 188, 189, 190, 191, 192, 193, 194, 195, 196, 197, 198, 199, 200, 201, 202, 203, 204, 205, 206, 207, 208, 209, 210, 211, 212, 213, 214, 215, 216, 217, 218, 219, 220, 221, 222, 223, 224, 225, 226, 227, 228, 229, 230, 231, 232, 233, 234, 235, 236, 237, 238] (by decide +kernel) (by decide +kernel)
set_option maxRecDepth 20000 in
theorem gX9_passShip_X9_load : GoodIn wsX9_passShip (wsV RX9 90 RX9 yX9_load wsX9_load) := goodIn_app (goodIn_of _ (by decide +kernel)) ggX9_passShip_X9_load
set_option maxRecDepth 20000 in
theorem ggX9_passShip_X9_land : GoodIn wsX9_passShip wsX9_land := goodIn_r _ [129, 1, 114, 115, 35, 116, 117, 34, 36, 3, 130, 42, 43, 7, 44, 37, 131, 132, 133, 48, 134, 50, 135, 136, 137, 138, 52, 139, 17, 18, 19, 9, 20, 21, 22, 23, 24, 25, 26, 27, 140, 141, 142, 60, 143, 144, 145, 146, 147, 148, 149, 150, 151, 152, 153, 154, 155, 156, 157, 158, 159, 160, 161, 162, 163, 164, 165, 166, 167, 168, 169, 170, 171, 172, 173, 174, 73, 74, 75, 76, 77, 78, 79, 80, 81, 82, 83, 185, 186, 187, 188, 189, 190, 191, 192, 193, 194, 195, 196, 197, 198, 199, 200, 201, 202, 203, 204, 205, 206, 207, 208, 209, 210, 211, 212, 213, 214, 215, 216, 217, 218, 219, 220, 221, 222, 223, 224, 225, 226, 227, 228, 229, 230, 231, 232, 233, 234, 235, 236, 237, 238, 243, 244, 245] (by decide +kernel) (by decide +kernel)
set_option maxRecDepth 20000 in
theorem gX9_passShip_X9_land : GoodIn wsX9_passShip (wsV RX9 93 RX9 yX9_land wsX9_land) := goodIn_app (goodIn_of _ (by decide +kernel)) ggX9_passShip_X9_land
set_option maxRecDepth 20000 in
theorem ggX9_passShip_X5_endOrder : GoodIn wsX9_passShip wsX5_endOrder := goodIn_r _ [76, 77, 78, 79, 80, 81, 82, 83, 208, 209, 210, 211, 212, 213, 214, 215, 216, 217, 218, 219, 220, 221, 222, 223, 224] (by decide +kernel) (by decide +kernel)
set_option maxRecDepth 20000 in
theorem gX9_passShip_X5_endOrder : GoodIn wsX9_passShip (wsV RX9 100 RX5 yX5_endOrder wsX5_endOrder) := goodIn_app (goodIn_of _ (by decide +kernel)) ggX9_passShip_X5_endOrder
set_option maxRecDepth 20000 in
theorem ggX9_passShip_X7_vent : GoodIn wsX9_passShip wsX7_vent := goodIn_r _ [178, 179, 15, 180, 115, 35, 116, 181, 182, 183, 7, 184, 37, 9, 225, 226, 227, 228, 229, 230, 231] (by decide +kernel) (by decide +kernel)
set_option maxRecDepth 20000 in
theorem gX9_passShip_X7_vent : GoodIn wsX9_passShip (wsV RX9 110 RX7 yX7_vent wsX7_vent) := goodIn_app (goodIn_of _ (by decide +kernel)) ggX9_passShip_X7_vent
theorem dX9_passShip_0 : decode cX9_passShip 0 = .ok (.aload_n 0, 1) := by decide +kernel
theorem dX9_passShip_1 : decode cX9_passShip 1 = .ok (.getfield 9, 3) := by decide +kernel
theorem dX9_passShip_4 : decode cX9_passShip 4 = .ok (.getfield 46, 3) := by decide +kernel
theorem dX9_passShip_7 : decode cX9_passShip 7 = .ok (.iload_n 1, 1) := by decide +kernel
theorem dX9_passShip_8 : decode cX9_passShip 8 = .ok (.aaload, 1) := by decide +kernel
theorem dX9_passShip_9 : decode cX9_passShip 9 = .ok (.astore_n 2, 1) := by decide +kernel
theorem dX9_passShip_10 : decode cX9_passShip 10 = .ok (.aload_n 2, 1) := by decide +kernel
theorem dX9_passShip_11 : decode cX9_passShip 11 = .ok (.getfield 50, 3) := by decide +kernel
theorem dX9_passShip_14 : decode cX9_passShip 14 = .ok (.ifCond .le 7, 3) := by decide +kernel
theorem dX9_passShip_17 : decode cX9_passShip 17 = .ok (.iconst 1, 1) := by decide +kernel
theorem dX9_passShip_18 : decode cX9_passShip 18 = .ok (.goto 4, 3) := by decide +kernel
theorem dX9_passShip_21 : decode cX9_passShip 21 = .ok (.iconst 0, 1) := by decide +kernel
theorem dX9_passShip_22 : decode cX9_passShip 22 = .ok (.istore_n 3, 1) := by decide +kernel
theorem dX9_passShip_23 : decode cX9_passShip 23 = .ok (.aload_n 2, 1) := by decide +kernel
theorem dX9_passShip_24 : decode cX9_passShip 24 = .ok (.getfield 55, 3) := by decide +kernel
theorem dX9_passShip_27 : decode cX9_passShip 27 = .ok (.aload_n 0, 1) := by decide +kernel
theorem dX9_passShip_28 : decode cX9_passShip 28 = .ok (.getfield 9, 3) := by decide +kernel
theorem dX9_passShip_31 : decode cX9_passShip 31 = .ok (.getfield 59, 3) := by decide +kernel
theorem dX9_passShip_34 : decode cX9_passShip 34 = .ok (.aload_n 0, 1) := by decide +kernel
theorem dX9_passShip_35 : decode cX9_passShip 35 = .ok (.getfield 32, 3) := by decide +kernel
theorem dX9_passShip_38 : decode cX9_passShip 38 = .ok (.iadd, 1) := by decide +kernel
theorem dX9_passShip_39 : decode cX9_passShip 39 = .ok (.invokevirtual 62, 3) := by decide +kernel
theorem dX9_passShip_42 : decode cX9_passShip 42 = .ok (.aload_n 2, 1) := by decide +kernel
theorem dX9_passShip_43 : decode cX9_passShip 43 = .ok (.getfield 55, 3) := by decide +kernel
theorem dX9_passShip_46 : decode cX9_passShip 46 = .ok (.invokevirtual 67, 3) := by decide +kernel
theorem dX9_passShip_49 : decode cX9_passShip 49 = .ok (.aload_n 2, 1) := by decide +kernel
theorem dX9_passShip_50 : decode cX9_passShip 50 = .ok (.iload_n 3, 1) := by decide +kernel
theorem dX9_passShip_51 : decode cX9_passShip 51 = .ok (.ifCond .eq 10, 3) := by decide +kernel
theorem dX9_passShip_54 : decode cX9_passShip 54 = .ok (.aload_n 2, 1) := by decide +kernel
theorem dX9_passShip_55 : decode cX9_passShip 55 = .ok (.getfield 70, 3) := by decide +kernel
theorem dX9_passShip_58 : decode cX9_passShip 58 = .ok (.goto 9, 3) := by decide +kernel
theorem dX9_passShip_61 : decode cX9_passShip 61 = .ok (.aload_n 2, 1) := by decide +kernel
theorem dX9_passShip_62 : decode cX9_passShip 62 = .ok (.getfield 70, 3) := by decide +kernel
theorem dX9_passShip_65 : decode cX9_passShip 65 = .ok (.iconst 4, 1) := by decide +kernel
theorem dX9_passShip_66 : decode cX9_passShip 66 = .ok (.idiv, 1) := by decide +kernel
theorem dX9_passShip_67 : decode cX9_passShip 67 = .ok (.invokevirtual 73, 3) := by decide +kernel
theorem dX9_passShip_70 : decode cX9_passShip 70 = .ok (.aload_n 2, 1) := by decide +kernel
theorem dX9_passShip_71 : decode cX9_passShip 71 = .ok (.getfield 76, 3) := by decide +kernel
theorem dX9_passShip_74 : decode cX9_passShip 74 = .ok (.ifCond .le 12, 3) := by decide +kernel
theorem dX9_passShip_77 : decode cX9_passShip 77 = .ok (.aload_n 2, 1) := by decide +kernel
theorem dX9_passShip_78 : decode cX9_passShip 78 = .ok (.getfield 79, 3) := by decide +kernel
theorem dX9_passShip_81 : decode cX9_passShip 81 = .ok (.iconst 0, 1) := by decide +kernel
theorem dX9_passShip_82 : decode cX9_passShip 82 = .ok (.iaload, 1) := by decide +kernel
theorem dX9_passShip_83 : decode cX9_passShip 83 = .ok (.goto 4, 3) := by decide +kernel
theorem dX9_passShip_86 : decode cX9_passShip 86 = .ok (.iconst (-1), 1) := by decide +kernel
theorem dX9_passShip_87 : decode cX9_passShip 87 = .ok (.istore 4, 2) := by decide +kernel
theorem dX9_passShip_89 : decode cX9_passShip 89 = .ok (.iload 4, 2) := by decide +kernel
theorem dX9_passShip_91 : decode cX9_passShip 91 = .ok (.ifCond .ne 11, 3) := by decide +kernel
theorem dX9_passShip_94 : decode cX9_passShip 94 = .ok (.aload_n 0, 1) := by decide +kernel
theorem dX9_passShip_95 : decode cX9_passShip 95 = .ok (.aload_n 2, 1) := by decide +kernel
theorem dX9_passShip_96 : decode cX9_passShip 96 = .ok (.invokevirtual 82, 3) := by decide +kernel
theorem dX9_passShip_99 : decode cX9_passShip 99 = .ok (.goto 73, 3) := by decide +kernel
theorem dX9_passShip_102 : decode cX9_passShip 102 = .ok (.iload 4, 2) := by decide +kernel
theorem dX9_passShip_104 : decode cX9_passShip 104 = .ok (.iconst 1, 1) := by decide +kernel
theorem dX9_passShip_105 : decode cX9_passShip 105 = .ok (.if_icmp .ne 20, 3) := by decide +kernel
theorem dX9_passShip_108 : decode cX9_passShip 108 = .ok (.aload_n 0, 1) := by decide +kernel
theorem dX9_passShip_109 : decode cX9_passShip 109 = .ok (.iload_n 1, 1) := by decide +kernel
theorem dX9_passShip_110 : decode cX9_passShip 110 = .ok (.aload_n 2, 1) := by decide +kernel
theorem dX9_passShip_111 : decode cX9_passShip 111 = .ok (.invokevirtual 86, 3) := by decide +kernel
theorem dX9_passShip_114 : decode cX9_passShip 114 = .ok (.ifCond .eq 11, 3) := by decide +kernel
theorem dX9_passShip_117 : decode cX9_passShip 117 = .ok (.aload_n 0, 1) := by decide +kernel
theorem dX9_passShip_118 : decode cX9_passShip 118 = .ok (.aload_n 2, 1) := by decide +kernel
theorem dX9_passShip_119 : decode cX9_passShip 119 = .ok (.invokevirtual 90, 3) := by decide +kernel
theorem dX9_passShip_122 : decode cX9_passShip 122 = .ok (.goto 50, 3) := by decide +kernel
theorem dX9_passShip_125 : decode cX9_passShip 125 = .ok (.iload 4, 2) := by decide +kernel
theorem dX9_passShip_127 : decode cX9_passShip 127 = .ok (.iconst 2, 1) := by decide +kernel
theorem dX9_passShip_128 : decode cX9_passShip 128 = .ok (.if_icmp .ne 21, 3) := by decide +kernel
theorem dX9_passShip_131 : decode cX9_passShip 131 = .ok (.aload_n 0, 1) := by decide +kernel
theorem dX9_passShip_132 : decode cX9_passShip 132 = .ok (.iload_n 1, 1) := by decide +kernel
theorem dX9_passShip_133 : decode cX9_passShip 133 = .ok (.aload_n 2, 1) := by decide +kernel
theorem dX9_passShip_134 : decode cX9_passShip 134 = .ok (.invokevirtual 86, 3) := by decide +kernel
theorem dX9_passShip_137 : decode cX9_passShip 137 = .ok (.ifCond .eq 12, 3) := by decide +kernel
theorem dX9_passShip_140 : decode cX9_passShip 140 = .ok (.aload_n 0, 1) := by decide +kernel
theorem dX9_passShip_141 : decode cX9_passShip 141 = .ok (.iload_n 1, 1) := by decide +kernel
theorem dX9_passShip_142 : decode cX9_passShip 142 = .ok (.aload_n 2, 1) := by decide +kernel
theorem dX9_passShip_143 : decode cX9_passShip 143 = .ok (.invokevirtual 93, 3) := by decide +kernel
theorem dX9_passShip_146 : decode cX9_passShip 146 = .ok (.goto 26, 3) := by decide +kernel
theorem dX9_passShip_149 : decode cX9_passShip 149 = .ok (.iload 4, 2) := by decide +kernel
theorem dX9_passShip_151 : decode cX9_passShip 151 = .ok (.iconst 3, 1) := by decide +kernel
theorem dX9_passShip_152 : decode cX9_passShip 152 = .ok (.if_icmp .ne 20, 3) := by decide +kernel
theorem dX9_passShip_155 : decode cX9_passShip 155 = .ok (.aload_n 0, 1) := by decide +kernel
theorem dX9_passShip_156 : decode cX9_passShip 156 = .ok (.getfield 25, 3) := by decide +kernel
theorem dX9_passShip_159 : decode cX9_passShip 159 = .ok (.aload_n 2, 1) := by decide +kernel
theorem dX9_passShip_160 : decode cX9_passShip 160 = .ok (.getfield 97, 3) := by decide +kernel
theorem dX9_passShip_163 : decode cX9_passShip 163 = .ok (.iconst 0, 1) := by decide +kernel
theorem dX9_passShip_164 : decode cX9_passShip 164 = .ok (.iaload, 1) := by decide +kernel
theorem dX9_passShip_165 : decode cX9_passShip 165 = .ok (.if_icmp .lt 7, 3) := by decide +kernel
theorem dX9_passShip_168 : decode cX9_passShip 168 = .ok (.aload_n 2, 1) := by decide +kernel
theorem dX9_passShip_169 : decode cX9_passShip 169 = .ok (.invokevirtual 100, 3) := by decide +kernel
theorem dX9_passShip_172 : decode cX9_passShip 172 = .ok (.aload_n 2, 1) := by decide +kernel
theorem dX9_passShip_173 : decode cX9_passShip 173 = .ok (.getfield 103, 3) := by decide +kernel
theorem dX9_passShip_176 : decode cX9_passShip 176 = .ok (.iconst 2, 1) := by decide +kernel
theorem dX9_passShip_177 : decode cX9_passShip 177 = .ok (.dup2, 1) := by decide +kernel
theorem dX9_passShip_178 : decode cX9_passShip 178 = .ok (.laload, 1) := by decide +kernel
theorem dX9_passShip_179 : decode cX9_passShip 179 = .ok (.aload_n 2, 1) := by decide +kernel
theorem dX9_passShip_180 : decode cX9_passShip 180 = .ok (.getfield 55, 3) := by decide +kernel
theorem dX9_passShip_183 : decode cX9_passShip 183 = .ok (.aload_n 0, 1) := by decide +kernel
theorem dX9_passShip_184 : decode cX9_passShip 184 = .ok (.getfield 9, 3) := by decide +kernel
theorem dX9_passShip_187 : decode cX9_passShip 187 = .ok (.getfield 107, 3) := by decide +kernel
theorem dX9_passShip_190 : decode cX9_passShip 190 = .ok (.invokevirtual 110, 3) := by decide +kernel
theorem dX9_passShip_193 : decode cX9_passShip 193 = .ok (.i2l, 1) := by decide +kernel
theorem dX9_passShip_194 : decode cX9_passShip 194 = .ok (.ladd, 1) := by decide +kernel
theorem dX9_passShip_195 : decode cX9_passShip 195 = .ok (.lastore, 1) := by decide +kernel
theorem dX9_passShip_196 : decode cX9_passShip 196 = .ok (.return_, 1) := by decide +kernel
set_option maxRecDepth 20000 in
theorem ggX9_sail_X10_hoursBetween : GoodIn wsX9_sail wsX10_hoursBetween := goodIn_r _ [8, 9, 10, 11, 12, 7, 13, 14, 54, 55, 56, 57, 58, 59, 60, 61, 62, 63, 64, 65, 66, 67, 68, 69, 70, 71, 72, 73, 74, 75, 76, 77, 78, 79] (by decide +kernel) (by decide +kernel)
set_option maxRecDepth 20000 in
theorem gX9_sail_X10_hoursBetween : GoodIn wsX9_sail (wsV RX9 117 RX10 yX10_hoursBetween wsX10_hoursBetween) := goodIn_app (goodIn_of _ (by decide +kernel)) ggX9_sail_X10_hoursBetween
set_option maxRecDepth 20000 in
theorem ggX9_sail_X5_endOrder : GoodIn wsX9_sail wsX5_endOrder := goodIn_r _ [19, 20, 21, 22, 23, 24, 25, 26, 33, 34, 35, 36, 37, 38, 39, 40, 41, 42, 43, 44, 45, 46, 47, 48, 49] (by decide +kernel) (by decide +kernel)
set_option maxRecDepth 20000 in
theorem gX9_sail_X5_endOrder : GoodIn wsX9_sail (wsV RX9 100 RX5 yX5_endOrder wsX5_endOrder) := goodIn_app (goodIn_of _ (by decide +kernel)) ggX9_sail_X5_endOrder
set_option maxRecDepth 20000 in
theorem ggX9_sail_X9_takesTurn : GoodIn wsX9_sail wsX9_takesTurn := goodIn_r _ [31, 3, 32, 50, 51, 52, 53] (by decide +kernel) (by decide +kernel)
set_option maxRecDepth 20000 in
theorem gX9_sail_X9_takesTurn : GoodIn wsX9_sail (wsV RX9 136 RX9 yX9_takesTurn wsX9_takesTurn) := goodIn_app (goodIn_of _ (by decide +kernel)) ggX9_sail_X9_takesTurn
theorem dX9_sail_0 : decode cX9_sail 0 = .ok (.aload_n 1, 1) := by decide +kernel
theorem dX9_sail_1 : decode cX9_sail 1 = .ok (.getfield 97, 3) := by decide +kernel
theorem dX9_sail_4 : decode cX9_sail 4 = .ok (.iconst 0, 1) := by decide +kernel
theorem dX9_sail_5 : decode cX9_sail 5 = .ok (.iaload, 1) := by decide +kernel
theorem dX9_sail_6 : decode cX9_sail 6 = .ok (.istore_n 2, 1) := by decide +kernel
theorem dX9_sail_7 : decode cX9_sail 7 = .ok (.aload_n 1, 1) := by decide +kernel
theorem dX9_sail_8 : decode cX9_sail 8 = .ok (.getfield 50, 3) := by decide +kernel
theorem dX9_sail_11 : decode cX9_sail 11 = .ok (.ifCond .ne 60, 3) := by decide +kernel
theorem dX9_sail_14 : decode cX9_sail 14 = .ok (.aload_n 0, 1) := by decide +kernel
theorem dX9_sail_15 : decode cX9_sail 15 = .ok (.getfield 9, 3) := by decide +kernel
theorem dX9_sail_18 : decode cX9_sail 18 = .ok (.aload_n 1, 1) := by decide +kernel
theorem dX9_sail_19 : decode cX9_sail 19 = .ok (.getfield 114, 3) := by decide +kernel
theorem dX9_sail_22 : decode cX9_sail 22 = .ok (.iload_n 2, 1) := by decide +kernel
theorem dX9_sail_23 : decode cX9_sail 23 = .ok (.invokevirtual 117, 3) := by decide +kernel
theorem dX9_sail_26 : decode cX9_sail 26 = .ok (.istore_n 3, 1) := by decide +kernel
theorem dX9_sail_27 : decode cX9_sail 27 = .ok (.iload_n 3, 1) := by decide +kernel
theorem dX9_sail_28 : decode cX9_sail 28 = .ok (.ifCond .ne 7, 3) := by decide +kernel
theorem dX9_sail_31 : decode cX9_sail 31 = .ok (.aload_n 1, 1) := by decide +kernel
theorem dX9_sail_32 : decode cX9_sail 32 = .ok (.invokevirtual 100, 3) := by decide +kernel
theorem dX9_sail_35 : decode cX9_sail 35 = .ok (.iload_n 3, 1) := by decide +kernel
theorem dX9_sail_36 : decode cX9_sail 36 = .ok (.ifCond .gt 4, 3) := by decide +kernel
theorem dX9_sail_39 : decode cX9_sail 39 = .ok (.return_, 1) := by decide +kernel
theorem dX9_sail_40 : decode cX9_sail 40 = .ok (.aload_n 1, 1) := by decide +kernel
theorem dX9_sail_41 : decode cX9_sail 41 = .ok (.aload_n 0, 1) := by decide +kernel
theorem dX9_sail_42 : decode cX9_sail 42 = .ok (.getfield 9, 3) := by decide +kernel
theorem dX9_sail_45 : decode cX9_sail 45 = .ok (.getfield 121, 3) := by decide +kernel
theorem dX9_sail_48 : decode cX9_sail 48 = .ok (.aload_n 1, 1) := by decide +kernel
theorem dX9_sail_49 : decode cX9_sail 49 = .ok (.getfield 114, 3) := by decide +kernel
theorem dX9_sail_52 : decode cX9_sail 52 = .ok (.aaload, 1) := by decide +kernel
theorem dX9_sail_53 : decode cX9_sail 53 = .ok (.getfield 125, 3) := by decide +kernel
theorem dX9_sail_56 : decode cX9_sail 56 = .ok (.iload_n 2, 1) := by decide +kernel
theorem dX9_sail_57 : decode cX9_sail 57 = .ok (.iaload, 1) := by decide +kernel
theorem dX9_sail_58 : decode cX9_sail 58 = .ok (.putfield 130, 3) := by decide +kernel
theorem dX9_sail_61 : decode cX9_sail 61 = .ok (.aload_n 1, 1) := by decide +kernel
theorem dX9_sail_62 : decode cX9_sail 62 = .ok (.iload_n 3, 1) := by decide +kernel
theorem dX9_sail_63 : decode cX9_sail 63 = .ok (.putfield 50, 3) := by decide +kernel
theorem dX9_sail_66 : decode cX9_sail 66 = .ok (.aload_n 1, 1) := by decide +kernel
theorem dX9_sail_67 : decode cX9_sail 67 = .ok (.iload_n 2, 1) := by decide +kernel
theorem dX9_sail_68 : decode cX9_sail 68 = .ok (.putfield 114, 3) := by decide +kernel
theorem dX9_sail_71 : decode cX9_sail 71 = .ok (.aload_n 1, 1) := by decide +kernel
theorem dX9_sail_72 : decode cX9_sail 72 = .ok (.getfield 133, 3) := by decide +kernel
theorem dX9_sail_75 : decode cX9_sail 75 = .ok (.ifCond .ne 22, 3) := by decide +kernel
theorem dX9_sail_78 : decode cX9_sail 78 = .ok (.aload_n 0, 1) := by decide +kernel
theorem dX9_sail_79 : decode cX9_sail 79 = .ok (.getfield 32, 3) := by decide +kernel
theorem dX9_sail_82 : decode cX9_sail 82 = .ok (.bipush 6, 2) := by decide +kernel
theorem dX9_sail_84 : decode cX9_sail 84 = .ok (.if_icmp .le 17, 3) := by decide +kernel
theorem dX9_sail_87 : decode cX9_sail 87 = .ok (.aload_n 0, 1) := by decide +kernel
theorem dX9_sail_88 : decode cX9_sail 88 = .ok (.getfield 25, 3) := by decide +kernel
theorem dX9_sail_91 : decode cX9_sail 91 = .ok (.iconst 2, 1) := by decide +kernel
theorem dX9_sail_92 : decode cX9_sail 92 = .ok (.irem, 1) := by decide +kernel
theorem dX9_sail_93 : decode cX9_sail 93 = .ok (.iconst 1, 1) := by decide +kernel
theorem dX9_sail_94 : decode cX9_sail 94 = .ok (.if_icmp .ne 7, 3) := by decide +kernel
theorem dX9_sail_97 : decode cX9_sail 97 = .ok (.iconst 1, 1) := by decide +kernel
theorem dX9_sail_98 : decode cX9_sail 98 = .ok (.goto 4, 3) := by decide +kernel
theorem dX9_sail_101 : decode cX9_sail 101 = .ok (.iconst 0, 1) := by decide +kernel
theorem dX9_sail_102 : decode cX9_sail 102 = .ok (.istore_n 3, 1) := by decide +kernel
theorem dX9_sail_103 : decode cX9_sail 103 = .ok (.iload_n 3, 1) := by decide +kernel
theorem dX9_sail_104 : decode cX9_sail 104 = .ok (.ifCond .ne 21, 3) := by decide +kernel
theorem dX9_sail_107 : decode cX9_sail 107 = .ok (.aload_n 1, 1) := by decide +kernel
theorem dX9_sail_108 : decode cX9_sail 108 = .ok (.getfield 50, 3) := by decide +kernel
theorem dX9_sail_111 : decode cX9_sail 111 = .ok (.aload_n 1, 1) := by decide +kernel
theorem dX9_sail_112 : decode cX9_sail 112 = .ok (.getfield 130, 3) := by decide +kernel
theorem dX9_sail_115 : decode cX9_sail 115 = .ok (.if_icmp .ne 11, 3) := by decide +kernel
theorem dX9_sail_118 : decode cX9_sail 118 = .ok (.aload_n 0, 1) := by decide +kernel
theorem dX9_sail_119 : decode cX9_sail 119 = .ok (.invokevirtual 136, 3) := by decide +kernel
theorem dX9_sail_122 : decode cX9_sail 122 = .ok (.ifCond .ne 4, 3) := by decide +kernel
theorem dX9_sail_125 : decode cX9_sail 125 = .ok (.return_, 1) := by decide +kernel
theorem dX9_sail_126 : decode cX9_sail 126 = .ok (.aload_n 1, 1) := by decide +kernel
theorem dX9_sail_127 : decode cX9_sail 127 = .ok (.dup, 1) := by decide +kernel
theorem dX9_sail_128 : decode cX9_sail 128 = .ok (.getfield 50, 3) := by decide +kernel
theorem dX9_sail_131 : decode cX9_sail 131 = .ok (.iconst 1, 1) := by decide +kernel
theorem dX9_sail_132 : decode cX9_sail 132 = .ok (.isub, 1) := by decide +kernel
theorem dX9_sail_133 : decode cX9_sail 133 = .ok (.putfield 50, 3) := by decide +kernel
theorem dX9_sail_136 : decode cX9_sail 136 = .ok (.aload_n 1, 1) := by decide +kernel
theorem dX9_sail_137 : decode cX9_sail 137 = .ok (.getfield 50, 3) := by decide +kernel
theorem dX9_sail_140 : decode cX9_sail 140 = .ok (.ifCond .ne 7, 3) := by decide +kernel
theorem dX9_sail_143 : decode cX9_sail 143 = .ok (.aload_n 1, 1) := by decide +kernel
theorem dX9_sail_144 : decode cX9_sail 144 = .ok (.invokevirtual 100, 3) := by decide +kernel
theorem dX9_sail_147 : decode cX9_sail 147 = .ok (.return_, 1) := by decide +kernel
theorem dX9_takesTurn_0 : decode cX9_takesTurn 0 = .ok (.aload_n 0, 1) := by decide +kernel
theorem dX9_takesTurn_1 : decode cX9_takesTurn 1 = .ok (.getfield 25, 3) := by decide +kernel
theorem dX9_takesTurn_4 : decode cX9_takesTurn 4 = .ok (.bipush 24, 2) := by decide +kernel
theorem dX9_takesTurn_6 : decode cX9_takesTurn 6 = .ok (.irem, 1) := by decide +kernel
theorem dX9_takesTurn_7 : decode cX9_takesTurn 7 = .ok (.istore_n 1, 1) := by decide +kernel
theorem dX9_takesTurn_8 : decode cX9_takesTurn 8 = .ok (.aload_n 0, 1) := by decide +kernel
theorem dX9_takesTurn_9 : decode cX9_takesTurn 9 = .ok (.getfield 35, 3) := by decide +kernel
theorem dX9_takesTurn_12 : decode cX9_takesTurn 12 = .ok (.ifCond .ne 21, 3) := by decide +kernel
theorem dX9_takesTurn_15 : decode cX9_takesTurn 15 = .ok (.iload_n 1, 1) := by decide +kernel
theorem dX9_takesTurn_16 : decode cX9_takesTurn 16 = .ok (.bipush 6, 2) := by decide +kernel
theorem dX9_takesTurn_18 : decode cX9_takesTurn 18 = .ok (.if_icmp .eq 17, 3) := by decide +kernel
theorem dX9_takesTurn_21 : decode cX9_takesTurn 21 = .ok (.iload_n 1, 1) := by decide +kernel
theorem dX9_takesTurn_22 : decode cX9_takesTurn 22 = .ok (.bipush 12, 2) := by decide +kernel
theorem dX9_takesTurn_24 : decode cX9_takesTurn 24 = .ok (.if_icmp .eq 11, 3) := by decide +kernel
theorem dX9_takesTurn_27 : decode cX9_takesTurn 27 = .ok (.iload_n 1, 1) := by decide +kernel
theorem dX9_takesTurn_28 : decode cX9_takesTurn 28 = .ok (.bipush 18, 2) := by decide +kernel
theorem dX9_takesTurn_30 : decode cX9_takesTurn 30 = .ok (.if_icmp .eq 5, 3) := by decide +kernel
theorem dX9_takesTurn_33 : decode cX9_takesTurn 33 = .ok (.iconst 0, 1) := by decide +kernel
theorem dX9_takesTurn_34 : decode cX9_takesTurn 34 = .ok (.ireturn, 1) := by decide +kernel
theorem dX9_takesTurn_35 : decode cX9_takesTurn 35 = .ok (.aload_n 0, 1) := by decide +kernel
theorem dX9_takesTurn_36 : decode cX9_takesTurn 36 = .ok (.iconst 1, 1) := by decide +kernel
theorem dX9_takesTurn_37 : decode cX9_takesTurn 37 = .ok (.putfield 35, 3) := by decide +kernel
theorem dX9_takesTurn_40 : decode cX9_takesTurn 40 = .ok (.iconst 1, 1) := by decide +kernel
theorem dX9_takesTurn_41 : decode cX9_takesTurn 41 = .ok (.ireturn, 1) := by decide +kernel
set_option maxRecDepth 20000 in
theorem ggX9_tonsMayGo_X10_hasTerminal : GoodIn wsX9_tonsMayGo wsX10_hasTerminal := goodIn_r _ [7, 8, 49, 50, 51, 52, 53, 54, 55, 56, 57, 58, 59, 60, 61, 62, 63, 64, 65, 66, 67] (by decide +kernel) (by decide +kernel)
set_option maxRecDepth 20000 in
theorem gX9_tonsMayGo_X10_hasTerminal : GoodIn wsX9_tonsMayGo (wsV RX9 140 RX10 yX10_hasTerminal wsX10_hasTerminal) := goodIn_app (goodIn_of _ (by decide +kernel)) ggX9_tonsMayGo_X10_hasTerminal
set_option maxRecDepth 20000 in
theorem ggX9_tonsMayGo_X11_slotOwner : GoodIn wsX9_tonsMayGo wsX11_slotOwner := goodIn_r _ [11] (by decide +kernel) (by decide +kernel)
set_option maxRecDepth 20000 in
theorem ggX9_tonsMayGo_X7_draft : GoodIn wsX9_tonsMayGo wsX7_draft := goodIn_r _ [16, 17, 18, 75, 76, 77, 78, 79, 80, 81] (by decide +kernel) (by decide +kernel)
set_option maxRecDepth 20000 in
theorem gX9_tonsMayGo_X7_draft : GoodIn wsX9_tonsMayGo (wsV RX9 152 RX7 yX7_draft wsX7_draft) := goodIn_app (goodIn_of _ (by decide +kernel)) ggX9_tonsMayGo_X7_draft
set_option maxRecDepth 20000 in
theorem ggX9_tonsMayGo_X6_meets : GoodIn wsX9_tonsMayGo wsX6_meets := goodIn_r _ [23, 24, 25, 26, 27, 82, 83, 84, 85] (by decide +kernel) (by decide +kernel)
set_option maxRecDepth 20000 in
theorem gX9_tonsMayGo_X6_meets : GoodIn wsX9_tonsMayGo (wsV RX9 160 RX6 yX6_meets wsX6_meets) := goodIn_app (goodIn_of _ (by decide +kernel)) ggX9_tonsMayGo_X6_meets
theorem dX9_tonsMayGo_0 : decode cX9_tonsMayGo 0 = .ok (.aload_n 2, 1) := by decide +kernel
theorem dX9_tonsMayGo_1 : decode cX9_tonsMayGo 1 = .ok (.getfield 114, 3) := by decide +kernel
theorem dX9_tonsMayGo_4 : decode cX9_tonsMayGo 4 = .ok (.istore_n 3, 1) := by decide +kernel
theorem dX9_tonsMayGo_5 : decode cX9_tonsMayGo 5 = .ok (.aload_n 2, 1) := by decide +kernel
theorem dX9_tonsMayGo_6 : decode cX9_tonsMayGo 6 = .ok (.getfield 50, 3) := by decide +kernel
theorem dX9_tonsMayGo_9 : decode cX9_tonsMayGo 9 = .ok (.ifCond .gt 14, 3) := by decide +kernel
theorem dX9_tonsMayGo_12 : decode cX9_tonsMayGo 12 = .ok (.aload_n 0, 1) := by decide +kernel
theorem dX9_tonsMayGo_13 : decode cX9_tonsMayGo 13 = .ok (.getfield 9, 3) := by decide +kernel
theorem dX9_tonsMayGo_16 : decode cX9_tonsMayGo 16 = .ok (.iload_n 3, 1) := by decide +kernel
theorem dX9_tonsMayGo_17 : decode cX9_tonsMayGo 17 = .ok (.invokevirtual 140, 3) := by decide +kernel
theorem dX9_tonsMayGo_20 : decode cX9_tonsMayGo 20 = .ok (.ifCond .ne 5, 3) := by decide +kernel
theorem dX9_tonsMayGo_23 : decode cX9_tonsMayGo 23 = .ok (.iconst 0, 1) := by decide +kernel
theorem dX9_tonsMayGo_24 : decode cX9_tonsMayGo 24 = .ok (.ireturn, 1) := by decide +kernel
theorem dX9_tonsMayGo_25 : decode cX9_tonsMayGo 25 = .ok (.iload_n 3, 1) := by decide +kernel
theorem dX9_tonsMayGo_26 : decode cX9_tonsMayGo 26 = .ok (.iload_n 1, 1) := by decide +kernel
theorem dX9_tonsMayGo_27 : decode cX9_tonsMayGo 27 = .ok (.invokestatic 143, 3) := by decide +kernel
theorem dX9_tonsMayGo_30 : decode cX9_tonsMayGo 30 = .ok (.istore 4, 2) := by decide +kernel
theorem dX9_tonsMayGo_32 : decode cX9_tonsMayGo 32 = .ok (.aload_n 0, 1) := by decide +kernel
theorem dX9_tonsMayGo_33 : decode cX9_tonsMayGo 33 = .ok (.getfield 9, 3) := by decide +kernel
theorem dX9_tonsMayGo_36 : decode cX9_tonsMayGo 36 = .ok (.getfield 121, 3) := by decide +kernel
theorem dX9_tonsMayGo_39 : decode cX9_tonsMayGo 39 = .ok (.iload_n 3, 1) := by decide +kernel
theorem dX9_tonsMayGo_40 : decode cX9_tonsMayGo 40 = .ok (.aaload, 1) := by decide +kernel
theorem dX9_tonsMayGo_41 : decode cX9_tonsMayGo 41 = .ok (.getfield 146, 3) := by decide +kernel
theorem dX9_tonsMayGo_44 : decode cX9_tonsMayGo 44 = .ok (.aload_n 0, 1) := by decide +kernel
theorem dX9_tonsMayGo_45 : decode cX9_tonsMayGo 45 = .ok (.getfield 9, 3) := by decide +kernel
theorem dX9_tonsMayGo_48 : decode cX9_tonsMayGo 48 = .ok (.getfield 149, 3) := by decide +kernel
theorem dX9_tonsMayGo_51 : decode cX9_tonsMayGo 51 = .ok (.aload_n 0, 1) := by decide +kernel
theorem dX9_tonsMayGo_52 : decode cX9_tonsMayGo 52 = .ok (.getfield 25, 3) := by decide +kernel
theorem dX9_tonsMayGo_55 : decode cX9_tonsMayGo 55 = .ok (.bipush 25, 2) := by decide +kernel
theorem dX9_tonsMayGo_57 : decode cX9_tonsMayGo 57 = .ok (.irem, 1) := by decide +kernel
theorem dX9_tonsMayGo_58 : decode cX9_tonsMayGo 58 = .ok (.iaload, 1) := by decide +kernel
theorem dX9_tonsMayGo_59 : decode cX9_tonsMayGo 59 = .ok (.iadd, 1) := by decide +kernel
theorem dX9_tonsMayGo_60 : decode cX9_tonsMayGo 60 = .ok (.istore 5, 2) := by decide +kernel
theorem dX9_tonsMayGo_62 : decode cX9_tonsMayGo 62 = .ok (.iload 5, 2) := by decide +kernel
theorem dX9_tonsMayGo_64 : decode cX9_tonsMayGo 64 = .ok (.aload_n 2, 1) := by decide +kernel
theorem dX9_tonsMayGo_65 : decode cX9_tonsMayGo 65 = .ok (.getfield 55, 3) := by decide +kernel
theorem dX9_tonsMayGo_68 : decode cX9_tonsMayGo 68 = .ok (.invokevirtual 152, 3) := by decide +kernel
theorem dX9_tonsMayGo_71 : decode cX9_tonsMayGo 71 = .ok (.if_icmp .lt 55, 3) := by decide +kernel
theorem dX9_tonsMayGo_74 : decode cX9_tonsMayGo 74 = .ok (.aload_n 0, 1) := by decide +kernel
theorem dX9_tonsMayGo_75 : decode cX9_tonsMayGo 75 = .ok (.getfield 9, 3) := by decide +kernel
theorem dX9_tonsMayGo_78 : decode cX9_tonsMayGo 78 = .ok (.getfield 156, 3) := by decide +kernel
theorem dX9_tonsMayGo_81 : decode cX9_tonsMayGo 81 = .ok (.iload 4, 2) := by decide +kernel
theorem dX9_tonsMayGo_83 : decode cX9_tonsMayGo 83 = .ok (.iload 4, 2) := by decide +kernel
theorem dX9_tonsMayGo_85 : decode cX9_tonsMayGo 85 = .ok (.aload_n 0, 1) := by decide +kernel
theorem dX9_tonsMayGo_86 : decode cX9_tonsMayGo 86 = .ok (.getfield 25, 3) := by decide +kernel
theorem dX9_tonsMayGo_89 : decode cX9_tonsMayGo 89 = .ok (.aload_n 0, 1) := by decide +kernel
theorem dX9_tonsMayGo_90 : decode cX9_tonsMayGo 90 = .ok (.getfield 25, 3) := by decide +kernel
theorem dX9_tonsMayGo_93 : decode cX9_tonsMayGo 93 = .ok (.invokevirtual 160, 3) := by decide +kernel
theorem dX9_tonsMayGo_96 : decode cX9_tonsMayGo 96 = .ok (.ifCond .eq 30, 3) := by decide +kernel
theorem dX9_tonsMayGo_99 : decode cX9_tonsMayGo 99 = .ok (.aload_n 0, 1) := by decide +kernel
theorem dX9_tonsMayGo_100 : decode cX9_tonsMayGo 100 = .ok (.getfield 9, 3) := by decide +kernel
theorem dX9_tonsMayGo_103 : decode cX9_tonsMayGo 103 = .ok (.getfield 166, 3) := by decide +kernel
theorem dX9_tonsMayGo_106 : decode cX9_tonsMayGo 106 = .ok (.iload_n 3, 1) := by decide +kernel
theorem dX9_tonsMayGo_107 : decode cX9_tonsMayGo 107 = .ok (.iload_n 3, 1) := by decide +kernel
theorem dX9_tonsMayGo_108 : decode cX9_tonsMayGo 108 = .ok (.aload_n 0, 1) := by decide +kernel
theorem dX9_tonsMayGo_109 : decode cX9_tonsMayGo 109 = .ok (.getfield 25, 3) := by decide +kernel
theorem dX9_tonsMayGo_112 : decode cX9_tonsMayGo 112 = .ok (.aload_n 0, 1) := by decide +kernel
theorem dX9_tonsMayGo_113 : decode cX9_tonsMayGo 113 = .ok (.getfield 25, 3) := by decide +kernel
theorem dX9_tonsMayGo_116 : decode cX9_tonsMayGo 116 = .ok (.invokevirtual 160, 3) := by decide +kernel
theorem dX9_tonsMayGo_119 : decode cX9_tonsMayGo 119 = .ok (.ifCond .ne 7, 3) := by decide +kernel
theorem dX9_tonsMayGo_122 : decode cX9_tonsMayGo 122 = .ok (.iconst 1, 1) := by decide +kernel
theorem dX9_tonsMayGo_123 : decode cX9_tonsMayGo 123 = .ok (.goto 4, 3) := by decide +kernel
theorem dX9_tonsMayGo_126 : decode cX9_tonsMayGo 126 = .ok (.iconst 0, 1) := by decide +kernel
theorem dX9_tonsMayGo_127 : decode cX9_tonsMayGo 127 = .ok (.ireturn, 1) := by decide +kernel
set_option maxRecDepth 20000 in
theorem ggX9_load_X7_top : GoodIn wsX9_load wsX7_top := goodIn_r _ [13, 14, 73, 74, 75, 76, 77, 78, 79] (by decide +kernel) (by decide +kernel)
set_option maxRecDepth 20000 in
theorem gX9_load_X7_top : GoodIn wsX9_load (wsV RX9 180 RX7 yX7_top wsX7_top) := goodIn_app (goodIn_of _ (by decide +kernel)) ggX9_load_X7_top
set_option maxRecDepth 20000 in
theorem ggX9_load_X7_fill : GoodIn wsX9_load wsX7_fill := goodIn_r _ [18, 19, 20, 73, 74, 75, 76, 77, 78, 79] (by decide +kernel) (by decide +kernel)
set_option maxRecDepth 20000 in
theorem gX9_load_X7_fill : GoodIn wsX9_load (wsV RX9 192 RX7 yX7_fill wsX7_fill) := goodIn_app (goodIn_of _ (by decide +kernel)) ggX9_load_X7_fill
set_option maxRecDepth 20000 in
theorem ggX9_load_X5_endOrder : GoodIn wsX9_load wsX5_endOrder := goodIn_r _ [25, 26, 27, 28, 29, 30, 31, 32, 56, 57, 58, 59, 60, 61, 62, 63, 64, 65, 66, 67, 68, 69, 70, 71, 72] (by decide +kernel) (by decide +kernel)
set_option maxRecDepth 20000 in
theorem gX9_load_X5_endOrder : GoodIn wsX9_load (wsV RX9 100 RX5 yX5_endOrder wsX5_endOrder) := goodIn_app (goodIn_of _ (by decide +kernel)) ggX9_load_X5_endOrder
theorem dX9_load_0 : decode cX9_load 0 = .ok (.aload_n 0, 1) := by decide +kernel
theorem dX9_load_1 : decode cX9_load 1 = .ok (.getfield 9, 3) := by decide +kernel
theorem dX9_load_4 : decode cX9_load 4 = .ok (.getfield 121, 3) := by decide +kernel
theorem dX9_load_7 : decode cX9_load 7 = .ok (.aload_n 1, 1) := by decide +kernel
theorem dX9_load_8 : decode cX9_load 8 = .ok (.getfield 114, 3) := by decide +kernel
theorem dX9_load_11 : decode cX9_load 11 = .ok (.aaload, 1) := by decide +kernel
theorem dX9_load_12 : decode cX9_load 12 = .ok (.astore_n 2, 1) := by decide +kernel
theorem dX9_load_13 : decode cX9_load 13 = .ok (.aload_n 1, 1) := by decide +kernel
theorem dX9_load_14 : decode cX9_load 14 = .ok (.getfield 55, 3) := by decide +kernel
theorem dX9_load_17 : decode cX9_load 17 = .ok (.getfield 169, 3) := by decide +kernel
theorem dX9_load_20 : decode cX9_load 20 = .ok (.sipush 200, 3) := by decide +kernel
theorem dX9_load_23 : decode cX9_load 23 = .ok (.if_icmp .le 16, 3) := by decide +kernel
theorem dX9_load_26 : decode cX9_load 26 = .ok (.iconst 1, 1) := by decide +kernel
theorem dX9_load_27 : decode cX9_load 27 = .ok (.aload_n 2, 1) := by decide +kernel
theorem dX9_load_28 : decode cX9_load 28 = .ok (.getfield 172, 3) := by decide +kernel
theorem dX9_load_31 : decode cX9_load 31 = .ok (.iconst 4, 1) := by decide +kernel
theorem dX9_load_32 : decode cX9_load 32 = .ok (.idiv, 1) := by decide +kernel
theorem dX9_load_33 : decode cX9_load 33 = .ok (.invokestatic 175, 3) := by decide +kernel
theorem dX9_load_36 : decode cX9_load 36 = .ok (.goto 7, 3) := by decide +kernel
theorem dX9_load_39 : decode cX9_load 39 = .ok (.aload_n 2, 1) := by decide +kernel
theorem dX9_load_40 : decode cX9_load 40 = .ok (.getfield 172, 3) := by decide +kernel
theorem dX9_load_43 : decode cX9_load 43 = .ok (.istore_n 3, 1) := by decide +kernel
theorem dX9_load_44 : decode cX9_load 44 = .ok (.iconst 0, 1) := by decide +kernel
theorem dX9_load_45 : decode cX9_load 45 = .ok (.aload_n 1, 1) := by decide +kernel
theorem dX9_load_46 : decode cX9_load 46 = .ok (.getfield 55, 3) := by decide +kernel
theorem dX9_load_49 : decode cX9_load 49 = .ok (.invokevirtual 180, 3) := by decide +kernel
theorem dX9_load_52 : decode cX9_load 52 = .ok (.aload_n 1, 1) := by decide +kernel
theorem dX9_load_53 : decode cX9_load 53 = .ok (.getfield 55, 3) := by decide +kernel
theorem dX9_load_56 : decode cX9_load 56 = .ok (.getfield 183, 3) := by decide +kernel
theorem dX9_load_59 : decode cX9_load 59 = .ok (.isub, 1) := by decide +kernel
theorem dX9_load_60 : decode cX9_load 60 = .ok (.invokestatic 175, 3) := by decide +kernel
theorem dX9_load_63 : decode cX9_load 63 = .ok (.istore 4, 2) := by decide +kernel
theorem dX9_load_65 : decode cX9_load 65 = .ok (.iload_n 3, 1) := by decide +kernel
theorem dX9_load_66 : decode cX9_load 66 = .ok (.aload_n 1, 1) := by decide +kernel
theorem dX9_load_67 : decode cX9_load 67 = .ok (.getfield 97, 3) := by decide +kernel
theorem dX9_load_70 : decode cX9_load 70 = .ok (.iconst 0, 1) := by decide +kernel
theorem dX9_load_71 : decode cX9_load 71 = .ok (.iaload, 1) := by decide +kernel
theorem dX9_load_72 : decode cX9_load 72 = .ok (.invokestatic 186, 3) := by decide +kernel
theorem dX9_load_75 : decode cX9_load 75 = .ok (.aload_n 2, 1) := by decide +kernel
theorem dX9_load_76 : decode cX9_load 76 = .ok (.getfield 189, 3) := by decide +kernel
theorem dX9_load_79 : decode cX9_load 79 = .ok (.iload 4, 2) := by decide +kernel
theorem dX9_load_81 : decode cX9_load 81 = .ok (.invokestatic 186, 3) := by decide +kernel
theorem dX9_load_84 : decode cX9_load 84 = .ok (.invokestatic 186, 3) := by decide +kernel
theorem dX9_load_87 : decode cX9_load 87 = .ok (.istore 5, 2) := by decide +kernel
theorem dX9_load_89 : decode cX9_load 89 = .ok (.aload_n 2, 1) := by decide +kernel
theorem dX9_load_90 : decode cX9_load 90 = .ok (.dup, 1) := by decide +kernel
theorem dX9_load_91 : decode cX9_load 91 = .ok (.getfield 189, 3) := by decide +kernel
theorem dX9_load_94 : decode cX9_load 94 = .ok (.iload 5, 2) := by decide +kernel
theorem dX9_load_96 : decode cX9_load 96 = .ok (.isub, 1) := by decide +kernel
theorem dX9_load_97 : decode cX9_load 97 = .ok (.putfield 189, 3) := by decide +kernel
theorem dX9_load_100 : decode cX9_load 100 = .ok (.aload_n 1, 1) := by decide +kernel
theorem dX9_load_101 : decode cX9_load 101 = .ok (.getfield 55, 3) := by decide +kernel
theorem dX9_load_104 : decode cX9_load 104 = .ok (.aload_n 1, 1) := by decide +kernel
theorem dX9_load_105 : decode cX9_load 105 = .ok (.getfield 114, 3) := by decide +kernel
theorem dX9_load_108 : decode cX9_load 108 = .ok (.iload 5, 2) := by decide +kernel
theorem dX9_load_110 : decode cX9_load 110 = .ok (.invokevirtual 192, 3) := by decide +kernel
theorem dX9_load_113 : decode cX9_load 113 = .ok (.aload_n 1, 1) := by decide +kernel
theorem dX9_load_114 : decode cX9_load 114 = .ok (.getfield 103, 3) := by decide +kernel
theorem dX9_load_117 : decode cX9_load 117 = .ok (.iconst 0, 1) := by decide +kernel
theorem dX9_load_118 : decode cX9_load 118 = .ok (.dup2, 1) := by decide +kernel
theorem dX9_load_119 : decode cX9_load 119 = .ok (.laload, 1) := by decide +kernel
theorem dX9_load_120 : decode cX9_load 120 = .ok (.iload 5, 2) := by decide +kernel
theorem dX9_load_122 : decode cX9_load 122 = .ok (.i2l, 1) := by decide +kernel
theorem dX9_load_123 : decode cX9_load 123 = .ok (.ladd, 1) := by decide +kernel
theorem dX9_load_124 : decode cX9_load 124 = .ok (.lastore, 1) := by decide +kernel
theorem dX9_load_125 : decode cX9_load 125 = .ok (.aload_n 1, 1) := by decide +kernel
theorem dX9_load_126 : decode cX9_load 126 = .ok (.getfield 97, 3) := by decide +kernel
theorem dX9_load_129 : decode cX9_load 129 = .ok (.iconst 0, 1) := by decide +kernel
theorem dX9_load_130 : decode cX9_load 130 = .ok (.dup2, 1) := by decide +kernel
theorem dX9_load_131 : decode cX9_load 131 = .ok (.iaload, 1) := by decide +kernel
theorem dX9_load_132 : decode cX9_load 132 = .ok (.iload 5, 2) := by decide +kernel
theorem dX9_load_134 : decode cX9_load 134 = .ok (.isub, 1) := by decide +kernel
theorem dX9_load_135 : decode cX9_load 135 = .ok (.iastore, 1) := by decide +kernel
theorem dX9_load_136 : decode cX9_load 136 = .ok (.iload 5, 2) := by decide +kernel
theorem dX9_load_138 : decode cX9_load 138 = .ok (.ifCond .eq 12, 3) := by decide +kernel
theorem dX9_load_141 : decode cX9_load 141 = .ok (.aload_n 1, 1) := by decide +kernel
theorem dX9_load_142 : decode cX9_load 142 = .ok (.getfield 97, 3) := by decide +kernel
theorem dX9_load_145 : decode cX9_load 145 = .ok (.iconst 0, 1) := by decide +kernel
theorem dX9_load_146 : decode cX9_load 146 = .ok (.iaload, 1) := by decide +kernel
theorem dX9_load_147 : decode cX9_load 147 = .ok (.ifCond .ne 7, 3) := by decide +kernel
theorem dX9_load_150 : decode cX9_load 150 = .ok (.aload_n 1, 1) := by decide +kernel
theorem dX9_load_151 : decode cX9_load 151 = .ok (.invokevirtual 100, 3) := by decide +kernel
theorem dX9_load_154 : decode cX9_load 154 = .ok (.return_, 1) := by decide +kernel
set_option maxRecDepth 20000 in
theorem ggX9_land_X7_heel : GoodIn wsX9_land wsX7_heel := goodIn_r _ [14, 15, 127, 128, 129, 130, 131, 132, 133] (by decide +kernel) (by decide +kernel)
set_option maxRecDepth 20000 in
theorem gX9_land_X7_heel : GoodIn wsX9_land (wsV RX9 196 RX7 yX7_heel wsX7_heel) := goodIn_app (goodIn_of _ (by decide +kernel)) ggX9_land_X7_heel
set_option maxRecDepth 20000 in
theorem ggX9_land_X5_putAshore : GoodIn wsX9_land wsX5_putAshore := goodIn_r _ [20, 21, 22, 23, 24, 25, 26, 27, 28, 29, 13, 30, 31, 32, 33, 34, 35, 36, 37, 38, 39, 110, 111, 112, 113, 114, 115, 116, 117, 118, 119, 120, 121, 122, 123, 124, 125, 126, 127, 128, 129, 130, 131, 132, 133] (by decide +kernel) (by decide +kernel)
set_option maxRecDepth 20000 in
theorem gX9_land_X5_putAshore : GoodIn wsX9_land (wsV RX9 202 RX5 yX5_putAshore wsX5_putAshore) := goodIn_app (goodIn_of _ (by decide +kernel)) ggX9_land_X5_putAshore
set_option maxRecDepth 20000 in
theorem ggX9_land_X9_keepLanding : GoodIn wsX9_land wsX9_keepLanding := goodIn_r _ [44, 1, 45, 46, 47, 48, 49, 50, 51, 52, 53, 54, 55, 56, 57, 58, 59, 60, 61, 62, 63, 64, 65, 66, 67, 68, 110, 111, 112, 113, 114, 115, 116, 117, 118, 119, 120, 121, 122, 123, 124, 125, 126, 87, 88, 89, 90, 91, 92, 93, 94, 95, 96, 97, 98, 99, 100, 101, 102, 103, 104, 105, 106, 107, 108, 109, 141, 142, 143] (by decide +kernel) (by decide +kernel)
set_option maxRecDepth 20000 in
theorem gX9_land_X9_keepLanding : GoodIn wsX9_land (wsV RX9 205 RX9 yX9_keepLanding wsX9_keepLanding) := goodIn_app (goodIn_of _ (by decide +kernel)) ggX9_land_X9_keepLanding
set_option maxRecDepth 20000 in
theorem ggX9_land_X5_forgetLanding : GoodIn wsX9_land wsX5_forgetLanding := goodIn_r _ [72, 23, 22, 73, 74, 56, 75, 110, 111, 112, 113, 114, 115, 116, 117, 118, 119, 120, 121, 122, 123, 124, 125, 126] (by decide +kernel) (by decide +kernel)
set_option maxRecDepth 20000 in
theorem gX9_land_X5_forgetLanding : GoodIn wsX9_land (wsV RX9 208 RX5 yX5_forgetLanding wsX5_forgetLanding) := goodIn_app (goodIn_of _ (by decide +kernel)) ggX9_land_X5_forgetLanding
set_option maxRecDepth 20000 in
theorem ggX9_land_X5_endOrder : GoodIn wsX9_land wsX5_endOrder := goodIn_r _ [79, 80, 81, 82, 83, 84, 85, 86, 110, 111, 112, 113, 114, 115, 116, 117, 118, 119, 120, 121, 122, 123, 124, 125, 126] (by decide +kernel) (by decide +kernel)
set_option maxRecDepth 20000 in
theorem gX9_land_X5_endOrder : GoodIn wsX9_land (wsV RX9 100 RX5 yX5_endOrder wsX5_endOrder) := goodIn_app (goodIn_of _ (by decide +kernel)) ggX9_land_X5_endOrder
theorem dX9_land_0 : decode cX9_land 0 = .ok (.aload_n 0, 1) := by decide +kernel
theorem dX9_land_1 : decode cX9_land 1 = .ok (.getfield 9, 3) := by decide +kernel
theorem dX9_land_4 : decode cX9_land 4 = .ok (.getfield 121, 3) := by decide +kernel
theorem dX9_land_7 : decode cX9_land 7 = .ok (.aload_n 2, 1) := by decide +kernel
theorem dX9_land_8 : decode cX9_land 8 = .ok (.getfield 114, 3) := by decide +kernel
theorem dX9_land_11 : decode cX9_land 11 = .ok (.aaload, 1) := by decide +kernel
theorem dX9_land_12 : decode cX9_land 12 = .ok (.astore_n 3, 1) := by decide +kernel
theorem dX9_land_13 : decode cX9_land 13 = .ok (.iconst 0, 1) := by decide +kernel
theorem dX9_land_14 : decode cX9_land 14 = .ok (.aload_n 2, 1) := by decide +kernel
theorem dX9_land_15 : decode cX9_land 15 = .ok (.getfield 55, 3) := by decide +kernel
theorem dX9_land_18 : decode cX9_land 18 = .ok (.getfield 183, 3) := by decide +kernel
theorem dX9_land_21 : decode cX9_land 21 = .ok (.aload_n 2, 1) := by decide +kernel
theorem dX9_land_22 : decode cX9_land 22 = .ok (.getfield 55, 3) := by decide +kernel
theorem dX9_land_25 : decode cX9_land 25 = .ok (.invokevirtual 196, 3) := by decide +kernel
theorem dX9_land_28 : decode cX9_land 28 = .ok (.isub, 1) := by decide +kernel
theorem dX9_land_29 : decode cX9_land 29 = .ok (.invokestatic 175, 3) := by decide +kernel
theorem dX9_land_32 : decode cX9_land 32 = .ok (.istore 4, 2) := by decide +kernel
theorem dX9_land_34 : decode cX9_land 34 = .ok (.iconst 0, 1) := by decide +kernel
theorem dX9_land_35 : decode cX9_land 35 = .ok (.aload_n 3, 1) := by decide +kernel
theorem dX9_land_36 : decode cX9_land 36 = .ok (.getfield 199, 3) := by decide +kernel
theorem dX9_land_39 : decode cX9_land 39 = .ok (.aload_n 3, 1) := by decide +kernel
theorem dX9_land_40 : decode cX9_land 40 = .ok (.getfield 189, 3) := by decide +kernel
theorem dX9_land_43 : decode cX9_land 43 = .ok (.isub, 1) := by decide +kernel
theorem dX9_land_44 : decode cX9_land 44 = .ok (.invokestatic 175, 3) := by decide +kernel
theorem dX9_land_47 : decode cX9_land 47 = .ok (.istore 5, 2) := by decide +kernel
theorem dX9_land_49 : decode cX9_land 49 = .ok (.aload_n 3, 1) := by decide +kernel
theorem dX9_land_50 : decode cX9_land 50 = .ok (.getfield 172, 3) := by decide +kernel
theorem dX9_land_53 : decode cX9_land 53 = .ok (.aload_n 2, 1) := by decide +kernel
theorem dX9_land_54 : decode cX9_land 54 = .ok (.getfield 97, 3) := by decide +kernel
theorem dX9_land_57 : decode cX9_land 57 = .ok (.iconst 0, 1) := by decide +kernel
theorem dX9_land_58 : decode cX9_land 58 = .ok (.iaload, 1) := by decide +kernel
theorem dX9_land_59 : decode cX9_land 59 = .ok (.invokestatic 186, 3) := by decide +kernel
theorem dX9_land_62 : decode cX9_land 62 = .ok (.iload 4, 2) := by decide +kernel
theorem dX9_land_64 : decode cX9_land 64 = .ok (.iload 5, 2) := by decide +kernel
theorem dX9_land_66 : decode cX9_land 66 = .ok (.invokestatic 186, 3) := by decide +kernel
theorem dX9_land_69 : decode cX9_land 69 = .ok (.invokestatic 186, 3) := by decide +kernel
theorem dX9_land_72 : decode cX9_land 72 = .ok (.istore 6, 2) := by decide +kernel
theorem dX9_land_74 : decode cX9_land 74 = .ok (.iload 6, 2) := by decide +kernel
theorem dX9_land_76 : decode cX9_land 76 = .ok (.ifCond .le 35, 3) := by decide +kernel
theorem dX9_land_79 : decode cX9_land 79 = .ok (.aload_n 3, 1) := by decide +kernel
theorem dX9_land_80 : decode cX9_land 80 = .ok (.dup, 1) := by decide +kernel
theorem dX9_land_81 : decode cX9_land 81 = .ok (.getfield 189, 3) := by decide +kernel
theorem dX9_land_84 : decode cX9_land 84 = .ok (.iload 6, 2) := by decide +kernel
theorem dX9_land_86 : decode cX9_land 86 = .ok (.iadd, 1) := by decide +kernel
theorem dX9_land_87 : decode cX9_land 87 = .ok (.putfield 189, 3) := by decide +kernel
theorem dX9_land_90 : decode cX9_land 90 = .ok (.aload_n 2, 1) := by decide +kernel
theorem dX9_land_91 : decode cX9_land 91 = .ok (.iload 6, 2) := by decide +kernel
theorem dX9_land_93 : decode cX9_land 93 = .ok (.aload_n 0, 1) := by decide +kernel
theorem dX9_land_94 : decode cX9_land 94 = .ok (.getfield 25, 3) := by decide +kernel
theorem dX9_land_97 : decode cX9_land 97 = .ok (.invokevirtual 202, 3) := by decide +kernel
theorem dX9_land_100 : decode cX9_land 100 = .ok (.aload_n 2, 1) := by decide +kernel
theorem dX9_land_101 : decode cX9_land 101 = .ok (.getfield 97, 3) := by decide +kernel
theorem dX9_land_104 : decode cX9_land 104 = .ok (.iconst 0, 1) := by decide +kernel
theorem dX9_land_105 : decode cX9_land 105 = .ok (.dup2, 1) := by decide +kernel
theorem dX9_land_106 : decode cX9_land 106 = .ok (.iaload, 1) := by decide +kernel
theorem dX9_land_107 : decode cX9_land 107 = .ok (.iload 6, 2) := by decide +kernel
theorem dX9_land_109 : decode cX9_land 109 = .ok (.isub, 1) := by decide +kernel
theorem dX9_land_110 : decode cX9_land 110 = .ok (.iastore, 1) := by decide +kernel
theorem dX9_land_111 : decode cX9_land 111 = .ok (.iload 6, 2) := by decide +kernel
theorem dX9_land_113 : decode cX9_land 113 = .ok (.ifCond .eq 12, 3) := by decide +kernel
theorem dX9_land_116 : decode cX9_land 116 = .ok (.aload_n 2, 1) := by decide +kernel
theorem dX9_land_117 : decode cX9_land 117 = .ok (.getfield 97, 3) := by decide +kernel
theorem dX9_land_120 : decode cX9_land 120 = .ok (.iconst 0, 1) := by decide +kernel
theorem dX9_land_121 : decode cX9_land 121 = .ok (.iaload, 1) := by decide +kernel
theorem dX9_land_122 : decode cX9_land 122 = .ok (.ifCond .ne 17, 3) := by decide +kernel
theorem dX9_land_125 : decode cX9_land 125 = .ok (.aload_n 0, 1) := by decide +kernel
theorem dX9_land_126 : decode cX9_land 126 = .ok (.iload_n 1, 1) := by decide +kernel
theorem dX9_land_127 : decode cX9_land 127 = .ok (.aload_n 2, 1) := by decide +kernel
theorem dX9_land_128 : decode cX9_land 128 = .ok (.invokevirtual 205, 3) := by decide +kernel
theorem dX9_land_131 : decode cX9_land 131 = .ok (.aload_n 2, 1) := by decide +kernel
theorem dX9_land_132 : decode cX9_land 132 = .ok (.invokevirtual 208, 3) := by decide +kernel
theorem dX9_land_135 : decode cX9_land 135 = .ok (.aload_n 2, 1) := by decide +kernel
theorem dX9_land_136 : decode cX9_land 136 = .ok (.invokevirtual 100, 3) := by decide +kernel
theorem dX9_land_139 : decode cX9_land 139 = .ok (.return_, 1) := by decide +kernel
set_option maxRecDepth 20000 in
theorem ggX9_keepLanding_X4_addRow : GoodIn wsX9_keepLanding wsX4_addRow := goodIn_r _ [7, 8, 9, 10, 11, 12, 13, 14, 15, 16, 17, 66, 67, 68] (by decide +kernel) (by decide +kernel)
set_option maxRecDepth 20000 in
theorem gX9_keepLanding_X4_addRow : GoodIn wsX9_keepLanding (wsV RX9 218 RX4 yX4_addRow wsX4_addRow) := goodIn_app (goodIn_of _ (by decide +kernel)) ggX9_keepLanding_X4_addRow
set_option maxRecDepth 20000 in
theorem ggX9_keepLanding_X4_set : GoodIn wsX9_keepLanding wsX4_set := goodIn_r _ [21, 9, 10, 22, 23, 24, 6, 25, 8, 66, 67, 68] (by decide +kernel) (by decide +kernel)
set_option maxRecDepth 20000 in
theorem gX9_keepLanding_X4_set : GoodIn wsX9_keepLanding (wsV RX9 223 RX4 yX4_set wsX4_set) := goodIn_app (goodIn_of _ (by decide +kernel)) ggX9_keepLanding_X4_set
theorem dX9_keepLanding_0 : decode cX9_keepLanding 0 = .ok (.aload_n 2, 1) := by decide +kernel
theorem dX9_keepLanding_1 : decode cX9_keepLanding 1 = .ok (.getfield 211, 3) := by decide +kernel
theorem dX9_keepLanding_4 : decode cX9_keepLanding 4 = .ok (.ifCond .le 16, 3) := by decide +kernel
theorem dX9_keepLanding_7 : decode cX9_keepLanding 7 = .ok (.aload_n 0, 1) := by decide +kernel
theorem dX9_keepLanding_8 : decode cX9_keepLanding 8 = .ok (.getfield 9, 3) := by decide +kernel
theorem dX9_keepLanding_11 : decode cX9_keepLanding 11 = .ok (.getfield 214, 3) := by decide +kernel
theorem dX9_keepLanding_14 : decode cX9_keepLanding 14 = .ok (.invokevirtual 218, 3) := by decide +kernel
theorem dX9_keepLanding_17 : decode cX9_keepLanding 17 = .ok (.goto 4, 3) := by decide +kernel
theorem dX9_keepLanding_20 : decode cX9_keepLanding 20 = .ok (.iconst (-1), 1) := by decide +kernel
theorem dX9_keepLanding_21 : decode cX9_keepLanding 21 = .ok (.istore_n 3, 1) := by decide +kernel
theorem dX9_keepLanding_22 : decode cX9_keepLanding 22 = .ok (.iload_n 3, 1) := by decide +kernel
theorem dX9_keepLanding_23 : decode cX9_keepLanding 23 = .ok (.iconst (-1), 1) := by decide +kernel
theorem dX9_keepLanding_24 : decode cX9_keepLanding 24 = .ok (.if_icmp .ne 4, 3) := by decide +kernel
theorem dX9_keepLanding_27 : decode cX9_keepLanding 27 = .ok (.return_, 1) := by decide +kernel
theorem dX9_keepLanding_28 : decode cX9_keepLanding 28 = .ok (.aload_n 0, 1) := by decide +kernel
theorem dX9_keepLanding_29 : decode cX9_keepLanding 29 = .ok (.getfield 9, 3) := by decide +kernel
theorem dX9_keepLanding_32 : decode cX9_keepLanding 32 = .ok (.getfield 214, 3) := by decide +kernel
theorem dX9_keepLanding_35 : decode cX9_keepLanding 35 = .ok (.iload_n 3, 1) := by decide +kernel
theorem dX9_keepLanding_36 : decode cX9_keepLanding 36 = .ok (.iconst 0, 1) := by decide +kernel
theorem dX9_keepLanding_37 : decode cX9_keepLanding 37 = .ok (.iload_n 1, 1) := by decide +kernel
theorem dX9_keepLanding_38 : decode cX9_keepLanding 38 = .ok (.i2l, 1) := by decide +kernel
theorem dX9_keepLanding_39 : decode cX9_keepLanding 39 = .ok (.invokevirtual 223, 3) := by decide +kernel
theorem dX9_keepLanding_42 : decode cX9_keepLanding 42 = .ok (.aload_n 0, 1) := by decide +kernel
theorem dX9_keepLanding_43 : decode cX9_keepLanding 43 = .ok (.getfield 9, 3) := by decide +kernel
theorem dX9_keepLanding_46 : decode cX9_keepLanding 46 = .ok (.getfield 214, 3) := by decide +kernel
theorem dX9_keepLanding_49 : decode cX9_keepLanding 49 = .ok (.iload_n 3, 1) := by decide +kernel
theorem dX9_keepLanding_50 : decode cX9_keepLanding 50 = .ok (.iconst 1, 1) := by decide +kernel
theorem dX9_keepLanding_51 : decode cX9_keepLanding 51 = .ok (.aload_n 2, 1) := by decide +kernel
theorem dX9_keepLanding_52 : decode cX9_keepLanding 52 = .ok (.getfield 114, 3) := by decide +kernel
theorem dX9_keepLanding_55 : decode cX9_keepLanding 55 = .ok (.i2l, 1) := by decide +kernel
theorem dX9_keepLanding_56 : decode cX9_keepLanding 56 = .ok (.invokevirtual 223, 3) := by decide +kernel
theorem dX9_keepLanding_59 : decode cX9_keepLanding 59 = .ok (.aload_n 0, 1) := by decide +kernel
theorem dX9_keepLanding_60 : decode cX9_keepLanding 60 = .ok (.getfield 9, 3) := by decide +kernel
theorem dX9_keepLanding_63 : decode cX9_keepLanding 63 = .ok (.getfield 214, 3) := by decide +kernel
theorem dX9_keepLanding_66 : decode cX9_keepLanding 66 = .ok (.iload_n 3, 1) := by decide +kernel
theorem dX9_keepLanding_67 : decode cX9_keepLanding 67 = .ok (.iconst 2, 1) := by decide +kernel
theorem dX9_keepLanding_68 : decode cX9_keepLanding 68 = .ok (.aload_n 2, 1) := by decide +kernel
theorem dX9_keepLanding_69 : decode cX9_keepLanding 69 = .ok (.getfield 227, 3) := by decide +kernel
theorem dX9_keepLanding_72 : decode cX9_keepLanding 72 = .ok (.i2l, 1) := by decide +kernel
theorem dX9_keepLanding_73 : decode cX9_keepLanding 73 = .ok (.invokevirtual 223, 3) := by decide +kernel
theorem dX9_keepLanding_76 : decode cX9_keepLanding 76 = .ok (.aload_n 0, 1) := by decide +kernel
theorem dX9_keepLanding_77 : decode cX9_keepLanding 77 = .ok (.getfield 9, 3) := by decide +kernel
theorem dX9_keepLanding_80 : decode cX9_keepLanding 80 = .ok (.getfield 214, 3) := by decide +kernel
theorem dX9_keepLanding_83 : decode cX9_keepLanding 83 = .ok (.iload_n 3, 1) := by decide +kernel
theorem dX9_keepLanding_84 : decode cX9_keepLanding 84 = .ok (.iconst 3, 1) := by decide +kernel
theorem dX9_keepLanding_85 : decode cX9_keepLanding 85 = .ok (.aload_n 2, 1) := by decide +kernel
theorem dX9_keepLanding_86 : decode cX9_keepLanding 86 = .ok (.getfield 230, 3) := by decide +kernel
theorem dX9_keepLanding_89 : decode cX9_keepLanding 89 = .ok (.i2l, 1) := by decide +kernel
theorem dX9_keepLanding_90 : decode cX9_keepLanding 90 = .ok (.invokevirtual 223, 3) := by decide +kernel
theorem dX9_keepLanding_93 : decode cX9_keepLanding 93 = .ok (.aload_n 0, 1) := by decide +kernel
theorem dX9_keepLanding_94 : decode cX9_keepLanding 94 = .ok (.getfield 9, 3) := by decide +kernel
theorem dX9_keepLanding_97 : decode cX9_keepLanding 97 = .ok (.getfield 214, 3) := by decide +kernel
theorem dX9_keepLanding_100 : decode cX9_keepLanding 100 = .ok (.iload_n 3, 1) := by decide +kernel
theorem dX9_keepLanding_101 : decode cX9_keepLanding 101 = .ok (.iconst 4, 1) := by decide +kernel
theorem dX9_keepLanding_102 : decode cX9_keepLanding 102 = .ok (.aload_n 2, 1) := by decide +kernel
theorem dX9_keepLanding_103 : decode cX9_keepLanding 103 = .ok (.getfield 211, 3) := by decide +kernel
theorem dX9_keepLanding_106 : decode cX9_keepLanding 106 = .ok (.i2l, 1) := by decide +kernel
theorem dX9_keepLanding_107 : decode cX9_keepLanding 107 = .ok (.invokevirtual 223, 3) := by decide +kernel
theorem dX9_keepLanding_110 : decode cX9_keepLanding 110 = .ok (.iconst 0, 1) := by decide +kernel
theorem dX9_keepLanding_111 : decode cX9_keepLanding 111 = .ok (.istore 4, 2) := by decide +kernel
theorem dX9_keepLanding_113 : decode cX9_keepLanding 113 = .ok (.iload 4, 2) := by decide +kernel
theorem dX9_keepLanding_115 : decode cX9_keepLanding 115 = .ok (.bipush 6, 2) := by decide +kernel
theorem dX9_keepLanding_117 : decode cX9_keepLanding 117 = .ok (.if_icmp .ge 32, 3) := by decide +kernel
theorem dX9_keepLanding_120 : decode cX9_keepLanding 120 = .ok (.aload_n 0, 1) := by decide +kernel
theorem dX9_keepLanding_121 : decode cX9_keepLanding 121 = .ok (.getfield 9, 3) := by decide +kernel
theorem dX9_keepLanding_124 : decode cX9_keepLanding 124 = .ok (.getfield 214, 3) := by decide +kernel
theorem dX9_keepLanding_127 : decode cX9_keepLanding 127 = .ok (.iload_n 3, 1) := by decide +kernel
theorem dX9_keepLanding_128 : decode cX9_keepLanding 128 = .ok (.iconst 5, 1) := by decide +kernel
theorem dX9_keepLanding_129 : decode cX9_keepLanding 129 = .ok (.iload 4, 2) := by decide +kernel
theorem dX9_keepLanding_131 : decode cX9_keepLanding 131 = .ok (.iadd, 1) := by decide +kernel
theorem dX9_keepLanding_132 : decode cX9_keepLanding 132 = .ok (.aload_n 2, 1) := by decide +kernel
theorem dX9_keepLanding_133 : decode cX9_keepLanding 133 = .ok (.getfield 233, 3) := by decide +kernel
theorem dX9_keepLanding_136 : decode cX9_keepLanding 136 = .ok (.iload 4, 2) := by decide +kernel
theorem dX9_keepLanding_138 : decode cX9_keepLanding 138 = .ok (.iaload, 1) := by decide +kernel
theorem dX9_keepLanding_139 : decode cX9_keepLanding 139 = .ok (.i2l, 1) := by decide +kernel
theorem dX9_keepLanding_140 : decode cX9_keepLanding 140 = .ok (.invokevirtual 223, 3) := by decide +kernel
theorem dX9_keepLanding_143 : decode cX9_keepLanding 143 = .ok (.iinc 4 1, 3) := by decide +kernel
theorem dX9_keepLanding_146 : decode cX9_keepLanding 146 = .ok (.goto (-33), 3) := by decide +kernel
theorem dX9_keepLanding_149 : decode cX9_keepLanding 149 = .ok (.aload_n 0, 1) := by decide +kernel
theorem dX9_keepLanding_150 : decode cX9_keepLanding 150 = .ok (.getfield 9, 3) := by decide +kernel
theorem dX9_keepLanding_153 : decode cX9_keepLanding 153 = .ok (.getfield 214, 3) := by decide +kernel
theorem dX9_keepLanding_156 : decode cX9_keepLanding 156 = .ok (.iload_n 3, 1) := by decide +kernel
theorem dX9_keepLanding_157 : decode cX9_keepLanding 157 = .ok (.bipush 11, 2) := by decide +kernel
theorem dX9_keepLanding_159 : decode cX9_keepLanding 159 = .ok (.ldc2_w 236, 3) := by decide +kernel
theorem dX9_keepLanding_162 : decode cX9_keepLanding 162 = .ok (.invokevirtual 223, 3) := by decide +kernel
theorem dX9_keepLanding_165 : decode cX9_keepLanding 165 = .ok (.aload_n 0, 1) := by decide +kernel
theorem dX9_keepLanding_166 : decode cX9_keepLanding 166 = .ok (.getfield 9, 3) := by decide +kernel
theorem dX9_keepLanding_169 : decode cX9_keepLanding 169 = .ok (.getfield 214, 3) := by decide +kernel
theorem dX9_keepLanding_172 : decode cX9_keepLanding 172 = .ok (.iload_n 3, 1) := by decide +kernel
theorem dX9_keepLanding_173 : decode cX9_keepLanding 173 = .ok (.bipush 12, 2) := by decide +kernel
theorem dX9_keepLanding_175 : decode cX9_keepLanding 175 = .ok (.ldc2_w 236, 3) := by decide +kernel
theorem dX9_keepLanding_178 : decode cX9_keepLanding 178 = .ok (.invokevirtual 223, 3) := by decide +kernel
theorem dX9_keepLanding_181 : decode cX9_keepLanding 181 = .ok (.return_, 1) := by decide +kernel
