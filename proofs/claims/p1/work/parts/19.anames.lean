def RL : String := "ColdShipsLaw"
abbrev cL_law : ByteArray := code
def wsL_law_r1 : List Cond := [Cond.classLink RL 7 RX11, Cond.instantiable RX11 7, Cond.initialized RX11, Cond.classLink RL 10 RX12, Cond.instantiable RX12 53, Cond.initialized RX12, Cond.methodLink RL 9 yX11_init, Cond.instanceMethod yX11_init, Cond.code yX11_init cX11_init 1 none, Cond.methodLink RX11 1 objectInit, Cond.instanceMethod objectInit, Cond.code objectInit ⟨#[0xb1]⟩ 1 none, Cond.classLink RX11 7 RX10, Cond.instantiable RX10 19, Cond.initialized RX10, Cond.fieldLink RX11 10 "ColdShips" "world" "LColdShips$World;", Cond.fieldLink RX11 16 "ColdShips" "images" "[LColdShips$World;", Cond.classLink RX11 20 RX9, Cond.instantiable RX9 4, Cond.initialized RX9, Cond.fieldLink RX11 25 "ColdShips" "watch" "LColdShips$Watch;", Cond.classLink RX11 29 RX2, Cond.instantiable RX2 16, Cond.initialized RX2]
def wsL_law_r2 : List Cond := [Cond.fieldLink RX11 32 "ColdShips" "reader" "LColdShips$Reader;", Cond.classLink RX11 36 RX3, Cond.instantiable RX3 6, Cond.initialized RX3, Cond.fieldLink RX11 39 "ColdShips" "reckoner" "LColdShips$Reckoner;", Cond.classLink RX11 43 RX1, Cond.instantiable RX1 15, Cond.initialized RX1, Cond.fieldLink RX11 46 "ColdShips" "planner" "LColdShips$Planner;", Cond.methodLink RX11 9 yX10_init, Cond.instanceMethod yX10_init, Cond.code yX10_init cX10_init 2 none, Cond.methodLink RX10 3 objectInit, Cond.fieldLink RX10 9 "ColdShips$World" "boils" "I", Cond.fieldLink RX10 15 "ColdShips$World" "limit" "I", Cond.arrayClass .int, Cond.fieldLink RX10 18 "ColdShips$World" "tides" "[I", Cond.fieldLink RX10 22 "ColdShips$World" "seas" "[I", Cond.classLink RX10 25 RX8, Cond.fieldLink RX10 27 "ColdShips$World" "terminals" "[LColdShips$Terminal;", Cond.classLink RX10 31 RX5, Cond.fieldLink RX10 33 "ColdShips$World" "ships" "[LColdShips$Ship;", Cond.classLink RX10 37 RX0, Cond.fieldLink RX10 39 "ColdShips$World" "contracts" "[LColdShips$Contract;"]
def wsL_law_r3 : List Cond := [Cond.classLink RX10 43 RX6, Cond.instantiable RX6 4, Cond.initialized RX6, Cond.fieldLink RX10 48 "ColdShips$World" "slots" "LColdShips$Spans;", Cond.fieldLink RX10 52 "ColdShips$World" "breaks" "LColdShips$Spans;", Cond.fieldLink RX10 55 "ColdShips$World" "forces" "LColdShips$Spans;", Cond.classLink RX10 58 RX4, Cond.instantiable RX4 3, Cond.initialized RX4, Cond.fieldLink RX10 63 "ColdShips$World" "prices" "LColdShips$Rows;", Cond.fieldLink RX10 67 "ColdShips$World" "readings" "LColdShips$Rows;", Cond.fieldLink RX10 70 "ColdShips$World" "landings" "LColdShips$Rows;", Cond.fieldLink RX10 73 "ColdShips$World" "cargoes" "LColdShips$Rows;", Cond.instantiable RX8 7, Cond.initialized RX8, Cond.instantiable RX5 17, Cond.initialized RX5, Cond.methodLink RX10 45 yX6_init, Cond.instanceMethod yX6_init, Cond.code yX6_init cX6_init 3 none, Cond.methodLink RX6 3 objectInit, Cond.methodLink RX6 9 Lib.Math.max.name, Cond.static Lib.Math.max.name, Cond.initialized "java/lang/Math"]
def wsL_law_r4 : List Cond := [Cond.code Lib.Math.max.name Lib.Math.max.code 2 (some .int), Cond.fieldLink RX6 15 "ColdShips$Spans" "owners" "[I", Cond.fieldLink RX6 21 "ColdShips$Spans" "begins" "[I", Cond.fieldLink RX6 24 "ColdShips$Spans" "ends" "[I", Cond.methodLink RX10 60 yX4_init, Cond.instanceMethod yX4_init, Cond.code yX4_init cX4_init 3 none, Cond.methodLink RX4 3 objectInit, Cond.methodLink RX4 9 Lib.Math.max.name, Cond.fieldLink RX4 15 "ColdShips$Rows" "width" "I", Cond.arrayClass .long, Cond.fieldLink RX4 21 "ColdShips$Rows" "cells" "[J", Cond.instanceMethod yX8_init, Cond.code yX8_init cX8_init 1 none, Cond.methodLink RX8 3 objectInit, Cond.fieldLink RX8 9 "ColdShips$Terminal" "rate" "I", Cond.fieldLink RX8 15 "ColdShips$Terminal" "wayHours" "[I", Cond.fieldLink RX8 19 "ColdShips$Terminal" "wayHalf" "[I", Cond.instanceMethod yX5_init, Cond.code yX5_init cX5_init 1 none, Cond.methodLink RX5 3 objectInit, Cond.classLink RX5 9 RX7, Cond.instantiable RX7 7, Cond.initialized RX7]
def wsL_law_r5 : List Cond := [Cond.fieldLink RX5 12 "ColdShips$Ship" "tank" "LColdShips$Tank;", Cond.fieldLink RX5 18 "ColdShips$Ship" "orderSorts" "[I", Cond.fieldLink RX5 22 "ColdShips$Ship" "orderWhats" "[I", Cond.fieldLink RX5 25 "ColdShips$Ship" "book" "[J", Cond.fieldLink RX5 29 "ColdShips$Ship" "landParts" "[I", Cond.fieldLink RX5 32 "ColdShips$Ship" "gaugeCentimetres" "[I", Cond.fieldLink RX5 35 "ColdShips$Ship" "gaugeTons" "[I", Cond.instanceMethod yX7_init, Cond.code yX7_init cX7_init 1 none, Cond.methodLink RX7 3 objectInit, Cond.fieldLink RX7 9 "ColdShips$Tank" "cap" "I", Cond.fieldLink RX7 15 "ColdShips$Tank" "parts" "[I", Cond.fieldLink RX7 19 "ColdShips$Tank" "given" "[I", Cond.fieldLink RX7 22 "ColdShips$Tank" "rests" "[J", Cond.methodLink RX11 22 yX9_init, Cond.instanceMethod yX9_init, Cond.code yX9_init cX9_init 2 none, Cond.methodLink RX9 3 objectInit, Cond.fieldLink RX9 9 "ColdShips$Watch" "world" "LColdShips$World;", Cond.instanceMethod yX2_init, Cond.code yX2_init cX2_init 1 none, Cond.methodLink RX2 3 objectInit, Cond.arrayClass .char, Cond.fieldLink RX2 11 "ColdShips$Reader" "tape" "[C"]
def wsL_law_r6 : List Cond := [Cond.fieldLink RX2 15 "ColdShips$Reader" "faultAt" "I", Cond.fieldLink RX2 19 "ColdShips$Reader" "code" "[I", Cond.fieldLink RX2 23 "ColdShips$Reader" "starts" "[I", Cond.methodLink RX11 38 yX3_init, Cond.instanceMethod yX3_init, Cond.code yX3_init cX3_init 2 none, Cond.methodLink RX3 3 objectInit, Cond.fieldLink RX3 9 "ColdShips$Reckoner" "facts" "[J", Cond.fieldLink RX3 15 "ColdShips$Reckoner" "stack" "[J", Cond.fieldLink RX3 18 "ColdShips$Reckoner" "world" "LColdShips$World;", Cond.methodLink RX11 45 yX1_init, Cond.instanceMethod yX1_init, Cond.code yX1_init cX1_init 2 none, Cond.methodLink RX1 3 objectInit, Cond.fieldLink RX1 11 "ColdShips$Planner" "rowWorths" "[J", Cond.fieldLink RX1 15 "ColdShips$Planner" "rowPlaces" "[I", Cond.fieldLink RX1 19 "ColdShips$Planner" "setWorths" "[J", Cond.fieldLink RX1 22 "ColdShips$Planner" "setShips" "[I", Cond.fieldLink RX1 25 "ColdShips$Planner" "shipOf" "[I", Cond.fieldLink RX1 28 "ColdShips$Planner" "placeOf" "[I", Cond.fieldLink RX1 31 "ColdShips$Planner" "loadOf" "[I", Cond.fieldLink RX1 34 "ColdShips$Planner" "landOf" "[I", Cond.fieldLink RX1 37 "ColdShips$Planner" "worthOf" "[J", Cond.fieldLink RX1 40 "ColdShips$Planner" "world" "LColdShips$World;"]
def wsL_law_r7 : List Cond := [Cond.methodLink RL 12 yX12_init, Cond.instanceMethod yX12_init, Cond.code yX12_init cX12_init 1 none, Cond.methodLink RX12 1 objectInit, Cond.fieldLink RX12 7 "ColdShipsModel" "row" "[I", Cond.fieldLink RX12 13 "ColdShipsModel" "images" "[I", Cond.arrayClass .boolean, Cond.fieldLink RX12 16 "ColdShipsModel" "isKept" "[Z", Cond.fieldLink RX12 20 "ColdShipsModel" "moved" "[I", Cond.fieldLink RX12 23 "ColdShipsModel" "rests" "[J", Cond.fieldLink RX12 27 "ColdShipsModel" "tape" "[I", Cond.fieldLink RX12 30 "ColdShipsModel" "fault" "I", Cond.fieldLink RX12 34 "ColdShipsModel" "nClause" "[I", Cond.fieldLink RX12 37 "ColdShipsModel" "nOp" "[I", Cond.fieldLink RX12 40 "ColdShipsModel" "nArg" "[I", Cond.fieldLink RX12 43 "ColdShipsModel" "pile" "[I", Cond.fieldLink RX12 46 "ColdShipsModel" "pileAt" "[I", Cond.fieldLink RX12 49 "ColdShipsModel" "set" "[J", Cond.fieldLink RX12 52 "ColdShipsModel" "rest" "[J", Cond.fieldLink RX12 55 "ColdShipsModel" "loads" "[I", Cond.fieldLink RX12 58 "ColdShipsModel" "lands" "[I", Cond.fieldLink RX12 61 "ColdShipsModel" "worths" "[J", Cond.fieldLink RX12 64 "ColdShipsModel" "line" "[I", Cond.fieldLink RX12 67 "ColdShipsModel" "bestOf" "[J"]
def wsL_law_r8 : List Cond := [Cond.fieldLink RX12 70 "ColdShipsModel" "placesOf" "[I", Cond.fieldLink RX12 73 "ColdShipsModel" "members" "[I", Cond.fieldLink RX12 76 "ColdShipsModel" "places" "[I", Cond.fieldLink RX12 79 "ColdShipsModel" "bestShip" "[I", Cond.fieldLink RX12 82 "ColdShipsModel" "bestTold" "[J", Cond.fieldLink RX12 85 "ColdShipsModel" "chosen" "[I", Cond.fieldLink RX12 88 "ColdShipsModel" "sets" "[I", Cond.methodLink RL 13 yX11_terminal, Cond.instanceMethod yX11_terminal, Cond.selects RX11 yX11_terminal yX11_terminal, Cond.code yX11_terminal cX11_terminal 6 (some .int), Cond.constant RX11 50 (500000), Cond.methodLink RX11 51 yX11_within, Cond.static yX11_within, Cond.code yX11_within cX11_within 3 (some .boolean), Cond.methodLink RX11 55 yX11_refuse, Cond.instanceMethod yX11_refuse, Cond.selects RX11 yX11_refuse yX11_refuse, Cond.code yX11_refuse cX11_refuse 2 (some .int), Cond.fieldLink RX11 354 "ColdShips" "refusal" "I", Cond.methodLink RX11 67 yX8_begin, Cond.instanceMethod yX8_begin, Cond.selects RX8 yX8_begin yX8_begin, Cond.code yX8_begin cX8_begin 5 none]
def wsL_law_r9 : List Cond := [Cond.fieldLink RX8 22 "ColdShips$Terminal" "store" "I", Cond.fieldLink RX8 25 "ColdShips$Terminal" "cap" "I", Cond.methodLink RX8 28 Lib.Math.max.name, Cond.fieldLink RX8 34 "ColdShips$Terminal" "depth" "I", Cond.fieldLink RX8 37 "ColdShips$Terminal" "heat" "I", Cond.methodLink RX8 40 yJ7_fill_53178, Cond.static yJ7_fill_53178, Cond.initialized RJ7, Cond.code yJ7_fill_53178 cJ7_fill_53178 4 none, Cond.methodLink RX11 73 yX11_accept, Cond.instanceMethod yX11_accept, Cond.selects RX11 yX11_accept yX11_accept, Cond.code yX11_accept cX11_accept 2 (some .int), Cond.methodLink RL 17 yX12_terminal, Cond.instanceMethod yX12_terminal, Cond.selects RX12 yX12_terminal yX12_terminal, Cond.code yX12_terminal cX12_terminal 6 (some .int), Cond.fieldLink RX12 91 "ColdShipsModel" "thrown" "I", Cond.constantLong RX12 109 (500000), Cond.constantLong RX12 111 (10000), Cond.constantLong RX12 113 (30), Cond.methodLink RX12 99 yX12_in, Cond.static yX12_in, Cond.code yX12_in cX12_in 6 (some .boolean)]
def wsL_law_r10 : List Cond := [Cond.methodLink RX12 105 yX12_told, Cond.instanceMethod yX12_told, Cond.selects RX12 yX12_told yX12_told, Cond.code yX12_told cX12_told 2 (some .int), Cond.fieldLink RX12 94 "ColdShipsModel" "status" "I", Cond.methodLink RX12 115 yX12_terminalAt, Cond.static yX12_terminalAt, Cond.code yX12_terminalAt cX12_terminalAt 1 (some .int), Cond.methodLink RX12 118 yX12_addFour, Cond.instanceMethod yX12_addFour, Cond.selects RX12 yX12_addFour yX12_addFour, Cond.code yX12_addFour cX12_addFour 6 none, Cond.methodLink RL 18 yX11_ship, Cond.instanceMethod yX11_ship, Cond.selects RX11 yX11_ship yX11_ship, Cond.code yX11_ship cX11_ship 5 (some .int), Cond.constant RX11 76 (200000), Cond.methodLink RX11 77 yX10_hasTerminal, Cond.instanceMethod yX10_hasTerminal, Cond.selects RX10 yX10_hasTerminal yX10_hasTerminal, Cond.code yX10_hasTerminal cX10_hasTerminal 2 (some .boolean), Cond.fieldLink RX10 78 "ColdShips$World" "terminalCount" "I", Cond.methodLink RX11 88 yX5_begin, Cond.instanceMethod yX5_begin]
def wsL_law_r11 : List Cond := [Cond.selects RX5 yX5_begin yX5_begin, Cond.code yX5_begin cX5_begin 4 none, Cond.fieldLink RX5 42 "ColdShips$Ship" "fuel" "I", Cond.fieldLink RX5 46 "ColdShips$Ship" "where" "I", Cond.fieldLink RX5 49 "ColdShips$Ship" "left" "I", Cond.fieldLink RX5 52 "ColdShips$Ship" "half" "I", Cond.fieldLink RX5 55 "ColdShips$Ship" "drifting" "Z", Cond.fieldLink RX5 59 "ColdShips$Ship" "orders" "I", Cond.fieldLink RX5 62 "ColdShips$Ship" "list" "I", Cond.methodLink RX5 38 yX7_begin, Cond.instanceMethod yX7_begin, Cond.selects RX7 yX7_begin yX7_begin, Cond.code yX7_begin cX7_begin 2 none, Cond.methodLink RX7 26 Lib.Math.max.name, Cond.fieldLink RX7 32 "ColdShips$Tank" "gas" "I", Cond.fieldLink RX7 35 "ColdShips$Tank" "vapor" "I", Cond.fieldLink RX7 38 "ColdShips$Tank" "warm" "I", Cond.methodLink RX7 41 yJ7_fill_53178, Cond.methodLink RX5 65 yJ7_fill_d0a16, Cond.static yJ7_fill_d0a16, Cond.code yJ7_fill_d0a16 cJ7_fill_d0a16 5 none, Cond.methodLink RX5 71 yJ7_fill_53178, Cond.methodLink RX5 74 yX5_forgetLanding, Cond.instanceMethod yX5_forgetLanding]
def wsL_law_r12 : List Cond := [Cond.selects RX5 yX5_forgetLanding yX5_forgetLanding, Cond.code yX5_forgetLanding cX5_forgetLanding 1 none, Cond.fieldLink RX5 93 "ColdShips$Ship" "landTons" "I", Cond.methodLink RL 22 yX12_ship, Cond.instanceMethod yX12_ship, Cond.selects RX12 yX12_ship yX12_ship, Cond.code yX12_ship cX12_ship 6 (some .int), Cond.constantLong RX12 122 (1000), Cond.constantLong RX12 124 (200000), Cond.constantLong RX12 126 (50), Cond.methodLink RX12 128 yX12_isTerminal, Cond.instanceMethod yX12_isTerminal, Cond.selects RX12 yX12_isTerminal yX12_isTerminal, Cond.code yX12_isTerminal cX12_isTerminal 2 (some .boolean), Cond.methodLink RX12 132 yX12_shipAt, Cond.static yX12_shipAt, Cond.code yX12_shipAt cX12_shipAt 1 (some .int), Cond.methodLink RL 23 yX11_way, Cond.instanceMethod yX11_way, Cond.selects RX11 yX11_way yX11_way, Cond.code yX11_way cX11_way 5 (some .int), Cond.methodLink RX11 93 yX8_tellWay, Cond.instanceMethod yX8_tellWay, Cond.selects RX8 yX8_tellWay yX8_tellWay]
def wsL_law_r13 : List Cond := [Cond.code yX8_tellWay cX8_tellWay 4 none, Cond.methodLink RL 27 yX12_way, Cond.instanceMethod yX12_way, Cond.selects RX12 yX12_way yX12_way, Cond.code yX12_way cX12_way 7 (some .int), Cond.constantLong RX12 135 (400), Cond.methodLink RL 28 yX11_tide, Cond.instanceMethod yX11_tide, Cond.selects RX11 yX11_tide yX11_tide, Cond.code yX11_tide cX11_tide 3 (some .int), Cond.methodLink RL 32 yX12_tide, Cond.instanceMethod yX12_tide, Cond.selects RX12 yX12_tide yX12_tide, Cond.code yX12_tide cX12_tide 3 (some .int), Cond.constantLong RX12 137 (24), Cond.constantLong RX12 139 (9), Cond.methodLink RL 33 yX11_sea, Cond.instanceMethod yX11_sea, Cond.selects RX11 yX11_sea yX11_sea, Cond.code yX11_sea cX11_sea 3 (some .int), Cond.methodLink RL 36 yX12_sea, Cond.instanceMethod yX12_sea, Cond.selects RX12 yX12_sea yX12_sea, Cond.code yX12_sea cX12_sea 3 (some .int)]
def wsL_law_r14 : List Cond := [Cond.methodLink RX12 141 yX12_isDay, Cond.static yX12_isDay, Cond.code yX12_isDay cX12_isDay 1 (some .boolean), Cond.constantLong RX12 103 (99), Cond.methodLink RL 37 yX11_slot, Cond.instanceMethod yX11_slot, Cond.selects RX11 yX11_slot yX11_slot, Cond.code yX11_slot cX11_slot 5 (some .int), Cond.methodLink RX11 104 yX11_isSpan, Cond.static yX11_isSpan, Cond.code yX11_isSpan cX11_isSpan 2 (some .boolean), Cond.methodLink RX11 229 yX11_isHour, Cond.static yX11_isHour, Cond.code yX11_isHour cX11_isHour 1 (some .boolean), Cond.methodLink RX11 108 yX10_hasShip, Cond.instanceMethod yX10_hasShip, Cond.selects RX10 yX10_hasShip yX10_hasShip, Cond.code yX10_hasShip cX10_hasShip 2 (some .boolean), Cond.fieldLink RX10 81 "ColdShips$World" "shipCount" "I", Cond.methodLink RX11 115 yX11_slotOwner, Cond.static yX11_slotOwner, Cond.code yX11_slotOwner cX11_slotOwner 2 (some .int), Cond.methodLink RX11 119 yX6_meets, Cond.instanceMethod yX6_meets]
def wsL_law_r15 : List Cond := [Cond.selects RX6 yX6_meets yX6_meets, Cond.code yX6_meets cX6_meets 6 (some .boolean), Cond.fieldLink RX6 27 "ColdShips$Spans" "size" "I", Cond.methodLink RX11 125 yX6_add, Cond.instanceMethod yX6_add, Cond.selects RX6 yX6_add yX6_add, Cond.code yX6_add cX6_add 5 (some .int), Cond.methodLink RX11 129 yX11_acceptOrFull, Cond.instanceMethod yX11_acceptOrFull, Cond.selects RX11 yX11_acceptOrFull yX11_acceptOrFull, Cond.code yX11_acceptOrFull cX11_acceptOrFull 2 (some .int), Cond.methodLink RL 40 yX12_slot, Cond.instanceMethod yX12_slot, Cond.selects RX12 yX12_slot yX12_slot, Cond.code yX12_slot cX12_slot 7 (some .int), Cond.methodLink RX12 144 yX12_isHour, Cond.static yX12_isHour, Cond.code yX12_isHour cX12_isHour 1 (some .boolean), Cond.constantLong RX12 97 (2399), Cond.methodLink RX12 147 yX12_isShip, Cond.instanceMethod yX12_isShip, Cond.selects RX12 yX12_isShip yX12_isShip, Cond.code yX12_isShip cX12_isShip 2 (some .boolean), Cond.methodLink RL 41 yX11_broken]
def wsL_law_r16 : List Cond := [Cond.instanceMethod yX11_broken, Cond.selects RX11 yX11_broken yX11_broken, Cond.code yX11_broken cX11_broken 4 (some .int), Cond.methodLink RL 44 yX12_broken, Cond.instanceMethod yX12_broken, Cond.selects RX12 yX12_broken yX12_broken, Cond.code yX12_broken cX12_broken 5 (some .int), Cond.methodLink RL 45 yX11_terms, Cond.instanceMethod yX11_terms, Cond.selects RX11 yX11_terms yX11_terms, Cond.code yX11_terms cX11_terms 3 (some .int), Cond.methodLink RL 48 yX12_terms, Cond.instanceMethod yX12_terms, Cond.selects RX12 yX12_terms yX12_terms, Cond.code yX12_terms cX12_terms 3 (some .int), Cond.constantLong RX12 150 (100), Cond.methodLink RL 49 yX11_order, Cond.instanceMethod yX11_order, Cond.selects RX11 yX11_order yX11_order, Cond.code yX11_order cX11_order 5 (some .int), Cond.methodLink RX11 141 yX11_isOrder, Cond.static yX11_isOrder, Cond.code yX11_isOrder cX11_isOrder 2 (some .boolean), Cond.methodLink RX11 150 yX5_addOrder]
def wsL_law_r17 : List Cond := [Cond.instanceMethod yX5_addOrder, Cond.selects RX5 yX5_addOrder yX5_addOrder, Cond.code yX5_addOrder cX5_addOrder 3 none, Cond.methodLink RL 52 yX12_order, Cond.instanceMethod yX12_order, Cond.selects RX12 yX12_order yX12_order, Cond.code yX12_order cX12_order 7 (some .int), Cond.constantLong RX12 152 (3), Cond.methodLink RX12 154 yX12_beginOrder, Cond.instanceMethod yX12_beginOrder, Cond.selects RX12 yX12_beginOrder yX12_beginOrder, Cond.code yX12_beginOrder cX12_beginOrder 3 none, Cond.methodLink RL 53 yX11_go, Cond.instanceMethod yX11_go, Cond.selects RX11 yX11_go yX11_go, Cond.code yX11_go cX11_go 3 (some .int), Cond.methodLink RX11 157 yX9_passHour, Cond.instanceMethod yX9_passHour, Cond.selects RX9 yX9_passHour yX9_passHour, Cond.code yX9_passHour cX9_passHour 2 none, Cond.fieldLink RX9 25 "ColdShips$Watch" "hour" "I", Cond.fieldLink RX9 32 "ColdShips$Watch" "sea" "I", Cond.fieldLink RX9 35 "ColdShips$Watch" "turnTaken" "Z", Cond.methodLink RX9 42 yX9_passShip]
def wsL_law_r18 : List Cond := [Cond.instanceMethod yX9_passShip, Cond.selects RX9 yX9_passShip yX9_passShip, Cond.code yX9_passShip cX9_passShip 5 none, Cond.methodLink RX9 62 yX7_boil, Cond.instanceMethod yX7_boil, Cond.selects RX7 yX7_boil yX7_boil, Cond.code yX7_boil cX7_boil 2 none, Cond.constantLong RX7 53 (100000), Cond.methodLink RX7 55 yX7_evaporate, Cond.instanceMethod yX7_evaporate, Cond.selects RX7 yX7_evaporate yX7_evaporate, Cond.code yX7_evaporate cX7_evaporate 2 none, Cond.methodLink RX7 68 yX7_takeGas, Cond.instanceMethod yX7_takeGas, Cond.selects RX7 yX7_takeGas yX7_takeGas, Cond.code yX7_takeGas cX7_takeGas 6 none, Cond.methodLink RX7 71 yX7_giveByRests, Cond.instanceMethod yX7_giveByRests, Cond.selects RX7 yX7_giveByRests yX7_giveByRests, Cond.code yX7_giveByRests cX7_giveByRests 5 none, Cond.constantLong RX7 80 (-1), Cond.methodLink RX9 67 yX7_warmOrCool, Cond.instanceMethod yX7_warmOrCool, Cond.selects RX7 yX7_warmOrCool yX7_warmOrCool]
def wsL_law_r19 : List Cond := [Cond.code yX7_warmOrCool cX7_warmOrCool 2 none, Cond.methodLink RX7 62 Lib.Math.min.name, Cond.static Lib.Math.min.name, Cond.code Lib.Math.min.name Lib.Math.min.code 2 (some .int), Cond.methodLink RX7 65 Lib.MathLoose.min_long.x, Cond.static Lib.MathLoose.min_long.x, Cond.code Lib.MathLoose.min_long.x Lib.MathLoose.min_long.code 4 (some .long), Cond.methodLink RX7 59 yX7_heel, Cond.instanceMethod yX7_heel, Cond.selects RX7 yX7_heel yX7_heel, Cond.code yX7_heel cX7_heel 1 (some .int), Cond.methodLink RX9 73 yX5_burnFuel, Cond.instanceMethod yX5_burnFuel, Cond.selects RX5 yX5_burnFuel yX5_burnFuel, Cond.code yX5_burnFuel cX5_burnFuel 3 none, Cond.methodLink RX5 83 yX7_burn, Cond.instanceMethod yX7_burn, Cond.selects RX7 yX7_burn yX7_burn, Cond.code yX7_burn cX7_burn 4 (some .int), Cond.methodLink RX9 82 yX9_sail, Cond.instanceMethod yX9_sail, Cond.selects RX9 yX9_sail yX9_sail, Cond.code yX9_sail cX9_sail 4 none, Cond.methodLink RX9 117 yX10_hoursBetween]
def wsL_law_r20 : List Cond := [Cond.instanceMethod yX10_hoursBetween, Cond.selects RX10 yX10_hoursBetween yX10_hoursBetween, Cond.code yX10_hoursBetween cX10_hoursBetween 4 (some .int), Cond.methodLink RX10 93 yX10_hasTerminal, Cond.methodLink RX9 100 yX5_endOrder, Cond.instanceMethod yX5_endOrder, Cond.selects RX5 yX5_endOrder yX5_endOrder, Cond.code yX5_endOrder cX5_endOrder 1 none, Cond.methodLink RX5 77 arraycopyName, Cond.native arraycopyName, Cond.static arraycopyName, Cond.initialized "java/lang/System", Cond.methodLink RX9 136 yX9_takesTurn, Cond.instanceMethod yX9_takesTurn, Cond.selects RX9 yX9_takesTurn yX9_takesTurn, Cond.code yX9_takesTurn cX9_takesTurn 2 (some .boolean), Cond.methodLink RX9 86 yX9_tonsMayGo, Cond.instanceMethod yX9_tonsMayGo, Cond.selects RX9 yX9_tonsMayGo yX9_tonsMayGo, Cond.code yX9_tonsMayGo cX9_tonsMayGo 6 (some .boolean), Cond.methodLink RX9 140 yX10_hasTerminal, Cond.methodLink RX9 152 yX7_draft, Cond.instanceMethod yX7_draft, Cond.selects RX7 yX7_draft yX7_draft]
def wsL_law_r21 : List Cond := [Cond.code yX7_draft cX7_draft 1 (some .int), Cond.methodLink RX9 160 yX6_meets, Cond.methodLink RX9 90 yX9_load, Cond.instanceMethod yX9_load, Cond.selects RX9 yX9_load yX9_load, Cond.code yX9_load cX9_load 6 none, Cond.methodLink RX9 175 Lib.Math.max.name, Cond.methodLink RX9 186 Lib.Math.min.name, Cond.methodLink RX9 180 yX7_top, Cond.instanceMethod yX7_top, Cond.selects RX7 yX7_top yX7_top, Cond.code yX7_top cX7_top 1 (some .int), Cond.methodLink RX9 192 yX7_fill, Cond.instanceMethod yX7_fill, Cond.selects RX7 yX7_fill yX7_fill, Cond.code yX7_fill cX7_fill 3 none, Cond.methodLink RX9 93 yX9_land, Cond.instanceMethod yX9_land, Cond.selects RX9 yX9_land yX9_land, Cond.code yX9_land cX9_land 7 none, Cond.methodLink RX9 196 yX7_heel, Cond.methodLink RX9 202 yX5_putAshore, Cond.instanceMethod yX5_putAshore, Cond.selects RX5 yX5_putAshore yX5_putAshore]
def wsL_law_r22 : List Cond := [Cond.code yX5_putAshore cX5_putAshore 4 none, Cond.fieldLink RX5 96 "ColdShips$Ship" "landFirst" "I", Cond.fieldLink RX5 99 "ColdShips$Ship" "landLast" "I", Cond.methodLink RX5 87 yX7_takeGas, Cond.methodLink RX9 205 yX9_keepLanding, Cond.instanceMethod yX9_keepLanding, Cond.selects RX9 yX9_keepLanding yX9_keepLanding, Cond.code yX9_keepLanding cX9_keepLanding 5 none, Cond.constantLong RX9 236 (-1), Cond.methodLink RX9 218 yX4_addRow, Cond.instanceMethod yX4_addRow, Cond.selects RX4 yX4_addRow yX4_addRow, Cond.code yX4_addRow cX4_addRow 2 (some .int), Cond.fieldLink RX4 25 "ColdShips$Rows" "size" "I", Cond.methodLink RX4 28 yJ7_fill_bad5a, Cond.static yJ7_fill_bad5a, Cond.code yJ7_fill_bad5a cJ7_fill_bad5a 6 none, Cond.methodLink RJ7 13 yJ7_rangeCheck_23922, Cond.static yJ7_rangeCheck_23922, Cond.code yJ7_rangeCheck_23922 cJ7_rangeCheck_23922 3 none, Cond.methodLink RX9 223 yX4_set, Cond.instanceMethod yX4_set, Cond.selects RX4 yX4_set yX4_set, Cond.code yX4_set cX4_set 5 none]
def wsL_law_r23 : List Cond := [Cond.methodLink RX4 38 yX4_has, Cond.instanceMethod yX4_has, Cond.selects RX4 yX4_has yX4_has, Cond.code yX4_has cX4_has 2 (some .boolean), Cond.methodLink RX9 208 yX5_forgetLanding, Cond.methodLink RX9 110 yX7_vent, Cond.instanceMethod yX7_vent, Cond.selects RX7 yX7_vent yX7_vent, Cond.code yX7_vent cX7_vent 4 (some .int), Cond.constantLong RX7 47 (1000), Cond.methodLink RX7 49 yX7_space, Cond.instanceMethod yX7_space, Cond.selects RX7 yX7_space yX7_space, Cond.code yX7_space cX7_space 1 (some .int), Cond.methodLink RL 57 yX12_go, Cond.instanceMethod yX12_go, Cond.selects RX12 yX12_go yX12_go, Cond.code yX12_go cX12_go 4 (some .int), Cond.constantLong RX12 167 (480), Cond.fieldLink RX12 169 "ColdShipsModel" "isTurnTaken" "Z", Cond.methodLink RX12 173 yX12_goShip, Cond.instanceMethod yX12_goShip, Cond.selects RX12 yX12_goShip yX12_goShip, Cond.code yX12_goShip cX12_goShip 7 none]
def wsL_law_r24 : List Cond := [Cond.constantLong RX12 177 (100000), Cond.methodLink RX12 179 yX12_take, Cond.instanceMethod yX12_take, Cond.selects RX12 yX12_take yX12_take, Cond.code yX12_take cX12_take 8 none, Cond.constantLong RX12 158 (-1), Cond.methodLink RX12 182 yX12_heelOf, Cond.instanceMethod yX12_heelOf, Cond.selects RX12 yX12_heelOf yX12_heelOf, Cond.code yX12_heelOf cX12_heelOf 2 (some .int), Cond.methodLink RX12 185 yX12_burn, Cond.instanceMethod yX12_burn, Cond.selects RX12 yX12_burn yX12_burn, Cond.code yX12_burn cX12_burn 5 none, Cond.methodLink RX12 188 yX12_doOrder, Cond.instanceMethod yX12_doOrder, Cond.selects RX12 yX12_doOrder yX12_doOrder, Cond.code yX12_doOrder cX12_doOrder 7 none, Cond.methodLink RX12 192 yX12_sail, Cond.instanceMethod yX12_sail, Cond.selects RX12 yX12_sail yX12_sail, Cond.code yX12_sail cX12_sail 5 none, Cond.methodLink RX12 195 yX12_endOrder, Cond.instanceMethod yX12_endOrder]
def wsL_law_r25 : List Cond := [Cond.selects RX12 yX12_endOrder yX12_endOrder, Cond.code yX12_endOrder cX12_endOrder 3 none, Cond.methodLink RX12 217 yX12_wayOf, Cond.instanceMethod yX12_wayOf, Cond.selects RX12 yX12_wayOf yX12_wayOf, Cond.code yX12_wayOf cX12_wayOf 3 (some .int), Cond.methodLink RX12 198 yX12_mayGo, Cond.instanceMethod yX12_mayGo, Cond.selects RX12 yX12_mayGo yX12_mayGo, Cond.code yX12_mayGo cX12_mayGo 8 (some .boolean), Cond.methodLink RX12 221 yX12_isBroken, Cond.instanceMethod yX12_isBroken, Cond.selects RX12 yX12_isBroken yX12_isBroken, Cond.code yX12_isBroken cX12_isBroken 6 (some .boolean), Cond.methodLink RX12 225 yX12_draftOf, Cond.instanceMethod yX12_draftOf, Cond.selects RX12 yX12_draftOf yX12_draftOf, Cond.code yX12_draftOf cX12_draftOf 2 (some .int), Cond.constantLong RX12 162 (8), Cond.methodLink RX12 202 yX12_toLoad, Cond.instanceMethod yX12_toLoad, Cond.selects RX12 yX12_toLoad yX12_toLoad, Cond.code yX12_toLoad cX12_toLoad 4 (some .int), Cond.methodLink RX12 228 yX12_lesser]
def wsL_law_r26 : List Cond := [Cond.static yX12_lesser, Cond.code yX12_lesser cX12_lesser 2 (some .int), Cond.methodLink RX12 231 yX12_topOf, Cond.instanceMethod yX12_topOf, Cond.selects RX12 yX12_topOf yX12_topOf, Cond.code yX12_topOf cX12_topOf 2 (some .int), Cond.constantLong RX12 160 (98), Cond.methodLink RX12 205 yX12_toLand, Cond.instanceMethod yX12_toLand, Cond.selects RX12 yX12_toLand yX12_toLand, Cond.code yX12_toLand cX12_toLand 3 (some .int), Cond.methodLink RX12 208 yX12_load, Cond.instanceMethod yX12_load, Cond.selects RX12 yX12_load yX12_load, Cond.code yX12_load cX12_load 3 none, Cond.methodLink RX12 211 yX12_land, Cond.instanceMethod yX12_land, Cond.selects RX12 yX12_land yX12_land, Cond.code yX12_land cX12_land 5 none, Cond.methodLink RX12 214 yX12_endLanding, Cond.instanceMethod yX12_endLanding, Cond.selects RX12 yX12_endLanding yX12_endLanding, Cond.code yX12_endLanding cX12_endLanding 5 none, Cond.methodLink RX12 164 yX12_roomOf]
def wsL_law_r27 : List Cond := [Cond.instanceMethod yX12_roomOf, Cond.selects RX12 yX12_roomOf yX12_roomOf, Cond.code yX12_roomOf cX12_roomOf 2 (some .int), Cond.methodLink RL 58 yX11_of, Cond.instanceMethod yX11_of, Cond.selects RX11 yX11_of yX11_of, Cond.code yX11_of cX11_of 4 (some .int), Cond.methodLink RX11 181 yX7_press, Cond.instanceMethod yX7_press, Cond.selects RX7 yX7_press yX7_press, Cond.code yX7_press cX7_press 1 (some .int), Cond.methodLink RX11 185 yX5_tonsLeft, Cond.instanceMethod yX5_tonsLeft, Cond.selects RX5 yX5_tonsLeft yX5_tonsLeft, Cond.code yX5_tonsLeft cX5_tonsLeft 2 (some .int), Cond.methodLink RX11 188 yX7_draft, Cond.methodLink RL 61 yX12_of, Cond.instanceMethod yX12_of, Cond.selects RX12 yX12_of yX12_of, Cond.code yX12_of cX12_of 4 (some .int), Cond.methodLink RX12 234 yX12_pressOf, Cond.instanceMethod yX12_pressOf, Cond.selects RX12 yX12_pressOf yX12_pressOf, Cond.code yX12_pressOf cX12_pressOf 2 (some .int)]
def wsL_law_r28 : List Cond := [Cond.methodLink RL 62 yX11_part, Cond.instanceMethod yX11_part, Cond.selects RX11 yX11_part yX11_part, Cond.code yX11_part cX11_part 3 (some .int), Cond.methodLink RL 65 yX12_part, Cond.instanceMethod yX12_part, Cond.selects RX12 yX12_part yX12_part, Cond.code yX12_part cX12_part 3 (some .int), Cond.methodLink RL 66 yX11_book, Cond.instanceMethod yX11_book, Cond.selects RX11 yX11_book yX11_book, Cond.code yX11_book cX11_book 3 (some .long), Cond.constantLong RX11 198 (-1), Cond.methodLink RL 70 yX12_book, Cond.instanceMethod yX12_book, Cond.selects RX12 yX12_book yX12_book, Cond.code yX12_book cX12_book 3 (some .long), Cond.methodLink RL 71 yX11_store, Cond.instanceMethod yX11_store, Cond.selects RX11 yX11_store yX11_store, Cond.code yX11_store cX11_store 2 (some .int), Cond.methodLink RL 74 yX12_store, Cond.instanceMethod yX12_store, Cond.selects RX12 yX12_store yX12_store]
def wsL_law_r29 : List Cond := [Cond.code yX12_store cX12_store 2 (some .int), Cond.methodLink RL 75 yX11_landing, Cond.instanceMethod yX11_landing, Cond.selects RX11 yX11_landing yX11_landing, Cond.code yX11_landing cX11_landing 3 (some .int), Cond.methodLink RX11 211 yX4_has, Cond.methodLink RX11 216 yX4_number, Cond.instanceMethod yX4_number, Cond.selects RX4 yX4_number yX4_number, Cond.code yX4_number cX4_number 3 (some .int), Cond.methodLink RX4 34 yX4_at, Cond.instanceMethod yX4_at, Cond.selects RX4 yX4_at yX4_at, Cond.code yX4_at cX4_at 4 (some .long), Cond.methodLink RX11 219 yX10_heatOf, Cond.instanceMethod yX10_heatOf, Cond.selects RX10 yX10_heatOf yX10_heatOf, Cond.code yX10_heatOf cX10_heatOf 7 (some .long), Cond.methodLink RX10 87 yX4_at, Cond.methodLink RX11 223 yX10_isSettled, Cond.instanceMethod yX10_isSettled, Cond.selects RX10 yX10_isSettled yX10_isSettled, Cond.code yX10_isSettled cX10_isSettled 2 (some .boolean), Cond.constantLong RX10 91 (-1)]
def wsL_law_r30 : List Cond := [Cond.methodLink RL 78 yX12_landing, Cond.instanceMethod yX12_landing, Cond.selects RX12 yX12_landing yX12_landing, Cond.code yX12_landing cX12_landing 4 (some .int), Cond.constantLong RX12 240 (6), Cond.methodLink RX12 237 yX12_isLanding, Cond.instanceMethod yX12_isLanding, Cond.selects RX12 yX12_isLanding yX12_isLanding, Cond.code yX12_isLanding cX12_isLanding 2 (some .boolean), Cond.methodLink RX12 242 yX12_landingAt, Cond.static yX12_landingAt, Cond.code yX12_landingAt cX12_landingAt 1 (some .int), Cond.methodLink RX12 245 yX12_heatOf, Cond.instanceMethod yX12_heatOf, Cond.selects RX12 yX12_heatOf yX12_heatOf, Cond.code yX12_heatOf cX12_heatOf 5 (some .int), Cond.methodLink RL 79 yX11_led, Cond.instanceMethod yX11_led, Cond.selects RX11 yX11_led yX11_led, Cond.code yX11_led cX11_led 3 (some .int), Cond.methodLink RL 82 yX12_led, Cond.instanceMethod yX12_led, Cond.selects RX12 yX12_led yX12_led, Cond.code yX12_led cX12_led 3 (some .int)]
def wsL_law_r31 : List Cond := [Cond.methodLink RL 83 yX11_heat, Cond.instanceMethod yX11_heat, Cond.selects RX11 yX11_heat yX11_heat, Cond.code yX11_heat cX11_heat 4 (some .int), Cond.methodLink RL 86 yX12_heat, Cond.instanceMethod yX12_heat, Cond.selects RX12 yX12_heat yX12_heat, Cond.code yX12_heat cX12_heat 4 (some .int), Cond.constantLong RX12 248 (500), Cond.constantLong RX12 250 (2000), Cond.methodLink RL 87 yX11_price, Cond.instanceMethod yX11_price, Cond.selects RX11 yX11_price yX11_price, Cond.code yX11_price cX11_price 5 (some .int), Cond.methodLink RX11 235 yX4_addRow, Cond.methodLink RX11 238 yX4_set, Cond.methodLink RL 90 yX12_price, Cond.instanceMethod yX12_price, Cond.selects RX12 yX12_price yX12_price, Cond.code yX12_price cX12_price 5 (some .int), Cond.methodLink RL 91 yX11_force, Cond.instanceMethod yX11_force, Cond.selects RX11 yX11_force yX11_force, Cond.code yX11_force cX11_force 4 (some .int)]
def wsL_law_r32 : List Cond := [Cond.methodLink RL 94 yX12_force, Cond.instanceMethod yX12_force, Cond.selects RX12 yX12_force yX12_force, Cond.code yX12_force cX12_force 5 (some .int), Cond.methodLink RL 95 yX11_bill, Cond.instanceMethod yX11_bill, Cond.selects RX11 yX11_bill yX11_bill, Cond.code yX11_bill cX11_bill 3 (some .int), Cond.methodLink RX11 248 yX4_at, Cond.methodLink RL 98 yX12_bill, Cond.instanceMethod yX12_bill, Cond.selects RX12 yX12_bill yX12_bill, Cond.code yX12_bill cX12_bill 3 (some .int), Cond.methodLink RL 99 yX11_feed, Cond.instanceMethod yX11_feed, Cond.selects RX11 yX11_feed yX11_feed, Cond.code yX11_feed cX11_feed 6 (some .int), Cond.methodLink RX11 252 yX2_hasRoom, Cond.instanceMethod yX2_hasRoom, Cond.selects RX2 yX2_hasRoom yX2_hasRoom, Cond.code yX2_hasRoom cX2_hasRoom 1 (some .boolean), Cond.fieldLink RX2 26 "ColdShips$Reader" "size" "I", Cond.methodLink RX11 256 yX2_addFour, Cond.instanceMethod yX2_addFour]
def wsL_law_r33 : List Cond := [Cond.selects RX2 yX2_addFour yX2_addFour, Cond.code yX2_addFour cX2_addFour 3 none, Cond.methodLink RL 103 yX12_feed, Cond.instanceMethod yX12_feed, Cond.selects RX12 yX12_feed yX12_feed, Cond.code yX12_feed cX12_feed 6 (some .int), Cond.fieldLink RX12 252 "ColdShipsModel" "taped" "I", Cond.methodLink RX12 255 yX12_four, Cond.instanceMethod yX12_four, Cond.selects RX12 yX12_four yX12_four, Cond.code yX12_four cX12_four 3 none, Cond.methodLink RL 104 yX11_end, Cond.instanceMethod yX11_end, Cond.selects RX11 yX11_end yX11_end, Cond.code yX11_end cX11_end 2 (some .int), Cond.methodLink RL 107 yX12_end, Cond.instanceMethod yX12_end, Cond.selects RX12 yX12_end yX12_end, Cond.code yX12_end cX12_end 2 (some .int), Cond.methodLink RL 108 yX11_contract, Cond.instanceMethod yX11_contract, Cond.selects RX11 yX11_contract yX11_contract, Cond.code yX11_contract cX11_contract 4 (some .int), Cond.methodLink RX11 264 yX2_readTape]
def wsL_law_r34 : List Cond := [Cond.instanceMethod yX2_readTape, Cond.selects RX2 yX2_readTape yX2_readTape, Cond.code yX2_readTape cX2_readTape 2 (some (.object "ColdShips$Contract")), Cond.fieldLink RX2 29 "ColdShips$Reader" "behind" "I", Cond.fieldLink RX2 32 "ColdShips$Reader" "cells" "I", Cond.fieldLink RX2 35 "ColdShips$Reader" "sums" "I", Cond.fieldLink RX2 38 "ColdShips$Reader" "leaves" "I", Cond.fieldLink RX2 41 "ColdShips$Reader" "brackets" "I", Cond.fieldLink RX2 44 "ColdShips$Reader" "windowFrom" "I", Cond.fieldLink RX2 47 "ColdShips$Reader" "windowTo" "I", Cond.fieldLink RX2 50 "ColdShips$Reader" "wantedPlace" "I", Cond.fieldLink RX2 60 "ColdShips$Reader" "place" "I", Cond.classLink RX2 63 RX0, Cond.instantiable RX0 5, Cond.initialized RX0, Cond.methodLink RX2 53 yX2_advance, Cond.instanceMethod yX2_advance, Cond.selects RX2 yX2_advance yX2_advance, Cond.code yX2_advance cX2_advance 1 none, Cond.fieldLink RX2 77 "ColdShips$Reader" "kind" "I", Cond.fieldLink RX2 99 "ColdShips$Reader" "value" "I", Cond.constant RX2 205 (100001), Cond.methodLink RX2 206 Lib.Math.min.name, Cond.methodLink RX2 199 yX2_isLetter]
def wsL_law_r35 : List Cond := [Cond.static yX2_isLetter, Cond.code yX2_isLetter cX2_isLetter 1 (some .boolean), Cond.methodLink RX2 202 yX2_isDigit, Cond.static yX2_isDigit, Cond.code yX2_isDigit cX2_isDigit 1 (some .boolean), Cond.methodLink RX2 56 yX2_readClauses, Cond.instanceMethod yX2_readClauses, Cond.selects RX2 yX2_readClauses yX2_readClauses, Cond.code yX2_readClauses cX2_readClauses 2 (some .boolean), Cond.methodLink RX2 74 yX2_readClause, Cond.instanceMethod yX2_readClause, Cond.selects RX2 yX2_readClause yX2_readClause, Cond.code yX2_readClause cX2_readClause 1 (some .boolean), Cond.methodLink RX2 86 yX2_passWord, Cond.instanceMethod yX2_passWord, Cond.selects RX2 yX2_passWord yX2_passWord, Cond.code yX2_passWord cX2_passWord 3 (some .boolean), Cond.methodLink RX2 169 yX2_isWord, Cond.instanceMethod yX2_isWord, Cond.selects RX2 yX2_isWord yX2_isWord, Cond.code yX2_isWord cX2_isWord 3 (some .boolean), Cond.methodLink RX2 190 yJ0_length_8abf5, Cond.instanceMethod yJ0_length_8abf5, Cond.selects RJ0 yJ0_length_8abf5 yJ0_length_8abf5]
def wsL_law_r36 : List Cond := [Cond.initialized RJ0, Cond.code yJ0_length_8abf5 cJ0_length_8abf5 1 (some .int), Cond.fieldLink RJ0 9 "java/lang/String" "value" "[B", Cond.methodLink RJ0 335 yJ0_coder_7d493, Cond.instanceMethod yJ0_coder_7d493, Cond.selects RJ0 yJ0_coder_7d493 yJ0_coder_7d493, Cond.code yJ0_coder_7d493 cJ0_coder_7d493 1 (some .byte), Cond.fieldLink RJ0 38 "java/lang/String" "COMPACT_STRINGS" "Z", Cond.fieldLink RJ0 15 "java/lang/String" "coder" "B", Cond.methodLink RX2 195 yJ0_charAt_5068e, Cond.instanceMethod yJ0_charAt_5068e, Cond.selects RJ0 yJ0_charAt_5068e yJ0_charAt_5068e, Cond.code yJ0_charAt_5068e cJ0_charAt_5068e 2 (some .char), Cond.methodLink RJ0 492 yJ0_isLatin1_aae02, Cond.instanceMethod yJ0_isLatin1_aae02, Cond.selects RJ0 yJ0_isLatin1_aae02 yJ0_isLatin1_aae02, Cond.code yJ0_isLatin1_aae02 cJ0_isLatin1_aae02 1 (some .boolean), Cond.methodLink RJ0 495 yJ1_charAt_3b067, Cond.static yJ1_charAt_3b067, Cond.initialized RJ1, Cond.code yJ1_charAt_3b067 cJ1_charAt_3b067 2 (some .char), Cond.methodLink RJ1 9 yJ0_checkIndex_df160, Cond.static yJ0_checkIndex_df160, Cond.code yJ0_checkIndex_df160 cJ0_checkIndex_df160 2 none]
def wsL_law_r37 : List Cond := [Cond.fieldLink RJ0 1053 "jdk/internal/util/Preconditions" "SIOOBE_FORMATTER" "Ljava/util/function/BiFunction;", Cond.methodLink RJ0 1059 yJ3_checkIndex_8e157, Cond.static yJ3_checkIndex_8e157, Cond.initialized RJ3, Cond.code yJ3_checkIndex_8e157 cJ3_checkIndex_8e157 3 (some .int), Cond.methodLink RJ0 498 yJ2_charAt_3b067, Cond.static yJ2_charAt_3b067, Cond.initialized RJ2, Cond.code yJ2_charAt_3b067 cJ2_charAt_3b067 2 (some .char), Cond.methodLink RJ2 67 yJ2_checkIndex_2214a, Cond.static yJ2_checkIndex_2214a, Cond.code yJ2_checkIndex_2214a cJ2_checkIndex_2214a 2 none, Cond.methodLink RJ2 48 yJ2_length_9d52b, Cond.static yJ2_length_9d52b, Cond.code yJ2_length_9d52b cJ2_length_9d52b 1 (some .int), Cond.methodLink RJ2 414 yJ0_checkIndex_df160, Cond.methodLink RJ2 71 yJ2_getChar_3b067, Cond.static yJ2_getChar_3b067, Cond.code yJ2_getChar_3b067 cJ2_getChar_3b067 2 (some .char), Cond.fieldLink RJ2 44 "java/lang/StringUTF16" "$assertionsDisabled" "Z", Cond.fieldLink RJ2 59 "java/lang/StringUTF16" "HI_BYTE_SHIFT" "I", Cond.fieldLink RJ2 63 "java/lang/StringUTF16" "LO_BYTE_SHIFT" "I", Cond.methodLink RX2 90 yX2_readWindow, Cond.instanceMethod yX2_readWindow]
def wsL_law_r38 : List Cond := [Cond.selects RX2 yX2_readWindow yX2_readWindow, Cond.code yX2_readWindow cX2_readWindow 2 (some .boolean), Cond.methodLink RX2 95 yX2_isNumber, Cond.instanceMethod yX2_isNumber, Cond.selects RX2 yX2_isNumber yX2_isNumber, Cond.code yX2_isNumber cX2_isNumber 3 (some .boolean), Cond.methodLink RX2 104 yX2_readMoney, Cond.instanceMethod yX2_readMoney, Cond.selects RX2 yX2_readMoney yX2_readMoney, Cond.code yX2_readMoney cX2_readMoney 2 (some .boolean), Cond.methodLink RX2 112 yX2_readSum, Cond.instanceMethod yX2_readSum, Cond.selects RX2 yX2_readSum yX2_readSum, Cond.code yX2_readSum cX2_readSum 3 (some .boolean), Cond.methodLink RX2 153 yX2_readTerm, Cond.instanceMethod yX2_readTerm, Cond.selects RX2 yX2_readTerm yX2_readTerm, Cond.methodLink RX2 143 yX2_isSign, Cond.instanceMethod yX2_isSign, Cond.selects RX2 yX2_isSign yX2_isSign, Cond.code yX2_isSign cX2_isSign 2 (some .boolean), Cond.methodLink RX2 120 yX2_emit, Cond.instanceMethod yX2_emit, Cond.selects RX2 yX2_emit yX2_emit]
def wsL_law_r39 : List Cond := [Cond.code yX2_emit cX2_emit 2 none, Cond.code yX2_readBoth cX2_readBoth 3 (some .boolean), Cond.methodLink RX2 136 yX2_readPlain, Cond.instanceMethod yX2_readPlain, Cond.selects RX2 yX2_readPlain yX2_readPlain, Cond.methodLink RX2 129 yX2_emitJump, Cond.instanceMethod yX2_emitJump, Cond.selects RX2 yX2_emitJump yX2_emitJump, Cond.code yX2_emitJump cX2_emitJump 2 (some .int), Cond.methodLink RX2 133 yX2_land, Cond.instanceMethod yX2_land, Cond.selects RX2 yX2_land yX2_land, Cond.code yX2_land cX2_land 2 none, Cond.code yX2_readCompared cX2_readCompared 2 (some .boolean), Cond.code yX2_readInBrackets cX2_readInBrackets 3 (some .boolean), Cond.methodLink RX2 117 yX2_readTest, Cond.instanceMethod yX2_readTest, Cond.selects RX2 yX2_readTest yX2_readTest, Cond.methodLink RX2 80 yX2_passSign, Cond.instanceMethod yX2_passSign, Cond.selects RX2 yX2_passSign yX2_passSign, Cond.code yX2_passSign cX2_passSign 3 (some .boolean), Cond.code yX2_readPart cX2_readPart 2 (some .boolean), Cond.methodLink RX2 146 yX2_readInBrackets]
def wsL_law_r40 : List Cond := [Cond.instanceMethod yX2_readInBrackets, Cond.selects RX2 yX2_readInBrackets yX2_readInBrackets, Cond.methodLink RX2 159 yX2_leafHere, Cond.instanceMethod yX2_leafHere, Cond.selects RX2 yX2_leafHere yX2_leafHere, Cond.code yX2_leafHere cX2_leafHere 2 (some .int), Cond.constant RX2 163 (100000), Cond.methodLink RX2 164 yX2_factHere, Cond.instanceMethod yX2_factHere, Cond.selects RX2 yX2_factHere yX2_factHere, Cond.code yX2_factHere cX2_factHere 1 (some .int), Cond.code yX2_readPlain cX2_readPlain 3 (some .boolean), Cond.methodLink RX2 150 yX2_readCompared, Cond.instanceMethod yX2_readCompared, Cond.selects RX2 yX2_readCompared yX2_readCompared, Cond.code yX2_readTerm cX2_readTerm 3 (some .boolean), Cond.methodLink RX2 156 yX2_readPart, Cond.instanceMethod yX2_readPart, Cond.selects RX2 yX2_readPart yX2_readPart, Cond.code yX2_readTest cX2_readTest 3 (some .boolean), Cond.methodLink RX2 124 yX2_readBoth, Cond.instanceMethod yX2_readBoth, Cond.selects RX2 yX2_readBoth yX2_readBoth, Cond.methodLink RX2 65 yJ7_copyOf_59c91]
def wsL_law_r41 : List Cond := [Cond.static yJ7_copyOf_59c91, Cond.code yJ7_copyOf_59c91 cJ7_copyOf_59c91 3 (some (.array .int)), Cond.methodLink RJ7 316 ⟨"[I", "clone", "()Ljava/lang/Object;"⟩, Cond.sameMethod "[I" "java/lang/Object" "clone" "()Ljava/lang/Object;", Cond.native ⟨"java/lang/Object", "clone", "()Ljava/lang/Object;"⟩, Cond.instanceMethod ⟨"java/lang/Object", "clone", "()Ljava/lang/Object;"⟩, Cond.selects "[I" ⟨"[I", "clone", "()Ljava/lang/Object;"⟩ ⟨"java/lang/Object", "clone", "()Ljava/lang/Object;"⟩, Cond.classLink RJ7 317 "[I", Cond.methodLink RJ7 304 Lib.Math.min.name, Cond.methodLink RJ7 150 arraycopyName, Cond.methodLink RX2 71 yX0_init, Cond.instanceMethod yX0_init, Cond.code yX0_init cX0_init 6 none, Cond.methodLink RX0 1 objectInit, Cond.fieldLink RX0 7 "ColdShips$Contract" "code" "[I", Cond.fieldLink RX0 13 "ColdShips$Contract" "starts" "[I", Cond.fieldLink RX0 16 "ColdShips$Contract" "windowFrom" "I", Cond.fieldLink RX0 20 "ColdShips$Contract" "windowTo" "I", Cond.fieldLink RX0 23 "ColdShips$Contract" "place" "I", Cond.methodLink RX11 268 yX2_emptyTape, Cond.instanceMethod yX2_emptyTape, Cond.selects RX2 yX2_emptyTape yX2_emptyTape, Cond.code yX2_emptyTape cX2_emptyTape 1 none, Cond.methodLink RL 112 yX12_contract]
def wsL_law_r42 : List Cond := [Cond.instanceMethod yX12_contract, Cond.selects RX12 yX12_contract yX12_contract, Cond.code yX12_contract cX12_contract 3 (some .int), Cond.fieldLink RX12 391 "ColdShipsModel" "nClauses" "I", Cond.fieldLink RX12 411 "ColdShipsModel" "nPays" "I", Cond.fieldLink RX12 297 "ColdShipsModel" "nCode" "I", Cond.fieldLink RX12 351 "ColdShipsModel" "nLeaves" "I", Cond.fieldLink RX12 398 "ColdShipsModel" "nFrom" "I", Cond.fieldLink RX12 403 "ColdShipsModel" "nTo" "I", Cond.fieldLink RX12 408 "ColdShipsModel" "nAt" "I", Cond.fieldLink RX12 261 "ColdShipsModel" "bad" "Z", Cond.fieldLink RX12 280 "ColdShipsModel" "sort" "I", Cond.methodLink RX12 419 yX12_begin, Cond.instanceMethod yX12_begin, Cond.selects RX12 yX12_begin yX12_begin, Cond.code yX12_begin cX12_begin 1 none, Cond.fieldLink RX12 258 "ColdShipsModel" "to" "I", Cond.methodLink RX12 264 yX12_next, Cond.instanceMethod yX12_next, Cond.selects RX12 yX12_next yX12_next, Cond.code yX12_next cX12_next 1 none, Cond.fieldLink RX12 267 "ColdShipsModel" "from" "I", Cond.fieldLink RX12 270 "ColdShipsModel" "worth" "J", Cond.constantLong RX12 283 (32)]
def wsL_law_r43 : List Cond := [Cond.constantLong RX12 285 (96), Cond.constantLong RX12 287 (1000000), Cond.constantLong RX12 289 (10), Cond.constantLong RX12 291 (48), Cond.methodLink RX12 274 yX12_isSmall, Cond.static yX12_isSmall, Cond.code yX12_isSmall cX12_isSmall 1 (some .boolean), Cond.methodLink RX12 277 yX12_isDigit, Cond.static yX12_isDigit, Cond.code yX12_isDigit cX12_isDigit 1 (some .boolean), Cond.methodLink RX12 422 yX12_readClause, Cond.instanceMethod yX12_readClause, Cond.selects RX12 yX12_readClause yX12_readClause, Cond.code yX12_readClause cX12_readClause 5 none, Cond.constantLong RX12 383 (781652471), Cond.constantLong RX12 385 (52), Cond.constantLong RX12 387 (16441), Cond.constantLong RX12 389 (206277), Cond.constantLong RX12 401 (655), Cond.constantLong RX12 406 (5), Cond.constantLong RX12 417 (294), Cond.methodLink RX12 317 yX12_isWord, Cond.instanceMethod yX12_isWord, Cond.selects RX12 yX12_isWord yX12_isWord]
def wsL_law_r44 : List Cond := [Cond.code yX12_isWord cX12_isWord 3 (some .boolean), Cond.methodLink RX12 293 yX12_must, Cond.instanceMethod yX12_must, Cond.selects RX12 yX12_must yX12_must, Cond.code yX12_must cX12_must 2 none, Cond.methodLink RX12 394 yX12_number, Cond.instanceMethod yX12_number, Cond.selects RX12 yX12_number yX12_number, Cond.code yX12_number cX12_number 6 (some .int), Cond.methodLink RX12 414 yX12_readExpression, Cond.instanceMethod yX12_readExpression, Cond.selects RX12 yX12_readExpression yX12_readExpression, Cond.code yX12_readExpression cX12_readExpression 3 none, Cond.fieldLink RX12 300 "ColdShipsModel" "piled" "I", Cond.fieldLink RX12 335 "ColdShipsModel" "opened" "I", Cond.methodLink RX12 373 yX12_readPlain, Cond.instanceMethod yX12_readPlain, Cond.selects RX12 yX12_readPlain yX12_readPlain, Cond.code yX12_readPlain cX12_readPlain 1 (some .int), Cond.constantLong RX12 354 (14836), Cond.methodLink RX12 338 yX12_push, Cond.instanceMethod yX12_push, Cond.selects RX12 yX12_push yX12_push, Cond.code yX12_push cX12_push 3 none]
def wsL_law_r45 : List Cond := [Cond.methodLink RX12 341 yX12_isSign, Cond.instanceMethod yX12_isSign, Cond.selects RX12 yX12_isSign yX12_isSign, Cond.code yX12_isSign cX12_isSign 2 (some .boolean), Cond.methodLink RX12 344 yX12_open, Cond.instanceMethod yX12_open, Cond.selects RX12 yX12_open yX12_open, Cond.code yX12_open cX12_open 2 none, Cond.methodLink RX12 356 yX12_readPart, Cond.instanceMethod yX12_readPart, Cond.selects RX12 yX12_readPart yX12_readPart, Cond.code yX12_readPart cX12_readPart 4 (some .int), Cond.methodLink RX12 347 yX12_partAt, Cond.instanceMethod yX12_partAt, Cond.selects RX12 yX12_partAt yX12_partAt, Cond.code yX12_partAt cX12_partAt 1 (some .int), Cond.constantLong RX12 315 (671187), Cond.constantLong RX12 321 (76951716), Cond.constantLong RX12 323 (267316), Cond.constantLong RX12 325 (394885), Cond.constantLong RX12 327 (5294489), Cond.constantLong RX12 329 (17376357), Cond.constantLong RX12 331 (8902227), Cond.constantLong RX12 333 (5930468251205)]
def wsL_law_r46 : List Cond := [Cond.methodLink RX12 306 yX12_emit, Cond.instanceMethod yX12_emit, Cond.selects RX12 yX12_emit yX12_emit, Cond.code yX12_emit cX12_emit 3 none, Cond.methodLink RX12 376 yX12_behindSum, Cond.instanceMethod yX12_behindSum, Cond.selects RX12 yX12_behindSum yX12_behindSum, Cond.code yX12_behindSum cX12_behindSum 4 (some .int), Cond.methodLink RX12 303 yX12_binds, Cond.static yX12_binds, Cond.code yX12_binds cX12_binds 1 (some .int), Cond.methodLink RX12 359 yX12_settleDown, Cond.instanceMethod yX12_settleDown, Cond.selects RX12 yX12_settleDown yX12_settleDown, Cond.code yX12_settleDown cX12_settleDown 2 none, Cond.methodLink RX12 362 yX12_inner, Cond.instanceMethod yX12_inner, Cond.selects RX12 yX12_inner yX12_inner, Cond.code yX12_inner cX12_inner 3 (some .int), Cond.methodLink RX12 365 yX12_isCompared, Cond.instanceMethod yX12_isCompared, Cond.selects RX12 yX12_isCompared yX12_isCompared, Cond.code yX12_isCompared cX12_isCompared 2 (some .boolean), Cond.constantLong RX12 309 (13)]
def wsL_law_r47 : List Cond := [Cond.constantLong RX12 311 (14), Cond.constantLong RX12 313 (16), Cond.methodLink RX12 380 yX12_behindTest, Cond.instanceMethod yX12_behindTest, Cond.selects RX12 yX12_behindTest yX12_behindTest, Cond.code yX12_behindTest cX12_behindTest 2 (some .int), Cond.constantLong RX12 369 (1476), Cond.constantLong RX12 371 (498), Cond.methodLink RL 113 yX11_fault, Cond.instanceMethod yX11_fault, Cond.selects RX11 yX11_fault yX11_fault, Cond.code yX11_fault cX11_fault 1 (some .int), Cond.methodLink RL 116 yX12_fault, Cond.instanceMethod yX12_fault, Cond.selects RX12 yX12_fault yX12_fault, Cond.code yX12_fault cX12_fault 1 (some .int), Cond.methodLink RL 117 yX11_due, Cond.instanceMethod yX11_due, Cond.selects RX11 yX11_due yX11_due, Cond.code yX11_due cX11_due 5 (some .long), Cond.constantLong RX11 281 (-2000000000000000), Cond.methodLink RX11 278 yX10_hasContract, Cond.instanceMethod yX10_hasContract, Cond.selects RX10 yX10_hasContract yX10_hasContract]
def wsL_law_r48 : List Cond := [Cond.code yX10_hasContract cX10_hasContract 2 (some .boolean), Cond.fieldLink RX10 84 "ColdShips$World" "contractCount" "I", Cond.methodLink RX11 283 yX3_reckon, Cond.instanceMethod yX3_reckon, Cond.selects RX3 yX3_reckon yX3_reckon, Cond.code yX3_reckon cX3_reckon 5 none, Cond.fieldLink RX3 22 "ColdShips$Reckoner" "pays" "J", Cond.fieldLink RX3 26 "ColdShips$Reckoner" "fines" "J", Cond.methodLink RX3 29 yX3_findFacts, Cond.instanceMethod yX3_findFacts, Cond.selects RX3 yX3_findFacts yX3_findFacts, Cond.code yX3_findFacts cX3_findFacts 7 none, Cond.methodLink RX3 89 Lib.Math.max.name, Cond.methodLink RX3 52 yX4_number, Cond.methodLink RX3 62 yX4_at, Cond.methodLink RX3 66 yX10_billedOf, Cond.instanceMethod yX10_billedOf, Cond.selects RX10 yX10_billedOf yX10_billedOf, Cond.code yX10_billedOf cX10_billedOf 4 (some .long), Cond.methodLink RX3 70 yX10_heatOf, Cond.methodLink RX3 80 yX6_freeHours, Cond.instanceMethod yX6_freeHours, Cond.selects RX6 yX6_freeHours yX6_freeHours, Cond.code yX6_freeHours cX6_freeHours 9 (some .int)]
def wsL_law_r49 : List Cond := [Cond.methodLink RX6 31 Lib.Math.min.name, Cond.methodLink RX3 94 yX10_priceOf, Cond.instanceMethod yX10_priceOf, Cond.selects RX10 yX10_priceOf yX10_priceOf, Cond.code yX10_priceOf cX10_priceOf 12 (some .long), Cond.constantLong RX10 103 (24), Cond.methodLink RX3 42 yX3_runClause, Cond.instanceMethod yX3_runClause, Cond.selects RX3 yX3_runClause yX3_runClause, Cond.code yX3_runClause cX3_runClause 9 none, Cond.fieldLink RX3 97 "ColdShips$Reckoner" "depth" "I", Cond.methodLink RX3 100 Lib.Math.min.name, Cond.methodLink RX3 103 yX3_push, Cond.instanceMethod yX3_push, Cond.selects RX3 yX3_push yX3_push, Cond.code yX3_push cX3_push 3 none, Cond.methodLink RX3 107 yX3_pop, Cond.instanceMethod yX3_pop, Cond.selects RX3 yX3_pop yX3_pop, Cond.code yX3_pop cX3_pop 1 (some .long), Cond.methodLink RX3 111 yX3_combine, Cond.instanceMethod yX3_combine, Cond.selects RX3 yX3_combine yX3_combine, Cond.code yX3_combine cX3_combine 6 (some .boolean)]
def wsL_law_r50 : List Cond := [Cond.methodLink RX3 119 Lib.MathLoose.abs_long.x, Cond.static Lib.MathLoose.abs_long.x, Cond.code Lib.MathLoose.abs_long.x Lib.MathLoose.abs_long.code 2 (some .long), Cond.constantLong RX3 123 (1000000000000), Cond.methodLink RX3 115 yX3_pushSum, Cond.instanceMethod yX3_pushSum, Cond.selects RX3 yX3_pushSum yX3_pushSum, Cond.code yX3_pushSum cX3_pushSum 3 (some .boolean), Cond.methodLink RL 121 yX12_due, Cond.instanceMethod yX12_due, Cond.selects RX12 yX12_due yX12_due, Cond.code yX12_due cX12_due 7 (some .long), Cond.constantLong RX12 464 (4), Cond.constantLong RX12 466 (-2000000000000000), Cond.fieldLink RX12 452 "ColdShipsModel" "pays" "J", Cond.fieldLink RX12 455 "ColdShipsModel" "fines" "J", Cond.methodLink RX12 461 yX12_isContract, Cond.instanceMethod yX12_isContract, Cond.selects RX12 yX12_isContract yX12_isContract, Cond.code yX12_isContract cX12_isContract 2 (some .boolean), Cond.methodLink RX12 468 yX12_contractAt, Cond.static yX12_contractAt, Cond.code yX12_contractAt cX12_contractAt 1 (some .int), Cond.methodLink RX12 471 yX12_setFor]
def wsL_law_r51 : List Cond := [Cond.instanceMethod yX12_setFor, Cond.selects RX12 yX12_setFor yX12_setFor, Cond.code yX12_setFor cX12_setFor 7 none, Cond.methodLink RX12 425 yX12_billed, Cond.instanceMethod yX12_billed, Cond.selects RX12 yX12_billed yX12_billed, Cond.code yX12_billed cX12_billed 2 (some .int), Cond.methodLink RX12 428 yX12_isForce, Cond.instanceMethod yX12_isForce, Cond.selects RX12 yX12_isForce yX12_isForce, Cond.code yX12_isForce cX12_isForce 6 (some .boolean), Cond.methodLink RX12 431 yX12_priceOf, Cond.instanceMethod yX12_priceOf, Cond.selects RX12 yX12_priceOf yX12_priceOf, Cond.code yX12_priceOf cX12_priceOf 7 (some .int), Cond.methodLink RX12 474 yX12_judgeLanding, Cond.instanceMethod yX12_judgeLanding, Cond.selects RX12 yX12_judgeLanding yX12_judgeLanding, Cond.code yX12_judgeLanding cX12_judgeLanding 6 none, Cond.fieldLink RX12 440 "ColdShipsModel" "broken" "Z", Cond.fieldLink RX12 449 "ColdShipsModel" "value" "J", Cond.methodLink RX12 458 yX12_run, Cond.instanceMethod yX12_run, Cond.selects RX12 yX12_run yX12_run]
def wsL_law_r52 : List Cond := [Cond.code yX12_run cX12_run 8 none, Cond.constantLong RX12 447 (-1000000000000), Cond.constantLong RX12 438 (1000000000000), Cond.methodLink RX12 443 yX12_reckon, Cond.instanceMethod yX12_reckon, Cond.selects RX12 yX12_reckon yX12_reckon, Cond.code yX12_reckon cX12_reckon 6 (some .long), Cond.methodLink RX12 434 yX12_size, Cond.static yX12_size, Cond.code yX12_size cX12_size 2 (some .long), Cond.methodLink RL 122 yX11_settle, Cond.instanceMethod yX11_settle, Cond.selects RX11 yX11_settle yX11_settle, Cond.code yX11_settle cX11_settle 3 (some .int), Cond.methodLink RL 125 yX12_settle, Cond.instanceMethod yX12_settle, Cond.selects RX12 yX12_settle yX12_settle, Cond.code yX12_settle cX12_settle 6 (some .int), Cond.methodLink RL 126 yX11_settled, Cond.instanceMethod yX11_settled, Cond.selects RX11 yX11_settled yX11_settled, Cond.code yX11_settled cX11_settled 3 (some .long), Cond.methodLink RL 129 yX12_settled, Cond.instanceMethod yX12_settled]
def wsL_law_r53 : List Cond := [Cond.selects RX12 yX12_settled yX12_settled, Cond.code yX12_settled cX12_settled 4 (some .long), Cond.constantLong RX12 477 (2), Cond.constantLong RX12 479 (4294967295), Cond.methodLink RL 130 yX11_table, Cond.instanceMethod yX11_table, Cond.selects RX11 yX11_table yX11_table, Cond.code yX11_table cX11_table 5 (some .int), Cond.methodLink RL 133 yX12_table, Cond.instanceMethod yX12_table, Cond.selects RX12 yX12_table yX12_table, Cond.code yX12_table cX12_table 6 (some .int), Cond.constantLong RX12 481 (5000), Cond.methodLink RL 134 yX11_list, Cond.instanceMethod yX11_list, Cond.selects RX11 yX11_list yX11_list, Cond.code yX11_list cX11_list 4 (some .int), Cond.methodLink RL 137 yX12_list, Cond.instanceMethod yX12_list, Cond.selects RX12 yX12_list yX12_list, Cond.code yX12_list cX12_list 4 (some .int), Cond.constantLong RX12 483 (-50), Cond.methodLink RL 138 yX11_reading, Cond.instanceMethod yX11_reading]
def wsL_law_r54 : List Cond := [Cond.selects RX11 yX11_reading yX11_reading, Cond.code yX11_reading cX11_reading 7 (some .int), Cond.methodLink RL 141 yX12_reading, Cond.instanceMethod yX12_reading, Cond.selects RX12 yX12_reading yX12_reading, Cond.code yX12_reading cX12_reading 7 (some .int), Cond.constantLong RX12 485 (-20), Cond.constantLong RX12 487 (20), Cond.methodLink RL 142 yX11_gauged, Cond.instanceMethod yX11_gauged, Cond.selects RX11 yX11_gauged yX11_gauged, Cond.code yX11_gauged cX11_gauged 4 (some .long), Cond.methodLink RX11 309 yX3_tonsRead, Cond.instanceMethod yX3_tonsRead, Cond.selects RX3 yX3_tonsRead yX3_tonsRead, Cond.code yX3_tonsRead cX3_tonsRead 7 (some .long), Cond.constantLong RX3 138 (-2000000000000000), Cond.methodLink RX3 125 yX10_hasShip, Cond.methodLink RX3 132 yX5_gaugeCounts, Cond.instanceMethod yX5_gaugeCounts, Cond.selects RX5 yX5_gaugeCounts yX5_gaugeCounts, Cond.code yX5_gaugeCounts cX5_gaugeCounts 2 (some .boolean), Cond.methodLink RX3 149 yX5_tonsAt, Cond.instanceMethod yX5_tonsAt]
def wsL_law_r55 : List Cond := [Cond.selects RX5 yX5_tonsAt yX5_tonsAt, Cond.code yX5_tonsAt cX5_tonsAt 6 (some .long), Cond.methodLink RX11 313 yX3_tonsGauged, Cond.instanceMethod yX3_tonsGauged, Cond.selects RX3 yX3_tonsGauged yX3_tonsGauged, Cond.code yX3_tonsGauged cX3_tonsGauged 7 (some .long), Cond.methodLink RX3 152 yX3_tonsRead, Cond.methodLink RX11 316 yX3_claimOf, Cond.instanceMethod yX3_claimOf, Cond.selects RX3 yX3_claimOf yX3_claimOf, Cond.code yX3_claimOf cX3_claimOf 5 (some .long), Cond.methodLink RX3 156 yX3_tonsGauged, Cond.methodLink RL 146 yX12_gauged, Cond.instanceMethod yX12_gauged, Cond.selects RX12 yX12_gauged yX12_gauged, Cond.code yX12_gauged cX12_gauged 11 (some .long), Cond.methodLink RX12 496 yX12_gaugedBy, Cond.instanceMethod yX12_gaugedBy, Cond.selects RX12 yX12_gaugedBy yX12_gaugedBy, Cond.code yX12_gaugedBy cX12_gaugedBy 9 (some .long), Cond.methodLink RX12 489 yX12_tonsBy, Cond.instanceMethod yX12_tonsBy, Cond.selects RX12 yX12_tonsBy yX12_tonsBy, Cond.code yX12_tonsBy cX12_tonsBy 7 (some .long)]
def wsL_law_r56 : List Cond := [Cond.methodLink RX12 493 yX12_hasTable, Cond.instanceMethod yX12_hasTable, Cond.selects RX12 yX12_hasTable yX12_hasTable, Cond.code yX12_hasTable cX12_hasTable 5 (some .boolean), Cond.methodLink RL 147 yX11_cargo, Cond.instanceMethod yX11_cargo, Cond.selects RX11 yX11_cargo yX11_cargo, Cond.code yX11_cargo cX11_cargo 10 (some .int), Cond.methodLink RL 151 yX12_cargo, Cond.instanceMethod yX12_cargo, Cond.selects RX12 yX12_cargo yX12_cargo, Cond.code yX12_cargo cX12_cargo 10 (some .int), Cond.methodLink RL 152 yX11_clear, Cond.instanceMethod yX11_clear, Cond.selects RX11 yX11_clear yX11_clear, Cond.code yX11_clear cX11_clear 2 (some .int), Cond.methodLink RL 155 yX12_clear, Cond.instanceMethod yX12_clear, Cond.selects RX12 yX12_clear yX12_clear, Cond.code yX12_clear cX12_clear 2 (some .int), Cond.methodLink RL 156 yX11_best, Cond.instanceMethod yX11_best, Cond.selects RX11 yX11_best yX11_best, Cond.code yX11_best cX11_best 2 (some .long)]
def wsL_law_r57 : List Cond := [Cond.methodLink RX11 322 yX1_findBest, Cond.instanceMethod yX1_findBest, Cond.selects RX1 yX1_findBest yX1_findBest, Cond.code yX1_findBest cX1_findBest 5 (some .long), Cond.methodLink RX1 60 Lib.Math.min.name, Cond.constantLong RX1 66 (-2000000000000000), Cond.methodLink RX1 68 yJ7_fill_d0a16, Cond.methodLink RX1 77 yJ7_fill_bad5a, Cond.methodLink RX1 89 yX1_extend, Cond.instanceMethod yX1_extend, Cond.selects RX1 yX1_extend yX1_extend, Cond.code yX1_extend cX1_extend 14 none, Cond.fieldLink RX1 108 "ColdShips$Planner" "worth" "J", Cond.fieldLink RX1 119 "ColdShips$Planner" "freeAt" "I", Cond.methodLink RX1 104 yX1_reckon, Cond.instanceMethod yX1_reckon, Cond.selects RX1 yX1_reckon yX1_reckon, Cond.code yX1_reckon cX1_reckon 14 (some .boolean), Cond.methodLink RX1 164 Lib.Math.max.name, Cond.fieldLink RX1 142 "ColdShips$Planner" "loadAt" "I", Cond.fieldLink RX1 145 "ColdShips$Planner" "landAt" "I", Cond.constantLong RX1 189 (100000), Cond.methodLink RX1 191 Lib.MathLoose.min_long.x, Cond.constantLong RX1 198 (100)]
def wsL_law_r58 : List Cond := [Cond.methodLink RX1 116 yX4_number, Cond.methodLink RX1 151 yX10_hoursBetween, Cond.methodLink RX1 158 yX7_top, Cond.methodLink RX1 175 yX8_hoursFor, Cond.instanceMethod yX8_hoursFor, Cond.selects RX8 yX8_hoursFor yX8_hoursFor, Cond.code yX8_hoursFor cX8_hoursFor 2 (some .int), Cond.methodLink RX1 180 yX6_hourBehind, Cond.instanceMethod yX6_hourBehind, Cond.selects RX6 yX6_hourBehind yX6_hourBehind, Cond.code yX6_hourBehind cX6_hourBehind 8 (some .int), Cond.methodLink RX1 194 yX4_at, Cond.methodLink RX1 112 yX1_keepRow, Cond.instanceMethod yX1_keepRow, Cond.selects RX1 yX1_keepRow yX1_keepRow, Cond.code yX1_keepRow cX1_keepRow 5 none, Cond.methodLink RX1 93 yX1_addShip, Cond.instanceMethod yX1_addShip, Cond.selects RX1 yX1_addShip yX1_addShip, Cond.code yX1_addShip cX1_addShip 6 none, Cond.methodLink RX1 122 yX1_joinSets, Cond.instanceMethod yX1_joinSets, Cond.selects RX1 yX1_joinSets yX1_joinSets, Cond.code yX1_joinSets cX1_joinSets 10 none]
def wsL_law_r59 : List Cond := [Cond.methodLink RX1 97 yX1_isBetter, Cond.instanceMethod yX1_isBetter, Cond.selects RX1 yX1_isBetter yX1_isBetter, Cond.code yX1_isBetter cX1_isBetter 4 (some .boolean), Cond.methodLink RX1 126 yJ6_bitCount_0f7a4, Cond.static yJ6_bitCount_0f7a4, Cond.initialized RJ6, Cond.code yJ6_bitCount_0f7a4 cJ6_bitCount_0f7a4 1 (some .int), Cond.constant RJ6 265 (1431655765), Cond.constant RJ6 266 (858993459), Cond.constant RJ6 267 (252645135), Cond.methodLink RX1 101 yX1_keepPlan, Cond.instanceMethod yX1_keepPlan, Cond.selects RX1 yX1_keepPlan yX1_keepPlan, Cond.code yX1_keepPlan cX1_keepPlan 5 none, Cond.fieldLink RX1 132 "ColdShips$Planner" "planned" "I", Cond.methodLink RX1 135 yX1_keepVoyage, Cond.instanceMethod yX1_keepVoyage, Cond.selects RX1 yX1_keepVoyage yX1_keepVoyage, Cond.code yX1_keepVoyage cX1_keepVoyage 9 none, Cond.methodLink RX1 138 yX1_cargoAt, Cond.instanceMethod yX1_cargoAt, Cond.selects RX1 yX1_cargoAt yX1_cargoAt, Cond.code yX1_cargoAt cX1_cargoAt 5 (some .int)]
def wsL_law_r60 : List Cond := [Cond.methodLink RL 160 yX12_best, Cond.instanceMethod yX12_best, Cond.selects RX12 yX12_best yX12_best, Cond.code yX12_best cX12_best 15 (some .long), Cond.methodLink RX12 528 yX12_findSet, Cond.instanceMethod yX12_findSet, Cond.selects RX12 yX12_findSet yX12_findSet, Cond.code yX12_findSet cX12_findSet 12 none, Cond.methodLink RX12 519 yX12_sailRow, Cond.instanceMethod yX12_sailRow, Cond.selects RX12 yX12_sailRow yX12_sailRow, Cond.code yX12_sailRow cX12_sailRow 7 (some .long), Cond.fieldLink RX12 500 "ColdShipsModel" "clock" "I", Cond.fieldLink RX12 503 "ColdShipsModel" "place" "I", Cond.methodLink RX12 516 yX12_carry, Cond.instanceMethod yX12_carry, Cond.selects RX12 yX12_carry yX12_carry, Cond.code yX12_carry cX12_carry 12 (some .boolean), Cond.fieldLink RX12 506 "ColdShipsModel" "began" "I", Cond.methodLink RX12 512 yX12_goTo, Cond.instanceMethod yX12_goTo, Cond.selects RX12 yX12_goTo yX12_goTo, Cond.code yX12_goTo cX12_goTo 6 (some .int), Cond.methodLink RX12 509 yX12_work]
def wsL_law_r61 : List Cond := [Cond.instanceMethod yX12_work, Cond.selects RX12 yX12_work yX12_work, Cond.code yX12_work cX12_work 4 (some .boolean), Cond.methodLink RX12 525 yX12_nextPlaces, Cond.instanceMethod yX12_nextPlaces, Cond.selects RX12 yX12_nextPlaces yX12_nextPlaces, Cond.code yX12_nextPlaces cX12_nextPlaces 6 (some .boolean), Cond.methodLink RX12 522 yX12_swapPlaces, Cond.instanceMethod yX12_swapPlaces, Cond.selects RX12 yX12_swapPlaces yX12_swapPlaces, Cond.code yX12_swapPlaces cX12_swapPlaces 4 none, Cond.methodLink RX12 531 yX12_share, Cond.instanceMethod yX12_share, Cond.selects RX12 yX12_share yX12_share, Cond.code yX12_share cX12_share 7 (some .int), Cond.methodLink RX12 535 yX12_keepBest, Cond.instanceMethod yX12_keepBest, Cond.selects RX12 yX12_keepBest yX12_keepBest, Cond.code yX12_keepBest cX12_keepBest 9 none, Cond.fieldLink RX12 538 "ColdShipsModel" "hasBest" "Z", Cond.fieldLink RX12 541 "ColdShipsModel" "bestCargoes" "I", Cond.methodLink RL 161 yX11_voyage, Cond.instanceMethod yX11_voyage, Cond.selects RX11 yX11_voyage yX11_voyage]
def wsL_law_r62 : List Cond := [Cond.code yX11_voyage cX11_voyage 3 (some .long), Cond.methodLink RL 164 yX12_voyage, Cond.instanceMethod yX12_voyage, Cond.selects RX12 yX12_voyage yX12_voyage, Cond.code yX12_voyage cX12_voyage 3 (some .long), Cond.methodLink RL 165 yX11_judge, Cond.instanceMethod yX11_judge, Cond.selects RX11 yX11_judge yX11_judge, Cond.code yX11_judge cX11_judge 6 (some .long), Cond.methodLink RX11 343 yX1_sails, Cond.instanceMethod yX1_sails, Cond.selects RX1 yX1_sails yX1_sails, Cond.code yX1_sails cX1_sails 2 (some .boolean), Cond.methodLink RX1 44 yX10_hasShip, Cond.methodLink RX11 346 yX1_worthOfRow, Cond.instanceMethod yX1_worthOfRow, Cond.selects RX1 yX1_worthOfRow yX1_worthOfRow, Cond.code yX1_worthOfRow cX1_worthOfRow 13 (some .long), Cond.methodLink RX1 148 yX4_has, Cond.methodLink RL 169 yX12_judge, Cond.instanceMethod yX12_judge, Cond.selects RX12 yX12_judge yX12_judge, Cond.code yX12_judge cX12_judge 9 (some .long), Cond.methodLink RL 170 yX11_image]
def wsL_law_r63 : List Cond := [Cond.instanceMethod yX11_image, Cond.selects RX11 yX11_image yX11_image, Cond.code yX11_image cX11_image 2 (some .int), Cond.methodLink RX11 350 yX10_copyFrom, Cond.instanceMethod yX10_copyFrom, Cond.selects RX10 yX10_copyFrom yX10_copyFrom, Cond.code yX10_copyFrom cX10_copyFrom 3 none, Cond.fieldLink RX10 108 "ColdShips$World" "now" "I", Cond.fieldLink RX10 111 "ColdShips$World" "ordersGiven" "I", Cond.methodLink RX10 114 arraycopyName, Cond.methodLink RX10 120 yX8_copyFrom, Cond.instanceMethod yX8_copyFrom, Cond.selects RX8 yX8_copyFrom yX8_copyFrom, Cond.code yX8_copyFrom cX8_copyFrom 2 none, Cond.methodLink RX8 50 arraycopyName, Cond.methodLink RX10 124 yX5_copyFrom, Cond.instanceMethod yX5_copyFrom, Cond.selects RX5 yX5_copyFrom yX5_copyFrom, Cond.code yX5_copyFrom cX5_copyFrom 2 none, Cond.methodLink RX5 102 yX7_copyFrom, Cond.instanceMethod yX7_copyFrom, Cond.selects RX7 yX7_copyFrom yX7_copyFrom, Cond.code yX7_copyFrom cX7_copyFrom 2 none, Cond.methodLink RX7 74 arraycopyName]
def wsL_law_r64 : List Cond := [Cond.methodLink RX10 127 yX6_copyFrom, Cond.instanceMethod yX6_copyFrom, Cond.selects RX6 yX6_copyFrom yX6_copyFrom, Cond.code yX6_copyFrom cX6_copyFrom 2 none, Cond.methodLink RX6 34 arraycopyName, Cond.methodLink RX10 130 yX4_copyFrom, Cond.instanceMethod yX4_copyFrom, Cond.selects RX4 yX4_copyFrom yX4_copyFrom, Cond.code yX4_copyFrom cX4_copyFrom 3 none, Cond.methodLink RX4 42 arraycopyName, Cond.methodLink RL 173 yX12_image, Cond.instanceMethod yX12_image, Cond.selects RX12 yX12_image yX12_image, Cond.code yX12_image cX12_image 3 (some .int), Cond.methodLink RL 174 yX11_back, Cond.instanceMethod yX11_back, Cond.selects RX11 yX11_back yX11_back, Cond.code yX11_back cX11_back 2 (some .int), Cond.methodLink RL 177 yX12_back, Cond.instanceMethod yX12_back, Cond.selects RX12 yX12_back yX12_back, Cond.code yX12_back cX12_back 3 (some .int), Cond.methodLink RL 178 yX11_count, Cond.instanceMethod yX11_count]
def wsL_law_r65 : List Cond := [Cond.selects RX11 yX11_count yX11_count, Cond.code yX11_count cX11_count 2 (some .int), Cond.methodLink RL 181 yX12_count, Cond.instanceMethod yX12_count, Cond.selects RX12 yX12_count yX12_count, Cond.code yX12_count cX12_count 2 (some .int), Cond.methodLink RL 182 yX11_status, Cond.instanceMethod yX11_status, Cond.selects RX11 yX11_status yX11_status, Cond.code yX11_status cX11_status 1 (some .int), Cond.methodLink RL 185 yX12_status, Cond.instanceMethod yX12_status, Cond.selects RX12 yX12_status yX12_status, Cond.code yX12_status cX12_status 1 (some .int)]
def wsL_law : List Cond := (wsL_law_r1 ++ (wsL_law_r2 ++ (wsL_law_r3 ++ (wsL_law_r4 ++ (wsL_law_r5 ++ (wsL_law_r6 ++ (wsL_law_r7 ++ (wsL_law_r8 ++ (wsL_law_r9 ++ (wsL_law_r10 ++ (wsL_law_r11 ++ (wsL_law_r12 ++ (wsL_law_r13 ++ (wsL_law_r14 ++ (wsL_law_r15 ++ (wsL_law_r16 ++ (wsL_law_r17 ++ (wsL_law_r18 ++ (wsL_law_r19 ++ (wsL_law_r20 ++ (wsL_law_r21 ++ (wsL_law_r22 ++ (wsL_law_r23 ++ (wsL_law_r24 ++ (wsL_law_r25 ++ (wsL_law_r26 ++ (wsL_law_r27 ++ (wsL_law_r28 ++ (wsL_law_r29 ++ (wsL_law_r30 ++ (wsL_law_r31 ++ (wsL_law_r32 ++ (wsL_law_r33 ++ (wsL_law_r34 ++ (wsL_law_r35 ++ (wsL_law_r36 ++ (wsL_law_r37 ++ (wsL_law_r38 ++ (wsL_law_r39 ++ (wsL_law_r40 ++ (wsL_law_r41 ++ (wsL_law_r42 ++ (wsL_law_r43 ++ (wsL_law_r44 ++ (wsL_law_r45 ++ (wsL_law_r46 ++ (wsL_law_r47 ++ (wsL_law_r48 ++ (wsL_law_r49 ++ (wsL_law_r50 ++ (wsL_law_r51 ++ (wsL_law_r52 ++ (wsL_law_r53 ++ (wsL_law_r54 ++ (wsL_law_r55 ++ (wsL_law_r56 ++ (wsL_law_r57 ++ (wsL_law_r58 ++ (wsL_law_r59 ++ (wsL_law_r60 ++ (wsL_law_r61 ++ (wsL_law_r62 ++ (wsL_law_r63 ++ (wsL_law_r64 ++ wsL_law_r65)))))))))))))))))))))))))))))))))))))))))))))))))))))))))))))))) ++ wsX110 ++ wsX120 ++ wsX100 ++ wsX90 ++ wsX20 ++ wsX30 ++ wsX10 ++ wsX60 ++ wsX40 ++ wsX80 ++ wsX50 ++ wsX70 ++ wsX00 ++ ([] : List Cond)
set_option maxRecDepth 20000 in
theorem wsL_law_in : ∀ w ∈ wsL_law, w ∈ lw_tbl := fun w h => (goodIn_p wsL_law [143, 146, 151, 163, 167, 187, 208, 244, 250, 463, 482, 540, 568, 1465, 647, 651, 655, 659, 663, 667, 1646, 1634, 1638, 1652, 1656, 671, 676, 680, 684, 689, 694, 1660, 1667, 1670, 698, 702, 1674, 707, 1679, 711, 1685, 1688, 715, 718, 721, 725, 728, 732, 736, 740, 1693, 1696, 1701, 744, 1705, 748, 1709, 752, 755, 759, 1714, 1719, 763, 767, 772, 776, 781, 785, 789, 794, 801, 804, 798, 808, 812, 816, 820, 825, 832, 836, 842, 847, 852, 857, 861, 866, 871, 875, 878, 881, 885, 889, 895, 899, 1723, 1728, 1733, 1738, 1742, 1746, 1750, 1754, 1758, 1762, 1766, 1770, 1775, 1778, 1782, 1787, 1791, 1795, 1799, 1803, 904, 908, 912, 1807, 1811, 917, 1815, 921, 1819, 926, 1823, 930, 935, 939, 943, 948, 1827, 1831, 1835, 1839, 953, 1843, 957, 1847, 961, 1853, 967, 1857, 971, 1861, 976, 980, 984, 1865, 1869, 988, 1873, 992, 996, 1000, 1003, 1006, 1012, 1016, 1021, 1025, 1029, 1033, 1039, 1043, 1046, 1049, 1054, 1057, 1060, 1063, 1067, 1077, 1081, 1089, 1093, 1105, 1130, 1117, 1135, 1139, 1126, 1109, 1144, 1101, 1148, 1153, 1121, 1097, 1113, 1168, 1180, 1207, 1881, 1885, 1889, 1892, 1895, 1904, 1909, 1916, 1920, 1926, 1930, 1935, 1939, 1943, 1947, 1951, 1963, 1967, 1970, 1974, 1978, 1982, 1989, 1211, 1877, 1215, 1219, 1224, 1228, 1234, 1239, 1245, 1250, 1255, 1259, 1263, 1270, 1267, 1996, 2000, 2005, 2009, 2013, 2017, 2021, 2025, 2029, 2033, 2036, 1275, 2042, 1279, 2046, 1283, 2052, 1287, 2057, 1291, 2062, 1295, 1299, 1304, 1309, 1313, 1318, 2068, 2072, 2076, 2080, 1323, 2084, 1327, 2088, 1331, 1335, 1343, 1347, 1355, 1359, 1367, 1371, 1375, 1379, 1382, 1389, 1393, 1397, 2112, 2116, 2096, 2100, 2104, 2108, 2120, 2124, 2128, 2132, 1401, 2136, 1405, 1409, 1414, 2092, 1419, 1423, 1428, 1433, 1437, 1442, 1447, 1631, 1452, 1642, 1456, 2140, 1460, 2144] (by decide +kernel) (by decide +kernel) w h).1
theorem inlX0 : ∀ w ∈ wsX00, w ∈ wsL_law := fun _ h => List.mem_append_left _ (List.mem_append_right _ h)
theorem inX0 : ∀ w ∈ wsX00, w ∈ lw_tbl := fun w h => wsL_law_in w (inlX0 w h)
theorem inlX1 : ∀ w ∈ wsX10, w ∈ wsL_law := fun _ h => List.mem_append_left _ (List.mem_append_left _ (List.mem_append_left _ (List.mem_append_left _ (List.mem_append_left _ (List.mem_append_left _ (List.mem_append_left _ (List.mem_append_right _ h)))))))
theorem inX1 : ∀ w ∈ wsX10, w ∈ lw_tbl := fun w h => wsL_law_in w (inlX1 w h)
theorem inlX2 : ∀ w ∈ wsX20, w ∈ wsL_law := fun _ h => List.mem_append_left _ (List.mem_append_left _ (List.mem_append_left _ (List.mem_append_left _ (List.mem_append_left _ (List.mem_append_left _ (List.mem_append_left _ (List.mem_append_left _ (List.mem_append_left _ (List.mem_append_right _ h)))))))))
theorem inX2 : ∀ w ∈ wsX20, w ∈ lw_tbl := fun w h => wsL_law_in w (inlX2 w h)
theorem inlX3 : ∀ w ∈ wsX30, w ∈ wsL_law := fun _ h => List.mem_append_left _ (List.mem_append_left _ (List.mem_append_left _ (List.mem_append_left _ (List.mem_append_left _ (List.mem_append_left _ (List.mem_append_left _ (List.mem_append_left _ (List.mem_append_right _ h))))))))
theorem inX3 : ∀ w ∈ wsX30, w ∈ lw_tbl := fun w h => wsL_law_in w (inlX3 w h)
theorem inlX4 : ∀ w ∈ wsX40, w ∈ wsL_law := fun _ h => List.mem_append_left _ (List.mem_append_left _ (List.mem_append_left _ (List.mem_append_left _ (List.mem_append_left _ (List.mem_append_right _ h)))))
theorem inX4 : ∀ w ∈ wsX40, w ∈ lw_tbl := fun w h => wsL_law_in w (inlX4 w h)
theorem inlX5 : ∀ w ∈ wsX50, w ∈ wsL_law := fun _ h => List.mem_append_left _ (List.mem_append_left _ (List.mem_append_left _ (List.mem_append_right _ h)))
theorem inX5 : ∀ w ∈ wsX50, w ∈ lw_tbl := fun w h => wsL_law_in w (inlX5 w h)
theorem inlX6 : ∀ w ∈ wsX60, w ∈ wsL_law := fun _ h => List.mem_append_left _ (List.mem_append_left _ (List.mem_append_left _ (List.mem_append_left _ (List.mem_append_left _ (List.mem_append_left _ (List.mem_append_right _ h))))))
theorem inX6 : ∀ w ∈ wsX60, w ∈ lw_tbl := fun w h => wsL_law_in w (inlX6 w h)
theorem inlX7 : ∀ w ∈ wsX70, w ∈ wsL_law := fun _ h => List.mem_append_left _ (List.mem_append_left _ (List.mem_append_right _ h))
theorem inX7 : ∀ w ∈ wsX70, w ∈ lw_tbl := fun w h => wsL_law_in w (inlX7 w h)
theorem inlX8 : ∀ w ∈ wsX80, w ∈ wsL_law := fun _ h => List.mem_append_left _ (List.mem_append_left _ (List.mem_append_left _ (List.mem_append_left _ (List.mem_append_right _ h))))
theorem inX8 : ∀ w ∈ wsX80, w ∈ lw_tbl := fun w h => wsL_law_in w (inlX8 w h)
theorem inlX9 : ∀ w ∈ wsX90, w ∈ wsL_law := fun _ h => List.mem_append_left _ (List.mem_append_left _ (List.mem_append_left _ (List.mem_append_left _ (List.mem_append_left _ (List.mem_append_left _ (List.mem_append_left _ (List.mem_append_left _ (List.mem_append_left _ (List.mem_append_left _ (List.mem_append_right _ h))))))))))
theorem inX9 : ∀ w ∈ wsX90, w ∈ lw_tbl := fun w h => wsL_law_in w (inlX9 w h)
theorem inlX10 : ∀ w ∈ wsX100, w ∈ wsL_law := fun _ h => List.mem_append_left _ (List.mem_append_left _ (List.mem_append_left _ (List.mem_append_left _ (List.mem_append_left _ (List.mem_append_left _ (List.mem_append_left _ (List.mem_append_left _ (List.mem_append_left _ (List.mem_append_left _ (List.mem_append_left _ (List.mem_append_right _ h)))))))))))
theorem inX10 : ∀ w ∈ wsX100, w ∈ lw_tbl := fun w h => wsL_law_in w (inlX10 w h)
theorem inlX11 : ∀ w ∈ wsX110, w ∈ wsL_law := fun _ h => List.mem_append_left _ (List.mem_append_left _ (List.mem_append_left _ (List.mem_append_left _ (List.mem_append_left _ (List.mem_append_left _ (List.mem_append_left _ (List.mem_append_left _ (List.mem_append_left _ (List.mem_append_left _ (List.mem_append_left _ (List.mem_append_left _ (List.mem_append_left _ (List.mem_append_right _ h)))))))))))))
theorem inX11 : ∀ w ∈ wsX110, w ∈ lw_tbl := fun w h => wsL_law_in w (inlX11 w h)
theorem inlX12 : ∀ w ∈ wsX120, w ∈ wsL_law := fun _ h => List.mem_append_left _ (List.mem_append_left _ (List.mem_append_left _ (List.mem_append_left _ (List.mem_append_left _ (List.mem_append_left _ (List.mem_append_left _ (List.mem_append_left _ (List.mem_append_left _ (List.mem_append_left _ (List.mem_append_left _ (List.mem_append_left _ (List.mem_append_right _ h))))))))))))
theorem inX12 : ∀ w ∈ wsX120, w ∈ lw_tbl := fun w h => wsL_law_in w (inlX12 w h)
set_option maxRecDepth 20000 in
theorem ggL_law_X11_init : GoodIn wsL_law wsX11_init := goodIn_r _ [8, 9, 10, 11, 12, 13, 14, 15, 16, 17, 18, 19, 20, 21, 22, 23, 24, 25, 26, 27, 28, 29, 30, 31, 32, 33, 34, 35, 36, 37, 38, 39, 40, 41, 42, 43, 44, 45, 46, 47, 48, 49, 50, 51, 52, 53, 54, 55, 56, 57, 58, 59, 60, 61, 62, 63, 64, 65, 66, 67, 68, 69, 70, 71, 72, 73, 74, 75, 76, 77, 78, 79, 80, 81, 82, 83, 84, 85, 86, 87, 88, 89, 90, 91, 92, 93, 94, 95, 96, 97, 98, 99, 100, 101, 102, 103, 104, 105, 106, 107, 108, 109, 110, 111, 112, 113, 114, 115, 116, 117, 118, 119, 120, 121, 122, 123, 124, 125, 126, 127, 128, 129, 130, 131, 132, 133, 134, 135, 136, 137, 138, 139, 140, 141, 142, 143, 1610, 1611, 1612, 1613, 1614, 1615, 1616, 1617, 1618, 1619, 1620, 1621, 1622, 1623, 1624, 1625, 1626, 1627, 1628, 1550, 1551, 1552, 1553, 1554, 1555, 1556, 1629, 1630, 1631, 1632, 1633, 1634, 1635, 1636, 1637, 1638, 1639, 1640, 1641, 1642, 1643, 1644, 1645, 1646, 1647, 1648, 1649, 1650, 1651, 1652, 1653, 1654, 1655, 1656, 1657, 1658, 1659, 1660, 1661, 1662, 1663, 1664, 1665, 1666, 1667, 1668, 1669, 1670, 1671, 1672, 1673, 1674, 1675, 1676, 1677, 1678, 1679, 1680, 1681, 1682, 1683, 1684, 1685, 1686, 1687, 1688, 1689, 1690, 1691, 1692, 1693, 1694, 1695, 1696, 1697, 1698, 1699, 1700, 1701, 1702, 1703, 1704, 1705, 1706, 1707] (by decide +kernel) (by decide +kernel)
set_option maxRecDepth 20000 in
theorem ggL_law_X12_init : GoodIn wsL_law wsX12_init := goodIn_r _ [146, 147, 10, 11, 39, 148, 149, 150, 151, 152, 82, 153, 154, 155, 156, 157, 158, 159, 160, 161, 162, 163, 164, 165, 166, 167, 168, 169, 170, 171, 172, 173, 174, 1557, 1558, 1559, 1560, 1561, 1562, 1563, 1564, 1565, 1566, 1567, 1568, 1569, 1570, 1571, 1572, 1573, 1574, 1575, 1576, 1577, 1578, 1579, 1580, 1581, 1582, 1583, 1584, 1585, 1586, 1587, 1588, 1589, 1590, 1591, 1592, 1593, 1594, 1595, 1596, 1597, 1598, 1599, 1600, 1601, 1602, 1603, 1604, 1605, 1606, 1607, 1608, 1609] (by decide +kernel) (by decide +kernel)
set_option maxRecDepth 20000 in
theorem ggL_law_X11_terminal : GoodIn wsL_law wsX11_terminal := goodIn_r _ [178, 179, 15, 180, 181, 2, 182, 183, 184, 185, 186, 187, 188, 189, 190, 62, 191, 192, 193, 194, 70, 71, 72, 87, 195, 196, 88, 197, 198, 199, 200, 201, 202, 203, 204, 1550, 1551, 1552, 1553, 1554, 1555, 1556, 1610, 1611, 1612, 1613, 1614, 1615, 1616, 1617, 1618, 1619, 1620, 1621, 1622, 1623, 1624, 1625, 1626, 1627, 1628, 1677, 1678, 1679, 1680, 1681, 1682, 1683] (by decide +kernel) (by decide +kernel)
set_option maxRecDepth 20000 in
theorem gL_law_X11_terminal : GoodIn wsL_law (wsV RL 13 RX11 yX11_terminal wsX11_terminal) := goodIn_app (goodIn_of _ (by decide +kernel)) ggL_law_X11_terminal
set_option maxRecDepth 20000 in
theorem ggL_law_X12_terminal : GoodIn wsL_law wsX12_terminal := goodIn_r _ [208, 209, 210, 211, 212, 148, 213, 214, 5, 215, 216, 217, 218, 219, 220, 221, 222, 223, 224, 225, 226, 227, 1557, 1558, 1559, 1560, 1561, 1562, 1563, 1564, 1565, 1566, 1567, 1568, 1569, 1570, 1571, 1572, 1573, 1574, 1575, 1576, 1577, 1578, 1579, 1580, 1581, 1582, 1583, 1584, 1585, 1586, 1587, 1588, 1589, 1590, 1591, 1592, 1593, 1594, 1595, 1596, 1597, 1598, 1599, 1600, 1601, 1602, 1603, 1604, 1605, 1606, 1607, 1608, 1609] (by decide +kernel) (by decide +kernel)
set_option maxRecDepth 20000 in
theorem gL_law_X12_terminal : GoodIn wsL_law (wsV RL 17 RX12 yX12_terminal wsX12_terminal) := goodIn_app (goodIn_of _ (by decide +kernel)) ggL_law_X12_terminal
set_option maxRecDepth 20000 in
theorem ggL_law_X11_ship : GoodIn wsL_law wsX11_ship := goodIn_r _ [231, 232, 15, 180, 181, 2, 182, 183, 184, 185, 186, 187, 233, 234, 235, 14, 236, 237, 238, 239, 240, 64, 241, 96, 242, 243, 244, 245, 246, 247, 248, 99, 101, 249, 250, 251, 95, 252, 253, 70, 71, 72, 106, 254, 255, 256, 107, 257, 198, 199, 200, 258, 259, 260, 261, 262, 263, 264, 265, 266, 100, 201, 202, 203, 204, 1550, 1551, 1552, 1553, 1554, 1555, 1556, 1610, 1611, 1612, 1613, 1614, 1615, 1616, 1617, 1618, 1619, 1620, 1621, 1622, 1623, 1624, 1625, 1626, 1627, 1628, 1684, 1685, 1686, 1687, 1688, 1689, 1690, 1691, 1692, 1693, 1694, 1695, 1696, 1697, 1698, 1699, 1700, 1701, 1702, 1703, 1704, 1705, 1706, 1707] (by decide +kernel) (by decide +kernel)
set_option maxRecDepth 20000 in
theorem gL_law_X11_ship : GoodIn wsL_law (wsV RL 18 RX11 yX11_ship wsX11_ship) := goodIn_app (goodIn_of _ (by decide +kernel)) ggL_law_X11_ship
set_option maxRecDepth 20000 in
theorem ggL_law_X12_ship : GoodIn wsL_law wsX12_ship := goodIn_r _ [270, 209, 271, 272, 273, 148, 213, 214, 5, 215, 216, 217, 218, 219, 220, 274, 275, 276, 277, 278, 279, 280, 1557, 1558, 1559, 1560, 1561, 1562, 1563, 1564, 1565, 1566, 1567, 1568, 1569, 1570, 1571, 1572, 1573, 1574, 1575, 1576, 1577, 1578, 1579, 1580, 1581, 1582, 1583, 1584, 1585, 1586, 1587, 1588, 1589, 1590, 1591, 1592, 1593, 1594, 1595, 1596, 1597, 1598, 1599, 1600, 1601, 1602, 1603, 1604, 1605, 1606, 1607, 1608, 1609] (by decide +kernel) (by decide +kernel)
set_option maxRecDepth 20000 in
theorem gL_law_X12_ship : GoodIn wsL_law (wsV RL 22 RX12 yX12_ship wsX12_ship) := goodIn_app (goodIn_of _ (by decide +kernel)) ggL_law_X12_ship
set_option maxRecDepth 20000 in
theorem ggL_law_X11_way : GoodIn wsL_law wsX11_way := goodIn_r _ [284, 15, 180, 181, 2, 182, 183, 184, 185, 186, 187, 233, 234, 235, 14, 236, 237, 285, 286, 287, 62, 288, 88, 89, 201, 202, 203, 204, 1550, 1551, 1552, 1553, 1554, 1555, 1556, 1610, 1611, 1612, 1613, 1614, 1615, 1616, 1617, 1618, 1619, 1620, 1621, 1622, 1623, 1624, 1625, 1626, 1627, 1628, 1677, 1678, 1679, 1680, 1681, 1682, 1683] (by decide +kernel) (by decide +kernel)
set_option maxRecDepth 20000 in
theorem gL_law_X11_way : GoodIn wsL_law (wsV RL 23 RX11 yX11_way wsX11_way) := goodIn_app (goodIn_of _ (by decide +kernel)) ggL_law_X11_way
set_option maxRecDepth 20000 in
theorem ggL_law_X12_way : GoodIn wsL_law wsX12_way := goodIn_r _ [292, 209, 293, 148, 213, 214, 5, 215, 216, 217, 218, 219, 220, 274, 275, 276, 277, 1557, 1558, 1559, 1560, 1561, 1562, 1563, 1564, 1565, 1566, 1567, 1568, 1569, 1570, 1571, 1572, 1573, 1574, 1575, 1576, 1577, 1578, 1579, 1580, 1581, 1582, 1583, 1584, 1585, 1586, 1587, 1588, 1589, 1590, 1591, 1592, 1593, 1594, 1595, 1596, 1597, 1598, 1599, 1600, 1601, 1602, 1603, 1604, 1605, 1606, 1607, 1608, 1609] (by decide +kernel) (by decide +kernel)
set_option maxRecDepth 20000 in
theorem gL_law_X12_way : GoodIn wsL_law (wsV RL 27 RX12 yX12_way wsX12_way) := goodIn_app (goodIn_of _ (by decide +kernel)) ggL_law_X12_way
set_option maxRecDepth 20000 in
theorem ggL_law_X11_tide : GoodIn wsL_law wsX11_tide := goodIn_r _ [297, 15, 180, 181, 2, 182, 183, 184, 185, 186, 187, 201, 202, 203, 204, 1550, 1551, 1552, 1553, 1554, 1555, 1556, 1610, 1611, 1612, 1613, 1614, 1615, 1616, 1617, 1618, 1619, 1620, 1621, 1622, 1623, 1624, 1625, 1626, 1627, 1628] (by decide +kernel) (by decide +kernel)
set_option maxRecDepth 20000 in
theorem gL_law_X11_tide : GoodIn wsL_law (wsV RL 28 RX11 yX11_tide wsX11_tide) := goodIn_app (goodIn_of _ (by decide +kernel)) ggL_law_X11_tide
set_option maxRecDepth 20000 in
theorem ggL_law_X12_tide : GoodIn wsL_law wsX12_tide := goodIn_r _ [301, 209, 302, 303, 148, 213, 214, 5, 215, 216, 217, 218, 219, 220, 1557, 1558, 1559, 1560, 1561, 1562, 1563, 1564, 1565, 1566, 1567, 1568, 1569, 1570, 1571, 1572, 1573, 1574, 1575, 1576, 1577, 1578, 1579, 1580, 1581, 1582, 1583, 1584, 1585, 1586, 1587, 1588, 1589, 1590, 1591, 1592, 1593, 1594, 1595, 1596, 1597, 1598, 1599, 1600, 1601, 1602, 1603, 1604, 1605, 1606, 1607, 1608, 1609] (by decide +kernel) (by decide +kernel)
set_option maxRecDepth 20000 in
theorem gL_law_X12_tide : GoodIn wsL_law (wsV RL 32 RX12 yX12_tide wsX12_tide) := goodIn_app (goodIn_of _ (by decide +kernel)) ggL_law_X12_tide
set_option maxRecDepth 20000 in
theorem ggL_law_X11_sea : GoodIn wsL_law wsX11_sea := goodIn_r _ [307, 15, 180, 181, 2, 182, 183, 184, 185, 186, 187, 201, 202, 203, 204, 1550, 1551, 1552, 1553, 1554, 1555, 1556, 1610, 1611, 1612, 1613, 1614, 1615, 1616, 1617, 1618, 1619, 1620, 1621, 1622, 1623, 1624, 1625, 1626, 1627, 1628] (by decide +kernel) (by decide +kernel)
set_option maxRecDepth 20000 in
theorem gL_law_X11_sea : GoodIn wsL_law (wsV RL 33 RX11 yX11_sea wsX11_sea) := goodIn_app (goodIn_of _ (by decide +kernel)) ggL_law_X11_sea
set_option maxRecDepth 20000 in
theorem ggL_law_X12_sea : GoodIn wsL_law wsX12_sea := goodIn_r _ [311, 209, 303, 148, 312, 313, 5, 314, 315, 213, 214, 215, 216, 217, 218, 219, 220, 1557, 1558, 1559, 1560, 1561, 1562, 1563, 1564, 1565, 1566, 1567, 1568, 1569, 1570, 1571, 1572, 1573, 1574, 1575, 1576, 1577, 1578, 1579, 1580, 1581, 1582, 1583, 1584, 1585, 1586, 1587, 1588, 1589, 1590, 1591, 1592, 1593, 1594, 1595, 1596, 1597, 1598, 1599, 1600, 1601, 1602, 1603, 1604, 1605, 1606, 1607, 1608, 1609] (by decide +kernel) (by decide +kernel)
set_option maxRecDepth 20000 in
theorem gL_law_X12_sea : GoodIn wsL_law (wsV RL 36 RX12 yX12_sea wsX12_sea) := goodIn_app (goodIn_of _ (by decide +kernel)) ggL_law_X12_sea
set_option maxRecDepth 20000 in
theorem ggL_law_X11_slot : GoodIn wsL_law wsX11_slot := goodIn_r _ [319, 15, 320, 321, 2, 322, 323, 324, 325, 180, 181, 182, 183, 184, 185, 186, 187, 233, 234, 235, 14, 236, 237, 326, 327, 328, 329, 330, 331, 332, 333, 334, 335, 336, 50, 337, 338, 74, 73, 75, 339, 340, 341, 342, 343, 344, 345, 346, 201, 202, 203, 204, 1550, 1551, 1552, 1553, 1554, 1555, 1556, 1610, 1611, 1612, 1613, 1614, 1615, 1616, 1617, 1618, 1619, 1620, 1621, 1622, 1623, 1624, 1625, 1626, 1627, 1628, 1670, 1671, 1672, 1673] (by decide +kernel) (by decide +kernel)
set_option maxRecDepth 20000 in
theorem gL_law_X11_slot : GoodIn wsL_law (wsV RL 37 RX11 yX11_slot wsX11_slot) := goodIn_app (goodIn_of _ (by decide +kernel)) ggL_law_X11_slot
set_option maxRecDepth 20000 in
theorem ggL_law_X12_slot : GoodIn wsL_law wsX12_slot := goodIn_r _ [350, 209, 148, 351, 352, 5, 353, 354, 213, 214, 215, 216, 217, 218, 219, 220, 274, 275, 276, 277, 355, 356, 357, 358, 224, 225, 226, 227, 1557, 1558, 1559, 1560, 1561, 1562, 1563, 1564, 1565, 1566, 1567, 1568, 1569, 1570, 1571, 1572, 1573, 1574, 1575, 1576, 1577, 1578, 1579, 1580, 1581, 1582, 1583, 1584, 1585, 1586, 1587, 1588, 1589, 1590, 1591, 1592, 1593, 1594, 1595, 1596, 1597, 1598, 1599, 1600, 1601, 1602, 1603, 1604, 1605, 1606, 1607, 1608, 1609] (by decide +kernel) (by decide +kernel)
set_option maxRecDepth 20000 in
theorem gL_law_X12_slot : GoodIn wsL_law (wsV RL 40 RX12 yX12_slot wsX12_slot) := goodIn_app (goodIn_of _ (by decide +kernel)) ggL_law_X12_slot
set_option maxRecDepth 20000 in
theorem ggL_law_X11_broken : GoodIn wsL_law wsX11_broken := goodIn_r _ [362, 15, 320, 321, 2, 322, 323, 324, 325, 180, 181, 182, 183, 184, 185, 186, 187, 233, 234, 235, 14, 236, 237, 339, 340, 341, 50, 342, 338, 73, 74, 75, 343, 344, 345, 346, 201, 202, 203, 204, 1550, 1551, 1552, 1553, 1554, 1555, 1556, 1610, 1611, 1612, 1613, 1614, 1615, 1616, 1617, 1618, 1619, 1620, 1621, 1622, 1623, 1624, 1625, 1626, 1627, 1628, 1670, 1671, 1672, 1673] (by decide +kernel) (by decide +kernel)
set_option maxRecDepth 20000 in
theorem gL_law_X11_broken : GoodIn wsL_law (wsV RL 41 RX11 yX11_broken wsX11_broken) := goodIn_app (goodIn_of _ (by decide +kernel)) ggL_law_X11_broken
set_option maxRecDepth 20000 in
theorem ggL_law_X12_broken : GoodIn wsL_law wsX12_broken := goodIn_r _ [366, 209, 148, 351, 352, 5, 353, 354, 213, 214, 215, 216, 217, 218, 219, 220, 274, 275, 276, 277, 1557, 1558, 1559, 1560, 1561, 1562, 1563, 1564, 1565, 1566, 1567, 1568, 1569, 1570, 1571, 1572, 1573, 1574, 1575, 1576, 1577, 1578, 1579, 1580, 1581, 1582, 1583, 1584, 1585, 1586, 1587, 1588, 1589, 1590, 1591, 1592, 1593, 1594, 1595, 1596, 1597, 1598, 1599, 1600, 1601, 1602, 1603, 1604, 1605, 1606, 1607, 1608, 1609] (by decide +kernel) (by decide +kernel)
set_option maxRecDepth 20000 in
theorem gL_law_X12_broken : GoodIn wsL_law (wsV RL 44 RX12 yX12_broken wsX12_broken) := goodIn_app (goodIn_of _ (by decide +kernel)) ggL_law_X12_broken
set_option maxRecDepth 20000 in
theorem ggL_law_X11_terms : GoodIn wsL_law wsX11_terms := goodIn_r _ [370, 15, 180, 181, 2, 182, 183, 184, 185, 186, 187, 201, 202, 203, 204, 1550, 1551, 1552, 1553, 1554, 1555, 1556, 1610, 1611, 1612, 1613, 1614, 1615, 1616, 1617, 1618, 1619, 1620, 1621, 1622, 1623, 1624, 1625, 1626, 1627, 1628] (by decide +kernel) (by decide +kernel)
set_option maxRecDepth 20000 in
theorem gL_law_X11_terms : GoodIn wsL_law (wsV RL 45 RX11 yX11_terms wsX11_terms) := goodIn_app (goodIn_of _ (by decide +kernel)) ggL_law_X11_terms
set_option maxRecDepth 20000 in
theorem ggL_law_X12_terms : GoodIn wsL_law wsX12_terms := goodIn_r _ [374, 209, 375, 271, 148, 213, 214, 5, 215, 216, 217, 218, 219, 220, 1557, 1558, 1559, 1560, 1561, 1562, 1563, 1564, 1565, 1566, 1567, 1568, 1569, 1570, 1571, 1572, 1573, 1574, 1575, 1576, 1577, 1578, 1579, 1580, 1581, 1582, 1583, 1584, 1585, 1586, 1587, 1588, 1589, 1590, 1591, 1592, 1593, 1594, 1595, 1596, 1597, 1598, 1599, 1600, 1601, 1602, 1603, 1604, 1605, 1606, 1607, 1608, 1609] (by decide +kernel) (by decide +kernel)
set_option maxRecDepth 20000 in
theorem gL_law_X12_terms : GoodIn wsL_law (wsV RL 48 RX12 yX12_terms wsX12_terms) := goodIn_app (goodIn_of _ (by decide +kernel)) ggL_law_X12_terms
set_option maxRecDepth 20000 in
theorem ggL_law_X11_order : GoodIn wsL_law wsX11_order := goodIn_r _ [379, 15, 380, 381, 2, 382, 232, 180, 181, 182, 323, 324, 325, 183, 184, 185, 186, 187, 326, 327, 328, 14, 329, 330, 233, 234, 235, 236, 237, 383, 384, 385, 64, 386, 247, 97, 98, 201, 202, 203, 204, 1550, 1551, 1552, 1553, 1554, 1555, 1556, 1610, 1611, 1612, 1613, 1614, 1615, 1616, 1617, 1618, 1619, 1620, 1621, 1622, 1623, 1624, 1625, 1626, 1627, 1628, 1684, 1685, 1686, 1687, 1688, 1689, 1690, 1691, 1692, 1693, 1694, 1695, 1696, 1697, 1698, 1699, 1700] (by decide +kernel) (by decide +kernel)
set_option maxRecDepth 20000 in
theorem gL_law_X11_order : GoodIn wsL_law (wsV RL 49 RX11 yX11_order wsX11_order) := goodIn_app (goodIn_of _ (by decide +kernel)) ggL_law_X11_order
set_option maxRecDepth 20000 in
theorem ggL_law_X12_order : GoodIn wsL_law wsX12_order := goodIn_r _ [390, 209, 391, 272, 148, 213, 214, 5, 215, 351, 352, 353, 354, 216, 217, 218, 219, 220, 355, 356, 357, 358, 274, 275, 276, 277, 278, 279, 280, 392, 393, 394, 395, 1557, 1558, 1559, 1560, 1561, 1562, 1563, 1564, 1565, 1566, 1567, 1568, 1569, 1570, 1571, 1572, 1573, 1574, 1575, 1576, 1577, 1578, 1579, 1580, 1581, 1582, 1583, 1584, 1585, 1586, 1587, 1588, 1589, 1590, 1591, 1592, 1593, 1594, 1595, 1596, 1597, 1598, 1599, 1600, 1601, 1602, 1603, 1604, 1605, 1606, 1607, 1608, 1609] (by decide +kernel) (by decide +kernel)
set_option maxRecDepth 20000 in
theorem gL_law_X12_order : GoodIn wsL_law (wsV RL 52 RX12 yX12_order wsX12_order) := goodIn_app (goodIn_of _ (by decide +kernel)) ggL_law_X12_order
set_option maxRecDepth 20000 in
theorem ggL_law_X11_go : GoodIn wsL_law wsX11_go := goodIn_r _ [399, 15, 20, 180, 181, 2, 182, 183, 184, 185, 186, 187, 400, 401, 402, 19, 403, 114, 404, 405, 406, 324, 325, 407, 408, 409, 410, 411, 412, 413, 95, 414, 254, 415, 416, 417, 418, 419, 255, 420, 421, 422, 423, 107, 108, 109, 424, 425, 426, 427, 428, 429, 430, 431, 432, 256, 433, 434, 71, 435, 106, 436, 437, 438, 439, 440, 441, 442, 443, 444, 445, 64, 446, 96, 246, 99, 447, 448, 449, 450, 451, 452, 453, 454, 455, 456, 457, 14, 458, 43, 459, 234, 235, 236, 237, 460, 461, 462, 463, 247, 97, 464, 465, 466, 467, 98, 468, 469, 470, 471, 472, 473, 474, 475, 476, 332, 333, 477, 478, 479, 480, 481, 335, 336, 50, 337, 338, 74, 73, 75, 482, 483, 484, 485, 486, 70, 72, 487, 488, 489, 490, 491, 492, 493, 494, 495, 496, 497, 498, 499, 500, 501, 502, 503, 504, 100, 266, 505, 506, 507, 508, 509, 510, 511, 512, 513, 514, 515, 56, 516, 517, 81, 83, 518, 519, 199, 520, 521, 522, 523, 524, 525, 526, 527, 528, 529, 530, 531, 532, 263, 264, 265, 261, 198, 200, 533, 534, 535, 536, 537, 253, 538, 539, 540, 541, 201, 202, 203, 204, 1550, 1551, 1552, 1553, 1554, 1555, 1556, 1610, 1611, 1612, 1613, 1614, 1615, 1616, 1617, 1618, 1619, 1620, 1621, 1622, 1623, 1624, 1625, 1626, 1627, 1628, 1629, 1630, 1631, 1632, 1684, 1685, 1686, 1687, 1688, 1689, 1690, 1691, 1692, 1693, 1694, 1695, 1696, 1697, 1698, 1699, 1700, 1701, 1702, 1703, 1704, 1705, 1706, 1707, 1677, 1678, 1679, 1680, 1681, 1682, 1683, 1670, 1671, 1672, 1673, 1674, 1675, 1676] (by decide +kernel) (by decide +kernel)
set_option maxRecDepth 20000 in
theorem gL_law_X11_go : GoodIn wsL_law (wsV RL 53 RX11 yX11_go wsX11_go) := goodIn_app (goodIn_of _ (by decide +kernel)) ggL_law_X11_go
set_option maxRecDepth 20000 in
theorem ggL_law_X12_go : GoodIn wsL_law wsX12_go := goodIn_r _ [545, 209, 546, 148, 547, 213, 214, 5, 215, 216, 217, 218, 219, 220, 548, 549, 550, 551, 552, 271, 278, 279, 280, 553, 554, 555, 556, 152, 153, 557, 558, 559, 560, 561, 562, 563, 564, 565, 566, 567, 568, 569, 570, 571, 572, 573, 574, 575, 576, 577, 392, 393, 394, 395, 578, 579, 580, 581, 582, 583, 584, 585, 586, 587, 588, 589, 221, 222, 223, 590, 591, 592, 593, 594, 595, 596, 597, 598, 599, 600, 601, 602, 603, 604, 605, 606, 375, 607, 608, 609, 610, 611, 612, 613, 614, 615, 616, 617, 618, 619, 620, 621, 622, 224, 225, 226, 227, 623, 624, 625, 626, 1557, 1558, 1559, 1560, 1561, 1562, 1563, 1564, 1565, 1566, 1567, 1568, 1569, 1570, 1571, 1572, 1573, 1574, 1575, 1576, 1577, 1578, 1579, 1580, 1581, 1582, 1583, 1584, 1585, 1586, 1587, 1588, 1589, 1590, 1591, 1592, 1593, 1594, 1595, 1596, 1597, 1598, 1599, 1600, 1601, 1602, 1603, 1604, 1605, 1606, 1607, 1608, 1609] (by decide +kernel) (by decide +kernel)
set_option maxRecDepth 20000 in
theorem gL_law_X12_go : GoodIn wsL_law (wsV RL 57 RX12 yX12_go wsX12_go) := goodIn_app (goodIn_of _ (by decide +kernel)) ggL_law_X12_go
set_option maxRecDepth 20000 in
theorem ggL_law_X11_of : GoodIn wsL_law wsX11_of := goodIn_r _ [630, 15, 326, 327, 328, 14, 329, 330, 631, 632, 633, 95, 634, 255, 537, 538, 539, 540, 541, 106, 254, 253, 70, 71, 72, 635, 636, 637, 64, 638, 247, 97, 98, 639, 478, 479, 480, 1550, 1551, 1552, 1553, 1554, 1555, 1556, 1610, 1611, 1612, 1613, 1614, 1615, 1616, 1617, 1618, 1619, 1620, 1621, 1622, 1623, 1624, 1625, 1626, 1627, 1628, 1684, 1685, 1686, 1687, 1688, 1689, 1690, 1691, 1692, 1693, 1694, 1695, 1696, 1697, 1698, 1699, 1700, 1701, 1702, 1703, 1704, 1705, 1706, 1707] (by decide +kernel) (by decide +kernel)
set_option maxRecDepth 20000 in
theorem gL_law_X11_of : GoodIn wsL_law (wsV RL 58 RX11 yX11_of wsX11_of) := goodIn_app (goodIn_of _ (by decide +kernel)) ggL_law_X11_of
set_option maxRecDepth 20000 in
theorem ggL_law_X12_of : GoodIn wsL_law wsX12_of := goodIn_r _ [643, 209, 148, 355, 356, 357, 5, 358, 213, 214, 215, 278, 279, 280, 644, 645, 646, 647, 271, 623, 624, 625, 626, 590, 591, 592, 593, 594, 1557, 1558, 1559, 1560, 1561, 1562, 1563, 1564, 1565, 1566, 1567, 1568, 1569, 1570, 1571, 1572, 1573, 1574, 1575, 1576, 1577, 1578, 1579, 1580, 1581, 1582, 1583, 1584, 1585, 1586, 1587, 1588, 1589, 1590, 1591, 1592, 1593, 1594, 1595, 1596, 1597, 1598, 1599, 1600, 1601, 1602, 1603, 1604, 1605, 1606, 1607, 1608, 1609] (by decide +kernel) (by decide +kernel)
set_option maxRecDepth 20000 in
theorem gL_law_X12_of : GoodIn wsL_law (wsV RL 61 RX12 yX12_of wsX12_of) := goodIn_app (goodIn_of _ (by decide +kernel)) ggL_law_X12_of
set_option maxRecDepth 20000 in
theorem ggL_law_X11_part : GoodIn wsL_law wsX11_part := goodIn_r _ [651, 15, 326, 327, 328, 14, 329, 330, 233, 234, 235, 236, 237, 1550, 1551, 1552, 1553, 1554, 1555, 1556, 1610, 1611, 1612, 1613, 1614, 1615, 1616, 1617, 1618, 1619, 1620, 1621, 1622, 1623, 1624, 1625, 1626, 1627, 1628, 1684, 1685, 1686, 1687, 1688, 1689, 1690, 1691, 1692, 1693, 1694, 1695, 1696, 1697, 1698, 1699, 1700, 1701, 1702, 1703, 1704, 1705, 1706, 1707] (by decide +kernel) (by decide +kernel)
set_option maxRecDepth 20000 in
theorem gL_law_X11_part : GoodIn wsL_law (wsV RL 62 RX11 yX11_part wsX11_part) := goodIn_app (goodIn_of _ (by decide +kernel)) ggL_law_X11_part
set_option maxRecDepth 20000 in
theorem ggL_law_X12_part : GoodIn wsL_law wsX12_part := goodIn_r _ [655, 209, 148, 355, 356, 357, 5, 358, 213, 214, 215, 274, 275, 276, 277, 278, 279, 280, 1557, 1558, 1559, 1560, 1561, 1562, 1563, 1564, 1565, 1566, 1567, 1568, 1569, 1570, 1571, 1572, 1573, 1574, 1575, 1576, 1577, 1578, 1579, 1580, 1581, 1582, 1583, 1584, 1585, 1586, 1587, 1588, 1589, 1590, 1591, 1592, 1593, 1594, 1595, 1596, 1597, 1598, 1599, 1600, 1601, 1602, 1603, 1604, 1605, 1606, 1607, 1608, 1609] (by decide +kernel) (by decide +kernel)
set_option maxRecDepth 20000 in
theorem gL_law_X12_part : GoodIn wsL_law (wsV RL 65 RX12 yX12_part wsX12_part) := goodIn_app (goodIn_of _ (by decide +kernel)) ggL_law_X12_part
set_option maxRecDepth 20000 in
theorem ggL_law_X11_book : GoodIn wsL_law wsX11_book := goodIn_r _ [659, 15, 660, 326, 327, 328, 14, 329, 330, 180, 181, 2, 182, 1550, 1551, 1552, 1553, 1554, 1555, 1556, 1610, 1611, 1612, 1613, 1614, 1615, 1616, 1617, 1618, 1619, 1620, 1621, 1622, 1623, 1624, 1625, 1626, 1627, 1628, 1684, 1685, 1686, 1687, 1688, 1689, 1690, 1691, 1692, 1693, 1694, 1695, 1696, 1697, 1698, 1699, 1700] (by decide +kernel) (by decide +kernel)
set_option maxRecDepth 20000 in
theorem gL_law_X11_book : GoodIn wsL_law (wsV RL 66 RX11 yX11_book wsX11_book) := goodIn_app (goodIn_of _ (by decide +kernel)) ggL_law_X11_book
set_option maxRecDepth 20000 in
theorem ggL_law_X12_book : GoodIn wsL_law wsX12_book := goodIn_r _ [664, 209, 391, 148, 557, 355, 356, 357, 5, 358, 213, 214, 215, 278, 279, 280, 1557, 1558, 1559, 1560, 1561, 1562, 1563, 1564, 1565, 1566, 1567, 1568, 1569, 1570, 1571, 1572, 1573, 1574, 1575, 1576, 1577, 1578, 1579, 1580, 1581, 1582, 1583, 1584, 1585, 1586, 1587, 1588, 1589, 1590, 1591, 1592, 1593, 1594, 1595, 1596, 1597, 1598, 1599, 1600, 1601, 1602, 1603, 1604, 1605, 1606, 1607, 1608, 1609] (by decide +kernel) (by decide +kernel)
set_option maxRecDepth 20000 in
theorem gL_law_X12_book : GoodIn wsL_law (wsV RL 70 RX12 yX12_book wsX12_book) := goodIn_app (goodIn_of _ (by decide +kernel)) ggL_law_X12_book
set_option maxRecDepth 20000 in
theorem ggL_law_X11_store : GoodIn wsL_law wsX11_store := goodIn_r _ [668, 15, 233, 234, 235, 14, 236, 237, 1550, 1551, 1552, 1553, 1554, 1555, 1556, 1610, 1611, 1612, 1613, 1614, 1615, 1616, 1617, 1618, 1619, 1620, 1621, 1622, 1623, 1624, 1625, 1626, 1627, 1628, 1677, 1678, 1679, 1680, 1681, 1682, 1683] (by decide +kernel) (by decide +kernel)
set_option maxRecDepth 20000 in
theorem gL_law_X11_store : GoodIn wsL_law (wsV RL 71 RX11 yX11_store wsX11_store) := goodIn_app (goodIn_of _ (by decide +kernel)) ggL_law_X11_store
set_option maxRecDepth 20000 in
theorem ggL_law_X12_store : GoodIn wsL_law wsX12_store := goodIn_r _ [672, 209, 148, 274, 275, 276, 5, 277, 213, 214, 215, 221, 222, 223, 1557, 1558, 1559, 1560, 1561, 1562, 1563, 1564, 1565, 1566, 1567, 1568, 1569, 1570, 1571, 1572, 1573, 1574, 1575, 1576, 1577, 1578, 1579, 1580, 1581, 1582, 1583, 1584, 1585, 1586, 1587, 1588, 1589, 1590, 1591, 1592, 1593, 1594, 1595, 1596, 1597, 1598, 1599, 1600, 1601, 1602, 1603, 1604, 1605, 1606, 1607, 1608, 1609] (by decide +kernel) (by decide +kernel)
set_option maxRecDepth 20000 in
theorem gL_law_X12_store : GoodIn wsL_law (wsV RL 74 RX12 yX12_store wsX12_store) := goodIn_app (goodIn_of _ (by decide +kernel)) ggL_law_X12_store
set_option maxRecDepth 20000 in
theorem ggL_law_X11_landing : GoodIn wsL_law wsX11_landing := goodIn_r _ [676, 15, 677, 529, 530, 56, 531, 517, 678, 679, 680, 681, 682, 683, 684, 685, 81, 83, 686, 687, 688, 14, 689, 59, 43, 690, 691, 692, 693, 694, 695, 1550, 1551, 1552, 1553, 1554, 1555, 1556, 1610, 1611, 1612, 1613, 1614, 1615, 1616, 1617, 1618, 1619, 1620, 1621, 1622, 1623, 1624, 1625, 1626, 1627, 1628, 1674, 1675, 1676, 1677, 1678, 1679, 1680, 1681, 1682, 1683] (by decide +kernel) (by decide +kernel)
set_option maxRecDepth 20000 in
theorem gL_law_X11_landing : GoodIn wsL_law (wsV RL 75 RX11 yX11_landing wsX11_landing) := goodIn_app (goodIn_of _ (by decide +kernel)) ggL_law_X11_landing
set_option maxRecDepth 20000 in
theorem ggL_law_X12_landing : GoodIn wsL_law wsX12_landing := goodIn_r _ [699, 209, 700, 148, 701, 702, 703, 5, 704, 213, 214, 215, 705, 706, 707, 708, 709, 710, 711, 221, 222, 223, 1557, 1558, 1559, 1560, 1561, 1562, 1563, 1564, 1565, 1566, 1567, 1568, 1569, 1570, 1571, 1572, 1573, 1574, 1575, 1576, 1577, 1578, 1579, 1580, 1581, 1582, 1583, 1584, 1585, 1586, 1587, 1588, 1589, 1590, 1591, 1592, 1593, 1594, 1595, 1596, 1597, 1598, 1599, 1600, 1601, 1602, 1603, 1604, 1605, 1606, 1607, 1608, 1609] (by decide +kernel) (by decide +kernel)
set_option maxRecDepth 20000 in
theorem gL_law_X12_landing : GoodIn wsL_law (wsV RL 78 RX12 yX12_landing wsX12_landing) := goodIn_app (goodIn_of _ (by decide +kernel)) ggL_law_X12_landing
set_option maxRecDepth 20000 in
theorem ggL_law_X11_led : GoodIn wsL_law wsX11_led := goodIn_r _ [715, 15, 677, 529, 530, 56, 531, 517, 233, 234, 235, 14, 236, 237, 678, 679, 680, 681, 682, 683, 684, 685, 81, 83, 1550, 1551, 1552, 1553, 1554, 1555, 1556, 1610, 1611, 1612, 1613, 1614, 1615, 1616, 1617, 1618, 1619, 1620, 1621, 1622, 1623, 1624, 1625, 1626, 1627, 1628, 1674, 1675, 1676] (by decide +kernel) (by decide +kernel)
set_option maxRecDepth 20000 in
theorem gL_law_X11_led : GoodIn wsL_law (wsV RL 79 RX11 yX11_led wsX11_led) := goodIn_app (goodIn_of _ (by decide +kernel)) ggL_law_X11_led
set_option maxRecDepth 20000 in
theorem ggL_law_X12_led : GoodIn wsL_law wsX12_led := goodIn_r _ [719, 209, 148, 701, 702, 703, 5, 704, 213, 214, 215, 274, 275, 276, 277, 705, 706, 707, 1557, 1558, 1559, 1560, 1561, 1562, 1563, 1564, 1565, 1566, 1567, 1568, 1569, 1570, 1571, 1572, 1573, 1574, 1575, 1576, 1577, 1578, 1579, 1580, 1581, 1582, 1583, 1584, 1585, 1586, 1587, 1588, 1589, 1590, 1591, 1592, 1593, 1594, 1595, 1596, 1597, 1598, 1599, 1600, 1601, 1602, 1603, 1604, 1605, 1606, 1607, 1608, 1609] (by decide +kernel) (by decide +kernel)
set_option maxRecDepth 20000 in
theorem gL_law_X12_led : GoodIn wsL_law (wsV RL 82 RX12 yX12_led wsX12_led) := goodIn_app (goodIn_of _ (by decide +kernel)) ggL_law_X12_led
set_option maxRecDepth 20000 in
theorem ggL_law_X11_heat : GoodIn wsL_law wsX11_heat := goodIn_r _ [723, 15, 180, 181, 2, 182, 183, 184, 185, 186, 187, 233, 234, 235, 14, 236, 237, 201, 202, 203, 204, 1550, 1551, 1552, 1553, 1554, 1555, 1556, 1610, 1611, 1612, 1613, 1614, 1615, 1616, 1617, 1618, 1619, 1620, 1621, 1622, 1623, 1624, 1625, 1626, 1627, 1628, 1677, 1678, 1679, 1680, 1681, 1682, 1683] (by decide +kernel) (by decide +kernel)
set_option maxRecDepth 20000 in
theorem gL_law_X11_heat : GoodIn wsL_law (wsV RL 83 RX11 yX11_heat wsX11_heat) := goodIn_app (goodIn_of _ (by decide +kernel)) ggL_law_X11_heat
set_option maxRecDepth 20000 in
theorem ggL_law_X12_heat : GoodIn wsL_law wsX12_heat := goodIn_r _ [727, 209, 728, 729, 148, 213, 214, 5, 215, 216, 217, 218, 219, 220, 274, 275, 276, 277, 221, 222, 223, 1557, 1558, 1559, 1560, 1561, 1562, 1563, 1564, 1565, 1566, 1567, 1568, 1569, 1570, 1571, 1572, 1573, 1574, 1575, 1576, 1577, 1578, 1579, 1580, 1581, 1582, 1583, 1584, 1585, 1586, 1587, 1588, 1589, 1590, 1591, 1592, 1593, 1594, 1595, 1596, 1597, 1598, 1599, 1600, 1601, 1602, 1603, 1604, 1605, 1606, 1607, 1608, 1609] (by decide +kernel) (by decide +kernel)
set_option maxRecDepth 20000 in
theorem gL_law_X12_heat : GoodIn wsL_law (wsV RL 86 RX12 yX12_heat wsX12_heat) := goodIn_app (goodIn_of _ (by decide +kernel)) ggL_law_X12_heat
set_option maxRecDepth 20000 in
theorem ggL_law_X11_price : GoodIn wsL_law wsX11_price := goodIn_r _ [733, 15, 180, 181, 2, 182, 323, 324, 325, 183, 184, 185, 186, 187, 734, 514, 515, 56, 516, 517, 81, 83, 518, 519, 199, 520, 521, 522, 523, 735, 525, 526, 527, 528, 529, 530, 531, 201, 202, 203, 204, 1550, 1551, 1552, 1553, 1554, 1555, 1556, 1610, 1611, 1612, 1613, 1614, 1615, 1616, 1617, 1618, 1619, 1620, 1621, 1622, 1623, 1624, 1625, 1626, 1627, 1628, 1674, 1675, 1676] (by decide +kernel) (by decide +kernel)
set_option maxRecDepth 20000 in
theorem gL_law_X11_price : GoodIn wsL_law (wsV RL 87 RX11 yX11_price wsX11_price) := goodIn_app (goodIn_of _ (by decide +kernel)) ggL_law_X11_price
set_option maxRecDepth 20000 in
theorem ggL_law_X12_price : GoodIn wsL_law wsX12_price := goodIn_r _ [739, 209, 211, 148, 312, 313, 5, 314, 315, 213, 214, 215, 351, 352, 353, 354, 216, 217, 218, 219, 220, 1557, 1558, 1559, 1560, 1561, 1562, 1563, 1564, 1565, 1566, 1567, 1568, 1569, 1570, 1571, 1572, 1573, 1574, 1575, 1576, 1577, 1578, 1579, 1580, 1581, 1582, 1583, 1584, 1585, 1586, 1587, 1588, 1589, 1590, 1591, 1592, 1593, 1594, 1595, 1596, 1597, 1598, 1599, 1600, 1601, 1602, 1603, 1604, 1605, 1606, 1607, 1608, 1609] (by decide +kernel) (by decide +kernel)
set_option maxRecDepth 20000 in
theorem gL_law_X12_price : GoodIn wsL_law (wsV RL 90 RX12 yX12_price wsX12_price) := goodIn_app (goodIn_of _ (by decide +kernel)) ggL_law_X12_price
set_option maxRecDepth 20000 in
theorem ggL_law_X11_force : GoodIn wsL_law wsX11_force := goodIn_r _ [743, 15, 320, 321, 2, 322, 323, 324, 325, 180, 181, 182, 183, 184, 185, 186, 187, 339, 340, 341, 50, 342, 338, 73, 74, 75, 343, 344, 345, 346, 201, 202, 203, 204, 1550, 1551, 1552, 1553, 1554, 1555, 1556, 1610, 1611, 1612, 1613, 1614, 1615, 1616, 1617, 1618, 1619, 1620, 1621, 1622, 1623, 1624, 1625, 1626, 1627, 1628, 1670, 1671, 1672, 1673] (by decide +kernel) (by decide +kernel)
set_option maxRecDepth 20000 in
theorem gL_law_X11_force : GoodIn wsL_law (wsV RL 91 RX11 yX11_force wsX11_force) := goodIn_app (goodIn_of _ (by decide +kernel)) ggL_law_X11_force
set_option maxRecDepth 20000 in
theorem ggL_law_X12_force : GoodIn wsL_law wsX12_force := goodIn_r _ [747, 209, 148, 351, 352, 5, 353, 354, 213, 214, 215, 216, 217, 218, 219, 220, 1557, 1558, 1559, 1560, 1561, 1562, 1563, 1564, 1565, 1566, 1567, 1568, 1569, 1570, 1571, 1572, 1573, 1574, 1575, 1576, 1577, 1578, 1579, 1580, 1581, 1582, 1583, 1584, 1585, 1586, 1587, 1588, 1589, 1590, 1591, 1592, 1593, 1594, 1595, 1596, 1597, 1598, 1599, 1600, 1601, 1602, 1603, 1604, 1605, 1606, 1607, 1608, 1609] (by decide +kernel) (by decide +kernel)
set_option maxRecDepth 20000 in
theorem gL_law_X12_force : GoodIn wsL_law (wsV RL 94 RX12 yX12_force wsX12_force) := goodIn_app (goodIn_of _ (by decide +kernel)) ggL_law_X12_force
set_option maxRecDepth 20000 in
theorem ggL_law_X11_bill : GoodIn wsL_law wsX11_bill := goodIn_r _ [751, 232, 15, 660, 180, 181, 2, 182, 183, 184, 185, 186, 187, 677, 529, 530, 56, 531, 517, 752, 683, 684, 685, 81, 83, 735, 525, 526, 527, 528, 201, 202, 203, 204, 1550, 1551, 1552, 1553, 1554, 1555, 1556, 1610, 1611, 1612, 1613, 1614, 1615, 1616, 1617, 1618, 1619, 1620, 1621, 1622, 1623, 1624, 1625, 1626, 1627, 1628, 1674, 1675, 1676] (by decide +kernel) (by decide +kernel)
set_option maxRecDepth 20000 in
theorem gL_law_X11_bill : GoodIn wsL_law (wsV RL 95 RX11 yX11_bill wsX11_bill) := goodIn_app (goodIn_of _ (by decide +kernel)) ggL_law_X11_bill
set_option maxRecDepth 20000 in
theorem ggL_law_X12_bill : GoodIn wsL_law wsX12_bill := goodIn_r _ [756, 209, 272, 148, 213, 214, 5, 215, 216, 217, 218, 219, 220, 701, 702, 703, 704, 705, 706, 707, 1557, 1558, 1559, 1560, 1561, 1562, 1563, 1564, 1565, 1566, 1567, 1568, 1569, 1570, 1571, 1572, 1573, 1574, 1575, 1576, 1577, 1578, 1579, 1580, 1581, 1582, 1583, 1584, 1585, 1586, 1587, 1588, 1589, 1590, 1591, 1592, 1593, 1594, 1595, 1596, 1597, 1598, 1599, 1600, 1601, 1602, 1603, 1604, 1605, 1606, 1607, 1608, 1609] (by decide +kernel) (by decide +kernel)
set_option maxRecDepth 20000 in
theorem gL_law_X12_bill : GoodIn wsL_law (wsV RL 98 RX12 yX12_bill wsX12_bill) := goodIn_app (goodIn_of _ (by decide +kernel)) ggL_law_X12_bill
set_option maxRecDepth 20000 in
theorem ggL_law_X11_feed : GoodIn wsL_law wsX11_feed := goodIn_r _ [760, 24, 761, 762, 763, 23, 764, 765, 766, 767, 768, 769, 119, 1550, 1551, 1552, 1553, 1554, 1555, 1556, 1633, 1634, 1635, 1636, 1637, 1638, 1639, 1640, 1641, 1642, 1643, 1644, 1645, 1646, 1647, 1648] (by decide +kernel) (by decide +kernel)
set_option maxRecDepth 20000 in
theorem gL_law_X11_feed : GoodIn wsL_law (wsV RL 99 RX11 yX11_feed wsX11_feed) := goodIn_app (goodIn_of _ (by decide +kernel)) ggL_law_X11_feed
set_option maxRecDepth 20000 in
theorem ggL_law_X12_feed : GoodIn wsL_law wsX12_feed := goodIn_r _ [773, 209, 774, 775, 776, 777, 5, 778, 154, 1557, 1558, 1559, 1560, 1561, 1562, 1563, 1564, 1565, 1566, 1567, 1568, 1569, 1570, 1571, 1572, 1573, 1574, 1575, 1576, 1577, 1578, 1579, 1580, 1581, 1582, 1583, 1584, 1585, 1586, 1587, 1588, 1589, 1590, 1591, 1592, 1593, 1594, 1595, 1596, 1597, 1598, 1599, 1600, 1601, 1602, 1603, 1604, 1605, 1606, 1607, 1608, 1609] (by decide +kernel) (by decide +kernel)
set_option maxRecDepth 20000 in
theorem gL_law_X12_feed : GoodIn wsL_law (wsV RL 103 RX12 yX12_feed wsX12_feed) := goodIn_app (goodIn_of _ (by decide +kernel)) ggL_law_X12_feed
set_option maxRecDepth 20000 in
theorem ggL_law_X11_end : GoodIn wsL_law wsX11_end := goodIn_r _ [782, 24, 180, 181, 2, 182, 1550, 1551, 1552, 1553, 1554, 1555, 1556, 1633, 1634, 1635, 1636, 1637, 1638, 1639, 1640, 1641, 1642, 1643, 1644, 1645, 1646, 1647, 1648] (by decide +kernel) (by decide +kernel)
set_option maxRecDepth 20000 in
theorem gL_law_X11_end : GoodIn wsL_law (wsV RL 104 RX11 yX11_end wsX11_end) := goodIn_app (goodIn_of _ (by decide +kernel)) ggL_law_X11_end
set_option maxRecDepth 20000 in
theorem ggL_law_X12_end : GoodIn wsL_law wsX12_end := goodIn_r _ [786, 209, 774, 1557, 1558, 1559, 1560, 1561, 1562, 1563, 1564, 1565, 1566, 1567, 1568, 1569, 1570, 1571, 1572, 1573, 1574, 1575, 1576, 1577, 1578, 1579, 1580, 1581, 1582, 1583, 1584, 1585, 1586, 1587, 1588, 1589, 1590, 1591, 1592, 1593, 1594, 1595, 1596, 1597, 1598, 1599, 1600, 1601, 1602, 1603, 1604, 1605, 1606, 1607, 1608, 1609] (by decide +kernel) (by decide +kernel)
set_option maxRecDepth 20000 in
theorem gL_law_X12_end : GoodIn wsL_law (wsV RL 107 RX12 yX12_end wsX12_end) := goodIn_app (goodIn_of _ (by decide +kernel)) ggL_law_X12_end
set_option maxRecDepth 20000 in
theorem ggL_law_X11_contract : GoodIn wsL_law wsX11_contract := goodIn_r _ [790, 15, 24, 791, 792, 793, 23, 794, 795, 796, 797, 798, 799, 800, 801, 802, 803, 120, 122, 804, 805, 806, 121, 807, 808, 809, 810, 765, 119, 811, 812, 813, 814, 434, 71, 435, 815, 816, 817, 818, 819, 820, 821, 822, 823, 824, 825, 826, 827, 828, 829, 830, 831, 832, 833, 834, 835, 836, 837, 838, 839, 840, 841, 842, 843, 844, 845, 846, 847, 848, 849, 850, 851, 852, 853, 854, 855, 856, 857, 858, 859, 860, 861, 862, 863, 864, 865, 866, 867, 868, 869, 870, 871, 872, 873, 874, 875, 876, 877, 878, 879, 880, 881, 882, 883, 884, 885, 886, 887, 888, 889, 890, 891, 892, 893, 181, 2, 182, 894, 895, 896, 897, 898, 899, 900, 901, 902, 903, 904, 905, 906, 907, 908, 909, 910, 911, 912, 913, 914, 915, 916, 917, 918, 919, 920, 921, 922, 923, 924, 925, 926, 927, 928, 929, 930, 931, 932, 933, 934, 935, 936, 937, 938, 939, 940, 941, 942, 943, 944, 945, 946, 947, 948, 949, 950, 951, 952, 953, 954, 955, 956, 957, 958, 959, 960, 199, 961, 962, 963, 964, 965, 966, 967, 39, 968, 969, 465, 466, 467, 970, 971, 972, 973, 10, 11, 974, 975, 976, 977, 978, 979, 980, 981, 982, 183, 184, 185, 186, 187, 201, 202, 203, 204, 1550, 1551, 1552, 1553, 1554, 1555, 1556, 1610, 1611, 1612, 1613, 1614, 1615, 1616, 1617, 1618, 1619, 1620, 1621, 1622, 1623, 1624, 1625, 1626, 1627, 1628, 1633, 1634, 1635, 1636, 1637, 1638, 1639, 1640, 1641, 1642, 1643, 1644, 1645, 1646, 1647, 1648, 1708, 1709, 1710, 1711, 1712] (by decide +kernel) (by decide +kernel)
set_option maxRecDepth 20000 in
theorem gL_law_X11_contract : GoodIn wsL_law (wsV RL 108 RX11 yX11_contract wsX11_contract) := goodIn_app (goodIn_of _ (by decide +kernel)) ggL_law_X11_contract
set_option maxRecDepth 20000 in
theorem ggL_law_X12_contract : GoodIn wsL_law wsX12_contract := goodIn_r _ [986, 209, 148, 774, 987, 988, 989, 990, 991, 992, 993, 994, 995, 156, 157, 158, 216, 217, 218, 5, 219, 220, 996, 997, 998, 999, 1000, 155, 1001, 1002, 1003, 1004, 1005, 154, 1006, 1007, 1008, 557, 1009, 1010, 1011, 1012, 1013, 1014, 1015, 1016, 1017, 1018, 1019, 1020, 1021, 1022, 1023, 1024, 1025, 354, 1026, 1027, 1028, 1029, 1030, 1031, 1032, 1033, 1034, 1035, 1036, 1037, 1038, 1039, 1040, 213, 214, 215, 1041, 1042, 1043, 1044, 1045, 1046, 1047, 1048, 1049, 1050, 1051, 1052, 1053, 1054, 1055, 159, 160, 1056, 1057, 1058, 1059, 1060, 1061, 1062, 1063, 1064, 1065, 1066, 1067, 552, 1068, 1069, 1070, 1071, 1072, 1073, 1074, 1075, 1076, 1077, 1078, 1079, 1080, 1081, 1082, 1083, 1084, 1085, 1086, 1087, 1088, 1089, 1090, 1091, 1092, 1093, 1094, 1095, 1096, 1097, 1098, 1099, 1100, 1101, 1102, 1103, 1104, 1105, 1106, 1107, 1108, 1109, 1110, 1111, 224, 225, 226, 227, 1557, 1558, 1559, 1560, 1561, 1562, 1563, 1564, 1565, 1566, 1567, 1568, 1569, 1570, 1571, 1572, 1573, 1574, 1575, 1576, 1577, 1578, 1579, 1580, 1581, 1582, 1583, 1584, 1585, 1586, 1587, 1588, 1589, 1590, 1591, 1592, 1593, 1594, 1595, 1596, 1597, 1598, 1599, 1600, 1601, 1602, 1603, 1604, 1605, 1606, 1607, 1608, 1609] (by decide +kernel) (by decide +kernel)
set_option maxRecDepth 20000 in
theorem gL_law_X12_contract : GoodIn wsL_law (wsV RL 112 RX12 yX12_contract wsX12_contract) := goodIn_app (goodIn_of _ (by decide +kernel)) ggL_law_X12_contract
set_option maxRecDepth 20000 in
theorem ggL_law_X11_fault : GoodIn wsL_law wsX11_fault := goodIn_r _ [1115, 24, 1550, 1551, 1552, 1553, 1554, 1555, 1556, 1633, 1634, 1635, 1636, 1637, 1638, 1639, 1640, 1641, 1642, 1643, 1644, 1645, 1646, 1647, 1648] (by decide +kernel) (by decide +kernel)
set_option maxRecDepth 20000 in
theorem gL_law_X11_fault : GoodIn wsL_law (wsV RL 113 RX11 yX11_fault wsX11_fault) := goodIn_app (goodIn_of _ (by decide +kernel)) ggL_law_X11_fault
set_option maxRecDepth 20000 in
theorem ggL_law_X12_fault : GoodIn wsL_law wsX12_fault := goodIn_r _ [1119, 209, 155, 1557, 1558, 1559, 1560, 1561, 1562, 1563, 1564, 1565, 1566, 1567, 1568, 1569, 1570, 1571, 1572, 1573, 1574, 1575, 1576, 1577, 1578, 1579, 1580, 1581, 1582, 1583, 1584, 1585, 1586, 1587, 1588, 1589, 1590, 1591, 1592, 1593, 1594, 1595, 1596, 1597, 1598, 1599, 1600, 1601, 1602, 1603, 1604, 1605, 1606, 1607, 1608, 1609] (by decide +kernel) (by decide +kernel)
set_option maxRecDepth 20000 in
theorem gL_law_X12_fault : GoodIn wsL_law (wsV RL 116 RX12 yX12_fault wsX12_fault) := goodIn_app (goodIn_of _ (by decide +kernel)) ggL_law_X12_fault
set_option maxRecDepth 20000 in
theorem ggL_law_X11_due : GoodIn wsL_law wsX11_due := goodIn_r _ [1123, 15, 1124, 28, 677, 529, 530, 56, 531, 517, 1125, 1126, 1127, 14, 1128, 1129, 47, 323, 324, 2, 325, 180, 181, 182, 1130, 1131, 1132, 27, 1133, 1134, 1135, 1136, 1137, 1138, 1139, 129, 127, 1140, 70, 71, 72, 1141, 679, 680, 681, 682, 683, 684, 685, 81, 83, 1142, 1143, 1144, 1145, 1146, 59, 695, 690, 1147, 687, 688, 689, 43, 1148, 1149, 1150, 50, 1151, 69, 338, 74, 73, 75, 1152, 434, 435, 1153, 1154, 1155, 1156, 1157, 57, 1158, 1159, 1160, 1161, 1162, 1163, 1164, 1165, 1166, 1167, 128, 1168, 1169, 1170, 1171, 1172, 1173, 1174, 1175, 1176, 1177, 1178, 1179, 1180, 1181, 1182, 1183, 1550, 1551, 1552, 1553, 1554, 1555, 1556, 1610, 1611, 1612, 1613, 1614, 1615, 1616, 1617, 1618, 1619, 1620, 1621, 1622, 1623, 1624, 1625, 1626, 1627, 1628, 1649, 1650, 1651, 1652, 1653, 1654, 1674, 1675, 1676, 1708, 1709, 1710, 1711, 1712, 1677, 1678, 1679, 1680, 1681, 1682, 1683, 1670, 1671, 1672, 1673] (by decide +kernel) (by decide +kernel)
set_option maxRecDepth 20000 in
theorem gL_law_X11_due : GoodIn wsL_law (wsV RL 117 RX11 yX11_due wsX11_due) := goodIn_app (goodIn_of _ (by decide +kernel)) ggL_law_X11_due
set_option maxRecDepth 20000 in
theorem ggL_law_X12_due : GoodIn wsL_law wsX12_due := goodIn_r _ [1187, 209, 1188, 1189, 1190, 1191, 161, 701, 702, 703, 5, 704, 148, 213, 214, 215, 1192, 1193, 1194, 1195, 351, 352, 353, 354, 705, 706, 707, 1196, 1197, 1198, 1199, 1200, 1201, 1202, 1203, 1204, 1205, 1206, 708, 709, 710, 711, 221, 222, 223, 1207, 1208, 1209, 1210, 1211, 1212, 1213, 1214, 1215, 1216, 1217, 1218, 1219, 1220, 1221, 1222, 1223, 1224, 162, 1225, 1226, 1227, 1228, 1229, 1230, 1231, 1232, 1233, 1557, 1558, 1559, 1560, 1561, 1562, 1563, 1564, 1565, 1566, 1567, 1568, 1569, 1570, 1571, 1572, 1573, 1574, 1575, 1576, 1577, 1578, 1579, 1580, 1581, 1582, 1583, 1584, 1585, 1586, 1587, 1588, 1589, 1590, 1591, 1592, 1593, 1594, 1595, 1596, 1597, 1598, 1599, 1600, 1601, 1602, 1603, 1604, 1605, 1606, 1607, 1608, 1609] (by decide +kernel) (by decide +kernel)
set_option maxRecDepth 20000 in
theorem gL_law_X12_due : GoodIn wsL_law (wsV RL 121 RX12 yX12_due wsX12_due) := goodIn_app (goodIn_of _ (by decide +kernel)) ggL_law_X12_due
set_option maxRecDepth 20000 in
theorem ggL_law_X11_settle : GoodIn wsL_law wsX11_settle := goodIn_r _ [1237, 15, 28, 677, 529, 530, 56, 531, 517, 1125, 1126, 1127, 14, 1128, 1129, 47, 183, 184, 185, 2, 186, 187, 691, 692, 693, 694, 59, 695, 690, 683, 684, 685, 81, 83, 1130, 1131, 1132, 27, 1133, 1134, 1135, 1136, 1137, 1138, 1139, 129, 127, 1140, 70, 71, 72, 1141, 679, 680, 681, 682, 1142, 1143, 1144, 1145, 1146, 1147, 687, 688, 689, 43, 1148, 1149, 1150, 50, 1151, 69, 338, 74, 73, 75, 1152, 434, 435, 1153, 1154, 1155, 1156, 1157, 57, 1158, 1159, 1160, 1161, 1162, 1163, 1164, 1165, 1166, 1167, 128, 1168, 1169, 1170, 1171, 1172, 1173, 1174, 1175, 1176, 1177, 1178, 1179, 1180, 1181, 1182, 1183, 735, 525, 526, 527, 528, 201, 202, 203, 204, 1550, 1551, 1552, 1553, 1554, 1555, 1556, 1610, 1611, 1612, 1613, 1614, 1615, 1616, 1617, 1618, 1619, 1620, 1621, 1622, 1623, 1624, 1625, 1626, 1627, 1628, 1649, 1650, 1651, 1652, 1653, 1654, 1674, 1675, 1676, 1708, 1709, 1710, 1711, 1712, 1677, 1678, 1679, 1680, 1681, 1682, 1683, 1670, 1671, 1672, 1673] (by decide +kernel) (by decide +kernel)
set_option maxRecDepth 20000 in
theorem gL_law_X11_settle : GoodIn wsL_law (wsV RL 122 RX11 yX11_settle wsX11_settle) := goodIn_app (goodIn_of _ (by decide +kernel)) ggL_law_X11_settle
set_option maxRecDepth 20000 in
theorem ggL_law_X12_settle : GoodIn wsL_law wsX12_settle := goodIn_r _ [1241, 209, 148, 1190, 1191, 701, 702, 703, 5, 704, 213, 214, 215, 1192, 1193, 1194, 1195, 216, 217, 218, 219, 220, 705, 706, 707, 1196, 1197, 1198, 1199, 1200, 1201, 1202, 161, 1203, 1204, 1205, 1206, 708, 709, 710, 711, 221, 222, 223, 1207, 1208, 1209, 1210, 1211, 1212, 1213, 1214, 1215, 1216, 1217, 1218, 1219, 1220, 1221, 1222, 1223, 1224, 162, 1225, 1226, 1227, 1228, 1229, 1230, 1231, 1232, 1233, 1557, 1558, 1559, 1560, 1561, 1562, 1563, 1564, 1565, 1566, 1567, 1568, 1569, 1570, 1571, 1572, 1573, 1574, 1575, 1576, 1577, 1578, 1579, 1580, 1581, 1582, 1583, 1584, 1585, 1586, 1587, 1588, 1589, 1590, 1591, 1592, 1593, 1594, 1595, 1596, 1597, 1598, 1599, 1600, 1601, 1602, 1603, 1604, 1605, 1606, 1607, 1608, 1609] (by decide +kernel) (by decide +kernel)
set_option maxRecDepth 20000 in
theorem gL_law_X12_settle : GoodIn wsL_law (wsV RL 125 RX12 yX12_settle wsX12_settle) := goodIn_app (goodIn_of _ (by decide +kernel)) ggL_law_X12_settle
set_option maxRecDepth 20000 in
theorem ggL_law_X11_settled : GoodIn wsL_law wsX11_settled := goodIn_r _ [1245, 15, 1124, 677, 529, 530, 56, 531, 517, 691, 692, 693, 14, 694, 59, 695, 690, 683, 684, 685, 81, 83, 752, 1550, 1551, 1552, 1553, 1554, 1555, 1556, 1610, 1611, 1612, 1613, 1614, 1615, 1616, 1617, 1618, 1619, 1620, 1621, 1622, 1623, 1624, 1625, 1626, 1627, 1628, 1674, 1675, 1676] (by decide +kernel) (by decide +kernel)
set_option maxRecDepth 20000 in
theorem gL_law_X11_settled : GoodIn wsL_law (wsV RL 126 RX11 yX11_settled wsX11_settled) := goodIn_app (goodIn_of _ (by decide +kernel)) ggL_law_X11_settled
set_option maxRecDepth 20000 in
theorem ggL_law_X12_settled : GoodIn wsL_law wsX12_settled := goodIn_r _ [1249, 209, 1250, 148, 1189, 1251, 701, 702, 703, 5, 704, 213, 214, 215, 705, 706, 707, 1557, 1558, 1559, 1560, 1561, 1562, 1563, 1564, 1565, 1566, 1567, 1568, 1569, 1570, 1571, 1572, 1573, 1574, 1575, 1576, 1577, 1578, 1579, 1580, 1581, 1582, 1583, 1584, 1585, 1586, 1587, 1588, 1589, 1590, 1591, 1592, 1593, 1594, 1595, 1596, 1597, 1598, 1599, 1600, 1601, 1602, 1603, 1604, 1605, 1606, 1607, 1608, 1609] (by decide +kernel) (by decide +kernel)
set_option maxRecDepth 20000 in
theorem gL_law_X12_settled : GoodIn wsL_law (wsV RL 129 RX12 yX12_settled wsX12_settled) := goodIn_app (goodIn_of _ (by decide +kernel)) ggL_law_X12_settled
set_option maxRecDepth 20000 in
theorem ggL_law_X11_table : GoodIn wsL_law wsX11_table := goodIn_r _ [1255, 232, 15, 180, 181, 2, 182, 183, 184, 185, 186, 187, 326, 327, 328, 14, 329, 330, 201, 202, 203, 204, 1550, 1551, 1552, 1553, 1554, 1555, 1556, 1610, 1611, 1612, 1613, 1614, 1615, 1616, 1617, 1618, 1619, 1620, 1621, 1622, 1623, 1624, 1625, 1626, 1627, 1628, 1684, 1685, 1686, 1687, 1688, 1689, 1690, 1691, 1692, 1693, 1694, 1695, 1696, 1697, 1698, 1699, 1700] (by decide +kernel) (by decide +kernel)
set_option maxRecDepth 20000 in
theorem gL_law_X11_table : GoodIn wsL_law (wsV RL 130 RX11 yX11_table wsX11_table) := goodIn_app (goodIn_of _ (by decide +kernel)) ggL_law_X11_table
set_option maxRecDepth 20000 in
theorem ggL_law_X12_table : GoodIn wsL_law wsX12_table := goodIn_r _ [1259, 209, 391, 1260, 272, 148, 213, 214, 5, 215, 216, 217, 218, 219, 220, 355, 356, 357, 358, 278, 279, 280, 1557, 1558, 1559, 1560, 1561, 1562, 1563, 1564, 1565, 1566, 1567, 1568, 1569, 1570, 1571, 1572, 1573, 1574, 1575, 1576, 1577, 1578, 1579, 1580, 1581, 1582, 1583, 1584, 1585, 1586, 1587, 1588, 1589, 1590, 1591, 1592, 1593, 1594, 1595, 1596, 1597, 1598, 1599, 1600, 1601, 1602, 1603, 1604, 1605, 1606, 1607, 1608, 1609] (by decide +kernel) (by decide +kernel)
set_option maxRecDepth 20000 in
theorem gL_law_X12_table : GoodIn wsL_law (wsV RL 133 RX12 yX12_table wsX12_table) := goodIn_app (goodIn_of _ (by decide +kernel)) ggL_law_X12_table
set_option maxRecDepth 20000 in
theorem ggL_law_X11_list : GoodIn wsL_law wsX11_list := goodIn_r _ [1264, 15, 180, 181, 2, 182, 183, 184, 185, 186, 187, 326, 327, 328, 14, 329, 330, 201, 202, 203, 204, 1550, 1551, 1552, 1553, 1554, 1555, 1556, 1610, 1611, 1612, 1613, 1614, 1615, 1616, 1617, 1618, 1619, 1620, 1621, 1622, 1623, 1624, 1625, 1626, 1627, 1628, 1684, 1685, 1686, 1687, 1688, 1689, 1690, 1691, 1692, 1693, 1694, 1695, 1696, 1697, 1698, 1699, 1700] (by decide +kernel) (by decide +kernel)
set_option maxRecDepth 20000 in
theorem gL_law_X11_list : GoodIn wsL_law (wsV RL 134 RX11 yX11_list wsX11_list) := goodIn_app (goodIn_of _ (by decide +kernel)) ggL_law_X11_list
set_option maxRecDepth 20000 in
theorem ggL_law_X12_list : GoodIn wsL_law wsX12_list := goodIn_r _ [1268, 209, 1269, 273, 148, 220, 213, 214, 5, 215, 216, 217, 218, 219, 355, 356, 357, 358, 278, 279, 280, 1557, 1558, 1559, 1560, 1561, 1562, 1563, 1564, 1565, 1566, 1567, 1568, 1569, 1570, 1571, 1572, 1573, 1574, 1575, 1576, 1577, 1578, 1579, 1580, 1581, 1582, 1583, 1584, 1585, 1586, 1587, 1588, 1589, 1590, 1591, 1592, 1593, 1594, 1595, 1596, 1597, 1598, 1599, 1600, 1601, 1602, 1603, 1604, 1605, 1606, 1607, 1608, 1609] (by decide +kernel) (by decide +kernel)
set_option maxRecDepth 20000 in
theorem gL_law_X12_list : GoodIn wsL_law (wsV RL 137 RX12 yX12_list wsX12_list) := goodIn_app (goodIn_of _ (by decide +kernel)) ggL_law_X12_list
set_option maxRecDepth 20000 in
theorem ggL_law_X11_reading : GoodIn wsL_law wsX11_reading := goodIn_r _ [1273, 15, 180, 181, 2, 182, 323, 324, 325, 183, 184, 185, 186, 187, 677, 529, 530, 56, 531, 517, 734, 514, 515, 516, 81, 83, 518, 519, 199, 520, 521, 522, 523, 735, 525, 526, 527, 528, 201, 202, 203, 204, 1550, 1551, 1552, 1553, 1554, 1555, 1556, 1610, 1611, 1612, 1613, 1614, 1615, 1616, 1617, 1618, 1619, 1620, 1621, 1622, 1623, 1624, 1625, 1626, 1627, 1628, 1674, 1675, 1676] (by decide +kernel) (by decide +kernel)
set_option maxRecDepth 20000 in
theorem gL_law_X11_reading : GoodIn wsL_law (wsV RL 138 RX11 yX11_reading wsX11_reading) := goodIn_app (goodIn_of _ (by decide +kernel)) ggL_law_X11_reading
set_option maxRecDepth 20000 in
theorem ggL_law_X12_reading : GoodIn wsL_law wsX12_reading := goodIn_r _ [1277, 209, 1260, 1278, 1279, 148, 213, 214, 5, 215, 351, 352, 353, 354, 216, 217, 218, 219, 220, 701, 702, 703, 704, 224, 225, 226, 227, 1557, 1558, 1559, 1560, 1561, 1562, 1563, 1564, 1565, 1566, 1567, 1568, 1569, 1570, 1571, 1572, 1573, 1574, 1575, 1576, 1577, 1578, 1579, 1580, 1581, 1582, 1583, 1584, 1585, 1586, 1587, 1588, 1589, 1590, 1591, 1592, 1593, 1594, 1595, 1596, 1597, 1598, 1599, 1600, 1601, 1602, 1603, 1604, 1605, 1606, 1607, 1608, 1609] (by decide +kernel) (by decide +kernel)
set_option maxRecDepth 20000 in
theorem gL_law_X12_reading : GoodIn wsL_law (wsV RL 141 RX12 yX12_reading wsX12_reading) := goodIn_app (goodIn_of _ (by decide +kernel)) ggL_law_X12_reading
set_option maxRecDepth 20000 in
theorem ggL_law_X11_gauged : GoodIn wsL_law wsX11_gauged := goodIn_r _ [1283, 15, 1124, 28, 677, 529, 530, 56, 531, 517, 323, 324, 2, 325, 180, 181, 182, 1284, 1285, 1286, 27, 1287, 129, 1288, 1141, 679, 680, 681, 682, 683, 684, 685, 81, 83, 1289, 327, 328, 14, 329, 330, 1290, 1291, 1292, 64, 1293, 101, 102, 1142, 1294, 1295, 1296, 1297, 1298, 1299, 1300, 1301, 1302, 1303, 1304, 1305, 1306, 1307, 1143, 1144, 1145, 1146, 59, 695, 690, 1153, 1154, 1155, 1156, 1157, 57, 1550, 1551, 1552, 1553, 1554, 1555, 1556, 1610, 1611, 1612, 1613, 1614, 1615, 1616, 1617, 1618, 1619, 1620, 1621, 1622, 1623, 1624, 1625, 1626, 1627, 1628, 1674, 1675, 1676, 1649, 1650, 1651, 1652, 1653, 1654, 1684, 1685, 1686, 1687, 1688, 1689, 1690, 1691, 1692, 1693, 1694, 1695, 1696, 1697, 1698, 1699, 1700] (by decide +kernel) (by decide +kernel)
set_option maxRecDepth 20000 in
theorem gL_law_X11_gauged : GoodIn wsL_law (wsV RL 142 RX11 yX11_gauged wsX11_gauged) := goodIn_app (goodIn_of _ (by decide +kernel)) ggL_law_X11_gauged
set_option maxRecDepth 20000 in
theorem ggL_law_X12_gauged : GoodIn wsL_law wsX12_gauged := goodIn_r _ [1311, 209, 391, 1189, 148, 701, 702, 703, 5, 704, 213, 214, 215, 351, 352, 353, 354, 1312, 1313, 1314, 1315, 705, 706, 707, 278, 279, 280, 1316, 1317, 1318, 1319, 1320, 1321, 1322, 1323, 1203, 1204, 1205, 1206, 1211, 1212, 1213, 1214, 1557, 1558, 1559, 1560, 1561, 1562, 1563, 1564, 1565, 1566, 1567, 1568, 1569, 1570, 1571, 1572, 1573, 1574, 1575, 1576, 1577, 1578, 1579, 1580, 1581, 1582, 1583, 1584, 1585, 1586, 1587, 1588, 1589, 1590, 1591, 1592, 1593, 1594, 1595, 1596, 1597, 1598, 1599, 1600, 1601, 1602, 1603, 1604, 1605, 1606, 1607, 1608, 1609] (by decide +kernel) (by decide +kernel)
set_option maxRecDepth 20000 in
theorem gL_law_X12_gauged : GoodIn wsL_law (wsV RL 146 RX12 yX12_gauged wsX12_gauged) := goodIn_app (goodIn_of _ (by decide +kernel)) ggL_law_X12_gauged
set_option maxRecDepth 20000 in
theorem ggL_law_X11_cargo : GoodIn wsL_law wsX11_cargo := goodIn_r _ [1327, 232, 15, 320, 321, 2, 322, 323, 324, 325, 180, 181, 182, 183, 184, 185, 186, 187, 233, 234, 235, 14, 236, 237, 734, 514, 515, 56, 516, 517, 81, 83, 518, 519, 199, 520, 521, 522, 523, 735, 525, 526, 527, 528, 529, 530, 531, 201, 202, 203, 204, 1550, 1551, 1552, 1553, 1554, 1555, 1556, 1610, 1611, 1612, 1613, 1614, 1615, 1616, 1617, 1618, 1619, 1620, 1621, 1622, 1623, 1624, 1625, 1626, 1627, 1628, 1674, 1675, 1676] (by decide +kernel) (by decide +kernel)
set_option maxRecDepth 20000 in
theorem gL_law_X11_cargo : GoodIn wsL_law (wsV RL 147 RX11 yX11_cargo wsX11_cargo) := goodIn_app (goodIn_of _ (by decide +kernel)) ggL_law_X11_cargo
set_option maxRecDepth 20000 in
theorem ggL_law_X12_cargo : GoodIn wsL_law wsX12_cargo := goodIn_r _ [1331, 209, 272, 271, 148, 351, 352, 5, 353, 354, 213, 214, 215, 216, 217, 218, 219, 220, 274, 275, 276, 277, 224, 225, 226, 227, 1557, 1558, 1559, 1560, 1561, 1562, 1563, 1564, 1565, 1566, 1567, 1568, 1569, 1570, 1571, 1572, 1573, 1574, 1575, 1576, 1577, 1578, 1579, 1580, 1581, 1582, 1583, 1584, 1585, 1586, 1587, 1588, 1589, 1590, 1591, 1592, 1593, 1594, 1595, 1596, 1597, 1598, 1599, 1600, 1601, 1602, 1603, 1604, 1605, 1606, 1607, 1608, 1609] (by decide +kernel) (by decide +kernel)
set_option maxRecDepth 20000 in
theorem gL_law_X12_cargo : GoodIn wsL_law (wsV RL 151 RX12 yX12_cargo wsX12_cargo) := goodIn_app (goodIn_of _ (by decide +kernel)) ggL_law_X12_cargo
set_option maxRecDepth 20000 in
theorem ggL_law_X11_clear : GoodIn wsL_law wsX11_clear := goodIn_r _ [1335, 15, 1550, 1551, 1552, 1553, 1554, 1555, 1556, 1610, 1611, 1612, 1613, 1614, 1615, 1616, 1617, 1618, 1619, 1620, 1621, 1622, 1623, 1624, 1625, 1626, 1627, 1628, 1674, 1675, 1676] (by decide +kernel) (by decide +kernel)
set_option maxRecDepth 20000 in
theorem gL_law_X11_clear : GoodIn wsL_law (wsV RL 152 RX11 yX11_clear wsX11_clear) := goodIn_app (goodIn_of _ (by decide +kernel)) ggL_law_X11_clear
set_option maxRecDepth 20000 in
theorem ggL_law_X12_clear : GoodIn wsL_law wsX12_clear := goodIn_r _ [1339, 209, 148, 1557, 1558, 1559, 1560, 1561, 1562, 1563, 1564, 1565, 1566, 1567, 1568, 1569, 1570, 1571, 1572, 1573, 1574, 1575, 1576, 1577, 1578, 1579, 1580, 1581, 1582, 1583, 1584, 1585, 1586, 1587, 1588, 1589, 1590, 1591, 1592, 1593, 1594, 1595, 1596, 1597, 1598, 1599, 1600, 1601, 1602, 1603, 1604, 1605, 1606, 1607, 1608, 1609] (by decide +kernel) (by decide +kernel)
set_option maxRecDepth 20000 in
theorem gL_law_X12_clear : GoodIn wsL_law (wsV RL 155 RX12 yX12_clear wsX12_clear) := goodIn_app (goodIn_of _ (by decide +kernel)) ggL_law_X12_clear
set_option maxRecDepth 20000 in
theorem ggL_law_X11_best : GoodIn wsL_law wsX11_best := goodIn_r _ [1343, 32, 660, 323, 324, 2, 325, 180, 181, 182, 1344, 1345, 1346, 31, 1347, 143, 1348, 434, 71, 435, 136, 1349, 137, 134, 135, 1350, 259, 199, 260, 1351, 519, 520, 521, 522, 523, 1352, 1353, 1354, 1355, 1356, 1357, 1358, 1359, 1360, 1361, 1362, 70, 72, 1363, 1364, 1365, 1366, 437, 438, 1367, 1368, 679, 680, 56, 681, 682, 683, 684, 685, 517, 81, 83, 1369, 456, 457, 14, 458, 43, 459, 234, 235, 236, 237, 1370, 489, 490, 95, 491, 106, 1371, 1372, 1373, 62, 1374, 87, 1375, 1376, 1377, 50, 1378, 338, 74, 73, 75, 69, 1379, 1380, 1381, 1382, 1383, 1384, 1385, 1386, 1387, 1388, 1389, 1390, 1391, 1392, 1393, 1394, 1395, 1396, 1397, 1398, 1399, 1400, 1401, 1402, 1403, 1404, 1405, 1406, 1407, 138, 1408, 1409, 1410, 1411, 139, 140, 141, 142, 1412, 1413, 1414, 1415, 1550, 1551, 1552, 1553, 1554, 1555, 1556, 1655, 1656, 1657, 1658, 1659, 1660, 1661, 1662, 1663, 1664, 1665, 1666, 1667, 1668, 1669, 1610, 1611, 1612, 1613, 1614, 1615, 1616, 1617, 1618, 1619, 1620, 1621, 1622, 1623, 1624, 1625, 1626, 1627, 1628, 1674, 1675, 1676, 1684, 1685, 1686, 1687, 1688, 1689, 1690, 1691, 1692, 1693, 1694, 1695, 1696, 1697, 1698, 1699, 1700, 1677, 1678, 1679, 1680, 1681, 1682, 1683, 1701, 1702, 1703, 1704, 1705, 1706, 1707, 1670, 1671, 1672, 1673] (by decide +kernel) (by decide +kernel)
set_option maxRecDepth 20000 in
theorem gL_law_X11_best : GoodIn wsL_law (wsV RL 156 RX11 yX11_best wsX11_best) := goodIn_app (goodIn_of _ (by decide +kernel)) ggL_law_X11_best
set_option maxRecDepth 20000 in
theorem ggL_law_X12_best : GoodIn wsL_law wsX12_best := goodIn_r _ [1419, 209, 557, 148, 1189, 167, 174, 171, 173, 351, 352, 5, 353, 354, 213, 214, 215, 599, 600, 601, 1420, 1421, 1422, 1423, 169, 170, 166, 168, 1424, 1425, 1426, 1427, 1428, 1429, 165, 278, 279, 280, 1430, 1431, 1432, 1433, 163, 1434, 164, 552, 375, 602, 603, 604, 605, 606, 221, 222, 223, 1435, 1436, 1437, 1438, 578, 579, 580, 581, 1439, 1440, 1441, 1442, 586, 587, 588, 589, 1443, 1444, 1445, 1446, 1447, 1448, 1449, 1450, 1451, 1452, 1453, 1454, 1455, 1456, 1457, 1458, 1459, 1460, 172, 1557, 1558, 1559, 1560, 1561, 1562, 1563, 1564, 1565, 1566, 1567, 1568, 1569, 1570, 1571, 1572, 1573, 1574, 1575, 1576, 1577, 1578, 1579, 1580, 1581, 1582, 1583, 1584, 1585, 1586, 1587, 1588, 1589, 1590, 1591, 1592, 1593, 1594, 1595, 1596, 1597, 1598, 1599, 1600, 1601, 1602, 1603, 1604, 1605, 1606, 1607, 1608, 1609] (by decide +kernel) (by decide +kernel)
set_option maxRecDepth 20000 in
theorem gL_law_X12_best : GoodIn wsL_law (wsV RL 160 RX12 yX12_best wsX12_best) := goodIn_app (goodIn_of _ (by decide +kernel)) ggL_law_X12_best
set_option maxRecDepth 20000 in
theorem ggL_law_X11_voyage : GoodIn wsL_law wsX11_voyage := goodIn_r _ [1464, 32, 1124, 180, 181, 2, 182, 1550, 1551, 1552, 1553, 1554, 1555, 1556, 1655, 1656, 1657, 1658, 1659, 1660, 1661, 1662, 1663, 1664, 1665, 1666, 1667, 1668, 1669] (by decide +kernel) (by decide +kernel)
set_option maxRecDepth 20000 in
theorem gL_law_X11_voyage : GoodIn wsL_law (wsV RL 161 RX11 yX11_voyage wsX11_voyage) := goodIn_app (goodIn_of _ (by decide +kernel)) ggL_law_X11_voyage
set_option maxRecDepth 20000 in
theorem ggL_law_X12_voyage : GoodIn wsL_law wsX12_voyage := goodIn_r _ [1468, 209, 1459, 1460, 1188, 172, 1189, 213, 214, 5, 215, 1557, 1558, 1559, 1560, 1561, 1562, 1563, 1564, 1565, 1566, 1567, 1568, 1569, 1570, 1571, 1572, 1573, 1574, 1575, 1576, 1577, 1578, 1579, 1580, 1581, 1582, 1583, 1584, 1585, 1586, 1587, 1588, 1589, 1590, 1591, 1592, 1593, 1594, 1595, 1596, 1597, 1598, 1599, 1600, 1601, 1602, 1603, 1604, 1605, 1606, 1607, 1608, 1609] (by decide +kernel) (by decide +kernel)
set_option maxRecDepth 20000 in
theorem gL_law_X12_voyage : GoodIn wsL_law (wsV RL 164 RX12 yX12_voyage wsX12_voyage) := goodIn_app (goodIn_of _ (by decide +kernel)) ggL_law_X12_voyage
set_option maxRecDepth 20000 in
theorem ggL_law_X11_judge : GoodIn wsL_law wsX11_judge := goodIn_r _ [1472, 32, 1124, 1473, 1474, 1475, 31, 1476, 143, 1477, 327, 328, 14, 329, 330, 323, 324, 2, 325, 180, 181, 182, 1478, 1479, 1480, 1481, 1349, 1356, 1357, 1482, 529, 530, 56, 531, 517, 1358, 1359, 1360, 1361, 1362, 70, 71, 72, 1363, 1364, 1365, 1366, 437, 438, 1367, 1368, 679, 680, 681, 682, 683, 684, 685, 81, 83, 1369, 456, 457, 458, 43, 459, 234, 235, 236, 237, 1370, 489, 490, 95, 491, 106, 1371, 1372, 1373, 62, 1374, 87, 1375, 1376, 1377, 50, 1378, 338, 74, 73, 75, 69, 1379, 1550, 1551, 1552, 1553, 1554, 1555, 1556, 1655, 1656, 1657, 1658, 1659, 1660, 1661, 1662, 1663, 1664, 1665, 1666, 1667, 1668, 1669, 1610, 1611, 1612, 1613, 1614, 1615, 1616, 1617, 1618, 1619, 1620, 1621, 1622, 1623, 1624, 1625, 1626, 1627, 1628, 1684, 1685, 1686, 1687, 1688, 1689, 1690, 1691, 1692, 1693, 1694, 1695, 1696, 1697, 1698, 1699, 1700, 1674, 1675, 1676, 1677, 1678, 1679, 1680, 1681, 1682, 1683, 1701, 1702, 1703, 1704, 1705, 1706, 1707, 1670, 1671, 1672, 1673] (by decide +kernel) (by decide +kernel)
set_option maxRecDepth 20000 in
theorem gL_law_X11_judge : GoodIn wsL_law (wsV RL 165 RX11 yX11_judge wsX11_judge) := goodIn_app (goodIn_of _ (by decide +kernel)) ggL_law_X11_judge
set_option maxRecDepth 20000 in
theorem ggL_law_X12_judge : GoodIn wsL_law wsX12_judge := goodIn_r _ [1486, 209, 1189, 166, 148, 355, 356, 357, 5, 358, 213, 214, 215, 351, 352, 353, 354, 1424, 1425, 1426, 1427, 1428, 1429, 165, 278, 279, 280, 1430, 1431, 1432, 1433, 163, 1434, 164, 552, 375, 602, 603, 604, 605, 606, 221, 222, 223, 1435, 1436, 1437, 1438, 578, 579, 580, 581, 1439, 1440, 1441, 1442, 586, 587, 588, 589, 1557, 1558, 1559, 1560, 1561, 1562, 1563, 1564, 1565, 1566, 1567, 1568, 1569, 1570, 1571, 1572, 1573, 1574, 1575, 1576, 1577, 1578, 1579, 1580, 1581, 1582, 1583, 1584, 1585, 1586, 1587, 1588, 1589, 1590, 1591, 1592, 1593, 1594, 1595, 1596, 1597, 1598, 1599, 1600, 1601, 1602, 1603, 1604, 1605, 1606, 1607, 1608, 1609] (by decide +kernel) (by decide +kernel)
set_option maxRecDepth 20000 in
theorem gL_law_X12_judge : GoodIn wsL_law (wsV RL 169 RX12 yX12_judge wsX12_judge) := goodIn_app (goodIn_of _ (by decide +kernel)) ggL_law_X12_judge
set_option maxRecDepth 20000 in
theorem ggL_law_X11_image : GoodIn wsL_law wsX11_image := goodIn_r _ [1490, 16, 12, 13, 14, 15, 180, 181, 2, 182, 183, 184, 185, 186, 187, 33, 34, 35, 36, 10, 11, 37, 38, 39, 40, 41, 42, 43, 44, 45, 46, 47, 48, 49, 50, 51, 52, 53, 54, 55, 56, 57, 58, 59, 60, 61, 62, 63, 64, 65, 66, 67, 68, 69, 70, 71, 72, 73, 74, 75, 76, 77, 78, 79, 80, 81, 82, 83, 84, 85, 86, 87, 88, 89, 90, 91, 92, 93, 94, 95, 96, 97, 98, 99, 100, 101, 102, 103, 104, 105, 106, 107, 108, 109, 1491, 1492, 1493, 1494, 1495, 1496, 237, 330, 1129, 1497, 465, 466, 467, 1498, 1499, 1500, 1501, 192, 193, 195, 196, 1502, 1503, 1504, 1505, 1506, 242, 243, 244, 245, 246, 247, 248, 505, 506, 266, 464, 1507, 1508, 1509, 1510, 254, 255, 256, 1511, 1512, 1513, 1514, 1515, 338, 1516, 1517, 1518, 1519, 1520, 517, 1521, 201, 202, 203, 204, 1550, 1551, 1552, 1553, 1554, 1555, 1556, 1610, 1611, 1612, 1613, 1614, 1615, 1616, 1617, 1618, 1619, 1620, 1621, 1622, 1623, 1624, 1625, 1626, 1627, 1628, 1670, 1671, 1672, 1673, 1674, 1675, 1676, 1677, 1678, 1679, 1680, 1681, 1682, 1683, 1684, 1685, 1686, 1687, 1688, 1689, 1690, 1691, 1692, 1693, 1694, 1695, 1696, 1697, 1698, 1699, 1700, 1701, 1702, 1703, 1704, 1705, 1706, 1707] (by decide +kernel) (by decide +kernel)
set_option maxRecDepth 20000 in
theorem gL_law_X11_image : GoodIn wsL_law (wsV RL 170 RX11 yX11_image wsX11_image) := goodIn_app (goodIn_of _ (by decide +kernel)) ggL_law_X11_image
set_option maxRecDepth 20000 in
theorem ggL_law_X12_image : GoodIn wsL_law wsX12_image := goodIn_r _ [1525, 209, 149, 148, 151, 213, 214, 5, 215, 216, 217, 218, 219, 220, 1557, 1558, 1559, 1560, 1561, 1562, 1563, 1564, 1565, 1566, 1567, 1568, 1569, 1570, 1571, 1572, 1573, 1574, 1575, 1576, 1577, 1578, 1579, 1580, 1581, 1582, 1583, 1584, 1585, 1586, 1587, 1588, 1589, 1590, 1591, 1592, 1593, 1594, 1595, 1596, 1597, 1598, 1599, 1600, 1601, 1602, 1603, 1604, 1605, 1606, 1607, 1608, 1609] (by decide +kernel) (by decide +kernel)
set_option maxRecDepth 20000 in
theorem gL_law_X12_image : GoodIn wsL_law (wsV RL 173 RX12 yX12_image wsX12_image) := goodIn_app (goodIn_of _ (by decide +kernel)) ggL_law_X12_image
set_option maxRecDepth 20000 in
theorem ggL_law_X11_back : GoodIn wsL_law wsX11_back := goodIn_r _ [1529, 16, 15, 180, 181, 2, 182, 183, 184, 185, 186, 187, 1491, 1492, 1493, 14, 1494, 1495, 37, 38, 1496, 237, 330, 1129, 40, 1497, 465, 466, 467, 41, 47, 43, 45, 51, 52, 53, 57, 58, 59, 60, 1498, 1499, 1500, 62, 1501, 192, 193, 87, 195, 196, 88, 1502, 89, 1503, 1504, 1505, 64, 1506, 96, 242, 243, 244, 245, 246, 247, 248, 505, 506, 266, 97, 464, 98, 99, 100, 101, 102, 1507, 1508, 1509, 95, 1510, 106, 254, 255, 256, 107, 1511, 1512, 1513, 1514, 50, 1515, 338, 73, 1516, 74, 75, 1517, 1518, 1519, 56, 1520, 517, 81, 83, 1521, 201, 202, 203, 204, 1550, 1551, 1552, 1553, 1554, 1555, 1556, 1610, 1611, 1612, 1613, 1614, 1615, 1616, 1617, 1618, 1619, 1620, 1621, 1622, 1623, 1624, 1625, 1626, 1627, 1628, 1677, 1678, 1679, 1680, 1681, 1682, 1683, 1684, 1685, 1686, 1687, 1688, 1689, 1690, 1691, 1692, 1693, 1694, 1695, 1696, 1697, 1698, 1699, 1700, 1701, 1702, 1703, 1704, 1705, 1706, 1707, 1670, 1671, 1672, 1673, 1674, 1675, 1676] (by decide +kernel) (by decide +kernel)
set_option maxRecDepth 20000 in
theorem gL_law_X11_back : GoodIn wsL_law (wsV RL 174 RX11 yX11_back wsX11_back) := goodIn_app (goodIn_of _ (by decide +kernel)) ggL_law_X11_back
set_option maxRecDepth 20000 in
theorem ggL_law_X12_back : GoodIn wsL_law wsX12_back := goodIn_r _ [1533, 209, 151, 148, 149, 213, 214, 5, 215, 216, 217, 218, 219, 220, 1557, 1558, 1559, 1560, 1561, 1562, 1563, 1564, 1565, 1566, 1567, 1568, 1569, 1570, 1571, 1572, 1573, 1574, 1575, 1576, 1577, 1578, 1579, 1580, 1581, 1582, 1583, 1584, 1585, 1586, 1587, 1588, 1589, 1590, 1591, 1592, 1593, 1594, 1595, 1596, 1597, 1598, 1599, 1600, 1601, 1602, 1603, 1604, 1605, 1606, 1607, 1608, 1609] (by decide +kernel) (by decide +kernel)
set_option maxRecDepth 20000 in
theorem gL_law_X12_back : GoodIn wsL_law (wsV RL 177 RX12 yX12_back wsX12_back) := goodIn_app (goodIn_of _ (by decide +kernel)) ggL_law_X12_back
set_option maxRecDepth 20000 in
theorem ggL_law_X11_count : GoodIn wsL_law wsX11_count := goodIn_r _ [1537, 15, 24, 1550, 1551, 1552, 1553, 1554, 1555, 1556, 1610, 1611, 1612, 1613, 1614, 1615, 1616, 1617, 1618, 1619, 1620, 1621, 1622, 1623, 1624, 1625, 1626, 1627, 1628, 1670, 1671, 1672, 1673, 1674, 1675, 1676, 1633, 1634, 1635, 1636, 1637, 1638, 1639, 1640, 1641, 1642, 1643, 1644, 1645, 1646, 1647, 1648] (by decide +kernel) (by decide +kernel)
set_option maxRecDepth 20000 in
theorem gL_law_X11_count : GoodIn wsL_law (wsV RL 178 RX11 yX11_count wsX11_count) := goodIn_app (goodIn_of _ (by decide +kernel)) ggL_law_X11_count
set_option maxRecDepth 20000 in
theorem ggL_law_X12_count : GoodIn wsL_law wsX12_count := goodIn_r _ [1541, 209, 148, 774, 1557, 1558, 1559, 1560, 1561, 1562, 1563, 1564, 1565, 1566, 1567, 1568, 1569, 1570, 1571, 1572, 1573, 1574, 1575, 1576, 1577, 1578, 1579, 1580, 1581, 1582, 1583, 1584, 1585, 1586, 1587, 1588, 1589, 1590, 1591, 1592, 1593, 1594, 1595, 1596, 1597, 1598, 1599, 1600, 1601, 1602, 1603, 1604, 1605, 1606, 1607, 1608, 1609] (by decide +kernel) (by decide +kernel)
set_option maxRecDepth 20000 in
theorem gL_law_X12_count : GoodIn wsL_law (wsV RL 181 RX12 yX12_count wsX12_count) := goodIn_app (goodIn_of _ (by decide +kernel)) ggL_law_X12_count
set_option maxRecDepth 20000 in
theorem ggL_law_X11_status : GoodIn wsL_law wsX11_status := goodIn_r _ [1545, 187, 1550, 1551, 1552, 1553, 1554, 1555, 1556] (by decide +kernel) (by decide +kernel)
set_option maxRecDepth 20000 in
theorem gL_law_X11_status : GoodIn wsL_law (wsV RL 182 RX11 yX11_status wsX11_status) := goodIn_app (goodIn_of _ (by decide +kernel)) ggL_law_X11_status
set_option maxRecDepth 20000 in
theorem ggL_law_X12_status : GoodIn wsL_law wsX12_status := goodIn_r _ [1549, 209, 220, 1557, 1558, 1559, 1560, 1561, 1562, 1563, 1564, 1565, 1566, 1567, 1568, 1569, 1570, 1571, 1572, 1573, 1574, 1575, 1576, 1577, 1578, 1579, 1580, 1581, 1582, 1583, 1584, 1585, 1586, 1587, 1588, 1589, 1590, 1591, 1592, 1593, 1594, 1595, 1596, 1597, 1598, 1599, 1600, 1601, 1602, 1603, 1604, 1605, 1606, 1607, 1608, 1609] (by decide +kernel) (by decide +kernel)
set_option maxRecDepth 20000 in
theorem gL_law_X12_status : GoodIn wsL_law (wsV RL 185 RX12 yX12_status wsX12_status) := goodIn_app (goodIn_of _ (by decide +kernel)) ggL_law_X12_status
theorem dL_law_0 : decode cL_law 0 = .ok (.new 7, 3) := by decide +kernel
theorem dL_law_3 : decode cL_law 3 = .ok (.dup, 1) := by decide +kernel
theorem dL_law_4 : decode cL_law 4 = .ok (.invokespecial 9, 3) := by decide +kernel
theorem dL_law_7 : decode cL_law 7 = .ok (.astore_n 1, 1) := by decide +kernel
theorem dL_law_8 : decode cL_law 8 = .ok (.new 10, 3) := by decide +kernel
theorem dL_law_11 : decode cL_law 11 = .ok (.dup, 1) := by decide +kernel
theorem dL_law_12 : decode cL_law 12 = .ok (.invokespecial 12, 3) := by decide +kernel
theorem dL_law_15 : decode cL_law 15 = .ok (.astore_n 2, 1) := by decide +kernel
theorem dL_law_16 : decode cL_law 16 = .ok (.iconst 0, 1) := by decide +kernel
theorem dL_law_17 : decode cL_law 17 = .ok (.istore_n 3, 1) := by decide +kernel
theorem dL_law_18 : decode cL_law 18 = .ok (.iload_n 3, 1) := by decide +kernel
theorem dL_law_19 : decode cL_law 19 = .ok (.aload_n 0, 1) := by decide +kernel
theorem dL_law_20 : decode cL_law 20 = .ok (.arraylength, 1) := by decide +kernel
theorem dL_law_21 : decode cL_law 21 = .ok (.bipush 9, 2) := by decide +kernel
theorem dL_law_23 : decode cL_law 23 = .ok (.isub, 1) := by decide +kernel
theorem dL_law_24 : decode cL_law 24 = .ok (.if_icmp .gt 1699, 3) := by decide +kernel
theorem dL_law_27 : decode cL_law 27 = .ok (.aload_n 0, 1) := by decide +kernel
theorem dL_law_28 : decode cL_law 28 = .ok (.iload_n 3, 1) := by decide +kernel
theorem dL_law_29 : decode cL_law 29 = .ok (.iaload, 1) := by decide +kernel
theorem dL_law_30 : decode cL_law 30 = .ok (.bipush 63, 2) := by decide +kernel
theorem dL_law_32 : decode cL_law 32 = .ok (.iand, 1) := by decide +kernel
theorem dL_law_33 : decode cL_law 33 = .ok (.tableswitch 1684 0 39 #[175, 228, 271, 340, 373, 406, 459, 502, 535, 578, 601, 634, 667, 701, 724, 757, 790, 823, 866, 909, 942, 1005, 1028, 1041, 1054, 1108, 1141, 1175, 1228, 1261, 1324, 1368, 1467, 1480, 1504, 1538, 1602, 1625, 1648, 1671], 175) := by decide +kernel
theorem dL_law_208 : decode cL_law 208 = .ok (.aload_n 1, 1) := by decide +kernel
theorem dL_law_209 : decode cL_law 209 = .ok (.aload_n 0, 1) := by decide +kernel
theorem dL_law_210 : decode cL_law 210 = .ok (.iload_n 3, 1) := by decide +kernel
theorem dL_law_211 : decode cL_law 211 = .ok (.iconst 1, 1) := by decide +kernel
theorem dL_law_212 : decode cL_law 212 = .ok (.iadd, 1) := by decide +kernel
theorem dL_law_213 : decode cL_law 213 = .ok (.iaload, 1) := by decide +kernel
theorem dL_law_214 : decode cL_law 214 = .ok (.aload_n 0, 1) := by decide +kernel
theorem dL_law_215 : decode cL_law 215 = .ok (.iload_n 3, 1) := by decide +kernel
theorem dL_law_216 : decode cL_law 216 = .ok (.iconst 2, 1) := by decide +kernel
theorem dL_law_217 : decode cL_law 217 = .ok (.iadd, 1) := by decide +kernel
theorem dL_law_218 : decode cL_law 218 = .ok (.iaload, 1) := by decide +kernel
theorem dL_law_219 : decode cL_law 219 = .ok (.aload_n 0, 1) := by decide +kernel
theorem dL_law_220 : decode cL_law 220 = .ok (.iload_n 3, 1) := by decide +kernel
theorem dL_law_221 : decode cL_law 221 = .ok (.iconst 3, 1) := by decide +kernel
theorem dL_law_222 : decode cL_law 222 = .ok (.iadd, 1) := by decide +kernel
theorem dL_law_223 : decode cL_law 223 = .ok (.iaload, 1) := by decide +kernel
theorem dL_law_224 : decode cL_law 224 = .ok (.aload_n 0, 1) := by decide +kernel
theorem dL_law_225 : decode cL_law 225 = .ok (.iload_n 3, 1) := by decide +kernel
theorem dL_law_226 : decode cL_law 226 = .ok (.iconst 4, 1) := by decide +kernel
theorem dL_law_227 : decode cL_law 227 = .ok (.iadd, 1) := by decide +kernel
theorem dL_law_228 : decode cL_law 228 = .ok (.iaload, 1) := by decide +kernel
theorem dL_law_229 : decode cL_law 229 = .ok (.invokevirtual 13, 3) := by decide +kernel
theorem dL_law_232 : decode cL_law 232 = .ok (.aload_n 2, 1) := by decide +kernel
theorem dL_law_233 : decode cL_law 233 = .ok (.aload_n 0, 1) := by decide +kernel
theorem dL_law_234 : decode cL_law 234 = .ok (.iload_n 3, 1) := by decide +kernel
theorem dL_law_235 : decode cL_law 235 = .ok (.iconst 1, 1) := by decide +kernel
theorem dL_law_236 : decode cL_law 236 = .ok (.iadd, 1) := by decide +kernel
theorem dL_law_237 : decode cL_law 237 = .ok (.iaload, 1) := by decide +kernel
theorem dL_law_238 : decode cL_law 238 = .ok (.aload_n 0, 1) := by decide +kernel
theorem dL_law_239 : decode cL_law 239 = .ok (.iload_n 3, 1) := by decide +kernel
theorem dL_law_240 : decode cL_law 240 = .ok (.iconst 2, 1) := by decide +kernel
theorem dL_law_241 : decode cL_law 241 = .ok (.iadd, 1) := by decide +kernel
theorem dL_law_242 : decode cL_law 242 = .ok (.iaload, 1) := by decide +kernel
theorem dL_law_243 : decode cL_law 243 = .ok (.aload_n 0, 1) := by decide +kernel
theorem dL_law_244 : decode cL_law 244 = .ok (.iload_n 3, 1) := by decide +kernel
theorem dL_law_245 : decode cL_law 245 = .ok (.iconst 3, 1) := by decide +kernel
theorem dL_law_246 : decode cL_law 246 = .ok (.iadd, 1) := by decide +kernel
theorem dL_law_247 : decode cL_law 247 = .ok (.iaload, 1) := by decide +kernel
theorem dL_law_248 : decode cL_law 248 = .ok (.aload_n 0, 1) := by decide +kernel
theorem dL_law_249 : decode cL_law 249 = .ok (.iload_n 3, 1) := by decide +kernel
theorem dL_law_250 : decode cL_law 250 = .ok (.iconst 4, 1) := by decide +kernel
theorem dL_law_251 : decode cL_law 251 = .ok (.iadd, 1) := by decide +kernel
theorem dL_law_252 : decode cL_law 252 = .ok (.iaload, 1) := by decide +kernel
theorem dL_law_253 : decode cL_law 253 = .ok (.invokevirtual 17, 3) := by decide +kernel
theorem dL_law_256 : decode cL_law 256 = .ok (.if_icmp .eq 1461, 3) := by decide +kernel
theorem dL_law_261 : decode cL_law 261 = .ok (.aload_n 1, 1) := by decide +kernel
theorem dL_law_262 : decode cL_law 262 = .ok (.aload_n 0, 1) := by decide +kernel
theorem dL_law_263 : decode cL_law 263 = .ok (.iload_n 3, 1) := by decide +kernel
theorem dL_law_264 : decode cL_law 264 = .ok (.iconst 1, 1) := by decide +kernel
theorem dL_law_265 : decode cL_law 265 = .ok (.iadd, 1) := by decide +kernel
theorem dL_law_266 : decode cL_law 266 = .ok (.iaload, 1) := by decide +kernel
theorem dL_law_267 : decode cL_law 267 = .ok (.aload_n 0, 1) := by decide +kernel
theorem dL_law_268 : decode cL_law 268 = .ok (.iload_n 3, 1) := by decide +kernel
theorem dL_law_269 : decode cL_law 269 = .ok (.iconst 2, 1) := by decide +kernel
theorem dL_law_270 : decode cL_law 270 = .ok (.iadd, 1) := by decide +kernel
theorem dL_law_271 : decode cL_law 271 = .ok (.iaload, 1) := by decide +kernel
theorem dL_law_272 : decode cL_law 272 = .ok (.aload_n 0, 1) := by decide +kernel
theorem dL_law_273 : decode cL_law 273 = .ok (.iload_n 3, 1) := by decide +kernel
theorem dL_law_274 : decode cL_law 274 = .ok (.iconst 3, 1) := by decide +kernel
theorem dL_law_275 : decode cL_law 275 = .ok (.iadd, 1) := by decide +kernel
theorem dL_law_276 : decode cL_law 276 = .ok (.iaload, 1) := by decide +kernel
theorem dL_law_277 : decode cL_law 277 = .ok (.invokevirtual 18, 3) := by decide +kernel
theorem dL_law_280 : decode cL_law 280 = .ok (.aload_n 2, 1) := by decide +kernel
theorem dL_law_281 : decode cL_law 281 = .ok (.aload_n 0, 1) := by decide +kernel
theorem dL_law_282 : decode cL_law 282 = .ok (.iload_n 3, 1) := by decide +kernel
theorem dL_law_283 : decode cL_law 283 = .ok (.iconst 1, 1) := by decide +kernel
theorem dL_law_284 : decode cL_law 284 = .ok (.iadd, 1) := by decide +kernel
theorem dL_law_285 : decode cL_law 285 = .ok (.iaload, 1) := by decide +kernel
theorem dL_law_286 : decode cL_law 286 = .ok (.aload_n 0, 1) := by decide +kernel
theorem dL_law_287 : decode cL_law 287 = .ok (.iload_n 3, 1) := by decide +kernel
theorem dL_law_288 : decode cL_law 288 = .ok (.iconst 2, 1) := by decide +kernel
theorem dL_law_289 : decode cL_law 289 = .ok (.iadd, 1) := by decide +kernel
theorem dL_law_290 : decode cL_law 290 = .ok (.iaload, 1) := by decide +kernel
theorem dL_law_291 : decode cL_law 291 = .ok (.aload_n 0, 1) := by decide +kernel
theorem dL_law_292 : decode cL_law 292 = .ok (.iload_n 3, 1) := by decide +kernel
theorem dL_law_293 : decode cL_law 293 = .ok (.iconst 3, 1) := by decide +kernel
theorem dL_law_294 : decode cL_law 294 = .ok (.iadd, 1) := by decide +kernel
theorem dL_law_295 : decode cL_law 295 = .ok (.iaload, 1) := by decide +kernel
theorem dL_law_296 : decode cL_law 296 = .ok (.invokevirtual 22, 3) := by decide +kernel
theorem dL_law_299 : decode cL_law 299 = .ok (.if_icmp .eq 1418, 3) := by decide +kernel
theorem dL_law_304 : decode cL_law 304 = .ok (.aload_n 1, 1) := by decide +kernel
theorem dL_law_305 : decode cL_law 305 = .ok (.aload_n 0, 1) := by decide +kernel
theorem dL_law_306 : decode cL_law 306 = .ok (.iload_n 3, 1) := by decide +kernel
theorem dL_law_307 : decode cL_law 307 = .ok (.iconst 1, 1) := by decide +kernel
theorem dL_law_308 : decode cL_law 308 = .ok (.iadd, 1) := by decide +kernel
theorem dL_law_309 : decode cL_law 309 = .ok (.iaload, 1) := by decide +kernel
theorem dL_law_310 : decode cL_law 310 = .ok (.aload_n 0, 1) := by decide +kernel
theorem dL_law_311 : decode cL_law 311 = .ok (.iload_n 3, 1) := by decide +kernel
theorem dL_law_312 : decode cL_law 312 = .ok (.iconst 2, 1) := by decide +kernel
theorem dL_law_313 : decode cL_law 313 = .ok (.iadd, 1) := by decide +kernel
theorem dL_law_314 : decode cL_law 314 = .ok (.iaload, 1) := by decide +kernel
theorem dL_law_315 : decode cL_law 315 = .ok (.aload_n 0, 1) := by decide +kernel
theorem dL_law_316 : decode cL_law 316 = .ok (.iload_n 3, 1) := by decide +kernel
theorem dL_law_317 : decode cL_law 317 = .ok (.iconst 3, 1) := by decide +kernel
theorem dL_law_318 : decode cL_law 318 = .ok (.iadd, 1) := by decide +kernel
theorem dL_law_319 : decode cL_law 319 = .ok (.iaload, 1) := by decide +kernel
theorem dL_law_320 : decode cL_law 320 = .ok (.aload_n 0, 1) := by decide +kernel
theorem dL_law_321 : decode cL_law 321 = .ok (.iload_n 3, 1) := by decide +kernel
theorem dL_law_322 : decode cL_law 322 = .ok (.iconst 4, 1) := by decide +kernel
theorem dL_law_323 : decode cL_law 323 = .ok (.iadd, 1) := by decide +kernel
theorem dL_law_324 : decode cL_law 324 = .ok (.iaload, 1) := by decide +kernel
theorem dL_law_325 : decode cL_law 325 = .ok (.ifCond .eq 7, 3) := by decide +kernel
theorem dL_law_328 : decode cL_law 328 = .ok (.iconst 1, 1) := by decide +kernel
theorem dL_law_329 : decode cL_law 329 = .ok (.goto 4, 3) := by decide +kernel
theorem dL_law_332 : decode cL_law 332 = .ok (.iconst 0, 1) := by decide +kernel
theorem dL_law_333 : decode cL_law 333 = .ok (.invokevirtual 23, 3) := by decide +kernel
theorem dL_law_336 : decode cL_law 336 = .ok (.aload_n 2, 1) := by decide +kernel
theorem dL_law_337 : decode cL_law 337 = .ok (.aload_n 0, 1) := by decide +kernel
theorem dL_law_338 : decode cL_law 338 = .ok (.iload_n 3, 1) := by decide +kernel
theorem dL_law_339 : decode cL_law 339 = .ok (.iconst 1, 1) := by decide +kernel
theorem dL_law_340 : decode cL_law 340 = .ok (.iadd, 1) := by decide +kernel
theorem dL_law_341 : decode cL_law 341 = .ok (.iaload, 1) := by decide +kernel
theorem dL_law_342 : decode cL_law 342 = .ok (.aload_n 0, 1) := by decide +kernel
theorem dL_law_343 : decode cL_law 343 = .ok (.iload_n 3, 1) := by decide +kernel
theorem dL_law_344 : decode cL_law 344 = .ok (.iconst 2, 1) := by decide +kernel
theorem dL_law_345 : decode cL_law 345 = .ok (.iadd, 1) := by decide +kernel
theorem dL_law_346 : decode cL_law 346 = .ok (.iaload, 1) := by decide +kernel
theorem dL_law_347 : decode cL_law 347 = .ok (.aload_n 0, 1) := by decide +kernel
theorem dL_law_348 : decode cL_law 348 = .ok (.iload_n 3, 1) := by decide +kernel
theorem dL_law_349 : decode cL_law 349 = .ok (.iconst 3, 1) := by decide +kernel
theorem dL_law_350 : decode cL_law 350 = .ok (.iadd, 1) := by decide +kernel
theorem dL_law_351 : decode cL_law 351 = .ok (.iaload, 1) := by decide +kernel
theorem dL_law_352 : decode cL_law 352 = .ok (.aload_n 0, 1) := by decide +kernel
theorem dL_law_353 : decode cL_law 353 = .ok (.iload_n 3, 1) := by decide +kernel
theorem dL_law_354 : decode cL_law 354 = .ok (.iconst 4, 1) := by decide +kernel
theorem dL_law_355 : decode cL_law 355 = .ok (.iadd, 1) := by decide +kernel
theorem dL_law_356 : decode cL_law 356 = .ok (.iaload, 1) := by decide +kernel
theorem dL_law_357 : decode cL_law 357 = .ok (.ifCond .eq 7, 3) := by decide +kernel
theorem dL_law_360 : decode cL_law 360 = .ok (.iconst 1, 1) := by decide +kernel
theorem dL_law_361 : decode cL_law 361 = .ok (.goto 4, 3) := by decide +kernel
theorem dL_law_364 : decode cL_law 364 = .ok (.iconst 0, 1) := by decide +kernel
theorem dL_law_365 : decode cL_law 365 = .ok (.invokevirtual 27, 3) := by decide +kernel
theorem dL_law_368 : decode cL_law 368 = .ok (.if_icmp .eq 1349, 3) := by decide +kernel
theorem dL_law_373 : decode cL_law 373 = .ok (.aload_n 1, 1) := by decide +kernel
theorem dL_law_374 : decode cL_law 374 = .ok (.aload_n 0, 1) := by decide +kernel
theorem dL_law_375 : decode cL_law 375 = .ok (.iload_n 3, 1) := by decide +kernel
theorem dL_law_376 : decode cL_law 376 = .ok (.iconst 1, 1) := by decide +kernel
theorem dL_law_377 : decode cL_law 377 = .ok (.iadd, 1) := by decide +kernel
theorem dL_law_378 : decode cL_law 378 = .ok (.iaload, 1) := by decide +kernel
theorem dL_law_379 : decode cL_law 379 = .ok (.aload_n 0, 1) := by decide +kernel
theorem dL_law_380 : decode cL_law 380 = .ok (.iload_n 3, 1) := by decide +kernel
theorem dL_law_381 : decode cL_law 381 = .ok (.iconst 2, 1) := by decide +kernel
theorem dL_law_382 : decode cL_law 382 = .ok (.iadd, 1) := by decide +kernel
theorem dL_law_383 : decode cL_law 383 = .ok (.iaload, 1) := by decide +kernel
theorem dL_law_384 : decode cL_law 384 = .ok (.invokevirtual 28, 3) := by decide +kernel
theorem dL_law_387 : decode cL_law 387 = .ok (.aload_n 2, 1) := by decide +kernel
theorem dL_law_388 : decode cL_law 388 = .ok (.aload_n 0, 1) := by decide +kernel
theorem dL_law_389 : decode cL_law 389 = .ok (.iload_n 3, 1) := by decide +kernel
theorem dL_law_390 : decode cL_law 390 = .ok (.iconst 1, 1) := by decide +kernel
theorem dL_law_391 : decode cL_law 391 = .ok (.iadd, 1) := by decide +kernel
theorem dL_law_392 : decode cL_law 392 = .ok (.iaload, 1) := by decide +kernel
theorem dL_law_393 : decode cL_law 393 = .ok (.aload_n 0, 1) := by decide +kernel
theorem dL_law_394 : decode cL_law 394 = .ok (.iload_n 3, 1) := by decide +kernel
theorem dL_law_395 : decode cL_law 395 = .ok (.iconst 2, 1) := by decide +kernel
theorem dL_law_396 : decode cL_law 396 = .ok (.iadd, 1) := by decide +kernel
theorem dL_law_397 : decode cL_law 397 = .ok (.iaload, 1) := by decide +kernel
theorem dL_law_398 : decode cL_law 398 = .ok (.invokevirtual 32, 3) := by decide +kernel
theorem dL_law_401 : decode cL_law 401 = .ok (.if_icmp .eq 1316, 3) := by decide +kernel
theorem dL_law_406 : decode cL_law 406 = .ok (.aload_n 1, 1) := by decide +kernel
theorem dL_law_407 : decode cL_law 407 = .ok (.aload_n 0, 1) := by decide +kernel
theorem dL_law_408 : decode cL_law 408 = .ok (.iload_n 3, 1) := by decide +kernel
theorem dL_law_409 : decode cL_law 409 = .ok (.iconst 1, 1) := by decide +kernel
theorem dL_law_410 : decode cL_law 410 = .ok (.iadd, 1) := by decide +kernel
theorem dL_law_411 : decode cL_law 411 = .ok (.iaload, 1) := by decide +kernel
theorem dL_law_412 : decode cL_law 412 = .ok (.aload_n 0, 1) := by decide +kernel
theorem dL_law_413 : decode cL_law 413 = .ok (.iload_n 3, 1) := by decide +kernel
theorem dL_law_414 : decode cL_law 414 = .ok (.iconst 2, 1) := by decide +kernel
theorem dL_law_415 : decode cL_law 415 = .ok (.iadd, 1) := by decide +kernel
theorem dL_law_416 : decode cL_law 416 = .ok (.iaload, 1) := by decide +kernel
theorem dL_law_417 : decode cL_law 417 = .ok (.invokevirtual 33, 3) := by decide +kernel
theorem dL_law_420 : decode cL_law 420 = .ok (.aload_n 2, 1) := by decide +kernel
theorem dL_law_421 : decode cL_law 421 = .ok (.aload_n 0, 1) := by decide +kernel
theorem dL_law_422 : decode cL_law 422 = .ok (.iload_n 3, 1) := by decide +kernel
theorem dL_law_423 : decode cL_law 423 = .ok (.iconst 1, 1) := by decide +kernel
theorem dL_law_424 : decode cL_law 424 = .ok (.iadd, 1) := by decide +kernel
theorem dL_law_425 : decode cL_law 425 = .ok (.iaload, 1) := by decide +kernel
theorem dL_law_426 : decode cL_law 426 = .ok (.aload_n 0, 1) := by decide +kernel
theorem dL_law_427 : decode cL_law 427 = .ok (.iload_n 3, 1) := by decide +kernel
theorem dL_law_428 : decode cL_law 428 = .ok (.iconst 2, 1) := by decide +kernel
theorem dL_law_429 : decode cL_law 429 = .ok (.iadd, 1) := by decide +kernel
theorem dL_law_430 : decode cL_law 430 = .ok (.iaload, 1) := by decide +kernel
theorem dL_law_431 : decode cL_law 431 = .ok (.invokevirtual 36, 3) := by decide +kernel
theorem dL_law_434 : decode cL_law 434 = .ok (.if_icmp .eq 1283, 3) := by decide +kernel
theorem dL_law_439 : decode cL_law 439 = .ok (.aload_n 1, 1) := by decide +kernel
theorem dL_law_440 : decode cL_law 440 = .ok (.aload_n 0, 1) := by decide +kernel
theorem dL_law_441 : decode cL_law 441 = .ok (.iload_n 3, 1) := by decide +kernel
theorem dL_law_442 : decode cL_law 442 = .ok (.iconst 1, 1) := by decide +kernel
theorem dL_law_443 : decode cL_law 443 = .ok (.iadd, 1) := by decide +kernel
theorem dL_law_444 : decode cL_law 444 = .ok (.iaload, 1) := by decide +kernel
theorem dL_law_445 : decode cL_law 445 = .ok (.aload_n 0, 1) := by decide +kernel
theorem dL_law_446 : decode cL_law 446 = .ok (.iload_n 3, 1) := by decide +kernel
theorem dL_law_447 : decode cL_law 447 = .ok (.iconst 2, 1) := by decide +kernel
theorem dL_law_448 : decode cL_law 448 = .ok (.iadd, 1) := by decide +kernel
theorem dL_law_449 : decode cL_law 449 = .ok (.iaload, 1) := by decide +kernel
theorem dL_law_450 : decode cL_law 450 = .ok (.aload_n 0, 1) := by decide +kernel
theorem dL_law_451 : decode cL_law 451 = .ok (.iload_n 3, 1) := by decide +kernel
theorem dL_law_452 : decode cL_law 452 = .ok (.iconst 3, 1) := by decide +kernel
theorem dL_law_453 : decode cL_law 453 = .ok (.iadd, 1) := by decide +kernel
theorem dL_law_454 : decode cL_law 454 = .ok (.iaload, 1) := by decide +kernel
theorem dL_law_455 : decode cL_law 455 = .ok (.aload_n 0, 1) := by decide +kernel
theorem dL_law_456 : decode cL_law 456 = .ok (.iload_n 3, 1) := by decide +kernel
theorem dL_law_457 : decode cL_law 457 = .ok (.iconst 4, 1) := by decide +kernel
theorem dL_law_458 : decode cL_law 458 = .ok (.iadd, 1) := by decide +kernel
theorem dL_law_459 : decode cL_law 459 = .ok (.iaload, 1) := by decide +kernel
theorem dL_law_460 : decode cL_law 460 = .ok (.invokevirtual 37, 3) := by decide +kernel
theorem dL_law_463 : decode cL_law 463 = .ok (.aload_n 2, 1) := by decide +kernel
theorem dL_law_464 : decode cL_law 464 = .ok (.aload_n 0, 1) := by decide +kernel
theorem dL_law_465 : decode cL_law 465 = .ok (.iload_n 3, 1) := by decide +kernel
theorem dL_law_466 : decode cL_law 466 = .ok (.iconst 1, 1) := by decide +kernel
theorem dL_law_467 : decode cL_law 467 = .ok (.iadd, 1) := by decide +kernel
theorem dL_law_468 : decode cL_law 468 = .ok (.iaload, 1) := by decide +kernel
theorem dL_law_469 : decode cL_law 469 = .ok (.aload_n 0, 1) := by decide +kernel
theorem dL_law_470 : decode cL_law 470 = .ok (.iload_n 3, 1) := by decide +kernel
theorem dL_law_471 : decode cL_law 471 = .ok (.iconst 2, 1) := by decide +kernel
theorem dL_law_472 : decode cL_law 472 = .ok (.iadd, 1) := by decide +kernel
theorem dL_law_473 : decode cL_law 473 = .ok (.iaload, 1) := by decide +kernel
theorem dL_law_474 : decode cL_law 474 = .ok (.aload_n 0, 1) := by decide +kernel
theorem dL_law_475 : decode cL_law 475 = .ok (.iload_n 3, 1) := by decide +kernel
theorem dL_law_476 : decode cL_law 476 = .ok (.iconst 3, 1) := by decide +kernel
theorem dL_law_477 : decode cL_law 477 = .ok (.iadd, 1) := by decide +kernel
theorem dL_law_478 : decode cL_law 478 = .ok (.iaload, 1) := by decide +kernel
theorem dL_law_479 : decode cL_law 479 = .ok (.aload_n 0, 1) := by decide +kernel
theorem dL_law_480 : decode cL_law 480 = .ok (.iload_n 3, 1) := by decide +kernel
theorem dL_law_481 : decode cL_law 481 = .ok (.iconst 4, 1) := by decide +kernel
theorem dL_law_482 : decode cL_law 482 = .ok (.iadd, 1) := by decide +kernel
theorem dL_law_483 : decode cL_law 483 = .ok (.iaload, 1) := by decide +kernel
theorem dL_law_484 : decode cL_law 484 = .ok (.invokevirtual 40, 3) := by decide +kernel
theorem dL_law_487 : decode cL_law 487 = .ok (.if_icmp .eq 1230, 3) := by decide +kernel
theorem dL_law_492 : decode cL_law 492 = .ok (.aload_n 1, 1) := by decide +kernel
theorem dL_law_493 : decode cL_law 493 = .ok (.aload_n 0, 1) := by decide +kernel
theorem dL_law_494 : decode cL_law 494 = .ok (.iload_n 3, 1) := by decide +kernel
theorem dL_law_495 : decode cL_law 495 = .ok (.iconst 1, 1) := by decide +kernel
theorem dL_law_496 : decode cL_law 496 = .ok (.iadd, 1) := by decide +kernel
theorem dL_law_497 : decode cL_law 497 = .ok (.iaload, 1) := by decide +kernel
theorem dL_law_498 : decode cL_law 498 = .ok (.aload_n 0, 1) := by decide +kernel
theorem dL_law_499 : decode cL_law 499 = .ok (.iload_n 3, 1) := by decide +kernel
theorem dL_law_500 : decode cL_law 500 = .ok (.iconst 2, 1) := by decide +kernel
theorem dL_law_501 : decode cL_law 501 = .ok (.iadd, 1) := by decide +kernel
theorem dL_law_502 : decode cL_law 502 = .ok (.iaload, 1) := by decide +kernel
theorem dL_law_503 : decode cL_law 503 = .ok (.aload_n 0, 1) := by decide +kernel
theorem dL_law_504 : decode cL_law 504 = .ok (.iload_n 3, 1) := by decide +kernel
theorem dL_law_505 : decode cL_law 505 = .ok (.iconst 3, 1) := by decide +kernel
theorem dL_law_506 : decode cL_law 506 = .ok (.iadd, 1) := by decide +kernel
theorem dL_law_507 : decode cL_law 507 = .ok (.iaload, 1) := by decide +kernel
theorem dL_law_508 : decode cL_law 508 = .ok (.invokevirtual 41, 3) := by decide +kernel
theorem dL_law_511 : decode cL_law 511 = .ok (.aload_n 2, 1) := by decide +kernel
theorem dL_law_512 : decode cL_law 512 = .ok (.aload_n 0, 1) := by decide +kernel
theorem dL_law_513 : decode cL_law 513 = .ok (.iload_n 3, 1) := by decide +kernel
theorem dL_law_514 : decode cL_law 514 = .ok (.iconst 1, 1) := by decide +kernel
theorem dL_law_515 : decode cL_law 515 = .ok (.iadd, 1) := by decide +kernel
theorem dL_law_516 : decode cL_law 516 = .ok (.iaload, 1) := by decide +kernel
theorem dL_law_517 : decode cL_law 517 = .ok (.aload_n 0, 1) := by decide +kernel
theorem dL_law_518 : decode cL_law 518 = .ok (.iload_n 3, 1) := by decide +kernel
theorem dL_law_519 : decode cL_law 519 = .ok (.iconst 2, 1) := by decide +kernel
theorem dL_law_520 : decode cL_law 520 = .ok (.iadd, 1) := by decide +kernel
theorem dL_law_521 : decode cL_law 521 = .ok (.iaload, 1) := by decide +kernel
theorem dL_law_522 : decode cL_law 522 = .ok (.aload_n 0, 1) := by decide +kernel
theorem dL_law_523 : decode cL_law 523 = .ok (.iload_n 3, 1) := by decide +kernel
theorem dL_law_524 : decode cL_law 524 = .ok (.iconst 3, 1) := by decide +kernel
theorem dL_law_525 : decode cL_law 525 = .ok (.iadd, 1) := by decide +kernel
theorem dL_law_526 : decode cL_law 526 = .ok (.iaload, 1) := by decide +kernel
theorem dL_law_527 : decode cL_law 527 = .ok (.invokevirtual 44, 3) := by decide +kernel
theorem dL_law_530 : decode cL_law 530 = .ok (.if_icmp .eq 1187, 3) := by decide +kernel
theorem dL_law_535 : decode cL_law 535 = .ok (.aload_n 1, 1) := by decide +kernel
theorem dL_law_536 : decode cL_law 536 = .ok (.aload_n 0, 1) := by decide +kernel
theorem dL_law_537 : decode cL_law 537 = .ok (.iload_n 3, 1) := by decide +kernel
theorem dL_law_538 : decode cL_law 538 = .ok (.iconst 1, 1) := by decide +kernel
theorem dL_law_539 : decode cL_law 539 = .ok (.iadd, 1) := by decide +kernel
theorem dL_law_540 : decode cL_law 540 = .ok (.iaload, 1) := by decide +kernel
theorem dL_law_541 : decode cL_law 541 = .ok (.aload_n 0, 1) := by decide +kernel
theorem dL_law_542 : decode cL_law 542 = .ok (.iload_n 3, 1) := by decide +kernel
theorem dL_law_543 : decode cL_law 543 = .ok (.iconst 2, 1) := by decide +kernel
theorem dL_law_544 : decode cL_law 544 = .ok (.iadd, 1) := by decide +kernel
theorem dL_law_545 : decode cL_law 545 = .ok (.iaload, 1) := by decide +kernel
theorem dL_law_546 : decode cL_law 546 = .ok (.invokevirtual 45, 3) := by decide +kernel
theorem dL_law_549 : decode cL_law 549 = .ok (.aload_n 2, 1) := by decide +kernel
theorem dL_law_550 : decode cL_law 550 = .ok (.aload_n 0, 1) := by decide +kernel
theorem dL_law_551 : decode cL_law 551 = .ok (.iload_n 3, 1) := by decide +kernel
theorem dL_law_552 : decode cL_law 552 = .ok (.iconst 1, 1) := by decide +kernel
theorem dL_law_553 : decode cL_law 553 = .ok (.iadd, 1) := by decide +kernel
theorem dL_law_554 : decode cL_law 554 = .ok (.iaload, 1) := by decide +kernel
theorem dL_law_555 : decode cL_law 555 = .ok (.aload_n 0, 1) := by decide +kernel
theorem dL_law_556 : decode cL_law 556 = .ok (.iload_n 3, 1) := by decide +kernel
theorem dL_law_557 : decode cL_law 557 = .ok (.iconst 2, 1) := by decide +kernel
theorem dL_law_558 : decode cL_law 558 = .ok (.iadd, 1) := by decide +kernel
theorem dL_law_559 : decode cL_law 559 = .ok (.iaload, 1) := by decide +kernel
theorem dL_law_560 : decode cL_law 560 = .ok (.invokevirtual 48, 3) := by decide +kernel
theorem dL_law_563 : decode cL_law 563 = .ok (.if_icmp .eq 1154, 3) := by decide +kernel
theorem dL_law_568 : decode cL_law 568 = .ok (.aload_n 1, 1) := by decide +kernel
theorem dL_law_569 : decode cL_law 569 = .ok (.aload_n 0, 1) := by decide +kernel
theorem dL_law_570 : decode cL_law 570 = .ok (.iload_n 3, 1) := by decide +kernel
theorem dL_law_571 : decode cL_law 571 = .ok (.iconst 1, 1) := by decide +kernel
theorem dL_law_572 : decode cL_law 572 = .ok (.iadd, 1) := by decide +kernel
theorem dL_law_573 : decode cL_law 573 = .ok (.iaload, 1) := by decide +kernel
theorem dL_law_574 : decode cL_law 574 = .ok (.aload_n 0, 1) := by decide +kernel
theorem dL_law_575 : decode cL_law 575 = .ok (.iload_n 3, 1) := by decide +kernel
theorem dL_law_576 : decode cL_law 576 = .ok (.iconst 2, 1) := by decide +kernel
theorem dL_law_577 : decode cL_law 577 = .ok (.iadd, 1) := by decide +kernel
theorem dL_law_578 : decode cL_law 578 = .ok (.iaload, 1) := by decide +kernel
theorem dL_law_579 : decode cL_law 579 = .ok (.aload_n 0, 1) := by decide +kernel
theorem dL_law_580 : decode cL_law 580 = .ok (.iload_n 3, 1) := by decide +kernel
theorem dL_law_581 : decode cL_law 581 = .ok (.iconst 3, 1) := by decide +kernel
theorem dL_law_582 : decode cL_law 582 = .ok (.iadd, 1) := by decide +kernel
theorem dL_law_583 : decode cL_law 583 = .ok (.iaload, 1) := by decide +kernel
theorem dL_law_584 : decode cL_law 584 = .ok (.invokevirtual 49, 3) := by decide +kernel
theorem dL_law_587 : decode cL_law 587 = .ok (.aload_n 2, 1) := by decide +kernel
theorem dL_law_588 : decode cL_law 588 = .ok (.aload_n 0, 1) := by decide +kernel
theorem dL_law_589 : decode cL_law 589 = .ok (.iload_n 3, 1) := by decide +kernel
theorem dL_law_590 : decode cL_law 590 = .ok (.iconst 1, 1) := by decide +kernel
theorem dL_law_591 : decode cL_law 591 = .ok (.iadd, 1) := by decide +kernel
theorem dL_law_592 : decode cL_law 592 = .ok (.iaload, 1) := by decide +kernel
theorem dL_law_593 : decode cL_law 593 = .ok (.aload_n 0, 1) := by decide +kernel
theorem dL_law_594 : decode cL_law 594 = .ok (.iload_n 3, 1) := by decide +kernel
theorem dL_law_595 : decode cL_law 595 = .ok (.iconst 2, 1) := by decide +kernel
theorem dL_law_596 : decode cL_law 596 = .ok (.iadd, 1) := by decide +kernel
theorem dL_law_597 : decode cL_law 597 = .ok (.iaload, 1) := by decide +kernel
theorem dL_law_598 : decode cL_law 598 = .ok (.aload_n 0, 1) := by decide +kernel
theorem dL_law_599 : decode cL_law 599 = .ok (.iload_n 3, 1) := by decide +kernel
theorem dL_law_600 : decode cL_law 600 = .ok (.iconst 3, 1) := by decide +kernel
theorem dL_law_601 : decode cL_law 601 = .ok (.iadd, 1) := by decide +kernel
theorem dL_law_602 : decode cL_law 602 = .ok (.iaload, 1) := by decide +kernel
theorem dL_law_603 : decode cL_law 603 = .ok (.invokevirtual 52, 3) := by decide +kernel
theorem dL_law_606 : decode cL_law 606 = .ok (.if_icmp .eq 1111, 3) := by decide +kernel
theorem dL_law_611 : decode cL_law 611 = .ok (.aload_n 1, 1) := by decide +kernel
theorem dL_law_612 : decode cL_law 612 = .ok (.aload_n 0, 1) := by decide +kernel
theorem dL_law_613 : decode cL_law 613 = .ok (.iload_n 3, 1) := by decide +kernel
theorem dL_law_614 : decode cL_law 614 = .ok (.iconst 1, 1) := by decide +kernel
theorem dL_law_615 : decode cL_law 615 = .ok (.iadd, 1) := by decide +kernel
theorem dL_law_616 : decode cL_law 616 = .ok (.iaload, 1) := by decide +kernel
theorem dL_law_617 : decode cL_law 617 = .ok (.invokevirtual 53, 3) := by decide +kernel
theorem dL_law_620 : decode cL_law 620 = .ok (.aload_n 2, 1) := by decide +kernel
theorem dL_law_621 : decode cL_law 621 = .ok (.aload_n 0, 1) := by decide +kernel
theorem dL_law_622 : decode cL_law 622 = .ok (.iload_n 3, 1) := by decide +kernel
theorem dL_law_623 : decode cL_law 623 = .ok (.iconst 1, 1) := by decide +kernel
theorem dL_law_624 : decode cL_law 624 = .ok (.iadd, 1) := by decide +kernel
theorem dL_law_625 : decode cL_law 625 = .ok (.iaload, 1) := by decide +kernel
theorem dL_law_626 : decode cL_law 626 = .ok (.invokevirtual 57, 3) := by decide +kernel
theorem dL_law_629 : decode cL_law 629 = .ok (.if_icmp .eq 1088, 3) := by decide +kernel
theorem dL_law_634 : decode cL_law 634 = .ok (.aload_n 1, 1) := by decide +kernel
theorem dL_law_635 : decode cL_law 635 = .ok (.aload_n 0, 1) := by decide +kernel
theorem dL_law_636 : decode cL_law 636 = .ok (.iload_n 3, 1) := by decide +kernel
theorem dL_law_637 : decode cL_law 637 = .ok (.iconst 1, 1) := by decide +kernel
theorem dL_law_638 : decode cL_law 638 = .ok (.iadd, 1) := by decide +kernel
theorem dL_law_639 : decode cL_law 639 = .ok (.iaload, 1) := by decide +kernel
theorem dL_law_640 : decode cL_law 640 = .ok (.aload_n 0, 1) := by decide +kernel
theorem dL_law_641 : decode cL_law 641 = .ok (.iload_n 3, 1) := by decide +kernel
theorem dL_law_642 : decode cL_law 642 = .ok (.iconst 2, 1) := by decide +kernel
theorem dL_law_643 : decode cL_law 643 = .ok (.iadd, 1) := by decide +kernel
theorem dL_law_644 : decode cL_law 644 = .ok (.iaload, 1) := by decide +kernel
theorem dL_law_645 : decode cL_law 645 = .ok (.invokevirtual 58, 3) := by decide +kernel
theorem dL_law_648 : decode cL_law 648 = .ok (.aload_n 2, 1) := by decide +kernel
theorem dL_law_649 : decode cL_law 649 = .ok (.aload_n 0, 1) := by decide +kernel
theorem dL_law_650 : decode cL_law 650 = .ok (.iload_n 3, 1) := by decide +kernel
theorem dL_law_651 : decode cL_law 651 = .ok (.iconst 1, 1) := by decide +kernel
theorem dL_law_652 : decode cL_law 652 = .ok (.iadd, 1) := by decide +kernel
theorem dL_law_653 : decode cL_law 653 = .ok (.iaload, 1) := by decide +kernel
theorem dL_law_654 : decode cL_law 654 = .ok (.aload_n 0, 1) := by decide +kernel
theorem dL_law_655 : decode cL_law 655 = .ok (.iload_n 3, 1) := by decide +kernel
theorem dL_law_656 : decode cL_law 656 = .ok (.iconst 2, 1) := by decide +kernel
theorem dL_law_657 : decode cL_law 657 = .ok (.iadd, 1) := by decide +kernel
theorem dL_law_658 : decode cL_law 658 = .ok (.iaload, 1) := by decide +kernel
theorem dL_law_659 : decode cL_law 659 = .ok (.invokevirtual 61, 3) := by decide +kernel
theorem dL_law_662 : decode cL_law 662 = .ok (.if_icmp .eq 1055, 3) := by decide +kernel
theorem dL_law_667 : decode cL_law 667 = .ok (.aload_n 1, 1) := by decide +kernel
theorem dL_law_668 : decode cL_law 668 = .ok (.aload_n 0, 1) := by decide +kernel
theorem dL_law_669 : decode cL_law 669 = .ok (.iload_n 3, 1) := by decide +kernel
theorem dL_law_670 : decode cL_law 670 = .ok (.iconst 1, 1) := by decide +kernel
theorem dL_law_671 : decode cL_law 671 = .ok (.iadd, 1) := by decide +kernel
theorem dL_law_672 : decode cL_law 672 = .ok (.iaload, 1) := by decide +kernel
theorem dL_law_673 : decode cL_law 673 = .ok (.aload_n 0, 1) := by decide +kernel
theorem dL_law_674 : decode cL_law 674 = .ok (.iload_n 3, 1) := by decide +kernel
theorem dL_law_675 : decode cL_law 675 = .ok (.iconst 2, 1) := by decide +kernel
theorem dL_law_676 : decode cL_law 676 = .ok (.iadd, 1) := by decide +kernel
theorem dL_law_677 : decode cL_law 677 = .ok (.iaload, 1) := by decide +kernel
theorem dL_law_678 : decode cL_law 678 = .ok (.invokevirtual 62, 3) := by decide +kernel
theorem dL_law_681 : decode cL_law 681 = .ok (.aload_n 2, 1) := by decide +kernel
theorem dL_law_682 : decode cL_law 682 = .ok (.aload_n 0, 1) := by decide +kernel
theorem dL_law_683 : decode cL_law 683 = .ok (.iload_n 3, 1) := by decide +kernel
theorem dL_law_684 : decode cL_law 684 = .ok (.iconst 1, 1) := by decide +kernel
theorem dL_law_685 : decode cL_law 685 = .ok (.iadd, 1) := by decide +kernel
theorem dL_law_686 : decode cL_law 686 = .ok (.iaload, 1) := by decide +kernel
theorem dL_law_687 : decode cL_law 687 = .ok (.aload_n 0, 1) := by decide +kernel
theorem dL_law_688 : decode cL_law 688 = .ok (.iload_n 3, 1) := by decide +kernel
theorem dL_law_689 : decode cL_law 689 = .ok (.iconst 2, 1) := by decide +kernel
theorem dL_law_690 : decode cL_law 690 = .ok (.iadd, 1) := by decide +kernel
theorem dL_law_691 : decode cL_law 691 = .ok (.iaload, 1) := by decide +kernel
theorem dL_law_692 : decode cL_law 692 = .ok (.invokevirtual 65, 3) := by decide +kernel
theorem dL_law_695 : decode cL_law 695 = .ok (.if_icmp .eq 1022, 3) := by decide +kernel
theorem dL_law_700 : decode cL_law 700 = .ok (.aload_n 1, 1) := by decide +kernel
theorem dL_law_701 : decode cL_law 701 = .ok (.aload_n 0, 1) := by decide +kernel
theorem dL_law_702 : decode cL_law 702 = .ok (.iload_n 3, 1) := by decide +kernel
theorem dL_law_703 : decode cL_law 703 = .ok (.iconst 1, 1) := by decide +kernel
theorem dL_law_704 : decode cL_law 704 = .ok (.iadd, 1) := by decide +kernel
theorem dL_law_705 : decode cL_law 705 = .ok (.iaload, 1) := by decide +kernel
theorem dL_law_706 : decode cL_law 706 = .ok (.aload_n 0, 1) := by decide +kernel
theorem dL_law_707 : decode cL_law 707 = .ok (.iload_n 3, 1) := by decide +kernel
theorem dL_law_708 : decode cL_law 708 = .ok (.iconst 2, 1) := by decide +kernel
theorem dL_law_709 : decode cL_law 709 = .ok (.iadd, 1) := by decide +kernel
theorem dL_law_710 : decode cL_law 710 = .ok (.iaload, 1) := by decide +kernel
theorem dL_law_711 : decode cL_law 711 = .ok (.invokevirtual 66, 3) := by decide +kernel
theorem dL_law_714 : decode cL_law 714 = .ok (.aload_n 2, 1) := by decide +kernel
theorem dL_law_715 : decode cL_law 715 = .ok (.aload_n 0, 1) := by decide +kernel
theorem dL_law_716 : decode cL_law 716 = .ok (.iload_n 3, 1) := by decide +kernel
theorem dL_law_717 : decode cL_law 717 = .ok (.iconst 1, 1) := by decide +kernel
theorem dL_law_718 : decode cL_law 718 = .ok (.iadd, 1) := by decide +kernel
theorem dL_law_719 : decode cL_law 719 = .ok (.iaload, 1) := by decide +kernel
theorem dL_law_720 : decode cL_law 720 = .ok (.aload_n 0, 1) := by decide +kernel
theorem dL_law_721 : decode cL_law 721 = .ok (.iload_n 3, 1) := by decide +kernel
theorem dL_law_722 : decode cL_law 722 = .ok (.iconst 2, 1) := by decide +kernel
theorem dL_law_723 : decode cL_law 723 = .ok (.iadd, 1) := by decide +kernel
theorem dL_law_724 : decode cL_law 724 = .ok (.iaload, 1) := by decide +kernel
theorem dL_law_725 : decode cL_law 725 = .ok (.invokevirtual 70, 3) := by decide +kernel
theorem dL_law_728 : decode cL_law 728 = .ok (.lcmp, 1) := by decide +kernel
theorem dL_law_729 : decode cL_law 729 = .ok (.ifCond .eq 988, 3) := by decide +kernel
theorem dL_law_734 : decode cL_law 734 = .ok (.aload_n 1, 1) := by decide +kernel
theorem dL_law_735 : decode cL_law 735 = .ok (.aload_n 0, 1) := by decide +kernel
theorem dL_law_736 : decode cL_law 736 = .ok (.iload_n 3, 1) := by decide +kernel
theorem dL_law_737 : decode cL_law 737 = .ok (.iconst 1, 1) := by decide +kernel
theorem dL_law_738 : decode cL_law 738 = .ok (.iadd, 1) := by decide +kernel
theorem dL_law_739 : decode cL_law 739 = .ok (.iaload, 1) := by decide +kernel
theorem dL_law_740 : decode cL_law 740 = .ok (.invokevirtual 71, 3) := by decide +kernel
theorem dL_law_743 : decode cL_law 743 = .ok (.aload_n 2, 1) := by decide +kernel
theorem dL_law_744 : decode cL_law 744 = .ok (.aload_n 0, 1) := by decide +kernel
theorem dL_law_745 : decode cL_law 745 = .ok (.iload_n 3, 1) := by decide +kernel
theorem dL_law_746 : decode cL_law 746 = .ok (.iconst 1, 1) := by decide +kernel
theorem dL_law_747 : decode cL_law 747 = .ok (.iadd, 1) := by decide +kernel
theorem dL_law_748 : decode cL_law 748 = .ok (.iaload, 1) := by decide +kernel
theorem dL_law_749 : decode cL_law 749 = .ok (.invokevirtual 74, 3) := by decide +kernel
theorem dL_law_752 : decode cL_law 752 = .ok (.if_icmp .eq 965, 3) := by decide +kernel
theorem dL_law_757 : decode cL_law 757 = .ok (.aload_n 1, 1) := by decide +kernel
theorem dL_law_758 : decode cL_law 758 = .ok (.aload_n 0, 1) := by decide +kernel
theorem dL_law_759 : decode cL_law 759 = .ok (.iload_n 3, 1) := by decide +kernel
theorem dL_law_760 : decode cL_law 760 = .ok (.iconst 1, 1) := by decide +kernel
theorem dL_law_761 : decode cL_law 761 = .ok (.iadd, 1) := by decide +kernel
theorem dL_law_762 : decode cL_law 762 = .ok (.iaload, 1) := by decide +kernel
theorem dL_law_763 : decode cL_law 763 = .ok (.aload_n 0, 1) := by decide +kernel
theorem dL_law_764 : decode cL_law 764 = .ok (.iload_n 3, 1) := by decide +kernel
theorem dL_law_765 : decode cL_law 765 = .ok (.iconst 2, 1) := by decide +kernel
theorem dL_law_766 : decode cL_law 766 = .ok (.iadd, 1) := by decide +kernel
theorem dL_law_767 : decode cL_law 767 = .ok (.iaload, 1) := by decide +kernel
theorem dL_law_768 : decode cL_law 768 = .ok (.invokevirtual 75, 3) := by decide +kernel
theorem dL_law_771 : decode cL_law 771 = .ok (.aload_n 2, 1) := by decide +kernel
theorem dL_law_772 : decode cL_law 772 = .ok (.aload_n 0, 1) := by decide +kernel
theorem dL_law_773 : decode cL_law 773 = .ok (.iload_n 3, 1) := by decide +kernel
theorem dL_law_774 : decode cL_law 774 = .ok (.iconst 1, 1) := by decide +kernel
theorem dL_law_775 : decode cL_law 775 = .ok (.iadd, 1) := by decide +kernel
theorem dL_law_776 : decode cL_law 776 = .ok (.iaload, 1) := by decide +kernel
theorem dL_law_777 : decode cL_law 777 = .ok (.aload_n 0, 1) := by decide +kernel
theorem dL_law_778 : decode cL_law 778 = .ok (.iload_n 3, 1) := by decide +kernel
theorem dL_law_779 : decode cL_law 779 = .ok (.iconst 2, 1) := by decide +kernel
theorem dL_law_780 : decode cL_law 780 = .ok (.iadd, 1) := by decide +kernel
theorem dL_law_781 : decode cL_law 781 = .ok (.iaload, 1) := by decide +kernel
theorem dL_law_782 : decode cL_law 782 = .ok (.invokevirtual 78, 3) := by decide +kernel
theorem dL_law_785 : decode cL_law 785 = .ok (.if_icmp .eq 932, 3) := by decide +kernel
theorem dL_law_790 : decode cL_law 790 = .ok (.aload_n 1, 1) := by decide +kernel
theorem dL_law_791 : decode cL_law 791 = .ok (.aload_n 0, 1) := by decide +kernel
theorem dL_law_792 : decode cL_law 792 = .ok (.iload_n 3, 1) := by decide +kernel
theorem dL_law_793 : decode cL_law 793 = .ok (.iconst 1, 1) := by decide +kernel
theorem dL_law_794 : decode cL_law 794 = .ok (.iadd, 1) := by decide +kernel
theorem dL_law_795 : decode cL_law 795 = .ok (.iaload, 1) := by decide +kernel
theorem dL_law_796 : decode cL_law 796 = .ok (.aload_n 0, 1) := by decide +kernel
theorem dL_law_797 : decode cL_law 797 = .ok (.iload_n 3, 1) := by decide +kernel
theorem dL_law_798 : decode cL_law 798 = .ok (.iconst 2, 1) := by decide +kernel
theorem dL_law_799 : decode cL_law 799 = .ok (.iadd, 1) := by decide +kernel
theorem dL_law_800 : decode cL_law 800 = .ok (.iaload, 1) := by decide +kernel
theorem dL_law_801 : decode cL_law 801 = .ok (.invokevirtual 79, 3) := by decide +kernel
theorem dL_law_804 : decode cL_law 804 = .ok (.aload_n 2, 1) := by decide +kernel
theorem dL_law_805 : decode cL_law 805 = .ok (.aload_n 0, 1) := by decide +kernel
theorem dL_law_806 : decode cL_law 806 = .ok (.iload_n 3, 1) := by decide +kernel
theorem dL_law_807 : decode cL_law 807 = .ok (.iconst 1, 1) := by decide +kernel
theorem dL_law_808 : decode cL_law 808 = .ok (.iadd, 1) := by decide +kernel
theorem dL_law_809 : decode cL_law 809 = .ok (.iaload, 1) := by decide +kernel
theorem dL_law_810 : decode cL_law 810 = .ok (.aload_n 0, 1) := by decide +kernel
theorem dL_law_811 : decode cL_law 811 = .ok (.iload_n 3, 1) := by decide +kernel
theorem dL_law_812 : decode cL_law 812 = .ok (.iconst 2, 1) := by decide +kernel
theorem dL_law_813 : decode cL_law 813 = .ok (.iadd, 1) := by decide +kernel
theorem dL_law_814 : decode cL_law 814 = .ok (.iaload, 1) := by decide +kernel
theorem dL_law_815 : decode cL_law 815 = .ok (.invokevirtual 82, 3) := by decide +kernel
theorem dL_law_818 : decode cL_law 818 = .ok (.if_icmp .eq 899, 3) := by decide +kernel
theorem dL_law_823 : decode cL_law 823 = .ok (.aload_n 1, 1) := by decide +kernel
theorem dL_law_824 : decode cL_law 824 = .ok (.aload_n 0, 1) := by decide +kernel
theorem dL_law_825 : decode cL_law 825 = .ok (.iload_n 3, 1) := by decide +kernel
theorem dL_law_826 : decode cL_law 826 = .ok (.iconst 1, 1) := by decide +kernel
theorem dL_law_827 : decode cL_law 827 = .ok (.iadd, 1) := by decide +kernel
theorem dL_law_828 : decode cL_law 828 = .ok (.iaload, 1) := by decide +kernel
theorem dL_law_829 : decode cL_law 829 = .ok (.aload_n 0, 1) := by decide +kernel
theorem dL_law_830 : decode cL_law 830 = .ok (.iload_n 3, 1) := by decide +kernel
theorem dL_law_831 : decode cL_law 831 = .ok (.iconst 2, 1) := by decide +kernel
theorem dL_law_832 : decode cL_law 832 = .ok (.iadd, 1) := by decide +kernel
theorem dL_law_833 : decode cL_law 833 = .ok (.iaload, 1) := by decide +kernel
theorem dL_law_834 : decode cL_law 834 = .ok (.invokevirtual 83, 3) := by decide +kernel
theorem dL_law_837 : decode cL_law 837 = .ok (.aload_n 2, 1) := by decide +kernel
theorem dL_law_838 : decode cL_law 838 = .ok (.aload_n 0, 1) := by decide +kernel
theorem dL_law_839 : decode cL_law 839 = .ok (.iload_n 3, 1) := by decide +kernel
theorem dL_law_840 : decode cL_law 840 = .ok (.iconst 1, 1) := by decide +kernel
theorem dL_law_841 : decode cL_law 841 = .ok (.iadd, 1) := by decide +kernel
theorem dL_law_842 : decode cL_law 842 = .ok (.iaload, 1) := by decide +kernel
theorem dL_law_843 : decode cL_law 843 = .ok (.aload_n 0, 1) := by decide +kernel
theorem dL_law_844 : decode cL_law 844 = .ok (.iload_n 3, 1) := by decide +kernel
theorem dL_law_845 : decode cL_law 845 = .ok (.iconst 2, 1) := by decide +kernel
theorem dL_law_846 : decode cL_law 846 = .ok (.iadd, 1) := by decide +kernel
theorem dL_law_847 : decode cL_law 847 = .ok (.iaload, 1) := by decide +kernel
theorem dL_law_848 : decode cL_law 848 = .ok (.invokevirtual 86, 3) := by decide +kernel
theorem dL_law_851 : decode cL_law 851 = .ok (.if_icmp .eq 866, 3) := by decide +kernel
theorem dL_law_856 : decode cL_law 856 = .ok (.aload_n 1, 1) := by decide +kernel
theorem dL_law_857 : decode cL_law 857 = .ok (.aload_n 0, 1) := by decide +kernel
theorem dL_law_858 : decode cL_law 858 = .ok (.iload_n 3, 1) := by decide +kernel
theorem dL_law_859 : decode cL_law 859 = .ok (.iconst 1, 1) := by decide +kernel
theorem dL_law_860 : decode cL_law 860 = .ok (.iadd, 1) := by decide +kernel
theorem dL_law_861 : decode cL_law 861 = .ok (.iaload, 1) := by decide +kernel
theorem dL_law_862 : decode cL_law 862 = .ok (.aload_n 0, 1) := by decide +kernel
theorem dL_law_863 : decode cL_law 863 = .ok (.iload_n 3, 1) := by decide +kernel
theorem dL_law_864 : decode cL_law 864 = .ok (.iconst 2, 1) := by decide +kernel
theorem dL_law_865 : decode cL_law 865 = .ok (.iadd, 1) := by decide +kernel
theorem dL_law_866 : decode cL_law 866 = .ok (.iaload, 1) := by decide +kernel
theorem dL_law_867 : decode cL_law 867 = .ok (.aload_n 0, 1) := by decide +kernel
theorem dL_law_868 : decode cL_law 868 = .ok (.iload_n 3, 1) := by decide +kernel
theorem dL_law_869 : decode cL_law 869 = .ok (.iconst 3, 1) := by decide +kernel
theorem dL_law_870 : decode cL_law 870 = .ok (.iadd, 1) := by decide +kernel
theorem dL_law_871 : decode cL_law 871 = .ok (.iaload, 1) := by decide +kernel
theorem dL_law_872 : decode cL_law 872 = .ok (.invokevirtual 87, 3) := by decide +kernel
theorem dL_law_875 : decode cL_law 875 = .ok (.aload_n 2, 1) := by decide +kernel
theorem dL_law_876 : decode cL_law 876 = .ok (.aload_n 0, 1) := by decide +kernel
theorem dL_law_877 : decode cL_law 877 = .ok (.iload_n 3, 1) := by decide +kernel
theorem dL_law_878 : decode cL_law 878 = .ok (.iconst 1, 1) := by decide +kernel
theorem dL_law_879 : decode cL_law 879 = .ok (.iadd, 1) := by decide +kernel
theorem dL_law_880 : decode cL_law 880 = .ok (.iaload, 1) := by decide +kernel
theorem dL_law_881 : decode cL_law 881 = .ok (.aload_n 0, 1) := by decide +kernel
theorem dL_law_882 : decode cL_law 882 = .ok (.iload_n 3, 1) := by decide +kernel
theorem dL_law_883 : decode cL_law 883 = .ok (.iconst 2, 1) := by decide +kernel
theorem dL_law_884 : decode cL_law 884 = .ok (.iadd, 1) := by decide +kernel
theorem dL_law_885 : decode cL_law 885 = .ok (.iaload, 1) := by decide +kernel
theorem dL_law_886 : decode cL_law 886 = .ok (.aload_n 0, 1) := by decide +kernel
theorem dL_law_887 : decode cL_law 887 = .ok (.iload_n 3, 1) := by decide +kernel
theorem dL_law_888 : decode cL_law 888 = .ok (.iconst 3, 1) := by decide +kernel
theorem dL_law_889 : decode cL_law 889 = .ok (.iadd, 1) := by decide +kernel
theorem dL_law_890 : decode cL_law 890 = .ok (.iaload, 1) := by decide +kernel
theorem dL_law_891 : decode cL_law 891 = .ok (.invokevirtual 90, 3) := by decide +kernel
theorem dL_law_894 : decode cL_law 894 = .ok (.if_icmp .eq 823, 3) := by decide +kernel
theorem dL_law_899 : decode cL_law 899 = .ok (.aload_n 1, 1) := by decide +kernel
theorem dL_law_900 : decode cL_law 900 = .ok (.aload_n 0, 1) := by decide +kernel
theorem dL_law_901 : decode cL_law 901 = .ok (.iload_n 3, 1) := by decide +kernel
theorem dL_law_902 : decode cL_law 902 = .ok (.iconst 1, 1) := by decide +kernel
theorem dL_law_903 : decode cL_law 903 = .ok (.iadd, 1) := by decide +kernel
theorem dL_law_904 : decode cL_law 904 = .ok (.iaload, 1) := by decide +kernel
theorem dL_law_905 : decode cL_law 905 = .ok (.aload_n 0, 1) := by decide +kernel
theorem dL_law_906 : decode cL_law 906 = .ok (.iload_n 3, 1) := by decide +kernel
theorem dL_law_907 : decode cL_law 907 = .ok (.iconst 2, 1) := by decide +kernel
theorem dL_law_908 : decode cL_law 908 = .ok (.iadd, 1) := by decide +kernel
theorem dL_law_909 : decode cL_law 909 = .ok (.iaload, 1) := by decide +kernel
theorem dL_law_910 : decode cL_law 910 = .ok (.aload_n 0, 1) := by decide +kernel
theorem dL_law_911 : decode cL_law 911 = .ok (.iload_n 3, 1) := by decide +kernel
theorem dL_law_912 : decode cL_law 912 = .ok (.iconst 3, 1) := by decide +kernel
theorem dL_law_913 : decode cL_law 913 = .ok (.iadd, 1) := by decide +kernel
theorem dL_law_914 : decode cL_law 914 = .ok (.iaload, 1) := by decide +kernel
theorem dL_law_915 : decode cL_law 915 = .ok (.invokevirtual 91, 3) := by decide +kernel
theorem dL_law_918 : decode cL_law 918 = .ok (.aload_n 2, 1) := by decide +kernel
theorem dL_law_919 : decode cL_law 919 = .ok (.aload_n 0, 1) := by decide +kernel
theorem dL_law_920 : decode cL_law 920 = .ok (.iload_n 3, 1) := by decide +kernel
theorem dL_law_921 : decode cL_law 921 = .ok (.iconst 1, 1) := by decide +kernel
theorem dL_law_922 : decode cL_law 922 = .ok (.iadd, 1) := by decide +kernel
theorem dL_law_923 : decode cL_law 923 = .ok (.iaload, 1) := by decide +kernel
theorem dL_law_924 : decode cL_law 924 = .ok (.aload_n 0, 1) := by decide +kernel
theorem dL_law_925 : decode cL_law 925 = .ok (.iload_n 3, 1) := by decide +kernel
theorem dL_law_926 : decode cL_law 926 = .ok (.iconst 2, 1) := by decide +kernel
theorem dL_law_927 : decode cL_law 927 = .ok (.iadd, 1) := by decide +kernel
theorem dL_law_928 : decode cL_law 928 = .ok (.iaload, 1) := by decide +kernel
theorem dL_law_929 : decode cL_law 929 = .ok (.aload_n 0, 1) := by decide +kernel
theorem dL_law_930 : decode cL_law 930 = .ok (.iload_n 3, 1) := by decide +kernel
theorem dL_law_931 : decode cL_law 931 = .ok (.iconst 3, 1) := by decide +kernel
theorem dL_law_932 : decode cL_law 932 = .ok (.iadd, 1) := by decide +kernel
theorem dL_law_933 : decode cL_law 933 = .ok (.iaload, 1) := by decide +kernel
theorem dL_law_934 : decode cL_law 934 = .ok (.invokevirtual 94, 3) := by decide +kernel
theorem dL_law_937 : decode cL_law 937 = .ok (.if_icmp .eq 780, 3) := by decide +kernel
theorem dL_law_942 : decode cL_law 942 = .ok (.aload_n 1, 1) := by decide +kernel
theorem dL_law_943 : decode cL_law 943 = .ok (.aload_n 0, 1) := by decide +kernel
theorem dL_law_944 : decode cL_law 944 = .ok (.iload_n 3, 1) := by decide +kernel
theorem dL_law_945 : decode cL_law 945 = .ok (.iconst 1, 1) := by decide +kernel
theorem dL_law_946 : decode cL_law 946 = .ok (.iadd, 1) := by decide +kernel
theorem dL_law_947 : decode cL_law 947 = .ok (.iaload, 1) := by decide +kernel
theorem dL_law_948 : decode cL_law 948 = .ok (.aload_n 0, 1) := by decide +kernel
theorem dL_law_949 : decode cL_law 949 = .ok (.iload_n 3, 1) := by decide +kernel
theorem dL_law_950 : decode cL_law 950 = .ok (.iconst 2, 1) := by decide +kernel
theorem dL_law_951 : decode cL_law 951 = .ok (.iadd, 1) := by decide +kernel
theorem dL_law_952 : decode cL_law 952 = .ok (.iaload, 1) := by decide +kernel
theorem dL_law_953 : decode cL_law 953 = .ok (.invokevirtual 95, 3) := by decide +kernel
theorem dL_law_956 : decode cL_law 956 = .ok (.aload_n 2, 1) := by decide +kernel
theorem dL_law_957 : decode cL_law 957 = .ok (.aload_n 0, 1) := by decide +kernel
theorem dL_law_958 : decode cL_law 958 = .ok (.iload_n 3, 1) := by decide +kernel
theorem dL_law_959 : decode cL_law 959 = .ok (.iconst 1, 1) := by decide +kernel
theorem dL_law_960 : decode cL_law 960 = .ok (.iadd, 1) := by decide +kernel
theorem dL_law_961 : decode cL_law 961 = .ok (.iaload, 1) := by decide +kernel
theorem dL_law_962 : decode cL_law 962 = .ok (.aload_n 0, 1) := by decide +kernel
theorem dL_law_963 : decode cL_law 963 = .ok (.iload_n 3, 1) := by decide +kernel
theorem dL_law_964 : decode cL_law 964 = .ok (.iconst 2, 1) := by decide +kernel
theorem dL_law_965 : decode cL_law 965 = .ok (.iadd, 1) := by decide +kernel
theorem dL_law_966 : decode cL_law 966 = .ok (.iaload, 1) := by decide +kernel
theorem dL_law_967 : decode cL_law 967 = .ok (.invokevirtual 98, 3) := by decide +kernel
theorem dL_law_970 : decode cL_law 970 = .ok (.if_icmp .eq 747, 3) := by decide +kernel
theorem dL_law_975 : decode cL_law 975 = .ok (.aload_n 1, 1) := by decide +kernel
theorem dL_law_976 : decode cL_law 976 = .ok (.aload_n 0, 1) := by decide +kernel
theorem dL_law_977 : decode cL_law 977 = .ok (.iload_n 3, 1) := by decide +kernel
theorem dL_law_978 : decode cL_law 978 = .ok (.iconst 1, 1) := by decide +kernel
theorem dL_law_979 : decode cL_law 979 = .ok (.iadd, 1) := by decide +kernel
theorem dL_law_980 : decode cL_law 980 = .ok (.iaload, 1) := by decide +kernel
theorem dL_law_981 : decode cL_law 981 = .ok (.aload_n 0, 1) := by decide +kernel
theorem dL_law_982 : decode cL_law 982 = .ok (.iload_n 3, 1) := by decide +kernel
theorem dL_law_983 : decode cL_law 983 = .ok (.iconst 2, 1) := by decide +kernel
theorem dL_law_984 : decode cL_law 984 = .ok (.iadd, 1) := by decide +kernel
theorem dL_law_985 : decode cL_law 985 = .ok (.iaload, 1) := by decide +kernel
theorem dL_law_986 : decode cL_law 986 = .ok (.aload_n 0, 1) := by decide +kernel
theorem dL_law_987 : decode cL_law 987 = .ok (.iload_n 3, 1) := by decide +kernel
theorem dL_law_988 : decode cL_law 988 = .ok (.iconst 3, 1) := by decide +kernel
theorem dL_law_989 : decode cL_law 989 = .ok (.iadd, 1) := by decide +kernel
theorem dL_law_990 : decode cL_law 990 = .ok (.iaload, 1) := by decide +kernel
theorem dL_law_991 : decode cL_law 991 = .ok (.aload_n 0, 1) := by decide +kernel
theorem dL_law_992 : decode cL_law 992 = .ok (.iload_n 3, 1) := by decide +kernel
theorem dL_law_993 : decode cL_law 993 = .ok (.iconst 4, 1) := by decide +kernel
theorem dL_law_994 : decode cL_law 994 = .ok (.iadd, 1) := by decide +kernel
theorem dL_law_995 : decode cL_law 995 = .ok (.iaload, 1) := by decide +kernel
theorem dL_law_996 : decode cL_law 996 = .ok (.aload_n 0, 1) := by decide +kernel
theorem dL_law_997 : decode cL_law 997 = .ok (.iload_n 3, 1) := by decide +kernel
theorem dL_law_998 : decode cL_law 998 = .ok (.iconst 5, 1) := by decide +kernel
theorem dL_law_999 : decode cL_law 999 = .ok (.iadd, 1) := by decide +kernel
theorem dL_law_1000 : decode cL_law 1000 = .ok (.iaload, 1) := by decide +kernel
theorem dL_law_1001 : decode cL_law 1001 = .ok (.invokevirtual 99, 3) := by decide +kernel
theorem dL_law_1004 : decode cL_law 1004 = .ok (.aload_n 2, 1) := by decide +kernel
theorem dL_law_1005 : decode cL_law 1005 = .ok (.aload_n 0, 1) := by decide +kernel
theorem dL_law_1006 : decode cL_law 1006 = .ok (.iload_n 3, 1) := by decide +kernel
theorem dL_law_1007 : decode cL_law 1007 = .ok (.iconst 1, 1) := by decide +kernel
theorem dL_law_1008 : decode cL_law 1008 = .ok (.iadd, 1) := by decide +kernel
theorem dL_law_1009 : decode cL_law 1009 = .ok (.iaload, 1) := by decide +kernel
theorem dL_law_1010 : decode cL_law 1010 = .ok (.aload_n 0, 1) := by decide +kernel
theorem dL_law_1011 : decode cL_law 1011 = .ok (.iload_n 3, 1) := by decide +kernel
theorem dL_law_1012 : decode cL_law 1012 = .ok (.iconst 2, 1) := by decide +kernel
theorem dL_law_1013 : decode cL_law 1013 = .ok (.iadd, 1) := by decide +kernel
theorem dL_law_1014 : decode cL_law 1014 = .ok (.iaload, 1) := by decide +kernel
theorem dL_law_1015 : decode cL_law 1015 = .ok (.aload_n 0, 1) := by decide +kernel
theorem dL_law_1016 : decode cL_law 1016 = .ok (.iload_n 3, 1) := by decide +kernel
theorem dL_law_1017 : decode cL_law 1017 = .ok (.iconst 3, 1) := by decide +kernel
theorem dL_law_1018 : decode cL_law 1018 = .ok (.iadd, 1) := by decide +kernel
theorem dL_law_1019 : decode cL_law 1019 = .ok (.iaload, 1) := by decide +kernel
theorem dL_law_1020 : decode cL_law 1020 = .ok (.aload_n 0, 1) := by decide +kernel
theorem dL_law_1021 : decode cL_law 1021 = .ok (.iload_n 3, 1) := by decide +kernel
theorem dL_law_1022 : decode cL_law 1022 = .ok (.iconst 4, 1) := by decide +kernel
theorem dL_law_1023 : decode cL_law 1023 = .ok (.iadd, 1) := by decide +kernel
theorem dL_law_1024 : decode cL_law 1024 = .ok (.iaload, 1) := by decide +kernel
theorem dL_law_1025 : decode cL_law 1025 = .ok (.aload_n 0, 1) := by decide +kernel
theorem dL_law_1026 : decode cL_law 1026 = .ok (.iload_n 3, 1) := by decide +kernel
theorem dL_law_1027 : decode cL_law 1027 = .ok (.iconst 5, 1) := by decide +kernel
theorem dL_law_1028 : decode cL_law 1028 = .ok (.iadd, 1) := by decide +kernel
theorem dL_law_1029 : decode cL_law 1029 = .ok (.iaload, 1) := by decide +kernel
theorem dL_law_1030 : decode cL_law 1030 = .ok (.invokevirtual 103, 3) := by decide +kernel
theorem dL_law_1033 : decode cL_law 1033 = .ok (.if_icmp .eq 684, 3) := by decide +kernel
theorem dL_law_1038 : decode cL_law 1038 = .ok (.aload_n 1, 1) := by decide +kernel
theorem dL_law_1039 : decode cL_law 1039 = .ok (.aload_n 0, 1) := by decide +kernel
theorem dL_law_1040 : decode cL_law 1040 = .ok (.iload_n 3, 1) := by decide +kernel
theorem dL_law_1041 : decode cL_law 1041 = .ok (.iconst 1, 1) := by decide +kernel
theorem dL_law_1042 : decode cL_law 1042 = .ok (.iadd, 1) := by decide +kernel
theorem dL_law_1043 : decode cL_law 1043 = .ok (.iaload, 1) := by decide +kernel
theorem dL_law_1044 : decode cL_law 1044 = .ok (.invokevirtual 104, 3) := by decide +kernel
theorem dL_law_1047 : decode cL_law 1047 = .ok (.aload_n 2, 1) := by decide +kernel
theorem dL_law_1048 : decode cL_law 1048 = .ok (.aload_n 0, 1) := by decide +kernel
theorem dL_law_1049 : decode cL_law 1049 = .ok (.iload_n 3, 1) := by decide +kernel
theorem dL_law_1050 : decode cL_law 1050 = .ok (.iconst 1, 1) := by decide +kernel
theorem dL_law_1051 : decode cL_law 1051 = .ok (.iadd, 1) := by decide +kernel
theorem dL_law_1052 : decode cL_law 1052 = .ok (.iaload, 1) := by decide +kernel
theorem dL_law_1053 : decode cL_law 1053 = .ok (.invokevirtual 107, 3) := by decide +kernel
theorem dL_law_1056 : decode cL_law 1056 = .ok (.if_icmp .eq 661, 3) := by decide +kernel
theorem dL_law_1061 : decode cL_law 1061 = .ok (.aload_n 1, 1) := by decide +kernel
theorem dL_law_1062 : decode cL_law 1062 = .ok (.invokevirtual 108, 3) := by decide +kernel
theorem dL_law_1065 : decode cL_law 1065 = .ok (.aload_n 2, 1) := by decide +kernel
theorem dL_law_1066 : decode cL_law 1066 = .ok (.invokevirtual 112, 3) := by decide +kernel
theorem dL_law_1069 : decode cL_law 1069 = .ok (.if_icmp .eq 648, 3) := by decide +kernel
theorem dL_law_1074 : decode cL_law 1074 = .ok (.aload_n 1, 1) := by decide +kernel
theorem dL_law_1075 : decode cL_law 1075 = .ok (.invokevirtual 113, 3) := by decide +kernel
theorem dL_law_1078 : decode cL_law 1078 = .ok (.aload_n 2, 1) := by decide +kernel
theorem dL_law_1079 : decode cL_law 1079 = .ok (.invokevirtual 116, 3) := by decide +kernel
theorem dL_law_1082 : decode cL_law 1082 = .ok (.if_icmp .eq 635, 3) := by decide +kernel
theorem dL_law_1087 : decode cL_law 1087 = .ok (.aload_n 1, 1) := by decide +kernel
theorem dL_law_1088 : decode cL_law 1088 = .ok (.aload_n 0, 1) := by decide +kernel
theorem dL_law_1089 : decode cL_law 1089 = .ok (.iload_n 3, 1) := by decide +kernel
theorem dL_law_1090 : decode cL_law 1090 = .ok (.iconst 1, 1) := by decide +kernel
theorem dL_law_1091 : decode cL_law 1091 = .ok (.iadd, 1) := by decide +kernel
theorem dL_law_1092 : decode cL_law 1092 = .ok (.iaload, 1) := by decide +kernel
theorem dL_law_1093 : decode cL_law 1093 = .ok (.aload_n 0, 1) := by decide +kernel
theorem dL_law_1094 : decode cL_law 1094 = .ok (.iload_n 3, 1) := by decide +kernel
theorem dL_law_1095 : decode cL_law 1095 = .ok (.iconst 2, 1) := by decide +kernel
theorem dL_law_1096 : decode cL_law 1096 = .ok (.iadd, 1) := by decide +kernel
theorem dL_law_1097 : decode cL_law 1097 = .ok (.iaload, 1) := by decide +kernel
theorem dL_law_1098 : decode cL_law 1098 = .ok (.aload_n 0, 1) := by decide +kernel
theorem dL_law_1099 : decode cL_law 1099 = .ok (.iload_n 3, 1) := by decide +kernel
theorem dL_law_1100 : decode cL_law 1100 = .ok (.iconst 3, 1) := by decide +kernel
theorem dL_law_1101 : decode cL_law 1101 = .ok (.iadd, 1) := by decide +kernel
theorem dL_law_1102 : decode cL_law 1102 = .ok (.iaload, 1) := by decide +kernel
theorem dL_law_1103 : decode cL_law 1103 = .ok (.aload_n 0, 1) := by decide +kernel
theorem dL_law_1104 : decode cL_law 1104 = .ok (.iload_n 3, 1) := by decide +kernel
theorem dL_law_1105 : decode cL_law 1105 = .ok (.iconst 4, 1) := by decide +kernel
theorem dL_law_1106 : decode cL_law 1106 = .ok (.iadd, 1) := by decide +kernel
theorem dL_law_1107 : decode cL_law 1107 = .ok (.iaload, 1) := by decide +kernel
theorem dL_law_1108 : decode cL_law 1108 = .ok (.invokevirtual 117, 3) := by decide +kernel
theorem dL_law_1111 : decode cL_law 1111 = .ok (.aload_n 2, 1) := by decide +kernel
theorem dL_law_1112 : decode cL_law 1112 = .ok (.aload_n 0, 1) := by decide +kernel
theorem dL_law_1113 : decode cL_law 1113 = .ok (.iload_n 3, 1) := by decide +kernel
theorem dL_law_1114 : decode cL_law 1114 = .ok (.iconst 1, 1) := by decide +kernel
theorem dL_law_1115 : decode cL_law 1115 = .ok (.iadd, 1) := by decide +kernel
theorem dL_law_1116 : decode cL_law 1116 = .ok (.iaload, 1) := by decide +kernel
theorem dL_law_1117 : decode cL_law 1117 = .ok (.aload_n 0, 1) := by decide +kernel
theorem dL_law_1118 : decode cL_law 1118 = .ok (.iload_n 3, 1) := by decide +kernel
theorem dL_law_1119 : decode cL_law 1119 = .ok (.iconst 2, 1) := by decide +kernel
theorem dL_law_1120 : decode cL_law 1120 = .ok (.iadd, 1) := by decide +kernel
theorem dL_law_1121 : decode cL_law 1121 = .ok (.iaload, 1) := by decide +kernel
theorem dL_law_1122 : decode cL_law 1122 = .ok (.aload_n 0, 1) := by decide +kernel
theorem dL_law_1123 : decode cL_law 1123 = .ok (.iload_n 3, 1) := by decide +kernel
theorem dL_law_1124 : decode cL_law 1124 = .ok (.iconst 3, 1) := by decide +kernel
theorem dL_law_1125 : decode cL_law 1125 = .ok (.iadd, 1) := by decide +kernel
theorem dL_law_1126 : decode cL_law 1126 = .ok (.iaload, 1) := by decide +kernel
theorem dL_law_1127 : decode cL_law 1127 = .ok (.aload_n 0, 1) := by decide +kernel
theorem dL_law_1128 : decode cL_law 1128 = .ok (.iload_n 3, 1) := by decide +kernel
theorem dL_law_1129 : decode cL_law 1129 = .ok (.iconst 4, 1) := by decide +kernel
theorem dL_law_1130 : decode cL_law 1130 = .ok (.iadd, 1) := by decide +kernel
theorem dL_law_1131 : decode cL_law 1131 = .ok (.iaload, 1) := by decide +kernel
theorem dL_law_1132 : decode cL_law 1132 = .ok (.invokevirtual 121, 3) := by decide +kernel
theorem dL_law_1135 : decode cL_law 1135 = .ok (.lcmp, 1) := by decide +kernel
theorem dL_law_1136 : decode cL_law 1136 = .ok (.ifCond .eq 581, 3) := by decide +kernel
theorem dL_law_1141 : decode cL_law 1141 = .ok (.aload_n 1, 1) := by decide +kernel
theorem dL_law_1142 : decode cL_law 1142 = .ok (.aload_n 0, 1) := by decide +kernel
theorem dL_law_1143 : decode cL_law 1143 = .ok (.iload_n 3, 1) := by decide +kernel
theorem dL_law_1144 : decode cL_law 1144 = .ok (.iconst 1, 1) := by decide +kernel
theorem dL_law_1145 : decode cL_law 1145 = .ok (.iadd, 1) := by decide +kernel
theorem dL_law_1146 : decode cL_law 1146 = .ok (.iaload, 1) := by decide +kernel
theorem dL_law_1147 : decode cL_law 1147 = .ok (.aload_n 0, 1) := by decide +kernel
theorem dL_law_1148 : decode cL_law 1148 = .ok (.iload_n 3, 1) := by decide +kernel
theorem dL_law_1149 : decode cL_law 1149 = .ok (.iconst 2, 1) := by decide +kernel
theorem dL_law_1150 : decode cL_law 1150 = .ok (.iadd, 1) := by decide +kernel
theorem dL_law_1151 : decode cL_law 1151 = .ok (.iaload, 1) := by decide +kernel
theorem dL_law_1152 : decode cL_law 1152 = .ok (.invokevirtual 122, 3) := by decide +kernel
theorem dL_law_1155 : decode cL_law 1155 = .ok (.aload_n 2, 1) := by decide +kernel
theorem dL_law_1156 : decode cL_law 1156 = .ok (.aload_n 0, 1) := by decide +kernel
theorem dL_law_1157 : decode cL_law 1157 = .ok (.iload_n 3, 1) := by decide +kernel
theorem dL_law_1158 : decode cL_law 1158 = .ok (.iconst 1, 1) := by decide +kernel
theorem dL_law_1159 : decode cL_law 1159 = .ok (.iadd, 1) := by decide +kernel
theorem dL_law_1160 : decode cL_law 1160 = .ok (.iaload, 1) := by decide +kernel
theorem dL_law_1161 : decode cL_law 1161 = .ok (.aload_n 0, 1) := by decide +kernel
theorem dL_law_1162 : decode cL_law 1162 = .ok (.iload_n 3, 1) := by decide +kernel
theorem dL_law_1163 : decode cL_law 1163 = .ok (.iconst 2, 1) := by decide +kernel
theorem dL_law_1164 : decode cL_law 1164 = .ok (.iadd, 1) := by decide +kernel
theorem dL_law_1165 : decode cL_law 1165 = .ok (.iaload, 1) := by decide +kernel
theorem dL_law_1166 : decode cL_law 1166 = .ok (.invokevirtual 125, 3) := by decide +kernel
theorem dL_law_1169 : decode cL_law 1169 = .ok (.if_icmp .eq 548, 3) := by decide +kernel
theorem dL_law_1174 : decode cL_law 1174 = .ok (.aload_n 1, 1) := by decide +kernel
theorem dL_law_1175 : decode cL_law 1175 = .ok (.aload_n 0, 1) := by decide +kernel
theorem dL_law_1176 : decode cL_law 1176 = .ok (.iload_n 3, 1) := by decide +kernel
theorem dL_law_1177 : decode cL_law 1177 = .ok (.iconst 1, 1) := by decide +kernel
theorem dL_law_1178 : decode cL_law 1178 = .ok (.iadd, 1) := by decide +kernel
theorem dL_law_1179 : decode cL_law 1179 = .ok (.iaload, 1) := by decide +kernel
theorem dL_law_1180 : decode cL_law 1180 = .ok (.aload_n 0, 1) := by decide +kernel
theorem dL_law_1181 : decode cL_law 1181 = .ok (.iload_n 3, 1) := by decide +kernel
theorem dL_law_1182 : decode cL_law 1182 = .ok (.iconst 2, 1) := by decide +kernel
theorem dL_law_1183 : decode cL_law 1183 = .ok (.iadd, 1) := by decide +kernel
theorem dL_law_1184 : decode cL_law 1184 = .ok (.iaload, 1) := by decide +kernel
theorem dL_law_1185 : decode cL_law 1185 = .ok (.invokevirtual 126, 3) := by decide +kernel
theorem dL_law_1188 : decode cL_law 1188 = .ok (.aload_n 2, 1) := by decide +kernel
theorem dL_law_1189 : decode cL_law 1189 = .ok (.aload_n 0, 1) := by decide +kernel
theorem dL_law_1190 : decode cL_law 1190 = .ok (.iload_n 3, 1) := by decide +kernel
theorem dL_law_1191 : decode cL_law 1191 = .ok (.iconst 1, 1) := by decide +kernel
theorem dL_law_1192 : decode cL_law 1192 = .ok (.iadd, 1) := by decide +kernel
theorem dL_law_1193 : decode cL_law 1193 = .ok (.iaload, 1) := by decide +kernel
theorem dL_law_1194 : decode cL_law 1194 = .ok (.aload_n 0, 1) := by decide +kernel
theorem dL_law_1195 : decode cL_law 1195 = .ok (.iload_n 3, 1) := by decide +kernel
theorem dL_law_1196 : decode cL_law 1196 = .ok (.iconst 2, 1) := by decide +kernel
theorem dL_law_1197 : decode cL_law 1197 = .ok (.iadd, 1) := by decide +kernel
theorem dL_law_1198 : decode cL_law 1198 = .ok (.iaload, 1) := by decide +kernel
theorem dL_law_1199 : decode cL_law 1199 = .ok (.invokevirtual 129, 3) := by decide +kernel
theorem dL_law_1202 : decode cL_law 1202 = .ok (.lcmp, 1) := by decide +kernel
theorem dL_law_1203 : decode cL_law 1203 = .ok (.ifCond .eq 514, 3) := by decide +kernel
theorem dL_law_1208 : decode cL_law 1208 = .ok (.aload_n 1, 1) := by decide +kernel
theorem dL_law_1209 : decode cL_law 1209 = .ok (.aload_n 0, 1) := by decide +kernel
theorem dL_law_1210 : decode cL_law 1210 = .ok (.iload_n 3, 1) := by decide +kernel
theorem dL_law_1211 : decode cL_law 1211 = .ok (.iconst 1, 1) := by decide +kernel
theorem dL_law_1212 : decode cL_law 1212 = .ok (.iadd, 1) := by decide +kernel
theorem dL_law_1213 : decode cL_law 1213 = .ok (.iaload, 1) := by decide +kernel
theorem dL_law_1214 : decode cL_law 1214 = .ok (.aload_n 0, 1) := by decide +kernel
theorem dL_law_1215 : decode cL_law 1215 = .ok (.iload_n 3, 1) := by decide +kernel
theorem dL_law_1216 : decode cL_law 1216 = .ok (.iconst 2, 1) := by decide +kernel
theorem dL_law_1217 : decode cL_law 1217 = .ok (.iadd, 1) := by decide +kernel
theorem dL_law_1218 : decode cL_law 1218 = .ok (.iaload, 1) := by decide +kernel
theorem dL_law_1219 : decode cL_law 1219 = .ok (.aload_n 0, 1) := by decide +kernel
theorem dL_law_1220 : decode cL_law 1220 = .ok (.iload_n 3, 1) := by decide +kernel
theorem dL_law_1221 : decode cL_law 1221 = .ok (.iconst 3, 1) := by decide +kernel
theorem dL_law_1222 : decode cL_law 1222 = .ok (.iadd, 1) := by decide +kernel
theorem dL_law_1223 : decode cL_law 1223 = .ok (.iaload, 1) := by decide +kernel
theorem dL_law_1224 : decode cL_law 1224 = .ok (.aload_n 0, 1) := by decide +kernel
theorem dL_law_1225 : decode cL_law 1225 = .ok (.iload_n 3, 1) := by decide +kernel
theorem dL_law_1226 : decode cL_law 1226 = .ok (.iconst 4, 1) := by decide +kernel
theorem dL_law_1227 : decode cL_law 1227 = .ok (.iadd, 1) := by decide +kernel
theorem dL_law_1228 : decode cL_law 1228 = .ok (.iaload, 1) := by decide +kernel
theorem dL_law_1229 : decode cL_law 1229 = .ok (.invokevirtual 130, 3) := by decide +kernel
theorem dL_law_1232 : decode cL_law 1232 = .ok (.aload_n 2, 1) := by decide +kernel
theorem dL_law_1233 : decode cL_law 1233 = .ok (.aload_n 0, 1) := by decide +kernel
theorem dL_law_1234 : decode cL_law 1234 = .ok (.iload_n 3, 1) := by decide +kernel
theorem dL_law_1235 : decode cL_law 1235 = .ok (.iconst 1, 1) := by decide +kernel
theorem dL_law_1236 : decode cL_law 1236 = .ok (.iadd, 1) := by decide +kernel
theorem dL_law_1237 : decode cL_law 1237 = .ok (.iaload, 1) := by decide +kernel
theorem dL_law_1238 : decode cL_law 1238 = .ok (.aload_n 0, 1) := by decide +kernel
theorem dL_law_1239 : decode cL_law 1239 = .ok (.iload_n 3, 1) := by decide +kernel
theorem dL_law_1240 : decode cL_law 1240 = .ok (.iconst 2, 1) := by decide +kernel
theorem dL_law_1241 : decode cL_law 1241 = .ok (.iadd, 1) := by decide +kernel
theorem dL_law_1242 : decode cL_law 1242 = .ok (.iaload, 1) := by decide +kernel
theorem dL_law_1243 : decode cL_law 1243 = .ok (.aload_n 0, 1) := by decide +kernel
theorem dL_law_1244 : decode cL_law 1244 = .ok (.iload_n 3, 1) := by decide +kernel
theorem dL_law_1245 : decode cL_law 1245 = .ok (.iconst 3, 1) := by decide +kernel
theorem dL_law_1246 : decode cL_law 1246 = .ok (.iadd, 1) := by decide +kernel
theorem dL_law_1247 : decode cL_law 1247 = .ok (.iaload, 1) := by decide +kernel
theorem dL_law_1248 : decode cL_law 1248 = .ok (.aload_n 0, 1) := by decide +kernel
theorem dL_law_1249 : decode cL_law 1249 = .ok (.iload_n 3, 1) := by decide +kernel
theorem dL_law_1250 : decode cL_law 1250 = .ok (.iconst 4, 1) := by decide +kernel
theorem dL_law_1251 : decode cL_law 1251 = .ok (.iadd, 1) := by decide +kernel
theorem dL_law_1252 : decode cL_law 1252 = .ok (.iaload, 1) := by decide +kernel
theorem dL_law_1253 : decode cL_law 1253 = .ok (.invokevirtual 133, 3) := by decide +kernel
theorem dL_law_1256 : decode cL_law 1256 = .ok (.if_icmp .eq 461, 3) := by decide +kernel
theorem dL_law_1261 : decode cL_law 1261 = .ok (.aload_n 1, 1) := by decide +kernel
theorem dL_law_1262 : decode cL_law 1262 = .ok (.aload_n 0, 1) := by decide +kernel
theorem dL_law_1263 : decode cL_law 1263 = .ok (.iload_n 3, 1) := by decide +kernel
theorem dL_law_1264 : decode cL_law 1264 = .ok (.iconst 1, 1) := by decide +kernel
theorem dL_law_1265 : decode cL_law 1265 = .ok (.iadd, 1) := by decide +kernel
theorem dL_law_1266 : decode cL_law 1266 = .ok (.iaload, 1) := by decide +kernel
theorem dL_law_1267 : decode cL_law 1267 = .ok (.aload_n 0, 1) := by decide +kernel
theorem dL_law_1268 : decode cL_law 1268 = .ok (.iload_n 3, 1) := by decide +kernel
theorem dL_law_1269 : decode cL_law 1269 = .ok (.iconst 2, 1) := by decide +kernel
theorem dL_law_1270 : decode cL_law 1270 = .ok (.iadd, 1) := by decide +kernel
theorem dL_law_1271 : decode cL_law 1271 = .ok (.iaload, 1) := by decide +kernel
theorem dL_law_1272 : decode cL_law 1272 = .ok (.invokevirtual 134, 3) := by decide +kernel
theorem dL_law_1275 : decode cL_law 1275 = .ok (.aload_n 2, 1) := by decide +kernel
theorem dL_law_1276 : decode cL_law 1276 = .ok (.aload_n 0, 1) := by decide +kernel
theorem dL_law_1277 : decode cL_law 1277 = .ok (.iload_n 3, 1) := by decide +kernel
theorem dL_law_1278 : decode cL_law 1278 = .ok (.iconst 1, 1) := by decide +kernel
theorem dL_law_1279 : decode cL_law 1279 = .ok (.iadd, 1) := by decide +kernel
theorem dL_law_1280 : decode cL_law 1280 = .ok (.iaload, 1) := by decide +kernel
theorem dL_law_1281 : decode cL_law 1281 = .ok (.aload_n 0, 1) := by decide +kernel
theorem dL_law_1282 : decode cL_law 1282 = .ok (.iload_n 3, 1) := by decide +kernel
theorem dL_law_1283 : decode cL_law 1283 = .ok (.iconst 2, 1) := by decide +kernel
theorem dL_law_1284 : decode cL_law 1284 = .ok (.iadd, 1) := by decide +kernel
theorem dL_law_1285 : decode cL_law 1285 = .ok (.iaload, 1) := by decide +kernel
theorem dL_law_1286 : decode cL_law 1286 = .ok (.invokevirtual 137, 3) := by decide +kernel
theorem dL_law_1289 : decode cL_law 1289 = .ok (.if_icmp .eq 428, 3) := by decide +kernel
theorem dL_law_1294 : decode cL_law 1294 = .ok (.aload_n 1, 1) := by decide +kernel
theorem dL_law_1295 : decode cL_law 1295 = .ok (.aload_n 0, 1) := by decide +kernel
theorem dL_law_1296 : decode cL_law 1296 = .ok (.iload_n 3, 1) := by decide +kernel
theorem dL_law_1297 : decode cL_law 1297 = .ok (.iconst 1, 1) := by decide +kernel
theorem dL_law_1298 : decode cL_law 1298 = .ok (.iadd, 1) := by decide +kernel
theorem dL_law_1299 : decode cL_law 1299 = .ok (.iaload, 1) := by decide +kernel
theorem dL_law_1300 : decode cL_law 1300 = .ok (.aload_n 0, 1) := by decide +kernel
theorem dL_law_1301 : decode cL_law 1301 = .ok (.iload_n 3, 1) := by decide +kernel
theorem dL_law_1302 : decode cL_law 1302 = .ok (.iconst 2, 1) := by decide +kernel
theorem dL_law_1303 : decode cL_law 1303 = .ok (.iadd, 1) := by decide +kernel
theorem dL_law_1304 : decode cL_law 1304 = .ok (.iaload, 1) := by decide +kernel
theorem dL_law_1305 : decode cL_law 1305 = .ok (.aload_n 0, 1) := by decide +kernel
theorem dL_law_1306 : decode cL_law 1306 = .ok (.iload_n 3, 1) := by decide +kernel
theorem dL_law_1307 : decode cL_law 1307 = .ok (.iconst 3, 1) := by decide +kernel
theorem dL_law_1308 : decode cL_law 1308 = .ok (.iadd, 1) := by decide +kernel
theorem dL_law_1309 : decode cL_law 1309 = .ok (.iaload, 1) := by decide +kernel
theorem dL_law_1310 : decode cL_law 1310 = .ok (.aload_n 0, 1) := by decide +kernel
theorem dL_law_1311 : decode cL_law 1311 = .ok (.iload_n 3, 1) := by decide +kernel
theorem dL_law_1312 : decode cL_law 1312 = .ok (.iconst 4, 1) := by decide +kernel
theorem dL_law_1313 : decode cL_law 1313 = .ok (.iadd, 1) := by decide +kernel
theorem dL_law_1314 : decode cL_law 1314 = .ok (.iaload, 1) := by decide +kernel
theorem dL_law_1315 : decode cL_law 1315 = .ok (.aload_n 0, 1) := by decide +kernel
theorem dL_law_1316 : decode cL_law 1316 = .ok (.iload_n 3, 1) := by decide +kernel
theorem dL_law_1317 : decode cL_law 1317 = .ok (.iconst 5, 1) := by decide +kernel
theorem dL_law_1318 : decode cL_law 1318 = .ok (.iadd, 1) := by decide +kernel
theorem dL_law_1319 : decode cL_law 1319 = .ok (.iaload, 1) := by decide +kernel
theorem dL_law_1320 : decode cL_law 1320 = .ok (.invokevirtual 138, 3) := by decide +kernel
theorem dL_law_1323 : decode cL_law 1323 = .ok (.aload_n 2, 1) := by decide +kernel
theorem dL_law_1324 : decode cL_law 1324 = .ok (.aload_n 0, 1) := by decide +kernel
theorem dL_law_1325 : decode cL_law 1325 = .ok (.iload_n 3, 1) := by decide +kernel
theorem dL_law_1326 : decode cL_law 1326 = .ok (.iconst 1, 1) := by decide +kernel
theorem dL_law_1327 : decode cL_law 1327 = .ok (.iadd, 1) := by decide +kernel
theorem dL_law_1328 : decode cL_law 1328 = .ok (.iaload, 1) := by decide +kernel
theorem dL_law_1329 : decode cL_law 1329 = .ok (.aload_n 0, 1) := by decide +kernel
theorem dL_law_1330 : decode cL_law 1330 = .ok (.iload_n 3, 1) := by decide +kernel
theorem dL_law_1331 : decode cL_law 1331 = .ok (.iconst 2, 1) := by decide +kernel
theorem dL_law_1332 : decode cL_law 1332 = .ok (.iadd, 1) := by decide +kernel
theorem dL_law_1333 : decode cL_law 1333 = .ok (.iaload, 1) := by decide +kernel
theorem dL_law_1334 : decode cL_law 1334 = .ok (.aload_n 0, 1) := by decide +kernel
theorem dL_law_1335 : decode cL_law 1335 = .ok (.iload_n 3, 1) := by decide +kernel
theorem dL_law_1336 : decode cL_law 1336 = .ok (.iconst 3, 1) := by decide +kernel
theorem dL_law_1337 : decode cL_law 1337 = .ok (.iadd, 1) := by decide +kernel
theorem dL_law_1338 : decode cL_law 1338 = .ok (.iaload, 1) := by decide +kernel
theorem dL_law_1339 : decode cL_law 1339 = .ok (.aload_n 0, 1) := by decide +kernel
theorem dL_law_1340 : decode cL_law 1340 = .ok (.iload_n 3, 1) := by decide +kernel
theorem dL_law_1341 : decode cL_law 1341 = .ok (.iconst 4, 1) := by decide +kernel
theorem dL_law_1342 : decode cL_law 1342 = .ok (.iadd, 1) := by decide +kernel
theorem dL_law_1343 : decode cL_law 1343 = .ok (.iaload, 1) := by decide +kernel
theorem dL_law_1344 : decode cL_law 1344 = .ok (.aload_n 0, 1) := by decide +kernel
theorem dL_law_1345 : decode cL_law 1345 = .ok (.iload_n 3, 1) := by decide +kernel
theorem dL_law_1346 : decode cL_law 1346 = .ok (.iconst 5, 1) := by decide +kernel
theorem dL_law_1347 : decode cL_law 1347 = .ok (.iadd, 1) := by decide +kernel
theorem dL_law_1348 : decode cL_law 1348 = .ok (.iaload, 1) := by decide +kernel
theorem dL_law_1349 : decode cL_law 1349 = .ok (.invokevirtual 141, 3) := by decide +kernel
theorem dL_law_1352 : decode cL_law 1352 = .ok (.if_icmp .eq 365, 3) := by decide +kernel
theorem dL_law_1357 : decode cL_law 1357 = .ok (.aload_n 1, 1) := by decide +kernel
theorem dL_law_1358 : decode cL_law 1358 = .ok (.aload_n 0, 1) := by decide +kernel
theorem dL_law_1359 : decode cL_law 1359 = .ok (.iload_n 3, 1) := by decide +kernel
theorem dL_law_1360 : decode cL_law 1360 = .ok (.iconst 1, 1) := by decide +kernel
theorem dL_law_1361 : decode cL_law 1361 = .ok (.iadd, 1) := by decide +kernel
theorem dL_law_1362 : decode cL_law 1362 = .ok (.iaload, 1) := by decide +kernel
theorem dL_law_1363 : decode cL_law 1363 = .ok (.aload_n 0, 1) := by decide +kernel
theorem dL_law_1364 : decode cL_law 1364 = .ok (.iload_n 3, 1) := by decide +kernel
theorem dL_law_1365 : decode cL_law 1365 = .ok (.iconst 2, 1) := by decide +kernel
theorem dL_law_1366 : decode cL_law 1366 = .ok (.iadd, 1) := by decide +kernel
theorem dL_law_1367 : decode cL_law 1367 = .ok (.iaload, 1) := by decide +kernel
theorem dL_law_1368 : decode cL_law 1368 = .ok (.aload_n 0, 1) := by decide +kernel
theorem dL_law_1369 : decode cL_law 1369 = .ok (.iload_n 3, 1) := by decide +kernel
theorem dL_law_1370 : decode cL_law 1370 = .ok (.iconst 3, 1) := by decide +kernel
theorem dL_law_1371 : decode cL_law 1371 = .ok (.iadd, 1) := by decide +kernel
theorem dL_law_1372 : decode cL_law 1372 = .ok (.iaload, 1) := by decide +kernel
theorem dL_law_1373 : decode cL_law 1373 = .ok (.invokevirtual 142, 3) := by decide +kernel
theorem dL_law_1376 : decode cL_law 1376 = .ok (.aload_n 2, 1) := by decide +kernel
theorem dL_law_1377 : decode cL_law 1377 = .ok (.aload_n 0, 1) := by decide +kernel
theorem dL_law_1378 : decode cL_law 1378 = .ok (.iload_n 3, 1) := by decide +kernel
theorem dL_law_1379 : decode cL_law 1379 = .ok (.iconst 1, 1) := by decide +kernel
theorem dL_law_1380 : decode cL_law 1380 = .ok (.iadd, 1) := by decide +kernel
theorem dL_law_1381 : decode cL_law 1381 = .ok (.iaload, 1) := by decide +kernel
theorem dL_law_1382 : decode cL_law 1382 = .ok (.aload_n 0, 1) := by decide +kernel
theorem dL_law_1383 : decode cL_law 1383 = .ok (.iload_n 3, 1) := by decide +kernel
theorem dL_law_1384 : decode cL_law 1384 = .ok (.iconst 2, 1) := by decide +kernel
theorem dL_law_1385 : decode cL_law 1385 = .ok (.iadd, 1) := by decide +kernel
theorem dL_law_1386 : decode cL_law 1386 = .ok (.iaload, 1) := by decide +kernel
theorem dL_law_1387 : decode cL_law 1387 = .ok (.aload_n 0, 1) := by decide +kernel
theorem dL_law_1388 : decode cL_law 1388 = .ok (.iload_n 3, 1) := by decide +kernel
theorem dL_law_1389 : decode cL_law 1389 = .ok (.iconst 3, 1) := by decide +kernel
theorem dL_law_1390 : decode cL_law 1390 = .ok (.iadd, 1) := by decide +kernel
theorem dL_law_1391 : decode cL_law 1391 = .ok (.iaload, 1) := by decide +kernel
theorem dL_law_1392 : decode cL_law 1392 = .ok (.invokevirtual 146, 3) := by decide +kernel
theorem dL_law_1395 : decode cL_law 1395 = .ok (.lcmp, 1) := by decide +kernel
theorem dL_law_1396 : decode cL_law 1396 = .ok (.ifCond .eq 321, 3) := by decide +kernel
theorem dL_law_1401 : decode cL_law 1401 = .ok (.aload_n 1, 1) := by decide +kernel
theorem dL_law_1402 : decode cL_law 1402 = .ok (.aload_n 0, 1) := by decide +kernel
theorem dL_law_1403 : decode cL_law 1403 = .ok (.iload_n 3, 1) := by decide +kernel
theorem dL_law_1404 : decode cL_law 1404 = .ok (.iconst 1, 1) := by decide +kernel
theorem dL_law_1405 : decode cL_law 1405 = .ok (.iadd, 1) := by decide +kernel
theorem dL_law_1406 : decode cL_law 1406 = .ok (.iaload, 1) := by decide +kernel
theorem dL_law_1407 : decode cL_law 1407 = .ok (.aload_n 0, 1) := by decide +kernel
theorem dL_law_1408 : decode cL_law 1408 = .ok (.iload_n 3, 1) := by decide +kernel
theorem dL_law_1409 : decode cL_law 1409 = .ok (.iconst 2, 1) := by decide +kernel
theorem dL_law_1410 : decode cL_law 1410 = .ok (.iadd, 1) := by decide +kernel
theorem dL_law_1411 : decode cL_law 1411 = .ok (.iaload, 1) := by decide +kernel
theorem dL_law_1412 : decode cL_law 1412 = .ok (.aload_n 0, 1) := by decide +kernel
theorem dL_law_1413 : decode cL_law 1413 = .ok (.iload_n 3, 1) := by decide +kernel
theorem dL_law_1414 : decode cL_law 1414 = .ok (.iconst 3, 1) := by decide +kernel
theorem dL_law_1415 : decode cL_law 1415 = .ok (.iadd, 1) := by decide +kernel
theorem dL_law_1416 : decode cL_law 1416 = .ok (.iaload, 1) := by decide +kernel
theorem dL_law_1417 : decode cL_law 1417 = .ok (.aload_n 0, 1) := by decide +kernel
theorem dL_law_1418 : decode cL_law 1418 = .ok (.iload_n 3, 1) := by decide +kernel
theorem dL_law_1419 : decode cL_law 1419 = .ok (.iconst 4, 1) := by decide +kernel
theorem dL_law_1420 : decode cL_law 1420 = .ok (.iadd, 1) := by decide +kernel
theorem dL_law_1421 : decode cL_law 1421 = .ok (.iaload, 1) := by decide +kernel
theorem dL_law_1422 : decode cL_law 1422 = .ok (.aload_n 0, 1) := by decide +kernel
theorem dL_law_1423 : decode cL_law 1423 = .ok (.iload_n 3, 1) := by decide +kernel
theorem dL_law_1424 : decode cL_law 1424 = .ok (.iconst 5, 1) := by decide +kernel
theorem dL_law_1425 : decode cL_law 1425 = .ok (.iadd, 1) := by decide +kernel
theorem dL_law_1426 : decode cL_law 1426 = .ok (.iaload, 1) := by decide +kernel
theorem dL_law_1427 : decode cL_law 1427 = .ok (.aload_n 0, 1) := by decide +kernel
theorem dL_law_1428 : decode cL_law 1428 = .ok (.iload_n 3, 1) := by decide +kernel
theorem dL_law_1429 : decode cL_law 1429 = .ok (.bipush 6, 2) := by decide +kernel
theorem dL_law_1431 : decode cL_law 1431 = .ok (.iadd, 1) := by decide +kernel
theorem dL_law_1432 : decode cL_law 1432 = .ok (.iaload, 1) := by decide +kernel
theorem dL_law_1433 : decode cL_law 1433 = .ok (.aload_n 0, 1) := by decide +kernel
theorem dL_law_1434 : decode cL_law 1434 = .ok (.iload_n 3, 1) := by decide +kernel
theorem dL_law_1435 : decode cL_law 1435 = .ok (.bipush 7, 2) := by decide +kernel
theorem dL_law_1437 : decode cL_law 1437 = .ok (.iadd, 1) := by decide +kernel
theorem dL_law_1438 : decode cL_law 1438 = .ok (.iaload, 1) := by decide +kernel
theorem dL_law_1439 : decode cL_law 1439 = .ok (.aload_n 0, 1) := by decide +kernel
theorem dL_law_1440 : decode cL_law 1440 = .ok (.iload_n 3, 1) := by decide +kernel
theorem dL_law_1441 : decode cL_law 1441 = .ok (.bipush 8, 2) := by decide +kernel
theorem dL_law_1443 : decode cL_law 1443 = .ok (.iadd, 1) := by decide +kernel
theorem dL_law_1444 : decode cL_law 1444 = .ok (.iaload, 1) := by decide +kernel
theorem dL_law_1445 : decode cL_law 1445 = .ok (.invokevirtual 147, 3) := by decide +kernel
theorem dL_law_1448 : decode cL_law 1448 = .ok (.aload_n 2, 1) := by decide +kernel
theorem dL_law_1449 : decode cL_law 1449 = .ok (.aload_n 0, 1) := by decide +kernel
theorem dL_law_1450 : decode cL_law 1450 = .ok (.iload_n 3, 1) := by decide +kernel
theorem dL_law_1451 : decode cL_law 1451 = .ok (.iconst 1, 1) := by decide +kernel
theorem dL_law_1452 : decode cL_law 1452 = .ok (.iadd, 1) := by decide +kernel
theorem dL_law_1453 : decode cL_law 1453 = .ok (.iaload, 1) := by decide +kernel
theorem dL_law_1454 : decode cL_law 1454 = .ok (.aload_n 0, 1) := by decide +kernel
theorem dL_law_1455 : decode cL_law 1455 = .ok (.iload_n 3, 1) := by decide +kernel
theorem dL_law_1456 : decode cL_law 1456 = .ok (.iconst 2, 1) := by decide +kernel
theorem dL_law_1457 : decode cL_law 1457 = .ok (.iadd, 1) := by decide +kernel
theorem dL_law_1458 : decode cL_law 1458 = .ok (.iaload, 1) := by decide +kernel
theorem dL_law_1459 : decode cL_law 1459 = .ok (.aload_n 0, 1) := by decide +kernel
theorem dL_law_1460 : decode cL_law 1460 = .ok (.iload_n 3, 1) := by decide +kernel
theorem dL_law_1461 : decode cL_law 1461 = .ok (.iconst 3, 1) := by decide +kernel
theorem dL_law_1462 : decode cL_law 1462 = .ok (.iadd, 1) := by decide +kernel
theorem dL_law_1463 : decode cL_law 1463 = .ok (.iaload, 1) := by decide +kernel
theorem dL_law_1464 : decode cL_law 1464 = .ok (.aload_n 0, 1) := by decide +kernel
theorem dL_law_1465 : decode cL_law 1465 = .ok (.iload_n 3, 1) := by decide +kernel
theorem dL_law_1466 : decode cL_law 1466 = .ok (.iconst 4, 1) := by decide +kernel
theorem dL_law_1467 : decode cL_law 1467 = .ok (.iadd, 1) := by decide +kernel
theorem dL_law_1468 : decode cL_law 1468 = .ok (.iaload, 1) := by decide +kernel
theorem dL_law_1469 : decode cL_law 1469 = .ok (.aload_n 0, 1) := by decide +kernel
theorem dL_law_1470 : decode cL_law 1470 = .ok (.iload_n 3, 1) := by decide +kernel
theorem dL_law_1471 : decode cL_law 1471 = .ok (.iconst 5, 1) := by decide +kernel
theorem dL_law_1472 : decode cL_law 1472 = .ok (.iadd, 1) := by decide +kernel
theorem dL_law_1473 : decode cL_law 1473 = .ok (.iaload, 1) := by decide +kernel
theorem dL_law_1474 : decode cL_law 1474 = .ok (.aload_n 0, 1) := by decide +kernel
theorem dL_law_1475 : decode cL_law 1475 = .ok (.iload_n 3, 1) := by decide +kernel
theorem dL_law_1476 : decode cL_law 1476 = .ok (.bipush 6, 2) := by decide +kernel
theorem dL_law_1478 : decode cL_law 1478 = .ok (.iadd, 1) := by decide +kernel
theorem dL_law_1479 : decode cL_law 1479 = .ok (.iaload, 1) := by decide +kernel
theorem dL_law_1480 : decode cL_law 1480 = .ok (.aload_n 0, 1) := by decide +kernel
theorem dL_law_1481 : decode cL_law 1481 = .ok (.iload_n 3, 1) := by decide +kernel
theorem dL_law_1482 : decode cL_law 1482 = .ok (.bipush 7, 2) := by decide +kernel
theorem dL_law_1484 : decode cL_law 1484 = .ok (.iadd, 1) := by decide +kernel
theorem dL_law_1485 : decode cL_law 1485 = .ok (.iaload, 1) := by decide +kernel
theorem dL_law_1486 : decode cL_law 1486 = .ok (.aload_n 0, 1) := by decide +kernel
theorem dL_law_1487 : decode cL_law 1487 = .ok (.iload_n 3, 1) := by decide +kernel
theorem dL_law_1488 : decode cL_law 1488 = .ok (.bipush 8, 2) := by decide +kernel
theorem dL_law_1490 : decode cL_law 1490 = .ok (.iadd, 1) := by decide +kernel
theorem dL_law_1491 : decode cL_law 1491 = .ok (.iaload, 1) := by decide +kernel
theorem dL_law_1492 : decode cL_law 1492 = .ok (.invokevirtual 151, 3) := by decide +kernel
theorem dL_law_1495 : decode cL_law 1495 = .ok (.if_icmp .eq 222, 3) := by decide +kernel
theorem dL_law_1500 : decode cL_law 1500 = .ok (.aload_n 1, 1) := by decide +kernel
theorem dL_law_1501 : decode cL_law 1501 = .ok (.invokevirtual 152, 3) := by decide +kernel
theorem dL_law_1504 : decode cL_law 1504 = .ok (.aload_n 2, 1) := by decide +kernel
theorem dL_law_1505 : decode cL_law 1505 = .ok (.invokevirtual 155, 3) := by decide +kernel
theorem dL_law_1508 : decode cL_law 1508 = .ok (.if_icmp .eq 209, 3) := by decide +kernel
theorem dL_law_1513 : decode cL_law 1513 = .ok (.aload_n 1, 1) := by decide +kernel
theorem dL_law_1514 : decode cL_law 1514 = .ok (.aload_n 0, 1) := by decide +kernel
theorem dL_law_1515 : decode cL_law 1515 = .ok (.iload_n 3, 1) := by decide +kernel
theorem dL_law_1516 : decode cL_law 1516 = .ok (.iconst 1, 1) := by decide +kernel
theorem dL_law_1517 : decode cL_law 1517 = .ok (.iadd, 1) := by decide +kernel
theorem dL_law_1518 : decode cL_law 1518 = .ok (.iaload, 1) := by decide +kernel
theorem dL_law_1519 : decode cL_law 1519 = .ok (.invokevirtual 156, 3) := by decide +kernel
theorem dL_law_1522 : decode cL_law 1522 = .ok (.aload_n 2, 1) := by decide +kernel
theorem dL_law_1523 : decode cL_law 1523 = .ok (.aload_n 0, 1) := by decide +kernel
theorem dL_law_1524 : decode cL_law 1524 = .ok (.iload_n 3, 1) := by decide +kernel
theorem dL_law_1525 : decode cL_law 1525 = .ok (.iconst 1, 1) := by decide +kernel
theorem dL_law_1526 : decode cL_law 1526 = .ok (.iadd, 1) := by decide +kernel
theorem dL_law_1527 : decode cL_law 1527 = .ok (.iaload, 1) := by decide +kernel
theorem dL_law_1528 : decode cL_law 1528 = .ok (.invokevirtual 160, 3) := by decide +kernel
theorem dL_law_1531 : decode cL_law 1531 = .ok (.lcmp, 1) := by decide +kernel
theorem dL_law_1532 : decode cL_law 1532 = .ok (.ifCond .eq 185, 3) := by decide +kernel
theorem dL_law_1537 : decode cL_law 1537 = .ok (.aload_n 1, 1) := by decide +kernel
theorem dL_law_1538 : decode cL_law 1538 = .ok (.aload_n 0, 1) := by decide +kernel
theorem dL_law_1539 : decode cL_law 1539 = .ok (.iload_n 3, 1) := by decide +kernel
theorem dL_law_1540 : decode cL_law 1540 = .ok (.iconst 1, 1) := by decide +kernel
theorem dL_law_1541 : decode cL_law 1541 = .ok (.iadd, 1) := by decide +kernel
theorem dL_law_1542 : decode cL_law 1542 = .ok (.iaload, 1) := by decide +kernel
theorem dL_law_1543 : decode cL_law 1543 = .ok (.aload_n 0, 1) := by decide +kernel
theorem dL_law_1544 : decode cL_law 1544 = .ok (.iload_n 3, 1) := by decide +kernel
theorem dL_law_1545 : decode cL_law 1545 = .ok (.iconst 2, 1) := by decide +kernel
theorem dL_law_1546 : decode cL_law 1546 = .ok (.iadd, 1) := by decide +kernel
theorem dL_law_1547 : decode cL_law 1547 = .ok (.iaload, 1) := by decide +kernel
theorem dL_law_1548 : decode cL_law 1548 = .ok (.invokevirtual 161, 3) := by decide +kernel
theorem dL_law_1551 : decode cL_law 1551 = .ok (.aload_n 2, 1) := by decide +kernel
theorem dL_law_1552 : decode cL_law 1552 = .ok (.aload_n 0, 1) := by decide +kernel
theorem dL_law_1553 : decode cL_law 1553 = .ok (.iload_n 3, 1) := by decide +kernel
theorem dL_law_1554 : decode cL_law 1554 = .ok (.iconst 1, 1) := by decide +kernel
theorem dL_law_1555 : decode cL_law 1555 = .ok (.iadd, 1) := by decide +kernel
theorem dL_law_1556 : decode cL_law 1556 = .ok (.iaload, 1) := by decide +kernel
theorem dL_law_1557 : decode cL_law 1557 = .ok (.aload_n 0, 1) := by decide +kernel
theorem dL_law_1558 : decode cL_law 1558 = .ok (.iload_n 3, 1) := by decide +kernel
theorem dL_law_1559 : decode cL_law 1559 = .ok (.iconst 2, 1) := by decide +kernel
theorem dL_law_1560 : decode cL_law 1560 = .ok (.iadd, 1) := by decide +kernel
theorem dL_law_1561 : decode cL_law 1561 = .ok (.iaload, 1) := by decide +kernel
theorem dL_law_1562 : decode cL_law 1562 = .ok (.invokevirtual 164, 3) := by decide +kernel
theorem dL_law_1565 : decode cL_law 1565 = .ok (.lcmp, 1) := by decide +kernel
theorem dL_law_1566 : decode cL_law 1566 = .ok (.ifCond .eq 151, 3) := by decide +kernel
theorem dL_law_1571 : decode cL_law 1571 = .ok (.aload_n 1, 1) := by decide +kernel
theorem dL_law_1572 : decode cL_law 1572 = .ok (.aload_n 0, 1) := by decide +kernel
theorem dL_law_1573 : decode cL_law 1573 = .ok (.iload_n 3, 1) := by decide +kernel
theorem dL_law_1574 : decode cL_law 1574 = .ok (.iconst 1, 1) := by decide +kernel
theorem dL_law_1575 : decode cL_law 1575 = .ok (.iadd, 1) := by decide +kernel
theorem dL_law_1576 : decode cL_law 1576 = .ok (.iaload, 1) := by decide +kernel
theorem dL_law_1577 : decode cL_law 1577 = .ok (.aload_n 0, 1) := by decide +kernel
theorem dL_law_1578 : decode cL_law 1578 = .ok (.iload_n 3, 1) := by decide +kernel
theorem dL_law_1579 : decode cL_law 1579 = .ok (.iconst 2, 1) := by decide +kernel
theorem dL_law_1580 : decode cL_law 1580 = .ok (.iadd, 1) := by decide +kernel
theorem dL_law_1581 : decode cL_law 1581 = .ok (.iaload, 1) := by decide +kernel
theorem dL_law_1582 : decode cL_law 1582 = .ok (.aload_n 0, 1) := by decide +kernel
theorem dL_law_1583 : decode cL_law 1583 = .ok (.iload_n 3, 1) := by decide +kernel
theorem dL_law_1584 : decode cL_law 1584 = .ok (.iconst 3, 1) := by decide +kernel
theorem dL_law_1585 : decode cL_law 1585 = .ok (.iadd, 1) := by decide +kernel
theorem dL_law_1586 : decode cL_law 1586 = .ok (.iaload, 1) := by decide +kernel
theorem dL_law_1587 : decode cL_law 1587 = .ok (.aload_n 0, 1) := by decide +kernel
theorem dL_law_1588 : decode cL_law 1588 = .ok (.iload_n 3, 1) := by decide +kernel
theorem dL_law_1589 : decode cL_law 1589 = .ok (.iconst 4, 1) := by decide +kernel
theorem dL_law_1590 : decode cL_law 1590 = .ok (.iadd, 1) := by decide +kernel
theorem dL_law_1591 : decode cL_law 1591 = .ok (.iaload, 1) := by decide +kernel
theorem dL_law_1592 : decode cL_law 1592 = .ok (.aload_n 0, 1) := by decide +kernel
theorem dL_law_1593 : decode cL_law 1593 = .ok (.iload_n 3, 1) := by decide +kernel
theorem dL_law_1594 : decode cL_law 1594 = .ok (.iconst 5, 1) := by decide +kernel
theorem dL_law_1595 : decode cL_law 1595 = .ok (.iadd, 1) := by decide +kernel
theorem dL_law_1596 : decode cL_law 1596 = .ok (.iaload, 1) := by decide +kernel
theorem dL_law_1597 : decode cL_law 1597 = .ok (.invokevirtual 165, 3) := by decide +kernel
theorem dL_law_1600 : decode cL_law 1600 = .ok (.aload_n 2, 1) := by decide +kernel
theorem dL_law_1601 : decode cL_law 1601 = .ok (.aload_n 0, 1) := by decide +kernel
theorem dL_law_1602 : decode cL_law 1602 = .ok (.iload_n 3, 1) := by decide +kernel
theorem dL_law_1603 : decode cL_law 1603 = .ok (.iconst 1, 1) := by decide +kernel
theorem dL_law_1604 : decode cL_law 1604 = .ok (.iadd, 1) := by decide +kernel
theorem dL_law_1605 : decode cL_law 1605 = .ok (.iaload, 1) := by decide +kernel
theorem dL_law_1606 : decode cL_law 1606 = .ok (.aload_n 0, 1) := by decide +kernel
theorem dL_law_1607 : decode cL_law 1607 = .ok (.iload_n 3, 1) := by decide +kernel
theorem dL_law_1608 : decode cL_law 1608 = .ok (.iconst 2, 1) := by decide +kernel
theorem dL_law_1609 : decode cL_law 1609 = .ok (.iadd, 1) := by decide +kernel
theorem dL_law_1610 : decode cL_law 1610 = .ok (.iaload, 1) := by decide +kernel
theorem dL_law_1611 : decode cL_law 1611 = .ok (.aload_n 0, 1) := by decide +kernel
theorem dL_law_1612 : decode cL_law 1612 = .ok (.iload_n 3, 1) := by decide +kernel
theorem dL_law_1613 : decode cL_law 1613 = .ok (.iconst 3, 1) := by decide +kernel
theorem dL_law_1614 : decode cL_law 1614 = .ok (.iadd, 1) := by decide +kernel
theorem dL_law_1615 : decode cL_law 1615 = .ok (.iaload, 1) := by decide +kernel
theorem dL_law_1616 : decode cL_law 1616 = .ok (.aload_n 0, 1) := by decide +kernel
theorem dL_law_1617 : decode cL_law 1617 = .ok (.iload_n 3, 1) := by decide +kernel
theorem dL_law_1618 : decode cL_law 1618 = .ok (.iconst 4, 1) := by decide +kernel
theorem dL_law_1619 : decode cL_law 1619 = .ok (.iadd, 1) := by decide +kernel
theorem dL_law_1620 : decode cL_law 1620 = .ok (.iaload, 1) := by decide +kernel
theorem dL_law_1621 : decode cL_law 1621 = .ok (.aload_n 0, 1) := by decide +kernel
theorem dL_law_1622 : decode cL_law 1622 = .ok (.iload_n 3, 1) := by decide +kernel
theorem dL_law_1623 : decode cL_law 1623 = .ok (.iconst 5, 1) := by decide +kernel
theorem dL_law_1624 : decode cL_law 1624 = .ok (.iadd, 1) := by decide +kernel
theorem dL_law_1625 : decode cL_law 1625 = .ok (.iaload, 1) := by decide +kernel
theorem dL_law_1626 : decode cL_law 1626 = .ok (.invokevirtual 169, 3) := by decide +kernel
theorem dL_law_1629 : decode cL_law 1629 = .ok (.lcmp, 1) := by decide +kernel
theorem dL_law_1630 : decode cL_law 1630 = .ok (.ifCond .eq 87, 3) := by decide +kernel
theorem dL_law_1635 : decode cL_law 1635 = .ok (.aload_n 1, 1) := by decide +kernel
theorem dL_law_1636 : decode cL_law 1636 = .ok (.aload_n 0, 1) := by decide +kernel
theorem dL_law_1637 : decode cL_law 1637 = .ok (.iload_n 3, 1) := by decide +kernel
theorem dL_law_1638 : decode cL_law 1638 = .ok (.iconst 1, 1) := by decide +kernel
theorem dL_law_1639 : decode cL_law 1639 = .ok (.iadd, 1) := by decide +kernel
theorem dL_law_1640 : decode cL_law 1640 = .ok (.iaload, 1) := by decide +kernel
theorem dL_law_1641 : decode cL_law 1641 = .ok (.invokevirtual 170, 3) := by decide +kernel
theorem dL_law_1644 : decode cL_law 1644 = .ok (.aload_n 2, 1) := by decide +kernel
theorem dL_law_1645 : decode cL_law 1645 = .ok (.aload_n 0, 1) := by decide +kernel
theorem dL_law_1646 : decode cL_law 1646 = .ok (.iload_n 3, 1) := by decide +kernel
theorem dL_law_1647 : decode cL_law 1647 = .ok (.iconst 1, 1) := by decide +kernel
theorem dL_law_1648 : decode cL_law 1648 = .ok (.iadd, 1) := by decide +kernel
theorem dL_law_1649 : decode cL_law 1649 = .ok (.iaload, 1) := by decide +kernel
theorem dL_law_1650 : decode cL_law 1650 = .ok (.invokevirtual 173, 3) := by decide +kernel
theorem dL_law_1653 : decode cL_law 1653 = .ok (.if_icmp .eq 64, 3) := by decide +kernel
theorem dL_law_1658 : decode cL_law 1658 = .ok (.aload_n 1, 1) := by decide +kernel
theorem dL_law_1659 : decode cL_law 1659 = .ok (.aload_n 0, 1) := by decide +kernel
theorem dL_law_1660 : decode cL_law 1660 = .ok (.iload_n 3, 1) := by decide +kernel
theorem dL_law_1661 : decode cL_law 1661 = .ok (.iconst 1, 1) := by decide +kernel
theorem dL_law_1662 : decode cL_law 1662 = .ok (.iadd, 1) := by decide +kernel
theorem dL_law_1663 : decode cL_law 1663 = .ok (.iaload, 1) := by decide +kernel
theorem dL_law_1664 : decode cL_law 1664 = .ok (.invokevirtual 174, 3) := by decide +kernel
theorem dL_law_1667 : decode cL_law 1667 = .ok (.aload_n 2, 1) := by decide +kernel
theorem dL_law_1668 : decode cL_law 1668 = .ok (.aload_n 0, 1) := by decide +kernel
theorem dL_law_1669 : decode cL_law 1669 = .ok (.iload_n 3, 1) := by decide +kernel
theorem dL_law_1670 : decode cL_law 1670 = .ok (.iconst 1, 1) := by decide +kernel
theorem dL_law_1671 : decode cL_law 1671 = .ok (.iadd, 1) := by decide +kernel
theorem dL_law_1672 : decode cL_law 1672 = .ok (.iaload, 1) := by decide +kernel
theorem dL_law_1673 : decode cL_law 1673 = .ok (.invokevirtual 177, 3) := by decide +kernel
theorem dL_law_1676 : decode cL_law 1676 = .ok (.if_icmp .eq 41, 3) := by decide +kernel
theorem dL_law_1681 : decode cL_law 1681 = .ok (.aload_n 1, 1) := by decide +kernel
theorem dL_law_1682 : decode cL_law 1682 = .ok (.aload_n 0, 1) := by decide +kernel
theorem dL_law_1683 : decode cL_law 1683 = .ok (.iload_n 3, 1) := by decide +kernel
theorem dL_law_1684 : decode cL_law 1684 = .ok (.iconst 1, 1) := by decide +kernel
theorem dL_law_1685 : decode cL_law 1685 = .ok (.iadd, 1) := by decide +kernel
theorem dL_law_1686 : decode cL_law 1686 = .ok (.iaload, 1) := by decide +kernel
theorem dL_law_1687 : decode cL_law 1687 = .ok (.invokevirtual 178, 3) := by decide +kernel
theorem dL_law_1690 : decode cL_law 1690 = .ok (.aload_n 2, 1) := by decide +kernel
theorem dL_law_1691 : decode cL_law 1691 = .ok (.aload_n 0, 1) := by decide +kernel
theorem dL_law_1692 : decode cL_law 1692 = .ok (.iload_n 3, 1) := by decide +kernel
theorem dL_law_1693 : decode cL_law 1693 = .ok (.iconst 1, 1) := by decide +kernel
theorem dL_law_1694 : decode cL_law 1694 = .ok (.iadd, 1) := by decide +kernel
theorem dL_law_1695 : decode cL_law 1695 = .ok (.iaload, 1) := by decide +kernel
theorem dL_law_1696 : decode cL_law 1696 = .ok (.invokevirtual 181, 3) := by decide +kernel
theorem dL_law_1699 : decode cL_law 1699 = .ok (.if_icmp .eq 18, 3) := by decide +kernel
theorem dL_law_1704 : decode cL_law 1704 = .ok (.aload_n 1, 1) := by decide +kernel
theorem dL_law_1705 : decode cL_law 1705 = .ok (.invokevirtual 182, 3) := by decide +kernel
theorem dL_law_1708 : decode cL_law 1708 = .ok (.aload_n 2, 1) := by decide +kernel
theorem dL_law_1709 : decode cL_law 1709 = .ok (.invokevirtual 185, 3) := by decide +kernel
theorem dL_law_1712 : decode cL_law 1712 = .ok (.if_icmp .eq 5, 3) := by decide +kernel
theorem dL_law_1717 : decode cL_law 1717 = .ok (.iinc 3 9, 3) := by decide +kernel
theorem dL_law_1720 : decode cL_law 1720 = .ok (.goto (-1702), 3) := by decide +kernel
theorem dL_law_1723 : decode cL_law 1723 = .ok (.iconst 1, 1) := by decide +kernel
theorem dL_law_1724 : decode cL_law 1724 = .ok (.ireturn, 1) := by decide +kernel
