abbrev cX11_terminal : ByteArray := prog_1_method_2_code
def yX11_terminal : MethodName := ⟨RX11, "terminal", "(IIII)I"⟩
abbrev cX11_ship : ByteArray := prog_1_method_3_code
def yX11_ship : MethodName := ⟨RX11, "ship", "(III)I"⟩
abbrev cX11_way : ByteArray := prog_1_method_4_code
def yX11_way : MethodName := ⟨RX11, "way", "(IIIZ)I"⟩
abbrev cX11_tide : ByteArray := prog_1_method_5_code
def yX11_tide : MethodName := ⟨RX11, "tide", "(II)I"⟩
abbrev cX11_sea : ByteArray := prog_1_method_6_code
def yX11_sea : MethodName := ⟨RX11, "sea", "(II)I"⟩
abbrev cX11_slot : ByteArray := prog_1_method_7_code
def yX11_slot : MethodName := ⟨RX11, "slot", "(IIII)I"⟩
abbrev cX11_broken : ByteArray := prog_1_method_8_code
def yX11_broken : MethodName := ⟨RX11, "broken", "(III)I"⟩
abbrev cX11_terms : ByteArray := prog_1_method_9_code
def yX11_terms : MethodName := ⟨RX11, "terms", "(II)I"⟩
abbrev cX11_order : ByteArray := prog_1_method_10_code
def yX11_order : MethodName := ⟨RX11, "order", "(III)I"⟩
abbrev cX11_go : ByteArray := prog_1_method_11_code
def yX11_go : MethodName := ⟨RX11, "go", "(I)I"⟩
abbrev cX11_of : ByteArray := prog_1_method_12_code
def yX11_of : MethodName := ⟨RX11, "of", "(II)I"⟩
abbrev cX11_part : ByteArray := prog_1_method_13_code
def yX11_part : MethodName := ⟨RX11, "part", "(II)I"⟩
abbrev cX11_book : ByteArray := prog_1_method_14_code
def yX11_book : MethodName := ⟨RX11, "book", "(II)J"⟩
abbrev cX11_store : ByteArray := prog_1_method_15_code
def yX11_store : MethodName := ⟨RX11, "store", "(I)I"⟩
abbrev cX11_landing : ByteArray := prog_1_method_16_code
def yX11_landing : MethodName := ⟨RX11, "landing", "(II)I"⟩
abbrev cX11_led : ByteArray := prog_1_method_17_code
def yX11_led : MethodName := ⟨RX11, "led", "(II)I"⟩
abbrev cX11_heat : ByteArray := prog_1_method_18_code
def yX11_heat : MethodName := ⟨RX11, "heat", "(II)I"⟩
abbrev cX11_price : ByteArray := prog_1_method_19_code
def yX11_price : MethodName := ⟨RX11, "price", "(III)I"⟩
abbrev cX11_force : ByteArray := prog_1_method_20_code
def yX11_force : MethodName := ⟨RX11, "force", "(III)I"⟩
abbrev cX11_bill : ByteArray := prog_1_method_21_code
def yX11_bill : MethodName := ⟨RX11, "bill", "(II)I"⟩
abbrev cX11_refuse : ByteArray := prog_1_method_42_code
def yX11_refuse : MethodName := ⟨RX11, "refuse", "(I)I"⟩
abbrev cX11_accept : ByteArray := prog_1_method_43_code
def yX11_accept : MethodName := ⟨RX11, "accept", "(I)I"⟩
abbrev cX11_acceptOrFull : ByteArray := prog_1_method_44_code
def yX11_acceptOrFull : MethodName := ⟨RX11, "acceptOrFull", "(I)I"⟩
def wsX11_refuse : List Cond := .code yX11_refuse cX11_refuse 2 (some .int) :: ([.fieldLink RX11 354 "ColdShips" "refusal" "I"] ++ wsX110)
def wsX11_accept : List Cond := .code yX11_accept cX11_accept 2 (some .int) :: ([.fieldLink RX11 354 "ColdShips" "refusal" "I"] ++ wsX110)
def wsX11_terminal_r1 : List Cond := [Cond.constant RX11 50 (500000), Cond.fieldLink RX11 10 "ColdShips" "world" "LColdShips$World;", Cond.methodLink RX11 51 yX11_within, Cond.static yX11_within, Cond.initialized RX11, Cond.code yX11_within cX11_within 3 (some .boolean), Cond.methodLink RX11 55 yX11_refuse, Cond.instanceMethod yX11_refuse, Cond.selects RX11 yX11_refuse yX11_refuse, Cond.code yX11_refuse cX11_refuse 2 (some .int), Cond.fieldLink RX11 354 "ColdShips" "refusal" "I", Cond.methodLink RX11 67 yX8_begin, Cond.instanceMethod yX8_begin, Cond.selects RX8 yX8_begin yX8_begin, Cond.initialized RX8, Cond.code yX8_begin cX8_begin 5 none, Cond.fieldLink RX8 22 "ColdShips$Terminal" "store" "I", Cond.fieldLink RX8 25 "ColdShips$Terminal" "cap" "I", Cond.methodLink RX8 28 Lib.Math.max.name, Cond.static Lib.Math.max.name, Cond.initialized "java/lang/Math", Cond.code Lib.Math.max.name Lib.Math.max.code 2 (some .int), Cond.fieldLink RX8 9 "ColdShips$Terminal" "rate" "I", Cond.fieldLink RX8 34 "ColdShips$Terminal" "depth" "I"]
def wsX11_terminal_r2 : List Cond := [Cond.fieldLink RX8 37 "ColdShips$Terminal" "heat" "I", Cond.fieldLink RX8 15 "ColdShips$Terminal" "wayHours" "[I", Cond.methodLink RX8 40 yJ7_fill_53178, Cond.static yJ7_fill_53178, Cond.initialized RJ7, Cond.code yJ7_fill_53178 cJ7_fill_53178 4 none, Cond.methodLink RX11 73 yX11_accept, Cond.instanceMethod yX11_accept, Cond.selects RX11 yX11_accept yX11_accept, Cond.code yX11_accept cX11_accept 2 (some .int)]
def wsX11_terminal : List Cond := .code yX11_terminal cX11_terminal 6 (some .int) :: ((wsX11_terminal_r1 ++ wsX11_terminal_r2) ++ wsX110 ++ wsX100 ++ wsX80)
def wsX11_ship_r1 : List Cond := [Cond.constant RX11 76 (200000), Cond.fieldLink RX11 10 "ColdShips" "world" "LColdShips$World;", Cond.methodLink RX11 51 yX11_within, Cond.static yX11_within, Cond.initialized RX11, Cond.code yX11_within cX11_within 3 (some .boolean), Cond.methodLink RX11 55 yX11_refuse, Cond.instanceMethod yX11_refuse, Cond.selects RX11 yX11_refuse yX11_refuse, Cond.code yX11_refuse cX11_refuse 2 (some .int), Cond.fieldLink RX11 354 "ColdShips" "refusal" "I", Cond.methodLink RX11 77 yX10_hasTerminal, Cond.instanceMethod yX10_hasTerminal, Cond.selects RX10 yX10_hasTerminal yX10_hasTerminal, Cond.initialized RX10, Cond.code yX10_hasTerminal cX10_hasTerminal 2 (some .boolean), Cond.fieldLink RX10 78 "ColdShips$World" "terminalCount" "I", Cond.methodLink RX11 88 yX5_begin, Cond.instanceMethod yX5_begin, Cond.selects RX5 yX5_begin yX5_begin, Cond.initialized RX5, Cond.code yX5_begin cX5_begin 4 none, Cond.fieldLink RX5 12 "ColdShips$Ship" "tank" "LColdShips$Tank;", Cond.fieldLink RX5 42 "ColdShips$Ship" "fuel" "I"]
def wsX11_ship_r2 : List Cond := [Cond.fieldLink RX5 46 "ColdShips$Ship" "where" "I", Cond.fieldLink RX5 49 "ColdShips$Ship" "left" "I", Cond.fieldLink RX5 52 "ColdShips$Ship" "half" "I", Cond.fieldLink RX5 55 "ColdShips$Ship" "drifting" "Z", Cond.fieldLink RX5 59 "ColdShips$Ship" "orders" "I", Cond.fieldLink RX5 62 "ColdShips$Ship" "list" "I", Cond.fieldLink RX5 25 "ColdShips$Ship" "book" "[J", Cond.fieldLink RX5 32 "ColdShips$Ship" "gaugeCentimetres" "[I", Cond.methodLink RX5 38 yX7_begin, Cond.instanceMethod yX7_begin, Cond.selects RX7 yX7_begin yX7_begin, Cond.initialized RX7, Cond.code yX7_begin cX7_begin 2 none, Cond.methodLink RX7 26 Lib.Math.max.name, Cond.static Lib.Math.max.name, Cond.initialized "java/lang/Math", Cond.code Lib.Math.max.name Lib.Math.max.code 2 (some .int), Cond.fieldLink RX7 9 "ColdShips$Tank" "cap" "I", Cond.fieldLink RX7 32 "ColdShips$Tank" "gas" "I", Cond.fieldLink RX7 35 "ColdShips$Tank" "vapor" "I", Cond.fieldLink RX7 38 "ColdShips$Tank" "warm" "I", Cond.fieldLink RX7 15 "ColdShips$Tank" "parts" "[I", Cond.methodLink RX7 41 yJ7_fill_53178, Cond.static yJ7_fill_53178]
def wsX11_ship_r3 : List Cond := [Cond.initialized RJ7, Cond.code yJ7_fill_53178 cJ7_fill_53178 4 none, Cond.methodLink RX5 65 yJ7_fill_d0a16, Cond.static yJ7_fill_d0a16, Cond.code yJ7_fill_d0a16 cJ7_fill_d0a16 5 none, Cond.methodLink RX5 71 yJ7_fill_53178, Cond.methodLink RX5 74 yX5_forgetLanding, Cond.instanceMethod yX5_forgetLanding, Cond.selects RX5 yX5_forgetLanding yX5_forgetLanding, Cond.code yX5_forgetLanding cX5_forgetLanding 1 none, Cond.fieldLink RX5 93 "ColdShips$Ship" "landTons" "I", Cond.fieldLink RX5 29 "ColdShips$Ship" "landParts" "[I", Cond.methodLink RX11 73 yX11_accept, Cond.instanceMethod yX11_accept, Cond.selects RX11 yX11_accept yX11_accept, Cond.code yX11_accept cX11_accept 2 (some .int)]
def wsX11_ship : List Cond := .code yX11_ship cX11_ship 5 (some .int) :: ((wsX11_ship_r1 ++ (wsX11_ship_r2 ++ wsX11_ship_r3)) ++ wsX110 ++ wsX100 ++ wsX50 ++ wsX70)
def wsX11_way_r1 : List Cond := [Cond.fieldLink RX11 10 "ColdShips" "world" "LColdShips$World;", Cond.methodLink RX11 51 yX11_within, Cond.static yX11_within, Cond.initialized RX11, Cond.code yX11_within cX11_within 3 (some .boolean), Cond.methodLink RX11 55 yX11_refuse, Cond.instanceMethod yX11_refuse, Cond.selects RX11 yX11_refuse yX11_refuse, Cond.code yX11_refuse cX11_refuse 2 (some .int), Cond.fieldLink RX11 354 "ColdShips" "refusal" "I", Cond.methodLink RX11 77 yX10_hasTerminal, Cond.instanceMethod yX10_hasTerminal, Cond.selects RX10 yX10_hasTerminal yX10_hasTerminal, Cond.initialized RX10, Cond.code yX10_hasTerminal cX10_hasTerminal 2 (some .boolean), Cond.fieldLink RX10 78 "ColdShips$World" "terminalCount" "I", Cond.methodLink RX11 93 yX8_tellWay, Cond.instanceMethod yX8_tellWay, Cond.selects RX8 yX8_tellWay yX8_tellWay, Cond.initialized RX8, Cond.code yX8_tellWay cX8_tellWay 4 none, Cond.fieldLink RX8 15 "ColdShips$Terminal" "wayHours" "[I", Cond.fieldLink RX8 19 "ColdShips$Terminal" "wayHalf" "[I", Cond.methodLink RX11 73 yX11_accept]
def wsX11_way_r2 : List Cond := [Cond.instanceMethod yX11_accept, Cond.selects RX11 yX11_accept yX11_accept, Cond.code yX11_accept cX11_accept 2 (some .int)]
def wsX11_way : List Cond := .code yX11_way cX11_way 5 (some .int) :: ((wsX11_way_r1 ++ wsX11_way_r2) ++ wsX110 ++ wsX100 ++ wsX80)
def wsX11_tide : List Cond := .code yX11_tide cX11_tide 3 (some .int) :: ([.fieldLink RX11 10 "ColdShips" "world" "LColdShips$World;", .methodLink RX11 51 yX11_within, .static yX11_within, .initialized RX11, .code yX11_within cX11_within 3 (some .boolean), .methodLink RX11 55 yX11_refuse, .instanceMethod yX11_refuse, .selects RX11 yX11_refuse yX11_refuse, .code yX11_refuse cX11_refuse 2 (some .int), .fieldLink RX11 354 "ColdShips" "refusal" "I", .methodLink RX11 73 yX11_accept, .instanceMethod yX11_accept, .selects RX11 yX11_accept yX11_accept, .code yX11_accept cX11_accept 2 (some .int)] ++ wsX110 ++ wsX100)
def wsX11_sea : List Cond := .code yX11_sea cX11_sea 3 (some .int) :: ([.fieldLink RX11 10 "ColdShips" "world" "LColdShips$World;", .methodLink RX11 51 yX11_within, .static yX11_within, .initialized RX11, .code yX11_within cX11_within 3 (some .boolean), .methodLink RX11 55 yX11_refuse, .instanceMethod yX11_refuse, .selects RX11 yX11_refuse yX11_refuse, .code yX11_refuse cX11_refuse 2 (some .int), .fieldLink RX11 354 "ColdShips" "refusal" "I", .methodLink RX11 73 yX11_accept, .instanceMethod yX11_accept, .selects RX11 yX11_accept yX11_accept, .code yX11_accept cX11_accept 2 (some .int)] ++ wsX110 ++ wsX100)
def wsX11_acceptOrFull : List Cond := .code yX11_acceptOrFull cX11_acceptOrFull 2 (some .int) :: ([.methodLink RX11 55 yX11_refuse, .instanceMethod yX11_refuse, .selects RX11 yX11_refuse yX11_refuse, .initialized RX11, .code yX11_refuse cX11_refuse 2 (some .int), .fieldLink RX11 354 "ColdShips" "refusal" "I", .methodLink RX11 73 yX11_accept, .instanceMethod yX11_accept, .selects RX11 yX11_accept yX11_accept, .code yX11_accept cX11_accept 2 (some .int)] ++ wsX110)
def wsX11_slot_r1 : List Cond := [Cond.fieldLink RX11 10 "ColdShips" "world" "LColdShips$World;", Cond.methodLink RX11 104 yX11_isSpan, Cond.static yX11_isSpan, Cond.initialized RX11, Cond.code yX11_isSpan cX11_isSpan 2 (some .boolean), Cond.methodLink RX11 229 yX11_isHour, Cond.static yX11_isHour, Cond.code yX11_isHour cX11_isHour 1 (some .boolean), Cond.methodLink RX11 51 yX11_within, Cond.static yX11_within, Cond.code yX11_within cX11_within 3 (some .boolean), Cond.methodLink RX11 55 yX11_refuse, Cond.instanceMethod yX11_refuse, Cond.selects RX11 yX11_refuse yX11_refuse, Cond.code yX11_refuse cX11_refuse 2 (some .int), Cond.fieldLink RX11 354 "ColdShips" "refusal" "I", Cond.methodLink RX11 77 yX10_hasTerminal, Cond.instanceMethod yX10_hasTerminal, Cond.selects RX10 yX10_hasTerminal yX10_hasTerminal, Cond.initialized RX10, Cond.code yX10_hasTerminal cX10_hasTerminal 2 (some .boolean), Cond.fieldLink RX10 78 "ColdShips$World" "terminalCount" "I", Cond.methodLink RX11 108 yX10_hasShip, Cond.instanceMethod yX10_hasShip]
def wsX11_slot_r2 : List Cond := [Cond.selects RX10 yX10_hasShip yX10_hasShip, Cond.code yX10_hasShip cX10_hasShip 2 (some .boolean), Cond.fieldLink RX10 81 "ColdShips$World" "shipCount" "I", Cond.methodLink RX11 115 yX11_slotOwner, Cond.static yX11_slotOwner, Cond.code yX11_slotOwner cX11_slotOwner 2 (some .int), Cond.methodLink RX11 119 yX6_meets, Cond.instanceMethod yX6_meets, Cond.selects RX6 yX6_meets yX6_meets, Cond.initialized RX6, Cond.code yX6_meets cX6_meets 6 (some .boolean), Cond.fieldLink RX6 27 "ColdShips$Spans" "size" "I", Cond.fieldLink RX6 21 "ColdShips$Spans" "begins" "[I", Cond.fieldLink RX6 15 "ColdShips$Spans" "owners" "[I", Cond.fieldLink RX6 24 "ColdShips$Spans" "ends" "[I", Cond.methodLink RX11 125 yX6_add, Cond.instanceMethod yX6_add, Cond.selects RX6 yX6_add yX6_add, Cond.code yX6_add cX6_add 5 (some .int), Cond.methodLink RX11 129 yX11_acceptOrFull, Cond.instanceMethod yX11_acceptOrFull, Cond.selects RX11 yX11_acceptOrFull yX11_acceptOrFull, Cond.code yX11_acceptOrFull cX11_acceptOrFull 2 (some .int), Cond.methodLink RX11 73 yX11_accept]
def wsX11_slot_r3 : List Cond := [Cond.instanceMethod yX11_accept, Cond.selects RX11 yX11_accept yX11_accept, Cond.code yX11_accept cX11_accept 2 (some .int)]
def wsX11_slot : List Cond := .code yX11_slot cX11_slot 5 (some .int) :: ((wsX11_slot_r1 ++ (wsX11_slot_r2 ++ wsX11_slot_r3)) ++ wsX110 ++ wsX100 ++ wsX60)
def wsX11_broken_r1 : List Cond := [Cond.fieldLink RX11 10 "ColdShips" "world" "LColdShips$World;", Cond.methodLink RX11 104 yX11_isSpan, Cond.static yX11_isSpan, Cond.initialized RX11, Cond.code yX11_isSpan cX11_isSpan 2 (some .boolean), Cond.methodLink RX11 229 yX11_isHour, Cond.static yX11_isHour, Cond.code yX11_isHour cX11_isHour 1 (some .boolean), Cond.methodLink RX11 51 yX11_within, Cond.static yX11_within, Cond.code yX11_within cX11_within 3 (some .boolean), Cond.methodLink RX11 55 yX11_refuse, Cond.instanceMethod yX11_refuse, Cond.selects RX11 yX11_refuse yX11_refuse, Cond.code yX11_refuse cX11_refuse 2 (some .int), Cond.fieldLink RX11 354 "ColdShips" "refusal" "I", Cond.methodLink RX11 77 yX10_hasTerminal, Cond.instanceMethod yX10_hasTerminal, Cond.selects RX10 yX10_hasTerminal yX10_hasTerminal, Cond.initialized RX10, Cond.code yX10_hasTerminal cX10_hasTerminal 2 (some .boolean), Cond.fieldLink RX10 78 "ColdShips$World" "terminalCount" "I", Cond.methodLink RX11 125 yX6_add, Cond.instanceMethod yX6_add]
def wsX11_broken_r2 : List Cond := [Cond.selects RX6 yX6_add yX6_add, Cond.initialized RX6, Cond.code yX6_add cX6_add 5 (some .int), Cond.fieldLink RX6 27 "ColdShips$Spans" "size" "I", Cond.fieldLink RX6 15 "ColdShips$Spans" "owners" "[I", Cond.fieldLink RX6 21 "ColdShips$Spans" "begins" "[I", Cond.fieldLink RX6 24 "ColdShips$Spans" "ends" "[I", Cond.methodLink RX11 129 yX11_acceptOrFull, Cond.instanceMethod yX11_acceptOrFull, Cond.selects RX11 yX11_acceptOrFull yX11_acceptOrFull, Cond.code yX11_acceptOrFull cX11_acceptOrFull 2 (some .int), Cond.methodLink RX11 73 yX11_accept, Cond.instanceMethod yX11_accept, Cond.selects RX11 yX11_accept yX11_accept, Cond.code yX11_accept cX11_accept 2 (some .int)]
def wsX11_broken : List Cond := .code yX11_broken cX11_broken 4 (some .int) :: ((wsX11_broken_r1 ++ wsX11_broken_r2) ++ wsX110 ++ wsX100 ++ wsX60)
def wsX11_terms : List Cond := .code yX11_terms cX11_terms 3 (some .int) :: ([.fieldLink RX11 10 "ColdShips" "world" "LColdShips$World;", .methodLink RX11 51 yX11_within, .static yX11_within, .initialized RX11, .code yX11_within cX11_within 3 (some .boolean), .methodLink RX11 55 yX11_refuse, .instanceMethod yX11_refuse, .selects RX11 yX11_refuse yX11_refuse, .code yX11_refuse cX11_refuse 2 (some .int), .fieldLink RX11 354 "ColdShips" "refusal" "I", .methodLink RX11 73 yX11_accept, .instanceMethod yX11_accept, .selects RX11 yX11_accept yX11_accept, .code yX11_accept cX11_accept 2 (some .int)] ++ wsX110 ++ wsX100)
def wsX11_order_r1 : List Cond := [Cond.fieldLink RX11 10 "ColdShips" "world" "LColdShips$World;", Cond.methodLink RX11 141 yX11_isOrder, Cond.static yX11_isOrder, Cond.initialized RX11, Cond.code yX11_isOrder cX11_isOrder 2 (some .boolean), Cond.constant RX11 76 (200000), Cond.methodLink RX11 51 yX11_within, Cond.static yX11_within, Cond.code yX11_within cX11_within 3 (some .boolean), Cond.methodLink RX11 229 yX11_isHour, Cond.static yX11_isHour, Cond.code yX11_isHour cX11_isHour 1 (some .boolean), Cond.methodLink RX11 55 yX11_refuse, Cond.instanceMethod yX11_refuse, Cond.selects RX11 yX11_refuse yX11_refuse, Cond.code yX11_refuse cX11_refuse 2 (some .int), Cond.fieldLink RX11 354 "ColdShips" "refusal" "I", Cond.methodLink RX11 108 yX10_hasShip, Cond.instanceMethod yX10_hasShip, Cond.selects RX10 yX10_hasShip yX10_hasShip, Cond.initialized RX10, Cond.code yX10_hasShip cX10_hasShip 2 (some .boolean), Cond.fieldLink RX10 81 "ColdShips$World" "shipCount" "I", Cond.methodLink RX11 77 yX10_hasTerminal]
def wsX11_order_r2 : List Cond := [Cond.instanceMethod yX10_hasTerminal, Cond.selects RX10 yX10_hasTerminal yX10_hasTerminal, Cond.code yX10_hasTerminal cX10_hasTerminal 2 (some .boolean), Cond.fieldLink RX10 78 "ColdShips$World" "terminalCount" "I", Cond.methodLink RX11 150 yX5_addOrder, Cond.instanceMethod yX5_addOrder, Cond.selects RX5 yX5_addOrder yX5_addOrder, Cond.initialized RX5, Cond.code yX5_addOrder cX5_addOrder 3 none, Cond.fieldLink RX5 59 "ColdShips$Ship" "orders" "I", Cond.fieldLink RX5 18 "ColdShips$Ship" "orderSorts" "[I", Cond.fieldLink RX5 22 "ColdShips$Ship" "orderWhats" "[I", Cond.methodLink RX11 73 yX11_accept, Cond.instanceMethod yX11_accept, Cond.selects RX11 yX11_accept yX11_accept, Cond.code yX11_accept cX11_accept 2 (some .int)]
def wsX11_order : List Cond := .code yX11_order cX11_order 5 (some .int) :: ((wsX11_order_r1 ++ wsX11_order_r2) ++ wsX110 ++ wsX100 ++ wsX50)
def wsX11_go_r1 : List Cond := [Cond.fieldLink RX11 10 "ColdShips" "world" "LColdShips$World;", Cond.fieldLink RX11 25 "ColdShips" "watch" "LColdShips$Watch;", Cond.methodLink RX11 51 yX11_within, Cond.static yX11_within, Cond.initialized RX11, Cond.code yX11_within cX11_within 3 (some .boolean), Cond.methodLink RX11 55 yX11_refuse, Cond.instanceMethod yX11_refuse, Cond.selects RX11 yX11_refuse yX11_refuse, Cond.code yX11_refuse cX11_refuse 2 (some .int), Cond.fieldLink RX11 354 "ColdShips" "refusal" "I", Cond.methodLink RX11 157 yX9_passHour, Cond.instanceMethod yX9_passHour, Cond.selects RX9 yX9_passHour yX9_passHour, Cond.initialized RX9, Cond.code yX9_passHour cX9_passHour 2 none, Cond.fieldLink RX9 9 "ColdShips$Watch" "world" "LColdShips$World;", Cond.fieldLink RX9 25 "ColdShips$Watch" "hour" "I", Cond.fieldLink RX9 32 "ColdShips$Watch" "sea" "I", Cond.fieldLink RX9 35 "ColdShips$Watch" "turnTaken" "Z", Cond.static yX11_isHour, Cond.code yX11_isHour cX11_isHour 1 (some .boolean), Cond.methodLink RX9 42 yX9_passShip, Cond.instanceMethod yX9_passShip]
def wsX11_go_r2 : List Cond := [Cond.selects RX9 yX9_passShip yX9_passShip, Cond.code yX9_passShip cX9_passShip 5 none, Cond.methodLink RX9 62 yX7_boil, Cond.instanceMethod yX7_boil, Cond.selects RX7 yX7_boil yX7_boil, Cond.initialized RX7, Cond.code yX7_boil cX7_boil 2 none, Cond.fieldLink RX7 32 "ColdShips$Tank" "gas" "I", Cond.constantLong RX7 53 (100000), Cond.methodLink RX7 55 yX7_evaporate, Cond.instanceMethod yX7_evaporate, Cond.selects RX7 yX7_evaporate yX7_evaporate, Cond.code yX7_evaporate cX7_evaporate 2 none, Cond.fieldLink RX7 35 "ColdShips$Tank" "vapor" "I", Cond.methodLink RX7 68 yX7_takeGas, Cond.instanceMethod yX7_takeGas, Cond.selects RX7 yX7_takeGas yX7_takeGas, Cond.code yX7_takeGas cX7_takeGas 6 none, Cond.fieldLink RX7 15 "ColdShips$Tank" "parts" "[I", Cond.fieldLink RX7 19 "ColdShips$Tank" "given" "[I", Cond.fieldLink RX7 22 "ColdShips$Tank" "rests" "[J", Cond.methodLink RX7 71 yX7_giveByRests, Cond.instanceMethod yX7_giveByRests, Cond.selects RX7 yX7_giveByRests yX7_giveByRests]
def wsX11_go_r3 : List Cond := [Cond.code yX7_giveByRests cX7_giveByRests 5 none, Cond.constantLong RX7 80 (-1), Cond.methodLink RX9 67 yX7_warmOrCool, Cond.instanceMethod yX7_warmOrCool, Cond.selects RX7 yX7_warmOrCool yX7_warmOrCool, Cond.code yX7_warmOrCool cX7_warmOrCool 2 none, Cond.fieldLink RX7 38 "ColdShips$Tank" "warm" "I", Cond.methodLink RX7 62 Lib.Math.min.name, Cond.static Lib.Math.min.name, Cond.initialized "java/lang/Math", Cond.code Lib.Math.min.name Lib.Math.min.code 2 (some .int), Cond.fieldLink RX7 9 "ColdShips$Tank" "cap" "I", Cond.methodLink RX7 65 Lib.MathLoose.min_long.x, Cond.static Lib.MathLoose.min_long.x, Cond.code Lib.MathLoose.min_long.x Lib.MathLoose.min_long.code 4 (some .long), Cond.methodLink RX7 59 yX7_heel, Cond.instanceMethod yX7_heel, Cond.selects RX7 yX7_heel yX7_heel, Cond.code yX7_heel cX7_heel 1 (some .int), Cond.methodLink RX9 73 yX5_burnFuel, Cond.instanceMethod yX5_burnFuel, Cond.selects RX5 yX5_burnFuel yX5_burnFuel, Cond.initialized RX5, Cond.code yX5_burnFuel cX5_burnFuel 3 none]
def wsX11_go_r4 : List Cond := [Cond.fieldLink RX5 12 "ColdShips$Ship" "tank" "LColdShips$Tank;", Cond.fieldLink RX5 55 "ColdShips$Ship" "drifting" "Z", Cond.fieldLink RX5 25 "ColdShips$Ship" "book" "[J", Cond.methodLink RX5 83 yX7_burn, Cond.instanceMethod yX7_burn, Cond.selects RX7 yX7_burn yX7_burn, Cond.code yX7_burn cX7_burn 4 (some .int), Cond.methodLink RX9 82 yX9_sail, Cond.instanceMethod yX9_sail, Cond.selects RX9 yX9_sail yX9_sail, Cond.code yX9_sail cX9_sail 4 none, Cond.methodLink RX9 117 yX10_hoursBetween, Cond.instanceMethod yX10_hoursBetween, Cond.selects RX10 yX10_hoursBetween yX10_hoursBetween, Cond.initialized RX10, Cond.code yX10_hoursBetween cX10_hoursBetween 4 (some .int), Cond.fieldLink RX10 27 "ColdShips$World" "terminals" "[LColdShips$Terminal;", Cond.methodLink RX10 93 yX10_hasTerminal, Cond.instanceMethod yX10_hasTerminal, Cond.selects RX10 yX10_hasTerminal yX10_hasTerminal, Cond.code yX10_hasTerminal cX10_hasTerminal 2 (some .boolean), Cond.fieldLink RX10 78 "ColdShips$World" "terminalCount" "I", Cond.methodLink RX9 100 yX5_endOrder, Cond.instanceMethod yX5_endOrder]
def wsX11_go_r5 : List Cond := [Cond.selects RX5 yX5_endOrder yX5_endOrder, Cond.code yX5_endOrder cX5_endOrder 1 none, Cond.fieldLink RX5 59 "ColdShips$Ship" "orders" "I", Cond.fieldLink RX5 18 "ColdShips$Ship" "orderSorts" "[I", Cond.methodLink RX5 77 arraycopyName, Cond.native arraycopyName, Cond.static arraycopyName, Cond.initialized "java/lang/System", Cond.fieldLink RX5 22 "ColdShips$Ship" "orderWhats" "[I", Cond.methodLink RX9 136 yX9_takesTurn, Cond.instanceMethod yX9_takesTurn, Cond.selects RX9 yX9_takesTurn yX9_takesTurn, Cond.code yX9_takesTurn cX9_takesTurn 2 (some .boolean), Cond.methodLink RX9 86 yX9_tonsMayGo, Cond.instanceMethod yX9_tonsMayGo, Cond.selects RX9 yX9_tonsMayGo yX9_tonsMayGo, Cond.code yX9_tonsMayGo cX9_tonsMayGo 6 (some .boolean), Cond.methodLink RX9 140 yX10_hasTerminal, Cond.static yX11_slotOwner, Cond.code yX11_slotOwner cX11_slotOwner 2 (some .int), Cond.methodLink RX9 152 yX7_draft, Cond.instanceMethod yX7_draft, Cond.selects RX7 yX7_draft yX7_draft, Cond.code yX7_draft cX7_draft 1 (some .int)]
def wsX11_go_r6 : List Cond := [Cond.methodLink RX9 160 yX6_meets, Cond.instanceMethod yX6_meets, Cond.selects RX6 yX6_meets yX6_meets, Cond.initialized RX6, Cond.code yX6_meets cX6_meets 6 (some .boolean), Cond.fieldLink RX6 27 "ColdShips$Spans" "size" "I", Cond.fieldLink RX6 21 "ColdShips$Spans" "begins" "[I", Cond.fieldLink RX6 15 "ColdShips$Spans" "owners" "[I", Cond.fieldLink RX6 24 "ColdShips$Spans" "ends" "[I", Cond.methodLink RX9 90 yX9_load, Cond.instanceMethod yX9_load, Cond.selects RX9 yX9_load yX9_load, Cond.code yX9_load cX9_load 6 none, Cond.methodLink RX9 175 Lib.Math.max.name, Cond.static Lib.Math.max.name, Cond.code Lib.Math.max.name Lib.Math.max.code 2 (some .int), Cond.methodLink RX9 186 Lib.Math.min.name, Cond.methodLink RX9 180 yX7_top, Cond.instanceMethod yX7_top, Cond.selects RX7 yX7_top yX7_top, Cond.code yX7_top cX7_top 1 (some .int), Cond.methodLink RX9 192 yX7_fill, Cond.instanceMethod yX7_fill, Cond.selects RX7 yX7_fill yX7_fill]
def wsX11_go_r7 : List Cond := [Cond.code yX7_fill cX7_fill 3 none, Cond.methodLink RX9 93 yX9_land, Cond.instanceMethod yX9_land, Cond.selects RX9 yX9_land yX9_land, Cond.code yX9_land cX9_land 7 none, Cond.methodLink RX9 196 yX7_heel, Cond.methodLink RX9 202 yX5_putAshore, Cond.instanceMethod yX5_putAshore, Cond.selects RX5 yX5_putAshore yX5_putAshore, Cond.code yX5_putAshore cX5_putAshore 4 none, Cond.fieldLink RX5 29 "ColdShips$Ship" "landParts" "[I", Cond.fieldLink RX5 93 "ColdShips$Ship" "landTons" "I", Cond.fieldLink RX5 96 "ColdShips$Ship" "landFirst" "I", Cond.fieldLink RX5 99 "ColdShips$Ship" "landLast" "I", Cond.methodLink RX5 87 yX7_takeGas, Cond.methodLink RX9 205 yX9_keepLanding, Cond.instanceMethod yX9_keepLanding, Cond.selects RX9 yX9_keepLanding yX9_keepLanding, Cond.code yX9_keepLanding cX9_keepLanding 5 none, Cond.constantLong RX9 236 (-1), Cond.methodLink RX9 218 yX4_addRow, Cond.instanceMethod yX4_addRow, Cond.selects RX4 yX4_addRow yX4_addRow, Cond.initialized RX4]
def wsX11_go_r8 : List Cond := [Cond.code yX4_addRow cX4_addRow 2 (some .int), Cond.fieldLink RX4 25 "ColdShips$Rows" "size" "I", Cond.fieldLink RX4 15 "ColdShips$Rows" "width" "I", Cond.fieldLink RX4 21 "ColdShips$Rows" "cells" "[J", Cond.methodLink RX4 28 yJ7_fill_bad5a, Cond.static yJ7_fill_bad5a, Cond.initialized RJ7, Cond.code yJ7_fill_bad5a cJ7_fill_bad5a 6 none, Cond.methodLink RJ7 13 yJ7_rangeCheck_23922, Cond.static yJ7_rangeCheck_23922, Cond.code yJ7_rangeCheck_23922 cJ7_rangeCheck_23922 3 none, Cond.methodLink RX9 223 yX4_set, Cond.instanceMethod yX4_set, Cond.selects RX4 yX4_set yX4_set, Cond.code yX4_set cX4_set 5 none, Cond.methodLink RX4 38 yX4_has, Cond.instanceMethod yX4_has, Cond.selects RX4 yX4_has yX4_has, Cond.code yX4_has cX4_has 2 (some .boolean), Cond.methodLink RX9 208 yX5_forgetLanding, Cond.instanceMethod yX5_forgetLanding, Cond.selects RX5 yX5_forgetLanding yX5_forgetLanding, Cond.code yX5_forgetLanding cX5_forgetLanding 1 none, Cond.methodLink RX5 71 yJ7_fill_53178]
def wsX11_go_r9 : List Cond := [Cond.static yJ7_fill_53178, Cond.code yJ7_fill_53178 cJ7_fill_53178 4 none, Cond.methodLink RX9 110 yX7_vent, Cond.instanceMethod yX7_vent, Cond.selects RX7 yX7_vent yX7_vent, Cond.code yX7_vent cX7_vent 4 (some .int), Cond.constantLong RX7 47 (1000), Cond.methodLink RX7 26 Lib.Math.max.name, Cond.methodLink RX7 49 yX7_space, Cond.instanceMethod yX7_space, Cond.selects RX7 yX7_space yX7_space, Cond.code yX7_space cX7_space 1 (some .int), Cond.methodLink RX11 73 yX11_accept, Cond.instanceMethod yX11_accept, Cond.selects RX11 yX11_accept yX11_accept, Cond.code yX11_accept cX11_accept 2 (some .int)]
def wsX11_go : List Cond := .code yX11_go cX11_go 3 (some .int) :: ((wsX11_go_r1 ++ (wsX11_go_r2 ++ (wsX11_go_r3 ++ (wsX11_go_r4 ++ (wsX11_go_r5 ++ (wsX11_go_r6 ++ (wsX11_go_r7 ++ (wsX11_go_r8 ++ wsX11_go_r9)))))))) ++ wsX110 ++ wsX100 ++ wsX90 ++ wsX50 ++ wsX70 ++ wsX80 ++ wsX60 ++ wsX40)
def wsX11_of_r1 : List Cond := [Cond.fieldLink RX11 10 "ColdShips" "world" "LColdShips$World;", Cond.methodLink RX11 108 yX10_hasShip, Cond.instanceMethod yX10_hasShip, Cond.selects RX10 yX10_hasShip yX10_hasShip, Cond.initialized RX10, Cond.code yX10_hasShip cX10_hasShip 2 (some .boolean), Cond.fieldLink RX10 81 "ColdShips$World" "shipCount" "I", Cond.methodLink RX11 181 yX7_press, Cond.instanceMethod yX7_press, Cond.selects RX7 yX7_press yX7_press, Cond.initialized RX7, Cond.code yX7_press cX7_press 1 (some .int), Cond.fieldLink RX7 35 "ColdShips$Tank" "vapor" "I", Cond.constantLong RX7 47 (1000), Cond.methodLink RX7 49 yX7_space, Cond.instanceMethod yX7_space, Cond.selects RX7 yX7_space yX7_space, Cond.code yX7_space cX7_space 1 (some .int), Cond.fieldLink RX7 9 "ColdShips$Tank" "cap" "I", Cond.fieldLink RX7 32 "ColdShips$Tank" "gas" "I", Cond.methodLink RX7 26 Lib.Math.max.name, Cond.static Lib.Math.max.name, Cond.initialized "java/lang/Math", Cond.code Lib.Math.max.name Lib.Math.max.code 2 (some .int)]
def wsX11_of_r2 : List Cond := [Cond.methodLink RX11 185 yX5_tonsLeft, Cond.instanceMethod yX5_tonsLeft, Cond.selects RX5 yX5_tonsLeft yX5_tonsLeft, Cond.initialized RX5, Cond.code yX5_tonsLeft cX5_tonsLeft 2 (some .int), Cond.fieldLink RX5 59 "ColdShips$Ship" "orders" "I", Cond.fieldLink RX5 18 "ColdShips$Ship" "orderSorts" "[I", Cond.fieldLink RX5 22 "ColdShips$Ship" "orderWhats" "[I", Cond.methodLink RX11 188 yX7_draft, Cond.instanceMethod yX7_draft, Cond.selects RX7 yX7_draft yX7_draft, Cond.code yX7_draft cX7_draft 1 (some .int)]
def wsX11_of : List Cond := .code yX11_of cX11_of 4 (some .int) :: ((wsX11_of_r1 ++ wsX11_of_r2) ++ wsX110 ++ wsX100 ++ wsX50 ++ wsX70)
def wsX11_part : List Cond := .code yX11_part cX11_part 3 (some .int) :: ([.fieldLink RX11 10 "ColdShips" "world" "LColdShips$World;", .methodLink RX11 108 yX10_hasShip, .instanceMethod yX10_hasShip, .selects RX10 yX10_hasShip yX10_hasShip, .initialized RX10, .code yX10_hasShip cX10_hasShip 2 (some .boolean), .fieldLink RX10 81 "ColdShips$World" "shipCount" "I", .methodLink RX11 77 yX10_hasTerminal, .instanceMethod yX10_hasTerminal, .selects RX10 yX10_hasTerminal yX10_hasTerminal, .code yX10_hasTerminal cX10_hasTerminal 2 (some .boolean), .fieldLink RX10 78 "ColdShips$World" "terminalCount" "I"] ++ wsX110 ++ wsX100 ++ wsX50 ++ wsX70)
def wsX11_book : List Cond := .code yX11_book cX11_book 3 (some .long) :: ([.fieldLink RX11 10 "ColdShips" "world" "LColdShips$World;", .constantLong RX11 198 (-1), .methodLink RX11 108 yX10_hasShip, .instanceMethod yX10_hasShip, .selects RX10 yX10_hasShip yX10_hasShip, .initialized RX10, .code yX10_hasShip cX10_hasShip 2 (some .boolean), .fieldLink RX10 81 "ColdShips$World" "shipCount" "I", .methodLink RX11 51 yX11_within, .static yX11_within, .initialized RX11, .code yX11_within cX11_within 3 (some .boolean)] ++ wsX110 ++ wsX100 ++ wsX50)
def wsX11_store : List Cond := .code yX11_store cX11_store 2 (some .int) :: ([.fieldLink RX11 10 "ColdShips" "world" "LColdShips$World;", .methodLink RX11 77 yX10_hasTerminal, .instanceMethod yX10_hasTerminal, .selects RX10 yX10_hasTerminal yX10_hasTerminal, .initialized RX10, .code yX10_hasTerminal cX10_hasTerminal 2 (some .boolean), .fieldLink RX10 78 "ColdShips$World" "terminalCount" "I"] ++ wsX110 ++ wsX100 ++ wsX80)
def wsX11_landing_r1 : List Cond := [Cond.fieldLink RX11 10 "ColdShips" "world" "LColdShips$World;", Cond.methodLink RX11 211 yX4_has, Cond.instanceMethod yX4_has, Cond.selects RX4 yX4_has yX4_has, Cond.initialized RX4, Cond.code yX4_has cX4_has 2 (some .boolean), Cond.fieldLink RX4 25 "ColdShips$Rows" "size" "I", Cond.methodLink RX11 216 yX4_number, Cond.instanceMethod yX4_number, Cond.selects RX4 yX4_number yX4_number, Cond.code yX4_number cX4_number 3 (some .int), Cond.methodLink RX4 34 yX4_at, Cond.instanceMethod yX4_at, Cond.selects RX4 yX4_at yX4_at, Cond.code yX4_at cX4_at 4 (some .long), Cond.fieldLink RX4 15 "ColdShips$Rows" "width" "I", Cond.fieldLink RX4 21 "ColdShips$Rows" "cells" "[J", Cond.methodLink RX11 219 yX10_heatOf, Cond.instanceMethod yX10_heatOf, Cond.selects RX10 yX10_heatOf yX10_heatOf, Cond.initialized RX10, Cond.code yX10_heatOf cX10_heatOf 7 (some .long), Cond.fieldLink RX10 70 "ColdShips$World" "landings" "LColdShips$Rows;", Cond.fieldLink RX10 27 "ColdShips$World" "terminals" "[LColdShips$Terminal;"]
def wsX11_landing_r2 : List Cond := [Cond.methodLink RX10 87 yX4_at, Cond.methodLink RX11 223 yX10_isSettled, Cond.instanceMethod yX10_isSettled, Cond.selects RX10 yX10_isSettled yX10_isSettled, Cond.code yX10_isSettled cX10_isSettled 2 (some .boolean), Cond.constantLong RX10 91 (-1)]
def wsX11_landing : List Cond := .code yX11_landing cX11_landing 3 (some .int) :: ((wsX11_landing_r1 ++ wsX11_landing_r2) ++ wsX110 ++ wsX100 ++ wsX40 ++ wsX80)
def wsX11_led : List Cond := .code yX11_led cX11_led 3 (some .int) :: ([.fieldLink RX11 10 "ColdShips" "world" "LColdShips$World;", .methodLink RX11 211 yX4_has, .instanceMethod yX4_has, .selects RX4 yX4_has yX4_has, .initialized RX4, .code yX4_has cX4_has 2 (some .boolean), .fieldLink RX4 25 "ColdShips$Rows" "size" "I", .methodLink RX11 77 yX10_hasTerminal, .instanceMethod yX10_hasTerminal, .selects RX10 yX10_hasTerminal yX10_hasTerminal, .initialized RX10, .code yX10_hasTerminal cX10_hasTerminal 2 (some .boolean), .fieldLink RX10 78 "ColdShips$World" "terminalCount" "I", .methodLink RX11 216 yX4_number, .instanceMethod yX4_number, .selects RX4 yX4_number yX4_number, .code yX4_number cX4_number 3 (some .int), .methodLink RX4 34 yX4_at, .instanceMethod yX4_at, .selects RX4 yX4_at yX4_at, .code yX4_at cX4_at 4 (some .long), .fieldLink RX4 15 "ColdShips$Rows" "width" "I", .fieldLink RX4 21 "ColdShips$Rows" "cells" "[J"] ++ wsX110 ++ wsX100 ++ wsX40)
def wsX11_heat : List Cond := .code yX11_heat cX11_heat 4 (some .int) :: ([.fieldLink RX11 10 "ColdShips" "world" "LColdShips$World;", .methodLink RX11 51 yX11_within, .static yX11_within, .initialized RX11, .code yX11_within cX11_within 3 (some .boolean), .methodLink RX11 55 yX11_refuse, .instanceMethod yX11_refuse, .selects RX11 yX11_refuse yX11_refuse, .code yX11_refuse cX11_refuse 2 (some .int), .fieldLink RX11 354 "ColdShips" "refusal" "I", .methodLink RX11 77 yX10_hasTerminal, .instanceMethod yX10_hasTerminal, .selects RX10 yX10_hasTerminal yX10_hasTerminal, .initialized RX10, .code yX10_hasTerminal cX10_hasTerminal 2 (some .boolean), .fieldLink RX10 78 "ColdShips$World" "terminalCount" "I", .methodLink RX11 73 yX11_accept, .instanceMethod yX11_accept, .selects RX11 yX11_accept yX11_accept, .code yX11_accept cX11_accept 2 (some .int)] ++ wsX110 ++ wsX100 ++ wsX80)
def wsX11_price_r1 : List Cond := [Cond.fieldLink RX11 10 "ColdShips" "world" "LColdShips$World;", Cond.methodLink RX11 51 yX11_within, Cond.static yX11_within, Cond.initialized RX11, Cond.code yX11_within cX11_within 3 (some .boolean), Cond.methodLink RX11 229 yX11_isHour, Cond.static yX11_isHour, Cond.code yX11_isHour cX11_isHour 1 (some .boolean), Cond.methodLink RX11 55 yX11_refuse, Cond.instanceMethod yX11_refuse, Cond.selects RX11 yX11_refuse yX11_refuse, Cond.code yX11_refuse cX11_refuse 2 (some .int), Cond.fieldLink RX11 354 "ColdShips" "refusal" "I", Cond.methodLink RX11 235 yX4_addRow, Cond.instanceMethod yX4_addRow, Cond.selects RX4 yX4_addRow yX4_addRow, Cond.initialized RX4, Cond.code yX4_addRow cX4_addRow 2 (some .int), Cond.fieldLink RX4 25 "ColdShips$Rows" "size" "I", Cond.fieldLink RX4 15 "ColdShips$Rows" "width" "I", Cond.fieldLink RX4 21 "ColdShips$Rows" "cells" "[J", Cond.methodLink RX4 28 yJ7_fill_bad5a, Cond.static yJ7_fill_bad5a, Cond.initialized RJ7]
def wsX11_price_r2 : List Cond := [Cond.code yJ7_fill_bad5a cJ7_fill_bad5a 6 none, Cond.methodLink RJ7 13 yJ7_rangeCheck_23922, Cond.static yJ7_rangeCheck_23922, Cond.code yJ7_rangeCheck_23922 cJ7_rangeCheck_23922 3 none, Cond.methodLink RX11 238 yX4_set, Cond.instanceMethod yX4_set, Cond.selects RX4 yX4_set yX4_set, Cond.code yX4_set cX4_set 5 none, Cond.methodLink RX4 38 yX4_has, Cond.instanceMethod yX4_has, Cond.selects RX4 yX4_has yX4_has, Cond.code yX4_has cX4_has 2 (some .boolean), Cond.methodLink RX11 73 yX11_accept, Cond.instanceMethod yX11_accept, Cond.selects RX11 yX11_accept yX11_accept, Cond.code yX11_accept cX11_accept 2 (some .int)]
def wsX11_price : List Cond := .code yX11_price cX11_price 5 (some .int) :: ((wsX11_price_r1 ++ wsX11_price_r2) ++ wsX110 ++ wsX100 ++ wsX40)
def wsX11_force_r1 : List Cond := [Cond.fieldLink RX11 10 "ColdShips" "world" "LColdShips$World;", Cond.methodLink RX11 104 yX11_isSpan, Cond.static yX11_isSpan, Cond.initialized RX11, Cond.code yX11_isSpan cX11_isSpan 2 (some .boolean), Cond.methodLink RX11 229 yX11_isHour, Cond.static yX11_isHour, Cond.code yX11_isHour cX11_isHour 1 (some .boolean), Cond.methodLink RX11 51 yX11_within, Cond.static yX11_within, Cond.code yX11_within cX11_within 3 (some .boolean), Cond.methodLink RX11 55 yX11_refuse, Cond.instanceMethod yX11_refuse, Cond.selects RX11 yX11_refuse yX11_refuse, Cond.code yX11_refuse cX11_refuse 2 (some .int), Cond.fieldLink RX11 354 "ColdShips" "refusal" "I", Cond.methodLink RX11 125 yX6_add, Cond.instanceMethod yX6_add, Cond.selects RX6 yX6_add yX6_add, Cond.initialized RX6, Cond.code yX6_add cX6_add 5 (some .int), Cond.fieldLink RX6 27 "ColdShips$Spans" "size" "I", Cond.fieldLink RX6 15 "ColdShips$Spans" "owners" "[I", Cond.fieldLink RX6 21 "ColdShips$Spans" "begins" "[I"]
def wsX11_force_r2 : List Cond := [Cond.fieldLink RX6 24 "ColdShips$Spans" "ends" "[I", Cond.methodLink RX11 129 yX11_acceptOrFull, Cond.instanceMethod yX11_acceptOrFull, Cond.selects RX11 yX11_acceptOrFull yX11_acceptOrFull, Cond.code yX11_acceptOrFull cX11_acceptOrFull 2 (some .int), Cond.methodLink RX11 73 yX11_accept, Cond.instanceMethod yX11_accept, Cond.selects RX11 yX11_accept yX11_accept, Cond.code yX11_accept cX11_accept 2 (some .int)]
def wsX11_force : List Cond := .code yX11_force cX11_force 4 (some .int) :: ((wsX11_force_r1 ++ wsX11_force_r2) ++ wsX110 ++ wsX100 ++ wsX60)
def wsX11_bill_r1 : List Cond := [Cond.constant RX11 76 (200000), Cond.fieldLink RX11 10 "ColdShips" "world" "LColdShips$World;", Cond.constantLong RX11 198 (-1), Cond.methodLink RX11 51 yX11_within, Cond.static yX11_within, Cond.initialized RX11, Cond.code yX11_within cX11_within 3 (some .boolean), Cond.methodLink RX11 55 yX11_refuse, Cond.instanceMethod yX11_refuse, Cond.selects RX11 yX11_refuse yX11_refuse, Cond.code yX11_refuse cX11_refuse 2 (some .int), Cond.fieldLink RX11 354 "ColdShips" "refusal" "I", Cond.methodLink RX11 211 yX4_has, Cond.instanceMethod yX4_has, Cond.selects RX4 yX4_has yX4_has, Cond.initialized RX4, Cond.code yX4_has cX4_has 2 (some .boolean), Cond.fieldLink RX4 25 "ColdShips$Rows" "size" "I", Cond.methodLink RX11 248 yX4_at, Cond.instanceMethod yX4_at, Cond.selects RX4 yX4_at yX4_at, Cond.code yX4_at cX4_at 4 (some .long), Cond.fieldLink RX4 15 "ColdShips$Rows" "width" "I", Cond.fieldLink RX4 21 "ColdShips$Rows" "cells" "[J"]
def wsX11_bill_r2 : List Cond := [Cond.methodLink RX11 238 yX4_set, Cond.instanceMethod yX4_set, Cond.selects RX4 yX4_set yX4_set, Cond.code yX4_set cX4_set 5 none, Cond.methodLink RX4 38 yX4_has, Cond.methodLink RX11 73 yX11_accept, Cond.instanceMethod yX11_accept, Cond.selects RX11 yX11_accept yX11_accept, Cond.code yX11_accept cX11_accept 2 (some .int)]
def wsX11_bill : List Cond := .code yX11_bill cX11_bill 3 (some .int) :: ((wsX11_bill_r1 ++ wsX11_bill_r2) ++ wsX110 ++ wsX100 ++ wsX40)
set_option maxRecDepth 20000 in
theorem ggX11_terminal_X11_within : GoodIn wsX11_terminal wsX11_within := goodIn_r _ [6] (by decide +kernel) (by decide +kernel)
set_option maxRecDepth 20000 in
theorem gX11_terminal_X11_within : GoodIn wsX11_terminal (va_wsS RX11 51 yX11_within wsX11_within) := goodIn_app (goodIn_of _ (by decide +kernel)) ggX11_terminal_X11_within
set_option maxRecDepth 20000 in
theorem ggX11_terminal_X11_refuse : GoodIn wsX11_terminal wsX11_refuse := goodIn_r _ [10, 11, 35, 36, 37, 38, 39, 40, 41] (by decide +kernel) (by decide +kernel)
set_option maxRecDepth 20000 in
theorem gX11_terminal_X11_refuse : GoodIn wsX11_terminal (wsV RX11 55 RX11 yX11_refuse wsX11_refuse) := goodIn_app (goodIn_of _ (by decide +kernel)) ggX11_terminal_X11_refuse
set_option maxRecDepth 20000 in
theorem ggX11_terminal_X8_begin : GoodIn wsX11_terminal wsX8_begin := goodIn_r _ [16, 17, 18, 19, 20, 21, 22, 23, 24, 25, 26, 27, 28, 29, 30, 61, 62, 63, 64, 65, 66, 67] (by decide +kernel) (by decide +kernel)
set_option maxRecDepth 20000 in
theorem gX11_terminal_X8_begin : GoodIn wsX11_terminal (wsV RX11 67 RX8 yX8_begin wsX8_begin) := goodIn_app (goodIn_of _ (by decide +kernel)) ggX11_terminal_X8_begin
set_option maxRecDepth 20000 in
theorem ggX11_terminal_X11_accept : GoodIn wsX11_terminal wsX11_accept := goodIn_r _ [34, 11, 35, 36, 37, 38, 39, 40, 41] (by decide +kernel) (by decide +kernel)
set_option maxRecDepth 20000 in
theorem gX11_terminal_X11_accept : GoodIn wsX11_terminal (wsV RX11 73 RX11 yX11_accept wsX11_accept) := goodIn_app (goodIn_of _ (by decide +kernel)) ggX11_terminal_X11_accept
theorem dX11_terminal_0 : decode cX11_terminal 0 = .ok (.iload_n 2, 1) := by decide +kernel
theorem dX11_terminal_1 : decode cX11_terminal 1 = .ok (.iconst 0, 1) := by decide +kernel
theorem dX11_terminal_2 : decode cX11_terminal 2 = .ok (.ldc 50, 2) := by decide +kernel
theorem dX11_terminal_4 : decode cX11_terminal 4 = .ok (.invokestatic 51, 3) := by decide +kernel
theorem dX11_terminal_7 : decode cX11_terminal 7 = .ok (.ifCond .eq 34, 3) := by decide +kernel
theorem dX11_terminal_10 : decode cX11_terminal 10 = .ok (.iload_n 1, 1) := by decide +kernel
theorem dX11_terminal_11 : decode cX11_terminal 11 = .ok (.iconst 0, 1) := by decide +kernel
theorem dX11_terminal_12 : decode cX11_terminal 12 = .ok (.iload_n 2, 1) := by decide +kernel
theorem dX11_terminal_13 : decode cX11_terminal 13 = .ok (.invokestatic 51, 3) := by decide +kernel
theorem dX11_terminal_16 : decode cX11_terminal 16 = .ok (.ifCond .eq 25, 3) := by decide +kernel
theorem dX11_terminal_19 : decode cX11_terminal 19 = .ok (.iload_n 3, 1) := by decide +kernel
theorem dX11_terminal_20 : decode cX11_terminal 20 = .ok (.iconst 1, 1) := by decide +kernel
theorem dX11_terminal_21 : decode cX11_terminal 21 = .ok (.sipush 10000, 3) := by decide +kernel
theorem dX11_terminal_24 : decode cX11_terminal 24 = .ok (.invokestatic 51, 3) := by decide +kernel
theorem dX11_terminal_27 : decode cX11_terminal 27 = .ok (.ifCond .eq 14, 3) := by decide +kernel
theorem dX11_terminal_30 : decode cX11_terminal 30 = .ok (.iload 4, 2) := by decide +kernel
theorem dX11_terminal_32 : decode cX11_terminal 32 = .ok (.iconst 0, 1) := by decide +kernel
theorem dX11_terminal_33 : decode cX11_terminal 33 = .ok (.bipush 30, 2) := by decide +kernel
theorem dX11_terminal_35 : decode cX11_terminal 35 = .ok (.invokestatic 51, 3) := by decide +kernel
theorem dX11_terminal_38 : decode cX11_terminal 38 = .ok (.ifCond .ne 9, 3) := by decide +kernel
theorem dX11_terminal_41 : decode cX11_terminal 41 = .ok (.aload_n 0, 1) := by decide +kernel
theorem dX11_terminal_42 : decode cX11_terminal 42 = .ok (.iconst (-1), 1) := by decide +kernel
theorem dX11_terminal_43 : decode cX11_terminal 43 = .ok (.invokevirtual 55, 3) := by decide +kernel
theorem dX11_terminal_46 : decode cX11_terminal 46 = .ok (.ireturn, 1) := by decide +kernel
theorem dX11_terminal_47 : decode cX11_terminal 47 = .ok (.aload_n 0, 1) := by decide +kernel
theorem dX11_terminal_48 : decode cX11_terminal 48 = .ok (.getfield 10, 3) := by decide +kernel
theorem dX11_terminal_51 : decode cX11_terminal 51 = .ok (.getfield 59, 3) := by decide +kernel
theorem dX11_terminal_54 : decode cX11_terminal 54 = .ok (.bipush 6, 2) := by decide +kernel
theorem dX11_terminal_56 : decode cX11_terminal 56 = .ok (.if_icmp .lt 10, 3) := by decide +kernel
theorem dX11_terminal_59 : decode cX11_terminal 59 = .ok (.aload_n 0, 1) := by decide +kernel
theorem dX11_terminal_60 : decode cX11_terminal 60 = .ok (.bipush (-5), 2) := by decide +kernel
theorem dX11_terminal_62 : decode cX11_terminal 62 = .ok (.invokevirtual 55, 3) := by decide +kernel
theorem dX11_terminal_65 : decode cX11_terminal 65 = .ok (.ireturn, 1) := by decide +kernel
theorem dX11_terminal_66 : decode cX11_terminal 66 = .ok (.aload_n 0, 1) := by decide +kernel
theorem dX11_terminal_67 : decode cX11_terminal 67 = .ok (.getfield 10, 3) := by decide +kernel
theorem dX11_terminal_70 : decode cX11_terminal 70 = .ok (.getfield 59, 3) := by decide +kernel
theorem dX11_terminal_73 : decode cX11_terminal 73 = .ok (.istore 5, 2) := by decide +kernel
theorem dX11_terminal_75 : decode cX11_terminal 75 = .ok (.aload_n 0, 1) := by decide +kernel
theorem dX11_terminal_76 : decode cX11_terminal 76 = .ok (.getfield 10, 3) := by decide +kernel
theorem dX11_terminal_79 : decode cX11_terminal 79 = .ok (.getfield 63, 3) := by decide +kernel
theorem dX11_terminal_82 : decode cX11_terminal 82 = .ok (.iload 5, 2) := by decide +kernel
theorem dX11_terminal_84 : decode cX11_terminal 84 = .ok (.aaload, 1) := by decide +kernel
theorem dX11_terminal_85 : decode cX11_terminal 85 = .ok (.iload_n 1, 1) := by decide +kernel
theorem dX11_terminal_86 : decode cX11_terminal 86 = .ok (.iload_n 2, 1) := by decide +kernel
theorem dX11_terminal_87 : decode cX11_terminal 87 = .ok (.iload_n 3, 1) := by decide +kernel
theorem dX11_terminal_88 : decode cX11_terminal 88 = .ok (.iload 4, 2) := by decide +kernel
theorem dX11_terminal_90 : decode cX11_terminal 90 = .ok (.invokevirtual 67, 3) := by decide +kernel
theorem dX11_terminal_93 : decode cX11_terminal 93 = .ok (.aload_n 0, 1) := by decide +kernel
theorem dX11_terminal_94 : decode cX11_terminal 94 = .ok (.getfield 10, 3) := by decide +kernel
theorem dX11_terminal_97 : decode cX11_terminal 97 = .ok (.dup, 1) := by decide +kernel
theorem dX11_terminal_98 : decode cX11_terminal 98 = .ok (.getfield 59, 3) := by decide +kernel
theorem dX11_terminal_101 : decode cX11_terminal 101 = .ok (.iconst 1, 1) := by decide +kernel
theorem dX11_terminal_102 : decode cX11_terminal 102 = .ok (.iadd, 1) := by decide +kernel
theorem dX11_terminal_103 : decode cX11_terminal 103 = .ok (.putfield 59, 3) := by decide +kernel
theorem dX11_terminal_106 : decode cX11_terminal 106 = .ok (.aload_n 0, 1) := by decide +kernel
theorem dX11_terminal_107 : decode cX11_terminal 107 = .ok (.iload 5, 2) := by decide +kernel
theorem dX11_terminal_109 : decode cX11_terminal 109 = .ok (.invokevirtual 73, 3) := by decide +kernel
theorem dX11_terminal_112 : decode cX11_terminal 112 = .ok (.ireturn, 1) := by decide +kernel
set_option maxRecDepth 20000 in
theorem ggX11_ship_X11_within : GoodIn wsX11_ship wsX11_within := goodIn_r _ [6] (by decide +kernel) (by decide +kernel)
set_option maxRecDepth 20000 in
theorem gX11_ship_X11_within : GoodIn wsX11_ship (va_wsS RX11 51 yX11_within wsX11_within) := goodIn_app (goodIn_of _ (by decide +kernel)) ggX11_ship_X11_within
set_option maxRecDepth 20000 in
theorem ggX11_ship_X11_refuse : GoodIn wsX11_ship wsX11_refuse := goodIn_r _ [10, 11, 65, 66, 67, 68, 69, 70, 71] (by decide +kernel) (by decide +kernel)
set_option maxRecDepth 20000 in
theorem gX11_ship_X11_refuse : GoodIn wsX11_ship (wsV RX11 55 RX11 yX11_refuse wsX11_refuse) := goodIn_app (goodIn_of _ (by decide +kernel)) ggX11_ship_X11_refuse
set_option maxRecDepth 20000 in
theorem ggX11_ship_X10_hasTerminal : GoodIn wsX11_ship wsX10_hasTerminal := goodIn_r _ [16, 17, 72, 73, 74, 75, 76, 77, 78, 79, 80, 81, 82, 83, 84, 85, 86, 87, 88, 89, 90] (by decide +kernel) (by decide +kernel)
set_option maxRecDepth 20000 in
theorem gX11_ship_X10_hasTerminal : GoodIn wsX11_ship (wsV RX11 77 RX10 yX10_hasTerminal wsX10_hasTerminal) := goodIn_app (goodIn_of _ (by decide +kernel)) ggX11_ship_X10_hasTerminal
set_option maxRecDepth 20000 in
theorem ggX11_ship_X5_begin : GoodIn wsX11_ship wsX5_begin := goodIn_r _ [22, 23, 24, 25, 26, 27, 28, 29, 30, 31, 32, 33, 34, 35, 36, 37, 38, 39, 40, 41, 42, 43, 44, 45, 46, 47, 48, 49, 50, 51, 52, 53, 54, 55, 56, 57, 21, 58, 59, 60, 91, 92, 93, 94, 95, 96, 97, 98, 99, 100, 101, 102, 103, 104, 105, 106, 107, 108, 109, 110, 111, 112, 113, 114] (by decide +kernel) (by decide +kernel)
set_option maxRecDepth 20000 in
theorem gX11_ship_X5_begin : GoodIn wsX11_ship (wsV RX11 88 RX5 yX5_begin wsX5_begin) := goodIn_app (goodIn_of _ (by decide +kernel)) ggX11_ship_X5_begin
set_option maxRecDepth 20000 in
theorem ggX11_ship_X11_accept : GoodIn wsX11_ship wsX11_accept := goodIn_r _ [64, 11, 65, 66, 67, 68, 69, 70, 71] (by decide +kernel) (by decide +kernel)
set_option maxRecDepth 20000 in
theorem gX11_ship_X11_accept : GoodIn wsX11_ship (wsV RX11 73 RX11 yX11_accept wsX11_accept) := goodIn_app (goodIn_of _ (by decide +kernel)) ggX11_ship_X11_accept
theorem dX11_ship_0 : decode cX11_ship 0 = .ok (.iload_n 2, 1) := by decide +kernel
theorem dX11_ship_1 : decode cX11_ship 1 = .ok (.sipush 1000, 3) := by decide +kernel
theorem dX11_ship_4 : decode cX11_ship 4 = .ok (.ldc 76, 2) := by decide +kernel
theorem dX11_ship_6 : decode cX11_ship 6 = .ok (.invokestatic 51, 3) := by decide +kernel
theorem dX11_ship_9 : decode cX11_ship 9 = .ok (.ifCond .eq 13, 3) := by decide +kernel
theorem dX11_ship_12 : decode cX11_ship 12 = .ok (.iload_n 3, 1) := by decide +kernel
theorem dX11_ship_13 : decode cX11_ship 13 = .ok (.iconst 1, 1) := by decide +kernel
theorem dX11_ship_14 : decode cX11_ship 14 = .ok (.bipush 50, 2) := by decide +kernel
theorem dX11_ship_16 : decode cX11_ship 16 = .ok (.invokestatic 51, 3) := by decide +kernel
theorem dX11_ship_19 : decode cX11_ship 19 = .ok (.ifCond .ne 9, 3) := by decide +kernel
theorem dX11_ship_22 : decode cX11_ship 22 = .ok (.aload_n 0, 1) := by decide +kernel
theorem dX11_ship_23 : decode cX11_ship 23 = .ok (.iconst (-1), 1) := by decide +kernel
theorem dX11_ship_24 : decode cX11_ship 24 = .ok (.invokevirtual 55, 3) := by decide +kernel
theorem dX11_ship_27 : decode cX11_ship 27 = .ok (.ireturn, 1) := by decide +kernel
theorem dX11_ship_28 : decode cX11_ship 28 = .ok (.aload_n 0, 1) := by decide +kernel
theorem dX11_ship_29 : decode cX11_ship 29 = .ok (.getfield 10, 3) := by decide +kernel
theorem dX11_ship_32 : decode cX11_ship 32 = .ok (.iload_n 1, 1) := by decide +kernel
theorem dX11_ship_33 : decode cX11_ship 33 = .ok (.invokevirtual 77, 3) := by decide +kernel
theorem dX11_ship_36 : decode cX11_ship 36 = .ok (.ifCond .ne 10, 3) := by decide +kernel
theorem dX11_ship_39 : decode cX11_ship 39 = .ok (.aload_n 0, 1) := by decide +kernel
theorem dX11_ship_40 : decode cX11_ship 40 = .ok (.bipush (-2), 2) := by decide +kernel
theorem dX11_ship_42 : decode cX11_ship 42 = .ok (.invokevirtual 55, 3) := by decide +kernel
theorem dX11_ship_45 : decode cX11_ship 45 = .ok (.ireturn, 1) := by decide +kernel
theorem dX11_ship_46 : decode cX11_ship 46 = .ok (.aload_n 0, 1) := by decide +kernel
theorem dX11_ship_47 : decode cX11_ship 47 = .ok (.getfield 10, 3) := by decide +kernel
theorem dX11_ship_50 : decode cX11_ship 50 = .ok (.getfield 81, 3) := by decide +kernel
theorem dX11_ship_53 : decode cX11_ship 53 = .ok (.bipush 6, 2) := by decide +kernel
theorem dX11_ship_55 : decode cX11_ship 55 = .ok (.if_icmp .lt 10, 3) := by decide +kernel
theorem dX11_ship_58 : decode cX11_ship 58 = .ok (.aload_n 0, 1) := by decide +kernel
theorem dX11_ship_59 : decode cX11_ship 59 = .ok (.bipush (-5), 2) := by decide +kernel
theorem dX11_ship_61 : decode cX11_ship 61 = .ok (.invokevirtual 55, 3) := by decide +kernel
theorem dX11_ship_64 : decode cX11_ship 64 = .ok (.ireturn, 1) := by decide +kernel
theorem dX11_ship_65 : decode cX11_ship 65 = .ok (.aload_n 0, 1) := by decide +kernel
theorem dX11_ship_66 : decode cX11_ship 66 = .ok (.getfield 10, 3) := by decide +kernel
theorem dX11_ship_69 : decode cX11_ship 69 = .ok (.getfield 81, 3) := by decide +kernel
theorem dX11_ship_72 : decode cX11_ship 72 = .ok (.istore 4, 2) := by decide +kernel
theorem dX11_ship_74 : decode cX11_ship 74 = .ok (.aload_n 0, 1) := by decide +kernel
theorem dX11_ship_75 : decode cX11_ship 75 = .ok (.getfield 10, 3) := by decide +kernel
theorem dX11_ship_78 : decode cX11_ship 78 = .ok (.getfield 84, 3) := by decide +kernel
theorem dX11_ship_81 : decode cX11_ship 81 = .ok (.iload 4, 2) := by decide +kernel
theorem dX11_ship_83 : decode cX11_ship 83 = .ok (.aaload, 1) := by decide +kernel
theorem dX11_ship_84 : decode cX11_ship 84 = .ok (.iload_n 1, 1) := by decide +kernel
theorem dX11_ship_85 : decode cX11_ship 85 = .ok (.iload_n 2, 1) := by decide +kernel
theorem dX11_ship_86 : decode cX11_ship 86 = .ok (.iload_n 3, 1) := by decide +kernel
theorem dX11_ship_87 : decode cX11_ship 87 = .ok (.invokevirtual 88, 3) := by decide +kernel
theorem dX11_ship_90 : decode cX11_ship 90 = .ok (.aload_n 0, 1) := by decide +kernel
theorem dX11_ship_91 : decode cX11_ship 91 = .ok (.getfield 10, 3) := by decide +kernel
theorem dX11_ship_94 : decode cX11_ship 94 = .ok (.dup, 1) := by decide +kernel
theorem dX11_ship_95 : decode cX11_ship 95 = .ok (.getfield 81, 3) := by decide +kernel
theorem dX11_ship_98 : decode cX11_ship 98 = .ok (.iconst 1, 1) := by decide +kernel
theorem dX11_ship_99 : decode cX11_ship 99 = .ok (.iadd, 1) := by decide +kernel
theorem dX11_ship_100 : decode cX11_ship 100 = .ok (.putfield 81, 3) := by decide +kernel
theorem dX11_ship_103 : decode cX11_ship 103 = .ok (.aload_n 0, 1) := by decide +kernel
theorem dX11_ship_104 : decode cX11_ship 104 = .ok (.iload 4, 2) := by decide +kernel
theorem dX11_ship_106 : decode cX11_ship 106 = .ok (.invokevirtual 73, 3) := by decide +kernel
theorem dX11_ship_109 : decode cX11_ship 109 = .ok (.ireturn, 1) := by decide +kernel
set_option maxRecDepth 20000 in
theorem ggX11_way_X11_within : GoodIn wsX11_way wsX11_within := goodIn_r _ [5] (by decide +kernel) (by decide +kernel)
set_option maxRecDepth 20000 in
theorem gX11_way_X11_within : GoodIn wsX11_way (va_wsS RX11 51 yX11_within wsX11_within) := goodIn_app (goodIn_of _ (by decide +kernel)) ggX11_way_X11_within
set_option maxRecDepth 20000 in
theorem ggX11_way_X11_refuse : GoodIn wsX11_way wsX11_refuse := goodIn_r _ [9, 10, 28, 29, 30, 31, 32, 33, 34] (by decide +kernel) (by decide +kernel)
set_option maxRecDepth 20000 in
theorem gX11_way_X11_refuse : GoodIn wsX11_way (wsV RX11 55 RX11 yX11_refuse wsX11_refuse) := goodIn_app (goodIn_of _ (by decide +kernel)) ggX11_way_X11_refuse
set_option maxRecDepth 20000 in
theorem ggX11_way_X10_hasTerminal : GoodIn wsX11_way wsX10_hasTerminal := goodIn_r _ [15, 16, 35, 36, 37, 38, 39, 40, 41, 42, 43, 44, 45, 46, 47, 48, 49, 50, 51, 52, 53] (by decide +kernel) (by decide +kernel)
set_option maxRecDepth 20000 in
theorem gX11_way_X10_hasTerminal : GoodIn wsX11_way (wsV RX11 77 RX10 yX10_hasTerminal wsX10_hasTerminal) := goodIn_app (goodIn_of _ (by decide +kernel)) ggX11_way_X10_hasTerminal
set_option maxRecDepth 20000 in
theorem ggX11_way_X8_tellWay : GoodIn wsX11_way wsX8_tellWay := goodIn_r _ [21, 22, 23, 3, 4, 5, 54, 55, 56, 57, 58, 59, 60] (by decide +kernel) (by decide +kernel)
set_option maxRecDepth 20000 in
theorem gX11_way_X8_tellWay : GoodIn wsX11_way (wsV RX11 93 RX8 yX8_tellWay wsX8_tellWay) := goodIn_app (goodIn_of _ (by decide +kernel)) ggX11_way_X8_tellWay
set_option maxRecDepth 20000 in
theorem ggX11_way_X11_accept : GoodIn wsX11_way wsX11_accept := goodIn_r _ [27, 10, 28, 29, 30, 31, 32, 33, 34] (by decide +kernel) (by decide +kernel)
set_option maxRecDepth 20000 in
theorem gX11_way_X11_accept : GoodIn wsX11_way (wsV RX11 73 RX11 yX11_accept wsX11_accept) := goodIn_app (goodIn_of _ (by decide +kernel)) ggX11_way_X11_accept
theorem dX11_way_0 : decode cX11_way 0 = .ok (.iload_n 3, 1) := by decide +kernel
theorem dX11_way_1 : decode cX11_way 1 = .ok (.iconst 1, 1) := by decide +kernel
theorem dX11_way_2 : decode cX11_way 2 = .ok (.sipush 400, 3) := by decide +kernel
theorem dX11_way_5 : decode cX11_way 5 = .ok (.invokestatic 51, 3) := by decide +kernel
theorem dX11_way_8 : decode cX11_way 8 = .ok (.ifCond .ne 9, 3) := by decide +kernel
theorem dX11_way_11 : decode cX11_way 11 = .ok (.aload_n 0, 1) := by decide +kernel
theorem dX11_way_12 : decode cX11_way 12 = .ok (.iconst (-1), 1) := by decide +kernel
theorem dX11_way_13 : decode cX11_way 13 = .ok (.invokevirtual 55, 3) := by decide +kernel
theorem dX11_way_16 : decode cX11_way 16 = .ok (.ireturn, 1) := by decide +kernel
theorem dX11_way_17 : decode cX11_way 17 = .ok (.aload_n 0, 1) := by decide +kernel
theorem dX11_way_18 : decode cX11_way 18 = .ok (.getfield 10, 3) := by decide +kernel
theorem dX11_way_21 : decode cX11_way 21 = .ok (.iload_n 1, 1) := by decide +kernel
theorem dX11_way_22 : decode cX11_way 22 = .ok (.invokevirtual 77, 3) := by decide +kernel
theorem dX11_way_25 : decode cX11_way 25 = .ok (.ifCond .eq 14, 3) := by decide +kernel
theorem dX11_way_28 : decode cX11_way 28 = .ok (.aload_n 0, 1) := by decide +kernel
theorem dX11_way_29 : decode cX11_way 29 = .ok (.getfield 10, 3) := by decide +kernel
theorem dX11_way_32 : decode cX11_way 32 = .ok (.iload_n 2, 1) := by decide +kernel
theorem dX11_way_33 : decode cX11_way 33 = .ok (.invokevirtual 77, 3) := by decide +kernel
theorem dX11_way_36 : decode cX11_way 36 = .ok (.ifCond .ne 10, 3) := by decide +kernel
theorem dX11_way_39 : decode cX11_way 39 = .ok (.aload_n 0, 1) := by decide +kernel
theorem dX11_way_40 : decode cX11_way 40 = .ok (.bipush (-2), 2) := by decide +kernel
theorem dX11_way_42 : decode cX11_way 42 = .ok (.invokevirtual 55, 3) := by decide +kernel
theorem dX11_way_45 : decode cX11_way 45 = .ok (.ireturn, 1) := by decide +kernel
theorem dX11_way_46 : decode cX11_way 46 = .ok (.iload_n 1, 1) := by decide +kernel
theorem dX11_way_47 : decode cX11_way 47 = .ok (.iload_n 2, 1) := by decide +kernel
theorem dX11_way_48 : decode cX11_way 48 = .ok (.if_icmp .ne 10, 3) := by decide +kernel
theorem dX11_way_51 : decode cX11_way 51 = .ok (.aload_n 0, 1) := by decide +kernel
theorem dX11_way_52 : decode cX11_way 52 = .ok (.bipush (-3), 2) := by decide +kernel
theorem dX11_way_54 : decode cX11_way 54 = .ok (.invokevirtual 55, 3) := by decide +kernel
theorem dX11_way_57 : decode cX11_way 57 = .ok (.ireturn, 1) := by decide +kernel
theorem dX11_way_58 : decode cX11_way 58 = .ok (.aload_n 0, 1) := by decide +kernel
theorem dX11_way_59 : decode cX11_way 59 = .ok (.getfield 10, 3) := by decide +kernel
theorem dX11_way_62 : decode cX11_way 62 = .ok (.getfield 63, 3) := by decide +kernel
theorem dX11_way_65 : decode cX11_way 65 = .ok (.iload_n 1, 1) := by decide +kernel
theorem dX11_way_66 : decode cX11_way 66 = .ok (.aaload, 1) := by decide +kernel
theorem dX11_way_67 : decode cX11_way 67 = .ok (.iload_n 2, 1) := by decide +kernel
theorem dX11_way_68 : decode cX11_way 68 = .ok (.iload_n 3, 1) := by decide +kernel
theorem dX11_way_69 : decode cX11_way 69 = .ok (.iload 4, 2) := by decide +kernel
theorem dX11_way_71 : decode cX11_way 71 = .ok (.invokevirtual 93, 3) := by decide +kernel
theorem dX11_way_74 : decode cX11_way 74 = .ok (.aload_n 0, 1) := by decide +kernel
theorem dX11_way_75 : decode cX11_way 75 = .ok (.getfield 10, 3) := by decide +kernel
theorem dX11_way_78 : decode cX11_way 78 = .ok (.getfield 63, 3) := by decide +kernel
theorem dX11_way_81 : decode cX11_way 81 = .ok (.iload_n 2, 1) := by decide +kernel
theorem dX11_way_82 : decode cX11_way 82 = .ok (.aaload, 1) := by decide +kernel
theorem dX11_way_83 : decode cX11_way 83 = .ok (.iload_n 1, 1) := by decide +kernel
theorem dX11_way_84 : decode cX11_way 84 = .ok (.iload_n 3, 1) := by decide +kernel
theorem dX11_way_85 : decode cX11_way 85 = .ok (.iload 4, 2) := by decide +kernel
theorem dX11_way_87 : decode cX11_way 87 = .ok (.invokevirtual 93, 3) := by decide +kernel
theorem dX11_way_90 : decode cX11_way 90 = .ok (.aload_n 0, 1) := by decide +kernel
theorem dX11_way_91 : decode cX11_way 91 = .ok (.iconst 0, 1) := by decide +kernel
theorem dX11_way_92 : decode cX11_way 92 = .ok (.invokevirtual 73, 3) := by decide +kernel
theorem dX11_way_95 : decode cX11_way 95 = .ok (.ireturn, 1) := by decide +kernel
set_option maxRecDepth 20000 in
theorem ggX11_tide_X11_within : GoodIn wsX11_tide wsX11_within := goodIn_r _ [5] (by decide +kernel) (by decide +kernel)
set_option maxRecDepth 20000 in
theorem gX11_tide_X11_within : GoodIn wsX11_tide (va_wsS RX11 51 yX11_within wsX11_within) := goodIn_app (goodIn_of _ (by decide +kernel)) ggX11_tide_X11_within
set_option maxRecDepth 20000 in
theorem ggX11_tide_X11_refuse : GoodIn wsX11_tide wsX11_refuse := goodIn_r _ [9, 10, 15, 16, 17, 18, 19, 20, 21] (by decide +kernel) (by decide +kernel)
set_option maxRecDepth 20000 in
theorem gX11_tide_X11_refuse : GoodIn wsX11_tide (wsV RX11 55 RX11 yX11_refuse wsX11_refuse) := goodIn_app (goodIn_of _ (by decide +kernel)) ggX11_tide_X11_refuse
set_option maxRecDepth 20000 in
theorem ggX11_tide_X11_accept : GoodIn wsX11_tide wsX11_accept := goodIn_r _ [14, 10, 15, 16, 17, 18, 19, 20, 21] (by decide +kernel) (by decide +kernel)
set_option maxRecDepth 20000 in
theorem gX11_tide_X11_accept : GoodIn wsX11_tide (wsV RX11 73 RX11 yX11_accept wsX11_accept) := goodIn_app (goodIn_of _ (by decide +kernel)) ggX11_tide_X11_accept
theorem dX11_tide_0 : decode cX11_tide 0 = .ok (.iload_n 1, 1) := by decide +kernel
theorem dX11_tide_1 : decode cX11_tide 1 = .ok (.iconst 0, 1) := by decide +kernel
theorem dX11_tide_2 : decode cX11_tide 2 = .ok (.bipush 24, 2) := by decide +kernel
theorem dX11_tide_4 : decode cX11_tide 4 = .ok (.invokestatic 51, 3) := by decide +kernel
theorem dX11_tide_7 : decode cX11_tide 7 = .ok (.ifCond .eq 13, 3) := by decide +kernel
theorem dX11_tide_10 : decode cX11_tide 10 = .ok (.iload_n 2, 1) := by decide +kernel
theorem dX11_tide_11 : decode cX11_tide 11 = .ok (.iconst 0, 1) := by decide +kernel
theorem dX11_tide_12 : decode cX11_tide 12 = .ok (.bipush 9, 2) := by decide +kernel
theorem dX11_tide_14 : decode cX11_tide 14 = .ok (.invokestatic 51, 3) := by decide +kernel
theorem dX11_tide_17 : decode cX11_tide 17 = .ok (.ifCond .ne 9, 3) := by decide +kernel
theorem dX11_tide_20 : decode cX11_tide 20 = .ok (.aload_n 0, 1) := by decide +kernel
theorem dX11_tide_21 : decode cX11_tide 21 = .ok (.iconst (-1), 1) := by decide +kernel
theorem dX11_tide_22 : decode cX11_tide 22 = .ok (.invokevirtual 55, 3) := by decide +kernel
theorem dX11_tide_25 : decode cX11_tide 25 = .ok (.ireturn, 1) := by decide +kernel
theorem dX11_tide_26 : decode cX11_tide 26 = .ok (.aload_n 0, 1) := by decide +kernel
theorem dX11_tide_27 : decode cX11_tide 27 = .ok (.getfield 10, 3) := by decide +kernel
theorem dX11_tide_30 : decode cX11_tide 30 = .ok (.getfield 97, 3) := by decide +kernel
theorem dX11_tide_33 : decode cX11_tide 33 = .ok (.iload_n 1, 1) := by decide +kernel
theorem dX11_tide_34 : decode cX11_tide 34 = .ok (.iload_n 2, 1) := by decide +kernel
theorem dX11_tide_35 : decode cX11_tide 35 = .ok (.iastore, 1) := by decide +kernel
theorem dX11_tide_36 : decode cX11_tide 36 = .ok (.aload_n 0, 1) := by decide +kernel
theorem dX11_tide_37 : decode cX11_tide 37 = .ok (.iconst 0, 1) := by decide +kernel
theorem dX11_tide_38 : decode cX11_tide 38 = .ok (.invokevirtual 73, 3) := by decide +kernel
theorem dX11_tide_41 : decode cX11_tide 41 = .ok (.ireturn, 1) := by decide +kernel
set_option maxRecDepth 20000 in
theorem ggX11_sea_X11_within : GoodIn wsX11_sea wsX11_within := goodIn_r _ [5] (by decide +kernel) (by decide +kernel)
set_option maxRecDepth 20000 in
theorem gX11_sea_X11_within : GoodIn wsX11_sea (va_wsS RX11 51 yX11_within wsX11_within) := goodIn_app (goodIn_of _ (by decide +kernel)) ggX11_sea_X11_within
set_option maxRecDepth 20000 in
theorem ggX11_sea_X11_refuse : GoodIn wsX11_sea wsX11_refuse := goodIn_r _ [9, 10, 15, 16, 17, 18, 19, 20, 21] (by decide +kernel) (by decide +kernel)
set_option maxRecDepth 20000 in
theorem gX11_sea_X11_refuse : GoodIn wsX11_sea (wsV RX11 55 RX11 yX11_refuse wsX11_refuse) := goodIn_app (goodIn_of _ (by decide +kernel)) ggX11_sea_X11_refuse
set_option maxRecDepth 20000 in
theorem ggX11_sea_X11_accept : GoodIn wsX11_sea wsX11_accept := goodIn_r _ [14, 10, 15, 16, 17, 18, 19, 20, 21] (by decide +kernel) (by decide +kernel)
set_option maxRecDepth 20000 in
theorem gX11_sea_X11_accept : GoodIn wsX11_sea (wsV RX11 73 RX11 yX11_accept wsX11_accept) := goodIn_app (goodIn_of _ (by decide +kernel)) ggX11_sea_X11_accept
theorem dX11_sea_0 : decode cX11_sea 0 = .ok (.iload_n 1, 1) := by decide +kernel
theorem dX11_sea_1 : decode cX11_sea 1 = .ok (.iconst 0, 1) := by decide +kernel
theorem dX11_sea_2 : decode cX11_sea 2 = .ok (.bipush 99, 2) := by decide +kernel
theorem dX11_sea_4 : decode cX11_sea 4 = .ok (.invokestatic 51, 3) := by decide +kernel
theorem dX11_sea_7 : decode cX11_sea 7 = .ok (.ifCond .eq 13, 3) := by decide +kernel
theorem dX11_sea_10 : decode cX11_sea 10 = .ok (.iload_n 2, 1) := by decide +kernel
theorem dX11_sea_11 : decode cX11_sea 11 = .ok (.iconst 0, 1) := by decide +kernel
theorem dX11_sea_12 : decode cX11_sea 12 = .ok (.bipush 9, 2) := by decide +kernel
theorem dX11_sea_14 : decode cX11_sea 14 = .ok (.invokestatic 51, 3) := by decide +kernel
theorem dX11_sea_17 : decode cX11_sea 17 = .ok (.ifCond .ne 9, 3) := by decide +kernel
theorem dX11_sea_20 : decode cX11_sea 20 = .ok (.aload_n 0, 1) := by decide +kernel
theorem dX11_sea_21 : decode cX11_sea 21 = .ok (.iconst (-1), 1) := by decide +kernel
theorem dX11_sea_22 : decode cX11_sea 22 = .ok (.invokevirtual 55, 3) := by decide +kernel
theorem dX11_sea_25 : decode cX11_sea 25 = .ok (.ireturn, 1) := by decide +kernel
theorem dX11_sea_26 : decode cX11_sea 26 = .ok (.aload_n 0, 1) := by decide +kernel
theorem dX11_sea_27 : decode cX11_sea 27 = .ok (.getfield 10, 3) := by decide +kernel
theorem dX11_sea_30 : decode cX11_sea 30 = .ok (.getfield 101, 3) := by decide +kernel
theorem dX11_sea_33 : decode cX11_sea 33 = .ok (.iload_n 1, 1) := by decide +kernel
theorem dX11_sea_34 : decode cX11_sea 34 = .ok (.iload_n 2, 1) := by decide +kernel
theorem dX11_sea_35 : decode cX11_sea 35 = .ok (.iastore, 1) := by decide +kernel
theorem dX11_sea_36 : decode cX11_sea 36 = .ok (.aload_n 0, 1) := by decide +kernel
theorem dX11_sea_37 : decode cX11_sea 37 = .ok (.iconst 0, 1) := by decide +kernel
theorem dX11_sea_38 : decode cX11_sea 38 = .ok (.invokevirtual 73, 3) := by decide +kernel
theorem dX11_sea_41 : decode cX11_sea 41 = .ok (.ireturn, 1) := by decide +kernel
set_option maxRecDepth 20000 in
theorem ggX11_slot_X11_isSpan : GoodIn wsX11_slot wsX11_isSpan := goodIn_r _ [5, 6, 7, 4, 8, 9, 10, 11] (by decide +kernel) (by decide +kernel)
set_option maxRecDepth 20000 in
theorem gX11_slot_X11_isSpan : GoodIn wsX11_slot (va_wsS RX11 104 yX11_isSpan wsX11_isSpan) := goodIn_app (goodIn_of _ (by decide +kernel)) ggX11_slot_X11_isSpan
set_option maxRecDepth 20000 in
theorem ggX11_slot_X11_refuse : GoodIn wsX11_slot wsX11_refuse := goodIn_r _ [15, 16, 52, 53, 54, 55, 56, 57, 58] (by decide +kernel) (by decide +kernel)
set_option maxRecDepth 20000 in
theorem gX11_slot_X11_refuse : GoodIn wsX11_slot (wsV RX11 55 RX11 yX11_refuse wsX11_refuse) := goodIn_app (goodIn_of _ (by decide +kernel)) ggX11_slot_X11_refuse
set_option maxRecDepth 20000 in
theorem ggX11_slot_X10_hasTerminal : GoodIn wsX11_slot wsX10_hasTerminal := goodIn_r _ [21, 22, 59, 60, 61, 62, 63, 64, 65, 66, 67, 68, 69, 70, 71, 72, 73, 74, 75, 76, 77] (by decide +kernel) (by decide +kernel)
set_option maxRecDepth 20000 in
theorem gX11_slot_X10_hasTerminal : GoodIn wsX11_slot (wsV RX11 77 RX10 yX10_hasTerminal wsX10_hasTerminal) := goodIn_app (goodIn_of _ (by decide +kernel)) ggX11_slot_X10_hasTerminal
set_option maxRecDepth 20000 in
theorem ggX11_slot_X10_hasShip : GoodIn wsX11_slot wsX10_hasShip := goodIn_r _ [26, 27, 59, 60, 61, 62, 63, 64, 65, 66, 67, 68, 69, 70, 71, 72, 73, 74, 75, 76, 77] (by decide +kernel) (by decide +kernel)
set_option maxRecDepth 20000 in
theorem gX11_slot_X10_hasShip : GoodIn wsX11_slot (wsV RX11 108 RX10 yX10_hasShip wsX10_hasShip) := goodIn_app (goodIn_of _ (by decide +kernel)) ggX11_slot_X10_hasShip
set_option maxRecDepth 20000 in
theorem ggX11_slot_X11_slotOwner : GoodIn wsX11_slot wsX11_slotOwner := goodIn_r _ [30] (by decide +kernel) (by decide +kernel)
set_option maxRecDepth 20000 in
theorem gX11_slot_X11_slotOwner : GoodIn wsX11_slot (va_wsS RX11 115 yX11_slotOwner wsX11_slotOwner) := goodIn_app (goodIn_of _ (by decide +kernel)) ggX11_slot_X11_slotOwner
set_option maxRecDepth 20000 in
theorem ggX11_slot_X6_meets : GoodIn wsX11_slot wsX6_meets := goodIn_r _ [35, 36, 37, 38, 39, 78, 79, 80, 81] (by decide +kernel) (by decide +kernel)
set_option maxRecDepth 20000 in
theorem gX11_slot_X6_meets : GoodIn wsX11_slot (wsV RX11 119 RX6 yX6_meets wsX6_meets) := goodIn_app (goodIn_of _ (by decide +kernel)) ggX11_slot_X6_meets
set_option maxRecDepth 20000 in
theorem ggX11_slot_X6_add : GoodIn wsX11_slot wsX6_add := goodIn_r _ [43, 36, 38, 37, 39, 78, 79, 80, 81] (by decide +kernel) (by decide +kernel)
set_option maxRecDepth 20000 in
theorem gX11_slot_X6_add : GoodIn wsX11_slot (wsV RX11 125 RX6 yX6_add wsX6_add) := goodIn_app (goodIn_of _ (by decide +kernel)) ggX11_slot_X6_add
set_option maxRecDepth 20000 in
theorem ggX11_slot_X11_acceptOrFull : GoodIn wsX11_slot wsX11_acceptOrFull := goodIn_r _ [47, 12, 13, 14, 4, 15, 16, 48, 49, 50, 51, 52, 53, 54, 55, 56, 57, 58] (by decide +kernel) (by decide +kernel)
set_option maxRecDepth 20000 in
theorem gX11_slot_X11_acceptOrFull : GoodIn wsX11_slot (wsV RX11 129 RX11 yX11_acceptOrFull wsX11_acceptOrFull) := goodIn_app (goodIn_of _ (by decide +kernel)) ggX11_slot_X11_acceptOrFull
theorem dX11_slot_0 : decode cX11_slot 0 = .ok (.iload_n 3, 1) := by decide +kernel
theorem dX11_slot_1 : decode cX11_slot 1 = .ok (.iload 4, 2) := by decide +kernel
theorem dX11_slot_3 : decode cX11_slot 3 = .ok (.invokestatic 104, 3) := by decide +kernel
theorem dX11_slot_6 : decode cX11_slot 6 = .ok (.ifCond .ne 9, 3) := by decide +kernel
theorem dX11_slot_9 : decode cX11_slot 9 = .ok (.aload_n 0, 1) := by decide +kernel
theorem dX11_slot_10 : decode cX11_slot 10 = .ok (.iconst (-1), 1) := by decide +kernel
theorem dX11_slot_11 : decode cX11_slot 11 = .ok (.invokevirtual 55, 3) := by decide +kernel
theorem dX11_slot_14 : decode cX11_slot 14 = .ok (.ireturn, 1) := by decide +kernel
theorem dX11_slot_15 : decode cX11_slot 15 = .ok (.aload_n 0, 1) := by decide +kernel
theorem dX11_slot_16 : decode cX11_slot 16 = .ok (.getfield 10, 3) := by decide +kernel
theorem dX11_slot_19 : decode cX11_slot 19 = .ok (.iload_n 1, 1) := by decide +kernel
theorem dX11_slot_20 : decode cX11_slot 20 = .ok (.invokevirtual 77, 3) := by decide +kernel
theorem dX11_slot_23 : decode cX11_slot 23 = .ok (.ifCond .eq 14, 3) := by decide +kernel
theorem dX11_slot_26 : decode cX11_slot 26 = .ok (.aload_n 0, 1) := by decide +kernel
theorem dX11_slot_27 : decode cX11_slot 27 = .ok (.getfield 10, 3) := by decide +kernel
theorem dX11_slot_30 : decode cX11_slot 30 = .ok (.iload_n 2, 1) := by decide +kernel
theorem dX11_slot_31 : decode cX11_slot 31 = .ok (.invokevirtual 108, 3) := by decide +kernel
theorem dX11_slot_34 : decode cX11_slot 34 = .ok (.ifCond .ne 10, 3) := by decide +kernel
theorem dX11_slot_37 : decode cX11_slot 37 = .ok (.aload_n 0, 1) := by decide +kernel
theorem dX11_slot_38 : decode cX11_slot 38 = .ok (.bipush (-2), 2) := by decide +kernel
theorem dX11_slot_40 : decode cX11_slot 40 = .ok (.invokevirtual 55, 3) := by decide +kernel
theorem dX11_slot_43 : decode cX11_slot 43 = .ok (.ireturn, 1) := by decide +kernel
theorem dX11_slot_44 : decode cX11_slot 44 = .ok (.aload_n 0, 1) := by decide +kernel
theorem dX11_slot_45 : decode cX11_slot 45 = .ok (.getfield 10, 3) := by decide +kernel
theorem dX11_slot_48 : decode cX11_slot 48 = .ok (.getfield 111, 3) := by decide +kernel
theorem dX11_slot_51 : decode cX11_slot 51 = .ok (.iload_n 1, 1) := by decide +kernel
theorem dX11_slot_52 : decode cX11_slot 52 = .ok (.iconst 0, 1) := by decide +kernel
theorem dX11_slot_53 : decode cX11_slot 53 = .ok (.invokestatic 115, 3) := by decide +kernel
theorem dX11_slot_56 : decode cX11_slot 56 = .ok (.iload_n 1, 1) := by decide +kernel
theorem dX11_slot_57 : decode cX11_slot 57 = .ok (.iconst 5, 1) := by decide +kernel
theorem dX11_slot_58 : decode cX11_slot 58 = .ok (.invokestatic 115, 3) := by decide +kernel
theorem dX11_slot_61 : decode cX11_slot 61 = .ok (.iload_n 3, 1) := by decide +kernel
theorem dX11_slot_62 : decode cX11_slot 62 = .ok (.iload 4, 2) := by decide +kernel
theorem dX11_slot_64 : decode cX11_slot 64 = .ok (.invokevirtual 119, 3) := by decide +kernel
theorem dX11_slot_67 : decode cX11_slot 67 = .ok (.ifCond .eq 10, 3) := by decide +kernel
theorem dX11_slot_70 : decode cX11_slot 70 = .ok (.aload_n 0, 1) := by decide +kernel
theorem dX11_slot_71 : decode cX11_slot 71 = .ok (.bipush (-3), 2) := by decide +kernel
theorem dX11_slot_73 : decode cX11_slot 73 = .ok (.invokevirtual 55, 3) := by decide +kernel
theorem dX11_slot_76 : decode cX11_slot 76 = .ok (.ireturn, 1) := by decide +kernel
theorem dX11_slot_77 : decode cX11_slot 77 = .ok (.aload_n 0, 1) := by decide +kernel
theorem dX11_slot_78 : decode cX11_slot 78 = .ok (.aload_n 0, 1) := by decide +kernel
theorem dX11_slot_79 : decode cX11_slot 79 = .ok (.getfield 10, 3) := by decide +kernel
theorem dX11_slot_82 : decode cX11_slot 82 = .ok (.getfield 111, 3) := by decide +kernel
theorem dX11_slot_85 : decode cX11_slot 85 = .ok (.iload_n 1, 1) := by decide +kernel
theorem dX11_slot_86 : decode cX11_slot 86 = .ok (.iload_n 2, 1) := by decide +kernel
theorem dX11_slot_87 : decode cX11_slot 87 = .ok (.invokestatic 115, 3) := by decide +kernel
theorem dX11_slot_90 : decode cX11_slot 90 = .ok (.iload_n 3, 1) := by decide +kernel
theorem dX11_slot_91 : decode cX11_slot 91 = .ok (.iload 4, 2) := by decide +kernel
theorem dX11_slot_93 : decode cX11_slot 93 = .ok (.invokevirtual 125, 3) := by decide +kernel
theorem dX11_slot_96 : decode cX11_slot 96 = .ok (.invokevirtual 129, 3) := by decide +kernel
theorem dX11_slot_99 : decode cX11_slot 99 = .ok (.ireturn, 1) := by decide +kernel
set_option maxRecDepth 20000 in
theorem ggX11_broken_X11_isSpan : GoodIn wsX11_broken wsX11_isSpan := goodIn_r _ [5, 6, 7, 4, 8, 9, 10, 11] (by decide +kernel) (by decide +kernel)
set_option maxRecDepth 20000 in
theorem gX11_broken_X11_isSpan : GoodIn wsX11_broken (va_wsS RX11 104 yX11_isSpan wsX11_isSpan) := goodIn_app (goodIn_of _ (by decide +kernel)) ggX11_broken_X11_isSpan
set_option maxRecDepth 20000 in
theorem ggX11_broken_X11_refuse : GoodIn wsX11_broken wsX11_refuse := goodIn_r _ [15, 16, 40, 41, 42, 43, 44, 45, 46] (by decide +kernel) (by decide +kernel)
set_option maxRecDepth 20000 in
theorem gX11_broken_X11_refuse : GoodIn wsX11_broken (wsV RX11 55 RX11 yX11_refuse wsX11_refuse) := goodIn_app (goodIn_of _ (by decide +kernel)) ggX11_broken_X11_refuse
set_option maxRecDepth 20000 in
theorem ggX11_broken_X10_hasTerminal : GoodIn wsX11_broken wsX10_hasTerminal := goodIn_r _ [21, 22, 47, 48, 49, 50, 51, 52, 53, 54, 55, 56, 57, 58, 59, 60, 61, 62, 63, 64, 65] (by decide +kernel) (by decide +kernel)
set_option maxRecDepth 20000 in
theorem gX11_broken_X10_hasTerminal : GoodIn wsX11_broken (wsV RX11 77 RX10 yX10_hasTerminal wsX10_hasTerminal) := goodIn_app (goodIn_of _ (by decide +kernel)) ggX11_broken_X10_hasTerminal
set_option maxRecDepth 20000 in
theorem ggX11_broken_X6_add : GoodIn wsX11_broken wsX6_add := goodIn_r _ [27, 28, 29, 30, 31, 66, 67, 68, 69] (by decide +kernel) (by decide +kernel)
set_option maxRecDepth 20000 in
theorem gX11_broken_X6_add : GoodIn wsX11_broken (wsV RX11 125 RX6 yX6_add wsX6_add) := goodIn_app (goodIn_of _ (by decide +kernel)) ggX11_broken_X6_add
set_option maxRecDepth 20000 in
theorem ggX11_broken_X11_acceptOrFull : GoodIn wsX11_broken wsX11_acceptOrFull := goodIn_r _ [35, 12, 13, 14, 4, 15, 16, 36, 37, 38, 39, 40, 41, 42, 43, 44, 45, 46] (by decide +kernel) (by decide +kernel)
set_option maxRecDepth 20000 in
theorem gX11_broken_X11_acceptOrFull : GoodIn wsX11_broken (wsV RX11 129 RX11 yX11_acceptOrFull wsX11_acceptOrFull) := goodIn_app (goodIn_of _ (by decide +kernel)) ggX11_broken_X11_acceptOrFull
theorem dX11_broken_0 : decode cX11_broken 0 = .ok (.iload_n 2, 1) := by decide +kernel
theorem dX11_broken_1 : decode cX11_broken 1 = .ok (.iload_n 3, 1) := by decide +kernel
theorem dX11_broken_2 : decode cX11_broken 2 = .ok (.invokestatic 104, 3) := by decide +kernel
theorem dX11_broken_5 : decode cX11_broken 5 = .ok (.ifCond .ne 9, 3) := by decide +kernel
theorem dX11_broken_8 : decode cX11_broken 8 = .ok (.aload_n 0, 1) := by decide +kernel
theorem dX11_broken_9 : decode cX11_broken 9 = .ok (.iconst (-1), 1) := by decide +kernel
theorem dX11_broken_10 : decode cX11_broken 10 = .ok (.invokevirtual 55, 3) := by decide +kernel
theorem dX11_broken_13 : decode cX11_broken 13 = .ok (.ireturn, 1) := by decide +kernel
theorem dX11_broken_14 : decode cX11_broken 14 = .ok (.aload_n 0, 1) := by decide +kernel
theorem dX11_broken_15 : decode cX11_broken 15 = .ok (.getfield 10, 3) := by decide +kernel
theorem dX11_broken_18 : decode cX11_broken 18 = .ok (.iload_n 1, 1) := by decide +kernel
theorem dX11_broken_19 : decode cX11_broken 19 = .ok (.invokevirtual 77, 3) := by decide +kernel
theorem dX11_broken_22 : decode cX11_broken 22 = .ok (.ifCond .ne 10, 3) := by decide +kernel
theorem dX11_broken_25 : decode cX11_broken 25 = .ok (.aload_n 0, 1) := by decide +kernel
theorem dX11_broken_26 : decode cX11_broken 26 = .ok (.bipush (-2), 2) := by decide +kernel
theorem dX11_broken_28 : decode cX11_broken 28 = .ok (.invokevirtual 55, 3) := by decide +kernel
theorem dX11_broken_31 : decode cX11_broken 31 = .ok (.ireturn, 1) := by decide +kernel
theorem dX11_broken_32 : decode cX11_broken 32 = .ok (.aload_n 0, 1) := by decide +kernel
theorem dX11_broken_33 : decode cX11_broken 33 = .ok (.aload_n 0, 1) := by decide +kernel
theorem dX11_broken_34 : decode cX11_broken 34 = .ok (.getfield 10, 3) := by decide +kernel
theorem dX11_broken_37 : decode cX11_broken 37 = .ok (.getfield 132, 3) := by decide +kernel
theorem dX11_broken_40 : decode cX11_broken 40 = .ok (.iload_n 1, 1) := by decide +kernel
theorem dX11_broken_41 : decode cX11_broken 41 = .ok (.iload_n 2, 1) := by decide +kernel
theorem dX11_broken_42 : decode cX11_broken 42 = .ok (.iload_n 3, 1) := by decide +kernel
theorem dX11_broken_43 : decode cX11_broken 43 = .ok (.invokevirtual 125, 3) := by decide +kernel
theorem dX11_broken_46 : decode cX11_broken 46 = .ok (.invokevirtual 129, 3) := by decide +kernel
theorem dX11_broken_49 : decode cX11_broken 49 = .ok (.ireturn, 1) := by decide +kernel
set_option maxRecDepth 20000 in
theorem ggX11_terms_X11_within : GoodIn wsX11_terms wsX11_within := goodIn_r _ [5] (by decide +kernel) (by decide +kernel)
set_option maxRecDepth 20000 in
theorem gX11_terms_X11_within : GoodIn wsX11_terms (va_wsS RX11 51 yX11_within wsX11_within) := goodIn_app (goodIn_of _ (by decide +kernel)) ggX11_terms_X11_within
set_option maxRecDepth 20000 in
theorem ggX11_terms_X11_refuse : GoodIn wsX11_terms wsX11_refuse := goodIn_r _ [9, 10, 15, 16, 17, 18, 19, 20, 21] (by decide +kernel) (by decide +kernel)
set_option maxRecDepth 20000 in
theorem gX11_terms_X11_refuse : GoodIn wsX11_terms (wsV RX11 55 RX11 yX11_refuse wsX11_refuse) := goodIn_app (goodIn_of _ (by decide +kernel)) ggX11_terms_X11_refuse
set_option maxRecDepth 20000 in
theorem ggX11_terms_X11_accept : GoodIn wsX11_terms wsX11_accept := goodIn_r _ [14, 10, 15, 16, 17, 18, 19, 20, 21] (by decide +kernel) (by decide +kernel)
set_option maxRecDepth 20000 in
theorem gX11_terms_X11_accept : GoodIn wsX11_terms (wsV RX11 73 RX11 yX11_accept wsX11_accept) := goodIn_app (goodIn_of _ (by decide +kernel)) ggX11_terms_X11_accept
theorem dX11_terms_0 : decode cX11_terms 0 = .ok (.iload_n 1, 1) := by decide +kernel
theorem dX11_terms_1 : decode cX11_terms 1 = .ok (.iconst 0, 1) := by decide +kernel
theorem dX11_terms_2 : decode cX11_terms 2 = .ok (.bipush 100, 2) := by decide +kernel
theorem dX11_terms_4 : decode cX11_terms 4 = .ok (.invokestatic 51, 3) := by decide +kernel
theorem dX11_terms_7 : decode cX11_terms 7 = .ok (.ifCond .eq 14, 3) := by decide +kernel
theorem dX11_terms_10 : decode cX11_terms 10 = .ok (.iload_n 2, 1) := by decide +kernel
theorem dX11_terms_11 : decode cX11_terms 11 = .ok (.iconst 1, 1) := by decide +kernel
theorem dX11_terms_12 : decode cX11_terms 12 = .ok (.sipush 1000, 3) := by decide +kernel
theorem dX11_terms_15 : decode cX11_terms 15 = .ok (.invokestatic 51, 3) := by decide +kernel
theorem dX11_terms_18 : decode cX11_terms 18 = .ok (.ifCond .ne 9, 3) := by decide +kernel
theorem dX11_terms_21 : decode cX11_terms 21 = .ok (.aload_n 0, 1) := by decide +kernel
theorem dX11_terms_22 : decode cX11_terms 22 = .ok (.iconst (-1), 1) := by decide +kernel
theorem dX11_terms_23 : decode cX11_terms 23 = .ok (.invokevirtual 55, 3) := by decide +kernel
theorem dX11_terms_26 : decode cX11_terms 26 = .ok (.ireturn, 1) := by decide +kernel
theorem dX11_terms_27 : decode cX11_terms 27 = .ok (.aload_n 0, 1) := by decide +kernel
theorem dX11_terms_28 : decode cX11_terms 28 = .ok (.getfield 10, 3) := by decide +kernel
theorem dX11_terms_31 : decode cX11_terms 31 = .ok (.iload_n 1, 1) := by decide +kernel
theorem dX11_terms_32 : decode cX11_terms 32 = .ok (.putfield 135, 3) := by decide +kernel
theorem dX11_terms_35 : decode cX11_terms 35 = .ok (.aload_n 0, 1) := by decide +kernel
theorem dX11_terms_36 : decode cX11_terms 36 = .ok (.getfield 10, 3) := by decide +kernel
theorem dX11_terms_39 : decode cX11_terms 39 = .ok (.iload_n 2, 1) := by decide +kernel
theorem dX11_terms_40 : decode cX11_terms 40 = .ok (.putfield 138, 3) := by decide +kernel
theorem dX11_terms_43 : decode cX11_terms 43 = .ok (.aload_n 0, 1) := by decide +kernel
theorem dX11_terms_44 : decode cX11_terms 44 = .ok (.iconst 0, 1) := by decide +kernel
theorem dX11_terms_45 : decode cX11_terms 45 = .ok (.invokevirtual 73, 3) := by decide +kernel
theorem dX11_terms_48 : decode cX11_terms 48 = .ok (.ireturn, 1) := by decide +kernel
set_option maxRecDepth 20000 in
theorem ggX11_order_X11_isOrder : GoodIn wsX11_order wsX11_isOrder := goodIn_r _ [5, 6, 7, 8, 4, 9, 10, 11, 12] (by decide +kernel) (by decide +kernel)
set_option maxRecDepth 20000 in
theorem gX11_order_X11_isOrder : GoodIn wsX11_order (va_wsS RX11 141 yX11_isOrder wsX11_isOrder) := goodIn_app (goodIn_of _ (by decide +kernel)) ggX11_order_X11_isOrder
set_option maxRecDepth 20000 in
theorem ggX11_order_X11_refuse : GoodIn wsX11_order wsX11_refuse := goodIn_r _ [16, 17, 41, 42, 43, 44, 45, 46, 47] (by decide +kernel) (by decide +kernel)
set_option maxRecDepth 20000 in
theorem gX11_order_X11_refuse : GoodIn wsX11_order (wsV RX11 55 RX11 yX11_refuse wsX11_refuse) := goodIn_app (goodIn_of _ (by decide +kernel)) ggX11_order_X11_refuse
set_option maxRecDepth 20000 in
theorem ggX11_order_X10_hasShip : GoodIn wsX11_order wsX10_hasShip := goodIn_r _ [22, 23, 48, 49, 50, 51, 52, 53, 54, 55, 56, 57, 58, 59, 60, 61, 62, 63, 64, 65, 66] (by decide +kernel) (by decide +kernel)
set_option maxRecDepth 20000 in
theorem gX11_order_X10_hasShip : GoodIn wsX11_order (wsV RX11 108 RX10 yX10_hasShip wsX10_hasShip) := goodIn_app (goodIn_of _ (by decide +kernel)) ggX11_order_X10_hasShip
set_option maxRecDepth 20000 in
theorem ggX11_order_X10_hasTerminal : GoodIn wsX11_order wsX10_hasTerminal := goodIn_r _ [27, 28, 48, 49, 50, 51, 52, 53, 54, 55, 56, 57, 58, 59, 60, 61, 62, 63, 64, 65, 66] (by decide +kernel) (by decide +kernel)
set_option maxRecDepth 20000 in
theorem gX11_order_X10_hasTerminal : GoodIn wsX11_order (wsV RX11 77 RX10 yX10_hasTerminal wsX10_hasTerminal) := goodIn_app (goodIn_of _ (by decide +kernel)) ggX11_order_X10_hasTerminal
set_option maxRecDepth 20000 in
theorem ggX11_order_X5_addOrder : GoodIn wsX11_order wsX5_addOrder := goodIn_r _ [33, 34, 35, 36, 67, 68, 69, 70, 71, 72, 73, 74, 75, 76, 77, 78, 79, 80, 81, 82, 83] (by decide +kernel) (by decide +kernel)
set_option maxRecDepth 20000 in
theorem gX11_order_X5_addOrder : GoodIn wsX11_order (wsV RX11 150 RX5 yX5_addOrder wsX5_addOrder) := goodIn_app (goodIn_of _ (by decide +kernel)) ggX11_order_X5_addOrder
set_option maxRecDepth 20000 in
theorem ggX11_order_X11_accept : GoodIn wsX11_order wsX11_accept := goodIn_r _ [40, 17, 41, 42, 43, 44, 45, 46, 47] (by decide +kernel) (by decide +kernel)
set_option maxRecDepth 20000 in
theorem gX11_order_X11_accept : GoodIn wsX11_order (wsV RX11 73 RX11 yX11_accept wsX11_accept) := goodIn_app (goodIn_of _ (by decide +kernel)) ggX11_order_X11_accept
theorem dX11_order_0 : decode cX11_order 0 = .ok (.iload_n 2, 1) := by decide +kernel
theorem dX11_order_1 : decode cX11_order 1 = .ok (.iload_n 3, 1) := by decide +kernel
theorem dX11_order_2 : decode cX11_order 2 = .ok (.invokestatic 141, 3) := by decide +kernel
theorem dX11_order_5 : decode cX11_order 5 = .ok (.ifCond .ne 9, 3) := by decide +kernel
theorem dX11_order_8 : decode cX11_order 8 = .ok (.aload_n 0, 1) := by decide +kernel
theorem dX11_order_9 : decode cX11_order 9 = .ok (.iconst (-1), 1) := by decide +kernel
theorem dX11_order_10 : decode cX11_order 10 = .ok (.invokevirtual 55, 3) := by decide +kernel
theorem dX11_order_13 : decode cX11_order 13 = .ok (.ireturn, 1) := by decide +kernel
theorem dX11_order_14 : decode cX11_order 14 = .ok (.aload_n 0, 1) := by decide +kernel
theorem dX11_order_15 : decode cX11_order 15 = .ok (.getfield 10, 3) := by decide +kernel
theorem dX11_order_18 : decode cX11_order 18 = .ok (.iload_n 1, 1) := by decide +kernel
theorem dX11_order_19 : decode cX11_order 19 = .ok (.invokevirtual 108, 3) := by decide +kernel
theorem dX11_order_22 : decode cX11_order 22 = .ok (.ifCond .eq 18, 3) := by decide +kernel
theorem dX11_order_25 : decode cX11_order 25 = .ok (.iload_n 2, 1) := by decide +kernel
theorem dX11_order_26 : decode cX11_order 26 = .ok (.ifCond .ne 21, 3) := by decide +kernel
theorem dX11_order_29 : decode cX11_order 29 = .ok (.aload_n 0, 1) := by decide +kernel
theorem dX11_order_30 : decode cX11_order 30 = .ok (.getfield 10, 3) := by decide +kernel
theorem dX11_order_33 : decode cX11_order 33 = .ok (.iload_n 3, 1) := by decide +kernel
theorem dX11_order_34 : decode cX11_order 34 = .ok (.invokevirtual 77, 3) := by decide +kernel
theorem dX11_order_37 : decode cX11_order 37 = .ok (.ifCond .ne 10, 3) := by decide +kernel
theorem dX11_order_40 : decode cX11_order 40 = .ok (.aload_n 0, 1) := by decide +kernel
theorem dX11_order_41 : decode cX11_order 41 = .ok (.bipush (-2), 2) := by decide +kernel
theorem dX11_order_43 : decode cX11_order 43 = .ok (.invokevirtual 55, 3) := by decide +kernel
theorem dX11_order_46 : decode cX11_order 46 = .ok (.ireturn, 1) := by decide +kernel
theorem dX11_order_47 : decode cX11_order 47 = .ok (.aload_n 0, 1) := by decide +kernel
theorem dX11_order_48 : decode cX11_order 48 = .ok (.getfield 10, 3) := by decide +kernel
theorem dX11_order_51 : decode cX11_order 51 = .ok (.getfield 84, 3) := by decide +kernel
theorem dX11_order_54 : decode cX11_order 54 = .ok (.iload_n 1, 1) := by decide +kernel
theorem dX11_order_55 : decode cX11_order 55 = .ok (.aaload, 1) := by decide +kernel
theorem dX11_order_56 : decode cX11_order 56 = .ok (.astore 4, 2) := by decide +kernel
theorem dX11_order_58 : decode cX11_order 58 = .ok (.aload 4, 2) := by decide +kernel
theorem dX11_order_60 : decode cX11_order 60 = .ok (.getfield 144, 3) := by decide +kernel
theorem dX11_order_63 : decode cX11_order 63 = .ok (.bipush 20, 2) := by decide +kernel
theorem dX11_order_65 : decode cX11_order 65 = .ok (.if_icmp .ge 16, 3) := by decide +kernel
theorem dX11_order_68 : decode cX11_order 68 = .ok (.aload_n 0, 1) := by decide +kernel
theorem dX11_order_69 : decode cX11_order 69 = .ok (.getfield 10, 3) := by decide +kernel
theorem dX11_order_72 : decode cX11_order 72 = .ok (.getfield 147, 3) := by decide +kernel
theorem dX11_order_75 : decode cX11_order 75 = .ok (.sipush 400, 3) := by decide +kernel
theorem dX11_order_78 : decode cX11_order 78 = .ok (.if_icmp .lt 10, 3) := by decide +kernel
theorem dX11_order_81 : decode cX11_order 81 = .ok (.aload_n 0, 1) := by decide +kernel
theorem dX11_order_82 : decode cX11_order 82 = .ok (.bipush (-5), 2) := by decide +kernel
theorem dX11_order_84 : decode cX11_order 84 = .ok (.invokevirtual 55, 3) := by decide +kernel
theorem dX11_order_87 : decode cX11_order 87 = .ok (.ireturn, 1) := by decide +kernel
theorem dX11_order_88 : decode cX11_order 88 = .ok (.aload 4, 2) := by decide +kernel
theorem dX11_order_90 : decode cX11_order 90 = .ok (.iload_n 2, 1) := by decide +kernel
theorem dX11_order_91 : decode cX11_order 91 = .ok (.iload_n 3, 1) := by decide +kernel
theorem dX11_order_92 : decode cX11_order 92 = .ok (.invokevirtual 150, 3) := by decide +kernel
theorem dX11_order_95 : decode cX11_order 95 = .ok (.aload_n 0, 1) := by decide +kernel
theorem dX11_order_96 : decode cX11_order 96 = .ok (.getfield 10, 3) := by decide +kernel
theorem dX11_order_99 : decode cX11_order 99 = .ok (.dup, 1) := by decide +kernel
theorem dX11_order_100 : decode cX11_order 100 = .ok (.getfield 147, 3) := by decide +kernel
theorem dX11_order_103 : decode cX11_order 103 = .ok (.iconst 1, 1) := by decide +kernel
theorem dX11_order_104 : decode cX11_order 104 = .ok (.iadd, 1) := by decide +kernel
theorem dX11_order_105 : decode cX11_order 105 = .ok (.putfield 147, 3) := by decide +kernel
theorem dX11_order_108 : decode cX11_order 108 = .ok (.aload_n 0, 1) := by decide +kernel
theorem dX11_order_109 : decode cX11_order 109 = .ok (.aload 4, 2) := by decide +kernel
theorem dX11_order_111 : decode cX11_order 111 = .ok (.getfield 144, 3) := by decide +kernel
theorem dX11_order_114 : decode cX11_order 114 = .ok (.invokevirtual 73, 3) := by decide +kernel
theorem dX11_order_117 : decode cX11_order 117 = .ok (.ireturn, 1) := by decide +kernel
set_option maxRecDepth 20000 in
theorem ggX11_go_X11_within : GoodIn wsX11_go wsX11_within := goodIn_r _ [6] (by decide +kernel) (by decide +kernel)
set_option maxRecDepth 20000 in
theorem gX11_go_X11_within : GoodIn wsX11_go (va_wsS RX11 51 yX11_within wsX11_within) := goodIn_app (goodIn_of _ (by decide +kernel)) ggX11_go_X11_within
set_option maxRecDepth 20000 in
theorem ggX11_go_X11_refuse : GoodIn wsX11_go wsX11_refuse := goodIn_r _ [10, 11, 209, 210, 211, 212, 213, 214, 215] (by decide +kernel) (by decide +kernel)
set_option maxRecDepth 20000 in
theorem gX11_go_X11_refuse : GoodIn wsX11_go (wsV RX11 55 RX11 yX11_refuse wsX11_refuse) := goodIn_app (goodIn_of _ (by decide +kernel)) ggX11_go_X11_refuse
set_option maxRecDepth 20000 in
theorem ggX11_go_X9_passHour : GoodIn wsX11_go wsX9_passHour := goodIn_r _ [16, 17, 18, 19, 20, 21, 5, 22, 3, 4, 6, 23, 24, 25, 15, 26, 27, 28, 29, 30, 31, 32, 33, 34, 35, 36, 37, 38, 39, 40, 41, 42, 43, 44, 45, 46, 47, 48, 49, 50, 51, 52, 53, 54, 55, 56, 57, 58, 59, 60, 61, 62, 63, 64, 65, 66, 67, 68, 69, 70, 71, 72, 73, 74, 75, 76, 77, 78, 79, 80, 81, 82, 83, 84, 85, 86, 87, 88, 89, 90, 91, 92, 93, 94, 95, 96, 97, 98, 99, 100, 101, 102, 103, 104, 105, 106, 107, 108, 109, 110, 111, 112, 113, 114, 115, 116, 117, 118, 119, 120, 121, 122, 123, 124, 125, 126, 127, 128, 129, 130, 131, 132, 133, 134, 135, 136, 137, 138, 139, 140, 141, 142, 143, 144, 145, 146, 147, 148, 149, 150, 151, 152, 153, 154, 155, 156, 157, 158, 159, 160, 161, 162, 163, 164, 165, 166, 167, 168, 169, 170, 171, 172, 173, 174, 175, 176, 177, 178, 179, 180, 181, 182, 183, 184, 185, 186, 187, 188, 189, 190, 191, 192, 193, 194, 195, 196, 197, 198, 199, 200, 201, 202, 203, 204, 235, 236, 237, 238, 216, 217, 218, 219, 220, 221, 222, 223, 224, 225, 226, 227, 228, 229, 230, 231, 232, 233, 234, 239, 240, 241, 242, 243, 244, 245, 246, 247, 248, 249, 250, 251, 252, 253, 254, 255, 256, 257, 258, 259, 260, 261, 262, 263, 264, 265, 266, 267, 268, 269, 270, 271, 272, 273, 274, 275, 276] (by decide +kernel) (by decide +kernel)
set_option maxRecDepth 20000 in
theorem gX11_go_X9_passHour : GoodIn wsX11_go (wsV RX11 157 RX9 yX9_passHour wsX9_passHour) := goodIn_app (goodIn_of _ (by decide +kernel)) ggX11_go_X9_passHour
set_option maxRecDepth 20000 in
theorem ggX11_go_X11_accept : GoodIn wsX11_go wsX11_accept := goodIn_r _ [208, 11, 209, 210, 211, 212, 213, 214, 215] (by decide +kernel) (by decide +kernel)
set_option maxRecDepth 20000 in
theorem gX11_go_X11_accept : GoodIn wsX11_go (wsV RX11 73 RX11 yX11_accept wsX11_accept) := goodIn_app (goodIn_of _ (by decide +kernel)) ggX11_go_X11_accept
theorem dX11_go_0 : decode cX11_go 0 = .ok (.iload_n 1, 1) := by decide +kernel
theorem dX11_go_1 : decode cX11_go 1 = .ok (.iconst 1, 1) := by decide +kernel
theorem dX11_go_2 : decode cX11_go 2 = .ok (.sipush 480, 3) := by decide +kernel
theorem dX11_go_5 : decode cX11_go 5 = .ok (.invokestatic 51, 3) := by decide +kernel
theorem dX11_go_8 : decode cX11_go 8 = .ok (.ifCond .eq 18, 3) := by decide +kernel
theorem dX11_go_11 : decode cX11_go 11 = .ok (.aload_n 0, 1) := by decide +kernel
theorem dX11_go_12 : decode cX11_go 12 = .ok (.getfield 10, 3) := by decide +kernel
theorem dX11_go_15 : decode cX11_go 15 = .ok (.getfield 154, 3) := by decide +kernel
theorem dX11_go_18 : decode cX11_go 18 = .ok (.iload_n 1, 1) := by decide +kernel
theorem dX11_go_19 : decode cX11_go 19 = .ok (.iadd, 1) := by decide +kernel
theorem dX11_go_20 : decode cX11_go 20 = .ok (.sipush 2399, 3) := by decide +kernel
theorem dX11_go_23 : decode cX11_go 23 = .ok (.if_icmp .le 9, 3) := by decide +kernel
theorem dX11_go_26 : decode cX11_go 26 = .ok (.aload_n 0, 1) := by decide +kernel
theorem dX11_go_27 : decode cX11_go 27 = .ok (.iconst (-1), 1) := by decide +kernel
theorem dX11_go_28 : decode cX11_go 28 = .ok (.invokevirtual 55, 3) := by decide +kernel
theorem dX11_go_31 : decode cX11_go 31 = .ok (.ireturn, 1) := by decide +kernel
theorem dX11_go_32 : decode cX11_go 32 = .ok (.iconst 0, 1) := by decide +kernel
theorem dX11_go_33 : decode cX11_go 33 = .ok (.istore_n 2, 1) := by decide +kernel
theorem dX11_go_34 : decode cX11_go 34 = .ok (.iload_n 2, 1) := by decide +kernel
theorem dX11_go_35 : decode cX11_go 35 = .ok (.iload_n 1, 1) := by decide +kernel
theorem dX11_go_36 : decode cX11_go 36 = .ok (.if_icmp .ge 16, 3) := by decide +kernel
theorem dX11_go_39 : decode cX11_go 39 = .ok (.aload_n 0, 1) := by decide +kernel
theorem dX11_go_40 : decode cX11_go 40 = .ok (.getfield 25, 3) := by decide +kernel
theorem dX11_go_43 : decode cX11_go 43 = .ok (.invokevirtual 157, 3) := by decide +kernel
theorem dX11_go_46 : decode cX11_go 46 = .ok (.iinc 2 1, 3) := by decide +kernel
theorem dX11_go_49 : decode cX11_go 49 = .ok (.goto (-15), 3) := by decide +kernel
theorem dX11_go_52 : decode cX11_go 52 = .ok (.aload_n 0, 1) := by decide +kernel
theorem dX11_go_53 : decode cX11_go 53 = .ok (.aload_n 0, 1) := by decide +kernel
theorem dX11_go_54 : decode cX11_go 54 = .ok (.getfield 10, 3) := by decide +kernel
theorem dX11_go_57 : decode cX11_go 57 = .ok (.getfield 154, 3) := by decide +kernel
theorem dX11_go_60 : decode cX11_go 60 = .ok (.invokevirtual 73, 3) := by decide +kernel
theorem dX11_go_63 : decode cX11_go 63 = .ok (.ireturn, 1) := by decide +kernel
set_option maxRecDepth 20000 in
theorem ggX11_of_X10_hasShip : GoodIn wsX11_of wsX10_hasShip := goodIn_r _ [6, 7, 44, 45, 46, 47, 48, 49, 50, 51, 52, 53, 54, 55, 56, 57, 58, 59, 60, 61, 62] (by decide +kernel) (by decide +kernel)
set_option maxRecDepth 20000 in
theorem gX11_of_X10_hasShip : GoodIn wsX11_of (wsV RX11 108 RX10 yX10_hasShip wsX10_hasShip) := goodIn_app (goodIn_of _ (by decide +kernel)) ggX11_of_X10_hasShip
set_option maxRecDepth 20000 in
theorem ggX11_of_X7_press : GoodIn wsX11_of wsX7_press := goodIn_r _ [12, 13, 14, 15, 16, 17, 11, 18, 19, 20, 21, 22, 23, 24, 80, 81, 82, 83, 84, 85, 86] (by decide +kernel) (by decide +kernel)
set_option maxRecDepth 20000 in
theorem gX11_of_X7_press : GoodIn wsX11_of (wsV RX11 181 RX7 yX7_press wsX7_press) := goodIn_app (goodIn_of _ (by decide +kernel)) ggX11_of_X7_press
set_option maxRecDepth 20000 in
theorem ggX11_of_X5_tonsLeft : GoodIn wsX11_of wsX5_tonsLeft := goodIn_r _ [29, 30, 31, 32, 63, 64, 65, 66, 67, 68, 69, 70, 71, 72, 73, 74, 75, 76, 77, 78, 79] (by decide +kernel) (by decide +kernel)
set_option maxRecDepth 20000 in
theorem gX11_of_X5_tonsLeft : GoodIn wsX11_of (wsV RX11 185 RX5 yX5_tonsLeft wsX5_tonsLeft) := goodIn_app (goodIn_of _ (by decide +kernel)) ggX11_of_X5_tonsLeft
set_option maxRecDepth 20000 in
theorem ggX11_of_X7_draft : GoodIn wsX11_of wsX7_draft := goodIn_r _ [36, 20, 19, 80, 81, 82, 83, 84, 85, 86] (by decide +kernel) (by decide +kernel)
set_option maxRecDepth 20000 in
theorem gX11_of_X7_draft : GoodIn wsX11_of (wsV RX11 188 RX7 yX7_draft wsX7_draft) := goodIn_app (goodIn_of _ (by decide +kernel)) ggX11_of_X7_draft
theorem dX11_of_0 : decode cX11_of 0 = .ok (.aload_n 0, 1) := by decide +kernel
theorem dX11_of_1 : decode cX11_of 1 = .ok (.getfield 10, 3) := by decide +kernel
theorem dX11_of_4 : decode cX11_of 4 = .ok (.iload_n 1, 1) := by decide +kernel
theorem dX11_of_5 : decode cX11_of 5 = .ok (.invokevirtual 108, 3) := by decide +kernel
theorem dX11_of_8 : decode cX11_of 8 = .ok (.ifCond .ne 5, 3) := by decide +kernel
theorem dX11_of_11 : decode cX11_of 11 = .ok (.iconst (-1), 1) := by decide +kernel
theorem dX11_of_12 : decode cX11_of 12 = .ok (.ireturn, 1) := by decide +kernel
theorem dX11_of_13 : decode cX11_of 13 = .ok (.aload_n 0, 1) := by decide +kernel
theorem dX11_of_14 : decode cX11_of 14 = .ok (.getfield 10, 3) := by decide +kernel
theorem dX11_of_17 : decode cX11_of 17 = .ok (.getfield 84, 3) := by decide +kernel
theorem dX11_of_20 : decode cX11_of 20 = .ok (.iload_n 1, 1) := by decide +kernel
theorem dX11_of_21 : decode cX11_of 21 = .ok (.aaload, 1) := by decide +kernel
theorem dX11_of_22 : decode cX11_of 22 = .ok (.astore_n 3, 1) := by decide +kernel
theorem dX11_of_23 : decode cX11_of 23 = .ok (.iload_n 2, 1) := by decide +kernel
theorem dX11_of_24 : decode cX11_of 24 = .ok (.tableswitch 129 0 9 #[56, 61, 66, 74, 82, 90, 98, 103, 108, 116], 56) := by decide +kernel
theorem dX11_of_80 : decode cX11_of 80 = .ok (.aload_n 3, 1) := by decide +kernel
theorem dX11_of_81 : decode cX11_of 81 = .ok (.getfield 160, 3) := by decide +kernel
theorem dX11_of_84 : decode cX11_of 84 = .ok (.ireturn, 1) := by decide +kernel
theorem dX11_of_85 : decode cX11_of 85 = .ok (.aload_n 3, 1) := by decide +kernel
theorem dX11_of_86 : decode cX11_of 86 = .ok (.getfield 163, 3) := by decide +kernel
theorem dX11_of_89 : decode cX11_of 89 = .ok (.ireturn, 1) := by decide +kernel
theorem dX11_of_90 : decode cX11_of 90 = .ok (.aload_n 3, 1) := by decide +kernel
theorem dX11_of_91 : decode cX11_of 91 = .ok (.getfield 166, 3) := by decide +kernel
theorem dX11_of_94 : decode cX11_of 94 = .ok (.getfield 170, 3) := by decide +kernel
theorem dX11_of_97 : decode cX11_of 97 = .ok (.ireturn, 1) := by decide +kernel
theorem dX11_of_98 : decode cX11_of 98 = .ok (.aload_n 3, 1) := by decide +kernel
theorem dX11_of_99 : decode cX11_of 99 = .ok (.getfield 166, 3) := by decide +kernel
theorem dX11_of_102 : decode cX11_of 102 = .ok (.getfield 175, 3) := by decide +kernel
theorem dX11_of_105 : decode cX11_of 105 = .ok (.ireturn, 1) := by decide +kernel
theorem dX11_of_106 : decode cX11_of 106 = .ok (.aload_n 3, 1) := by decide +kernel
theorem dX11_of_107 : decode cX11_of 107 = .ok (.getfield 166, 3) := by decide +kernel
theorem dX11_of_110 : decode cX11_of 110 = .ok (.getfield 178, 3) := by decide +kernel
theorem dX11_of_113 : decode cX11_of 113 = .ok (.ireturn, 1) := by decide +kernel
theorem dX11_of_114 : decode cX11_of 114 = .ok (.aload_n 3, 1) := by decide +kernel
theorem dX11_of_115 : decode cX11_of 115 = .ok (.getfield 166, 3) := by decide +kernel
theorem dX11_of_118 : decode cX11_of 118 = .ok (.invokevirtual 181, 3) := by decide +kernel
theorem dX11_of_121 : decode cX11_of 121 = .ok (.ireturn, 1) := by decide +kernel
theorem dX11_of_122 : decode cX11_of 122 = .ok (.aload_n 3, 1) := by decide +kernel
theorem dX11_of_123 : decode cX11_of 123 = .ok (.getfield 144, 3) := by decide +kernel
theorem dX11_of_126 : decode cX11_of 126 = .ok (.ireturn, 1) := by decide +kernel
theorem dX11_of_127 : decode cX11_of 127 = .ok (.aload_n 3, 1) := by decide +kernel
theorem dX11_of_128 : decode cX11_of 128 = .ok (.invokevirtual 185, 3) := by decide +kernel
theorem dX11_of_131 : decode cX11_of 131 = .ok (.ireturn, 1) := by decide +kernel
theorem dX11_of_132 : decode cX11_of 132 = .ok (.aload_n 3, 1) := by decide +kernel
theorem dX11_of_133 : decode cX11_of 133 = .ok (.getfield 166, 3) := by decide +kernel
theorem dX11_of_136 : decode cX11_of 136 = .ok (.invokevirtual 188, 3) := by decide +kernel
theorem dX11_of_139 : decode cX11_of 139 = .ok (.ireturn, 1) := by decide +kernel
theorem dX11_of_140 : decode cX11_of 140 = .ok (.aload_n 3, 1) := by decide +kernel
theorem dX11_of_141 : decode cX11_of 141 = .ok (.getfield 191, 3) := by decide +kernel
theorem dX11_of_144 : decode cX11_of 144 = .ok (.ifCond .eq 7, 3) := by decide +kernel
theorem dX11_of_147 : decode cX11_of 147 = .ok (.iconst 1, 1) := by decide +kernel
theorem dX11_of_148 : decode cX11_of 148 = .ok (.goto 4, 3) := by decide +kernel
theorem dX11_of_151 : decode cX11_of 151 = .ok (.iconst 0, 1) := by decide +kernel
theorem dX11_of_152 : decode cX11_of 152 = .ok (.ireturn, 1) := by decide +kernel
theorem dX11_of_153 : decode cX11_of 153 = .ok (.iconst (-1), 1) := by decide +kernel
theorem dX11_of_154 : decode cX11_of 154 = .ok (.ireturn, 1) := by decide +kernel
set_option maxRecDepth 20000 in
theorem ggX11_part_X10_hasShip : GoodIn wsX11_part wsX10_hasShip := goodIn_r _ [6, 7, 20, 21, 22, 23, 24, 25, 26, 27, 28, 29, 30, 31, 32, 33, 34, 35, 36, 37, 38] (by decide +kernel) (by decide +kernel)
set_option maxRecDepth 20000 in
theorem gX11_part_X10_hasShip : GoodIn wsX11_part (wsV RX11 108 RX10 yX10_hasShip wsX10_hasShip) := goodIn_app (goodIn_of _ (by decide +kernel)) ggX11_part_X10_hasShip
set_option maxRecDepth 20000 in
theorem ggX11_part_X10_hasTerminal : GoodIn wsX11_part wsX10_hasTerminal := goodIn_r _ [11, 12, 20, 21, 22, 23, 24, 25, 26, 27, 28, 29, 30, 31, 32, 33, 34, 35, 36, 37, 38] (by decide +kernel) (by decide +kernel)
set_option maxRecDepth 20000 in
theorem gX11_part_X10_hasTerminal : GoodIn wsX11_part (wsV RX11 77 RX10 yX10_hasTerminal wsX10_hasTerminal) := goodIn_app (goodIn_of _ (by decide +kernel)) ggX11_part_X10_hasTerminal
theorem dX11_part_0 : decode cX11_part 0 = .ok (.aload_n 0, 1) := by decide +kernel
theorem dX11_part_1 : decode cX11_part 1 = .ok (.getfield 10, 3) := by decide +kernel
theorem dX11_part_4 : decode cX11_part 4 = .ok (.iload_n 1, 1) := by decide +kernel
theorem dX11_part_5 : decode cX11_part 5 = .ok (.invokevirtual 108, 3) := by decide +kernel
theorem dX11_part_8 : decode cX11_part 8 = .ok (.ifCond .eq 14, 3) := by decide +kernel
theorem dX11_part_11 : decode cX11_part 11 = .ok (.aload_n 0, 1) := by decide +kernel
theorem dX11_part_12 : decode cX11_part 12 = .ok (.getfield 10, 3) := by decide +kernel
theorem dX11_part_15 : decode cX11_part 15 = .ok (.iload_n 2, 1) := by decide +kernel
theorem dX11_part_16 : decode cX11_part 16 = .ok (.invokevirtual 77, 3) := by decide +kernel
theorem dX11_part_19 : decode cX11_part 19 = .ok (.ifCond .ne 5, 3) := by decide +kernel
theorem dX11_part_22 : decode cX11_part 22 = .ok (.iconst (-1), 1) := by decide +kernel
theorem dX11_part_23 : decode cX11_part 23 = .ok (.ireturn, 1) := by decide +kernel
theorem dX11_part_24 : decode cX11_part 24 = .ok (.aload_n 0, 1) := by decide +kernel
theorem dX11_part_25 : decode cX11_part 25 = .ok (.getfield 10, 3) := by decide +kernel
theorem dX11_part_28 : decode cX11_part 28 = .ok (.getfield 84, 3) := by decide +kernel
theorem dX11_part_31 : decode cX11_part 31 = .ok (.iload_n 1, 1) := by decide +kernel
theorem dX11_part_32 : decode cX11_part 32 = .ok (.aaload, 1) := by decide +kernel
theorem dX11_part_33 : decode cX11_part 33 = .ok (.getfield 166, 3) := by decide +kernel
theorem dX11_part_36 : decode cX11_part 36 = .ok (.getfield 195, 3) := by decide +kernel
theorem dX11_part_39 : decode cX11_part 39 = .ok (.iload_n 2, 1) := by decide +kernel
theorem dX11_part_40 : decode cX11_part 40 = .ok (.iaload, 1) := by decide +kernel
theorem dX11_part_41 : decode cX11_part 41 = .ok (.ireturn, 1) := by decide +kernel
set_option maxRecDepth 20000 in
theorem ggX11_book_X10_hasShip : GoodIn wsX11_book wsX10_hasShip := goodIn_r _ [7, 8, 20, 21, 22, 23, 24, 25, 26, 27, 28, 29, 30, 31, 32, 33, 34, 35, 36, 37, 38] (by decide +kernel) (by decide +kernel)
set_option maxRecDepth 20000 in
theorem gX11_book_X10_hasShip : GoodIn wsX11_book (wsV RX11 108 RX10 yX10_hasShip wsX10_hasShip) := goodIn_app (goodIn_of _ (by decide +kernel)) ggX11_book_X10_hasShip
set_option maxRecDepth 20000 in
theorem ggX11_book_X11_within : GoodIn wsX11_book wsX11_within := goodIn_r _ [12] (by decide +kernel) (by decide +kernel)
set_option maxRecDepth 20000 in
theorem gX11_book_X11_within : GoodIn wsX11_book (va_wsS RX11 51 yX11_within wsX11_within) := goodIn_app (goodIn_of _ (by decide +kernel)) ggX11_book_X11_within
theorem dX11_book_0 : decode cX11_book 0 = .ok (.aload_n 0, 1) := by decide +kernel
theorem dX11_book_1 : decode cX11_book 1 = .ok (.getfield 10, 3) := by decide +kernel
theorem dX11_book_4 : decode cX11_book 4 = .ok (.iload_n 1, 1) := by decide +kernel
theorem dX11_book_5 : decode cX11_book 5 = .ok (.invokevirtual 108, 3) := by decide +kernel
theorem dX11_book_8 : decode cX11_book 8 = .ok (.ifCond .eq 12, 3) := by decide +kernel
theorem dX11_book_11 : decode cX11_book 11 = .ok (.iload_n 2, 1) := by decide +kernel
theorem dX11_book_12 : decode cX11_book 12 = .ok (.iconst 0, 1) := by decide +kernel
theorem dX11_book_13 : decode cX11_book 13 = .ok (.iconst 3, 1) := by decide +kernel
theorem dX11_book_14 : decode cX11_book 14 = .ok (.invokestatic 51, 3) := by decide +kernel
theorem dX11_book_17 : decode cX11_book 17 = .ok (.ifCond .ne 7, 3) := by decide +kernel
theorem dX11_book_20 : decode cX11_book 20 = .ok (.ldc2_w 198, 3) := by decide +kernel
theorem dX11_book_23 : decode cX11_book 23 = .ok (.lreturn, 1) := by decide +kernel
theorem dX11_book_24 : decode cX11_book 24 = .ok (.aload_n 0, 1) := by decide +kernel
theorem dX11_book_25 : decode cX11_book 25 = .ok (.getfield 10, 3) := by decide +kernel
theorem dX11_book_28 : decode cX11_book 28 = .ok (.getfield 84, 3) := by decide +kernel
theorem dX11_book_31 : decode cX11_book 31 = .ok (.iload_n 1, 1) := by decide +kernel
theorem dX11_book_32 : decode cX11_book 32 = .ok (.aaload, 1) := by decide +kernel
theorem dX11_book_33 : decode cX11_book 33 = .ok (.getfield 200, 3) := by decide +kernel
theorem dX11_book_36 : decode cX11_book 36 = .ok (.iload_n 2, 1) := by decide +kernel
theorem dX11_book_37 : decode cX11_book 37 = .ok (.laload, 1) := by decide +kernel
theorem dX11_book_38 : decode cX11_book 38 = .ok (.lreturn, 1) := by decide +kernel
set_option maxRecDepth 20000 in
theorem ggX11_store_X10_hasTerminal : GoodIn wsX11_store wsX10_hasTerminal := goodIn_r _ [6, 7, 15, 16, 17, 18, 19, 20, 21, 22, 23, 24, 25, 26, 27, 28, 29, 30, 31, 32, 33] (by decide +kernel) (by decide +kernel)
set_option maxRecDepth 20000 in
theorem gX11_store_X10_hasTerminal : GoodIn wsX11_store (wsV RX11 77 RX10 yX10_hasTerminal wsX10_hasTerminal) := goodIn_app (goodIn_of _ (by decide +kernel)) ggX11_store_X10_hasTerminal
theorem dX11_store_0 : decode cX11_store 0 = .ok (.aload_n 0, 1) := by decide +kernel
theorem dX11_store_1 : decode cX11_store 1 = .ok (.getfield 10, 3) := by decide +kernel
theorem dX11_store_4 : decode cX11_store 4 = .ok (.iload_n 1, 1) := by decide +kernel
theorem dX11_store_5 : decode cX11_store 5 = .ok (.invokevirtual 77, 3) := by decide +kernel
theorem dX11_store_8 : decode cX11_store 8 = .ok (.ifCond .eq 18, 3) := by decide +kernel
theorem dX11_store_11 : decode cX11_store 11 = .ok (.aload_n 0, 1) := by decide +kernel
theorem dX11_store_12 : decode cX11_store 12 = .ok (.getfield 10, 3) := by decide +kernel
theorem dX11_store_15 : decode cX11_store 15 = .ok (.getfield 63, 3) := by decide +kernel
theorem dX11_store_18 : decode cX11_store 18 = .ok (.iload_n 1, 1) := by decide +kernel
theorem dX11_store_19 : decode cX11_store 19 = .ok (.aaload, 1) := by decide +kernel
theorem dX11_store_20 : decode cX11_store 20 = .ok (.getfield 204, 3) := by decide +kernel
theorem dX11_store_23 : decode cX11_store 23 = .ok (.goto 4, 3) := by decide +kernel
theorem dX11_store_26 : decode cX11_store 26 = .ok (.iconst (-1), 1) := by decide +kernel
theorem dX11_store_27 : decode cX11_store 27 = .ok (.ireturn, 1) := by decide +kernel
set_option maxRecDepth 20000 in
theorem ggX11_landing_X4_has : GoodIn wsX11_landing wsX4_has := goodIn_r _ [6, 7, 57, 58, 59] (by decide +kernel) (by decide +kernel)
set_option maxRecDepth 20000 in
theorem gX11_landing_X4_has : GoodIn wsX11_landing (wsV RX11 211 RX4 yX4_has wsX4_has) := goodIn_app (goodIn_of _ (by decide +kernel)) ggX11_landing_X4_has
set_option maxRecDepth 20000 in
theorem ggX11_landing_X4_number : GoodIn wsX11_landing wsX4_number := goodIn_r _ [11, 12, 13, 14, 5, 15, 7, 16, 17, 57, 58, 59] (by decide +kernel) (by decide +kernel)
set_option maxRecDepth 20000 in
theorem gX11_landing_X4_number : GoodIn wsX11_landing (wsV RX11 216 RX4 yX4_number wsX4_number) := goodIn_app (goodIn_of _ (by decide +kernel)) ggX11_landing_X4_number
set_option maxRecDepth 20000 in
theorem ggX11_landing_X10_heatOf : GoodIn wsX11_landing wsX10_heatOf := goodIn_r _ [22, 23, 24, 25, 13, 14, 5, 15, 7, 16, 17, 38, 39, 40, 41, 42, 43, 44, 45, 46, 47, 48, 49, 50, 51, 52, 53, 54, 55, 56, 60, 61, 62, 63, 64, 65, 66, 57, 58, 59] (by decide +kernel) (by decide +kernel)
set_option maxRecDepth 20000 in
theorem gX11_landing_X10_heatOf : GoodIn wsX11_landing (wsV RX11 219 RX10 yX10_heatOf wsX10_heatOf) := goodIn_app (goodIn_of _ (by decide +kernel)) ggX11_landing_X10_heatOf
set_option maxRecDepth 20000 in
theorem ggX11_landing_X10_isSettled : GoodIn wsX11_landing wsX10_isSettled := goodIn_r _ [29, 23, 30, 25, 13, 14, 5, 15, 7, 16, 17, 38, 39, 40, 41, 42, 43, 44, 45, 46, 47, 48, 49, 50, 51, 52, 53, 54, 55, 56, 57, 58, 59] (by decide +kernel) (by decide +kernel)
set_option maxRecDepth 20000 in
theorem gX11_landing_X10_isSettled : GoodIn wsX11_landing (wsV RX11 223 RX10 yX10_isSettled wsX10_isSettled) := goodIn_app (goodIn_of _ (by decide +kernel)) ggX11_landing_X10_isSettled
theorem dX11_landing_0 : decode cX11_landing 0 = .ok (.aload_n 0, 1) := by decide +kernel
theorem dX11_landing_1 : decode cX11_landing 1 = .ok (.getfield 10, 3) := by decide +kernel
theorem dX11_landing_4 : decode cX11_landing 4 = .ok (.getfield 207, 3) := by decide +kernel
theorem dX11_landing_7 : decode cX11_landing 7 = .ok (.iload_n 1, 1) := by decide +kernel
theorem dX11_landing_8 : decode cX11_landing 8 = .ok (.invokevirtual 211, 3) := by decide +kernel
theorem dX11_landing_11 : decode cX11_landing 11 = .ok (.ifCond .ne 5, 3) := by decide +kernel
theorem dX11_landing_14 : decode cX11_landing 14 = .ok (.iconst (-1), 1) := by decide +kernel
theorem dX11_landing_15 : decode cX11_landing 15 = .ok (.ireturn, 1) := by decide +kernel
theorem dX11_landing_16 : decode cX11_landing 16 = .ok (.iload_n 2, 1) := by decide +kernel
theorem dX11_landing_17 : decode cX11_landing 17 = .ok (.tableswitch 135 0 6 #[43, 56, 69, 82, 95, 108, 118], 43) := by decide +kernel
theorem dX11_landing_60 : decode cX11_landing 60 = .ok (.aload_n 0, 1) := by decide +kernel
theorem dX11_landing_61 : decode cX11_landing 61 = .ok (.getfield 10, 3) := by decide +kernel
theorem dX11_landing_64 : decode cX11_landing 64 = .ok (.getfield 207, 3) := by decide +kernel
theorem dX11_landing_67 : decode cX11_landing 67 = .ok (.iload_n 1, 1) := by decide +kernel
theorem dX11_landing_68 : decode cX11_landing 68 = .ok (.iconst 0, 1) := by decide +kernel
theorem dX11_landing_69 : decode cX11_landing 69 = .ok (.invokevirtual 216, 3) := by decide +kernel
theorem dX11_landing_72 : decode cX11_landing 72 = .ok (.ireturn, 1) := by decide +kernel
theorem dX11_landing_73 : decode cX11_landing 73 = .ok (.aload_n 0, 1) := by decide +kernel
theorem dX11_landing_74 : decode cX11_landing 74 = .ok (.getfield 10, 3) := by decide +kernel
theorem dX11_landing_77 : decode cX11_landing 77 = .ok (.getfield 207, 3) := by decide +kernel
theorem dX11_landing_80 : decode cX11_landing 80 = .ok (.iload_n 1, 1) := by decide +kernel
theorem dX11_landing_81 : decode cX11_landing 81 = .ok (.iconst 1, 1) := by decide +kernel
theorem dX11_landing_82 : decode cX11_landing 82 = .ok (.invokevirtual 216, 3) := by decide +kernel
theorem dX11_landing_85 : decode cX11_landing 85 = .ok (.ireturn, 1) := by decide +kernel
theorem dX11_landing_86 : decode cX11_landing 86 = .ok (.aload_n 0, 1) := by decide +kernel
theorem dX11_landing_87 : decode cX11_landing 87 = .ok (.getfield 10, 3) := by decide +kernel
theorem dX11_landing_90 : decode cX11_landing 90 = .ok (.getfield 207, 3) := by decide +kernel
theorem dX11_landing_93 : decode cX11_landing 93 = .ok (.iload_n 1, 1) := by decide +kernel
theorem dX11_landing_94 : decode cX11_landing 94 = .ok (.iconst 2, 1) := by decide +kernel
theorem dX11_landing_95 : decode cX11_landing 95 = .ok (.invokevirtual 216, 3) := by decide +kernel
theorem dX11_landing_98 : decode cX11_landing 98 = .ok (.ireturn, 1) := by decide +kernel
theorem dX11_landing_99 : decode cX11_landing 99 = .ok (.aload_n 0, 1) := by decide +kernel
theorem dX11_landing_100 : decode cX11_landing 100 = .ok (.getfield 10, 3) := by decide +kernel
theorem dX11_landing_103 : decode cX11_landing 103 = .ok (.getfield 207, 3) := by decide +kernel
theorem dX11_landing_106 : decode cX11_landing 106 = .ok (.iload_n 1, 1) := by decide +kernel
theorem dX11_landing_107 : decode cX11_landing 107 = .ok (.iconst 3, 1) := by decide +kernel
theorem dX11_landing_108 : decode cX11_landing 108 = .ok (.invokevirtual 216, 3) := by decide +kernel
theorem dX11_landing_111 : decode cX11_landing 111 = .ok (.ireturn, 1) := by decide +kernel
theorem dX11_landing_112 : decode cX11_landing 112 = .ok (.aload_n 0, 1) := by decide +kernel
theorem dX11_landing_113 : decode cX11_landing 113 = .ok (.getfield 10, 3) := by decide +kernel
theorem dX11_landing_116 : decode cX11_landing 116 = .ok (.getfield 207, 3) := by decide +kernel
theorem dX11_landing_119 : decode cX11_landing 119 = .ok (.iload_n 1, 1) := by decide +kernel
theorem dX11_landing_120 : decode cX11_landing 120 = .ok (.iconst 4, 1) := by decide +kernel
theorem dX11_landing_121 : decode cX11_landing 121 = .ok (.invokevirtual 216, 3) := by decide +kernel
theorem dX11_landing_124 : decode cX11_landing 124 = .ok (.ireturn, 1) := by decide +kernel
theorem dX11_landing_125 : decode cX11_landing 125 = .ok (.aload_n 0, 1) := by decide +kernel
theorem dX11_landing_126 : decode cX11_landing 126 = .ok (.getfield 10, 3) := by decide +kernel
theorem dX11_landing_129 : decode cX11_landing 129 = .ok (.iload_n 1, 1) := by decide +kernel
theorem dX11_landing_130 : decode cX11_landing 130 = .ok (.invokevirtual 219, 3) := by decide +kernel
theorem dX11_landing_133 : decode cX11_landing 133 = .ok (.l2i, 1) := by decide +kernel
theorem dX11_landing_134 : decode cX11_landing 134 = .ok (.ireturn, 1) := by decide +kernel
theorem dX11_landing_135 : decode cX11_landing 135 = .ok (.aload_n 0, 1) := by decide +kernel
theorem dX11_landing_136 : decode cX11_landing 136 = .ok (.getfield 10, 3) := by decide +kernel
theorem dX11_landing_139 : decode cX11_landing 139 = .ok (.iload_n 1, 1) := by decide +kernel
theorem dX11_landing_140 : decode cX11_landing 140 = .ok (.invokevirtual 223, 3) := by decide +kernel
theorem dX11_landing_143 : decode cX11_landing 143 = .ok (.ifCond .eq 7, 3) := by decide +kernel
theorem dX11_landing_146 : decode cX11_landing 146 = .ok (.iconst 1, 1) := by decide +kernel
theorem dX11_landing_147 : decode cX11_landing 147 = .ok (.goto 4, 3) := by decide +kernel
theorem dX11_landing_150 : decode cX11_landing 150 = .ok (.iconst 0, 1) := by decide +kernel
theorem dX11_landing_151 : decode cX11_landing 151 = .ok (.ireturn, 1) := by decide +kernel
theorem dX11_landing_152 : decode cX11_landing 152 = .ok (.iconst (-1), 1) := by decide +kernel
theorem dX11_landing_153 : decode cX11_landing 153 = .ok (.ireturn, 1) := by decide +kernel
set_option maxRecDepth 20000 in
theorem ggX11_led_X4_has : GoodIn wsX11_led wsX4_has := goodIn_r _ [6, 7, 50, 51, 52] (by decide +kernel) (by decide +kernel)
set_option maxRecDepth 20000 in
theorem gX11_led_X4_has : GoodIn wsX11_led (wsV RX11 211 RX4 yX4_has wsX4_has) := goodIn_app (goodIn_of _ (by decide +kernel)) ggX11_led_X4_has
set_option maxRecDepth 20000 in
theorem ggX11_led_X10_hasTerminal : GoodIn wsX11_led wsX10_hasTerminal := goodIn_r _ [12, 13, 31, 32, 33, 34, 35, 36, 37, 38, 39, 40, 41, 42, 43, 44, 45, 46, 47, 48, 49] (by decide +kernel) (by decide +kernel)
set_option maxRecDepth 20000 in
theorem gX11_led_X10_hasTerminal : GoodIn wsX11_led (wsV RX11 77 RX10 yX10_hasTerminal wsX10_hasTerminal) := goodIn_app (goodIn_of _ (by decide +kernel)) ggX11_led_X10_hasTerminal
set_option maxRecDepth 20000 in
theorem ggX11_led_X4_number : GoodIn wsX11_led wsX4_number := goodIn_r _ [17, 18, 19, 20, 5, 21, 7, 22, 23, 50, 51, 52] (by decide +kernel) (by decide +kernel)
set_option maxRecDepth 20000 in
theorem gX11_led_X4_number : GoodIn wsX11_led (wsV RX11 216 RX4 yX4_number wsX4_number) := goodIn_app (goodIn_of _ (by decide +kernel)) ggX11_led_X4_number
theorem dX11_led_0 : decode cX11_led 0 = .ok (.aload_n 0, 1) := by decide +kernel
theorem dX11_led_1 : decode cX11_led 1 = .ok (.getfield 10, 3) := by decide +kernel
theorem dX11_led_4 : decode cX11_led 4 = .ok (.getfield 207, 3) := by decide +kernel
theorem dX11_led_7 : decode cX11_led 7 = .ok (.iload_n 1, 1) := by decide +kernel
theorem dX11_led_8 : decode cX11_led 8 = .ok (.invokevirtual 211, 3) := by decide +kernel
theorem dX11_led_11 : decode cX11_led 11 = .ok (.ifCond .eq 14, 3) := by decide +kernel
theorem dX11_led_14 : decode cX11_led 14 = .ok (.aload_n 0, 1) := by decide +kernel
theorem dX11_led_15 : decode cX11_led 15 = .ok (.getfield 10, 3) := by decide +kernel
theorem dX11_led_18 : decode cX11_led 18 = .ok (.iload_n 2, 1) := by decide +kernel
theorem dX11_led_19 : decode cX11_led 19 = .ok (.invokevirtual 77, 3) := by decide +kernel
theorem dX11_led_22 : decode cX11_led 22 = .ok (.ifCond .ne 5, 3) := by decide +kernel
theorem dX11_led_25 : decode cX11_led 25 = .ok (.iconst (-1), 1) := by decide +kernel
theorem dX11_led_26 : decode cX11_led 26 = .ok (.ireturn, 1) := by decide +kernel
theorem dX11_led_27 : decode cX11_led 27 = .ok (.aload_n 0, 1) := by decide +kernel
theorem dX11_led_28 : decode cX11_led 28 = .ok (.getfield 10, 3) := by decide +kernel
theorem dX11_led_31 : decode cX11_led 31 = .ok (.getfield 207, 3) := by decide +kernel
theorem dX11_led_34 : decode cX11_led 34 = .ok (.iload_n 1, 1) := by decide +kernel
theorem dX11_led_35 : decode cX11_led 35 = .ok (.iconst 5, 1) := by decide +kernel
theorem dX11_led_36 : decode cX11_led 36 = .ok (.iload_n 2, 1) := by decide +kernel
theorem dX11_led_37 : decode cX11_led 37 = .ok (.iadd, 1) := by decide +kernel
theorem dX11_led_38 : decode cX11_led 38 = .ok (.invokevirtual 216, 3) := by decide +kernel
theorem dX11_led_41 : decode cX11_led 41 = .ok (.ireturn, 1) := by decide +kernel
set_option maxRecDepth 20000 in
theorem ggX11_heat_X11_within : GoodIn wsX11_heat wsX11_within := goodIn_r _ [5] (by decide +kernel) (by decide +kernel)
set_option maxRecDepth 20000 in
theorem gX11_heat_X11_within : GoodIn wsX11_heat (va_wsS RX11 51 yX11_within wsX11_within) := goodIn_app (goodIn_of _ (by decide +kernel)) ggX11_heat_X11_within
set_option maxRecDepth 20000 in
theorem ggX11_heat_X11_refuse : GoodIn wsX11_heat wsX11_refuse := goodIn_r _ [9, 10, 21, 22, 23, 24, 25, 26, 27] (by decide +kernel) (by decide +kernel)
set_option maxRecDepth 20000 in
theorem gX11_heat_X11_refuse : GoodIn wsX11_heat (wsV RX11 55 RX11 yX11_refuse wsX11_refuse) := goodIn_app (goodIn_of _ (by decide +kernel)) ggX11_heat_X11_refuse
set_option maxRecDepth 20000 in
theorem ggX11_heat_X10_hasTerminal : GoodIn wsX11_heat wsX10_hasTerminal := goodIn_r _ [15, 16, 28, 29, 30, 31, 32, 33, 34, 35, 36, 37, 38, 39, 40, 41, 42, 43, 44, 45, 46] (by decide +kernel) (by decide +kernel)
set_option maxRecDepth 20000 in
theorem gX11_heat_X10_hasTerminal : GoodIn wsX11_heat (wsV RX11 77 RX10 yX10_hasTerminal wsX10_hasTerminal) := goodIn_app (goodIn_of _ (by decide +kernel)) ggX11_heat_X10_hasTerminal
set_option maxRecDepth 20000 in
theorem ggX11_heat_X11_accept : GoodIn wsX11_heat wsX11_accept := goodIn_r _ [20, 10, 21, 22, 23, 24, 25, 26, 27] (by decide +kernel) (by decide +kernel)
set_option maxRecDepth 20000 in
theorem gX11_heat_X11_accept : GoodIn wsX11_heat (wsV RX11 73 RX11 yX11_accept wsX11_accept) := goodIn_app (goodIn_of _ (by decide +kernel)) ggX11_heat_X11_accept
theorem dX11_heat_0 : decode cX11_heat 0 = .ok (.iload_n 2, 1) := by decide +kernel
theorem dX11_heat_1 : decode cX11_heat 1 = .ok (.sipush 500, 3) := by decide +kernel
theorem dX11_heat_4 : decode cX11_heat 4 = .ok (.sipush 2000, 3) := by decide +kernel
theorem dX11_heat_7 : decode cX11_heat 7 = .ok (.invokestatic 51, 3) := by decide +kernel
theorem dX11_heat_10 : decode cX11_heat 10 = .ok (.ifCond .ne 9, 3) := by decide +kernel
theorem dX11_heat_13 : decode cX11_heat 13 = .ok (.aload_n 0, 1) := by decide +kernel
theorem dX11_heat_14 : decode cX11_heat 14 = .ok (.iconst (-1), 1) := by decide +kernel
theorem dX11_heat_15 : decode cX11_heat 15 = .ok (.invokevirtual 55, 3) := by decide +kernel
theorem dX11_heat_18 : decode cX11_heat 18 = .ok (.ireturn, 1) := by decide +kernel
theorem dX11_heat_19 : decode cX11_heat 19 = .ok (.aload_n 0, 1) := by decide +kernel
theorem dX11_heat_20 : decode cX11_heat 20 = .ok (.getfield 10, 3) := by decide +kernel
theorem dX11_heat_23 : decode cX11_heat 23 = .ok (.iload_n 1, 1) := by decide +kernel
theorem dX11_heat_24 : decode cX11_heat 24 = .ok (.invokevirtual 77, 3) := by decide +kernel
theorem dX11_heat_27 : decode cX11_heat 27 = .ok (.ifCond .ne 10, 3) := by decide +kernel
theorem dX11_heat_30 : decode cX11_heat 30 = .ok (.aload_n 0, 1) := by decide +kernel
theorem dX11_heat_31 : decode cX11_heat 31 = .ok (.bipush (-2), 2) := by decide +kernel
theorem dX11_heat_33 : decode cX11_heat 33 = .ok (.invokevirtual 55, 3) := by decide +kernel
theorem dX11_heat_36 : decode cX11_heat 36 = .ok (.ireturn, 1) := by decide +kernel
theorem dX11_heat_37 : decode cX11_heat 37 = .ok (.aload_n 0, 1) := by decide +kernel
theorem dX11_heat_38 : decode cX11_heat 38 = .ok (.getfield 10, 3) := by decide +kernel
theorem dX11_heat_41 : decode cX11_heat 41 = .ok (.getfield 63, 3) := by decide +kernel
theorem dX11_heat_44 : decode cX11_heat 44 = .ok (.iload_n 1, 1) := by decide +kernel
theorem dX11_heat_45 : decode cX11_heat 45 = .ok (.aaload, 1) := by decide +kernel
theorem dX11_heat_46 : decode cX11_heat 46 = .ok (.getfield 226, 3) := by decide +kernel
theorem dX11_heat_49 : decode cX11_heat 49 = .ok (.istore_n 3, 1) := by decide +kernel
theorem dX11_heat_50 : decode cX11_heat 50 = .ok (.aload_n 0, 1) := by decide +kernel
theorem dX11_heat_51 : decode cX11_heat 51 = .ok (.getfield 10, 3) := by decide +kernel
theorem dX11_heat_54 : decode cX11_heat 54 = .ok (.getfield 63, 3) := by decide +kernel
theorem dX11_heat_57 : decode cX11_heat 57 = .ok (.iload_n 1, 1) := by decide +kernel
theorem dX11_heat_58 : decode cX11_heat 58 = .ok (.aaload, 1) := by decide +kernel
theorem dX11_heat_59 : decode cX11_heat 59 = .ok (.iload_n 2, 1) := by decide +kernel
theorem dX11_heat_60 : decode cX11_heat 60 = .ok (.putfield 226, 3) := by decide +kernel
theorem dX11_heat_63 : decode cX11_heat 63 = .ok (.aload_n 0, 1) := by decide +kernel
theorem dX11_heat_64 : decode cX11_heat 64 = .ok (.iload_n 3, 1) := by decide +kernel
theorem dX11_heat_65 : decode cX11_heat 65 = .ok (.invokevirtual 73, 3) := by decide +kernel
theorem dX11_heat_68 : decode cX11_heat 68 = .ok (.ireturn, 1) := by decide +kernel
set_option maxRecDepth 20000 in
theorem ggX11_price_X11_within : GoodIn wsX11_price wsX11_within := goodIn_r _ [5] (by decide +kernel) (by decide +kernel)
set_option maxRecDepth 20000 in
theorem gX11_price_X11_within : GoodIn wsX11_price (va_wsS RX11 51 yX11_within wsX11_within) := goodIn_app (goodIn_of _ (by decide +kernel)) ggX11_price_X11_within
set_option maxRecDepth 20000 in
theorem ggX11_price_X11_isHour : GoodIn wsX11_price wsX11_isHour := goodIn_r _ [8, 2, 3, 4, 5] (by decide +kernel) (by decide +kernel)
set_option maxRecDepth 20000 in
theorem gX11_price_X11_isHour : GoodIn wsX11_price (va_wsS RX11 229 yX11_isHour wsX11_isHour) := goodIn_app (goodIn_of _ (by decide +kernel)) ggX11_price_X11_isHour
set_option maxRecDepth 20000 in
theorem ggX11_price_X11_refuse : GoodIn wsX11_price wsX11_refuse := goodIn_r _ [12, 13, 41, 42, 43, 44, 45, 46, 47] (by decide +kernel) (by decide +kernel)
set_option maxRecDepth 20000 in
theorem gX11_price_X11_refuse : GoodIn wsX11_price (wsV RX11 55 RX11 yX11_refuse wsX11_refuse) := goodIn_app (goodIn_of _ (by decide +kernel)) ggX11_price_X11_refuse
set_option maxRecDepth 20000 in
theorem ggX11_price_X4_addRow : GoodIn wsX11_price wsX4_addRow := goodIn_r _ [18, 19, 20, 21, 22, 23, 24, 25, 26, 27, 28, 67, 68, 69] (by decide +kernel) (by decide +kernel)
set_option maxRecDepth 20000 in
theorem gX11_price_X4_addRow : GoodIn wsX11_price (wsV RX11 235 RX4 yX4_addRow wsX4_addRow) := goodIn_app (goodIn_of _ (by decide +kernel)) ggX11_price_X4_addRow
set_option maxRecDepth 20000 in
theorem ggX11_price_X4_set : GoodIn wsX11_price wsX4_set := goodIn_r _ [32, 20, 21, 33, 34, 35, 17, 36, 19, 67, 68, 69] (by decide +kernel) (by decide +kernel)
set_option maxRecDepth 20000 in
theorem gX11_price_X4_set : GoodIn wsX11_price (wsV RX11 238 RX4 yX4_set wsX4_set) := goodIn_app (goodIn_of _ (by decide +kernel)) ggX11_price_X4_set
set_option maxRecDepth 20000 in
theorem ggX11_price_X11_accept : GoodIn wsX11_price wsX11_accept := goodIn_r _ [40, 13, 41, 42, 43, 44, 45, 46, 47] (by decide +kernel) (by decide +kernel)
set_option maxRecDepth 20000 in
theorem gX11_price_X11_accept : GoodIn wsX11_price (wsV RX11 73 RX11 yX11_accept wsX11_accept) := goodIn_app (goodIn_of _ (by decide +kernel)) ggX11_price_X11_accept
theorem dX11_price_0 : decode cX11_price 0 = .ok (.iload_n 1, 1) := by decide +kernel
theorem dX11_price_1 : decode cX11_price 1 = .ok (.iconst 0, 1) := by decide +kernel
theorem dX11_price_2 : decode cX11_price 2 = .ok (.bipush 99, 2) := by decide +kernel
theorem dX11_price_4 : decode cX11_price 4 = .ok (.invokestatic 51, 3) := by decide +kernel
theorem dX11_price_7 : decode cX11_price 7 = .ok (.ifCond .eq 21, 3) := by decide +kernel
theorem dX11_price_10 : decode cX11_price 10 = .ok (.iload_n 2, 1) := by decide +kernel
theorem dX11_price_11 : decode cX11_price 11 = .ok (.iconst 0, 1) := by decide +kernel
theorem dX11_price_12 : decode cX11_price 12 = .ok (.sipush 10000, 3) := by decide +kernel
theorem dX11_price_15 : decode cX11_price 15 = .ok (.invokestatic 51, 3) := by decide +kernel
theorem dX11_price_18 : decode cX11_price 18 = .ok (.ifCond .eq 10, 3) := by decide +kernel
theorem dX11_price_21 : decode cX11_price 21 = .ok (.iload_n 3, 1) := by decide +kernel
theorem dX11_price_22 : decode cX11_price 22 = .ok (.invokestatic 229, 3) := by decide +kernel
theorem dX11_price_25 : decode cX11_price 25 = .ok (.ifCond .ne 9, 3) := by decide +kernel
theorem dX11_price_28 : decode cX11_price 28 = .ok (.aload_n 0, 1) := by decide +kernel
theorem dX11_price_29 : decode cX11_price 29 = .ok (.iconst (-1), 1) := by decide +kernel
theorem dX11_price_30 : decode cX11_price 30 = .ok (.invokevirtual 55, 3) := by decide +kernel
theorem dX11_price_33 : decode cX11_price 33 = .ok (.ireturn, 1) := by decide +kernel
theorem dX11_price_34 : decode cX11_price 34 = .ok (.aload_n 0, 1) := by decide +kernel
theorem dX11_price_35 : decode cX11_price 35 = .ok (.getfield 10, 3) := by decide +kernel
theorem dX11_price_38 : decode cX11_price 38 = .ok (.getfield 232, 3) := by decide +kernel
theorem dX11_price_41 : decode cX11_price 41 = .ok (.invokevirtual 235, 3) := by decide +kernel
theorem dX11_price_44 : decode cX11_price 44 = .ok (.istore 4, 2) := by decide +kernel
theorem dX11_price_46 : decode cX11_price 46 = .ok (.iload 4, 2) := by decide +kernel
theorem dX11_price_48 : decode cX11_price 48 = .ok (.iconst (-1), 1) := by decide +kernel
theorem dX11_price_49 : decode cX11_price 49 = .ok (.if_icmp .ne 10, 3) := by decide +kernel
theorem dX11_price_52 : decode cX11_price 52 = .ok (.aload_n 0, 1) := by decide +kernel
theorem dX11_price_53 : decode cX11_price 53 = .ok (.bipush (-5), 2) := by decide +kernel
theorem dX11_price_55 : decode cX11_price 55 = .ok (.invokevirtual 55, 3) := by decide +kernel
theorem dX11_price_58 : decode cX11_price 58 = .ok (.ireturn, 1) := by decide +kernel
theorem dX11_price_59 : decode cX11_price 59 = .ok (.aload_n 0, 1) := by decide +kernel
theorem dX11_price_60 : decode cX11_price 60 = .ok (.getfield 10, 3) := by decide +kernel
theorem dX11_price_63 : decode cX11_price 63 = .ok (.getfield 232, 3) := by decide +kernel
theorem dX11_price_66 : decode cX11_price 66 = .ok (.iload 4, 2) := by decide +kernel
theorem dX11_price_68 : decode cX11_price 68 = .ok (.iconst 0, 1) := by decide +kernel
theorem dX11_price_69 : decode cX11_price 69 = .ok (.iload_n 1, 1) := by decide +kernel
theorem dX11_price_70 : decode cX11_price 70 = .ok (.i2l, 1) := by decide +kernel
theorem dX11_price_71 : decode cX11_price 71 = .ok (.invokevirtual 238, 3) := by decide +kernel
theorem dX11_price_74 : decode cX11_price 74 = .ok (.aload_n 0, 1) := by decide +kernel
theorem dX11_price_75 : decode cX11_price 75 = .ok (.getfield 10, 3) := by decide +kernel
theorem dX11_price_78 : decode cX11_price 78 = .ok (.getfield 232, 3) := by decide +kernel
theorem dX11_price_81 : decode cX11_price 81 = .ok (.iload 4, 2) := by decide +kernel
theorem dX11_price_83 : decode cX11_price 83 = .ok (.iconst 1, 1) := by decide +kernel
theorem dX11_price_84 : decode cX11_price 84 = .ok (.iload_n 2, 1) := by decide +kernel
theorem dX11_price_85 : decode cX11_price 85 = .ok (.i2l, 1) := by decide +kernel
theorem dX11_price_86 : decode cX11_price 86 = .ok (.invokevirtual 238, 3) := by decide +kernel
theorem dX11_price_89 : decode cX11_price 89 = .ok (.aload_n 0, 1) := by decide +kernel
theorem dX11_price_90 : decode cX11_price 90 = .ok (.getfield 10, 3) := by decide +kernel
theorem dX11_price_93 : decode cX11_price 93 = .ok (.getfield 232, 3) := by decide +kernel
theorem dX11_price_96 : decode cX11_price 96 = .ok (.iload 4, 2) := by decide +kernel
theorem dX11_price_98 : decode cX11_price 98 = .ok (.iconst 2, 1) := by decide +kernel
theorem dX11_price_99 : decode cX11_price 99 = .ok (.iload_n 3, 1) := by decide +kernel
theorem dX11_price_100 : decode cX11_price 100 = .ok (.i2l, 1) := by decide +kernel
theorem dX11_price_101 : decode cX11_price 101 = .ok (.invokevirtual 238, 3) := by decide +kernel
theorem dX11_price_104 : decode cX11_price 104 = .ok (.aload_n 0, 1) := by decide +kernel
theorem dX11_price_105 : decode cX11_price 105 = .ok (.aload_n 0, 1) := by decide +kernel
theorem dX11_price_106 : decode cX11_price 106 = .ok (.getfield 10, 3) := by decide +kernel
theorem dX11_price_109 : decode cX11_price 109 = .ok (.getfield 232, 3) := by decide +kernel
theorem dX11_price_112 : decode cX11_price 112 = .ok (.getfield 242, 3) := by decide +kernel
theorem dX11_price_115 : decode cX11_price 115 = .ok (.invokevirtual 73, 3) := by decide +kernel
theorem dX11_price_118 : decode cX11_price 118 = .ok (.ireturn, 1) := by decide +kernel
set_option maxRecDepth 20000 in
theorem ggX11_force_X11_isSpan : GoodIn wsX11_force wsX11_isSpan := goodIn_r _ [5, 6, 7, 4, 8, 9, 10, 11] (by decide +kernel) (by decide +kernel)
set_option maxRecDepth 20000 in
theorem gX11_force_X11_isSpan : GoodIn wsX11_force (va_wsS RX11 104 yX11_isSpan wsX11_isSpan) := goodIn_app (goodIn_of _ (by decide +kernel)) ggX11_force_X11_isSpan
set_option maxRecDepth 20000 in
theorem ggX11_force_X11_isHour : GoodIn wsX11_force wsX11_isHour := goodIn_r _ [8, 9, 10, 4, 11] (by decide +kernel) (by decide +kernel)
set_option maxRecDepth 20000 in
theorem gX11_force_X11_isHour : GoodIn wsX11_force (va_wsS RX11 229 yX11_isHour wsX11_isHour) := goodIn_app (goodIn_of _ (by decide +kernel)) ggX11_force_X11_isHour
set_option maxRecDepth 20000 in
theorem ggX11_force_X11_refuse : GoodIn wsX11_force wsX11_refuse := goodIn_r _ [15, 16, 34, 35, 36, 37, 38, 39, 40] (by decide +kernel) (by decide +kernel)
set_option maxRecDepth 20000 in
theorem gX11_force_X11_refuse : GoodIn wsX11_force (wsV RX11 55 RX11 yX11_refuse wsX11_refuse) := goodIn_app (goodIn_of _ (by decide +kernel)) ggX11_force_X11_refuse
set_option maxRecDepth 20000 in
theorem ggX11_force_X6_add : GoodIn wsX11_force wsX6_add := goodIn_r _ [21, 22, 23, 24, 25, 60, 61, 62, 63] (by decide +kernel) (by decide +kernel)
set_option maxRecDepth 20000 in
theorem gX11_force_X6_add : GoodIn wsX11_force (wsV RX11 125 RX6 yX6_add wsX6_add) := goodIn_app (goodIn_of _ (by decide +kernel)) ggX11_force_X6_add
set_option maxRecDepth 20000 in
theorem ggX11_force_X11_acceptOrFull : GoodIn wsX11_force wsX11_acceptOrFull := goodIn_r _ [29, 12, 13, 14, 4, 15, 16, 30, 31, 32, 33, 34, 35, 36, 37, 38, 39, 40] (by decide +kernel) (by decide +kernel)
set_option maxRecDepth 20000 in
theorem gX11_force_X11_acceptOrFull : GoodIn wsX11_force (wsV RX11 129 RX11 yX11_acceptOrFull wsX11_acceptOrFull) := goodIn_app (goodIn_of _ (by decide +kernel)) ggX11_force_X11_acceptOrFull
theorem dX11_force_0 : decode cX11_force 0 = .ok (.iload_n 1, 1) := by decide +kernel
theorem dX11_force_1 : decode cX11_force 1 = .ok (.iload_n 2, 1) := by decide +kernel
theorem dX11_force_2 : decode cX11_force 2 = .ok (.invokestatic 104, 3) := by decide +kernel
theorem dX11_force_5 : decode cX11_force 5 = .ok (.ifCond .eq 10, 3) := by decide +kernel
theorem dX11_force_8 : decode cX11_force 8 = .ok (.iload_n 3, 1) := by decide +kernel
theorem dX11_force_9 : decode cX11_force 9 = .ok (.invokestatic 229, 3) := by decide +kernel
theorem dX11_force_12 : decode cX11_force 12 = .ok (.ifCond .ne 9, 3) := by decide +kernel
theorem dX11_force_15 : decode cX11_force 15 = .ok (.aload_n 0, 1) := by decide +kernel
theorem dX11_force_16 : decode cX11_force 16 = .ok (.iconst (-1), 1) := by decide +kernel
theorem dX11_force_17 : decode cX11_force 17 = .ok (.invokevirtual 55, 3) := by decide +kernel
theorem dX11_force_20 : decode cX11_force 20 = .ok (.ireturn, 1) := by decide +kernel
theorem dX11_force_21 : decode cX11_force 21 = .ok (.aload_n 0, 1) := by decide +kernel
theorem dX11_force_22 : decode cX11_force 22 = .ok (.aload_n 0, 1) := by decide +kernel
theorem dX11_force_23 : decode cX11_force 23 = .ok (.getfield 10, 3) := by decide +kernel
theorem dX11_force_26 : decode cX11_force 26 = .ok (.getfield 245, 3) := by decide +kernel
theorem dX11_force_29 : decode cX11_force 29 = .ok (.iload_n 3, 1) := by decide +kernel
theorem dX11_force_30 : decode cX11_force 30 = .ok (.iload_n 1, 1) := by decide +kernel
theorem dX11_force_31 : decode cX11_force 31 = .ok (.iload_n 2, 1) := by decide +kernel
theorem dX11_force_32 : decode cX11_force 32 = .ok (.invokevirtual 125, 3) := by decide +kernel
theorem dX11_force_35 : decode cX11_force 35 = .ok (.invokevirtual 129, 3) := by decide +kernel
theorem dX11_force_38 : decode cX11_force 38 = .ok (.ireturn, 1) := by decide +kernel
set_option maxRecDepth 20000 in
theorem ggX11_bill_X11_within : GoodIn wsX11_bill wsX11_within := goodIn_r _ [7] (by decide +kernel) (by decide +kernel)
set_option maxRecDepth 20000 in
theorem gX11_bill_X11_within : GoodIn wsX11_bill (va_wsS RX11 51 yX11_within wsX11_within) := goodIn_app (goodIn_of _ (by decide +kernel)) ggX11_bill_X11_within
set_option maxRecDepth 20000 in
theorem ggX11_bill_X11_refuse : GoodIn wsX11_bill wsX11_refuse := goodIn_r _ [11, 12, 34, 35, 36, 37, 38, 39, 40] (by decide +kernel) (by decide +kernel)
set_option maxRecDepth 20000 in
theorem gX11_bill_X11_refuse : GoodIn wsX11_bill (wsV RX11 55 RX11 yX11_refuse wsX11_refuse) := goodIn_app (goodIn_of _ (by decide +kernel)) ggX11_bill_X11_refuse
set_option maxRecDepth 20000 in
theorem ggX11_bill_X4_has : GoodIn wsX11_bill wsX4_has := goodIn_r _ [17, 18, 60, 61, 62] (by decide +kernel) (by decide +kernel)
set_option maxRecDepth 20000 in
theorem gX11_bill_X4_has : GoodIn wsX11_bill (wsV RX11 211 RX4 yX4_has wsX4_has) := goodIn_app (goodIn_of _ (by decide +kernel)) ggX11_bill_X4_has
set_option maxRecDepth 20000 in
theorem ggX11_bill_X4_at : GoodIn wsX11_bill wsX4_at := goodIn_r _ [22, 18, 23, 24, 60, 61, 62] (by decide +kernel) (by decide +kernel)
set_option maxRecDepth 20000 in
theorem gX11_bill_X4_at : GoodIn wsX11_bill (wsV RX11 248 RX4 yX4_at wsX4_at) := goodIn_app (goodIn_of _ (by decide +kernel)) ggX11_bill_X4_at
set_option maxRecDepth 20000 in
theorem ggX11_bill_X4_set : GoodIn wsX11_bill wsX4_set := goodIn_r _ [28, 23, 24, 29, 14, 15, 16, 17, 18, 60, 61, 62] (by decide +kernel) (by decide +kernel)
set_option maxRecDepth 20000 in
theorem gX11_bill_X4_set : GoodIn wsX11_bill (wsV RX11 238 RX4 yX4_set wsX4_set) := goodIn_app (goodIn_of _ (by decide +kernel)) ggX11_bill_X4_set
set_option maxRecDepth 20000 in
theorem ggX11_bill_X11_accept : GoodIn wsX11_bill wsX11_accept := goodIn_r _ [33, 12, 34, 35, 36, 37, 38, 39, 40] (by decide +kernel) (by decide +kernel)
set_option maxRecDepth 20000 in
theorem gX11_bill_X11_accept : GoodIn wsX11_bill (wsV RX11 73 RX11 yX11_accept wsX11_accept) := goodIn_app (goodIn_of _ (by decide +kernel)) ggX11_bill_X11_accept
theorem dX11_bill_0 : decode cX11_bill 0 = .ok (.iload_n 2, 1) := by decide +kernel
theorem dX11_bill_1 : decode cX11_bill 1 = .ok (.iconst 0, 1) := by decide +kernel
theorem dX11_bill_2 : decode cX11_bill 2 = .ok (.ldc 76, 2) := by decide +kernel
theorem dX11_bill_4 : decode cX11_bill 4 = .ok (.invokestatic 51, 3) := by decide +kernel
theorem dX11_bill_7 : decode cX11_bill 7 = .ok (.ifCond .ne 9, 3) := by decide +kernel
theorem dX11_bill_10 : decode cX11_bill 10 = .ok (.aload_n 0, 1) := by decide +kernel
theorem dX11_bill_11 : decode cX11_bill 11 = .ok (.iconst (-1), 1) := by decide +kernel
theorem dX11_bill_12 : decode cX11_bill 12 = .ok (.invokevirtual 55, 3) := by decide +kernel
theorem dX11_bill_15 : decode cX11_bill 15 = .ok (.ireturn, 1) := by decide +kernel
theorem dX11_bill_16 : decode cX11_bill 16 = .ok (.aload_n 0, 1) := by decide +kernel
theorem dX11_bill_17 : decode cX11_bill 17 = .ok (.getfield 10, 3) := by decide +kernel
theorem dX11_bill_20 : decode cX11_bill 20 = .ok (.getfield 207, 3) := by decide +kernel
theorem dX11_bill_23 : decode cX11_bill 23 = .ok (.iload_n 1, 1) := by decide +kernel
theorem dX11_bill_24 : decode cX11_bill 24 = .ok (.invokevirtual 211, 3) := by decide +kernel
theorem dX11_bill_27 : decode cX11_bill 27 = .ok (.ifCond .ne 10, 3) := by decide +kernel
theorem dX11_bill_30 : decode cX11_bill 30 = .ok (.aload_n 0, 1) := by decide +kernel
theorem dX11_bill_31 : decode cX11_bill 31 = .ok (.bipush (-2), 2) := by decide +kernel
theorem dX11_bill_33 : decode cX11_bill 33 = .ok (.invokevirtual 55, 3) := by decide +kernel
theorem dX11_bill_36 : decode cX11_bill 36 = .ok (.ireturn, 1) := by decide +kernel
theorem dX11_bill_37 : decode cX11_bill 37 = .ok (.aload_n 0, 1) := by decide +kernel
theorem dX11_bill_38 : decode cX11_bill 38 = .ok (.getfield 10, 3) := by decide +kernel
theorem dX11_bill_41 : decode cX11_bill 41 = .ok (.getfield 207, 3) := by decide +kernel
theorem dX11_bill_44 : decode cX11_bill 44 = .ok (.iload_n 1, 1) := by decide +kernel
theorem dX11_bill_45 : decode cX11_bill 45 = .ok (.bipush 11, 2) := by decide +kernel
theorem dX11_bill_47 : decode cX11_bill 47 = .ok (.invokevirtual 248, 3) := by decide +kernel
theorem dX11_bill_50 : decode cX11_bill 50 = .ok (.ldc2_w 198, 3) := by decide +kernel
theorem dX11_bill_53 : decode cX11_bill 53 = .ok (.lcmp, 1) := by decide +kernel
theorem dX11_bill_54 : decode cX11_bill 54 = .ok (.ifCond .eq 10, 3) := by decide +kernel
theorem dX11_bill_57 : decode cX11_bill 57 = .ok (.aload_n 0, 1) := by decide +kernel
theorem dX11_bill_58 : decode cX11_bill 58 = .ok (.bipush (-4), 2) := by decide +kernel
theorem dX11_bill_60 : decode cX11_bill 60 = .ok (.invokevirtual 55, 3) := by decide +kernel
theorem dX11_bill_63 : decode cX11_bill 63 = .ok (.ireturn, 1) := by decide +kernel
theorem dX11_bill_64 : decode cX11_bill 64 = .ok (.aload_n 0, 1) := by decide +kernel
theorem dX11_bill_65 : decode cX11_bill 65 = .ok (.getfield 10, 3) := by decide +kernel
theorem dX11_bill_68 : decode cX11_bill 68 = .ok (.getfield 207, 3) := by decide +kernel
theorem dX11_bill_71 : decode cX11_bill 71 = .ok (.iload_n 1, 1) := by decide +kernel
theorem dX11_bill_72 : decode cX11_bill 72 = .ok (.bipush 11, 2) := by decide +kernel
theorem dX11_bill_74 : decode cX11_bill 74 = .ok (.iload_n 2, 1) := by decide +kernel
theorem dX11_bill_75 : decode cX11_bill 75 = .ok (.i2l, 1) := by decide +kernel
theorem dX11_bill_76 : decode cX11_bill 76 = .ok (.invokevirtual 238, 3) := by decide +kernel
theorem dX11_bill_79 : decode cX11_bill 79 = .ok (.aload_n 0, 1) := by decide +kernel
theorem dX11_bill_80 : decode cX11_bill 80 = .ok (.iconst 0, 1) := by decide +kernel
theorem dX11_bill_81 : decode cX11_bill 81 = .ok (.invokevirtual 73, 3) := by decide +kernel
theorem dX11_bill_84 : decode cX11_bill 84 = .ok (.ireturn, 1) := by decide +kernel
theorem dX11_refuse_0 : decode cX11_refuse 0 = .ok (.aload_n 0, 1) := by decide +kernel
theorem dX11_refuse_1 : decode cX11_refuse 1 = .ok (.iload_n 1, 1) := by decide +kernel
theorem dX11_refuse_2 : decode cX11_refuse 2 = .ok (.putfield 354, 3) := by decide +kernel
theorem dX11_refuse_5 : decode cX11_refuse 5 = .ok (.iload_n 1, 1) := by decide +kernel
theorem dX11_refuse_6 : decode cX11_refuse 6 = .ok (.ireturn, 1) := by decide +kernel
theorem dX11_accept_0 : decode cX11_accept 0 = .ok (.aload_n 0, 1) := by decide +kernel
theorem dX11_accept_1 : decode cX11_accept 1 = .ok (.iconst 0, 1) := by decide +kernel
theorem dX11_accept_2 : decode cX11_accept 2 = .ok (.putfield 354, 3) := by decide +kernel
theorem dX11_accept_5 : decode cX11_accept 5 = .ok (.iload_n 1, 1) := by decide +kernel
theorem dX11_accept_6 : decode cX11_accept 6 = .ok (.ireturn, 1) := by decide +kernel
set_option maxRecDepth 20000 in
theorem ggX11_acceptOrFull_X11_refuse : GoodIn wsX11_acceptOrFull wsX11_refuse := goodIn_r _ [5, 6, 11, 12, 13, 14, 15, 16, 17] (by decide +kernel) (by decide +kernel)
set_option maxRecDepth 20000 in
theorem gX11_acceptOrFull_X11_refuse : GoodIn wsX11_acceptOrFull (wsV RX11 55 RX11 yX11_refuse wsX11_refuse) := goodIn_app (goodIn_of _ (by decide +kernel)) ggX11_acceptOrFull_X11_refuse
set_option maxRecDepth 20000 in
theorem ggX11_acceptOrFull_X11_accept : GoodIn wsX11_acceptOrFull wsX11_accept := goodIn_r _ [10, 6, 11, 12, 13, 14, 15, 16, 17] (by decide +kernel) (by decide +kernel)
set_option maxRecDepth 20000 in
theorem gX11_acceptOrFull_X11_accept : GoodIn wsX11_acceptOrFull (wsV RX11 73 RX11 yX11_accept wsX11_accept) := goodIn_app (goodIn_of _ (by decide +kernel)) ggX11_acceptOrFull_X11_accept
theorem dX11_acceptOrFull_0 : decode cX11_acceptOrFull 0 = .ok (.iload_n 1, 1) := by decide +kernel
theorem dX11_acceptOrFull_1 : decode cX11_acceptOrFull 1 = .ok (.iconst (-1), 1) := by decide +kernel
theorem dX11_acceptOrFull_2 : decode cX11_acceptOrFull 2 = .ok (.if_icmp .ne 12, 3) := by decide +kernel
theorem dX11_acceptOrFull_5 : decode cX11_acceptOrFull 5 = .ok (.aload_n 0, 1) := by decide +kernel
theorem dX11_acceptOrFull_6 : decode cX11_acceptOrFull 6 = .ok (.bipush (-5), 2) := by decide +kernel
theorem dX11_acceptOrFull_8 : decode cX11_acceptOrFull 8 = .ok (.invokevirtual 55, 3) := by decide +kernel
theorem dX11_acceptOrFull_11 : decode cX11_acceptOrFull 11 = .ok (.goto 8, 3) := by decide +kernel
theorem dX11_acceptOrFull_14 : decode cX11_acceptOrFull 14 = .ok (.aload_n 0, 1) := by decide +kernel
theorem dX11_acceptOrFull_15 : decode cX11_acceptOrFull 15 = .ok (.iload_n 1, 1) := by decide +kernel
theorem dX11_acceptOrFull_16 : decode cX11_acceptOrFull 16 = .ok (.invokevirtual 73, 3) := by decide +kernel
theorem dX11_acceptOrFull_19 : decode cX11_acceptOrFull 19 = .ok (.ireturn, 1) := by decide +kernel
