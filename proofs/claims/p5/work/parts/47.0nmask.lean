abbrev cX12_of : ByteArray := prog_14_method_45_code
def yX12_of : MethodName := ⟨RX12, "of", "(II)I"⟩
abbrev cX12_part : ByteArray := prog_14_method_46_code
def yX12_part : MethodName := ⟨RX12, "part", "(II)I"⟩
abbrev cX12_book : ByteArray := prog_14_method_47_code
def yX12_book : MethodName := ⟨RX12, "book", "(II)J"⟩
abbrev cX12_store : ByteArray := prog_14_method_48_code
def yX12_store : MethodName := ⟨RX12, "store", "(I)I"⟩
abbrev cX12_heatOf : ByteArray := prog_14_method_51_code
def yX12_heatOf : MethodName := ⟨RX12, "heatOf", "(I)I"⟩
abbrev cX12_landing : ByteArray := prog_14_method_52_code
def yX12_landing : MethodName := ⟨RX12, "landing", "(II)I"⟩
abbrev cX12_led : ByteArray := prog_14_method_53_code
def yX12_led : MethodName := ⟨RX12, "led", "(II)I"⟩
abbrev cX12_heat : ByteArray := prog_14_method_54_code
def yX12_heat : MethodName := ⟨RX12, "heat", "(II)I"⟩
abbrev cX12_price : ByteArray := prog_14_method_55_code
def yX12_price : MethodName := ⟨RX12, "price", "(III)I"⟩
abbrev cX12_priceOf : ByteArray := prog_14_method_56_code
def yX12_priceOf : MethodName := ⟨RX12, "priceOf", "(II)I"⟩
abbrev cX12_force : ByteArray := prog_14_method_57_code
def yX12_force : MethodName := ⟨RX12, "force", "(III)I"⟩
abbrev cX12_isForce : ByteArray := prog_14_method_58_code
def yX12_isForce : MethodName := ⟨RX12, "isForce", "(II)Z"⟩
abbrev cX12_bill : ByteArray := prog_14_method_59_code
def yX12_bill : MethodName := ⟨RX12, "bill", "(II)I"⟩
abbrev cX12_billed : ByteArray := prog_14_method_60_code
def yX12_billed : MethodName := ⟨RX12, "billed", "(I)I"⟩
abbrev cX12_four : ByteArray := prog_14_method_61_code
def yX12_four : MethodName := ⟨RX12, "four", "(I)V"⟩
abbrev cX12_feed : ByteArray := prog_14_method_62_code
def yX12_feed : MethodName := ⟨RX12, "feed", "(IIIII)I"⟩
abbrev cX12_end : ByteArray := prog_14_method_63_code
def yX12_end : MethodName := ⟨RX12, "end", "(I)I"⟩
abbrev cX12_fault : ByteArray := prog_14_method_72_code
def yX12_fault : MethodName := ⟨RX12, "fault", "()I"⟩
abbrev cX12_settled : ByteArray := prog_14_method_97_code
def yX12_settled : MethodName := ⟨RX12, "settled", "(II)J"⟩
abbrev cX12_table : ByteArray := prog_14_method_98_code
def yX12_table : MethodName := ⟨RX12, "table", "(IIII)I"⟩
abbrev cX12_list : ByteArray := prog_14_method_99_code
def yX12_list : MethodName := ⟨RX12, "list", "(II)I"⟩
abbrev cX12_reading : ByteArray := prog_14_method_100_code
def yX12_reading : MethodName := ⟨RX12, "reading", "(IIIII)I"⟩
abbrev cX12_cargo : ByteArray := prog_14_method_105_code
def yX12_cargo : MethodName := ⟨RX12, "cargo", "(IIIIIIII)I"⟩
abbrev cX12_clear : ByteArray := prog_14_method_106_code
def yX12_clear : MethodName := ⟨RX12, "clear", "()I"⟩
abbrev cX12_voyage : ByteArray := prog_14_method_118_code
def yX12_voyage : MethodName := ⟨RX12, "voyage", "(II)J"⟩
abbrev cX12_count : ByteArray := prog_14_method_119_code
def yX12_count : MethodName := ⟨RX12, "count", "(I)I"⟩
abbrev cX12_status : ByteArray := prog_14_method_120_code
def yX12_status : MethodName := ⟨RX12, "status", "()I"⟩
def wsX12_of_r1 : List Cond := [Cond.fieldLink RX12 91 "ColdShipsModel" "thrown" "I", Cond.fieldLink RX12 7 "ColdShipsModel" "row" "[I", Cond.methodLink RX12 147 yX12_isShip, Cond.instanceMethod yX12_isShip, Cond.selects RX12 yX12_isShip yX12_isShip, Cond.initialized RX12, Cond.code yX12_isShip cX12_isShip 2 (some .boolean), Cond.methodLink RX12 99 yX12_in, Cond.static yX12_in, Cond.code yX12_in cX12_in 6 (some .boolean), Cond.methodLink RX12 132 yX12_shipAt, Cond.static yX12_shipAt, Cond.code yX12_shipAt cX12_shipAt 1 (some .int), Cond.methodLink RX12 234 yX12_pressOf, Cond.instanceMethod yX12_pressOf, Cond.selects RX12 yX12_pressOf yX12_pressOf, Cond.code yX12_pressOf cX12_pressOf 2 (some .int), Cond.constantLong RX12 122 (1000), Cond.methodLink RX12 164 yX12_roomOf, Cond.instanceMethod yX12_roomOf, Cond.selects RX12 yX12_roomOf yX12_roomOf, Cond.code yX12_roomOf cX12_roomOf 2 (some .int), Cond.methodLink RX12 225 yX12_draftOf, Cond.instanceMethod yX12_draftOf]
def wsX12_of_r2 : List Cond := [Cond.selects RX12 yX12_draftOf yX12_draftOf, Cond.code yX12_draftOf cX12_draftOf 2 (some .int), Cond.constantLong RX12 162 (8)]
def wsX12_of : List Cond := .code yX12_of cX12_of 4 (some .int) :: ((wsX12_of_r1 ++ wsX12_of_r2) ++ wsX120)
def wsX12_part : List Cond := .code yX12_part cX12_part 3 (some .int) :: ([.fieldLink RX12 91 "ColdShipsModel" "thrown" "I", .fieldLink RX12 7 "ColdShipsModel" "row" "[I", .methodLink RX12 147 yX12_isShip, .instanceMethod yX12_isShip, .selects RX12 yX12_isShip yX12_isShip, .initialized RX12, .code yX12_isShip cX12_isShip 2 (some .boolean), .methodLink RX12 99 yX12_in, .static yX12_in, .code yX12_in cX12_in 6 (some .boolean), .methodLink RX12 128 yX12_isTerminal, .instanceMethod yX12_isTerminal, .selects RX12 yX12_isTerminal yX12_isTerminal, .code yX12_isTerminal cX12_isTerminal 2 (some .boolean), .methodLink RX12 132 yX12_shipAt, .static yX12_shipAt, .code yX12_shipAt cX12_shipAt 1 (some .int)] ++ wsX120)
def wsX12_book : List Cond := .code yX12_book cX12_book 3 (some .long) :: ([.fieldLink RX12 91 "ColdShipsModel" "thrown" "I", .constantLong RX12 152 (3), .fieldLink RX12 7 "ColdShipsModel" "row" "[I", .constantLong RX12 158 (-1), .methodLink RX12 147 yX12_isShip, .instanceMethod yX12_isShip, .selects RX12 yX12_isShip yX12_isShip, .initialized RX12, .code yX12_isShip cX12_isShip 2 (some .boolean), .methodLink RX12 99 yX12_in, .static yX12_in, .code yX12_in cX12_in 6 (some .boolean), .methodLink RX12 132 yX12_shipAt, .static yX12_shipAt, .code yX12_shipAt cX12_shipAt 1 (some .int)] ++ wsX120)
def wsX12_store : List Cond := .code yX12_store cX12_store 2 (some .int) :: ([.fieldLink RX12 91 "ColdShipsModel" "thrown" "I", .fieldLink RX12 7 "ColdShipsModel" "row" "[I", .methodLink RX12 128 yX12_isTerminal, .instanceMethod yX12_isTerminal, .selects RX12 yX12_isTerminal yX12_isTerminal, .initialized RX12, .code yX12_isTerminal cX12_isTerminal 2 (some .boolean), .methodLink RX12 99 yX12_in, .static yX12_in, .code yX12_in cX12_in 6 (some .boolean), .methodLink RX12 115 yX12_terminalAt, .static yX12_terminalAt, .code yX12_terminalAt cX12_terminalAt 1 (some .int)] ++ wsX120)
def wsX12_heatOf : List Cond := .code yX12_heatOf cX12_heatOf 5 (some .int) :: ([.fieldLink RX12 7 "ColdShipsModel" "row" "[I", .methodLink RX12 115 yX12_terminalAt, .static yX12_terminalAt, .initialized RX12, .code yX12_terminalAt cX12_terminalAt 1 (some .int)] ++ wsX120)
def wsX12_landing : List Cond := .code yX12_landing cX12_landing 4 (some .int) :: ([.fieldLink RX12 91 "ColdShipsModel" "thrown" "I", .constantLong RX12 240 (6), .fieldLink RX12 7 "ColdShipsModel" "row" "[I", .methodLink RX12 237 yX12_isLanding, .instanceMethod yX12_isLanding, .selects RX12 yX12_isLanding yX12_isLanding, .initialized RX12, .code yX12_isLanding cX12_isLanding 2 (some .boolean), .methodLink RX12 99 yX12_in, .static yX12_in, .code yX12_in cX12_in 6 (some .boolean), .methodLink RX12 242 yX12_landingAt, .static yX12_landingAt, .code yX12_landingAt cX12_landingAt 1 (some .int), .methodLink RX12 245 yX12_heatOf, .instanceMethod yX12_heatOf, .selects RX12 yX12_heatOf yX12_heatOf, .code yX12_heatOf cX12_heatOf 5 (some .int), .methodLink RX12 115 yX12_terminalAt, .static yX12_terminalAt, .code yX12_terminalAt cX12_terminalAt 1 (some .int)] ++ wsX120)
def wsX12_led : List Cond := .code yX12_led cX12_led 3 (some .int) :: ([.fieldLink RX12 91 "ColdShipsModel" "thrown" "I", .fieldLink RX12 7 "ColdShipsModel" "row" "[I", .methodLink RX12 237 yX12_isLanding, .instanceMethod yX12_isLanding, .selects RX12 yX12_isLanding yX12_isLanding, .initialized RX12, .code yX12_isLanding cX12_isLanding 2 (some .boolean), .methodLink RX12 99 yX12_in, .static yX12_in, .code yX12_in cX12_in 6 (some .boolean), .methodLink RX12 128 yX12_isTerminal, .instanceMethod yX12_isTerminal, .selects RX12 yX12_isTerminal yX12_isTerminal, .code yX12_isTerminal cX12_isTerminal 2 (some .boolean), .methodLink RX12 242 yX12_landingAt, .static yX12_landingAt, .code yX12_landingAt cX12_landingAt 1 (some .int)] ++ wsX120)
def wsX12_heat : List Cond := .code yX12_heat cX12_heat 4 (some .int) :: ([.fieldLink RX12 91 "ColdShipsModel" "thrown" "I", .constantLong RX12 248 (500), .constantLong RX12 250 (2000), .fieldLink RX12 7 "ColdShipsModel" "row" "[I", .methodLink RX12 99 yX12_in, .static yX12_in, .initialized RX12, .code yX12_in cX12_in 6 (some .boolean), .methodLink RX12 105 yX12_told, .instanceMethod yX12_told, .selects RX12 yX12_told yX12_told, .code yX12_told cX12_told 2 (some .int), .fieldLink RX12 94 "ColdShipsModel" "status" "I", .methodLink RX12 128 yX12_isTerminal, .instanceMethod yX12_isTerminal, .selects RX12 yX12_isTerminal yX12_isTerminal, .code yX12_isTerminal cX12_isTerminal 2 (some .boolean), .methodLink RX12 115 yX12_terminalAt, .static yX12_terminalAt, .code yX12_terminalAt cX12_terminalAt 1 (some .int)] ++ wsX120)
def wsX12_price : List Cond := .code yX12_price cX12_price 5 (some .int) :: ([.fieldLink RX12 91 "ColdShipsModel" "thrown" "I", .constantLong RX12 111 (10000), .fieldLink RX12 7 "ColdShipsModel" "row" "[I", .methodLink RX12 141 yX12_isDay, .static yX12_isDay, .initialized RX12, .code yX12_isDay cX12_isDay 1 (some .boolean), .constantLong RX12 103 (99), .methodLink RX12 99 yX12_in, .static yX12_in, .code yX12_in cX12_in 6 (some .boolean), .methodLink RX12 144 yX12_isHour, .static yX12_isHour, .code yX12_isHour cX12_isHour 1 (some .boolean), .constantLong RX12 97 (2399), .methodLink RX12 105 yX12_told, .instanceMethod yX12_told, .selects RX12 yX12_told yX12_told, .code yX12_told cX12_told 2 (some .int), .fieldLink RX12 94 "ColdShipsModel" "status" "I"] ++ wsX120)
def wsX12_priceOf : List Cond := .code yX12_priceOf cX12_priceOf 7 (some .int) :: ([.fieldLink RX12 7 "ColdShipsModel" "row" "[I"] ++ wsX120)
def wsX12_force : List Cond := .code yX12_force cX12_force 5 (some .int) :: ([.fieldLink RX12 91 "ColdShipsModel" "thrown" "I", .fieldLink RX12 7 "ColdShipsModel" "row" "[I", .methodLink RX12 144 yX12_isHour, .static yX12_isHour, .initialized RX12, .code yX12_isHour cX12_isHour 1 (some .boolean), .constantLong RX12 97 (2399), .methodLink RX12 99 yX12_in, .static yX12_in, .code yX12_in cX12_in 6 (some .boolean), .methodLink RX12 105 yX12_told, .instanceMethod yX12_told, .selects RX12 yX12_told yX12_told, .code yX12_told cX12_told 2 (some .int), .fieldLink RX12 94 "ColdShipsModel" "status" "I"] ++ wsX120)
def wsX12_isForce : List Cond := .code yX12_isForce cX12_isForce 6 (some .boolean) :: ([.fieldLink RX12 7 "ColdShipsModel" "row" "[I", .methodLink RX12 99 yX12_in, .static yX12_in, .initialized RX12, .code yX12_in cX12_in 6 (some .boolean)] ++ wsX120)
def wsX12_bill : List Cond := .code yX12_bill cX12_bill 3 (some .int) :: ([.fieldLink RX12 91 "ColdShipsModel" "thrown" "I", .constantLong RX12 124 (200000), .fieldLink RX12 7 "ColdShipsModel" "row" "[I", .methodLink RX12 99 yX12_in, .static yX12_in, .initialized RX12, .code yX12_in cX12_in 6 (some .boolean), .methodLink RX12 105 yX12_told, .instanceMethod yX12_told, .selects RX12 yX12_told yX12_told, .code yX12_told cX12_told 2 (some .int), .fieldLink RX12 94 "ColdShipsModel" "status" "I", .methodLink RX12 237 yX12_isLanding, .instanceMethod yX12_isLanding, .selects RX12 yX12_isLanding yX12_isLanding, .code yX12_isLanding cX12_isLanding 2 (some .boolean), .methodLink RX12 242 yX12_landingAt, .static yX12_landingAt, .code yX12_landingAt cX12_landingAt 1 (some .int)] ++ wsX120)
def wsX12_billed : List Cond := .code yX12_billed cX12_billed 2 (some .int) :: ([.fieldLink RX12 7 "ColdShipsModel" "row" "[I"] ++ wsX120)
def wsX12_four : List Cond := .code yX12_four cX12_four 3 none :: ([.fieldLink RX12 27 "ColdShipsModel" "tape" "[I", .fieldLink RX12 252 "ColdShipsModel" "taped" "I"] ++ wsX120)
def wsX12_feed : List Cond := .code yX12_feed cX12_feed 6 (some .int) :: ([.fieldLink RX12 91 "ColdShipsModel" "thrown" "I", .fieldLink RX12 252 "ColdShipsModel" "taped" "I", .methodLink RX12 255 yX12_four, .instanceMethod yX12_four, .selects RX12 yX12_four yX12_four, .initialized RX12, .code yX12_four cX12_four 3 none, .fieldLink RX12 27 "ColdShipsModel" "tape" "[I"] ++ wsX120)
def wsX12_end : List Cond := .code yX12_end cX12_end 2 (some .int) :: ([.fieldLink RX12 91 "ColdShipsModel" "thrown" "I", .fieldLink RX12 252 "ColdShipsModel" "taped" "I"] ++ wsX120)
def wsX12_fault : List Cond := .code yX12_fault cX12_fault 1 (some .int) :: ([.fieldLink RX12 91 "ColdShipsModel" "thrown" "I", .fieldLink RX12 30 "ColdShipsModel" "fault" "I"] ++ wsX120)
def wsX12_settled : List Cond := .code yX12_settled cX12_settled 4 (some .long) :: ([.fieldLink RX12 91 "ColdShipsModel" "thrown" "I", .constantLong RX12 477 (2), .fieldLink RX12 7 "ColdShipsModel" "row" "[I", .constantLong RX12 466 (-2000000000000000), .constantLong RX12 479 (4294967295), .methodLink RX12 237 yX12_isLanding, .instanceMethod yX12_isLanding, .selects RX12 yX12_isLanding yX12_isLanding, .initialized RX12, .code yX12_isLanding cX12_isLanding 2 (some .boolean), .methodLink RX12 99 yX12_in, .static yX12_in, .code yX12_in cX12_in 6 (some .boolean), .methodLink RX12 242 yX12_landingAt, .static yX12_landingAt, .code yX12_landingAt cX12_landingAt 1 (some .int)] ++ wsX120)
def wsX12_table : List Cond := .code yX12_table cX12_table 6 (some .int) :: ([.fieldLink RX12 91 "ColdShipsModel" "thrown" "I", .constantLong RX12 152 (3), .constantLong RX12 481 (5000), .constantLong RX12 124 (200000), .fieldLink RX12 7 "ColdShipsModel" "row" "[I", .methodLink RX12 99 yX12_in, .static yX12_in, .initialized RX12, .code yX12_in cX12_in 6 (some .boolean), .methodLink RX12 105 yX12_told, .instanceMethod yX12_told, .selects RX12 yX12_told yX12_told, .code yX12_told cX12_told 2 (some .int), .fieldLink RX12 94 "ColdShipsModel" "status" "I", .methodLink RX12 147 yX12_isShip, .instanceMethod yX12_isShip, .selects RX12 yX12_isShip yX12_isShip, .code yX12_isShip cX12_isShip 2 (some .boolean), .methodLink RX12 132 yX12_shipAt, .static yX12_shipAt, .code yX12_shipAt cX12_shipAt 1 (some .int)] ++ wsX120)
def wsX12_list : List Cond := .code yX12_list cX12_list 4 (some .int) :: ([.fieldLink RX12 91 "ColdShipsModel" "thrown" "I", .constantLong RX12 483 (-50), .constantLong RX12 126 (50), .fieldLink RX12 7 "ColdShipsModel" "row" "[I", .fieldLink RX12 94 "ColdShipsModel" "status" "I", .methodLink RX12 99 yX12_in, .static yX12_in, .initialized RX12, .code yX12_in cX12_in 6 (some .boolean), .methodLink RX12 105 yX12_told, .instanceMethod yX12_told, .selects RX12 yX12_told yX12_told, .code yX12_told cX12_told 2 (some .int), .methodLink RX12 147 yX12_isShip, .instanceMethod yX12_isShip, .selects RX12 yX12_isShip yX12_isShip, .code yX12_isShip cX12_isShip 2 (some .boolean), .methodLink RX12 132 yX12_shipAt, .static yX12_shipAt, .code yX12_shipAt cX12_shipAt 1 (some .int)] ++ wsX120)
def wsX12_reading_r1 : List Cond := [Cond.fieldLink RX12 91 "ColdShipsModel" "thrown" "I", Cond.constantLong RX12 481 (5000), Cond.constantLong RX12 485 (-20), Cond.constantLong RX12 487 (20), Cond.fieldLink RX12 7 "ColdShipsModel" "row" "[I", Cond.methodLink RX12 99 yX12_in, Cond.static yX12_in, Cond.initialized RX12, Cond.code yX12_in cX12_in 6 (some .boolean), Cond.methodLink RX12 144 yX12_isHour, Cond.static yX12_isHour, Cond.code yX12_isHour cX12_isHour 1 (some .boolean), Cond.constantLong RX12 97 (2399), Cond.methodLink RX12 105 yX12_told, Cond.instanceMethod yX12_told, Cond.selects RX12 yX12_told yX12_told, Cond.code yX12_told cX12_told 2 (some .int), Cond.fieldLink RX12 94 "ColdShipsModel" "status" "I", Cond.methodLink RX12 237 yX12_isLanding, Cond.instanceMethod yX12_isLanding, Cond.selects RX12 yX12_isLanding yX12_isLanding, Cond.code yX12_isLanding cX12_isLanding 2 (some .boolean), Cond.methodLink RX12 118 yX12_addFour, Cond.instanceMethod yX12_addFour]
def wsX12_reading_r2 : List Cond := [Cond.selects RX12 yX12_addFour yX12_addFour, Cond.code yX12_addFour cX12_addFour 6 none]
def wsX12_reading : List Cond := .code yX12_reading cX12_reading 7 (some .int) :: ((wsX12_reading_r1 ++ wsX12_reading_r2) ++ wsX120)
def wsX12_cargo_r1 : List Cond := [Cond.fieldLink RX12 91 "ColdShipsModel" "thrown" "I", Cond.constantLong RX12 124 (200000), Cond.constantLong RX12 122 (1000), Cond.fieldLink RX12 7 "ColdShipsModel" "row" "[I", Cond.methodLink RX12 144 yX12_isHour, Cond.static yX12_isHour, Cond.initialized RX12, Cond.code yX12_isHour cX12_isHour 1 (some .boolean), Cond.constantLong RX12 97 (2399), Cond.methodLink RX12 99 yX12_in, Cond.static yX12_in, Cond.code yX12_in cX12_in 6 (some .boolean), Cond.methodLink RX12 105 yX12_told, Cond.instanceMethod yX12_told, Cond.selects RX12 yX12_told yX12_told, Cond.code yX12_told cX12_told 2 (some .int), Cond.fieldLink RX12 94 "ColdShipsModel" "status" "I", Cond.methodLink RX12 128 yX12_isTerminal, Cond.instanceMethod yX12_isTerminal, Cond.selects RX12 yX12_isTerminal yX12_isTerminal, Cond.code yX12_isTerminal cX12_isTerminal 2 (some .boolean), Cond.methodLink RX12 118 yX12_addFour, Cond.instanceMethod yX12_addFour, Cond.selects RX12 yX12_addFour yX12_addFour]
def wsX12_cargo_r2 : List Cond := [Cond.code yX12_addFour cX12_addFour 6 none]
def wsX12_cargo : List Cond := .code yX12_cargo cX12_cargo 10 (some .int) :: ((wsX12_cargo_r1 ++ wsX12_cargo_r2) ++ wsX120)
def wsX12_clear : List Cond := .code yX12_clear cX12_clear 2 (some .int) :: ([.fieldLink RX12 91 "ColdShipsModel" "thrown" "I", .fieldLink RX12 7 "ColdShipsModel" "row" "[I"] ++ wsX120)
def wsX12_voyage : List Cond := .code yX12_voyage cX12_voyage 3 (some .long) :: ([.fieldLink RX12 91 "ColdShipsModel" "thrown" "I", .fieldLink RX12 538 "ColdShipsModel" "hasBest" "Z", .fieldLink RX12 541 "ColdShipsModel" "bestCargoes" "I", .constantLong RX12 464 (4), .fieldLink RX12 82 "ColdShipsModel" "bestTold" "[J", .constantLong RX12 466 (-2000000000000000), .methodLink RX12 99 yX12_in, .static yX12_in, .initialized RX12, .code yX12_in cX12_in 6 (some .boolean)] ++ wsX120)
def wsX12_count : List Cond := .code yX12_count cX12_count 2 (some .int) :: ([.fieldLink RX12 91 "ColdShipsModel" "thrown" "I", .fieldLink RX12 7 "ColdShipsModel" "row" "[I", .fieldLink RX12 252 "ColdShipsModel" "taped" "I"] ++ wsX120)
def wsX12_status : List Cond := .code yX12_status cX12_status 1 (some .int) :: ([.fieldLink RX12 91 "ColdShipsModel" "thrown" "I", .fieldLink RX12 94 "ColdShipsModel" "status" "I"] ++ wsX120)
set_option maxRecDepth 20000 in
theorem ggX12_of_X12_isShip : GoodIn wsX12_of wsX12_isShip := goodIn_r _ [7, 2, 8, 9, 6, 10, 28, 29, 30, 31, 32, 33, 34, 35, 36, 37, 38, 39, 40, 41, 42, 43, 44, 45, 46, 47, 48, 49, 50, 51, 52, 53, 54, 55, 56, 57, 58, 59, 60, 61, 62, 63, 64, 65, 66, 67, 68, 69, 70, 71, 72, 73, 74, 75, 76, 77, 78, 79, 80] (by decide +kernel) (by decide +kernel)
set_option maxRecDepth 20000 in
theorem gX12_of_X12_isShip : GoodIn wsX12_of (wsV RX12 147 RX12 yX12_isShip wsX12_isShip) := goodIn_app (goodIn_of _ (by decide +kernel)) ggX12_of_X12_isShip
set_option maxRecDepth 20000 in
theorem ggX12_of_X12_shipAt : GoodIn wsX12_of wsX12_shipAt := goodIn_r _ [13] (by decide +kernel) (by decide +kernel)
set_option maxRecDepth 20000 in
theorem gX12_of_X12_shipAt : GoodIn wsX12_of (va_wsS RX12 132 yX12_shipAt wsX12_shipAt) := goodIn_app (goodIn_of _ (by decide +kernel)) ggX12_of_X12_shipAt
set_option maxRecDepth 20000 in
theorem ggX12_of_X12_pressOf : GoodIn wsX12_of wsX12_pressOf := goodIn_r _ [17, 2, 18, 19, 20, 21, 6, 22, 28, 29, 30, 31, 32, 33, 34, 35, 36, 37, 38, 39, 40, 41, 42, 43, 44, 45, 46, 47, 48, 49, 50, 51, 52, 53, 54, 55, 56, 57, 58, 59, 60, 61, 62, 63, 64, 65, 66, 67, 68, 69, 70, 71, 72, 73, 74, 75, 76, 77, 78, 79, 80] (by decide +kernel) (by decide +kernel)
set_option maxRecDepth 20000 in
theorem gX12_of_X12_pressOf : GoodIn wsX12_of (wsV RX12 234 RX12 yX12_pressOf wsX12_pressOf) := goodIn_app (goodIn_of _ (by decide +kernel)) ggX12_of_X12_pressOf
set_option maxRecDepth 20000 in
theorem ggX12_of_X12_draftOf : GoodIn wsX12_of wsX12_draftOf := goodIn_r _ [26, 27, 2, 28, 29, 30, 31, 32, 33, 34, 35, 36, 37, 38, 39, 40, 41, 42, 43, 44, 45, 46, 47, 48, 49, 50, 51, 52, 53, 54, 55, 56, 57, 58, 59, 60, 61, 62, 63, 64, 65, 66, 67, 68, 69, 70, 71, 72, 73, 74, 75, 76, 77, 78, 79, 80] (by decide +kernel) (by decide +kernel)
set_option maxRecDepth 20000 in
theorem gX12_of_X12_draftOf : GoodIn wsX12_of (wsV RX12 225 RX12 yX12_draftOf wsX12_draftOf) := goodIn_app (goodIn_of _ (by decide +kernel)) ggX12_of_X12_draftOf
theorem dX12_of_0 : decode cX12_of 0 = .ok (.aload_n 0, 1) := by decide +kernel
theorem dX12_of_1 : decode cX12_of 1 = .ok (.iconst 0, 1) := by decide +kernel
theorem dX12_of_2 : decode cX12_of 2 = .ok (.putfield 91, 3) := by decide +kernel
theorem dX12_of_5 : decode cX12_of 5 = .ok (.aload_n 0, 1) := by decide +kernel
theorem dX12_of_6 : decode cX12_of 6 = .ok (.iload_n 1, 1) := by decide +kernel
theorem dX12_of_7 : decode cX12_of 7 = .ok (.invokevirtual 147, 3) := by decide +kernel
theorem dX12_of_10 : decode cX12_of 10 = .ok (.ifCond .ne 5, 3) := by decide +kernel
theorem dX12_of_13 : decode cX12_of 13 = .ok (.iconst (-1), 1) := by decide +kernel
theorem dX12_of_14 : decode cX12_of 14 = .ok (.ireturn, 1) := by decide +kernel
theorem dX12_of_15 : decode cX12_of 15 = .ok (.iload_n 1, 1) := by decide +kernel
theorem dX12_of_16 : decode cX12_of 16 = .ok (.invokestatic 132, 3) := by decide +kernel
theorem dX12_of_19 : decode cX12_of 19 = .ok (.istore_n 3, 1) := by decide +kernel
theorem dX12_of_20 : decode cX12_of 20 = .ok (.iload_n 2, 1) := by decide +kernel
theorem dX12_of_21 : decode cX12_of 21 = .ok (.tableswitch 143 0 9 #[55, 64, 73, 82, 91, 101, 107, 117, 127, 133], 55) := by decide +kernel
theorem dX12_of_76 : decode cX12_of 76 = .ok (.aload_n 0, 1) := by decide +kernel
theorem dX12_of_77 : decode cX12_of 77 = .ok (.getfield 7, 3) := by decide +kernel
theorem dX12_of_80 : decode cX12_of 80 = .ok (.iload_n 3, 1) := by decide +kernel
theorem dX12_of_81 : decode cX12_of 81 = .ok (.iconst 0, 1) := by decide +kernel
theorem dX12_of_82 : decode cX12_of 82 = .ok (.iadd, 1) := by decide +kernel
theorem dX12_of_83 : decode cX12_of 83 = .ok (.iaload, 1) := by decide +kernel
theorem dX12_of_84 : decode cX12_of 84 = .ok (.ireturn, 1) := by decide +kernel
theorem dX12_of_85 : decode cX12_of 85 = .ok (.aload_n 0, 1) := by decide +kernel
theorem dX12_of_86 : decode cX12_of 86 = .ok (.getfield 7, 3) := by decide +kernel
theorem dX12_of_89 : decode cX12_of 89 = .ok (.iload_n 3, 1) := by decide +kernel
theorem dX12_of_90 : decode cX12_of 90 = .ok (.iconst 1, 1) := by decide +kernel
theorem dX12_of_91 : decode cX12_of 91 = .ok (.iadd, 1) := by decide +kernel
theorem dX12_of_92 : decode cX12_of 92 = .ok (.iaload, 1) := by decide +kernel
theorem dX12_of_93 : decode cX12_of 93 = .ok (.ireturn, 1) := by decide +kernel
theorem dX12_of_94 : decode cX12_of 94 = .ok (.aload_n 0, 1) := by decide +kernel
theorem dX12_of_95 : decode cX12_of 95 = .ok (.getfield 7, 3) := by decide +kernel
theorem dX12_of_98 : decode cX12_of 98 = .ok (.iload_n 3, 1) := by decide +kernel
theorem dX12_of_99 : decode cX12_of 99 = .ok (.iconst 4, 1) := by decide +kernel
theorem dX12_of_100 : decode cX12_of 100 = .ok (.iadd, 1) := by decide +kernel
theorem dX12_of_101 : decode cX12_of 101 = .ok (.iaload, 1) := by decide +kernel
theorem dX12_of_102 : decode cX12_of 102 = .ok (.ireturn, 1) := by decide +kernel
theorem dX12_of_103 : decode cX12_of 103 = .ok (.aload_n 0, 1) := by decide +kernel
theorem dX12_of_104 : decode cX12_of 104 = .ok (.getfield 7, 3) := by decide +kernel
theorem dX12_of_107 : decode cX12_of 107 = .ok (.iload_n 3, 1) := by decide +kernel
theorem dX12_of_108 : decode cX12_of 108 = .ok (.iconst 5, 1) := by decide +kernel
theorem dX12_of_109 : decode cX12_of 109 = .ok (.iadd, 1) := by decide +kernel
theorem dX12_of_110 : decode cX12_of 110 = .ok (.iaload, 1) := by decide +kernel
theorem dX12_of_111 : decode cX12_of 111 = .ok (.ireturn, 1) := by decide +kernel
theorem dX12_of_112 : decode cX12_of 112 = .ok (.aload_n 0, 1) := by decide +kernel
theorem dX12_of_113 : decode cX12_of 113 = .ok (.getfield 7, 3) := by decide +kernel
theorem dX12_of_116 : decode cX12_of 116 = .ok (.iload_n 3, 1) := by decide +kernel
theorem dX12_of_117 : decode cX12_of 117 = .ok (.bipush 6, 2) := by decide +kernel
theorem dX12_of_119 : decode cX12_of 119 = .ok (.iadd, 1) := by decide +kernel
theorem dX12_of_120 : decode cX12_of 120 = .ok (.iaload, 1) := by decide +kernel
theorem dX12_of_121 : decode cX12_of 121 = .ok (.ireturn, 1) := by decide +kernel
theorem dX12_of_122 : decode cX12_of 122 = .ok (.aload_n 0, 1) := by decide +kernel
theorem dX12_of_123 : decode cX12_of 123 = .ok (.iload_n 3, 1) := by decide +kernel
theorem dX12_of_124 : decode cX12_of 124 = .ok (.invokevirtual 234, 3) := by decide +kernel
theorem dX12_of_127 : decode cX12_of 127 = .ok (.ireturn, 1) := by decide +kernel
theorem dX12_of_128 : decode cX12_of 128 = .ok (.aload_n 0, 1) := by decide +kernel
theorem dX12_of_129 : decode cX12_of 129 = .ok (.getfield 7, 3) := by decide +kernel
theorem dX12_of_132 : decode cX12_of 132 = .ok (.iload_n 3, 1) := by decide +kernel
theorem dX12_of_133 : decode cX12_of 133 = .ok (.bipush 10, 2) := by decide +kernel
theorem dX12_of_135 : decode cX12_of 135 = .ok (.iadd, 1) := by decide +kernel
theorem dX12_of_136 : decode cX12_of 136 = .ok (.iaload, 1) := by decide +kernel
theorem dX12_of_137 : decode cX12_of 137 = .ok (.ireturn, 1) := by decide +kernel
theorem dX12_of_138 : decode cX12_of 138 = .ok (.aload_n 0, 1) := by decide +kernel
theorem dX12_of_139 : decode cX12_of 139 = .ok (.getfield 7, 3) := by decide +kernel
theorem dX12_of_142 : decode cX12_of 142 = .ok (.iload_n 3, 1) := by decide +kernel
theorem dX12_of_143 : decode cX12_of 143 = .ok (.bipush 11, 2) := by decide +kernel
theorem dX12_of_145 : decode cX12_of 145 = .ok (.iadd, 1) := by decide +kernel
theorem dX12_of_146 : decode cX12_of 146 = .ok (.iaload, 1) := by decide +kernel
theorem dX12_of_147 : decode cX12_of 147 = .ok (.ireturn, 1) := by decide +kernel
theorem dX12_of_148 : decode cX12_of 148 = .ok (.aload_n 0, 1) := by decide +kernel
theorem dX12_of_149 : decode cX12_of 149 = .ok (.iload_n 3, 1) := by decide +kernel
theorem dX12_of_150 : decode cX12_of 150 = .ok (.invokevirtual 225, 3) := by decide +kernel
theorem dX12_of_153 : decode cX12_of 153 = .ok (.ireturn, 1) := by decide +kernel
theorem dX12_of_154 : decode cX12_of 154 = .ok (.aload_n 0, 1) := by decide +kernel
theorem dX12_of_155 : decode cX12_of 155 = .ok (.getfield 7, 3) := by decide +kernel
theorem dX12_of_158 : decode cX12_of 158 = .ok (.iload_n 3, 1) := by decide +kernel
theorem dX12_of_159 : decode cX12_of 159 = .ok (.bipush 9, 2) := by decide +kernel
theorem dX12_of_161 : decode cX12_of 161 = .ok (.iadd, 1) := by decide +kernel
theorem dX12_of_162 : decode cX12_of 162 = .ok (.iaload, 1) := by decide +kernel
theorem dX12_of_163 : decode cX12_of 163 = .ok (.ireturn, 1) := by decide +kernel
theorem dX12_of_164 : decode cX12_of 164 = .ok (.iconst (-1), 1) := by decide +kernel
theorem dX12_of_165 : decode cX12_of 165 = .ok (.ireturn, 1) := by decide +kernel
set_option maxRecDepth 20000 in
theorem ggX12_part_X12_isShip : GoodIn wsX12_part wsX12_isShip := goodIn_r _ [7, 2, 8, 9, 6, 10, 18, 19, 20, 21, 22, 23, 24, 25, 26, 27, 28, 29, 30, 31, 32, 33, 34, 35, 36, 37, 38, 39, 40, 41, 42, 43, 44, 45, 46, 47, 48, 49, 50, 51, 52, 53, 54, 55, 56, 57, 58, 59, 60, 61, 62, 63, 64, 65, 66, 67, 68, 69, 70] (by decide +kernel) (by decide +kernel)
set_option maxRecDepth 20000 in
theorem gX12_part_X12_isShip : GoodIn wsX12_part (wsV RX12 147 RX12 yX12_isShip wsX12_isShip) := goodIn_app (goodIn_of _ (by decide +kernel)) ggX12_part_X12_isShip
set_option maxRecDepth 20000 in
theorem ggX12_part_X12_isTerminal : GoodIn wsX12_part wsX12_isTerminal := goodIn_r _ [14, 2, 8, 9, 6, 10, 18, 19, 20, 21, 22, 23, 24, 25, 26, 27, 28, 29, 30, 31, 32, 33, 34, 35, 36, 37, 38, 39, 40, 41, 42, 43, 44, 45, 46, 47, 48, 49, 50, 51, 52, 53, 54, 55, 56, 57, 58, 59, 60, 61, 62, 63, 64, 65, 66, 67, 68, 69, 70] (by decide +kernel) (by decide +kernel)
set_option maxRecDepth 20000 in
theorem gX12_part_X12_isTerminal : GoodIn wsX12_part (wsV RX12 128 RX12 yX12_isTerminal wsX12_isTerminal) := goodIn_app (goodIn_of _ (by decide +kernel)) ggX12_part_X12_isTerminal
set_option maxRecDepth 20000 in
theorem ggX12_part_X12_shipAt : GoodIn wsX12_part wsX12_shipAt := goodIn_r _ [17] (by decide +kernel) (by decide +kernel)
set_option maxRecDepth 20000 in
theorem gX12_part_X12_shipAt : GoodIn wsX12_part (va_wsS RX12 132 yX12_shipAt wsX12_shipAt) := goodIn_app (goodIn_of _ (by decide +kernel)) ggX12_part_X12_shipAt
theorem dX12_part_0 : decode cX12_part 0 = .ok (.aload_n 0, 1) := by decide +kernel
theorem dX12_part_1 : decode cX12_part 1 = .ok (.iconst 0, 1) := by decide +kernel
theorem dX12_part_2 : decode cX12_part 2 = .ok (.putfield 91, 3) := by decide +kernel
theorem dX12_part_5 : decode cX12_part 5 = .ok (.aload_n 0, 1) := by decide +kernel
theorem dX12_part_6 : decode cX12_part 6 = .ok (.iload_n 1, 1) := by decide +kernel
theorem dX12_part_7 : decode cX12_part 7 = .ok (.invokevirtual 147, 3) := by decide +kernel
theorem dX12_part_10 : decode cX12_part 10 = .ok (.ifCond .eq 28, 3) := by decide +kernel
theorem dX12_part_13 : decode cX12_part 13 = .ok (.aload_n 0, 1) := by decide +kernel
theorem dX12_part_14 : decode cX12_part 14 = .ok (.iload_n 2, 1) := by decide +kernel
theorem dX12_part_15 : decode cX12_part 15 = .ok (.invokevirtual 128, 3) := by decide +kernel
theorem dX12_part_18 : decode cX12_part 18 = .ok (.ifCond .eq 20, 3) := by decide +kernel
theorem dX12_part_21 : decode cX12_part 21 = .ok (.aload_n 0, 1) := by decide +kernel
theorem dX12_part_22 : decode cX12_part 22 = .ok (.getfield 7, 3) := by decide +kernel
theorem dX12_part_25 : decode cX12_part 25 = .ok (.iload_n 1, 1) := by decide +kernel
theorem dX12_part_26 : decode cX12_part 26 = .ok (.invokestatic 132, 3) := by decide +kernel
theorem dX12_part_29 : decode cX12_part 29 = .ok (.bipush 16, 2) := by decide +kernel
theorem dX12_part_31 : decode cX12_part 31 = .ok (.iadd, 1) := by decide +kernel
theorem dX12_part_32 : decode cX12_part 32 = .ok (.iload_n 2, 1) := by decide +kernel
theorem dX12_part_33 : decode cX12_part 33 = .ok (.iadd, 1) := by decide +kernel
theorem dX12_part_34 : decode cX12_part 34 = .ok (.iaload, 1) := by decide +kernel
theorem dX12_part_35 : decode cX12_part 35 = .ok (.goto 4, 3) := by decide +kernel
theorem dX12_part_38 : decode cX12_part 38 = .ok (.iconst (-1), 1) := by decide +kernel
theorem dX12_part_39 : decode cX12_part 39 = .ok (.ireturn, 1) := by decide +kernel
set_option maxRecDepth 20000 in
theorem ggX12_book_X12_isShip : GoodIn wsX12_book wsX12_isShip := goodIn_r _ [9, 3, 10, 11, 8, 12, 16, 17, 18, 19, 20, 21, 22, 23, 24, 25, 26, 27, 28, 29, 30, 31, 32, 33, 34, 35, 36, 37, 38, 39, 40, 41, 42, 43, 44, 45, 46, 47, 48, 49, 50, 51, 52, 53, 54, 55, 56, 57, 58, 59, 60, 61, 62, 63, 64, 65, 66, 67, 68] (by decide +kernel) (by decide +kernel)
set_option maxRecDepth 20000 in
theorem gX12_book_X12_isShip : GoodIn wsX12_book (wsV RX12 147 RX12 yX12_isShip wsX12_isShip) := goodIn_app (goodIn_of _ (by decide +kernel)) ggX12_book_X12_isShip
set_option maxRecDepth 20000 in
theorem ggX12_book_X12_in : GoodIn wsX12_book wsX12_in := goodIn_r _ [12] (by decide +kernel) (by decide +kernel)
set_option maxRecDepth 20000 in
theorem gX12_book_X12_in : GoodIn wsX12_book (va_wsS RX12 99 yX12_in wsX12_in) := goodIn_app (goodIn_of _ (by decide +kernel)) ggX12_book_X12_in
set_option maxRecDepth 20000 in
theorem ggX12_book_X12_shipAt : GoodIn wsX12_book wsX12_shipAt := goodIn_r _ [15] (by decide +kernel) (by decide +kernel)
set_option maxRecDepth 20000 in
theorem gX12_book_X12_shipAt : GoodIn wsX12_book (va_wsS RX12 132 yX12_shipAt wsX12_shipAt) := goodIn_app (goodIn_of _ (by decide +kernel)) ggX12_book_X12_shipAt
theorem dX12_book_0 : decode cX12_book 0 = .ok (.aload_n 0, 1) := by decide +kernel
theorem dX12_book_1 : decode cX12_book 1 = .ok (.iconst 0, 1) := by decide +kernel
theorem dX12_book_2 : decode cX12_book 2 = .ok (.putfield 91, 3) := by decide +kernel
theorem dX12_book_5 : decode cX12_book 5 = .ok (.aload_n 0, 1) := by decide +kernel
theorem dX12_book_6 : decode cX12_book 6 = .ok (.iload_n 1, 1) := by decide +kernel
theorem dX12_book_7 : decode cX12_book 7 = .ok (.invokevirtual 147, 3) := by decide +kernel
theorem dX12_book_10 : decode cX12_book 10 = .ok (.ifCond .eq 33, 3) := by decide +kernel
theorem dX12_book_13 : decode cX12_book 13 = .ok (.iload_n 2, 1) := by decide +kernel
theorem dX12_book_14 : decode cX12_book 14 = .ok (.i2l, 1) := by decide +kernel
theorem dX12_book_15 : decode cX12_book 15 = .ok (.lconst 0, 1) := by decide +kernel
theorem dX12_book_16 : decode cX12_book 16 = .ok (.ldc2_w 152, 3) := by decide +kernel
theorem dX12_book_19 : decode cX12_book 19 = .ok (.invokestatic 99, 3) := by decide +kernel
theorem dX12_book_22 : decode cX12_book 22 = .ok (.ifCond .eq 21, 3) := by decide +kernel
theorem dX12_book_25 : decode cX12_book 25 = .ok (.aload_n 0, 1) := by decide +kernel
theorem dX12_book_26 : decode cX12_book 26 = .ok (.getfield 7, 3) := by decide +kernel
theorem dX12_book_29 : decode cX12_book 29 = .ok (.iload_n 1, 1) := by decide +kernel
theorem dX12_book_30 : decode cX12_book 30 = .ok (.invokestatic 132, 3) := by decide +kernel
theorem dX12_book_33 : decode cX12_book 33 = .ok (.bipush 12, 2) := by decide +kernel
theorem dX12_book_35 : decode cX12_book 35 = .ok (.iadd, 1) := by decide +kernel
theorem dX12_book_36 : decode cX12_book 36 = .ok (.iload_n 2, 1) := by decide +kernel
theorem dX12_book_37 : decode cX12_book 37 = .ok (.iadd, 1) := by decide +kernel
theorem dX12_book_38 : decode cX12_book 38 = .ok (.iaload, 1) := by decide +kernel
theorem dX12_book_39 : decode cX12_book 39 = .ok (.i2l, 1) := by decide +kernel
theorem dX12_book_40 : decode cX12_book 40 = .ok (.goto 6, 3) := by decide +kernel
theorem dX12_book_43 : decode cX12_book 43 = .ok (.ldc2_w 158, 3) := by decide +kernel
theorem dX12_book_46 : decode cX12_book 46 = .ok (.lreturn, 1) := by decide +kernel
set_option maxRecDepth 20000 in
theorem ggX12_store_X12_isTerminal : GoodIn wsX12_store wsX12_isTerminal := goodIn_r _ [7, 2, 8, 9, 6, 10, 14, 15, 16, 17, 18, 19, 20, 21, 22, 23, 24, 25, 26, 27, 28, 29, 30, 31, 32, 33, 34, 35, 36, 37, 38, 39, 40, 41, 42, 43, 44, 45, 46, 47, 48, 49, 50, 51, 52, 53, 54, 55, 56, 57, 58, 59, 60, 61, 62, 63, 64, 65, 66] (by decide +kernel) (by decide +kernel)
set_option maxRecDepth 20000 in
theorem gX12_store_X12_isTerminal : GoodIn wsX12_store (wsV RX12 128 RX12 yX12_isTerminal wsX12_isTerminal) := goodIn_app (goodIn_of _ (by decide +kernel)) ggX12_store_X12_isTerminal
set_option maxRecDepth 20000 in
theorem ggX12_store_X12_terminalAt : GoodIn wsX12_store wsX12_terminalAt := goodIn_r _ [13] (by decide +kernel) (by decide +kernel)
set_option maxRecDepth 20000 in
theorem gX12_store_X12_terminalAt : GoodIn wsX12_store (va_wsS RX12 115 yX12_terminalAt wsX12_terminalAt) := goodIn_app (goodIn_of _ (by decide +kernel)) ggX12_store_X12_terminalAt
theorem dX12_store_0 : decode cX12_store 0 = .ok (.aload_n 0, 1) := by decide +kernel
theorem dX12_store_1 : decode cX12_store 1 = .ok (.iconst 0, 1) := by decide +kernel
theorem dX12_store_2 : decode cX12_store 2 = .ok (.putfield 91, 3) := by decide +kernel
theorem dX12_store_5 : decode cX12_store 5 = .ok (.aload_n 0, 1) := by decide +kernel
theorem dX12_store_6 : decode cX12_store 6 = .ok (.iload_n 1, 1) := by decide +kernel
theorem dX12_store_7 : decode cX12_store 7 = .ok (.invokevirtual 128, 3) := by decide +kernel
theorem dX12_store_10 : decode cX12_store 10 = .ok (.ifCond .eq 15, 3) := by decide +kernel
theorem dX12_store_13 : decode cX12_store 13 = .ok (.aload_n 0, 1) := by decide +kernel
theorem dX12_store_14 : decode cX12_store 14 = .ok (.getfield 7, 3) := by decide +kernel
theorem dX12_store_17 : decode cX12_store 17 = .ok (.iload_n 1, 1) := by decide +kernel
theorem dX12_store_18 : decode cX12_store 18 = .ok (.invokestatic 115, 3) := by decide +kernel
theorem dX12_store_21 : decode cX12_store 21 = .ok (.iaload, 1) := by decide +kernel
theorem dX12_store_22 : decode cX12_store 22 = .ok (.goto 4, 3) := by decide +kernel
theorem dX12_store_25 : decode cX12_store 25 = .ok (.iconst (-1), 1) := by decide +kernel
theorem dX12_store_26 : decode cX12_store 26 = .ok (.ireturn, 1) := by decide +kernel
set_option maxRecDepth 20000 in
theorem ggX12_heatOf_X12_terminalAt : GoodIn wsX12_heatOf wsX12_terminalAt := goodIn_r _ [5] (by decide +kernel) (by decide +kernel)
set_option maxRecDepth 20000 in
theorem gX12_heatOf_X12_terminalAt : GoodIn wsX12_heatOf (va_wsS RX12 115 yX12_terminalAt wsX12_terminalAt) := goodIn_app (goodIn_of _ (by decide +kernel)) ggX12_heatOf_X12_terminalAt
theorem dX12_heatOf_0 : decode cX12_heatOf 0 = .ok (.lconst 0, 1) := by decide +kernel
theorem dX12_heatOf_1 : decode cX12_heatOf 1 = .ok (.lstore_n 2, 1) := by decide +kernel
theorem dX12_heatOf_2 : decode cX12_heatOf 2 = .ok (.iconst 0, 1) := by decide +kernel
theorem dX12_heatOf_3 : decode cX12_heatOf 3 = .ok (.istore 4, 2) := by decide +kernel
theorem dX12_heatOf_5 : decode cX12_heatOf 5 = .ok (.iload 4, 2) := by decide +kernel
theorem dX12_heatOf_7 : decode cX12_heatOf 7 = .ok (.aload_n 0, 1) := by decide +kernel
theorem dX12_heatOf_8 : decode cX12_heatOf 8 = .ok (.getfield 7, 3) := by decide +kernel
theorem dX12_heatOf_11 : decode cX12_heatOf 11 = .ok (.iconst 0, 1) := by decide +kernel
theorem dX12_heatOf_12 : decode cX12_heatOf 12 = .ok (.iaload, 1) := by decide +kernel
theorem dX12_heatOf_13 : decode cX12_heatOf 13 = .ok (.if_icmp .ge 38, 3) := by decide +kernel
theorem dX12_heatOf_16 : decode cX12_heatOf 16 = .ok (.lload_n 2, 1) := by decide +kernel
theorem dX12_heatOf_17 : decode cX12_heatOf 17 = .ok (.aload_n 0, 1) := by decide +kernel
theorem dX12_heatOf_18 : decode cX12_heatOf 18 = .ok (.getfield 7, 3) := by decide +kernel
theorem dX12_heatOf_21 : decode cX12_heatOf 21 = .ok (.iload_n 1, 1) := by decide +kernel
theorem dX12_heatOf_22 : decode cX12_heatOf 22 = .ok (.iconst 5, 1) := by decide +kernel
theorem dX12_heatOf_23 : decode cX12_heatOf 23 = .ok (.iadd, 1) := by decide +kernel
theorem dX12_heatOf_24 : decode cX12_heatOf 24 = .ok (.iload 4, 2) := by decide +kernel
theorem dX12_heatOf_26 : decode cX12_heatOf 26 = .ok (.iadd, 1) := by decide +kernel
theorem dX12_heatOf_27 : decode cX12_heatOf 27 = .ok (.iaload, 1) := by decide +kernel
theorem dX12_heatOf_28 : decode cX12_heatOf 28 = .ok (.i2l, 1) := by decide +kernel
theorem dX12_heatOf_29 : decode cX12_heatOf 29 = .ok (.aload_n 0, 1) := by decide +kernel
theorem dX12_heatOf_30 : decode cX12_heatOf 30 = .ok (.getfield 7, 3) := by decide +kernel
theorem dX12_heatOf_33 : decode cX12_heatOf 33 = .ok (.iload 4, 2) := by decide +kernel
theorem dX12_heatOf_35 : decode cX12_heatOf 35 = .ok (.invokestatic 115, 3) := by decide +kernel
theorem dX12_heatOf_38 : decode cX12_heatOf 38 = .ok (.iconst 4, 1) := by decide +kernel
theorem dX12_heatOf_39 : decode cX12_heatOf 39 = .ok (.iadd, 1) := by decide +kernel
theorem dX12_heatOf_40 : decode cX12_heatOf 40 = .ok (.iaload, 1) := by decide +kernel
theorem dX12_heatOf_41 : decode cX12_heatOf 41 = .ok (.i2l, 1) := by decide +kernel
theorem dX12_heatOf_42 : decode cX12_heatOf 42 = .ok (.lmul, 1) := by decide +kernel
theorem dX12_heatOf_43 : decode cX12_heatOf 43 = .ok (.ladd, 1) := by decide +kernel
theorem dX12_heatOf_44 : decode cX12_heatOf 44 = .ok (.lstore_n 2, 1) := by decide +kernel
theorem dX12_heatOf_45 : decode cX12_heatOf 45 = .ok (.iinc 4 1, 3) := by decide +kernel
theorem dX12_heatOf_48 : decode cX12_heatOf 48 = .ok (.goto (-43), 3) := by decide +kernel
theorem dX12_heatOf_51 : decode cX12_heatOf 51 = .ok (.lload_n 2, 1) := by decide +kernel
theorem dX12_heatOf_52 : decode cX12_heatOf 52 = .ok (.aload_n 0, 1) := by decide +kernel
theorem dX12_heatOf_53 : decode cX12_heatOf 53 = .ok (.getfield 7, 3) := by decide +kernel
theorem dX12_heatOf_56 : decode cX12_heatOf 56 = .ok (.iload_n 1, 1) := by decide +kernel
theorem dX12_heatOf_57 : decode cX12_heatOf 57 = .ok (.iconst 4, 1) := by decide +kernel
theorem dX12_heatOf_58 : decode cX12_heatOf 58 = .ok (.iadd, 1) := by decide +kernel
theorem dX12_heatOf_59 : decode cX12_heatOf 59 = .ok (.iaload, 1) := by decide +kernel
theorem dX12_heatOf_60 : decode cX12_heatOf 60 = .ok (.i2l, 1) := by decide +kernel
theorem dX12_heatOf_61 : decode cX12_heatOf 61 = .ok (.ldiv, 1) := by decide +kernel
theorem dX12_heatOf_62 : decode cX12_heatOf 62 = .ok (.l2i, 1) := by decide +kernel
theorem dX12_heatOf_63 : decode cX12_heatOf 63 = .ok (.ireturn, 1) := by decide +kernel
set_option maxRecDepth 20000 in
theorem ggX12_landing_X12_isLanding : GoodIn wsX12_landing wsX12_isLanding := goodIn_r _ [8, 3, 9, 10, 7, 11, 22, 23, 24, 25, 26, 27, 28, 29, 30, 31, 32, 33, 34, 35, 36, 37, 38, 39, 40, 41, 42, 43, 44, 45, 46, 47, 48, 49, 50, 51, 52, 53, 54, 55, 56, 57, 58, 59, 60, 61, 62, 63, 64, 65, 66, 67, 68, 69, 70, 71, 72, 73, 74] (by decide +kernel) (by decide +kernel)
set_option maxRecDepth 20000 in
theorem gX12_landing_X12_isLanding : GoodIn wsX12_landing (wsV RX12 237 RX12 yX12_isLanding wsX12_isLanding) := goodIn_app (goodIn_of _ (by decide +kernel)) ggX12_landing_X12_isLanding
set_option maxRecDepth 20000 in
theorem ggX12_landing_X12_in : GoodIn wsX12_landing wsX12_in := goodIn_r _ [11] (by decide +kernel) (by decide +kernel)
set_option maxRecDepth 20000 in
theorem gX12_landing_X12_in : GoodIn wsX12_landing (va_wsS RX12 99 yX12_in wsX12_in) := goodIn_app (goodIn_of _ (by decide +kernel)) ggX12_landing_X12_in
set_option maxRecDepth 20000 in
theorem ggX12_landing_X12_landingAt : GoodIn wsX12_landing wsX12_landingAt := goodIn_r _ [14] (by decide +kernel) (by decide +kernel)
set_option maxRecDepth 20000 in
theorem gX12_landing_X12_landingAt : GoodIn wsX12_landing (va_wsS RX12 242 yX12_landingAt wsX12_landingAt) := goodIn_app (goodIn_of _ (by decide +kernel)) ggX12_landing_X12_landingAt
set_option maxRecDepth 20000 in
theorem ggX12_landing_X12_heatOf : GoodIn wsX12_landing wsX12_heatOf := goodIn_r _ [18, 3, 19, 20, 7, 21, 22, 23, 24, 25, 26, 27, 28, 29, 30, 31, 32, 33, 34, 35, 36, 37, 38, 39, 40, 41, 42, 43, 44, 45, 46, 47, 48, 49, 50, 51, 52, 53, 54, 55, 56, 57, 58, 59, 60, 61, 62, 63, 64, 65, 66, 67, 68, 69, 70, 71, 72, 73, 74] (by decide +kernel) (by decide +kernel)
set_option maxRecDepth 20000 in
theorem gX12_landing_X12_heatOf : GoodIn wsX12_landing (wsV RX12 245 RX12 yX12_heatOf wsX12_heatOf) := goodIn_app (goodIn_of _ (by decide +kernel)) ggX12_landing_X12_heatOf
theorem dX12_landing_0 : decode cX12_landing 0 = .ok (.aload_n 0, 1) := by decide +kernel
theorem dX12_landing_1 : decode cX12_landing 1 = .ok (.iconst 0, 1) := by decide +kernel
theorem dX12_landing_2 : decode cX12_landing 2 = .ok (.putfield 91, 3) := by decide +kernel
theorem dX12_landing_5 : decode cX12_landing 5 = .ok (.aload_n 0, 1) := by decide +kernel
theorem dX12_landing_6 : decode cX12_landing 6 = .ok (.iload_n 1, 1) := by decide +kernel
theorem dX12_landing_7 : decode cX12_landing 7 = .ok (.invokevirtual 237, 3) := by decide +kernel
theorem dX12_landing_10 : decode cX12_landing 10 = .ok (.ifCond .eq 15, 3) := by decide +kernel
theorem dX12_landing_13 : decode cX12_landing 13 = .ok (.iload_n 2, 1) := by decide +kernel
theorem dX12_landing_14 : decode cX12_landing 14 = .ok (.i2l, 1) := by decide +kernel
theorem dX12_landing_15 : decode cX12_landing 15 = .ok (.lconst 0, 1) := by decide +kernel
theorem dX12_landing_16 : decode cX12_landing 16 = .ok (.ldc2_w 240, 3) := by decide +kernel
theorem dX12_landing_19 : decode cX12_landing 19 = .ok (.invokestatic 99, 3) := by decide +kernel
theorem dX12_landing_22 : decode cX12_landing 22 = .ok (.ifCond .ne 5, 3) := by decide +kernel
theorem dX12_landing_25 : decode cX12_landing 25 = .ok (.iconst (-1), 1) := by decide +kernel
theorem dX12_landing_26 : decode cX12_landing 26 = .ok (.ireturn, 1) := by decide +kernel
theorem dX12_landing_27 : decode cX12_landing 27 = .ok (.iload_n 1, 1) := by decide +kernel
theorem dX12_landing_28 : decode cX12_landing 28 = .ok (.invokestatic 242, 3) := by decide +kernel
theorem dX12_landing_31 : decode cX12_landing 31 = .ok (.istore_n 3, 1) := by decide +kernel
theorem dX12_landing_32 : decode cX12_landing 32 = .ok (.iload_n 2, 1) := by decide +kernel
theorem dX12_landing_33 : decode cX12_landing 33 = .ok (.iconst 5, 1) := by decide +kernel
theorem dX12_landing_34 : decode cX12_landing 34 = .ok (.if_icmp .ge 14, 3) := by decide +kernel
theorem dX12_landing_37 : decode cX12_landing 37 = .ok (.aload_n 0, 1) := by decide +kernel
theorem dX12_landing_38 : decode cX12_landing 38 = .ok (.getfield 7, 3) := by decide +kernel
theorem dX12_landing_41 : decode cX12_landing 41 = .ok (.iload_n 3, 1) := by decide +kernel
theorem dX12_landing_42 : decode cX12_landing 42 = .ok (.iload_n 2, 1) := by decide +kernel
theorem dX12_landing_43 : decode cX12_landing 43 = .ok (.iadd, 1) := by decide +kernel
theorem dX12_landing_44 : decode cX12_landing 44 = .ok (.iaload, 1) := by decide +kernel
theorem dX12_landing_45 : decode cX12_landing 45 = .ok (.goto 34, 3) := by decide +kernel
theorem dX12_landing_48 : decode cX12_landing 48 = .ok (.iload_n 2, 1) := by decide +kernel
theorem dX12_landing_49 : decode cX12_landing 49 = .ok (.iconst 5, 1) := by decide +kernel
theorem dX12_landing_50 : decode cX12_landing 50 = .ok (.if_icmp .ne 11, 3) := by decide +kernel
theorem dX12_landing_53 : decode cX12_landing 53 = .ok (.aload_n 0, 1) := by decide +kernel
theorem dX12_landing_54 : decode cX12_landing 54 = .ok (.iload_n 3, 1) := by decide +kernel
theorem dX12_landing_55 : decode cX12_landing 55 = .ok (.invokevirtual 245, 3) := by decide +kernel
theorem dX12_landing_58 : decode cX12_landing 58 = .ok (.goto 21, 3) := by decide +kernel
theorem dX12_landing_61 : decode cX12_landing 61 = .ok (.aload_n 0, 1) := by decide +kernel
theorem dX12_landing_62 : decode cX12_landing 62 = .ok (.getfield 7, 3) := by decide +kernel
theorem dX12_landing_65 : decode cX12_landing 65 = .ok (.iload_n 3, 1) := by decide +kernel
theorem dX12_landing_66 : decode cX12_landing 66 = .ok (.bipush 12, 2) := by decide +kernel
theorem dX12_landing_68 : decode cX12_landing 68 = .ok (.iadd, 1) := by decide +kernel
theorem dX12_landing_69 : decode cX12_landing 69 = .ok (.iaload, 1) := by decide +kernel
theorem dX12_landing_70 : decode cX12_landing 70 = .ok (.iconst (-1), 1) := by decide +kernel
theorem dX12_landing_71 : decode cX12_landing 71 = .ok (.if_icmp .ne 7, 3) := by decide +kernel
theorem dX12_landing_74 : decode cX12_landing 74 = .ok (.iconst 0, 1) := by decide +kernel
theorem dX12_landing_75 : decode cX12_landing 75 = .ok (.goto 4, 3) := by decide +kernel
theorem dX12_landing_78 : decode cX12_landing 78 = .ok (.iconst 1, 1) := by decide +kernel
theorem dX12_landing_79 : decode cX12_landing 79 = .ok (.ireturn, 1) := by decide +kernel
set_option maxRecDepth 20000 in
theorem ggX12_led_X12_isLanding : GoodIn wsX12_led wsX12_isLanding := goodIn_r _ [7, 2, 8, 9, 6, 10, 18, 19, 20, 21, 22, 23, 24, 25, 26, 27, 28, 29, 30, 31, 32, 33, 34, 35, 36, 37, 38, 39, 40, 41, 42, 43, 44, 45, 46, 47, 48, 49, 50, 51, 52, 53, 54, 55, 56, 57, 58, 59, 60, 61, 62, 63, 64, 65, 66, 67, 68, 69, 70] (by decide +kernel) (by decide +kernel)
set_option maxRecDepth 20000 in
theorem gX12_led_X12_isLanding : GoodIn wsX12_led (wsV RX12 237 RX12 yX12_isLanding wsX12_isLanding) := goodIn_app (goodIn_of _ (by decide +kernel)) ggX12_led_X12_isLanding
set_option maxRecDepth 20000 in
theorem ggX12_led_X12_isTerminal : GoodIn wsX12_led wsX12_isTerminal := goodIn_r _ [14, 2, 8, 9, 6, 10, 18, 19, 20, 21, 22, 23, 24, 25, 26, 27, 28, 29, 30, 31, 32, 33, 34, 35, 36, 37, 38, 39, 40, 41, 42, 43, 44, 45, 46, 47, 48, 49, 50, 51, 52, 53, 54, 55, 56, 57, 58, 59, 60, 61, 62, 63, 64, 65, 66, 67, 68, 69, 70] (by decide +kernel) (by decide +kernel)
set_option maxRecDepth 20000 in
theorem gX12_led_X12_isTerminal : GoodIn wsX12_led (wsV RX12 128 RX12 yX12_isTerminal wsX12_isTerminal) := goodIn_app (goodIn_of _ (by decide +kernel)) ggX12_led_X12_isTerminal
set_option maxRecDepth 20000 in
theorem ggX12_led_X12_landingAt : GoodIn wsX12_led wsX12_landingAt := goodIn_r _ [17] (by decide +kernel) (by decide +kernel)
set_option maxRecDepth 20000 in
theorem gX12_led_X12_landingAt : GoodIn wsX12_led (va_wsS RX12 242 yX12_landingAt wsX12_landingAt) := goodIn_app (goodIn_of _ (by decide +kernel)) ggX12_led_X12_landingAt
theorem dX12_led_0 : decode cX12_led 0 = .ok (.aload_n 0, 1) := by decide +kernel
theorem dX12_led_1 : decode cX12_led 1 = .ok (.iconst 0, 1) := by decide +kernel
theorem dX12_led_2 : decode cX12_led 2 = .ok (.putfield 91, 3) := by decide +kernel
theorem dX12_led_5 : decode cX12_led 5 = .ok (.aload_n 0, 1) := by decide +kernel
theorem dX12_led_6 : decode cX12_led 6 = .ok (.iload_n 1, 1) := by decide +kernel
theorem dX12_led_7 : decode cX12_led 7 = .ok (.invokevirtual 237, 3) := by decide +kernel
theorem dX12_led_10 : decode cX12_led 10 = .ok (.ifCond .eq 27, 3) := by decide +kernel
theorem dX12_led_13 : decode cX12_led 13 = .ok (.aload_n 0, 1) := by decide +kernel
theorem dX12_led_14 : decode cX12_led 14 = .ok (.iload_n 2, 1) := by decide +kernel
theorem dX12_led_15 : decode cX12_led 15 = .ok (.invokevirtual 128, 3) := by decide +kernel
theorem dX12_led_18 : decode cX12_led 18 = .ok (.ifCond .eq 19, 3) := by decide +kernel
theorem dX12_led_21 : decode cX12_led 21 = .ok (.aload_n 0, 1) := by decide +kernel
theorem dX12_led_22 : decode cX12_led 22 = .ok (.getfield 7, 3) := by decide +kernel
theorem dX12_led_25 : decode cX12_led 25 = .ok (.iload_n 1, 1) := by decide +kernel
theorem dX12_led_26 : decode cX12_led 26 = .ok (.invokestatic 242, 3) := by decide +kernel
theorem dX12_led_29 : decode cX12_led 29 = .ok (.iconst 5, 1) := by decide +kernel
theorem dX12_led_30 : decode cX12_led 30 = .ok (.iadd, 1) := by decide +kernel
theorem dX12_led_31 : decode cX12_led 31 = .ok (.iload_n 2, 1) := by decide +kernel
theorem dX12_led_32 : decode cX12_led 32 = .ok (.iadd, 1) := by decide +kernel
theorem dX12_led_33 : decode cX12_led 33 = .ok (.iaload, 1) := by decide +kernel
theorem dX12_led_34 : decode cX12_led 34 = .ok (.goto 4, 3) := by decide +kernel
theorem dX12_led_37 : decode cX12_led 37 = .ok (.iconst (-1), 1) := by decide +kernel
theorem dX12_led_38 : decode cX12_led 38 = .ok (.ireturn, 1) := by decide +kernel
set_option maxRecDepth 20000 in
theorem ggX12_heat_X12_in : GoodIn wsX12_heat wsX12_in := goodIn_r _ [8] (by decide +kernel) (by decide +kernel)
set_option maxRecDepth 20000 in
theorem gX12_heat_X12_in : GoodIn wsX12_heat (va_wsS RX12 99 yX12_in wsX12_in) := goodIn_app (goodIn_of _ (by decide +kernel)) ggX12_heat_X12_in
set_option maxRecDepth 20000 in
theorem ggX12_heat_X12_told : GoodIn wsX12_heat wsX12_told := goodIn_r _ [12, 13, 21, 22, 23, 24, 25, 26, 27, 28, 29, 30, 31, 32, 33, 34, 35, 36, 37, 38, 39, 40, 41, 42, 43, 44, 45, 46, 47, 48, 49, 50, 51, 52, 53, 54, 55, 56, 57, 58, 59, 60, 61, 62, 63, 64, 65, 66, 67, 68, 69, 70, 71, 72, 73] (by decide +kernel) (by decide +kernel)
set_option maxRecDepth 20000 in
theorem gX12_heat_X12_told : GoodIn wsX12_heat (wsV RX12 105 RX12 yX12_told wsX12_told) := goodIn_app (goodIn_of _ (by decide +kernel)) ggX12_heat_X12_told
set_option maxRecDepth 20000 in
theorem ggX12_heat_X12_isTerminal : GoodIn wsX12_heat wsX12_isTerminal := goodIn_r _ [17, 4, 5, 6, 7, 8, 21, 22, 23, 24, 25, 26, 27, 28, 29, 30, 31, 32, 33, 34, 35, 36, 37, 38, 39, 40, 41, 42, 43, 44, 45, 46, 47, 48, 49, 50, 51, 52, 53, 54, 55, 56, 57, 58, 59, 60, 61, 62, 63, 64, 65, 66, 67, 68, 69, 70, 71, 72, 73] (by decide +kernel) (by decide +kernel)
set_option maxRecDepth 20000 in
theorem gX12_heat_X12_isTerminal : GoodIn wsX12_heat (wsV RX12 128 RX12 yX12_isTerminal wsX12_isTerminal) := goodIn_app (goodIn_of _ (by decide +kernel)) ggX12_heat_X12_isTerminal
set_option maxRecDepth 20000 in
theorem ggX12_heat_X12_terminalAt : GoodIn wsX12_heat wsX12_terminalAt := goodIn_r _ [20] (by decide +kernel) (by decide +kernel)
set_option maxRecDepth 20000 in
theorem gX12_heat_X12_terminalAt : GoodIn wsX12_heat (va_wsS RX12 115 yX12_terminalAt wsX12_terminalAt) := goodIn_app (goodIn_of _ (by decide +kernel)) ggX12_heat_X12_terminalAt
theorem dX12_heat_0 : decode cX12_heat 0 = .ok (.aload_n 0, 1) := by decide +kernel
theorem dX12_heat_1 : decode cX12_heat 1 = .ok (.iconst 0, 1) := by decide +kernel
theorem dX12_heat_2 : decode cX12_heat 2 = .ok (.putfield 91, 3) := by decide +kernel
theorem dX12_heat_5 : decode cX12_heat 5 = .ok (.iload_n 2, 1) := by decide +kernel
theorem dX12_heat_6 : decode cX12_heat 6 = .ok (.i2l, 1) := by decide +kernel
theorem dX12_heat_7 : decode cX12_heat 7 = .ok (.ldc2_w 248, 3) := by decide +kernel
theorem dX12_heat_10 : decode cX12_heat 10 = .ok (.ldc2_w 250, 3) := by decide +kernel
theorem dX12_heat_13 : decode cX12_heat 13 = .ok (.invokestatic 99, 3) := by decide +kernel
theorem dX12_heat_16 : decode cX12_heat 16 = .ok (.ifCond .ne 9, 3) := by decide +kernel
theorem dX12_heat_19 : decode cX12_heat 19 = .ok (.aload_n 0, 1) := by decide +kernel
theorem dX12_heat_20 : decode cX12_heat 20 = .ok (.iconst (-1), 1) := by decide +kernel
theorem dX12_heat_21 : decode cX12_heat 21 = .ok (.invokevirtual 105, 3) := by decide +kernel
theorem dX12_heat_24 : decode cX12_heat 24 = .ok (.ireturn, 1) := by decide +kernel
theorem dX12_heat_25 : decode cX12_heat 25 = .ok (.aload_n 0, 1) := by decide +kernel
theorem dX12_heat_26 : decode cX12_heat 26 = .ok (.iload_n 1, 1) := by decide +kernel
theorem dX12_heat_27 : decode cX12_heat 27 = .ok (.invokevirtual 128, 3) := by decide +kernel
theorem dX12_heat_30 : decode cX12_heat 30 = .ok (.ifCond .ne 10, 3) := by decide +kernel
theorem dX12_heat_33 : decode cX12_heat 33 = .ok (.aload_n 0, 1) := by decide +kernel
theorem dX12_heat_34 : decode cX12_heat 34 = .ok (.bipush (-2), 2) := by decide +kernel
theorem dX12_heat_36 : decode cX12_heat 36 = .ok (.invokevirtual 105, 3) := by decide +kernel
theorem dX12_heat_39 : decode cX12_heat 39 = .ok (.ireturn, 1) := by decide +kernel
theorem dX12_heat_40 : decode cX12_heat 40 = .ok (.aload_n 0, 1) := by decide +kernel
theorem dX12_heat_41 : decode cX12_heat 41 = .ok (.getfield 7, 3) := by decide +kernel
theorem dX12_heat_44 : decode cX12_heat 44 = .ok (.iload_n 1, 1) := by decide +kernel
theorem dX12_heat_45 : decode cX12_heat 45 = .ok (.invokestatic 115, 3) := by decide +kernel
theorem dX12_heat_48 : decode cX12_heat 48 = .ok (.iconst 4, 1) := by decide +kernel
theorem dX12_heat_49 : decode cX12_heat 49 = .ok (.iadd, 1) := by decide +kernel
theorem dX12_heat_50 : decode cX12_heat 50 = .ok (.iaload, 1) := by decide +kernel
theorem dX12_heat_51 : decode cX12_heat 51 = .ok (.istore_n 3, 1) := by decide +kernel
theorem dX12_heat_52 : decode cX12_heat 52 = .ok (.aload_n 0, 1) := by decide +kernel
theorem dX12_heat_53 : decode cX12_heat 53 = .ok (.getfield 7, 3) := by decide +kernel
theorem dX12_heat_56 : decode cX12_heat 56 = .ok (.iload_n 1, 1) := by decide +kernel
theorem dX12_heat_57 : decode cX12_heat 57 = .ok (.invokestatic 115, 3) := by decide +kernel
theorem dX12_heat_60 : decode cX12_heat 60 = .ok (.iconst 4, 1) := by decide +kernel
theorem dX12_heat_61 : decode cX12_heat 61 = .ok (.iadd, 1) := by decide +kernel
theorem dX12_heat_62 : decode cX12_heat 62 = .ok (.iload_n 2, 1) := by decide +kernel
theorem dX12_heat_63 : decode cX12_heat 63 = .ok (.iastore, 1) := by decide +kernel
theorem dX12_heat_64 : decode cX12_heat 64 = .ok (.aload_n 0, 1) := by decide +kernel
theorem dX12_heat_65 : decode cX12_heat 65 = .ok (.iload_n 3, 1) := by decide +kernel
theorem dX12_heat_66 : decode cX12_heat 66 = .ok (.invokevirtual 105, 3) := by decide +kernel
theorem dX12_heat_69 : decode cX12_heat 69 = .ok (.ireturn, 1) := by decide +kernel
set_option maxRecDepth 20000 in
theorem ggX12_price_X12_isDay : GoodIn wsX12_price wsX12_isDay := goodIn_r _ [7, 8, 9, 10, 6, 11] (by decide +kernel) (by decide +kernel)
set_option maxRecDepth 20000 in
theorem gX12_price_X12_isDay : GoodIn wsX12_price (va_wsS RX12 141 yX12_isDay wsX12_isDay) := goodIn_app (goodIn_of _ (by decide +kernel)) ggX12_price_X12_isDay
set_option maxRecDepth 20000 in
theorem ggX12_price_X12_in : GoodIn wsX12_price wsX12_in := goodIn_r _ [11] (by decide +kernel) (by decide +kernel)
set_option maxRecDepth 20000 in
theorem gX12_price_X12_in : GoodIn wsX12_price (va_wsS RX12 99 yX12_in wsX12_in) := goodIn_app (goodIn_of _ (by decide +kernel)) ggX12_price_X12_in
set_option maxRecDepth 20000 in
theorem ggX12_price_X12_isHour : GoodIn wsX12_price wsX12_isHour := goodIn_r _ [14, 15, 9, 10, 6, 11] (by decide +kernel) (by decide +kernel)
set_option maxRecDepth 20000 in
theorem gX12_price_X12_isHour : GoodIn wsX12_price (va_wsS RX12 144 yX12_isHour wsX12_isHour) := goodIn_app (goodIn_of _ (by decide +kernel)) ggX12_price_X12_isHour
set_option maxRecDepth 20000 in
theorem ggX12_price_X12_told : GoodIn wsX12_price wsX12_told := goodIn_r _ [19, 20, 21, 22, 23, 24, 25, 26, 27, 28, 29, 30, 31, 32, 33, 34, 35, 36, 37, 38, 39, 40, 41, 42, 43, 44, 45, 46, 47, 48, 49, 50, 51, 52, 53, 54, 55, 56, 57, 58, 59, 60, 61, 62, 63, 64, 65, 66, 67, 68, 69, 70, 71, 72, 73] (by decide +kernel) (by decide +kernel)
set_option maxRecDepth 20000 in
theorem gX12_price_X12_told : GoodIn wsX12_price (wsV RX12 105 RX12 yX12_told wsX12_told) := goodIn_app (goodIn_of _ (by decide +kernel)) ggX12_price_X12_told
theorem dX12_price_0 : decode cX12_price 0 = .ok (.aload_n 0, 1) := by decide +kernel
theorem dX12_price_1 : decode cX12_price 1 = .ok (.iconst 0, 1) := by decide +kernel
theorem dX12_price_2 : decode cX12_price 2 = .ok (.putfield 91, 3) := by decide +kernel
theorem dX12_price_5 : decode cX12_price 5 = .ok (.iload_n 1, 1) := by decide +kernel
theorem dX12_price_6 : decode cX12_price 6 = .ok (.invokestatic 141, 3) := by decide +kernel
theorem dX12_price_9 : decode cX12_price 9 = .ok (.ifCond .eq 22, 3) := by decide +kernel
theorem dX12_price_12 : decode cX12_price 12 = .ok (.iload_n 2, 1) := by decide +kernel
theorem dX12_price_13 : decode cX12_price 13 = .ok (.i2l, 1) := by decide +kernel
theorem dX12_price_14 : decode cX12_price 14 = .ok (.lconst 0, 1) := by decide +kernel
theorem dX12_price_15 : decode cX12_price 15 = .ok (.ldc2_w 111, 3) := by decide +kernel
theorem dX12_price_18 : decode cX12_price 18 = .ok (.invokestatic 99, 3) := by decide +kernel
theorem dX12_price_21 : decode cX12_price 21 = .ok (.ifCond .eq 10, 3) := by decide +kernel
theorem dX12_price_24 : decode cX12_price 24 = .ok (.iload_n 3, 1) := by decide +kernel
theorem dX12_price_25 : decode cX12_price 25 = .ok (.invokestatic 144, 3) := by decide +kernel
theorem dX12_price_28 : decode cX12_price 28 = .ok (.ifCond .ne 9, 3) := by decide +kernel
theorem dX12_price_31 : decode cX12_price 31 = .ok (.aload_n 0, 1) := by decide +kernel
theorem dX12_price_32 : decode cX12_price 32 = .ok (.iconst (-1), 1) := by decide +kernel
theorem dX12_price_33 : decode cX12_price 33 = .ok (.invokevirtual 105, 3) := by decide +kernel
theorem dX12_price_36 : decode cX12_price 36 = .ok (.ireturn, 1) := by decide +kernel
theorem dX12_price_37 : decode cX12_price 37 = .ok (.aload_n 0, 1) := by decide +kernel
theorem dX12_price_38 : decode cX12_price 38 = .ok (.getfield 7, 3) := by decide +kernel
theorem dX12_price_41 : decode cX12_price 41 = .ok (.bipush 6, 2) := by decide +kernel
theorem dX12_price_43 : decode cX12_price 43 = .ok (.iaload, 1) := by decide +kernel
theorem dX12_price_44 : decode cX12_price 44 = .ok (.bipush 60, 2) := by decide +kernel
theorem dX12_price_46 : decode cX12_price 46 = .ok (.if_icmp .ne 10, 3) := by decide +kernel
theorem dX12_price_49 : decode cX12_price 49 = .ok (.aload_n 0, 1) := by decide +kernel
theorem dX12_price_50 : decode cX12_price 50 = .ok (.bipush (-5), 2) := by decide +kernel
theorem dX12_price_52 : decode cX12_price 52 = .ok (.invokevirtual 105, 3) := by decide +kernel
theorem dX12_price_55 : decode cX12_price 55 = .ok (.ireturn, 1) := by decide +kernel
theorem dX12_price_56 : decode cX12_price 56 = .ok (.sipush 2011, 3) := by decide +kernel
theorem dX12_price_59 : decode cX12_price 59 = .ok (.iconst 3, 1) := by decide +kernel
theorem dX12_price_60 : decode cX12_price 60 = .ok (.aload_n 0, 1) := by decide +kernel
theorem dX12_price_61 : decode cX12_price 61 = .ok (.getfield 7, 3) := by decide +kernel
theorem dX12_price_64 : decode cX12_price 64 = .ok (.bipush 6, 2) := by decide +kernel
theorem dX12_price_66 : decode cX12_price 66 = .ok (.iaload, 1) := by decide +kernel
theorem dX12_price_67 : decode cX12_price 67 = .ok (.imul, 1) := by decide +kernel
theorem dX12_price_68 : decode cX12_price 68 = .ok (.iadd, 1) := by decide +kernel
theorem dX12_price_69 : decode cX12_price 69 = .ok (.istore 4, 2) := by decide +kernel
theorem dX12_price_71 : decode cX12_price 71 = .ok (.aload_n 0, 1) := by decide +kernel
theorem dX12_price_72 : decode cX12_price 72 = .ok (.getfield 7, 3) := by decide +kernel
theorem dX12_price_75 : decode cX12_price 75 = .ok (.iload 4, 2) := by decide +kernel
theorem dX12_price_77 : decode cX12_price 77 = .ok (.iload_n 1, 1) := by decide +kernel
theorem dX12_price_78 : decode cX12_price 78 = .ok (.iastore, 1) := by decide +kernel
theorem dX12_price_79 : decode cX12_price 79 = .ok (.aload_n 0, 1) := by decide +kernel
theorem dX12_price_80 : decode cX12_price 80 = .ok (.getfield 7, 3) := by decide +kernel
theorem dX12_price_83 : decode cX12_price 83 = .ok (.iload 4, 2) := by decide +kernel
theorem dX12_price_85 : decode cX12_price 85 = .ok (.iconst 1, 1) := by decide +kernel
theorem dX12_price_86 : decode cX12_price 86 = .ok (.iadd, 1) := by decide +kernel
theorem dX12_price_87 : decode cX12_price 87 = .ok (.iload_n 2, 1) := by decide +kernel
theorem dX12_price_88 : decode cX12_price 88 = .ok (.iastore, 1) := by decide +kernel
theorem dX12_price_89 : decode cX12_price 89 = .ok (.aload_n 0, 1) := by decide +kernel
theorem dX12_price_90 : decode cX12_price 90 = .ok (.getfield 7, 3) := by decide +kernel
theorem dX12_price_93 : decode cX12_price 93 = .ok (.iload 4, 2) := by decide +kernel
theorem dX12_price_95 : decode cX12_price 95 = .ok (.iconst 2, 1) := by decide +kernel
theorem dX12_price_96 : decode cX12_price 96 = .ok (.iadd, 1) := by decide +kernel
theorem dX12_price_97 : decode cX12_price 97 = .ok (.iload_n 3, 1) := by decide +kernel
theorem dX12_price_98 : decode cX12_price 98 = .ok (.iastore, 1) := by decide +kernel
theorem dX12_price_99 : decode cX12_price 99 = .ok (.aload_n 0, 1) := by decide +kernel
theorem dX12_price_100 : decode cX12_price 100 = .ok (.getfield 7, 3) := by decide +kernel
theorem dX12_price_103 : decode cX12_price 103 = .ok (.bipush 6, 2) := by decide +kernel
theorem dX12_price_105 : decode cX12_price 105 = .ok (.dup2, 1) := by decide +kernel
theorem dX12_price_106 : decode cX12_price 106 = .ok (.iaload, 1) := by decide +kernel
theorem dX12_price_107 : decode cX12_price 107 = .ok (.iconst 1, 1) := by decide +kernel
theorem dX12_price_108 : decode cX12_price 108 = .ok (.iadd, 1) := by decide +kernel
theorem dX12_price_109 : decode cX12_price 109 = .ok (.iastore, 1) := by decide +kernel
theorem dX12_price_110 : decode cX12_price 110 = .ok (.aload_n 0, 1) := by decide +kernel
theorem dX12_price_111 : decode cX12_price 111 = .ok (.aload_n 0, 1) := by decide +kernel
theorem dX12_price_112 : decode cX12_price 112 = .ok (.getfield 7, 3) := by decide +kernel
theorem dX12_price_115 : decode cX12_price 115 = .ok (.bipush 6, 2) := by decide +kernel
theorem dX12_price_117 : decode cX12_price 117 = .ok (.iaload, 1) := by decide +kernel
theorem dX12_price_118 : decode cX12_price 118 = .ok (.invokevirtual 105, 3) := by decide +kernel
theorem dX12_price_121 : decode cX12_price 121 = .ok (.ireturn, 1) := by decide +kernel
theorem dX12_priceOf_0 : decode cX12_priceOf 0 = .ok (.iconst 0, 1) := by decide +kernel
theorem dX12_priceOf_1 : decode cX12_priceOf 1 = .ok (.istore_n 3, 1) := by decide +kernel
theorem dX12_priceOf_2 : decode cX12_priceOf 2 = .ok (.iconst (-1), 1) := by decide +kernel
theorem dX12_priceOf_3 : decode cX12_priceOf 3 = .ok (.istore 4, 2) := by decide +kernel
theorem dX12_priceOf_5 : decode cX12_priceOf 5 = .ok (.iconst 0, 1) := by decide +kernel
theorem dX12_priceOf_6 : decode cX12_priceOf 6 = .ok (.istore 5, 2) := by decide +kernel
theorem dX12_priceOf_8 : decode cX12_priceOf 8 = .ok (.iload 5, 2) := by decide +kernel
theorem dX12_priceOf_10 : decode cX12_priceOf 10 = .ok (.aload_n 0, 1) := by decide +kernel
theorem dX12_priceOf_11 : decode cX12_priceOf 11 = .ok (.getfield 7, 3) := by decide +kernel
theorem dX12_priceOf_14 : decode cX12_priceOf 14 = .ok (.bipush 6, 2) := by decide +kernel
theorem dX12_priceOf_16 : decode cX12_priceOf 16 = .ok (.iaload, 1) := by decide +kernel
theorem dX12_priceOf_17 : decode cX12_priceOf 17 = .ok (.if_icmp .ge 74, 3) := by decide +kernel
theorem dX12_priceOf_20 : decode cX12_priceOf 20 = .ok (.sipush 2011, 3) := by decide +kernel
theorem dX12_priceOf_23 : decode cX12_priceOf 23 = .ok (.iconst 3, 1) := by decide +kernel
theorem dX12_priceOf_24 : decode cX12_priceOf 24 = .ok (.iload 5, 2) := by decide +kernel
theorem dX12_priceOf_26 : decode cX12_priceOf 26 = .ok (.imul, 1) := by decide +kernel
theorem dX12_priceOf_27 : decode cX12_priceOf 27 = .ok (.iadd, 1) := by decide +kernel
theorem dX12_priceOf_28 : decode cX12_priceOf 28 = .ok (.istore 6, 2) := by decide +kernel
theorem dX12_priceOf_30 : decode cX12_priceOf 30 = .ok (.aload_n 0, 1) := by decide +kernel
theorem dX12_priceOf_31 : decode cX12_priceOf 31 = .ok (.getfield 7, 3) := by decide +kernel
theorem dX12_priceOf_34 : decode cX12_priceOf 34 = .ok (.iload 6, 2) := by decide +kernel
theorem dX12_priceOf_36 : decode cX12_priceOf 36 = .ok (.iconst 2, 1) := by decide +kernel
theorem dX12_priceOf_37 : decode cX12_priceOf 37 = .ok (.iadd, 1) := by decide +kernel
theorem dX12_priceOf_38 : decode cX12_priceOf 38 = .ok (.iaload, 1) := by decide +kernel
theorem dX12_priceOf_39 : decode cX12_priceOf 39 = .ok (.iload_n 2, 1) := by decide +kernel
theorem dX12_priceOf_40 : decode cX12_priceOf 40 = .ok (.if_icmp .gt 45, 3) := by decide +kernel
theorem dX12_priceOf_43 : decode cX12_priceOf 43 = .ok (.aload_n 0, 1) := by decide +kernel
theorem dX12_priceOf_44 : decode cX12_priceOf 44 = .ok (.getfield 7, 3) := by decide +kernel
theorem dX12_priceOf_47 : decode cX12_priceOf 47 = .ok (.iload 6, 2) := by decide +kernel
theorem dX12_priceOf_49 : decode cX12_priceOf 49 = .ok (.iaload, 1) := by decide +kernel
theorem dX12_priceOf_50 : decode cX12_priceOf 50 = .ok (.iload_n 1, 1) := by decide +kernel
theorem dX12_priceOf_51 : decode cX12_priceOf 51 = .ok (.if_icmp .gt 34, 3) := by decide +kernel
theorem dX12_priceOf_54 : decode cX12_priceOf 54 = .ok (.aload_n 0, 1) := by decide +kernel
theorem dX12_priceOf_55 : decode cX12_priceOf 55 = .ok (.getfield 7, 3) := by decide +kernel
theorem dX12_priceOf_58 : decode cX12_priceOf 58 = .ok (.iload 6, 2) := by decide +kernel
theorem dX12_priceOf_60 : decode cX12_priceOf 60 = .ok (.iaload, 1) := by decide +kernel
theorem dX12_priceOf_61 : decode cX12_priceOf 61 = .ok (.iload 4, 2) := by decide +kernel
theorem dX12_priceOf_63 : decode cX12_priceOf 63 = .ok (.if_icmp .lt 22, 3) := by decide +kernel
theorem dX12_priceOf_66 : decode cX12_priceOf 66 = .ok (.aload_n 0, 1) := by decide +kernel
theorem dX12_priceOf_67 : decode cX12_priceOf 67 = .ok (.getfield 7, 3) := by decide +kernel
theorem dX12_priceOf_70 : decode cX12_priceOf 70 = .ok (.iload 6, 2) := by decide +kernel
theorem dX12_priceOf_72 : decode cX12_priceOf 72 = .ok (.iaload, 1) := by decide +kernel
theorem dX12_priceOf_73 : decode cX12_priceOf 73 = .ok (.istore 4, 2) := by decide +kernel
theorem dX12_priceOf_75 : decode cX12_priceOf 75 = .ok (.aload_n 0, 1) := by decide +kernel
theorem dX12_priceOf_76 : decode cX12_priceOf 76 = .ok (.getfield 7, 3) := by decide +kernel
theorem dX12_priceOf_79 : decode cX12_priceOf 79 = .ok (.iload 6, 2) := by decide +kernel
theorem dX12_priceOf_81 : decode cX12_priceOf 81 = .ok (.iconst 1, 1) := by decide +kernel
theorem dX12_priceOf_82 : decode cX12_priceOf 82 = .ok (.iadd, 1) := by decide +kernel
theorem dX12_priceOf_83 : decode cX12_priceOf 83 = .ok (.iaload, 1) := by decide +kernel
theorem dX12_priceOf_84 : decode cX12_priceOf 84 = .ok (.istore_n 3, 1) := by decide +kernel
theorem dX12_priceOf_85 : decode cX12_priceOf 85 = .ok (.iinc 5 1, 3) := by decide +kernel
theorem dX12_priceOf_88 : decode cX12_priceOf 88 = .ok (.goto (-80), 3) := by decide +kernel
theorem dX12_priceOf_91 : decode cX12_priceOf 91 = .ok (.iload_n 3, 1) := by decide +kernel
theorem dX12_priceOf_92 : decode cX12_priceOf 92 = .ok (.ireturn, 1) := by decide +kernel
set_option maxRecDepth 20000 in
theorem ggX12_force_X12_isHour : GoodIn wsX12_force wsX12_isHour := goodIn_r _ [6, 7, 8, 9, 5, 10] (by decide +kernel) (by decide +kernel)
set_option maxRecDepth 20000 in
theorem gX12_force_X12_isHour : GoodIn wsX12_force (va_wsS RX12 144 yX12_isHour wsX12_isHour) := goodIn_app (goodIn_of _ (by decide +kernel)) ggX12_force_X12_isHour
set_option maxRecDepth 20000 in
theorem ggX12_force_X12_in : GoodIn wsX12_force wsX12_in := goodIn_r _ [10] (by decide +kernel) (by decide +kernel)
set_option maxRecDepth 20000 in
theorem gX12_force_X12_in : GoodIn wsX12_force (va_wsS RX12 99 yX12_in wsX12_in) := goodIn_app (goodIn_of _ (by decide +kernel)) ggX12_force_X12_in
set_option maxRecDepth 20000 in
theorem ggX12_force_X12_told : GoodIn wsX12_force wsX12_told := goodIn_r _ [14, 15, 16, 17, 18, 19, 20, 21, 22, 23, 24, 25, 26, 27, 28, 29, 30, 31, 32, 33, 34, 35, 36, 37, 38, 39, 40, 41, 42, 43, 44, 45, 46, 47, 48, 49, 50, 51, 52, 53, 54, 55, 56, 57, 58, 59, 60, 61, 62, 63, 64, 65, 66, 67, 68] (by decide +kernel) (by decide +kernel)
set_option maxRecDepth 20000 in
theorem gX12_force_X12_told : GoodIn wsX12_force (wsV RX12 105 RX12 yX12_told wsX12_told) := goodIn_app (goodIn_of _ (by decide +kernel)) ggX12_force_X12_told
theorem dX12_force_0 : decode cX12_force 0 = .ok (.aload_n 0, 1) := by decide +kernel
theorem dX12_force_1 : decode cX12_force 1 = .ok (.iconst 0, 1) := by decide +kernel
theorem dX12_force_2 : decode cX12_force 2 = .ok (.putfield 91, 3) := by decide +kernel
theorem dX12_force_5 : decode cX12_force 5 = .ok (.iload_n 2, 1) := by decide +kernel
theorem dX12_force_6 : decode cX12_force 6 = .ok (.invokestatic 144, 3) := by decide +kernel
theorem dX12_force_9 : decode cX12_force 9 = .ok (.ifCond .eq 21, 3) := by decide +kernel
theorem dX12_force_12 : decode cX12_force 12 = .ok (.iload_n 1, 1) := by decide +kernel
theorem dX12_force_13 : decode cX12_force 13 = .ok (.i2l, 1) := by decide +kernel
theorem dX12_force_14 : decode cX12_force 14 = .ok (.lconst 0, 1) := by decide +kernel
theorem dX12_force_15 : decode cX12_force 15 = .ok (.iload_n 2, 1) := by decide +kernel
theorem dX12_force_16 : decode cX12_force 16 = .ok (.i2l, 1) := by decide +kernel
theorem dX12_force_17 : decode cX12_force 17 = .ok (.invokestatic 99, 3) := by decide +kernel
theorem dX12_force_20 : decode cX12_force 20 = .ok (.ifCond .eq 10, 3) := by decide +kernel
theorem dX12_force_23 : decode cX12_force 23 = .ok (.iload_n 3, 1) := by decide +kernel
theorem dX12_force_24 : decode cX12_force 24 = .ok (.invokestatic 144, 3) := by decide +kernel
theorem dX12_force_27 : decode cX12_force 27 = .ok (.ifCond .ne 9, 3) := by decide +kernel
theorem dX12_force_30 : decode cX12_force 30 = .ok (.aload_n 0, 1) := by decide +kernel
theorem dX12_force_31 : decode cX12_force 31 = .ok (.iconst (-1), 1) := by decide +kernel
theorem dX12_force_32 : decode cX12_force 32 = .ok (.invokevirtual 105, 3) := by decide +kernel
theorem dX12_force_35 : decode cX12_force 35 = .ok (.ireturn, 1) := by decide +kernel
theorem dX12_force_36 : decode cX12_force 36 = .ok (.aload_n 0, 1) := by decide +kernel
theorem dX12_force_37 : decode cX12_force 37 = .ok (.getfield 7, 3) := by decide +kernel
theorem dX12_force_40 : decode cX12_force 40 = .ok (.bipush 7, 2) := by decide +kernel
theorem dX12_force_42 : decode cX12_force 42 = .ok (.iaload, 1) := by decide +kernel
theorem dX12_force_43 : decode cX12_force 43 = .ok (.bipush 20, 2) := by decide +kernel
theorem dX12_force_45 : decode cX12_force 45 = .ok (.if_icmp .ne 10, 3) := by decide +kernel
theorem dX12_force_48 : decode cX12_force 48 = .ok (.aload_n 0, 1) := by decide +kernel
theorem dX12_force_49 : decode cX12_force 49 = .ok (.bipush (-5), 2) := by decide +kernel
theorem dX12_force_51 : decode cX12_force 51 = .ok (.invokevirtual 105, 3) := by decide +kernel
theorem dX12_force_54 : decode cX12_force 54 = .ok (.ireturn, 1) := by decide +kernel
theorem dX12_force_55 : decode cX12_force 55 = .ok (.sipush 2191, 3) := by decide +kernel
theorem dX12_force_58 : decode cX12_force 58 = .ok (.iconst 3, 1) := by decide +kernel
theorem dX12_force_59 : decode cX12_force 59 = .ok (.aload_n 0, 1) := by decide +kernel
theorem dX12_force_60 : decode cX12_force 60 = .ok (.getfield 7, 3) := by decide +kernel
theorem dX12_force_63 : decode cX12_force 63 = .ok (.bipush 7, 2) := by decide +kernel
theorem dX12_force_65 : decode cX12_force 65 = .ok (.iaload, 1) := by decide +kernel
theorem dX12_force_66 : decode cX12_force 66 = .ok (.imul, 1) := by decide +kernel
theorem dX12_force_67 : decode cX12_force 67 = .ok (.iadd, 1) := by decide +kernel
theorem dX12_force_68 : decode cX12_force 68 = .ok (.istore 4, 2) := by decide +kernel
theorem dX12_force_70 : decode cX12_force 70 = .ok (.aload_n 0, 1) := by decide +kernel
theorem dX12_force_71 : decode cX12_force 71 = .ok (.getfield 7, 3) := by decide +kernel
theorem dX12_force_74 : decode cX12_force 74 = .ok (.iload 4, 2) := by decide +kernel
theorem dX12_force_76 : decode cX12_force 76 = .ok (.iload_n 1, 1) := by decide +kernel
theorem dX12_force_77 : decode cX12_force 77 = .ok (.iastore, 1) := by decide +kernel
theorem dX12_force_78 : decode cX12_force 78 = .ok (.aload_n 0, 1) := by decide +kernel
theorem dX12_force_79 : decode cX12_force 79 = .ok (.getfield 7, 3) := by decide +kernel
theorem dX12_force_82 : decode cX12_force 82 = .ok (.iload 4, 2) := by decide +kernel
theorem dX12_force_84 : decode cX12_force 84 = .ok (.iconst 1, 1) := by decide +kernel
theorem dX12_force_85 : decode cX12_force 85 = .ok (.iadd, 1) := by decide +kernel
theorem dX12_force_86 : decode cX12_force 86 = .ok (.iload_n 2, 1) := by decide +kernel
theorem dX12_force_87 : decode cX12_force 87 = .ok (.iastore, 1) := by decide +kernel
theorem dX12_force_88 : decode cX12_force 88 = .ok (.aload_n 0, 1) := by decide +kernel
theorem dX12_force_89 : decode cX12_force 89 = .ok (.getfield 7, 3) := by decide +kernel
theorem dX12_force_92 : decode cX12_force 92 = .ok (.iload 4, 2) := by decide +kernel
theorem dX12_force_94 : decode cX12_force 94 = .ok (.iconst 2, 1) := by decide +kernel
theorem dX12_force_95 : decode cX12_force 95 = .ok (.iadd, 1) := by decide +kernel
theorem dX12_force_96 : decode cX12_force 96 = .ok (.iload_n 3, 1) := by decide +kernel
theorem dX12_force_97 : decode cX12_force 97 = .ok (.iastore, 1) := by decide +kernel
theorem dX12_force_98 : decode cX12_force 98 = .ok (.aload_n 0, 1) := by decide +kernel
theorem dX12_force_99 : decode cX12_force 99 = .ok (.getfield 7, 3) := by decide +kernel
theorem dX12_force_102 : decode cX12_force 102 = .ok (.bipush 7, 2) := by decide +kernel
theorem dX12_force_104 : decode cX12_force 104 = .ok (.dup2, 1) := by decide +kernel
theorem dX12_force_105 : decode cX12_force 105 = .ok (.iaload, 1) := by decide +kernel
theorem dX12_force_106 : decode cX12_force 106 = .ok (.iconst 1, 1) := by decide +kernel
theorem dX12_force_107 : decode cX12_force 107 = .ok (.iadd, 1) := by decide +kernel
theorem dX12_force_108 : decode cX12_force 108 = .ok (.iastore, 1) := by decide +kernel
theorem dX12_force_109 : decode cX12_force 109 = .ok (.aload_n 0, 1) := by decide +kernel
theorem dX12_force_110 : decode cX12_force 110 = .ok (.aload_n 0, 1) := by decide +kernel
theorem dX12_force_111 : decode cX12_force 111 = .ok (.getfield 7, 3) := by decide +kernel
theorem dX12_force_114 : decode cX12_force 114 = .ok (.bipush 7, 2) := by decide +kernel
theorem dX12_force_116 : decode cX12_force 116 = .ok (.iaload, 1) := by decide +kernel
theorem dX12_force_117 : decode cX12_force 117 = .ok (.invokevirtual 105, 3) := by decide +kernel
theorem dX12_force_120 : decode cX12_force 120 = .ok (.ireturn, 1) := by decide +kernel
set_option maxRecDepth 20000 in
theorem ggX12_isForce_X12_in : GoodIn wsX12_isForce wsX12_in := goodIn_r _ [5] (by decide +kernel) (by decide +kernel)
set_option maxRecDepth 20000 in
theorem gX12_isForce_X12_in : GoodIn wsX12_isForce (va_wsS RX12 99 yX12_in wsX12_in) := goodIn_app (goodIn_of _ (by decide +kernel)) ggX12_isForce_X12_in
theorem dX12_isForce_0 : decode cX12_isForce 0 = .ok (.iconst 0, 1) := by decide +kernel
theorem dX12_isForce_1 : decode cX12_isForce 1 = .ok (.istore_n 3, 1) := by decide +kernel
theorem dX12_isForce_2 : decode cX12_isForce 2 = .ok (.iconst 0, 1) := by decide +kernel
theorem dX12_isForce_3 : decode cX12_isForce 3 = .ok (.istore 4, 2) := by decide +kernel
theorem dX12_isForce_5 : decode cX12_isForce 5 = .ok (.iload 4, 2) := by decide +kernel
theorem dX12_isForce_7 : decode cX12_isForce 7 = .ok (.aload_n 0, 1) := by decide +kernel
theorem dX12_isForce_8 : decode cX12_isForce 8 = .ok (.getfield 7, 3) := by decide +kernel
theorem dX12_isForce_11 : decode cX12_isForce 11 = .ok (.bipush 7, 2) := by decide +kernel
theorem dX12_isForce_13 : decode cX12_isForce 13 = .ok (.iaload, 1) := by decide +kernel
theorem dX12_isForce_14 : decode cX12_isForce 14 = .ok (.if_icmp .ge 68, 3) := by decide +kernel
theorem dX12_isForce_17 : decode cX12_isForce 17 = .ok (.sipush 2191, 3) := by decide +kernel
theorem dX12_isForce_20 : decode cX12_isForce 20 = .ok (.iconst 3, 1) := by decide +kernel
theorem dX12_isForce_21 : decode cX12_isForce 21 = .ok (.iload 4, 2) := by decide +kernel
theorem dX12_isForce_23 : decode cX12_isForce 23 = .ok (.imul, 1) := by decide +kernel
theorem dX12_isForce_24 : decode cX12_isForce 24 = .ok (.iadd, 1) := by decide +kernel
theorem dX12_isForce_25 : decode cX12_isForce 25 = .ok (.istore 5, 2) := by decide +kernel
theorem dX12_isForce_27 : decode cX12_isForce 27 = .ok (.iload_n 3, 1) := by decide +kernel
theorem dX12_isForce_28 : decode cX12_isForce 28 = .ok (.ifCond .ne 42, 3) := by decide +kernel
theorem dX12_isForce_31 : decode cX12_isForce 31 = .ok (.aload_n 0, 1) := by decide +kernel
theorem dX12_isForce_32 : decode cX12_isForce 32 = .ok (.getfield 7, 3) := by decide +kernel
theorem dX12_isForce_35 : decode cX12_isForce 35 = .ok (.iload 5, 2) := by decide +kernel
theorem dX12_isForce_37 : decode cX12_isForce 37 = .ok (.iconst 2, 1) := by decide +kernel
theorem dX12_isForce_38 : decode cX12_isForce 38 = .ok (.iadd, 1) := by decide +kernel
theorem dX12_isForce_39 : decode cX12_isForce 39 = .ok (.iaload, 1) := by decide +kernel
theorem dX12_isForce_40 : decode cX12_isForce 40 = .ok (.iload_n 2, 1) := by decide +kernel
theorem dX12_isForce_41 : decode cX12_isForce 41 = .ok (.if_icmp .gt 33, 3) := by decide +kernel
theorem dX12_isForce_44 : decode cX12_isForce 44 = .ok (.iload_n 1, 1) := by decide +kernel
theorem dX12_isForce_45 : decode cX12_isForce 45 = .ok (.i2l, 1) := by decide +kernel
theorem dX12_isForce_46 : decode cX12_isForce 46 = .ok (.aload_n 0, 1) := by decide +kernel
theorem dX12_isForce_47 : decode cX12_isForce 47 = .ok (.getfield 7, 3) := by decide +kernel
theorem dX12_isForce_50 : decode cX12_isForce 50 = .ok (.iload 5, 2) := by decide +kernel
theorem dX12_isForce_52 : decode cX12_isForce 52 = .ok (.iaload, 1) := by decide +kernel
theorem dX12_isForce_53 : decode cX12_isForce 53 = .ok (.i2l, 1) := by decide +kernel
theorem dX12_isForce_54 : decode cX12_isForce 54 = .ok (.aload_n 0, 1) := by decide +kernel
theorem dX12_isForce_55 : decode cX12_isForce 55 = .ok (.getfield 7, 3) := by decide +kernel
theorem dX12_isForce_58 : decode cX12_isForce 58 = .ok (.iload 5, 2) := by decide +kernel
theorem dX12_isForce_60 : decode cX12_isForce 60 = .ok (.iconst 1, 1) := by decide +kernel
theorem dX12_isForce_61 : decode cX12_isForce 61 = .ok (.iadd, 1) := by decide +kernel
theorem dX12_isForce_62 : decode cX12_isForce 62 = .ok (.iaload, 1) := by decide +kernel
theorem dX12_isForce_63 : decode cX12_isForce 63 = .ok (.i2l, 1) := by decide +kernel
theorem dX12_isForce_64 : decode cX12_isForce 64 = .ok (.invokestatic 99, 3) := by decide +kernel
theorem dX12_isForce_67 : decode cX12_isForce 67 = .ok (.ifCond .eq 7, 3) := by decide +kernel
theorem dX12_isForce_70 : decode cX12_isForce 70 = .ok (.iconst 1, 1) := by decide +kernel
theorem dX12_isForce_71 : decode cX12_isForce 71 = .ok (.goto 4, 3) := by decide +kernel
theorem dX12_isForce_74 : decode cX12_isForce 74 = .ok (.iconst 0, 1) := by decide +kernel
theorem dX12_isForce_75 : decode cX12_isForce 75 = .ok (.istore_n 3, 1) := by decide +kernel
theorem dX12_isForce_76 : decode cX12_isForce 76 = .ok (.iinc 4 1, 3) := by decide +kernel
theorem dX12_isForce_79 : decode cX12_isForce 79 = .ok (.goto (-74), 3) := by decide +kernel
theorem dX12_isForce_82 : decode cX12_isForce 82 = .ok (.iload_n 3, 1) := by decide +kernel
theorem dX12_isForce_83 : decode cX12_isForce 83 = .ok (.ireturn, 1) := by decide +kernel
set_option maxRecDepth 20000 in
theorem ggX12_bill_X12_in : GoodIn wsX12_bill wsX12_in := goodIn_r _ [7] (by decide +kernel) (by decide +kernel)
set_option maxRecDepth 20000 in
theorem gX12_bill_X12_in : GoodIn wsX12_bill (va_wsS RX12 99 yX12_in wsX12_in) := goodIn_app (goodIn_of _ (by decide +kernel)) ggX12_bill_X12_in
set_option maxRecDepth 20000 in
theorem ggX12_bill_X12_told : GoodIn wsX12_bill wsX12_told := goodIn_r _ [11, 12, 20, 21, 22, 23, 24, 25, 26, 27, 28, 29, 30, 31, 32, 33, 34, 35, 36, 37, 38, 39, 40, 41, 42, 43, 44, 45, 46, 47, 48, 49, 50, 51, 52, 53, 54, 55, 56, 57, 58, 59, 60, 61, 62, 63, 64, 65, 66, 67, 68, 69, 70, 71, 72] (by decide +kernel) (by decide +kernel)
set_option maxRecDepth 20000 in
theorem gX12_bill_X12_told : GoodIn wsX12_bill (wsV RX12 105 RX12 yX12_told wsX12_told) := goodIn_app (goodIn_of _ (by decide +kernel)) ggX12_bill_X12_told
set_option maxRecDepth 20000 in
theorem ggX12_bill_X12_isLanding : GoodIn wsX12_bill wsX12_isLanding := goodIn_r _ [16, 3, 4, 5, 6, 7, 20, 21, 22, 23, 24, 25, 26, 27, 28, 29, 30, 31, 32, 33, 34, 35, 36, 37, 38, 39, 40, 41, 42, 43, 44, 45, 46, 47, 48, 49, 50, 51, 52, 53, 54, 55, 56, 57, 58, 59, 60, 61, 62, 63, 64, 65, 66, 67, 68, 69, 70, 71, 72] (by decide +kernel) (by decide +kernel)
set_option maxRecDepth 20000 in
theorem gX12_bill_X12_isLanding : GoodIn wsX12_bill (wsV RX12 237 RX12 yX12_isLanding wsX12_isLanding) := goodIn_app (goodIn_of _ (by decide +kernel)) ggX12_bill_X12_isLanding
set_option maxRecDepth 20000 in
theorem ggX12_bill_X12_landingAt : GoodIn wsX12_bill wsX12_landingAt := goodIn_r _ [19] (by decide +kernel) (by decide +kernel)
set_option maxRecDepth 20000 in
theorem gX12_bill_X12_landingAt : GoodIn wsX12_bill (va_wsS RX12 242 yX12_landingAt wsX12_landingAt) := goodIn_app (goodIn_of _ (by decide +kernel)) ggX12_bill_X12_landingAt
theorem dX12_bill_0 : decode cX12_bill 0 = .ok (.aload_n 0, 1) := by decide +kernel
theorem dX12_bill_1 : decode cX12_bill 1 = .ok (.iconst 0, 1) := by decide +kernel
theorem dX12_bill_2 : decode cX12_bill 2 = .ok (.putfield 91, 3) := by decide +kernel
theorem dX12_bill_5 : decode cX12_bill 5 = .ok (.iload_n 2, 1) := by decide +kernel
theorem dX12_bill_6 : decode cX12_bill 6 = .ok (.i2l, 1) := by decide +kernel
theorem dX12_bill_7 : decode cX12_bill 7 = .ok (.lconst 0, 1) := by decide +kernel
theorem dX12_bill_8 : decode cX12_bill 8 = .ok (.ldc2_w 124, 3) := by decide +kernel
theorem dX12_bill_11 : decode cX12_bill 11 = .ok (.invokestatic 99, 3) := by decide +kernel
theorem dX12_bill_14 : decode cX12_bill 14 = .ok (.ifCond .ne 9, 3) := by decide +kernel
theorem dX12_bill_17 : decode cX12_bill 17 = .ok (.aload_n 0, 1) := by decide +kernel
theorem dX12_bill_18 : decode cX12_bill 18 = .ok (.iconst (-1), 1) := by decide +kernel
theorem dX12_bill_19 : decode cX12_bill 19 = .ok (.invokevirtual 105, 3) := by decide +kernel
theorem dX12_bill_22 : decode cX12_bill 22 = .ok (.ireturn, 1) := by decide +kernel
theorem dX12_bill_23 : decode cX12_bill 23 = .ok (.aload_n 0, 1) := by decide +kernel
theorem dX12_bill_24 : decode cX12_bill 24 = .ok (.iload_n 1, 1) := by decide +kernel
theorem dX12_bill_25 : decode cX12_bill 25 = .ok (.invokevirtual 237, 3) := by decide +kernel
theorem dX12_bill_28 : decode cX12_bill 28 = .ok (.ifCond .ne 10, 3) := by decide +kernel
theorem dX12_bill_31 : decode cX12_bill 31 = .ok (.aload_n 0, 1) := by decide +kernel
theorem dX12_bill_32 : decode cX12_bill 32 = .ok (.bipush (-2), 2) := by decide +kernel
theorem dX12_bill_34 : decode cX12_bill 34 = .ok (.invokevirtual 105, 3) := by decide +kernel
theorem dX12_bill_37 : decode cX12_bill 37 = .ok (.ireturn, 1) := by decide +kernel
theorem dX12_bill_38 : decode cX12_bill 38 = .ok (.aload_n 0, 1) := by decide +kernel
theorem dX12_bill_39 : decode cX12_bill 39 = .ok (.getfield 7, 3) := by decide +kernel
theorem dX12_bill_42 : decode cX12_bill 42 = .ok (.iload_n 1, 1) := by decide +kernel
theorem dX12_bill_43 : decode cX12_bill 43 = .ok (.invokestatic 242, 3) := by decide +kernel
theorem dX12_bill_46 : decode cX12_bill 46 = .ok (.bipush 11, 2) := by decide +kernel
theorem dX12_bill_48 : decode cX12_bill 48 = .ok (.iadd, 1) := by decide +kernel
theorem dX12_bill_49 : decode cX12_bill 49 = .ok (.iaload, 1) := by decide +kernel
theorem dX12_bill_50 : decode cX12_bill 50 = .ok (.iconst (-1), 1) := by decide +kernel
theorem dX12_bill_51 : decode cX12_bill 51 = .ok (.if_icmp .eq 10, 3) := by decide +kernel
theorem dX12_bill_54 : decode cX12_bill 54 = .ok (.aload_n 0, 1) := by decide +kernel
theorem dX12_bill_55 : decode cX12_bill 55 = .ok (.bipush (-4), 2) := by decide +kernel
theorem dX12_bill_57 : decode cX12_bill 57 = .ok (.invokevirtual 105, 3) := by decide +kernel
theorem dX12_bill_60 : decode cX12_bill 60 = .ok (.ireturn, 1) := by decide +kernel
theorem dX12_bill_61 : decode cX12_bill 61 = .ok (.aload_n 0, 1) := by decide +kernel
theorem dX12_bill_62 : decode cX12_bill 62 = .ok (.getfield 7, 3) := by decide +kernel
theorem dX12_bill_65 : decode cX12_bill 65 = .ok (.iload_n 1, 1) := by decide +kernel
theorem dX12_bill_66 : decode cX12_bill 66 = .ok (.invokestatic 242, 3) := by decide +kernel
theorem dX12_bill_69 : decode cX12_bill 69 = .ok (.bipush 11, 2) := by decide +kernel
theorem dX12_bill_71 : decode cX12_bill 71 = .ok (.iadd, 1) := by decide +kernel
theorem dX12_bill_72 : decode cX12_bill 72 = .ok (.iload_n 2, 1) := by decide +kernel
theorem dX12_bill_73 : decode cX12_bill 73 = .ok (.iastore, 1) := by decide +kernel
theorem dX12_bill_74 : decode cX12_bill 74 = .ok (.aload_n 0, 1) := by decide +kernel
theorem dX12_bill_75 : decode cX12_bill 75 = .ok (.iconst 0, 1) := by decide +kernel
theorem dX12_bill_76 : decode cX12_bill 76 = .ok (.invokevirtual 105, 3) := by decide +kernel
theorem dX12_bill_79 : decode cX12_bill 79 = .ok (.ireturn, 1) := by decide +kernel
theorem dX12_billed_0 : decode cX12_billed 0 = .ok (.aload_n 0, 1) := by decide +kernel
theorem dX12_billed_1 : decode cX12_billed 1 = .ok (.getfield 7, 3) := by decide +kernel
theorem dX12_billed_4 : decode cX12_billed 4 = .ok (.iload_n 1, 1) := by decide +kernel
theorem dX12_billed_5 : decode cX12_billed 5 = .ok (.bipush 11, 2) := by decide +kernel
theorem dX12_billed_7 : decode cX12_billed 7 = .ok (.iadd, 1) := by decide +kernel
theorem dX12_billed_8 : decode cX12_billed 8 = .ok (.iaload, 1) := by decide +kernel
theorem dX12_billed_9 : decode cX12_billed 9 = .ok (.iconst (-1), 1) := by decide +kernel
theorem dX12_billed_10 : decode cX12_billed 10 = .ok (.if_icmp .ne 14, 3) := by decide +kernel
theorem dX12_billed_13 : decode cX12_billed 13 = .ok (.aload_n 0, 1) := by decide +kernel
theorem dX12_billed_14 : decode cX12_billed 14 = .ok (.getfield 7, 3) := by decide +kernel
theorem dX12_billed_17 : decode cX12_billed 17 = .ok (.iload_n 1, 1) := by decide +kernel
theorem dX12_billed_18 : decode cX12_billed 18 = .ok (.iconst 4, 1) := by decide +kernel
theorem dX12_billed_19 : decode cX12_billed 19 = .ok (.iadd, 1) := by decide +kernel
theorem dX12_billed_20 : decode cX12_billed 20 = .ok (.iaload, 1) := by decide +kernel
theorem dX12_billed_21 : decode cX12_billed 21 = .ok (.goto 12, 3) := by decide +kernel
theorem dX12_billed_24 : decode cX12_billed 24 = .ok (.aload_n 0, 1) := by decide +kernel
theorem dX12_billed_25 : decode cX12_billed 25 = .ok (.getfield 7, 3) := by decide +kernel
theorem dX12_billed_28 : decode cX12_billed 28 = .ok (.iload_n 1, 1) := by decide +kernel
theorem dX12_billed_29 : decode cX12_billed 29 = .ok (.bipush 11, 2) := by decide +kernel
theorem dX12_billed_31 : decode cX12_billed 31 = .ok (.iadd, 1) := by decide +kernel
theorem dX12_billed_32 : decode cX12_billed 32 = .ok (.iaload, 1) := by decide +kernel
theorem dX12_billed_33 : decode cX12_billed 33 = .ok (.ireturn, 1) := by decide +kernel
theorem dX12_four_0 : decode cX12_four 0 = .ok (.bipush 24, 2) := by decide +kernel
theorem dX12_four_2 : decode cX12_four 2 = .ok (.istore_n 2, 1) := by decide +kernel
theorem dX12_four_3 : decode cX12_four 3 = .ok (.iload_n 2, 1) := by decide +kernel
theorem dX12_four_4 : decode cX12_four 4 = .ok (.ifCond .lt 35, 3) := by decide +kernel
theorem dX12_four_7 : decode cX12_four 7 = .ok (.aload_n 0, 1) := by decide +kernel
theorem dX12_four_8 : decode cX12_four 8 = .ok (.getfield 27, 3) := by decide +kernel
theorem dX12_four_11 : decode cX12_four 11 = .ok (.aload_n 0, 1) := by decide +kernel
theorem dX12_four_12 : decode cX12_four 12 = .ok (.getfield 252, 3) := by decide +kernel
theorem dX12_four_15 : decode cX12_four 15 = .ok (.iload_n 1, 1) := by decide +kernel
theorem dX12_four_16 : decode cX12_four 16 = .ok (.iload_n 2, 1) := by decide +kernel
theorem dX12_four_17 : decode cX12_four 17 = .ok (.ishr, 1) := by decide +kernel
theorem dX12_four_18 : decode cX12_four 18 = .ok (.sipush 255, 3) := by decide +kernel
theorem dX12_four_21 : decode cX12_four 21 = .ok (.iand, 1) := by decide +kernel
theorem dX12_four_22 : decode cX12_four 22 = .ok (.iastore, 1) := by decide +kernel
theorem dX12_four_23 : decode cX12_four 23 = .ok (.aload_n 0, 1) := by decide +kernel
theorem dX12_four_24 : decode cX12_four 24 = .ok (.dup, 1) := by decide +kernel
theorem dX12_four_25 : decode cX12_four 25 = .ok (.getfield 252, 3) := by decide +kernel
theorem dX12_four_28 : decode cX12_four 28 = .ok (.iconst 1, 1) := by decide +kernel
theorem dX12_four_29 : decode cX12_four 29 = .ok (.iadd, 1) := by decide +kernel
theorem dX12_four_30 : decode cX12_four 30 = .ok (.putfield 252, 3) := by decide +kernel
theorem dX12_four_33 : decode cX12_four 33 = .ok (.iinc 2 (-8), 3) := by decide +kernel
theorem dX12_four_36 : decode cX12_four 36 = .ok (.goto (-33), 3) := by decide +kernel
theorem dX12_four_39 : decode cX12_four 39 = .ok (.return_, 1) := by decide +kernel
set_option maxRecDepth 20000 in
theorem ggX12_feed_X12_four : GoodIn wsX12_feed wsX12_four := goodIn_r _ [7, 8, 2, 9, 10, 11, 12, 13, 14, 15, 16, 17, 18, 19, 20, 21, 22, 23, 24, 25, 26, 27, 28, 29, 30, 31, 32, 33, 34, 35, 36, 37, 38, 39, 40, 41, 42, 43, 44, 45, 46, 47, 48, 49, 50, 51, 52, 53, 54, 55, 56, 57, 58, 59, 60, 61] (by decide +kernel) (by decide +kernel)
set_option maxRecDepth 20000 in
theorem gX12_feed_X12_four : GoodIn wsX12_feed (wsV RX12 255 RX12 yX12_four wsX12_four) := goodIn_app (goodIn_of _ (by decide +kernel)) ggX12_feed_X12_four
theorem dX12_feed_0 : decode cX12_feed 0 = .ok (.aload_n 0, 1) := by decide +kernel
theorem dX12_feed_1 : decode cX12_feed 1 = .ok (.iconst 0, 1) := by decide +kernel
theorem dX12_feed_2 : decode cX12_feed 2 = .ok (.putfield 91, 3) := by decide +kernel
theorem dX12_feed_5 : decode cX12_feed 5 = .ok (.aload_n 0, 1) := by decide +kernel
theorem dX12_feed_6 : decode cX12_feed 6 = .ok (.getfield 252, 3) := by decide +kernel
theorem dX12_feed_9 : decode cX12_feed 9 = .ok (.bipush 20, 2) := by decide +kernel
theorem dX12_feed_11 : decode cX12_feed 11 = .ok (.iadd, 1) := by decide +kernel
theorem dX12_feed_12 : decode cX12_feed 12 = .ok (.sipush 400, 3) := by decide +kernel
theorem dX12_feed_15 : decode cX12_feed 15 = .ok (.if_icmp .le 5, 3) := by decide +kernel
theorem dX12_feed_18 : decode cX12_feed 18 = .ok (.iconst (-1), 1) := by decide +kernel
theorem dX12_feed_19 : decode cX12_feed 19 = .ok (.ireturn, 1) := by decide +kernel
theorem dX12_feed_20 : decode cX12_feed 20 = .ok (.aload_n 0, 1) := by decide +kernel
theorem dX12_feed_21 : decode cX12_feed 21 = .ok (.iload_n 1, 1) := by decide +kernel
theorem dX12_feed_22 : decode cX12_feed 22 = .ok (.invokevirtual 255, 3) := by decide +kernel
theorem dX12_feed_25 : decode cX12_feed 25 = .ok (.aload_n 0, 1) := by decide +kernel
theorem dX12_feed_26 : decode cX12_feed 26 = .ok (.iload_n 2, 1) := by decide +kernel
theorem dX12_feed_27 : decode cX12_feed 27 = .ok (.invokevirtual 255, 3) := by decide +kernel
theorem dX12_feed_30 : decode cX12_feed 30 = .ok (.aload_n 0, 1) := by decide +kernel
theorem dX12_feed_31 : decode cX12_feed 31 = .ok (.iload_n 3, 1) := by decide +kernel
theorem dX12_feed_32 : decode cX12_feed 32 = .ok (.invokevirtual 255, 3) := by decide +kernel
theorem dX12_feed_35 : decode cX12_feed 35 = .ok (.aload_n 0, 1) := by decide +kernel
theorem dX12_feed_36 : decode cX12_feed 36 = .ok (.iload 4, 2) := by decide +kernel
theorem dX12_feed_38 : decode cX12_feed 38 = .ok (.invokevirtual 255, 3) := by decide +kernel
theorem dX12_feed_41 : decode cX12_feed 41 = .ok (.aload_n 0, 1) := by decide +kernel
theorem dX12_feed_42 : decode cX12_feed 42 = .ok (.iload 5, 2) := by decide +kernel
theorem dX12_feed_44 : decode cX12_feed 44 = .ok (.invokevirtual 255, 3) := by decide +kernel
theorem dX12_feed_47 : decode cX12_feed 47 = .ok (.aload_n 0, 1) := by decide +kernel
theorem dX12_feed_48 : decode cX12_feed 48 = .ok (.getfield 252, 3) := by decide +kernel
theorem dX12_feed_51 : decode cX12_feed 51 = .ok (.ireturn, 1) := by decide +kernel
theorem dX12_end_0 : decode cX12_end 0 = .ok (.aload_n 0, 1) := by decide +kernel
theorem dX12_end_1 : decode cX12_end 1 = .ok (.iconst 0, 1) := by decide +kernel
theorem dX12_end_2 : decode cX12_end 2 = .ok (.putfield 91, 3) := by decide +kernel
theorem dX12_end_5 : decode cX12_end 5 = .ok (.iload_n 1, 1) := by decide +kernel
theorem dX12_end_6 : decode cX12_end 6 = .ok (.ifCond .lt 11, 3) := by decide +kernel
theorem dX12_end_9 : decode cX12_end 9 = .ok (.iload_n 1, 1) := by decide +kernel
theorem dX12_end_10 : decode cX12_end 10 = .ok (.aload_n 0, 1) := by decide +kernel
theorem dX12_end_11 : decode cX12_end 11 = .ok (.getfield 252, 3) := by decide +kernel
theorem dX12_end_14 : decode cX12_end 14 = .ok (.if_icmp .le 5, 3) := by decide +kernel
theorem dX12_end_17 : decode cX12_end 17 = .ok (.iconst (-1), 1) := by decide +kernel
theorem dX12_end_18 : decode cX12_end 18 = .ok (.ireturn, 1) := by decide +kernel
theorem dX12_end_19 : decode cX12_end 19 = .ok (.aload_n 0, 1) := by decide +kernel
theorem dX12_end_20 : decode cX12_end 20 = .ok (.iload_n 1, 1) := by decide +kernel
theorem dX12_end_21 : decode cX12_end 21 = .ok (.putfield 252, 3) := by decide +kernel
theorem dX12_end_24 : decode cX12_end 24 = .ok (.iload_n 1, 1) := by decide +kernel
theorem dX12_end_25 : decode cX12_end 25 = .ok (.ireturn, 1) := by decide +kernel
theorem dX12_fault_0 : decode cX12_fault 0 = .ok (.aload_n 0, 1) := by decide +kernel
theorem dX12_fault_1 : decode cX12_fault 1 = .ok (.iconst 0, 1) := by decide +kernel
theorem dX12_fault_2 : decode cX12_fault 2 = .ok (.putfield 91, 3) := by decide +kernel
theorem dX12_fault_5 : decode cX12_fault 5 = .ok (.aload_n 0, 1) := by decide +kernel
theorem dX12_fault_6 : decode cX12_fault 6 = .ok (.getfield 30, 3) := by decide +kernel
theorem dX12_fault_9 : decode cX12_fault 9 = .ok (.ireturn, 1) := by decide +kernel
set_option maxRecDepth 20000 in
theorem ggX12_settled_X12_isLanding : GoodIn wsX12_settled wsX12_isLanding := goodIn_r _ [10, 3, 11, 12, 9, 13, 17, 18, 19, 20, 21, 22, 23, 24, 25, 26, 27, 28, 29, 30, 31, 32, 33, 34, 35, 36, 37, 38, 39, 40, 41, 42, 43, 44, 45, 46, 47, 48, 49, 50, 51, 52, 53, 54, 55, 56, 57, 58, 59, 60, 61, 62, 63, 64, 65, 66, 67, 68, 69] (by decide +kernel) (by decide +kernel)
set_option maxRecDepth 20000 in
theorem gX12_settled_X12_isLanding : GoodIn wsX12_settled (wsV RX12 237 RX12 yX12_isLanding wsX12_isLanding) := goodIn_app (goodIn_of _ (by decide +kernel)) ggX12_settled_X12_isLanding
set_option maxRecDepth 20000 in
theorem ggX12_settled_X12_in : GoodIn wsX12_settled wsX12_in := goodIn_r _ [13] (by decide +kernel) (by decide +kernel)
set_option maxRecDepth 20000 in
theorem gX12_settled_X12_in : GoodIn wsX12_settled (va_wsS RX12 99 yX12_in wsX12_in) := goodIn_app (goodIn_of _ (by decide +kernel)) ggX12_settled_X12_in
set_option maxRecDepth 20000 in
theorem ggX12_settled_X12_landingAt : GoodIn wsX12_settled wsX12_landingAt := goodIn_r _ [16] (by decide +kernel) (by decide +kernel)
set_option maxRecDepth 20000 in
theorem gX12_settled_X12_landingAt : GoodIn wsX12_settled (va_wsS RX12 242 yX12_landingAt wsX12_landingAt) := goodIn_app (goodIn_of _ (by decide +kernel)) ggX12_settled_X12_landingAt
theorem dX12_settled_0 : decode cX12_settled 0 = .ok (.aload_n 0, 1) := by decide +kernel
theorem dX12_settled_1 : decode cX12_settled 1 = .ok (.iconst 0, 1) := by decide +kernel
theorem dX12_settled_2 : decode cX12_settled 2 = .ok (.putfield 91, 3) := by decide +kernel
theorem dX12_settled_5 : decode cX12_settled 5 = .ok (.aload_n 0, 1) := by decide +kernel
theorem dX12_settled_6 : decode cX12_settled 6 = .ok (.iload_n 1, 1) := by decide +kernel
theorem dX12_settled_7 : decode cX12_settled 7 = .ok (.invokevirtual 237, 3) := by decide +kernel
theorem dX12_settled_10 : decode cX12_settled 10 = .ok (.ifCond .eq 31, 3) := by decide +kernel
theorem dX12_settled_13 : decode cX12_settled 13 = .ok (.iload_n 2, 1) := by decide +kernel
theorem dX12_settled_14 : decode cX12_settled 14 = .ok (.i2l, 1) := by decide +kernel
theorem dX12_settled_15 : decode cX12_settled 15 = .ok (.lconst 0, 1) := by decide +kernel
theorem dX12_settled_16 : decode cX12_settled 16 = .ok (.ldc2_w 477, 3) := by decide +kernel
theorem dX12_settled_19 : decode cX12_settled 19 = .ok (.invokestatic 99, 3) := by decide +kernel
theorem dX12_settled_22 : decode cX12_settled 22 = .ok (.ifCond .eq 19, 3) := by decide +kernel
theorem dX12_settled_25 : decode cX12_settled 25 = .ok (.aload_n 0, 1) := by decide +kernel
theorem dX12_settled_26 : decode cX12_settled 26 = .ok (.getfield 7, 3) := by decide +kernel
theorem dX12_settled_29 : decode cX12_settled 29 = .ok (.iload_n 1, 1) := by decide +kernel
theorem dX12_settled_30 : decode cX12_settled 30 = .ok (.invokestatic 242, 3) := by decide +kernel
theorem dX12_settled_33 : decode cX12_settled 33 = .ok (.bipush 12, 2) := by decide +kernel
theorem dX12_settled_35 : decode cX12_settled 35 = .ok (.iadd, 1) := by decide +kernel
theorem dX12_settled_36 : decode cX12_settled 36 = .ok (.iaload, 1) := by decide +kernel
theorem dX12_settled_37 : decode cX12_settled 37 = .ok (.iconst (-1), 1) := by decide +kernel
theorem dX12_settled_38 : decode cX12_settled 38 = .ok (.if_icmp .ne 7, 3) := by decide +kernel
theorem dX12_settled_41 : decode cX12_settled 41 = .ok (.ldc2_w 466, 3) := by decide +kernel
theorem dX12_settled_44 : decode cX12_settled 44 = .ok (.lreturn, 1) := by decide +kernel
theorem dX12_settled_45 : decode cX12_settled 45 = .ok (.iload_n 1, 1) := by decide +kernel
theorem dX12_settled_46 : decode cX12_settled 46 = .ok (.invokestatic 242, 3) := by decide +kernel
theorem dX12_settled_49 : decode cX12_settled 49 = .ok (.istore_n 3, 1) := by decide +kernel
theorem dX12_settled_50 : decode cX12_settled 50 = .ok (.iload_n 2, 1) := by decide +kernel
theorem dX12_settled_51 : decode cX12_settled 51 = .ok (.ifCond .ne 34, 3) := by decide +kernel
theorem dX12_settled_54 : decode cX12_settled 54 = .ok (.aload_n 0, 1) := by decide +kernel
theorem dX12_settled_55 : decode cX12_settled 55 = .ok (.getfield 7, 3) := by decide +kernel
theorem dX12_settled_58 : decode cX12_settled 58 = .ok (.iload_n 3, 1) := by decide +kernel
theorem dX12_settled_59 : decode cX12_settled 59 = .ok (.bipush 14, 2) := by decide +kernel
theorem dX12_settled_61 : decode cX12_settled 61 = .ok (.iadd, 1) := by decide +kernel
theorem dX12_settled_62 : decode cX12_settled 62 = .ok (.iaload, 1) := by decide +kernel
theorem dX12_settled_63 : decode cX12_settled 63 = .ok (.i2l, 1) := by decide +kernel
theorem dX12_settled_64 : decode cX12_settled 64 = .ok (.bipush 32, 2) := by decide +kernel
theorem dX12_settled_66 : decode cX12_settled 66 = .ok (.lshl, 1) := by decide +kernel
theorem dX12_settled_67 : decode cX12_settled 67 = .ok (.aload_n 0, 1) := by decide +kernel
theorem dX12_settled_68 : decode cX12_settled 68 = .ok (.getfield 7, 3) := by decide +kernel
theorem dX12_settled_71 : decode cX12_settled 71 = .ok (.iload_n 3, 1) := by decide +kernel
theorem dX12_settled_72 : decode cX12_settled 72 = .ok (.bipush 15, 2) := by decide +kernel
theorem dX12_settled_74 : decode cX12_settled 74 = .ok (.iadd, 1) := by decide +kernel
theorem dX12_settled_75 : decode cX12_settled 75 = .ok (.iaload, 1) := by decide +kernel
theorem dX12_settled_76 : decode cX12_settled 76 = .ok (.i2l, 1) := by decide +kernel
theorem dX12_settled_77 : decode cX12_settled 77 = .ok (.ldc2_w 479, 3) := by decide +kernel
theorem dX12_settled_80 : decode cX12_settled 80 = .ok (.land, 1) := by decide +kernel
theorem dX12_settled_81 : decode cX12_settled 81 = .ok (.lor, 1) := by decide +kernel
theorem dX12_settled_82 : decode cX12_settled 82 = .ok (.goto 15, 3) := by decide +kernel
theorem dX12_settled_85 : decode cX12_settled 85 = .ok (.aload_n 0, 1) := by decide +kernel
theorem dX12_settled_86 : decode cX12_settled 86 = .ok (.getfield 7, 3) := by decide +kernel
theorem dX12_settled_89 : decode cX12_settled 89 = .ok (.iload_n 3, 1) := by decide +kernel
theorem dX12_settled_90 : decode cX12_settled 90 = .ok (.bipush 11, 2) := by decide +kernel
theorem dX12_settled_92 : decode cX12_settled 92 = .ok (.iadd, 1) := by decide +kernel
theorem dX12_settled_93 : decode cX12_settled 93 = .ok (.iload_n 2, 1) := by decide +kernel
theorem dX12_settled_94 : decode cX12_settled 94 = .ok (.iadd, 1) := by decide +kernel
theorem dX12_settled_95 : decode cX12_settled 95 = .ok (.iaload, 1) := by decide +kernel
theorem dX12_settled_96 : decode cX12_settled 96 = .ok (.i2l, 1) := by decide +kernel
theorem dX12_settled_97 : decode cX12_settled 97 = .ok (.lreturn, 1) := by decide +kernel
set_option maxRecDepth 20000 in
theorem ggX12_table_X12_in : GoodIn wsX12_table wsX12_in := goodIn_r _ [9] (by decide +kernel) (by decide +kernel)
set_option maxRecDepth 20000 in
theorem gX12_table_X12_in : GoodIn wsX12_table (va_wsS RX12 99 yX12_in wsX12_in) := goodIn_app (goodIn_of _ (by decide +kernel)) ggX12_table_X12_in
set_option maxRecDepth 20000 in
theorem ggX12_table_X12_told : GoodIn wsX12_table wsX12_told := goodIn_r _ [13, 14, 22, 23, 24, 25, 26, 27, 28, 29, 30, 31, 32, 33, 34, 35, 36, 37, 38, 39, 40, 41, 42, 43, 44, 45, 46, 47, 48, 49, 50, 51, 52, 53, 54, 55, 56, 57, 58, 59, 60, 61, 62, 63, 64, 65, 66, 67, 68, 69, 70, 71, 72, 73, 74] (by decide +kernel) (by decide +kernel)
set_option maxRecDepth 20000 in
theorem gX12_table_X12_told : GoodIn wsX12_table (wsV RX12 105 RX12 yX12_told wsX12_told) := goodIn_app (goodIn_of _ (by decide +kernel)) ggX12_table_X12_told
set_option maxRecDepth 20000 in
theorem ggX12_table_X12_isShip : GoodIn wsX12_table wsX12_isShip := goodIn_r _ [18, 5, 6, 7, 8, 9, 22, 23, 24, 25, 26, 27, 28, 29, 30, 31, 32, 33, 34, 35, 36, 37, 38, 39, 40, 41, 42, 43, 44, 45, 46, 47, 48, 49, 50, 51, 52, 53, 54, 55, 56, 57, 58, 59, 60, 61, 62, 63, 64, 65, 66, 67, 68, 69, 70, 71, 72, 73, 74] (by decide +kernel) (by decide +kernel)
set_option maxRecDepth 20000 in
theorem gX12_table_X12_isShip : GoodIn wsX12_table (wsV RX12 147 RX12 yX12_isShip wsX12_isShip) := goodIn_app (goodIn_of _ (by decide +kernel)) ggX12_table_X12_isShip
set_option maxRecDepth 20000 in
theorem ggX12_table_X12_shipAt : GoodIn wsX12_table wsX12_shipAt := goodIn_r _ [21] (by decide +kernel) (by decide +kernel)
set_option maxRecDepth 20000 in
theorem gX12_table_X12_shipAt : GoodIn wsX12_table (va_wsS RX12 132 yX12_shipAt wsX12_shipAt) := goodIn_app (goodIn_of _ (by decide +kernel)) ggX12_table_X12_shipAt
theorem dX12_table_0 : decode cX12_table 0 = .ok (.aload_n 0, 1) := by decide +kernel
theorem dX12_table_1 : decode cX12_table 1 = .ok (.iconst 0, 1) := by decide +kernel
theorem dX12_table_2 : decode cX12_table 2 = .ok (.putfield 91, 3) := by decide +kernel
theorem dX12_table_5 : decode cX12_table 5 = .ok (.iload_n 2, 1) := by decide +kernel
theorem dX12_table_6 : decode cX12_table 6 = .ok (.i2l, 1) := by decide +kernel
theorem dX12_table_7 : decode cX12_table 7 = .ok (.lconst 0, 1) := by decide +kernel
theorem dX12_table_8 : decode cX12_table 8 = .ok (.ldc2_w 152, 3) := by decide +kernel
theorem dX12_table_11 : decode cX12_table 11 = .ok (.invokestatic 99, 3) := by decide +kernel
theorem dX12_table_14 : decode cX12_table 14 = .ok (.ifCond .eq 28, 3) := by decide +kernel
theorem dX12_table_17 : decode cX12_table 17 = .ok (.iload_n 3, 1) := by decide +kernel
theorem dX12_table_18 : decode cX12_table 18 = .ok (.i2l, 1) := by decide +kernel
theorem dX12_table_19 : decode cX12_table 19 = .ok (.lconst 0, 1) := by decide +kernel
theorem dX12_table_20 : decode cX12_table 20 = .ok (.ldc2_w 481, 3) := by decide +kernel
theorem dX12_table_23 : decode cX12_table 23 = .ok (.invokestatic 99, 3) := by decide +kernel
theorem dX12_table_26 : decode cX12_table 26 = .ok (.ifCond .eq 16, 3) := by decide +kernel
theorem dX12_table_29 : decode cX12_table 29 = .ok (.iload 4, 2) := by decide +kernel
theorem dX12_table_31 : decode cX12_table 31 = .ok (.i2l, 1) := by decide +kernel
theorem dX12_table_32 : decode cX12_table 32 = .ok (.lconst 0, 1) := by decide +kernel
theorem dX12_table_33 : decode cX12_table 33 = .ok (.ldc2_w 124, 3) := by decide +kernel
theorem dX12_table_36 : decode cX12_table 36 = .ok (.invokestatic 99, 3) := by decide +kernel
theorem dX12_table_39 : decode cX12_table 39 = .ok (.ifCond .ne 9, 3) := by decide +kernel
theorem dX12_table_42 : decode cX12_table 42 = .ok (.aload_n 0, 1) := by decide +kernel
theorem dX12_table_43 : decode cX12_table 43 = .ok (.iconst (-1), 1) := by decide +kernel
theorem dX12_table_44 : decode cX12_table 44 = .ok (.invokevirtual 105, 3) := by decide +kernel
theorem dX12_table_47 : decode cX12_table 47 = .ok (.ireturn, 1) := by decide +kernel
theorem dX12_table_48 : decode cX12_table 48 = .ok (.aload_n 0, 1) := by decide +kernel
theorem dX12_table_49 : decode cX12_table 49 = .ok (.iload_n 1, 1) := by decide +kernel
theorem dX12_table_50 : decode cX12_table 50 = .ok (.invokevirtual 147, 3) := by decide +kernel
theorem dX12_table_53 : decode cX12_table 53 = .ok (.ifCond .ne 10, 3) := by decide +kernel
theorem dX12_table_56 : decode cX12_table 56 = .ok (.aload_n 0, 1) := by decide +kernel
theorem dX12_table_57 : decode cX12_table 57 = .ok (.bipush (-2), 2) := by decide +kernel
theorem dX12_table_59 : decode cX12_table 59 = .ok (.invokevirtual 105, 3) := by decide +kernel
theorem dX12_table_62 : decode cX12_table 62 = .ok (.ireturn, 1) := by decide +kernel
theorem dX12_table_63 : decode cX12_table 63 = .ok (.iload_n 1, 1) := by decide +kernel
theorem dX12_table_64 : decode cX12_table 64 = .ok (.invokestatic 132, 3) := by decide +kernel
theorem dX12_table_67 : decode cX12_table 67 = .ok (.bipush 32, 2) := by decide +kernel
theorem dX12_table_69 : decode cX12_table 69 = .ok (.iadd, 1) := by decide +kernel
theorem dX12_table_70 : decode cX12_table 70 = .ok (.iconst 3, 1) := by decide +kernel
theorem dX12_table_71 : decode cX12_table 71 = .ok (.iload_n 2, 1) := by decide +kernel
theorem dX12_table_72 : decode cX12_table 72 = .ok (.imul, 1) := by decide +kernel
theorem dX12_table_73 : decode cX12_table 73 = .ok (.iadd, 1) := by decide +kernel
theorem dX12_table_74 : decode cX12_table 74 = .ok (.istore 5, 2) := by decide +kernel
theorem dX12_table_76 : decode cX12_table 76 = .ok (.aload_n 0, 1) := by decide +kernel
theorem dX12_table_77 : decode cX12_table 77 = .ok (.getfield 7, 3) := by decide +kernel
theorem dX12_table_80 : decode cX12_table 80 = .ok (.iload 5, 2) := by decide +kernel
theorem dX12_table_82 : decode cX12_table 82 = .ok (.iconst 1, 1) := by decide +kernel
theorem dX12_table_83 : decode cX12_table 83 = .ok (.iastore, 1) := by decide +kernel
theorem dX12_table_84 : decode cX12_table 84 = .ok (.aload_n 0, 1) := by decide +kernel
theorem dX12_table_85 : decode cX12_table 85 = .ok (.getfield 7, 3) := by decide +kernel
theorem dX12_table_88 : decode cX12_table 88 = .ok (.iload 5, 2) := by decide +kernel
theorem dX12_table_90 : decode cX12_table 90 = .ok (.iconst 1, 1) := by decide +kernel
theorem dX12_table_91 : decode cX12_table 91 = .ok (.iadd, 1) := by decide +kernel
theorem dX12_table_92 : decode cX12_table 92 = .ok (.iload_n 3, 1) := by decide +kernel
theorem dX12_table_93 : decode cX12_table 93 = .ok (.iastore, 1) := by decide +kernel
theorem dX12_table_94 : decode cX12_table 94 = .ok (.aload_n 0, 1) := by decide +kernel
theorem dX12_table_95 : decode cX12_table 95 = .ok (.getfield 7, 3) := by decide +kernel
theorem dX12_table_98 : decode cX12_table 98 = .ok (.iload 5, 2) := by decide +kernel
theorem dX12_table_100 : decode cX12_table 100 = .ok (.iconst 2, 1) := by decide +kernel
theorem dX12_table_101 : decode cX12_table 101 = .ok (.iadd, 1) := by decide +kernel
theorem dX12_table_102 : decode cX12_table 102 = .ok (.iload 4, 2) := by decide +kernel
theorem dX12_table_104 : decode cX12_table 104 = .ok (.iastore, 1) := by decide +kernel
theorem dX12_table_105 : decode cX12_table 105 = .ok (.aload_n 0, 1) := by decide +kernel
theorem dX12_table_106 : decode cX12_table 106 = .ok (.iconst 0, 1) := by decide +kernel
theorem dX12_table_107 : decode cX12_table 107 = .ok (.invokevirtual 105, 3) := by decide +kernel
theorem dX12_table_110 : decode cX12_table 110 = .ok (.ireturn, 1) := by decide +kernel
set_option maxRecDepth 20000 in
theorem ggX12_list_X12_in : GoodIn wsX12_list wsX12_in := goodIn_r _ [9] (by decide +kernel) (by decide +kernel)
set_option maxRecDepth 20000 in
theorem gX12_list_X12_in : GoodIn wsX12_list (va_wsS RX12 99 yX12_in wsX12_in) := goodIn_app (goodIn_of _ (by decide +kernel)) ggX12_list_X12_in
set_option maxRecDepth 20000 in
theorem ggX12_list_X12_told : GoodIn wsX12_list wsX12_told := goodIn_r _ [13, 5, 21, 22, 23, 24, 25, 26, 27, 28, 29, 30, 31, 32, 33, 34, 35, 36, 37, 38, 39, 40, 41, 42, 43, 44, 45, 46, 47, 48, 49, 50, 51, 52, 53, 54, 55, 56, 57, 58, 59, 60, 61, 62, 63, 64, 65, 66, 67, 68, 69, 70, 71, 72, 73] (by decide +kernel) (by decide +kernel)
set_option maxRecDepth 20000 in
theorem gX12_list_X12_told : GoodIn wsX12_list (wsV RX12 105 RX12 yX12_told wsX12_told) := goodIn_app (goodIn_of _ (by decide +kernel)) ggX12_list_X12_told
set_option maxRecDepth 20000 in
theorem ggX12_list_X12_isShip : GoodIn wsX12_list wsX12_isShip := goodIn_r _ [17, 4, 6, 7, 8, 9, 21, 22, 23, 24, 25, 26, 27, 28, 29, 30, 31, 32, 33, 34, 35, 36, 37, 38, 39, 40, 41, 42, 43, 44, 45, 46, 47, 48, 49, 50, 51, 52, 53, 54, 55, 56, 57, 58, 59, 60, 61, 62, 63, 64, 65, 66, 67, 68, 69, 70, 71, 72, 73] (by decide +kernel) (by decide +kernel)
set_option maxRecDepth 20000 in
theorem gX12_list_X12_isShip : GoodIn wsX12_list (wsV RX12 147 RX12 yX12_isShip wsX12_isShip) := goodIn_app (goodIn_of _ (by decide +kernel)) ggX12_list_X12_isShip
set_option maxRecDepth 20000 in
theorem ggX12_list_X12_shipAt : GoodIn wsX12_list wsX12_shipAt := goodIn_r _ [20] (by decide +kernel) (by decide +kernel)
set_option maxRecDepth 20000 in
theorem gX12_list_X12_shipAt : GoodIn wsX12_list (va_wsS RX12 132 yX12_shipAt wsX12_shipAt) := goodIn_app (goodIn_of _ (by decide +kernel)) ggX12_list_X12_shipAt
theorem dX12_list_0 : decode cX12_list 0 = .ok (.aload_n 0, 1) := by decide +kernel
theorem dX12_list_1 : decode cX12_list 1 = .ok (.iconst 0, 1) := by decide +kernel
theorem dX12_list_2 : decode cX12_list 2 = .ok (.putfield 91, 3) := by decide +kernel
theorem dX12_list_5 : decode cX12_list 5 = .ok (.iload_n 2, 1) := by decide +kernel
theorem dX12_list_6 : decode cX12_list 6 = .ok (.i2l, 1) := by decide +kernel
theorem dX12_list_7 : decode cX12_list 7 = .ok (.ldc2_w 483, 3) := by decide +kernel
theorem dX12_list_10 : decode cX12_list 10 = .ok (.ldc2_w 126, 3) := by decide +kernel
theorem dX12_list_13 : decode cX12_list 13 = .ok (.invokestatic 99, 3) := by decide +kernel
theorem dX12_list_16 : decode cX12_list 16 = .ok (.ifCond .ne 9, 3) := by decide +kernel
theorem dX12_list_19 : decode cX12_list 19 = .ok (.aload_n 0, 1) := by decide +kernel
theorem dX12_list_20 : decode cX12_list 20 = .ok (.iconst (-1), 1) := by decide +kernel
theorem dX12_list_21 : decode cX12_list 21 = .ok (.invokevirtual 105, 3) := by decide +kernel
theorem dX12_list_24 : decode cX12_list 24 = .ok (.ireturn, 1) := by decide +kernel
theorem dX12_list_25 : decode cX12_list 25 = .ok (.aload_n 0, 1) := by decide +kernel
theorem dX12_list_26 : decode cX12_list 26 = .ok (.iload_n 1, 1) := by decide +kernel
theorem dX12_list_27 : decode cX12_list 27 = .ok (.invokevirtual 147, 3) := by decide +kernel
theorem dX12_list_30 : decode cX12_list 30 = .ok (.ifCond .ne 10, 3) := by decide +kernel
theorem dX12_list_33 : decode cX12_list 33 = .ok (.aload_n 0, 1) := by decide +kernel
theorem dX12_list_34 : decode cX12_list 34 = .ok (.bipush (-2), 2) := by decide +kernel
theorem dX12_list_36 : decode cX12_list 36 = .ok (.invokevirtual 105, 3) := by decide +kernel
theorem dX12_list_39 : decode cX12_list 39 = .ok (.ireturn, 1) := by decide +kernel
theorem dX12_list_40 : decode cX12_list 40 = .ok (.aload_n 0, 1) := by decide +kernel
theorem dX12_list_41 : decode cX12_list 41 = .ok (.getfield 7, 3) := by decide +kernel
theorem dX12_list_44 : decode cX12_list 44 = .ok (.iload_n 1, 1) := by decide +kernel
theorem dX12_list_45 : decode cX12_list 45 = .ok (.invokestatic 132, 3) := by decide +kernel
theorem dX12_list_48 : decode cX12_list 48 = .ok (.bipush 31, 2) := by decide +kernel
theorem dX12_list_50 : decode cX12_list 50 = .ok (.iadd, 1) := by decide +kernel
theorem dX12_list_51 : decode cX12_list 51 = .ok (.iaload, 1) := by decide +kernel
theorem dX12_list_52 : decode cX12_list 52 = .ok (.istore_n 3, 1) := by decide +kernel
theorem dX12_list_53 : decode cX12_list 53 = .ok (.aload_n 0, 1) := by decide +kernel
theorem dX12_list_54 : decode cX12_list 54 = .ok (.getfield 7, 3) := by decide +kernel
theorem dX12_list_57 : decode cX12_list 57 = .ok (.iload_n 1, 1) := by decide +kernel
theorem dX12_list_58 : decode cX12_list 58 = .ok (.invokestatic 132, 3) := by decide +kernel
theorem dX12_list_61 : decode cX12_list 61 = .ok (.bipush 31, 2) := by decide +kernel
theorem dX12_list_63 : decode cX12_list 63 = .ok (.iadd, 1) := by decide +kernel
theorem dX12_list_64 : decode cX12_list 64 = .ok (.iload_n 2, 1) := by decide +kernel
theorem dX12_list_65 : decode cX12_list 65 = .ok (.iastore, 1) := by decide +kernel
theorem dX12_list_66 : decode cX12_list 66 = .ok (.aload_n 0, 1) := by decide +kernel
theorem dX12_list_67 : decode cX12_list 67 = .ok (.iconst 0, 1) := by decide +kernel
theorem dX12_list_68 : decode cX12_list 68 = .ok (.putfield 94, 3) := by decide +kernel
theorem dX12_list_71 : decode cX12_list 71 = .ok (.iload_n 3, 1) := by decide +kernel
theorem dX12_list_72 : decode cX12_list 72 = .ok (.ireturn, 1) := by decide +kernel
set_option maxRecDepth 20000 in
theorem ggX12_reading_X12_in : GoodIn wsX12_reading wsX12_in := goodIn_r _ [9] (by decide +kernel) (by decide +kernel)
set_option maxRecDepth 20000 in
theorem gX12_reading_X12_in : GoodIn wsX12_reading (va_wsS RX12 99 yX12_in wsX12_in) := goodIn_app (goodIn_of _ (by decide +kernel)) ggX12_reading_X12_in
set_option maxRecDepth 20000 in
theorem ggX12_reading_X12_isHour : GoodIn wsX12_reading wsX12_isHour := goodIn_r _ [12, 13, 6, 7, 8, 9] (by decide +kernel) (by decide +kernel)
set_option maxRecDepth 20000 in
theorem gX12_reading_X12_isHour : GoodIn wsX12_reading (va_wsS RX12 144 yX12_isHour wsX12_isHour) := goodIn_app (goodIn_of _ (by decide +kernel)) ggX12_reading_X12_isHour
set_option maxRecDepth 20000 in
theorem ggX12_reading_X12_told : GoodIn wsX12_reading wsX12_told := goodIn_r _ [17, 18, 27, 28, 29, 30, 31, 32, 33, 34, 35, 36, 37, 38, 39, 40, 41, 42, 43, 44, 45, 46, 47, 48, 49, 50, 51, 52, 53, 54, 55, 56, 57, 58, 59, 60, 61, 62, 63, 64, 65, 66, 67, 68, 69, 70, 71, 72, 73, 74, 75, 76, 77, 78, 79] (by decide +kernel) (by decide +kernel)
set_option maxRecDepth 20000 in
theorem gX12_reading_X12_told : GoodIn wsX12_reading (wsV RX12 105 RX12 yX12_told wsX12_told) := goodIn_app (goodIn_of _ (by decide +kernel)) ggX12_reading_X12_told
set_option maxRecDepth 20000 in
theorem ggX12_reading_X12_isLanding : GoodIn wsX12_reading wsX12_isLanding := goodIn_r _ [22, 5, 6, 7, 8, 9, 27, 28, 29, 30, 31, 32, 33, 34, 35, 36, 37, 38, 39, 40, 41, 42, 43, 44, 45, 46, 47, 48, 49, 50, 51, 52, 53, 54, 55, 56, 57, 58, 59, 60, 61, 62, 63, 64, 65, 66, 67, 68, 69, 70, 71, 72, 73, 74, 75, 76, 77, 78, 79] (by decide +kernel) (by decide +kernel)
set_option maxRecDepth 20000 in
theorem gX12_reading_X12_isLanding : GoodIn wsX12_reading (wsV RX12 237 RX12 yX12_isLanding wsX12_isLanding) := goodIn_app (goodIn_of _ (by decide +kernel)) ggX12_reading_X12_isLanding
set_option maxRecDepth 20000 in
theorem ggX12_reading_X12_addFour : GoodIn wsX12_reading wsX12_addFour := goodIn_r _ [26, 5, 27, 28, 29, 30, 31, 32, 33, 34, 35, 36, 37, 38, 39, 40, 41, 42, 43, 44, 45, 46, 47, 48, 49, 50, 51, 52, 53, 54, 55, 56, 57, 58, 59, 60, 61, 62, 63, 64, 65, 66, 67, 68, 69, 70, 71, 72, 73, 74, 75, 76, 77, 78, 79] (by decide +kernel) (by decide +kernel)
set_option maxRecDepth 20000 in
theorem gX12_reading_X12_addFour : GoodIn wsX12_reading (wsV RX12 118 RX12 yX12_addFour wsX12_addFour) := goodIn_app (goodIn_of _ (by decide +kernel)) ggX12_reading_X12_addFour
theorem dX12_reading_0 : decode cX12_reading 0 = .ok (.aload_n 0, 1) := by decide +kernel
theorem dX12_reading_1 : decode cX12_reading 1 = .ok (.iconst 0, 1) := by decide +kernel
theorem dX12_reading_2 : decode cX12_reading 2 = .ok (.putfield 91, 3) := by decide +kernel
theorem dX12_reading_5 : decode cX12_reading 5 = .ok (.iload_n 2, 1) := by decide +kernel
theorem dX12_reading_6 : decode cX12_reading 6 = .ok (.i2l, 1) := by decide +kernel
theorem dX12_reading_7 : decode cX12_reading 7 = .ok (.lconst 0, 1) := by decide +kernel
theorem dX12_reading_8 : decode cX12_reading 8 = .ok (.lconst 1, 1) := by decide +kernel
theorem dX12_reading_9 : decode cX12_reading 9 = .ok (.invokestatic 99, 3) := by decide +kernel
theorem dX12_reading_12 : decode cX12_reading 12 = .ok (.ifCond .eq 38, 3) := by decide +kernel
theorem dX12_reading_15 : decode cX12_reading 15 = .ok (.iload_n 3, 1) := by decide +kernel
theorem dX12_reading_16 : decode cX12_reading 16 = .ok (.i2l, 1) := by decide +kernel
theorem dX12_reading_17 : decode cX12_reading 17 = .ok (.lconst 0, 1) := by decide +kernel
theorem dX12_reading_18 : decode cX12_reading 18 = .ok (.ldc2_w 481, 3) := by decide +kernel
theorem dX12_reading_21 : decode cX12_reading 21 = .ok (.invokestatic 99, 3) := by decide +kernel
theorem dX12_reading_24 : decode cX12_reading 24 = .ok (.ifCond .eq 26, 3) := by decide +kernel
theorem dX12_reading_27 : decode cX12_reading 27 = .ok (.iload 4, 2) := by decide +kernel
theorem dX12_reading_29 : decode cX12_reading 29 = .ok (.i2l, 1) := by decide +kernel
theorem dX12_reading_30 : decode cX12_reading 30 = .ok (.ldc2_w 485, 3) := by decide +kernel
theorem dX12_reading_33 : decode cX12_reading 33 = .ok (.ldc2_w 487, 3) := by decide +kernel
theorem dX12_reading_36 : decode cX12_reading 36 = .ok (.invokestatic 99, 3) := by decide +kernel
theorem dX12_reading_39 : decode cX12_reading 39 = .ok (.ifCond .eq 11, 3) := by decide +kernel
theorem dX12_reading_42 : decode cX12_reading 42 = .ok (.iload 5, 2) := by decide +kernel
theorem dX12_reading_44 : decode cX12_reading 44 = .ok (.invokestatic 144, 3) := by decide +kernel
theorem dX12_reading_47 : decode cX12_reading 47 = .ok (.ifCond .ne 9, 3) := by decide +kernel
theorem dX12_reading_50 : decode cX12_reading 50 = .ok (.aload_n 0, 1) := by decide +kernel
theorem dX12_reading_51 : decode cX12_reading 51 = .ok (.iconst (-1), 1) := by decide +kernel
theorem dX12_reading_52 : decode cX12_reading 52 = .ok (.invokevirtual 105, 3) := by decide +kernel
theorem dX12_reading_55 : decode cX12_reading 55 = .ok (.ireturn, 1) := by decide +kernel
theorem dX12_reading_56 : decode cX12_reading 56 = .ok (.aload_n 0, 1) := by decide +kernel
theorem dX12_reading_57 : decode cX12_reading 57 = .ok (.iload_n 1, 1) := by decide +kernel
theorem dX12_reading_58 : decode cX12_reading 58 = .ok (.invokevirtual 237, 3) := by decide +kernel
theorem dX12_reading_61 : decode cX12_reading 61 = .ok (.ifCond .ne 10, 3) := by decide +kernel
theorem dX12_reading_64 : decode cX12_reading 64 = .ok (.aload_n 0, 1) := by decide +kernel
theorem dX12_reading_65 : decode cX12_reading 65 = .ok (.bipush (-2), 2) := by decide +kernel
theorem dX12_reading_67 : decode cX12_reading 67 = .ok (.invokevirtual 105, 3) := by decide +kernel
theorem dX12_reading_70 : decode cX12_reading 70 = .ok (.ireturn, 1) := by decide +kernel
theorem dX12_reading_71 : decode cX12_reading 71 = .ok (.aload_n 0, 1) := by decide +kernel
theorem dX12_reading_72 : decode cX12_reading 72 = .ok (.getfield 7, 3) := by decide +kernel
theorem dX12_reading_75 : decode cX12_reading 75 = .ok (.bipush 9, 2) := by decide +kernel
theorem dX12_reading_77 : decode cX12_reading 77 = .ok (.iaload, 1) := by decide +kernel
theorem dX12_reading_78 : decode cX12_reading 78 = .ok (.bipush 60, 2) := by decide +kernel
theorem dX12_reading_80 : decode cX12_reading 80 = .ok (.if_icmp .ne 10, 3) := by decide +kernel
theorem dX12_reading_83 : decode cX12_reading 83 = .ok (.aload_n 0, 1) := by decide +kernel
theorem dX12_reading_84 : decode cX12_reading 84 = .ok (.bipush (-5), 2) := by decide +kernel
theorem dX12_reading_86 : decode cX12_reading 86 = .ok (.invokevirtual 105, 3) := by decide +kernel
theorem dX12_reading_89 : decode cX12_reading 89 = .ok (.ireturn, 1) := by decide +kernel
theorem dX12_reading_90 : decode cX12_reading 90 = .ok (.sipush 12619, 3) := by decide +kernel
theorem dX12_reading_93 : decode cX12_reading 93 = .ok (.iconst 5, 1) := by decide +kernel
theorem dX12_reading_94 : decode cX12_reading 94 = .ok (.aload_n 0, 1) := by decide +kernel
theorem dX12_reading_95 : decode cX12_reading 95 = .ok (.getfield 7, 3) := by decide +kernel
theorem dX12_reading_98 : decode cX12_reading 98 = .ok (.bipush 9, 2) := by decide +kernel
theorem dX12_reading_100 : decode cX12_reading 100 = .ok (.iaload, 1) := by decide +kernel
theorem dX12_reading_101 : decode cX12_reading 101 = .ok (.imul, 1) := by decide +kernel
theorem dX12_reading_102 : decode cX12_reading 102 = .ok (.iadd, 1) := by decide +kernel
theorem dX12_reading_103 : decode cX12_reading 103 = .ok (.istore 6, 2) := by decide +kernel
theorem dX12_reading_105 : decode cX12_reading 105 = .ok (.aload_n 0, 1) := by decide +kernel
theorem dX12_reading_106 : decode cX12_reading 106 = .ok (.iload 6, 2) := by decide +kernel
theorem dX12_reading_108 : decode cX12_reading 108 = .ok (.iload_n 1, 1) := by decide +kernel
theorem dX12_reading_109 : decode cX12_reading 109 = .ok (.iload_n 2, 1) := by decide +kernel
theorem dX12_reading_110 : decode cX12_reading 110 = .ok (.iload_n 3, 1) := by decide +kernel
theorem dX12_reading_111 : decode cX12_reading 111 = .ok (.iload 4, 2) := by decide +kernel
theorem dX12_reading_113 : decode cX12_reading 113 = .ok (.invokevirtual 118, 3) := by decide +kernel
theorem dX12_reading_116 : decode cX12_reading 116 = .ok (.aload_n 0, 1) := by decide +kernel
theorem dX12_reading_117 : decode cX12_reading 117 = .ok (.getfield 7, 3) := by decide +kernel
theorem dX12_reading_120 : decode cX12_reading 120 = .ok (.iload 6, 2) := by decide +kernel
theorem dX12_reading_122 : decode cX12_reading 122 = .ok (.iconst 4, 1) := by decide +kernel
theorem dX12_reading_123 : decode cX12_reading 123 = .ok (.iadd, 1) := by decide +kernel
theorem dX12_reading_124 : decode cX12_reading 124 = .ok (.iload 5, 2) := by decide +kernel
theorem dX12_reading_126 : decode cX12_reading 126 = .ok (.iastore, 1) := by decide +kernel
theorem dX12_reading_127 : decode cX12_reading 127 = .ok (.aload_n 0, 1) := by decide +kernel
theorem dX12_reading_128 : decode cX12_reading 128 = .ok (.getfield 7, 3) := by decide +kernel
theorem dX12_reading_131 : decode cX12_reading 131 = .ok (.bipush 9, 2) := by decide +kernel
theorem dX12_reading_133 : decode cX12_reading 133 = .ok (.dup2, 1) := by decide +kernel
theorem dX12_reading_134 : decode cX12_reading 134 = .ok (.iaload, 1) := by decide +kernel
theorem dX12_reading_135 : decode cX12_reading 135 = .ok (.iconst 1, 1) := by decide +kernel
theorem dX12_reading_136 : decode cX12_reading 136 = .ok (.iadd, 1) := by decide +kernel
theorem dX12_reading_137 : decode cX12_reading 137 = .ok (.iastore, 1) := by decide +kernel
theorem dX12_reading_138 : decode cX12_reading 138 = .ok (.aload_n 0, 1) := by decide +kernel
theorem dX12_reading_139 : decode cX12_reading 139 = .ok (.aload_n 0, 1) := by decide +kernel
theorem dX12_reading_140 : decode cX12_reading 140 = .ok (.getfield 7, 3) := by decide +kernel
theorem dX12_reading_143 : decode cX12_reading 143 = .ok (.bipush 9, 2) := by decide +kernel
theorem dX12_reading_145 : decode cX12_reading 145 = .ok (.iaload, 1) := by decide +kernel
theorem dX12_reading_146 : decode cX12_reading 146 = .ok (.invokevirtual 105, 3) := by decide +kernel
theorem dX12_reading_149 : decode cX12_reading 149 = .ok (.ireturn, 1) := by decide +kernel
set_option maxRecDepth 20000 in
theorem ggX12_cargo_X12_isHour : GoodIn wsX12_cargo wsX12_isHour := goodIn_r _ [8, 9, 10, 11, 7, 12] (by decide +kernel) (by decide +kernel)
set_option maxRecDepth 20000 in
theorem gX12_cargo_X12_isHour : GoodIn wsX12_cargo (va_wsS RX12 144 yX12_isHour wsX12_isHour) := goodIn_app (goodIn_of _ (by decide +kernel)) ggX12_cargo_X12_isHour
set_option maxRecDepth 20000 in
theorem ggX12_cargo_X12_in : GoodIn wsX12_cargo wsX12_in := goodIn_r _ [12] (by decide +kernel) (by decide +kernel)
set_option maxRecDepth 20000 in
theorem gX12_cargo_X12_in : GoodIn wsX12_cargo (va_wsS RX12 99 yX12_in wsX12_in) := goodIn_app (goodIn_of _ (by decide +kernel)) ggX12_cargo_X12_in
set_option maxRecDepth 20000 in
theorem ggX12_cargo_X12_told : GoodIn wsX12_cargo wsX12_told := goodIn_r _ [16, 17, 26, 27, 28, 29, 30, 31, 32, 33, 34, 35, 36, 37, 38, 39, 40, 41, 42, 43, 44, 45, 46, 47, 48, 49, 50, 51, 52, 53, 54, 55, 56, 57, 58, 59, 60, 61, 62, 63, 64, 65, 66, 67, 68, 69, 70, 71, 72, 73, 74, 75, 76, 77, 78] (by decide +kernel) (by decide +kernel)
set_option maxRecDepth 20000 in
theorem gX12_cargo_X12_told : GoodIn wsX12_cargo (wsV RX12 105 RX12 yX12_told wsX12_told) := goodIn_app (goodIn_of _ (by decide +kernel)) ggX12_cargo_X12_told
set_option maxRecDepth 20000 in
theorem ggX12_cargo_X12_isTerminal : GoodIn wsX12_cargo wsX12_isTerminal := goodIn_r _ [21, 4, 10, 11, 7, 12, 26, 27, 28, 29, 30, 31, 32, 33, 34, 35, 36, 37, 38, 39, 40, 41, 42, 43, 44, 45, 46, 47, 48, 49, 50, 51, 52, 53, 54, 55, 56, 57, 58, 59, 60, 61, 62, 63, 64, 65, 66, 67, 68, 69, 70, 71, 72, 73, 74, 75, 76, 77, 78] (by decide +kernel) (by decide +kernel)
set_option maxRecDepth 20000 in
theorem gX12_cargo_X12_isTerminal : GoodIn wsX12_cargo (wsV RX12 128 RX12 yX12_isTerminal wsX12_isTerminal) := goodIn_app (goodIn_of _ (by decide +kernel)) ggX12_cargo_X12_isTerminal
set_option maxRecDepth 20000 in
theorem ggX12_cargo_X12_addFour : GoodIn wsX12_cargo wsX12_addFour := goodIn_r _ [25, 4, 26, 27, 28, 29, 30, 31, 32, 33, 34, 35, 36, 37, 38, 39, 40, 41, 42, 43, 44, 45, 46, 47, 48, 49, 50, 51, 52, 53, 54, 55, 56, 57, 58, 59, 60, 61, 62, 63, 64, 65, 66, 67, 68, 69, 70, 71, 72, 73, 74, 75, 76, 77, 78] (by decide +kernel) (by decide +kernel)
set_option maxRecDepth 20000 in
theorem gX12_cargo_X12_addFour : GoodIn wsX12_cargo (wsV RX12 118 RX12 yX12_addFour wsX12_addFour) := goodIn_app (goodIn_of _ (by decide +kernel)) ggX12_cargo_X12_addFour
theorem dX12_cargo_0 : decode cX12_cargo 0 = .ok (.aload_n 0, 1) := by decide +kernel
theorem dX12_cargo_1 : decode cX12_cargo 1 = .ok (.iconst 0, 1) := by decide +kernel
theorem dX12_cargo_2 : decode cX12_cargo 2 = .ok (.putfield 91, 3) := by decide +kernel
theorem dX12_cargo_5 : decode cX12_cargo 5 = .ok (.iload 4, 2) := by decide +kernel
theorem dX12_cargo_7 : decode cX12_cargo 7 = .ok (.invokestatic 144, 3) := by decide +kernel
theorem dX12_cargo_10 : decode cX12_cargo 10 = .ok (.ifCond .eq 62, 3) := by decide +kernel
theorem dX12_cargo_13 : decode cX12_cargo 13 = .ok (.iload_n 3, 1) := by decide +kernel
theorem dX12_cargo_14 : decode cX12_cargo 14 = .ok (.i2l, 1) := by decide +kernel
theorem dX12_cargo_15 : decode cX12_cargo 15 = .ok (.lconst 0, 1) := by decide +kernel
theorem dX12_cargo_16 : decode cX12_cargo 16 = .ok (.iload 4, 2) := by decide +kernel
theorem dX12_cargo_18 : decode cX12_cargo 18 = .ok (.i2l, 1) := by decide +kernel
theorem dX12_cargo_19 : decode cX12_cargo 19 = .ok (.invokestatic 99, 3) := by decide +kernel
theorem dX12_cargo_22 : decode cX12_cargo 22 = .ok (.ifCond .eq 50, 3) := by decide +kernel
theorem dX12_cargo_25 : decode cX12_cargo 25 = .ok (.iload 6, 2) := by decide +kernel
theorem dX12_cargo_27 : decode cX12_cargo 27 = .ok (.invokestatic 144, 3) := by decide +kernel
theorem dX12_cargo_30 : decode cX12_cargo 30 = .ok (.ifCond .eq 42, 3) := by decide +kernel
theorem dX12_cargo_33 : decode cX12_cargo 33 = .ok (.iload 5, 2) := by decide +kernel
theorem dX12_cargo_35 : decode cX12_cargo 35 = .ok (.i2l, 1) := by decide +kernel
theorem dX12_cargo_36 : decode cX12_cargo 36 = .ok (.lconst 0, 1) := by decide +kernel
theorem dX12_cargo_37 : decode cX12_cargo 37 = .ok (.iload 6, 2) := by decide +kernel
theorem dX12_cargo_39 : decode cX12_cargo 39 = .ok (.i2l, 1) := by decide +kernel
theorem dX12_cargo_40 : decode cX12_cargo 40 = .ok (.invokestatic 99, 3) := by decide +kernel
theorem dX12_cargo_43 : decode cX12_cargo 43 = .ok (.ifCond .eq 29, 3) := by decide +kernel
theorem dX12_cargo_46 : decode cX12_cargo 46 = .ok (.iload 7, 2) := by decide +kernel
theorem dX12_cargo_48 : decode cX12_cargo 48 = .ok (.i2l, 1) := by decide +kernel
theorem dX12_cargo_49 : decode cX12_cargo 49 = .ok (.lconst 1, 1) := by decide +kernel
theorem dX12_cargo_50 : decode cX12_cargo 50 = .ok (.ldc2_w 124, 3) := by decide +kernel
theorem dX12_cargo_53 : decode cX12_cargo 53 = .ok (.invokestatic 99, 3) := by decide +kernel
theorem dX12_cargo_56 : decode cX12_cargo 56 = .ok (.ifCond .eq 16, 3) := by decide +kernel
theorem dX12_cargo_59 : decode cX12_cargo 59 = .ok (.iload 8, 2) := by decide +kernel
theorem dX12_cargo_61 : decode cX12_cargo 61 = .ok (.i2l, 1) := by decide +kernel
theorem dX12_cargo_62 : decode cX12_cargo 62 = .ok (.lconst 0, 1) := by decide +kernel
theorem dX12_cargo_63 : decode cX12_cargo 63 = .ok (.ldc2_w 122, 3) := by decide +kernel
theorem dX12_cargo_66 : decode cX12_cargo 66 = .ok (.invokestatic 99, 3) := by decide +kernel
theorem dX12_cargo_69 : decode cX12_cargo 69 = .ok (.ifCond .ne 9, 3) := by decide +kernel
theorem dX12_cargo_72 : decode cX12_cargo 72 = .ok (.aload_n 0, 1) := by decide +kernel
theorem dX12_cargo_73 : decode cX12_cargo 73 = .ok (.iconst (-1), 1) := by decide +kernel
theorem dX12_cargo_74 : decode cX12_cargo 74 = .ok (.invokevirtual 105, 3) := by decide +kernel
theorem dX12_cargo_77 : decode cX12_cargo 77 = .ok (.ireturn, 1) := by decide +kernel
theorem dX12_cargo_78 : decode cX12_cargo 78 = .ok (.aload_n 0, 1) := by decide +kernel
theorem dX12_cargo_79 : decode cX12_cargo 79 = .ok (.iload_n 1, 1) := by decide +kernel
theorem dX12_cargo_80 : decode cX12_cargo 80 = .ok (.invokevirtual 128, 3) := by decide +kernel
theorem dX12_cargo_83 : decode cX12_cargo 83 = .ok (.ifCond .eq 11, 3) := by decide +kernel
theorem dX12_cargo_86 : decode cX12_cargo 86 = .ok (.aload_n 0, 1) := by decide +kernel
theorem dX12_cargo_87 : decode cX12_cargo 87 = .ok (.iload_n 2, 1) := by decide +kernel
theorem dX12_cargo_88 : decode cX12_cargo 88 = .ok (.invokevirtual 128, 3) := by decide +kernel
theorem dX12_cargo_91 : decode cX12_cargo 91 = .ok (.ifCond .ne 10, 3) := by decide +kernel
theorem dX12_cargo_94 : decode cX12_cargo 94 = .ok (.aload_n 0, 1) := by decide +kernel
theorem dX12_cargo_95 : decode cX12_cargo 95 = .ok (.bipush (-2), 2) := by decide +kernel
theorem dX12_cargo_97 : decode cX12_cargo 97 = .ok (.invokevirtual 105, 3) := by decide +kernel
theorem dX12_cargo_100 : decode cX12_cargo 100 = .ok (.ireturn, 1) := by decide +kernel
theorem dX12_cargo_101 : decode cX12_cargo 101 = .ok (.iload_n 1, 1) := by decide +kernel
theorem dX12_cargo_102 : decode cX12_cargo 102 = .ok (.iload_n 2, 1) := by decide +kernel
theorem dX12_cargo_103 : decode cX12_cargo 103 = .ok (.if_icmp .ne 10, 3) := by decide +kernel
theorem dX12_cargo_106 : decode cX12_cargo 106 = .ok (.aload_n 0, 1) := by decide +kernel
theorem dX12_cargo_107 : decode cX12_cargo 107 = .ok (.bipush (-3), 2) := by decide +kernel
theorem dX12_cargo_109 : decode cX12_cargo 109 = .ok (.invokevirtual 105, 3) := by decide +kernel
theorem dX12_cargo_112 : decode cX12_cargo 112 = .ok (.ireturn, 1) := by decide +kernel
theorem dX12_cargo_113 : decode cX12_cargo 113 = .ok (.aload_n 0, 1) := by decide +kernel
theorem dX12_cargo_114 : decode cX12_cargo 114 = .ok (.getfield 7, 3) := by decide +kernel
theorem dX12_cargo_117 : decode cX12_cargo 117 = .ok (.bipush 10, 2) := by decide +kernel
theorem dX12_cargo_119 : decode cX12_cargo 119 = .ok (.iaload, 1) := by decide +kernel
theorem dX12_cargo_120 : decode cX12_cargo 120 = .ok (.bipush 6, 2) := by decide +kernel
theorem dX12_cargo_122 : decode cX12_cargo 122 = .ok (.if_icmp .ne 10, 3) := by decide +kernel
theorem dX12_cargo_125 : decode cX12_cargo 125 = .ok (.aload_n 0, 1) := by decide +kernel
theorem dX12_cargo_126 : decode cX12_cargo 126 = .ok (.bipush (-5), 2) := by decide +kernel
theorem dX12_cargo_128 : decode cX12_cargo 128 = .ok (.invokevirtual 105, 3) := by decide +kernel
theorem dX12_cargo_131 : decode cX12_cargo 131 = .ok (.ireturn, 1) := by decide +kernel
theorem dX12_cargo_132 : decode cX12_cargo 132 = .ok (.sipush 12919, 3) := by decide +kernel
theorem dX12_cargo_135 : decode cX12_cargo 135 = .ok (.bipush 8, 2) := by decide +kernel
theorem dX12_cargo_137 : decode cX12_cargo 137 = .ok (.aload_n 0, 1) := by decide +kernel
theorem dX12_cargo_138 : decode cX12_cargo 138 = .ok (.getfield 7, 3) := by decide +kernel
theorem dX12_cargo_141 : decode cX12_cargo 141 = .ok (.bipush 10, 2) := by decide +kernel
theorem dX12_cargo_143 : decode cX12_cargo 143 = .ok (.iaload, 1) := by decide +kernel
theorem dX12_cargo_144 : decode cX12_cargo 144 = .ok (.imul, 1) := by decide +kernel
theorem dX12_cargo_145 : decode cX12_cargo 145 = .ok (.iadd, 1) := by decide +kernel
theorem dX12_cargo_146 : decode cX12_cargo 146 = .ok (.istore 9, 2) := by decide +kernel
theorem dX12_cargo_148 : decode cX12_cargo 148 = .ok (.aload_n 0, 1) := by decide +kernel
theorem dX12_cargo_149 : decode cX12_cargo 149 = .ok (.iload 9, 2) := by decide +kernel
theorem dX12_cargo_151 : decode cX12_cargo 151 = .ok (.iload_n 1, 1) := by decide +kernel
theorem dX12_cargo_152 : decode cX12_cargo 152 = .ok (.iload_n 2, 1) := by decide +kernel
theorem dX12_cargo_153 : decode cX12_cargo 153 = .ok (.iload_n 3, 1) := by decide +kernel
theorem dX12_cargo_154 : decode cX12_cargo 154 = .ok (.iload 4, 2) := by decide +kernel
theorem dX12_cargo_156 : decode cX12_cargo 156 = .ok (.invokevirtual 118, 3) := by decide +kernel
theorem dX12_cargo_159 : decode cX12_cargo 159 = .ok (.aload_n 0, 1) := by decide +kernel
theorem dX12_cargo_160 : decode cX12_cargo 160 = .ok (.iload 9, 2) := by decide +kernel
theorem dX12_cargo_162 : decode cX12_cargo 162 = .ok (.iconst 4, 1) := by decide +kernel
theorem dX12_cargo_163 : decode cX12_cargo 163 = .ok (.iadd, 1) := by decide +kernel
theorem dX12_cargo_164 : decode cX12_cargo 164 = .ok (.iload 5, 2) := by decide +kernel
theorem dX12_cargo_166 : decode cX12_cargo 166 = .ok (.iload 6, 2) := by decide +kernel
theorem dX12_cargo_168 : decode cX12_cargo 168 = .ok (.iload 7, 2) := by decide +kernel
theorem dX12_cargo_170 : decode cX12_cargo 170 = .ok (.iload 8, 2) := by decide +kernel
theorem dX12_cargo_172 : decode cX12_cargo 172 = .ok (.invokevirtual 118, 3) := by decide +kernel
theorem dX12_cargo_175 : decode cX12_cargo 175 = .ok (.aload_n 0, 1) := by decide +kernel
theorem dX12_cargo_176 : decode cX12_cargo 176 = .ok (.getfield 7, 3) := by decide +kernel
theorem dX12_cargo_179 : decode cX12_cargo 179 = .ok (.bipush 10, 2) := by decide +kernel
theorem dX12_cargo_181 : decode cX12_cargo 181 = .ok (.dup2, 1) := by decide +kernel
theorem dX12_cargo_182 : decode cX12_cargo 182 = .ok (.iaload, 1) := by decide +kernel
theorem dX12_cargo_183 : decode cX12_cargo 183 = .ok (.iconst 1, 1) := by decide +kernel
theorem dX12_cargo_184 : decode cX12_cargo 184 = .ok (.iadd, 1) := by decide +kernel
theorem dX12_cargo_185 : decode cX12_cargo 185 = .ok (.iastore, 1) := by decide +kernel
theorem dX12_cargo_186 : decode cX12_cargo 186 = .ok (.aload_n 0, 1) := by decide +kernel
theorem dX12_cargo_187 : decode cX12_cargo 187 = .ok (.aload_n 0, 1) := by decide +kernel
theorem dX12_cargo_188 : decode cX12_cargo 188 = .ok (.getfield 7, 3) := by decide +kernel
theorem dX12_cargo_191 : decode cX12_cargo 191 = .ok (.bipush 10, 2) := by decide +kernel
theorem dX12_cargo_193 : decode cX12_cargo 193 = .ok (.iaload, 1) := by decide +kernel
theorem dX12_cargo_194 : decode cX12_cargo 194 = .ok (.invokevirtual 105, 3) := by decide +kernel
theorem dX12_cargo_197 : decode cX12_cargo 197 = .ok (.ireturn, 1) := by decide +kernel
theorem dX12_clear_0 : decode cX12_clear 0 = .ok (.aload_n 0, 1) := by decide +kernel
theorem dX12_clear_1 : decode cX12_clear 1 = .ok (.iconst 0, 1) := by decide +kernel
theorem dX12_clear_2 : decode cX12_clear 2 = .ok (.putfield 91, 3) := by decide +kernel
theorem dX12_clear_5 : decode cX12_clear 5 = .ok (.aload_n 0, 1) := by decide +kernel
theorem dX12_clear_6 : decode cX12_clear 6 = .ok (.getfield 7, 3) := by decide +kernel
theorem dX12_clear_9 : decode cX12_clear 9 = .ok (.bipush 10, 2) := by decide +kernel
theorem dX12_clear_11 : decode cX12_clear 11 = .ok (.iaload, 1) := by decide +kernel
theorem dX12_clear_12 : decode cX12_clear 12 = .ok (.istore_n 1, 1) := by decide +kernel
theorem dX12_clear_13 : decode cX12_clear 13 = .ok (.aload_n 0, 1) := by decide +kernel
theorem dX12_clear_14 : decode cX12_clear 14 = .ok (.getfield 7, 3) := by decide +kernel
theorem dX12_clear_17 : decode cX12_clear 17 = .ok (.bipush 10, 2) := by decide +kernel
theorem dX12_clear_19 : decode cX12_clear 19 = .ok (.iconst 0, 1) := by decide +kernel
theorem dX12_clear_20 : decode cX12_clear 20 = .ok (.iastore, 1) := by decide +kernel
theorem dX12_clear_21 : decode cX12_clear 21 = .ok (.iload_n 1, 1) := by decide +kernel
theorem dX12_clear_22 : decode cX12_clear 22 = .ok (.ireturn, 1) := by decide +kernel
set_option maxRecDepth 20000 in
theorem ggX12_voyage_X12_in : GoodIn wsX12_voyage wsX12_in := goodIn_r _ [10] (by decide +kernel) (by decide +kernel)
set_option maxRecDepth 20000 in
theorem gX12_voyage_X12_in : GoodIn wsX12_voyage (va_wsS RX12 99 yX12_in wsX12_in) := goodIn_app (goodIn_of _ (by decide +kernel)) ggX12_voyage_X12_in
theorem dX12_voyage_0 : decode cX12_voyage 0 = .ok (.aload_n 0, 1) := by decide +kernel
theorem dX12_voyage_1 : decode cX12_voyage 1 = .ok (.iconst 0, 1) := by decide +kernel
theorem dX12_voyage_2 : decode cX12_voyage 2 = .ok (.putfield 91, 3) := by decide +kernel
theorem dX12_voyage_5 : decode cX12_voyage 5 = .ok (.aload_n 0, 1) := by decide +kernel
theorem dX12_voyage_6 : decode cX12_voyage 6 = .ok (.getfield 538, 3) := by decide +kernel
theorem dX12_voyage_9 : decode cX12_voyage 9 = .ok (.ifCond .eq 44, 3) := by decide +kernel
theorem dX12_voyage_12 : decode cX12_voyage 12 = .ok (.iload_n 1, 1) := by decide +kernel
theorem dX12_voyage_13 : decode cX12_voyage 13 = .ok (.i2l, 1) := by decide +kernel
theorem dX12_voyage_14 : decode cX12_voyage 14 = .ok (.lconst 0, 1) := by decide +kernel
theorem dX12_voyage_15 : decode cX12_voyage 15 = .ok (.aload_n 0, 1) := by decide +kernel
theorem dX12_voyage_16 : decode cX12_voyage 16 = .ok (.getfield 541, 3) := by decide +kernel
theorem dX12_voyage_19 : decode cX12_voyage 19 = .ok (.i2l, 1) := by decide +kernel
theorem dX12_voyage_20 : decode cX12_voyage 20 = .ok (.lconst 1, 1) := by decide +kernel
theorem dX12_voyage_21 : decode cX12_voyage 21 = .ok (.lsub, 1) := by decide +kernel
theorem dX12_voyage_22 : decode cX12_voyage 22 = .ok (.invokestatic 99, 3) := by decide +kernel
theorem dX12_voyage_25 : decode cX12_voyage 25 = .ok (.ifCond .eq 28, 3) := by decide +kernel
theorem dX12_voyage_28 : decode cX12_voyage 28 = .ok (.iload_n 2, 1) := by decide +kernel
theorem dX12_voyage_29 : decode cX12_voyage 29 = .ok (.i2l, 1) := by decide +kernel
theorem dX12_voyage_30 : decode cX12_voyage 30 = .ok (.lconst 0, 1) := by decide +kernel
theorem dX12_voyage_31 : decode cX12_voyage 31 = .ok (.ldc2_w 464, 3) := by decide +kernel
theorem dX12_voyage_34 : decode cX12_voyage 34 = .ok (.invokestatic 99, 3) := by decide +kernel
theorem dX12_voyage_37 : decode cX12_voyage 37 = .ok (.ifCond .eq 16, 3) := by decide +kernel
theorem dX12_voyage_40 : decode cX12_voyage 40 = .ok (.aload_n 0, 1) := by decide +kernel
theorem dX12_voyage_41 : decode cX12_voyage 41 = .ok (.getfield 82, 3) := by decide +kernel
theorem dX12_voyage_44 : decode cX12_voyage 44 = .ok (.iconst 5, 1) := by decide +kernel
theorem dX12_voyage_45 : decode cX12_voyage 45 = .ok (.iload_n 1, 1) := by decide +kernel
theorem dX12_voyage_46 : decode cX12_voyage 46 = .ok (.imul, 1) := by decide +kernel
theorem dX12_voyage_47 : decode cX12_voyage 47 = .ok (.iload_n 2, 1) := by decide +kernel
theorem dX12_voyage_48 : decode cX12_voyage 48 = .ok (.iadd, 1) := by decide +kernel
theorem dX12_voyage_49 : decode cX12_voyage 49 = .ok (.laload, 1) := by decide +kernel
theorem dX12_voyage_50 : decode cX12_voyage 50 = .ok (.goto 6, 3) := by decide +kernel
theorem dX12_voyage_53 : decode cX12_voyage 53 = .ok (.ldc2_w 466, 3) := by decide +kernel
theorem dX12_voyage_56 : decode cX12_voyage 56 = .ok (.lreturn, 1) := by decide +kernel
theorem dX12_count_0 : decode cX12_count 0 = .ok (.aload_n 0, 1) := by decide +kernel
theorem dX12_count_1 : decode cX12_count 1 = .ok (.iconst 0, 1) := by decide +kernel
theorem dX12_count_2 : decode cX12_count 2 = .ok (.putfield 91, 3) := by decide +kernel
theorem dX12_count_5 : decode cX12_count 5 = .ok (.iload_n 1, 1) := by decide +kernel
theorem dX12_count_6 : decode cX12_count 6 = .ok (.tableswitch 115 0 8 #[50, 58, 65, 72, 79, 86, 94, 102, 110], 50) := by decide +kernel
theorem dX12_count_56 : decode cX12_count 56 = .ok (.aload_n 0, 1) := by decide +kernel
theorem dX12_count_57 : decode cX12_count 57 = .ok (.getfield 7, 3) := by decide +kernel
theorem dX12_count_60 : decode cX12_count 60 = .ok (.bipush 11, 2) := by decide +kernel
theorem dX12_count_62 : decode cX12_count 62 = .ok (.iaload, 1) := by decide +kernel
theorem dX12_count_63 : decode cX12_count 63 = .ok (.ireturn, 1) := by decide +kernel
theorem dX12_count_64 : decode cX12_count 64 = .ok (.aload_n 0, 1) := by decide +kernel
theorem dX12_count_65 : decode cX12_count 65 = .ok (.getfield 7, 3) := by decide +kernel
theorem dX12_count_68 : decode cX12_count 68 = .ok (.iconst 0, 1) := by decide +kernel
theorem dX12_count_69 : decode cX12_count 69 = .ok (.iaload, 1) := by decide +kernel
theorem dX12_count_70 : decode cX12_count 70 = .ok (.ireturn, 1) := by decide +kernel
theorem dX12_count_71 : decode cX12_count 71 = .ok (.aload_n 0, 1) := by decide +kernel
theorem dX12_count_72 : decode cX12_count 72 = .ok (.getfield 7, 3) := by decide +kernel
theorem dX12_count_75 : decode cX12_count 75 = .ok (.iconst 1, 1) := by decide +kernel
theorem dX12_count_76 : decode cX12_count 76 = .ok (.iaload, 1) := by decide +kernel
theorem dX12_count_77 : decode cX12_count 77 = .ok (.ireturn, 1) := by decide +kernel
theorem dX12_count_78 : decode cX12_count 78 = .ok (.aload_n 0, 1) := by decide +kernel
theorem dX12_count_79 : decode cX12_count 79 = .ok (.getfield 7, 3) := by decide +kernel
theorem dX12_count_82 : decode cX12_count 82 = .ok (.iconst 2, 1) := by decide +kernel
theorem dX12_count_83 : decode cX12_count 83 = .ok (.iaload, 1) := by decide +kernel
theorem dX12_count_84 : decode cX12_count 84 = .ok (.ireturn, 1) := by decide +kernel
theorem dX12_count_85 : decode cX12_count 85 = .ok (.aload_n 0, 1) := by decide +kernel
theorem dX12_count_86 : decode cX12_count 86 = .ok (.getfield 7, 3) := by decide +kernel
theorem dX12_count_89 : decode cX12_count 89 = .ok (.iconst 5, 1) := by decide +kernel
theorem dX12_count_90 : decode cX12_count 90 = .ok (.iaload, 1) := by decide +kernel
theorem dX12_count_91 : decode cX12_count 91 = .ok (.ireturn, 1) := by decide +kernel
theorem dX12_count_92 : decode cX12_count 92 = .ok (.aload_n 0, 1) := by decide +kernel
theorem dX12_count_93 : decode cX12_count 93 = .ok (.getfield 7, 3) := by decide +kernel
theorem dX12_count_96 : decode cX12_count 96 = .ok (.bipush 8, 2) := by decide +kernel
theorem dX12_count_98 : decode cX12_count 98 = .ok (.iaload, 1) := by decide +kernel
theorem dX12_count_99 : decode cX12_count 99 = .ok (.ireturn, 1) := by decide +kernel
theorem dX12_count_100 : decode cX12_count 100 = .ok (.aload_n 0, 1) := by decide +kernel
theorem dX12_count_101 : decode cX12_count 101 = .ok (.getfield 7, 3) := by decide +kernel
theorem dX12_count_104 : decode cX12_count 104 = .ok (.bipush 10, 2) := by decide +kernel
theorem dX12_count_106 : decode cX12_count 106 = .ok (.iaload, 1) := by decide +kernel
theorem dX12_count_107 : decode cX12_count 107 = .ok (.ireturn, 1) := by decide +kernel
theorem dX12_count_108 : decode cX12_count 108 = .ok (.aload_n 0, 1) := by decide +kernel
theorem dX12_count_109 : decode cX12_count 109 = .ok (.getfield 7, 3) := by decide +kernel
theorem dX12_count_112 : decode cX12_count 112 = .ok (.bipush 9, 2) := by decide +kernel
theorem dX12_count_114 : decode cX12_count 114 = .ok (.iaload, 1) := by decide +kernel
theorem dX12_count_115 : decode cX12_count 115 = .ok (.ireturn, 1) := by decide +kernel
theorem dX12_count_116 : decode cX12_count 116 = .ok (.aload_n 0, 1) := by decide +kernel
theorem dX12_count_117 : decode cX12_count 117 = .ok (.getfield 252, 3) := by decide +kernel
theorem dX12_count_120 : decode cX12_count 120 = .ok (.ireturn, 1) := by decide +kernel
theorem dX12_count_121 : decode cX12_count 121 = .ok (.iconst (-1), 1) := by decide +kernel
theorem dX12_count_122 : decode cX12_count 122 = .ok (.ireturn, 1) := by decide +kernel
theorem dX12_status_0 : decode cX12_status 0 = .ok (.aload_n 0, 1) := by decide +kernel
theorem dX12_status_1 : decode cX12_status 1 = .ok (.iconst 0, 1) := by decide +kernel
theorem dX12_status_2 : decode cX12_status 2 = .ok (.putfield 91, 3) := by decide +kernel
theorem dX12_status_5 : decode cX12_status 5 = .ok (.aload_n 0, 1) := by decide +kernel
theorem dX12_status_6 : decode cX12_status 6 = .ok (.getfield 94, 3) := by decide +kernel
theorem dX12_status_9 : decode cX12_status 9 = .ok (.ireturn, 1) := by decide +kernel
