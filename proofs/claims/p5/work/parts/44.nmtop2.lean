abbrev cX12_terminal : ByteArray := prog_14_method_14_code
def yX12_terminal : MethodName := ⟨RX12, "terminal", "(IIII)I"⟩
abbrev cX12_ship : ByteArray := prog_14_method_15_code
def yX12_ship : MethodName := ⟨RX12, "ship", "(III)I"⟩
abbrev cX12_way : ByteArray := prog_14_method_16_code
def yX12_way : MethodName := ⟨RX12, "way", "(IIIZ)I"⟩
abbrev cX12_wayOf : ByteArray := prog_14_method_17_code
def yX12_wayOf : MethodName := ⟨RX12, "wayOf", "(II)I"⟩
abbrev cX12_slot : ByteArray := prog_14_method_20_code
def yX12_slot : MethodName := ⟨RX12, "slot", "(IIII)I"⟩
abbrev cX12_broken : ByteArray := prog_14_method_21_code
def yX12_broken : MethodName := ⟨RX12, "broken", "(III)I"⟩
abbrev cX12_isBroken : ByteArray := prog_14_method_22_code
def yX12_isBroken : MethodName := ⟨RX12, "isBroken", "(II)Z"⟩
abbrev cX12_order : ByteArray := prog_14_method_24_code
def yX12_order : MethodName := ⟨RX12, "order", "(III)I"⟩
abbrev cX12_beginOrder : ByteArray := prog_14_method_25_code
def yX12_beginOrder : MethodName := ⟨RX12, "beginOrder", "(I)V"⟩
def wsX12_terminal : List Cond := .code yX12_terminal cX12_terminal 6 (some .int) :: ([.fieldLink RX12 91 "ColdShipsModel" "thrown" "I", .constantLong RX12 109 (500000), .constantLong RX12 111 (10000), .constantLong RX12 113 (30), .fieldLink RX12 7 "ColdShipsModel" "row" "[I", .methodLink RX12 99 yX12_in, .static yX12_in, .initialized RX12, .code yX12_in cX12_in 6 (some .boolean), .methodLink RX12 105 yX12_told, .instanceMethod yX12_told, .selects RX12 yX12_told yX12_told, .code yX12_told cX12_told 2 (some .int), .fieldLink RX12 94 "ColdShipsModel" "status" "I", .methodLink RX12 115 yX12_terminalAt, .static yX12_terminalAt, .code yX12_terminalAt cX12_terminalAt 1 (some .int), .methodLink RX12 118 yX12_addFour, .instanceMethod yX12_addFour, .selects RX12 yX12_addFour yX12_addFour, .code yX12_addFour cX12_addFour 6 none] ++ wsX120)
def wsX12_ship : List Cond := .code yX12_ship cX12_ship 6 (some .int) :: ([.fieldLink RX12 91 "ColdShipsModel" "thrown" "I", .constantLong RX12 122 (1000), .constantLong RX12 124 (200000), .constantLong RX12 126 (50), .fieldLink RX12 7 "ColdShipsModel" "row" "[I", .methodLink RX12 99 yX12_in, .static yX12_in, .initialized RX12, .code yX12_in cX12_in 6 (some .boolean), .methodLink RX12 105 yX12_told, .instanceMethod yX12_told, .selects RX12 yX12_told yX12_told, .code yX12_told cX12_told 2 (some .int), .fieldLink RX12 94 "ColdShipsModel" "status" "I", .methodLink RX12 128 yX12_isTerminal, .instanceMethod yX12_isTerminal, .selects RX12 yX12_isTerminal yX12_isTerminal, .code yX12_isTerminal cX12_isTerminal 2 (some .boolean), .methodLink RX12 132 yX12_shipAt, .static yX12_shipAt, .code yX12_shipAt cX12_shipAt 1 (some .int)] ++ wsX120)
def wsX12_way : List Cond := .code yX12_way cX12_way 7 (some .int) :: ([.fieldLink RX12 91 "ColdShipsModel" "thrown" "I", .constantLong RX12 135 (400), .fieldLink RX12 7 "ColdShipsModel" "row" "[I", .methodLink RX12 99 yX12_in, .static yX12_in, .initialized RX12, .code yX12_in cX12_in 6 (some .boolean), .methodLink RX12 105 yX12_told, .instanceMethod yX12_told, .selects RX12 yX12_told yX12_told, .code yX12_told cX12_told 2 (some .int), .fieldLink RX12 94 "ColdShipsModel" "status" "I", .methodLink RX12 128 yX12_isTerminal, .instanceMethod yX12_isTerminal, .selects RX12 yX12_isTerminal yX12_isTerminal, .code yX12_isTerminal cX12_isTerminal 2 (some .boolean)] ++ wsX120)
def wsX12_wayOf : List Cond := .code yX12_wayOf cX12_wayOf 3 (some .int) :: ([.fieldLink RX12 7 "ColdShipsModel" "row" "[I"] ++ wsX120)
def wsX12_slot_r1 : List Cond := [Cond.fieldLink RX12 91 "ColdShipsModel" "thrown" "I", Cond.fieldLink RX12 7 "ColdShipsModel" "row" "[I", Cond.methodLink RX12 144 yX12_isHour, Cond.static yX12_isHour, Cond.initialized RX12, Cond.code yX12_isHour cX12_isHour 1 (some .boolean), Cond.constantLong RX12 97 (2399), Cond.methodLink RX12 99 yX12_in, Cond.static yX12_in, Cond.code yX12_in cX12_in 6 (some .boolean), Cond.methodLink RX12 105 yX12_told, Cond.instanceMethod yX12_told, Cond.selects RX12 yX12_told yX12_told, Cond.code yX12_told cX12_told 2 (some .int), Cond.fieldLink RX12 94 "ColdShipsModel" "status" "I", Cond.methodLink RX12 128 yX12_isTerminal, Cond.instanceMethod yX12_isTerminal, Cond.selects RX12 yX12_isTerminal yX12_isTerminal, Cond.code yX12_isTerminal cX12_isTerminal 2 (some .boolean), Cond.methodLink RX12 147 yX12_isShip, Cond.instanceMethod yX12_isShip, Cond.selects RX12 yX12_isShip yX12_isShip, Cond.code yX12_isShip cX12_isShip 2 (some .boolean), Cond.methodLink RX12 118 yX12_addFour]
def wsX12_slot_r2 : List Cond := [Cond.instanceMethod yX12_addFour, Cond.selects RX12 yX12_addFour yX12_addFour, Cond.code yX12_addFour cX12_addFour 6 none]
def wsX12_slot : List Cond := .code yX12_slot cX12_slot 7 (some .int) :: ((wsX12_slot_r1 ++ wsX12_slot_r2) ++ wsX120)
def wsX12_broken : List Cond := .code yX12_broken cX12_broken 5 (some .int) :: ([.fieldLink RX12 91 "ColdShipsModel" "thrown" "I", .fieldLink RX12 7 "ColdShipsModel" "row" "[I", .methodLink RX12 144 yX12_isHour, .static yX12_isHour, .initialized RX12, .code yX12_isHour cX12_isHour 1 (some .boolean), .constantLong RX12 97 (2399), .methodLink RX12 99 yX12_in, .static yX12_in, .code yX12_in cX12_in 6 (some .boolean), .methodLink RX12 105 yX12_told, .instanceMethod yX12_told, .selects RX12 yX12_told yX12_told, .code yX12_told cX12_told 2 (some .int), .fieldLink RX12 94 "ColdShipsModel" "status" "I", .methodLink RX12 128 yX12_isTerminal, .instanceMethod yX12_isTerminal, .selects RX12 yX12_isTerminal yX12_isTerminal, .code yX12_isTerminal cX12_isTerminal 2 (some .boolean)] ++ wsX120)
def wsX12_isBroken : List Cond := .code yX12_isBroken cX12_isBroken 6 (some .boolean) :: ([.fieldLink RX12 7 "ColdShipsModel" "row" "[I", .methodLink RX12 99 yX12_in, .static yX12_in, .initialized RX12, .code yX12_in cX12_in 6 (some .boolean)] ++ wsX120)
def wsX12_beginOrder : List Cond := .code yX12_beginOrder cX12_beginOrder 3 none :: ([.fieldLink RX12 7 "ColdShipsModel" "row" "[I"] ++ wsX120)
def wsX12_order_r1 : List Cond := [Cond.fieldLink RX12 91 "ColdShipsModel" "thrown" "I", Cond.constantLong RX12 152 (3), Cond.constantLong RX12 124 (200000), Cond.fieldLink RX12 7 "ColdShipsModel" "row" "[I", Cond.methodLink RX12 99 yX12_in, Cond.static yX12_in, Cond.initialized RX12, Cond.code yX12_in cX12_in 6 (some .boolean), Cond.methodLink RX12 144 yX12_isHour, Cond.static yX12_isHour, Cond.code yX12_isHour cX12_isHour 1 (some .boolean), Cond.constantLong RX12 97 (2399), Cond.methodLink RX12 105 yX12_told, Cond.instanceMethod yX12_told, Cond.selects RX12 yX12_told yX12_told, Cond.code yX12_told cX12_told 2 (some .int), Cond.fieldLink RX12 94 "ColdShipsModel" "status" "I", Cond.methodLink RX12 147 yX12_isShip, Cond.instanceMethod yX12_isShip, Cond.selects RX12 yX12_isShip yX12_isShip, Cond.code yX12_isShip cX12_isShip 2 (some .boolean), Cond.methodLink RX12 128 yX12_isTerminal, Cond.instanceMethod yX12_isTerminal, Cond.selects RX12 yX12_isTerminal yX12_isTerminal]
def wsX12_order_r2 : List Cond := [Cond.code yX12_isTerminal cX12_isTerminal 2 (some .boolean), Cond.methodLink RX12 132 yX12_shipAt, Cond.static yX12_shipAt, Cond.code yX12_shipAt cX12_shipAt 1 (some .int), Cond.methodLink RX12 154 yX12_beginOrder, Cond.instanceMethod yX12_beginOrder, Cond.selects RX12 yX12_beginOrder yX12_beginOrder, Cond.code yX12_beginOrder cX12_beginOrder 3 none]
def wsX12_order : List Cond := .code yX12_order cX12_order 7 (some .int) :: ((wsX12_order_r1 ++ wsX12_order_r2) ++ wsX120)
set_option maxRecDepth 20000 in
theorem ggX12_terminal_X12_in : GoodIn wsX12_terminal wsX12_in := goodIn_r _ [9] (by decide +kernel) (by decide +kernel)
set_option maxRecDepth 20000 in
theorem gX12_terminal_X12_in : GoodIn wsX12_terminal (va_wsS RX12 99 yX12_in wsX12_in) := goodIn_app (goodIn_of _ (by decide +kernel)) ggX12_terminal_X12_in
set_option maxRecDepth 20000 in
theorem ggX12_terminal_X12_told : GoodIn wsX12_terminal wsX12_told := goodIn_r _ [13, 14, 22, 23, 24, 25, 26, 27, 28, 29, 30, 31, 32, 33, 34, 35, 36, 37, 38, 39, 40, 41, 42, 43, 44, 45, 46, 47, 48, 49, 50, 51, 52, 53, 54, 55, 56, 57, 58, 59, 60, 61, 62, 63, 64, 65, 66, 67, 68, 69, 70, 71, 72, 73, 74] (by decide +kernel) (by decide +kernel)
set_option maxRecDepth 20000 in
theorem gX12_terminal_X12_told : GoodIn wsX12_terminal (wsV RX12 105 RX12 yX12_told wsX12_told) := goodIn_app (goodIn_of _ (by decide +kernel)) ggX12_terminal_X12_told
set_option maxRecDepth 20000 in
theorem ggX12_terminal_X12_terminalAt : GoodIn wsX12_terminal wsX12_terminalAt := goodIn_r _ [17] (by decide +kernel) (by decide +kernel)
set_option maxRecDepth 20000 in
theorem gX12_terminal_X12_terminalAt : GoodIn wsX12_terminal (va_wsS RX12 115 yX12_terminalAt wsX12_terminalAt) := goodIn_app (goodIn_of _ (by decide +kernel)) ggX12_terminal_X12_terminalAt
set_option maxRecDepth 20000 in
theorem ggX12_terminal_X12_addFour : GoodIn wsX12_terminal wsX12_addFour := goodIn_r _ [21, 5, 22, 23, 24, 25, 26, 27, 28, 29, 30, 31, 32, 33, 34, 35, 36, 37, 38, 39, 40, 41, 42, 43, 44, 45, 46, 47, 48, 49, 50, 51, 52, 53, 54, 55, 56, 57, 58, 59, 60, 61, 62, 63, 64, 65, 66, 67, 68, 69, 70, 71, 72, 73, 74] (by decide +kernel) (by decide +kernel)
set_option maxRecDepth 20000 in
theorem gX12_terminal_X12_addFour : GoodIn wsX12_terminal (wsV RX12 118 RX12 yX12_addFour wsX12_addFour) := goodIn_app (goodIn_of _ (by decide +kernel)) ggX12_terminal_X12_addFour
theorem dX12_terminal_0 : decode cX12_terminal 0 = .ok (.aload_n 0, 1) := by decide +kernel
theorem dX12_terminal_1 : decode cX12_terminal 1 = .ok (.iconst 0, 1) := by decide +kernel
theorem dX12_terminal_2 : decode cX12_terminal 2 = .ok (.putfield 91, 3) := by decide +kernel
theorem dX12_terminal_5 : decode cX12_terminal 5 = .ok (.iload_n 2, 1) := by decide +kernel
theorem dX12_terminal_6 : decode cX12_terminal 6 = .ok (.i2l, 1) := by decide +kernel
theorem dX12_terminal_7 : decode cX12_terminal 7 = .ok (.lconst 0, 1) := by decide +kernel
theorem dX12_terminal_8 : decode cX12_terminal 8 = .ok (.ldc2_w 109, 3) := by decide +kernel
theorem dX12_terminal_11 : decode cX12_terminal 11 = .ok (.invokestatic 99, 3) := by decide +kernel
theorem dX12_terminal_14 : decode cX12_terminal 14 = .ok (.ifCond .eq 39, 3) := by decide +kernel
theorem dX12_terminal_17 : decode cX12_terminal 17 = .ok (.iload_n 1, 1) := by decide +kernel
theorem dX12_terminal_18 : decode cX12_terminal 18 = .ok (.i2l, 1) := by decide +kernel
theorem dX12_terminal_19 : decode cX12_terminal 19 = .ok (.lconst 0, 1) := by decide +kernel
theorem dX12_terminal_20 : decode cX12_terminal 20 = .ok (.iload_n 2, 1) := by decide +kernel
theorem dX12_terminal_21 : decode cX12_terminal 21 = .ok (.i2l, 1) := by decide +kernel
theorem dX12_terminal_22 : decode cX12_terminal 22 = .ok (.invokestatic 99, 3) := by decide +kernel
theorem dX12_terminal_25 : decode cX12_terminal 25 = .ok (.ifCond .eq 28, 3) := by decide +kernel
theorem dX12_terminal_28 : decode cX12_terminal 28 = .ok (.iload_n 3, 1) := by decide +kernel
theorem dX12_terminal_29 : decode cX12_terminal 29 = .ok (.i2l, 1) := by decide +kernel
theorem dX12_terminal_30 : decode cX12_terminal 30 = .ok (.lconst 1, 1) := by decide +kernel
theorem dX12_terminal_31 : decode cX12_terminal 31 = .ok (.ldc2_w 111, 3) := by decide +kernel
theorem dX12_terminal_34 : decode cX12_terminal 34 = .ok (.invokestatic 99, 3) := by decide +kernel
theorem dX12_terminal_37 : decode cX12_terminal 37 = .ok (.ifCond .eq 16, 3) := by decide +kernel
theorem dX12_terminal_40 : decode cX12_terminal 40 = .ok (.iload 4, 2) := by decide +kernel
theorem dX12_terminal_42 : decode cX12_terminal 42 = .ok (.i2l, 1) := by decide +kernel
theorem dX12_terminal_43 : decode cX12_terminal 43 = .ok (.lconst 0, 1) := by decide +kernel
theorem dX12_terminal_44 : decode cX12_terminal 44 = .ok (.ldc2_w 113, 3) := by decide +kernel
theorem dX12_terminal_47 : decode cX12_terminal 47 = .ok (.invokestatic 99, 3) := by decide +kernel
theorem dX12_terminal_50 : decode cX12_terminal 50 = .ok (.ifCond .ne 9, 3) := by decide +kernel
theorem dX12_terminal_53 : decode cX12_terminal 53 = .ok (.aload_n 0, 1) := by decide +kernel
theorem dX12_terminal_54 : decode cX12_terminal 54 = .ok (.iconst (-1), 1) := by decide +kernel
theorem dX12_terminal_55 : decode cX12_terminal 55 = .ok (.invokevirtual 105, 3) := by decide +kernel
theorem dX12_terminal_58 : decode cX12_terminal 58 = .ok (.ireturn, 1) := by decide +kernel
theorem dX12_terminal_59 : decode cX12_terminal 59 = .ok (.aload_n 0, 1) := by decide +kernel
theorem dX12_terminal_60 : decode cX12_terminal 60 = .ok (.getfield 7, 3) := by decide +kernel
theorem dX12_terminal_63 : decode cX12_terminal 63 = .ok (.iconst 0, 1) := by decide +kernel
theorem dX12_terminal_64 : decode cX12_terminal 64 = .ok (.iaload, 1) := by decide +kernel
theorem dX12_terminal_65 : decode cX12_terminal 65 = .ok (.bipush 6, 2) := by decide +kernel
theorem dX12_terminal_67 : decode cX12_terminal 67 = .ok (.if_icmp .ne 10, 3) := by decide +kernel
theorem dX12_terminal_70 : decode cX12_terminal 70 = .ok (.aload_n 0, 1) := by decide +kernel
theorem dX12_terminal_71 : decode cX12_terminal 71 = .ok (.bipush (-5), 2) := by decide +kernel
theorem dX12_terminal_73 : decode cX12_terminal 73 = .ok (.invokevirtual 105, 3) := by decide +kernel
theorem dX12_terminal_76 : decode cX12_terminal 76 = .ok (.ireturn, 1) := by decide +kernel
theorem dX12_terminal_77 : decode cX12_terminal 77 = .ok (.aload_n 0, 1) := by decide +kernel
theorem dX12_terminal_78 : decode cX12_terminal 78 = .ok (.getfield 7, 3) := by decide +kernel
theorem dX12_terminal_81 : decode cX12_terminal 81 = .ok (.iconst 0, 1) := by decide +kernel
theorem dX12_terminal_82 : decode cX12_terminal 82 = .ok (.iaload, 1) := by decide +kernel
theorem dX12_terminal_83 : decode cX12_terminal 83 = .ok (.invokestatic 115, 3) := by decide +kernel
theorem dX12_terminal_86 : decode cX12_terminal 86 = .ok (.istore 5, 2) := by decide +kernel
theorem dX12_terminal_88 : decode cX12_terminal 88 = .ok (.aload_n 0, 1) := by decide +kernel
theorem dX12_terminal_89 : decode cX12_terminal 89 = .ok (.iload 5, 2) := by decide +kernel
theorem dX12_terminal_91 : decode cX12_terminal 91 = .ok (.iload_n 1, 1) := by decide +kernel
theorem dX12_terminal_92 : decode cX12_terminal 92 = .ok (.iload_n 2, 1) := by decide +kernel
theorem dX12_terminal_93 : decode cX12_terminal 93 = .ok (.iload_n 3, 1) := by decide +kernel
theorem dX12_terminal_94 : decode cX12_terminal 94 = .ok (.iload 4, 2) := by decide +kernel
theorem dX12_terminal_96 : decode cX12_terminal 96 = .ok (.invokevirtual 118, 3) := by decide +kernel
theorem dX12_terminal_99 : decode cX12_terminal 99 = .ok (.aload_n 0, 1) := by decide +kernel
theorem dX12_terminal_100 : decode cX12_terminal 100 = .ok (.getfield 7, 3) := by decide +kernel
theorem dX12_terminal_103 : decode cX12_terminal 103 = .ok (.iload 5, 2) := by decide +kernel
theorem dX12_terminal_105 : decode cX12_terminal 105 = .ok (.iconst 4, 1) := by decide +kernel
theorem dX12_terminal_106 : decode cX12_terminal 106 = .ok (.iadd, 1) := by decide +kernel
theorem dX12_terminal_107 : decode cX12_terminal 107 = .ok (.sipush 1000, 3) := by decide +kernel
theorem dX12_terminal_110 : decode cX12_terminal 110 = .ok (.iastore, 1) := by decide +kernel
theorem dX12_terminal_111 : decode cX12_terminal 111 = .ok (.aload_n 0, 1) := by decide +kernel
theorem dX12_terminal_112 : decode cX12_terminal 112 = .ok (.getfield 7, 3) := by decide +kernel
theorem dX12_terminal_115 : decode cX12_terminal 115 = .ok (.iconst 0, 1) := by decide +kernel
theorem dX12_terminal_116 : decode cX12_terminal 116 = .ok (.dup2, 1) := by decide +kernel
theorem dX12_terminal_117 : decode cX12_terminal 117 = .ok (.iaload, 1) := by decide +kernel
theorem dX12_terminal_118 : decode cX12_terminal 118 = .ok (.iconst 1, 1) := by decide +kernel
theorem dX12_terminal_119 : decode cX12_terminal 119 = .ok (.iadd, 1) := by decide +kernel
theorem dX12_terminal_120 : decode cX12_terminal 120 = .ok (.iastore, 1) := by decide +kernel
theorem dX12_terminal_121 : decode cX12_terminal 121 = .ok (.aload_n 0, 1) := by decide +kernel
theorem dX12_terminal_122 : decode cX12_terminal 122 = .ok (.aload_n 0, 1) := by decide +kernel
theorem dX12_terminal_123 : decode cX12_terminal 123 = .ok (.getfield 7, 3) := by decide +kernel
theorem dX12_terminal_126 : decode cX12_terminal 126 = .ok (.iconst 0, 1) := by decide +kernel
theorem dX12_terminal_127 : decode cX12_terminal 127 = .ok (.iaload, 1) := by decide +kernel
theorem dX12_terminal_128 : decode cX12_terminal 128 = .ok (.iconst 1, 1) := by decide +kernel
theorem dX12_terminal_129 : decode cX12_terminal 129 = .ok (.isub, 1) := by decide +kernel
theorem dX12_terminal_130 : decode cX12_terminal 130 = .ok (.invokevirtual 105, 3) := by decide +kernel
theorem dX12_terminal_133 : decode cX12_terminal 133 = .ok (.ireturn, 1) := by decide +kernel
set_option maxRecDepth 20000 in
theorem ggX12_ship_X12_in : GoodIn wsX12_ship wsX12_in := goodIn_r _ [9] (by decide +kernel) (by decide +kernel)
set_option maxRecDepth 20000 in
theorem gX12_ship_X12_in : GoodIn wsX12_ship (va_wsS RX12 99 yX12_in wsX12_in) := goodIn_app (goodIn_of _ (by decide +kernel)) ggX12_ship_X12_in
set_option maxRecDepth 20000 in
theorem ggX12_ship_X12_told : GoodIn wsX12_ship wsX12_told := goodIn_r _ [13, 14, 22, 23, 24, 25, 26, 27, 28, 29, 30, 31, 32, 33, 34, 35, 36, 37, 38, 39, 40, 41, 42, 43, 44, 45, 46, 47, 48, 49, 50, 51, 52, 53, 54, 55, 56, 57, 58, 59, 60, 61, 62, 63, 64, 65, 66, 67, 68, 69, 70, 71, 72, 73, 74] (by decide +kernel) (by decide +kernel)
set_option maxRecDepth 20000 in
theorem gX12_ship_X12_told : GoodIn wsX12_ship (wsV RX12 105 RX12 yX12_told wsX12_told) := goodIn_app (goodIn_of _ (by decide +kernel)) ggX12_ship_X12_told
set_option maxRecDepth 20000 in
theorem ggX12_ship_X12_isTerminal : GoodIn wsX12_ship wsX12_isTerminal := goodIn_r _ [18, 5, 6, 7, 8, 9, 22, 23, 24, 25, 26, 27, 28, 29, 30, 31, 32, 33, 34, 35, 36, 37, 38, 39, 40, 41, 42, 43, 44, 45, 46, 47, 48, 49, 50, 51, 52, 53, 54, 55, 56, 57, 58, 59, 60, 61, 62, 63, 64, 65, 66, 67, 68, 69, 70, 71, 72, 73, 74] (by decide +kernel) (by decide +kernel)
set_option maxRecDepth 20000 in
theorem gX12_ship_X12_isTerminal : GoodIn wsX12_ship (wsV RX12 128 RX12 yX12_isTerminal wsX12_isTerminal) := goodIn_app (goodIn_of _ (by decide +kernel)) ggX12_ship_X12_isTerminal
set_option maxRecDepth 20000 in
theorem ggX12_ship_X12_shipAt : GoodIn wsX12_ship wsX12_shipAt := goodIn_r _ [21] (by decide +kernel) (by decide +kernel)
set_option maxRecDepth 20000 in
theorem gX12_ship_X12_shipAt : GoodIn wsX12_ship (va_wsS RX12 132 yX12_shipAt wsX12_shipAt) := goodIn_app (goodIn_of _ (by decide +kernel)) ggX12_ship_X12_shipAt
theorem dX12_ship_0 : decode cX12_ship 0 = .ok (.aload_n 0, 1) := by decide +kernel
theorem dX12_ship_1 : decode cX12_ship 1 = .ok (.iconst 0, 1) := by decide +kernel
theorem dX12_ship_2 : decode cX12_ship 2 = .ok (.putfield 91, 3) := by decide +kernel
theorem dX12_ship_5 : decode cX12_ship 5 = .ok (.iload_n 2, 1) := by decide +kernel
theorem dX12_ship_6 : decode cX12_ship 6 = .ok (.i2l, 1) := by decide +kernel
theorem dX12_ship_7 : decode cX12_ship 7 = .ok (.ldc2_w 122, 3) := by decide +kernel
theorem dX12_ship_10 : decode cX12_ship 10 = .ok (.ldc2_w 124, 3) := by decide +kernel
theorem dX12_ship_13 : decode cX12_ship 13 = .ok (.invokestatic 99, 3) := by decide +kernel
theorem dX12_ship_16 : decode cX12_ship 16 = .ok (.ifCond .eq 15, 3) := by decide +kernel
theorem dX12_ship_19 : decode cX12_ship 19 = .ok (.iload_n 3, 1) := by decide +kernel
theorem dX12_ship_20 : decode cX12_ship 20 = .ok (.i2l, 1) := by decide +kernel
theorem dX12_ship_21 : decode cX12_ship 21 = .ok (.lconst 1, 1) := by decide +kernel
theorem dX12_ship_22 : decode cX12_ship 22 = .ok (.ldc2_w 126, 3) := by decide +kernel
theorem dX12_ship_25 : decode cX12_ship 25 = .ok (.invokestatic 99, 3) := by decide +kernel
theorem dX12_ship_28 : decode cX12_ship 28 = .ok (.ifCond .ne 9, 3) := by decide +kernel
theorem dX12_ship_31 : decode cX12_ship 31 = .ok (.aload_n 0, 1) := by decide +kernel
theorem dX12_ship_32 : decode cX12_ship 32 = .ok (.iconst (-1), 1) := by decide +kernel
theorem dX12_ship_33 : decode cX12_ship 33 = .ok (.invokevirtual 105, 3) := by decide +kernel
theorem dX12_ship_36 : decode cX12_ship 36 = .ok (.ireturn, 1) := by decide +kernel
theorem dX12_ship_37 : decode cX12_ship 37 = .ok (.aload_n 0, 1) := by decide +kernel
theorem dX12_ship_38 : decode cX12_ship 38 = .ok (.iload_n 1, 1) := by decide +kernel
theorem dX12_ship_39 : decode cX12_ship 39 = .ok (.invokevirtual 128, 3) := by decide +kernel
theorem dX12_ship_42 : decode cX12_ship 42 = .ok (.ifCond .ne 10, 3) := by decide +kernel
theorem dX12_ship_45 : decode cX12_ship 45 = .ok (.aload_n 0, 1) := by decide +kernel
theorem dX12_ship_46 : decode cX12_ship 46 = .ok (.bipush (-2), 2) := by decide +kernel
theorem dX12_ship_48 : decode cX12_ship 48 = .ok (.invokevirtual 105, 3) := by decide +kernel
theorem dX12_ship_51 : decode cX12_ship 51 = .ok (.ireturn, 1) := by decide +kernel
theorem dX12_ship_52 : decode cX12_ship 52 = .ok (.aload_n 0, 1) := by decide +kernel
theorem dX12_ship_53 : decode cX12_ship 53 = .ok (.getfield 7, 3) := by decide +kernel
theorem dX12_ship_56 : decode cX12_ship 56 = .ok (.iconst 1, 1) := by decide +kernel
theorem dX12_ship_57 : decode cX12_ship 57 = .ok (.iaload, 1) := by decide +kernel
theorem dX12_ship_58 : decode cX12_ship 58 = .ok (.bipush 6, 2) := by decide +kernel
theorem dX12_ship_60 : decode cX12_ship 60 = .ok (.if_icmp .ne 10, 3) := by decide +kernel
theorem dX12_ship_63 : decode cX12_ship 63 = .ok (.aload_n 0, 1) := by decide +kernel
theorem dX12_ship_64 : decode cX12_ship 64 = .ok (.bipush (-5), 2) := by decide +kernel
theorem dX12_ship_66 : decode cX12_ship 66 = .ok (.invokevirtual 105, 3) := by decide +kernel
theorem dX12_ship_69 : decode cX12_ship 69 = .ok (.ireturn, 1) := by decide +kernel
theorem dX12_ship_70 : decode cX12_ship 70 = .ok (.aload_n 0, 1) := by decide +kernel
theorem dX12_ship_71 : decode cX12_ship 71 = .ok (.getfield 7, 3) := by decide +kernel
theorem dX12_ship_74 : decode cX12_ship 74 = .ok (.iconst 1, 1) := by decide +kernel
theorem dX12_ship_75 : decode cX12_ship 75 = .ok (.iaload, 1) := by decide +kernel
theorem dX12_ship_76 : decode cX12_ship 76 = .ok (.invokestatic 132, 3) := by decide +kernel
theorem dX12_ship_79 : decode cX12_ship 79 = .ok (.istore 4, 2) := by decide +kernel
theorem dX12_ship_81 : decode cX12_ship 81 = .ok (.iconst 0, 1) := by decide +kernel
theorem dX12_ship_82 : decode cX12_ship 82 = .ok (.istore 5, 2) := by decide +kernel
theorem dX12_ship_84 : decode cX12_ship 84 = .ok (.iload 5, 2) := by decide +kernel
theorem dX12_ship_86 : decode cX12_ship 86 = .ok (.bipush 84, 2) := by decide +kernel
theorem dX12_ship_88 : decode cX12_ship 88 = .ok (.if_icmp .ge 20, 3) := by decide +kernel
theorem dX12_ship_91 : decode cX12_ship 91 = .ok (.aload_n 0, 1) := by decide +kernel
theorem dX12_ship_92 : decode cX12_ship 92 = .ok (.getfield 7, 3) := by decide +kernel
theorem dX12_ship_95 : decode cX12_ship 95 = .ok (.iload 4, 2) := by decide +kernel
theorem dX12_ship_97 : decode cX12_ship 97 = .ok (.iload 5, 2) := by decide +kernel
theorem dX12_ship_99 : decode cX12_ship 99 = .ok (.iadd, 1) := by decide +kernel
theorem dX12_ship_100 : decode cX12_ship 100 = .ok (.iconst 0, 1) := by decide +kernel
theorem dX12_ship_101 : decode cX12_ship 101 = .ok (.iastore, 1) := by decide +kernel
theorem dX12_ship_102 : decode cX12_ship 102 = .ok (.iinc 5 1, 3) := by decide +kernel
theorem dX12_ship_105 : decode cX12_ship 105 = .ok (.goto (-21), 3) := by decide +kernel
theorem dX12_ship_108 : decode cX12_ship 108 = .ok (.aload_n 0, 1) := by decide +kernel
theorem dX12_ship_109 : decode cX12_ship 109 = .ok (.getfield 7, 3) := by decide +kernel
theorem dX12_ship_112 : decode cX12_ship 112 = .ok (.iload 4, 2) := by decide +kernel
theorem dX12_ship_114 : decode cX12_ship 114 = .ok (.iconst 0, 1) := by decide +kernel
theorem dX12_ship_115 : decode cX12_ship 115 = .ok (.iadd, 1) := by decide +kernel
theorem dX12_ship_116 : decode cX12_ship 116 = .ok (.iload_n 1, 1) := by decide +kernel
theorem dX12_ship_117 : decode cX12_ship 117 = .ok (.iastore, 1) := by decide +kernel
theorem dX12_ship_118 : decode cX12_ship 118 = .ok (.aload_n 0, 1) := by decide +kernel
theorem dX12_ship_119 : decode cX12_ship 119 = .ok (.getfield 7, 3) := by decide +kernel
theorem dX12_ship_122 : decode cX12_ship 122 = .ok (.iload 4, 2) := by decide +kernel
theorem dX12_ship_124 : decode cX12_ship 124 = .ok (.bipush 6, 2) := by decide +kernel
theorem dX12_ship_126 : decode cX12_ship 126 = .ok (.iadd, 1) := by decide +kernel
theorem dX12_ship_127 : decode cX12_ship 127 = .ok (.sipush 1800, 3) := by decide +kernel
theorem dX12_ship_130 : decode cX12_ship 130 = .ok (.iastore, 1) := by decide +kernel
theorem dX12_ship_131 : decode cX12_ship 131 = .ok (.aload_n 0, 1) := by decide +kernel
theorem dX12_ship_132 : decode cX12_ship 132 = .ok (.getfield 7, 3) := by decide +kernel
theorem dX12_ship_135 : decode cX12_ship 135 = .ok (.iload 4, 2) := by decide +kernel
theorem dX12_ship_137 : decode cX12_ship 137 = .ok (.bipush 7, 2) := by decide +kernel
theorem dX12_ship_139 : decode cX12_ship 139 = .ok (.iadd, 1) := by decide +kernel
theorem dX12_ship_140 : decode cX12_ship 140 = .ok (.iload_n 2, 1) := by decide +kernel
theorem dX12_ship_141 : decode cX12_ship 141 = .ok (.iastore, 1) := by decide +kernel
theorem dX12_ship_142 : decode cX12_ship 142 = .ok (.aload_n 0, 1) := by decide +kernel
theorem dX12_ship_143 : decode cX12_ship 143 = .ok (.getfield 7, 3) := by decide +kernel
theorem dX12_ship_146 : decode cX12_ship 146 = .ok (.iload 4, 2) := by decide +kernel
theorem dX12_ship_148 : decode cX12_ship 148 = .ok (.bipush 8, 2) := by decide +kernel
theorem dX12_ship_150 : decode cX12_ship 150 = .ok (.iadd, 1) := by decide +kernel
theorem dX12_ship_151 : decode cX12_ship 151 = .ok (.iload_n 3, 1) := by decide +kernel
theorem dX12_ship_152 : decode cX12_ship 152 = .ok (.iastore, 1) := by decide +kernel
theorem dX12_ship_153 : decode cX12_ship 153 = .ok (.aload_n 0, 1) := by decide +kernel
theorem dX12_ship_154 : decode cX12_ship 154 = .ok (.getfield 7, 3) := by decide +kernel
theorem dX12_ship_157 : decode cX12_ship 157 = .ok (.iconst 1, 1) := by decide +kernel
theorem dX12_ship_158 : decode cX12_ship 158 = .ok (.dup2, 1) := by decide +kernel
theorem dX12_ship_159 : decode cX12_ship 159 = .ok (.iaload, 1) := by decide +kernel
theorem dX12_ship_160 : decode cX12_ship 160 = .ok (.iconst 1, 1) := by decide +kernel
theorem dX12_ship_161 : decode cX12_ship 161 = .ok (.iadd, 1) := by decide +kernel
theorem dX12_ship_162 : decode cX12_ship 162 = .ok (.iastore, 1) := by decide +kernel
theorem dX12_ship_163 : decode cX12_ship 163 = .ok (.aload_n 0, 1) := by decide +kernel
theorem dX12_ship_164 : decode cX12_ship 164 = .ok (.aload_n 0, 1) := by decide +kernel
theorem dX12_ship_165 : decode cX12_ship 165 = .ok (.getfield 7, 3) := by decide +kernel
theorem dX12_ship_168 : decode cX12_ship 168 = .ok (.iconst 1, 1) := by decide +kernel
theorem dX12_ship_169 : decode cX12_ship 169 = .ok (.iaload, 1) := by decide +kernel
theorem dX12_ship_170 : decode cX12_ship 170 = .ok (.iconst 1, 1) := by decide +kernel
theorem dX12_ship_171 : decode cX12_ship 171 = .ok (.isub, 1) := by decide +kernel
theorem dX12_ship_172 : decode cX12_ship 172 = .ok (.invokevirtual 105, 3) := by decide +kernel
theorem dX12_ship_175 : decode cX12_ship 175 = .ok (.ireturn, 1) := by decide +kernel
set_option maxRecDepth 20000 in
theorem ggX12_way_X12_in : GoodIn wsX12_way wsX12_in := goodIn_r _ [7] (by decide +kernel) (by decide +kernel)
set_option maxRecDepth 20000 in
theorem gX12_way_X12_in : GoodIn wsX12_way (va_wsS RX12 99 yX12_in wsX12_in) := goodIn_app (goodIn_of _ (by decide +kernel)) ggX12_way_X12_in
set_option maxRecDepth 20000 in
theorem ggX12_way_X12_told : GoodIn wsX12_way wsX12_told := goodIn_r _ [11, 12, 17, 18, 19, 20, 21, 22, 23, 24, 25, 26, 27, 28, 29, 30, 31, 32, 33, 34, 35, 36, 37, 38, 39, 40, 41, 42, 43, 44, 45, 46, 47, 48, 49, 50, 51, 52, 53, 54, 55, 56, 57, 58, 59, 60, 61, 62, 63, 64, 65, 66, 67, 68, 69] (by decide +kernel) (by decide +kernel)
set_option maxRecDepth 20000 in
theorem gX12_way_X12_told : GoodIn wsX12_way (wsV RX12 105 RX12 yX12_told wsX12_told) := goodIn_app (goodIn_of _ (by decide +kernel)) ggX12_way_X12_told
set_option maxRecDepth 20000 in
theorem ggX12_way_X12_isTerminal : GoodIn wsX12_way wsX12_isTerminal := goodIn_r _ [16, 3, 4, 5, 6, 7, 17, 18, 19, 20, 21, 22, 23, 24, 25, 26, 27, 28, 29, 30, 31, 32, 33, 34, 35, 36, 37, 38, 39, 40, 41, 42, 43, 44, 45, 46, 47, 48, 49, 50, 51, 52, 53, 54, 55, 56, 57, 58, 59, 60, 61, 62, 63, 64, 65, 66, 67, 68, 69] (by decide +kernel) (by decide +kernel)
set_option maxRecDepth 20000 in
theorem gX12_way_X12_isTerminal : GoodIn wsX12_way (wsV RX12 128 RX12 yX12_isTerminal wsX12_isTerminal) := goodIn_app (goodIn_of _ (by decide +kernel)) ggX12_way_X12_isTerminal
theorem dX12_way_0 : decode cX12_way 0 = .ok (.aload_n 0, 1) := by decide +kernel
theorem dX12_way_1 : decode cX12_way 1 = .ok (.iconst 0, 1) := by decide +kernel
theorem dX12_way_2 : decode cX12_way 2 = .ok (.putfield 91, 3) := by decide +kernel
theorem dX12_way_5 : decode cX12_way 5 = .ok (.iload_n 3, 1) := by decide +kernel
theorem dX12_way_6 : decode cX12_way 6 = .ok (.i2l, 1) := by decide +kernel
theorem dX12_way_7 : decode cX12_way 7 = .ok (.lconst 1, 1) := by decide +kernel
theorem dX12_way_8 : decode cX12_way 8 = .ok (.ldc2_w 135, 3) := by decide +kernel
theorem dX12_way_11 : decode cX12_way 11 = .ok (.invokestatic 99, 3) := by decide +kernel
theorem dX12_way_14 : decode cX12_way 14 = .ok (.ifCond .ne 9, 3) := by decide +kernel
theorem dX12_way_17 : decode cX12_way 17 = .ok (.aload_n 0, 1) := by decide +kernel
theorem dX12_way_18 : decode cX12_way 18 = .ok (.iconst (-1), 1) := by decide +kernel
theorem dX12_way_19 : decode cX12_way 19 = .ok (.invokevirtual 105, 3) := by decide +kernel
theorem dX12_way_22 : decode cX12_way 22 = .ok (.ireturn, 1) := by decide +kernel
theorem dX12_way_23 : decode cX12_way 23 = .ok (.aload_n 0, 1) := by decide +kernel
theorem dX12_way_24 : decode cX12_way 24 = .ok (.iload_n 1, 1) := by decide +kernel
theorem dX12_way_25 : decode cX12_way 25 = .ok (.invokevirtual 128, 3) := by decide +kernel
theorem dX12_way_28 : decode cX12_way 28 = .ok (.ifCond .eq 11, 3) := by decide +kernel
theorem dX12_way_31 : decode cX12_way 31 = .ok (.aload_n 0, 1) := by decide +kernel
theorem dX12_way_32 : decode cX12_way 32 = .ok (.iload_n 2, 1) := by decide +kernel
theorem dX12_way_33 : decode cX12_way 33 = .ok (.invokevirtual 128, 3) := by decide +kernel
theorem dX12_way_36 : decode cX12_way 36 = .ok (.ifCond .ne 10, 3) := by decide +kernel
theorem dX12_way_39 : decode cX12_way 39 = .ok (.aload_n 0, 1) := by decide +kernel
theorem dX12_way_40 : decode cX12_way 40 = .ok (.bipush (-2), 2) := by decide +kernel
theorem dX12_way_42 : decode cX12_way 42 = .ok (.invokevirtual 105, 3) := by decide +kernel
theorem dX12_way_45 : decode cX12_way 45 = .ok (.ireturn, 1) := by decide +kernel
theorem dX12_way_46 : decode cX12_way 46 = .ok (.iload_n 1, 1) := by decide +kernel
theorem dX12_way_47 : decode cX12_way 47 = .ok (.iload_n 2, 1) := by decide +kernel
theorem dX12_way_48 : decode cX12_way 48 = .ok (.if_icmp .ne 10, 3) := by decide +kernel
theorem dX12_way_51 : decode cX12_way 51 = .ok (.aload_n 0, 1) := by decide +kernel
theorem dX12_way_52 : decode cX12_way 52 = .ok (.bipush (-3), 2) := by decide +kernel
theorem dX12_way_54 : decode cX12_way 54 = .ok (.invokevirtual 105, 3) := by decide +kernel
theorem dX12_way_57 : decode cX12_way 57 = .ok (.ireturn, 1) := by decide +kernel
theorem dX12_way_58 : decode cX12_way 58 = .ok (.bipush 50, 2) := by decide +kernel
theorem dX12_way_60 : decode cX12_way 60 = .ok (.iconst 2, 1) := by decide +kernel
theorem dX12_way_61 : decode cX12_way 61 = .ok (.bipush 6, 2) := by decide +kernel
theorem dX12_way_63 : decode cX12_way 63 = .ok (.iload_n 1, 1) := by decide +kernel
theorem dX12_way_64 : decode cX12_way 64 = .ok (.imul, 1) := by decide +kernel
theorem dX12_way_65 : decode cX12_way 65 = .ok (.iload_n 2, 1) := by decide +kernel
theorem dX12_way_66 : decode cX12_way 66 = .ok (.iadd, 1) := by decide +kernel
theorem dX12_way_67 : decode cX12_way 67 = .ok (.imul, 1) := by decide +kernel
theorem dX12_way_68 : decode cX12_way 68 = .ok (.iadd, 1) := by decide +kernel
theorem dX12_way_69 : decode cX12_way 69 = .ok (.istore 5, 2) := by decide +kernel
theorem dX12_way_71 : decode cX12_way 71 = .ok (.bipush 50, 2) := by decide +kernel
theorem dX12_way_73 : decode cX12_way 73 = .ok (.iconst 2, 1) := by decide +kernel
theorem dX12_way_74 : decode cX12_way 74 = .ok (.bipush 6, 2) := by decide +kernel
theorem dX12_way_76 : decode cX12_way 76 = .ok (.iload_n 2, 1) := by decide +kernel
theorem dX12_way_77 : decode cX12_way 77 = .ok (.imul, 1) := by decide +kernel
theorem dX12_way_78 : decode cX12_way 78 = .ok (.iload_n 1, 1) := by decide +kernel
theorem dX12_way_79 : decode cX12_way 79 = .ok (.iadd, 1) := by decide +kernel
theorem dX12_way_80 : decode cX12_way 80 = .ok (.imul, 1) := by decide +kernel
theorem dX12_way_81 : decode cX12_way 81 = .ok (.iadd, 1) := by decide +kernel
theorem dX12_way_82 : decode cX12_way 82 = .ok (.istore 6, 2) := by decide +kernel
theorem dX12_way_84 : decode cX12_way 84 = .ok (.aload_n 0, 1) := by decide +kernel
theorem dX12_way_85 : decode cX12_way 85 = .ok (.getfield 7, 3) := by decide +kernel
theorem dX12_way_88 : decode cX12_way 88 = .ok (.iload 5, 2) := by decide +kernel
theorem dX12_way_90 : decode cX12_way 90 = .ok (.iload_n 3, 1) := by decide +kernel
theorem dX12_way_91 : decode cX12_way 91 = .ok (.iastore, 1) := by decide +kernel
theorem dX12_way_92 : decode cX12_way 92 = .ok (.aload_n 0, 1) := by decide +kernel
theorem dX12_way_93 : decode cX12_way 93 = .ok (.getfield 7, 3) := by decide +kernel
theorem dX12_way_96 : decode cX12_way 96 = .ok (.iload 5, 2) := by decide +kernel
theorem dX12_way_98 : decode cX12_way 98 = .ok (.iconst 1, 1) := by decide +kernel
theorem dX12_way_99 : decode cX12_way 99 = .ok (.iadd, 1) := by decide +kernel
theorem dX12_way_100 : decode cX12_way 100 = .ok (.iload 4, 2) := by decide +kernel
theorem dX12_way_102 : decode cX12_way 102 = .ok (.ifCond .eq 7, 3) := by decide +kernel
theorem dX12_way_105 : decode cX12_way 105 = .ok (.iconst 1, 1) := by decide +kernel
theorem dX12_way_106 : decode cX12_way 106 = .ok (.goto 4, 3) := by decide +kernel
theorem dX12_way_109 : decode cX12_way 109 = .ok (.iconst 0, 1) := by decide +kernel
theorem dX12_way_110 : decode cX12_way 110 = .ok (.iastore, 1) := by decide +kernel
theorem dX12_way_111 : decode cX12_way 111 = .ok (.aload_n 0, 1) := by decide +kernel
theorem dX12_way_112 : decode cX12_way 112 = .ok (.getfield 7, 3) := by decide +kernel
theorem dX12_way_115 : decode cX12_way 115 = .ok (.iload 6, 2) := by decide +kernel
theorem dX12_way_117 : decode cX12_way 117 = .ok (.iload_n 3, 1) := by decide +kernel
theorem dX12_way_118 : decode cX12_way 118 = .ok (.iastore, 1) := by decide +kernel
theorem dX12_way_119 : decode cX12_way 119 = .ok (.aload_n 0, 1) := by decide +kernel
theorem dX12_way_120 : decode cX12_way 120 = .ok (.getfield 7, 3) := by decide +kernel
theorem dX12_way_123 : decode cX12_way 123 = .ok (.iload 6, 2) := by decide +kernel
theorem dX12_way_125 : decode cX12_way 125 = .ok (.iconst 1, 1) := by decide +kernel
theorem dX12_way_126 : decode cX12_way 126 = .ok (.iadd, 1) := by decide +kernel
theorem dX12_way_127 : decode cX12_way 127 = .ok (.iload 4, 2) := by decide +kernel
theorem dX12_way_129 : decode cX12_way 129 = .ok (.ifCond .eq 7, 3) := by decide +kernel
theorem dX12_way_132 : decode cX12_way 132 = .ok (.iconst 1, 1) := by decide +kernel
theorem dX12_way_133 : decode cX12_way 133 = .ok (.goto 4, 3) := by decide +kernel
theorem dX12_way_136 : decode cX12_way 136 = .ok (.iconst 0, 1) := by decide +kernel
theorem dX12_way_137 : decode cX12_way 137 = .ok (.iastore, 1) := by decide +kernel
theorem dX12_way_138 : decode cX12_way 138 = .ok (.aload_n 0, 1) := by decide +kernel
theorem dX12_way_139 : decode cX12_way 139 = .ok (.iconst 0, 1) := by decide +kernel
theorem dX12_way_140 : decode cX12_way 140 = .ok (.invokevirtual 105, 3) := by decide +kernel
theorem dX12_way_143 : decode cX12_way 143 = .ok (.ireturn, 1) := by decide +kernel
theorem dX12_wayOf_0 : decode cX12_wayOf 0 = .ok (.aload_n 0, 1) := by decide +kernel
theorem dX12_wayOf_1 : decode cX12_wayOf 1 = .ok (.getfield 7, 3) := by decide +kernel
theorem dX12_wayOf_4 : decode cX12_wayOf 4 = .ok (.bipush 50, 2) := by decide +kernel
theorem dX12_wayOf_6 : decode cX12_wayOf 6 = .ok (.iconst 2, 1) := by decide +kernel
theorem dX12_wayOf_7 : decode cX12_wayOf 7 = .ok (.bipush 6, 2) := by decide +kernel
theorem dX12_wayOf_9 : decode cX12_wayOf 9 = .ok (.iload_n 1, 1) := by decide +kernel
theorem dX12_wayOf_10 : decode cX12_wayOf 10 = .ok (.imul, 1) := by decide +kernel
theorem dX12_wayOf_11 : decode cX12_wayOf 11 = .ok (.iload_n 2, 1) := by decide +kernel
theorem dX12_wayOf_12 : decode cX12_wayOf 12 = .ok (.iadd, 1) := by decide +kernel
theorem dX12_wayOf_13 : decode cX12_wayOf 13 = .ok (.imul, 1) := by decide +kernel
theorem dX12_wayOf_14 : decode cX12_wayOf 14 = .ok (.iadd, 1) := by decide +kernel
theorem dX12_wayOf_15 : decode cX12_wayOf 15 = .ok (.iaload, 1) := by decide +kernel
theorem dX12_wayOf_16 : decode cX12_wayOf 16 = .ok (.ireturn, 1) := by decide +kernel
set_option maxRecDepth 20000 in
theorem ggX12_slot_X12_isHour : GoodIn wsX12_slot wsX12_isHour := goodIn_r _ [6, 7, 8, 9, 5, 10] (by decide +kernel) (by decide +kernel)
set_option maxRecDepth 20000 in
theorem gX12_slot_X12_isHour : GoodIn wsX12_slot (va_wsS RX12 144 yX12_isHour wsX12_isHour) := goodIn_app (goodIn_of _ (by decide +kernel)) ggX12_slot_X12_isHour
set_option maxRecDepth 20000 in
theorem ggX12_slot_X12_in : GoodIn wsX12_slot wsX12_in := goodIn_r _ [10] (by decide +kernel) (by decide +kernel)
set_option maxRecDepth 20000 in
theorem gX12_slot_X12_in : GoodIn wsX12_slot (va_wsS RX12 99 yX12_in wsX12_in) := goodIn_app (goodIn_of _ (by decide +kernel)) ggX12_slot_X12_in
set_option maxRecDepth 20000 in
theorem ggX12_slot_X12_told : GoodIn wsX12_slot wsX12_told := goodIn_r _ [14, 15, 28, 29, 30, 31, 32, 33, 34, 35, 36, 37, 38, 39, 40, 41, 42, 43, 44, 45, 46, 47, 48, 49, 50, 51, 52, 53, 54, 55, 56, 57, 58, 59, 60, 61, 62, 63, 64, 65, 66, 67, 68, 69, 70, 71, 72, 73, 74, 75, 76, 77, 78, 79, 80] (by decide +kernel) (by decide +kernel)
set_option maxRecDepth 20000 in
theorem gX12_slot_X12_told : GoodIn wsX12_slot (wsV RX12 105 RX12 yX12_told wsX12_told) := goodIn_app (goodIn_of _ (by decide +kernel)) ggX12_slot_X12_told
set_option maxRecDepth 20000 in
theorem ggX12_slot_X12_isTerminal : GoodIn wsX12_slot wsX12_isTerminal := goodIn_r _ [19, 2, 8, 9, 5, 10, 28, 29, 30, 31, 32, 33, 34, 35, 36, 37, 38, 39, 40, 41, 42, 43, 44, 45, 46, 47, 48, 49, 50, 51, 52, 53, 54, 55, 56, 57, 58, 59, 60, 61, 62, 63, 64, 65, 66, 67, 68, 69, 70, 71, 72, 73, 74, 75, 76, 77, 78, 79, 80] (by decide +kernel) (by decide +kernel)
set_option maxRecDepth 20000 in
theorem gX12_slot_X12_isTerminal : GoodIn wsX12_slot (wsV RX12 128 RX12 yX12_isTerminal wsX12_isTerminal) := goodIn_app (goodIn_of _ (by decide +kernel)) ggX12_slot_X12_isTerminal
set_option maxRecDepth 20000 in
theorem ggX12_slot_X12_isShip : GoodIn wsX12_slot wsX12_isShip := goodIn_r _ [23, 2, 8, 9, 5, 10, 28, 29, 30, 31, 32, 33, 34, 35, 36, 37, 38, 39, 40, 41, 42, 43, 44, 45, 46, 47, 48, 49, 50, 51, 52, 53, 54, 55, 56, 57, 58, 59, 60, 61, 62, 63, 64, 65, 66, 67, 68, 69, 70, 71, 72, 73, 74, 75, 76, 77, 78, 79, 80] (by decide +kernel) (by decide +kernel)
set_option maxRecDepth 20000 in
theorem gX12_slot_X12_isShip : GoodIn wsX12_slot (wsV RX12 147 RX12 yX12_isShip wsX12_isShip) := goodIn_app (goodIn_of _ (by decide +kernel)) ggX12_slot_X12_isShip
set_option maxRecDepth 20000 in
theorem ggX12_slot_X12_addFour : GoodIn wsX12_slot wsX12_addFour := goodIn_r _ [27, 2, 28, 29, 30, 31, 32, 33, 34, 35, 36, 37, 38, 39, 40, 41, 42, 43, 44, 45, 46, 47, 48, 49, 50, 51, 52, 53, 54, 55, 56, 57, 58, 59, 60, 61, 62, 63, 64, 65, 66, 67, 68, 69, 70, 71, 72, 73, 74, 75, 76, 77, 78, 79, 80] (by decide +kernel) (by decide +kernel)
set_option maxRecDepth 20000 in
theorem gX12_slot_X12_addFour : GoodIn wsX12_slot (wsV RX12 118 RX12 yX12_addFour wsX12_addFour) := goodIn_app (goodIn_of _ (by decide +kernel)) ggX12_slot_X12_addFour
theorem dX12_slot_0 : decode cX12_slot 0 = .ok (.aload_n 0, 1) := by decide +kernel
theorem dX12_slot_1 : decode cX12_slot 1 = .ok (.iconst 0, 1) := by decide +kernel
theorem dX12_slot_2 : decode cX12_slot 2 = .ok (.putfield 91, 3) := by decide +kernel
theorem dX12_slot_5 : decode cX12_slot 5 = .ok (.iload 4, 2) := by decide +kernel
theorem dX12_slot_7 : decode cX12_slot 7 = .ok (.invokestatic 144, 3) := by decide +kernel
theorem dX12_slot_10 : decode cX12_slot 10 = .ok (.ifCond .eq 15, 3) := by decide +kernel
theorem dX12_slot_13 : decode cX12_slot 13 = .ok (.iload_n 3, 1) := by decide +kernel
theorem dX12_slot_14 : decode cX12_slot 14 = .ok (.i2l, 1) := by decide +kernel
theorem dX12_slot_15 : decode cX12_slot 15 = .ok (.lconst 0, 1) := by decide +kernel
theorem dX12_slot_16 : decode cX12_slot 16 = .ok (.iload 4, 2) := by decide +kernel
theorem dX12_slot_18 : decode cX12_slot 18 = .ok (.i2l, 1) := by decide +kernel
theorem dX12_slot_19 : decode cX12_slot 19 = .ok (.invokestatic 99, 3) := by decide +kernel
theorem dX12_slot_22 : decode cX12_slot 22 = .ok (.ifCond .ne 9, 3) := by decide +kernel
theorem dX12_slot_25 : decode cX12_slot 25 = .ok (.aload_n 0, 1) := by decide +kernel
theorem dX12_slot_26 : decode cX12_slot 26 = .ok (.iconst (-1), 1) := by decide +kernel
theorem dX12_slot_27 : decode cX12_slot 27 = .ok (.invokevirtual 105, 3) := by decide +kernel
theorem dX12_slot_30 : decode cX12_slot 30 = .ok (.ireturn, 1) := by decide +kernel
theorem dX12_slot_31 : decode cX12_slot 31 = .ok (.aload_n 0, 1) := by decide +kernel
theorem dX12_slot_32 : decode cX12_slot 32 = .ok (.iload_n 1, 1) := by decide +kernel
theorem dX12_slot_33 : decode cX12_slot 33 = .ok (.invokevirtual 128, 3) := by decide +kernel
theorem dX12_slot_36 : decode cX12_slot 36 = .ok (.ifCond .eq 11, 3) := by decide +kernel
theorem dX12_slot_39 : decode cX12_slot 39 = .ok (.aload_n 0, 1) := by decide +kernel
theorem dX12_slot_40 : decode cX12_slot 40 = .ok (.iload_n 2, 1) := by decide +kernel
theorem dX12_slot_41 : decode cX12_slot 41 = .ok (.invokevirtual 147, 3) := by decide +kernel
theorem dX12_slot_44 : decode cX12_slot 44 = .ok (.ifCond .ne 10, 3) := by decide +kernel
theorem dX12_slot_47 : decode cX12_slot 47 = .ok (.aload_n 0, 1) := by decide +kernel
theorem dX12_slot_48 : decode cX12_slot 48 = .ok (.bipush (-2), 2) := by decide +kernel
theorem dX12_slot_50 : decode cX12_slot 50 = .ok (.invokevirtual 105, 3) := by decide +kernel
theorem dX12_slot_53 : decode cX12_slot 53 = .ok (.ireturn, 1) := by decide +kernel
theorem dX12_slot_54 : decode cX12_slot 54 = .ok (.iconst 0, 1) := by decide +kernel
theorem dX12_slot_55 : decode cX12_slot 55 = .ok (.istore 5, 2) := by decide +kernel
theorem dX12_slot_57 : decode cX12_slot 57 = .ok (.iload 5, 2) := by decide +kernel
theorem dX12_slot_59 : decode cX12_slot 59 = .ok (.aload_n 0, 1) := by decide +kernel
theorem dX12_slot_60 : decode cX12_slot 60 = .ok (.getfield 7, 3) := by decide +kernel
theorem dX12_slot_63 : decode cX12_slot 63 = .ok (.iconst 2, 1) := by decide +kernel
theorem dX12_slot_64 : decode cX12_slot 64 = .ok (.iaload, 1) := by decide +kernel
theorem dX12_slot_65 : decode cX12_slot 65 = .ok (.if_icmp .ge 64, 3) := by decide +kernel
theorem dX12_slot_68 : decode cX12_slot 68 = .ok (.sipush 247, 3) := by decide +kernel
theorem dX12_slot_71 : decode cX12_slot 71 = .ok (.iconst 4, 1) := by decide +kernel
theorem dX12_slot_72 : decode cX12_slot 72 = .ok (.iload 5, 2) := by decide +kernel
theorem dX12_slot_74 : decode cX12_slot 74 = .ok (.imul, 1) := by decide +kernel
theorem dX12_slot_75 : decode cX12_slot 75 = .ok (.iadd, 1) := by decide +kernel
theorem dX12_slot_76 : decode cX12_slot 76 = .ok (.istore 6, 2) := by decide +kernel
theorem dX12_slot_78 : decode cX12_slot 78 = .ok (.aload_n 0, 1) := by decide +kernel
theorem dX12_slot_79 : decode cX12_slot 79 = .ok (.getfield 7, 3) := by decide +kernel
theorem dX12_slot_82 : decode cX12_slot 82 = .ok (.iload 6, 2) := by decide +kernel
theorem dX12_slot_84 : decode cX12_slot 84 = .ok (.iaload, 1) := by decide +kernel
theorem dX12_slot_85 : decode cX12_slot 85 = .ok (.iload_n 1, 1) := by decide +kernel
theorem dX12_slot_86 : decode cX12_slot 86 = .ok (.if_icmp .ne 37, 3) := by decide +kernel
theorem dX12_slot_89 : decode cX12_slot 89 = .ok (.iload_n 3, 1) := by decide +kernel
theorem dX12_slot_90 : decode cX12_slot 90 = .ok (.aload_n 0, 1) := by decide +kernel
theorem dX12_slot_91 : decode cX12_slot 91 = .ok (.getfield 7, 3) := by decide +kernel
theorem dX12_slot_94 : decode cX12_slot 94 = .ok (.iload 6, 2) := by decide +kernel
theorem dX12_slot_96 : decode cX12_slot 96 = .ok (.iconst 3, 1) := by decide +kernel
theorem dX12_slot_97 : decode cX12_slot 97 = .ok (.iadd, 1) := by decide +kernel
theorem dX12_slot_98 : decode cX12_slot 98 = .ok (.iaload, 1) := by decide +kernel
theorem dX12_slot_99 : decode cX12_slot 99 = .ok (.if_icmp .gt 24, 3) := by decide +kernel
theorem dX12_slot_102 : decode cX12_slot 102 = .ok (.iload 4, 2) := by decide +kernel
theorem dX12_slot_104 : decode cX12_slot 104 = .ok (.aload_n 0, 1) := by decide +kernel
theorem dX12_slot_105 : decode cX12_slot 105 = .ok (.getfield 7, 3) := by decide +kernel
theorem dX12_slot_108 : decode cX12_slot 108 = .ok (.iload 6, 2) := by decide +kernel
theorem dX12_slot_110 : decode cX12_slot 110 = .ok (.iconst 2, 1) := by decide +kernel
theorem dX12_slot_111 : decode cX12_slot 111 = .ok (.iadd, 1) := by decide +kernel
theorem dX12_slot_112 : decode cX12_slot 112 = .ok (.iaload, 1) := by decide +kernel
theorem dX12_slot_113 : decode cX12_slot 113 = .ok (.if_icmp .lt 10, 3) := by decide +kernel
theorem dX12_slot_116 : decode cX12_slot 116 = .ok (.aload_n 0, 1) := by decide +kernel
theorem dX12_slot_117 : decode cX12_slot 117 = .ok (.bipush (-3), 2) := by decide +kernel
theorem dX12_slot_119 : decode cX12_slot 119 = .ok (.invokevirtual 105, 3) := by decide +kernel
theorem dX12_slot_122 : decode cX12_slot 122 = .ok (.ireturn, 1) := by decide +kernel
theorem dX12_slot_123 : decode cX12_slot 123 = .ok (.iinc 5 1, 3) := by decide +kernel
theorem dX12_slot_126 : decode cX12_slot 126 = .ok (.goto (-69), 3) := by decide +kernel
theorem dX12_slot_129 : decode cX12_slot 129 = .ok (.aload_n 0, 1) := by decide +kernel
theorem dX12_slot_130 : decode cX12_slot 130 = .ok (.getfield 7, 3) := by decide +kernel
theorem dX12_slot_133 : decode cX12_slot 133 = .ok (.iconst 2, 1) := by decide +kernel
theorem dX12_slot_134 : decode cX12_slot 134 = .ok (.iaload, 1) := by decide +kernel
theorem dX12_slot_135 : decode cX12_slot 135 = .ok (.bipush 60, 2) := by decide +kernel
theorem dX12_slot_137 : decode cX12_slot 137 = .ok (.if_icmp .ne 10, 3) := by decide +kernel
theorem dX12_slot_140 : decode cX12_slot 140 = .ok (.aload_n 0, 1) := by decide +kernel
theorem dX12_slot_141 : decode cX12_slot 141 = .ok (.bipush (-5), 2) := by decide +kernel
theorem dX12_slot_143 : decode cX12_slot 143 = .ok (.invokevirtual 105, 3) := by decide +kernel
theorem dX12_slot_146 : decode cX12_slot 146 = .ok (.ireturn, 1) := by decide +kernel
theorem dX12_slot_147 : decode cX12_slot 147 = .ok (.aload_n 0, 1) := by decide +kernel
theorem dX12_slot_148 : decode cX12_slot 148 = .ok (.sipush 247, 3) := by decide +kernel
theorem dX12_slot_151 : decode cX12_slot 151 = .ok (.iconst 4, 1) := by decide +kernel
theorem dX12_slot_152 : decode cX12_slot 152 = .ok (.aload_n 0, 1) := by decide +kernel
theorem dX12_slot_153 : decode cX12_slot 153 = .ok (.getfield 7, 3) := by decide +kernel
theorem dX12_slot_156 : decode cX12_slot 156 = .ok (.iconst 2, 1) := by decide +kernel
theorem dX12_slot_157 : decode cX12_slot 157 = .ok (.iaload, 1) := by decide +kernel
theorem dX12_slot_158 : decode cX12_slot 158 = .ok (.imul, 1) := by decide +kernel
theorem dX12_slot_159 : decode cX12_slot 159 = .ok (.iadd, 1) := by decide +kernel
theorem dX12_slot_160 : decode cX12_slot 160 = .ok (.iload_n 1, 1) := by decide +kernel
theorem dX12_slot_161 : decode cX12_slot 161 = .ok (.iload_n 2, 1) := by decide +kernel
theorem dX12_slot_162 : decode cX12_slot 162 = .ok (.iload_n 3, 1) := by decide +kernel
theorem dX12_slot_163 : decode cX12_slot 163 = .ok (.iload 4, 2) := by decide +kernel
theorem dX12_slot_165 : decode cX12_slot 165 = .ok (.invokevirtual 118, 3) := by decide +kernel
theorem dX12_slot_168 : decode cX12_slot 168 = .ok (.aload_n 0, 1) := by decide +kernel
theorem dX12_slot_169 : decode cX12_slot 169 = .ok (.getfield 7, 3) := by decide +kernel
theorem dX12_slot_172 : decode cX12_slot 172 = .ok (.iconst 2, 1) := by decide +kernel
theorem dX12_slot_173 : decode cX12_slot 173 = .ok (.dup2, 1) := by decide +kernel
theorem dX12_slot_174 : decode cX12_slot 174 = .ok (.iaload, 1) := by decide +kernel
theorem dX12_slot_175 : decode cX12_slot 175 = .ok (.iconst 1, 1) := by decide +kernel
theorem dX12_slot_176 : decode cX12_slot 176 = .ok (.iadd, 1) := by decide +kernel
theorem dX12_slot_177 : decode cX12_slot 177 = .ok (.iastore, 1) := by decide +kernel
theorem dX12_slot_178 : decode cX12_slot 178 = .ok (.aload_n 0, 1) := by decide +kernel
theorem dX12_slot_179 : decode cX12_slot 179 = .ok (.aload_n 0, 1) := by decide +kernel
theorem dX12_slot_180 : decode cX12_slot 180 = .ok (.getfield 7, 3) := by decide +kernel
theorem dX12_slot_183 : decode cX12_slot 183 = .ok (.iconst 2, 1) := by decide +kernel
theorem dX12_slot_184 : decode cX12_slot 184 = .ok (.iaload, 1) := by decide +kernel
theorem dX12_slot_185 : decode cX12_slot 185 = .ok (.invokevirtual 105, 3) := by decide +kernel
theorem dX12_slot_188 : decode cX12_slot 188 = .ok (.ireturn, 1) := by decide +kernel
set_option maxRecDepth 20000 in
theorem ggX12_broken_X12_isHour : GoodIn wsX12_broken wsX12_isHour := goodIn_r _ [6, 7, 8, 9, 5, 10] (by decide +kernel) (by decide +kernel)
set_option maxRecDepth 20000 in
theorem gX12_broken_X12_isHour : GoodIn wsX12_broken (va_wsS RX12 144 yX12_isHour wsX12_isHour) := goodIn_app (goodIn_of _ (by decide +kernel)) ggX12_broken_X12_isHour
set_option maxRecDepth 20000 in
theorem ggX12_broken_X12_in : GoodIn wsX12_broken wsX12_in := goodIn_r _ [10] (by decide +kernel) (by decide +kernel)
set_option maxRecDepth 20000 in
theorem gX12_broken_X12_in : GoodIn wsX12_broken (va_wsS RX12 99 yX12_in wsX12_in) := goodIn_app (goodIn_of _ (by decide +kernel)) ggX12_broken_X12_in
set_option maxRecDepth 20000 in
theorem ggX12_broken_X12_told : GoodIn wsX12_broken wsX12_told := goodIn_r _ [14, 15, 20, 21, 22, 23, 24, 25, 26, 27, 28, 29, 30, 31, 32, 33, 34, 35, 36, 37, 38, 39, 40, 41, 42, 43, 44, 45, 46, 47, 48, 49, 50, 51, 52, 53, 54, 55, 56, 57, 58, 59, 60, 61, 62, 63, 64, 65, 66, 67, 68, 69, 70, 71, 72] (by decide +kernel) (by decide +kernel)
set_option maxRecDepth 20000 in
theorem gX12_broken_X12_told : GoodIn wsX12_broken (wsV RX12 105 RX12 yX12_told wsX12_told) := goodIn_app (goodIn_of _ (by decide +kernel)) ggX12_broken_X12_told
set_option maxRecDepth 20000 in
theorem ggX12_broken_X12_isTerminal : GoodIn wsX12_broken wsX12_isTerminal := goodIn_r _ [19, 2, 8, 9, 5, 10, 20, 21, 22, 23, 24, 25, 26, 27, 28, 29, 30, 31, 32, 33, 34, 35, 36, 37, 38, 39, 40, 41, 42, 43, 44, 45, 46, 47, 48, 49, 50, 51, 52, 53, 54, 55, 56, 57, 58, 59, 60, 61, 62, 63, 64, 65, 66, 67, 68, 69, 70, 71, 72] (by decide +kernel) (by decide +kernel)
set_option maxRecDepth 20000 in
theorem gX12_broken_X12_isTerminal : GoodIn wsX12_broken (wsV RX12 128 RX12 yX12_isTerminal wsX12_isTerminal) := goodIn_app (goodIn_of _ (by decide +kernel)) ggX12_broken_X12_isTerminal
theorem dX12_broken_0 : decode cX12_broken 0 = .ok (.aload_n 0, 1) := by decide +kernel
theorem dX12_broken_1 : decode cX12_broken 1 = .ok (.iconst 0, 1) := by decide +kernel
theorem dX12_broken_2 : decode cX12_broken 2 = .ok (.putfield 91, 3) := by decide +kernel
theorem dX12_broken_5 : decode cX12_broken 5 = .ok (.iload_n 3, 1) := by decide +kernel
theorem dX12_broken_6 : decode cX12_broken 6 = .ok (.invokestatic 144, 3) := by decide +kernel
theorem dX12_broken_9 : decode cX12_broken 9 = .ok (.ifCond .eq 14, 3) := by decide +kernel
theorem dX12_broken_12 : decode cX12_broken 12 = .ok (.iload_n 2, 1) := by decide +kernel
theorem dX12_broken_13 : decode cX12_broken 13 = .ok (.i2l, 1) := by decide +kernel
theorem dX12_broken_14 : decode cX12_broken 14 = .ok (.lconst 0, 1) := by decide +kernel
theorem dX12_broken_15 : decode cX12_broken 15 = .ok (.iload_n 3, 1) := by decide +kernel
theorem dX12_broken_16 : decode cX12_broken 16 = .ok (.i2l, 1) := by decide +kernel
theorem dX12_broken_17 : decode cX12_broken 17 = .ok (.invokestatic 99, 3) := by decide +kernel
theorem dX12_broken_20 : decode cX12_broken 20 = .ok (.ifCond .ne 9, 3) := by decide +kernel
theorem dX12_broken_23 : decode cX12_broken 23 = .ok (.aload_n 0, 1) := by decide +kernel
theorem dX12_broken_24 : decode cX12_broken 24 = .ok (.iconst (-1), 1) := by decide +kernel
theorem dX12_broken_25 : decode cX12_broken 25 = .ok (.invokevirtual 105, 3) := by decide +kernel
theorem dX12_broken_28 : decode cX12_broken 28 = .ok (.ireturn, 1) := by decide +kernel
theorem dX12_broken_29 : decode cX12_broken 29 = .ok (.aload_n 0, 1) := by decide +kernel
theorem dX12_broken_30 : decode cX12_broken 30 = .ok (.iload_n 1, 1) := by decide +kernel
theorem dX12_broken_31 : decode cX12_broken 31 = .ok (.invokevirtual 128, 3) := by decide +kernel
theorem dX12_broken_34 : decode cX12_broken 34 = .ok (.ifCond .ne 10, 3) := by decide +kernel
theorem dX12_broken_37 : decode cX12_broken 37 = .ok (.aload_n 0, 1) := by decide +kernel
theorem dX12_broken_38 : decode cX12_broken 38 = .ok (.bipush (-2), 2) := by decide +kernel
theorem dX12_broken_40 : decode cX12_broken 40 = .ok (.invokevirtual 105, 3) := by decide +kernel
theorem dX12_broken_43 : decode cX12_broken 43 = .ok (.ireturn, 1) := by decide +kernel
theorem dX12_broken_44 : decode cX12_broken 44 = .ok (.aload_n 0, 1) := by decide +kernel
theorem dX12_broken_45 : decode cX12_broken 45 = .ok (.getfield 7, 3) := by decide +kernel
theorem dX12_broken_48 : decode cX12_broken 48 = .ok (.iconst 3, 1) := by decide +kernel
theorem dX12_broken_49 : decode cX12_broken 49 = .ok (.iaload, 1) := by decide +kernel
theorem dX12_broken_50 : decode cX12_broken 50 = .ok (.bipush 20, 2) := by decide +kernel
theorem dX12_broken_52 : decode cX12_broken 52 = .ok (.if_icmp .ne 10, 3) := by decide +kernel
theorem dX12_broken_55 : decode cX12_broken 55 = .ok (.aload_n 0, 1) := by decide +kernel
theorem dX12_broken_56 : decode cX12_broken 56 = .ok (.bipush (-5), 2) := by decide +kernel
theorem dX12_broken_58 : decode cX12_broken 58 = .ok (.invokevirtual 105, 3) := by decide +kernel
theorem dX12_broken_61 : decode cX12_broken 61 = .ok (.ireturn, 1) := by decide +kernel
theorem dX12_broken_62 : decode cX12_broken 62 = .ok (.sipush 487, 3) := by decide +kernel
theorem dX12_broken_65 : decode cX12_broken 65 = .ok (.iconst 3, 1) := by decide +kernel
theorem dX12_broken_66 : decode cX12_broken 66 = .ok (.aload_n 0, 1) := by decide +kernel
theorem dX12_broken_67 : decode cX12_broken 67 = .ok (.getfield 7, 3) := by decide +kernel
theorem dX12_broken_70 : decode cX12_broken 70 = .ok (.iconst 3, 1) := by decide +kernel
theorem dX12_broken_71 : decode cX12_broken 71 = .ok (.iaload, 1) := by decide +kernel
theorem dX12_broken_72 : decode cX12_broken 72 = .ok (.imul, 1) := by decide +kernel
theorem dX12_broken_73 : decode cX12_broken 73 = .ok (.iadd, 1) := by decide +kernel
theorem dX12_broken_74 : decode cX12_broken 74 = .ok (.istore 4, 2) := by decide +kernel
theorem dX12_broken_76 : decode cX12_broken 76 = .ok (.aload_n 0, 1) := by decide +kernel
theorem dX12_broken_77 : decode cX12_broken 77 = .ok (.getfield 7, 3) := by decide +kernel
theorem dX12_broken_80 : decode cX12_broken 80 = .ok (.iload 4, 2) := by decide +kernel
theorem dX12_broken_82 : decode cX12_broken 82 = .ok (.iload_n 1, 1) := by decide +kernel
theorem dX12_broken_83 : decode cX12_broken 83 = .ok (.iastore, 1) := by decide +kernel
theorem dX12_broken_84 : decode cX12_broken 84 = .ok (.aload_n 0, 1) := by decide +kernel
theorem dX12_broken_85 : decode cX12_broken 85 = .ok (.getfield 7, 3) := by decide +kernel
theorem dX12_broken_88 : decode cX12_broken 88 = .ok (.iload 4, 2) := by decide +kernel
theorem dX12_broken_90 : decode cX12_broken 90 = .ok (.iconst 1, 1) := by decide +kernel
theorem dX12_broken_91 : decode cX12_broken 91 = .ok (.iadd, 1) := by decide +kernel
theorem dX12_broken_92 : decode cX12_broken 92 = .ok (.iload_n 2, 1) := by decide +kernel
theorem dX12_broken_93 : decode cX12_broken 93 = .ok (.iastore, 1) := by decide +kernel
theorem dX12_broken_94 : decode cX12_broken 94 = .ok (.aload_n 0, 1) := by decide +kernel
theorem dX12_broken_95 : decode cX12_broken 95 = .ok (.getfield 7, 3) := by decide +kernel
theorem dX12_broken_98 : decode cX12_broken 98 = .ok (.iload 4, 2) := by decide +kernel
theorem dX12_broken_100 : decode cX12_broken 100 = .ok (.iconst 2, 1) := by decide +kernel
theorem dX12_broken_101 : decode cX12_broken 101 = .ok (.iadd, 1) := by decide +kernel
theorem dX12_broken_102 : decode cX12_broken 102 = .ok (.iload_n 3, 1) := by decide +kernel
theorem dX12_broken_103 : decode cX12_broken 103 = .ok (.iastore, 1) := by decide +kernel
theorem dX12_broken_104 : decode cX12_broken 104 = .ok (.aload_n 0, 1) := by decide +kernel
theorem dX12_broken_105 : decode cX12_broken 105 = .ok (.getfield 7, 3) := by decide +kernel
theorem dX12_broken_108 : decode cX12_broken 108 = .ok (.iconst 3, 1) := by decide +kernel
theorem dX12_broken_109 : decode cX12_broken 109 = .ok (.dup2, 1) := by decide +kernel
theorem dX12_broken_110 : decode cX12_broken 110 = .ok (.iaload, 1) := by decide +kernel
theorem dX12_broken_111 : decode cX12_broken 111 = .ok (.iconst 1, 1) := by decide +kernel
theorem dX12_broken_112 : decode cX12_broken 112 = .ok (.iadd, 1) := by decide +kernel
theorem dX12_broken_113 : decode cX12_broken 113 = .ok (.iastore, 1) := by decide +kernel
theorem dX12_broken_114 : decode cX12_broken 114 = .ok (.aload_n 0, 1) := by decide +kernel
theorem dX12_broken_115 : decode cX12_broken 115 = .ok (.aload_n 0, 1) := by decide +kernel
theorem dX12_broken_116 : decode cX12_broken 116 = .ok (.getfield 7, 3) := by decide +kernel
theorem dX12_broken_119 : decode cX12_broken 119 = .ok (.iconst 3, 1) := by decide +kernel
theorem dX12_broken_120 : decode cX12_broken 120 = .ok (.iaload, 1) := by decide +kernel
theorem dX12_broken_121 : decode cX12_broken 121 = .ok (.invokevirtual 105, 3) := by decide +kernel
theorem dX12_broken_124 : decode cX12_broken 124 = .ok (.ireturn, 1) := by decide +kernel
set_option maxRecDepth 20000 in
theorem ggX12_isBroken_X12_in : GoodIn wsX12_isBroken wsX12_in := goodIn_r _ [5] (by decide +kernel) (by decide +kernel)
set_option maxRecDepth 20000 in
theorem gX12_isBroken_X12_in : GoodIn wsX12_isBroken (va_wsS RX12 99 yX12_in wsX12_in) := goodIn_app (goodIn_of _ (by decide +kernel)) ggX12_isBroken_X12_in
theorem dX12_isBroken_0 : decode cX12_isBroken 0 = .ok (.iconst 0, 1) := by decide +kernel
theorem dX12_isBroken_1 : decode cX12_isBroken 1 = .ok (.istore_n 3, 1) := by decide +kernel
theorem dX12_isBroken_2 : decode cX12_isBroken 2 = .ok (.iconst 0, 1) := by decide +kernel
theorem dX12_isBroken_3 : decode cX12_isBroken 3 = .ok (.istore 4, 2) := by decide +kernel
theorem dX12_isBroken_5 : decode cX12_isBroken 5 = .ok (.iload 4, 2) := by decide +kernel
theorem dX12_isBroken_7 : decode cX12_isBroken 7 = .ok (.aload_n 0, 1) := by decide +kernel
theorem dX12_isBroken_8 : decode cX12_isBroken 8 = .ok (.getfield 7, 3) := by decide +kernel
theorem dX12_isBroken_11 : decode cX12_isBroken 11 = .ok (.iconst 3, 1) := by decide +kernel
theorem dX12_isBroken_12 : decode cX12_isBroken 12 = .ok (.iaload, 1) := by decide +kernel
theorem dX12_isBroken_13 : decode cX12_isBroken 13 = .ok (.if_icmp .ge 68, 3) := by decide +kernel
theorem dX12_isBroken_16 : decode cX12_isBroken 16 = .ok (.sipush 487, 3) := by decide +kernel
theorem dX12_isBroken_19 : decode cX12_isBroken 19 = .ok (.iconst 3, 1) := by decide +kernel
theorem dX12_isBroken_20 : decode cX12_isBroken 20 = .ok (.iload 4, 2) := by decide +kernel
theorem dX12_isBroken_22 : decode cX12_isBroken 22 = .ok (.imul, 1) := by decide +kernel
theorem dX12_isBroken_23 : decode cX12_isBroken 23 = .ok (.iadd, 1) := by decide +kernel
theorem dX12_isBroken_24 : decode cX12_isBroken 24 = .ok (.istore 5, 2) := by decide +kernel
theorem dX12_isBroken_26 : decode cX12_isBroken 26 = .ok (.iload_n 3, 1) := by decide +kernel
theorem dX12_isBroken_27 : decode cX12_isBroken 27 = .ok (.ifCond .ne 42, 3) := by decide +kernel
theorem dX12_isBroken_30 : decode cX12_isBroken 30 = .ok (.aload_n 0, 1) := by decide +kernel
theorem dX12_isBroken_31 : decode cX12_isBroken 31 = .ok (.getfield 7, 3) := by decide +kernel
theorem dX12_isBroken_34 : decode cX12_isBroken 34 = .ok (.iload 5, 2) := by decide +kernel
theorem dX12_isBroken_36 : decode cX12_isBroken 36 = .ok (.iaload, 1) := by decide +kernel
theorem dX12_isBroken_37 : decode cX12_isBroken 37 = .ok (.iload_n 1, 1) := by decide +kernel
theorem dX12_isBroken_38 : decode cX12_isBroken 38 = .ok (.if_icmp .ne 35, 3) := by decide +kernel
theorem dX12_isBroken_41 : decode cX12_isBroken 41 = .ok (.iload_n 2, 1) := by decide +kernel
theorem dX12_isBroken_42 : decode cX12_isBroken 42 = .ok (.i2l, 1) := by decide +kernel
theorem dX12_isBroken_43 : decode cX12_isBroken 43 = .ok (.aload_n 0, 1) := by decide +kernel
theorem dX12_isBroken_44 : decode cX12_isBroken 44 = .ok (.getfield 7, 3) := by decide +kernel
theorem dX12_isBroken_47 : decode cX12_isBroken 47 = .ok (.iload 5, 2) := by decide +kernel
theorem dX12_isBroken_49 : decode cX12_isBroken 49 = .ok (.iconst 1, 1) := by decide +kernel
theorem dX12_isBroken_50 : decode cX12_isBroken 50 = .ok (.iadd, 1) := by decide +kernel
theorem dX12_isBroken_51 : decode cX12_isBroken 51 = .ok (.iaload, 1) := by decide +kernel
theorem dX12_isBroken_52 : decode cX12_isBroken 52 = .ok (.i2l, 1) := by decide +kernel
theorem dX12_isBroken_53 : decode cX12_isBroken 53 = .ok (.aload_n 0, 1) := by decide +kernel
theorem dX12_isBroken_54 : decode cX12_isBroken 54 = .ok (.getfield 7, 3) := by decide +kernel
theorem dX12_isBroken_57 : decode cX12_isBroken 57 = .ok (.iload 5, 2) := by decide +kernel
theorem dX12_isBroken_59 : decode cX12_isBroken 59 = .ok (.iconst 2, 1) := by decide +kernel
theorem dX12_isBroken_60 : decode cX12_isBroken 60 = .ok (.iadd, 1) := by decide +kernel
theorem dX12_isBroken_61 : decode cX12_isBroken 61 = .ok (.iaload, 1) := by decide +kernel
theorem dX12_isBroken_62 : decode cX12_isBroken 62 = .ok (.i2l, 1) := by decide +kernel
theorem dX12_isBroken_63 : decode cX12_isBroken 63 = .ok (.invokestatic 99, 3) := by decide +kernel
theorem dX12_isBroken_66 : decode cX12_isBroken 66 = .ok (.ifCond .eq 7, 3) := by decide +kernel
theorem dX12_isBroken_69 : decode cX12_isBroken 69 = .ok (.iconst 1, 1) := by decide +kernel
theorem dX12_isBroken_70 : decode cX12_isBroken 70 = .ok (.goto 4, 3) := by decide +kernel
theorem dX12_isBroken_73 : decode cX12_isBroken 73 = .ok (.iconst 0, 1) := by decide +kernel
theorem dX12_isBroken_74 : decode cX12_isBroken 74 = .ok (.istore_n 3, 1) := by decide +kernel
theorem dX12_isBroken_75 : decode cX12_isBroken 75 = .ok (.iinc 4 1, 3) := by decide +kernel
theorem dX12_isBroken_78 : decode cX12_isBroken 78 = .ok (.goto (-73), 3) := by decide +kernel
theorem dX12_isBroken_81 : decode cX12_isBroken 81 = .ok (.iload_n 3, 1) := by decide +kernel
theorem dX12_isBroken_82 : decode cX12_isBroken 82 = .ok (.ireturn, 1) := by decide +kernel
set_option maxRecDepth 20000 in
theorem ggX12_order_X12_in : GoodIn wsX12_order wsX12_in := goodIn_r _ [8] (by decide +kernel) (by decide +kernel)
set_option maxRecDepth 20000 in
theorem gX12_order_X12_in : GoodIn wsX12_order (va_wsS RX12 99 yX12_in wsX12_in) := goodIn_app (goodIn_of _ (by decide +kernel)) ggX12_order_X12_in
set_option maxRecDepth 20000 in
theorem ggX12_order_X12_isHour : GoodIn wsX12_order wsX12_isHour := goodIn_r _ [11, 12, 5, 6, 7, 8] (by decide +kernel) (by decide +kernel)
set_option maxRecDepth 20000 in
theorem gX12_order_X12_isHour : GoodIn wsX12_order (va_wsS RX12 144 yX12_isHour wsX12_isHour) := goodIn_app (goodIn_of _ (by decide +kernel)) ggX12_order_X12_isHour
set_option maxRecDepth 20000 in
theorem ggX12_order_X12_told : GoodIn wsX12_order wsX12_told := goodIn_r _ [16, 17, 33, 34, 35, 36, 37, 38, 39, 40, 41, 42, 43, 44, 45, 46, 47, 48, 49, 50, 51, 52, 53, 54, 55, 56, 57, 58, 59, 60, 61, 62, 63, 64, 65, 66, 67, 68, 69, 70, 71, 72, 73, 74, 75, 76, 77, 78, 79, 80, 81, 82, 83, 84, 85] (by decide +kernel) (by decide +kernel)
set_option maxRecDepth 20000 in
theorem gX12_order_X12_told : GoodIn wsX12_order (wsV RX12 105 RX12 yX12_told wsX12_told) := goodIn_app (goodIn_of _ (by decide +kernel)) ggX12_order_X12_told
set_option maxRecDepth 20000 in
theorem ggX12_order_X12_isShip : GoodIn wsX12_order wsX12_isShip := goodIn_r _ [21, 4, 5, 6, 7, 8, 33, 34, 35, 36, 37, 38, 39, 40, 41, 42, 43, 44, 45, 46, 47, 48, 49, 50, 51, 52, 53, 54, 55, 56, 57, 58, 59, 60, 61, 62, 63, 64, 65, 66, 67, 68, 69, 70, 71, 72, 73, 74, 75, 76, 77, 78, 79, 80, 81, 82, 83, 84, 85] (by decide +kernel) (by decide +kernel)
set_option maxRecDepth 20000 in
theorem gX12_order_X12_isShip : GoodIn wsX12_order (wsV RX12 147 RX12 yX12_isShip wsX12_isShip) := goodIn_app (goodIn_of _ (by decide +kernel)) ggX12_order_X12_isShip
set_option maxRecDepth 20000 in
theorem ggX12_order_X12_isTerminal : GoodIn wsX12_order wsX12_isTerminal := goodIn_r _ [25, 4, 5, 6, 7, 8, 33, 34, 35, 36, 37, 38, 39, 40, 41, 42, 43, 44, 45, 46, 47, 48, 49, 50, 51, 52, 53, 54, 55, 56, 57, 58, 59, 60, 61, 62, 63, 64, 65, 66, 67, 68, 69, 70, 71, 72, 73, 74, 75, 76, 77, 78, 79, 80, 81, 82, 83, 84, 85] (by decide +kernel) (by decide +kernel)
set_option maxRecDepth 20000 in
theorem gX12_order_X12_isTerminal : GoodIn wsX12_order (wsV RX12 128 RX12 yX12_isTerminal wsX12_isTerminal) := goodIn_app (goodIn_of _ (by decide +kernel)) ggX12_order_X12_isTerminal
set_option maxRecDepth 20000 in
theorem ggX12_order_X12_shipAt : GoodIn wsX12_order wsX12_shipAt := goodIn_r _ [28] (by decide +kernel) (by decide +kernel)
set_option maxRecDepth 20000 in
theorem gX12_order_X12_shipAt : GoodIn wsX12_order (va_wsS RX12 132 yX12_shipAt wsX12_shipAt) := goodIn_app (goodIn_of _ (by decide +kernel)) ggX12_order_X12_shipAt
set_option maxRecDepth 20000 in
theorem ggX12_order_X12_beginOrder : GoodIn wsX12_order wsX12_beginOrder := goodIn_r _ [32, 4, 33, 34, 35, 36, 37, 38, 39, 40, 41, 42, 43, 44, 45, 46, 47, 48, 49, 50, 51, 52, 53, 54, 55, 56, 57, 58, 59, 60, 61, 62, 63, 64, 65, 66, 67, 68, 69, 70, 71, 72, 73, 74, 75, 76, 77, 78, 79, 80, 81, 82, 83, 84, 85] (by decide +kernel) (by decide +kernel)
set_option maxRecDepth 20000 in
theorem gX12_order_X12_beginOrder : GoodIn wsX12_order (wsV RX12 154 RX12 yX12_beginOrder wsX12_beginOrder) := goodIn_app (goodIn_of _ (by decide +kernel)) ggX12_order_X12_beginOrder
theorem dX12_order_0 : decode cX12_order 0 = .ok (.aload_n 0, 1) := by decide +kernel
theorem dX12_order_1 : decode cX12_order 1 = .ok (.iconst 0, 1) := by decide +kernel
theorem dX12_order_2 : decode cX12_order 2 = .ok (.putfield 91, 3) := by decide +kernel
theorem dX12_order_5 : decode cX12_order 5 = .ok (.iload_n 2, 1) := by decide +kernel
theorem dX12_order_6 : decode cX12_order 6 = .ok (.i2l, 1) := by decide +kernel
theorem dX12_order_7 : decode cX12_order 7 = .ok (.lconst 0, 1) := by decide +kernel
theorem dX12_order_8 : decode cX12_order 8 = .ok (.ldc2_w 152, 3) := by decide +kernel
theorem dX12_order_11 : decode cX12_order 11 = .ok (.invokestatic 99, 3) := by decide +kernel
theorem dX12_order_14 : decode cX12_order 14 = .ok (.ifCond .eq 38, 3) := by decide +kernel
theorem dX12_order_17 : decode cX12_order 17 = .ok (.iload_n 2, 1) := by decide +kernel
theorem dX12_order_18 : decode cX12_order 18 = .ok (.ifCond .eq 30, 3) := by decide +kernel
theorem dX12_order_21 : decode cX12_order 21 = .ok (.iload_n 2, 1) := by decide +kernel
theorem dX12_order_22 : decode cX12_order 22 = .ok (.iconst 3, 1) := by decide +kernel
theorem dX12_order_23 : decode cX12_order 23 = .ok (.if_icmp .ne 13, 3) := by decide +kernel
theorem dX12_order_26 : decode cX12_order 26 = .ok (.iload_n 3, 1) := by decide +kernel
theorem dX12_order_27 : decode cX12_order 27 = .ok (.invokestatic 144, 3) := by decide +kernel
theorem dX12_order_30 : decode cX12_order 30 = .ok (.ifCond .eq 22, 3) := by decide +kernel
theorem dX12_order_33 : decode cX12_order 33 = .ok (.goto 15, 3) := by decide +kernel
theorem dX12_order_36 : decode cX12_order 36 = .ok (.iload_n 3, 1) := by decide +kernel
theorem dX12_order_37 : decode cX12_order 37 = .ok (.i2l, 1) := by decide +kernel
theorem dX12_order_38 : decode cX12_order 38 = .ok (.lconst 1, 1) := by decide +kernel
theorem dX12_order_39 : decode cX12_order 39 = .ok (.ldc2_w 124, 3) := by decide +kernel
theorem dX12_order_42 : decode cX12_order 42 = .ok (.invokestatic 99, 3) := by decide +kernel
theorem dX12_order_45 : decode cX12_order 45 = .ok (.ifCond .eq 7, 3) := by decide +kernel
theorem dX12_order_48 : decode cX12_order 48 = .ok (.iconst 1, 1) := by decide +kernel
theorem dX12_order_49 : decode cX12_order 49 = .ok (.goto 4, 3) := by decide +kernel
theorem dX12_order_52 : decode cX12_order 52 = .ok (.iconst 0, 1) := by decide +kernel
theorem dX12_order_53 : decode cX12_order 53 = .ok (.istore 4, 2) := by decide +kernel
theorem dX12_order_55 : decode cX12_order 55 = .ok (.iload 4, 2) := by decide +kernel
theorem dX12_order_57 : decode cX12_order 57 = .ok (.ifCond .ne 9, 3) := by decide +kernel
theorem dX12_order_60 : decode cX12_order 60 = .ok (.aload_n 0, 1) := by decide +kernel
theorem dX12_order_61 : decode cX12_order 61 = .ok (.iconst (-1), 1) := by decide +kernel
theorem dX12_order_62 : decode cX12_order 62 = .ok (.invokevirtual 105, 3) := by decide +kernel
theorem dX12_order_65 : decode cX12_order 65 = .ok (.ireturn, 1) := by decide +kernel
theorem dX12_order_66 : decode cX12_order 66 = .ok (.aload_n 0, 1) := by decide +kernel
theorem dX12_order_67 : decode cX12_order 67 = .ok (.iload_n 1, 1) := by decide +kernel
theorem dX12_order_68 : decode cX12_order 68 = .ok (.invokevirtual 147, 3) := by decide +kernel
theorem dX12_order_71 : decode cX12_order 71 = .ok (.ifCond .eq 15, 3) := by decide +kernel
theorem dX12_order_74 : decode cX12_order 74 = .ok (.iload_n 2, 1) := by decide +kernel
theorem dX12_order_75 : decode cX12_order 75 = .ok (.ifCond .ne 18, 3) := by decide +kernel
theorem dX12_order_78 : decode cX12_order 78 = .ok (.aload_n 0, 1) := by decide +kernel
theorem dX12_order_79 : decode cX12_order 79 = .ok (.iload_n 3, 1) := by decide +kernel
theorem dX12_order_80 : decode cX12_order 80 = .ok (.invokevirtual 128, 3) := by decide +kernel
theorem dX12_order_83 : decode cX12_order 83 = .ok (.ifCond .ne 10, 3) := by decide +kernel
theorem dX12_order_86 : decode cX12_order 86 = .ok (.aload_n 0, 1) := by decide +kernel
theorem dX12_order_87 : decode cX12_order 87 = .ok (.bipush (-2), 2) := by decide +kernel
theorem dX12_order_89 : decode cX12_order 89 = .ok (.invokevirtual 105, 3) := by decide +kernel
theorem dX12_order_92 : decode cX12_order 92 = .ok (.ireturn, 1) := by decide +kernel
theorem dX12_order_93 : decode cX12_order 93 = .ok (.iload_n 1, 1) := by decide +kernel
theorem dX12_order_94 : decode cX12_order 94 = .ok (.invokestatic 132, 3) := by decide +kernel
theorem dX12_order_97 : decode cX12_order 97 = .ok (.istore 5, 2) := by decide +kernel
theorem dX12_order_99 : decode cX12_order 99 = .ok (.aload_n 0, 1) := by decide +kernel
theorem dX12_order_100 : decode cX12_order 100 = .ok (.getfield 7, 3) := by decide +kernel
theorem dX12_order_103 : decode cX12_order 103 = .ok (.iload 5, 2) := by decide +kernel
theorem dX12_order_105 : decode cX12_order 105 = .ok (.bipush 10, 2) := by decide +kernel
theorem dX12_order_107 : decode cX12_order 107 = .ok (.iadd, 1) := by decide +kernel
theorem dX12_order_108 : decode cX12_order 108 = .ok (.iaload, 1) := by decide +kernel
theorem dX12_order_109 : decode cX12_order 109 = .ok (.bipush 20, 2) := by decide +kernel
theorem dX12_order_111 : decode cX12_order 111 = .ok (.if_icmp .eq 15, 3) := by decide +kernel
theorem dX12_order_114 : decode cX12_order 114 = .ok (.aload_n 0, 1) := by decide +kernel
theorem dX12_order_115 : decode cX12_order 115 = .ok (.getfield 7, 3) := by decide +kernel
theorem dX12_order_118 : decode cX12_order 118 = .ok (.iconst 4, 1) := by decide +kernel
theorem dX12_order_119 : decode cX12_order 119 = .ok (.iaload, 1) := by decide +kernel
theorem dX12_order_120 : decode cX12_order 120 = .ok (.sipush 400, 3) := by decide +kernel
theorem dX12_order_123 : decode cX12_order 123 = .ok (.if_icmp .ne 10, 3) := by decide +kernel
theorem dX12_order_126 : decode cX12_order 126 = .ok (.aload_n 0, 1) := by decide +kernel
theorem dX12_order_127 : decode cX12_order 127 = .ok (.bipush (-5), 2) := by decide +kernel
theorem dX12_order_129 : decode cX12_order 129 = .ok (.invokevirtual 105, 3) := by decide +kernel
theorem dX12_order_132 : decode cX12_order 132 = .ok (.ireturn, 1) := by decide +kernel
theorem dX12_order_133 : decode cX12_order 133 = .ok (.iload 5, 2) := by decide +kernel
theorem dX12_order_135 : decode cX12_order 135 = .ok (.bipush 44, 2) := by decide +kernel
theorem dX12_order_137 : decode cX12_order 137 = .ok (.iadd, 1) := by decide +kernel
theorem dX12_order_138 : decode cX12_order 138 = .ok (.iconst 2, 1) := by decide +kernel
theorem dX12_order_139 : decode cX12_order 139 = .ok (.aload_n 0, 1) := by decide +kernel
theorem dX12_order_140 : decode cX12_order 140 = .ok (.getfield 7, 3) := by decide +kernel
theorem dX12_order_143 : decode cX12_order 143 = .ok (.iload 5, 2) := by decide +kernel
theorem dX12_order_145 : decode cX12_order 145 = .ok (.bipush 10, 2) := by decide +kernel
theorem dX12_order_147 : decode cX12_order 147 = .ok (.iadd, 1) := by decide +kernel
theorem dX12_order_148 : decode cX12_order 148 = .ok (.iaload, 1) := by decide +kernel
theorem dX12_order_149 : decode cX12_order 149 = .ok (.imul, 1) := by decide +kernel
theorem dX12_order_150 : decode cX12_order 150 = .ok (.iadd, 1) := by decide +kernel
theorem dX12_order_151 : decode cX12_order 151 = .ok (.istore 6, 2) := by decide +kernel
theorem dX12_order_153 : decode cX12_order 153 = .ok (.aload_n 0, 1) := by decide +kernel
theorem dX12_order_154 : decode cX12_order 154 = .ok (.getfield 7, 3) := by decide +kernel
theorem dX12_order_157 : decode cX12_order 157 = .ok (.iload 6, 2) := by decide +kernel
theorem dX12_order_159 : decode cX12_order 159 = .ok (.iload_n 2, 1) := by decide +kernel
theorem dX12_order_160 : decode cX12_order 160 = .ok (.iastore, 1) := by decide +kernel
theorem dX12_order_161 : decode cX12_order 161 = .ok (.aload_n 0, 1) := by decide +kernel
theorem dX12_order_162 : decode cX12_order 162 = .ok (.getfield 7, 3) := by decide +kernel
theorem dX12_order_165 : decode cX12_order 165 = .ok (.iload 6, 2) := by decide +kernel
theorem dX12_order_167 : decode cX12_order 167 = .ok (.iconst 1, 1) := by decide +kernel
theorem dX12_order_168 : decode cX12_order 168 = .ok (.iadd, 1) := by decide +kernel
theorem dX12_order_169 : decode cX12_order 169 = .ok (.iload_n 3, 1) := by decide +kernel
theorem dX12_order_170 : decode cX12_order 170 = .ok (.iastore, 1) := by decide +kernel
theorem dX12_order_171 : decode cX12_order 171 = .ok (.aload_n 0, 1) := by decide +kernel
theorem dX12_order_172 : decode cX12_order 172 = .ok (.getfield 7, 3) := by decide +kernel
theorem dX12_order_175 : decode cX12_order 175 = .ok (.iload 5, 2) := by decide +kernel
theorem dX12_order_177 : decode cX12_order 177 = .ok (.bipush 10, 2) := by decide +kernel
theorem dX12_order_179 : decode cX12_order 179 = .ok (.iadd, 1) := by decide +kernel
theorem dX12_order_180 : decode cX12_order 180 = .ok (.dup2, 1) := by decide +kernel
theorem dX12_order_181 : decode cX12_order 181 = .ok (.iaload, 1) := by decide +kernel
theorem dX12_order_182 : decode cX12_order 182 = .ok (.iconst 1, 1) := by decide +kernel
theorem dX12_order_183 : decode cX12_order 183 = .ok (.iadd, 1) := by decide +kernel
theorem dX12_order_184 : decode cX12_order 184 = .ok (.iastore, 1) := by decide +kernel
theorem dX12_order_185 : decode cX12_order 185 = .ok (.aload_n 0, 1) := by decide +kernel
theorem dX12_order_186 : decode cX12_order 186 = .ok (.getfield 7, 3) := by decide +kernel
theorem dX12_order_189 : decode cX12_order 189 = .ok (.iconst 4, 1) := by decide +kernel
theorem dX12_order_190 : decode cX12_order 190 = .ok (.dup2, 1) := by decide +kernel
theorem dX12_order_191 : decode cX12_order 191 = .ok (.iaload, 1) := by decide +kernel
theorem dX12_order_192 : decode cX12_order 192 = .ok (.iconst 1, 1) := by decide +kernel
theorem dX12_order_193 : decode cX12_order 193 = .ok (.iadd, 1) := by decide +kernel
theorem dX12_order_194 : decode cX12_order 194 = .ok (.iastore, 1) := by decide +kernel
theorem dX12_order_195 : decode cX12_order 195 = .ok (.aload_n 0, 1) := by decide +kernel
theorem dX12_order_196 : decode cX12_order 196 = .ok (.getfield 7, 3) := by decide +kernel
theorem dX12_order_199 : decode cX12_order 199 = .ok (.iload 5, 2) := by decide +kernel
theorem dX12_order_201 : decode cX12_order 201 = .ok (.bipush 10, 2) := by decide +kernel
theorem dX12_order_203 : decode cX12_order 203 = .ok (.iadd, 1) := by decide +kernel
theorem dX12_order_204 : decode cX12_order 204 = .ok (.iaload, 1) := by decide +kernel
theorem dX12_order_205 : decode cX12_order 205 = .ok (.iconst 1, 1) := by decide +kernel
theorem dX12_order_206 : decode cX12_order 206 = .ok (.if_icmp .ne 9, 3) := by decide +kernel
theorem dX12_order_209 : decode cX12_order 209 = .ok (.aload_n 0, 1) := by decide +kernel
theorem dX12_order_210 : decode cX12_order 210 = .ok (.iload 5, 2) := by decide +kernel
theorem dX12_order_212 : decode cX12_order 212 = .ok (.invokevirtual 154, 3) := by decide +kernel
theorem dX12_order_215 : decode cX12_order 215 = .ok (.aload_n 0, 1) := by decide +kernel
theorem dX12_order_216 : decode cX12_order 216 = .ok (.aload_n 0, 1) := by decide +kernel
theorem dX12_order_217 : decode cX12_order 217 = .ok (.getfield 7, 3) := by decide +kernel
theorem dX12_order_220 : decode cX12_order 220 = .ok (.iload 5, 2) := by decide +kernel
theorem dX12_order_222 : decode cX12_order 222 = .ok (.bipush 10, 2) := by decide +kernel
theorem dX12_order_224 : decode cX12_order 224 = .ok (.iadd, 1) := by decide +kernel
theorem dX12_order_225 : decode cX12_order 225 = .ok (.iaload, 1) := by decide +kernel
theorem dX12_order_226 : decode cX12_order 226 = .ok (.invokevirtual 105, 3) := by decide +kernel
theorem dX12_order_229 : decode cX12_order 229 = .ok (.ireturn, 1) := by decide +kernel
theorem dX12_beginOrder_0 : decode cX12_beginOrder 0 = .ok (.aload_n 0, 1) := by decide +kernel
theorem dX12_beginOrder_1 : decode cX12_beginOrder 1 = .ok (.getfield 7, 3) := by decide +kernel
theorem dX12_beginOrder_4 : decode cX12_beginOrder 4 = .ok (.iload_n 1, 1) := by decide +kernel
theorem dX12_beginOrder_5 : decode cX12_beginOrder 5 = .ok (.bipush 10, 2) := by decide +kernel
theorem dX12_beginOrder_7 : decode cX12_beginOrder 7 = .ok (.iadd, 1) := by decide +kernel
theorem dX12_beginOrder_8 : decode cX12_beginOrder 8 = .ok (.iaload, 1) := by decide +kernel
theorem dX12_beginOrder_9 : decode cX12_beginOrder 9 = .ok (.ifCond .le 33, 3) := by decide +kernel
theorem dX12_beginOrder_12 : decode cX12_beginOrder 12 = .ok (.aload_n 0, 1) := by decide +kernel
theorem dX12_beginOrder_13 : decode cX12_beginOrder 13 = .ok (.getfield 7, 3) := by decide +kernel
theorem dX12_beginOrder_16 : decode cX12_beginOrder 16 = .ok (.iload_n 1, 1) := by decide +kernel
theorem dX12_beginOrder_17 : decode cX12_beginOrder 17 = .ok (.bipush 44, 2) := by decide +kernel
theorem dX12_beginOrder_19 : decode cX12_beginOrder 19 = .ok (.iadd, 1) := by decide +kernel
theorem dX12_beginOrder_20 : decode cX12_beginOrder 20 = .ok (.iaload, 1) := by decide +kernel
theorem dX12_beginOrder_21 : decode cX12_beginOrder 21 = .ok (.iconst 1, 1) := by decide +kernel
theorem dX12_beginOrder_22 : decode cX12_beginOrder 22 = .ok (.if_icmp .eq 16, 3) := by decide +kernel
theorem dX12_beginOrder_25 : decode cX12_beginOrder 25 = .ok (.aload_n 0, 1) := by decide +kernel
theorem dX12_beginOrder_26 : decode cX12_beginOrder 26 = .ok (.getfield 7, 3) := by decide +kernel
theorem dX12_beginOrder_29 : decode cX12_beginOrder 29 = .ok (.iload_n 1, 1) := by decide +kernel
theorem dX12_beginOrder_30 : decode cX12_beginOrder 30 = .ok (.bipush 44, 2) := by decide +kernel
theorem dX12_beginOrder_32 : decode cX12_beginOrder 32 = .ok (.iadd, 1) := by decide +kernel
theorem dX12_beginOrder_33 : decode cX12_beginOrder 33 = .ok (.iaload, 1) := by decide +kernel
theorem dX12_beginOrder_34 : decode cX12_beginOrder 34 = .ok (.iconst 2, 1) := by decide +kernel
theorem dX12_beginOrder_35 : decode cX12_beginOrder 35 = .ok (.if_icmp .ne 7, 3) := by decide +kernel
theorem dX12_beginOrder_38 : decode cX12_beginOrder 38 = .ok (.iconst 1, 1) := by decide +kernel
theorem dX12_beginOrder_39 : decode cX12_beginOrder 39 = .ok (.goto 4, 3) := by decide +kernel
theorem dX12_beginOrder_42 : decode cX12_beginOrder 42 = .ok (.iconst 0, 1) := by decide +kernel
theorem dX12_beginOrder_43 : decode cX12_beginOrder 43 = .ok (.istore_n 2, 1) := by decide +kernel
theorem dX12_beginOrder_44 : decode cX12_beginOrder 44 = .ok (.aload_n 0, 1) := by decide +kernel
theorem dX12_beginOrder_45 : decode cX12_beginOrder 45 = .ok (.getfield 7, 3) := by decide +kernel
theorem dX12_beginOrder_48 : decode cX12_beginOrder 48 = .ok (.iload_n 1, 1) := by decide +kernel
theorem dX12_beginOrder_49 : decode cX12_beginOrder 49 = .ok (.bipush 11, 2) := by decide +kernel
theorem dX12_beginOrder_51 : decode cX12_beginOrder 51 = .ok (.iadd, 1) := by decide +kernel
theorem dX12_beginOrder_52 : decode cX12_beginOrder 52 = .ok (.iload_n 2, 1) := by decide +kernel
theorem dX12_beginOrder_53 : decode cX12_beginOrder 53 = .ok (.ifCond .eq 17, 3) := by decide +kernel
theorem dX12_beginOrder_56 : decode cX12_beginOrder 56 = .ok (.aload_n 0, 1) := by decide +kernel
theorem dX12_beginOrder_57 : decode cX12_beginOrder 57 = .ok (.getfield 7, 3) := by decide +kernel
theorem dX12_beginOrder_60 : decode cX12_beginOrder 60 = .ok (.iload_n 1, 1) := by decide +kernel
theorem dX12_beginOrder_61 : decode cX12_beginOrder 61 = .ok (.bipush 44, 2) := by decide +kernel
theorem dX12_beginOrder_63 : decode cX12_beginOrder 63 = .ok (.iadd, 1) := by decide +kernel
theorem dX12_beginOrder_64 : decode cX12_beginOrder 64 = .ok (.iconst 1, 1) := by decide +kernel
theorem dX12_beginOrder_65 : decode cX12_beginOrder 65 = .ok (.iadd, 1) := by decide +kernel
theorem dX12_beginOrder_66 : decode cX12_beginOrder 66 = .ok (.iaload, 1) := by decide +kernel
theorem dX12_beginOrder_67 : decode cX12_beginOrder 67 = .ok (.goto 4, 3) := by decide +kernel
theorem dX12_beginOrder_70 : decode cX12_beginOrder 70 = .ok (.iconst 0, 1) := by decide +kernel
theorem dX12_beginOrder_71 : decode cX12_beginOrder 71 = .ok (.iastore, 1) := by decide +kernel
theorem dX12_beginOrder_72 : decode cX12_beginOrder 72 = .ok (.return_, 1) := by decide +kernel
