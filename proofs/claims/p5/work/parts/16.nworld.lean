abbrev cX4_addRow : ByteArray := prog_6_method_3_code
def yX4_addRow : MethodName := ⟨RX4, "addRow", "()I"⟩
abbrev cX4_copyFrom : ByteArray := prog_6_method_7_code
def yX4_copyFrom : MethodName := ⟨RX4, "copyFrom", "(LColdShips$Rows;)V"⟩
abbrev cX10_hasTerminal : ByteArray := prog_12_method_2_code
def yX10_hasTerminal : MethodName := ⟨RX10, "hasTerminal", "(I)Z"⟩
abbrev cX10_hasShip : ByteArray := prog_12_method_3_code
def yX10_hasShip : MethodName := ⟨RX10, "hasShip", "(I)Z"⟩
abbrev cX10_hasContract : ByteArray := prog_12_method_4_code
def yX10_hasContract : MethodName := ⟨RX10, "hasContract", "(I)Z"⟩
abbrev cX10_isSettled : ByteArray := prog_12_method_5_code
def yX10_isSettled : MethodName := ⟨RX10, "isSettled", "(I)Z"⟩
abbrev cX10_hoursBetween : ByteArray := prog_12_method_6_code
def yX10_hoursBetween : MethodName := ⟨RX10, "hoursBetween", "(II)I"⟩
abbrev cX10_heatOf : ByteArray := prog_12_method_7_code
def yX10_heatOf : MethodName := ⟨RX10, "heatOf", "(I)J"⟩
abbrev cX10_billedOf : ByteArray := prog_12_method_8_code
def yX10_billedOf : MethodName := ⟨RX10, "billedOf", "(I)J"⟩
abbrev cX10_priceOf : ByteArray := prog_12_method_9_code
def yX10_priceOf : MethodName := ⟨RX10, "priceOf", "(II)J"⟩
abbrev cX10_copyFrom : ByteArray := prog_12_method_10_code
def yX10_copyFrom : MethodName := ⟨RX10, "copyFrom", "(LColdShips$World;)V"⟩
abbrev cX11_isOrder : ByteArray := prog_1_method_48_code
def yX11_isOrder : MethodName := ⟨RX11, "isOrder", "(II)Z"⟩
abbrev cJ7_rangeCheck_23922 : ByteArray := prog_22_method_30_code
def yJ7_rangeCheck_23922 : MethodName := ⟨RJ7, "rangeCheck", "(III)V"⟩
abbrev cJ7_fill_bad5a : ByteArray := prog_22_method_102_code
def yJ7_fill_bad5a : MethodName := ⟨RJ7, "fill", "([JIIJ)V"⟩
def wsX10_hasShip : List Cond := .code yX10_hasShip cX10_hasShip 2 (some .boolean) :: ([.fieldLink RX10 81 "ColdShips$World" "shipCount" "I"] ++ wsX100)
def wsJ7_rangeCheck_23922 : List Cond := .code yJ7_rangeCheck_23922 cJ7_rangeCheck_23922 3 none :: ([])
def wsJ7_fill_bad5a : List Cond := .code yJ7_fill_bad5a cJ7_fill_bad5a 6 none :: ([.methodLink RJ7 13 yJ7_rangeCheck_23922, .static yJ7_rangeCheck_23922, .initialized RJ7, .code yJ7_rangeCheck_23922 cJ7_rangeCheck_23922 3 none])
def wsX10_hasTerminal : List Cond := .code yX10_hasTerminal cX10_hasTerminal 2 (some .boolean) :: ([.fieldLink RX10 78 "ColdShips$World" "terminalCount" "I"] ++ wsX100)
def wsX10_hoursBetween : List Cond := .code yX10_hoursBetween cX10_hoursBetween 4 (some .int) :: ([.fieldLink RX10 27 "ColdShips$World" "terminals" "[LColdShips$Terminal;", .methodLink RX10 93 yX10_hasTerminal, .instanceMethod yX10_hasTerminal, .selects RX10 yX10_hasTerminal yX10_hasTerminal, .initialized RX10, .code yX10_hasTerminal cX10_hasTerminal 2 (some .boolean), .fieldLink RX10 78 "ColdShips$World" "terminalCount" "I"] ++ wsX100 ++ wsX80)
def wsX10_billedOf : List Cond := .code yX10_billedOf cX10_billedOf 4 (some .long) :: ([.fieldLink RX10 70 "ColdShips$World" "landings" "LColdShips$Rows;", .constantLong RX10 91 (-1), .methodLink RX10 87 yX4_at, .instanceMethod yX4_at, .selects RX4 yX4_at yX4_at, .initialized RX4, .code yX4_at cX4_at 4 (some .long), .fieldLink RX4 25 "ColdShips$Rows" "size" "I", .fieldLink RX4 15 "ColdShips$Rows" "width" "I", .fieldLink RX4 21 "ColdShips$Rows" "cells" "[J"] ++ wsX100 ++ wsX40)
def wsX10_heatOf : List Cond := .code yX10_heatOf cX10_heatOf 7 (some .long) :: ([.fieldLink RX10 70 "ColdShips$World" "landings" "LColdShips$Rows;", .fieldLink RX10 27 "ColdShips$World" "terminals" "[LColdShips$Terminal;", .methodLink RX10 87 yX4_at, .instanceMethod yX4_at, .selects RX4 yX4_at yX4_at, .initialized RX4, .code yX4_at cX4_at 4 (some .long), .fieldLink RX4 25 "ColdShips$Rows" "size" "I", .fieldLink RX4 15 "ColdShips$Rows" "width" "I", .fieldLink RX4 21 "ColdShips$Rows" "cells" "[J"] ++ wsX100 ++ wsX80 ++ wsX40)
def wsX10_priceOf : List Cond := .code yX10_priceOf cX10_priceOf 12 (some .long) :: ([.fieldLink RX10 70 "ColdShips$World" "landings" "LColdShips$Rows;", .constantLong RX10 103 (24), .constantLong RX10 91 (-1), .fieldLink RX10 63 "ColdShips$World" "prices" "LColdShips$Rows;", .methodLink RX10 87 yX4_at, .instanceMethod yX4_at, .selects RX4 yX4_at yX4_at, .initialized RX4, .code yX4_at cX4_at 4 (some .long), .fieldLink RX4 25 "ColdShips$Rows" "size" "I", .fieldLink RX4 15 "ColdShips$Rows" "width" "I", .fieldLink RX4 21 "ColdShips$Rows" "cells" "[J"] ++ wsX100 ++ wsX40)
def wsX4_addRow : List Cond := .code yX4_addRow cX4_addRow 2 (some .int) :: ([.fieldLink RX4 25 "ColdShips$Rows" "size" "I", .fieldLink RX4 15 "ColdShips$Rows" "width" "I", .fieldLink RX4 21 "ColdShips$Rows" "cells" "[J", .methodLink RX4 28 yJ7_fill_bad5a, .static yJ7_fill_bad5a, .initialized RJ7, .code yJ7_fill_bad5a cJ7_fill_bad5a 6 none, .methodLink RJ7 13 yJ7_rangeCheck_23922, .static yJ7_rangeCheck_23922, .code yJ7_rangeCheck_23922 cJ7_rangeCheck_23922 3 none] ++ wsX40)
def wsX4_copyFrom : List Cond := .code yX4_copyFrom cX4_copyFrom 3 none :: ([.fieldLink RX4 25 "ColdShips$Rows" "size" "I", .fieldLink RX4 15 "ColdShips$Rows" "width" "I", .fieldLink RX4 21 "ColdShips$Rows" "cells" "[J", .methodLink RX4 42 arraycopyName, .native arraycopyName, .static arraycopyName, .initialized "java/lang/System"] ++ wsX40)
def wsX10_hasContract : List Cond := .code yX10_hasContract cX10_hasContract 2 (some .boolean) :: ([.fieldLink RX10 84 "ColdShips$World" "contractCount" "I", .fieldLink RX10 39 "ColdShips$World" "contracts" "[LColdShips$Contract;"] ++ wsX100)
def wsX10_isSettled : List Cond := .code yX10_isSettled cX10_isSettled 2 (some .boolean) :: ([.fieldLink RX10 70 "ColdShips$World" "landings" "LColdShips$Rows;", .constantLong RX10 91 (-1), .methodLink RX10 87 yX4_at, .instanceMethod yX4_at, .selects RX4 yX4_at yX4_at, .initialized RX4, .code yX4_at cX4_at 4 (some .long), .fieldLink RX4 25 "ColdShips$Rows" "size" "I", .fieldLink RX4 15 "ColdShips$Rows" "width" "I", .fieldLink RX4 21 "ColdShips$Rows" "cells" "[J"] ++ wsX100 ++ wsX40)
def wsX10_copyFrom_r1 : List Cond := [Cond.fieldLink RX10 108 "ColdShips$World" "now" "I", Cond.fieldLink RX10 9 "ColdShips$World" "boils" "I", Cond.fieldLink RX10 15 "ColdShips$World" "limit" "I", Cond.fieldLink RX10 111 "ColdShips$World" "ordersGiven" "I", Cond.fieldLink RX10 78 "ColdShips$World" "terminalCount" "I", Cond.fieldLink RX10 81 "ColdShips$World" "shipCount" "I", Cond.fieldLink RX10 84 "ColdShips$World" "contractCount" "I", Cond.fieldLink RX10 18 "ColdShips$World" "tides" "[I", Cond.methodLink RX10 114 arraycopyName, Cond.native arraycopyName, Cond.static arraycopyName, Cond.initialized "java/lang/System", Cond.fieldLink RX10 22 "ColdShips$World" "seas" "[I", Cond.fieldLink RX10 39 "ColdShips$World" "contracts" "[LColdShips$Contract;", Cond.fieldLink RX10 27 "ColdShips$World" "terminals" "[LColdShips$Terminal;", Cond.fieldLink RX10 33 "ColdShips$World" "ships" "[LColdShips$Ship;", Cond.fieldLink RX10 48 "ColdShips$World" "slots" "LColdShips$Spans;", Cond.fieldLink RX10 52 "ColdShips$World" "breaks" "LColdShips$Spans;", Cond.fieldLink RX10 55 "ColdShips$World" "forces" "LColdShips$Spans;", Cond.fieldLink RX10 63 "ColdShips$World" "prices" "LColdShips$Rows;", Cond.fieldLink RX10 67 "ColdShips$World" "readings" "LColdShips$Rows;", Cond.fieldLink RX10 70 "ColdShips$World" "landings" "LColdShips$Rows;", Cond.fieldLink RX10 73 "ColdShips$World" "cargoes" "LColdShips$Rows;", Cond.methodLink RX10 120 yX8_copyFrom]
def wsX10_copyFrom_r2 : List Cond := [Cond.instanceMethod yX8_copyFrom, Cond.selects RX8 yX8_copyFrom yX8_copyFrom, Cond.initialized RX8, Cond.code yX8_copyFrom cX8_copyFrom 2 none, Cond.fieldLink RX8 22 "ColdShips$Terminal" "store" "I", Cond.fieldLink RX8 25 "ColdShips$Terminal" "cap" "I", Cond.fieldLink RX8 9 "ColdShips$Terminal" "rate" "I", Cond.fieldLink RX8 34 "ColdShips$Terminal" "depth" "I", Cond.fieldLink RX8 37 "ColdShips$Terminal" "heat" "I", Cond.fieldLink RX8 15 "ColdShips$Terminal" "wayHours" "[I", Cond.methodLink RX8 50 arraycopyName, Cond.fieldLink RX8 19 "ColdShips$Terminal" "wayHalf" "[I", Cond.methodLink RX10 124 yX5_copyFrom, Cond.instanceMethod yX5_copyFrom, Cond.selects RX5 yX5_copyFrom yX5_copyFrom, Cond.initialized RX5, Cond.code yX5_copyFrom cX5_copyFrom 2 none, Cond.fieldLink RX5 12 "ColdShips$Ship" "tank" "LColdShips$Tank;", Cond.fieldLink RX5 42 "ColdShips$Ship" "fuel" "I", Cond.fieldLink RX5 46 "ColdShips$Ship" "where" "I", Cond.fieldLink RX5 49 "ColdShips$Ship" "left" "I", Cond.fieldLink RX5 52 "ColdShips$Ship" "half" "I", Cond.fieldLink RX5 55 "ColdShips$Ship" "drifting" "Z", Cond.fieldLink RX5 59 "ColdShips$Ship" "orders" "I"]
def wsX10_copyFrom_r3 : List Cond := [Cond.fieldLink RX5 62 "ColdShips$Ship" "list" "I", Cond.fieldLink RX5 96 "ColdShips$Ship" "landFirst" "I", Cond.fieldLink RX5 99 "ColdShips$Ship" "landLast" "I", Cond.fieldLink RX5 93 "ColdShips$Ship" "landTons" "I", Cond.fieldLink RX5 18 "ColdShips$Ship" "orderSorts" "[I", Cond.methodLink RX5 77 arraycopyName, Cond.fieldLink RX5 22 "ColdShips$Ship" "orderWhats" "[I", Cond.fieldLink RX5 25 "ColdShips$Ship" "book" "[J", Cond.fieldLink RX5 29 "ColdShips$Ship" "landParts" "[I", Cond.fieldLink RX5 32 "ColdShips$Ship" "gaugeCentimetres" "[I", Cond.fieldLink RX5 35 "ColdShips$Ship" "gaugeTons" "[I", Cond.methodLink RX5 102 yX7_copyFrom, Cond.instanceMethod yX7_copyFrom, Cond.selects RX7 yX7_copyFrom yX7_copyFrom, Cond.initialized RX7, Cond.code yX7_copyFrom cX7_copyFrom 2 none, Cond.fieldLink RX7 9 "ColdShips$Tank" "cap" "I", Cond.fieldLink RX7 32 "ColdShips$Tank" "gas" "I", Cond.fieldLink RX7 35 "ColdShips$Tank" "vapor" "I", Cond.fieldLink RX7 38 "ColdShips$Tank" "warm" "I", Cond.fieldLink RX7 15 "ColdShips$Tank" "parts" "[I", Cond.methodLink RX7 74 arraycopyName, Cond.methodLink RX10 127 yX6_copyFrom, Cond.instanceMethod yX6_copyFrom]
def wsX10_copyFrom_r4 : List Cond := [Cond.selects RX6 yX6_copyFrom yX6_copyFrom, Cond.initialized RX6, Cond.code yX6_copyFrom cX6_copyFrom 2 none, Cond.fieldLink RX6 27 "ColdShips$Spans" "size" "I", Cond.fieldLink RX6 15 "ColdShips$Spans" "owners" "[I", Cond.methodLink RX6 34 arraycopyName, Cond.fieldLink RX6 21 "ColdShips$Spans" "begins" "[I", Cond.fieldLink RX6 24 "ColdShips$Spans" "ends" "[I", Cond.methodLink RX10 130 yX4_copyFrom, Cond.instanceMethod yX4_copyFrom, Cond.selects RX4 yX4_copyFrom yX4_copyFrom, Cond.initialized RX4, Cond.code yX4_copyFrom cX4_copyFrom 3 none, Cond.fieldLink RX4 25 "ColdShips$Rows" "size" "I", Cond.fieldLink RX4 15 "ColdShips$Rows" "width" "I", Cond.fieldLink RX4 21 "ColdShips$Rows" "cells" "[J", Cond.methodLink RX4 42 arraycopyName]
def wsX10_copyFrom : List Cond := .code yX10_copyFrom cX10_copyFrom 3 none :: ((wsX10_copyFrom_r1 ++ (wsX10_copyFrom_r2 ++ (wsX10_copyFrom_r3 ++ wsX10_copyFrom_r4))) ++ wsX100 ++ wsX80 ++ wsX50 ++ wsX70 ++ wsX60 ++ wsX40)
def wsX11_isOrder : List Cond := .code yX11_isOrder cX11_isOrder 2 (some .boolean) :: ([.constant RX11 76 (200000), .methodLink RX11 51 yX11_within, .static yX11_within, .initialized RX11, .code yX11_within cX11_within 3 (some .boolean), .methodLink RX11 229 yX11_isHour, .static yX11_isHour, .code yX11_isHour cX11_isHour 1 (some .boolean)])
set_option maxRecDepth 20000 in
theorem ggX4_addRow_J7_fill_bad5a : GoodIn wsX4_addRow wsJ7_fill_bad5a := goodIn_r _ [7, 8, 9, 6, 10] (by decide +kernel) (by decide +kernel)
set_option maxRecDepth 20000 in
theorem gX4_addRow_J7_fill_bad5a : GoodIn wsX4_addRow (va_wsS RX4 28 yJ7_fill_bad5a wsJ7_fill_bad5a) := goodIn_app (goodIn_of _ (by decide +kernel)) ggX4_addRow_J7_fill_bad5a
theorem dX4_addRow_0 : decode cX4_addRow 0 = .ok (.aload_n 0, 1) := by decide +kernel
theorem dX4_addRow_1 : decode cX4_addRow 1 = .ok (.getfield 25, 3) := by decide +kernel
theorem dX4_addRow_4 : decode cX4_addRow 4 = .ok (.aload_n 0, 1) := by decide +kernel
theorem dX4_addRow_5 : decode cX4_addRow 5 = .ok (.getfield 15, 3) := by decide +kernel
theorem dX4_addRow_8 : decode cX4_addRow 8 = .ok (.imul, 1) := by decide +kernel
theorem dX4_addRow_9 : decode cX4_addRow 9 = .ok (.istore_n 1, 1) := by decide +kernel
theorem dX4_addRow_10 : decode cX4_addRow 10 = .ok (.iload_n 1, 1) := by decide +kernel
theorem dX4_addRow_11 : decode cX4_addRow 11 = .ok (.aload_n 0, 1) := by decide +kernel
theorem dX4_addRow_12 : decode cX4_addRow 12 = .ok (.getfield 15, 3) := by decide +kernel
theorem dX4_addRow_15 : decode cX4_addRow 15 = .ok (.iadd, 1) := by decide +kernel
theorem dX4_addRow_16 : decode cX4_addRow 16 = .ok (.aload_n 0, 1) := by decide +kernel
theorem dX4_addRow_17 : decode cX4_addRow 17 = .ok (.getfield 21, 3) := by decide +kernel
theorem dX4_addRow_20 : decode cX4_addRow 20 = .ok (.arraylength, 1) := by decide +kernel
theorem dX4_addRow_21 : decode cX4_addRow 21 = .ok (.if_icmp .le 5, 3) := by decide +kernel
theorem dX4_addRow_24 : decode cX4_addRow 24 = .ok (.iconst (-1), 1) := by decide +kernel
theorem dX4_addRow_25 : decode cX4_addRow 25 = .ok (.ireturn, 1) := by decide +kernel
theorem dX4_addRow_26 : decode cX4_addRow 26 = .ok (.aload_n 0, 1) := by decide +kernel
theorem dX4_addRow_27 : decode cX4_addRow 27 = .ok (.getfield 21, 3) := by decide +kernel
theorem dX4_addRow_30 : decode cX4_addRow 30 = .ok (.iload_n 1, 1) := by decide +kernel
theorem dX4_addRow_31 : decode cX4_addRow 31 = .ok (.iload_n 1, 1) := by decide +kernel
theorem dX4_addRow_32 : decode cX4_addRow 32 = .ok (.aload_n 0, 1) := by decide +kernel
theorem dX4_addRow_33 : decode cX4_addRow 33 = .ok (.getfield 15, 3) := by decide +kernel
theorem dX4_addRow_36 : decode cX4_addRow 36 = .ok (.iadd, 1) := by decide +kernel
theorem dX4_addRow_37 : decode cX4_addRow 37 = .ok (.lconst 0, 1) := by decide +kernel
theorem dX4_addRow_38 : decode cX4_addRow 38 = .ok (.invokestatic 28, 3) := by decide +kernel
theorem dX4_addRow_41 : decode cX4_addRow 41 = .ok (.aload_n 0, 1) := by decide +kernel
theorem dX4_addRow_42 : decode cX4_addRow 42 = .ok (.dup, 1) := by decide +kernel
theorem dX4_addRow_43 : decode cX4_addRow 43 = .ok (.getfield 25, 3) := by decide +kernel
theorem dX4_addRow_46 : decode cX4_addRow 46 = .ok (.dup_x1, 1) := by decide +kernel
theorem dX4_addRow_47 : decode cX4_addRow 47 = .ok (.iconst 1, 1) := by decide +kernel
theorem dX4_addRow_48 : decode cX4_addRow 48 = .ok (.iadd, 1) := by decide +kernel
theorem dX4_addRow_49 : decode cX4_addRow 49 = .ok (.putfield 25, 3) := by decide +kernel
theorem dX4_addRow_52 : decode cX4_addRow 52 = .ok (.ireturn, 1) := by decide +kernel
theorem dX4_copyFrom_0 : decode cX4_copyFrom 0 = .ok (.aload_n 1, 1) := by decide +kernel
theorem dX4_copyFrom_1 : decode cX4_copyFrom 1 = .ok (.getfield 25, 3) := by decide +kernel
theorem dX4_copyFrom_4 : decode cX4_copyFrom 4 = .ok (.aload_n 1, 1) := by decide +kernel
theorem dX4_copyFrom_5 : decode cX4_copyFrom 5 = .ok (.getfield 15, 3) := by decide +kernel
theorem dX4_copyFrom_8 : decode cX4_copyFrom 8 = .ok (.imul, 1) := by decide +kernel
theorem dX4_copyFrom_9 : decode cX4_copyFrom 9 = .ok (.istore_n 2, 1) := by decide +kernel
theorem dX4_copyFrom_10 : decode cX4_copyFrom 10 = .ok (.aload_n 1, 1) := by decide +kernel
theorem dX4_copyFrom_11 : decode cX4_copyFrom 11 = .ok (.getfield 15, 3) := by decide +kernel
theorem dX4_copyFrom_14 : decode cX4_copyFrom 14 = .ok (.aload_n 0, 1) := by decide +kernel
theorem dX4_copyFrom_15 : decode cX4_copyFrom 15 = .ok (.getfield 15, 3) := by decide +kernel
theorem dX4_copyFrom_18 : decode cX4_copyFrom 18 = .ok (.if_icmp .ne 34, 3) := by decide +kernel
theorem dX4_copyFrom_21 : decode cX4_copyFrom 21 = .ok (.iload_n 2, 1) := by decide +kernel
theorem dX4_copyFrom_22 : decode cX4_copyFrom 22 = .ok (.aload_n 0, 1) := by decide +kernel
theorem dX4_copyFrom_23 : decode cX4_copyFrom 23 = .ok (.getfield 21, 3) := by decide +kernel
theorem dX4_copyFrom_26 : decode cX4_copyFrom 26 = .ok (.arraylength, 1) := by decide +kernel
theorem dX4_copyFrom_27 : decode cX4_copyFrom 27 = .ok (.if_icmp .gt 25, 3) := by decide +kernel
theorem dX4_copyFrom_30 : decode cX4_copyFrom 30 = .ok (.aload_n 1, 1) := by decide +kernel
theorem dX4_copyFrom_31 : decode cX4_copyFrom 31 = .ok (.getfield 21, 3) := by decide +kernel
theorem dX4_copyFrom_34 : decode cX4_copyFrom 34 = .ok (.iconst 0, 1) := by decide +kernel
theorem dX4_copyFrom_35 : decode cX4_copyFrom 35 = .ok (.aload_n 0, 1) := by decide +kernel
theorem dX4_copyFrom_36 : decode cX4_copyFrom 36 = .ok (.getfield 21, 3) := by decide +kernel
theorem dX4_copyFrom_39 : decode cX4_copyFrom 39 = .ok (.iconst 0, 1) := by decide +kernel
theorem dX4_copyFrom_40 : decode cX4_copyFrom 40 = .ok (.iload_n 2, 1) := by decide +kernel
theorem dX4_copyFrom_41 : decode cX4_copyFrom 41 = .ok (.invokestatic 42, 3) := by decide +kernel
theorem dX4_copyFrom_44 : decode cX4_copyFrom 44 = .ok (.aload_n 0, 1) := by decide +kernel
theorem dX4_copyFrom_45 : decode cX4_copyFrom 45 = .ok (.aload_n 1, 1) := by decide +kernel
theorem dX4_copyFrom_46 : decode cX4_copyFrom 46 = .ok (.getfield 25, 3) := by decide +kernel
theorem dX4_copyFrom_49 : decode cX4_copyFrom 49 = .ok (.putfield 25, 3) := by decide +kernel
theorem dX4_copyFrom_52 : decode cX4_copyFrom 52 = .ok (.return_, 1) := by decide +kernel
theorem dX10_hasTerminal_0 : decode cX10_hasTerminal 0 = .ok (.iload_n 1, 1) := by decide +kernel
theorem dX10_hasTerminal_1 : decode cX10_hasTerminal 1 = .ok (.ifCond .lt 15, 3) := by decide +kernel
theorem dX10_hasTerminal_4 : decode cX10_hasTerminal 4 = .ok (.iload_n 1, 1) := by decide +kernel
theorem dX10_hasTerminal_5 : decode cX10_hasTerminal 5 = .ok (.aload_n 0, 1) := by decide +kernel
theorem dX10_hasTerminal_6 : decode cX10_hasTerminal 6 = .ok (.getfield 78, 3) := by decide +kernel
theorem dX10_hasTerminal_9 : decode cX10_hasTerminal 9 = .ok (.if_icmp .ge 7, 3) := by decide +kernel
theorem dX10_hasTerminal_12 : decode cX10_hasTerminal 12 = .ok (.iconst 1, 1) := by decide +kernel
theorem dX10_hasTerminal_13 : decode cX10_hasTerminal 13 = .ok (.goto 4, 3) := by decide +kernel
theorem dX10_hasTerminal_16 : decode cX10_hasTerminal 16 = .ok (.iconst 0, 1) := by decide +kernel
theorem dX10_hasTerminal_17 : decode cX10_hasTerminal 17 = .ok (.ireturn, 1) := by decide +kernel
theorem dX10_hasShip_0 : decode cX10_hasShip 0 = .ok (.iload_n 1, 1) := by decide +kernel
theorem dX10_hasShip_1 : decode cX10_hasShip 1 = .ok (.ifCond .lt 15, 3) := by decide +kernel
theorem dX10_hasShip_4 : decode cX10_hasShip 4 = .ok (.iload_n 1, 1) := by decide +kernel
theorem dX10_hasShip_5 : decode cX10_hasShip 5 = .ok (.aload_n 0, 1) := by decide +kernel
theorem dX10_hasShip_6 : decode cX10_hasShip 6 = .ok (.getfield 81, 3) := by decide +kernel
theorem dX10_hasShip_9 : decode cX10_hasShip 9 = .ok (.if_icmp .ge 7, 3) := by decide +kernel
theorem dX10_hasShip_12 : decode cX10_hasShip 12 = .ok (.iconst 1, 1) := by decide +kernel
theorem dX10_hasShip_13 : decode cX10_hasShip 13 = .ok (.goto 4, 3) := by decide +kernel
theorem dX10_hasShip_16 : decode cX10_hasShip 16 = .ok (.iconst 0, 1) := by decide +kernel
theorem dX10_hasShip_17 : decode cX10_hasShip 17 = .ok (.ireturn, 1) := by decide +kernel
theorem dX10_hasContract_0 : decode cX10_hasContract 0 = .ok (.iload_n 1, 1) := by decide +kernel
theorem dX10_hasContract_1 : decode cX10_hasContract 1 = .ok (.ifCond .lt 24, 3) := by decide +kernel
theorem dX10_hasContract_4 : decode cX10_hasContract 4 = .ok (.iload_n 1, 1) := by decide +kernel
theorem dX10_hasContract_5 : decode cX10_hasContract 5 = .ok (.aload_n 0, 1) := by decide +kernel
theorem dX10_hasContract_6 : decode cX10_hasContract 6 = .ok (.getfield 84, 3) := by decide +kernel
theorem dX10_hasContract_9 : decode cX10_hasContract 9 = .ok (.if_icmp .ge 16, 3) := by decide +kernel
theorem dX10_hasContract_12 : decode cX10_hasContract 12 = .ok (.aload_n 0, 1) := by decide +kernel
theorem dX10_hasContract_13 : decode cX10_hasContract 13 = .ok (.getfield 39, 3) := by decide +kernel
theorem dX10_hasContract_16 : decode cX10_hasContract 16 = .ok (.iload_n 1, 1) := by decide +kernel
theorem dX10_hasContract_17 : decode cX10_hasContract 17 = .ok (.aaload, 1) := by decide +kernel
theorem dX10_hasContract_18 : decode cX10_hasContract 18 = .ok (.ifnull 7, 3) := by decide +kernel
theorem dX10_hasContract_21 : decode cX10_hasContract 21 = .ok (.iconst 1, 1) := by decide +kernel
theorem dX10_hasContract_22 : decode cX10_hasContract 22 = .ok (.goto 4, 3) := by decide +kernel
theorem dX10_hasContract_25 : decode cX10_hasContract 25 = .ok (.iconst 0, 1) := by decide +kernel
theorem dX10_hasContract_26 : decode cX10_hasContract 26 = .ok (.ireturn, 1) := by decide +kernel
set_option maxRecDepth 20000 in
theorem ggX10_isSettled_X4_at : GoodIn wsX10_isSettled wsX4_at := goodIn_r _ [7, 8, 9, 10, 30, 31, 32] (by decide +kernel) (by decide +kernel)
set_option maxRecDepth 20000 in
theorem gX10_isSettled_X4_at : GoodIn wsX10_isSettled (wsV RX10 87 RX4 yX4_at wsX4_at) := goodIn_app (goodIn_of _ (by decide +kernel)) ggX10_isSettled_X4_at
theorem dX10_isSettled_0 : decode cX10_isSettled 0 = .ok (.aload_n 0, 1) := by decide +kernel
theorem dX10_isSettled_1 : decode cX10_isSettled 1 = .ok (.getfield 70, 3) := by decide +kernel
theorem dX10_isSettled_4 : decode cX10_isSettled 4 = .ok (.iload_n 1, 1) := by decide +kernel
theorem dX10_isSettled_5 : decode cX10_isSettled 5 = .ok (.bipush 12, 2) := by decide +kernel
theorem dX10_isSettled_7 : decode cX10_isSettled 7 = .ok (.invokevirtual 87, 3) := by decide +kernel
theorem dX10_isSettled_10 : decode cX10_isSettled 10 = .ok (.ldc2_w 91, 3) := by decide +kernel
theorem dX10_isSettled_13 : decode cX10_isSettled 13 = .ok (.lcmp, 1) := by decide +kernel
theorem dX10_isSettled_14 : decode cX10_isSettled 14 = .ok (.ifCond .eq 7, 3) := by decide +kernel
theorem dX10_isSettled_17 : decode cX10_isSettled 17 = .ok (.iconst 1, 1) := by decide +kernel
theorem dX10_isSettled_18 : decode cX10_isSettled 18 = .ok (.goto 4, 3) := by decide +kernel
theorem dX10_isSettled_21 : decode cX10_isSettled 21 = .ok (.iconst 0, 1) := by decide +kernel
theorem dX10_isSettled_22 : decode cX10_isSettled 22 = .ok (.ireturn, 1) := by decide +kernel
set_option maxRecDepth 20000 in
theorem ggX10_hoursBetween_X10_hasTerminal : GoodIn wsX10_hoursBetween wsX10_hasTerminal := goodIn_r _ [6, 7, 8, 9, 10, 11, 12, 13, 14, 15, 16, 17, 18, 19, 20, 21, 22, 23, 24, 25, 26] (by decide +kernel) (by decide +kernel)
set_option maxRecDepth 20000 in
theorem gX10_hoursBetween_X10_hasTerminal : GoodIn wsX10_hoursBetween (wsV RX10 93 RX10 yX10_hasTerminal wsX10_hasTerminal) := goodIn_app (goodIn_of _ (by decide +kernel)) ggX10_hoursBetween_X10_hasTerminal
theorem dX10_hoursBetween_0 : decode cX10_hoursBetween 0 = .ok (.aload_n 0, 1) := by decide +kernel
theorem dX10_hoursBetween_1 : decode cX10_hoursBetween 1 = .ok (.iload_n 1, 1) := by decide +kernel
theorem dX10_hoursBetween_2 : decode cX10_hoursBetween 2 = .ok (.invokevirtual 93, 3) := by decide +kernel
theorem dX10_hoursBetween_5 : decode cX10_hoursBetween 5 = .ok (.ifCond .eq 11, 3) := by decide +kernel
theorem dX10_hoursBetween_8 : decode cX10_hoursBetween 8 = .ok (.aload_n 0, 1) := by decide +kernel
theorem dX10_hoursBetween_9 : decode cX10_hoursBetween 9 = .ok (.iload_n 2, 1) := by decide +kernel
theorem dX10_hoursBetween_10 : decode cX10_hoursBetween 10 = .ok (.invokevirtual 93, 3) := by decide +kernel
theorem dX10_hoursBetween_13 : decode cX10_hoursBetween 13 = .ok (.ifCond .ne 5, 3) := by decide +kernel
theorem dX10_hoursBetween_16 : decode cX10_hoursBetween 16 = .ok (.iconst (-1), 1) := by decide +kernel
theorem dX10_hoursBetween_17 : decode cX10_hoursBetween 17 = .ok (.ireturn, 1) := by decide +kernel
theorem dX10_hoursBetween_18 : decode cX10_hoursBetween 18 = .ok (.iload_n 1, 1) := by decide +kernel
theorem dX10_hoursBetween_19 : decode cX10_hoursBetween 19 = .ok (.iload_n 2, 1) := by decide +kernel
theorem dX10_hoursBetween_20 : decode cX10_hoursBetween 20 = .ok (.if_icmp .ne 5, 3) := by decide +kernel
theorem dX10_hoursBetween_23 : decode cX10_hoursBetween 23 = .ok (.iconst 0, 1) := by decide +kernel
theorem dX10_hoursBetween_24 : decode cX10_hoursBetween 24 = .ok (.ireturn, 1) := by decide +kernel
theorem dX10_hoursBetween_25 : decode cX10_hoursBetween 25 = .ok (.aload_n 0, 1) := by decide +kernel
theorem dX10_hoursBetween_26 : decode cX10_hoursBetween 26 = .ok (.getfield 27, 3) := by decide +kernel
theorem dX10_hoursBetween_29 : decode cX10_hoursBetween 29 = .ok (.iload_n 1, 1) := by decide +kernel
theorem dX10_hoursBetween_30 : decode cX10_hoursBetween 30 = .ok (.aaload, 1) := by decide +kernel
theorem dX10_hoursBetween_31 : decode cX10_hoursBetween 31 = .ok (.getfield 97, 3) := by decide +kernel
theorem dX10_hoursBetween_34 : decode cX10_hoursBetween 34 = .ok (.iload_n 2, 1) := by decide +kernel
theorem dX10_hoursBetween_35 : decode cX10_hoursBetween 35 = .ok (.iaload, 1) := by decide +kernel
theorem dX10_hoursBetween_36 : decode cX10_hoursBetween 36 = .ok (.istore_n 3, 1) := by decide +kernel
theorem dX10_hoursBetween_37 : decode cX10_hoursBetween 37 = .ok (.iload_n 3, 1) := by decide +kernel
theorem dX10_hoursBetween_38 : decode cX10_hoursBetween 38 = .ok (.ifCond .le 7, 3) := by decide +kernel
theorem dX10_hoursBetween_41 : decode cX10_hoursBetween 41 = .ok (.iload_n 3, 1) := by decide +kernel
theorem dX10_hoursBetween_42 : decode cX10_hoursBetween 42 = .ok (.goto 4, 3) := by decide +kernel
theorem dX10_hoursBetween_45 : decode cX10_hoursBetween 45 = .ok (.iconst (-1), 1) := by decide +kernel
theorem dX10_hoursBetween_46 : decode cX10_hoursBetween 46 = .ok (.ireturn, 1) := by decide +kernel
set_option maxRecDepth 20000 in
theorem ggX10_heatOf_X4_at : GoodIn wsX10_heatOf wsX4_at := goodIn_r _ [7, 8, 9, 10, 37, 38, 39] (by decide +kernel) (by decide +kernel)
set_option maxRecDepth 20000 in
theorem gX10_heatOf_X4_at : GoodIn wsX10_heatOf (wsV RX10 87 RX4 yX4_at wsX4_at) := goodIn_app (goodIn_of _ (by decide +kernel)) ggX10_heatOf_X4_at
theorem dX10_heatOf_0 : decode cX10_heatOf 0 = .ok (.aload_n 0, 1) := by decide +kernel
theorem dX10_heatOf_1 : decode cX10_heatOf 1 = .ok (.getfield 70, 3) := by decide +kernel
theorem dX10_heatOf_4 : decode cX10_heatOf 4 = .ok (.iload_n 1, 1) := by decide +kernel
theorem dX10_heatOf_5 : decode cX10_heatOf 5 = .ok (.iconst 4, 1) := by decide +kernel
theorem dX10_heatOf_6 : decode cX10_heatOf 6 = .ok (.invokevirtual 87, 3) := by decide +kernel
theorem dX10_heatOf_9 : decode cX10_heatOf 9 = .ok (.lstore_n 2, 1) := by decide +kernel
theorem dX10_heatOf_10 : decode cX10_heatOf 10 = .ok (.lload_n 2, 1) := by decide +kernel
theorem dX10_heatOf_11 : decode cX10_heatOf 11 = .ok (.lconst 0, 1) := by decide +kernel
theorem dX10_heatOf_12 : decode cX10_heatOf 12 = .ok (.lcmp, 1) := by decide +kernel
theorem dX10_heatOf_13 : decode cX10_heatOf 13 = .ok (.ifCond .gt 5, 3) := by decide +kernel
theorem dX10_heatOf_16 : decode cX10_heatOf 16 = .ok (.lconst 0, 1) := by decide +kernel
theorem dX10_heatOf_17 : decode cX10_heatOf 17 = .ok (.lreturn, 1) := by decide +kernel
theorem dX10_heatOf_18 : decode cX10_heatOf 18 = .ok (.lconst 0, 1) := by decide +kernel
theorem dX10_heatOf_19 : decode cX10_heatOf 19 = .ok (.lstore 4, 2) := by decide +kernel
theorem dX10_heatOf_21 : decode cX10_heatOf 21 = .ok (.iconst 0, 1) := by decide +kernel
theorem dX10_heatOf_22 : decode cX10_heatOf 22 = .ok (.istore 6, 2) := by decide +kernel
theorem dX10_heatOf_24 : decode cX10_heatOf 24 = .ok (.iload 6, 2) := by decide +kernel
theorem dX10_heatOf_26 : decode cX10_heatOf 26 = .ok (.bipush 6, 2) := by decide +kernel
theorem dX10_heatOf_28 : decode cX10_heatOf 28 = .ok (.if_icmp .ge 38, 3) := by decide +kernel
theorem dX10_heatOf_31 : decode cX10_heatOf 31 = .ok (.lload 4, 2) := by decide +kernel
theorem dX10_heatOf_33 : decode cX10_heatOf 33 = .ok (.aload_n 0, 1) := by decide +kernel
theorem dX10_heatOf_34 : decode cX10_heatOf 34 = .ok (.getfield 70, 3) := by decide +kernel
theorem dX10_heatOf_37 : decode cX10_heatOf 37 = .ok (.iload_n 1, 1) := by decide +kernel
theorem dX10_heatOf_38 : decode cX10_heatOf 38 = .ok (.iconst 5, 1) := by decide +kernel
theorem dX10_heatOf_39 : decode cX10_heatOf 39 = .ok (.iload 6, 2) := by decide +kernel
theorem dX10_heatOf_41 : decode cX10_heatOf 41 = .ok (.iadd, 1) := by decide +kernel
theorem dX10_heatOf_42 : decode cX10_heatOf 42 = .ok (.invokevirtual 87, 3) := by decide +kernel
theorem dX10_heatOf_45 : decode cX10_heatOf 45 = .ok (.aload_n 0, 1) := by decide +kernel
theorem dX10_heatOf_46 : decode cX10_heatOf 46 = .ok (.getfield 27, 3) := by decide +kernel
theorem dX10_heatOf_49 : decode cX10_heatOf 49 = .ok (.iload 6, 2) := by decide +kernel
theorem dX10_heatOf_51 : decode cX10_heatOf 51 = .ok (.aaload, 1) := by decide +kernel
theorem dX10_heatOf_52 : decode cX10_heatOf 52 = .ok (.getfield 100, 3) := by decide +kernel
theorem dX10_heatOf_55 : decode cX10_heatOf 55 = .ok (.i2l, 1) := by decide +kernel
theorem dX10_heatOf_56 : decode cX10_heatOf 56 = .ok (.lmul, 1) := by decide +kernel
theorem dX10_heatOf_57 : decode cX10_heatOf 57 = .ok (.ladd, 1) := by decide +kernel
theorem dX10_heatOf_58 : decode cX10_heatOf 58 = .ok (.lstore 4, 2) := by decide +kernel
theorem dX10_heatOf_60 : decode cX10_heatOf 60 = .ok (.iinc 6 1, 3) := by decide +kernel
theorem dX10_heatOf_63 : decode cX10_heatOf 63 = .ok (.goto (-39), 3) := by decide +kernel
theorem dX10_heatOf_66 : decode cX10_heatOf 66 = .ok (.lload 4, 2) := by decide +kernel
theorem dX10_heatOf_68 : decode cX10_heatOf 68 = .ok (.lload_n 2, 1) := by decide +kernel
theorem dX10_heatOf_69 : decode cX10_heatOf 69 = .ok (.ldiv, 1) := by decide +kernel
theorem dX10_heatOf_70 : decode cX10_heatOf 70 = .ok (.lreturn, 1) := by decide +kernel
set_option maxRecDepth 20000 in
theorem ggX10_billedOf_X4_at : GoodIn wsX10_billedOf wsX4_at := goodIn_r _ [7, 8, 9, 10, 30, 31, 32] (by decide +kernel) (by decide +kernel)
set_option maxRecDepth 20000 in
theorem gX10_billedOf_X4_at : GoodIn wsX10_billedOf (wsV RX10 87 RX4 yX4_at wsX4_at) := goodIn_app (goodIn_of _ (by decide +kernel)) ggX10_billedOf_X4_at
theorem dX10_billedOf_0 : decode cX10_billedOf 0 = .ok (.aload_n 0, 1) := by decide +kernel
theorem dX10_billedOf_1 : decode cX10_billedOf 1 = .ok (.getfield 70, 3) := by decide +kernel
theorem dX10_billedOf_4 : decode cX10_billedOf 4 = .ok (.iload_n 1, 1) := by decide +kernel
theorem dX10_billedOf_5 : decode cX10_billedOf 5 = .ok (.bipush 11, 2) := by decide +kernel
theorem dX10_billedOf_7 : decode cX10_billedOf 7 = .ok (.invokevirtual 87, 3) := by decide +kernel
theorem dX10_billedOf_10 : decode cX10_billedOf 10 = .ok (.lstore_n 2, 1) := by decide +kernel
theorem dX10_billedOf_11 : decode cX10_billedOf 11 = .ok (.lload_n 2, 1) := by decide +kernel
theorem dX10_billedOf_12 : decode cX10_billedOf 12 = .ok (.ldc2_w 91, 3) := by decide +kernel
theorem dX10_billedOf_15 : decode cX10_billedOf 15 = .ok (.lcmp, 1) := by decide +kernel
theorem dX10_billedOf_16 : decode cX10_billedOf 16 = .ok (.ifCond .eq 7, 3) := by decide +kernel
theorem dX10_billedOf_19 : decode cX10_billedOf 19 = .ok (.lload_n 2, 1) := by decide +kernel
theorem dX10_billedOf_20 : decode cX10_billedOf 20 = .ok (.goto 12, 3) := by decide +kernel
theorem dX10_billedOf_23 : decode cX10_billedOf 23 = .ok (.aload_n 0, 1) := by decide +kernel
theorem dX10_billedOf_24 : decode cX10_billedOf 24 = .ok (.getfield 70, 3) := by decide +kernel
theorem dX10_billedOf_27 : decode cX10_billedOf 27 = .ok (.iload_n 1, 1) := by decide +kernel
theorem dX10_billedOf_28 : decode cX10_billedOf 28 = .ok (.iconst 4, 1) := by decide +kernel
theorem dX10_billedOf_29 : decode cX10_billedOf 29 = .ok (.invokevirtual 87, 3) := by decide +kernel
theorem dX10_billedOf_32 : decode cX10_billedOf 32 = .ok (.lreturn, 1) := by decide +kernel
set_option maxRecDepth 20000 in
theorem ggX10_priceOf_X4_at : GoodIn wsX10_priceOf wsX4_at := goodIn_r _ [9, 10, 11, 12, 32, 33, 34] (by decide +kernel) (by decide +kernel)
set_option maxRecDepth 20000 in
theorem gX10_priceOf_X4_at : GoodIn wsX10_priceOf (wsV RX10 87 RX4 yX4_at wsX4_at) := goodIn_app (goodIn_of _ (by decide +kernel)) ggX10_priceOf_X4_at
theorem dX10_priceOf_0 : decode cX10_priceOf 0 = .ok (.aload_n 0, 1) := by decide +kernel
theorem dX10_priceOf_1 : decode cX10_priceOf 1 = .ok (.getfield 70, 3) := by decide +kernel
theorem dX10_priceOf_4 : decode cX10_priceOf 4 = .ok (.iload_n 1, 1) := by decide +kernel
theorem dX10_priceOf_5 : decode cX10_priceOf 5 = .ok (.iconst 3, 1) := by decide +kernel
theorem dX10_priceOf_6 : decode cX10_priceOf 6 = .ok (.invokevirtual 87, 3) := by decide +kernel
theorem dX10_priceOf_9 : decode cX10_priceOf 9 = .ok (.ldc2_w 103, 3) := by decide +kernel
theorem dX10_priceOf_12 : decode cX10_priceOf 12 = .ok (.ldiv, 1) := by decide +kernel
theorem dX10_priceOf_13 : decode cX10_priceOf 13 = .ok (.lstore_n 3, 1) := by decide +kernel
theorem dX10_priceOf_14 : decode cX10_priceOf 14 = .ok (.ldc2_w 91, 3) := by decide +kernel
theorem dX10_priceOf_17 : decode cX10_priceOf 17 = .ok (.lstore 5, 2) := by decide +kernel
theorem dX10_priceOf_19 : decode cX10_priceOf 19 = .ok (.lconst 0, 1) := by decide +kernel
theorem dX10_priceOf_20 : decode cX10_priceOf 20 = .ok (.lstore 7, 2) := by decide +kernel
theorem dX10_priceOf_22 : decode cX10_priceOf 22 = .ok (.iconst 0, 1) := by decide +kernel
theorem dX10_priceOf_23 : decode cX10_priceOf 23 = .ok (.istore 9, 2) := by decide +kernel
theorem dX10_priceOf_25 : decode cX10_priceOf 25 = .ok (.iload 9, 2) := by decide +kernel
theorem dX10_priceOf_27 : decode cX10_priceOf 27 = .ok (.aload_n 0, 1) := by decide +kernel
theorem dX10_priceOf_28 : decode cX10_priceOf 28 = .ok (.getfield 63, 3) := by decide +kernel
theorem dX10_priceOf_31 : decode cX10_priceOf 31 = .ok (.getfield 105, 3) := by decide +kernel
theorem dX10_priceOf_34 : decode cX10_priceOf 34 = .ok (.if_icmp .ge 68, 3) := by decide +kernel
theorem dX10_priceOf_37 : decode cX10_priceOf 37 = .ok (.aload_n 0, 1) := by decide +kernel
theorem dX10_priceOf_38 : decode cX10_priceOf 38 = .ok (.getfield 63, 3) := by decide +kernel
theorem dX10_priceOf_41 : decode cX10_priceOf 41 = .ok (.iload 9, 2) := by decide +kernel
theorem dX10_priceOf_43 : decode cX10_priceOf 43 = .ok (.iconst 0, 1) := by decide +kernel
theorem dX10_priceOf_44 : decode cX10_priceOf 44 = .ok (.invokevirtual 87, 3) := by decide +kernel
theorem dX10_priceOf_47 : decode cX10_priceOf 47 = .ok (.lstore 10, 2) := by decide +kernel
theorem dX10_priceOf_49 : decode cX10_priceOf 49 = .ok (.lload 10, 2) := by decide +kernel
theorem dX10_priceOf_51 : decode cX10_priceOf 51 = .ok (.lload_n 3, 1) := by decide +kernel
theorem dX10_priceOf_52 : decode cX10_priceOf 52 = .ok (.lcmp, 1) := by decide +kernel
theorem dX10_priceOf_53 : decode cX10_priceOf 53 = .ok (.ifCond .gt 43, 3) := by decide +kernel
theorem dX10_priceOf_56 : decode cX10_priceOf 56 = .ok (.lload 10, 2) := by decide +kernel
theorem dX10_priceOf_58 : decode cX10_priceOf 58 = .ok (.lload 5, 2) := by decide +kernel
theorem dX10_priceOf_60 : decode cX10_priceOf 60 = .ok (.lcmp, 1) := by decide +kernel
theorem dX10_priceOf_61 : decode cX10_priceOf 61 = .ok (.ifCond .lt 35, 3) := by decide +kernel
theorem dX10_priceOf_64 : decode cX10_priceOf 64 = .ok (.aload_n 0, 1) := by decide +kernel
theorem dX10_priceOf_65 : decode cX10_priceOf 65 = .ok (.getfield 63, 3) := by decide +kernel
theorem dX10_priceOf_68 : decode cX10_priceOf 68 = .ok (.iload 9, 2) := by decide +kernel
theorem dX10_priceOf_70 : decode cX10_priceOf 70 = .ok (.iconst 2, 1) := by decide +kernel
theorem dX10_priceOf_71 : decode cX10_priceOf 71 = .ok (.invokevirtual 87, 3) := by decide +kernel
theorem dX10_priceOf_74 : decode cX10_priceOf 74 = .ok (.iload_n 2, 1) := by decide +kernel
theorem dX10_priceOf_75 : decode cX10_priceOf 75 = .ok (.i2l, 1) := by decide +kernel
theorem dX10_priceOf_76 : decode cX10_priceOf 76 = .ok (.lcmp, 1) := by decide +kernel
theorem dX10_priceOf_77 : decode cX10_priceOf 77 = .ok (.ifCond .gt 19, 3) := by decide +kernel
theorem dX10_priceOf_80 : decode cX10_priceOf 80 = .ok (.lload 10, 2) := by decide +kernel
theorem dX10_priceOf_82 : decode cX10_priceOf 82 = .ok (.lstore 5, 2) := by decide +kernel
theorem dX10_priceOf_84 : decode cX10_priceOf 84 = .ok (.aload_n 0, 1) := by decide +kernel
theorem dX10_priceOf_85 : decode cX10_priceOf 85 = .ok (.getfield 63, 3) := by decide +kernel
theorem dX10_priceOf_88 : decode cX10_priceOf 88 = .ok (.iload 9, 2) := by decide +kernel
theorem dX10_priceOf_90 : decode cX10_priceOf 90 = .ok (.iconst 1, 1) := by decide +kernel
theorem dX10_priceOf_91 : decode cX10_priceOf 91 = .ok (.invokevirtual 87, 3) := by decide +kernel
theorem dX10_priceOf_94 : decode cX10_priceOf 94 = .ok (.lstore 7, 2) := by decide +kernel
theorem dX10_priceOf_96 : decode cX10_priceOf 96 = .ok (.iinc 9 1, 3) := by decide +kernel
theorem dX10_priceOf_99 : decode cX10_priceOf 99 = .ok (.goto (-74), 3) := by decide +kernel
theorem dX10_priceOf_102 : decode cX10_priceOf 102 = .ok (.lload 7, 2) := by decide +kernel
theorem dX10_priceOf_104 : decode cX10_priceOf 104 = .ok (.lreturn, 1) := by decide +kernel
set_option maxRecDepth 20000 in
theorem ggX10_copyFrom_X8_copyFrom : GoodIn wsX10_copyFrom wsX8_copyFrom := goodIn_r _ [28, 29, 30, 31, 32, 33, 34, 35, 10, 11, 12, 36, 109, 110, 111, 112, 113, 114, 115] (by decide +kernel) (by decide +kernel)
set_option maxRecDepth 20000 in
theorem gX10_copyFrom_X8_copyFrom : GoodIn wsX10_copyFrom (wsV RX10 120 RX8 yX8_copyFrom wsX8_copyFrom) := goodIn_app (goodIn_of _ (by decide +kernel)) ggX10_copyFrom_X8_copyFrom
set_option maxRecDepth 20000 in
theorem ggX10_copyFrom_X5_copyFrom : GoodIn wsX10_copyFrom wsX5_copyFrom := goodIn_r _ [41, 42, 43, 44, 45, 46, 47, 48, 49, 50, 51, 52, 53, 54, 10, 11, 12, 55, 56, 57, 58, 59, 60, 61, 62, 63, 64, 65, 66, 67, 68, 69, 70, 116, 117, 118, 119, 120, 121, 122, 123, 124, 125, 126, 127, 128, 129, 130, 131, 132, 133, 134, 135, 136, 137, 138, 139] (by decide +kernel) (by decide +kernel)
set_option maxRecDepth 20000 in
theorem gX10_copyFrom_X5_copyFrom : GoodIn wsX10_copyFrom (wsV RX10 124 RX5 yX5_copyFrom wsX5_copyFrom) := goodIn_app (goodIn_of _ (by decide +kernel)) ggX10_copyFrom_X5_copyFrom
set_option maxRecDepth 20000 in
theorem ggX10_copyFrom_X6_copyFrom : GoodIn wsX10_copyFrom wsX6_copyFrom := goodIn_r _ [75, 76, 77, 78, 10, 11, 12, 79, 80, 140, 141, 142, 143] (by decide +kernel) (by decide +kernel)
set_option maxRecDepth 20000 in
theorem gX10_copyFrom_X6_copyFrom : GoodIn wsX10_copyFrom (wsV RX10 127 RX6 yX6_copyFrom wsX6_copyFrom) := goodIn_app (goodIn_of _ (by decide +kernel)) ggX10_copyFrom_X6_copyFrom
set_option maxRecDepth 20000 in
theorem ggX10_copyFrom_X4_copyFrom : GoodIn wsX10_copyFrom wsX4_copyFrom := goodIn_r _ [85, 86, 87, 88, 89, 10, 11, 12, 144, 145, 146] (by decide +kernel) (by decide +kernel)
set_option maxRecDepth 20000 in
theorem gX10_copyFrom_X4_copyFrom : GoodIn wsX10_copyFrom (wsV RX10 130 RX4 yX4_copyFrom wsX4_copyFrom) := goodIn_app (goodIn_of _ (by decide +kernel)) ggX10_copyFrom_X4_copyFrom
theorem dX10_copyFrom_0 : decode cX10_copyFrom 0 = .ok (.aload_n 0, 1) := by decide +kernel
theorem dX10_copyFrom_1 : decode cX10_copyFrom 1 = .ok (.aload_n 1, 1) := by decide +kernel
theorem dX10_copyFrom_2 : decode cX10_copyFrom 2 = .ok (.getfield 108, 3) := by decide +kernel
theorem dX10_copyFrom_5 : decode cX10_copyFrom 5 = .ok (.putfield 108, 3) := by decide +kernel
theorem dX10_copyFrom_8 : decode cX10_copyFrom 8 = .ok (.aload_n 0, 1) := by decide +kernel
theorem dX10_copyFrom_9 : decode cX10_copyFrom 9 = .ok (.aload_n 1, 1) := by decide +kernel
theorem dX10_copyFrom_10 : decode cX10_copyFrom 10 = .ok (.getfield 9, 3) := by decide +kernel
theorem dX10_copyFrom_13 : decode cX10_copyFrom 13 = .ok (.putfield 9, 3) := by decide +kernel
theorem dX10_copyFrom_16 : decode cX10_copyFrom 16 = .ok (.aload_n 0, 1) := by decide +kernel
theorem dX10_copyFrom_17 : decode cX10_copyFrom 17 = .ok (.aload_n 1, 1) := by decide +kernel
theorem dX10_copyFrom_18 : decode cX10_copyFrom 18 = .ok (.getfield 15, 3) := by decide +kernel
theorem dX10_copyFrom_21 : decode cX10_copyFrom 21 = .ok (.putfield 15, 3) := by decide +kernel
theorem dX10_copyFrom_24 : decode cX10_copyFrom 24 = .ok (.aload_n 0, 1) := by decide +kernel
theorem dX10_copyFrom_25 : decode cX10_copyFrom 25 = .ok (.aload_n 1, 1) := by decide +kernel
theorem dX10_copyFrom_26 : decode cX10_copyFrom 26 = .ok (.getfield 111, 3) := by decide +kernel
theorem dX10_copyFrom_29 : decode cX10_copyFrom 29 = .ok (.putfield 111, 3) := by decide +kernel
theorem dX10_copyFrom_32 : decode cX10_copyFrom 32 = .ok (.aload_n 0, 1) := by decide +kernel
theorem dX10_copyFrom_33 : decode cX10_copyFrom 33 = .ok (.aload_n 1, 1) := by decide +kernel
theorem dX10_copyFrom_34 : decode cX10_copyFrom 34 = .ok (.getfield 78, 3) := by decide +kernel
theorem dX10_copyFrom_37 : decode cX10_copyFrom 37 = .ok (.putfield 78, 3) := by decide +kernel
theorem dX10_copyFrom_40 : decode cX10_copyFrom 40 = .ok (.aload_n 0, 1) := by decide +kernel
theorem dX10_copyFrom_41 : decode cX10_copyFrom 41 = .ok (.aload_n 1, 1) := by decide +kernel
theorem dX10_copyFrom_42 : decode cX10_copyFrom 42 = .ok (.getfield 81, 3) := by decide +kernel
theorem dX10_copyFrom_45 : decode cX10_copyFrom 45 = .ok (.putfield 81, 3) := by decide +kernel
theorem dX10_copyFrom_48 : decode cX10_copyFrom 48 = .ok (.aload_n 0, 1) := by decide +kernel
theorem dX10_copyFrom_49 : decode cX10_copyFrom 49 = .ok (.aload_n 1, 1) := by decide +kernel
theorem dX10_copyFrom_50 : decode cX10_copyFrom 50 = .ok (.getfield 84, 3) := by decide +kernel
theorem dX10_copyFrom_53 : decode cX10_copyFrom 53 = .ok (.putfield 84, 3) := by decide +kernel
theorem dX10_copyFrom_56 : decode cX10_copyFrom 56 = .ok (.aload_n 1, 1) := by decide +kernel
theorem dX10_copyFrom_57 : decode cX10_copyFrom 57 = .ok (.getfield 18, 3) := by decide +kernel
theorem dX10_copyFrom_60 : decode cX10_copyFrom 60 = .ok (.iconst 0, 1) := by decide +kernel
theorem dX10_copyFrom_61 : decode cX10_copyFrom 61 = .ok (.aload_n 0, 1) := by decide +kernel
theorem dX10_copyFrom_62 : decode cX10_copyFrom 62 = .ok (.getfield 18, 3) := by decide +kernel
theorem dX10_copyFrom_65 : decode cX10_copyFrom 65 = .ok (.iconst 0, 1) := by decide +kernel
theorem dX10_copyFrom_66 : decode cX10_copyFrom 66 = .ok (.bipush 25, 2) := by decide +kernel
theorem dX10_copyFrom_68 : decode cX10_copyFrom 68 = .ok (.invokestatic 114, 3) := by decide +kernel
theorem dX10_copyFrom_71 : decode cX10_copyFrom 71 = .ok (.aload_n 1, 1) := by decide +kernel
theorem dX10_copyFrom_72 : decode cX10_copyFrom 72 = .ok (.getfield 22, 3) := by decide +kernel
theorem dX10_copyFrom_75 : decode cX10_copyFrom 75 = .ok (.iconst 0, 1) := by decide +kernel
theorem dX10_copyFrom_76 : decode cX10_copyFrom 76 = .ok (.aload_n 0, 1) := by decide +kernel
theorem dX10_copyFrom_77 : decode cX10_copyFrom 77 = .ok (.getfield 22, 3) := by decide +kernel
theorem dX10_copyFrom_80 : decode cX10_copyFrom 80 = .ok (.iconst 0, 1) := by decide +kernel
theorem dX10_copyFrom_81 : decode cX10_copyFrom 81 = .ok (.bipush 100, 2) := by decide +kernel
theorem dX10_copyFrom_83 : decode cX10_copyFrom 83 = .ok (.invokestatic 114, 3) := by decide +kernel
theorem dX10_copyFrom_86 : decode cX10_copyFrom 86 = .ok (.iconst 0, 1) := by decide +kernel
theorem dX10_copyFrom_87 : decode cX10_copyFrom 87 = .ok (.istore_n 2, 1) := by decide +kernel
theorem dX10_copyFrom_88 : decode cX10_copyFrom 88 = .ok (.iload_n 2, 1) := by decide +kernel
theorem dX10_copyFrom_89 : decode cX10_copyFrom 89 = .ok (.bipush 12, 2) := by decide +kernel
theorem dX10_copyFrom_91 : decode cX10_copyFrom 91 = .ok (.if_icmp .ge 21, 3) := by decide +kernel
theorem dX10_copyFrom_94 : decode cX10_copyFrom 94 = .ok (.aload_n 0, 1) := by decide +kernel
theorem dX10_copyFrom_95 : decode cX10_copyFrom 95 = .ok (.getfield 39, 3) := by decide +kernel
theorem dX10_copyFrom_98 : decode cX10_copyFrom 98 = .ok (.iload_n 2, 1) := by decide +kernel
theorem dX10_copyFrom_99 : decode cX10_copyFrom 99 = .ok (.aload_n 1, 1) := by decide +kernel
theorem dX10_copyFrom_100 : decode cX10_copyFrom 100 = .ok (.getfield 39, 3) := by decide +kernel
theorem dX10_copyFrom_103 : decode cX10_copyFrom 103 = .ok (.iload_n 2, 1) := by decide +kernel
theorem dX10_copyFrom_104 : decode cX10_copyFrom 104 = .ok (.aaload, 1) := by decide +kernel
theorem dX10_copyFrom_105 : decode cX10_copyFrom 105 = .ok (.aastore, 1) := by decide +kernel
theorem dX10_copyFrom_106 : decode cX10_copyFrom 106 = .ok (.iinc 2 1, 3) := by decide +kernel
theorem dX10_copyFrom_109 : decode cX10_copyFrom 109 = .ok (.goto (-21), 3) := by decide +kernel
theorem dX10_copyFrom_112 : decode cX10_copyFrom 112 = .ok (.iconst 0, 1) := by decide +kernel
theorem dX10_copyFrom_113 : decode cX10_copyFrom 113 = .ok (.istore_n 2, 1) := by decide +kernel
theorem dX10_copyFrom_114 : decode cX10_copyFrom 114 = .ok (.iload_n 2, 1) := by decide +kernel
theorem dX10_copyFrom_115 : decode cX10_copyFrom 115 = .ok (.aload_n 0, 1) := by decide +kernel
theorem dX10_copyFrom_116 : decode cX10_copyFrom 116 = .ok (.getfield 78, 3) := by decide +kernel
theorem dX10_copyFrom_119 : decode cX10_copyFrom 119 = .ok (.if_icmp .ge 24, 3) := by decide +kernel
theorem dX10_copyFrom_122 : decode cX10_copyFrom 122 = .ok (.aload_n 0, 1) := by decide +kernel
theorem dX10_copyFrom_123 : decode cX10_copyFrom 123 = .ok (.getfield 27, 3) := by decide +kernel
theorem dX10_copyFrom_126 : decode cX10_copyFrom 126 = .ok (.iload_n 2, 1) := by decide +kernel
theorem dX10_copyFrom_127 : decode cX10_copyFrom 127 = .ok (.aaload, 1) := by decide +kernel
theorem dX10_copyFrom_128 : decode cX10_copyFrom 128 = .ok (.aload_n 1, 1) := by decide +kernel
theorem dX10_copyFrom_129 : decode cX10_copyFrom 129 = .ok (.getfield 27, 3) := by decide +kernel
theorem dX10_copyFrom_132 : decode cX10_copyFrom 132 = .ok (.iload_n 2, 1) := by decide +kernel
theorem dX10_copyFrom_133 : decode cX10_copyFrom 133 = .ok (.aaload, 1) := by decide +kernel
theorem dX10_copyFrom_134 : decode cX10_copyFrom 134 = .ok (.invokevirtual 120, 3) := by decide +kernel
theorem dX10_copyFrom_137 : decode cX10_copyFrom 137 = .ok (.iinc 2 1, 3) := by decide +kernel
theorem dX10_copyFrom_140 : decode cX10_copyFrom 140 = .ok (.goto (-26), 3) := by decide +kernel
theorem dX10_copyFrom_143 : decode cX10_copyFrom 143 = .ok (.iconst 0, 1) := by decide +kernel
theorem dX10_copyFrom_144 : decode cX10_copyFrom 144 = .ok (.istore_n 2, 1) := by decide +kernel
theorem dX10_copyFrom_145 : decode cX10_copyFrom 145 = .ok (.iload_n 2, 1) := by decide +kernel
theorem dX10_copyFrom_146 : decode cX10_copyFrom 146 = .ok (.aload_n 0, 1) := by decide +kernel
theorem dX10_copyFrom_147 : decode cX10_copyFrom 147 = .ok (.getfield 81, 3) := by decide +kernel
theorem dX10_copyFrom_150 : decode cX10_copyFrom 150 = .ok (.if_icmp .ge 24, 3) := by decide +kernel
theorem dX10_copyFrom_153 : decode cX10_copyFrom 153 = .ok (.aload_n 0, 1) := by decide +kernel
theorem dX10_copyFrom_154 : decode cX10_copyFrom 154 = .ok (.getfield 33, 3) := by decide +kernel
theorem dX10_copyFrom_157 : decode cX10_copyFrom 157 = .ok (.iload_n 2, 1) := by decide +kernel
theorem dX10_copyFrom_158 : decode cX10_copyFrom 158 = .ok (.aaload, 1) := by decide +kernel
theorem dX10_copyFrom_159 : decode cX10_copyFrom 159 = .ok (.aload_n 1, 1) := by decide +kernel
theorem dX10_copyFrom_160 : decode cX10_copyFrom 160 = .ok (.getfield 33, 3) := by decide +kernel
theorem dX10_copyFrom_163 : decode cX10_copyFrom 163 = .ok (.iload_n 2, 1) := by decide +kernel
theorem dX10_copyFrom_164 : decode cX10_copyFrom 164 = .ok (.aaload, 1) := by decide +kernel
theorem dX10_copyFrom_165 : decode cX10_copyFrom 165 = .ok (.invokevirtual 124, 3) := by decide +kernel
theorem dX10_copyFrom_168 : decode cX10_copyFrom 168 = .ok (.iinc 2 1, 3) := by decide +kernel
theorem dX10_copyFrom_171 : decode cX10_copyFrom 171 = .ok (.goto (-26), 3) := by decide +kernel
theorem dX10_copyFrom_174 : decode cX10_copyFrom 174 = .ok (.aload_n 0, 1) := by decide +kernel
theorem dX10_copyFrom_175 : decode cX10_copyFrom 175 = .ok (.getfield 48, 3) := by decide +kernel
theorem dX10_copyFrom_178 : decode cX10_copyFrom 178 = .ok (.aload_n 1, 1) := by decide +kernel
theorem dX10_copyFrom_179 : decode cX10_copyFrom 179 = .ok (.getfield 48, 3) := by decide +kernel
theorem dX10_copyFrom_182 : decode cX10_copyFrom 182 = .ok (.invokevirtual 127, 3) := by decide +kernel
theorem dX10_copyFrom_185 : decode cX10_copyFrom 185 = .ok (.aload_n 0, 1) := by decide +kernel
theorem dX10_copyFrom_186 : decode cX10_copyFrom 186 = .ok (.getfield 52, 3) := by decide +kernel
theorem dX10_copyFrom_189 : decode cX10_copyFrom 189 = .ok (.aload_n 1, 1) := by decide +kernel
theorem dX10_copyFrom_190 : decode cX10_copyFrom 190 = .ok (.getfield 52, 3) := by decide +kernel
theorem dX10_copyFrom_193 : decode cX10_copyFrom 193 = .ok (.invokevirtual 127, 3) := by decide +kernel
theorem dX10_copyFrom_196 : decode cX10_copyFrom 196 = .ok (.aload_n 0, 1) := by decide +kernel
theorem dX10_copyFrom_197 : decode cX10_copyFrom 197 = .ok (.getfield 55, 3) := by decide +kernel
theorem dX10_copyFrom_200 : decode cX10_copyFrom 200 = .ok (.aload_n 1, 1) := by decide +kernel
theorem dX10_copyFrom_201 : decode cX10_copyFrom 201 = .ok (.getfield 55, 3) := by decide +kernel
theorem dX10_copyFrom_204 : decode cX10_copyFrom 204 = .ok (.invokevirtual 127, 3) := by decide +kernel
theorem dX10_copyFrom_207 : decode cX10_copyFrom 207 = .ok (.aload_n 0, 1) := by decide +kernel
theorem dX10_copyFrom_208 : decode cX10_copyFrom 208 = .ok (.getfield 63, 3) := by decide +kernel
theorem dX10_copyFrom_211 : decode cX10_copyFrom 211 = .ok (.aload_n 1, 1) := by decide +kernel
theorem dX10_copyFrom_212 : decode cX10_copyFrom 212 = .ok (.getfield 63, 3) := by decide +kernel
theorem dX10_copyFrom_215 : decode cX10_copyFrom 215 = .ok (.invokevirtual 130, 3) := by decide +kernel
theorem dX10_copyFrom_218 : decode cX10_copyFrom 218 = .ok (.aload_n 0, 1) := by decide +kernel
theorem dX10_copyFrom_219 : decode cX10_copyFrom 219 = .ok (.getfield 67, 3) := by decide +kernel
theorem dX10_copyFrom_222 : decode cX10_copyFrom 222 = .ok (.aload_n 1, 1) := by decide +kernel
theorem dX10_copyFrom_223 : decode cX10_copyFrom 223 = .ok (.getfield 67, 3) := by decide +kernel
theorem dX10_copyFrom_226 : decode cX10_copyFrom 226 = .ok (.invokevirtual 130, 3) := by decide +kernel
theorem dX10_copyFrom_229 : decode cX10_copyFrom 229 = .ok (.aload_n 0, 1) := by decide +kernel
theorem dX10_copyFrom_230 : decode cX10_copyFrom 230 = .ok (.getfield 70, 3) := by decide +kernel
theorem dX10_copyFrom_233 : decode cX10_copyFrom 233 = .ok (.aload_n 1, 1) := by decide +kernel
theorem dX10_copyFrom_234 : decode cX10_copyFrom 234 = .ok (.getfield 70, 3) := by decide +kernel
theorem dX10_copyFrom_237 : decode cX10_copyFrom 237 = .ok (.invokevirtual 130, 3) := by decide +kernel
theorem dX10_copyFrom_240 : decode cX10_copyFrom 240 = .ok (.aload_n 0, 1) := by decide +kernel
theorem dX10_copyFrom_241 : decode cX10_copyFrom 241 = .ok (.getfield 73, 3) := by decide +kernel
theorem dX10_copyFrom_244 : decode cX10_copyFrom 244 = .ok (.aload_n 1, 1) := by decide +kernel
theorem dX10_copyFrom_245 : decode cX10_copyFrom 245 = .ok (.getfield 73, 3) := by decide +kernel
theorem dX10_copyFrom_248 : decode cX10_copyFrom 248 = .ok (.invokevirtual 130, 3) := by decide +kernel
theorem dX10_copyFrom_251 : decode cX10_copyFrom 251 = .ok (.return_, 1) := by decide +kernel
set_option maxRecDepth 20000 in
theorem ggX11_isOrder_X11_within : GoodIn wsX11_isOrder wsX11_within := goodIn_r _ [5] (by decide +kernel) (by decide +kernel)
set_option maxRecDepth 20000 in
theorem gX11_isOrder_X11_within : GoodIn wsX11_isOrder (va_wsS RX11 51 yX11_within wsX11_within) := goodIn_app (goodIn_of _ (by decide +kernel)) ggX11_isOrder_X11_within
set_option maxRecDepth 20000 in
theorem ggX11_isOrder_X11_isHour : GoodIn wsX11_isOrder wsX11_isHour := goodIn_r _ [8, 2, 3, 4, 5] (by decide +kernel) (by decide +kernel)
set_option maxRecDepth 20000 in
theorem gX11_isOrder_X11_isHour : GoodIn wsX11_isOrder (va_wsS RX11 229 yX11_isHour wsX11_isHour) := goodIn_app (goodIn_of _ (by decide +kernel)) ggX11_isOrder_X11_isHour
theorem dX11_isOrder_0 : decode cX11_isOrder 0 = .ok (.iload_n 0, 1) := by decide +kernel
theorem dX11_isOrder_1 : decode cX11_isOrder 1 = .ok (.tableswitch 46 0 3 #[31, 33, 33, 41], 31) := by decide +kernel
theorem dX11_isOrder_32 : decode cX11_isOrder 32 = .ok (.iconst 1, 1) := by decide +kernel
theorem dX11_isOrder_33 : decode cX11_isOrder 33 = .ok (.ireturn, 1) := by decide +kernel
theorem dX11_isOrder_34 : decode cX11_isOrder 34 = .ok (.iload_n 1, 1) := by decide +kernel
theorem dX11_isOrder_35 : decode cX11_isOrder 35 = .ok (.iconst 1, 1) := by decide +kernel
theorem dX11_isOrder_36 : decode cX11_isOrder 36 = .ok (.ldc 76, 2) := by decide +kernel
theorem dX11_isOrder_38 : decode cX11_isOrder 38 = .ok (.invokestatic 51, 3) := by decide +kernel
theorem dX11_isOrder_41 : decode cX11_isOrder 41 = .ok (.ireturn, 1) := by decide +kernel
theorem dX11_isOrder_42 : decode cX11_isOrder 42 = .ok (.iload_n 1, 1) := by decide +kernel
theorem dX11_isOrder_43 : decode cX11_isOrder 43 = .ok (.invokestatic 229, 3) := by decide +kernel
theorem dX11_isOrder_46 : decode cX11_isOrder 46 = .ok (.ireturn, 1) := by decide +kernel
theorem dX11_isOrder_47 : decode cX11_isOrder 47 = .ok (.iconst 0, 1) := by decide +kernel
theorem dX11_isOrder_48 : decode cX11_isOrder 48 = .ok (.ireturn, 1) := by decide +kernel
theorem dJ7_rangeCheck_23922_0 : decode cJ7_rangeCheck_23922 0 = .ok (.iload_n 1, 1) := by decide +kernel
theorem dJ7_rangeCheck_23922_1 : decode cJ7_rangeCheck_23922 1 = .ok (.iload_n 2, 1) := by decide +kernel
theorem dJ7_rangeCheck_23922_2 : decode cJ7_rangeCheck_23922 2 = .ok (.if_icmp .le 44, 3) := by decide +kernel
theorem dJ7_rangeCheck_23922_46 : decode cJ7_rangeCheck_23922 46 = .ok (.iload_n 1, 1) := by decide +kernel
theorem dJ7_rangeCheck_23922_47 : decode cJ7_rangeCheck_23922 47 = .ok (.ifCond .ge 12, 3) := by decide +kernel
theorem dJ7_rangeCheck_23922_59 : decode cJ7_rangeCheck_23922 59 = .ok (.iload_n 2, 1) := by decide +kernel
theorem dJ7_rangeCheck_23922_60 : decode cJ7_rangeCheck_23922 60 = .ok (.iload_n 0, 1) := by decide +kernel
theorem dJ7_rangeCheck_23922_61 : decode cJ7_rangeCheck_23922 61 = .ok (.if_icmp .le 12, 3) := by decide +kernel
theorem dJ7_rangeCheck_23922_73 : decode cJ7_rangeCheck_23922 73 = .ok (.return_, 1) := by decide +kernel
set_option maxRecDepth 20000 in
theorem ggJ7_fill_bad5a_J7_rangeCheck_23922 : GoodIn wsJ7_fill_bad5a wsJ7_rangeCheck_23922 := goodIn_r _ [4] (by decide +kernel) (by decide +kernel)
set_option maxRecDepth 20000 in
theorem gJ7_fill_bad5a_J7_rangeCheck_23922 : GoodIn wsJ7_fill_bad5a (va_wsS RJ7 13 yJ7_rangeCheck_23922 wsJ7_rangeCheck_23922) := goodIn_app (goodIn_of _ (by decide +kernel)) ggJ7_fill_bad5a_J7_rangeCheck_23922
theorem dJ7_fill_bad5a_0 : decode cJ7_fill_bad5a 0 = .ok (.aload_n 0, 1) := by decide +kernel
theorem dJ7_fill_bad5a_1 : decode cJ7_fill_bad5a 1 = .ok (.arraylength, 1) := by decide +kernel
theorem dJ7_fill_bad5a_2 : decode cJ7_fill_bad5a 2 = .ok (.iload_n 1, 1) := by decide +kernel
theorem dJ7_fill_bad5a_3 : decode cJ7_fill_bad5a 3 = .ok (.iload_n 2, 1) := by decide +kernel
theorem dJ7_fill_bad5a_4 : decode cJ7_fill_bad5a 4 = .ok (.invokestatic 13, 3) := by decide +kernel
theorem dJ7_fill_bad5a_7 : decode cJ7_fill_bad5a 7 = .ok (.iload_n 1, 1) := by decide +kernel
theorem dJ7_fill_bad5a_8 : decode cJ7_fill_bad5a 8 = .ok (.istore 5, 2) := by decide +kernel
theorem dJ7_fill_bad5a_10 : decode cJ7_fill_bad5a 10 = .ok (.iload 5, 2) := by decide +kernel
theorem dJ7_fill_bad5a_12 : decode cJ7_fill_bad5a 12 = .ok (.iload_n 2, 1) := by decide +kernel
theorem dJ7_fill_bad5a_13 : decode cJ7_fill_bad5a 13 = .ok (.if_icmp .ge 14, 3) := by decide +kernel
theorem dJ7_fill_bad5a_16 : decode cJ7_fill_bad5a 16 = .ok (.aload_n 0, 1) := by decide +kernel
theorem dJ7_fill_bad5a_17 : decode cJ7_fill_bad5a 17 = .ok (.iload 5, 2) := by decide +kernel
theorem dJ7_fill_bad5a_19 : decode cJ7_fill_bad5a 19 = .ok (.lload_n 3, 1) := by decide +kernel
theorem dJ7_fill_bad5a_20 : decode cJ7_fill_bad5a 20 = .ok (.lastore, 1) := by decide +kernel
theorem dJ7_fill_bad5a_21 : decode cJ7_fill_bad5a 21 = .ok (.iinc 5 1, 3) := by decide +kernel
theorem dJ7_fill_bad5a_24 : decode cJ7_fill_bad5a 24 = .ok (.goto (-14), 3) := by decide +kernel
theorem dJ7_fill_bad5a_27 : decode cJ7_fill_bad5a 27 = .ok (.return_, 1) := by decide +kernel
