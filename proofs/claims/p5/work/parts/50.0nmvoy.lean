abbrev cX12_work : ByteArray := prog_14_method_107_code
def yX12_work : MethodName := ⟨RX12, "work", "(II)Z"⟩
abbrev cX12_goTo : ByteArray := prog_14_method_108_code
def yX12_goTo : MethodName := ⟨RX12, "goTo", "(IIII)I"⟩
abbrev cX12_carry : ByteArray := prog_14_method_109_code
def yX12_carry : MethodName := ⟨RX12, "carry", "(II)Z"⟩
abbrev cX12_sailRow : ByteArray := prog_14_method_110_code
def yX12_sailRow : MethodName := ⟨RX12, "sailRow", "(III)J"⟩
def wsX12_work : List Cond := .code yX12_work cX12_work 4 (some .boolean) :: ([.fieldLink RX12 500 "ColdShipsModel" "clock" "I", .methodLink RX12 221 yX12_isBroken, .instanceMethod yX12_isBroken, .selects RX12 yX12_isBroken yX12_isBroken, .initialized RX12, .code yX12_isBroken cX12_isBroken 6 (some .boolean), .fieldLink RX12 7 "ColdShipsModel" "row" "[I", .methodLink RX12 99 yX12_in, .static yX12_in, .code yX12_in cX12_in 6 (some .boolean)] ++ wsX120)
def wsX12_goTo : List Cond := .code yX12_goTo cX12_goTo 6 (some .int) :: ([.fieldLink RX12 503 "ColdShipsModel" "place" "I", .fieldLink RX12 500 "ColdShipsModel" "clock" "I", .fieldLink RX12 506 "ColdShipsModel" "began" "I", .methodLink RX12 217 yX12_wayOf, .instanceMethod yX12_wayOf, .selects RX12 yX12_wayOf yX12_wayOf, .initialized RX12, .code yX12_wayOf cX12_wayOf 3 (some .int), .fieldLink RX12 7 "ColdShipsModel" "row" "[I", .methodLink RX12 509 yX12_work, .instanceMethod yX12_work, .selects RX12 yX12_work yX12_work, .code yX12_work cX12_work 4 (some .boolean), .methodLink RX12 221 yX12_isBroken, .instanceMethod yX12_isBroken, .selects RX12 yX12_isBroken yX12_isBroken, .code yX12_isBroken cX12_isBroken 6 (some .boolean), .methodLink RX12 99 yX12_in, .static yX12_in, .code yX12_in cX12_in 6 (some .boolean)] ++ wsX120)
def wsX12_carry_r1 : List Cond := [Cond.fieldLink RX12 7 "ColdShipsModel" "row" "[I", Cond.fieldLink RX12 55 "ColdShipsModel" "loads" "[I", Cond.fieldLink RX12 506 "ColdShipsModel" "began" "I", Cond.fieldLink RX12 58 "ColdShipsModel" "lands" "[I", Cond.constantLong RX12 177 (100000), Cond.fieldLink RX12 61 "ColdShipsModel" "worths" "[J", Cond.constantLong RX12 150 (100), Cond.methodLink RX12 132 yX12_shipAt, Cond.static yX12_shipAt, Cond.initialized RX12, Cond.code yX12_shipAt cX12_shipAt 1 (some .int), Cond.methodLink RX12 231 yX12_topOf, Cond.instanceMethod yX12_topOf, Cond.selects RX12 yX12_topOf yX12_topOf, Cond.code yX12_topOf cX12_topOf 2 (some .int), Cond.constantLong RX12 160 (98), Cond.methodLink RX12 115 yX12_terminalAt, Cond.static yX12_terminalAt, Cond.code yX12_terminalAt cX12_terminalAt 1 (some .int), Cond.methodLink RX12 512 yX12_goTo, Cond.instanceMethod yX12_goTo, Cond.selects RX12 yX12_goTo yX12_goTo, Cond.code yX12_goTo cX12_goTo 6 (some .int), Cond.fieldLink RX12 503 "ColdShipsModel" "place" "I"]
def wsX12_carry_r2 : List Cond := [Cond.fieldLink RX12 500 "ColdShipsModel" "clock" "I", Cond.methodLink RX12 217 yX12_wayOf, Cond.instanceMethod yX12_wayOf, Cond.selects RX12 yX12_wayOf yX12_wayOf, Cond.code yX12_wayOf cX12_wayOf 3 (some .int), Cond.methodLink RX12 509 yX12_work, Cond.instanceMethod yX12_work, Cond.selects RX12 yX12_work yX12_work, Cond.code yX12_work cX12_work 4 (some .boolean), Cond.methodLink RX12 221 yX12_isBroken, Cond.instanceMethod yX12_isBroken, Cond.selects RX12 yX12_isBroken yX12_isBroken, Cond.code yX12_isBroken cX12_isBroken 6 (some .boolean), Cond.methodLink RX12 99 yX12_in, Cond.static yX12_in, Cond.code yX12_in cX12_in 6 (some .boolean)]
def wsX12_carry : List Cond := .code yX12_carry cX12_carry 12 (some .boolean) :: ((wsX12_carry_r1 ++ wsX12_carry_r2) ++ wsX120)
def wsX12_sailRow_r1 : List Cond := [Cond.fieldLink RX12 500 "ColdShipsModel" "clock" "I", Cond.fieldLink RX12 7 "ColdShipsModel" "row" "[I", Cond.fieldLink RX12 503 "ColdShipsModel" "place" "I", Cond.fieldLink RX12 64 "ColdShipsModel" "line" "[I", Cond.constantLong RX12 466 (-2000000000000000), Cond.fieldLink RX12 61 "ColdShipsModel" "worths" "[J", Cond.methodLink RX12 132 yX12_shipAt, Cond.static yX12_shipAt, Cond.initialized RX12, Cond.code yX12_shipAt cX12_shipAt 1 (some .int), Cond.methodLink RX12 516 yX12_carry, Cond.instanceMethod yX12_carry, Cond.selects RX12 yX12_carry yX12_carry, Cond.code yX12_carry cX12_carry 12 (some .boolean), Cond.fieldLink RX12 55 "ColdShipsModel" "loads" "[I", Cond.fieldLink RX12 506 "ColdShipsModel" "began" "I", Cond.fieldLink RX12 58 "ColdShipsModel" "lands" "[I", Cond.constantLong RX12 177 (100000), Cond.constantLong RX12 150 (100), Cond.methodLink RX12 231 yX12_topOf, Cond.instanceMethod yX12_topOf, Cond.selects RX12 yX12_topOf yX12_topOf, Cond.code yX12_topOf cX12_topOf 2 (some .int), Cond.constantLong RX12 160 (98)]
def wsX12_sailRow_r2 : List Cond := [Cond.methodLink RX12 115 yX12_terminalAt, Cond.static yX12_terminalAt, Cond.code yX12_terminalAt cX12_terminalAt 1 (some .int), Cond.methodLink RX12 512 yX12_goTo, Cond.instanceMethod yX12_goTo, Cond.selects RX12 yX12_goTo yX12_goTo, Cond.code yX12_goTo cX12_goTo 6 (some .int), Cond.methodLink RX12 217 yX12_wayOf, Cond.instanceMethod yX12_wayOf, Cond.selects RX12 yX12_wayOf yX12_wayOf, Cond.code yX12_wayOf cX12_wayOf 3 (some .int), Cond.methodLink RX12 509 yX12_work, Cond.instanceMethod yX12_work, Cond.selects RX12 yX12_work yX12_work, Cond.code yX12_work cX12_work 4 (some .boolean), Cond.methodLink RX12 221 yX12_isBroken, Cond.instanceMethod yX12_isBroken, Cond.selects RX12 yX12_isBroken yX12_isBroken, Cond.code yX12_isBroken cX12_isBroken 6 (some .boolean), Cond.methodLink RX12 99 yX12_in, Cond.static yX12_in, Cond.code yX12_in cX12_in 6 (some .boolean)]
def wsX12_sailRow : List Cond := .code yX12_sailRow cX12_sailRow 7 (some .long) :: ((wsX12_sailRow_r1 ++ wsX12_sailRow_r2) ++ wsX120)
set_option maxRecDepth 20000 in
theorem ggX12_work_X12_isBroken : GoodIn wsX12_work wsX12_isBroken := goodIn_r _ [6, 7, 8, 9, 5, 10, 11, 12, 13, 14, 15, 16, 17, 18, 19, 20, 21, 22, 23, 24, 25, 26, 27, 28, 29, 30, 31, 32, 33, 34, 35, 36, 37, 38, 39, 40, 41, 42, 43, 44, 45, 46, 47, 48, 49, 50, 51, 52, 53, 54, 55, 56, 57, 58, 59, 60, 61, 62, 63] (by decide +kernel) (by decide +kernel)
set_option maxRecDepth 20000 in
theorem gX12_work_X12_isBroken : GoodIn wsX12_work (wsV RX12 221 RX12 yX12_isBroken wsX12_isBroken) := goodIn_app (goodIn_of _ (by decide +kernel)) ggX12_work_X12_isBroken
theorem dX12_work_0 : decode cX12_work 0 = .ok (.iload_n 2, 1) := by decide +kernel
theorem dX12_work_1 : decode cX12_work 1 = .ok (.istore_n 3, 1) := by decide +kernel
theorem dX12_work_2 : decode cX12_work 2 = .ok (.iload_n 3, 1) := by decide +kernel
theorem dX12_work_3 : decode cX12_work 3 = .ok (.ifCond .le 46, 3) := by decide +kernel
theorem dX12_work_6 : decode cX12_work 6 = .ok (.aload_n 0, 1) := by decide +kernel
theorem dX12_work_7 : decode cX12_work 7 = .ok (.getfield 500, 3) := by decide +kernel
theorem dX12_work_10 : decode cX12_work 10 = .ok (.sipush 2399, 3) := by decide +kernel
theorem dX12_work_13 : decode cX12_work 13 = .ok (.if_icmp .gt 36, 3) := by decide +kernel
theorem dX12_work_16 : decode cX12_work 16 = .ok (.iload_n 3, 1) := by decide +kernel
theorem dX12_work_17 : decode cX12_work 17 = .ok (.aload_n 0, 1) := by decide +kernel
theorem dX12_work_18 : decode cX12_work 18 = .ok (.iload_n 1, 1) := by decide +kernel
theorem dX12_work_19 : decode cX12_work 19 = .ok (.aload_n 0, 1) := by decide +kernel
theorem dX12_work_20 : decode cX12_work 20 = .ok (.getfield 500, 3) := by decide +kernel
theorem dX12_work_23 : decode cX12_work 23 = .ok (.invokevirtual 221, 3) := by decide +kernel
theorem dX12_work_26 : decode cX12_work 26 = .ok (.ifCond .eq 7, 3) := by decide +kernel
theorem dX12_work_29 : decode cX12_work 29 = .ok (.iconst 0, 1) := by decide +kernel
theorem dX12_work_30 : decode cX12_work 30 = .ok (.goto 4, 3) := by decide +kernel
theorem dX12_work_33 : decode cX12_work 33 = .ok (.iconst 1, 1) := by decide +kernel
theorem dX12_work_34 : decode cX12_work 34 = .ok (.isub, 1) := by decide +kernel
theorem dX12_work_35 : decode cX12_work 35 = .ok (.istore_n 3, 1) := by decide +kernel
theorem dX12_work_36 : decode cX12_work 36 = .ok (.aload_n 0, 1) := by decide +kernel
theorem dX12_work_37 : decode cX12_work 37 = .ok (.dup, 1) := by decide +kernel
theorem dX12_work_38 : decode cX12_work 38 = .ok (.getfield 500, 3) := by decide +kernel
theorem dX12_work_41 : decode cX12_work 41 = .ok (.iconst 1, 1) := by decide +kernel
theorem dX12_work_42 : decode cX12_work 42 = .ok (.iadd, 1) := by decide +kernel
theorem dX12_work_43 : decode cX12_work 43 = .ok (.putfield 500, 3) := by decide +kernel
theorem dX12_work_46 : decode cX12_work 46 = .ok (.goto (-44), 3) := by decide +kernel
theorem dX12_work_49 : decode cX12_work 49 = .ok (.iload_n 3, 1) := by decide +kernel
theorem dX12_work_50 : decode cX12_work 50 = .ok (.ifCond .ne 7, 3) := by decide +kernel
theorem dX12_work_53 : decode cX12_work 53 = .ok (.iconst 1, 1) := by decide +kernel
theorem dX12_work_54 : decode cX12_work 54 = .ok (.goto 4, 3) := by decide +kernel
theorem dX12_work_57 : decode cX12_work 57 = .ok (.iconst 0, 1) := by decide +kernel
theorem dX12_work_58 : decode cX12_work 58 = .ok (.ireturn, 1) := by decide +kernel
set_option maxRecDepth 20000 in
theorem ggX12_goTo_X12_wayOf : GoodIn wsX12_goTo wsX12_wayOf := goodIn_r _ [8, 9, 21, 22, 23, 24, 25, 26, 27, 28, 29, 30, 31, 32, 33, 34, 35, 36, 37, 38, 39, 40, 41, 42, 43, 44, 45, 46, 47, 48, 49, 50, 51, 52, 53, 54, 55, 56, 57, 58, 59, 60, 61, 62, 63, 64, 65, 66, 67, 68, 69, 70, 71, 72, 73] (by decide +kernel) (by decide +kernel)
set_option maxRecDepth 20000 in
theorem gX12_goTo_X12_wayOf : GoodIn wsX12_goTo (wsV RX12 217 RX12 yX12_wayOf wsX12_wayOf) := goodIn_app (goodIn_of _ (by decide +kernel)) ggX12_goTo_X12_wayOf
set_option maxRecDepth 20000 in
theorem ggX12_goTo_X12_work : GoodIn wsX12_goTo wsX12_work := goodIn_r _ [13, 2, 14, 15, 16, 7, 17, 9, 18, 19, 20, 21, 22, 23, 24, 25, 26, 27, 28, 29, 30, 31, 32, 33, 34, 35, 36, 37, 38, 39, 40, 41, 42, 43, 44, 45, 46, 47, 48, 49, 50, 51, 52, 53, 54, 55, 56, 57, 58, 59, 60, 61, 62, 63, 64, 65, 66, 67, 68, 69, 70, 71, 72, 73] (by decide +kernel) (by decide +kernel)
set_option maxRecDepth 20000 in
theorem gX12_goTo_X12_work : GoodIn wsX12_goTo (wsV RX12 509 RX12 yX12_work wsX12_work) := goodIn_app (goodIn_of _ (by decide +kernel)) ggX12_goTo_X12_work
theorem dX12_goTo_0 : decode cX12_goTo 0 = .ok (.aload_n 0, 1) := by decide +kernel
theorem dX12_goTo_1 : decode cX12_goTo 1 = .ok (.getfield 503, 3) := by decide +kernel
theorem dX12_goTo_4 : decode cX12_goTo 4 = .ok (.iload_n 1, 1) := by decide +kernel
theorem dX12_goTo_5 : decode cX12_goTo 5 = .ok (.if_icmp .ne 7, 3) := by decide +kernel
theorem dX12_goTo_8 : decode cX12_goTo 8 = .ok (.iconst 0, 1) := by decide +kernel
theorem dX12_goTo_9 : decode cX12_goTo 9 = .ok (.goto 12, 3) := by decide +kernel
theorem dX12_goTo_12 : decode cX12_goTo 12 = .ok (.aload_n 0, 1) := by decide +kernel
theorem dX12_goTo_13 : decode cX12_goTo 13 = .ok (.aload_n 0, 1) := by decide +kernel
theorem dX12_goTo_14 : decode cX12_goTo 14 = .ok (.getfield 503, 3) := by decide +kernel
theorem dX12_goTo_17 : decode cX12_goTo 17 = .ok (.iload_n 1, 1) := by decide +kernel
theorem dX12_goTo_18 : decode cX12_goTo 18 = .ok (.invokevirtual 217, 3) := by decide +kernel
theorem dX12_goTo_21 : decode cX12_goTo 21 = .ok (.istore 5, 2) := by decide +kernel
theorem dX12_goTo_23 : decode cX12_goTo 23 = .ok (.aload_n 0, 1) := by decide +kernel
theorem dX12_goTo_24 : decode cX12_goTo 24 = .ok (.getfield 503, 3) := by decide +kernel
theorem dX12_goTo_27 : decode cX12_goTo 27 = .ok (.iload_n 1, 1) := by decide +kernel
theorem dX12_goTo_28 : decode cX12_goTo 28 = .ok (.if_icmp .eq 10, 3) := by decide +kernel
theorem dX12_goTo_31 : decode cX12_goTo 31 = .ok (.iload 5, 2) := by decide +kernel
theorem dX12_goTo_33 : decode cX12_goTo 33 = .ok (.ifCond .ne 5, 3) := by decide +kernel
theorem dX12_goTo_36 : decode cX12_goTo 36 = .ok (.iconst (-1), 1) := by decide +kernel
theorem dX12_goTo_37 : decode cX12_goTo 37 = .ok (.ireturn, 1) := by decide +kernel
theorem dX12_goTo_38 : decode cX12_goTo 38 = .ok (.aload_n 0, 1) := by decide +kernel
theorem dX12_goTo_39 : decode cX12_goTo 39 = .ok (.dup, 1) := by decide +kernel
theorem dX12_goTo_40 : decode cX12_goTo 40 = .ok (.getfield 500, 3) := by decide +kernel
theorem dX12_goTo_43 : decode cX12_goTo 43 = .ok (.iload 5, 2) := by decide +kernel
theorem dX12_goTo_45 : decode cX12_goTo 45 = .ok (.iadd, 1) := by decide +kernel
theorem dX12_goTo_46 : decode cX12_goTo 46 = .ok (.putfield 500, 3) := by decide +kernel
theorem dX12_goTo_49 : decode cX12_goTo 49 = .ok (.aload_n 0, 1) := by decide +kernel
theorem dX12_goTo_50 : decode cX12_goTo 50 = .ok (.aload_n 0, 1) := by decide +kernel
theorem dX12_goTo_51 : decode cX12_goTo 51 = .ok (.getfield 500, 3) := by decide +kernel
theorem dX12_goTo_54 : decode cX12_goTo 54 = .ok (.iload_n 2, 1) := by decide +kernel
theorem dX12_goTo_55 : decode cX12_goTo 55 = .ok (.if_icmp .ge 7, 3) := by decide +kernel
theorem dX12_goTo_58 : decode cX12_goTo 58 = .ok (.iload_n 2, 1) := by decide +kernel
theorem dX12_goTo_59 : decode cX12_goTo 59 = .ok (.goto 7, 3) := by decide +kernel
theorem dX12_goTo_62 : decode cX12_goTo 62 = .ok (.aload_n 0, 1) := by decide +kernel
theorem dX12_goTo_63 : decode cX12_goTo 63 = .ok (.getfield 500, 3) := by decide +kernel
theorem dX12_goTo_66 : decode cX12_goTo 66 = .ok (.putfield 500, 3) := by decide +kernel
theorem dX12_goTo_69 : decode cX12_goTo 69 = .ok (.aload_n 0, 1) := by decide +kernel
theorem dX12_goTo_70 : decode cX12_goTo 70 = .ok (.getfield 500, 3) := by decide +kernel
theorem dX12_goTo_73 : decode cX12_goTo 73 = .ok (.iload_n 3, 1) := by decide +kernel
theorem dX12_goTo_74 : decode cX12_goTo 74 = .ok (.if_icmp .le 5, 3) := by decide +kernel
theorem dX12_goTo_77 : decode cX12_goTo 77 = .ok (.iconst (-1), 1) := by decide +kernel
theorem dX12_goTo_78 : decode cX12_goTo 78 = .ok (.ireturn, 1) := by decide +kernel
theorem dX12_goTo_79 : decode cX12_goTo 79 = .ok (.aload_n 0, 1) := by decide +kernel
theorem dX12_goTo_80 : decode cX12_goTo 80 = .ok (.aload_n 0, 1) := by decide +kernel
theorem dX12_goTo_81 : decode cX12_goTo 81 = .ok (.getfield 500, 3) := by decide +kernel
theorem dX12_goTo_84 : decode cX12_goTo 84 = .ok (.putfield 506, 3) := by decide +kernel
theorem dX12_goTo_87 : decode cX12_goTo 87 = .ok (.aload_n 0, 1) := by decide +kernel
theorem dX12_goTo_88 : decode cX12_goTo 88 = .ok (.iload_n 1, 1) := by decide +kernel
theorem dX12_goTo_89 : decode cX12_goTo 89 = .ok (.putfield 503, 3) := by decide +kernel
theorem dX12_goTo_92 : decode cX12_goTo 92 = .ok (.aload_n 0, 1) := by decide +kernel
theorem dX12_goTo_93 : decode cX12_goTo 93 = .ok (.iload_n 1, 1) := by decide +kernel
theorem dX12_goTo_94 : decode cX12_goTo 94 = .ok (.iload 4, 2) := by decide +kernel
theorem dX12_goTo_96 : decode cX12_goTo 96 = .ok (.invokevirtual 509, 3) := by decide +kernel
theorem dX12_goTo_99 : decode cX12_goTo 99 = .ok (.ifCond .eq 8, 3) := by decide +kernel
theorem dX12_goTo_102 : decode cX12_goTo 102 = .ok (.iload 5, 2) := by decide +kernel
theorem dX12_goTo_104 : decode cX12_goTo 104 = .ok (.goto 4, 3) := by decide +kernel
theorem dX12_goTo_107 : decode cX12_goTo 107 = .ok (.iconst (-1), 1) := by decide +kernel
theorem dX12_goTo_108 : decode cX12_goTo 108 = .ok (.ireturn, 1) := by decide +kernel
set_option maxRecDepth 20000 in
theorem ggX12_carry_X12_shipAt : GoodIn wsX12_carry wsX12_shipAt := goodIn_r _ [11] (by decide +kernel) (by decide +kernel)
set_option maxRecDepth 20000 in
theorem gX12_carry_X12_shipAt : GoodIn wsX12_carry (va_wsS RX12 132 yX12_shipAt wsX12_shipAt) := goodIn_app (goodIn_of _ (by decide +kernel)) ggX12_carry_X12_shipAt
set_option maxRecDepth 20000 in
theorem ggX12_carry_X12_topOf : GoodIn wsX12_carry wsX12_topOf := goodIn_r _ [15, 1, 16, 7, 41, 42, 43, 44, 45, 46, 47, 48, 49, 50, 51, 52, 53, 54, 55, 56, 57, 58, 59, 60, 61, 62, 63, 64, 65, 66, 67, 68, 69, 70, 71, 72, 73, 74, 75, 76, 77, 78, 79, 80, 81, 82, 83, 84, 85, 86, 87, 88, 89, 90, 91, 92, 93] (by decide +kernel) (by decide +kernel)
set_option maxRecDepth 20000 in
theorem gX12_carry_X12_topOf : GoodIn wsX12_carry (wsV RX12 231 RX12 yX12_topOf wsX12_topOf) := goodIn_app (goodIn_of _ (by decide +kernel)) ggX12_carry_X12_topOf
set_option maxRecDepth 20000 in
theorem ggX12_carry_X12_terminalAt : GoodIn wsX12_carry wsX12_terminalAt := goodIn_r _ [19] (by decide +kernel) (by decide +kernel)
set_option maxRecDepth 20000 in
theorem gX12_carry_X12_terminalAt : GoodIn wsX12_carry (va_wsS RX12 115 yX12_terminalAt wsX12_terminalAt) := goodIn_app (goodIn_of _ (by decide +kernel)) ggX12_carry_X12_terminalAt
set_option maxRecDepth 20000 in
theorem ggX12_carry_X12_goTo : GoodIn wsX12_carry wsX12_goTo := goodIn_r _ [23, 24, 25, 3, 26, 27, 28, 10, 29, 1, 30, 31, 32, 33, 34, 35, 36, 37, 38, 39, 40, 41, 42, 43, 44, 45, 46, 47, 48, 49, 50, 51, 52, 53, 54, 55, 56, 57, 58, 59, 60, 61, 62, 63, 64, 65, 66, 67, 68, 69, 70, 71, 72, 73, 74, 75, 76, 77, 78, 79, 80, 81, 82, 83, 84, 85, 86, 87, 88, 89, 90, 91, 92, 93] (by decide +kernel) (by decide +kernel)
set_option maxRecDepth 20000 in
theorem gX12_carry_X12_goTo : GoodIn wsX12_carry (wsV RX12 512 RX12 yX12_goTo wsX12_goTo) := goodIn_app (goodIn_of _ (by decide +kernel)) ggX12_carry_X12_goTo
theorem dX12_carry_0 : decode cX12_carry 0 = .ok (.sipush 12919, 3) := by decide +kernel
theorem dX12_carry_3 : decode cX12_carry 3 = .ok (.bipush 8, 2) := by decide +kernel
theorem dX12_carry_5 : decode cX12_carry 5 = .ok (.iload_n 2, 1) := by decide +kernel
theorem dX12_carry_6 : decode cX12_carry 6 = .ok (.imul, 1) := by decide +kernel
theorem dX12_carry_7 : decode cX12_carry 7 = .ok (.iadd, 1) := by decide +kernel
theorem dX12_carry_8 : decode cX12_carry 8 = .ok (.istore_n 3, 1) := by decide +kernel
theorem dX12_carry_9 : decode cX12_carry 9 = .ok (.iload_n 1, 1) := by decide +kernel
theorem dX12_carry_10 : decode cX12_carry 10 = .ok (.invokestatic 132, 3) := by decide +kernel
theorem dX12_carry_13 : decode cX12_carry 13 = .ok (.istore 4, 2) := by decide +kernel
theorem dX12_carry_15 : decode cX12_carry 15 = .ok (.aload_n 0, 1) := by decide +kernel
theorem dX12_carry_16 : decode cX12_carry 16 = .ok (.getfield 7, 3) := by decide +kernel
theorem dX12_carry_19 : decode cX12_carry 19 = .ok (.iload_n 3, 1) := by decide +kernel
theorem dX12_carry_20 : decode cX12_carry 20 = .ok (.bipush 6, 2) := by decide +kernel
theorem dX12_carry_22 : decode cX12_carry 22 = .ok (.iadd, 1) := by decide +kernel
theorem dX12_carry_23 : decode cX12_carry 23 = .ok (.iaload, 1) := by decide +kernel
theorem dX12_carry_24 : decode cX12_carry 24 = .ok (.istore 5, 2) := by decide +kernel
theorem dX12_carry_26 : decode cX12_carry 26 = .ok (.iload 5, 2) := by decide +kernel
theorem dX12_carry_28 : decode cX12_carry 28 = .ok (.aload_n 0, 1) := by decide +kernel
theorem dX12_carry_29 : decode cX12_carry 29 = .ok (.iload 4, 2) := by decide +kernel
theorem dX12_carry_31 : decode cX12_carry 31 = .ok (.invokevirtual 231, 3) := by decide +kernel
theorem dX12_carry_34 : decode cX12_carry 34 = .ok (.if_icmp .le 5, 3) := by decide +kernel
theorem dX12_carry_37 : decode cX12_carry 37 = .ok (.iconst 0, 1) := by decide +kernel
theorem dX12_carry_38 : decode cX12_carry 38 = .ok (.ireturn, 1) := by decide +kernel
theorem dX12_carry_39 : decode cX12_carry 39 = .ok (.aload_n 0, 1) := by decide +kernel
theorem dX12_carry_40 : decode cX12_carry 40 = .ok (.getfield 7, 3) := by decide +kernel
theorem dX12_carry_43 : decode cX12_carry 43 = .ok (.aload_n 0, 1) := by decide +kernel
theorem dX12_carry_44 : decode cX12_carry 44 = .ok (.getfield 7, 3) := by decide +kernel
theorem dX12_carry_47 : decode cX12_carry 47 = .ok (.iload_n 3, 1) := by decide +kernel
theorem dX12_carry_48 : decode cX12_carry 48 = .ok (.iaload, 1) := by decide +kernel
theorem dX12_carry_49 : decode cX12_carry 49 = .ok (.invokestatic 115, 3) := by decide +kernel
theorem dX12_carry_52 : decode cX12_carry 52 = .ok (.iconst 2, 1) := by decide +kernel
theorem dX12_carry_53 : decode cX12_carry 53 = .ok (.iadd, 1) := by decide +kernel
theorem dX12_carry_54 : decode cX12_carry 54 = .ok (.iaload, 1) := by decide +kernel
theorem dX12_carry_55 : decode cX12_carry 55 = .ok (.istore 6, 2) := by decide +kernel
theorem dX12_carry_57 : decode cX12_carry 57 = .ok (.aload_n 0, 1) := by decide +kernel
theorem dX12_carry_58 : decode cX12_carry 58 = .ok (.aload_n 0, 1) := by decide +kernel
theorem dX12_carry_59 : decode cX12_carry 59 = .ok (.getfield 7, 3) := by decide +kernel
theorem dX12_carry_62 : decode cX12_carry 62 = .ok (.iload_n 3, 1) := by decide +kernel
theorem dX12_carry_63 : decode cX12_carry 63 = .ok (.iaload, 1) := by decide +kernel
theorem dX12_carry_64 : decode cX12_carry 64 = .ok (.aload_n 0, 1) := by decide +kernel
theorem dX12_carry_65 : decode cX12_carry 65 = .ok (.getfield 7, 3) := by decide +kernel
theorem dX12_carry_68 : decode cX12_carry 68 = .ok (.iload_n 3, 1) := by decide +kernel
theorem dX12_carry_69 : decode cX12_carry 69 = .ok (.iconst 2, 1) := by decide +kernel
theorem dX12_carry_70 : decode cX12_carry 70 = .ok (.iadd, 1) := by decide +kernel
theorem dX12_carry_71 : decode cX12_carry 71 = .ok (.iaload, 1) := by decide +kernel
theorem dX12_carry_72 : decode cX12_carry 72 = .ok (.aload_n 0, 1) := by decide +kernel
theorem dX12_carry_73 : decode cX12_carry 73 = .ok (.getfield 7, 3) := by decide +kernel
theorem dX12_carry_76 : decode cX12_carry 76 = .ok (.iload_n 3, 1) := by decide +kernel
theorem dX12_carry_77 : decode cX12_carry 77 = .ok (.iconst 3, 1) := by decide +kernel
theorem dX12_carry_78 : decode cX12_carry 78 = .ok (.iadd, 1) := by decide +kernel
theorem dX12_carry_79 : decode cX12_carry 79 = .ok (.iaload, 1) := by decide +kernel
theorem dX12_carry_80 : decode cX12_carry 80 = .ok (.iload 5, 2) := by decide +kernel
theorem dX12_carry_82 : decode cX12_carry 82 = .ok (.iload 6, 2) := by decide +kernel
theorem dX12_carry_84 : decode cX12_carry 84 = .ok (.iadd, 1) := by decide +kernel
theorem dX12_carry_85 : decode cX12_carry 85 = .ok (.iconst 1, 1) := by decide +kernel
theorem dX12_carry_86 : decode cX12_carry 86 = .ok (.isub, 1) := by decide +kernel
theorem dX12_carry_87 : decode cX12_carry 87 = .ok (.iload 6, 2) := by decide +kernel
theorem dX12_carry_89 : decode cX12_carry 89 = .ok (.idiv, 1) := by decide +kernel
theorem dX12_carry_90 : decode cX12_carry 90 = .ok (.invokevirtual 512, 3) := by decide +kernel
theorem dX12_carry_93 : decode cX12_carry 93 = .ok (.istore 7, 2) := by decide +kernel
theorem dX12_carry_95 : decode cX12_carry 95 = .ok (.aload_n 0, 1) := by decide +kernel
theorem dX12_carry_96 : decode cX12_carry 96 = .ok (.getfield 55, 3) := by decide +kernel
theorem dX12_carry_99 : decode cX12_carry 99 = .ok (.iload_n 2, 1) := by decide +kernel
theorem dX12_carry_100 : decode cX12_carry 100 = .ok (.aload_n 0, 1) := by decide +kernel
theorem dX12_carry_101 : decode cX12_carry 101 = .ok (.getfield 506, 3) := by decide +kernel
theorem dX12_carry_104 : decode cX12_carry 104 = .ok (.iastore, 1) := by decide +kernel
theorem dX12_carry_105 : decode cX12_carry 105 = .ok (.iload 7, 2) := by decide +kernel
theorem dX12_carry_107 : decode cX12_carry 107 = .ok (.iconst (-1), 1) := by decide +kernel
theorem dX12_carry_108 : decode cX12_carry 108 = .ok (.if_icmp .ne 5, 3) := by decide +kernel
theorem dX12_carry_111 : decode cX12_carry 111 = .ok (.iconst 0, 1) := by decide +kernel
theorem dX12_carry_112 : decode cX12_carry 112 = .ok (.ireturn, 1) := by decide +kernel
theorem dX12_carry_113 : decode cX12_carry 113 = .ok (.aload_n 0, 1) := by decide +kernel
theorem dX12_carry_114 : decode cX12_carry 114 = .ok (.getfield 7, 3) := by decide +kernel
theorem dX12_carry_117 : decode cX12_carry 117 = .ok (.aload_n 0, 1) := by decide +kernel
theorem dX12_carry_118 : decode cX12_carry 118 = .ok (.getfield 7, 3) := by decide +kernel
theorem dX12_carry_121 : decode cX12_carry 121 = .ok (.iload_n 3, 1) := by decide +kernel
theorem dX12_carry_122 : decode cX12_carry 122 = .ok (.iconst 1, 1) := by decide +kernel
theorem dX12_carry_123 : decode cX12_carry 123 = .ok (.iadd, 1) := by decide +kernel
theorem dX12_carry_124 : decode cX12_carry 124 = .ok (.iaload, 1) := by decide +kernel
theorem dX12_carry_125 : decode cX12_carry 125 = .ok (.invokestatic 115, 3) := by decide +kernel
theorem dX12_carry_128 : decode cX12_carry 128 = .ok (.iconst 2, 1) := by decide +kernel
theorem dX12_carry_129 : decode cX12_carry 129 = .ok (.iadd, 1) := by decide +kernel
theorem dX12_carry_130 : decode cX12_carry 130 = .ok (.iaload, 1) := by decide +kernel
theorem dX12_carry_131 : decode cX12_carry 131 = .ok (.istore 8, 2) := by decide +kernel
theorem dX12_carry_133 : decode cX12_carry 133 = .ok (.aload_n 0, 1) := by decide +kernel
theorem dX12_carry_134 : decode cX12_carry 134 = .ok (.aload_n 0, 1) := by decide +kernel
theorem dX12_carry_135 : decode cX12_carry 135 = .ok (.getfield 7, 3) := by decide +kernel
theorem dX12_carry_138 : decode cX12_carry 138 = .ok (.iload_n 3, 1) := by decide +kernel
theorem dX12_carry_139 : decode cX12_carry 139 = .ok (.iconst 1, 1) := by decide +kernel
theorem dX12_carry_140 : decode cX12_carry 140 = .ok (.iadd, 1) := by decide +kernel
theorem dX12_carry_141 : decode cX12_carry 141 = .ok (.iaload, 1) := by decide +kernel
theorem dX12_carry_142 : decode cX12_carry 142 = .ok (.aload_n 0, 1) := by decide +kernel
theorem dX12_carry_143 : decode cX12_carry 143 = .ok (.getfield 7, 3) := by decide +kernel
theorem dX12_carry_146 : decode cX12_carry 146 = .ok (.iload_n 3, 1) := by decide +kernel
theorem dX12_carry_147 : decode cX12_carry 147 = .ok (.iconst 4, 1) := by decide +kernel
theorem dX12_carry_148 : decode cX12_carry 148 = .ok (.iadd, 1) := by decide +kernel
theorem dX12_carry_149 : decode cX12_carry 149 = .ok (.iaload, 1) := by decide +kernel
theorem dX12_carry_150 : decode cX12_carry 150 = .ok (.aload_n 0, 1) := by decide +kernel
theorem dX12_carry_151 : decode cX12_carry 151 = .ok (.getfield 7, 3) := by decide +kernel
theorem dX12_carry_154 : decode cX12_carry 154 = .ok (.iload_n 3, 1) := by decide +kernel
theorem dX12_carry_155 : decode cX12_carry 155 = .ok (.iconst 5, 1) := by decide +kernel
theorem dX12_carry_156 : decode cX12_carry 156 = .ok (.iadd, 1) := by decide +kernel
theorem dX12_carry_157 : decode cX12_carry 157 = .ok (.iaload, 1) := by decide +kernel
theorem dX12_carry_158 : decode cX12_carry 158 = .ok (.iload 5, 2) := by decide +kernel
theorem dX12_carry_160 : decode cX12_carry 160 = .ok (.iload 8, 2) := by decide +kernel
theorem dX12_carry_162 : decode cX12_carry 162 = .ok (.iadd, 1) := by decide +kernel
theorem dX12_carry_163 : decode cX12_carry 163 = .ok (.iconst 1, 1) := by decide +kernel
theorem dX12_carry_164 : decode cX12_carry 164 = .ok (.isub, 1) := by decide +kernel
theorem dX12_carry_165 : decode cX12_carry 165 = .ok (.iload 8, 2) := by decide +kernel
theorem dX12_carry_167 : decode cX12_carry 167 = .ok (.idiv, 1) := by decide +kernel
theorem dX12_carry_168 : decode cX12_carry 168 = .ok (.invokevirtual 512, 3) := by decide +kernel
theorem dX12_carry_171 : decode cX12_carry 171 = .ok (.istore 9, 2) := by decide +kernel
theorem dX12_carry_173 : decode cX12_carry 173 = .ok (.aload_n 0, 1) := by decide +kernel
theorem dX12_carry_174 : decode cX12_carry 174 = .ok (.getfield 58, 3) := by decide +kernel
theorem dX12_carry_177 : decode cX12_carry 177 = .ok (.iload_n 2, 1) := by decide +kernel
theorem dX12_carry_178 : decode cX12_carry 178 = .ok (.aload_n 0, 1) := by decide +kernel
theorem dX12_carry_179 : decode cX12_carry 179 = .ok (.getfield 506, 3) := by decide +kernel
theorem dX12_carry_182 : decode cX12_carry 182 = .ok (.iastore, 1) := by decide +kernel
theorem dX12_carry_183 : decode cX12_carry 183 = .ok (.iload 9, 2) := by decide +kernel
theorem dX12_carry_185 : decode cX12_carry 185 = .ok (.iconst (-1), 1) := by decide +kernel
theorem dX12_carry_186 : decode cX12_carry 186 = .ok (.if_icmp .ne 5, 3) := by decide +kernel
theorem dX12_carry_189 : decode cX12_carry 189 = .ok (.iconst 0, 1) := by decide +kernel
theorem dX12_carry_190 : decode cX12_carry 190 = .ok (.ireturn, 1) := by decide +kernel
theorem dX12_carry_191 : decode cX12_carry 191 = .ok (.iload 5, 2) := by decide +kernel
theorem dX12_carry_193 : decode cX12_carry 193 = .ok (.i2l, 1) := by decide +kernel
theorem dX12_carry_194 : decode cX12_carry 194 = .ok (.aload_n 0, 1) := by decide +kernel
theorem dX12_carry_195 : decode cX12_carry 195 = .ok (.getfield 58, 3) := by decide +kernel
theorem dX12_carry_198 : decode cX12_carry 198 = .ok (.iload_n 2, 1) := by decide +kernel
theorem dX12_carry_199 : decode cX12_carry 199 = .ok (.iaload, 1) := by decide +kernel
theorem dX12_carry_200 : decode cX12_carry 200 = .ok (.aload_n 0, 1) := by decide +kernel
theorem dX12_carry_201 : decode cX12_carry 201 = .ok (.getfield 55, 3) := by decide +kernel
theorem dX12_carry_204 : decode cX12_carry 204 = .ok (.iload_n 2, 1) := by decide +kernel
theorem dX12_carry_205 : decode cX12_carry 205 = .ok (.iaload, 1) := by decide +kernel
theorem dX12_carry_206 : decode cX12_carry 206 = .ok (.isub, 1) := by decide +kernel
theorem dX12_carry_207 : decode cX12_carry 207 = .ok (.i2l, 1) := by decide +kernel
theorem dX12_carry_208 : decode cX12_carry 208 = .ok (.lmul, 1) := by decide +kernel
theorem dX12_carry_209 : decode cX12_carry 209 = .ok (.aload_n 0, 1) := by decide +kernel
theorem dX12_carry_210 : decode cX12_carry 210 = .ok (.getfield 7, 3) := by decide +kernel
theorem dX12_carry_213 : decode cX12_carry 213 = .ok (.bipush 12, 2) := by decide +kernel
theorem dX12_carry_215 : decode cX12_carry 215 = .ok (.iaload, 1) := by decide +kernel
theorem dX12_carry_216 : decode cX12_carry 216 = .ok (.i2l, 1) := by decide +kernel
theorem dX12_carry_217 : decode cX12_carry 217 = .ok (.lmul, 1) := by decide +kernel
theorem dX12_carry_218 : decode cX12_carry 218 = .ok (.ldc2_w 177, 3) := by decide +kernel
theorem dX12_carry_221 : decode cX12_carry 221 = .ok (.ldiv, 1) := by decide +kernel
theorem dX12_carry_222 : decode cX12_carry 222 = .ok (.lstore 10, 2) := by decide +kernel
theorem dX12_carry_224 : decode cX12_carry 224 = .ok (.lload 10, 2) := by decide +kernel
theorem dX12_carry_226 : decode cX12_carry 226 = .ok (.iload 5, 2) := by decide +kernel
theorem dX12_carry_228 : decode cX12_carry 228 = .ok (.i2l, 1) := by decide +kernel
theorem dX12_carry_229 : decode cX12_carry 229 = .ok (.lcmp, 1) := by decide +kernel
theorem dX12_carry_230 : decode cX12_carry 230 = .ok (.ifCond .le 9, 3) := by decide +kernel
theorem dX12_carry_233 : decode cX12_carry 233 = .ok (.iload 5, 2) := by decide +kernel
theorem dX12_carry_235 : decode cX12_carry 235 = .ok (.i2l, 1) := by decide +kernel
theorem dX12_carry_236 : decode cX12_carry 236 = .ok (.goto 5, 3) := by decide +kernel
theorem dX12_carry_239 : decode cX12_carry 239 = .ok (.lload 10, 2) := by decide +kernel
theorem dX12_carry_241 : decode cX12_carry 241 = .ok (.lstore 10, 2) := by decide +kernel
theorem dX12_carry_243 : decode cX12_carry 243 = .ok (.aload_n 0, 1) := by decide +kernel
theorem dX12_carry_244 : decode cX12_carry 244 = .ok (.getfield 61, 3) := by decide +kernel
theorem dX12_carry_247 : decode cX12_carry 247 = .ok (.iload_n 2, 1) := by decide +kernel
theorem dX12_carry_248 : decode cX12_carry 248 = .ok (.iload 5, 2) := by decide +kernel
theorem dX12_carry_250 : decode cX12_carry 250 = .ok (.i2l, 1) := by decide +kernel
theorem dX12_carry_251 : decode cX12_carry 251 = .ok (.lload 10, 2) := by decide +kernel
theorem dX12_carry_253 : decode cX12_carry 253 = .ok (.lsub, 1) := by decide +kernel
theorem dX12_carry_254 : decode cX12_carry 254 = .ok (.aload_n 0, 1) := by decide +kernel
theorem dX12_carry_255 : decode cX12_carry 255 = .ok (.getfield 7, 3) := by decide +kernel
theorem dX12_carry_258 : decode cX12_carry 258 = .ok (.iload_n 3, 1) := by decide +kernel
theorem dX12_carry_259 : decode cX12_carry 259 = .ok (.bipush 7, 2) := by decide +kernel
theorem dX12_carry_261 : decode cX12_carry 261 = .ok (.iadd, 1) := by decide +kernel
theorem dX12_carry_262 : decode cX12_carry 262 = .ok (.iaload, 1) := by decide +kernel
theorem dX12_carry_263 : decode cX12_carry 263 = .ok (.i2l, 1) := by decide +kernel
theorem dX12_carry_264 : decode cX12_carry 264 = .ok (.lmul, 1) := by decide +kernel
theorem dX12_carry_265 : decode cX12_carry 265 = .ok (.ldc2_w 150, 3) := by decide +kernel
theorem dX12_carry_268 : decode cX12_carry 268 = .ok (.aload_n 0, 1) := by decide +kernel
theorem dX12_carry_269 : decode cX12_carry 269 = .ok (.getfield 7, 3) := by decide +kernel
theorem dX12_carry_272 : decode cX12_carry 272 = .ok (.iload 4, 2) := by decide +kernel
theorem dX12_carry_274 : decode cX12_carry 274 = .ok (.bipush 8, 2) := by decide +kernel
theorem dX12_carry_276 : decode cX12_carry 276 = .ok (.iadd, 1) := by decide +kernel
theorem dX12_carry_277 : decode cX12_carry 277 = .ok (.iaload, 1) := by decide +kernel
theorem dX12_carry_278 : decode cX12_carry 278 = .ok (.i2l, 1) := by decide +kernel
theorem dX12_carry_279 : decode cX12_carry 279 = .ok (.lmul, 1) := by decide +kernel
theorem dX12_carry_280 : decode cX12_carry 280 = .ok (.iload 7, 2) := by decide +kernel
theorem dX12_carry_282 : decode cX12_carry 282 = .ok (.iload 9, 2) := by decide +kernel
theorem dX12_carry_284 : decode cX12_carry 284 = .ok (.iadd, 1) := by decide +kernel
theorem dX12_carry_285 : decode cX12_carry 285 = .ok (.i2l, 1) := by decide +kernel
theorem dX12_carry_286 : decode cX12_carry 286 = .ok (.lmul, 1) := by decide +kernel
theorem dX12_carry_287 : decode cX12_carry 287 = .ok (.lsub, 1) := by decide +kernel
theorem dX12_carry_288 : decode cX12_carry 288 = .ok (.lastore, 1) := by decide +kernel
theorem dX12_carry_289 : decode cX12_carry 289 = .ok (.iconst 1, 1) := by decide +kernel
theorem dX12_carry_290 : decode cX12_carry 290 = .ok (.ireturn, 1) := by decide +kernel
set_option maxRecDepth 20000 in
theorem ggX12_sailRow_X12_shipAt : GoodIn wsX12_sailRow wsX12_shipAt := goodIn_r _ [10] (by decide +kernel) (by decide +kernel)
set_option maxRecDepth 20000 in
theorem gX12_sailRow_X12_shipAt : GoodIn wsX12_sailRow (va_wsS RX12 132 yX12_shipAt wsX12_shipAt) := goodIn_app (goodIn_of _ (by decide +kernel)) ggX12_sailRow_X12_shipAt
set_option maxRecDepth 20000 in
theorem ggX12_sailRow_X12_carry : GoodIn wsX12_sailRow wsX12_carry := goodIn_r _ [14, 2, 15, 16, 17, 18, 6, 19, 7, 8, 9, 10, 20, 21, 22, 23, 24, 25, 26, 27, 28, 29, 30, 31, 3, 1, 32, 33, 34, 35, 36, 37, 38, 39, 40, 41, 42, 43, 44, 45, 46, 47, 48, 49, 50, 51, 52, 53, 54, 55, 56, 57, 58, 59, 60, 61, 62, 63, 64, 65, 66, 67, 68, 69, 70, 71, 72, 73, 74, 75, 76, 77, 78, 79, 80, 81, 82, 83, 84, 85, 86, 87, 88, 89, 90, 91, 92, 93, 94, 95, 96, 97, 98, 99] (by decide +kernel) (by decide +kernel)
set_option maxRecDepth 20000 in
theorem gX12_sailRow_X12_carry : GoodIn wsX12_sailRow (wsV RX12 516 RX12 yX12_carry wsX12_carry) := goodIn_app (goodIn_of _ (by decide +kernel)) ggX12_sailRow_X12_carry
theorem dX12_sailRow_0 : decode cX12_sailRow 0 = .ok (.aload_n 0, 1) := by decide +kernel
theorem dX12_sailRow_1 : decode cX12_sailRow 1 = .ok (.iload_n 3, 1) := by decide +kernel
theorem dX12_sailRow_2 : decode cX12_sailRow 2 = .ok (.putfield 500, 3) := by decide +kernel
theorem dX12_sailRow_5 : decode cX12_sailRow 5 = .ok (.aload_n 0, 1) := by decide +kernel
theorem dX12_sailRow_6 : decode cX12_sailRow 6 = .ok (.aload_n 0, 1) := by decide +kernel
theorem dX12_sailRow_7 : decode cX12_sailRow 7 = .ok (.getfield 7, 3) := by decide +kernel
theorem dX12_sailRow_10 : decode cX12_sailRow 10 = .ok (.iload_n 1, 1) := by decide +kernel
theorem dX12_sailRow_11 : decode cX12_sailRow 11 = .ok (.invokestatic 132, 3) := by decide +kernel
theorem dX12_sailRow_14 : decode cX12_sailRow 14 = .ok (.iconst 0, 1) := by decide +kernel
theorem dX12_sailRow_15 : decode cX12_sailRow 15 = .ok (.iadd, 1) := by decide +kernel
theorem dX12_sailRow_16 : decode cX12_sailRow 16 = .ok (.iaload, 1) := by decide +kernel
theorem dX12_sailRow_17 : decode cX12_sailRow 17 = .ok (.putfield 503, 3) := by decide +kernel
theorem dX12_sailRow_20 : decode cX12_sailRow 20 = .ok (.lconst 0, 1) := by decide +kernel
theorem dX12_sailRow_21 : decode cX12_sailRow 21 = .ok (.lstore 4, 2) := by decide +kernel
theorem dX12_sailRow_23 : decode cX12_sailRow 23 = .ok (.iconst 0, 1) := by decide +kernel
theorem dX12_sailRow_24 : decode cX12_sailRow 24 = .ok (.istore 6, 2) := by decide +kernel
theorem dX12_sailRow_26 : decode cX12_sailRow 26 = .ok (.iload 6, 2) := by decide +kernel
theorem dX12_sailRow_28 : decode cX12_sailRow 28 = .ok (.iload_n 2, 1) := by decide +kernel
theorem dX12_sailRow_29 : decode cX12_sailRow 29 = .ok (.if_icmp .ge 45, 3) := by decide +kernel
theorem dX12_sailRow_32 : decode cX12_sailRow 32 = .ok (.aload_n 0, 1) := by decide +kernel
theorem dX12_sailRow_33 : decode cX12_sailRow 33 = .ok (.iload_n 1, 1) := by decide +kernel
theorem dX12_sailRow_34 : decode cX12_sailRow 34 = .ok (.aload_n 0, 1) := by decide +kernel
theorem dX12_sailRow_35 : decode cX12_sailRow 35 = .ok (.getfield 64, 3) := by decide +kernel
theorem dX12_sailRow_38 : decode cX12_sailRow 38 = .ok (.iload 6, 2) := by decide +kernel
theorem dX12_sailRow_40 : decode cX12_sailRow 40 = .ok (.iaload, 1) := by decide +kernel
theorem dX12_sailRow_41 : decode cX12_sailRow 41 = .ok (.invokevirtual 516, 3) := by decide +kernel
theorem dX12_sailRow_44 : decode cX12_sailRow 44 = .ok (.ifCond .ne 7, 3) := by decide +kernel
theorem dX12_sailRow_47 : decode cX12_sailRow 47 = .ok (.ldc2_w 466, 3) := by decide +kernel
theorem dX12_sailRow_50 : decode cX12_sailRow 50 = .ok (.lreturn, 1) := by decide +kernel
theorem dX12_sailRow_51 : decode cX12_sailRow 51 = .ok (.lload 4, 2) := by decide +kernel
theorem dX12_sailRow_53 : decode cX12_sailRow 53 = .ok (.aload_n 0, 1) := by decide +kernel
theorem dX12_sailRow_54 : decode cX12_sailRow 54 = .ok (.getfield 61, 3) := by decide +kernel
theorem dX12_sailRow_57 : decode cX12_sailRow 57 = .ok (.aload_n 0, 1) := by decide +kernel
theorem dX12_sailRow_58 : decode cX12_sailRow 58 = .ok (.getfield 64, 3) := by decide +kernel
theorem dX12_sailRow_61 : decode cX12_sailRow 61 = .ok (.iload 6, 2) := by decide +kernel
theorem dX12_sailRow_63 : decode cX12_sailRow 63 = .ok (.iaload, 1) := by decide +kernel
theorem dX12_sailRow_64 : decode cX12_sailRow 64 = .ok (.laload, 1) := by decide +kernel
theorem dX12_sailRow_65 : decode cX12_sailRow 65 = .ok (.ladd, 1) := by decide +kernel
theorem dX12_sailRow_66 : decode cX12_sailRow 66 = .ok (.lstore 4, 2) := by decide +kernel
theorem dX12_sailRow_68 : decode cX12_sailRow 68 = .ok (.iinc 6 1, 3) := by decide +kernel
theorem dX12_sailRow_71 : decode cX12_sailRow 71 = .ok (.goto (-45), 3) := by decide +kernel
theorem dX12_sailRow_74 : decode cX12_sailRow 74 = .ok (.lload 4, 2) := by decide +kernel
theorem dX12_sailRow_76 : decode cX12_sailRow 76 = .ok (.lreturn, 1) := by decide +kernel
