abbrev cX12_judge : ByteArray := prog_14_method_111_code
def yX12_judge : MethodName := ⟨RX12, "judge", "(IIIII)J"⟩
abbrev cX12_share : ByteArray := prog_14_method_116_code
def yX12_share : MethodName := ⟨RX12, "share", "(III)I"⟩
def wsX12_judge_r1 : List Cond := [Cond.fieldLink RX12 91 "ColdShipsModel" "thrown" "I", Cond.constantLong RX12 466 (-2000000000000000), Cond.fieldLink RX12 64 "ColdShipsModel" "line" "[I", Cond.fieldLink RX12 7 "ColdShipsModel" "row" "[I", Cond.methodLink RX12 147 yX12_isShip, Cond.instanceMethod yX12_isShip, Cond.selects RX12 yX12_isShip yX12_isShip, Cond.initialized RX12, Cond.code yX12_isShip cX12_isShip 2 (some .boolean), Cond.methodLink RX12 99 yX12_in, Cond.static yX12_in, Cond.code yX12_in cX12_in 6 (some .boolean), Cond.methodLink RX12 144 yX12_isHour, Cond.static yX12_isHour, Cond.code yX12_isHour cX12_isHour 1 (some .boolean), Cond.constantLong RX12 97 (2399), Cond.methodLink RX12 519 yX12_sailRow, Cond.instanceMethod yX12_sailRow, Cond.selects RX12 yX12_sailRow yX12_sailRow, Cond.code yX12_sailRow cX12_sailRow 7 (some .long), Cond.fieldLink RX12 500 "ColdShipsModel" "clock" "I", Cond.fieldLink RX12 503 "ColdShipsModel" "place" "I", Cond.fieldLink RX12 61 "ColdShipsModel" "worths" "[J", Cond.methodLink RX12 132 yX12_shipAt]
def wsX12_judge_r2 : List Cond := [Cond.static yX12_shipAt, Cond.code yX12_shipAt cX12_shipAt 1 (some .int), Cond.methodLink RX12 516 yX12_carry, Cond.instanceMethod yX12_carry, Cond.selects RX12 yX12_carry yX12_carry, Cond.code yX12_carry cX12_carry 12 (some .boolean), Cond.fieldLink RX12 55 "ColdShipsModel" "loads" "[I", Cond.fieldLink RX12 506 "ColdShipsModel" "began" "I", Cond.fieldLink RX12 58 "ColdShipsModel" "lands" "[I", Cond.constantLong RX12 177 (100000), Cond.constantLong RX12 150 (100), Cond.methodLink RX12 231 yX12_topOf, Cond.instanceMethod yX12_topOf, Cond.selects RX12 yX12_topOf yX12_topOf, Cond.code yX12_topOf cX12_topOf 2 (some .int), Cond.constantLong RX12 160 (98), Cond.methodLink RX12 115 yX12_terminalAt, Cond.static yX12_terminalAt, Cond.code yX12_terminalAt cX12_terminalAt 1 (some .int), Cond.methodLink RX12 512 yX12_goTo, Cond.instanceMethod yX12_goTo, Cond.selects RX12 yX12_goTo yX12_goTo, Cond.code yX12_goTo cX12_goTo 6 (some .int), Cond.methodLink RX12 217 yX12_wayOf]
def wsX12_judge_r3 : List Cond := [Cond.instanceMethod yX12_wayOf, Cond.selects RX12 yX12_wayOf yX12_wayOf, Cond.code yX12_wayOf cX12_wayOf 3 (some .int), Cond.methodLink RX12 509 yX12_work, Cond.instanceMethod yX12_work, Cond.selects RX12 yX12_work yX12_work, Cond.code yX12_work cX12_work 4 (some .boolean), Cond.methodLink RX12 221 yX12_isBroken, Cond.instanceMethod yX12_isBroken, Cond.selects RX12 yX12_isBroken yX12_isBroken, Cond.code yX12_isBroken cX12_isBroken 6 (some .boolean)]
def wsX12_judge : List Cond := .code yX12_judge cX12_judge 9 (some .long) :: ((wsX12_judge_r1 ++ (wsX12_judge_r2 ++ wsX12_judge_r3)) ++ wsX120)
def wsX12_share : List Cond := .code yX12_share cX12_share 7 (some .int) :: ([.fieldLink RX12 88 "ColdShipsModel" "sets" "[I", .fieldLink RX12 85 "ColdShipsModel" "chosen" "[I"] ++ wsX120)
set_option maxRecDepth 20000 in
theorem ggX12_judge_X12_isShip : GoodIn wsX12_judge wsX12_isShip := goodIn_r _ [9, 4, 10, 11, 8, 12, 60, 61, 62, 63, 64, 65, 66, 67, 68, 69, 70, 71, 72, 73, 74, 75, 76, 77, 78, 79, 80, 81, 82, 83, 84, 85, 86, 87, 88, 89, 90, 91, 92, 93, 94, 95, 96, 97, 98, 99, 100, 101, 102, 103, 104, 105, 106, 107, 108, 109, 110, 111, 112] (by decide +kernel) (by decide +kernel)
set_option maxRecDepth 20000 in
theorem gX12_judge_X12_isShip : GoodIn wsX12_judge (wsV RX12 147 RX12 yX12_isShip wsX12_isShip) := goodIn_app (goodIn_of _ (by decide +kernel)) ggX12_judge_X12_isShip
set_option maxRecDepth 20000 in
theorem ggX12_judge_X12_isHour : GoodIn wsX12_judge wsX12_isHour := goodIn_r _ [15, 16, 10, 11, 8, 12] (by decide +kernel) (by decide +kernel)
set_option maxRecDepth 20000 in
theorem gX12_judge_X12_isHour : GoodIn wsX12_judge (va_wsS RX12 144 yX12_isHour wsX12_isHour) := goodIn_app (goodIn_of _ (by decide +kernel)) ggX12_judge_X12_isHour
set_option maxRecDepth 20000 in
theorem ggX12_judge_X12_in : GoodIn wsX12_judge wsX12_in := goodIn_r _ [12] (by decide +kernel) (by decide +kernel)
set_option maxRecDepth 20000 in
theorem gX12_judge_X12_in : GoodIn wsX12_judge (va_wsS RX12 99 yX12_in wsX12_in) := goodIn_app (goodIn_of _ (by decide +kernel)) ggX12_judge_X12_in
set_option maxRecDepth 20000 in
theorem ggX12_judge_X12_sailRow : GoodIn wsX12_judge wsX12_sailRow := goodIn_r _ [20, 21, 4, 22, 3, 2, 23, 24, 25, 8, 26, 27, 28, 29, 30, 31, 32, 33, 34, 35, 36, 37, 38, 39, 40, 41, 42, 43, 44, 45, 46, 47, 48, 49, 50, 51, 52, 53, 54, 55, 56, 57, 58, 59, 10, 11, 12, 60, 61, 62, 63, 64, 65, 66, 67, 68, 69, 70, 71, 72, 73, 74, 75, 76, 77, 78, 79, 80, 81, 82, 83, 84, 85, 86, 87, 88, 89, 90, 91, 92, 93, 94, 95, 96, 97, 98, 99, 100, 101, 102, 103, 104, 105, 106, 107, 108, 109, 110, 111, 112] (by decide +kernel) (by decide +kernel)
set_option maxRecDepth 20000 in
theorem gX12_judge_X12_sailRow : GoodIn wsX12_judge (wsV RX12 519 RX12 yX12_sailRow wsX12_sailRow) := goodIn_app (goodIn_of _ (by decide +kernel)) ggX12_judge_X12_sailRow
theorem dX12_judge_0 : decode cX12_judge 0 = .ok (.aload_n 0, 1) := by decide +kernel
theorem dX12_judge_1 : decode cX12_judge 1 = .ok (.iconst 0, 1) := by decide +kernel
theorem dX12_judge_2 : decode cX12_judge 2 = .ok (.putfield 91, 3) := by decide +kernel
theorem dX12_judge_5 : decode cX12_judge 5 = .ok (.aload_n 0, 1) := by decide +kernel
theorem dX12_judge_6 : decode cX12_judge 6 = .ok (.iload_n 1, 1) := by decide +kernel
theorem dX12_judge_7 : decode cX12_judge 7 = .ok (.invokevirtual 147, 3) := by decide +kernel
theorem dX12_judge_10 : decode cX12_judge 10 = .ok (.ifCond .eq 11, 3) := by decide +kernel
theorem dX12_judge_13 : decode cX12_judge 13 = .ok (.iload 5, 2) := by decide +kernel
theorem dX12_judge_15 : decode cX12_judge 15 = .ok (.invokestatic 144, 3) := by decide +kernel
theorem dX12_judge_18 : decode cX12_judge 18 = .ok (.ifCond .ne 7, 3) := by decide +kernel
theorem dX12_judge_21 : decode cX12_judge 21 = .ok (.ldc2_w 466, 3) := by decide +kernel
theorem dX12_judge_24 : decode cX12_judge 24 = .ok (.lreturn, 1) := by decide +kernel
theorem dX12_judge_25 : decode cX12_judge 25 = .ok (.aload_n 0, 1) := by decide +kernel
theorem dX12_judge_26 : decode cX12_judge 26 = .ok (.getfield 64, 3) := by decide +kernel
theorem dX12_judge_29 : decode cX12_judge 29 = .ok (.iconst 0, 1) := by decide +kernel
theorem dX12_judge_30 : decode cX12_judge 30 = .ok (.iload_n 2, 1) := by decide +kernel
theorem dX12_judge_31 : decode cX12_judge 31 = .ok (.iastore, 1) := by decide +kernel
theorem dX12_judge_32 : decode cX12_judge 32 = .ok (.aload_n 0, 1) := by decide +kernel
theorem dX12_judge_33 : decode cX12_judge 33 = .ok (.getfield 64, 3) := by decide +kernel
theorem dX12_judge_36 : decode cX12_judge 36 = .ok (.iconst 1, 1) := by decide +kernel
theorem dX12_judge_37 : decode cX12_judge 37 = .ok (.iload_n 3, 1) := by decide +kernel
theorem dX12_judge_38 : decode cX12_judge 38 = .ok (.iastore, 1) := by decide +kernel
theorem dX12_judge_39 : decode cX12_judge 39 = .ok (.aload_n 0, 1) := by decide +kernel
theorem dX12_judge_40 : decode cX12_judge 40 = .ok (.getfield 64, 3) := by decide +kernel
theorem dX12_judge_43 : decode cX12_judge 43 = .ok (.iconst 2, 1) := by decide +kernel
theorem dX12_judge_44 : decode cX12_judge 44 = .ok (.iload 4, 2) := by decide +kernel
theorem dX12_judge_46 : decode cX12_judge 46 = .ok (.iastore, 1) := by decide +kernel
theorem dX12_judge_47 : decode cX12_judge 47 = .ok (.iload_n 2, 1) := by decide +kernel
theorem dX12_judge_48 : decode cX12_judge 48 = .ok (.iconst (-1), 1) := by decide +kernel
theorem dX12_judge_49 : decode cX12_judge 49 = .ok (.if_icmp .ne 7, 3) := by decide +kernel
theorem dX12_judge_52 : decode cX12_judge 52 = .ok (.iconst 0, 1) := by decide +kernel
theorem dX12_judge_53 : decode cX12_judge 53 = .ok (.goto 23, 3) := by decide +kernel
theorem dX12_judge_56 : decode cX12_judge 56 = .ok (.iload_n 3, 1) := by decide +kernel
theorem dX12_judge_57 : decode cX12_judge 57 = .ok (.iconst (-1), 1) := by decide +kernel
theorem dX12_judge_58 : decode cX12_judge 58 = .ok (.if_icmp .ne 7, 3) := by decide +kernel
theorem dX12_judge_61 : decode cX12_judge 61 = .ok (.iconst 1, 1) := by decide +kernel
theorem dX12_judge_62 : decode cX12_judge 62 = .ok (.goto 14, 3) := by decide +kernel
theorem dX12_judge_65 : decode cX12_judge 65 = .ok (.iload 4, 2) := by decide +kernel
theorem dX12_judge_67 : decode cX12_judge 67 = .ok (.iconst (-1), 1) := by decide +kernel
theorem dX12_judge_68 : decode cX12_judge 68 = .ok (.if_icmp .ne 7, 3) := by decide +kernel
theorem dX12_judge_71 : decode cX12_judge 71 = .ok (.iconst 2, 1) := by decide +kernel
theorem dX12_judge_72 : decode cX12_judge 72 = .ok (.goto 4, 3) := by decide +kernel
theorem dX12_judge_75 : decode cX12_judge 75 = .ok (.iconst 3, 1) := by decide +kernel
theorem dX12_judge_76 : decode cX12_judge 76 = .ok (.istore 6, 2) := by decide +kernel
theorem dX12_judge_78 : decode cX12_judge 78 = .ok (.iconst 0, 1) := by decide +kernel
theorem dX12_judge_79 : decode cX12_judge 79 = .ok (.istore 7, 2) := by decide +kernel
theorem dX12_judge_81 : decode cX12_judge 81 = .ok (.iload 7, 2) := by decide +kernel
theorem dX12_judge_83 : decode cX12_judge 83 = .ok (.iload 6, 2) := by decide +kernel
theorem dX12_judge_85 : decode cX12_judge 85 = .ok (.if_icmp .ge 75, 3) := by decide +kernel
theorem dX12_judge_88 : decode cX12_judge 88 = .ok (.iconst 0, 1) := by decide +kernel
theorem dX12_judge_89 : decode cX12_judge 89 = .ok (.istore 8, 2) := by decide +kernel
theorem dX12_judge_91 : decode cX12_judge 91 = .ok (.iload 8, 2) := by decide +kernel
theorem dX12_judge_93 : decode cX12_judge 93 = .ok (.iload 7, 2) := by decide +kernel
theorem dX12_judge_95 : decode cX12_judge 95 = .ok (.if_icmp .ge 30, 3) := by decide +kernel
theorem dX12_judge_98 : decode cX12_judge 98 = .ok (.aload_n 0, 1) := by decide +kernel
theorem dX12_judge_99 : decode cX12_judge 99 = .ok (.getfield 64, 3) := by decide +kernel
theorem dX12_judge_102 : decode cX12_judge 102 = .ok (.iload 7, 2) := by decide +kernel
theorem dX12_judge_104 : decode cX12_judge 104 = .ok (.iaload, 1) := by decide +kernel
theorem dX12_judge_105 : decode cX12_judge 105 = .ok (.aload_n 0, 1) := by decide +kernel
theorem dX12_judge_106 : decode cX12_judge 106 = .ok (.getfield 64, 3) := by decide +kernel
theorem dX12_judge_109 : decode cX12_judge 109 = .ok (.iload 8, 2) := by decide +kernel
theorem dX12_judge_111 : decode cX12_judge 111 = .ok (.iaload, 1) := by decide +kernel
theorem dX12_judge_112 : decode cX12_judge 112 = .ok (.if_icmp .ne 7, 3) := by decide +kernel
theorem dX12_judge_115 : decode cX12_judge 115 = .ok (.ldc2_w 466, 3) := by decide +kernel
theorem dX12_judge_118 : decode cX12_judge 118 = .ok (.lreturn, 1) := by decide +kernel
theorem dX12_judge_119 : decode cX12_judge 119 = .ok (.iinc 8 1, 3) := by decide +kernel
theorem dX12_judge_122 : decode cX12_judge 122 = .ok (.goto (-31), 3) := by decide +kernel
theorem dX12_judge_125 : decode cX12_judge 125 = .ok (.aload_n 0, 1) := by decide +kernel
theorem dX12_judge_126 : decode cX12_judge 126 = .ok (.getfield 64, 3) := by decide +kernel
theorem dX12_judge_129 : decode cX12_judge 129 = .ok (.iload 7, 2) := by decide +kernel
theorem dX12_judge_131 : decode cX12_judge 131 = .ok (.iaload, 1) := by decide +kernel
theorem dX12_judge_132 : decode cX12_judge 132 = .ok (.i2l, 1) := by decide +kernel
theorem dX12_judge_133 : decode cX12_judge 133 = .ok (.lconst 0, 1) := by decide +kernel
theorem dX12_judge_134 : decode cX12_judge 134 = .ok (.aload_n 0, 1) := by decide +kernel
theorem dX12_judge_135 : decode cX12_judge 135 = .ok (.getfield 7, 3) := by decide +kernel
theorem dX12_judge_138 : decode cX12_judge 138 = .ok (.bipush 10, 2) := by decide +kernel
theorem dX12_judge_140 : decode cX12_judge 140 = .ok (.iaload, 1) := by decide +kernel
theorem dX12_judge_141 : decode cX12_judge 141 = .ok (.i2l, 1) := by decide +kernel
theorem dX12_judge_142 : decode cX12_judge 142 = .ok (.lconst 1, 1) := by decide +kernel
theorem dX12_judge_143 : decode cX12_judge 143 = .ok (.lsub, 1) := by decide +kernel
theorem dX12_judge_144 : decode cX12_judge 144 = .ok (.invokestatic 99, 3) := by decide +kernel
theorem dX12_judge_147 : decode cX12_judge 147 = .ok (.ifCond .ne 7, 3) := by decide +kernel
theorem dX12_judge_150 : decode cX12_judge 150 = .ok (.ldc2_w 466, 3) := by decide +kernel
theorem dX12_judge_153 : decode cX12_judge 153 = .ok (.lreturn, 1) := by decide +kernel
theorem dX12_judge_154 : decode cX12_judge 154 = .ok (.iinc 7 1, 3) := by decide +kernel
theorem dX12_judge_157 : decode cX12_judge 157 = .ok (.goto (-76), 3) := by decide +kernel
theorem dX12_judge_160 : decode cX12_judge 160 = .ok (.aload_n 0, 1) := by decide +kernel
theorem dX12_judge_161 : decode cX12_judge 161 = .ok (.iload_n 1, 1) := by decide +kernel
theorem dX12_judge_162 : decode cX12_judge 162 = .ok (.iload 6, 2) := by decide +kernel
theorem dX12_judge_164 : decode cX12_judge 164 = .ok (.iload 5, 2) := by decide +kernel
theorem dX12_judge_166 : decode cX12_judge 166 = .ok (.invokevirtual 519, 3) := by decide +kernel
theorem dX12_judge_169 : decode cX12_judge 169 = .ok (.lreturn, 1) := by decide +kernel
theorem dX12_share_0 : decode cX12_share 0 = .ok (.iconst 0, 1) := by decide +kernel
theorem dX12_share_1 : decode cX12_share 1 = .ok (.istore 4, 2) := by decide +kernel
theorem dX12_share_3 : decode cX12_share 3 = .ok (.iload 4, 2) := by decide +kernel
theorem dX12_share_5 : decode cX12_share 5 = .ok (.iconst 3, 1) := by decide +kernel
theorem dX12_share_6 : decode cX12_share 6 = .ok (.if_icmp .ge 17, 3) := by decide +kernel
theorem dX12_share_9 : decode cX12_share 9 = .ok (.aload_n 0, 1) := by decide +kernel
theorem dX12_share_10 : decode cX12_share 10 = .ok (.getfield 88, 3) := by decide +kernel
theorem dX12_share_13 : decode cX12_share 13 = .ok (.iload 4, 2) := by decide +kernel
theorem dX12_share_15 : decode cX12_share 15 = .ok (.iconst 0, 1) := by decide +kernel
theorem dX12_share_16 : decode cX12_share 16 = .ok (.iastore, 1) := by decide +kernel
theorem dX12_share_17 : decode cX12_share 17 = .ok (.iinc 4 1, 3) := by decide +kernel
theorem dX12_share_20 : decode cX12_share 20 = .ok (.goto (-17), 3) := by decide +kernel
theorem dX12_share_23 : decode cX12_share 23 = .ok (.iload_n 1, 1) := by decide +kernel
theorem dX12_share_24 : decode cX12_share 24 = .ok (.istore 4, 2) := by decide +kernel
theorem dX12_share_26 : decode cX12_share 26 = .ok (.iconst 0, 1) := by decide +kernel
theorem dX12_share_27 : decode cX12_share 27 = .ok (.istore 5, 2) := by decide +kernel
theorem dX12_share_29 : decode cX12_share 29 = .ok (.iload_n 2, 1) := by decide +kernel
theorem dX12_share_30 : decode cX12_share 30 = .ok (.iconst 1, 1) := by decide +kernel
theorem dX12_share_31 : decode cX12_share 31 = .ok (.isub, 1) := by decide +kernel
theorem dX12_share_32 : decode cX12_share 32 = .ok (.istore 6, 2) := by decide +kernel
theorem dX12_share_34 : decode cX12_share 34 = .ok (.iload 6, 2) := by decide +kernel
theorem dX12_share_36 : decode cX12_share 36 = .ok (.ifCond .lt 74, 3) := by decide +kernel
theorem dX12_share_39 : decode cX12_share 39 = .ok (.aload_n 0, 1) := by decide +kernel
theorem dX12_share_40 : decode cX12_share 40 = .ok (.getfield 85, 3) := by decide +kernel
theorem dX12_share_43 : decode cX12_share 43 = .ok (.iload 6, 2) := by decide +kernel
theorem dX12_share_45 : decode cX12_share 45 = .ok (.iload 4, 2) := by decide +kernel
theorem dX12_share_47 : decode cX12_share 47 = .ok (.iload_n 3, 1) := by decide +kernel
theorem dX12_share_48 : decode cX12_share 48 = .ok (.iconst 1, 1) := by decide +kernel
theorem dX12_share_49 : decode cX12_share 49 = .ok (.iadd, 1) := by decide +kernel
theorem dX12_share_50 : decode cX12_share 50 = .ok (.irem, 1) := by decide +kernel
theorem dX12_share_51 : decode cX12_share 51 = .ok (.iastore, 1) := by decide +kernel
theorem dX12_share_52 : decode cX12_share 52 = .ok (.iload 4, 2) := by decide +kernel
theorem dX12_share_54 : decode cX12_share 54 = .ok (.iload_n 3, 1) := by decide +kernel
theorem dX12_share_55 : decode cX12_share 55 = .ok (.iconst 1, 1) := by decide +kernel
theorem dX12_share_56 : decode cX12_share 56 = .ok (.iadd, 1) := by decide +kernel
theorem dX12_share_57 : decode cX12_share 57 = .ok (.idiv, 1) := by decide +kernel
theorem dX12_share_58 : decode cX12_share 58 = .ok (.istore 4, 2) := by decide +kernel
theorem dX12_share_60 : decode cX12_share 60 = .ok (.aload_n 0, 1) := by decide +kernel
theorem dX12_share_61 : decode cX12_share 61 = .ok (.getfield 85, 3) := by decide +kernel
theorem dX12_share_64 : decode cX12_share 64 = .ok (.iload 6, 2) := by decide +kernel
theorem dX12_share_66 : decode cX12_share 66 = .ok (.iaload, 1) := by decide +kernel
theorem dX12_share_67 : decode cX12_share 67 = .ok (.iload_n 3, 1) := by decide +kernel
theorem dX12_share_68 : decode cX12_share 68 = .ok (.if_icmp .ge 28, 3) := by decide +kernel
theorem dX12_share_71 : decode cX12_share 71 = .ok (.aload_n 0, 1) := by decide +kernel
theorem dX12_share_72 : decode cX12_share 72 = .ok (.getfield 88, 3) := by decide +kernel
theorem dX12_share_75 : decode cX12_share 75 = .ok (.aload_n 0, 1) := by decide +kernel
theorem dX12_share_76 : decode cX12_share 76 = .ok (.getfield 85, 3) := by decide +kernel
theorem dX12_share_79 : decode cX12_share 79 = .ok (.iload 6, 2) := by decide +kernel
theorem dX12_share_81 : decode cX12_share 81 = .ok (.iaload, 1) := by decide +kernel
theorem dX12_share_82 : decode cX12_share 82 = .ok (.dup2, 1) := by decide +kernel
theorem dX12_share_83 : decode cX12_share 83 = .ok (.iaload, 1) := by decide +kernel
theorem dX12_share_84 : decode cX12_share 84 = .ok (.iconst 1, 1) := by decide +kernel
theorem dX12_share_85 : decode cX12_share 85 = .ok (.iload 6, 2) := by decide +kernel
theorem dX12_share_87 : decode cX12_share 87 = .ok (.ishl, 1) := by decide +kernel
theorem dX12_share_88 : decode cX12_share 88 = .ok (.ior, 1) := by decide +kernel
theorem dX12_share_89 : decode cX12_share 89 = .ok (.iastore, 1) := by decide +kernel
theorem dX12_share_90 : decode cX12_share 90 = .ok (.iinc 5 1, 3) := by decide +kernel
theorem dX12_share_93 : decode cX12_share 93 = .ok (.goto 11, 3) := by decide +kernel
theorem dX12_share_96 : decode cX12_share 96 = .ok (.aload_n 0, 1) := by decide +kernel
theorem dX12_share_97 : decode cX12_share 97 = .ok (.getfield 85, 3) := by decide +kernel
theorem dX12_share_100 : decode cX12_share 100 = .ok (.iload 6, 2) := by decide +kernel
theorem dX12_share_102 : decode cX12_share 102 = .ok (.iconst (-1), 1) := by decide +kernel
theorem dX12_share_103 : decode cX12_share 103 = .ok (.iastore, 1) := by decide +kernel
theorem dX12_share_104 : decode cX12_share 104 = .ok (.iinc 6 (-1), 3) := by decide +kernel
theorem dX12_share_107 : decode cX12_share 107 = .ok (.goto (-73), 3) := by decide +kernel
theorem dX12_share_110 : decode cX12_share 110 = .ok (.iload 5, 2) := by decide +kernel
theorem dX12_share_112 : decode cX12_share 112 = .ok (.ireturn, 1) := by decide +kernel
