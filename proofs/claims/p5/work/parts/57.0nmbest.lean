abbrev cX12_best : ByteArray := prog_14_method_115_code
def yX12_best : MethodName := ⟨RX12, "best", "(I)J"⟩
def wsX12_best_r1 : List Cond := [Cond.fieldLink RX12 91 "ColdShipsModel" "thrown" "I", Cond.constantLong RX12 158 (-1), Cond.fieldLink RX12 7 "ColdShipsModel" "row" "[I", Cond.constantLong RX12 466 (-2000000000000000), Cond.fieldLink RX12 67 "ColdShipsModel" "bestOf" "[J", Cond.fieldLink RX12 88 "ColdShipsModel" "sets" "[I", Cond.fieldLink RX12 79 "ColdShipsModel" "bestShip" "[I", Cond.fieldLink RX12 85 "ColdShipsModel" "chosen" "[I", Cond.methodLink RX12 144 yX12_isHour, Cond.static yX12_isHour, Cond.initialized RX12, Cond.code yX12_isHour cX12_isHour 1 (some .boolean), Cond.constantLong RX12 97 (2399), Cond.methodLink RX12 99 yX12_in, Cond.static yX12_in, Cond.code yX12_in cX12_in 6 (some .boolean), Cond.methodLink RX12 228 yX12_lesser, Cond.static yX12_lesser, Cond.code yX12_lesser cX12_lesser 2 (some .int), Cond.methodLink RX12 528 yX12_findSet, Cond.instanceMethod yX12_findSet, Cond.selects RX12 yX12_findSet yX12_findSet, Cond.code yX12_findSet cX12_findSet 12 none, Cond.fieldLink RX12 73 "ColdShipsModel" "members" "[I"]
def wsX12_best_r2 : List Cond := [Cond.fieldLink RX12 76 "ColdShipsModel" "places" "[I", Cond.fieldLink RX12 64 "ColdShipsModel" "line" "[I", Cond.fieldLink RX12 70 "ColdShipsModel" "placesOf" "[I", Cond.methodLink RX12 519 yX12_sailRow, Cond.instanceMethod yX12_sailRow, Cond.selects RX12 yX12_sailRow yX12_sailRow, Cond.code yX12_sailRow cX12_sailRow 7 (some .long), Cond.fieldLink RX12 500 "ColdShipsModel" "clock" "I", Cond.fieldLink RX12 503 "ColdShipsModel" "place" "I", Cond.fieldLink RX12 61 "ColdShipsModel" "worths" "[J", Cond.methodLink RX12 132 yX12_shipAt, Cond.static yX12_shipAt, Cond.code yX12_shipAt cX12_shipAt 1 (some .int), Cond.methodLink RX12 516 yX12_carry, Cond.instanceMethod yX12_carry, Cond.selects RX12 yX12_carry yX12_carry, Cond.code yX12_carry cX12_carry 12 (some .boolean), Cond.fieldLink RX12 55 "ColdShipsModel" "loads" "[I", Cond.fieldLink RX12 506 "ColdShipsModel" "began" "I", Cond.fieldLink RX12 58 "ColdShipsModel" "lands" "[I", Cond.constantLong RX12 177 (100000), Cond.constantLong RX12 150 (100), Cond.methodLink RX12 231 yX12_topOf, Cond.instanceMethod yX12_topOf]
def wsX12_best_r3 : List Cond := [Cond.selects RX12 yX12_topOf yX12_topOf, Cond.code yX12_topOf cX12_topOf 2 (some .int), Cond.constantLong RX12 160 (98), Cond.methodLink RX12 115 yX12_terminalAt, Cond.static yX12_terminalAt, Cond.code yX12_terminalAt cX12_terminalAt 1 (some .int), Cond.methodLink RX12 512 yX12_goTo, Cond.instanceMethod yX12_goTo, Cond.selects RX12 yX12_goTo yX12_goTo, Cond.code yX12_goTo cX12_goTo 6 (some .int), Cond.methodLink RX12 217 yX12_wayOf, Cond.instanceMethod yX12_wayOf, Cond.selects RX12 yX12_wayOf yX12_wayOf, Cond.code yX12_wayOf cX12_wayOf 3 (some .int), Cond.methodLink RX12 509 yX12_work, Cond.instanceMethod yX12_work, Cond.selects RX12 yX12_work yX12_work, Cond.code yX12_work cX12_work 4 (some .boolean), Cond.methodLink RX12 221 yX12_isBroken, Cond.instanceMethod yX12_isBroken, Cond.selects RX12 yX12_isBroken yX12_isBroken, Cond.code yX12_isBroken cX12_isBroken 6 (some .boolean), Cond.methodLink RX12 525 yX12_nextPlaces, Cond.instanceMethod yX12_nextPlaces]
def wsX12_best_r4 : List Cond := [Cond.selects RX12 yX12_nextPlaces yX12_nextPlaces, Cond.code yX12_nextPlaces cX12_nextPlaces 6 (some .boolean), Cond.methodLink RX12 522 yX12_swapPlaces, Cond.instanceMethod yX12_swapPlaces, Cond.selects RX12 yX12_swapPlaces yX12_swapPlaces, Cond.code yX12_swapPlaces cX12_swapPlaces 4 none, Cond.methodLink RX12 531 yX12_share, Cond.instanceMethod yX12_share, Cond.selects RX12 yX12_share yX12_share, Cond.code yX12_share cX12_share 7 (some .int), Cond.methodLink RX12 535 yX12_keepBest, Cond.instanceMethod yX12_keepBest, Cond.selects RX12 yX12_keepBest yX12_keepBest, Cond.code yX12_keepBest cX12_keepBest 9 none, Cond.fieldLink RX12 538 "ColdShipsModel" "hasBest" "Z", Cond.fieldLink RX12 541 "ColdShipsModel" "bestCargoes" "I", Cond.fieldLink RX12 82 "ColdShipsModel" "bestTold" "[J"]
def wsX12_best : List Cond := .code yX12_best cX12_best 15 (some .long) :: ((wsX12_best_r1 ++ (wsX12_best_r2 ++ (wsX12_best_r3 ++ wsX12_best_r4))) ++ wsX120)
set_option maxRecDepth 20000 in
theorem ggX12_best_X12_isHour : GoodIn wsX12_best wsX12_isHour := goodIn_r _ [12, 13, 14, 15, 11, 16] (by decide +kernel) (by decide +kernel)
set_option maxRecDepth 20000 in
theorem gX12_best_X12_isHour : GoodIn wsX12_best (va_wsS RX12 144 yX12_isHour wsX12_isHour) := goodIn_app (goodIn_of _ (by decide +kernel)) ggX12_best_X12_isHour
set_option maxRecDepth 20000 in
theorem ggX12_best_X12_lesser : GoodIn wsX12_best wsX12_lesser := goodIn_r _ [19] (by decide +kernel) (by decide +kernel)
set_option maxRecDepth 20000 in
theorem gX12_best_X12_lesser : GoodIn wsX12_best (va_wsS RX12 228 yX12_lesser wsX12_lesser) := goodIn_app (goodIn_of _ (by decide +kernel)) ggX12_best_X12_lesser
set_option maxRecDepth 20000 in
theorem ggX12_best_X12_findSet : GoodIn wsX12_best wsX12_findSet := goodIn_r _ [23, 24, 25, 4, 26, 5, 27, 28, 29, 30, 11, 31, 32, 3, 33, 34, 35, 36, 37, 38, 39, 40, 41, 42, 43, 44, 45, 46, 47, 48, 49, 50, 51, 52, 53, 54, 55, 56, 57, 58, 59, 60, 61, 62, 63, 64, 65, 66, 67, 68, 69, 70, 14, 15, 16, 71, 72, 73, 74, 75, 76, 77, 78, 90, 91, 92, 93, 94, 95, 96, 97, 98, 99, 100, 101, 102, 103, 104, 105, 106, 107, 108, 109, 110, 111, 112, 113, 114, 115, 116, 117, 118, 119, 120, 121, 122, 123, 124, 125, 126, 127, 128, 129, 130, 131, 132, 133, 134, 135, 136, 137, 138, 139, 140, 141, 142] (by decide +kernel) (by decide +kernel)
set_option maxRecDepth 20000 in
theorem gX12_best_X12_findSet : GoodIn wsX12_best (wsV RX12 528 RX12 yX12_findSet wsX12_findSet) := goodIn_app (goodIn_of _ (by decide +kernel)) ggX12_best_X12_findSet
set_option maxRecDepth 20000 in
theorem ggX12_best_X12_share : GoodIn wsX12_best wsX12_share := goodIn_r _ [82, 6, 8, 90, 91, 92, 93, 94, 95, 96, 97, 98, 99, 100, 101, 102, 103, 104, 105, 106, 107, 108, 109, 110, 111, 112, 113, 114, 115, 116, 117, 118, 119, 120, 121, 122, 123, 124, 125, 126, 127, 128, 129, 130, 131, 132, 133, 134, 135, 136, 137, 138, 139, 140, 141, 142] (by decide +kernel) (by decide +kernel)
set_option maxRecDepth 20000 in
theorem gX12_best_X12_share : GoodIn wsX12_best (wsV RX12 531 RX12 yX12_share wsX12_share) := goodIn_app (goodIn_of _ (by decide +kernel)) ggX12_best_X12_share
set_option maxRecDepth 20000 in
theorem ggX12_best_X12_keepBest : GoodIn wsX12_best wsX12_keepBest := goodIn_r _ [86, 87, 88, 89, 4, 7, 26, 27, 42, 44, 34, 28, 29, 30, 11, 31, 32, 3, 33, 35, 36, 37, 38, 39, 40, 41, 43, 45, 46, 47, 48, 49, 50, 51, 52, 53, 54, 55, 56, 57, 58, 59, 60, 61, 62, 63, 64, 65, 66, 67, 68, 69, 70, 14, 15, 16, 90, 91, 92, 93, 94, 95, 96, 97, 98, 99, 100, 101, 102, 103, 104, 105, 106, 107, 108, 109, 110, 111, 112, 113, 114, 115, 116, 117, 118, 119, 120, 121, 122, 123, 124, 125, 126, 127, 128, 129, 130, 131, 132, 133, 134, 135, 136, 137, 138, 139, 140, 141, 142] (by decide +kernel) (by decide +kernel)
set_option maxRecDepth 20000 in
theorem gX12_best_X12_keepBest : GoodIn wsX12_best (wsV RX12 535 RX12 yX12_keepBest wsX12_keepBest) := goodIn_app (goodIn_of _ (by decide +kernel)) ggX12_best_X12_keepBest
theorem dX12_best_0 : decode cX12_best 0 = .ok (.aload_n 0, 1) := by decide +kernel
theorem dX12_best_1 : decode cX12_best 1 = .ok (.iconst 0, 1) := by decide +kernel
theorem dX12_best_2 : decode cX12_best 2 = .ok (.putfield 91, 3) := by decide +kernel
theorem dX12_best_5 : decode cX12_best 5 = .ok (.iload_n 1, 1) := by decide +kernel
theorem dX12_best_6 : decode cX12_best 6 = .ok (.invokestatic 144, 3) := by decide +kernel
theorem dX12_best_9 : decode cX12_best 9 = .ok (.ifCond .ne 7, 3) := by decide +kernel
theorem dX12_best_12 : decode cX12_best 12 = .ok (.ldc2_w 158, 3) := by decide +kernel
theorem dX12_best_15 : decode cX12_best 15 = .ok (.lreturn, 1) := by decide +kernel
theorem dX12_best_16 : decode cX12_best 16 = .ok (.aload_n 0, 1) := by decide +kernel
theorem dX12_best_17 : decode cX12_best 17 = .ok (.getfield 7, 3) := by decide +kernel
theorem dX12_best_20 : decode cX12_best 20 = .ok (.bipush 10, 2) := by decide +kernel
theorem dX12_best_22 : decode cX12_best 22 = .ok (.iaload, 1) := by decide +kernel
theorem dX12_best_23 : decode cX12_best 23 = .ok (.istore_n 2, 1) := by decide +kernel
theorem dX12_best_24 : decode cX12_best 24 = .ok (.iconst 3, 1) := by decide +kernel
theorem dX12_best_25 : decode cX12_best 25 = .ok (.aload_n 0, 1) := by decide +kernel
theorem dX12_best_26 : decode cX12_best 26 = .ok (.getfield 7, 3) := by decide +kernel
theorem dX12_best_29 : decode cX12_best 29 = .ok (.iconst 1, 1) := by decide +kernel
theorem dX12_best_30 : decode cX12_best 30 = .ok (.iaload, 1) := by decide +kernel
theorem dX12_best_31 : decode cX12_best 31 = .ok (.invokestatic 228, 3) := by decide +kernel
theorem dX12_best_34 : decode cX12_best 34 = .ok (.istore_n 3, 1) := by decide +kernel
theorem dX12_best_35 : decode cX12_best 35 = .ok (.iconst 0, 1) := by decide +kernel
theorem dX12_best_36 : decode cX12_best 36 = .ok (.istore 4, 2) := by decide +kernel
theorem dX12_best_38 : decode cX12_best 38 = .ok (.iload 4, 2) := by decide +kernel
theorem dX12_best_40 : decode cX12_best 40 = .ok (.iload_n 3, 1) := by decide +kernel
theorem dX12_best_41 : decode cX12_best 41 = .ok (.if_icmp .ge 35, 3) := by decide +kernel
theorem dX12_best_44 : decode cX12_best 44 = .ok (.iconst 0, 1) := by decide +kernel
theorem dX12_best_45 : decode cX12_best 45 = .ok (.istore 5, 2) := by decide +kernel
theorem dX12_best_47 : decode cX12_best 47 = .ok (.iload 5, 2) := by decide +kernel
theorem dX12_best_49 : decode cX12_best 49 = .ok (.iconst 1, 1) := by decide +kernel
theorem dX12_best_50 : decode cX12_best 50 = .ok (.iload_n 2, 1) := by decide +kernel
theorem dX12_best_51 : decode cX12_best 51 = .ok (.ishl, 1) := by decide +kernel
theorem dX12_best_52 : decode cX12_best 52 = .ok (.if_icmp .ge 18, 3) := by decide +kernel
theorem dX12_best_55 : decode cX12_best 55 = .ok (.aload_n 0, 1) := by decide +kernel
theorem dX12_best_56 : decode cX12_best 56 = .ok (.iload 4, 2) := by decide +kernel
theorem dX12_best_58 : decode cX12_best 58 = .ok (.iload 5, 2) := by decide +kernel
theorem dX12_best_60 : decode cX12_best 60 = .ok (.iload_n 1, 1) := by decide +kernel
theorem dX12_best_61 : decode cX12_best 61 = .ok (.invokevirtual 528, 3) := by decide +kernel
theorem dX12_best_64 : decode cX12_best 64 = .ok (.iinc 5 1, 3) := by decide +kernel
theorem dX12_best_67 : decode cX12_best 67 = .ok (.goto (-20), 3) := by decide +kernel
theorem dX12_best_70 : decode cX12_best 70 = .ok (.iinc 4 1, 3) := by decide +kernel
theorem dX12_best_73 : decode cX12_best 73 = .ok (.goto (-35), 3) := by decide +kernel
theorem dX12_best_76 : decode cX12_best 76 = .ok (.iconst 1, 1) := by decide +kernel
theorem dX12_best_77 : decode cX12_best 77 = .ok (.istore 4, 2) := by decide +kernel
theorem dX12_best_79 : decode cX12_best 79 = .ok (.iconst 0, 1) := by decide +kernel
theorem dX12_best_80 : decode cX12_best 80 = .ok (.istore 5, 2) := by decide +kernel
theorem dX12_best_82 : decode cX12_best 82 = .ok (.iload 5, 2) := by decide +kernel
theorem dX12_best_84 : decode cX12_best 84 = .ok (.iload_n 2, 1) := by decide +kernel
theorem dX12_best_85 : decode cX12_best 85 = .ok (.if_icmp .ge 17, 3) := by decide +kernel
theorem dX12_best_88 : decode cX12_best 88 = .ok (.iload 4, 2) := by decide +kernel
theorem dX12_best_90 : decode cX12_best 90 = .ok (.iload_n 3, 1) := by decide +kernel
theorem dX12_best_91 : decode cX12_best 91 = .ok (.iconst 1, 1) := by decide +kernel
theorem dX12_best_92 : decode cX12_best 92 = .ok (.iadd, 1) := by decide +kernel
theorem dX12_best_93 : decode cX12_best 93 = .ok (.imul, 1) := by decide +kernel
theorem dX12_best_94 : decode cX12_best 94 = .ok (.istore 4, 2) := by decide +kernel
theorem dX12_best_96 : decode cX12_best 96 = .ok (.iinc 5 1, 3) := by decide +kernel
theorem dX12_best_99 : decode cX12_best 99 = .ok (.goto (-17), 3) := by decide +kernel
theorem dX12_best_102 : decode cX12_best 102 = .ok (.ldc2_w 466, 3) := by decide +kernel
theorem dX12_best_105 : decode cX12_best 105 = .ok (.lstore 5, 2) := by decide +kernel
theorem dX12_best_107 : decode cX12_best 107 = .ok (.iconst 0, 1) := by decide +kernel
theorem dX12_best_108 : decode cX12_best 108 = .ok (.istore 7, 2) := by decide +kernel
theorem dX12_best_110 : decode cX12_best 110 = .ok (.iconst 0, 1) := by decide +kernel
theorem dX12_best_111 : decode cX12_best 111 = .ok (.istore 8, 2) := by decide +kernel
theorem dX12_best_113 : decode cX12_best 113 = .ok (.iload 8, 2) := by decide +kernel
theorem dX12_best_115 : decode cX12_best 115 = .ok (.iload 4, 2) := by decide +kernel
theorem dX12_best_117 : decode cX12_best 117 = .ok (.if_icmp .ge 166, 3) := by decide +kernel
theorem dX12_best_120 : decode cX12_best 120 = .ok (.aload_n 0, 1) := by decide +kernel
theorem dX12_best_121 : decode cX12_best 121 = .ok (.iload 8, 2) := by decide +kernel
theorem dX12_best_123 : decode cX12_best 123 = .ok (.iload_n 2, 1) := by decide +kernel
theorem dX12_best_124 : decode cX12_best 124 = .ok (.iload_n 3, 1) := by decide +kernel
theorem dX12_best_125 : decode cX12_best 125 = .ok (.invokevirtual 531, 3) := by decide +kernel
theorem dX12_best_128 : decode cX12_best 128 = .ok (.istore 9, 2) := by decide +kernel
theorem dX12_best_130 : decode cX12_best 130 = .ok (.lconst 0, 1) := by decide +kernel
theorem dX12_best_131 : decode cX12_best 131 = .ok (.lstore 10, 2) := by decide +kernel
theorem dX12_best_133 : decode cX12_best 133 = .ok (.iconst 0, 1) := by decide +kernel
theorem dX12_best_134 : decode cX12_best 134 = .ok (.istore 12, 2) := by decide +kernel
theorem dX12_best_136 : decode cX12_best 136 = .ok (.iload 12, 2) := by decide +kernel
theorem dX12_best_138 : decode cX12_best 138 = .ok (.iload_n 3, 1) := by decide +kernel
theorem dX12_best_139 : decode cX12_best 139 = .ok (.if_icmp .ge 60, 3) := by decide +kernel
theorem dX12_best_142 : decode cX12_best 142 = .ok (.lload 10, 2) := by decide +kernel
theorem dX12_best_144 : decode cX12_best 144 = .ok (.ldc2_w 466, 3) := by decide +kernel
theorem dX12_best_147 : decode cX12_best 147 = .ok (.lcmp, 1) := by decide +kernel
theorem dX12_best_148 : decode cX12_best 148 = .ok (.ifCond .eq 51, 3) := by decide +kernel
theorem dX12_best_151 : decode cX12_best 151 = .ok (.aload_n 0, 1) := by decide +kernel
theorem dX12_best_152 : decode cX12_best 152 = .ok (.getfield 67, 3) := by decide +kernel
theorem dX12_best_155 : decode cX12_best 155 = .ok (.bipush 64, 2) := by decide +kernel
theorem dX12_best_157 : decode cX12_best 157 = .ok (.iload 12, 2) := by decide +kernel
theorem dX12_best_159 : decode cX12_best 159 = .ok (.imul, 1) := by decide +kernel
theorem dX12_best_160 : decode cX12_best 160 = .ok (.aload_n 0, 1) := by decide +kernel
theorem dX12_best_161 : decode cX12_best 161 = .ok (.getfield 88, 3) := by decide +kernel
theorem dX12_best_164 : decode cX12_best 164 = .ok (.iload 12, 2) := by decide +kernel
theorem dX12_best_166 : decode cX12_best 166 = .ok (.iaload, 1) := by decide +kernel
theorem dX12_best_167 : decode cX12_best 167 = .ok (.iadd, 1) := by decide +kernel
theorem dX12_best_168 : decode cX12_best 168 = .ok (.laload, 1) := by decide +kernel
theorem dX12_best_169 : decode cX12_best 169 = .ok (.lstore 13, 2) := by decide +kernel
theorem dX12_best_171 : decode cX12_best 171 = .ok (.lload 13, 2) := by decide +kernel
theorem dX12_best_173 : decode cX12_best 173 = .ok (.ldc2_w 466, 3) := by decide +kernel
theorem dX12_best_176 : decode cX12_best 176 = .ok (.lcmp, 1) := by decide +kernel
theorem dX12_best_177 : decode cX12_best 177 = .ok (.ifCond .ne 9, 3) := by decide +kernel
theorem dX12_best_180 : decode cX12_best 180 = .ok (.ldc2_w 466, 3) := by decide +kernel
theorem dX12_best_183 : decode cX12_best 183 = .ok (.goto 8, 3) := by decide +kernel
theorem dX12_best_186 : decode cX12_best 186 = .ok (.lload 10, 2) := by decide +kernel
theorem dX12_best_188 : decode cX12_best 188 = .ok (.lload 13, 2) := by decide +kernel
theorem dX12_best_190 : decode cX12_best 190 = .ok (.ladd, 1) := by decide +kernel
theorem dX12_best_191 : decode cX12_best 191 = .ok (.lstore 10, 2) := by decide +kernel
theorem dX12_best_193 : decode cX12_best 193 = .ok (.iinc 12 1, 3) := by decide +kernel
theorem dX12_best_196 : decode cX12_best 196 = .ok (.goto (-60), 3) := by decide +kernel
theorem dX12_best_199 : decode cX12_best 199 = .ok (.lload 10, 2) := by decide +kernel
theorem dX12_best_201 : decode cX12_best 201 = .ok (.ldc2_w 466, 3) := by decide +kernel
theorem dX12_best_204 : decode cX12_best 204 = .ok (.lcmp, 1) := by decide +kernel
theorem dX12_best_205 : decode cX12_best 205 = .ok (.ifCond .eq 72, 3) := by decide +kernel
theorem dX12_best_208 : decode cX12_best 208 = .ok (.lload 5, 2) := by decide +kernel
theorem dX12_best_210 : decode cX12_best 210 = .ok (.ldc2_w 466, 3) := by decide +kernel
theorem dX12_best_213 : decode cX12_best 213 = .ok (.lcmp, 1) := by decide +kernel
theorem dX12_best_214 : decode cX12_best 214 = .ok (.ifCond .eq 26, 3) := by decide +kernel
theorem dX12_best_217 : decode cX12_best 217 = .ok (.lload 10, 2) := by decide +kernel
theorem dX12_best_219 : decode cX12_best 219 = .ok (.lload 5, 2) := by decide +kernel
theorem dX12_best_221 : decode cX12_best 221 = .ok (.lcmp, 1) := by decide +kernel
theorem dX12_best_222 : decode cX12_best 222 = .ok (.ifCond .gt 18, 3) := by decide +kernel
theorem dX12_best_225 : decode cX12_best 225 = .ok (.lload 10, 2) := by decide +kernel
theorem dX12_best_227 : decode cX12_best 227 = .ok (.lload 5, 2) := by decide +kernel
theorem dX12_best_229 : decode cX12_best 229 = .ok (.lcmp, 1) := by decide +kernel
theorem dX12_best_230 : decode cX12_best 230 = .ok (.ifCond .ne 47, 3) := by decide +kernel
theorem dX12_best_233 : decode cX12_best 233 = .ok (.iload 9, 2) := by decide +kernel
theorem dX12_best_235 : decode cX12_best 235 = .ok (.iload 7, 2) := by decide +kernel
theorem dX12_best_237 : decode cX12_best 237 = .ok (.if_icmp .ge 40, 3) := by decide +kernel
theorem dX12_best_240 : decode cX12_best 240 = .ok (.lload 10, 2) := by decide +kernel
theorem dX12_best_242 : decode cX12_best 242 = .ok (.lstore 5, 2) := by decide +kernel
theorem dX12_best_244 : decode cX12_best 244 = .ok (.iload 9, 2) := by decide +kernel
theorem dX12_best_246 : decode cX12_best 246 = .ok (.istore 7, 2) := by decide +kernel
theorem dX12_best_248 : decode cX12_best 248 = .ok (.iconst 0, 1) := by decide +kernel
theorem dX12_best_249 : decode cX12_best 249 = .ok (.istore 12, 2) := by decide +kernel
theorem dX12_best_251 : decode cX12_best 251 = .ok (.iload 12, 2) := by decide +kernel
theorem dX12_best_253 : decode cX12_best 253 = .ok (.iload_n 2, 1) := by decide +kernel
theorem dX12_best_254 : decode cX12_best 254 = .ok (.if_icmp .ge 23, 3) := by decide +kernel
theorem dX12_best_257 : decode cX12_best 257 = .ok (.aload_n 0, 1) := by decide +kernel
theorem dX12_best_258 : decode cX12_best 258 = .ok (.getfield 79, 3) := by decide +kernel
theorem dX12_best_261 : decode cX12_best 261 = .ok (.iload 12, 2) := by decide +kernel
theorem dX12_best_263 : decode cX12_best 263 = .ok (.aload_n 0, 1) := by decide +kernel
theorem dX12_best_264 : decode cX12_best 264 = .ok (.getfield 85, 3) := by decide +kernel
theorem dX12_best_267 : decode cX12_best 267 = .ok (.iload 12, 2) := by decide +kernel
theorem dX12_best_269 : decode cX12_best 269 = .ok (.iaload, 1) := by decide +kernel
theorem dX12_best_270 : decode cX12_best 270 = .ok (.iastore, 1) := by decide +kernel
theorem dX12_best_271 : decode cX12_best 271 = .ok (.iinc 12 1, 3) := by decide +kernel
theorem dX12_best_274 : decode cX12_best 274 = .ok (.goto (-23), 3) := by decide +kernel
theorem dX12_best_277 : decode cX12_best 277 = .ok (.iinc 8 1, 3) := by decide +kernel
theorem dX12_best_280 : decode cX12_best 280 = .ok (.goto (-167), 3) := by decide +kernel
theorem dX12_best_283 : decode cX12_best 283 = .ok (.aload_n 0, 1) := by decide +kernel
theorem dX12_best_284 : decode cX12_best 284 = .ok (.iload_n 2, 1) := by decide +kernel
theorem dX12_best_285 : decode cX12_best 285 = .ok (.iload_n 3, 1) := by decide +kernel
theorem dX12_best_286 : decode cX12_best 286 = .ok (.iload_n 1, 1) := by decide +kernel
theorem dX12_best_287 : decode cX12_best 287 = .ok (.invokevirtual 535, 3) := by decide +kernel
theorem dX12_best_290 : decode cX12_best 290 = .ok (.lload 5, 2) := by decide +kernel
theorem dX12_best_292 : decode cX12_best 292 = .ok (.lreturn, 1) := by decide +kernel
