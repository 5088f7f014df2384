abbrev cX12_findSet : ByteArray := prog_14_method_114_code
def yX12_findSet : MethodName := ⟨RX12, "findSet", "(III)V"⟩
def wsX12_findSet_r1 : List Cond := [Cond.fieldLink RX12 73 "ColdShipsModel" "members" "[I", Cond.fieldLink RX12 76 "ColdShipsModel" "places" "[I", Cond.constantLong RX12 466 (-2000000000000000), Cond.fieldLink RX12 64 "ColdShipsModel" "line" "[I", Cond.fieldLink RX12 67 "ColdShipsModel" "bestOf" "[J", Cond.fieldLink RX12 70 "ColdShipsModel" "placesOf" "[I", Cond.methodLink RX12 519 yX12_sailRow, Cond.instanceMethod yX12_sailRow, Cond.selects RX12 yX12_sailRow yX12_sailRow, Cond.initialized RX12, Cond.code yX12_sailRow cX12_sailRow 7 (some .long), Cond.fieldLink RX12 500 "ColdShipsModel" "clock" "I", Cond.fieldLink RX12 7 "ColdShipsModel" "row" "[I", Cond.fieldLink RX12 503 "ColdShipsModel" "place" "I", Cond.fieldLink RX12 61 "ColdShipsModel" "worths" "[J", Cond.methodLink RX12 132 yX12_shipAt, Cond.static yX12_shipAt, Cond.code yX12_shipAt cX12_shipAt 1 (some .int), Cond.methodLink RX12 516 yX12_carry, Cond.instanceMethod yX12_carry, Cond.selects RX12 yX12_carry yX12_carry, Cond.code yX12_carry cX12_carry 12 (some .boolean), Cond.fieldLink RX12 55 "ColdShipsModel" "loads" "[I", Cond.fieldLink RX12 506 "ColdShipsModel" "began" "I"]
def wsX12_findSet_r2 : List Cond := [Cond.fieldLink RX12 58 "ColdShipsModel" "lands" "[I", Cond.constantLong RX12 177 (100000), Cond.constantLong RX12 150 (100), Cond.methodLink RX12 231 yX12_topOf, Cond.instanceMethod yX12_topOf, Cond.selects RX12 yX12_topOf yX12_topOf, Cond.code yX12_topOf cX12_topOf 2 (some .int), Cond.constantLong RX12 160 (98), Cond.methodLink RX12 115 yX12_terminalAt, Cond.static yX12_terminalAt, Cond.code yX12_terminalAt cX12_terminalAt 1 (some .int), Cond.methodLink RX12 512 yX12_goTo, Cond.instanceMethod yX12_goTo, Cond.selects RX12 yX12_goTo yX12_goTo, Cond.code yX12_goTo cX12_goTo 6 (some .int), Cond.methodLink RX12 217 yX12_wayOf, Cond.instanceMethod yX12_wayOf, Cond.selects RX12 yX12_wayOf yX12_wayOf, Cond.code yX12_wayOf cX12_wayOf 3 (some .int), Cond.methodLink RX12 509 yX12_work, Cond.instanceMethod yX12_work, Cond.selects RX12 yX12_work yX12_work, Cond.code yX12_work cX12_work 4 (some .boolean), Cond.methodLink RX12 221 yX12_isBroken]
def wsX12_findSet_r3 : List Cond := [Cond.instanceMethod yX12_isBroken, Cond.selects RX12 yX12_isBroken yX12_isBroken, Cond.code yX12_isBroken cX12_isBroken 6 (some .boolean), Cond.methodLink RX12 99 yX12_in, Cond.static yX12_in, Cond.code yX12_in cX12_in 6 (some .boolean), Cond.methodLink RX12 525 yX12_nextPlaces, Cond.instanceMethod yX12_nextPlaces, Cond.selects RX12 yX12_nextPlaces yX12_nextPlaces, Cond.code yX12_nextPlaces cX12_nextPlaces 6 (some .boolean), Cond.methodLink RX12 522 yX12_swapPlaces, Cond.instanceMethod yX12_swapPlaces, Cond.selects RX12 yX12_swapPlaces yX12_swapPlaces, Cond.code yX12_swapPlaces cX12_swapPlaces 4 none]
def wsX12_findSet : List Cond := .code yX12_findSet cX12_findSet 12 none :: ((wsX12_findSet_r1 ++ (wsX12_findSet_r2 ++ wsX12_findSet_r3)) ++ wsX120)
set_option maxRecDepth 20000 in
theorem ggX12_findSet_X12_sailRow : GoodIn wsX12_findSet wsX12_sailRow := goodIn_r _ [11, 12, 13, 14, 4, 3, 15, 16, 17, 10, 18, 19, 20, 21, 22, 23, 24, 25, 26, 27, 28, 29, 30, 31, 32, 33, 34, 35, 36, 37, 38, 39, 40, 41, 42, 43, 44, 45, 46, 47, 48, 49, 50, 51, 52, 53, 54, 63, 64, 65, 66, 67, 68, 69, 70, 71, 72, 73, 74, 75, 76, 77, 78, 79, 80, 81, 82, 83, 84, 85, 86, 87, 88, 89, 90, 91, 92, 93, 94, 95, 96, 97, 98, 99, 100, 101, 102, 103, 104, 105, 106, 107, 108, 109, 110, 111, 112, 113, 114, 115] (by decide +kernel) (by decide +kernel)
set_option maxRecDepth 20000 in
theorem gX12_findSet_X12_sailRow : GoodIn wsX12_findSet (wsV RX12 519 RX12 yX12_sailRow wsX12_sailRow) := goodIn_app (goodIn_of _ (by decide +kernel)) ggX12_findSet_X12_sailRow
set_option maxRecDepth 20000 in
theorem ggX12_findSet_X12_nextPlaces : GoodIn wsX12_findSet wsX12_nextPlaces := goodIn_r _ [58, 2, 59, 60, 61, 10, 62, 63, 64, 65, 66, 67, 68, 69, 70, 71, 72, 73, 74, 75, 76, 77, 78, 79, 80, 81, 82, 83, 84, 85, 86, 87, 88, 89, 90, 91, 92, 93, 94, 95, 96, 97, 98, 99, 100, 101, 102, 103, 104, 105, 106, 107, 108, 109, 110, 111, 112, 113, 114, 115] (by decide +kernel) (by decide +kernel)
set_option maxRecDepth 20000 in
theorem gX12_findSet_X12_nextPlaces : GoodIn wsX12_findSet (wsV RX12 525 RX12 yX12_nextPlaces wsX12_nextPlaces) := goodIn_app (goodIn_of _ (by decide +kernel)) ggX12_findSet_X12_nextPlaces
theorem dX12_findSet_0 : decode cX12_findSet 0 = .ok (.iconst 0, 1) := by decide +kernel
theorem dX12_findSet_1 : decode cX12_findSet 1 = .ok (.istore 4, 2) := by decide +kernel
theorem dX12_findSet_3 : decode cX12_findSet 3 = .ok (.iconst 0, 1) := by decide +kernel
theorem dX12_findSet_4 : decode cX12_findSet 4 = .ok (.istore 5, 2) := by decide +kernel
theorem dX12_findSet_6 : decode cX12_findSet 6 = .ok (.iload 5, 2) := by decide +kernel
theorem dX12_findSet_8 : decode cX12_findSet 8 = .ok (.bipush 6, 2) := by decide +kernel
theorem dX12_findSet_10 : decode cX12_findSet 10 = .ok (.if_icmp .ge 40, 3) := by decide +kernel
theorem dX12_findSet_13 : decode cX12_findSet 13 = .ok (.iload_n 2, 1) := by decide +kernel
theorem dX12_findSet_14 : decode cX12_findSet 14 = .ok (.iload 5, 2) := by decide +kernel
theorem dX12_findSet_16 : decode cX12_findSet 16 = .ok (.ishr, 1) := by decide +kernel
theorem dX12_findSet_17 : decode cX12_findSet 17 = .ok (.iconst 1, 1) := by decide +kernel
theorem dX12_findSet_18 : decode cX12_findSet 18 = .ok (.iand, 1) := by decide +kernel
theorem dX12_findSet_19 : decode cX12_findSet 19 = .ok (.iconst 1, 1) := by decide +kernel
theorem dX12_findSet_20 : decode cX12_findSet 20 = .ok (.if_icmp .ne 24, 3) := by decide +kernel
theorem dX12_findSet_23 : decode cX12_findSet 23 = .ok (.aload_n 0, 1) := by decide +kernel
theorem dX12_findSet_24 : decode cX12_findSet 24 = .ok (.getfield 73, 3) := by decide +kernel
theorem dX12_findSet_27 : decode cX12_findSet 27 = .ok (.iload 4, 2) := by decide +kernel
theorem dX12_findSet_29 : decode cX12_findSet 29 = .ok (.iload 5, 2) := by decide +kernel
theorem dX12_findSet_31 : decode cX12_findSet 31 = .ok (.iastore, 1) := by decide +kernel
theorem dX12_findSet_32 : decode cX12_findSet 32 = .ok (.aload_n 0, 1) := by decide +kernel
theorem dX12_findSet_33 : decode cX12_findSet 33 = .ok (.getfield 76, 3) := by decide +kernel
theorem dX12_findSet_36 : decode cX12_findSet 36 = .ok (.iload 4, 2) := by decide +kernel
theorem dX12_findSet_38 : decode cX12_findSet 38 = .ok (.iload 4, 2) := by decide +kernel
theorem dX12_findSet_40 : decode cX12_findSet 40 = .ok (.iastore, 1) := by decide +kernel
theorem dX12_findSet_41 : decode cX12_findSet 41 = .ok (.iinc 4 1, 3) := by decide +kernel
theorem dX12_findSet_44 : decode cX12_findSet 44 = .ok (.iinc 5 1, 3) := by decide +kernel
theorem dX12_findSet_47 : decode cX12_findSet 47 = .ok (.goto (-41), 3) := by decide +kernel
theorem dX12_findSet_50 : decode cX12_findSet 50 = .ok (.ldc2_w 466, 3) := by decide +kernel
theorem dX12_findSet_53 : decode cX12_findSet 53 = .ok (.lstore 5, 2) := by decide +kernel
theorem dX12_findSet_55 : decode cX12_findSet 55 = .ok (.iconst 0, 1) := by decide +kernel
theorem dX12_findSet_56 : decode cX12_findSet 56 = .ok (.istore 7, 2) := by decide +kernel
theorem dX12_findSet_58 : decode cX12_findSet 58 = .ok (.iconst 1, 1) := by decide +kernel
theorem dX12_findSet_59 : decode cX12_findSet 59 = .ok (.istore 8, 2) := by decide +kernel
theorem dX12_findSet_61 : decode cX12_findSet 61 = .ok (.iload 8, 2) := by decide +kernel
theorem dX12_findSet_63 : decode cX12_findSet 63 = .ok (.ifCond .eq 118, 3) := by decide +kernel
theorem dX12_findSet_66 : decode cX12_findSet 66 = .ok (.iconst 0, 1) := by decide +kernel
theorem dX12_findSet_67 : decode cX12_findSet 67 = .ok (.istore 9, 2) := by decide +kernel
theorem dX12_findSet_69 : decode cX12_findSet 69 = .ok (.iconst 0, 1) := by decide +kernel
theorem dX12_findSet_70 : decode cX12_findSet 70 = .ok (.istore 10, 2) := by decide +kernel
theorem dX12_findSet_72 : decode cX12_findSet 72 = .ok (.iload 10, 2) := by decide +kernel
theorem dX12_findSet_74 : decode cX12_findSet 74 = .ok (.iload 4, 2) := by decide +kernel
theorem dX12_findSet_76 : decode cX12_findSet 76 = .ok (.if_icmp .ge 50, 3) := by decide +kernel
theorem dX12_findSet_79 : decode cX12_findSet 79 = .ok (.aload_n 0, 1) := by decide +kernel
theorem dX12_findSet_80 : decode cX12_findSet 80 = .ok (.getfield 64, 3) := by decide +kernel
theorem dX12_findSet_83 : decode cX12_findSet 83 = .ok (.aload_n 0, 1) := by decide +kernel
theorem dX12_findSet_84 : decode cX12_findSet 84 = .ok (.getfield 76, 3) := by decide +kernel
theorem dX12_findSet_87 : decode cX12_findSet 87 = .ok (.iload 10, 2) := by decide +kernel
theorem dX12_findSet_89 : decode cX12_findSet 89 = .ok (.iaload, 1) := by decide +kernel
theorem dX12_findSet_90 : decode cX12_findSet 90 = .ok (.aload_n 0, 1) := by decide +kernel
theorem dX12_findSet_91 : decode cX12_findSet 91 = .ok (.getfield 73, 3) := by decide +kernel
theorem dX12_findSet_94 : decode cX12_findSet 94 = .ok (.iload 10, 2) := by decide +kernel
theorem dX12_findSet_96 : decode cX12_findSet 96 = .ok (.iaload, 1) := by decide +kernel
theorem dX12_findSet_97 : decode cX12_findSet 97 = .ok (.iastore, 1) := by decide +kernel
theorem dX12_findSet_98 : decode cX12_findSet 98 = .ok (.iload 9, 2) := by decide +kernel
theorem dX12_findSet_100 : decode cX12_findSet 100 = .ok (.aload_n 0, 1) := by decide +kernel
theorem dX12_findSet_101 : decode cX12_findSet 101 = .ok (.getfield 76, 3) := by decide +kernel
theorem dX12_findSet_104 : decode cX12_findSet 104 = .ok (.iload 10, 2) := by decide +kernel
theorem dX12_findSet_106 : decode cX12_findSet 106 = .ok (.iaload, 1) := by decide +kernel
theorem dX12_findSet_107 : decode cX12_findSet 107 = .ok (.iconst 3, 1) := by decide +kernel
theorem dX12_findSet_108 : decode cX12_findSet 108 = .ok (.aload_n 0, 1) := by decide +kernel
theorem dX12_findSet_109 : decode cX12_findSet 109 = .ok (.getfield 73, 3) := by decide +kernel
theorem dX12_findSet_112 : decode cX12_findSet 112 = .ok (.iload 10, 2) := by decide +kernel
theorem dX12_findSet_114 : decode cX12_findSet 114 = .ok (.iaload, 1) := by decide +kernel
theorem dX12_findSet_115 : decode cX12_findSet 115 = .ok (.imul, 1) := by decide +kernel
theorem dX12_findSet_116 : decode cX12_findSet 116 = .ok (.ishl, 1) := by decide +kernel
theorem dX12_findSet_117 : decode cX12_findSet 117 = .ok (.ior, 1) := by decide +kernel
theorem dX12_findSet_118 : decode cX12_findSet 118 = .ok (.istore 9, 2) := by decide +kernel
theorem dX12_findSet_120 : decode cX12_findSet 120 = .ok (.iinc 10 1, 3) := by decide +kernel
theorem dX12_findSet_123 : decode cX12_findSet 123 = .ok (.goto (-51), 3) := by decide +kernel
theorem dX12_findSet_126 : decode cX12_findSet 126 = .ok (.aload_n 0, 1) := by decide +kernel
theorem dX12_findSet_127 : decode cX12_findSet 127 = .ok (.iload_n 1, 1) := by decide +kernel
theorem dX12_findSet_128 : decode cX12_findSet 128 = .ok (.iload 4, 2) := by decide +kernel
theorem dX12_findSet_130 : decode cX12_findSet 130 = .ok (.iload_n 3, 1) := by decide +kernel
theorem dX12_findSet_131 : decode cX12_findSet 131 = .ok (.invokevirtual 519, 3) := by decide +kernel
theorem dX12_findSet_134 : decode cX12_findSet 134 = .ok (.lstore 10, 2) := by decide +kernel
theorem dX12_findSet_136 : decode cX12_findSet 136 = .ok (.lload 10, 2) := by decide +kernel
theorem dX12_findSet_138 : decode cX12_findSet 138 = .ok (.lload 5, 2) := by decide +kernel
theorem dX12_findSet_140 : decode cX12_findSet 140 = .ok (.lcmp, 1) := by decide +kernel
theorem dX12_findSet_141 : decode cX12_findSet 141 = .ok (.ifCond .le 8, 3) := by decide +kernel
theorem dX12_findSet_144 : decode cX12_findSet 144 = .ok (.iload 9, 2) := by decide +kernel
theorem dX12_findSet_146 : decode cX12_findSet 146 = .ok (.goto 5, 3) := by decide +kernel
theorem dX12_findSet_149 : decode cX12_findSet 149 = .ok (.iload 7, 2) := by decide +kernel
theorem dX12_findSet_151 : decode cX12_findSet 151 = .ok (.istore 7, 2) := by decide +kernel
theorem dX12_findSet_153 : decode cX12_findSet 153 = .ok (.lload 10, 2) := by decide +kernel
theorem dX12_findSet_155 : decode cX12_findSet 155 = .ok (.lload 5, 2) := by decide +kernel
theorem dX12_findSet_157 : decode cX12_findSet 157 = .ok (.lcmp, 1) := by decide +kernel
theorem dX12_findSet_158 : decode cX12_findSet 158 = .ok (.ifCond .le 8, 3) := by decide +kernel
theorem dX12_findSet_161 : decode cX12_findSet 161 = .ok (.lload 10, 2) := by decide +kernel
theorem dX12_findSet_163 : decode cX12_findSet 163 = .ok (.goto 5, 3) := by decide +kernel
theorem dX12_findSet_166 : decode cX12_findSet 166 = .ok (.lload 5, 2) := by decide +kernel
theorem dX12_findSet_168 : decode cX12_findSet 168 = .ok (.lstore 5, 2) := by decide +kernel
theorem dX12_findSet_170 : decode cX12_findSet 170 = .ok (.aload_n 0, 1) := by decide +kernel
theorem dX12_findSet_171 : decode cX12_findSet 171 = .ok (.iload 4, 2) := by decide +kernel
theorem dX12_findSet_173 : decode cX12_findSet 173 = .ok (.invokevirtual 525, 3) := by decide +kernel
theorem dX12_findSet_176 : decode cX12_findSet 176 = .ok (.istore 8, 2) := by decide +kernel
theorem dX12_findSet_178 : decode cX12_findSet 178 = .ok (.goto (-117), 3) := by decide +kernel
theorem dX12_findSet_181 : decode cX12_findSet 181 = .ok (.aload_n 0, 1) := by decide +kernel
theorem dX12_findSet_182 : decode cX12_findSet 182 = .ok (.getfield 67, 3) := by decide +kernel
theorem dX12_findSet_185 : decode cX12_findSet 185 = .ok (.bipush 64, 2) := by decide +kernel
theorem dX12_findSet_187 : decode cX12_findSet 187 = .ok (.iload_n 1, 1) := by decide +kernel
theorem dX12_findSet_188 : decode cX12_findSet 188 = .ok (.imul, 1) := by decide +kernel
theorem dX12_findSet_189 : decode cX12_findSet 189 = .ok (.iload_n 2, 1) := by decide +kernel
theorem dX12_findSet_190 : decode cX12_findSet 190 = .ok (.iadd, 1) := by decide +kernel
theorem dX12_findSet_191 : decode cX12_findSet 191 = .ok (.lload 5, 2) := by decide +kernel
theorem dX12_findSet_193 : decode cX12_findSet 193 = .ok (.lastore, 1) := by decide +kernel
theorem dX12_findSet_194 : decode cX12_findSet 194 = .ok (.aload_n 0, 1) := by decide +kernel
theorem dX12_findSet_195 : decode cX12_findSet 195 = .ok (.getfield 70, 3) := by decide +kernel
theorem dX12_findSet_198 : decode cX12_findSet 198 = .ok (.bipush 64, 2) := by decide +kernel
theorem dX12_findSet_200 : decode cX12_findSet 200 = .ok (.iload_n 1, 1) := by decide +kernel
theorem dX12_findSet_201 : decode cX12_findSet 201 = .ok (.imul, 1) := by decide +kernel
theorem dX12_findSet_202 : decode cX12_findSet 202 = .ok (.iload_n 2, 1) := by decide +kernel
theorem dX12_findSet_203 : decode cX12_findSet 203 = .ok (.iadd, 1) := by decide +kernel
theorem dX12_findSet_204 : decode cX12_findSet 204 = .ok (.iload 7, 2) := by decide +kernel
theorem dX12_findSet_206 : decode cX12_findSet 206 = .ok (.iastore, 1) := by decide +kernel
theorem dX12_findSet_207 : decode cX12_findSet 207 = .ok (.return_, 1) := by decide +kernel
