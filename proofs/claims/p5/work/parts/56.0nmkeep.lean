abbrev cX12_keepBest : ByteArray := prog_14_method_117_code
def yX12_keepBest : MethodName := ⟨RX12, "keepBest", "(III)V"⟩
def wsX12_keepBest_r1 : List Cond := [Cond.fieldLink RX12 538 "ColdShipsModel" "hasBest" "Z", Cond.fieldLink RX12 541 "ColdShipsModel" "bestCargoes" "I", Cond.fieldLink RX12 82 "ColdShipsModel" "bestTold" "[J", Cond.constantLong RX12 466 (-2000000000000000), Cond.fieldLink RX12 79 "ColdShipsModel" "bestShip" "[I", Cond.fieldLink RX12 64 "ColdShipsModel" "line" "[I", Cond.fieldLink RX12 70 "ColdShipsModel" "placesOf" "[I", Cond.fieldLink RX12 55 "ColdShipsModel" "loads" "[I", Cond.fieldLink RX12 58 "ColdShipsModel" "lands" "[I", Cond.fieldLink RX12 61 "ColdShipsModel" "worths" "[J", Cond.methodLink RX12 519 yX12_sailRow, Cond.instanceMethod yX12_sailRow, Cond.selects RX12 yX12_sailRow yX12_sailRow, Cond.initialized RX12, Cond.code yX12_sailRow cX12_sailRow 7 (some .long), Cond.fieldLink RX12 500 "ColdShipsModel" "clock" "I", Cond.fieldLink RX12 7 "ColdShipsModel" "row" "[I", Cond.fieldLink RX12 503 "ColdShipsModel" "place" "I", Cond.methodLink RX12 132 yX12_shipAt, Cond.static yX12_shipAt, Cond.code yX12_shipAt cX12_shipAt 1 (some .int), Cond.methodLink RX12 516 yX12_carry, Cond.instanceMethod yX12_carry, Cond.selects RX12 yX12_carry yX12_carry]
def wsX12_keepBest_r2 : List Cond := [Cond.code yX12_carry cX12_carry 12 (some .boolean), Cond.fieldLink RX12 506 "ColdShipsModel" "began" "I", Cond.constantLong RX12 177 (100000), Cond.constantLong RX12 150 (100), Cond.methodLink RX12 231 yX12_topOf, Cond.instanceMethod yX12_topOf, Cond.selects RX12 yX12_topOf yX12_topOf, Cond.code yX12_topOf cX12_topOf 2 (some .int), Cond.constantLong RX12 160 (98), Cond.methodLink RX12 115 yX12_terminalAt, Cond.static yX12_terminalAt, Cond.code yX12_terminalAt cX12_terminalAt 1 (some .int), Cond.methodLink RX12 512 yX12_goTo, Cond.instanceMethod yX12_goTo, Cond.selects RX12 yX12_goTo yX12_goTo, Cond.code yX12_goTo cX12_goTo 6 (some .int), Cond.methodLink RX12 217 yX12_wayOf, Cond.instanceMethod yX12_wayOf, Cond.selects RX12 yX12_wayOf yX12_wayOf, Cond.code yX12_wayOf cX12_wayOf 3 (some .int), Cond.methodLink RX12 509 yX12_work, Cond.instanceMethod yX12_work, Cond.selects RX12 yX12_work yX12_work, Cond.code yX12_work cX12_work 4 (some .boolean)]
def wsX12_keepBest_r3 : List Cond := [Cond.methodLink RX12 221 yX12_isBroken, Cond.instanceMethod yX12_isBroken, Cond.selects RX12 yX12_isBroken yX12_isBroken, Cond.code yX12_isBroken cX12_isBroken 6 (some .boolean), Cond.methodLink RX12 99 yX12_in, Cond.static yX12_in, Cond.code yX12_in cX12_in 6 (some .boolean)]
def wsX12_keepBest : List Cond := .code yX12_keepBest cX12_keepBest 9 none :: ((wsX12_keepBest_r1 ++ (wsX12_keepBest_r2 ++ wsX12_keepBest_r3)) ++ wsX120)
set_option maxRecDepth 20000 in
theorem ggX12_keepBest_X12_sailRow : GoodIn wsX12_keepBest wsX12_sailRow := goodIn_r _ [15, 16, 17, 18, 6, 4, 10, 19, 20, 14, 21, 22, 23, 24, 25, 8, 26, 9, 27, 28, 29, 30, 31, 32, 33, 34, 35, 36, 37, 38, 39, 40, 41, 42, 43, 44, 45, 46, 47, 48, 49, 50, 51, 52, 53, 54, 55, 56, 57, 58, 59, 60, 61, 62, 63, 64, 65, 66, 67, 68, 69, 70, 71, 72, 73, 74, 75, 76, 77, 78, 79, 80, 81, 82, 83, 84, 85, 86, 87, 88, 89, 90, 91, 92, 93, 94, 95, 96, 97, 98, 99, 100, 101, 102, 103, 104, 105, 106, 107, 108] (by decide +kernel) (by decide +kernel)
set_option maxRecDepth 20000 in
theorem gX12_keepBest_X12_sailRow : GoodIn wsX12_keepBest (wsV RX12 519 RX12 yX12_sailRow wsX12_sailRow) := goodIn_app (goodIn_of _ (by decide +kernel)) ggX12_keepBest_X12_sailRow
theorem dX12_keepBest_0 : decode cX12_keepBest 0 = .ok (.aload_n 0, 1) := by decide +kernel
theorem dX12_keepBest_1 : decode cX12_keepBest 1 = .ok (.iconst 1, 1) := by decide +kernel
theorem dX12_keepBest_2 : decode cX12_keepBest 2 = .ok (.putfield 538, 3) := by decide +kernel
theorem dX12_keepBest_5 : decode cX12_keepBest 5 = .ok (.aload_n 0, 1) := by decide +kernel
theorem dX12_keepBest_6 : decode cX12_keepBest 6 = .ok (.iload_n 1, 1) := by decide +kernel
theorem dX12_keepBest_7 : decode cX12_keepBest 7 = .ok (.putfield 541, 3) := by decide +kernel
theorem dX12_keepBest_10 : decode cX12_keepBest 10 = .ok (.iconst 0, 1) := by decide +kernel
theorem dX12_keepBest_11 : decode cX12_keepBest 11 = .ok (.istore 4, 2) := by decide +kernel
theorem dX12_keepBest_13 : decode cX12_keepBest 13 = .ok (.iload 4, 2) := by decide +kernel
theorem dX12_keepBest_15 : decode cX12_keepBest 15 = .ok (.iload_n 1, 1) := by decide +kernel
theorem dX12_keepBest_16 : decode cX12_keepBest 16 = .ok (.if_icmp .ge 56, 3) := by decide +kernel
theorem dX12_keepBest_19 : decode cX12_keepBest 19 = .ok (.iconst 0, 1) := by decide +kernel
theorem dX12_keepBest_20 : decode cX12_keepBest 20 = .ok (.istore 5, 2) := by decide +kernel
theorem dX12_keepBest_22 : decode cX12_keepBest 22 = .ok (.iload 5, 2) := by decide +kernel
theorem dX12_keepBest_24 : decode cX12_keepBest 24 = .ok (.iconst 5, 1) := by decide +kernel
theorem dX12_keepBest_25 : decode cX12_keepBest 25 = .ok (.if_icmp .ge 24, 3) := by decide +kernel
theorem dX12_keepBest_28 : decode cX12_keepBest 28 = .ok (.aload_n 0, 1) := by decide +kernel
theorem dX12_keepBest_29 : decode cX12_keepBest 29 = .ok (.getfield 82, 3) := by decide +kernel
theorem dX12_keepBest_32 : decode cX12_keepBest 32 = .ok (.iconst 5, 1) := by decide +kernel
theorem dX12_keepBest_33 : decode cX12_keepBest 33 = .ok (.iload 4, 2) := by decide +kernel
theorem dX12_keepBest_35 : decode cX12_keepBest 35 = .ok (.imul, 1) := by decide +kernel
theorem dX12_keepBest_36 : decode cX12_keepBest 36 = .ok (.iload 5, 2) := by decide +kernel
theorem dX12_keepBest_38 : decode cX12_keepBest 38 = .ok (.iadd, 1) := by decide +kernel
theorem dX12_keepBest_39 : decode cX12_keepBest 39 = .ok (.ldc2_w 466, 3) := by decide +kernel
theorem dX12_keepBest_42 : decode cX12_keepBest 42 = .ok (.lastore, 1) := by decide +kernel
theorem dX12_keepBest_43 : decode cX12_keepBest 43 = .ok (.iinc 5 1, 3) := by decide +kernel
theorem dX12_keepBest_46 : decode cX12_keepBest 46 = .ok (.goto (-24), 3) := by decide +kernel
theorem dX12_keepBest_49 : decode cX12_keepBest 49 = .ok (.aload_n 0, 1) := by decide +kernel
theorem dX12_keepBest_50 : decode cX12_keepBest 50 = .ok (.getfield 82, 3) := by decide +kernel
theorem dX12_keepBest_53 : decode cX12_keepBest 53 = .ok (.iconst 5, 1) := by decide +kernel
theorem dX12_keepBest_54 : decode cX12_keepBest 54 = .ok (.iload 4, 2) := by decide +kernel
theorem dX12_keepBest_56 : decode cX12_keepBest 56 = .ok (.imul, 1) := by decide +kernel
theorem dX12_keepBest_57 : decode cX12_keepBest 57 = .ok (.aload_n 0, 1) := by decide +kernel
theorem dX12_keepBest_58 : decode cX12_keepBest 58 = .ok (.getfield 79, 3) := by decide +kernel
theorem dX12_keepBest_61 : decode cX12_keepBest 61 = .ok (.iload 4, 2) := by decide +kernel
theorem dX12_keepBest_63 : decode cX12_keepBest 63 = .ok (.iaload, 1) := by decide +kernel
theorem dX12_keepBest_64 : decode cX12_keepBest 64 = .ok (.i2l, 1) := by decide +kernel
theorem dX12_keepBest_65 : decode cX12_keepBest 65 = .ok (.lastore, 1) := by decide +kernel
theorem dX12_keepBest_66 : decode cX12_keepBest 66 = .ok (.iinc 4 1, 3) := by decide +kernel
theorem dX12_keepBest_69 : decode cX12_keepBest 69 = .ok (.goto (-56), 3) := by decide +kernel
theorem dX12_keepBest_72 : decode cX12_keepBest 72 = .ok (.iconst 0, 1) := by decide +kernel
theorem dX12_keepBest_73 : decode cX12_keepBest 73 = .ok (.istore 4, 2) := by decide +kernel
theorem dX12_keepBest_75 : decode cX12_keepBest 75 = .ok (.iload 4, 2) := by decide +kernel
theorem dX12_keepBest_77 : decode cX12_keepBest 77 = .ok (.iload_n 2, 1) := by decide +kernel
theorem dX12_keepBest_78 : decode cX12_keepBest 78 = .ok (.if_icmp .ge 218, 3) := by decide +kernel
theorem dX12_keepBest_81 : decode cX12_keepBest 81 = .ok (.iconst 0, 1) := by decide +kernel
theorem dX12_keepBest_82 : decode cX12_keepBest 82 = .ok (.istore 5, 2) := by decide +kernel
theorem dX12_keepBest_84 : decode cX12_keepBest 84 = .ok (.iconst 0, 1) := by decide +kernel
theorem dX12_keepBest_85 : decode cX12_keepBest 85 = .ok (.istore 6, 2) := by decide +kernel
theorem dX12_keepBest_87 : decode cX12_keepBest 87 = .ok (.iconst 0, 1) := by decide +kernel
theorem dX12_keepBest_88 : decode cX12_keepBest 88 = .ok (.istore 7, 2) := by decide +kernel
theorem dX12_keepBest_90 : decode cX12_keepBest 90 = .ok (.iload 7, 2) := by decide +kernel
theorem dX12_keepBest_92 : decode cX12_keepBest 92 = .ok (.iload_n 1, 1) := by decide +kernel
theorem dX12_keepBest_93 : decode cX12_keepBest 93 = .ok (.if_icmp .ge 34, 3) := by decide +kernel
theorem dX12_keepBest_96 : decode cX12_keepBest 96 = .ok (.iload 5, 2) := by decide +kernel
theorem dX12_keepBest_98 : decode cX12_keepBest 98 = .ok (.aload_n 0, 1) := by decide +kernel
theorem dX12_keepBest_99 : decode cX12_keepBest 99 = .ok (.getfield 79, 3) := by decide +kernel
theorem dX12_keepBest_102 : decode cX12_keepBest 102 = .ok (.iload 7, 2) := by decide +kernel
theorem dX12_keepBest_104 : decode cX12_keepBest 104 = .ok (.iaload, 1) := by decide +kernel
theorem dX12_keepBest_105 : decode cX12_keepBest 105 = .ok (.iload 4, 2) := by decide +kernel
theorem dX12_keepBest_107 : decode cX12_keepBest 107 = .ok (.if_icmp .ne 10, 3) := by decide +kernel
theorem dX12_keepBest_110 : decode cX12_keepBest 110 = .ok (.iconst 1, 1) := by decide +kernel
theorem dX12_keepBest_111 : decode cX12_keepBest 111 = .ok (.iload 7, 2) := by decide +kernel
theorem dX12_keepBest_113 : decode cX12_keepBest 113 = .ok (.ishl, 1) := by decide +kernel
theorem dX12_keepBest_114 : decode cX12_keepBest 114 = .ok (.goto 4, 3) := by decide +kernel
theorem dX12_keepBest_117 : decode cX12_keepBest 117 = .ok (.iconst 0, 1) := by decide +kernel
theorem dX12_keepBest_118 : decode cX12_keepBest 118 = .ok (.ior, 1) := by decide +kernel
theorem dX12_keepBest_119 : decode cX12_keepBest 119 = .ok (.istore 5, 2) := by decide +kernel
theorem dX12_keepBest_121 : decode cX12_keepBest 121 = .ok (.iinc 7 1, 3) := by decide +kernel
theorem dX12_keepBest_124 : decode cX12_keepBest 124 = .ok (.goto (-34), 3) := by decide +kernel
theorem dX12_keepBest_127 : decode cX12_keepBest 127 = .ok (.iconst 0, 1) := by decide +kernel
theorem dX12_keepBest_128 : decode cX12_keepBest 128 = .ok (.istore 7, 2) := by decide +kernel
theorem dX12_keepBest_130 : decode cX12_keepBest 130 = .ok (.iload 7, 2) := by decide +kernel
theorem dX12_keepBest_132 : decode cX12_keepBest 132 = .ok (.iload_n 1, 1) := by decide +kernel
theorem dX12_keepBest_133 : decode cX12_keepBest 133 = .ok (.if_icmp .ge 52, 3) := by decide +kernel
theorem dX12_keepBest_136 : decode cX12_keepBest 136 = .ok (.aload_n 0, 1) := by decide +kernel
theorem dX12_keepBest_137 : decode cX12_keepBest 137 = .ok (.getfield 79, 3) := by decide +kernel
theorem dX12_keepBest_140 : decode cX12_keepBest 140 = .ok (.iload 7, 2) := by decide +kernel
theorem dX12_keepBest_142 : decode cX12_keepBest 142 = .ok (.iaload, 1) := by decide +kernel
theorem dX12_keepBest_143 : decode cX12_keepBest 143 = .ok (.iload 4, 2) := by decide +kernel
theorem dX12_keepBest_145 : decode cX12_keepBest 145 = .ok (.if_icmp .ne 34, 3) := by decide +kernel
theorem dX12_keepBest_148 : decode cX12_keepBest 148 = .ok (.aload_n 0, 1) := by decide +kernel
theorem dX12_keepBest_149 : decode cX12_keepBest 149 = .ok (.getfield 64, 3) := by decide +kernel
theorem dX12_keepBest_152 : decode cX12_keepBest 152 = .ok (.aload_n 0, 1) := by decide +kernel
theorem dX12_keepBest_153 : decode cX12_keepBest 153 = .ok (.getfield 70, 3) := by decide +kernel
theorem dX12_keepBest_156 : decode cX12_keepBest 156 = .ok (.bipush 64, 2) := by decide +kernel
theorem dX12_keepBest_158 : decode cX12_keepBest 158 = .ok (.iload 4, 2) := by decide +kernel
theorem dX12_keepBest_160 : decode cX12_keepBest 160 = .ok (.imul, 1) := by decide +kernel
theorem dX12_keepBest_161 : decode cX12_keepBest 161 = .ok (.iload 5, 2) := by decide +kernel
theorem dX12_keepBest_163 : decode cX12_keepBest 163 = .ok (.iadd, 1) := by decide +kernel
theorem dX12_keepBest_164 : decode cX12_keepBest 164 = .ok (.iaload, 1) := by decide +kernel
theorem dX12_keepBest_165 : decode cX12_keepBest 165 = .ok (.iconst 3, 1) := by decide +kernel
theorem dX12_keepBest_166 : decode cX12_keepBest 166 = .ok (.iload 7, 2) := by decide +kernel
theorem dX12_keepBest_168 : decode cX12_keepBest 168 = .ok (.imul, 1) := by decide +kernel
theorem dX12_keepBest_169 : decode cX12_keepBest 169 = .ok (.ishr, 1) := by decide +kernel
theorem dX12_keepBest_170 : decode cX12_keepBest 170 = .ok (.bipush 7, 2) := by decide +kernel
theorem dX12_keepBest_172 : decode cX12_keepBest 172 = .ok (.iand, 1) := by decide +kernel
theorem dX12_keepBest_173 : decode cX12_keepBest 173 = .ok (.iload 7, 2) := by decide +kernel
theorem dX12_keepBest_175 : decode cX12_keepBest 175 = .ok (.iastore, 1) := by decide +kernel
theorem dX12_keepBest_176 : decode cX12_keepBest 176 = .ok (.iinc 6 1, 3) := by decide +kernel
theorem dX12_keepBest_179 : decode cX12_keepBest 179 = .ok (.iinc 7 1, 3) := by decide +kernel
theorem dX12_keepBest_182 : decode cX12_keepBest 182 = .ok (.goto (-52), 3) := by decide +kernel
theorem dX12_keepBest_185 : decode cX12_keepBest 185 = .ok (.aload_n 0, 1) := by decide +kernel
theorem dX12_keepBest_186 : decode cX12_keepBest 186 = .ok (.iload 4, 2) := by decide +kernel
theorem dX12_keepBest_188 : decode cX12_keepBest 188 = .ok (.iload 6, 2) := by decide +kernel
theorem dX12_keepBest_190 : decode cX12_keepBest 190 = .ok (.iload_n 3, 1) := by decide +kernel
theorem dX12_keepBest_191 : decode cX12_keepBest 191 = .ok (.invokevirtual 519, 3) := by decide +kernel
theorem dX12_keepBest_194 : decode cX12_keepBest 194 = .ok (.pop2, 1) := by decide +kernel
theorem dX12_keepBest_195 : decode cX12_keepBest 195 = .ok (.iconst 0, 1) := by decide +kernel
theorem dX12_keepBest_196 : decode cX12_keepBest 196 = .ok (.istore 7, 2) := by decide +kernel
theorem dX12_keepBest_198 : decode cX12_keepBest 198 = .ok (.iload 7, 2) := by decide +kernel
theorem dX12_keepBest_200 : decode cX12_keepBest 200 = .ok (.iload 6, 2) := by decide +kernel
theorem dX12_keepBest_202 : decode cX12_keepBest 202 = .ok (.if_icmp .ge 88, 3) := by decide +kernel
theorem dX12_keepBest_205 : decode cX12_keepBest 205 = .ok (.aload_n 0, 1) := by decide +kernel
theorem dX12_keepBest_206 : decode cX12_keepBest 206 = .ok (.getfield 64, 3) := by decide +kernel
theorem dX12_keepBest_209 : decode cX12_keepBest 209 = .ok (.iload 7, 2) := by decide +kernel
theorem dX12_keepBest_211 : decode cX12_keepBest 211 = .ok (.iaload, 1) := by decide +kernel
theorem dX12_keepBest_212 : decode cX12_keepBest 212 = .ok (.istore 8, 2) := by decide +kernel
theorem dX12_keepBest_214 : decode cX12_keepBest 214 = .ok (.aload_n 0, 1) := by decide +kernel
theorem dX12_keepBest_215 : decode cX12_keepBest 215 = .ok (.getfield 82, 3) := by decide +kernel
theorem dX12_keepBest_218 : decode cX12_keepBest 218 = .ok (.iconst 5, 1) := by decide +kernel
theorem dX12_keepBest_219 : decode cX12_keepBest 219 = .ok (.iload 8, 2) := by decide +kernel
theorem dX12_keepBest_221 : decode cX12_keepBest 221 = .ok (.imul, 1) := by decide +kernel
theorem dX12_keepBest_222 : decode cX12_keepBest 222 = .ok (.iconst 1, 1) := by decide +kernel
theorem dX12_keepBest_223 : decode cX12_keepBest 223 = .ok (.iadd, 1) := by decide +kernel
theorem dX12_keepBest_224 : decode cX12_keepBest 224 = .ok (.iload 7, 2) := by decide +kernel
theorem dX12_keepBest_226 : decode cX12_keepBest 226 = .ok (.i2l, 1) := by decide +kernel
theorem dX12_keepBest_227 : decode cX12_keepBest 227 = .ok (.lastore, 1) := by decide +kernel
theorem dX12_keepBest_228 : decode cX12_keepBest 228 = .ok (.aload_n 0, 1) := by decide +kernel
theorem dX12_keepBest_229 : decode cX12_keepBest 229 = .ok (.getfield 82, 3) := by decide +kernel
theorem dX12_keepBest_232 : decode cX12_keepBest 232 = .ok (.iconst 5, 1) := by decide +kernel
theorem dX12_keepBest_233 : decode cX12_keepBest 233 = .ok (.iload 8, 2) := by decide +kernel
theorem dX12_keepBest_235 : decode cX12_keepBest 235 = .ok (.imul, 1) := by decide +kernel
theorem dX12_keepBest_236 : decode cX12_keepBest 236 = .ok (.iconst 2, 1) := by decide +kernel
theorem dX12_keepBest_237 : decode cX12_keepBest 237 = .ok (.iadd, 1) := by decide +kernel
theorem dX12_keepBest_238 : decode cX12_keepBest 238 = .ok (.aload_n 0, 1) := by decide +kernel
theorem dX12_keepBest_239 : decode cX12_keepBest 239 = .ok (.getfield 55, 3) := by decide +kernel
theorem dX12_keepBest_242 : decode cX12_keepBest 242 = .ok (.iload 8, 2) := by decide +kernel
theorem dX12_keepBest_244 : decode cX12_keepBest 244 = .ok (.iaload, 1) := by decide +kernel
theorem dX12_keepBest_245 : decode cX12_keepBest 245 = .ok (.i2l, 1) := by decide +kernel
theorem dX12_keepBest_246 : decode cX12_keepBest 246 = .ok (.lastore, 1) := by decide +kernel
theorem dX12_keepBest_247 : decode cX12_keepBest 247 = .ok (.aload_n 0, 1) := by decide +kernel
theorem dX12_keepBest_248 : decode cX12_keepBest 248 = .ok (.getfield 82, 3) := by decide +kernel
theorem dX12_keepBest_251 : decode cX12_keepBest 251 = .ok (.iconst 5, 1) := by decide +kernel
theorem dX12_keepBest_252 : decode cX12_keepBest 252 = .ok (.iload 8, 2) := by decide +kernel
theorem dX12_keepBest_254 : decode cX12_keepBest 254 = .ok (.imul, 1) := by decide +kernel
theorem dX12_keepBest_255 : decode cX12_keepBest 255 = .ok (.iconst 3, 1) := by decide +kernel
theorem dX12_keepBest_256 : decode cX12_keepBest 256 = .ok (.iadd, 1) := by decide +kernel
theorem dX12_keepBest_257 : decode cX12_keepBest 257 = .ok (.aload_n 0, 1) := by decide +kernel
theorem dX12_keepBest_258 : decode cX12_keepBest 258 = .ok (.getfield 58, 3) := by decide +kernel
theorem dX12_keepBest_261 : decode cX12_keepBest 261 = .ok (.iload 8, 2) := by decide +kernel
theorem dX12_keepBest_263 : decode cX12_keepBest 263 = .ok (.iaload, 1) := by decide +kernel
theorem dX12_keepBest_264 : decode cX12_keepBest 264 = .ok (.i2l, 1) := by decide +kernel
theorem dX12_keepBest_265 : decode cX12_keepBest 265 = .ok (.lastore, 1) := by decide +kernel
theorem dX12_keepBest_266 : decode cX12_keepBest 266 = .ok (.aload_n 0, 1) := by decide +kernel
theorem dX12_keepBest_267 : decode cX12_keepBest 267 = .ok (.getfield 82, 3) := by decide +kernel
theorem dX12_keepBest_270 : decode cX12_keepBest 270 = .ok (.iconst 5, 1) := by decide +kernel
theorem dX12_keepBest_271 : decode cX12_keepBest 271 = .ok (.iload 8, 2) := by decide +kernel
theorem dX12_keepBest_273 : decode cX12_keepBest 273 = .ok (.imul, 1) := by decide +kernel
theorem dX12_keepBest_274 : decode cX12_keepBest 274 = .ok (.iconst 4, 1) := by decide +kernel
theorem dX12_keepBest_275 : decode cX12_keepBest 275 = .ok (.iadd, 1) := by decide +kernel
theorem dX12_keepBest_276 : decode cX12_keepBest 276 = .ok (.aload_n 0, 1) := by decide +kernel
theorem dX12_keepBest_277 : decode cX12_keepBest 277 = .ok (.getfield 61, 3) := by decide +kernel
theorem dX12_keepBest_280 : decode cX12_keepBest 280 = .ok (.iload 8, 2) := by decide +kernel
theorem dX12_keepBest_282 : decode cX12_keepBest 282 = .ok (.laload, 1) := by decide +kernel
theorem dX12_keepBest_283 : decode cX12_keepBest 283 = .ok (.lastore, 1) := by decide +kernel
theorem dX12_keepBest_284 : decode cX12_keepBest 284 = .ok (.iinc 7 1, 3) := by decide +kernel
theorem dX12_keepBest_287 : decode cX12_keepBest 287 = .ok (.goto (-89), 3) := by decide +kernel
theorem dX12_keepBest_290 : decode cX12_keepBest 290 = .ok (.iinc 4 1, 3) := by decide +kernel
theorem dX12_keepBest_293 : decode cX12_keepBest 293 = .ok (.goto (-218), 3) := by decide +kernel
theorem dX12_keepBest_296 : decode cX12_keepBest 296 = .ok (.return_, 1) := by decide +kernel
