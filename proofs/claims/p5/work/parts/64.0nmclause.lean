abbrev cX12_readClause : ByteArray := prog_14_method_86_code
def yX12_readClause : MethodName := ⟨RX12, "readClause", "()V"⟩
def wsX12_readClause_r1 : List Cond := [Cond.constantLong RX12 383 (781652471), Cond.constantLong RX12 385 (52), Cond.constantLong RX12 387 (16441), Cond.constantLong RX12 389 (206277), Cond.fieldLink RX12 391 "ColdShipsModel" "nClauses" "I", Cond.fieldLink RX12 261 "ColdShipsModel" "bad" "Z", Cond.constantLong RX12 97 (2399), Cond.fieldLink RX12 398 "ColdShipsModel" "nFrom" "I", Cond.constantLong RX12 401 (655), Cond.fieldLink RX12 403 "ColdShipsModel" "nTo" "I", Cond.constantLong RX12 406 (5), Cond.fieldLink RX12 408 "ColdShipsModel" "nAt" "I", Cond.fieldLink RX12 411 "ColdShipsModel" "nPays" "I", Cond.fieldLink RX12 34 "ColdShipsModel" "nClause" "[I", Cond.fieldLink RX12 297 "ColdShipsModel" "nCode" "I", Cond.constantLong RX12 417 (294), Cond.methodLink RX12 317 yX12_isWord, Cond.instanceMethod yX12_isWord, Cond.selects RX12 yX12_isWord yX12_isWord, Cond.initialized RX12, Cond.code yX12_isWord cX12_isWord 3 (some .boolean), Cond.fieldLink RX12 280 "ColdShipsModel" "sort" "I", Cond.fieldLink RX12 270 "ColdShipsModel" "worth" "J", Cond.methodLink RX12 293 yX12_must]
def wsX12_readClause_r2 : List Cond := [Cond.instanceMethod yX12_must, Cond.selects RX12 yX12_must yX12_must, Cond.code yX12_must cX12_must 2 none, Cond.fieldLink RX12 267 "ColdShipsModel" "from" "I", Cond.fieldLink RX12 30 "ColdShipsModel" "fault" "I", Cond.methodLink RX12 264 yX12_next, Cond.instanceMethod yX12_next, Cond.selects RX12 yX12_next yX12_next, Cond.code yX12_next cX12_next 1 none, Cond.fieldLink RX12 258 "ColdShipsModel" "to" "I", Cond.fieldLink RX12 252 "ColdShipsModel" "taped" "I", Cond.fieldLink RX12 27 "ColdShipsModel" "tape" "[I", Cond.constantLong RX12 283 (32), Cond.constantLong RX12 285 (96), Cond.constantLong RX12 158 (-1), Cond.constantLong RX12 287 (1000000), Cond.constantLong RX12 289 (10), Cond.constantLong RX12 291 (48), Cond.methodLink RX12 274 yX12_isSmall, Cond.static yX12_isSmall, Cond.code yX12_isSmall cX12_isSmall 1 (some .boolean), Cond.methodLink RX12 277 yX12_isDigit, Cond.static yX12_isDigit, Cond.code yX12_isDigit cX12_isDigit 1 (some .boolean)]
def wsX12_readClause_r3 : List Cond := [Cond.methodLink RX12 394 yX12_number, Cond.instanceMethod yX12_number, Cond.selects RX12 yX12_number yX12_number, Cond.code yX12_number cX12_number 6 (some .int), Cond.methodLink RX12 99 yX12_in, Cond.static yX12_in, Cond.code yX12_in cX12_in 6 (some .boolean), Cond.methodLink RX12 414 yX12_readExpression, Cond.instanceMethod yX12_readExpression, Cond.selects RX12 yX12_readExpression yX12_readExpression, Cond.code yX12_readExpression cX12_readExpression 3 none, Cond.fieldLink RX12 300 "ColdShipsModel" "piled" "I", Cond.fieldLink RX12 335 "ColdShipsModel" "opened" "I", Cond.methodLink RX12 373 yX12_readPlain, Cond.instanceMethod yX12_readPlain, Cond.selects RX12 yX12_readPlain yX12_readPlain, Cond.code yX12_readPlain cX12_readPlain 1 (some .int), Cond.constantLong RX12 354 (14836), Cond.methodLink RX12 338 yX12_push, Cond.instanceMethod yX12_push, Cond.selects RX12 yX12_push yX12_push, Cond.code yX12_push cX12_push 3 none, Cond.fieldLink RX12 43 "ColdShipsModel" "pile" "[I", Cond.fieldLink RX12 46 "ColdShipsModel" "pileAt" "[I"]
def wsX12_readClause_r4 : List Cond := [Cond.methodLink RX12 341 yX12_isSign, Cond.instanceMethod yX12_isSign, Cond.selects RX12 yX12_isSign yX12_isSign, Cond.code yX12_isSign cX12_isSign 2 (some .boolean), Cond.methodLink RX12 344 yX12_open, Cond.instanceMethod yX12_open, Cond.selects RX12 yX12_open yX12_open, Cond.code yX12_open cX12_open 2 none, Cond.methodLink RX12 356 yX12_readPart, Cond.instanceMethod yX12_readPart, Cond.selects RX12 yX12_readPart yX12_readPart, Cond.code yX12_readPart cX12_readPart 4 (some .int), Cond.constantLong RX12 177 (100000), Cond.fieldLink RX12 351 "ColdShipsModel" "nLeaves" "I", Cond.methodLink RX12 347 yX12_partAt, Cond.instanceMethod yX12_partAt, Cond.selects RX12 yX12_partAt yX12_partAt, Cond.code yX12_partAt cX12_partAt 1 (some .int), Cond.constantLong RX12 315 (671187), Cond.constantLong RX12 321 (76951716), Cond.constantLong RX12 323 (267316), Cond.constantLong RX12 325 (394885), Cond.constantLong RX12 327 (5294489), Cond.constantLong RX12 329 (17376357)]
def wsX12_readClause_r5 : List Cond := [Cond.constantLong RX12 331 (8902227), Cond.constantLong RX12 333 (5930468251205), Cond.methodLink RX12 306 yX12_emit, Cond.instanceMethod yX12_emit, Cond.selects RX12 yX12_emit yX12_emit, Cond.code yX12_emit cX12_emit 3 none, Cond.fieldLink RX12 37 "ColdShipsModel" "nOp" "[I", Cond.fieldLink RX12 40 "ColdShipsModel" "nArg" "[I", Cond.methodLink RX12 376 yX12_behindSum, Cond.instanceMethod yX12_behindSum, Cond.selects RX12 yX12_behindSum yX12_behindSum, Cond.code yX12_behindSum cX12_behindSum 4 (some .int), Cond.methodLink RX12 303 yX12_binds, Cond.static yX12_binds, Cond.code yX12_binds cX12_binds 1 (some .int), Cond.methodLink RX12 359 yX12_settleDown, Cond.instanceMethod yX12_settleDown, Cond.selects RX12 yX12_settleDown yX12_settleDown, Cond.code yX12_settleDown cX12_settleDown 2 none, Cond.methodLink RX12 362 yX12_inner, Cond.instanceMethod yX12_inner, Cond.selects RX12 yX12_inner yX12_inner, Cond.code yX12_inner cX12_inner 3 (some .int), Cond.methodLink RX12 365 yX12_isCompared]
def wsX12_readClause_r6 : List Cond := [Cond.instanceMethod yX12_isCompared, Cond.selects RX12 yX12_isCompared yX12_isCompared, Cond.code yX12_isCompared cX12_isCompared 2 (some .boolean), Cond.constantLong RX12 309 (13), Cond.constantLong RX12 311 (14), Cond.constantLong RX12 313 (16), Cond.methodLink RX12 380 yX12_behindTest, Cond.instanceMethod yX12_behindTest, Cond.selects RX12 yX12_behindTest yX12_behindTest, Cond.code yX12_behindTest cX12_behindTest 2 (some .int), Cond.constantLong RX12 369 (1476), Cond.constantLong RX12 371 (498)]
def wsX12_readClause : List Cond := .code yX12_readClause cX12_readClause 5 none :: ((wsX12_readClause_r1 ++ (wsX12_readClause_r2 ++ (wsX12_readClause_r3 ++ (wsX12_readClause_r4 ++ (wsX12_readClause_r5 ++ wsX12_readClause_r6))))) ++ wsX120)
set_option maxRecDepth 20000 in
theorem ggX12_readClause_X12_isWord : GoodIn wsX12_readClause wsX12_isWord := goodIn_r _ [21, 22, 23, 133, 134, 135, 136, 137, 138, 139, 140, 141, 142, 143, 144, 145, 146, 147, 148, 149, 150, 151, 152, 153, 154, 155, 156, 157, 158, 159, 160, 161, 162, 163, 164, 165, 166, 167, 168, 169, 170, 171, 172, 173, 174, 175, 176, 177, 178, 179, 180, 181, 182, 183, 184, 185] (by decide +kernel) (by decide +kernel)
set_option maxRecDepth 20000 in
theorem gX12_readClause_X12_isWord : GoodIn wsX12_readClause (wsV RX12 317 RX12 yX12_isWord wsX12_isWord) := goodIn_app (goodIn_of _ (by decide +kernel)) ggX12_readClause_X12_isWord
set_option maxRecDepth 20000 in
theorem ggX12_readClause_X12_must : GoodIn wsX12_readClause wsX12_must := goodIn_r _ [27, 6, 28, 29, 30, 31, 32, 20, 33, 34, 35, 36, 23, 22, 37, 38, 39, 40, 41, 42, 43, 44, 45, 46, 47, 48, 133, 134, 135, 136, 137, 138, 139, 140, 141, 142, 143, 144, 145, 146, 147, 148, 149, 150, 151, 152, 153, 154, 155, 156, 157, 158, 159, 160, 161, 162, 163, 164, 165, 166, 167, 168, 169, 170, 171, 172, 173, 174, 175, 176, 177, 178, 179, 180, 181, 182, 183, 184, 185] (by decide +kernel) (by decide +kernel)
set_option maxRecDepth 20000 in
theorem gX12_readClause_X12_must : GoodIn wsX12_readClause (wsV RX12 293 RX12 yX12_must wsX12_must) := goodIn_app (goodIn_of _ (by decide +kernel)) ggX12_readClause_X12_must
set_option maxRecDepth 20000 in
theorem ggX12_readClause_X12_number : GoodIn wsX12_readClause wsX12_number := goodIn_r _ [52, 23, 22, 53, 54, 20, 55, 24, 25, 26, 27, 6, 28, 29, 30, 31, 32, 33, 34, 35, 36, 37, 38, 39, 40, 41, 42, 43, 44, 45, 46, 47, 48, 133, 134, 135, 136, 137, 138, 139, 140, 141, 142, 143, 144, 145, 146, 147, 148, 149, 150, 151, 152, 153, 154, 155, 156, 157, 158, 159, 160, 161, 162, 163, 164, 165, 166, 167, 168, 169, 170, 171, 172, 173, 174, 175, 176, 177, 178, 179, 180, 181, 182, 183, 184, 185] (by decide +kernel) (by decide +kernel)
set_option maxRecDepth 20000 in
theorem gX12_readClause_X12_number : GoodIn wsX12_readClause (wsV RX12 394 RX12 yX12_number wsX12_number) := goodIn_app (goodIn_of _ (by decide +kernel)) ggX12_readClause_X12_number
set_option maxRecDepth 20000 in
theorem ggX12_readClause_X12_readExpression : GoodIn wsX12_readClause wsX12_readExpression := goodIn_r _ [59, 60, 61, 6, 62, 63, 64, 20, 65, 66, 17, 18, 19, 21, 22, 23, 67, 68, 69, 70, 71, 72, 30, 31, 32, 33, 34, 28, 35, 36, 37, 38, 39, 40, 41, 42, 43, 44, 45, 46, 47, 48, 73, 74, 75, 76, 77, 78, 79, 80, 24, 25, 26, 27, 29, 81, 82, 83, 84, 85, 86, 87, 88, 89, 90, 91, 92, 93, 94, 95, 96, 97, 98, 99, 100, 101, 102, 103, 15, 104, 105, 106, 107, 108, 109, 110, 111, 112, 113, 114, 115, 116, 117, 118, 119, 120, 121, 122, 123, 124, 125, 126, 53, 54, 55, 127, 128, 129, 130, 131, 132, 133, 134, 135, 136, 137, 138, 139, 140, 141, 142, 143, 144, 145, 146, 147, 148, 149, 150, 151, 152, 153, 154, 155, 156, 157, 158, 159, 160, 161, 162, 163, 164, 165, 166, 167, 168, 169, 170, 171, 172, 173, 174, 175, 176, 177, 178, 179, 180, 181, 182, 183, 184, 185] (by decide +kernel) (by decide +kernel)
set_option maxRecDepth 20000 in
theorem gX12_readClause_X12_readExpression : GoodIn wsX12_readClause (wsV RX12 414 RX12 yX12_readExpression wsX12_readExpression) := goodIn_app (goodIn_of _ (by decide +kernel)) ggX12_readClause_X12_readExpression
set_option maxRecDepth 20000 in
theorem ggX12_readClause_X12_next : GoodIn wsX12_readClause wsX12_next := goodIn_r _ [33, 34, 28, 35, 36, 23, 22, 37, 38, 39, 40, 41, 42, 43, 44, 20, 45, 46, 47, 48, 133, 134, 135, 136, 137, 138, 139, 140, 141, 142, 143, 144, 145, 146, 147, 148, 149, 150, 151, 152, 153, 154, 155, 156, 157, 158, 159, 160, 161, 162, 163, 164, 165, 166, 167, 168, 169, 170, 171, 172, 173, 174, 175, 176, 177, 178, 179, 180, 181, 182, 183, 184, 185] (by decide +kernel) (by decide +kernel)
set_option maxRecDepth 20000 in
theorem gX12_readClause_X12_next : GoodIn wsX12_readClause (wsV RX12 264 RX12 yX12_next wsX12_next) := goodIn_app (goodIn_of _ (by decide +kernel)) ggX12_readClause_X12_next
theorem dX12_readClause_0 : decode cX12_readClause 0 = .ok (.aload_n 0, 1) := by decide +kernel
theorem dX12_readClause_1 : decode cX12_readClause 1 = .ok (.ldc2_w 383, 3) := by decide +kernel
theorem dX12_readClause_4 : decode cX12_readClause 4 = .ok (.invokevirtual 317, 3) := by decide +kernel
theorem dX12_readClause_7 : decode cX12_readClause 7 = .ok (.istore_n 1, 1) := by decide +kernel
theorem dX12_readClause_8 : decode cX12_readClause 8 = .ok (.aload_n 0, 1) := by decide +kernel
theorem dX12_readClause_9 : decode cX12_readClause 9 = .ok (.ldc2_w 385, 3) := by decide +kernel
theorem dX12_readClause_12 : decode cX12_readClause 12 = .ok (.invokevirtual 317, 3) := by decide +kernel
theorem dX12_readClause_15 : decode cX12_readClause 15 = .ok (.istore_n 2, 1) := by decide +kernel
theorem dX12_readClause_16 : decode cX12_readClause 16 = .ok (.aload_n 0, 1) := by decide +kernel
theorem dX12_readClause_17 : decode cX12_readClause 17 = .ok (.ldc2_w 387, 3) := by decide +kernel
theorem dX12_readClause_20 : decode cX12_readClause 20 = .ok (.invokevirtual 317, 3) := by decide +kernel
theorem dX12_readClause_23 : decode cX12_readClause 23 = .ok (.istore_n 3, 1) := by decide +kernel
theorem dX12_readClause_24 : decode cX12_readClause 24 = .ok (.aload_n 0, 1) := by decide +kernel
theorem dX12_readClause_25 : decode cX12_readClause 25 = .ok (.iload_n 1, 1) := by decide +kernel
theorem dX12_readClause_26 : decode cX12_readClause 26 = .ok (.ifCond .ne 21, 3) := by decide +kernel
theorem dX12_readClause_29 : decode cX12_readClause 29 = .ok (.iload_n 2, 1) := by decide +kernel
theorem dX12_readClause_30 : decode cX12_readClause 30 = .ok (.ifCond .ne 17, 3) := by decide +kernel
theorem dX12_readClause_33 : decode cX12_readClause 33 = .ok (.iload_n 3, 1) := by decide +kernel
theorem dX12_readClause_34 : decode cX12_readClause 34 = .ok (.ifCond .ne 13, 3) := by decide +kernel
theorem dX12_readClause_37 : decode cX12_readClause 37 = .ok (.aload_n 0, 1) := by decide +kernel
theorem dX12_readClause_38 : decode cX12_readClause 38 = .ok (.ldc2_w 389, 3) := by decide +kernel
theorem dX12_readClause_41 : decode cX12_readClause 41 = .ok (.invokevirtual 317, 3) := by decide +kernel
theorem dX12_readClause_44 : decode cX12_readClause 44 = .ok (.ifCond .eq 16, 3) := by decide +kernel
theorem dX12_readClause_47 : decode cX12_readClause 47 = .ok (.aload_n 0, 1) := by decide +kernel
theorem dX12_readClause_48 : decode cX12_readClause 48 = .ok (.getfield 391, 3) := by decide +kernel
theorem dX12_readClause_51 : decode cX12_readClause 51 = .ok (.bipush 12, 2) := by decide +kernel
theorem dX12_readClause_53 : decode cX12_readClause 53 = .ok (.if_icmp .ge 7, 3) := by decide +kernel
theorem dX12_readClause_56 : decode cX12_readClause 56 = .ok (.iconst 1, 1) := by decide +kernel
theorem dX12_readClause_57 : decode cX12_readClause 57 = .ok (.goto 4, 3) := by decide +kernel
theorem dX12_readClause_60 : decode cX12_readClause 60 = .ok (.iconst 0, 1) := by decide +kernel
theorem dX12_readClause_61 : decode cX12_readClause 61 = .ok (.invokevirtual 293, 3) := by decide +kernel
theorem dX12_readClause_64 : decode cX12_readClause 64 = .ok (.aload_n 0, 1) := by decide +kernel
theorem dX12_readClause_65 : decode cX12_readClause 65 = .ok (.getfield 261, 3) := by decide +kernel
theorem dX12_readClause_68 : decode cX12_readClause 68 = .ok (.ifCond .eq 4, 3) := by decide +kernel
theorem dX12_readClause_71 : decode cX12_readClause 71 = .ok (.return_, 1) := by decide +kernel
theorem dX12_readClause_72 : decode cX12_readClause 72 = .ok (.aload_n 0, 1) := by decide +kernel
theorem dX12_readClause_73 : decode cX12_readClause 73 = .ok (.dup, 1) := by decide +kernel
theorem dX12_readClause_74 : decode cX12_readClause 74 = .ok (.getfield 391, 3) := by decide +kernel
theorem dX12_readClause_77 : decode cX12_readClause 77 = .ok (.iconst 1, 1) := by decide +kernel
theorem dX12_readClause_78 : decode cX12_readClause 78 = .ok (.iadd, 1) := by decide +kernel
theorem dX12_readClause_79 : decode cX12_readClause 79 = .ok (.putfield 391, 3) := by decide +kernel
theorem dX12_readClause_82 : decode cX12_readClause 82 = .ok (.iload_n 1, 1) := by decide +kernel
theorem dX12_readClause_83 : decode cX12_readClause 83 = .ok (.ifCond .eq 43, 3) := by decide +kernel
theorem dX12_readClause_86 : decode cX12_readClause 86 = .ok (.aload_n 0, 1) := by decide +kernel
theorem dX12_readClause_87 : decode cX12_readClause 87 = .ok (.aload_n 0, 1) := by decide +kernel
theorem dX12_readClause_88 : decode cX12_readClause 88 = .ok (.lconst 0, 1) := by decide +kernel
theorem dX12_readClause_89 : decode cX12_readClause 89 = .ok (.ldc2_w 97, 3) := by decide +kernel
theorem dX12_readClause_92 : decode cX12_readClause 92 = .ok (.invokevirtual 394, 3) := by decide +kernel
theorem dX12_readClause_95 : decode cX12_readClause 95 = .ok (.putfield 398, 3) := by decide +kernel
theorem dX12_readClause_98 : decode cX12_readClause 98 = .ok (.aload_n 0, 1) := by decide +kernel
theorem dX12_readClause_99 : decode cX12_readClause 99 = .ok (.aload_n 0, 1) := by decide +kernel
theorem dX12_readClause_100 : decode cX12_readClause 100 = .ok (.ldc2_w 401, 3) := by decide +kernel
theorem dX12_readClause_103 : decode cX12_readClause 103 = .ok (.invokevirtual 317, 3) := by decide +kernel
theorem dX12_readClause_106 : decode cX12_readClause 106 = .ok (.invokevirtual 293, 3) := by decide +kernel
theorem dX12_readClause_109 : decode cX12_readClause 109 = .ok (.aload_n 0, 1) := by decide +kernel
theorem dX12_readClause_110 : decode cX12_readClause 110 = .ok (.aload_n 0, 1) := by decide +kernel
theorem dX12_readClause_111 : decode cX12_readClause 111 = .ok (.aload_n 0, 1) := by decide +kernel
theorem dX12_readClause_112 : decode cX12_readClause 112 = .ok (.getfield 398, 3) := by decide +kernel
theorem dX12_readClause_115 : decode cX12_readClause 115 = .ok (.i2l, 1) := by decide +kernel
theorem dX12_readClause_116 : decode cX12_readClause 116 = .ok (.ldc2_w 97, 3) := by decide +kernel
theorem dX12_readClause_119 : decode cX12_readClause 119 = .ok (.invokevirtual 394, 3) := by decide +kernel
theorem dX12_readClause_122 : decode cX12_readClause 122 = .ok (.putfield 403, 3) := by decide +kernel
theorem dX12_readClause_125 : decode cX12_readClause 125 = .ok (.return_, 1) := by decide +kernel
theorem dX12_readClause_126 : decode cX12_readClause 126 = .ok (.iload_n 2, 1) := by decide +kernel
theorem dX12_readClause_127 : decode cX12_readClause 127 = .ok (.ifCond .eq 16, 3) := by decide +kernel
theorem dX12_readClause_130 : decode cX12_readClause 130 = .ok (.aload_n 0, 1) := by decide +kernel
theorem dX12_readClause_131 : decode cX12_readClause 131 = .ok (.aload_n 0, 1) := by decide +kernel
theorem dX12_readClause_132 : decode cX12_readClause 132 = .ok (.lconst 0, 1) := by decide +kernel
theorem dX12_readClause_133 : decode cX12_readClause 133 = .ok (.ldc2_w 406, 3) := by decide +kernel
theorem dX12_readClause_136 : decode cX12_readClause 136 = .ok (.invokevirtual 394, 3) := by decide +kernel
theorem dX12_readClause_139 : decode cX12_readClause 139 = .ok (.putfield 408, 3) := by decide +kernel
theorem dX12_readClause_142 : decode cX12_readClause 142 = .ok (.return_, 1) := by decide +kernel
theorem dX12_readClause_143 : decode cX12_readClause 143 = .ok (.iconst 5, 1) := by decide +kernel
theorem dX12_readClause_144 : decode cX12_readClause 144 = .ok (.aload_n 0, 1) := by decide +kernel
theorem dX12_readClause_145 : decode cX12_readClause 145 = .ok (.getfield 411, 3) := by decide +kernel
theorem dX12_readClause_148 : decode cX12_readClause 148 = .ok (.imul, 1) := by decide +kernel
theorem dX12_readClause_149 : decode cX12_readClause 149 = .ok (.istore 4, 2) := by decide +kernel
theorem dX12_readClause_151 : decode cX12_readClause 151 = .ok (.aload_n 0, 1) := by decide +kernel
theorem dX12_readClause_152 : decode cX12_readClause 152 = .ok (.dup, 1) := by decide +kernel
theorem dX12_readClause_153 : decode cX12_readClause 153 = .ok (.getfield 411, 3) := by decide +kernel
theorem dX12_readClause_156 : decode cX12_readClause 156 = .ok (.iconst 1, 1) := by decide +kernel
theorem dX12_readClause_157 : decode cX12_readClause 157 = .ok (.iadd, 1) := by decide +kernel
theorem dX12_readClause_158 : decode cX12_readClause 158 = .ok (.putfield 411, 3) := by decide +kernel
theorem dX12_readClause_161 : decode cX12_readClause 161 = .ok (.aload_n 0, 1) := by decide +kernel
theorem dX12_readClause_162 : decode cX12_readClause 162 = .ok (.getfield 34, 3) := by decide +kernel
theorem dX12_readClause_165 : decode cX12_readClause 165 = .ok (.iload 4, 2) := by decide +kernel
theorem dX12_readClause_167 : decode cX12_readClause 167 = .ok (.iload_n 3, 1) := by decide +kernel
theorem dX12_readClause_168 : decode cX12_readClause 168 = .ok (.ifCond .eq 7, 3) := by decide +kernel
theorem dX12_readClause_171 : decode cX12_readClause 171 = .ok (.iconst 0, 1) := by decide +kernel
theorem dX12_readClause_172 : decode cX12_readClause 172 = .ok (.goto 4, 3) := by decide +kernel
theorem dX12_readClause_175 : decode cX12_readClause 175 = .ok (.iconst 1, 1) := by decide +kernel
theorem dX12_readClause_176 : decode cX12_readClause 176 = .ok (.iastore, 1) := by decide +kernel
theorem dX12_readClause_177 : decode cX12_readClause 177 = .ok (.aload_n 0, 1) := by decide +kernel
theorem dX12_readClause_178 : decode cX12_readClause 178 = .ok (.getfield 34, 3) := by decide +kernel
theorem dX12_readClause_181 : decode cX12_readClause 181 = .ok (.iload 4, 2) := by decide +kernel
theorem dX12_readClause_183 : decode cX12_readClause 183 = .ok (.iconst 1, 1) := by decide +kernel
theorem dX12_readClause_184 : decode cX12_readClause 184 = .ok (.iadd, 1) := by decide +kernel
theorem dX12_readClause_185 : decode cX12_readClause 185 = .ok (.aload_n 0, 1) := by decide +kernel
theorem dX12_readClause_186 : decode cX12_readClause 186 = .ok (.getfield 297, 3) := by decide +kernel
theorem dX12_readClause_189 : decode cX12_readClause 189 = .ok (.iastore, 1) := by decide +kernel
theorem dX12_readClause_190 : decode cX12_readClause 190 = .ok (.aload_n 0, 1) := by decide +kernel
theorem dX12_readClause_191 : decode cX12_readClause 191 = .ok (.iconst 0, 1) := by decide +kernel
theorem dX12_readClause_192 : decode cX12_readClause 192 = .ok (.invokevirtual 414, 3) := by decide +kernel
theorem dX12_readClause_195 : decode cX12_readClause 195 = .ok (.aload_n 0, 1) := by decide +kernel
theorem dX12_readClause_196 : decode cX12_readClause 196 = .ok (.getfield 34, 3) := by decide +kernel
theorem dX12_readClause_199 : decode cX12_readClause 199 = .ok (.iload 4, 2) := by decide +kernel
theorem dX12_readClause_201 : decode cX12_readClause 201 = .ok (.iconst 2, 1) := by decide +kernel
theorem dX12_readClause_202 : decode cX12_readClause 202 = .ok (.iadd, 1) := by decide +kernel
theorem dX12_readClause_203 : decode cX12_readClause 203 = .ok (.aload_n 0, 1) := by decide +kernel
theorem dX12_readClause_204 : decode cX12_readClause 204 = .ok (.getfield 297, 3) := by decide +kernel
theorem dX12_readClause_207 : decode cX12_readClause 207 = .ok (.iastore, 1) := by decide +kernel
theorem dX12_readClause_208 : decode cX12_readClause 208 = .ok (.aload_n 0, 1) := by decide +kernel
theorem dX12_readClause_209 : decode cX12_readClause 209 = .ok (.getfield 34, 3) := by decide +kernel
theorem dX12_readClause_212 : decode cX12_readClause 212 = .ok (.iload 4, 2) := by decide +kernel
theorem dX12_readClause_214 : decode cX12_readClause 214 = .ok (.iconst 3, 1) := by decide +kernel
theorem dX12_readClause_215 : decode cX12_readClause 215 = .ok (.iadd, 1) := by decide +kernel
theorem dX12_readClause_216 : decode cX12_readClause 216 = .ok (.aload_n 0, 1) := by decide +kernel
theorem dX12_readClause_217 : decode cX12_readClause 217 = .ok (.getfield 297, 3) := by decide +kernel
theorem dX12_readClause_220 : decode cX12_readClause 220 = .ok (.iastore, 1) := by decide +kernel
theorem dX12_readClause_221 : decode cX12_readClause 221 = .ok (.aload_n 0, 1) := by decide +kernel
theorem dX12_readClause_222 : decode cX12_readClause 222 = .ok (.getfield 261, 3) := by decide +kernel
theorem dX12_readClause_225 : decode cX12_readClause 225 = .ok (.ifCond .ne 22, 3) := by decide +kernel
theorem dX12_readClause_228 : decode cX12_readClause 228 = .ok (.aload_n 0, 1) := by decide +kernel
theorem dX12_readClause_229 : decode cX12_readClause 229 = .ok (.ldc2_w 417, 3) := by decide +kernel
theorem dX12_readClause_232 : decode cX12_readClause 232 = .ok (.invokevirtual 317, 3) := by decide +kernel
theorem dX12_readClause_235 : decode cX12_readClause 235 = .ok (.ifCond .eq 12, 3) := by decide +kernel
theorem dX12_readClause_238 : decode cX12_readClause 238 = .ok (.aload_n 0, 1) := by decide +kernel
theorem dX12_readClause_239 : decode cX12_readClause 239 = .ok (.invokevirtual 264, 3) := by decide +kernel
theorem dX12_readClause_242 : decode cX12_readClause 242 = .ok (.aload_n 0, 1) := by decide +kernel
theorem dX12_readClause_243 : decode cX12_readClause 243 = .ok (.iconst 1, 1) := by decide +kernel
theorem dX12_readClause_244 : decode cX12_readClause 244 = .ok (.invokevirtual 414, 3) := by decide +kernel
theorem dX12_readClause_247 : decode cX12_readClause 247 = .ok (.aload_n 0, 1) := by decide +kernel
theorem dX12_readClause_248 : decode cX12_readClause 248 = .ok (.getfield 34, 3) := by decide +kernel
theorem dX12_readClause_251 : decode cX12_readClause 251 = .ok (.iload 4, 2) := by decide +kernel
theorem dX12_readClause_253 : decode cX12_readClause 253 = .ok (.iconst 4, 1) := by decide +kernel
theorem dX12_readClause_254 : decode cX12_readClause 254 = .ok (.iadd, 1) := by decide +kernel
theorem dX12_readClause_255 : decode cX12_readClause 255 = .ok (.aload_n 0, 1) := by decide +kernel
theorem dX12_readClause_256 : decode cX12_readClause 256 = .ok (.getfield 297, 3) := by decide +kernel
theorem dX12_readClause_259 : decode cX12_readClause 259 = .ok (.iastore, 1) := by decide +kernel
theorem dX12_readClause_260 : decode cX12_readClause 260 = .ok (.return_, 1) := by decide +kernel
