abbrev cX12_contract : ByteArray := prog_14_method_87_code
def yX12_contract : MethodName := ⟨RX12, "contract", "()I"⟩
def wsX12_contract_r1 : List Cond := [Cond.fieldLink RX12 91 "ColdShipsModel" "thrown" "I", Cond.fieldLink RX12 7 "ColdShipsModel" "row" "[I", Cond.fieldLink RX12 252 "ColdShipsModel" "taped" "I", Cond.fieldLink RX12 391 "ColdShipsModel" "nClauses" "I", Cond.fieldLink RX12 411 "ColdShipsModel" "nPays" "I", Cond.fieldLink RX12 297 "ColdShipsModel" "nCode" "I", Cond.fieldLink RX12 351 "ColdShipsModel" "nLeaves" "I", Cond.fieldLink RX12 398 "ColdShipsModel" "nFrom" "I", Cond.fieldLink RX12 403 "ColdShipsModel" "nTo" "I", Cond.fieldLink RX12 408 "ColdShipsModel" "nAt" "I", Cond.fieldLink RX12 261 "ColdShipsModel" "bad" "Z", Cond.fieldLink RX12 280 "ColdShipsModel" "sort" "I", Cond.fieldLink RX12 34 "ColdShipsModel" "nClause" "[I", Cond.fieldLink RX12 37 "ColdShipsModel" "nOp" "[I", Cond.fieldLink RX12 40 "ColdShipsModel" "nArg" "[I", Cond.methodLink RX12 105 yX12_told, Cond.instanceMethod yX12_told, Cond.selects RX12 yX12_told yX12_told, Cond.initialized RX12, Cond.code yX12_told cX12_told 2 (some .int), Cond.fieldLink RX12 94 "ColdShipsModel" "status" "I", Cond.methodLink RX12 419 yX12_begin, Cond.instanceMethod yX12_begin, Cond.selects RX12 yX12_begin yX12_begin]
def wsX12_contract_r2 : List Cond := [Cond.code yX12_begin cX12_begin 1 none, Cond.fieldLink RX12 258 "ColdShipsModel" "to" "I", Cond.fieldLink RX12 30 "ColdShipsModel" "fault" "I", Cond.methodLink RX12 264 yX12_next, Cond.instanceMethod yX12_next, Cond.selects RX12 yX12_next yX12_next, Cond.code yX12_next cX12_next 1 none, Cond.fieldLink RX12 267 "ColdShipsModel" "from" "I", Cond.fieldLink RX12 27 "ColdShipsModel" "tape" "[I", Cond.fieldLink RX12 270 "ColdShipsModel" "worth" "J", Cond.constantLong RX12 283 (32), Cond.constantLong RX12 285 (96), Cond.constantLong RX12 158 (-1), Cond.constantLong RX12 287 (1000000), Cond.constantLong RX12 289 (10), Cond.constantLong RX12 291 (48), Cond.methodLink RX12 274 yX12_isSmall, Cond.static yX12_isSmall, Cond.code yX12_isSmall cX12_isSmall 1 (some .boolean), Cond.methodLink RX12 277 yX12_isDigit, Cond.static yX12_isDigit, Cond.code yX12_isDigit cX12_isDigit 1 (some .boolean), Cond.methodLink RX12 422 yX12_readClause, Cond.instanceMethod yX12_readClause]
def wsX12_contract_r3 : List Cond := [Cond.selects RX12 yX12_readClause yX12_readClause, Cond.code yX12_readClause cX12_readClause 5 none, Cond.constantLong RX12 383 (781652471), Cond.constantLong RX12 385 (52), Cond.constantLong RX12 387 (16441), Cond.constantLong RX12 389 (206277), Cond.constantLong RX12 97 (2399), Cond.constantLong RX12 401 (655), Cond.constantLong RX12 406 (5), Cond.constantLong RX12 417 (294), Cond.methodLink RX12 317 yX12_isWord, Cond.instanceMethod yX12_isWord, Cond.selects RX12 yX12_isWord yX12_isWord, Cond.code yX12_isWord cX12_isWord 3 (some .boolean), Cond.methodLink RX12 293 yX12_must, Cond.instanceMethod yX12_must, Cond.selects RX12 yX12_must yX12_must, Cond.code yX12_must cX12_must 2 none, Cond.methodLink RX12 394 yX12_number, Cond.instanceMethod yX12_number, Cond.selects RX12 yX12_number yX12_number, Cond.code yX12_number cX12_number 6 (some .int), Cond.methodLink RX12 99 yX12_in, Cond.static yX12_in]
def wsX12_contract_r4 : List Cond := [Cond.code yX12_in cX12_in 6 (some .boolean), Cond.methodLink RX12 414 yX12_readExpression, Cond.instanceMethod yX12_readExpression, Cond.selects RX12 yX12_readExpression yX12_readExpression, Cond.code yX12_readExpression cX12_readExpression 3 none, Cond.fieldLink RX12 300 "ColdShipsModel" "piled" "I", Cond.fieldLink RX12 335 "ColdShipsModel" "opened" "I", Cond.methodLink RX12 373 yX12_readPlain, Cond.instanceMethod yX12_readPlain, Cond.selects RX12 yX12_readPlain yX12_readPlain, Cond.code yX12_readPlain cX12_readPlain 1 (some .int), Cond.constantLong RX12 354 (14836), Cond.methodLink RX12 338 yX12_push, Cond.instanceMethod yX12_push, Cond.selects RX12 yX12_push yX12_push, Cond.code yX12_push cX12_push 3 none, Cond.fieldLink RX12 43 "ColdShipsModel" "pile" "[I", Cond.fieldLink RX12 46 "ColdShipsModel" "pileAt" "[I", Cond.methodLink RX12 341 yX12_isSign, Cond.instanceMethod yX12_isSign, Cond.selects RX12 yX12_isSign yX12_isSign, Cond.code yX12_isSign cX12_isSign 2 (some .boolean), Cond.methodLink RX12 344 yX12_open, Cond.instanceMethod yX12_open]
def wsX12_contract_r5 : List Cond := [Cond.selects RX12 yX12_open yX12_open, Cond.code yX12_open cX12_open 2 none, Cond.methodLink RX12 356 yX12_readPart, Cond.instanceMethod yX12_readPart, Cond.selects RX12 yX12_readPart yX12_readPart, Cond.code yX12_readPart cX12_readPart 4 (some .int), Cond.constantLong RX12 177 (100000), Cond.methodLink RX12 347 yX12_partAt, Cond.instanceMethod yX12_partAt, Cond.selects RX12 yX12_partAt yX12_partAt, Cond.code yX12_partAt cX12_partAt 1 (some .int), Cond.constantLong RX12 315 (671187), Cond.constantLong RX12 321 (76951716), Cond.constantLong RX12 323 (267316), Cond.constantLong RX12 325 (394885), Cond.constantLong RX12 327 (5294489), Cond.constantLong RX12 329 (17376357), Cond.constantLong RX12 331 (8902227), Cond.constantLong RX12 333 (5930468251205), Cond.methodLink RX12 306 yX12_emit, Cond.instanceMethod yX12_emit, Cond.selects RX12 yX12_emit yX12_emit, Cond.code yX12_emit cX12_emit 3 none, Cond.methodLink RX12 376 yX12_behindSum]
def wsX12_contract_r6 : List Cond := [Cond.instanceMethod yX12_behindSum, Cond.selects RX12 yX12_behindSum yX12_behindSum, Cond.code yX12_behindSum cX12_behindSum 4 (some .int), Cond.methodLink RX12 303 yX12_binds, Cond.static yX12_binds, Cond.code yX12_binds cX12_binds 1 (some .int), Cond.methodLink RX12 359 yX12_settleDown, Cond.instanceMethod yX12_settleDown, Cond.selects RX12 yX12_settleDown yX12_settleDown, Cond.code yX12_settleDown cX12_settleDown 2 none, Cond.methodLink RX12 362 yX12_inner, Cond.instanceMethod yX12_inner, Cond.selects RX12 yX12_inner yX12_inner, Cond.code yX12_inner cX12_inner 3 (some .int), Cond.methodLink RX12 365 yX12_isCompared, Cond.instanceMethod yX12_isCompared, Cond.selects RX12 yX12_isCompared yX12_isCompared, Cond.code yX12_isCompared cX12_isCompared 2 (some .boolean), Cond.constantLong RX12 309 (13), Cond.constantLong RX12 311 (14), Cond.constantLong RX12 313 (16), Cond.methodLink RX12 380 yX12_behindTest, Cond.instanceMethod yX12_behindTest, Cond.selects RX12 yX12_behindTest yX12_behindTest]
def wsX12_contract_r7 : List Cond := [Cond.code yX12_behindTest cX12_behindTest 2 (some .int), Cond.constantLong RX12 369 (1476), Cond.constantLong RX12 371 (498), Cond.methodLink RX12 118 yX12_addFour, Cond.instanceMethod yX12_addFour, Cond.selects RX12 yX12_addFour yX12_addFour, Cond.code yX12_addFour cX12_addFour 6 none]
def wsX12_contract : List Cond := .code yX12_contract cX12_contract 3 (some .int) :: ((wsX12_contract_r1 ++ (wsX12_contract_r2 ++ (wsX12_contract_r3 ++ (wsX12_contract_r4 ++ (wsX12_contract_r5 ++ (wsX12_contract_r6 ++ wsX12_contract_r7)))))) ++ wsX120)
set_option maxRecDepth 20000 in
theorem ggX12_contract_X12_told : GoodIn wsX12_contract wsX12_told := goodIn_r _ [20, 21, 152, 153, 154, 155, 156, 157, 158, 159, 160, 161, 162, 163, 164, 165, 166, 167, 168, 169, 170, 171, 172, 173, 174, 175, 176, 177, 178, 179, 180, 181, 182, 183, 184, 185, 186, 187, 188, 189, 190, 191, 192, 193, 194, 195, 196, 197, 198, 199, 200, 201, 202, 203, 204] (by decide +kernel) (by decide +kernel)
set_option maxRecDepth 20000 in
theorem gX12_contract_X12_told : GoodIn wsX12_contract (wsV RX12 105 RX12 yX12_told wsX12_told) := goodIn_app (goodIn_of _ (by decide +kernel)) ggX12_contract_X12_told
set_option maxRecDepth 20000 in
theorem ggX12_contract_X12_begin : GoodIn wsX12_contract wsX12_begin := goodIn_r _ [25, 26, 11, 27, 28, 29, 30, 19, 31, 32, 3, 33, 34, 12, 35, 36, 37, 38, 39, 40, 41, 42, 43, 44, 45, 46, 152, 153, 154, 155, 156, 157, 158, 159, 160, 161, 162, 163, 164, 165, 166, 167, 168, 169, 170, 171, 172, 173, 174, 175, 176, 177, 178, 179, 180, 181, 182, 183, 184, 185, 186, 187, 188, 189, 190, 191, 192, 193, 194, 195, 196, 197, 198, 199, 200, 201, 202, 203, 204] (by decide +kernel) (by decide +kernel)
set_option maxRecDepth 20000 in
theorem gX12_contract_X12_begin : GoodIn wsX12_contract (wsV RX12 419 RX12 yX12_begin wsX12_begin) := goodIn_app (goodIn_of _ (by decide +kernel)) ggX12_contract_X12_begin
set_option maxRecDepth 20000 in
theorem ggX12_contract_X12_readClause : GoodIn wsX12_contract wsX12_readClause := goodIn_r _ [50, 51, 52, 53, 54, 4, 11, 55, 8, 56, 9, 57, 10, 5, 13, 6, 58, 59, 60, 61, 19, 62, 12, 34, 63, 64, 65, 66, 32, 27, 28, 29, 30, 31, 26, 3, 33, 35, 36, 37, 38, 39, 40, 41, 42, 43, 44, 45, 46, 67, 68, 69, 70, 71, 72, 73, 74, 75, 76, 77, 78, 79, 80, 81, 82, 83, 84, 85, 86, 87, 88, 89, 90, 91, 92, 93, 94, 95, 96, 97, 98, 99, 100, 101, 102, 103, 7, 104, 105, 106, 107, 108, 109, 110, 111, 112, 113, 114, 115, 116, 117, 118, 119, 14, 15, 120, 121, 122, 123, 124, 125, 126, 127, 128, 129, 130, 131, 132, 133, 134, 135, 136, 137, 138, 139, 140, 141, 142, 143, 144, 145, 146, 147, 152, 153, 154, 155, 156, 157, 158, 159, 160, 161, 162, 163, 164, 165, 166, 167, 168, 169, 170, 171, 172, 173, 174, 175, 176, 177, 178, 179, 180, 181, 182, 183, 184, 185, 186, 187, 188, 189, 190, 191, 192, 193, 194, 195, 196, 197, 198, 199, 200, 201, 202, 203, 204] (by decide +kernel) (by decide +kernel)
set_option maxRecDepth 20000 in
theorem gX12_contract_X12_readClause : GoodIn wsX12_contract (wsV RX12 422 RX12 yX12_readClause wsX12_readClause) := goodIn_app (goodIn_of _ (by decide +kernel)) ggX12_contract_X12_readClause
set_option maxRecDepth 20000 in
theorem ggX12_contract_X12_isSign : GoodIn wsX12_contract wsX12_isSign := goodIn_r _ [94, 12, 34, 152, 153, 154, 155, 156, 157, 158, 159, 160, 161, 162, 163, 164, 165, 166, 167, 168, 169, 170, 171, 172, 173, 174, 175, 176, 177, 178, 179, 180, 181, 182, 183, 184, 185, 186, 187, 188, 189, 190, 191, 192, 193, 194, 195, 196, 197, 198, 199, 200, 201, 202, 203, 204] (by decide +kernel) (by decide +kernel)
set_option maxRecDepth 20000 in
theorem gX12_contract_X12_isSign : GoodIn wsX12_contract (wsV RX12 341 RX12 yX12_isSign wsX12_isSign) := goodIn_app (goodIn_of _ (by decide +kernel)) ggX12_contract_X12_isSign
set_option maxRecDepth 20000 in
theorem ggX12_contract_X12_next : GoodIn wsX12_contract wsX12_next := goodIn_r _ [31, 26, 32, 3, 33, 34, 12, 35, 36, 37, 38, 39, 40, 41, 42, 19, 43, 44, 45, 46, 152, 153, 154, 155, 156, 157, 158, 159, 160, 161, 162, 163, 164, 165, 166, 167, 168, 169, 170, 171, 172, 173, 174, 175, 176, 177, 178, 179, 180, 181, 182, 183, 184, 185, 186, 187, 188, 189, 190, 191, 192, 193, 194, 195, 196, 197, 198, 199, 200, 201, 202, 203, 204] (by decide +kernel) (by decide +kernel)
set_option maxRecDepth 20000 in
theorem gX12_contract_X12_next : GoodIn wsX12_contract (wsV RX12 264 RX12 yX12_next wsX12_next) := goodIn_app (goodIn_of _ (by decide +kernel)) ggX12_contract_X12_next
set_option maxRecDepth 20000 in
theorem ggX12_contract_X12_must : GoodIn wsX12_contract wsX12_must := goodIn_r _ [66, 11, 32, 27, 28, 29, 30, 19, 31, 26, 3, 33, 34, 12, 35, 36, 37, 38, 39, 40, 41, 42, 43, 44, 45, 46, 152, 153, 154, 155, 156, 157, 158, 159, 160, 161, 162, 163, 164, 165, 166, 167, 168, 169, 170, 171, 172, 173, 174, 175, 176, 177, 178, 179, 180, 181, 182, 183, 184, 185, 186, 187, 188, 189, 190, 191, 192, 193, 194, 195, 196, 197, 198, 199, 200, 201, 202, 203, 204] (by decide +kernel) (by decide +kernel)
set_option maxRecDepth 20000 in
theorem gX12_contract_X12_must : GoodIn wsX12_contract (wsV RX12 293 RX12 yX12_must wsX12_must) := goodIn_app (goodIn_of _ (by decide +kernel)) ggX12_contract_X12_must
set_option maxRecDepth 20000 in
theorem ggX12_contract_X12_addFour : GoodIn wsX12_contract wsX12_addFour := goodIn_r _ [151, 2, 152, 153, 154, 155, 156, 157, 158, 159, 160, 161, 162, 163, 164, 165, 166, 167, 168, 169, 170, 171, 172, 173, 174, 175, 176, 177, 178, 179, 180, 181, 182, 183, 184, 185, 186, 187, 188, 189, 190, 191, 192, 193, 194, 195, 196, 197, 198, 199, 200, 201, 202, 203, 204] (by decide +kernel) (by decide +kernel)
set_option maxRecDepth 20000 in
theorem gX12_contract_X12_addFour : GoodIn wsX12_contract (wsV RX12 118 RX12 yX12_addFour wsX12_addFour) := goodIn_app (goodIn_of _ (by decide +kernel)) ggX12_contract_X12_addFour
theorem dX12_contract_0 : decode cX12_contract 0 = .ok (.aload_n 0, 1) := by decide +kernel
theorem dX12_contract_1 : decode cX12_contract 1 = .ok (.iconst 0, 1) := by decide +kernel
theorem dX12_contract_2 : decode cX12_contract 2 = .ok (.putfield 91, 3) := by decide +kernel
theorem dX12_contract_5 : decode cX12_contract 5 = .ok (.aload_n 0, 1) := by decide +kernel
theorem dX12_contract_6 : decode cX12_contract 6 = .ok (.getfield 7, 3) := by decide +kernel
theorem dX12_contract_9 : decode cX12_contract 9 = .ok (.bipush 8, 2) := by decide +kernel
theorem dX12_contract_11 : decode cX12_contract 11 = .ok (.iaload, 1) := by decide +kernel
theorem dX12_contract_12 : decode cX12_contract 12 = .ok (.bipush 12, 2) := by decide +kernel
theorem dX12_contract_14 : decode cX12_contract 14 = .ok (.if_icmp .ne 15, 3) := by decide +kernel
theorem dX12_contract_17 : decode cX12_contract 17 = .ok (.aload_n 0, 1) := by decide +kernel
theorem dX12_contract_18 : decode cX12_contract 18 = .ok (.iconst 0, 1) := by decide +kernel
theorem dX12_contract_19 : decode cX12_contract 19 = .ok (.putfield 252, 3) := by decide +kernel
theorem dX12_contract_22 : decode cX12_contract 22 = .ok (.aload_n 0, 1) := by decide +kernel
theorem dX12_contract_23 : decode cX12_contract 23 = .ok (.bipush (-5), 2) := by decide +kernel
theorem dX12_contract_25 : decode cX12_contract 25 = .ok (.invokevirtual 105, 3) := by decide +kernel
theorem dX12_contract_28 : decode cX12_contract 28 = .ok (.ireturn, 1) := by decide +kernel
theorem dX12_contract_29 : decode cX12_contract 29 = .ok (.aload_n 0, 1) := by decide +kernel
theorem dX12_contract_30 : decode cX12_contract 30 = .ok (.invokevirtual 419, 3) := by decide +kernel
theorem dX12_contract_33 : decode cX12_contract 33 = .ok (.aload_n 0, 1) := by decide +kernel
theorem dX12_contract_34 : decode cX12_contract 34 = .ok (.iconst 0, 1) := by decide +kernel
theorem dX12_contract_35 : decode cX12_contract 35 = .ok (.putfield 391, 3) := by decide +kernel
theorem dX12_contract_38 : decode cX12_contract 38 = .ok (.aload_n 0, 1) := by decide +kernel
theorem dX12_contract_39 : decode cX12_contract 39 = .ok (.iconst 0, 1) := by decide +kernel
theorem dX12_contract_40 : decode cX12_contract 40 = .ok (.putfield 411, 3) := by decide +kernel
theorem dX12_contract_43 : decode cX12_contract 43 = .ok (.aload_n 0, 1) := by decide +kernel
theorem dX12_contract_44 : decode cX12_contract 44 = .ok (.iconst 0, 1) := by decide +kernel
theorem dX12_contract_45 : decode cX12_contract 45 = .ok (.putfield 297, 3) := by decide +kernel
theorem dX12_contract_48 : decode cX12_contract 48 = .ok (.aload_n 0, 1) := by decide +kernel
theorem dX12_contract_49 : decode cX12_contract 49 = .ok (.iconst 0, 1) := by decide +kernel
theorem dX12_contract_50 : decode cX12_contract 50 = .ok (.putfield 351, 3) := by decide +kernel
theorem dX12_contract_53 : decode cX12_contract 53 = .ok (.aload_n 0, 1) := by decide +kernel
theorem dX12_contract_54 : decode cX12_contract 54 = .ok (.iconst 0, 1) := by decide +kernel
theorem dX12_contract_55 : decode cX12_contract 55 = .ok (.putfield 398, 3) := by decide +kernel
theorem dX12_contract_58 : decode cX12_contract 58 = .ok (.aload_n 0, 1) := by decide +kernel
theorem dX12_contract_59 : decode cX12_contract 59 = .ok (.sipush 2399, 3) := by decide +kernel
theorem dX12_contract_62 : decode cX12_contract 62 = .ok (.putfield 403, 3) := by decide +kernel
theorem dX12_contract_65 : decode cX12_contract 65 = .ok (.aload_n 0, 1) := by decide +kernel
theorem dX12_contract_66 : decode cX12_contract 66 = .ok (.iconst (-1), 1) := by decide +kernel
theorem dX12_contract_67 : decode cX12_contract 67 = .ok (.putfield 408, 3) := by decide +kernel
theorem dX12_contract_70 : decode cX12_contract 70 = .ok (.aload_n 0, 1) := by decide +kernel
theorem dX12_contract_71 : decode cX12_contract 71 = .ok (.invokevirtual 422, 3) := by decide +kernel
theorem dX12_contract_74 : decode cX12_contract 74 = .ok (.aload_n 0, 1) := by decide +kernel
theorem dX12_contract_75 : decode cX12_contract 75 = .ok (.getfield 261, 3) := by decide +kernel
theorem dX12_contract_78 : decode cX12_contract 78 = .ok (.ifCond .ne 23, 3) := by decide +kernel
theorem dX12_contract_81 : decode cX12_contract 81 = .ok (.aload_n 0, 1) := by decide +kernel
theorem dX12_contract_82 : decode cX12_contract 82 = .ok (.bipush 59, 2) := by decide +kernel
theorem dX12_contract_84 : decode cX12_contract 84 = .ok (.invokevirtual 341, 3) := by decide +kernel
theorem dX12_contract_87 : decode cX12_contract 87 = .ok (.ifCond .eq 14, 3) := by decide +kernel
theorem dX12_contract_90 : decode cX12_contract 90 = .ok (.aload_n 0, 1) := by decide +kernel
theorem dX12_contract_91 : decode cX12_contract 91 = .ok (.invokevirtual 264, 3) := by decide +kernel
theorem dX12_contract_94 : decode cX12_contract 94 = .ok (.aload_n 0, 1) := by decide +kernel
theorem dX12_contract_95 : decode cX12_contract 95 = .ok (.invokevirtual 422, 3) := by decide +kernel
theorem dX12_contract_98 : decode cX12_contract 98 = .ok (.goto (-24), 3) := by decide +kernel
theorem dX12_contract_101 : decode cX12_contract 101 = .ok (.aload_n 0, 1) := by decide +kernel
theorem dX12_contract_102 : decode cX12_contract 102 = .ok (.getfield 261, 3) := by decide +kernel
theorem dX12_contract_105 : decode cX12_contract 105 = .ok (.ifCond .ne 15, 3) := by decide +kernel
theorem dX12_contract_108 : decode cX12_contract 108 = .ok (.aload_n 0, 1) := by decide +kernel
theorem dX12_contract_109 : decode cX12_contract 109 = .ok (.getfield 280, 3) := by decide +kernel
theorem dX12_contract_112 : decode cX12_contract 112 = .ok (.ifCond .eq 8, 3) := by decide +kernel
theorem dX12_contract_115 : decode cX12_contract 115 = .ok (.aload_n 0, 1) := by decide +kernel
theorem dX12_contract_116 : decode cX12_contract 116 = .ok (.iconst 0, 1) := by decide +kernel
theorem dX12_contract_117 : decode cX12_contract 117 = .ok (.invokevirtual 293, 3) := by decide +kernel
theorem dX12_contract_120 : decode cX12_contract 120 = .ok (.aload_n 0, 1) := by decide +kernel
theorem dX12_contract_121 : decode cX12_contract 121 = .ok (.iconst 0, 1) := by decide +kernel
theorem dX12_contract_122 : decode cX12_contract 122 = .ok (.putfield 252, 3) := by decide +kernel
theorem dX12_contract_125 : decode cX12_contract 125 = .ok (.aload_n 0, 1) := by decide +kernel
theorem dX12_contract_126 : decode cX12_contract 126 = .ok (.getfield 261, 3) := by decide +kernel
theorem dX12_contract_129 : decode cX12_contract 129 = .ok (.ifCond .eq 10, 3) := by decide +kernel
theorem dX12_contract_132 : decode cX12_contract 132 = .ok (.aload_n 0, 1) := by decide +kernel
theorem dX12_contract_133 : decode cX12_contract 133 = .ok (.bipush (-6), 2) := by decide +kernel
theorem dX12_contract_135 : decode cX12_contract 135 = .ok (.invokevirtual 105, 3) := by decide +kernel
theorem dX12_contract_138 : decode cX12_contract 138 = .ok (.ireturn, 1) := by decide +kernel
theorem dX12_contract_139 : decode cX12_contract 139 = .ok (.sipush 2251, 3) := by decide +kernel
theorem dX12_contract_142 : decode cX12_contract 142 = .ok (.sipush 864, 3) := by decide +kernel
theorem dX12_contract_145 : decode cX12_contract 145 = .ok (.aload_n 0, 1) := by decide +kernel
theorem dX12_contract_146 : decode cX12_contract 146 = .ok (.getfield 7, 3) := by decide +kernel
theorem dX12_contract_149 : decode cX12_contract 149 = .ok (.bipush 8, 2) := by decide +kernel
theorem dX12_contract_151 : decode cX12_contract 151 = .ok (.iaload, 1) := by decide +kernel
theorem dX12_contract_152 : decode cX12_contract 152 = .ok (.imul, 1) := by decide +kernel
theorem dX12_contract_153 : decode cX12_contract 153 = .ok (.iadd, 1) := by decide +kernel
theorem dX12_contract_154 : decode cX12_contract 154 = .ok (.istore_n 1, 1) := by decide +kernel
theorem dX12_contract_155 : decode cX12_contract 155 = .ok (.aload_n 0, 1) := by decide +kernel
theorem dX12_contract_156 : decode cX12_contract 156 = .ok (.iload_n 1, 1) := by decide +kernel
theorem dX12_contract_157 : decode cX12_contract 157 = .ok (.aload_n 0, 1) := by decide +kernel
theorem dX12_contract_158 : decode cX12_contract 158 = .ok (.getfield 398, 3) := by decide +kernel
theorem dX12_contract_161 : decode cX12_contract 161 = .ok (.aload_n 0, 1) := by decide +kernel
theorem dX12_contract_162 : decode cX12_contract 162 = .ok (.getfield 403, 3) := by decide +kernel
theorem dX12_contract_165 : decode cX12_contract 165 = .ok (.aload_n 0, 1) := by decide +kernel
theorem dX12_contract_166 : decode cX12_contract 166 = .ok (.getfield 408, 3) := by decide +kernel
theorem dX12_contract_169 : decode cX12_contract 169 = .ok (.aload_n 0, 1) := by decide +kernel
theorem dX12_contract_170 : decode cX12_contract 170 = .ok (.getfield 411, 3) := by decide +kernel
theorem dX12_contract_173 : decode cX12_contract 173 = .ok (.invokevirtual 118, 3) := by decide +kernel
theorem dX12_contract_176 : decode cX12_contract 176 = .ok (.iconst 0, 1) := by decide +kernel
theorem dX12_contract_177 : decode cX12_contract 177 = .ok (.istore_n 2, 1) := by decide +kernel
theorem dX12_contract_178 : decode cX12_contract 178 = .ok (.iload_n 2, 1) := by decide +kernel
theorem dX12_contract_179 : decode cX12_contract 179 = .ok (.iconst 5, 1) := by decide +kernel
theorem dX12_contract_180 : decode cX12_contract 180 = .ok (.aload_n 0, 1) := by decide +kernel
theorem dX12_contract_181 : decode cX12_contract 181 = .ok (.getfield 411, 3) := by decide +kernel
theorem dX12_contract_184 : decode cX12_contract 184 = .ok (.imul, 1) := by decide +kernel
theorem dX12_contract_185 : decode cX12_contract 185 = .ok (.if_icmp .ge 25, 3) := by decide +kernel
theorem dX12_contract_188 : decode cX12_contract 188 = .ok (.aload_n 0, 1) := by decide +kernel
theorem dX12_contract_189 : decode cX12_contract 189 = .ok (.getfield 7, 3) := by decide +kernel
theorem dX12_contract_192 : decode cX12_contract 192 = .ok (.iload_n 1, 1) := by decide +kernel
theorem dX12_contract_193 : decode cX12_contract 193 = .ok (.iconst 4, 1) := by decide +kernel
theorem dX12_contract_194 : decode cX12_contract 194 = .ok (.iadd, 1) := by decide +kernel
theorem dX12_contract_195 : decode cX12_contract 195 = .ok (.iload_n 2, 1) := by decide +kernel
theorem dX12_contract_196 : decode cX12_contract 196 = .ok (.iadd, 1) := by decide +kernel
theorem dX12_contract_197 : decode cX12_contract 197 = .ok (.aload_n 0, 1) := by decide +kernel
theorem dX12_contract_198 : decode cX12_contract 198 = .ok (.getfield 34, 3) := by decide +kernel
theorem dX12_contract_201 : decode cX12_contract 201 = .ok (.iload_n 2, 1) := by decide +kernel
theorem dX12_contract_202 : decode cX12_contract 202 = .ok (.iaload, 1) := by decide +kernel
theorem dX12_contract_203 : decode cX12_contract 203 = .ok (.iastore, 1) := by decide +kernel
theorem dX12_contract_204 : decode cX12_contract 204 = .ok (.iinc 2 1, 3) := by decide +kernel
theorem dX12_contract_207 : decode cX12_contract 207 = .ok (.goto (-29), 3) := by decide +kernel
theorem dX12_contract_210 : decode cX12_contract 210 = .ok (.iconst 0, 1) := by decide +kernel
theorem dX12_contract_211 : decode cX12_contract 211 = .ok (.istore_n 2, 1) := by decide +kernel
theorem dX12_contract_212 : decode cX12_contract 212 = .ok (.iload_n 2, 1) := by decide +kernel
theorem dX12_contract_213 : decode cX12_contract 213 = .ok (.aload_n 0, 1) := by decide +kernel
theorem dX12_contract_214 : decode cX12_contract 214 = .ok (.getfield 297, 3) := by decide +kernel
theorem dX12_contract_217 : decode cX12_contract 217 = .ok (.if_icmp .ge 49, 3) := by decide +kernel
theorem dX12_contract_220 : decode cX12_contract 220 = .ok (.aload_n 0, 1) := by decide +kernel
theorem dX12_contract_221 : decode cX12_contract 221 = .ok (.getfield 7, 3) := by decide +kernel
theorem dX12_contract_224 : decode cX12_contract 224 = .ok (.iload_n 1, 1) := by decide +kernel
theorem dX12_contract_225 : decode cX12_contract 225 = .ok (.bipush 64, 2) := by decide +kernel
theorem dX12_contract_227 : decode cX12_contract 227 = .ok (.iadd, 1) := by decide +kernel
theorem dX12_contract_228 : decode cX12_contract 228 = .ok (.iconst 2, 1) := by decide +kernel
theorem dX12_contract_229 : decode cX12_contract 229 = .ok (.iload_n 2, 1) := by decide +kernel
theorem dX12_contract_230 : decode cX12_contract 230 = .ok (.imul, 1) := by decide +kernel
theorem dX12_contract_231 : decode cX12_contract 231 = .ok (.iadd, 1) := by decide +kernel
theorem dX12_contract_232 : decode cX12_contract 232 = .ok (.aload_n 0, 1) := by decide +kernel
theorem dX12_contract_233 : decode cX12_contract 233 = .ok (.getfield 37, 3) := by decide +kernel
theorem dX12_contract_236 : decode cX12_contract 236 = .ok (.iload_n 2, 1) := by decide +kernel
theorem dX12_contract_237 : decode cX12_contract 237 = .ok (.iaload, 1) := by decide +kernel
theorem dX12_contract_238 : decode cX12_contract 238 = .ok (.iastore, 1) := by decide +kernel
theorem dX12_contract_239 : decode cX12_contract 239 = .ok (.aload_n 0, 1) := by decide +kernel
theorem dX12_contract_240 : decode cX12_contract 240 = .ok (.getfield 7, 3) := by decide +kernel
theorem dX12_contract_243 : decode cX12_contract 243 = .ok (.iload_n 1, 1) := by decide +kernel
theorem dX12_contract_244 : decode cX12_contract 244 = .ok (.bipush 64, 2) := by decide +kernel
theorem dX12_contract_246 : decode cX12_contract 246 = .ok (.iadd, 1) := by decide +kernel
theorem dX12_contract_247 : decode cX12_contract 247 = .ok (.iconst 2, 1) := by decide +kernel
theorem dX12_contract_248 : decode cX12_contract 248 = .ok (.iload_n 2, 1) := by decide +kernel
theorem dX12_contract_249 : decode cX12_contract 249 = .ok (.imul, 1) := by decide +kernel
theorem dX12_contract_250 : decode cX12_contract 250 = .ok (.iadd, 1) := by decide +kernel
theorem dX12_contract_251 : decode cX12_contract 251 = .ok (.iconst 1, 1) := by decide +kernel
theorem dX12_contract_252 : decode cX12_contract 252 = .ok (.iadd, 1) := by decide +kernel
theorem dX12_contract_253 : decode cX12_contract 253 = .ok (.aload_n 0, 1) := by decide +kernel
theorem dX12_contract_254 : decode cX12_contract 254 = .ok (.getfield 40, 3) := by decide +kernel
theorem dX12_contract_257 : decode cX12_contract 257 = .ok (.iload_n 2, 1) := by decide +kernel
theorem dX12_contract_258 : decode cX12_contract 258 = .ok (.iaload, 1) := by decide +kernel
theorem dX12_contract_259 : decode cX12_contract 259 = .ok (.iastore, 1) := by decide +kernel
theorem dX12_contract_260 : decode cX12_contract 260 = .ok (.iinc 2 1, 3) := by decide +kernel
theorem dX12_contract_263 : decode cX12_contract 263 = .ok (.goto (-51), 3) := by decide +kernel
theorem dX12_contract_266 : decode cX12_contract 266 = .ok (.aload_n 0, 1) := by decide +kernel
theorem dX12_contract_267 : decode cX12_contract 267 = .ok (.getfield 7, 3) := by decide +kernel
theorem dX12_contract_270 : decode cX12_contract 270 = .ok (.bipush 8, 2) := by decide +kernel
theorem dX12_contract_272 : decode cX12_contract 272 = .ok (.dup2, 1) := by decide +kernel
theorem dX12_contract_273 : decode cX12_contract 273 = .ok (.iaload, 1) := by decide +kernel
theorem dX12_contract_274 : decode cX12_contract 274 = .ok (.iconst 1, 1) := by decide +kernel
theorem dX12_contract_275 : decode cX12_contract 275 = .ok (.iadd, 1) := by decide +kernel
theorem dX12_contract_276 : decode cX12_contract 276 = .ok (.iastore, 1) := by decide +kernel
theorem dX12_contract_277 : decode cX12_contract 277 = .ok (.aload_n 0, 1) := by decide +kernel
theorem dX12_contract_278 : decode cX12_contract 278 = .ok (.aload_n 0, 1) := by decide +kernel
theorem dX12_contract_279 : decode cX12_contract 279 = .ok (.getfield 7, 3) := by decide +kernel
theorem dX12_contract_282 : decode cX12_contract 282 = .ok (.bipush 8, 2) := by decide +kernel
theorem dX12_contract_284 : decode cX12_contract 284 = .ok (.iaload, 1) := by decide +kernel
theorem dX12_contract_285 : decode cX12_contract 285 = .ok (.iconst 1, 1) := by decide +kernel
theorem dX12_contract_286 : decode cX12_contract 286 = .ok (.isub, 1) := by decide +kernel
theorem dX12_contract_287 : decode cX12_contract 287 = .ok (.invokevirtual 105, 3) := by decide +kernel
theorem dX12_contract_290 : decode cX12_contract 290 = .ok (.ireturn, 1) := by decide +kernel
