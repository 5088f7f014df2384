abbrev cX12_open : ByteArray := prog_14_method_80_code
def yX12_open : MethodName := ⟨RX12, "open", "(I)V"⟩
abbrev cX12_readPart : ByteArray := prog_14_method_81_code
def yX12_readPart : MethodName := ⟨RX12, "readPart", "()I"⟩
abbrev cX12_readPlain : ByteArray := prog_14_method_82_code
def yX12_readPlain : MethodName := ⟨RX12, "readPlain", "()I"⟩
abbrev cX12_behindSum : ByteArray := prog_14_method_83_code
def yX12_behindSum : MethodName := ⟨RX12, "behindSum", "(Z)I"⟩
abbrev cX12_behindTest : ByteArray := prog_14_method_84_code
def yX12_behindTest : MethodName := ⟨RX12, "behindTest", "()I"⟩
def wsX12_open_r1 : List Cond := [Cond.fieldLink RX12 335 "ColdShipsModel" "opened" "I", Cond.fieldLink RX12 261 "ColdShipsModel" "bad" "Z", Cond.methodLink RX12 293 yX12_must, Cond.instanceMethod yX12_must, Cond.selects RX12 yX12_must yX12_must, Cond.initialized RX12, Cond.code yX12_must cX12_must 2 none, Cond.fieldLink RX12 267 "ColdShipsModel" "from" "I", Cond.fieldLink RX12 30 "ColdShipsModel" "fault" "I", Cond.methodLink RX12 264 yX12_next, Cond.instanceMethod yX12_next, Cond.selects RX12 yX12_next yX12_next, Cond.code yX12_next cX12_next 1 none, Cond.fieldLink RX12 258 "ColdShipsModel" "to" "I", Cond.fieldLink RX12 252 "ColdShipsModel" "taped" "I", Cond.fieldLink RX12 27 "ColdShipsModel" "tape" "[I", Cond.fieldLink RX12 270 "ColdShipsModel" "worth" "J", Cond.fieldLink RX12 280 "ColdShipsModel" "sort" "I", Cond.constantLong RX12 283 (32), Cond.constantLong RX12 285 (96), Cond.constantLong RX12 158 (-1), Cond.constantLong RX12 287 (1000000), Cond.constantLong RX12 289 (10), Cond.constantLong RX12 291 (48)]
def wsX12_open_r2 : List Cond := [Cond.methodLink RX12 274 yX12_isSmall, Cond.static yX12_isSmall, Cond.code yX12_isSmall cX12_isSmall 1 (some .boolean), Cond.methodLink RX12 277 yX12_isDigit, Cond.static yX12_isDigit, Cond.code yX12_isDigit cX12_isDigit 1 (some .boolean), Cond.methodLink RX12 338 yX12_push, Cond.instanceMethod yX12_push, Cond.selects RX12 yX12_push yX12_push, Cond.code yX12_push cX12_push 3 none, Cond.fieldLink RX12 43 "ColdShipsModel" "pile" "[I", Cond.fieldLink RX12 300 "ColdShipsModel" "piled" "I", Cond.fieldLink RX12 46 "ColdShipsModel" "pileAt" "[I"]
def wsX12_open : List Cond := .code yX12_open cX12_open 2 none :: ((wsX12_open_r1 ++ wsX12_open_r2) ++ wsX120)
def wsX12_readPart_r1 : List Cond := [Cond.fieldLink RX12 280 "ColdShipsModel" "sort" "I", Cond.fieldLink RX12 270 "ColdShipsModel" "worth" "J", Cond.constantLong RX12 177 (100000), Cond.fieldLink RX12 351 "ColdShipsModel" "nLeaves" "I", Cond.fieldLink RX12 261 "ColdShipsModel" "bad" "Z", Cond.methodLink RX12 341 yX12_isSign, Cond.instanceMethod yX12_isSign, Cond.selects RX12 yX12_isSign yX12_isSign, Cond.initialized RX12, Cond.code yX12_isSign cX12_isSign 2 (some .boolean), Cond.methodLink RX12 344 yX12_open, Cond.instanceMethod yX12_open, Cond.selects RX12 yX12_open yX12_open, Cond.code yX12_open cX12_open 2 none, Cond.fieldLink RX12 335 "ColdShipsModel" "opened" "I", Cond.methodLink RX12 293 yX12_must, Cond.instanceMethod yX12_must, Cond.selects RX12 yX12_must yX12_must, Cond.code yX12_must cX12_must 2 none, Cond.fieldLink RX12 267 "ColdShipsModel" "from" "I", Cond.fieldLink RX12 30 "ColdShipsModel" "fault" "I", Cond.methodLink RX12 264 yX12_next, Cond.instanceMethod yX12_next, Cond.selects RX12 yX12_next yX12_next]
def wsX12_readPart_r2 : List Cond := [Cond.code yX12_next cX12_next 1 none, Cond.fieldLink RX12 258 "ColdShipsModel" "to" "I", Cond.fieldLink RX12 252 "ColdShipsModel" "taped" "I", Cond.fieldLink RX12 27 "ColdShipsModel" "tape" "[I", Cond.constantLong RX12 283 (32), Cond.constantLong RX12 285 (96), Cond.constantLong RX12 158 (-1), Cond.constantLong RX12 287 (1000000), Cond.constantLong RX12 289 (10), Cond.constantLong RX12 291 (48), Cond.methodLink RX12 274 yX12_isSmall, Cond.static yX12_isSmall, Cond.code yX12_isSmall cX12_isSmall 1 (some .boolean), Cond.methodLink RX12 277 yX12_isDigit, Cond.static yX12_isDigit, Cond.code yX12_isDigit cX12_isDigit 1 (some .boolean), Cond.methodLink RX12 338 yX12_push, Cond.instanceMethod yX12_push, Cond.selects RX12 yX12_push yX12_push, Cond.code yX12_push cX12_push 3 none, Cond.fieldLink RX12 43 "ColdShipsModel" "pile" "[I", Cond.fieldLink RX12 300 "ColdShipsModel" "piled" "I", Cond.fieldLink RX12 46 "ColdShipsModel" "pileAt" "[I", Cond.methodLink RX12 347 yX12_partAt]
def wsX12_readPart_r3 : List Cond := [Cond.instanceMethod yX12_partAt, Cond.selects RX12 yX12_partAt yX12_partAt, Cond.code yX12_partAt cX12_partAt 1 (some .int), Cond.constantLong RX12 315 (671187), Cond.constantLong RX12 321 (76951716), Cond.constantLong RX12 323 (267316), Cond.constantLong RX12 325 (394885), Cond.constantLong RX12 327 (5294489), Cond.constantLong RX12 329 (17376357), Cond.constantLong RX12 331 (8902227), Cond.constantLong RX12 333 (5930468251205), Cond.methodLink RX12 317 yX12_isWord, Cond.instanceMethod yX12_isWord, Cond.selects RX12 yX12_isWord yX12_isWord, Cond.code yX12_isWord cX12_isWord 3 (some .boolean), Cond.methodLink RX12 306 yX12_emit, Cond.instanceMethod yX12_emit, Cond.selects RX12 yX12_emit yX12_emit, Cond.code yX12_emit cX12_emit 3 none, Cond.fieldLink RX12 37 "ColdShipsModel" "nOp" "[I", Cond.fieldLink RX12 297 "ColdShipsModel" "nCode" "I", Cond.fieldLink RX12 40 "ColdShipsModel" "nArg" "[I"]
def wsX12_readPart : List Cond := .code yX12_readPart cX12_readPart 4 (some .int) :: ((wsX12_readPart_r1 ++ (wsX12_readPart_r2 ++ wsX12_readPart_r3)) ++ wsX120)
def wsX12_readPlain_r1 : List Cond := [Cond.constantLong RX12 354 (14836), Cond.methodLink RX12 317 yX12_isWord, Cond.instanceMethod yX12_isWord, Cond.selects RX12 yX12_isWord yX12_isWord, Cond.initialized RX12, Cond.code yX12_isWord cX12_isWord 3 (some .boolean), Cond.fieldLink RX12 280 "ColdShipsModel" "sort" "I", Cond.fieldLink RX12 270 "ColdShipsModel" "worth" "J", Cond.methodLink RX12 338 yX12_push, Cond.instanceMethod yX12_push, Cond.selects RX12 yX12_push yX12_push, Cond.code yX12_push cX12_push 3 none, Cond.fieldLink RX12 43 "ColdShipsModel" "pile" "[I", Cond.fieldLink RX12 300 "ColdShipsModel" "piled" "I", Cond.fieldLink RX12 46 "ColdShipsModel" "pileAt" "[I", Cond.methodLink RX12 264 yX12_next, Cond.instanceMethod yX12_next, Cond.selects RX12 yX12_next yX12_next, Cond.code yX12_next cX12_next 1 none, Cond.fieldLink RX12 258 "ColdShipsModel" "to" "I", Cond.fieldLink RX12 267 "ColdShipsModel" "from" "I", Cond.fieldLink RX12 252 "ColdShipsModel" "taped" "I", Cond.fieldLink RX12 27 "ColdShipsModel" "tape" "[I", Cond.constantLong RX12 283 (32)]
def wsX12_readPlain_r2 : List Cond := [Cond.constantLong RX12 285 (96), Cond.constantLong RX12 158 (-1), Cond.constantLong RX12 287 (1000000), Cond.constantLong RX12 289 (10), Cond.constantLong RX12 291 (48), Cond.methodLink RX12 274 yX12_isSmall, Cond.static yX12_isSmall, Cond.code yX12_isSmall cX12_isSmall 1 (some .boolean), Cond.methodLink RX12 277 yX12_isDigit, Cond.static yX12_isDigit, Cond.code yX12_isDigit cX12_isDigit 1 (some .boolean), Cond.methodLink RX12 341 yX12_isSign, Cond.instanceMethod yX12_isSign, Cond.selects RX12 yX12_isSign yX12_isSign, Cond.code yX12_isSign cX12_isSign 2 (some .boolean), Cond.methodLink RX12 344 yX12_open, Cond.instanceMethod yX12_open, Cond.selects RX12 yX12_open yX12_open, Cond.code yX12_open cX12_open 2 none, Cond.fieldLink RX12 335 "ColdShipsModel" "opened" "I", Cond.fieldLink RX12 261 "ColdShipsModel" "bad" "Z", Cond.methodLink RX12 293 yX12_must, Cond.instanceMethod yX12_must, Cond.selects RX12 yX12_must yX12_must]
def wsX12_readPlain_r3 : List Cond := [Cond.code yX12_must cX12_must 2 none, Cond.fieldLink RX12 30 "ColdShipsModel" "fault" "I", Cond.methodLink RX12 356 yX12_readPart, Cond.instanceMethod yX12_readPart, Cond.selects RX12 yX12_readPart yX12_readPart, Cond.code yX12_readPart cX12_readPart 4 (some .int), Cond.constantLong RX12 177 (100000), Cond.fieldLink RX12 351 "ColdShipsModel" "nLeaves" "I", Cond.methodLink RX12 347 yX12_partAt, Cond.instanceMethod yX12_partAt, Cond.selects RX12 yX12_partAt yX12_partAt, Cond.code yX12_partAt cX12_partAt 1 (some .int), Cond.constantLong RX12 315 (671187), Cond.constantLong RX12 321 (76951716), Cond.constantLong RX12 323 (267316), Cond.constantLong RX12 325 (394885), Cond.constantLong RX12 327 (5294489), Cond.constantLong RX12 329 (17376357), Cond.constantLong RX12 331 (8902227), Cond.constantLong RX12 333 (5930468251205), Cond.methodLink RX12 306 yX12_emit, Cond.instanceMethod yX12_emit, Cond.selects RX12 yX12_emit yX12_emit, Cond.code yX12_emit cX12_emit 3 none]
def wsX12_readPlain_r4 : List Cond := [Cond.fieldLink RX12 37 "ColdShipsModel" "nOp" "[I", Cond.fieldLink RX12 297 "ColdShipsModel" "nCode" "I", Cond.fieldLink RX12 40 "ColdShipsModel" "nArg" "[I"]
def wsX12_readPlain : List Cond := .code yX12_readPlain cX12_readPlain 1 (some .int) :: ((wsX12_readPlain_r1 ++ (wsX12_readPlain_r2 ++ (wsX12_readPlain_r3 ++ wsX12_readPlain_r4))) ++ wsX120)
def wsX12_behindSum_r1 : List Cond := [Cond.fieldLink RX12 261 "ColdShipsModel" "bad" "Z", Cond.fieldLink RX12 300 "ColdShipsModel" "piled" "I", Cond.fieldLink RX12 335 "ColdShipsModel" "opened" "I", Cond.methodLink RX12 341 yX12_isSign, Cond.instanceMethod yX12_isSign, Cond.selects RX12 yX12_isSign yX12_isSign, Cond.initialized RX12, Cond.code yX12_isSign cX12_isSign 2 (some .boolean), Cond.fieldLink RX12 280 "ColdShipsModel" "sort" "I", Cond.fieldLink RX12 270 "ColdShipsModel" "worth" "J", Cond.methodLink RX12 303 yX12_binds, Cond.static yX12_binds, Cond.code yX12_binds cX12_binds 1 (some .int), Cond.methodLink RX12 359 yX12_settleDown, Cond.instanceMethod yX12_settleDown, Cond.selects RX12 yX12_settleDown yX12_settleDown, Cond.code yX12_settleDown cX12_settleDown 2 none, Cond.fieldLink RX12 43 "ColdShipsModel" "pile" "[I", Cond.fieldLink RX12 40 "ColdShipsModel" "nArg" "[I", Cond.fieldLink RX12 46 "ColdShipsModel" "pileAt" "[I", Cond.fieldLink RX12 297 "ColdShipsModel" "nCode" "I", Cond.methodLink RX12 306 yX12_emit, Cond.instanceMethod yX12_emit, Cond.selects RX12 yX12_emit yX12_emit]
def wsX12_behindSum_r2 : List Cond := [Cond.code yX12_emit cX12_emit 3 none, Cond.fieldLink RX12 37 "ColdShipsModel" "nOp" "[I", Cond.methodLink RX12 338 yX12_push, Cond.instanceMethod yX12_push, Cond.selects RX12 yX12_push yX12_push, Cond.code yX12_push cX12_push 3 none, Cond.methodLink RX12 264 yX12_next, Cond.instanceMethod yX12_next, Cond.selects RX12 yX12_next yX12_next, Cond.code yX12_next cX12_next 1 none, Cond.fieldLink RX12 258 "ColdShipsModel" "to" "I", Cond.fieldLink RX12 267 "ColdShipsModel" "from" "I", Cond.fieldLink RX12 252 "ColdShipsModel" "taped" "I", Cond.fieldLink RX12 27 "ColdShipsModel" "tape" "[I", Cond.constantLong RX12 283 (32), Cond.constantLong RX12 285 (96), Cond.constantLong RX12 158 (-1), Cond.constantLong RX12 287 (1000000), Cond.constantLong RX12 289 (10), Cond.constantLong RX12 291 (48), Cond.methodLink RX12 274 yX12_isSmall, Cond.static yX12_isSmall, Cond.code yX12_isSmall cX12_isSmall 1 (some .boolean), Cond.methodLink RX12 277 yX12_isDigit]
def wsX12_behindSum_r3 : List Cond := [Cond.static yX12_isDigit, Cond.code yX12_isDigit cX12_isDigit 1 (some .boolean), Cond.methodLink RX12 362 yX12_inner, Cond.instanceMethod yX12_inner, Cond.selects RX12 yX12_inner yX12_inner, Cond.code yX12_inner cX12_inner 3 (some .int), Cond.methodLink RX12 293 yX12_must, Cond.instanceMethod yX12_must, Cond.selects RX12 yX12_must yX12_must, Cond.code yX12_must cX12_must 2 none, Cond.fieldLink RX12 30 "ColdShipsModel" "fault" "I", Cond.methodLink RX12 365 yX12_isCompared, Cond.instanceMethod yX12_isCompared, Cond.selects RX12 yX12_isCompared yX12_isCompared, Cond.code yX12_isCompared cX12_isCompared 2 (some .boolean), Cond.constantLong RX12 309 (13), Cond.constantLong RX12 311 (14), Cond.constantLong RX12 313 (16), Cond.methodLink RX12 99 yX12_in, Cond.static yX12_in, Cond.code yX12_in cX12_in 6 (some .boolean)]
def wsX12_behindSum : List Cond := .code yX12_behindSum cX12_behindSum 4 (some .int) :: ((wsX12_behindSum_r1 ++ (wsX12_behindSum_r2 ++ wsX12_behindSum_r3)) ++ wsX120)
def wsX12_behindTest_r1 : List Cond := [Cond.constantLong RX12 369 (1476), Cond.constantLong RX12 371 (498), Cond.fieldLink RX12 297 "ColdShipsModel" "nCode" "I", Cond.fieldLink RX12 261 "ColdShipsModel" "bad" "Z", Cond.fieldLink RX12 300 "ColdShipsModel" "piled" "I", Cond.fieldLink RX12 335 "ColdShipsModel" "opened" "I", Cond.methodLink RX12 317 yX12_isWord, Cond.instanceMethod yX12_isWord, Cond.selects RX12 yX12_isWord yX12_isWord, Cond.initialized RX12, Cond.code yX12_isWord cX12_isWord 3 (some .boolean), Cond.fieldLink RX12 280 "ColdShipsModel" "sort" "I", Cond.fieldLink RX12 270 "ColdShipsModel" "worth" "J", Cond.methodLink RX12 359 yX12_settleDown, Cond.instanceMethod yX12_settleDown, Cond.selects RX12 yX12_settleDown yX12_settleDown, Cond.code yX12_settleDown cX12_settleDown 2 none, Cond.fieldLink RX12 43 "ColdShipsModel" "pile" "[I", Cond.fieldLink RX12 40 "ColdShipsModel" "nArg" "[I", Cond.fieldLink RX12 46 "ColdShipsModel" "pileAt" "[I", Cond.methodLink RX12 303 yX12_binds, Cond.static yX12_binds, Cond.code yX12_binds cX12_binds 1 (some .int), Cond.methodLink RX12 306 yX12_emit]
def wsX12_behindTest_r2 : List Cond := [Cond.instanceMethod yX12_emit, Cond.selects RX12 yX12_emit yX12_emit, Cond.code yX12_emit cX12_emit 3 none, Cond.fieldLink RX12 37 "ColdShipsModel" "nOp" "[I", Cond.methodLink RX12 338 yX12_push, Cond.instanceMethod yX12_push, Cond.selects RX12 yX12_push yX12_push, Cond.code yX12_push cX12_push 3 none, Cond.methodLink RX12 264 yX12_next, Cond.instanceMethod yX12_next, Cond.selects RX12 yX12_next yX12_next, Cond.code yX12_next cX12_next 1 none, Cond.fieldLink RX12 258 "ColdShipsModel" "to" "I", Cond.fieldLink RX12 267 "ColdShipsModel" "from" "I", Cond.fieldLink RX12 252 "ColdShipsModel" "taped" "I", Cond.fieldLink RX12 27 "ColdShipsModel" "tape" "[I", Cond.constantLong RX12 283 (32), Cond.constantLong RX12 285 (96), Cond.constantLong RX12 158 (-1), Cond.constantLong RX12 287 (1000000), Cond.constantLong RX12 289 (10), Cond.constantLong RX12 291 (48), Cond.methodLink RX12 274 yX12_isSmall, Cond.static yX12_isSmall]
def wsX12_behindTest_r3 : List Cond := [Cond.code yX12_isSmall cX12_isSmall 1 (some .boolean), Cond.methodLink RX12 277 yX12_isDigit, Cond.static yX12_isDigit, Cond.code yX12_isDigit cX12_isDigit 1 (some .boolean), Cond.methodLink RX12 362 yX12_inner, Cond.instanceMethod yX12_inner, Cond.selects RX12 yX12_inner yX12_inner, Cond.code yX12_inner cX12_inner 3 (some .int), Cond.methodLink RX12 341 yX12_isSign, Cond.instanceMethod yX12_isSign, Cond.selects RX12 yX12_isSign yX12_isSign, Cond.code yX12_isSign cX12_isSign 2 (some .boolean), Cond.methodLink RX12 293 yX12_must, Cond.instanceMethod yX12_must, Cond.selects RX12 yX12_must yX12_must, Cond.code yX12_must cX12_must 2 none, Cond.fieldLink RX12 30 "ColdShipsModel" "fault" "I"]
def wsX12_behindTest : List Cond := .code yX12_behindTest cX12_behindTest 2 (some .int) :: ((wsX12_behindTest_r1 ++ (wsX12_behindTest_r2 ++ wsX12_behindTest_r3)) ++ wsX120)
set_option maxRecDepth 20000 in
theorem ggX12_open_X12_must : GoodIn wsX12_open wsX12_must := goodIn_r _ [7, 2, 8, 9, 10, 11, 12, 6, 13, 14, 15, 16, 17, 18, 19, 20, 21, 22, 23, 24, 25, 26, 27, 28, 29, 30, 38, 39, 40, 41, 42, 43, 44, 45, 46, 47, 48, 49, 50, 51, 52, 53, 54, 55, 56, 57, 58, 59, 60, 61, 62, 63, 64, 65, 66, 67, 68, 69, 70, 71, 72, 73, 74, 75, 76, 77, 78, 79, 80, 81, 82, 83, 84, 85, 86, 87, 88, 89, 90] (by decide +kernel) (by decide +kernel)
set_option maxRecDepth 20000 in
theorem gX12_open_X12_must : GoodIn wsX12_open (wsV RX12 293 RX12 yX12_must wsX12_must) := goodIn_app (goodIn_of _ (by decide +kernel)) ggX12_open_X12_must
set_option maxRecDepth 20000 in
theorem ggX12_open_X12_push : GoodIn wsX12_open wsX12_push := goodIn_r _ [34, 35, 36, 37, 38, 39, 40, 41, 42, 43, 44, 45, 46, 47, 48, 49, 50, 51, 52, 53, 54, 55, 56, 57, 58, 59, 60, 61, 62, 63, 64, 65, 66, 67, 68, 69, 70, 71, 72, 73, 74, 75, 76, 77, 78, 79, 80, 81, 82, 83, 84, 85, 86, 87, 88, 89, 90] (by decide +kernel) (by decide +kernel)
set_option maxRecDepth 20000 in
theorem gX12_open_X12_push : GoodIn wsX12_open (wsV RX12 338 RX12 yX12_push wsX12_push) := goodIn_app (goodIn_of _ (by decide +kernel)) ggX12_open_X12_push
theorem dX12_open_0 : decode cX12_open 0 = .ok (.aload_n 0, 1) := by decide +kernel
theorem dX12_open_1 : decode cX12_open 1 = .ok (.aload_n 0, 1) := by decide +kernel
theorem dX12_open_2 : decode cX12_open 2 = .ok (.getfield 335, 3) := by decide +kernel
theorem dX12_open_5 : decode cX12_open 5 = .ok (.bipush 8, 2) := by decide +kernel
theorem dX12_open_7 : decode cX12_open 7 = .ok (.if_icmp .ge 7, 3) := by decide +kernel
theorem dX12_open_10 : decode cX12_open 10 = .ok (.iconst 1, 1) := by decide +kernel
theorem dX12_open_11 : decode cX12_open 11 = .ok (.goto 4, 3) := by decide +kernel
theorem dX12_open_14 : decode cX12_open 14 = .ok (.iconst 0, 1) := by decide +kernel
theorem dX12_open_15 : decode cX12_open 15 = .ok (.invokevirtual 293, 3) := by decide +kernel
theorem dX12_open_18 : decode cX12_open 18 = .ok (.aload_n 0, 1) := by decide +kernel
theorem dX12_open_19 : decode cX12_open 19 = .ok (.getfield 261, 3) := by decide +kernel
theorem dX12_open_22 : decode cX12_open 22 = .ok (.ifCond .ne 19, 3) := by decide +kernel
theorem dX12_open_25 : decode cX12_open 25 = .ok (.aload_n 0, 1) := by decide +kernel
theorem dX12_open_26 : decode cX12_open 26 = .ok (.dup, 1) := by decide +kernel
theorem dX12_open_27 : decode cX12_open 27 = .ok (.getfield 335, 3) := by decide +kernel
theorem dX12_open_30 : decode cX12_open 30 = .ok (.iconst 1, 1) := by decide +kernel
theorem dX12_open_31 : decode cX12_open 31 = .ok (.iadd, 1) := by decide +kernel
theorem dX12_open_32 : decode cX12_open 32 = .ok (.putfield 335, 3) := by decide +kernel
theorem dX12_open_35 : decode cX12_open 35 = .ok (.aload_n 0, 1) := by decide +kernel
theorem dX12_open_36 : decode cX12_open 36 = .ok (.iload_n 1, 1) := by decide +kernel
theorem dX12_open_37 : decode cX12_open 37 = .ok (.iconst 0, 1) := by decide +kernel
theorem dX12_open_38 : decode cX12_open 38 = .ok (.invokevirtual 338, 3) := by decide +kernel
theorem dX12_open_41 : decode cX12_open 41 = .ok (.return_, 1) := by decide +kernel
set_option maxRecDepth 20000 in
theorem ggX12_readPart_X12_isSign : GoodIn wsX12_readPart wsX12_isSign := goodIn_r _ [10, 1, 2, 71, 72, 73, 74, 75, 76, 77, 78, 79, 80, 81, 82, 83, 84, 85, 86, 87, 88, 89, 90, 91, 92, 93, 94, 95, 96, 97, 98, 99, 100, 101, 102, 103, 104, 105, 106, 107, 108, 109, 110, 111, 112, 113, 114, 115, 116, 117, 118, 119, 120, 121, 122, 123] (by decide +kernel) (by decide +kernel)
set_option maxRecDepth 20000 in
theorem gX12_readPart_X12_isSign : GoodIn wsX12_readPart (wsV RX12 341 RX12 yX12_isSign wsX12_isSign) := goodIn_app (goodIn_of _ (by decide +kernel)) ggX12_readPart_X12_isSign
set_option maxRecDepth 20000 in
theorem ggX12_readPart_X12_open : GoodIn wsX12_readPart wsX12_open := goodIn_r _ [14, 15, 5, 16, 17, 18, 9, 19, 20, 21, 22, 23, 24, 25, 26, 27, 28, 2, 1, 29, 30, 31, 32, 33, 34, 35, 36, 37, 38, 39, 40, 41, 42, 43, 44, 45, 46, 47, 71, 72, 73, 74, 75, 76, 77, 78, 79, 80, 81, 82, 83, 84, 85, 86, 87, 88, 89, 90, 91, 92, 93, 94, 95, 96, 97, 98, 99, 100, 101, 102, 103, 104, 105, 106, 107, 108, 109, 110, 111, 112, 113, 114, 115, 116, 117, 118, 119, 120, 121, 122, 123] (by decide +kernel) (by decide +kernel)
set_option maxRecDepth 20000 in
theorem gX12_readPart_X12_open : GoodIn wsX12_readPart (wsV RX12 344 RX12 yX12_open wsX12_open) := goodIn_app (goodIn_of _ (by decide +kernel)) ggX12_readPart_X12_open
set_option maxRecDepth 20000 in
theorem ggX12_readPart_X12_partAt : GoodIn wsX12_readPart wsX12_partAt := goodIn_r _ [51, 52, 53, 54, 55, 56, 57, 58, 59, 60, 61, 62, 9, 63, 1, 2, 71, 72, 73, 74, 75, 76, 77, 78, 79, 80, 81, 82, 83, 84, 85, 86, 87, 88, 89, 90, 91, 92, 93, 94, 95, 96, 97, 98, 99, 100, 101, 102, 103, 104, 105, 106, 107, 108, 109, 110, 111, 112, 113, 114, 115, 116, 117, 118, 119, 120, 121, 122, 123] (by decide +kernel) (by decide +kernel)
set_option maxRecDepth 20000 in
theorem gX12_readPart_X12_partAt : GoodIn wsX12_readPart (wsV RX12 347 RX12 yX12_partAt wsX12_partAt) := goodIn_app (goodIn_of _ (by decide +kernel)) ggX12_readPart_X12_partAt
set_option maxRecDepth 20000 in
theorem ggX12_readPart_X12_must : GoodIn wsX12_readPart wsX12_must := goodIn_r _ [19, 5, 20, 21, 22, 23, 24, 9, 25, 26, 27, 28, 2, 1, 29, 30, 31, 32, 33, 34, 35, 36, 37, 38, 39, 40, 71, 72, 73, 74, 75, 76, 77, 78, 79, 80, 81, 82, 83, 84, 85, 86, 87, 88, 89, 90, 91, 92, 93, 94, 95, 96, 97, 98, 99, 100, 101, 102, 103, 104, 105, 106, 107, 108, 109, 110, 111, 112, 113, 114, 115, 116, 117, 118, 119, 120, 121, 122, 123] (by decide +kernel) (by decide +kernel)
set_option maxRecDepth 20000 in
theorem gX12_readPart_X12_must : GoodIn wsX12_readPart (wsV RX12 293 RX12 yX12_must wsX12_must) := goodIn_app (goodIn_of _ (by decide +kernel)) ggX12_readPart_X12_must
set_option maxRecDepth 20000 in
theorem ggX12_readPart_X12_emit : GoodIn wsX12_readPart wsX12_emit := goodIn_r _ [67, 68, 69, 70, 71, 72, 73, 74, 75, 76, 77, 78, 79, 80, 81, 82, 83, 84, 85, 86, 87, 88, 89, 90, 91, 92, 93, 94, 95, 96, 97, 98, 99, 100, 101, 102, 103, 104, 105, 106, 107, 108, 109, 110, 111, 112, 113, 114, 115, 116, 117, 118, 119, 120, 121, 122, 123] (by decide +kernel) (by decide +kernel)
set_option maxRecDepth 20000 in
theorem gX12_readPart_X12_emit : GoodIn wsX12_readPart (wsV RX12 306 RX12 yX12_emit wsX12_emit) := goodIn_app (goodIn_of _ (by decide +kernel)) ggX12_readPart_X12_emit
theorem dX12_readPart_0 : decode cX12_readPart 0 = .ok (.aload_n 0, 1) := by decide +kernel
theorem dX12_readPart_1 : decode cX12_readPart 1 = .ok (.bipush 91, 2) := by decide +kernel
theorem dX12_readPart_3 : decode cX12_readPart 3 = .ok (.invokevirtual 341, 3) := by decide +kernel
theorem dX12_readPart_6 : decode cX12_readPart 6 = .ok (.ifCond .eq 11, 3) := by decide +kernel
theorem dX12_readPart_9 : decode cX12_readPart 9 = .ok (.aload_n 0, 1) := by decide +kernel
theorem dX12_readPart_10 : decode cX12_readPart 10 = .ok (.bipush 31, 2) := by decide +kernel
theorem dX12_readPart_12 : decode cX12_readPart 12 = .ok (.invokevirtual 344, 3) := by decide +kernel
theorem dX12_readPart_15 : decode cX12_readPart 15 = .ok (.iconst 1, 1) := by decide +kernel
theorem dX12_readPart_16 : decode cX12_readPart 16 = .ok (.ireturn, 1) := by decide +kernel
theorem dX12_readPart_17 : decode cX12_readPart 17 = .ok (.aload_n 0, 1) := by decide +kernel
theorem dX12_readPart_18 : decode cX12_readPart 18 = .ok (.invokevirtual 347, 3) := by decide +kernel
theorem dX12_readPart_21 : decode cX12_readPart 21 = .ok (.istore_n 1, 1) := by decide +kernel
theorem dX12_readPart_22 : decode cX12_readPart 22 = .ok (.aload_n 0, 1) := by decide +kernel
theorem dX12_readPart_23 : decode cX12_readPart 23 = .ok (.getfield 280, 3) := by decide +kernel
theorem dX12_readPart_26 : decode cX12_readPart 26 = .ok (.iconst 2, 1) := by decide +kernel
theorem dX12_readPart_27 : decode cX12_readPart 27 = .ok (.if_icmp .ne 18, 3) := by decide +kernel
theorem dX12_readPart_30 : decode cX12_readPart 30 = .ok (.aload_n 0, 1) := by decide +kernel
theorem dX12_readPart_31 : decode cX12_readPart 31 = .ok (.getfield 270, 3) := by decide +kernel
theorem dX12_readPart_34 : decode cX12_readPart 34 = .ok (.ldc2_w 177, 3) := by decide +kernel
theorem dX12_readPart_37 : decode cX12_readPart 37 = .ok (.lcmp, 1) := by decide +kernel
theorem dX12_readPart_38 : decode cX12_readPart 38 = .ok (.ifCond .gt 7, 3) := by decide +kernel
theorem dX12_readPart_41 : decode cX12_readPart 41 = .ok (.iconst 1, 1) := by decide +kernel
theorem dX12_readPart_42 : decode cX12_readPart 42 = .ok (.goto 4, 3) := by decide +kernel
theorem dX12_readPart_45 : decode cX12_readPart 45 = .ok (.iconst 0, 1) := by decide +kernel
theorem dX12_readPart_46 : decode cX12_readPart 46 = .ok (.istore_n 2, 1) := by decide +kernel
theorem dX12_readPart_47 : decode cX12_readPart 47 = .ok (.iload_n 2, 1) := by decide +kernel
theorem dX12_readPart_48 : decode cX12_readPart 48 = .ok (.ifCond .eq 11, 3) := by decide +kernel
theorem dX12_readPart_51 : decode cX12_readPart 51 = .ok (.aload_n 0, 1) := by decide +kernel
theorem dX12_readPart_52 : decode cX12_readPart 52 = .ok (.getfield 270, 3) := by decide +kernel
theorem dX12_readPart_55 : decode cX12_readPart 55 = .ok (.l2i, 1) := by decide +kernel
theorem dX12_readPart_56 : decode cX12_readPart 56 = .ok (.goto 4, 3) := by decide +kernel
theorem dX12_readPart_59 : decode cX12_readPart 59 = .ok (.iconst 0, 1) := by decide +kernel
theorem dX12_readPart_60 : decode cX12_readPart 60 = .ok (.istore_n 3, 1) := by decide +kernel
theorem dX12_readPart_61 : decode cX12_readPart 61 = .ok (.aload_n 0, 1) := by decide +kernel
theorem dX12_readPart_62 : decode cX12_readPart 62 = .ok (.iload_n 1, 1) := by decide +kernel
theorem dX12_readPart_63 : decode cX12_readPart 63 = .ok (.iconst (-1), 1) := by decide +kernel
theorem dX12_readPart_64 : decode cX12_readPart 64 = .ok (.if_icmp .ne 7, 3) := by decide +kernel
theorem dX12_readPart_67 : decode cX12_readPart 67 = .ok (.iload_n 2, 1) := by decide +kernel
theorem dX12_readPart_68 : decode cX12_readPart 68 = .ok (.ifCond .eq 16, 3) := by decide +kernel
theorem dX12_readPart_71 : decode cX12_readPart 71 = .ok (.aload_n 0, 1) := by decide +kernel
theorem dX12_readPart_72 : decode cX12_readPart 72 = .ok (.getfield 351, 3) := by decide +kernel
theorem dX12_readPart_75 : decode cX12_readPart 75 = .ok (.bipush 50, 2) := by decide +kernel
theorem dX12_readPart_77 : decode cX12_readPart 77 = .ok (.if_icmp .ge 7, 3) := by decide +kernel
theorem dX12_readPart_80 : decode cX12_readPart 80 = .ok (.iconst 1, 1) := by decide +kernel
theorem dX12_readPart_81 : decode cX12_readPart 81 = .ok (.goto 4, 3) := by decide +kernel
theorem dX12_readPart_84 : decode cX12_readPart 84 = .ok (.iconst 0, 1) := by decide +kernel
theorem dX12_readPart_85 : decode cX12_readPart 85 = .ok (.invokevirtual 293, 3) := by decide +kernel
theorem dX12_readPart_88 : decode cX12_readPart 88 = .ok (.aload_n 0, 1) := by decide +kernel
theorem dX12_readPart_89 : decode cX12_readPart 89 = .ok (.getfield 261, 3) := by decide +kernel
theorem dX12_readPart_92 : decode cX12_readPart 92 = .ok (.ifCond .ne 28, 3) := by decide +kernel
theorem dX12_readPart_95 : decode cX12_readPart 95 = .ok (.aload_n 0, 1) := by decide +kernel
theorem dX12_readPart_96 : decode cX12_readPart 96 = .ok (.iload_n 1, 1) := by decide +kernel
theorem dX12_readPart_97 : decode cX12_readPart 97 = .ok (.iconst (-1), 1) := by decide +kernel
theorem dX12_readPart_98 : decode cX12_readPart 98 = .ok (.if_icmp .ne 7, 3) := by decide +kernel
theorem dX12_readPart_101 : decode cX12_readPart 101 = .ok (.iconst 0, 1) := by decide +kernel
theorem dX12_readPart_102 : decode cX12_readPart 102 = .ok (.goto 4, 3) := by decide +kernel
theorem dX12_readPart_105 : decode cX12_readPart 105 = .ok (.iload_n 1, 1) := by decide +kernel
theorem dX12_readPart_106 : decode cX12_readPart 106 = .ok (.iload_n 3, 1) := by decide +kernel
theorem dX12_readPart_107 : decode cX12_readPart 107 = .ok (.invokevirtual 306, 3) := by decide +kernel
theorem dX12_readPart_110 : decode cX12_readPart 110 = .ok (.aload_n 0, 1) := by decide +kernel
theorem dX12_readPart_111 : decode cX12_readPart 111 = .ok (.dup, 1) := by decide +kernel
theorem dX12_readPart_112 : decode cX12_readPart 112 = .ok (.getfield 351, 3) := by decide +kernel
theorem dX12_readPart_115 : decode cX12_readPart 115 = .ok (.iconst 1, 1) := by decide +kernel
theorem dX12_readPart_116 : decode cX12_readPart 116 = .ok (.iadd, 1) := by decide +kernel
theorem dX12_readPart_117 : decode cX12_readPart 117 = .ok (.putfield 351, 3) := by decide +kernel
theorem dX12_readPart_120 : decode cX12_readPart 120 = .ok (.iconst 3, 1) := by decide +kernel
theorem dX12_readPart_121 : decode cX12_readPart 121 = .ok (.ireturn, 1) := by decide +kernel
set_option maxRecDepth 20000 in
theorem ggX12_readPlain_X12_isWord : GoodIn wsX12_readPlain wsX12_isWord := goodIn_r _ [6, 7, 8, 76, 77, 78, 79, 80, 81, 82, 83, 84, 85, 86, 87, 88, 89, 90, 91, 92, 93, 94, 95, 96, 97, 98, 99, 100, 101, 102, 103, 104, 105, 106, 107, 108, 109, 110, 111, 112, 113, 114, 115, 116, 117, 118, 119, 120, 121, 122, 123, 124, 125, 126, 127, 128] (by decide +kernel) (by decide +kernel)
set_option maxRecDepth 20000 in
theorem gX12_readPlain_X12_isWord : GoodIn wsX12_readPlain (wsV RX12 317 RX12 yX12_isWord wsX12_isWord) := goodIn_app (goodIn_of _ (by decide +kernel)) ggX12_readPlain_X12_isWord
set_option maxRecDepth 20000 in
theorem ggX12_readPlain_X12_push : GoodIn wsX12_readPlain wsX12_push := goodIn_r _ [12, 13, 14, 15, 76, 77, 78, 79, 80, 81, 82, 83, 84, 85, 86, 87, 88, 89, 90, 91, 92, 93, 94, 95, 96, 97, 98, 99, 100, 101, 102, 103, 104, 105, 106, 107, 108, 109, 110, 111, 112, 113, 114, 115, 116, 117, 118, 119, 120, 121, 122, 123, 124, 125, 126, 127, 128] (by decide +kernel) (by decide +kernel)
set_option maxRecDepth 20000 in
theorem gX12_readPlain_X12_push : GoodIn wsX12_readPlain (wsV RX12 338 RX12 yX12_push wsX12_push) := goodIn_app (goodIn_of _ (by decide +kernel)) ggX12_readPlain_X12_push
set_option maxRecDepth 20000 in
theorem ggX12_readPlain_X12_next : GoodIn wsX12_readPlain wsX12_next := goodIn_r _ [19, 20, 21, 22, 23, 8, 7, 24, 25, 26, 27, 28, 29, 30, 31, 5, 32, 33, 34, 35, 76, 77, 78, 79, 80, 81, 82, 83, 84, 85, 86, 87, 88, 89, 90, 91, 92, 93, 94, 95, 96, 97, 98, 99, 100, 101, 102, 103, 104, 105, 106, 107, 108, 109, 110, 111, 112, 113, 114, 115, 116, 117, 118, 119, 120, 121, 122, 123, 124, 125, 126, 127, 128] (by decide +kernel) (by decide +kernel)
set_option maxRecDepth 20000 in
theorem gX12_readPlain_X12_next : GoodIn wsX12_readPlain (wsV RX12 264 RX12 yX12_next wsX12_next) := goodIn_app (goodIn_of _ (by decide +kernel)) ggX12_readPlain_X12_next
set_option maxRecDepth 20000 in
theorem ggX12_readPlain_X12_isSign : GoodIn wsX12_readPlain wsX12_isSign := goodIn_r _ [39, 7, 8, 76, 77, 78, 79, 80, 81, 82, 83, 84, 85, 86, 87, 88, 89, 90, 91, 92, 93, 94, 95, 96, 97, 98, 99, 100, 101, 102, 103, 104, 105, 106, 107, 108, 109, 110, 111, 112, 113, 114, 115, 116, 117, 118, 119, 120, 121, 122, 123, 124, 125, 126, 127, 128] (by decide +kernel) (by decide +kernel)
set_option maxRecDepth 20000 in
theorem gX12_readPlain_X12_isSign : GoodIn wsX12_readPlain (wsV RX12 341 RX12 yX12_isSign wsX12_isSign) := goodIn_app (goodIn_of _ (by decide +kernel)) ggX12_readPlain_X12_isSign
set_option maxRecDepth 20000 in
theorem ggX12_readPlain_X12_open : GoodIn wsX12_readPlain wsX12_open := goodIn_r _ [43, 44, 45, 46, 47, 48, 5, 49, 21, 50, 16, 17, 18, 19, 20, 22, 23, 8, 7, 24, 25, 26, 27, 28, 29, 30, 31, 32, 33, 34, 35, 9, 10, 11, 12, 13, 14, 15, 76, 77, 78, 79, 80, 81, 82, 83, 84, 85, 86, 87, 88, 89, 90, 91, 92, 93, 94, 95, 96, 97, 98, 99, 100, 101, 102, 103, 104, 105, 106, 107, 108, 109, 110, 111, 112, 113, 114, 115, 116, 117, 118, 119, 120, 121, 122, 123, 124, 125, 126, 127, 128] (by decide +kernel) (by decide +kernel)
set_option maxRecDepth 20000 in
theorem gX12_readPlain_X12_open : GoodIn wsX12_readPlain (wsV RX12 344 RX12 yX12_open wsX12_open) := goodIn_app (goodIn_of _ (by decide +kernel)) ggX12_readPlain_X12_open
set_option maxRecDepth 20000 in
theorem ggX12_readPlain_X12_readPart : GoodIn wsX12_readPlain wsX12_readPart := goodIn_r _ [54, 7, 8, 55, 56, 45, 36, 37, 38, 5, 39, 40, 41, 42, 43, 44, 46, 47, 48, 49, 21, 50, 16, 17, 18, 19, 20, 22, 23, 24, 25, 26, 27, 28, 29, 30, 31, 32, 33, 34, 35, 9, 10, 11, 12, 13, 14, 15, 57, 58, 59, 60, 61, 62, 63, 64, 65, 66, 67, 68, 2, 3, 4, 6, 69, 70, 71, 72, 73, 74, 75, 76, 77, 78, 79, 80, 81, 82, 83, 84, 85, 86, 87, 88, 89, 90, 91, 92, 93, 94, 95, 96, 97, 98, 99, 100, 101, 102, 103, 104, 105, 106, 107, 108, 109, 110, 111, 112, 113, 114, 115, 116, 117, 118, 119, 120, 121, 122, 123, 124, 125, 126, 127, 128] (by decide +kernel) (by decide +kernel)
set_option maxRecDepth 20000 in
theorem gX12_readPlain_X12_readPart : GoodIn wsX12_readPlain (wsV RX12 356 RX12 yX12_readPart wsX12_readPart) := goodIn_app (goodIn_of _ (by decide +kernel)) ggX12_readPlain_X12_readPart
theorem dX12_readPlain_0 : decode cX12_readPlain 0 = .ok (.aload_n 0, 1) := by decide +kernel
theorem dX12_readPlain_1 : decode cX12_readPlain 1 = .ok (.ldc2_w 354, 3) := by decide +kernel
theorem dX12_readPlain_4 : decode cX12_readPlain 4 = .ok (.invokevirtual 317, 3) := by decide +kernel
theorem dX12_readPlain_7 : decode cX12_readPlain 7 = .ok (.ifCond .eq 16, 3) := by decide +kernel
theorem dX12_readPlain_10 : decode cX12_readPlain 10 = .ok (.aload_n 0, 1) := by decide +kernel
theorem dX12_readPlain_11 : decode cX12_readPlain 11 = .ok (.bipush 17, 2) := by decide +kernel
theorem dX12_readPlain_13 : decode cX12_readPlain 13 = .ok (.iconst 0, 1) := by decide +kernel
theorem dX12_readPlain_14 : decode cX12_readPlain 14 = .ok (.invokevirtual 338, 3) := by decide +kernel
theorem dX12_readPlain_17 : decode cX12_readPlain 17 = .ok (.aload_n 0, 1) := by decide +kernel
theorem dX12_readPlain_18 : decode cX12_readPlain 18 = .ok (.invokevirtual 264, 3) := by decide +kernel
theorem dX12_readPlain_21 : decode cX12_readPlain 21 = .ok (.iconst 0, 1) := by decide +kernel
theorem dX12_readPlain_22 : decode cX12_readPlain 22 = .ok (.ireturn, 1) := by decide +kernel
theorem dX12_readPlain_23 : decode cX12_readPlain 23 = .ok (.aload_n 0, 1) := by decide +kernel
theorem dX12_readPlain_24 : decode cX12_readPlain 24 = .ok (.bipush 40, 2) := by decide +kernel
theorem dX12_readPlain_26 : decode cX12_readPlain 26 = .ok (.invokevirtual 341, 3) := by decide +kernel
theorem dX12_readPlain_29 : decode cX12_readPlain 29 = .ok (.ifCond .eq 11, 3) := by decide +kernel
theorem dX12_readPlain_32 : decode cX12_readPlain 32 = .ok (.aload_n 0, 1) := by decide +kernel
theorem dX12_readPlain_33 : decode cX12_readPlain 33 = .ok (.bipush 30, 2) := by decide +kernel
theorem dX12_readPlain_35 : decode cX12_readPlain 35 = .ok (.invokevirtual 344, 3) := by decide +kernel
theorem dX12_readPlain_38 : decode cX12_readPlain 38 = .ok (.iconst 0, 1) := by decide +kernel
theorem dX12_readPlain_39 : decode cX12_readPlain 39 = .ok (.ireturn, 1) := by decide +kernel
theorem dX12_readPlain_40 : decode cX12_readPlain 40 = .ok (.aload_n 0, 1) := by decide +kernel
theorem dX12_readPlain_41 : decode cX12_readPlain 41 = .ok (.invokevirtual 356, 3) := by decide +kernel
theorem dX12_readPlain_44 : decode cX12_readPlain 44 = .ok (.ireturn, 1) := by decide +kernel
set_option maxRecDepth 20000 in
theorem ggX12_behindSum_X12_isSign : GoodIn wsX12_behindSum wsX12_isSign := goodIn_r _ [8, 9, 10, 70, 71, 72, 73, 74, 75, 76, 77, 78, 79, 80, 81, 82, 83, 84, 85, 86, 87, 88, 89, 90, 91, 92, 93, 94, 95, 96, 97, 98, 99, 100, 101, 102, 103, 104, 105, 106, 107, 108, 109, 110, 111, 112, 113, 114, 115, 116, 117, 118, 119, 120, 121, 122] (by decide +kernel) (by decide +kernel)
set_option maxRecDepth 20000 in
theorem gX12_behindSum_X12_isSign : GoodIn wsX12_behindSum (wsV RX12 341 RX12 yX12_isSign wsX12_isSign) := goodIn_app (goodIn_of _ (by decide +kernel)) ggX12_behindSum_X12_isSign
set_option maxRecDepth 20000 in
theorem ggX12_behindSum_X12_binds : GoodIn wsX12_behindSum wsX12_binds := goodIn_r _ [13] (by decide +kernel) (by decide +kernel)
set_option maxRecDepth 20000 in
theorem gX12_behindSum_X12_binds : GoodIn wsX12_behindSum (va_wsS RX12 303 yX12_binds wsX12_binds) := goodIn_app (goodIn_of _ (by decide +kernel)) ggX12_behindSum_X12_binds
set_option maxRecDepth 20000 in
theorem ggX12_behindSum_X12_settleDown : GoodIn wsX12_behindSum wsX12_settleDown := goodIn_r _ [17, 2, 18, 19, 20, 21, 11, 12, 7, 13, 22, 23, 24, 25, 26, 70, 71, 72, 73, 74, 75, 76, 77, 78, 79, 80, 81, 82, 83, 84, 85, 86, 87, 88, 89, 90, 91, 92, 93, 94, 95, 96, 97, 98, 99, 100, 101, 102, 103, 104, 105, 106, 107, 108, 109, 110, 111, 112, 113, 114, 115, 116, 117, 118, 119, 120, 121, 122] (by decide +kernel) (by decide +kernel)
set_option maxRecDepth 20000 in
theorem gX12_behindSum_X12_settleDown : GoodIn wsX12_behindSum (wsV RX12 359 RX12 yX12_settleDown wsX12_settleDown) := goodIn_app (goodIn_of _ (by decide +kernel)) ggX12_behindSum_X12_settleDown
set_option maxRecDepth 20000 in
theorem ggX12_behindSum_X12_push : GoodIn wsX12_behindSum wsX12_push := goodIn_r _ [30, 18, 2, 20, 70, 71, 72, 73, 74, 75, 76, 77, 78, 79, 80, 81, 82, 83, 84, 85, 86, 87, 88, 89, 90, 91, 92, 93, 94, 95, 96, 97, 98, 99, 100, 101, 102, 103, 104, 105, 106, 107, 108, 109, 110, 111, 112, 113, 114, 115, 116, 117, 118, 119, 120, 121, 122] (by decide +kernel) (by decide +kernel)
set_option maxRecDepth 20000 in
theorem gX12_behindSum_X12_push : GoodIn wsX12_behindSum (wsV RX12 338 RX12 yX12_push wsX12_push) := goodIn_app (goodIn_of _ (by decide +kernel)) ggX12_behindSum_X12_push
set_option maxRecDepth 20000 in
theorem ggX12_behindSum_X12_next : GoodIn wsX12_behindSum wsX12_next := goodIn_r _ [34, 35, 36, 37, 38, 10, 9, 39, 40, 41, 42, 43, 44, 45, 46, 7, 47, 48, 49, 50, 70, 71, 72, 73, 74, 75, 76, 77, 78, 79, 80, 81, 82, 83, 84, 85, 86, 87, 88, 89, 90, 91, 92, 93, 94, 95, 96, 97, 98, 99, 100, 101, 102, 103, 104, 105, 106, 107, 108, 109, 110, 111, 112, 113, 114, 115, 116, 117, 118, 119, 120, 121, 122] (by decide +kernel) (by decide +kernel)
set_option maxRecDepth 20000 in
theorem gX12_behindSum_X12_next : GoodIn wsX12_behindSum (wsV RX12 264 RX12 yX12_next wsX12_next) := goodIn_app (goodIn_of _ (by decide +kernel)) ggX12_behindSum_X12_next
set_option maxRecDepth 20000 in
theorem ggX12_behindSum_X12_inner : GoodIn wsX12_behindSum wsX12_inner := goodIn_r _ [54, 2, 18, 70, 71, 72, 73, 74, 75, 76, 77, 78, 79, 80, 81, 82, 83, 84, 85, 86, 87, 88, 89, 90, 91, 92, 93, 94, 95, 96, 97, 98, 99, 100, 101, 102, 103, 104, 105, 106, 107, 108, 109, 110, 111, 112, 113, 114, 115, 116, 117, 118, 119, 120, 121, 122] (by decide +kernel) (by decide +kernel)
set_option maxRecDepth 20000 in
theorem gX12_behindSum_X12_inner : GoodIn wsX12_behindSum (wsV RX12 362 RX12 yX12_inner wsX12_inner) := goodIn_app (goodIn_of _ (by decide +kernel)) ggX12_behindSum_X12_inner
set_option maxRecDepth 20000 in
theorem ggX12_behindSum_X12_must : GoodIn wsX12_behindSum wsX12_must := goodIn_r _ [58, 1, 36, 59, 31, 32, 33, 7, 34, 35, 37, 38, 10, 9, 39, 40, 41, 42, 43, 44, 45, 46, 47, 48, 49, 50, 70, 71, 72, 73, 74, 75, 76, 77, 78, 79, 80, 81, 82, 83, 84, 85, 86, 87, 88, 89, 90, 91, 92, 93, 94, 95, 96, 97, 98, 99, 100, 101, 102, 103, 104, 105, 106, 107, 108, 109, 110, 111, 112, 113, 114, 115, 116, 117, 118, 119, 120, 121, 122] (by decide +kernel) (by decide +kernel)
set_option maxRecDepth 20000 in
theorem gX12_behindSum_X12_must : GoodIn wsX12_behindSum (wsV RX12 293 RX12 yX12_must wsX12_must) := goodIn_app (goodIn_of _ (by decide +kernel)) ggX12_behindSum_X12_must
set_option maxRecDepth 20000 in
theorem ggX12_behindSum_X12_isCompared : GoodIn wsX12_behindSum wsX12_isCompared := goodIn_r _ [63, 2, 18, 43, 64, 65, 66, 67, 68, 7, 69, 70, 71, 72, 73, 74, 75, 76, 77, 78, 79, 80, 81, 82, 83, 84, 85, 86, 87, 88, 89, 90, 91, 92, 93, 94, 95, 96, 97, 98, 99, 100, 101, 102, 103, 104, 105, 106, 107, 108, 109, 110, 111, 112, 113, 114, 115, 116, 117, 118, 119, 120, 121, 122] (by decide +kernel) (by decide +kernel)
set_option maxRecDepth 20000 in
theorem gX12_behindSum_X12_isCompared : GoodIn wsX12_behindSum (wsV RX12 365 RX12 yX12_isCompared wsX12_isCompared) := goodIn_app (goodIn_of _ (by decide +kernel)) ggX12_behindSum_X12_isCompared
theorem dX12_behindSum_0 : decode cX12_behindSum 0 = .ok (.aload_n 0, 1) := by decide +kernel
theorem dX12_behindSum_1 : decode cX12_behindSum 1 = .ok (.bipush 43, 2) := by decide +kernel
theorem dX12_behindSum_3 : decode cX12_behindSum 3 = .ok (.invokevirtual 341, 3) := by decide +kernel
theorem dX12_behindSum_6 : decode cX12_behindSum 6 = .ok (.ifCond .eq 8, 3) := by decide +kernel
theorem dX12_behindSum_9 : decode cX12_behindSum 9 = .ok (.bipush 10, 2) := by decide +kernel
theorem dX12_behindSum_11 : decode cX12_behindSum 11 = .ok (.goto 46, 3) := by decide +kernel
theorem dX12_behindSum_14 : decode cX12_behindSum 14 = .ok (.aload_n 0, 1) := by decide +kernel
theorem dX12_behindSum_15 : decode cX12_behindSum 15 = .ok (.bipush 45, 2) := by decide +kernel
theorem dX12_behindSum_17 : decode cX12_behindSum 17 = .ok (.invokevirtual 341, 3) := by decide +kernel
theorem dX12_behindSum_20 : decode cX12_behindSum 20 = .ok (.ifCond .eq 8, 3) := by decide +kernel
theorem dX12_behindSum_23 : decode cX12_behindSum 23 = .ok (.bipush 11, 2) := by decide +kernel
theorem dX12_behindSum_25 : decode cX12_behindSum 25 = .ok (.goto 32, 3) := by decide +kernel
theorem dX12_behindSum_28 : decode cX12_behindSum 28 = .ok (.aload_n 0, 1) := by decide +kernel
theorem dX12_behindSum_29 : decode cX12_behindSum 29 = .ok (.bipush 42, 2) := by decide +kernel
theorem dX12_behindSum_31 : decode cX12_behindSum 31 = .ok (.invokevirtual 341, 3) := by decide +kernel
theorem dX12_behindSum_34 : decode cX12_behindSum 34 = .ok (.ifCond .eq 8, 3) := by decide +kernel
theorem dX12_behindSum_37 : decode cX12_behindSum 37 = .ok (.bipush 12, 2) := by decide +kernel
theorem dX12_behindSum_39 : decode cX12_behindSum 39 = .ok (.goto 18, 3) := by decide +kernel
theorem dX12_behindSum_42 : decode cX12_behindSum 42 = .ok (.aload_n 0, 1) := by decide +kernel
theorem dX12_behindSum_43 : decode cX12_behindSum 43 = .ok (.bipush 47, 2) := by decide +kernel
theorem dX12_behindSum_45 : decode cX12_behindSum 45 = .ok (.invokevirtual 341, 3) := by decide +kernel
theorem dX12_behindSum_48 : decode cX12_behindSum 48 = .ok (.ifCond .eq 8, 3) := by decide +kernel
theorem dX12_behindSum_51 : decode cX12_behindSum 51 = .ok (.bipush 13, 2) := by decide +kernel
theorem dX12_behindSum_53 : decode cX12_behindSum 53 = .ok (.goto 4, 3) := by decide +kernel
theorem dX12_behindSum_56 : decode cX12_behindSum 56 = .ok (.iconst (-1), 1) := by decide +kernel
theorem dX12_behindSum_57 : decode cX12_behindSum 57 = .ok (.istore_n 2, 1) := by decide +kernel
theorem dX12_behindSum_58 : decode cX12_behindSum 58 = .ok (.iload_n 2, 1) := by decide +kernel
theorem dX12_behindSum_59 : decode cX12_behindSum 59 = .ok (.iconst (-1), 1) := by decide +kernel
theorem dX12_behindSum_60 : decode cX12_behindSum 60 = .ok (.if_icmp .eq 23, 3) := by decide +kernel
theorem dX12_behindSum_63 : decode cX12_behindSum 63 = .ok (.aload_n 0, 1) := by decide +kernel
theorem dX12_behindSum_64 : decode cX12_behindSum 64 = .ok (.iload_n 2, 1) := by decide +kernel
theorem dX12_behindSum_65 : decode cX12_behindSum 65 = .ok (.invokestatic 303, 3) := by decide +kernel
theorem dX12_behindSum_68 : decode cX12_behindSum 68 = .ok (.invokevirtual 359, 3) := by decide +kernel
theorem dX12_behindSum_71 : decode cX12_behindSum 71 = .ok (.aload_n 0, 1) := by decide +kernel
theorem dX12_behindSum_72 : decode cX12_behindSum 72 = .ok (.iload_n 2, 1) := by decide +kernel
theorem dX12_behindSum_73 : decode cX12_behindSum 73 = .ok (.iconst 0, 1) := by decide +kernel
theorem dX12_behindSum_74 : decode cX12_behindSum 74 = .ok (.invokevirtual 338, 3) := by decide +kernel
theorem dX12_behindSum_77 : decode cX12_behindSum 77 = .ok (.aload_n 0, 1) := by decide +kernel
theorem dX12_behindSum_78 : decode cX12_behindSum 78 = .ok (.invokevirtual 264, 3) := by decide +kernel
theorem dX12_behindSum_81 : decode cX12_behindSum 81 = .ok (.iconst 1, 1) := by decide +kernel
theorem dX12_behindSum_82 : decode cX12_behindSum 82 = .ok (.ireturn, 1) := by decide +kernel
theorem dX12_behindSum_83 : decode cX12_behindSum 83 = .ok (.aload_n 0, 1) := by decide +kernel
theorem dX12_behindSum_84 : decode cX12_behindSum 84 = .ok (.invokevirtual 362, 3) := by decide +kernel
theorem dX12_behindSum_87 : decode cX12_behindSum 87 = .ok (.istore_n 3, 1) := by decide +kernel
theorem dX12_behindSum_88 : decode cX12_behindSum 88 = .ok (.iload_n 3, 1) := by decide +kernel
theorem dX12_behindSum_89 : decode cX12_behindSum 89 = .ok (.bipush 31, 2) := by decide +kernel
theorem dX12_behindSum_91 : decode cX12_behindSum 91 = .ok (.if_icmp .ne 47, 3) := by decide +kernel
theorem dX12_behindSum_94 : decode cX12_behindSum 94 = .ok (.aload_n 0, 1) := by decide +kernel
theorem dX12_behindSum_95 : decode cX12_behindSum 95 = .ok (.aload_n 0, 1) := by decide +kernel
theorem dX12_behindSum_96 : decode cX12_behindSum 96 = .ok (.bipush 93, 2) := by decide +kernel
theorem dX12_behindSum_98 : decode cX12_behindSum 98 = .ok (.invokevirtual 341, 3) := by decide +kernel
theorem dX12_behindSum_101 : decode cX12_behindSum 101 = .ok (.invokevirtual 293, 3) := by decide +kernel
theorem dX12_behindSum_104 : decode cX12_behindSum 104 = .ok (.aload_n 0, 1) := by decide +kernel
theorem dX12_behindSum_105 : decode cX12_behindSum 105 = .ok (.getfield 261, 3) := by decide +kernel
theorem dX12_behindSum_108 : decode cX12_behindSum 108 = .ok (.ifCond .ne 28, 3) := by decide +kernel
theorem dX12_behindSum_111 : decode cX12_behindSum 111 = .ok (.aload_n 0, 1) := by decide +kernel
theorem dX12_behindSum_112 : decode cX12_behindSum 112 = .ok (.iconst 5, 1) := by decide +kernel
theorem dX12_behindSum_113 : decode cX12_behindSum 113 = .ok (.invokevirtual 359, 3) := by decide +kernel
theorem dX12_behindSum_116 : decode cX12_behindSum 116 = .ok (.aload_n 0, 1) := by decide +kernel
theorem dX12_behindSum_117 : decode cX12_behindSum 117 = .ok (.dup, 1) := by decide +kernel
theorem dX12_behindSum_118 : decode cX12_behindSum 118 = .ok (.getfield 300, 3) := by decide +kernel
theorem dX12_behindSum_121 : decode cX12_behindSum 121 = .ok (.iconst 1, 1) := by decide +kernel
theorem dX12_behindSum_122 : decode cX12_behindSum 122 = .ok (.isub, 1) := by decide +kernel
theorem dX12_behindSum_123 : decode cX12_behindSum 123 = .ok (.putfield 300, 3) := by decide +kernel
theorem dX12_behindSum_126 : decode cX12_behindSum 126 = .ok (.aload_n 0, 1) := by decide +kernel
theorem dX12_behindSum_127 : decode cX12_behindSum 127 = .ok (.dup, 1) := by decide +kernel
theorem dX12_behindSum_128 : decode cX12_behindSum 128 = .ok (.getfield 335, 3) := by decide +kernel
theorem dX12_behindSum_131 : decode cX12_behindSum 131 = .ok (.iconst 1, 1) := by decide +kernel
theorem dX12_behindSum_132 : decode cX12_behindSum 132 = .ok (.isub, 1) := by decide +kernel
theorem dX12_behindSum_133 : decode cX12_behindSum 133 = .ok (.putfield 335, 3) := by decide +kernel
theorem dX12_behindSum_136 : decode cX12_behindSum 136 = .ok (.iconst 3, 1) := by decide +kernel
theorem dX12_behindSum_137 : decode cX12_behindSum 137 = .ok (.ireturn, 1) := by decide +kernel
theorem dX12_behindSum_138 : decode cX12_behindSum 138 = .ok (.iload_n 3, 1) := by decide +kernel
theorem dX12_behindSum_139 : decode cX12_behindSum 139 = .ok (.iconst (-1), 1) := by decide +kernel
theorem dX12_behindSum_140 : decode cX12_behindSum 140 = .ok (.if_icmp .ne 9, 3) := by decide +kernel
theorem dX12_behindSum_143 : decode cX12_behindSum 143 = .ok (.iload_n 1, 1) := by decide +kernel
theorem dX12_behindSum_144 : decode cX12_behindSum 144 = .ok (.ifCond .ne 5, 3) := by decide +kernel
theorem dX12_behindSum_147 : decode cX12_behindSum 147 = .ok (.iconst 4, 1) := by decide +kernel
theorem dX12_behindSum_148 : decode cX12_behindSum 148 = .ok (.ireturn, 1) := by decide +kernel
theorem dX12_behindSum_149 : decode cX12_behindSum 149 = .ok (.aload_n 0, 1) := by decide +kernel
theorem dX12_behindSum_150 : decode cX12_behindSum 150 = .ok (.invokevirtual 365, 3) := by decide +kernel
theorem dX12_behindSum_153 : decode cX12_behindSum 153 = .ok (.ifCond .eq 5, 3) := by decide +kernel
theorem dX12_behindSum_156 : decode cX12_behindSum 156 = .ok (.iconst 2, 1) := by decide +kernel
theorem dX12_behindSum_157 : decode cX12_behindSum 157 = .ok (.ireturn, 1) := by decide +kernel
theorem dX12_behindSum_158 : decode cX12_behindSum 158 = .ok (.aload_n 0, 1) := by decide +kernel
theorem dX12_behindSum_159 : decode cX12_behindSum 159 = .ok (.bipush 60, 2) := by decide +kernel
theorem dX12_behindSum_161 : decode cX12_behindSum 161 = .ok (.invokevirtual 341, 3) := by decide +kernel
theorem dX12_behindSum_164 : decode cX12_behindSum 164 = .ok (.ifCond .eq 8, 3) := by decide +kernel
theorem dX12_behindSum_167 : decode cX12_behindSum 167 = .ok (.bipush 14, 2) := by decide +kernel
theorem dX12_behindSum_169 : decode cX12_behindSum 169 = .ok (.goto 19, 3) := by decide +kernel
theorem dX12_behindSum_172 : decode cX12_behindSum 172 = .ok (.aload_n 0, 1) := by decide +kernel
theorem dX12_behindSum_173 : decode cX12_behindSum 173 = .ok (.bipush 62, 2) := by decide +kernel
theorem dX12_behindSum_175 : decode cX12_behindSum 175 = .ok (.invokevirtual 341, 3) := by decide +kernel
theorem dX12_behindSum_178 : decode cX12_behindSum 178 = .ok (.ifCond .eq 8, 3) := by decide +kernel
theorem dX12_behindSum_181 : decode cX12_behindSum 181 = .ok (.bipush 15, 2) := by decide +kernel
theorem dX12_behindSum_183 : decode cX12_behindSum 183 = .ok (.goto 5, 3) := by decide +kernel
theorem dX12_behindSum_186 : decode cX12_behindSum 186 = .ok (.bipush 16, 2) := by decide +kernel
theorem dX12_behindSum_188 : decode cX12_behindSum 188 = .ok (.istore_n 2, 1) := by decide +kernel
theorem dX12_behindSum_189 : decode cX12_behindSum 189 = .ok (.aload_n 0, 1) := by decide +kernel
theorem dX12_behindSum_190 : decode cX12_behindSum 190 = .ok (.iload_n 2, 1) := by decide +kernel
theorem dX12_behindSum_191 : decode cX12_behindSum 191 = .ok (.bipush 16, 2) := by decide +kernel
theorem dX12_behindSum_193 : decode cX12_behindSum 193 = .ok (.if_icmp .ne 12, 3) := by decide +kernel
theorem dX12_behindSum_196 : decode cX12_behindSum 196 = .ok (.aload_n 0, 1) := by decide +kernel
theorem dX12_behindSum_197 : decode cX12_behindSum 197 = .ok (.bipush 61, 2) := by decide +kernel
theorem dX12_behindSum_199 : decode cX12_behindSum 199 = .ok (.invokevirtual 341, 3) := by decide +kernel
theorem dX12_behindSum_202 : decode cX12_behindSum 202 = .ok (.ifCond .eq 7, 3) := by decide +kernel
theorem dX12_behindSum_205 : decode cX12_behindSum 205 = .ok (.iconst 1, 1) := by decide +kernel
theorem dX12_behindSum_206 : decode cX12_behindSum 206 = .ok (.goto 4, 3) := by decide +kernel
theorem dX12_behindSum_209 : decode cX12_behindSum 209 = .ok (.iconst 0, 1) := by decide +kernel
theorem dX12_behindSum_210 : decode cX12_behindSum 210 = .ok (.invokevirtual 293, 3) := by decide +kernel
theorem dX12_behindSum_213 : decode cX12_behindSum 213 = .ok (.aload_n 0, 1) := by decide +kernel
theorem dX12_behindSum_214 : decode cX12_behindSum 214 = .ok (.getfield 261, 3) := by decide +kernel
theorem dX12_behindSum_217 : decode cX12_behindSum 217 = .ok (.ifCond .ne 14, 3) := by decide +kernel
theorem dX12_behindSum_220 : decode cX12_behindSum 220 = .ok (.aload_n 0, 1) := by decide +kernel
theorem dX12_behindSum_221 : decode cX12_behindSum 221 = .ok (.iconst 5, 1) := by decide +kernel
theorem dX12_behindSum_222 : decode cX12_behindSum 222 = .ok (.invokevirtual 359, 3) := by decide +kernel
theorem dX12_behindSum_225 : decode cX12_behindSum 225 = .ok (.aload_n 0, 1) := by decide +kernel
theorem dX12_behindSum_226 : decode cX12_behindSum 226 = .ok (.iload_n 2, 1) := by decide +kernel
theorem dX12_behindSum_227 : decode cX12_behindSum 227 = .ok (.iconst 0, 1) := by decide +kernel
theorem dX12_behindSum_228 : decode cX12_behindSum 228 = .ok (.invokevirtual 338, 3) := by decide +kernel
theorem dX12_behindSum_231 : decode cX12_behindSum 231 = .ok (.iconst 1, 1) := by decide +kernel
theorem dX12_behindSum_232 : decode cX12_behindSum 232 = .ok (.ireturn, 1) := by decide +kernel
set_option maxRecDepth 20000 in
theorem ggX12_behindTest_X12_isWord : GoodIn wsX12_behindTest wsX12_isWord := goodIn_r _ [11, 12, 13, 66, 67, 68, 69, 70, 71, 72, 73, 74, 75, 76, 77, 78, 79, 80, 81, 82, 83, 84, 85, 86, 87, 88, 89, 90, 91, 92, 93, 94, 95, 96, 97, 98, 99, 100, 101, 102, 103, 104, 105, 106, 107, 108, 109, 110, 111, 112, 113, 114, 115, 116, 117, 118] (by decide +kernel) (by decide +kernel)
set_option maxRecDepth 20000 in
theorem gX12_behindTest_X12_isWord : GoodIn wsX12_behindTest (wsV RX12 317 RX12 yX12_isWord wsX12_isWord) := goodIn_app (goodIn_of _ (by decide +kernel)) ggX12_behindTest_X12_isWord
set_option maxRecDepth 20000 in
theorem ggX12_behindTest_X12_settleDown : GoodIn wsX12_behindTest wsX12_settleDown := goodIn_r _ [17, 5, 18, 19, 20, 3, 21, 22, 10, 23, 24, 25, 26, 27, 28, 66, 67, 68, 69, 70, 71, 72, 73, 74, 75, 76, 77, 78, 79, 80, 81, 82, 83, 84, 85, 86, 87, 88, 89, 90, 91, 92, 93, 94, 95, 96, 97, 98, 99, 100, 101, 102, 103, 104, 105, 106, 107, 108, 109, 110, 111, 112, 113, 114, 115, 116, 117, 118] (by decide +kernel) (by decide +kernel)
set_option maxRecDepth 20000 in
theorem gX12_behindTest_X12_settleDown : GoodIn wsX12_behindTest (wsV RX12 359 RX12 yX12_settleDown wsX12_settleDown) := goodIn_app (goodIn_of _ (by decide +kernel)) ggX12_behindTest_X12_settleDown
set_option maxRecDepth 20000 in
theorem ggX12_behindTest_X12_push : GoodIn wsX12_behindTest wsX12_push := goodIn_r _ [32, 18, 5, 20, 66, 67, 68, 69, 70, 71, 72, 73, 74, 75, 76, 77, 78, 79, 80, 81, 82, 83, 84, 85, 86, 87, 88, 89, 90, 91, 92, 93, 94, 95, 96, 97, 98, 99, 100, 101, 102, 103, 104, 105, 106, 107, 108, 109, 110, 111, 112, 113, 114, 115, 116, 117, 118] (by decide +kernel) (by decide +kernel)
set_option maxRecDepth 20000 in
theorem gX12_behindTest_X12_push : GoodIn wsX12_behindTest (wsV RX12 338 RX12 yX12_push wsX12_push) := goodIn_app (goodIn_of _ (by decide +kernel)) ggX12_behindTest_X12_push
set_option maxRecDepth 20000 in
theorem ggX12_behindTest_X12_emit : GoodIn wsX12_behindTest wsX12_emit := goodIn_r _ [27, 28, 3, 19, 66, 67, 68, 69, 70, 71, 72, 73, 74, 75, 76, 77, 78, 79, 80, 81, 82, 83, 84, 85, 86, 87, 88, 89, 90, 91, 92, 93, 94, 95, 96, 97, 98, 99, 100, 101, 102, 103, 104, 105, 106, 107, 108, 109, 110, 111, 112, 113, 114, 115, 116, 117, 118] (by decide +kernel) (by decide +kernel)
set_option maxRecDepth 20000 in
theorem gX12_behindTest_X12_emit : GoodIn wsX12_behindTest (wsV RX12 306 RX12 yX12_emit wsX12_emit) := goodIn_app (goodIn_of _ (by decide +kernel)) ggX12_behindTest_X12_emit
set_option maxRecDepth 20000 in
theorem ggX12_behindTest_X12_next : GoodIn wsX12_behindTest wsX12_next := goodIn_r _ [36, 37, 38, 39, 40, 13, 12, 41, 42, 43, 44, 45, 46, 47, 48, 10, 49, 50, 51, 52, 66, 67, 68, 69, 70, 71, 72, 73, 74, 75, 76, 77, 78, 79, 80, 81, 82, 83, 84, 85, 86, 87, 88, 89, 90, 91, 92, 93, 94, 95, 96, 97, 98, 99, 100, 101, 102, 103, 104, 105, 106, 107, 108, 109, 110, 111, 112, 113, 114, 115, 116, 117, 118] (by decide +kernel) (by decide +kernel)
set_option maxRecDepth 20000 in
theorem gX12_behindTest_X12_next : GoodIn wsX12_behindTest (wsV RX12 264 RX12 yX12_next wsX12_next) := goodIn_app (goodIn_of _ (by decide +kernel)) ggX12_behindTest_X12_next
set_option maxRecDepth 20000 in
theorem ggX12_behindTest_X12_inner : GoodIn wsX12_behindTest wsX12_inner := goodIn_r _ [56, 5, 18, 66, 67, 68, 69, 70, 71, 72, 73, 74, 75, 76, 77, 78, 79, 80, 81, 82, 83, 84, 85, 86, 87, 88, 89, 90, 91, 92, 93, 94, 95, 96, 97, 98, 99, 100, 101, 102, 103, 104, 105, 106, 107, 108, 109, 110, 111, 112, 113, 114, 115, 116, 117, 118] (by decide +kernel) (by decide +kernel)
set_option maxRecDepth 20000 in
theorem gX12_behindTest_X12_inner : GoodIn wsX12_behindTest (wsV RX12 362 RX12 yX12_inner wsX12_inner) := goodIn_app (goodIn_of _ (by decide +kernel)) ggX12_behindTest_X12_inner
set_option maxRecDepth 20000 in
theorem ggX12_behindTest_X12_isSign : GoodIn wsX12_behindTest wsX12_isSign := goodIn_r _ [60, 12, 13, 66, 67, 68, 69, 70, 71, 72, 73, 74, 75, 76, 77, 78, 79, 80, 81, 82, 83, 84, 85, 86, 87, 88, 89, 90, 91, 92, 93, 94, 95, 96, 97, 98, 99, 100, 101, 102, 103, 104, 105, 106, 107, 108, 109, 110, 111, 112, 113, 114, 115, 116, 117, 118] (by decide +kernel) (by decide +kernel)
set_option maxRecDepth 20000 in
theorem gX12_behindTest_X12_isSign : GoodIn wsX12_behindTest (wsV RX12 341 RX12 yX12_isSign wsX12_isSign) := goodIn_app (goodIn_of _ (by decide +kernel)) ggX12_behindTest_X12_isSign
set_option maxRecDepth 20000 in
theorem ggX12_behindTest_X12_must : GoodIn wsX12_behindTest wsX12_must := goodIn_r _ [64, 4, 38, 65, 33, 34, 35, 10, 36, 37, 39, 40, 13, 12, 41, 42, 43, 44, 45, 46, 47, 48, 49, 50, 51, 52, 66, 67, 68, 69, 70, 71, 72, 73, 74, 75, 76, 77, 78, 79, 80, 81, 82, 83, 84, 85, 86, 87, 88, 89, 90, 91, 92, 93, 94, 95, 96, 97, 98, 99, 100, 101, 102, 103, 104, 105, 106, 107, 108, 109, 110, 111, 112, 113, 114, 115, 116, 117, 118] (by decide +kernel) (by decide +kernel)
set_option maxRecDepth 20000 in
theorem gX12_behindTest_X12_must : GoodIn wsX12_behindTest (wsV RX12 293 RX12 yX12_must wsX12_must) := goodIn_app (goodIn_of _ (by decide +kernel)) ggX12_behindTest_X12_must
theorem dX12_behindTest_0 : decode cX12_behindTest 0 = .ok (.aload_n 0, 1) := by decide +kernel
theorem dX12_behindTest_1 : decode cX12_behindTest 1 = .ok (.ldc2_w 369, 3) := by decide +kernel
theorem dX12_behindTest_4 : decode cX12_behindTest 4 = .ok (.invokevirtual 317, 3) := by decide +kernel
theorem dX12_behindTest_7 : decode cX12_behindTest 7 = .ok (.istore_n 1, 1) := by decide +kernel
theorem dX12_behindTest_8 : decode cX12_behindTest 8 = .ok (.iload_n 1, 1) := by decide +kernel
theorem dX12_behindTest_9 : decode cX12_behindTest 9 = .ok (.ifCond .ne 13, 3) := by decide +kernel
theorem dX12_behindTest_12 : decode cX12_behindTest 12 = .ok (.aload_n 0, 1) := by decide +kernel
theorem dX12_behindTest_13 : decode cX12_behindTest 13 = .ok (.ldc2_w 371, 3) := by decide +kernel
theorem dX12_behindTest_16 : decode cX12_behindTest 16 = .ok (.invokevirtual 317, 3) := by decide +kernel
theorem dX12_behindTest_19 : decode cX12_behindTest 19 = .ok (.ifCond .eq 57, 3) := by decide +kernel
theorem dX12_behindTest_22 : decode cX12_behindTest 22 = .ok (.aload_n 0, 1) := by decide +kernel
theorem dX12_behindTest_23 : decode cX12_behindTest 23 = .ok (.iload_n 1, 1) := by decide +kernel
theorem dX12_behindTest_24 : decode cX12_behindTest 24 = .ok (.ifCond .eq 7, 3) := by decide +kernel
theorem dX12_behindTest_27 : decode cX12_behindTest 27 = .ok (.iconst 2, 1) := by decide +kernel
theorem dX12_behindTest_28 : decode cX12_behindTest 28 = .ok (.goto 4, 3) := by decide +kernel
theorem dX12_behindTest_31 : decode cX12_behindTest 31 = .ok (.iconst 1, 1) := by decide +kernel
theorem dX12_behindTest_32 : decode cX12_behindTest 32 = .ok (.invokevirtual 359, 3) := by decide +kernel
theorem dX12_behindTest_35 : decode cX12_behindTest 35 = .ok (.aload_n 0, 1) := by decide +kernel
theorem dX12_behindTest_36 : decode cX12_behindTest 36 = .ok (.iload_n 1, 1) := by decide +kernel
theorem dX12_behindTest_37 : decode cX12_behindTest 37 = .ok (.ifCond .eq 8, 3) := by decide +kernel
theorem dX12_behindTest_40 : decode cX12_behindTest 40 = .ok (.bipush 18, 2) := by decide +kernel
theorem dX12_behindTest_42 : decode cX12_behindTest 42 = .ok (.goto 5, 3) := by decide +kernel
theorem dX12_behindTest_45 : decode cX12_behindTest 45 = .ok (.bipush 19, 2) := by decide +kernel
theorem dX12_behindTest_47 : decode cX12_behindTest 47 = .ok (.aload_n 0, 1) := by decide +kernel
theorem dX12_behindTest_48 : decode cX12_behindTest 48 = .ok (.getfield 297, 3) := by decide +kernel
theorem dX12_behindTest_51 : decode cX12_behindTest 51 = .ok (.invokevirtual 338, 3) := by decide +kernel
theorem dX12_behindTest_54 : decode cX12_behindTest 54 = .ok (.aload_n 0, 1) := by decide +kernel
theorem dX12_behindTest_55 : decode cX12_behindTest 55 = .ok (.iload_n 1, 1) := by decide +kernel
theorem dX12_behindTest_56 : decode cX12_behindTest 56 = .ok (.ifCond .eq 8, 3) := by decide +kernel
theorem dX12_behindTest_59 : decode cX12_behindTest 59 = .ok (.bipush 18, 2) := by decide +kernel
theorem dX12_behindTest_61 : decode cX12_behindTest 61 = .ok (.goto 5, 3) := by decide +kernel
theorem dX12_behindTest_64 : decode cX12_behindTest 64 = .ok (.bipush 19, 2) := by decide +kernel
theorem dX12_behindTest_66 : decode cX12_behindTest 66 = .ok (.iconst 0, 1) := by decide +kernel
theorem dX12_behindTest_67 : decode cX12_behindTest 67 = .ok (.invokevirtual 306, 3) := by decide +kernel
theorem dX12_behindTest_70 : decode cX12_behindTest 70 = .ok (.aload_n 0, 1) := by decide +kernel
theorem dX12_behindTest_71 : decode cX12_behindTest 71 = .ok (.invokevirtual 264, 3) := by decide +kernel
theorem dX12_behindTest_74 : decode cX12_behindTest 74 = .ok (.iconst 0, 1) := by decide +kernel
theorem dX12_behindTest_75 : decode cX12_behindTest 75 = .ok (.ireturn, 1) := by decide +kernel
theorem dX12_behindTest_76 : decode cX12_behindTest 76 = .ok (.aload_n 0, 1) := by decide +kernel
theorem dX12_behindTest_77 : decode cX12_behindTest 77 = .ok (.invokevirtual 362, 3) := by decide +kernel
theorem dX12_behindTest_80 : decode cX12_behindTest 80 = .ok (.iconst (-1), 1) := by decide +kernel
theorem dX12_behindTest_81 : decode cX12_behindTest 81 = .ok (.if_icmp .ne 5, 3) := by decide +kernel
theorem dX12_behindTest_84 : decode cX12_behindTest 84 = .ok (.iconst 4, 1) := by decide +kernel
theorem dX12_behindTest_85 : decode cX12_behindTest 85 = .ok (.ireturn, 1) := by decide +kernel
theorem dX12_behindTest_86 : decode cX12_behindTest 86 = .ok (.aload_n 0, 1) := by decide +kernel
theorem dX12_behindTest_87 : decode cX12_behindTest 87 = .ok (.aload_n 0, 1) := by decide +kernel
theorem dX12_behindTest_88 : decode cX12_behindTest 88 = .ok (.bipush 41, 2) := by decide +kernel
theorem dX12_behindTest_90 : decode cX12_behindTest 90 = .ok (.invokevirtual 341, 3) := by decide +kernel
theorem dX12_behindTest_93 : decode cX12_behindTest 93 = .ok (.invokevirtual 293, 3) := by decide +kernel
theorem dX12_behindTest_96 : decode cX12_behindTest 96 = .ok (.aload_n 0, 1) := by decide +kernel
theorem dX12_behindTest_97 : decode cX12_behindTest 97 = .ok (.getfield 261, 3) := by decide +kernel
theorem dX12_behindTest_100 : decode cX12_behindTest 100 = .ok (.ifCond .ne 28, 3) := by decide +kernel
theorem dX12_behindTest_103 : decode cX12_behindTest 103 = .ok (.aload_n 0, 1) := by decide +kernel
theorem dX12_behindTest_104 : decode cX12_behindTest 104 = .ok (.iconst 1, 1) := by decide +kernel
theorem dX12_behindTest_105 : decode cX12_behindTest 105 = .ok (.invokevirtual 359, 3) := by decide +kernel
theorem dX12_behindTest_108 : decode cX12_behindTest 108 = .ok (.aload_n 0, 1) := by decide +kernel
theorem dX12_behindTest_109 : decode cX12_behindTest 109 = .ok (.dup, 1) := by decide +kernel
theorem dX12_behindTest_110 : decode cX12_behindTest 110 = .ok (.getfield 300, 3) := by decide +kernel
theorem dX12_behindTest_113 : decode cX12_behindTest 113 = .ok (.iconst 1, 1) := by decide +kernel
theorem dX12_behindTest_114 : decode cX12_behindTest 114 = .ok (.isub, 1) := by decide +kernel
theorem dX12_behindTest_115 : decode cX12_behindTest 115 = .ok (.putfield 300, 3) := by decide +kernel
theorem dX12_behindTest_118 : decode cX12_behindTest 118 = .ok (.aload_n 0, 1) := by decide +kernel
theorem dX12_behindTest_119 : decode cX12_behindTest 119 = .ok (.dup, 1) := by decide +kernel
theorem dX12_behindTest_120 : decode cX12_behindTest 120 = .ok (.getfield 335, 3) := by decide +kernel
theorem dX12_behindTest_123 : decode cX12_behindTest 123 = .ok (.iconst 1, 1) := by decide +kernel
theorem dX12_behindTest_124 : decode cX12_behindTest 124 = .ok (.isub, 1) := by decide +kernel
theorem dX12_behindTest_125 : decode cX12_behindTest 125 = .ok (.putfield 335, 3) := by decide +kernel
theorem dX12_behindTest_128 : decode cX12_behindTest 128 = .ok (.iconst 2, 1) := by decide +kernel
theorem dX12_behindTest_129 : decode cX12_behindTest 129 = .ok (.ireturn, 1) := by decide +kernel
