abbrev cX12_image : ByteArray := prog_14_method_8_code
def yX12_image : MethodName := ⟨RX12, "image", "(I)I"⟩
abbrev cX12_take : ByteArray := prog_14_method_26_code
def yX12_take : MethodName := ⟨RX12, "take", "(II)V"⟩
abbrev cX12_heelOf : ByteArray := prog_14_method_27_code
def yX12_heelOf : MethodName := ⟨RX12, "heelOf", "(I)I"⟩
abbrev cX12_go : ByteArray := prog_14_method_32_code
def yX12_go : MethodName := ⟨RX12, "go", "(I)I"⟩
abbrev cX12_goShip : ByteArray := prog_14_method_33_code
def yX12_goShip : MethodName := ⟨RX12, "goShip", "(II)V"⟩
abbrev cX12_burn : ByteArray := prog_14_method_34_code
def yX12_burn : MethodName := ⟨RX12, "burn", "(I)V"⟩
abbrev cX12_endOrder : ByteArray := prog_14_method_35_code
def yX12_endOrder : MethodName := ⟨RX12, "endOrder", "(I)V"⟩
abbrev cX12_doOrder : ByteArray := prog_14_method_36_code
def yX12_doOrder : MethodName := ⟨RX12, "doOrder", "(III)V"⟩
abbrev cX12_sail : ByteArray := prog_14_method_37_code
def yX12_sail : MethodName := ⟨RX12, "sail", "(III)V"⟩
abbrev cX12_mayGo : ByteArray := prog_14_method_38_code
def yX12_mayGo : MethodName := ⟨RX12, "mayGo", "(III)Z"⟩
abbrev cX12_lesser : ByteArray := prog_14_method_39_code
def yX12_lesser : MethodName := ⟨RX12, "lesser", "(II)I"⟩
abbrev cX12_toLoad : ByteArray := prog_14_method_40_code
def yX12_toLoad : MethodName := ⟨RX12, "toLoad", "(I)I"⟩
abbrev cX12_toLand : ByteArray := prog_14_method_41_code
def yX12_toLand : MethodName := ⟨RX12, "toLand", "(I)I"⟩
abbrev cX12_load : ByteArray := prog_14_method_42_code
def yX12_load : MethodName := ⟨RX12, "load", "(II)V"⟩
abbrev cX12_land : ByteArray := prog_14_method_43_code
def yX12_land : MethodName := ⟨RX12, "land", "(III)V"⟩
abbrev cX12_endLanding : ByteArray := prog_14_method_44_code
def yX12_endLanding : MethodName := ⟨RX12, "endLanding", "(II)V"⟩
abbrev cX12_four : ByteArray := prog_14_method_61_code
def yX12_four : MethodName := ⟨RX12, "four", "(I)V"⟩
abbrev cX12_feed : ByteArray := prog_14_method_62_code
def yX12_feed : MethodName := ⟨RX12, "feed", "(IIIII)I"⟩
abbrev cX12_isSmall : ByteArray := prog_14_method_64_code
def yX12_isSmall : MethodName := ⟨RX12, "isSmall", "(I)Z"⟩
abbrev cX12_isDigit : ByteArray := prog_14_method_65_code
def yX12_isDigit : MethodName := ⟨RX12, "isDigit", "(I)Z"⟩
abbrev cX12_begin : ByteArray := prog_14_method_66_code
def yX12_begin : MethodName := ⟨RX12, "begin", "()V"⟩
abbrev cX12_next : ByteArray := prog_14_method_67_code
def yX12_next : MethodName := ⟨RX12, "next", "()V"⟩
abbrev cX12_isWord : ByteArray := prog_14_method_68_code
def yX12_isWord : MethodName := ⟨RX12, "isWord", "(J)Z"⟩
abbrev cX12_isSign : ByteArray := prog_14_method_69_code
def yX12_isSign : MethodName := ⟨RX12, "isSign", "(I)Z"⟩
abbrev cX12_must : ByteArray := prog_14_method_70_code
def yX12_must : MethodName := ⟨RX12, "must", "(Z)V"⟩
abbrev cX12_number : ByteArray := prog_14_method_71_code
def yX12_number : MethodName := ⟨RX12, "number", "(JJ)I"⟩
abbrev cX12_emit : ByteArray := prog_14_method_73_code
def yX12_emit : MethodName := ⟨RX12, "emit", "(II)V"⟩
abbrev cX12_push : ByteArray := prog_14_method_74_code
def yX12_push : MethodName := ⟨RX12, "push", "(II)V"⟩
abbrev cX12_binds : ByteArray := prog_14_method_75_code
def yX12_binds : MethodName := ⟨RX12, "binds", "(I)I"⟩
abbrev cX12_settleDown : ByteArray := prog_14_method_76_code
def yX12_settleDown : MethodName := ⟨RX12, "settleDown", "(I)V"⟩
abbrev cX12_inner : ByteArray := prog_14_method_77_code
def yX12_inner : MethodName := ⟨RX12, "inner", "()I"⟩
abbrev cX12_isCompared : ByteArray := prog_14_method_78_code
def yX12_isCompared : MethodName := ⟨RX12, "isCompared", "()Z"⟩
abbrev cX12_partAt : ByteArray := prog_14_method_79_code
def yX12_partAt : MethodName := ⟨RX12, "partAt", "()I"⟩
abbrev cX12_open : ByteArray := prog_14_method_80_code
def yX12_open : MethodName := ⟨RX12, "open", "(I)V"⟩
abbrev cX12_readPart : ByteArray := prog_14_method_81_code
def yX12_readPart : MethodName := ⟨RX12, "readPart", "()I"⟩
abbrev cX12_readPlain : ByteArray := prog_14_method_82_code
def yX12_readPlain : MethodName := ⟨RX12, "readPlain", "()I"⟩
abbrev cX12_behindSum : ByteArray := prog_14_method_83_code
def yX12_behindSum : MethodName := ⟨RX12, "behindSum", "(Z)I"⟩
abbrev cX12_behindTest : ByteArray := prog_14_method_84_code
def yX12_behindTest : MethodName := ⟨RX12, "behindTest", "()I"⟩
abbrev cX12_readExpression : ByteArray := prog_14_method_85_code
def yX12_readExpression : MethodName := ⟨RX12, "readExpression", "(Z)V"⟩
abbrev cX12_readClause : ByteArray := prog_14_method_86_code
def yX12_readClause : MethodName := ⟨RX12, "readClause", "()V"⟩
abbrev cX12_contract : ByteArray := prog_14_method_87_code
def yX12_contract : MethodName := ⟨RX12, "contract", "()I"⟩
abbrev cX12_nextPlaces : ByteArray := prog_14_method_112_code
def yX12_nextPlaces : MethodName := ⟨RX12, "nextPlaces", "(I)Z"⟩
abbrev cX12_swapPlaces : ByteArray := prog_14_method_113_code
def yX12_swapPlaces : MethodName := ⟨RX12, "swapPlaces", "(II)V"⟩
abbrev cX12_findSet : ByteArray := prog_14_method_114_code
def yX12_findSet : MethodName := ⟨RX12, "findSet", "(III)V"⟩
abbrev cX12_best : ByteArray := prog_14_method_115_code
def yX12_best : MethodName := ⟨RX12, "best", "(I)J"⟩
abbrev cX12_share : ByteArray := prog_14_method_116_code
def yX12_share : MethodName := ⟨RX12, "share", "(III)I"⟩
abbrev cX12_keepBest : ByteArray := prog_14_method_117_code
def yX12_keepBest : MethodName := ⟨RX12, "keepBest", "(III)V"⟩
def wsX12_image : List Cond := .code yX12_image cX12_image 3 (some .int) :: ([.fieldLink RX12 91 "ColdShipsModel" "thrown" "I", .fieldLink RX12 13 "ColdShipsModel" "images" "[I", .fieldLink RX12 7 "ColdShipsModel" "row" "[I", .fieldLink RX12 16 "ColdShipsModel" "isKept" "[Z", .methodLink RX12 99 yX12_in, .static yX12_in, .initialized RX12, .code yX12_in cX12_in 6 (some .boolean), .methodLink RX12 105 yX12_told, .instanceMethod yX12_told, .selects RX12 yX12_told yX12_told, .code yX12_told cX12_told 2 (some .int), .fieldLink RX12 94 "ColdShipsModel" "status" "I"] ++ wsX120)
def wsX12_lesser : List Cond := .code yX12_lesser cX12_lesser 2 (some .int) :: ([])
def wsX12_go_r1 : List Cond := [Cond.fieldLink RX12 91 "ColdShipsModel" "thrown" "I", Cond.constantLong RX12 167 (480), Cond.fieldLink RX12 7 "ColdShipsModel" "row" "[I", Cond.fieldLink RX12 169 "ColdShipsModel" "isTurnTaken" "Z", Cond.methodLink RX12 99 yX12_in, Cond.static yX12_in, Cond.initialized RX12, Cond.code yX12_in cX12_in 6 (some .boolean), Cond.methodLink RX12 105 yX12_told, Cond.instanceMethod yX12_told, Cond.selects RX12 yX12_told yX12_told, Cond.code yX12_told cX12_told 2 (some .int), Cond.fieldLink RX12 94 "ColdShipsModel" "status" "I", Cond.methodLink RX12 173 yX12_goShip, Cond.instanceMethod yX12_goShip, Cond.selects RX12 yX12_goShip yX12_goShip, Cond.code yX12_goShip cX12_goShip 7 none, Cond.constantLong RX12 177 (100000), Cond.constantLong RX12 122 (1000), Cond.methodLink RX12 132 yX12_shipAt, Cond.static yX12_shipAt, Cond.code yX12_shipAt cX12_shipAt 1 (some .int), Cond.methodLink RX12 179 yX12_take, Cond.instanceMethod yX12_take]
def wsX12_go_r2 : List Cond := [Cond.selects RX12 yX12_take yX12_take, Cond.code yX12_take cX12_take 8 none, Cond.fieldLink RX12 20 "ColdShipsModel" "moved" "[I", Cond.fieldLink RX12 23 "ColdShipsModel" "rests" "[J", Cond.constantLong RX12 158 (-1), Cond.methodLink RX12 182 yX12_heelOf, Cond.instanceMethod yX12_heelOf, Cond.selects RX12 yX12_heelOf yX12_heelOf, Cond.code yX12_heelOf cX12_heelOf 2 (some .int), Cond.methodLink RX12 185 yX12_burn, Cond.instanceMethod yX12_burn, Cond.selects RX12 yX12_burn yX12_burn, Cond.code yX12_burn cX12_burn 5 none, Cond.methodLink RX12 188 yX12_doOrder, Cond.instanceMethod yX12_doOrder, Cond.selects RX12 yX12_doOrder yX12_doOrder, Cond.code yX12_doOrder cX12_doOrder 7 none, Cond.methodLink RX12 192 yX12_sail, Cond.instanceMethod yX12_sail, Cond.selects RX12 yX12_sail yX12_sail, Cond.code yX12_sail cX12_sail 5 none, Cond.methodLink RX12 195 yX12_endOrder, Cond.instanceMethod yX12_endOrder, Cond.selects RX12 yX12_endOrder yX12_endOrder]
def wsX12_go_r3 : List Cond := [Cond.code yX12_endOrder cX12_endOrder 3 none, Cond.methodLink RX12 154 yX12_beginOrder, Cond.instanceMethod yX12_beginOrder, Cond.selects RX12 yX12_beginOrder yX12_beginOrder, Cond.code yX12_beginOrder cX12_beginOrder 3 none, Cond.methodLink RX12 217 yX12_wayOf, Cond.instanceMethod yX12_wayOf, Cond.selects RX12 yX12_wayOf yX12_wayOf, Cond.code yX12_wayOf cX12_wayOf 3 (some .int), Cond.methodLink RX12 198 yX12_mayGo, Cond.instanceMethod yX12_mayGo, Cond.selects RX12 yX12_mayGo yX12_mayGo, Cond.code yX12_mayGo cX12_mayGo 8 (some .boolean), Cond.methodLink RX12 221 yX12_isBroken, Cond.instanceMethod yX12_isBroken, Cond.selects RX12 yX12_isBroken yX12_isBroken, Cond.code yX12_isBroken cX12_isBroken 6 (some .boolean), Cond.methodLink RX12 115 yX12_terminalAt, Cond.static yX12_terminalAt, Cond.code yX12_terminalAt cX12_terminalAt 1 (some .int), Cond.methodLink RX12 225 yX12_draftOf, Cond.instanceMethod yX12_draftOf, Cond.selects RX12 yX12_draftOf yX12_draftOf, Cond.code yX12_draftOf cX12_draftOf 2 (some .int)]
def wsX12_go_r4 : List Cond := [Cond.constantLong RX12 162 (8), Cond.methodLink RX12 202 yX12_toLoad, Cond.instanceMethod yX12_toLoad, Cond.selects RX12 yX12_toLoad yX12_toLoad, Cond.code yX12_toLoad cX12_toLoad 4 (some .int), Cond.methodLink RX12 228 yX12_lesser, Cond.static yX12_lesser, Cond.code yX12_lesser cX12_lesser 2 (some .int), Cond.methodLink RX12 231 yX12_topOf, Cond.instanceMethod yX12_topOf, Cond.selects RX12 yX12_topOf yX12_topOf, Cond.code yX12_topOf cX12_topOf 2 (some .int), Cond.constantLong RX12 160 (98), Cond.constantLong RX12 150 (100), Cond.methodLink RX12 205 yX12_toLand, Cond.instanceMethod yX12_toLand, Cond.selects RX12 yX12_toLand yX12_toLand, Cond.code yX12_toLand cX12_toLand 3 (some .int), Cond.methodLink RX12 208 yX12_load, Cond.instanceMethod yX12_load, Cond.selects RX12 yX12_load yX12_load, Cond.code yX12_load cX12_load 3 none, Cond.methodLink RX12 211 yX12_land, Cond.instanceMethod yX12_land]
def wsX12_go_r5 : List Cond := [Cond.selects RX12 yX12_land yX12_land, Cond.code yX12_land cX12_land 5 none, Cond.methodLink RX12 214 yX12_endLanding, Cond.instanceMethod yX12_endLanding, Cond.selects RX12 yX12_endLanding yX12_endLanding, Cond.code yX12_endLanding cX12_endLanding 5 none, Cond.methodLink RX12 118 yX12_addFour, Cond.instanceMethod yX12_addFour, Cond.selects RX12 yX12_addFour yX12_addFour, Cond.code yX12_addFour cX12_addFour 6 none, Cond.methodLink RX12 164 yX12_roomOf, Cond.instanceMethod yX12_roomOf, Cond.selects RX12 yX12_roomOf yX12_roomOf, Cond.code yX12_roomOf cX12_roomOf 2 (some .int)]
def wsX12_go : List Cond := .code yX12_go cX12_go 4 (some .int) :: ((wsX12_go_r1 ++ (wsX12_go_r2 ++ (wsX12_go_r3 ++ (wsX12_go_r4 ++ wsX12_go_r5)))) ++ wsX120)
def wsX12_four : List Cond := .code yX12_four cX12_four 3 none :: ([.fieldLink RX12 27 "ColdShipsModel" "tape" "[I", .fieldLink RX12 252 "ColdShipsModel" "taped" "I"] ++ wsX120)
def wsX12_feed : List Cond := .code yX12_feed cX12_feed 6 (some .int) :: ([.fieldLink RX12 91 "ColdShipsModel" "thrown" "I", .fieldLink RX12 252 "ColdShipsModel" "taped" "I", .methodLink RX12 255 yX12_four, .instanceMethod yX12_four, .selects RX12 yX12_four yX12_four, .initialized RX12, .code yX12_four cX12_four 3 none, .fieldLink RX12 27 "ColdShipsModel" "tape" "[I"] ++ wsX120)
def wsX12_next : List Cond := .code yX12_next cX12_next 1 none :: ([.fieldLink RX12 258 "ColdShipsModel" "to" "I", .fieldLink RX12 267 "ColdShipsModel" "from" "I", .fieldLink RX12 252 "ColdShipsModel" "taped" "I", .fieldLink RX12 27 "ColdShipsModel" "tape" "[I", .fieldLink RX12 270 "ColdShipsModel" "worth" "J", .fieldLink RX12 280 "ColdShipsModel" "sort" "I", .constantLong RX12 283 (32), .constantLong RX12 285 (96), .constantLong RX12 158 (-1), .constantLong RX12 287 (1000000), .constantLong RX12 289 (10), .constantLong RX12 291 (48), .methodLink RX12 274 yX12_isSmall, .static yX12_isSmall, .initialized RX12, .code yX12_isSmall cX12_isSmall 1 (some .boolean), .methodLink RX12 277 yX12_isDigit, .static yX12_isDigit, .code yX12_isDigit cX12_isDigit 1 (some .boolean)] ++ wsX120)
def wsX12_begin_r1 : List Cond := [Cond.fieldLink RX12 258 "ColdShipsModel" "to" "I", Cond.fieldLink RX12 261 "ColdShipsModel" "bad" "Z", Cond.fieldLink RX12 30 "ColdShipsModel" "fault" "I", Cond.methodLink RX12 264 yX12_next, Cond.instanceMethod yX12_next, Cond.selects RX12 yX12_next yX12_next, Cond.initialized RX12, Cond.code yX12_next cX12_next 1 none, Cond.fieldLink RX12 267 "ColdShipsModel" "from" "I", Cond.fieldLink RX12 252 "ColdShipsModel" "taped" "I", Cond.fieldLink RX12 27 "ColdShipsModel" "tape" "[I", Cond.fieldLink RX12 270 "ColdShipsModel" "worth" "J", Cond.fieldLink RX12 280 "ColdShipsModel" "sort" "I", Cond.constantLong RX12 283 (32), Cond.constantLong RX12 285 (96), Cond.constantLong RX12 158 (-1), Cond.constantLong RX12 287 (1000000), Cond.constantLong RX12 289 (10), Cond.constantLong RX12 291 (48), Cond.methodLink RX12 274 yX12_isSmall, Cond.static yX12_isSmall, Cond.code yX12_isSmall cX12_isSmall 1 (some .boolean), Cond.methodLink RX12 277 yX12_isDigit, Cond.static yX12_isDigit]
def wsX12_begin_r2 : List Cond := [Cond.code yX12_isDigit cX12_isDigit 1 (some .boolean)]
def wsX12_begin : List Cond := .code yX12_begin cX12_begin 1 none :: ((wsX12_begin_r1 ++ wsX12_begin_r2) ++ wsX120)
def wsX12_isWord : List Cond := .code yX12_isWord cX12_isWord 3 (some .boolean) :: ([.fieldLink RX12 280 "ColdShipsModel" "sort" "I", .fieldLink RX12 270 "ColdShipsModel" "worth" "J"] ++ wsX120)
def wsX12_must_r1 : List Cond := [Cond.fieldLink RX12 261 "ColdShipsModel" "bad" "Z", Cond.fieldLink RX12 267 "ColdShipsModel" "from" "I", Cond.fieldLink RX12 30 "ColdShipsModel" "fault" "I", Cond.methodLink RX12 264 yX12_next, Cond.instanceMethod yX12_next, Cond.selects RX12 yX12_next yX12_next, Cond.initialized RX12, Cond.code yX12_next cX12_next 1 none, Cond.fieldLink RX12 258 "ColdShipsModel" "to" "I", Cond.fieldLink RX12 252 "ColdShipsModel" "taped" "I", Cond.fieldLink RX12 27 "ColdShipsModel" "tape" "[I", Cond.fieldLink RX12 270 "ColdShipsModel" "worth" "J", Cond.fieldLink RX12 280 "ColdShipsModel" "sort" "I", Cond.constantLong RX12 283 (32), Cond.constantLong RX12 285 (96), Cond.constantLong RX12 158 (-1), Cond.constantLong RX12 287 (1000000), Cond.constantLong RX12 289 (10), Cond.constantLong RX12 291 (48), Cond.methodLink RX12 274 yX12_isSmall, Cond.static yX12_isSmall, Cond.code yX12_isSmall cX12_isSmall 1 (some .boolean), Cond.methodLink RX12 277 yX12_isDigit, Cond.static yX12_isDigit]
def wsX12_must_r2 : List Cond := [Cond.code yX12_isDigit cX12_isDigit 1 (some .boolean)]
def wsX12_must : List Cond := .code yX12_must cX12_must 2 none :: ((wsX12_must_r1 ++ wsX12_must_r2) ++ wsX120)
def wsX12_readClause_r1 : List Cond := [Cond.constantLong RX12 383 (781652471), Cond.constantLong RX12 385 (52), Cond.constantLong RX12 387 (16441), Cond.constantLong RX12 389 (206277), Cond.fieldLink RX12 391 "ColdShipsModel" "nClauses" "I", Cond.fieldLink RX12 261 "ColdShipsModel" "bad" "Z", Cond.constantLong RX12 97 (2399), Cond.fieldLink RX12 398 "ColdShipsModel" "nFrom" "I", Cond.constantLong RX12 401 (655), Cond.fieldLink RX12 403 "ColdShipsModel" "nTo" "I", Cond.constantLong RX12 406 (5), Cond.fieldLink RX12 408 "ColdShipsModel" "nAt" "I", Cond.fieldLink RX12 411 "ColdShipsModel" "nPays" "I", Cond.fieldLink RX12 34 "ColdShipsModel" "nClause" "[I", Cond.fieldLink RX12 297 "ColdShipsModel" "nCode" "I", Cond.constantLong RX12 417 (294), Cond.methodLink RX12 317 yX12_isWord, Cond.instanceMethod yX12_isWord, Cond.selects RX12 yX12_isWord yX12_isWord, Cond.initialized RX12, Cond.code yX12_isWord cX12_isWord 3 (some .boolean), Cond.fieldLink RX12 280 "ColdShipsModel" "sort" "I", Cond.fieldLink RX12 270 "ColdShipsModel" "worth" "J", Cond.methodLink RX12 293 yX12_must]
def wsX12_readClause_r2 : List Cond := [Cond.instanceMethod yX12_must, Cond.selects RX12 yX12_must yX12_must, Cond.code yX12_must cX12_must 2 none, Cond.fieldLink RX12 267 "ColdShipsModel" "from" "I", Cond.fieldLink RX12 30 "ColdShipsModel" "fault" "I", Cond.methodLink RX12 264 yX12_next, Cond.instanceMethod yX12_next, Cond.selects RX12 yX12_next yX12_next, Cond.code yX12_next cX12_next 1 none, Cond.fieldLink RX12 258 "ColdShipsModel" "to" "I", Cond.fieldLink RX12 252 "ColdShipsModel" "taped" "I", Cond.fieldLink RX12 27 "ColdShipsModel" "tape" "[I", Cond.constantLong RX12 283 (32), Cond.constantLong RX12 285 (96), Cond.constantLong RX12 158 (-1), Cond.constantLong RX12 287 (1000000), Cond.constantLong RX12 289 (10), Cond.constantLong RX12 291 (48), Cond.methodLink RX12 274 yX12_isSmall, Cond.static yX12_isSmall, Cond.code yX12_isSmall cX12_isSmall 1 (some .boolean), Cond.methodLink RX12 277 yX12_isDigit, Cond.static yX12_isDigit, Cond.code yX12_isDigit cX12_isDigit 1 (some .boolean)]
def wsX12_readClause_r3 : List Cond := [Cond.methodLink RX12 394 yX12_number, Cond.instanceMethod yX12_number, Cond.selects RX12 yX12_number yX12_number, Cond.code yX12_number cX12_number 6 (some .int), Cond.methodLink RX12 99 yX12_in, Cond.static yX12_in, Cond.code yX12_in cX12_in 6 (some .boolean), Cond.methodLink RX12 414 yX12_readExpression, Cond.instanceMethod yX12_readExpression, Cond.selects RX12 yX12_readExpression yX12_readExpression, Cond.code yX12_readExpression cX12_readExpression 3 none, Cond.fieldLink RX12 300 "ColdShipsModel" "piled" "I", Cond.fieldLink RX12 335 "ColdShipsModel" "opened" "I", Cond.methodLink RX12 373 yX12_readPlain, Cond.instanceMethod yX12_readPlain, Cond.selects RX12 yX12_readPlain yX12_readPlain, Cond.code yX12_readPlain cX12_readPlain 1 (some .int), Cond.constantLong RX12 354 (14836), Cond.methodLink RX12 338 yX12_push, Cond.instanceMethod yX12_push, Cond.selects RX12 yX12_push yX12_push, Cond.code yX12_push cX12_push 3 none, Cond.fieldLink RX12 43 "ColdShipsModel" "pile" "[I", Cond.fieldLink RX12 46 "ColdShipsModel" "pileAt" "[I"]
def wsX12_readClause_r4 : List Cond := [Cond.methodLink RX12 341 yX12_isSign, Cond.instanceMethod yX12_isSign, Cond.selects RX12 yX12_isSign yX12_isSign, Cond.code yX12_isSign cX12_isSign 2 (some .boolean), Cond.methodLink RX12 344 yX12_open, Cond.instanceMethod yX12_open, Cond.selects RX12 yX12_open yX12_open, Cond.code yX12_open cX12_open 2 none, Cond.methodLink RX12 356 yX12_readPart, Cond.instanceMethod yX12_readPart, Cond.selects RX12 yX12_readPart yX12_readPart, Cond.code yX12_readPart cX12_readPart 4 (some .int), Cond.constantLong RX12 177 (100000), Cond.fieldLink RX12 351 "ColdShipsModel" "nLeaves" "I", Cond.methodLink RX12 347 yX12_partAt, Cond.instanceMethod yX12_partAt, Cond.selects RX12 yX12_partAt yX12_partAt, Cond.code yX12_partAt cX12_partAt 1 (some .int), Cond.constantLong RX12 315 (671187), Cond.constantLong RX12 321 (76951716), Cond.constantLong RX12 323 (267316), Cond.constantLong RX12 325 (394885), Cond.constantLong RX12 327 (5294489), Cond.constantLong RX12 329 (17376357)]
def wsX12_readClause_r5 : List Cond := [Cond.constantLong RX12 331 (8902227), Cond.constantLong RX12 333 (5930468251205), Cond.methodLink RX12 306 yX12_emit, Cond.instanceMethod yX12_emit, Cond.selects RX12 yX12_emit yX12_emit, Cond.code yX12_emit cX12_emit 3 none, Cond.fieldLink RX12 37 "ColdShipsModel" "nOp" "[I", Cond.fieldLink RX12 40 "ColdShipsModel" "nArg" "[I", Cond.methodLink RX12 376 yX12_behindSum, Cond.instanceMethod yX12_behindSum, Cond.selects RX12 yX12_behindSum yX12_behindSum, Cond.code yX12_behindSum cX12_behindSum 4 (some .int), Cond.methodLink RX12 303 yX12_binds, Cond.static yX12_binds, Cond.code yX12_binds cX12_binds 1 (some .int), Cond.methodLink RX12 359 yX12_settleDown, Cond.instanceMethod yX12_settleDown, Cond.selects RX12 yX12_settleDown yX12_settleDown, Cond.code yX12_settleDown cX12_settleDown 2 none, Cond.methodLink RX12 362 yX12_inner, Cond.instanceMethod yX12_inner, Cond.selects RX12 yX12_inner yX12_inner, Cond.code yX12_inner cX12_inner 3 (some .int), Cond.methodLink RX12 365 yX12_isCompared]
def wsX12_readClause_r6 : List Cond := [Cond.instanceMethod yX12_isCompared, Cond.selects RX12 yX12_isCompared yX12_isCompared, Cond.code yX12_isCompared cX12_isCompared 2 (some .boolean), Cond.constantLong RX12 309 (13), Cond.constantLong RX12 311 (14), Cond.constantLong RX12 313 (16), Cond.methodLink RX12 380 yX12_behindTest, Cond.instanceMethod yX12_behindTest, Cond.selects RX12 yX12_behindTest yX12_behindTest, Cond.code yX12_behindTest cX12_behindTest 2 (some .int), Cond.constantLong RX12 369 (1476), Cond.constantLong RX12 371 (498)]
def wsX12_readClause : List Cond := .code yX12_readClause cX12_readClause 5 none :: ((wsX12_readClause_r1 ++ (wsX12_readClause_r2 ++ (wsX12_readClause_r3 ++ (wsX12_readClause_r4 ++ (wsX12_readClause_r5 ++ wsX12_readClause_r6))))) ++ wsX120)
def wsX12_contract_r1 : List Cond := [Cond.fieldLink RX12 91 "ColdShipsModel" "thrown" "I", Cond.fieldLink RX12 7 "ColdShipsModel" "row" "[I", Cond.fieldLink RX12 252 "ColdShipsModel" "taped" "I", Cond.fieldLink RX12 391 "ColdShipsModel" "nClauses" "I", Cond.fieldLink RX12 411 "ColdShipsModel" "nPays" "I", Cond.fieldLink RX12 297 "ColdShipsModel" "nCode" "I", Cond.fieldLink RX12 351 "ColdShipsModel" "nLeaves" "I", Cond.fieldLink RX12 398 "ColdShipsModel" "nFrom" "I", Cond.fieldLink RX12 403 "ColdShipsModel" "nTo" "I", Cond.fieldLink RX12 408 "ColdShipsModel" "nAt" "I", Cond.fieldLink RX12 261 "ColdShipsModel" "bad" "Z", Cond.fieldLink RX12 280 "ColdShipsModel" "sort" "I", Cond.fieldLink RX12 34 "ColdShipsModel" "nClause" "[I", Cond.fieldLink RX12 37 "ColdShipsModel" "nOp" "[I", Cond.fieldLink RX12 40 "ColdShipsModel" "nArg" "[I", Cond.methodLink RX12 105 yX12_told, Cond.instanceMethod yX12_told, Cond.selects RX12 yX12_told yX12_told, Cond.initialized RX12, Cond.code yX12_told cX12_told 2 (some .int), Cond.fieldLink RX12 94 "ColdShipsModel" "status" "I", Cond.methodLink RX12 419 yX12_begin, Cond.instanceMethod yX12_begin, Cond.selects RX12 yX12_begin yX12_begin]
def wsX12_contract_r2 : List Cond := [Cond.code yX12_begin cX12_begin 1 none, Cond.fieldLink RX12 258 "ColdShipsModel" "to" "I", Cond.fieldLink RX12 30 "ColdShipsModel" "fault" "I", Cond.methodLink RX12 264 yX12_next, Cond.instanceMethod yX12_next, Cond.selects RX12 yX12_next yX12_next, Cond.code yX12_next cX12_next 1 none, Cond.fieldLink RX12 267 "ColdShipsModel" "from" "I", Cond.fieldLink RX12 27 "ColdShipsModel" "tape" "[I", Cond.fieldLink RX12 270 "ColdShipsModel" "worth" "J", Cond.constantLong RX12 283 (32), Cond.constantLong RX12 285 (96), Cond.constantLong RX12 158 (-1), Cond.constantLong RX12 287 (1000000), Cond.constantLong RX12 289 (10), Cond.constantLong RX12 291 (48), Cond.methodLink RX12 274 yX12_isSmall, Cond.static yX12_isSmall, Cond.code yX12_isSmall cX12_isSmall 1 (some .boolean), Cond.methodLink RX12 277 yX12_isDigit, Cond.static yX12_isDigit, Cond.code yX12_isDigit cX12_isDigit 1 (some .boolean), Cond.methodLink RX12 422 yX12_readClause, Cond.instanceMethod yX12_readClause]
def wsX12_contract_r3 : List Cond := [Cond.selects RX12 yX12_readClause yX12_readClause, Cond.code yX12_readClause cX12_readClause 5 none, Cond.constantLong RX12 383 (781652471), Cond.constantLong RX12 385 (52), Cond.constantLong RX12 387 (16441), Cond.constantLong RX12 389 (206277), Cond.constantLong RX12 97 (2399), Cond.constantLong RX12 401 (655), Cond.constantLong RX12 406 (5), Cond.constantLong RX12 417 (294), Cond.methodLink RX12 317 yX12_isWord, Cond.instanceMethod yX12_isWord, Cond.selects RX12 yX12_isWord yX12_isWord, Cond.code yX12_isWord cX12_isWord 3 (some .boolean), Cond.methodLink RX12 293 yX12_must, Cond.instanceMethod yX12_must, Cond.selects RX12 yX12_must yX12_must, Cond.code yX12_must cX12_must 2 none, Cond.methodLink RX12 394 yX12_number, Cond.instanceMethod yX12_number, Cond.selects RX12 yX12_number yX12_number, Cond.code yX12_number cX12_number 6 (some .int), Cond.methodLink RX12 99 yX12_in, Cond.static yX12_in]
def wsX12_contract_r4 : List Cond := [Cond.code yX12_in cX12_in 6 (some .boolean), Cond.methodLink RX12 414 yX12_readExpression, Cond.instanceMethod yX12_readExpression, Cond.selects RX12 yX12_readExpression yX12_readExpression, Cond.code yX12_readExpression cX12_readExpression 3 none, Cond.fieldLink RX12 300 "ColdShipsModel" "piled" "I", Cond.fieldLink RX12 335 "ColdShipsModel" "opened" "I", Cond.methodLink RX12 373 yX12_readPlain, Cond.instanceMethod yX12_readPlain, Cond.selects RX12 yX12_readPlain yX12_readPlain, Cond.code yX12_readPlain cX12_readPlain 1 (some .int), Cond.constantLong RX12 354 (14836), Cond.methodLink RX12 338 yX12_push, Cond.instanceMethod yX12_push, Cond.selects RX12 yX12_push yX12_push, Cond.code yX12_push cX12_push 3 none, Cond.fieldLink RX12 43 "ColdShipsModel" "pile" "[I", Cond.fieldLink RX12 46 "ColdShipsModel" "pileAt" "[I", Cond.methodLink RX12 341 yX12_isSign, Cond.instanceMethod yX12_isSign, Cond.selects RX12 yX12_isSign yX12_isSign, Cond.code yX12_isSign cX12_isSign 2 (some .boolean), Cond.methodLink RX12 344 yX12_open, Cond.instanceMethod yX12_open]
def wsX12_contract_r5 : List Cond := [Cond.selects RX12 yX12_open yX12_open, Cond.code yX12_open cX12_open 2 none, Cond.methodLink RX12 356 yX12_readPart, Cond.instanceMethod yX12_readPart, Cond.selects RX12 yX12_readPart yX12_readPart, Cond.code yX12_readPart cX12_readPart 4 (some .int), Cond.constantLong RX12 177 (100000), Cond.methodLink RX12 347 yX12_partAt, Cond.instanceMethod yX12_partAt, Cond.selects RX12 yX12_partAt yX12_partAt, Cond.code yX12_partAt cX12_partAt 1 (some .int), Cond.constantLong RX12 315 (671187), Cond.constantLong RX12 321 (76951716), Cond.constantLong RX12 323 (267316), Cond.constantLong RX12 325 (394885), Cond.constantLong RX12 327 (5294489), Cond.constantLong RX12 329 (17376357), Cond.constantLong RX12 331 (8902227), Cond.constantLong RX12 333 (5930468251205), Cond.methodLink RX12 306 yX12_emit, Cond.instanceMethod yX12_emit, Cond.selects RX12 yX12_emit yX12_emit, Cond.code yX12_emit cX12_emit 3 none, Cond.methodLink RX12 376 yX12_behindSum]
def wsX12_contract_r6 : List Cond := [Cond.instanceMethod yX12_behindSum, Cond.selects RX12 yX12_behindSum yX12_behindSum, Cond.code yX12_behindSum cX12_behindSum 4 (some .int), Cond.methodLink RX12 303 yX12_binds, Cond.static yX12_binds, Cond.code yX12_binds cX12_binds 1 (some .int), Cond.methodLink RX12 359 yX12_settleDown, Cond.instanceMethod yX12_settleDown, Cond.selects RX12 yX12_settleDown yX12_settleDown, Cond.code yX12_settleDown cX12_settleDown 2 none, Cond.methodLink RX12 362 yX12_inner, Cond.instanceMethod yX12_inner, Cond.selects RX12 yX12_inner yX12_inner, Cond.code yX12_inner cX12_inner 3 (some .int), Cond.methodLink RX12 365 yX12_isCompared, Cond.instanceMethod yX12_isCompared, Cond.selects RX12 yX12_isCompared yX12_isCompared, Cond.code yX12_isCompared cX12_isCompared 2 (some .boolean), Cond.constantLong RX12 309 (13), Cond.constantLong RX12 311 (14), Cond.constantLong RX12 313 (16), Cond.methodLink RX12 380 yX12_behindTest, Cond.instanceMethod yX12_behindTest, Cond.selects RX12 yX12_behindTest yX12_behindTest]
def wsX12_contract_r7 : List Cond := [Cond.code yX12_behindTest cX12_behindTest 2 (some .int), Cond.constantLong RX12 369 (1476), Cond.constantLong RX12 371 (498), Cond.methodLink RX12 118 yX12_addFour, Cond.instanceMethod yX12_addFour, Cond.selects RX12 yX12_addFour yX12_addFour, Cond.code yX12_addFour cX12_addFour 6 none]
def wsX12_contract : List Cond := .code yX12_contract cX12_contract 3 (some .int) :: ((wsX12_contract_r1 ++ (wsX12_contract_r2 ++ (wsX12_contract_r3 ++ (wsX12_contract_r4 ++ (wsX12_contract_r5 ++ (wsX12_contract_r6 ++ wsX12_contract_r7)))))) ++ wsX120)
def wsX12_share : List Cond := .code yX12_share cX12_share 7 (some .int) :: ([.fieldLink RX12 88 "ColdShipsModel" "sets" "[I", .fieldLink RX12 85 "ColdShipsModel" "chosen" "[I"] ++ wsX120)
def wsX12_keepBest_r1 : List Cond := [Cond.fieldLink RX12 538 "ColdShipsModel" "hasBest" "Z", Cond.fieldLink RX12 541 "ColdShipsModel" "bestCargoes" "I", Cond.fieldLink RX12 82 "ColdShipsModel" "bestTold" "[J", Cond.constantLong RX12 466 (-2000000000000000), Cond.fieldLink RX12 79 "ColdShipsModel" "bestShip" "[I", Cond.fieldLink RX12 64 "ColdShipsModel" "line" "[I", Cond.fieldLink RX12 70 "ColdShipsModel" "placesOf" "[I", Cond.fieldLink RX12 55 "ColdShipsModel" "loads" "[I", Cond.fieldLink RX12 58 "ColdShipsModel" "lands" "[I", Cond.fieldLink RX12 61 "ColdShipsModel" "worths" "[J", Cond.methodLink RX12 519 yX12_sailRow, Cond.instanceMethod yX12_sailRow, Cond.selects RX12 yX12_sailRow yX12_sailRow, Cond.initialized RX12, Cond.code yX12_sailRow cX12_sailRow 7 (some .long), Cond.fieldLink RX12 500 "ColdShipsModel" "clock" "I", Cond.fieldLink RX12 7 "ColdShipsModel" "row" "[I", Cond.fieldLink RX12 503 "ColdShipsModel" "place" "I", Cond.methodLink RX12 132 yX12_shipAt, Cond.static yX12_shipAt, Cond.code yX12_shipAt cX12_shipAt 1 (some .int), Cond.methodLink RX12 516 yX12_carry, Cond.instanceMethod yX12_carry, Cond.selects RX12 yX12_carry yX12_carry]
def wsX12_keepBest_r2 : List Cond := [Cond.code yX12_carry cX12_carry 12 (some .boolean), Cond.fieldLink RX12 506 "ColdShipsModel" "began" "I", Cond.constantLong RX12 177 (100000), Cond.constantLong RX12 150 (100), Cond.methodLink RX12 231 yX12_topOf, Cond.instanceMethod yX12_topOf, Cond.selects RX12 yX12_topOf yX12_topOf, Cond.code yX12_topOf cX12_topOf 2 (some .int), Cond.constantLong RX12 160 (98), Cond.methodLink RX12 115 yX12_terminalAt, Cond.static yX12_terminalAt, Cond.code yX12_terminalAt cX12_terminalAt 1 (some .int), Cond.methodLink RX12 512 yX12_goTo, Cond.instanceMethod yX12_goTo, Cond.selects RX12 yX12_goTo yX12_goTo, Cond.code yX12_goTo cX12_goTo 6 (some .int), Cond.methodLink RX12 217 yX12_wayOf, Cond.instanceMethod yX12_wayOf, Cond.selects RX12 yX12_wayOf yX12_wayOf, Cond.code yX12_wayOf cX12_wayOf 3 (some .int), Cond.methodLink RX12 509 yX12_work, Cond.instanceMethod yX12_work, Cond.selects RX12 yX12_work yX12_work, Cond.code yX12_work cX12_work 4 (some .boolean)]
def wsX12_keepBest_r3 : List Cond := [Cond.methodLink RX12 221 yX12_isBroken, Cond.instanceMethod yX12_isBroken, Cond.selects RX12 yX12_isBroken yX12_isBroken, Cond.code yX12_isBroken cX12_isBroken 6 (some .boolean), Cond.methodLink RX12 99 yX12_in, Cond.static yX12_in, Cond.code yX12_in cX12_in 6 (some .boolean)]
def wsX12_keepBest : List Cond := .code yX12_keepBest cX12_keepBest 9 none :: ((wsX12_keepBest_r1 ++ (wsX12_keepBest_r2 ++ wsX12_keepBest_r3)) ++ wsX120)
def wsX12_best_r1 : List Cond := [Cond.fieldLink RX12 91 "ColdShipsModel" "thrown" "I", Cond.constantLong RX12 158 (-1), Cond.fieldLink RX12 7 "ColdShipsModel" "row" "[I", Cond.constantLong RX12 466 (-2000000000000000), Cond.fieldLink RX12 67 "ColdShipsModel" "bestOf" "[J", Cond.fieldLink RX12 88 "ColdShipsModel" "sets" "[I", Cond.fieldLink RX12 79 "ColdShipsModel" "bestShip" "[I", Cond.fieldLink RX12 85 "ColdShipsModel" "chosen" "[I", Cond.methodLink RX12 144 yX12_isHour, Cond.static yX12_isHour, Cond.initialized RX12, Cond.code yX12_isHour cX12_isHour 1 (some .boolean), Cond.constantLong RX12 97 (2399), Cond.methodLink RX12 99 yX12_in, Cond.static yX12_in, Cond.code yX12_in cX12_in 6 (some .boolean), Cond.methodLink RX12 228 yX12_lesser, Cond.static yX12_lesser, Cond.code yX12_lesser cX12_lesser 2 (some .int), Cond.methodLink RX12 528 yX12_findSet, Cond.instanceMethod yX12_findSet, Cond.selects RX12 yX12_findSet yX12_findSet, Cond.code yX12_findSet cX12_findSet 12 none, Cond.fieldLink RX12 73 "ColdShipsModel" "members" "[I"]
def wsX12_best_r2 : List Cond := [Cond.fieldLink RX12 76 "ColdShipsModel" "places" "[I", Cond.fieldLink RX12 64 "ColdShipsModel" "line" "[I", Cond.fieldLink RX12 70 "ColdShipsModel" "placesOf" "[I", Cond.methodLink RX12 519 yX12_sailRow, Cond.instanceMethod yX12_sailRow, Cond.selects RX12 yX12_sailRow yX12_sailRow, Cond.code yX12_sailRow cX12_sailRow 7 (some .long), Cond.fieldLink RX12 500 "ColdShipsModel" "clock" "I", Cond.fieldLink RX12 503 "ColdShipsModel" "place" "I", Cond.fieldLink RX12 61 "ColdShipsModel" "worths" "[J", Cond.methodLink RX12 132 yX12_shipAt, Cond.static yX12_shipAt, Cond.code yX12_shipAt cX12_shipAt 1 (some .int), Cond.methodLink RX12 516 yX12_carry, Cond.instanceMethod yX12_carry, Cond.selects RX12 yX12_carry yX12_carry, Cond.code yX12_carry cX12_carry 12 (some .boolean), Cond.fieldLink RX12 55 "ColdShipsModel" "loads" "[I", Cond.fieldLink RX12 506 "ColdShipsModel" "began" "I", Cond.fieldLink RX12 58 "ColdShipsModel" "lands" "[I", Cond.constantLong RX12 177 (100000), Cond.constantLong RX12 150 (100), Cond.methodLink RX12 231 yX12_topOf, Cond.instanceMethod yX12_topOf]
def wsX12_best_r3 : List Cond := [Cond.selects RX12 yX12_topOf yX12_topOf, Cond.code yX12_topOf cX12_topOf 2 (some .int), Cond.constantLong RX12 160 (98), Cond.methodLink RX12 115 yX12_terminalAt, Cond.static yX12_terminalAt, Cond.code yX12_terminalAt cX12_terminalAt 1 (some .int), Cond.methodLink RX12 512 yX12_goTo, Cond.instanceMethod yX12_goTo, Cond.selects RX12 yX12_goTo yX12_goTo, Cond.code yX12_goTo cX12_goTo 6 (some .int), Cond.methodLink RX12 217 yX12_wayOf, Cond.instanceMethod yX12_wayOf, Cond.selects RX12 yX12_wayOf yX12_wayOf, Cond.code yX12_wayOf cX12_wayOf 3 (some .int), Cond.methodLink RX12 509 yX12_work, Cond.instanceMethod yX12_work, Cond.selects RX12 yX12_work yX12_work, Cond.code yX12_work cX12_work 4 (some .boolean), Cond.methodLink RX12 221 yX12_isBroken, Cond.instanceMethod yX12_isBroken, Cond.selects RX12 yX12_isBroken yX12_isBroken, Cond.code yX12_isBroken cX12_isBroken 6 (some .boolean), Cond.methodLink RX12 525 yX12_nextPlaces, Cond.instanceMethod yX12_nextPlaces]
def wsX12_best_r4 : List Cond := [Cond.selects RX12 yX12_nextPlaces yX12_nextPlaces, Cond.code yX12_nextPlaces cX12_nextPlaces 6 (some .boolean), Cond.methodLink RX12 522 yX12_swapPlaces, Cond.instanceMethod yX12_swapPlaces, Cond.selects RX12 yX12_swapPlaces yX12_swapPlaces, Cond.code yX12_swapPlaces cX12_swapPlaces 4 none, Cond.methodLink RX12 531 yX12_share, Cond.instanceMethod yX12_share, Cond.selects RX12 yX12_share yX12_share, Cond.code yX12_share cX12_share 7 (some .int), Cond.methodLink RX12 535 yX12_keepBest, Cond.instanceMethod yX12_keepBest, Cond.selects RX12 yX12_keepBest yX12_keepBest, Cond.code yX12_keepBest cX12_keepBest 9 none, Cond.fieldLink RX12 538 "ColdShipsModel" "hasBest" "Z", Cond.fieldLink RX12 541 "ColdShipsModel" "bestCargoes" "I", Cond.fieldLink RX12 82 "ColdShipsModel" "bestTold" "[J"]
def wsX12_best : List Cond := .code yX12_best cX12_best 15 (some .long) :: ((wsX12_best_r1 ++ (wsX12_best_r2 ++ (wsX12_best_r3 ++ wsX12_best_r4))) ++ wsX120)
set_option maxRecDepth 20000 in
theorem ggX12_image_X12_in : GoodIn wsX12_image wsX12_in := goodIn_r _ [8] (by decide +kernel) (by decide +kernel)
set_option maxRecDepth 20000 in
theorem gX12_image_X12_in : GoodIn wsX12_image (va_wsS RX12 99 yX12_in wsX12_in) := goodIn_app (goodIn_of _ (by decide +kernel)) ggX12_image_X12_in
set_option maxRecDepth 20000 in
theorem ggX12_image_X12_told : GoodIn wsX12_image wsX12_told := goodIn_r _ [12, 13, 14, 15, 16, 17, 18, 19, 20, 21, 22, 23, 24, 25, 26, 27, 28, 29, 30, 31, 32, 33, 34, 35, 36, 37, 38, 39, 40, 41, 42, 43, 44, 45, 46, 47, 48, 49, 50, 51, 52, 53, 54, 55, 56, 57, 58, 59, 60, 61, 62, 63, 64, 65, 66] (by decide +kernel) (by decide +kernel)
set_option maxRecDepth 20000 in
theorem gX12_image_X12_told : GoodIn wsX12_image (wsV RX12 105 RX12 yX12_told wsX12_told) := goodIn_app (goodIn_of _ (by decide +kernel)) ggX12_image_X12_told
theorem dX12_image_0 : decode cX12_image 0 = .ok (.aload_n 0, 1) := by decide +kernel
theorem dX12_image_1 : decode cX12_image 1 = .ok (.iconst 0, 1) := by decide +kernel
theorem dX12_image_2 : decode cX12_image 2 = .ok (.putfield 91, 3) := by decide +kernel
theorem dX12_image_5 : decode cX12_image 5 = .ok (.iload_n 1, 1) := by decide +kernel
theorem dX12_image_6 : decode cX12_image 6 = .ok (.i2l, 1) := by decide +kernel
theorem dX12_image_7 : decode cX12_image 7 = .ok (.lconst 0, 1) := by decide +kernel
theorem dX12_image_8 : decode cX12_image 8 = .ok (.lconst 1, 1) := by decide +kernel
theorem dX12_image_9 : decode cX12_image 9 = .ok (.invokestatic 99, 3) := by decide +kernel
theorem dX12_image_12 : decode cX12_image 12 = .ok (.ifCond .ne 9, 3) := by decide +kernel
theorem dX12_image_15 : decode cX12_image 15 = .ok (.aload_n 0, 1) := by decide +kernel
theorem dX12_image_16 : decode cX12_image 16 = .ok (.iconst (-1), 1) := by decide +kernel
theorem dX12_image_17 : decode cX12_image 17 = .ok (.invokevirtual 105, 3) := by decide +kernel
theorem dX12_image_20 : decode cX12_image 20 = .ok (.ireturn, 1) := by decide +kernel
theorem dX12_image_21 : decode cX12_image 21 = .ok (.iconst 0, 1) := by decide +kernel
theorem dX12_image_22 : decode cX12_image 22 = .ok (.istore_n 2, 1) := by decide +kernel
theorem dX12_image_23 : decode cX12_image 23 = .ok (.iload_n 2, 1) := by decide +kernel
theorem dX12_image_24 : decode cX12_image 24 = .ok (.sipush 12967, 3) := by decide +kernel
theorem dX12_image_27 : decode cX12_image 27 = .ok (.if_icmp .ge 27, 3) := by decide +kernel
theorem dX12_image_30 : decode cX12_image 30 = .ok (.aload_n 0, 1) := by decide +kernel
theorem dX12_image_31 : decode cX12_image 31 = .ok (.getfield 13, 3) := by decide +kernel
theorem dX12_image_34 : decode cX12_image 34 = .ok (.sipush 12967, 3) := by decide +kernel
theorem dX12_image_37 : decode cX12_image 37 = .ok (.iload_n 1, 1) := by decide +kernel
theorem dX12_image_38 : decode cX12_image 38 = .ok (.imul, 1) := by decide +kernel
theorem dX12_image_39 : decode cX12_image 39 = .ok (.iload_n 2, 1) := by decide +kernel
theorem dX12_image_40 : decode cX12_image 40 = .ok (.iadd, 1) := by decide +kernel
theorem dX12_image_41 : decode cX12_image 41 = .ok (.aload_n 0, 1) := by decide +kernel
theorem dX12_image_42 : decode cX12_image 42 = .ok (.getfield 7, 3) := by decide +kernel
theorem dX12_image_45 : decode cX12_image 45 = .ok (.iload_n 2, 1) := by decide +kernel
theorem dX12_image_46 : decode cX12_image 46 = .ok (.iaload, 1) := by decide +kernel
theorem dX12_image_47 : decode cX12_image 47 = .ok (.iastore, 1) := by decide +kernel
theorem dX12_image_48 : decode cX12_image 48 = .ok (.iinc 2 1, 3) := by decide +kernel
theorem dX12_image_51 : decode cX12_image 51 = .ok (.goto (-28), 3) := by decide +kernel
theorem dX12_image_54 : decode cX12_image 54 = .ok (.aload_n 0, 1) := by decide +kernel
theorem dX12_image_55 : decode cX12_image 55 = .ok (.getfield 16, 3) := by decide +kernel
theorem dX12_image_58 : decode cX12_image 58 = .ok (.iload_n 1, 1) := by decide +kernel
theorem dX12_image_59 : decode cX12_image 59 = .ok (.iconst 1, 1) := by decide +kernel
theorem dX12_image_60 : decode cX12_image 60 = .ok (.bastore, 1) := by decide +kernel
theorem dX12_image_61 : decode cX12_image 61 = .ok (.aload_n 0, 1) := by decide +kernel
theorem dX12_image_62 : decode cX12_image 62 = .ok (.iconst 0, 1) := by decide +kernel
theorem dX12_image_63 : decode cX12_image 63 = .ok (.invokevirtual 105, 3) := by decide +kernel
theorem dX12_image_66 : decode cX12_image 66 = .ok (.ireturn, 1) := by decide +kernel
set_option maxRecDepth 20000 in
theorem ggX12_go_X12_in : GoodIn wsX12_go wsX12_in := goodIn_r _ [8] (by decide +kernel) (by decide +kernel)
set_option maxRecDepth 20000 in
theorem gX12_go_X12_in : GoodIn wsX12_go (va_wsS RX12 99 yX12_in wsX12_in) := goodIn_app (goodIn_of _ (by decide +kernel)) ggX12_go_X12_in
set_option maxRecDepth 20000 in
theorem ggX12_go_X12_told : GoodIn wsX12_go wsX12_told := goodIn_r _ [12, 13, 111, 112, 113, 114, 115, 116, 117, 118, 119, 120, 121, 122, 123, 124, 125, 126, 127, 128, 129, 130, 131, 132, 133, 134, 135, 136, 137, 138, 139, 140, 141, 142, 143, 144, 145, 146, 147, 148, 149, 150, 151, 152, 153, 154, 155, 156, 157, 158, 159, 160, 161, 162, 163] (by decide +kernel) (by decide +kernel)
set_option maxRecDepth 20000 in
theorem gX12_go_X12_told : GoodIn wsX12_go (wsV RX12 105 RX12 yX12_told wsX12_told) := goodIn_app (goodIn_of _ (by decide +kernel)) ggX12_go_X12_told
theorem dX12_go_0 : decode cX12_go 0 = .ok (.aload_n 0, 1) := by decide +kernel
theorem dX12_go_1 : decode cX12_go 1 = .ok (.iconst 0, 1) := by decide +kernel
theorem dX12_go_2 : decode cX12_go 2 = .ok (.putfield 91, 3) := by decide +kernel
theorem dX12_go_5 : decode cX12_go 5 = .ok (.iload_n 1, 1) := by decide +kernel
theorem dX12_go_6 : decode cX12_go 6 = .ok (.i2l, 1) := by decide +kernel
theorem dX12_go_7 : decode cX12_go 7 = .ok (.lconst 1, 1) := by decide +kernel
theorem dX12_go_8 : decode cX12_go 8 = .ok (.ldc2_w 167, 3) := by decide +kernel
theorem dX12_go_11 : decode cX12_go 11 = .ok (.invokestatic 99, 3) := by decide +kernel
theorem dX12_go_14 : decode cX12_go 14 = .ok (.ifCond .eq 18, 3) := by decide +kernel
theorem dX12_go_17 : decode cX12_go 17 = .ok (.aload_n 0, 1) := by decide +kernel
theorem dX12_go_18 : decode cX12_go 18 = .ok (.getfield 7, 3) := by decide +kernel
theorem dX12_go_21 : decode cX12_go 21 = .ok (.bipush 11, 2) := by decide +kernel
theorem dX12_go_23 : decode cX12_go 23 = .ok (.iaload, 1) := by decide +kernel
theorem dX12_go_24 : decode cX12_go 24 = .ok (.iload_n 1, 1) := by decide +kernel
theorem dX12_go_25 : decode cX12_go 25 = .ok (.iadd, 1) := by decide +kernel
theorem dX12_go_26 : decode cX12_go 26 = .ok (.sipush 2399, 3) := by decide +kernel
theorem dX12_go_29 : decode cX12_go 29 = .ok (.if_icmp .le 9, 3) := by decide +kernel
theorem dX12_go_32 : decode cX12_go 32 = .ok (.aload_n 0, 1) := by decide +kernel
theorem dX12_go_33 : decode cX12_go 33 = .ok (.iconst (-1), 1) := by decide +kernel
theorem dX12_go_34 : decode cX12_go 34 = .ok (.invokevirtual 105, 3) := by decide +kernel
theorem dX12_go_37 : decode cX12_go 37 = .ok (.ireturn, 1) := by decide +kernel
theorem dX12_go_38 : decode cX12_go 38 = .ok (.iconst 0, 1) := by decide +kernel
theorem dX12_go_39 : decode cX12_go 39 = .ok (.istore_n 2, 1) := by decide +kernel
theorem dX12_go_40 : decode cX12_go 40 = .ok (.iload_n 2, 1) := by decide +kernel
theorem dX12_go_41 : decode cX12_go 41 = .ok (.iload_n 1, 1) := by decide +kernel
theorem dX12_go_42 : decode cX12_go 42 = .ok (.if_icmp .ge 55, 3) := by decide +kernel
theorem dX12_go_45 : decode cX12_go 45 = .ok (.aload_n 0, 1) := by decide +kernel
theorem dX12_go_46 : decode cX12_go 46 = .ok (.iconst 0, 1) := by decide +kernel
theorem dX12_go_47 : decode cX12_go 47 = .ok (.putfield 169, 3) := by decide +kernel
theorem dX12_go_50 : decode cX12_go 50 = .ok (.iconst 0, 1) := by decide +kernel
theorem dX12_go_51 : decode cX12_go 51 = .ok (.istore_n 3, 1) := by decide +kernel
theorem dX12_go_52 : decode cX12_go 52 = .ok (.iload_n 3, 1) := by decide +kernel
theorem dX12_go_53 : decode cX12_go 53 = .ok (.aload_n 0, 1) := by decide +kernel
theorem dX12_go_54 : decode cX12_go 54 = .ok (.getfield 7, 3) := by decide +kernel
theorem dX12_go_57 : decode cX12_go 57 = .ok (.iconst 1, 1) := by decide +kernel
theorem dX12_go_58 : decode cX12_go 58 = .ok (.iaload, 1) := by decide +kernel
theorem dX12_go_59 : decode cX12_go 59 = .ok (.if_icmp .ge 21, 3) := by decide +kernel
theorem dX12_go_80 : decode cX12_go 80 = .ok (.aload_n 0, 1) := by decide +kernel
theorem dX12_go_81 : decode cX12_go 81 = .ok (.getfield 7, 3) := by decide +kernel
theorem dX12_go_84 : decode cX12_go 84 = .ok (.bipush 11, 2) := by decide +kernel
theorem dX12_go_86 : decode cX12_go 86 = .ok (.dup2, 1) := by decide +kernel
theorem dX12_go_87 : decode cX12_go 87 = .ok (.iaload, 1) := by decide +kernel
theorem dX12_go_88 : decode cX12_go 88 = .ok (.iconst 1, 1) := by decide +kernel
theorem dX12_go_89 : decode cX12_go 89 = .ok (.iadd, 1) := by decide +kernel
theorem dX12_go_90 : decode cX12_go 90 = .ok (.iastore, 1) := by decide +kernel
theorem dX12_go_91 : decode cX12_go 91 = .ok (.iinc 2 1, 3) := by decide +kernel
theorem dX12_go_94 : decode cX12_go 94 = .ok (.goto (-54), 3) := by decide +kernel
theorem dX12_go_97 : decode cX12_go 97 = .ok (.aload_n 0, 1) := by decide +kernel
theorem dX12_go_98 : decode cX12_go 98 = .ok (.aload_n 0, 1) := by decide +kernel
theorem dX12_go_99 : decode cX12_go 99 = .ok (.getfield 7, 3) := by decide +kernel
theorem dX12_go_102 : decode cX12_go 102 = .ok (.bipush 11, 2) := by decide +kernel
theorem dX12_go_104 : decode cX12_go 104 = .ok (.iaload, 1) := by decide +kernel
theorem dX12_go_105 : decode cX12_go 105 = .ok (.invokevirtual 105, 3) := by decide +kernel
theorem dX12_go_108 : decode cX12_go 108 = .ok (.ireturn, 1) := by decide +kernel
theorem dX12_lesser_0 : decode cX12_lesser 0 = .ok (.iload_n 0, 1) := by decide +kernel
theorem dX12_lesser_1 : decode cX12_lesser 1 = .ok (.iload_n 1, 1) := by decide +kernel
theorem dX12_lesser_2 : decode cX12_lesser 2 = .ok (.if_icmp .ge 7, 3) := by decide +kernel
theorem dX12_lesser_9 : decode cX12_lesser 9 = .ok (.iload_n 1, 1) := by decide +kernel
theorem dX12_lesser_10 : decode cX12_lesser 10 = .ok (.ireturn, 1) := by decide +kernel
theorem dX12_four_0 : decode cX12_four 0 = .ok (.bipush 24, 2) := by decide +kernel
theorem dX12_four_2 : decode cX12_four 2 = .ok (.istore_n 2, 1) := by decide +kernel
theorem dX12_four_3 : decode cX12_four 3 = .ok (.iload_n 2, 1) := by decide +kernel
theorem dX12_four_4 : decode cX12_four 4 = .ok (.ifCond .lt 35, 3) := by decide +kernel
theorem dX12_four_7 : decode cX12_four 7 = .ok (.aload_n 0, 1) := by decide +kernel
theorem dX12_four_8 : decode cX12_four 8 = .ok (.getfield 27, 3) := by decide +kernel
theorem dX12_four_11 : decode cX12_four 11 = .ok (.aload_n 0, 1) := by decide +kernel
theorem dX12_four_12 : decode cX12_four 12 = .ok (.getfield 252, 3) := by decide +kernel
theorem dX12_four_15 : decode cX12_four 15 = .ok (.iload_n 1, 1) := by decide +kernel
theorem dX12_four_16 : decode cX12_four 16 = .ok (.iload_n 2, 1) := by decide +kernel
theorem dX12_four_17 : decode cX12_four 17 = .ok (.ishr, 1) := by decide +kernel
theorem dX12_four_18 : decode cX12_four 18 = .ok (.sipush 255, 3) := by decide +kernel
theorem dX12_four_21 : decode cX12_four 21 = .ok (.iand, 1) := by decide +kernel
theorem dX12_four_22 : decode cX12_four 22 = .ok (.iastore, 1) := by decide +kernel
theorem dX12_four_23 : decode cX12_four 23 = .ok (.aload_n 0, 1) := by decide +kernel
theorem dX12_four_24 : decode cX12_four 24 = .ok (.dup, 1) := by decide +kernel
theorem dX12_four_25 : decode cX12_four 25 = .ok (.getfield 252, 3) := by decide +kernel
theorem dX12_four_28 : decode cX12_four 28 = .ok (.iconst 1, 1) := by decide +kernel
theorem dX12_four_29 : decode cX12_four 29 = .ok (.iadd, 1) := by decide +kernel
theorem dX12_four_30 : decode cX12_four 30 = .ok (.putfield 252, 3) := by decide +kernel
theorem dX12_four_33 : decode cX12_four 33 = .ok (.iinc 2 (-8), 3) := by decide +kernel
theorem dX12_four_36 : decode cX12_four 36 = .ok (.goto (-33), 3) := by decide +kernel
theorem dX12_four_39 : decode cX12_four 39 = .ok (.return_, 1) := by decide +kernel
set_option maxRecDepth 20000 in
theorem ggX12_feed_X12_four : GoodIn wsX12_feed wsX12_four := goodIn_r _ [7, 8, 2, 9, 10, 11, 12, 13, 14, 15, 16, 17, 18, 19, 20, 21, 22, 23, 24, 25, 26, 27, 28, 29, 30, 31, 32, 33, 34, 35, 36, 37, 38, 39, 40, 41, 42, 43, 44, 45, 46, 47, 48, 49, 50, 51, 52, 53, 54, 55, 56, 57, 58, 59, 60, 61] (by decide +kernel) (by decide +kernel)
set_option maxRecDepth 20000 in
theorem gX12_feed_X12_four : GoodIn wsX12_feed (wsV RX12 255 RX12 yX12_four wsX12_four) := goodIn_app (goodIn_of _ (by decide +kernel)) ggX12_feed_X12_four
theorem dX12_feed_0 : decode cX12_feed 0 = .ok (.aload_n 0, 1) := by decide +kernel
theorem dX12_feed_1 : decode cX12_feed 1 = .ok (.iconst 0, 1) := by decide +kernel
theorem dX12_feed_2 : decode cX12_feed 2 = .ok (.putfield 91, 3) := by decide +kernel
theorem dX12_feed_5 : decode cX12_feed 5 = .ok (.aload_n 0, 1) := by decide +kernel
theorem dX12_feed_6 : decode cX12_feed 6 = .ok (.getfield 252, 3) := by decide +kernel
theorem dX12_feed_9 : decode cX12_feed 9 = .ok (.bipush 20, 2) := by decide +kernel
theorem dX12_feed_11 : decode cX12_feed 11 = .ok (.iadd, 1) := by decide +kernel
theorem dX12_feed_12 : decode cX12_feed 12 = .ok (.sipush 400, 3) := by decide +kernel
theorem dX12_feed_15 : decode cX12_feed 15 = .ok (.if_icmp .le 5, 3) := by decide +kernel
theorem dX12_feed_20 : decode cX12_feed 20 = .ok (.aload_n 0, 1) := by decide +kernel
theorem dX12_feed_21 : decode cX12_feed 21 = .ok (.iload_n 1, 1) := by decide +kernel
theorem dX12_feed_22 : decode cX12_feed 22 = .ok (.invokevirtual 255, 3) := by decide +kernel
theorem dX12_feed_25 : decode cX12_feed 25 = .ok (.aload_n 0, 1) := by decide +kernel
theorem dX12_feed_26 : decode cX12_feed 26 = .ok (.iload_n 2, 1) := by decide +kernel
theorem dX12_feed_27 : decode cX12_feed 27 = .ok (.invokevirtual 255, 3) := by decide +kernel
theorem dX12_feed_30 : decode cX12_feed 30 = .ok (.aload_n 0, 1) := by decide +kernel
theorem dX12_feed_31 : decode cX12_feed 31 = .ok (.iload_n 3, 1) := by decide +kernel
theorem dX12_feed_32 : decode cX12_feed 32 = .ok (.invokevirtual 255, 3) := by decide +kernel
theorem dX12_feed_35 : decode cX12_feed 35 = .ok (.aload_n 0, 1) := by decide +kernel
theorem dX12_feed_36 : decode cX12_feed 36 = .ok (.iload 4, 2) := by decide +kernel
theorem dX12_feed_38 : decode cX12_feed 38 = .ok (.invokevirtual 255, 3) := by decide +kernel
theorem dX12_feed_41 : decode cX12_feed 41 = .ok (.aload_n 0, 1) := by decide +kernel
theorem dX12_feed_42 : decode cX12_feed 42 = .ok (.iload 5, 2) := by decide +kernel
theorem dX12_feed_44 : decode cX12_feed 44 = .ok (.invokevirtual 255, 3) := by decide +kernel
theorem dX12_feed_47 : decode cX12_feed 47 = .ok (.aload_n 0, 1) := by decide +kernel
theorem dX12_feed_48 : decode cX12_feed 48 = .ok (.getfield 252, 3) := by decide +kernel
theorem dX12_feed_51 : decode cX12_feed 51 = .ok (.ireturn, 1) := by decide +kernel
set_option maxRecDepth 20000 in
theorem ggX12_begin_X12_next : GoodIn wsX12_begin wsX12_next := goodIn_r _ [8, 1, 9, 10, 11, 12, 13, 14, 15, 16, 17, 18, 19, 20, 21, 7, 22, 23, 24, 25, 26, 27, 28, 29, 30, 31, 32, 33, 34, 35, 36, 37, 38, 39, 40, 41, 42, 43, 44, 45, 46, 47, 48, 49, 50, 51, 52, 53, 54, 55, 56, 57, 58, 59, 60, 61, 62, 63, 64, 65, 66, 67, 68, 69, 70, 71, 72, 73, 74, 75, 76, 77, 78] (by decide +kernel) (by decide +kernel)
set_option maxRecDepth 20000 in
theorem gX12_begin_X12_next : GoodIn wsX12_begin (wsV RX12 264 RX12 yX12_next wsX12_next) := goodIn_app (goodIn_of _ (by decide +kernel)) ggX12_begin_X12_next
theorem dX12_begin_0 : decode cX12_begin 0 = .ok (.aload_n 0, 1) := by decide +kernel
theorem dX12_begin_1 : decode cX12_begin 1 = .ok (.iconst 0, 1) := by decide +kernel
theorem dX12_begin_2 : decode cX12_begin 2 = .ok (.putfield 258, 3) := by decide +kernel
theorem dX12_begin_5 : decode cX12_begin 5 = .ok (.aload_n 0, 1) := by decide +kernel
theorem dX12_begin_6 : decode cX12_begin 6 = .ok (.iconst 0, 1) := by decide +kernel
theorem dX12_begin_7 : decode cX12_begin 7 = .ok (.putfield 261, 3) := by decide +kernel
theorem dX12_begin_10 : decode cX12_begin 10 = .ok (.aload_n 0, 1) := by decide +kernel
theorem dX12_begin_11 : decode cX12_begin 11 = .ok (.iconst (-1), 1) := by decide +kernel
theorem dX12_begin_12 : decode cX12_begin 12 = .ok (.putfield 30, 3) := by decide +kernel
theorem dX12_begin_15 : decode cX12_begin 15 = .ok (.aload_n 0, 1) := by decide +kernel
theorem dX12_begin_16 : decode cX12_begin 16 = .ok (.invokevirtual 264, 3) := by decide +kernel
theorem dX12_begin_19 : decode cX12_begin 19 = .ok (.return_, 1) := by decide +kernel
theorem dX12_next_0 : decode cX12_next 0 = .ok (.aload_n 0, 1) := by decide +kernel
theorem dX12_next_1 : decode cX12_next 1 = .ok (.aload_n 0, 1) := by decide +kernel
theorem dX12_next_2 : decode cX12_next 2 = .ok (.getfield 258, 3) := by decide +kernel
theorem dX12_next_5 : decode cX12_next 5 = .ok (.putfield 267, 3) := by decide +kernel
theorem dX12_next_8 : decode cX12_next 8 = .ok (.aload_n 0, 1) := by decide +kernel
theorem dX12_next_9 : decode cX12_next 9 = .ok (.getfield 267, 3) := by decide +kernel
theorem dX12_next_12 : decode cX12_next 12 = .ok (.aload_n 0, 1) := by decide +kernel
theorem dX12_next_13 : decode cX12_next 13 = .ok (.getfield 252, 3) := by decide +kernel
theorem dX12_next_16 : decode cX12_next 16 = .ok (.if_icmp .ge 30, 3) := by decide +kernel
theorem dX12_next_46 : decode cX12_next 46 = .ok (.aload_n 0, 1) := by decide +kernel
theorem dX12_next_47 : decode cX12_next 47 = .ok (.aload_n 0, 1) := by decide +kernel
theorem dX12_next_48 : decode cX12_next 48 = .ok (.getfield 267, 3) := by decide +kernel
theorem dX12_next_51 : decode cX12_next 51 = .ok (.putfield 258, 3) := by decide +kernel
theorem dX12_next_54 : decode cX12_next 54 = .ok (.aload_n 0, 1) := by decide +kernel
theorem dX12_next_55 : decode cX12_next 55 = .ok (.lconst 0, 1) := by decide +kernel
theorem dX12_next_56 : decode cX12_next 56 = .ok (.putfield 270, 3) := by decide +kernel
theorem dX12_next_59 : decode cX12_next 59 = .ok (.aload_n 0, 1) := by decide +kernel
theorem dX12_next_60 : decode cX12_next 60 = .ok (.aload_n 0, 1) := by decide +kernel
theorem dX12_next_61 : decode cX12_next 61 = .ok (.getfield 267, 3) := by decide +kernel
theorem dX12_next_64 : decode cX12_next 64 = .ok (.aload_n 0, 1) := by decide +kernel
theorem dX12_next_65 : decode cX12_next 65 = .ok (.getfield 252, 3) := by decide +kernel
theorem dX12_next_68 : decode cX12_next 68 = .ok (.if_icmp .ne 7, 3) := by decide +kernel
theorem dX12_next_71 : decode cX12_next 71 = .ok (.iconst 0, 1) := by decide +kernel
theorem dX12_next_72 : decode cX12_next 72 = .ok (.goto 42, 3) := by decide +kernel
theorem dX12_next_114 : decode cX12_next 114 = .ok (.putfield 280, 3) := by decide +kernel
theorem dX12_next_117 : decode cX12_next 117 = .ok (.aload_n 0, 1) := by decide +kernel
theorem dX12_next_118 : decode cX12_next 118 = .ok (.getfield 280, 3) := by decide +kernel
theorem dX12_next_121 : decode cX12_next 121 = .ok (.iconst 3, 1) := by decide +kernel
theorem dX12_next_122 : decode cX12_next 122 = .ok (.if_icmp .ne 27, 3) := by decide +kernel
theorem dX12_next_149 : decode cX12_next 149 = .ok (.aload_n 0, 1) := by decide +kernel
theorem dX12_next_150 : decode cX12_next 150 = .ok (.getfield 280, 3) := by decide +kernel
theorem dX12_next_153 : decode cX12_next 153 = .ok (.iconst 1, 1) := by decide +kernel
theorem dX12_next_154 : decode cX12_next 154 = .ok (.if_icmp .ne 89, 3) := by decide +kernel
theorem dX12_next_243 : decode cX12_next 243 = .ok (.aload_n 0, 1) := by decide +kernel
theorem dX12_next_244 : decode cX12_next 244 = .ok (.getfield 280, 3) := by decide +kernel
theorem dX12_next_247 : decode cX12_next 247 = .ok (.iconst 2, 1) := by decide +kernel
theorem dX12_next_248 : decode cX12_next 248 = .ok (.if_icmp .ne 87, 3) := by decide +kernel
theorem dX12_next_335 : decode cX12_next 335 = .ok (.return_, 1) := by decide +kernel
theorem dX12_isWord_0 : decode cX12_isWord 0 = .ok (.aload_n 0, 1) := by decide +kernel
theorem dX12_isWord_1 : decode cX12_isWord 1 = .ok (.getfield 280, 3) := by decide +kernel
theorem dX12_isWord_4 : decode cX12_isWord 4 = .ok (.iconst 1, 1) := by decide +kernel
theorem dX12_isWord_5 : decode cX12_isWord 5 = .ok (.if_icmp .ne 16, 3) := by decide +kernel
theorem dX12_isWord_21 : decode cX12_isWord 21 = .ok (.iconst 0, 1) := by decide +kernel
theorem dX12_isWord_22 : decode cX12_isWord 22 = .ok (.ireturn, 1) := by decide +kernel
theorem dX12_must_0 : decode cX12_must 0 = .ok (.aload_n 0, 1) := by decide +kernel
theorem dX12_must_1 : decode cX12_must 1 = .ok (.getfield 261, 3) := by decide +kernel
theorem dX12_must_4 : decode cX12_must 4 = .ok (.ifCond .ne 20, 3) := by decide +kernel
theorem dX12_must_7 : decode cX12_must 7 = .ok (.iload_n 1, 1) := by decide +kernel
theorem dX12_must_8 : decode cX12_must 8 = .ok (.ifCond .ne 16, 3) := by decide +kernel
theorem dX12_must_11 : decode cX12_must 11 = .ok (.aload_n 0, 1) := by decide +kernel
theorem dX12_must_12 : decode cX12_must 12 = .ok (.iconst 1, 1) := by decide +kernel
theorem dX12_must_13 : decode cX12_must 13 = .ok (.putfield 261, 3) := by decide +kernel
theorem dX12_must_16 : decode cX12_must 16 = .ok (.aload_n 0, 1) := by decide +kernel
theorem dX12_must_17 : decode cX12_must 17 = .ok (.aload_n 0, 1) := by decide +kernel
theorem dX12_must_18 : decode cX12_must 18 = .ok (.getfield 267, 3) := by decide +kernel
theorem dX12_must_21 : decode cX12_must 21 = .ok (.putfield 30, 3) := by decide +kernel
theorem dX12_must_24 : decode cX12_must 24 = .ok (.aload_n 0, 1) := by decide +kernel
theorem dX12_must_25 : decode cX12_must 25 = .ok (.getfield 261, 3) := by decide +kernel
theorem dX12_must_28 : decode cX12_must 28 = .ok (.ifCond .ne 7, 3) := by decide +kernel
theorem dX12_must_35 : decode cX12_must 35 = .ok (.return_, 1) := by decide +kernel
set_option maxRecDepth 20000 in
theorem ggX12_readClause_X12_isWord : GoodIn wsX12_readClause wsX12_isWord := goodIn_r _ [21, 22, 23, 133, 134, 135, 136, 137, 138, 139, 140, 141, 142, 143, 144, 145, 146, 147, 148, 149, 150, 151, 152, 153, 154, 155, 156, 157, 158, 159, 160, 161, 162, 163, 164, 165, 166, 167, 168, 169, 170, 171, 172, 173, 174, 175, 176, 177, 178, 179, 180, 181, 182, 183, 184, 185] (by decide +kernel) (by decide +kernel)
set_option maxRecDepth 20000 in
theorem gX12_readClause_X12_isWord : GoodIn wsX12_readClause (wsV RX12 317 RX12 yX12_isWord wsX12_isWord) := goodIn_app (goodIn_of _ (by decide +kernel)) ggX12_readClause_X12_isWord
set_option maxRecDepth 20000 in
theorem ggX12_readClause_X12_must : GoodIn wsX12_readClause wsX12_must := goodIn_r _ [27, 6, 28, 29, 30, 31, 32, 20, 33, 34, 35, 36, 23, 22, 37, 38, 39, 40, 41, 42, 43, 44, 45, 46, 47, 48, 133, 134, 135, 136, 137, 138, 139, 140, 141, 142, 143, 144, 145, 146, 147, 148, 149, 150, 151, 152, 153, 154, 155, 156, 157, 158, 159, 160, 161, 162, 163, 164, 165, 166, 167, 168, 169, 170, 171, 172, 173, 174, 175, 176, 177, 178, 179, 180, 181, 182, 183, 184, 185] (by decide +kernel) (by decide +kernel)
set_option maxRecDepth 20000 in
theorem gX12_readClause_X12_must : GoodIn wsX12_readClause (wsV RX12 293 RX12 yX12_must wsX12_must) := goodIn_app (goodIn_of _ (by decide +kernel)) ggX12_readClause_X12_must
theorem dX12_readClause_0 : decode cX12_readClause 0 = .ok (.aload_n 0, 1) := by decide +kernel
theorem dX12_readClause_1 : decode cX12_readClause 1 = .ok (.ldc2_w 383, 3) := by decide +kernel
theorem dX12_readClause_4 : decode cX12_readClause 4 = .ok (.invokevirtual 317, 3) := by decide +kernel
theorem dX12_readClause_7 : decode cX12_readClause 7 = .ok (.istore_n 1, 1) := by decide +kernel
theorem dX12_readClause_8 : decode cX12_readClause 8 = .ok (.aload_n 0, 1) := by decide +kernel
theorem dX12_readClause_9 : decode cX12_readClause 9 = .ok (.ldc2_w 385, 3) := by decide +kernel
theorem dX12_readClause_12 : decode cX12_readClause 12 = .ok (.invokevirtual 317, 3) := by decide +kernel
theorem dX12_readClause_15 : decode cX12_readClause 15 = .ok (.istore_n 2, 1) := by decide +kernel
theorem dX12_readClause_16 : decode cX12_readClause 16 = .ok (.aload_n 0, 1) := by decide +kernel
theorem dX12_readClause_17 : decode cX12_readClause 17 = .ok (.ldc2_w 387, 3) := by decide +kernel
theorem dX12_readClause_20 : decode cX12_readClause 20 = .ok (.invokevirtual 317, 3) := by decide +kernel
theorem dX12_readClause_23 : decode cX12_readClause 23 = .ok (.istore_n 3, 1) := by decide +kernel
theorem dX12_readClause_24 : decode cX12_readClause 24 = .ok (.aload_n 0, 1) := by decide +kernel
theorem dX12_readClause_25 : decode cX12_readClause 25 = .ok (.iload_n 1, 1) := by decide +kernel
theorem dX12_readClause_26 : decode cX12_readClause 26 = .ok (.ifCond .ne 21, 3) := by decide +kernel
theorem dX12_readClause_29 : decode cX12_readClause 29 = .ok (.iload_n 2, 1) := by decide +kernel
theorem dX12_readClause_30 : decode cX12_readClause 30 = .ok (.ifCond .ne 17, 3) := by decide +kernel
theorem dX12_readClause_33 : decode cX12_readClause 33 = .ok (.iload_n 3, 1) := by decide +kernel
theorem dX12_readClause_34 : decode cX12_readClause 34 = .ok (.ifCond .ne 13, 3) := by decide +kernel
theorem dX12_readClause_37 : decode cX12_readClause 37 = .ok (.aload_n 0, 1) := by decide +kernel
theorem dX12_readClause_38 : decode cX12_readClause 38 = .ok (.ldc2_w 389, 3) := by decide +kernel
theorem dX12_readClause_41 : decode cX12_readClause 41 = .ok (.invokevirtual 317, 3) := by decide +kernel
theorem dX12_readClause_44 : decode cX12_readClause 44 = .ok (.ifCond .eq 16, 3) := by decide +kernel
theorem dX12_readClause_60 : decode cX12_readClause 60 = .ok (.iconst 0, 1) := by decide +kernel
theorem dX12_readClause_61 : decode cX12_readClause 61 = .ok (.invokevirtual 293, 3) := by decide +kernel
theorem dX12_readClause_64 : decode cX12_readClause 64 = .ok (.aload_n 0, 1) := by decide +kernel
theorem dX12_readClause_65 : decode cX12_readClause 65 = .ok (.getfield 261, 3) := by decide +kernel
theorem dX12_readClause_68 : decode cX12_readClause 68 = .ok (.ifCond .eq 4, 3) := by decide +kernel
theorem dX12_readClause_71 : decode cX12_readClause 71 = .ok (.return_, 1) := by decide +kernel
set_option maxRecDepth 20000 in
theorem ggX12_contract_X12_told : GoodIn wsX12_contract wsX12_told := goodIn_r _ [20, 21, 152, 153, 154, 155, 156, 157, 158, 159, 160, 161, 162, 163, 164, 165, 166, 167, 168, 169, 170, 171, 172, 173, 174, 175, 176, 177, 178, 179, 180, 181, 182, 183, 184, 185, 186, 187, 188, 189, 190, 191, 192, 193, 194, 195, 196, 197, 198, 199, 200, 201, 202, 203, 204] (by decide +kernel) (by decide +kernel)
set_option maxRecDepth 20000 in
theorem gX12_contract_X12_told : GoodIn wsX12_contract (wsV RX12 105 RX12 yX12_told wsX12_told) := goodIn_app (goodIn_of _ (by decide +kernel)) ggX12_contract_X12_told
set_option maxRecDepth 20000 in
theorem ggX12_contract_X12_begin : GoodIn wsX12_contract wsX12_begin := goodIn_r _ [25, 26, 11, 27, 28, 29, 30, 19, 31, 32, 3, 33, 34, 12, 35, 36, 37, 38, 39, 40, 41, 42, 43, 44, 45, 46, 152, 153, 154, 155, 156, 157, 158, 159, 160, 161, 162, 163, 164, 165, 166, 167, 168, 169, 170, 171, 172, 173, 174, 175, 176, 177, 178, 179, 180, 181, 182, 183, 184, 185, 186, 187, 188, 189, 190, 191, 192, 193, 194, 195, 196, 197, 198, 199, 200, 201, 202, 203, 204] (by decide +kernel) (by decide +kernel)
set_option maxRecDepth 20000 in
theorem gX12_contract_X12_begin : GoodIn wsX12_contract (wsV RX12 419 RX12 yX12_begin wsX12_begin) := goodIn_app (goodIn_of _ (by decide +kernel)) ggX12_contract_X12_begin
set_option maxRecDepth 20000 in
theorem ggX12_contract_X12_readClause : GoodIn wsX12_contract wsX12_readClause := goodIn_r _ [50, 51, 52, 53, 54, 4, 11, 55, 8, 56, 9, 57, 10, 5, 13, 6, 58, 59, 60, 61, 19, 62, 12, 34, 63, 64, 65, 66, 32, 27, 28, 29, 30, 31, 26, 3, 33, 35, 36, 37, 38, 39, 40, 41, 42, 43, 44, 45, 46, 67, 68, 69, 70, 71, 72, 73, 74, 75, 76, 77, 78, 79, 80, 81, 82, 83, 84, 85, 86, 87, 88, 89, 90, 91, 92, 93, 94, 95, 96, 97, 98, 99, 100, 101, 102, 103, 7, 104, 105, 106, 107, 108, 109, 110, 111, 112, 113, 114, 115, 116, 117, 118, 119, 14, 15, 120, 121, 122, 123, 124, 125, 126, 127, 128, 129, 130, 131, 132, 133, 134, 135, 136, 137, 138, 139, 140, 141, 142, 143, 144, 145, 146, 147, 152, 153, 154, 155, 156, 157, 158, 159, 160, 161, 162, 163, 164, 165, 166, 167, 168, 169, 170, 171, 172, 173, 174, 175, 176, 177, 178, 179, 180, 181, 182, 183, 184, 185, 186, 187, 188, 189, 190, 191, 192, 193, 194, 195, 196, 197, 198, 199, 200, 201, 202, 203, 204] (by decide +kernel) (by decide +kernel)
set_option maxRecDepth 20000 in
theorem gX12_contract_X12_readClause : GoodIn wsX12_contract (wsV RX12 422 RX12 yX12_readClause wsX12_readClause) := goodIn_app (goodIn_of _ (by decide +kernel)) ggX12_contract_X12_readClause
theorem dX12_contract_0 : decode cX12_contract 0 = .ok (.aload_n 0, 1) := by decide +kernel
theorem dX12_contract_1 : decode cX12_contract 1 = .ok (.iconst 0, 1) := by decide +kernel
theorem dX12_contract_2 : decode cX12_contract 2 = .ok (.putfield 91, 3) := by decide +kernel
theorem dX12_contract_5 : decode cX12_contract 5 = .ok (.aload_n 0, 1) := by decide +kernel
theorem dX12_contract_6 : decode cX12_contract 6 = .ok (.getfield 7, 3) := by decide +kernel
theorem dX12_contract_9 : decode cX12_contract 9 = .ok (.bipush 8, 2) := by decide +kernel
theorem dX12_contract_11 : decode cX12_contract 11 = .ok (.iaload, 1) := by decide +kernel
theorem dX12_contract_12 : decode cX12_contract 12 = .ok (.bipush 12, 2) := by decide +kernel
theorem dX12_contract_14 : decode cX12_contract 14 = .ok (.if_icmp .ne 15, 3) := by decide +kernel
theorem dX12_contract_29 : decode cX12_contract 29 = .ok (.aload_n 0, 1) := by decide +kernel
theorem dX12_contract_30 : decode cX12_contract 30 = .ok (.invokevirtual 419, 3) := by decide +kernel
theorem dX12_contract_33 : decode cX12_contract 33 = .ok (.aload_n 0, 1) := by decide +kernel
theorem dX12_contract_34 : decode cX12_contract 34 = .ok (.iconst 0, 1) := by decide +kernel
theorem dX12_contract_35 : decode cX12_contract 35 = .ok (.putfield 391, 3) := by decide +kernel
theorem dX12_contract_38 : decode cX12_contract 38 = .ok (.aload_n 0, 1) := by decide +kernel
theorem dX12_contract_39 : decode cX12_contract 39 = .ok (.iconst 0, 1) := by decide +kernel
theorem dX12_contract_40 : decode cX12_contract 40 = .ok (.putfield 411, 3) := by decide +kernel
theorem dX12_contract_43 : decode cX12_contract 43 = .ok (.aload_n 0, 1) := by decide +kernel
theorem dX12_contract_44 : decode cX12_contract 44 = .ok (.iconst 0, 1) := by decide +kernel
theorem dX12_contract_45 : decode cX12_contract 45 = .ok (.putfield 297, 3) := by decide +kernel
theorem dX12_contract_48 : decode cX12_contract 48 = .ok (.aload_n 0, 1) := by decide +kernel
theorem dX12_contract_49 : decode cX12_contract 49 = .ok (.iconst 0, 1) := by decide +kernel
theorem dX12_contract_50 : decode cX12_contract 50 = .ok (.putfield 351, 3) := by decide +kernel
theorem dX12_contract_53 : decode cX12_contract 53 = .ok (.aload_n 0, 1) := by decide +kernel
theorem dX12_contract_54 : decode cX12_contract 54 = .ok (.iconst 0, 1) := by decide +kernel
theorem dX12_contract_55 : decode cX12_contract 55 = .ok (.putfield 398, 3) := by decide +kernel
theorem dX12_contract_58 : decode cX12_contract 58 = .ok (.aload_n 0, 1) := by decide +kernel
theorem dX12_contract_59 : decode cX12_contract 59 = .ok (.sipush 2399, 3) := by decide +kernel
theorem dX12_contract_62 : decode cX12_contract 62 = .ok (.putfield 403, 3) := by decide +kernel
theorem dX12_contract_65 : decode cX12_contract 65 = .ok (.aload_n 0, 1) := by decide +kernel
theorem dX12_contract_66 : decode cX12_contract 66 = .ok (.iconst (-1), 1) := by decide +kernel
theorem dX12_contract_67 : decode cX12_contract 67 = .ok (.putfield 408, 3) := by decide +kernel
theorem dX12_contract_70 : decode cX12_contract 70 = .ok (.aload_n 0, 1) := by decide +kernel
theorem dX12_contract_71 : decode cX12_contract 71 = .ok (.invokevirtual 422, 3) := by decide +kernel
theorem dX12_contract_74 : decode cX12_contract 74 = .ok (.aload_n 0, 1) := by decide +kernel
theorem dX12_contract_75 : decode cX12_contract 75 = .ok (.getfield 261, 3) := by decide +kernel
theorem dX12_contract_78 : decode cX12_contract 78 = .ok (.ifCond .ne 23, 3) := by decide +kernel
theorem dX12_contract_101 : decode cX12_contract 101 = .ok (.aload_n 0, 1) := by decide +kernel
theorem dX12_contract_102 : decode cX12_contract 102 = .ok (.getfield 261, 3) := by decide +kernel
theorem dX12_contract_105 : decode cX12_contract 105 = .ok (.ifCond .ne 15, 3) := by decide +kernel
theorem dX12_contract_120 : decode cX12_contract 120 = .ok (.aload_n 0, 1) := by decide +kernel
theorem dX12_contract_121 : decode cX12_contract 121 = .ok (.iconst 0, 1) := by decide +kernel
theorem dX12_contract_122 : decode cX12_contract 122 = .ok (.putfield 252, 3) := by decide +kernel
theorem dX12_contract_125 : decode cX12_contract 125 = .ok (.aload_n 0, 1) := by decide +kernel
theorem dX12_contract_126 : decode cX12_contract 126 = .ok (.getfield 261, 3) := by decide +kernel
theorem dX12_contract_129 : decode cX12_contract 129 = .ok (.ifCond .eq 10, 3) := by decide +kernel
theorem dX12_contract_132 : decode cX12_contract 132 = .ok (.aload_n 0, 1) := by decide +kernel
theorem dX12_contract_133 : decode cX12_contract 133 = .ok (.bipush (-6), 2) := by decide +kernel
theorem dX12_contract_135 : decode cX12_contract 135 = .ok (.invokevirtual 105, 3) := by decide +kernel
theorem dX12_contract_138 : decode cX12_contract 138 = .ok (.ireturn, 1) := by decide +kernel
set_option maxRecDepth 20000 in
theorem ggX12_best_X12_isHour : GoodIn wsX12_best wsX12_isHour := goodIn_r _ [12, 13, 14, 15, 11, 16] (by decide +kernel) (by decide +kernel)
set_option maxRecDepth 20000 in
theorem gX12_best_X12_isHour : GoodIn wsX12_best (va_wsS RX12 144 yX12_isHour wsX12_isHour) := goodIn_app (goodIn_of _ (by decide +kernel)) ggX12_best_X12_isHour
set_option maxRecDepth 20000 in
theorem ggX12_best_X12_lesser : GoodIn wsX12_best wsX12_lesser := goodIn_r _ [19] (by decide +kernel) (by decide +kernel)
set_option maxRecDepth 20000 in
theorem gX12_best_X12_lesser : GoodIn wsX12_best (va_wsS RX12 228 yX12_lesser wsX12_lesser) := goodIn_app (goodIn_of _ (by decide +kernel)) ggX12_best_X12_lesser
set_option maxRecDepth 20000 in
theorem ggX12_best_X12_share : GoodIn wsX12_best wsX12_share := goodIn_r _ [82, 6, 8, 90, 91, 92, 93, 94, 95, 96, 97, 98, 99, 100, 101, 102, 103, 104, 105, 106, 107, 108, 109, 110, 111, 112, 113, 114, 115, 116, 117, 118, 119, 120, 121, 122, 123, 124, 125, 126, 127, 128, 129, 130, 131, 132, 133, 134, 135, 136, 137, 138, 139, 140, 141, 142] (by decide +kernel) (by decide +kernel)
set_option maxRecDepth 20000 in
theorem gX12_best_X12_share : GoodIn wsX12_best (wsV RX12 531 RX12 yX12_share wsX12_share) := goodIn_app (goodIn_of _ (by decide +kernel)) ggX12_best_X12_share
set_option maxRecDepth 20000 in
theorem ggX12_best_X12_keepBest : GoodIn wsX12_best wsX12_keepBest := goodIn_r _ [86, 87, 88, 89, 4, 7, 26, 27, 42, 44, 34, 28, 29, 30, 11, 31, 32, 3, 33, 35, 36, 37, 38, 39, 40, 41, 43, 45, 46, 47, 48, 49, 50, 51, 52, 53, 54, 55, 56, 57, 58, 59, 60, 61, 62, 63, 64, 65, 66, 67, 68, 69, 70, 14, 15, 16, 90, 91, 92, 93, 94, 95, 96, 97, 98, 99, 100, 101, 102, 103, 104, 105, 106, 107, 108, 109, 110, 111, 112, 113, 114, 115, 116, 117, 118, 119, 120, 121, 122, 123, 124, 125, 126, 127, 128, 129, 130, 131, 132, 133, 134, 135, 136, 137, 138, 139, 140, 141, 142] (by decide +kernel) (by decide +kernel)
set_option maxRecDepth 20000 in
theorem gX12_best_X12_keepBest : GoodIn wsX12_best (wsV RX12 535 RX12 yX12_keepBest wsX12_keepBest) := goodIn_app (goodIn_of _ (by decide +kernel)) ggX12_best_X12_keepBest
theorem dX12_best_0 : decode cX12_best 0 = .ok (.aload_n 0, 1) := by decide +kernel
theorem dX12_best_1 : decode cX12_best 1 = .ok (.iconst 0, 1) := by decide +kernel
theorem dX12_best_2 : decode cX12_best 2 = .ok (.putfield 91, 3) := by decide +kernel
theorem dX12_best_5 : decode cX12_best 5 = .ok (.iload_n 1, 1) := by decide +kernel
theorem dX12_best_6 : decode cX12_best 6 = .ok (.invokestatic 144, 3) := by decide +kernel
theorem dX12_best_9 : decode cX12_best 9 = .ok (.ifCond .ne 7, 3) := by decide +kernel
theorem dX12_best_12 : decode cX12_best 12 = .ok (.ldc2_w 158, 3) := by decide +kernel
theorem dX12_best_15 : decode cX12_best 15 = .ok (.lreturn, 1) := by decide +kernel
theorem dX12_best_16 : decode cX12_best 16 = .ok (.aload_n 0, 1) := by decide +kernel
theorem dX12_best_17 : decode cX12_best 17 = .ok (.getfield 7, 3) := by decide +kernel
theorem dX12_best_20 : decode cX12_best 20 = .ok (.bipush 10, 2) := by decide +kernel
theorem dX12_best_22 : decode cX12_best 22 = .ok (.iaload, 1) := by decide +kernel
theorem dX12_best_23 : decode cX12_best 23 = .ok (.istore_n 2, 1) := by decide +kernel
theorem dX12_best_24 : decode cX12_best 24 = .ok (.iconst 3, 1) := by decide +kernel
theorem dX12_best_25 : decode cX12_best 25 = .ok (.aload_n 0, 1) := by decide +kernel
theorem dX12_best_26 : decode cX12_best 26 = .ok (.getfield 7, 3) := by decide +kernel
theorem dX12_best_29 : decode cX12_best 29 = .ok (.iconst 1, 1) := by decide +kernel
theorem dX12_best_30 : decode cX12_best 30 = .ok (.iaload, 1) := by decide +kernel
theorem dX12_best_31 : decode cX12_best 31 = .ok (.invokestatic 228, 3) := by decide +kernel
theorem dX12_best_34 : decode cX12_best 34 = .ok (.istore_n 3, 1) := by decide +kernel
theorem dX12_best_35 : decode cX12_best 35 = .ok (.iconst 0, 1) := by decide +kernel
theorem dX12_best_36 : decode cX12_best 36 = .ok (.istore 4, 2) := by decide +kernel
theorem dX12_best_38 : decode cX12_best 38 = .ok (.iload 4, 2) := by decide +kernel
theorem dX12_best_40 : decode cX12_best 40 = .ok (.iload_n 3, 1) := by decide +kernel
theorem dX12_best_41 : decode cX12_best 41 = .ok (.if_icmp .ge 35, 3) := by decide +kernel
theorem dX12_best_76 : decode cX12_best 76 = .ok (.iconst 1, 1) := by decide +kernel
theorem dX12_best_77 : decode cX12_best 77 = .ok (.istore 4, 2) := by decide +kernel
theorem dX12_best_79 : decode cX12_best 79 = .ok (.iconst 0, 1) := by decide +kernel
theorem dX12_best_80 : decode cX12_best 80 = .ok (.istore 5, 2) := by decide +kernel
theorem dX12_best_82 : decode cX12_best 82 = .ok (.iload 5, 2) := by decide +kernel
theorem dX12_best_84 : decode cX12_best 84 = .ok (.iload_n 2, 1) := by decide +kernel
theorem dX12_best_85 : decode cX12_best 85 = .ok (.if_icmp .ge 17, 3) := by decide +kernel
theorem dX12_best_102 : decode cX12_best 102 = .ok (.ldc2_w 466, 3) := by decide +kernel
theorem dX12_best_105 : decode cX12_best 105 = .ok (.lstore 5, 2) := by decide +kernel
theorem dX12_best_107 : decode cX12_best 107 = .ok (.iconst 0, 1) := by decide +kernel
theorem dX12_best_108 : decode cX12_best 108 = .ok (.istore 7, 2) := by decide +kernel
theorem dX12_best_110 : decode cX12_best 110 = .ok (.iconst 0, 1) := by decide +kernel
theorem dX12_best_111 : decode cX12_best 111 = .ok (.istore 8, 2) := by decide +kernel
theorem dX12_best_113 : decode cX12_best 113 = .ok (.iload 8, 2) := by decide +kernel
theorem dX12_best_115 : decode cX12_best 115 = .ok (.iload 4, 2) := by decide +kernel
theorem dX12_best_117 : decode cX12_best 117 = .ok (.if_icmp .ge 166, 3) := by decide +kernel
theorem dX12_best_120 : decode cX12_best 120 = .ok (.aload_n 0, 1) := by decide +kernel
theorem dX12_best_121 : decode cX12_best 121 = .ok (.iload 8, 2) := by decide +kernel
theorem dX12_best_123 : decode cX12_best 123 = .ok (.iload_n 2, 1) := by decide +kernel
theorem dX12_best_124 : decode cX12_best 124 = .ok (.iload_n 3, 1) := by decide +kernel
theorem dX12_best_125 : decode cX12_best 125 = .ok (.invokevirtual 531, 3) := by decide +kernel
theorem dX12_best_128 : decode cX12_best 128 = .ok (.istore 9, 2) := by decide +kernel
theorem dX12_best_130 : decode cX12_best 130 = .ok (.lconst 0, 1) := by decide +kernel
theorem dX12_best_131 : decode cX12_best 131 = .ok (.lstore 10, 2) := by decide +kernel
theorem dX12_best_133 : decode cX12_best 133 = .ok (.iconst 0, 1) := by decide +kernel
theorem dX12_best_134 : decode cX12_best 134 = .ok (.istore 12, 2) := by decide +kernel
theorem dX12_best_136 : decode cX12_best 136 = .ok (.iload 12, 2) := by decide +kernel
theorem dX12_best_138 : decode cX12_best 138 = .ok (.iload_n 3, 1) := by decide +kernel
theorem dX12_best_139 : decode cX12_best 139 = .ok (.if_icmp .ge 60, 3) := by decide +kernel
theorem dX12_best_199 : decode cX12_best 199 = .ok (.lload 10, 2) := by decide +kernel
theorem dX12_best_201 : decode cX12_best 201 = .ok (.ldc2_w 466, 3) := by decide +kernel
theorem dX12_best_204 : decode cX12_best 204 = .ok (.lcmp, 1) := by decide +kernel
theorem dX12_best_205 : decode cX12_best 205 = .ok (.ifCond .eq 72, 3) := by decide +kernel
theorem dX12_best_208 : decode cX12_best 208 = .ok (.lload 5, 2) := by decide +kernel
theorem dX12_best_210 : decode cX12_best 210 = .ok (.ldc2_w 466, 3) := by decide +kernel
theorem dX12_best_213 : decode cX12_best 213 = .ok (.lcmp, 1) := by decide +kernel
theorem dX12_best_214 : decode cX12_best 214 = .ok (.ifCond .eq 26, 3) := by decide +kernel
theorem dX12_best_240 : decode cX12_best 240 = .ok (.lload 10, 2) := by decide +kernel
theorem dX12_best_242 : decode cX12_best 242 = .ok (.lstore 5, 2) := by decide +kernel
theorem dX12_best_244 : decode cX12_best 244 = .ok (.iload 9, 2) := by decide +kernel
theorem dX12_best_246 : decode cX12_best 246 = .ok (.istore 7, 2) := by decide +kernel
theorem dX12_best_248 : decode cX12_best 248 = .ok (.iconst 0, 1) := by decide +kernel
theorem dX12_best_249 : decode cX12_best 249 = .ok (.istore 12, 2) := by decide +kernel
theorem dX12_best_251 : decode cX12_best 251 = .ok (.iload 12, 2) := by decide +kernel
theorem dX12_best_253 : decode cX12_best 253 = .ok (.iload_n 2, 1) := by decide +kernel
theorem dX12_best_254 : decode cX12_best 254 = .ok (.if_icmp .ge 23, 3) := by decide +kernel
theorem dX12_best_277 : decode cX12_best 277 = .ok (.iinc 8 1, 3) := by decide +kernel
theorem dX12_best_280 : decode cX12_best 280 = .ok (.goto (-167), 3) := by decide +kernel
theorem dX12_best_283 : decode cX12_best 283 = .ok (.aload_n 0, 1) := by decide +kernel
theorem dX12_best_284 : decode cX12_best 284 = .ok (.iload_n 2, 1) := by decide +kernel
theorem dX12_best_285 : decode cX12_best 285 = .ok (.iload_n 3, 1) := by decide +kernel
theorem dX12_best_286 : decode cX12_best 286 = .ok (.iload_n 1, 1) := by decide +kernel
theorem dX12_best_287 : decode cX12_best 287 = .ok (.invokevirtual 535, 3) := by decide +kernel
theorem dX12_best_290 : decode cX12_best 290 = .ok (.lload 5, 2) := by decide +kernel
theorem dX12_best_292 : decode cX12_best 292 = .ok (.lreturn, 1) := by decide +kernel
theorem dX12_share_0 : decode cX12_share 0 = .ok (.iconst 0, 1) := by decide +kernel
theorem dX12_share_1 : decode cX12_share 1 = .ok (.istore 4, 2) := by decide +kernel
theorem dX12_share_3 : decode cX12_share 3 = .ok (.iload 4, 2) := by decide +kernel
theorem dX12_share_5 : decode cX12_share 5 = .ok (.iconst 3, 1) := by decide +kernel
theorem dX12_share_6 : decode cX12_share 6 = .ok (.if_icmp .ge 17, 3) := by decide +kernel
theorem dX12_share_9 : decode cX12_share 9 = .ok (.aload_n 0, 1) := by decide +kernel
theorem dX12_share_10 : decode cX12_share 10 = .ok (.getfield 88, 3) := by decide +kernel
theorem dX12_share_13 : decode cX12_share 13 = .ok (.iload 4, 2) := by decide +kernel
theorem dX12_share_15 : decode cX12_share 15 = .ok (.iconst 0, 1) := by decide +kernel
theorem dX12_share_16 : decode cX12_share 16 = .ok (.iastore, 1) := by decide +kernel
theorem dX12_share_17 : decode cX12_share 17 = .ok (.iinc 4 1, 3) := by decide +kernel
theorem dX12_share_20 : decode cX12_share 20 = .ok (.goto (-17), 3) := by decide +kernel
theorem dX12_share_23 : decode cX12_share 23 = .ok (.iload_n 1, 1) := by decide +kernel
theorem dX12_share_24 : decode cX12_share 24 = .ok (.istore 4, 2) := by decide +kernel
theorem dX12_share_26 : decode cX12_share 26 = .ok (.iconst 0, 1) := by decide +kernel
theorem dX12_share_27 : decode cX12_share 27 = .ok (.istore 5, 2) := by decide +kernel
theorem dX12_share_29 : decode cX12_share 29 = .ok (.iload_n 2, 1) := by decide +kernel
theorem dX12_share_30 : decode cX12_share 30 = .ok (.iconst 1, 1) := by decide +kernel
theorem dX12_share_31 : decode cX12_share 31 = .ok (.isub, 1) := by decide +kernel
theorem dX12_share_32 : decode cX12_share 32 = .ok (.istore 6, 2) := by decide +kernel
theorem dX12_share_34 : decode cX12_share 34 = .ok (.iload 6, 2) := by decide +kernel
theorem dX12_share_36 : decode cX12_share 36 = .ok (.ifCond .lt 74, 3) := by decide +kernel
theorem dX12_share_110 : decode cX12_share 110 = .ok (.iload 5, 2) := by decide +kernel
theorem dX12_share_112 : decode cX12_share 112 = .ok (.ireturn, 1) := by decide +kernel
theorem dX12_keepBest_0 : decode cX12_keepBest 0 = .ok (.aload_n 0, 1) := by decide +kernel
theorem dX12_keepBest_1 : decode cX12_keepBest 1 = .ok (.iconst 1, 1) := by decide +kernel
theorem dX12_keepBest_2 : decode cX12_keepBest 2 = .ok (.putfield 538, 3) := by decide +kernel
theorem dX12_keepBest_5 : decode cX12_keepBest 5 = .ok (.aload_n 0, 1) := by decide +kernel
theorem dX12_keepBest_6 : decode cX12_keepBest 6 = .ok (.iload_n 1, 1) := by decide +kernel
theorem dX12_keepBest_7 : decode cX12_keepBest 7 = .ok (.putfield 541, 3) := by decide +kernel
theorem dX12_keepBest_10 : decode cX12_keepBest 10 = .ok (.iconst 0, 1) := by decide +kernel
theorem dX12_keepBest_11 : decode cX12_keepBest 11 = .ok (.istore 4, 2) := by decide +kernel
theorem dX12_keepBest_13 : decode cX12_keepBest 13 = .ok (.iload 4, 2) := by decide +kernel
theorem dX12_keepBest_15 : decode cX12_keepBest 15 = .ok (.iload_n 1, 1) := by decide +kernel
theorem dX12_keepBest_16 : decode cX12_keepBest 16 = .ok (.if_icmp .ge 56, 3) := by decide +kernel
theorem dX12_keepBest_72 : decode cX12_keepBest 72 = .ok (.iconst 0, 1) := by decide +kernel
theorem dX12_keepBest_73 : decode cX12_keepBest 73 = .ok (.istore 4, 2) := by decide +kernel
theorem dX12_keepBest_75 : decode cX12_keepBest 75 = .ok (.iload 4, 2) := by decide +kernel
theorem dX12_keepBest_77 : decode cX12_keepBest 77 = .ok (.iload_n 2, 1) := by decide +kernel
theorem dX12_keepBest_78 : decode cX12_keepBest 78 = .ok (.if_icmp .ge 218, 3) := by decide +kernel
theorem dX12_keepBest_296 : decode cX12_keepBest 296 = .ok (.return_, 1) := by decide +kernel
