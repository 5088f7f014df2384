abbrev cX12_image : ByteArray := prog_14_method_8_code
def yX12_image : MethodName := ⟨RX12, "image", "(I)I"⟩
abbrev cX12_back : ByteArray := prog_14_method_9_code
def yX12_back : MethodName := ⟨RX12, "back", "(I)I"⟩
abbrev cX12_setFor : ByteArray := prog_14_method_89_code
def yX12_setFor : MethodName := ⟨RX12, "setFor", "(III)V"⟩
abbrev cX12_size : ByteArray := prog_14_method_90_code
def yX12_size : MethodName := ⟨RX12, "size", "(J)J"⟩
abbrev cX12_reckon : ByteArray := prog_14_method_91_code
def yX12_reckon : MethodName := ⟨RX12, "reckon", "(IJJ)J"⟩
abbrev cX12_run : ByteArray := prog_14_method_92_code
def yX12_run : MethodName := ⟨RX12, "run", "(III)V"⟩
abbrev cX12_judgeLanding : ByteArray := prog_14_method_93_code
def yX12_judgeLanding : MethodName := ⟨RX12, "judgeLanding", "(II)V"⟩
abbrev cX12_due : ByteArray := prog_14_method_95_code
def yX12_due : MethodName := ⟨RX12, "due", "(IIII)J"⟩
abbrev cX12_settle : ByteArray := prog_14_method_96_code
def yX12_settle : MethodName := ⟨RX12, "settle", "(II)I"⟩
abbrev cX12_hasTable : ByteArray := prog_14_method_101_code
def yX12_hasTable : MethodName := ⟨RX12, "hasTable", "(I)Z"⟩
abbrev cX12_tonsBy : ByteArray := prog_14_method_102_code
def yX12_tonsBy : MethodName := ⟨RX12, "tonsBy", "(II)J"⟩
abbrev cX12_gaugedBy : ByteArray := prog_14_method_103_code
def yX12_gaugedBy : MethodName := ⟨RX12, "gaugedBy", "(III)J"⟩
abbrev cX12_gauged : ByteArray := prog_14_method_104_code
def yX12_gauged : MethodName := ⟨RX12, "gauged", "(III)J"⟩
def wsX12_image : List Cond := .code yX12_image cX12_image 3 (some .int) :: ([.fieldLink RX12 91 "ColdShipsModel" "thrown" "I", .fieldLink RX12 13 "ColdShipsModel" "images" "[I", .fieldLink RX12 7 "ColdShipsModel" "row" "[I", .fieldLink RX12 16 "ColdShipsModel" "isKept" "[Z", .methodLink RX12 99 yX12_in, .static yX12_in, .initialized RX12, .code yX12_in cX12_in 6 (some .boolean), .methodLink RX12 105 yX12_told, .instanceMethod yX12_told, .selects RX12 yX12_told yX12_told, .code yX12_told cX12_told 2 (some .int), .fieldLink RX12 94 "ColdShipsModel" "status" "I"] ++ wsX120)
def wsX12_back : List Cond := .code yX12_back cX12_back 3 (some .int) :: ([.fieldLink RX12 91 "ColdShipsModel" "thrown" "I", .fieldLink RX12 16 "ColdShipsModel" "isKept" "[Z", .fieldLink RX12 7 "ColdShipsModel" "row" "[I", .fieldLink RX12 13 "ColdShipsModel" "images" "[I", .methodLink RX12 99 yX12_in, .static yX12_in, .initialized RX12, .code yX12_in cX12_in 6 (some .boolean), .methodLink RX12 105 yX12_told, .instanceMethod yX12_told, .selects RX12 yX12_told yX12_told, .code yX12_told cX12_told 2 (some .int), .fieldLink RX12 94 "ColdShipsModel" "status" "I"] ++ wsX120)
def wsX12_setFor_r1 : List Cond := [Cond.fieldLink RX12 7 "ColdShipsModel" "row" "[I", Cond.fieldLink RX12 49 "ColdShipsModel" "set" "[J", Cond.methodLink RX12 425 yX12_billed, Cond.instanceMethod yX12_billed, Cond.selects RX12 yX12_billed yX12_billed, Cond.initialized RX12, Cond.code yX12_billed cX12_billed 2 (some .int), Cond.methodLink RX12 245 yX12_heatOf, Cond.instanceMethod yX12_heatOf, Cond.selects RX12 yX12_heatOf yX12_heatOf, Cond.code yX12_heatOf cX12_heatOf 5 (some .int), Cond.methodLink RX12 115 yX12_terminalAt, Cond.static yX12_terminalAt, Cond.code yX12_terminalAt cX12_terminalAt 1 (some .int), Cond.methodLink RX12 428 yX12_isForce, Cond.instanceMethod yX12_isForce, Cond.selects RX12 yX12_isForce yX12_isForce, Cond.code yX12_isForce cX12_isForce 6 (some .boolean), Cond.methodLink RX12 99 yX12_in, Cond.static yX12_in, Cond.code yX12_in cX12_in 6 (some .boolean), Cond.methodLink RX12 431 yX12_priceOf, Cond.instanceMethod yX12_priceOf, Cond.selects RX12 yX12_priceOf yX12_priceOf]
def wsX12_setFor_r2 : List Cond := [Cond.code yX12_priceOf cX12_priceOf 7 (some .int)]
def wsX12_setFor : List Cond := .code yX12_setFor cX12_setFor 7 none :: ((wsX12_setFor_r1 ++ wsX12_setFor_r2) ++ wsX120)
def wsX12_size : List Cond := .code yX12_size cX12_size 2 (some .long) :: ([])
def wsX12_reckon : List Cond := .code yX12_reckon cX12_reckon 6 (some .long) :: ([.constantLong RX12 438 (1000000000000), .fieldLink RX12 440 "ColdShipsModel" "broken" "Z", .methodLink RX12 434 yX12_size, .static yX12_size, .initialized RX12, .code yX12_size cX12_size 2 (some .long)] ++ wsX120)
def wsX12_run : List Cond := .code yX12_run cX12_run 8 none :: ([.fieldLink RX12 440 "ColdShipsModel" "broken" "Z", .fieldLink RX12 7 "ColdShipsModel" "row" "[I", .fieldLink RX12 52 "ColdShipsModel" "rest" "[J", .fieldLink RX12 49 "ColdShipsModel" "set" "[J", .constantLong RX12 447 (-1000000000000), .constantLong RX12 438 (1000000000000), .fieldLink RX12 449 "ColdShipsModel" "value" "J", .methodLink RX12 443 yX12_reckon, .instanceMethod yX12_reckon, .selects RX12 yX12_reckon yX12_reckon, .initialized RX12, .code yX12_reckon cX12_reckon 6 (some .long), .methodLink RX12 434 yX12_size, .static yX12_size, .code yX12_size cX12_size 2 (some .long), .methodLink RX12 99 yX12_in, .static yX12_in, .code yX12_in cX12_in 6 (some .boolean)] ++ wsX120)
def wsX12_judgeLanding : List Cond := .code yX12_judgeLanding cX12_judgeLanding 6 none :: ([.fieldLink RX12 452 "ColdShipsModel" "pays" "J", .fieldLink RX12 455 "ColdShipsModel" "fines" "J", .fieldLink RX12 7 "ColdShipsModel" "row" "[I", .fieldLink RX12 440 "ColdShipsModel" "broken" "Z", .fieldLink RX12 449 "ColdShipsModel" "value" "J", .methodLink RX12 458 yX12_run, .instanceMethod yX12_run, .selects RX12 yX12_run yX12_run, .initialized RX12, .code yX12_run cX12_run 8 none, .fieldLink RX12 52 "ColdShipsModel" "rest" "[J", .fieldLink RX12 49 "ColdShipsModel" "set" "[J", .constantLong RX12 447 (-1000000000000), .constantLong RX12 438 (1000000000000), .methodLink RX12 443 yX12_reckon, .instanceMethod yX12_reckon, .selects RX12 yX12_reckon yX12_reckon, .code yX12_reckon cX12_reckon 6 (some .long), .methodLink RX12 434 yX12_size, .static yX12_size, .code yX12_size cX12_size 2 (some .long), .methodLink RX12 99 yX12_in, .static yX12_in, .code yX12_in cX12_in 6 (some .boolean)] ++ wsX120)
def wsX12_due_r1 : List Cond := [Cond.fieldLink RX12 91 "ColdShipsModel" "thrown" "I", Cond.constantLong RX12 464 (4), Cond.constantLong RX12 466 (-2000000000000000), Cond.fieldLink RX12 452 "ColdShipsModel" "pays" "J", Cond.fieldLink RX12 455 "ColdShipsModel" "fines" "J", Cond.fieldLink RX12 49 "ColdShipsModel" "set" "[J", Cond.methodLink RX12 237 yX12_isLanding, Cond.instanceMethod yX12_isLanding, Cond.selects RX12 yX12_isLanding yX12_isLanding, Cond.initialized RX12, Cond.code yX12_isLanding cX12_isLanding 2 (some .boolean), Cond.fieldLink RX12 7 "ColdShipsModel" "row" "[I", Cond.methodLink RX12 99 yX12_in, Cond.static yX12_in, Cond.code yX12_in cX12_in 6 (some .boolean), Cond.methodLink RX12 461 yX12_isContract, Cond.instanceMethod yX12_isContract, Cond.selects RX12 yX12_isContract yX12_isContract, Cond.code yX12_isContract cX12_isContract 2 (some .boolean), Cond.methodLink RX12 144 yX12_isHour, Cond.static yX12_isHour, Cond.code yX12_isHour cX12_isHour 1 (some .boolean), Cond.constantLong RX12 97 (2399), Cond.methodLink RX12 242 yX12_landingAt]
def wsX12_due_r2 : List Cond := [Cond.static yX12_landingAt, Cond.code yX12_landingAt cX12_landingAt 1 (some .int), Cond.methodLink RX12 468 yX12_contractAt, Cond.static yX12_contractAt, Cond.code yX12_contractAt cX12_contractAt 1 (some .int), Cond.methodLink RX12 471 yX12_setFor, Cond.instanceMethod yX12_setFor, Cond.selects RX12 yX12_setFor yX12_setFor, Cond.code yX12_setFor cX12_setFor 7 none, Cond.methodLink RX12 425 yX12_billed, Cond.instanceMethod yX12_billed, Cond.selects RX12 yX12_billed yX12_billed, Cond.code yX12_billed cX12_billed 2 (some .int), Cond.methodLink RX12 245 yX12_heatOf, Cond.instanceMethod yX12_heatOf, Cond.selects RX12 yX12_heatOf yX12_heatOf, Cond.code yX12_heatOf cX12_heatOf 5 (some .int), Cond.methodLink RX12 115 yX12_terminalAt, Cond.static yX12_terminalAt, Cond.code yX12_terminalAt cX12_terminalAt 1 (some .int), Cond.methodLink RX12 428 yX12_isForce, Cond.instanceMethod yX12_isForce, Cond.selects RX12 yX12_isForce yX12_isForce, Cond.code yX12_isForce cX12_isForce 6 (some .boolean)]
def wsX12_due_r3 : List Cond := [Cond.methodLink RX12 431 yX12_priceOf, Cond.instanceMethod yX12_priceOf, Cond.selects RX12 yX12_priceOf yX12_priceOf, Cond.code yX12_priceOf cX12_priceOf 7 (some .int), Cond.methodLink RX12 474 yX12_judgeLanding, Cond.instanceMethod yX12_judgeLanding, Cond.selects RX12 yX12_judgeLanding yX12_judgeLanding, Cond.code yX12_judgeLanding cX12_judgeLanding 6 none, Cond.fieldLink RX12 440 "ColdShipsModel" "broken" "Z", Cond.fieldLink RX12 449 "ColdShipsModel" "value" "J", Cond.methodLink RX12 458 yX12_run, Cond.instanceMethod yX12_run, Cond.selects RX12 yX12_run yX12_run, Cond.code yX12_run cX12_run 8 none, Cond.fieldLink RX12 52 "ColdShipsModel" "rest" "[J", Cond.constantLong RX12 447 (-1000000000000), Cond.constantLong RX12 438 (1000000000000), Cond.methodLink RX12 443 yX12_reckon, Cond.instanceMethod yX12_reckon, Cond.selects RX12 yX12_reckon yX12_reckon, Cond.code yX12_reckon cX12_reckon 6 (some .long), Cond.methodLink RX12 434 yX12_size, Cond.static yX12_size, Cond.code yX12_size cX12_size 2 (some .long)]
def wsX12_due : List Cond := .code yX12_due cX12_due 7 (some .long) :: ((wsX12_due_r1 ++ (wsX12_due_r2 ++ wsX12_due_r3)) ++ wsX120)
def wsX12_settle_r1 : List Cond := [Cond.fieldLink RX12 91 "ColdShipsModel" "thrown" "I", Cond.fieldLink RX12 7 "ColdShipsModel" "row" "[I", Cond.fieldLink RX12 452 "ColdShipsModel" "pays" "J", Cond.fieldLink RX12 455 "ColdShipsModel" "fines" "J", Cond.methodLink RX12 237 yX12_isLanding, Cond.instanceMethod yX12_isLanding, Cond.selects RX12 yX12_isLanding yX12_isLanding, Cond.initialized RX12, Cond.code yX12_isLanding cX12_isLanding 2 (some .boolean), Cond.methodLink RX12 99 yX12_in, Cond.static yX12_in, Cond.code yX12_in cX12_in 6 (some .boolean), Cond.methodLink RX12 461 yX12_isContract, Cond.instanceMethod yX12_isContract, Cond.selects RX12 yX12_isContract yX12_isContract, Cond.code yX12_isContract cX12_isContract 2 (some .boolean), Cond.methodLink RX12 105 yX12_told, Cond.instanceMethod yX12_told, Cond.selects RX12 yX12_told yX12_told, Cond.code yX12_told cX12_told 2 (some .int), Cond.fieldLink RX12 94 "ColdShipsModel" "status" "I", Cond.methodLink RX12 242 yX12_landingAt, Cond.static yX12_landingAt, Cond.code yX12_landingAt cX12_landingAt 1 (some .int)]
def wsX12_settle_r2 : List Cond := [Cond.methodLink RX12 468 yX12_contractAt, Cond.static yX12_contractAt, Cond.code yX12_contractAt cX12_contractAt 1 (some .int), Cond.methodLink RX12 471 yX12_setFor, Cond.instanceMethod yX12_setFor, Cond.selects RX12 yX12_setFor yX12_setFor, Cond.code yX12_setFor cX12_setFor 7 none, Cond.fieldLink RX12 49 "ColdShipsModel" "set" "[J", Cond.methodLink RX12 425 yX12_billed, Cond.instanceMethod yX12_billed, Cond.selects RX12 yX12_billed yX12_billed, Cond.code yX12_billed cX12_billed 2 (some .int), Cond.methodLink RX12 245 yX12_heatOf, Cond.instanceMethod yX12_heatOf, Cond.selects RX12 yX12_heatOf yX12_heatOf, Cond.code yX12_heatOf cX12_heatOf 5 (some .int), Cond.methodLink RX12 115 yX12_terminalAt, Cond.static yX12_terminalAt, Cond.code yX12_terminalAt cX12_terminalAt 1 (some .int), Cond.methodLink RX12 428 yX12_isForce, Cond.instanceMethod yX12_isForce, Cond.selects RX12 yX12_isForce yX12_isForce, Cond.code yX12_isForce cX12_isForce 6 (some .boolean), Cond.methodLink RX12 431 yX12_priceOf]
def wsX12_settle_r3 : List Cond := [Cond.instanceMethod yX12_priceOf, Cond.selects RX12 yX12_priceOf yX12_priceOf, Cond.code yX12_priceOf cX12_priceOf 7 (some .int), Cond.methodLink RX12 474 yX12_judgeLanding, Cond.instanceMethod yX12_judgeLanding, Cond.selects RX12 yX12_judgeLanding yX12_judgeLanding, Cond.code yX12_judgeLanding cX12_judgeLanding 6 none, Cond.fieldLink RX12 440 "ColdShipsModel" "broken" "Z", Cond.fieldLink RX12 449 "ColdShipsModel" "value" "J", Cond.methodLink RX12 458 yX12_run, Cond.instanceMethod yX12_run, Cond.selects RX12 yX12_run yX12_run, Cond.code yX12_run cX12_run 8 none, Cond.fieldLink RX12 52 "ColdShipsModel" "rest" "[J", Cond.constantLong RX12 447 (-1000000000000), Cond.constantLong RX12 438 (1000000000000), Cond.methodLink RX12 443 yX12_reckon, Cond.instanceMethod yX12_reckon, Cond.selects RX12 yX12_reckon yX12_reckon, Cond.code yX12_reckon cX12_reckon 6 (some .long), Cond.methodLink RX12 434 yX12_size, Cond.static yX12_size, Cond.code yX12_size cX12_size 2 (some .long)]
def wsX12_settle : List Cond := .code yX12_settle cX12_settle 6 (some .int) :: ((wsX12_settle_r1 ++ (wsX12_settle_r2 ++ wsX12_settle_r3)) ++ wsX120)
def wsX12_hasTable : List Cond := .code yX12_hasTable cX12_hasTable 5 (some .boolean) :: ([.fieldLink RX12 7 "ColdShipsModel" "row" "[I"] ++ wsX120)
def wsX12_tonsBy : List Cond := .code yX12_tonsBy cX12_tonsBy 7 (some .long) :: ([.fieldLink RX12 7 "ColdShipsModel" "row" "[I"] ++ wsX120)
def wsX12_gaugedBy : List Cond := .code yX12_gaugedBy cX12_gaugedBy 9 (some .long) :: ([.fieldLink RX12 7 "ColdShipsModel" "row" "[I", .constantLong RX12 466 (-2000000000000000), .methodLink RX12 242 yX12_landingAt, .static yX12_landingAt, .initialized RX12, .code yX12_landingAt cX12_landingAt 1 (some .int), .methodLink RX12 132 yX12_shipAt, .static yX12_shipAt, .code yX12_shipAt cX12_shipAt 1 (some .int), .methodLink RX12 489 yX12_tonsBy, .instanceMethod yX12_tonsBy, .selects RX12 yX12_tonsBy yX12_tonsBy, .code yX12_tonsBy cX12_tonsBy 7 (some .long), .methodLink RX12 493 yX12_hasTable, .instanceMethod yX12_hasTable, .selects RX12 yX12_hasTable yX12_hasTable, .code yX12_hasTable cX12_hasTable 5 (some .boolean)] ++ wsX120)
def wsX12_gauged_r1 : List Cond := [Cond.fieldLink RX12 91 "ColdShipsModel" "thrown" "I", Cond.constantLong RX12 152 (3), Cond.constantLong RX12 466 (-2000000000000000), Cond.fieldLink RX12 7 "ColdShipsModel" "row" "[I", Cond.methodLink RX12 237 yX12_isLanding, Cond.instanceMethod yX12_isLanding, Cond.selects RX12 yX12_isLanding yX12_isLanding, Cond.initialized RX12, Cond.code yX12_isLanding cX12_isLanding 2 (some .boolean), Cond.methodLink RX12 99 yX12_in, Cond.static yX12_in, Cond.code yX12_in cX12_in 6 (some .boolean), Cond.methodLink RX12 144 yX12_isHour, Cond.static yX12_isHour, Cond.code yX12_isHour cX12_isHour 1 (some .boolean), Cond.constantLong RX12 97 (2399), Cond.methodLink RX12 496 yX12_gaugedBy, Cond.instanceMethod yX12_gaugedBy, Cond.selects RX12 yX12_gaugedBy yX12_gaugedBy, Cond.code yX12_gaugedBy cX12_gaugedBy 9 (some .long), Cond.methodLink RX12 242 yX12_landingAt, Cond.static yX12_landingAt, Cond.code yX12_landingAt cX12_landingAt 1 (some .int), Cond.methodLink RX12 132 yX12_shipAt]
def wsX12_gauged_r2 : List Cond := [Cond.static yX12_shipAt, Cond.code yX12_shipAt cX12_shipAt 1 (some .int), Cond.methodLink RX12 489 yX12_tonsBy, Cond.instanceMethod yX12_tonsBy, Cond.selects RX12 yX12_tonsBy yX12_tonsBy, Cond.code yX12_tonsBy cX12_tonsBy 7 (some .long), Cond.methodLink RX12 493 yX12_hasTable, Cond.instanceMethod yX12_hasTable, Cond.selects RX12 yX12_hasTable yX12_hasTable, Cond.code yX12_hasTable cX12_hasTable 5 (some .boolean), Cond.methodLink RX12 425 yX12_billed, Cond.instanceMethod yX12_billed, Cond.selects RX12 yX12_billed yX12_billed, Cond.code yX12_billed cX12_billed 2 (some .int), Cond.methodLink RX12 431 yX12_priceOf, Cond.instanceMethod yX12_priceOf, Cond.selects RX12 yX12_priceOf yX12_priceOf, Cond.code yX12_priceOf cX12_priceOf 7 (some .int)]
def wsX12_gauged : List Cond := .code yX12_gauged cX12_gauged 11 (some .long) :: ((wsX12_gauged_r1 ++ wsX12_gauged_r2) ++ wsX120)
set_option maxRecDepth 20000 in
theorem ggX12_image_X12_in : GoodIn wsX12_image wsX12_in := goodIn_r _ [8] (by decide +kernel) (by decide +kernel)
set_option maxRecDepth 20000 in
theorem gX12_image_X12_in : GoodIn wsX12_image (va_wsS RX12 99 yX12_in wsX12_in) := goodIn_app (goodIn_of _ (by decide +kernel)) ggX12_image_X12_in
set_option maxRecDepth 20000 in
theorem ggX12_image_X12_told : GoodIn wsX12_image wsX12_told := goodIn_r _ [12, 13, 14, 15, 16, 17, 18, 19, 20, 21, 22, 23, 24, 25, 26, 27, 28, 29, 30, 31, 32, 33, 34, 35, 36, 37, 38, 39, 40, 41, 42, 43, 44, 45, 46, 47, 48, 49, 50, 51, 52, 53, 54, 55, 56, 57, 58, 59, 60, 61, 62, 63, 64, 65, 66] (by decide +kernel) (by decide +kernel)
set_option maxRecDepth 20000 in
theorem gX12_image_X12_told : GoodIn wsX12_image (wsV RX12 105 RX12 yX12_told wsX12_told) := goodIn_app (goodIn_of _ (by decide +kernel)) ggX12_image_X12_told
theorem dX12_image_0 : decode cX12_image 0 = .ok (.aload_n 0, 1) := by decide +kernel
theorem dX12_image_1 : decode cX12_image 1 = .ok (.iconst 0, 1) := by decide +kernel
theorem dX12_image_2 : decode cX12_image 2 = .ok (.putfield 91, 3) := by decide +kernel
theorem dX12_image_5 : decode cX12_image 5 = .ok (.iload_n 1, 1) := by decide +kernel
theorem dX12_image_6 : decode cX12_image 6 = .ok (.i2l, 1) := by decide +kernel
theorem dX12_image_7 : decode cX12_image 7 = .ok (.lconst 0, 1) := by decide +kernel
theorem dX12_image_8 : decode cX12_image 8 = .ok (.lconst 1, 1) := by decide +kernel
theorem dX12_image_9 : decode cX12_image 9 = .ok (.invokestatic 99, 3) := by decide +kernel
theorem dX12_image_12 : decode cX12_image 12 = .ok (.ifCond .ne 9, 3) := by decide +kernel
theorem dX12_image_15 : decode cX12_image 15 = .ok (.aload_n 0, 1) := by decide +kernel
theorem dX12_image_16 : decode cX12_image 16 = .ok (.iconst (-1), 1) := by decide +kernel
theorem dX12_image_17 : decode cX12_image 17 = .ok (.invokevirtual 105, 3) := by decide +kernel
theorem dX12_image_20 : decode cX12_image 20 = .ok (.ireturn, 1) := by decide +kernel
theorem dX12_image_21 : decode cX12_image 21 = .ok (.iconst 0, 1) := by decide +kernel
theorem dX12_image_22 : decode cX12_image 22 = .ok (.istore_n 2, 1) := by decide +kernel
theorem dX12_image_23 : decode cX12_image 23 = .ok (.iload_n 2, 1) := by decide +kernel
theorem dX12_image_24 : decode cX12_image 24 = .ok (.sipush 12967, 3) := by decide +kernel
theorem dX12_image_27 : decode cX12_image 27 = .ok (.if_icmp .ge 27, 3) := by decide +kernel
theorem dX12_image_30 : decode cX12_image 30 = .ok (.aload_n 0, 1) := by decide +kernel
theorem dX12_image_31 : decode cX12_image 31 = .ok (.getfield 13, 3) := by decide +kernel
theorem dX12_image_34 : decode cX12_image 34 = .ok (.sipush 12967, 3) := by decide +kernel
theorem dX12_image_37 : decode cX12_image 37 = .ok (.iload_n 1, 1) := by decide +kernel
theorem dX12_image_38 : decode cX12_image 38 = .ok (.imul, 1) := by decide +kernel
theorem dX12_image_39 : decode cX12_image 39 = .ok (.iload_n 2, 1) := by decide +kernel
theorem dX12_image_40 : decode cX12_image 40 = .ok (.iadd, 1) := by decide +kernel
theorem dX12_image_41 : decode cX12_image 41 = .ok (.aload_n 0, 1) := by decide +kernel
theorem dX12_image_42 : decode cX12_image 42 = .ok (.getfield 7, 3) := by decide +kernel
theorem dX12_image_45 : decode cX12_image 45 = .ok (.iload_n 2, 1) := by decide +kernel
theorem dX12_image_46 : decode cX12_image 46 = .ok (.iaload, 1) := by decide +kernel
theorem dX12_image_47 : decode cX12_image 47 = .ok (.iastore, 1) := by decide +kernel
theorem dX12_image_48 : decode cX12_image 48 = .ok (.iinc 2 1, 3) := by decide +kernel
theorem dX12_image_51 : decode cX12_image 51 = .ok (.goto (-28), 3) := by decide +kernel
theorem dX12_image_54 : decode cX12_image 54 = .ok (.aload_n 0, 1) := by decide +kernel
theorem dX12_image_55 : decode cX12_image 55 = .ok (.getfield 16, 3) := by decide +kernel
theorem dX12_image_58 : decode cX12_image 58 = .ok (.iload_n 1, 1) := by decide +kernel
theorem dX12_image_59 : decode cX12_image 59 = .ok (.iconst 1, 1) := by decide +kernel
theorem dX12_image_60 : decode cX12_image 60 = .ok (.bastore, 1) := by decide +kernel
theorem dX12_image_61 : decode cX12_image 61 = .ok (.aload_n 0, 1) := by decide +kernel
theorem dX12_image_62 : decode cX12_image 62 = .ok (.iconst 0, 1) := by decide +kernel
theorem dX12_image_63 : decode cX12_image 63 = .ok (.invokevirtual 105, 3) := by decide +kernel
theorem dX12_image_66 : decode cX12_image 66 = .ok (.ireturn, 1) := by decide +kernel
set_option maxRecDepth 20000 in
theorem ggX12_back_X12_in : GoodIn wsX12_back wsX12_in := goodIn_r _ [8] (by decide +kernel) (by decide +kernel)
set_option maxRecDepth 20000 in
theorem gX12_back_X12_in : GoodIn wsX12_back (va_wsS RX12 99 yX12_in wsX12_in) := goodIn_app (goodIn_of _ (by decide +kernel)) ggX12_back_X12_in
set_option maxRecDepth 20000 in
theorem ggX12_back_X12_told : GoodIn wsX12_back wsX12_told := goodIn_r _ [12, 13, 14, 15, 16, 17, 18, 19, 20, 21, 22, 23, 24, 25, 26, 27, 28, 29, 30, 31, 32, 33, 34, 35, 36, 37, 38, 39, 40, 41, 42, 43, 44, 45, 46, 47, 48, 49, 50, 51, 52, 53, 54, 55, 56, 57, 58, 59, 60, 61, 62, 63, 64, 65, 66] (by decide +kernel) (by decide +kernel)
set_option maxRecDepth 20000 in
theorem gX12_back_X12_told : GoodIn wsX12_back (wsV RX12 105 RX12 yX12_told wsX12_told) := goodIn_app (goodIn_of _ (by decide +kernel)) ggX12_back_X12_told
theorem dX12_back_0 : decode cX12_back 0 = .ok (.aload_n 0, 1) := by decide +kernel
theorem dX12_back_1 : decode cX12_back 1 = .ok (.iconst 0, 1) := by decide +kernel
theorem dX12_back_2 : decode cX12_back 2 = .ok (.putfield 91, 3) := by decide +kernel
theorem dX12_back_5 : decode cX12_back 5 = .ok (.iload_n 1, 1) := by decide +kernel
theorem dX12_back_6 : decode cX12_back 6 = .ok (.i2l, 1) := by decide +kernel
theorem dX12_back_7 : decode cX12_back 7 = .ok (.lconst 0, 1) := by decide +kernel
theorem dX12_back_8 : decode cX12_back 8 = .ok (.lconst 1, 1) := by decide +kernel
theorem dX12_back_9 : decode cX12_back 9 = .ok (.invokestatic 99, 3) := by decide +kernel
theorem dX12_back_12 : decode cX12_back 12 = .ok (.ifCond .ne 9, 3) := by decide +kernel
theorem dX12_back_15 : decode cX12_back 15 = .ok (.aload_n 0, 1) := by decide +kernel
theorem dX12_back_16 : decode cX12_back 16 = .ok (.iconst (-1), 1) := by decide +kernel
theorem dX12_back_17 : decode cX12_back 17 = .ok (.invokevirtual 105, 3) := by decide +kernel
theorem dX12_back_20 : decode cX12_back 20 = .ok (.ireturn, 1) := by decide +kernel
theorem dX12_back_21 : decode cX12_back 21 = .ok (.aload_n 0, 1) := by decide +kernel
theorem dX12_back_22 : decode cX12_back 22 = .ok (.getfield 16, 3) := by decide +kernel
theorem dX12_back_25 : decode cX12_back 25 = .ok (.iload_n 1, 1) := by decide +kernel
theorem dX12_back_26 : decode cX12_back 26 = .ok (.baload, 1) := by decide +kernel
theorem dX12_back_27 : decode cX12_back 27 = .ok (.ifCond .ne 10, 3) := by decide +kernel
theorem dX12_back_30 : decode cX12_back 30 = .ok (.aload_n 0, 1) := by decide +kernel
theorem dX12_back_31 : decode cX12_back 31 = .ok (.bipush (-2), 2) := by decide +kernel
theorem dX12_back_33 : decode cX12_back 33 = .ok (.invokevirtual 105, 3) := by decide +kernel
theorem dX12_back_36 : decode cX12_back 36 = .ok (.ireturn, 1) := by decide +kernel
theorem dX12_back_37 : decode cX12_back 37 = .ok (.iconst 0, 1) := by decide +kernel
theorem dX12_back_38 : decode cX12_back 38 = .ok (.istore_n 2, 1) := by decide +kernel
theorem dX12_back_39 : decode cX12_back 39 = .ok (.iload_n 2, 1) := by decide +kernel
theorem dX12_back_40 : decode cX12_back 40 = .ok (.sipush 12967, 3) := by decide +kernel
theorem dX12_back_43 : decode cX12_back 43 = .ok (.if_icmp .ge 27, 3) := by decide +kernel
theorem dX12_back_46 : decode cX12_back 46 = .ok (.aload_n 0, 1) := by decide +kernel
theorem dX12_back_47 : decode cX12_back 47 = .ok (.getfield 7, 3) := by decide +kernel
theorem dX12_back_50 : decode cX12_back 50 = .ok (.iload_n 2, 1) := by decide +kernel
theorem dX12_back_51 : decode cX12_back 51 = .ok (.aload_n 0, 1) := by decide +kernel
theorem dX12_back_52 : decode cX12_back 52 = .ok (.getfield 13, 3) := by decide +kernel
theorem dX12_back_55 : decode cX12_back 55 = .ok (.sipush 12967, 3) := by decide +kernel
theorem dX12_back_58 : decode cX12_back 58 = .ok (.iload_n 1, 1) := by decide +kernel
theorem dX12_back_59 : decode cX12_back 59 = .ok (.imul, 1) := by decide +kernel
theorem dX12_back_60 : decode cX12_back 60 = .ok (.iload_n 2, 1) := by decide +kernel
theorem dX12_back_61 : decode cX12_back 61 = .ok (.iadd, 1) := by decide +kernel
theorem dX12_back_62 : decode cX12_back 62 = .ok (.iaload, 1) := by decide +kernel
theorem dX12_back_63 : decode cX12_back 63 = .ok (.iastore, 1) := by decide +kernel
theorem dX12_back_64 : decode cX12_back 64 = .ok (.iinc 2 1, 3) := by decide +kernel
theorem dX12_back_67 : decode cX12_back 67 = .ok (.goto (-28), 3) := by decide +kernel
theorem dX12_back_70 : decode cX12_back 70 = .ok (.aload_n 0, 1) := by decide +kernel
theorem dX12_back_71 : decode cX12_back 71 = .ok (.iconst 0, 1) := by decide +kernel
theorem dX12_back_72 : decode cX12_back 72 = .ok (.invokevirtual 105, 3) := by decide +kernel
theorem dX12_back_75 : decode cX12_back 75 = .ok (.ireturn, 1) := by decide +kernel
set_option maxRecDepth 20000 in
theorem ggX12_setFor_X12_billed : GoodIn wsX12_setFor wsX12_billed := goodIn_r _ [7, 1, 26, 27, 28, 29, 30, 31, 32, 33, 34, 35, 36, 37, 38, 39, 40, 41, 42, 43, 44, 45, 46, 47, 48, 49, 50, 51, 52, 53, 54, 55, 56, 57, 58, 59, 60, 61, 62, 63, 64, 65, 66, 67, 68, 69, 70, 71, 72, 73, 74, 75, 76, 77, 78] (by decide +kernel) (by decide +kernel)
set_option maxRecDepth 20000 in
theorem gX12_setFor_X12_billed : GoodIn wsX12_setFor (wsV RX12 425 RX12 yX12_billed wsX12_billed) := goodIn_app (goodIn_of _ (by decide +kernel)) ggX12_setFor_X12_billed
set_option maxRecDepth 20000 in
theorem ggX12_setFor_X12_heatOf : GoodIn wsX12_setFor wsX12_heatOf := goodIn_r _ [11, 1, 12, 13, 6, 14, 26, 27, 28, 29, 30, 31, 32, 33, 34, 35, 36, 37, 38, 39, 40, 41, 42, 43, 44, 45, 46, 47, 48, 49, 50, 51, 52, 53, 54, 55, 56, 57, 58, 59, 60, 61, 62, 63, 64, 65, 66, 67, 68, 69, 70, 71, 72, 73, 74, 75, 76, 77, 78] (by decide +kernel) (by decide +kernel)
set_option maxRecDepth 20000 in
theorem gX12_setFor_X12_heatOf : GoodIn wsX12_setFor (wsV RX12 245 RX12 yX12_heatOf wsX12_heatOf) := goodIn_app (goodIn_of _ (by decide +kernel)) ggX12_setFor_X12_heatOf
set_option maxRecDepth 20000 in
theorem ggX12_setFor_X12_isForce : GoodIn wsX12_setFor wsX12_isForce := goodIn_r _ [18, 1, 19, 20, 6, 21, 26, 27, 28, 29, 30, 31, 32, 33, 34, 35, 36, 37, 38, 39, 40, 41, 42, 43, 44, 45, 46, 47, 48, 49, 50, 51, 52, 53, 54, 55, 56, 57, 58, 59, 60, 61, 62, 63, 64, 65, 66, 67, 68, 69, 70, 71, 72, 73, 74, 75, 76, 77, 78] (by decide +kernel) (by decide +kernel)
set_option maxRecDepth 20000 in
theorem gX12_setFor_X12_isForce : GoodIn wsX12_setFor (wsV RX12 428 RX12 yX12_isForce wsX12_isForce) := goodIn_app (goodIn_of _ (by decide +kernel)) ggX12_setFor_X12_isForce
set_option maxRecDepth 20000 in
theorem ggX12_setFor_X12_priceOf : GoodIn wsX12_setFor wsX12_priceOf := goodIn_r _ [25, 1, 26, 27, 28, 29, 30, 31, 32, 33, 34, 35, 36, 37, 38, 39, 40, 41, 42, 43, 44, 45, 46, 47, 48, 49, 50, 51, 52, 53, 54, 55, 56, 57, 58, 59, 60, 61, 62, 63, 64, 65, 66, 67, 68, 69, 70, 71, 72, 73, 74, 75, 76, 77, 78] (by decide +kernel) (by decide +kernel)
set_option maxRecDepth 20000 in
theorem gX12_setFor_X12_priceOf : GoodIn wsX12_setFor (wsV RX12 431 RX12 yX12_priceOf wsX12_priceOf) := goodIn_app (goodIn_of _ (by decide +kernel)) ggX12_setFor_X12_priceOf
theorem dX12_setFor_0 : decode cX12_setFor 0 = .ok (.aload_n 0, 1) := by decide +kernel
theorem dX12_setFor_1 : decode cX12_setFor 1 = .ok (.getfield 7, 3) := by decide +kernel
theorem dX12_setFor_4 : decode cX12_setFor 4 = .ok (.iload_n 1, 1) := by decide +kernel
theorem dX12_setFor_5 : decode cX12_setFor 5 = .ok (.iconst 2, 1) := by decide +kernel
theorem dX12_setFor_6 : decode cX12_setFor 6 = .ok (.iadd, 1) := by decide +kernel
theorem dX12_setFor_7 : decode cX12_setFor 7 = .ok (.iaload, 1) := by decide +kernel
theorem dX12_setFor_8 : decode cX12_setFor 8 = .ok (.istore 4, 2) := by decide +kernel
theorem dX12_setFor_10 : decode cX12_setFor 10 = .ok (.aload_n 0, 1) := by decide +kernel
theorem dX12_setFor_11 : decode cX12_setFor 11 = .ok (.getfield 7, 3) := by decide +kernel
theorem dX12_setFor_14 : decode cX12_setFor 14 = .ok (.iload_n 1, 1) := by decide +kernel
theorem dX12_setFor_15 : decode cX12_setFor 15 = .ok (.iconst 3, 1) := by decide +kernel
theorem dX12_setFor_16 : decode cX12_setFor 16 = .ok (.iadd, 1) := by decide +kernel
theorem dX12_setFor_17 : decode cX12_setFor 17 = .ok (.iaload, 1) := by decide +kernel
theorem dX12_setFor_18 : decode cX12_setFor 18 = .ok (.istore 5, 2) := by decide +kernel
theorem dX12_setFor_20 : decode cX12_setFor 20 = .ok (.aload_n 0, 1) := by decide +kernel
theorem dX12_setFor_21 : decode cX12_setFor 21 = .ok (.getfield 49, 3) := by decide +kernel
theorem dX12_setFor_24 : decode cX12_setFor 24 = .ok (.iconst 1, 1) := by decide +kernel
theorem dX12_setFor_25 : decode cX12_setFor 25 = .ok (.aload_n 0, 1) := by decide +kernel
theorem dX12_setFor_26 : decode cX12_setFor 26 = .ok (.getfield 7, 3) := by decide +kernel
theorem dX12_setFor_29 : decode cX12_setFor 29 = .ok (.iload_n 1, 1) := by decide +kernel
theorem dX12_setFor_30 : decode cX12_setFor 30 = .ok (.iconst 4, 1) := by decide +kernel
theorem dX12_setFor_31 : decode cX12_setFor 31 = .ok (.iadd, 1) := by decide +kernel
theorem dX12_setFor_32 : decode cX12_setFor 32 = .ok (.iaload, 1) := by decide +kernel
theorem dX12_setFor_33 : decode cX12_setFor 33 = .ok (.i2l, 1) := by decide +kernel
theorem dX12_setFor_34 : decode cX12_setFor 34 = .ok (.lastore, 1) := by decide +kernel
theorem dX12_setFor_35 : decode cX12_setFor 35 = .ok (.aload_n 0, 1) := by decide +kernel
theorem dX12_setFor_36 : decode cX12_setFor 36 = .ok (.getfield 49, 3) := by decide +kernel
theorem dX12_setFor_39 : decode cX12_setFor 39 = .ok (.iconst 2, 1) := by decide +kernel
theorem dX12_setFor_40 : decode cX12_setFor 40 = .ok (.aload_n 0, 1) := by decide +kernel
theorem dX12_setFor_41 : decode cX12_setFor 41 = .ok (.iload_n 1, 1) := by decide +kernel
theorem dX12_setFor_42 : decode cX12_setFor 42 = .ok (.invokevirtual 425, 3) := by decide +kernel
theorem dX12_setFor_45 : decode cX12_setFor 45 = .ok (.i2l, 1) := by decide +kernel
theorem dX12_setFor_46 : decode cX12_setFor 46 = .ok (.lastore, 1) := by decide +kernel
theorem dX12_setFor_47 : decode cX12_setFor 47 = .ok (.aload_n 0, 1) := by decide +kernel
theorem dX12_setFor_48 : decode cX12_setFor 48 = .ok (.getfield 49, 3) := by decide +kernel
theorem dX12_setFor_51 : decode cX12_setFor 51 = .ok (.iconst 3, 1) := by decide +kernel
theorem dX12_setFor_52 : decode cX12_setFor 52 = .ok (.aload_n 0, 1) := by decide +kernel
theorem dX12_setFor_53 : decode cX12_setFor 53 = .ok (.iload_n 1, 1) := by decide +kernel
theorem dX12_setFor_54 : decode cX12_setFor 54 = .ok (.invokevirtual 245, 3) := by decide +kernel
theorem dX12_setFor_57 : decode cX12_setFor 57 = .ok (.i2l, 1) := by decide +kernel
theorem dX12_setFor_58 : decode cX12_setFor 58 = .ok (.lastore, 1) := by decide +kernel
theorem dX12_setFor_59 : decode cX12_setFor 59 = .ok (.aload_n 0, 1) := by decide +kernel
theorem dX12_setFor_60 : decode cX12_setFor 60 = .ok (.getfield 49, 3) := by decide +kernel
theorem dX12_setFor_63 : decode cX12_setFor 63 = .ok (.iconst 4, 1) := by decide +kernel
theorem dX12_setFor_64 : decode cX12_setFor 64 = .ok (.lconst 0, 1) := by decide +kernel
theorem dX12_setFor_65 : decode cX12_setFor 65 = .ok (.lastore, 1) := by decide +kernel
theorem dX12_setFor_66 : decode cX12_setFor 66 = .ok (.aload_n 0, 1) := by decide +kernel
theorem dX12_setFor_67 : decode cX12_setFor 67 = .ok (.getfield 7, 3) := by decide +kernel
theorem dX12_setFor_70 : decode cX12_setFor 70 = .ok (.iload_n 2, 1) := by decide +kernel
theorem dX12_setFor_71 : decode cX12_setFor 71 = .ok (.iconst 1, 1) := by decide +kernel
theorem dX12_setFor_72 : decode cX12_setFor 72 = .ok (.iadd, 1) := by decide +kernel
theorem dX12_setFor_73 : decode cX12_setFor 73 = .ok (.iaload, 1) := by decide +kernel
theorem dX12_setFor_74 : decode cX12_setFor 74 = .ok (.iconst 1, 1) := by decide +kernel
theorem dX12_setFor_75 : decode cX12_setFor 75 = .ok (.iadd, 1) := by decide +kernel
theorem dX12_setFor_76 : decode cX12_setFor 76 = .ok (.istore 6, 2) := by decide +kernel
theorem dX12_setFor_78 : decode cX12_setFor 78 = .ok (.iload 6, 2) := by decide +kernel
theorem dX12_setFor_80 : decode cX12_setFor 80 = .ok (.iload 5, 2) := by decide +kernel
theorem dX12_setFor_82 : decode cX12_setFor 82 = .ok (.if_icmp .gt 33, 3) := by decide +kernel
theorem dX12_setFor_85 : decode cX12_setFor 85 = .ok (.aload_n 0, 1) := by decide +kernel
theorem dX12_setFor_86 : decode cX12_setFor 86 = .ok (.getfield 49, 3) := by decide +kernel
theorem dX12_setFor_89 : decode cX12_setFor 89 = .ok (.iconst 4, 1) := by decide +kernel
theorem dX12_setFor_90 : decode cX12_setFor 90 = .ok (.dup2, 1) := by decide +kernel
theorem dX12_setFor_91 : decode cX12_setFor 91 = .ok (.laload, 1) := by decide +kernel
theorem dX12_setFor_92 : decode cX12_setFor 92 = .ok (.aload_n 0, 1) := by decide +kernel
theorem dX12_setFor_93 : decode cX12_setFor 93 = .ok (.iload 6, 2) := by decide +kernel
theorem dX12_setFor_95 : decode cX12_setFor 95 = .ok (.iload_n 3, 1) := by decide +kernel
theorem dX12_setFor_96 : decode cX12_setFor 96 = .ok (.invokevirtual 428, 3) := by decide +kernel
theorem dX12_setFor_99 : decode cX12_setFor 99 = .ok (.ifCond .eq 7, 3) := by decide +kernel
theorem dX12_setFor_102 : decode cX12_setFor 102 = .ok (.lconst 0, 1) := by decide +kernel
theorem dX12_setFor_103 : decode cX12_setFor 103 = .ok (.goto 4, 3) := by decide +kernel
theorem dX12_setFor_106 : decode cX12_setFor 106 = .ok (.lconst 1, 1) := by decide +kernel
theorem dX12_setFor_107 : decode cX12_setFor 107 = .ok (.ladd, 1) := by decide +kernel
theorem dX12_setFor_108 : decode cX12_setFor 108 = .ok (.lastore, 1) := by decide +kernel
theorem dX12_setFor_109 : decode cX12_setFor 109 = .ok (.iinc 6 1, 3) := by decide +kernel
theorem dX12_setFor_112 : decode cX12_setFor 112 = .ok (.goto (-34), 3) := by decide +kernel
theorem dX12_setFor_115 : decode cX12_setFor 115 = .ok (.aload_n 0, 1) := by decide +kernel
theorem dX12_setFor_116 : decode cX12_setFor 116 = .ok (.getfield 49, 3) := by decide +kernel
theorem dX12_setFor_119 : decode cX12_setFor 119 = .ok (.iconst 5, 1) := by decide +kernel
theorem dX12_setFor_120 : decode cX12_setFor 120 = .ok (.iload 4, 2) := by decide +kernel
theorem dX12_setFor_122 : decode cX12_setFor 122 = .ok (.aload_n 0, 1) := by decide +kernel
theorem dX12_setFor_123 : decode cX12_setFor 123 = .ok (.getfield 7, 3) := by decide +kernel
theorem dX12_setFor_126 : decode cX12_setFor 126 = .ok (.iload_n 2, 1) := by decide +kernel
theorem dX12_setFor_127 : decode cX12_setFor 127 = .ok (.iaload, 1) := by decide +kernel
theorem dX12_setFor_128 : decode cX12_setFor 128 = .ok (.if_icmp .ge 16, 3) := by decide +kernel
theorem dX12_setFor_131 : decode cX12_setFor 131 = .ok (.aload_n 0, 1) := by decide +kernel
theorem dX12_setFor_132 : decode cX12_setFor 132 = .ok (.getfield 7, 3) := by decide +kernel
theorem dX12_setFor_135 : decode cX12_setFor 135 = .ok (.iload_n 2, 1) := by decide +kernel
theorem dX12_setFor_136 : decode cX12_setFor 136 = .ok (.iaload, 1) := by decide +kernel
theorem dX12_setFor_137 : decode cX12_setFor 137 = .ok (.iload 4, 2) := by decide +kernel
theorem dX12_setFor_139 : decode cX12_setFor 139 = .ok (.isub, 1) := by decide +kernel
theorem dX12_setFor_140 : decode cX12_setFor 140 = .ok (.i2l, 1) := by decide +kernel
theorem dX12_setFor_141 : decode cX12_setFor 141 = .ok (.goto 4, 3) := by decide +kernel
theorem dX12_setFor_144 : decode cX12_setFor 144 = .ok (.lconst 0, 1) := by decide +kernel
theorem dX12_setFor_145 : decode cX12_setFor 145 = .ok (.lastore, 1) := by decide +kernel
theorem dX12_setFor_146 : decode cX12_setFor 146 = .ok (.aload_n 0, 1) := by decide +kernel
theorem dX12_setFor_147 : decode cX12_setFor 147 = .ok (.getfield 49, 3) := by decide +kernel
theorem dX12_setFor_150 : decode cX12_setFor 150 = .ok (.bipush 6, 2) := by decide +kernel
theorem dX12_setFor_152 : decode cX12_setFor 152 = .ok (.aload_n 0, 1) := by decide +kernel
theorem dX12_setFor_153 : decode cX12_setFor 153 = .ok (.iload 5, 2) := by decide +kernel
theorem dX12_setFor_155 : decode cX12_setFor 155 = .ok (.bipush 24, 2) := by decide +kernel
theorem dX12_setFor_157 : decode cX12_setFor 157 = .ok (.idiv, 1) := by decide +kernel
theorem dX12_setFor_158 : decode cX12_setFor 158 = .ok (.iload_n 3, 1) := by decide +kernel
theorem dX12_setFor_159 : decode cX12_setFor 159 = .ok (.invokevirtual 431, 3) := by decide +kernel
theorem dX12_setFor_162 : decode cX12_setFor 162 = .ok (.i2l, 1) := by decide +kernel
theorem dX12_setFor_163 : decode cX12_setFor 163 = .ok (.lastore, 1) := by decide +kernel
theorem dX12_setFor_164 : decode cX12_setFor 164 = .ok (.aload_n 0, 1) := by decide +kernel
theorem dX12_setFor_165 : decode cX12_setFor 165 = .ok (.getfield 49, 3) := by decide +kernel
theorem dX12_setFor_168 : decode cX12_setFor 168 = .ok (.bipush 7, 2) := by decide +kernel
theorem dX12_setFor_170 : decode cX12_setFor 170 = .ok (.iload 5, 2) := by decide +kernel
theorem dX12_setFor_172 : decode cX12_setFor 172 = .ok (.iload 4, 2) := by decide +kernel
theorem dX12_setFor_174 : decode cX12_setFor 174 = .ok (.isub, 1) := by decide +kernel
theorem dX12_setFor_175 : decode cX12_setFor 175 = .ok (.i2l, 1) := by decide +kernel
theorem dX12_setFor_176 : decode cX12_setFor 176 = .ok (.lconst 1, 1) := by decide +kernel
theorem dX12_setFor_177 : decode cX12_setFor 177 = .ok (.ladd, 1) := by decide +kernel
theorem dX12_setFor_178 : decode cX12_setFor 178 = .ok (.lastore, 1) := by decide +kernel
theorem dX12_setFor_179 : decode cX12_setFor 179 = .ok (.aload_n 0, 1) := by decide +kernel
theorem dX12_setFor_180 : decode cX12_setFor 180 = .ok (.getfield 49, 3) := by decide +kernel
theorem dX12_setFor_183 : decode cX12_setFor 183 = .ok (.bipush 8, 2) := by decide +kernel
theorem dX12_setFor_185 : decode cX12_setFor 185 = .ok (.aload_n 0, 1) := by decide +kernel
theorem dX12_setFor_186 : decode cX12_setFor 186 = .ok (.getfield 7, 3) := by decide +kernel
theorem dX12_setFor_189 : decode cX12_setFor 189 = .ok (.iload_n 1, 1) := by decide +kernel
theorem dX12_setFor_190 : decode cX12_setFor 190 = .ok (.iconst 1, 1) := by decide +kernel
theorem dX12_setFor_191 : decode cX12_setFor 191 = .ok (.iadd, 1) := by decide +kernel
theorem dX12_setFor_192 : decode cX12_setFor 192 = .ok (.iaload, 1) := by decide +kernel
theorem dX12_setFor_193 : decode cX12_setFor 193 = .ok (.aload_n 0, 1) := by decide +kernel
theorem dX12_setFor_194 : decode cX12_setFor 194 = .ok (.getfield 7, 3) := by decide +kernel
theorem dX12_setFor_197 : decode cX12_setFor 197 = .ok (.iload_n 2, 1) := by decide +kernel
theorem dX12_setFor_198 : decode cX12_setFor 198 = .ok (.iconst 2, 1) := by decide +kernel
theorem dX12_setFor_199 : decode cX12_setFor 199 = .ok (.iadd, 1) := by decide +kernel
theorem dX12_setFor_200 : decode cX12_setFor 200 = .ok (.iaload, 1) := by decide +kernel
theorem dX12_setFor_201 : decode cX12_setFor 201 = .ok (.if_icmp .ne 7, 3) := by decide +kernel
theorem dX12_setFor_204 : decode cX12_setFor 204 = .ok (.lconst 0, 1) := by decide +kernel
theorem dX12_setFor_205 : decode cX12_setFor 205 = .ok (.goto 4, 3) := by decide +kernel
theorem dX12_setFor_208 : decode cX12_setFor 208 = .ok (.lconst 1, 1) := by decide +kernel
theorem dX12_setFor_209 : decode cX12_setFor 209 = .ok (.lastore, 1) := by decide +kernel
theorem dX12_setFor_210 : decode cX12_setFor 210 = .ok (.return_, 1) := by decide +kernel
theorem dX12_size_0 : decode cX12_size 0 = .ok (.lload_n 0, 1) := by decide +kernel
theorem dX12_size_1 : decode cX12_size 1 = .ok (.lconst 0, 1) := by decide +kernel
theorem dX12_size_2 : decode cX12_size 2 = .ok (.lcmp, 1) := by decide +kernel
theorem dX12_size_3 : decode cX12_size 3 = .ok (.ifCond .ge 8, 3) := by decide +kernel
theorem dX12_size_6 : decode cX12_size 6 = .ok (.lload_n 0, 1) := by decide +kernel
theorem dX12_size_7 : decode cX12_size 7 = .ok (.lneg, 1) := by decide +kernel
theorem dX12_size_8 : decode cX12_size 8 = .ok (.goto 4, 3) := by decide +kernel
theorem dX12_size_11 : decode cX12_size 11 = .ok (.lload_n 0, 1) := by decide +kernel
theorem dX12_size_12 : decode cX12_size 12 = .ok (.lreturn, 1) := by decide +kernel
set_option maxRecDepth 20000 in
theorem ggX12_reckon_X12_size : GoodIn wsX12_reckon wsX12_size := goodIn_r _ [6] (by decide +kernel) (by decide +kernel)
set_option maxRecDepth 20000 in
theorem gX12_reckon_X12_size : GoodIn wsX12_reckon (va_wsS RX12 434 yX12_size wsX12_size) := goodIn_app (goodIn_of _ (by decide +kernel)) ggX12_reckon_X12_size
theorem dX12_reckon_0 : decode cX12_reckon 0 = .ok (.iload_n 1, 1) := by decide +kernel
theorem dX12_reckon_1 : decode cX12_reckon 1 = .ok (.tableswitch 155 10 15 #[39, 44, 49, 97, 129, 142], 39) := by decide +kernel
theorem dX12_reckon_40 : decode cX12_reckon 40 = .ok (.lload_n 2, 1) := by decide +kernel
theorem dX12_reckon_41 : decode cX12_reckon 41 = .ok (.lload 4, 2) := by decide +kernel
theorem dX12_reckon_43 : decode cX12_reckon 43 = .ok (.ladd, 1) := by decide +kernel
theorem dX12_reckon_44 : decode cX12_reckon 44 = .ok (.lreturn, 1) := by decide +kernel
theorem dX12_reckon_45 : decode cX12_reckon 45 = .ok (.lload_n 2, 1) := by decide +kernel
theorem dX12_reckon_46 : decode cX12_reckon 46 = .ok (.lload 4, 2) := by decide +kernel
theorem dX12_reckon_48 : decode cX12_reckon 48 = .ok (.lsub, 1) := by decide +kernel
theorem dX12_reckon_49 : decode cX12_reckon 49 = .ok (.lreturn, 1) := by decide +kernel
theorem dX12_reckon_50 : decode cX12_reckon 50 = .ok (.aload_n 0, 1) := by decide +kernel
theorem dX12_reckon_51 : decode cX12_reckon 51 = .ok (.lload_n 2, 1) := by decide +kernel
theorem dX12_reckon_52 : decode cX12_reckon 52 = .ok (.lconst 0, 1) := by decide +kernel
theorem dX12_reckon_53 : decode cX12_reckon 53 = .ok (.lcmp, 1) := by decide +kernel
theorem dX12_reckon_54 : decode cX12_reckon 54 = .ok (.ifCond .eq 24, 3) := by decide +kernel
theorem dX12_reckon_57 : decode cX12_reckon 57 = .ok (.lload 4, 2) := by decide +kernel
theorem dX12_reckon_59 : decode cX12_reckon 59 = .ok (.invokestatic 434, 3) := by decide +kernel
theorem dX12_reckon_62 : decode cX12_reckon 62 = .ok (.ldc2_w 438, 3) := by decide +kernel
theorem dX12_reckon_65 : decode cX12_reckon 65 = .ok (.lload_n 2, 1) := by decide +kernel
theorem dX12_reckon_66 : decode cX12_reckon 66 = .ok (.invokestatic 434, 3) := by decide +kernel
theorem dX12_reckon_69 : decode cX12_reckon 69 = .ok (.ldiv, 1) := by decide +kernel
theorem dX12_reckon_70 : decode cX12_reckon 70 = .ok (.lcmp, 1) := by decide +kernel
theorem dX12_reckon_71 : decode cX12_reckon 71 = .ok (.ifCond .le 7, 3) := by decide +kernel
theorem dX12_reckon_74 : decode cX12_reckon 74 = .ok (.iconst 1, 1) := by decide +kernel
theorem dX12_reckon_75 : decode cX12_reckon 75 = .ok (.goto 4, 3) := by decide +kernel
theorem dX12_reckon_78 : decode cX12_reckon 78 = .ok (.iconst 0, 1) := by decide +kernel
theorem dX12_reckon_79 : decode cX12_reckon 79 = .ok (.putfield 440, 3) := by decide +kernel
theorem dX12_reckon_82 : decode cX12_reckon 82 = .ok (.aload_n 0, 1) := by decide +kernel
theorem dX12_reckon_83 : decode cX12_reckon 83 = .ok (.getfield 440, 3) := by decide +kernel
theorem dX12_reckon_86 : decode cX12_reckon 86 = .ok (.ifCond .eq 7, 3) := by decide +kernel
theorem dX12_reckon_89 : decode cX12_reckon 89 = .ok (.lconst 0, 1) := by decide +kernel
theorem dX12_reckon_90 : decode cX12_reckon 90 = .ok (.goto 7, 3) := by decide +kernel
theorem dX12_reckon_93 : decode cX12_reckon 93 = .ok (.lload_n 2, 1) := by decide +kernel
theorem dX12_reckon_94 : decode cX12_reckon 94 = .ok (.lload 4, 2) := by decide +kernel
theorem dX12_reckon_96 : decode cX12_reckon 96 = .ok (.lmul, 1) := by decide +kernel
theorem dX12_reckon_97 : decode cX12_reckon 97 = .ok (.lreturn, 1) := by decide +kernel
theorem dX12_reckon_98 : decode cX12_reckon 98 = .ok (.aload_n 0, 1) := by decide +kernel
theorem dX12_reckon_99 : decode cX12_reckon 99 = .ok (.lload 4, 2) := by decide +kernel
theorem dX12_reckon_101 : decode cX12_reckon 101 = .ok (.lconst 0, 1) := by decide +kernel
theorem dX12_reckon_102 : decode cX12_reckon 102 = .ok (.lcmp, 1) := by decide +kernel
theorem dX12_reckon_103 : decode cX12_reckon 103 = .ok (.ifCond .ne 7, 3) := by decide +kernel
theorem dX12_reckon_106 : decode cX12_reckon 106 = .ok (.iconst 1, 1) := by decide +kernel
theorem dX12_reckon_107 : decode cX12_reckon 107 = .ok (.goto 4, 3) := by decide +kernel
theorem dX12_reckon_110 : decode cX12_reckon 110 = .ok (.iconst 0, 1) := by decide +kernel
theorem dX12_reckon_111 : decode cX12_reckon 111 = .ok (.putfield 440, 3) := by decide +kernel
theorem dX12_reckon_114 : decode cX12_reckon 114 = .ok (.aload_n 0, 1) := by decide +kernel
theorem dX12_reckon_115 : decode cX12_reckon 115 = .ok (.getfield 440, 3) := by decide +kernel
theorem dX12_reckon_118 : decode cX12_reckon 118 = .ok (.ifCond .eq 7, 3) := by decide +kernel
theorem dX12_reckon_121 : decode cX12_reckon 121 = .ok (.lconst 0, 1) := by decide +kernel
theorem dX12_reckon_122 : decode cX12_reckon 122 = .ok (.goto 7, 3) := by decide +kernel
theorem dX12_reckon_125 : decode cX12_reckon 125 = .ok (.lload_n 2, 1) := by decide +kernel
theorem dX12_reckon_126 : decode cX12_reckon 126 = .ok (.lload 4, 2) := by decide +kernel
theorem dX12_reckon_128 : decode cX12_reckon 128 = .ok (.ldiv, 1) := by decide +kernel
theorem dX12_reckon_129 : decode cX12_reckon 129 = .ok (.lreturn, 1) := by decide +kernel
theorem dX12_reckon_130 : decode cX12_reckon 130 = .ok (.lload_n 2, 1) := by decide +kernel
theorem dX12_reckon_131 : decode cX12_reckon 131 = .ok (.lload 4, 2) := by decide +kernel
theorem dX12_reckon_133 : decode cX12_reckon 133 = .ok (.lcmp, 1) := by decide +kernel
theorem dX12_reckon_134 : decode cX12_reckon 134 = .ok (.ifCond .ge 7, 3) := by decide +kernel
theorem dX12_reckon_137 : decode cX12_reckon 137 = .ok (.lconst 1, 1) := by decide +kernel
theorem dX12_reckon_138 : decode cX12_reckon 138 = .ok (.goto 4, 3) := by decide +kernel
theorem dX12_reckon_141 : decode cX12_reckon 141 = .ok (.lconst 0, 1) := by decide +kernel
theorem dX12_reckon_142 : decode cX12_reckon 142 = .ok (.lreturn, 1) := by decide +kernel
theorem dX12_reckon_143 : decode cX12_reckon 143 = .ok (.lload_n 2, 1) := by decide +kernel
theorem dX12_reckon_144 : decode cX12_reckon 144 = .ok (.lload 4, 2) := by decide +kernel
theorem dX12_reckon_146 : decode cX12_reckon 146 = .ok (.lcmp, 1) := by decide +kernel
theorem dX12_reckon_147 : decode cX12_reckon 147 = .ok (.ifCond .le 7, 3) := by decide +kernel
theorem dX12_reckon_150 : decode cX12_reckon 150 = .ok (.lconst 1, 1) := by decide +kernel
theorem dX12_reckon_151 : decode cX12_reckon 151 = .ok (.goto 4, 3) := by decide +kernel
theorem dX12_reckon_154 : decode cX12_reckon 154 = .ok (.lconst 0, 1) := by decide +kernel
theorem dX12_reckon_155 : decode cX12_reckon 155 = .ok (.lreturn, 1) := by decide +kernel
theorem dX12_reckon_156 : decode cX12_reckon 156 = .ok (.lload_n 2, 1) := by decide +kernel
theorem dX12_reckon_157 : decode cX12_reckon 157 = .ok (.lload 4, 2) := by decide +kernel
theorem dX12_reckon_159 : decode cX12_reckon 159 = .ok (.lcmp, 1) := by decide +kernel
theorem dX12_reckon_160 : decode cX12_reckon 160 = .ok (.ifCond .ne 7, 3) := by decide +kernel
theorem dX12_reckon_163 : decode cX12_reckon 163 = .ok (.lconst 1, 1) := by decide +kernel
theorem dX12_reckon_164 : decode cX12_reckon 164 = .ok (.goto 4, 3) := by decide +kernel
theorem dX12_reckon_167 : decode cX12_reckon 167 = .ok (.lconst 0, 1) := by decide +kernel
theorem dX12_reckon_168 : decode cX12_reckon 168 = .ok (.lreturn, 1) := by decide +kernel
set_option maxRecDepth 20000 in
theorem ggX12_run_X12_reckon : GoodIn wsX12_run wsX12_reckon := goodIn_r _ [12, 6, 1, 13, 14, 11, 15, 19, 20, 21, 22, 23, 24, 25, 26, 27, 28, 29, 30, 31, 32, 33, 34, 35, 36, 37, 38, 39, 40, 41, 42, 43, 44, 45, 46, 47, 48, 49, 50, 51, 52, 53, 54, 55, 56, 57, 58, 59, 60, 61, 62, 63, 64, 65, 66, 67, 68, 69, 70, 71] (by decide +kernel) (by decide +kernel)
set_option maxRecDepth 20000 in
theorem gX12_run_X12_reckon : GoodIn wsX12_run (wsV RX12 443 RX12 yX12_reckon wsX12_reckon) := goodIn_app (goodIn_of _ (by decide +kernel)) ggX12_run_X12_reckon
set_option maxRecDepth 20000 in
theorem ggX12_run_X12_in : GoodIn wsX12_run wsX12_in := goodIn_r _ [18] (by decide +kernel) (by decide +kernel)
set_option maxRecDepth 20000 in
theorem gX12_run_X12_in : GoodIn wsX12_run (va_wsS RX12 99 yX12_in wsX12_in) := goodIn_app (goodIn_of _ (by decide +kernel)) ggX12_run_X12_in
theorem dX12_run_0 : decode cX12_run 0 = .ok (.aload_n 0, 1) := by decide +kernel
theorem dX12_run_1 : decode cX12_run 1 = .ok (.iconst 0, 1) := by decide +kernel
theorem dX12_run_2 : decode cX12_run 2 = .ok (.putfield 440, 3) := by decide +kernel
theorem dX12_run_5 : decode cX12_run 5 = .ok (.iconst 0, 1) := by decide +kernel
theorem dX12_run_6 : decode cX12_run 6 = .ok (.istore 4, 2) := by decide +kernel
theorem dX12_run_8 : decode cX12_run 8 = .ok (.iload_n 2, 1) := by decide +kernel
theorem dX12_run_9 : decode cX12_run 9 = .ok (.istore 5, 2) := by decide +kernel
theorem dX12_run_11 : decode cX12_run 11 = .ok (.iload 5, 2) := by decide +kernel
theorem dX12_run_13 : decode cX12_run 13 = .ok (.iload_n 3, 1) := by decide +kernel
theorem dX12_run_14 : decode cX12_run 14 = .ok (.if_icmp .ge 234, 3) := by decide +kernel
theorem dX12_run_17 : decode cX12_run 17 = .ok (.aload_n 0, 1) := by decide +kernel
theorem dX12_run_18 : decode cX12_run 18 = .ok (.getfield 440, 3) := by decide +kernel
theorem dX12_run_21 : decode cX12_run 21 = .ok (.ifCond .ne 227, 3) := by decide +kernel
theorem dX12_run_24 : decode cX12_run 24 = .ok (.aload_n 0, 1) := by decide +kernel
theorem dX12_run_25 : decode cX12_run 25 = .ok (.getfield 7, 3) := by decide +kernel
theorem dX12_run_28 : decode cX12_run 28 = .ok (.iload_n 1, 1) := by decide +kernel
theorem dX12_run_29 : decode cX12_run 29 = .ok (.bipush 64, 2) := by decide +kernel
theorem dX12_run_31 : decode cX12_run 31 = .ok (.iadd, 1) := by decide +kernel
theorem dX12_run_32 : decode cX12_run 32 = .ok (.iconst 2, 1) := by decide +kernel
theorem dX12_run_33 : decode cX12_run 33 = .ok (.iload 5, 2) := by decide +kernel
theorem dX12_run_35 : decode cX12_run 35 = .ok (.imul, 1) := by decide +kernel
theorem dX12_run_36 : decode cX12_run 36 = .ok (.iadd, 1) := by decide +kernel
theorem dX12_run_37 : decode cX12_run 37 = .ok (.iaload, 1) := by decide +kernel
theorem dX12_run_38 : decode cX12_run 38 = .ok (.istore 6, 2) := by decide +kernel
theorem dX12_run_40 : decode cX12_run 40 = .ok (.aload_n 0, 1) := by decide +kernel
theorem dX12_run_41 : decode cX12_run 41 = .ok (.getfield 7, 3) := by decide +kernel
theorem dX12_run_44 : decode cX12_run 44 = .ok (.iload_n 1, 1) := by decide +kernel
theorem dX12_run_45 : decode cX12_run 45 = .ok (.bipush 64, 2) := by decide +kernel
theorem dX12_run_47 : decode cX12_run 47 = .ok (.iadd, 1) := by decide +kernel
theorem dX12_run_48 : decode cX12_run 48 = .ok (.iconst 2, 1) := by decide +kernel
theorem dX12_run_49 : decode cX12_run 49 = .ok (.iload 5, 2) := by decide +kernel
theorem dX12_run_51 : decode cX12_run 51 = .ok (.imul, 1) := by decide +kernel
theorem dX12_run_52 : decode cX12_run 52 = .ok (.iadd, 1) := by decide +kernel
theorem dX12_run_53 : decode cX12_run 53 = .ok (.iconst 1, 1) := by decide +kernel
theorem dX12_run_54 : decode cX12_run 54 = .ok (.iadd, 1) := by decide +kernel
theorem dX12_run_55 : decode cX12_run 55 = .ok (.iaload, 1) := by decide +kernel
theorem dX12_run_56 : decode cX12_run 56 = .ok (.istore 7, 2) := by decide +kernel
theorem dX12_run_58 : decode cX12_run 58 = .ok (.iinc 5 1, 3) := by decide +kernel
theorem dX12_run_61 : decode cX12_run 61 = .ok (.iload 6, 2) := by decide +kernel
theorem dX12_run_63 : decode cX12_run 63 = .ok (.bipush 10, 2) := by decide +kernel
theorem dX12_run_65 : decode cX12_run 65 = .ok (.if_icmp .ge 34, 3) := by decide +kernel
theorem dX12_run_68 : decode cX12_run 68 = .ok (.aload_n 0, 1) := by decide +kernel
theorem dX12_run_69 : decode cX12_run 69 = .ok (.getfield 52, 3) := by decide +kernel
theorem dX12_run_72 : decode cX12_run 72 = .ok (.iload 4, 2) := by decide +kernel
theorem dX12_run_74 : decode cX12_run 74 = .ok (.iload 6, 2) := by decide +kernel
theorem dX12_run_76 : decode cX12_run 76 = .ok (.ifCond .ne 9, 3) := by decide +kernel
theorem dX12_run_79 : decode cX12_run 79 = .ok (.iload 7, 2) := by decide +kernel
theorem dX12_run_81 : decode cX12_run 81 = .ok (.i2l, 1) := by decide +kernel
theorem dX12_run_82 : decode cX12_run 82 = .ok (.goto 10, 3) := by decide +kernel
theorem dX12_run_85 : decode cX12_run 85 = .ok (.aload_n 0, 1) := by decide +kernel
theorem dX12_run_86 : decode cX12_run 86 = .ok (.getfield 49, 3) := by decide +kernel
theorem dX12_run_89 : decode cX12_run 89 = .ok (.iload 6, 2) := by decide +kernel
theorem dX12_run_91 : decode cX12_run 91 = .ok (.laload, 1) := by decide +kernel
theorem dX12_run_92 : decode cX12_run 92 = .ok (.lastore, 1) := by decide +kernel
theorem dX12_run_93 : decode cX12_run 93 = .ok (.iinc 4 1, 3) := by decide +kernel
theorem dX12_run_96 : decode cX12_run 96 = .ok (.goto 149, 3) := by decide +kernel
theorem dX12_run_99 : decode cX12_run 99 = .ok (.iload 6, 2) := by decide +kernel
theorem dX12_run_101 : decode cX12_run 101 = .ok (.bipush 17, 2) := by decide +kernel
theorem dX12_run_103 : decode cX12_run 103 = .ok (.if_icmp .ge 77, 3) := by decide +kernel
theorem dX12_run_106 : decode cX12_run 106 = .ok (.iinc 4 (-1), 3) := by decide +kernel
theorem dX12_run_109 : decode cX12_run 109 = .ok (.aload_n 0, 1) := by decide +kernel
theorem dX12_run_110 : decode cX12_run 110 = .ok (.getfield 52, 3) := by decide +kernel
theorem dX12_run_113 : decode cX12_run 113 = .ok (.iload 4, 2) := by decide +kernel
theorem dX12_run_115 : decode cX12_run 115 = .ok (.iconst 1, 1) := by decide +kernel
theorem dX12_run_116 : decode cX12_run 116 = .ok (.isub, 1) := by decide +kernel
theorem dX12_run_117 : decode cX12_run 117 = .ok (.aload_n 0, 1) := by decide +kernel
theorem dX12_run_118 : decode cX12_run 118 = .ok (.iload 6, 2) := by decide +kernel
theorem dX12_run_120 : decode cX12_run 120 = .ok (.aload_n 0, 1) := by decide +kernel
theorem dX12_run_121 : decode cX12_run 121 = .ok (.getfield 52, 3) := by decide +kernel
theorem dX12_run_124 : decode cX12_run 124 = .ok (.iload 4, 2) := by decide +kernel
theorem dX12_run_126 : decode cX12_run 126 = .ok (.iconst 1, 1) := by decide +kernel
theorem dX12_run_127 : decode cX12_run 127 = .ok (.isub, 1) := by decide +kernel
theorem dX12_run_128 : decode cX12_run 128 = .ok (.laload, 1) := by decide +kernel
theorem dX12_run_129 : decode cX12_run 129 = .ok (.aload_n 0, 1) := by decide +kernel
theorem dX12_run_130 : decode cX12_run 130 = .ok (.getfield 52, 3) := by decide +kernel
theorem dX12_run_133 : decode cX12_run 133 = .ok (.iload 4, 2) := by decide +kernel
theorem dX12_run_135 : decode cX12_run 135 = .ok (.laload, 1) := by decide +kernel
theorem dX12_run_136 : decode cX12_run 136 = .ok (.invokevirtual 443, 3) := by decide +kernel
theorem dX12_run_139 : decode cX12_run 139 = .ok (.lastore, 1) := by decide +kernel
theorem dX12_run_140 : decode cX12_run 140 = .ok (.aload_n 0, 1) := by decide +kernel
theorem dX12_run_141 : decode cX12_run 141 = .ok (.aload_n 0, 1) := by decide +kernel
theorem dX12_run_142 : decode cX12_run 142 = .ok (.getfield 440, 3) := by decide +kernel
theorem dX12_run_145 : decode cX12_run 145 = .ok (.ifCond .ne 24, 3) := by decide +kernel
theorem dX12_run_148 : decode cX12_run 148 = .ok (.aload_n 0, 1) := by decide +kernel
theorem dX12_run_149 : decode cX12_run 149 = .ok (.getfield 52, 3) := by decide +kernel
theorem dX12_run_152 : decode cX12_run 152 = .ok (.iload 4, 2) := by decide +kernel
theorem dX12_run_154 : decode cX12_run 154 = .ok (.iconst 1, 1) := by decide +kernel
theorem dX12_run_155 : decode cX12_run 155 = .ok (.isub, 1) := by decide +kernel
theorem dX12_run_156 : decode cX12_run 156 = .ok (.laload, 1) := by decide +kernel
theorem dX12_run_157 : decode cX12_run 157 = .ok (.ldc2_w 447, 3) := by decide +kernel
theorem dX12_run_160 : decode cX12_run 160 = .ok (.ldc2_w 438, 3) := by decide +kernel
theorem dX12_run_163 : decode cX12_run 163 = .ok (.invokestatic 99, 3) := by decide +kernel
theorem dX12_run_166 : decode cX12_run 166 = .ok (.ifCond .ne 7, 3) := by decide +kernel
theorem dX12_run_169 : decode cX12_run 169 = .ok (.iconst 1, 1) := by decide +kernel
theorem dX12_run_170 : decode cX12_run 170 = .ok (.goto 4, 3) := by decide +kernel
theorem dX12_run_173 : decode cX12_run 173 = .ok (.iconst 0, 1) := by decide +kernel
theorem dX12_run_174 : decode cX12_run 174 = .ok (.putfield 440, 3) := by decide +kernel
theorem dX12_run_177 : decode cX12_run 177 = .ok (.goto 68, 3) := by decide +kernel
theorem dX12_run_180 : decode cX12_run 180 = .ok (.iload 6, 2) := by decide +kernel
theorem dX12_run_182 : decode cX12_run 182 = .ok (.bipush 17, 2) := by decide +kernel
theorem dX12_run_184 : decode cX12_run 184 = .ok (.if_icmp .ne 26, 3) := by decide +kernel
theorem dX12_run_187 : decode cX12_run 187 = .ok (.aload_n 0, 1) := by decide +kernel
theorem dX12_run_188 : decode cX12_run 188 = .ok (.getfield 52, 3) := by decide +kernel
theorem dX12_run_191 : decode cX12_run 191 = .ok (.iload 4, 2) := by decide +kernel
theorem dX12_run_193 : decode cX12_run 193 = .ok (.iconst 1, 1) := by decide +kernel
theorem dX12_run_194 : decode cX12_run 194 = .ok (.isub, 1) := by decide +kernel
theorem dX12_run_195 : decode cX12_run 195 = .ok (.lconst 1, 1) := by decide +kernel
theorem dX12_run_196 : decode cX12_run 196 = .ok (.aload_n 0, 1) := by decide +kernel
theorem dX12_run_197 : decode cX12_run 197 = .ok (.getfield 52, 3) := by decide +kernel
theorem dX12_run_200 : decode cX12_run 200 = .ok (.iload 4, 2) := by decide +kernel
theorem dX12_run_202 : decode cX12_run 202 = .ok (.iconst 1, 1) := by decide +kernel
theorem dX12_run_203 : decode cX12_run 203 = .ok (.isub, 1) := by decide +kernel
theorem dX12_run_204 : decode cX12_run 204 = .ok (.laload, 1) := by decide +kernel
theorem dX12_run_205 : decode cX12_run 205 = .ok (.lsub, 1) := by decide +kernel
theorem dX12_run_206 : decode cX12_run 206 = .ok (.lastore, 1) := by decide +kernel
theorem dX12_run_207 : decode cX12_run 207 = .ok (.goto 38, 3) := by decide +kernel
theorem dX12_run_210 : decode cX12_run 210 = .ok (.aload_n 0, 1) := by decide +kernel
theorem dX12_run_211 : decode cX12_run 211 = .ok (.getfield 52, 3) := by decide +kernel
theorem dX12_run_214 : decode cX12_run 214 = .ok (.iload 4, 2) := by decide +kernel
theorem dX12_run_216 : decode cX12_run 216 = .ok (.iconst 1, 1) := by decide +kernel
theorem dX12_run_217 : decode cX12_run 217 = .ok (.isub, 1) := by decide +kernel
theorem dX12_run_218 : decode cX12_run 218 = .ok (.laload, 1) := by decide +kernel
theorem dX12_run_219 : decode cX12_run 219 = .ok (.iload 6, 2) := by decide +kernel
theorem dX12_run_221 : decode cX12_run 221 = .ok (.bipush 18, 2) := by decide +kernel
theorem dX12_run_223 : decode cX12_run 223 = .ok (.if_icmp .ne 7, 3) := by decide +kernel
theorem dX12_run_226 : decode cX12_run 226 = .ok (.lconst 0, 1) := by decide +kernel
theorem dX12_run_227 : decode cX12_run 227 = .ok (.goto 4, 3) := by decide +kernel
theorem dX12_run_230 : decode cX12_run 230 = .ok (.lconst 1, 1) := by decide +kernel
theorem dX12_run_231 : decode cX12_run 231 = .ok (.lcmp, 1) := by decide +kernel
theorem dX12_run_232 : decode cX12_run 232 = .ok (.ifCond .ne 10, 3) := by decide +kernel
theorem dX12_run_235 : decode cX12_run 235 = .ok (.iload 7, 2) := by decide +kernel
theorem dX12_run_237 : decode cX12_run 237 = .ok (.istore 5, 2) := by decide +kernel
theorem dX12_run_239 : decode cX12_run 239 = .ok (.goto 6, 3) := by decide +kernel
theorem dX12_run_242 : decode cX12_run 242 = .ok (.iinc 4 (-1), 3) := by decide +kernel
theorem dX12_run_245 : decode cX12_run 245 = .ok (.goto (-234), 3) := by decide +kernel
theorem dX12_run_248 : decode cX12_run 248 = .ok (.aload_n 0, 1) := by decide +kernel
theorem dX12_run_249 : decode cX12_run 249 = .ok (.iload 4, 2) := by decide +kernel
theorem dX12_run_251 : decode cX12_run 251 = .ok (.ifCond .le 12, 3) := by decide +kernel
theorem dX12_run_254 : decode cX12_run 254 = .ok (.aload_n 0, 1) := by decide +kernel
theorem dX12_run_255 : decode cX12_run 255 = .ok (.getfield 52, 3) := by decide +kernel
theorem dX12_run_258 : decode cX12_run 258 = .ok (.iconst 0, 1) := by decide +kernel
theorem dX12_run_259 : decode cX12_run 259 = .ok (.laload, 1) := by decide +kernel
theorem dX12_run_260 : decode cX12_run 260 = .ok (.goto 4, 3) := by decide +kernel
theorem dX12_run_263 : decode cX12_run 263 = .ok (.lconst 0, 1) := by decide +kernel
theorem dX12_run_264 : decode cX12_run 264 = .ok (.putfield 449, 3) := by decide +kernel
theorem dX12_run_267 : decode cX12_run 267 = .ok (.return_, 1) := by decide +kernel
set_option maxRecDepth 20000 in
theorem ggX12_judgeLanding_X12_run : GoodIn wsX12_judgeLanding wsX12_run := goodIn_r _ [10, 4, 3, 11, 12, 13, 14, 5, 15, 16, 17, 9, 18, 19, 20, 21, 22, 23, 24, 25, 26, 27, 28, 29, 30, 31, 32, 33, 34, 35, 36, 37, 38, 39, 40, 41, 42, 43, 44, 45, 46, 47, 48, 49, 50, 51, 52, 53, 54, 55, 56, 57, 58, 59, 60, 61, 62, 63, 64, 65, 66, 67, 68, 69, 70, 71, 72, 73, 74, 75, 76, 77] (by decide +kernel) (by decide +kernel)
set_option maxRecDepth 20000 in
theorem gX12_judgeLanding_X12_run : GoodIn wsX12_judgeLanding (wsV RX12 458 RX12 yX12_run wsX12_run) := goodIn_app (goodIn_of _ (by decide +kernel)) ggX12_judgeLanding_X12_run
theorem dX12_judgeLanding_0 : decode cX12_judgeLanding 0 = .ok (.aload_n 0, 1) := by decide +kernel
theorem dX12_judgeLanding_1 : decode cX12_judgeLanding 1 = .ok (.lconst 0, 1) := by decide +kernel
theorem dX12_judgeLanding_2 : decode cX12_judgeLanding 2 = .ok (.putfield 452, 3) := by decide +kernel
theorem dX12_judgeLanding_5 : decode cX12_judgeLanding 5 = .ok (.aload_n 0, 1) := by decide +kernel
theorem dX12_judgeLanding_6 : decode cX12_judgeLanding 6 = .ok (.lconst 0, 1) := by decide +kernel
theorem dX12_judgeLanding_7 : decode cX12_judgeLanding 7 = .ok (.putfield 455, 3) := by decide +kernel
theorem dX12_judgeLanding_10 : decode cX12_judgeLanding 10 = .ok (.iconst 0, 1) := by decide +kernel
theorem dX12_judgeLanding_11 : decode cX12_judgeLanding 11 = .ok (.istore_n 3, 1) := by decide +kernel
theorem dX12_judgeLanding_12 : decode cX12_judgeLanding 12 = .ok (.iload_n 3, 1) := by decide +kernel
theorem dX12_judgeLanding_13 : decode cX12_judgeLanding 13 = .ok (.aload_n 0, 1) := by decide +kernel
theorem dX12_judgeLanding_14 : decode cX12_judgeLanding 14 = .ok (.getfield 7, 3) := by decide +kernel
theorem dX12_judgeLanding_17 : decode cX12_judgeLanding 17 = .ok (.iload_n 2, 1) := by decide +kernel
theorem dX12_judgeLanding_18 : decode cX12_judgeLanding 18 = .ok (.iconst 3, 1) := by decide +kernel
theorem dX12_judgeLanding_19 : decode cX12_judgeLanding 19 = .ok (.iadd, 1) := by decide +kernel
theorem dX12_judgeLanding_20 : decode cX12_judgeLanding 20 = .ok (.iaload, 1) := by decide +kernel
theorem dX12_judgeLanding_21 : decode cX12_judgeLanding 21 = .ok (.if_icmp .ge 185, 3) := by decide +kernel
theorem dX12_judgeLanding_24 : decode cX12_judgeLanding 24 = .ok (.iload_n 2, 1) := by decide +kernel
theorem dX12_judgeLanding_25 : decode cX12_judgeLanding 25 = .ok (.iconst 4, 1) := by decide +kernel
theorem dX12_judgeLanding_26 : decode cX12_judgeLanding 26 = .ok (.iadd, 1) := by decide +kernel
theorem dX12_judgeLanding_27 : decode cX12_judgeLanding 27 = .ok (.iconst 5, 1) := by decide +kernel
theorem dX12_judgeLanding_28 : decode cX12_judgeLanding 28 = .ok (.iload_n 3, 1) := by decide +kernel
theorem dX12_judgeLanding_29 : decode cX12_judgeLanding 29 = .ok (.imul, 1) := by decide +kernel
theorem dX12_judgeLanding_30 : decode cX12_judgeLanding 30 = .ok (.iadd, 1) := by decide +kernel
theorem dX12_judgeLanding_31 : decode cX12_judgeLanding 31 = .ok (.istore 4, 2) := by decide +kernel
theorem dX12_judgeLanding_33 : decode cX12_judgeLanding 33 = .ok (.iconst 1, 1) := by decide +kernel
theorem dX12_judgeLanding_34 : decode cX12_judgeLanding 34 = .ok (.istore 5, 2) := by decide +kernel
theorem dX12_judgeLanding_36 : decode cX12_judgeLanding 36 = .ok (.aload_n 0, 1) := by decide +kernel
theorem dX12_judgeLanding_37 : decode cX12_judgeLanding 37 = .ok (.getfield 7, 3) := by decide +kernel
theorem dX12_judgeLanding_40 : decode cX12_judgeLanding 40 = .ok (.iload 4, 2) := by decide +kernel
theorem dX12_judgeLanding_42 : decode cX12_judgeLanding 42 = .ok (.iconst 3, 1) := by decide +kernel
theorem dX12_judgeLanding_43 : decode cX12_judgeLanding 43 = .ok (.iadd, 1) := by decide +kernel
theorem dX12_judgeLanding_44 : decode cX12_judgeLanding 44 = .ok (.iaload, 1) := by decide +kernel
theorem dX12_judgeLanding_45 : decode cX12_judgeLanding 45 = .ok (.aload_n 0, 1) := by decide +kernel
theorem dX12_judgeLanding_46 : decode cX12_judgeLanding 46 = .ok (.getfield 7, 3) := by decide +kernel
theorem dX12_judgeLanding_49 : decode cX12_judgeLanding 49 = .ok (.iload 4, 2) := by decide +kernel
theorem dX12_judgeLanding_51 : decode cX12_judgeLanding 51 = .ok (.iconst 4, 1) := by decide +kernel
theorem dX12_judgeLanding_52 : decode cX12_judgeLanding 52 = .ok (.iadd, 1) := by decide +kernel
theorem dX12_judgeLanding_53 : decode cX12_judgeLanding 53 = .ok (.iaload, 1) := by decide +kernel
theorem dX12_judgeLanding_54 : decode cX12_judgeLanding 54 = .ok (.if_icmp .ge 49, 3) := by decide +kernel
theorem dX12_judgeLanding_57 : decode cX12_judgeLanding 57 = .ok (.aload_n 0, 1) := by decide +kernel
theorem dX12_judgeLanding_58 : decode cX12_judgeLanding 58 = .ok (.iload_n 2, 1) := by decide +kernel
theorem dX12_judgeLanding_59 : decode cX12_judgeLanding 59 = .ok (.aload_n 0, 1) := by decide +kernel
theorem dX12_judgeLanding_60 : decode cX12_judgeLanding 60 = .ok (.getfield 7, 3) := by decide +kernel
theorem dX12_judgeLanding_63 : decode cX12_judgeLanding 63 = .ok (.iload 4, 2) := by decide +kernel
theorem dX12_judgeLanding_65 : decode cX12_judgeLanding 65 = .ok (.iconst 3, 1) := by decide +kernel
theorem dX12_judgeLanding_66 : decode cX12_judgeLanding 66 = .ok (.iadd, 1) := by decide +kernel
theorem dX12_judgeLanding_67 : decode cX12_judgeLanding 67 = .ok (.iaload, 1) := by decide +kernel
theorem dX12_judgeLanding_68 : decode cX12_judgeLanding 68 = .ok (.aload_n 0, 1) := by decide +kernel
theorem dX12_judgeLanding_69 : decode cX12_judgeLanding 69 = .ok (.getfield 7, 3) := by decide +kernel
theorem dX12_judgeLanding_72 : decode cX12_judgeLanding 72 = .ok (.iload 4, 2) := by decide +kernel
theorem dX12_judgeLanding_74 : decode cX12_judgeLanding 74 = .ok (.iconst 4, 1) := by decide +kernel
theorem dX12_judgeLanding_75 : decode cX12_judgeLanding 75 = .ok (.iadd, 1) := by decide +kernel
theorem dX12_judgeLanding_76 : decode cX12_judgeLanding 76 = .ok (.iaload, 1) := by decide +kernel
theorem dX12_judgeLanding_77 : decode cX12_judgeLanding 77 = .ok (.invokevirtual 458, 3) := by decide +kernel
theorem dX12_judgeLanding_80 : decode cX12_judgeLanding 80 = .ok (.aload_n 0, 1) := by decide +kernel
theorem dX12_judgeLanding_81 : decode cX12_judgeLanding 81 = .ok (.getfield 440, 3) := by decide +kernel
theorem dX12_judgeLanding_84 : decode cX12_judgeLanding 84 = .ok (.ifCond .ne 16, 3) := by decide +kernel
theorem dX12_judgeLanding_87 : decode cX12_judgeLanding 87 = .ok (.aload_n 0, 1) := by decide +kernel
theorem dX12_judgeLanding_88 : decode cX12_judgeLanding 88 = .ok (.getfield 449, 3) := by decide +kernel
theorem dX12_judgeLanding_91 : decode cX12_judgeLanding 91 = .ok (.lconst 1, 1) := by decide +kernel
theorem dX12_judgeLanding_92 : decode cX12_judgeLanding 92 = .ok (.lcmp, 1) := by decide +kernel
theorem dX12_judgeLanding_93 : decode cX12_judgeLanding 93 = .ok (.ifCond .ne 7, 3) := by decide +kernel
theorem dX12_judgeLanding_96 : decode cX12_judgeLanding 96 = .ok (.iconst 1, 1) := by decide +kernel
theorem dX12_judgeLanding_97 : decode cX12_judgeLanding 97 = .ok (.goto 4, 3) := by decide +kernel
theorem dX12_judgeLanding_100 : decode cX12_judgeLanding 100 = .ok (.iconst 0, 1) := by decide +kernel
theorem dX12_judgeLanding_101 : decode cX12_judgeLanding 101 = .ok (.istore 5, 2) := by decide +kernel
theorem dX12_judgeLanding_103 : decode cX12_judgeLanding 103 = .ok (.iload 5, 2) := by decide +kernel
theorem dX12_judgeLanding_105 : decode cX12_judgeLanding 105 = .ok (.ifCond .eq 95, 3) := by decide +kernel
theorem dX12_judgeLanding_108 : decode cX12_judgeLanding 108 = .ok (.aload_n 0, 1) := by decide +kernel
theorem dX12_judgeLanding_109 : decode cX12_judgeLanding 109 = .ok (.iload_n 2, 1) := by decide +kernel
theorem dX12_judgeLanding_110 : decode cX12_judgeLanding 110 = .ok (.aload_n 0, 1) := by decide +kernel
theorem dX12_judgeLanding_111 : decode cX12_judgeLanding 111 = .ok (.getfield 7, 3) := by decide +kernel
theorem dX12_judgeLanding_114 : decode cX12_judgeLanding 114 = .ok (.iload 4, 2) := by decide +kernel
theorem dX12_judgeLanding_116 : decode cX12_judgeLanding 116 = .ok (.iconst 1, 1) := by decide +kernel
theorem dX12_judgeLanding_117 : decode cX12_judgeLanding 117 = .ok (.iadd, 1) := by decide +kernel
theorem dX12_judgeLanding_118 : decode cX12_judgeLanding 118 = .ok (.iaload, 1) := by decide +kernel
theorem dX12_judgeLanding_119 : decode cX12_judgeLanding 119 = .ok (.aload_n 0, 1) := by decide +kernel
theorem dX12_judgeLanding_120 : decode cX12_judgeLanding 120 = .ok (.getfield 7, 3) := by decide +kernel
theorem dX12_judgeLanding_123 : decode cX12_judgeLanding 123 = .ok (.iload 4, 2) := by decide +kernel
theorem dX12_judgeLanding_125 : decode cX12_judgeLanding 125 = .ok (.iconst 2, 1) := by decide +kernel
theorem dX12_judgeLanding_126 : decode cX12_judgeLanding 126 = .ok (.iadd, 1) := by decide +kernel
theorem dX12_judgeLanding_127 : decode cX12_judgeLanding 127 = .ok (.iaload, 1) := by decide +kernel
theorem dX12_judgeLanding_128 : decode cX12_judgeLanding 128 = .ok (.invokevirtual 458, 3) := by decide +kernel
theorem dX12_judgeLanding_131 : decode cX12_judgeLanding 131 = .ok (.aload_n 0, 1) := by decide +kernel
theorem dX12_judgeLanding_132 : decode cX12_judgeLanding 132 = .ok (.dup, 1) := by decide +kernel
theorem dX12_judgeLanding_133 : decode cX12_judgeLanding 133 = .ok (.getfield 452, 3) := by decide +kernel
theorem dX12_judgeLanding_136 : decode cX12_judgeLanding 136 = .ok (.aload_n 0, 1) := by decide +kernel
theorem dX12_judgeLanding_137 : decode cX12_judgeLanding 137 = .ok (.getfield 440, 3) := by decide +kernel
theorem dX12_judgeLanding_140 : decode cX12_judgeLanding 140 = .ok (.ifCond .ne 20, 3) := by decide +kernel
theorem dX12_judgeLanding_143 : decode cX12_judgeLanding 143 = .ok (.aload_n 0, 1) := by decide +kernel
theorem dX12_judgeLanding_144 : decode cX12_judgeLanding 144 = .ok (.getfield 7, 3) := by decide +kernel
theorem dX12_judgeLanding_147 : decode cX12_judgeLanding 147 = .ok (.iload 4, 2) := by decide +kernel
theorem dX12_judgeLanding_149 : decode cX12_judgeLanding 149 = .ok (.iaload, 1) := by decide +kernel
theorem dX12_judgeLanding_150 : decode cX12_judgeLanding 150 = .ok (.ifCond .ne 10, 3) := by decide +kernel
theorem dX12_judgeLanding_153 : decode cX12_judgeLanding 153 = .ok (.aload_n 0, 1) := by decide +kernel
theorem dX12_judgeLanding_154 : decode cX12_judgeLanding 154 = .ok (.getfield 449, 3) := by decide +kernel
theorem dX12_judgeLanding_157 : decode cX12_judgeLanding 157 = .ok (.goto 4, 3) := by decide +kernel
theorem dX12_judgeLanding_160 : decode cX12_judgeLanding 160 = .ok (.lconst 0, 1) := by decide +kernel
theorem dX12_judgeLanding_161 : decode cX12_judgeLanding 161 = .ok (.ladd, 1) := by decide +kernel
theorem dX12_judgeLanding_162 : decode cX12_judgeLanding 162 = .ok (.putfield 452, 3) := by decide +kernel
theorem dX12_judgeLanding_165 : decode cX12_judgeLanding 165 = .ok (.aload_n 0, 1) := by decide +kernel
theorem dX12_judgeLanding_166 : decode cX12_judgeLanding 166 = .ok (.dup, 1) := by decide +kernel
theorem dX12_judgeLanding_167 : decode cX12_judgeLanding 167 = .ok (.getfield 455, 3) := by decide +kernel
theorem dX12_judgeLanding_170 : decode cX12_judgeLanding 170 = .ok (.aload_n 0, 1) := by decide +kernel
theorem dX12_judgeLanding_171 : decode cX12_judgeLanding 171 = .ok (.getfield 440, 3) := by decide +kernel
theorem dX12_judgeLanding_174 : decode cX12_judgeLanding 174 = .ok (.ifCond .ne 21, 3) := by decide +kernel
theorem dX12_judgeLanding_177 : decode cX12_judgeLanding 177 = .ok (.aload_n 0, 1) := by decide +kernel
theorem dX12_judgeLanding_178 : decode cX12_judgeLanding 178 = .ok (.getfield 7, 3) := by decide +kernel
theorem dX12_judgeLanding_181 : decode cX12_judgeLanding 181 = .ok (.iload 4, 2) := by decide +kernel
theorem dX12_judgeLanding_183 : decode cX12_judgeLanding 183 = .ok (.iaload, 1) := by decide +kernel
theorem dX12_judgeLanding_184 : decode cX12_judgeLanding 184 = .ok (.iconst 1, 1) := by decide +kernel
theorem dX12_judgeLanding_185 : decode cX12_judgeLanding 185 = .ok (.if_icmp .ne 10, 3) := by decide +kernel
theorem dX12_judgeLanding_188 : decode cX12_judgeLanding 188 = .ok (.aload_n 0, 1) := by decide +kernel
theorem dX12_judgeLanding_189 : decode cX12_judgeLanding 189 = .ok (.getfield 449, 3) := by decide +kernel
theorem dX12_judgeLanding_192 : decode cX12_judgeLanding 192 = .ok (.goto 4, 3) := by decide +kernel
theorem dX12_judgeLanding_195 : decode cX12_judgeLanding 195 = .ok (.lconst 0, 1) := by decide +kernel
theorem dX12_judgeLanding_196 : decode cX12_judgeLanding 196 = .ok (.ladd, 1) := by decide +kernel
theorem dX12_judgeLanding_197 : decode cX12_judgeLanding 197 = .ok (.putfield 455, 3) := by decide +kernel
theorem dX12_judgeLanding_200 : decode cX12_judgeLanding 200 = .ok (.iinc 3 1, 3) := by decide +kernel
theorem dX12_judgeLanding_203 : decode cX12_judgeLanding 203 = .ok (.goto (-191), 3) := by decide +kernel
theorem dX12_judgeLanding_206 : decode cX12_judgeLanding 206 = .ok (.return_, 1) := by decide +kernel
set_option maxRecDepth 20000 in
theorem ggX12_due_X12_isLanding : GoodIn wsX12_due wsX12_isLanding := goodIn_r _ [11, 12, 13, 14, 10, 15, 73, 74, 75, 76, 77, 78, 79, 80, 81, 82, 83, 84, 85, 86, 87, 88, 89, 90, 91, 92, 93, 94, 95, 96, 97, 98, 99, 100, 101, 102, 103, 104, 105, 106, 107, 108, 109, 110, 111, 112, 113, 114, 115, 116, 117, 118, 119, 120, 121, 122, 123, 124, 125] (by decide +kernel) (by decide +kernel)
set_option maxRecDepth 20000 in
theorem gX12_due_X12_isLanding : GoodIn wsX12_due (wsV RX12 237 RX12 yX12_isLanding wsX12_isLanding) := goodIn_app (goodIn_of _ (by decide +kernel)) ggX12_due_X12_isLanding
set_option maxRecDepth 20000 in
theorem ggX12_due_X12_isContract : GoodIn wsX12_due wsX12_isContract := goodIn_r _ [19, 12, 13, 14, 10, 15, 73, 74, 75, 76, 77, 78, 79, 80, 81, 82, 83, 84, 85, 86, 87, 88, 89, 90, 91, 92, 93, 94, 95, 96, 97, 98, 99, 100, 101, 102, 103, 104, 105, 106, 107, 108, 109, 110, 111, 112, 113, 114, 115, 116, 117, 118, 119, 120, 121, 122, 123, 124, 125] (by decide +kernel) (by decide +kernel)
set_option maxRecDepth 20000 in
theorem gX12_due_X12_isContract : GoodIn wsX12_due (wsV RX12 461 RX12 yX12_isContract wsX12_isContract) := goodIn_app (goodIn_of _ (by decide +kernel)) ggX12_due_X12_isContract
set_option maxRecDepth 20000 in
theorem ggX12_due_X12_isHour : GoodIn wsX12_due wsX12_isHour := goodIn_r _ [22, 23, 13, 14, 10, 15] (by decide +kernel) (by decide +kernel)
set_option maxRecDepth 20000 in
theorem gX12_due_X12_isHour : GoodIn wsX12_due (va_wsS RX12 144 yX12_isHour wsX12_isHour) := goodIn_app (goodIn_of _ (by decide +kernel)) ggX12_due_X12_isHour
set_option maxRecDepth 20000 in
theorem ggX12_due_X12_in : GoodIn wsX12_due wsX12_in := goodIn_r _ [15] (by decide +kernel) (by decide +kernel)
set_option maxRecDepth 20000 in
theorem gX12_due_X12_in : GoodIn wsX12_due (va_wsS RX12 99 yX12_in wsX12_in) := goodIn_app (goodIn_of _ (by decide +kernel)) ggX12_due_X12_in
set_option maxRecDepth 20000 in
theorem ggX12_due_X12_landingAt : GoodIn wsX12_due wsX12_landingAt := goodIn_r _ [26] (by decide +kernel) (by decide +kernel)
set_option maxRecDepth 20000 in
theorem gX12_due_X12_landingAt : GoodIn wsX12_due (va_wsS RX12 242 yX12_landingAt wsX12_landingAt) := goodIn_app (goodIn_of _ (by decide +kernel)) ggX12_due_X12_landingAt
set_option maxRecDepth 20000 in
theorem ggX12_due_X12_contractAt : GoodIn wsX12_due wsX12_contractAt := goodIn_r _ [29] (by decide +kernel) (by decide +kernel)
set_option maxRecDepth 20000 in
theorem gX12_due_X12_contractAt : GoodIn wsX12_due (va_wsS RX12 468 yX12_contractAt wsX12_contractAt) := goodIn_app (goodIn_of _ (by decide +kernel)) ggX12_due_X12_contractAt
set_option maxRecDepth 20000 in
theorem ggX12_due_X12_setFor : GoodIn wsX12_due wsX12_setFor := goodIn_r _ [33, 12, 6, 34, 35, 36, 10, 37, 38, 39, 40, 41, 42, 43, 44, 45, 46, 47, 48, 13, 14, 15, 49, 50, 51, 52, 73, 74, 75, 76, 77, 78, 79, 80, 81, 82, 83, 84, 85, 86, 87, 88, 89, 90, 91, 92, 93, 94, 95, 96, 97, 98, 99, 100, 101, 102, 103, 104, 105, 106, 107, 108, 109, 110, 111, 112, 113, 114, 115, 116, 117, 118, 119, 120, 121, 122, 123, 124, 125] (by decide +kernel) (by decide +kernel)
set_option maxRecDepth 20000 in
theorem gX12_due_X12_setFor : GoodIn wsX12_due (wsV RX12 471 RX12 yX12_setFor wsX12_setFor) := goodIn_app (goodIn_of _ (by decide +kernel)) ggX12_due_X12_setFor
set_option maxRecDepth 20000 in
theorem ggX12_due_X12_judgeLanding : GoodIn wsX12_due wsX12_judgeLanding := goodIn_r _ [56, 4, 5, 12, 57, 58, 59, 60, 61, 10, 62, 63, 6, 64, 65, 66, 67, 68, 69, 70, 71, 72, 13, 14, 15, 73, 74, 75, 76, 77, 78, 79, 80, 81, 82, 83, 84, 85, 86, 87, 88, 89, 90, 91, 92, 93, 94, 95, 96, 97, 98, 99, 100, 101, 102, 103, 104, 105, 106, 107, 108, 109, 110, 111, 112, 113, 114, 115, 116, 117, 118, 119, 120, 121, 122, 123, 124, 125] (by decide +kernel) (by decide +kernel)
set_option maxRecDepth 20000 in
theorem gX12_due_X12_judgeLanding : GoodIn wsX12_due (wsV RX12 474 RX12 yX12_judgeLanding wsX12_judgeLanding) := goodIn_app (goodIn_of _ (by decide +kernel)) ggX12_due_X12_judgeLanding
theorem dX12_due_0 : decode cX12_due 0 = .ok (.aload_n 0, 1) := by decide +kernel
theorem dX12_due_1 : decode cX12_due 1 = .ok (.iconst 0, 1) := by decide +kernel
theorem dX12_due_2 : decode cX12_due 2 = .ok (.putfield 91, 3) := by decide +kernel
theorem dX12_due_5 : decode cX12_due 5 = .ok (.aload_n 0, 1) := by decide +kernel
theorem dX12_due_6 : decode cX12_due 6 = .ok (.iload_n 1, 1) := by decide +kernel
theorem dX12_due_7 : decode cX12_due 7 = .ok (.invokevirtual 237, 3) := by decide +kernel
theorem dX12_due_10 : decode cX12_due 10 = .ok (.ifCond .eq 31, 3) := by decide +kernel
theorem dX12_due_13 : decode cX12_due 13 = .ok (.aload_n 0, 1) := by decide +kernel
theorem dX12_due_14 : decode cX12_due 14 = .ok (.iload_n 2, 1) := by decide +kernel
theorem dX12_due_15 : decode cX12_due 15 = .ok (.invokevirtual 461, 3) := by decide +kernel
theorem dX12_due_18 : decode cX12_due 18 = .ok (.ifCond .eq 23, 3) := by decide +kernel
theorem dX12_due_21 : decode cX12_due 21 = .ok (.iload_n 3, 1) := by decide +kernel
theorem dX12_due_22 : decode cX12_due 22 = .ok (.invokestatic 144, 3) := by decide +kernel
theorem dX12_due_25 : decode cX12_due 25 = .ok (.ifCond .eq 16, 3) := by decide +kernel
theorem dX12_due_28 : decode cX12_due 28 = .ok (.iload 4, 2) := by decide +kernel
theorem dX12_due_30 : decode cX12_due 30 = .ok (.i2l, 1) := by decide +kernel
theorem dX12_due_31 : decode cX12_due 31 = .ok (.lconst 0, 1) := by decide +kernel
theorem dX12_due_32 : decode cX12_due 32 = .ok (.ldc2_w 464, 3) := by decide +kernel
theorem dX12_due_35 : decode cX12_due 35 = .ok (.invokestatic 99, 3) := by decide +kernel
theorem dX12_due_38 : decode cX12_due 38 = .ok (.ifCond .ne 7, 3) := by decide +kernel
theorem dX12_due_41 : decode cX12_due 41 = .ok (.ldc2_w 466, 3) := by decide +kernel
theorem dX12_due_44 : decode cX12_due 44 = .ok (.lreturn, 1) := by decide +kernel
theorem dX12_due_45 : decode cX12_due 45 = .ok (.iload_n 1, 1) := by decide +kernel
theorem dX12_due_46 : decode cX12_due 46 = .ok (.invokestatic 242, 3) := by decide +kernel
theorem dX12_due_49 : decode cX12_due 49 = .ok (.istore 5, 2) := by decide +kernel
theorem dX12_due_51 : decode cX12_due 51 = .ok (.iload_n 2, 1) := by decide +kernel
theorem dX12_due_52 : decode cX12_due 52 = .ok (.invokestatic 468, 3) := by decide +kernel
theorem dX12_due_55 : decode cX12_due 55 = .ok (.istore 6, 2) := by decide +kernel
theorem dX12_due_57 : decode cX12_due 57 = .ok (.aload_n 0, 1) := by decide +kernel
theorem dX12_due_58 : decode cX12_due 58 = .ok (.iload 5, 2) := by decide +kernel
theorem dX12_due_60 : decode cX12_due 60 = .ok (.iload 6, 2) := by decide +kernel
theorem dX12_due_62 : decode cX12_due 62 = .ok (.iload_n 3, 1) := by decide +kernel
theorem dX12_due_63 : decode cX12_due 63 = .ok (.invokevirtual 471, 3) := by decide +kernel
theorem dX12_due_66 : decode cX12_due 66 = .ok (.aload_n 0, 1) := by decide +kernel
theorem dX12_due_67 : decode cX12_due 67 = .ok (.iload 5, 2) := by decide +kernel
theorem dX12_due_69 : decode cX12_due 69 = .ok (.iload 6, 2) := by decide +kernel
theorem dX12_due_71 : decode cX12_due 71 = .ok (.invokevirtual 474, 3) := by decide +kernel
theorem dX12_due_74 : decode cX12_due 74 = .ok (.iload 4, 2) := by decide +kernel
theorem dX12_due_76 : decode cX12_due 76 = .ok (.ifCond .ne 15, 3) := by decide +kernel
theorem dX12_due_79 : decode cX12_due 79 = .ok (.aload_n 0, 1) := by decide +kernel
theorem dX12_due_80 : decode cX12_due 80 = .ok (.getfield 452, 3) := by decide +kernel
theorem dX12_due_83 : decode cX12_due 83 = .ok (.aload_n 0, 1) := by decide +kernel
theorem dX12_due_84 : decode cX12_due 84 = .ok (.getfield 455, 3) := by decide +kernel
theorem dX12_due_87 : decode cX12_due 87 = .ok (.lsub, 1) := by decide +kernel
theorem dX12_due_88 : decode cX12_due 88 = .ok (.goto 51, 3) := by decide +kernel
theorem dX12_due_91 : decode cX12_due 91 = .ok (.iload 4, 2) := by decide +kernel
theorem dX12_due_93 : decode cX12_due 93 = .ok (.iconst 1, 1) := by decide +kernel
theorem dX12_due_94 : decode cX12_due 94 = .ok (.if_icmp .ne 10, 3) := by decide +kernel
theorem dX12_due_97 : decode cX12_due 97 = .ok (.aload_n 0, 1) := by decide +kernel
theorem dX12_due_98 : decode cX12_due 98 = .ok (.getfield 452, 3) := by decide +kernel
theorem dX12_due_101 : decode cX12_due 101 = .ok (.goto 38, 3) := by decide +kernel
theorem dX12_due_104 : decode cX12_due 104 = .ok (.iload 4, 2) := by decide +kernel
theorem dX12_due_106 : decode cX12_due 106 = .ok (.iconst 2, 1) := by decide +kernel
theorem dX12_due_107 : decode cX12_due 107 = .ok (.if_icmp .ne 10, 3) := by decide +kernel
theorem dX12_due_110 : decode cX12_due 110 = .ok (.aload_n 0, 1) := by decide +kernel
theorem dX12_due_111 : decode cX12_due 111 = .ok (.getfield 455, 3) := by decide +kernel
theorem dX12_due_114 : decode cX12_due 114 = .ok (.goto 25, 3) := by decide +kernel
theorem dX12_due_117 : decode cX12_due 117 = .ok (.iload 4, 2) := by decide +kernel
theorem dX12_due_119 : decode cX12_due 119 = .ok (.iconst 3, 1) := by decide +kernel
theorem dX12_due_120 : decode cX12_due 120 = .ok (.if_icmp .ne 12, 3) := by decide +kernel
theorem dX12_due_123 : decode cX12_due 123 = .ok (.aload_n 0, 1) := by decide +kernel
theorem dX12_due_124 : decode cX12_due 124 = .ok (.getfield 49, 3) := by decide +kernel
theorem dX12_due_127 : decode cX12_due 127 = .ok (.iconst 4, 1) := by decide +kernel
theorem dX12_due_128 : decode cX12_due 128 = .ok (.laload, 1) := by decide +kernel
theorem dX12_due_129 : decode cX12_due 129 = .ok (.goto 10, 3) := by decide +kernel
theorem dX12_due_132 : decode cX12_due 132 = .ok (.aload_n 0, 1) := by decide +kernel
theorem dX12_due_133 : decode cX12_due 133 = .ok (.getfield 49, 3) := by decide +kernel
theorem dX12_due_136 : decode cX12_due 136 = .ok (.bipush 6, 2) := by decide +kernel
theorem dX12_due_138 : decode cX12_due 138 = .ok (.laload, 1) := by decide +kernel
theorem dX12_due_139 : decode cX12_due 139 = .ok (.lreturn, 1) := by decide +kernel
set_option maxRecDepth 20000 in
theorem ggX12_settle_X12_isLanding : GoodIn wsX12_settle wsX12_isLanding := goodIn_r _ [9, 2, 10, 11, 8, 12, 72, 73, 74, 75, 76, 77, 78, 79, 80, 81, 82, 83, 84, 85, 86, 87, 88, 89, 90, 91, 92, 93, 94, 95, 96, 97, 98, 99, 100, 101, 102, 103, 104, 105, 106, 107, 108, 109, 110, 111, 112, 113, 114, 115, 116, 117, 118, 119, 120, 121, 122, 123, 124] (by decide +kernel) (by decide +kernel)
set_option maxRecDepth 20000 in
theorem gX12_settle_X12_isLanding : GoodIn wsX12_settle (wsV RX12 237 RX12 yX12_isLanding wsX12_isLanding) := goodIn_app (goodIn_of _ (by decide +kernel)) ggX12_settle_X12_isLanding
set_option maxRecDepth 20000 in
theorem ggX12_settle_X12_isContract : GoodIn wsX12_settle wsX12_isContract := goodIn_r _ [16, 2, 10, 11, 8, 12, 72, 73, 74, 75, 76, 77, 78, 79, 80, 81, 82, 83, 84, 85, 86, 87, 88, 89, 90, 91, 92, 93, 94, 95, 96, 97, 98, 99, 100, 101, 102, 103, 104, 105, 106, 107, 108, 109, 110, 111, 112, 113, 114, 115, 116, 117, 118, 119, 120, 121, 122, 123, 124] (by decide +kernel) (by decide +kernel)
set_option maxRecDepth 20000 in
theorem gX12_settle_X12_isContract : GoodIn wsX12_settle (wsV RX12 461 RX12 yX12_isContract wsX12_isContract) := goodIn_app (goodIn_of _ (by decide +kernel)) ggX12_settle_X12_isContract
set_option maxRecDepth 20000 in
theorem ggX12_settle_X12_told : GoodIn wsX12_settle wsX12_told := goodIn_r _ [20, 21, 72, 73, 74, 75, 76, 77, 78, 79, 80, 81, 82, 83, 84, 85, 86, 87, 88, 89, 90, 91, 92, 93, 94, 95, 96, 97, 98, 99, 100, 101, 102, 103, 104, 105, 106, 107, 108, 109, 110, 111, 112, 113, 114, 115, 116, 117, 118, 119, 120, 121, 122, 123, 124] (by decide +kernel) (by decide +kernel)
set_option maxRecDepth 20000 in
theorem gX12_settle_X12_told : GoodIn wsX12_settle (wsV RX12 105 RX12 yX12_told wsX12_told) := goodIn_app (goodIn_of _ (by decide +kernel)) ggX12_settle_X12_told
set_option maxRecDepth 20000 in
theorem ggX12_settle_X12_landingAt : GoodIn wsX12_settle wsX12_landingAt := goodIn_r _ [24] (by decide +kernel) (by decide +kernel)
set_option maxRecDepth 20000 in
theorem gX12_settle_X12_landingAt : GoodIn wsX12_settle (va_wsS RX12 242 yX12_landingAt wsX12_landingAt) := goodIn_app (goodIn_of _ (by decide +kernel)) ggX12_settle_X12_landingAt
set_option maxRecDepth 20000 in
theorem ggX12_settle_X12_contractAt : GoodIn wsX12_settle wsX12_contractAt := goodIn_r _ [27] (by decide +kernel) (by decide +kernel)
set_option maxRecDepth 20000 in
theorem gX12_settle_X12_contractAt : GoodIn wsX12_settle (va_wsS RX12 468 yX12_contractAt wsX12_contractAt) := goodIn_app (goodIn_of _ (by decide +kernel)) ggX12_settle_X12_contractAt
set_option maxRecDepth 20000 in
theorem ggX12_settle_X12_setFor : GoodIn wsX12_settle wsX12_setFor := goodIn_r _ [31, 2, 32, 33, 34, 35, 8, 36, 37, 38, 39, 40, 41, 42, 43, 44, 45, 46, 47, 10, 11, 12, 48, 49, 50, 51, 72, 73, 74, 75, 76, 77, 78, 79, 80, 81, 82, 83, 84, 85, 86, 87, 88, 89, 90, 91, 92, 93, 94, 95, 96, 97, 98, 99, 100, 101, 102, 103, 104, 105, 106, 107, 108, 109, 110, 111, 112, 113, 114, 115, 116, 117, 118, 119, 120, 121, 122, 123, 124] (by decide +kernel) (by decide +kernel)
set_option maxRecDepth 20000 in
theorem gX12_settle_X12_setFor : GoodIn wsX12_settle (wsV RX12 471 RX12 yX12_setFor wsX12_setFor) := goodIn_app (goodIn_of _ (by decide +kernel)) ggX12_settle_X12_setFor
set_option maxRecDepth 20000 in
theorem ggX12_settle_X12_judgeLanding : GoodIn wsX12_settle wsX12_judgeLanding := goodIn_r _ [55, 3, 4, 2, 56, 57, 58, 59, 60, 8, 61, 62, 32, 63, 64, 65, 66, 67, 68, 69, 70, 71, 10, 11, 12, 72, 73, 74, 75, 76, 77, 78, 79, 80, 81, 82, 83, 84, 85, 86, 87, 88, 89, 90, 91, 92, 93, 94, 95, 96, 97, 98, 99, 100, 101, 102, 103, 104, 105, 106, 107, 108, 109, 110, 111, 112, 113, 114, 115, 116, 117, 118, 119, 120, 121, 122, 123, 124] (by decide +kernel) (by decide +kernel)
set_option maxRecDepth 20000 in
theorem gX12_settle_X12_judgeLanding : GoodIn wsX12_settle (wsV RX12 474 RX12 yX12_judgeLanding wsX12_judgeLanding) := goodIn_app (goodIn_of _ (by decide +kernel)) ggX12_settle_X12_judgeLanding
theorem dX12_settle_0 : decode cX12_settle 0 = .ok (.aload_n 0, 1) := by decide +kernel
theorem dX12_settle_1 : decode cX12_settle 1 = .ok (.iconst 0, 1) := by decide +kernel
theorem dX12_settle_2 : decode cX12_settle 2 = .ok (.putfield 91, 3) := by decide +kernel
theorem dX12_settle_5 : decode cX12_settle 5 = .ok (.aload_n 0, 1) := by decide +kernel
theorem dX12_settle_6 : decode cX12_settle 6 = .ok (.iload_n 1, 1) := by decide +kernel
theorem dX12_settle_7 : decode cX12_settle 7 = .ok (.invokevirtual 237, 3) := by decide +kernel
theorem dX12_settle_10 : decode cX12_settle 10 = .ok (.ifCond .eq 11, 3) := by decide +kernel
theorem dX12_settle_13 : decode cX12_settle 13 = .ok (.aload_n 0, 1) := by decide +kernel
theorem dX12_settle_14 : decode cX12_settle 14 = .ok (.iload_n 2, 1) := by decide +kernel
theorem dX12_settle_15 : decode cX12_settle 15 = .ok (.invokevirtual 461, 3) := by decide +kernel
theorem dX12_settle_18 : decode cX12_settle 18 = .ok (.ifCond .ne 10, 3) := by decide +kernel
theorem dX12_settle_21 : decode cX12_settle 21 = .ok (.aload_n 0, 1) := by decide +kernel
theorem dX12_settle_22 : decode cX12_settle 22 = .ok (.bipush (-2), 2) := by decide +kernel
theorem dX12_settle_24 : decode cX12_settle 24 = .ok (.invokevirtual 105, 3) := by decide +kernel
theorem dX12_settle_27 : decode cX12_settle 27 = .ok (.ireturn, 1) := by decide +kernel
theorem dX12_settle_28 : decode cX12_settle 28 = .ok (.iload_n 1, 1) := by decide +kernel
theorem dX12_settle_29 : decode cX12_settle 29 = .ok (.invokestatic 242, 3) := by decide +kernel
theorem dX12_settle_32 : decode cX12_settle 32 = .ok (.istore_n 3, 1) := by decide +kernel
theorem dX12_settle_33 : decode cX12_settle 33 = .ok (.aload_n 0, 1) := by decide +kernel
theorem dX12_settle_34 : decode cX12_settle 34 = .ok (.getfield 7, 3) := by decide +kernel
theorem dX12_settle_37 : decode cX12_settle 37 = .ok (.iload_n 3, 1) := by decide +kernel
theorem dX12_settle_38 : decode cX12_settle 38 = .ok (.bipush 12, 2) := by decide +kernel
theorem dX12_settle_40 : decode cX12_settle 40 = .ok (.iadd, 1) := by decide +kernel
theorem dX12_settle_41 : decode cX12_settle 41 = .ok (.iaload, 1) := by decide +kernel
theorem dX12_settle_42 : decode cX12_settle 42 = .ok (.iconst (-1), 1) := by decide +kernel
theorem dX12_settle_43 : decode cX12_settle 43 = .ok (.if_icmp .eq 10, 3) := by decide +kernel
theorem dX12_settle_46 : decode cX12_settle 46 = .ok (.aload_n 0, 1) := by decide +kernel
theorem dX12_settle_47 : decode cX12_settle 47 = .ok (.bipush (-4), 2) := by decide +kernel
theorem dX12_settle_49 : decode cX12_settle 49 = .ok (.invokevirtual 105, 3) := by decide +kernel
theorem dX12_settle_52 : decode cX12_settle 52 = .ok (.ireturn, 1) := by decide +kernel
theorem dX12_settle_53 : decode cX12_settle 53 = .ok (.aload_n 0, 1) := by decide +kernel
theorem dX12_settle_54 : decode cX12_settle 54 = .ok (.iload_n 3, 1) := by decide +kernel
theorem dX12_settle_55 : decode cX12_settle 55 = .ok (.iload_n 2, 1) := by decide +kernel
theorem dX12_settle_56 : decode cX12_settle 56 = .ok (.invokestatic 468, 3) := by decide +kernel
theorem dX12_settle_59 : decode cX12_settle 59 = .ok (.aload_n 0, 1) := by decide +kernel
theorem dX12_settle_60 : decode cX12_settle 60 = .ok (.getfield 7, 3) := by decide +kernel
theorem dX12_settle_63 : decode cX12_settle 63 = .ok (.bipush 11, 2) := by decide +kernel
theorem dX12_settle_65 : decode cX12_settle 65 = .ok (.iaload, 1) := by decide +kernel
theorem dX12_settle_66 : decode cX12_settle 66 = .ok (.invokevirtual 471, 3) := by decide +kernel
theorem dX12_settle_69 : decode cX12_settle 69 = .ok (.aload_n 0, 1) := by decide +kernel
theorem dX12_settle_70 : decode cX12_settle 70 = .ok (.iload_n 3, 1) := by decide +kernel
theorem dX12_settle_71 : decode cX12_settle 71 = .ok (.iload_n 2, 1) := by decide +kernel
theorem dX12_settle_72 : decode cX12_settle 72 = .ok (.invokestatic 468, 3) := by decide +kernel
theorem dX12_settle_75 : decode cX12_settle 75 = .ok (.invokevirtual 474, 3) := by decide +kernel
theorem dX12_settle_78 : decode cX12_settle 78 = .ok (.aload_n 0, 1) := by decide +kernel
theorem dX12_settle_79 : decode cX12_settle 79 = .ok (.getfield 452, 3) := by decide +kernel
theorem dX12_settle_82 : decode cX12_settle 82 = .ok (.aload_n 0, 1) := by decide +kernel
theorem dX12_settle_83 : decode cX12_settle 83 = .ok (.getfield 455, 3) := by decide +kernel
theorem dX12_settle_86 : decode cX12_settle 86 = .ok (.lsub, 1) := by decide +kernel
theorem dX12_settle_87 : decode cX12_settle 87 = .ok (.lstore 4, 2) := by decide +kernel
theorem dX12_settle_89 : decode cX12_settle 89 = .ok (.aload_n 0, 1) := by decide +kernel
theorem dX12_settle_90 : decode cX12_settle 90 = .ok (.getfield 7, 3) := by decide +kernel
theorem dX12_settle_93 : decode cX12_settle 93 = .ok (.iload_n 3, 1) := by decide +kernel
theorem dX12_settle_94 : decode cX12_settle 94 = .ok (.bipush 12, 2) := by decide +kernel
theorem dX12_settle_96 : decode cX12_settle 96 = .ok (.iadd, 1) := by decide +kernel
theorem dX12_settle_97 : decode cX12_settle 97 = .ok (.iload_n 2, 1) := by decide +kernel
theorem dX12_settle_98 : decode cX12_settle 98 = .ok (.iastore, 1) := by decide +kernel
theorem dX12_settle_99 : decode cX12_settle 99 = .ok (.aload_n 0, 1) := by decide +kernel
theorem dX12_settle_100 : decode cX12_settle 100 = .ok (.getfield 7, 3) := by decide +kernel
theorem dX12_settle_103 : decode cX12_settle 103 = .ok (.iload_n 3, 1) := by decide +kernel
theorem dX12_settle_104 : decode cX12_settle 104 = .ok (.bipush 13, 2) := by decide +kernel
theorem dX12_settle_106 : decode cX12_settle 106 = .ok (.iadd, 1) := by decide +kernel
theorem dX12_settle_107 : decode cX12_settle 107 = .ok (.aload_n 0, 1) := by decide +kernel
theorem dX12_settle_108 : decode cX12_settle 108 = .ok (.getfield 7, 3) := by decide +kernel
theorem dX12_settle_111 : decode cX12_settle 111 = .ok (.bipush 11, 2) := by decide +kernel
theorem dX12_settle_113 : decode cX12_settle 113 = .ok (.iaload, 1) := by decide +kernel
theorem dX12_settle_114 : decode cX12_settle 114 = .ok (.iastore, 1) := by decide +kernel
theorem dX12_settle_115 : decode cX12_settle 115 = .ok (.aload_n 0, 1) := by decide +kernel
theorem dX12_settle_116 : decode cX12_settle 116 = .ok (.getfield 7, 3) := by decide +kernel
theorem dX12_settle_119 : decode cX12_settle 119 = .ok (.iload_n 3, 1) := by decide +kernel
theorem dX12_settle_120 : decode cX12_settle 120 = .ok (.bipush 14, 2) := by decide +kernel
theorem dX12_settle_122 : decode cX12_settle 122 = .ok (.iadd, 1) := by decide +kernel
theorem dX12_settle_123 : decode cX12_settle 123 = .ok (.lload 4, 2) := by decide +kernel
theorem dX12_settle_125 : decode cX12_settle 125 = .ok (.bipush 32, 2) := by decide +kernel
theorem dX12_settle_127 : decode cX12_settle 127 = .ok (.lshr, 1) := by decide +kernel
theorem dX12_settle_128 : decode cX12_settle 128 = .ok (.l2i, 1) := by decide +kernel
theorem dX12_settle_129 : decode cX12_settle 129 = .ok (.iastore, 1) := by decide +kernel
theorem dX12_settle_130 : decode cX12_settle 130 = .ok (.aload_n 0, 1) := by decide +kernel
theorem dX12_settle_131 : decode cX12_settle 131 = .ok (.getfield 7, 3) := by decide +kernel
theorem dX12_settle_134 : decode cX12_settle 134 = .ok (.iload_n 3, 1) := by decide +kernel
theorem dX12_settle_135 : decode cX12_settle 135 = .ok (.bipush 15, 2) := by decide +kernel
theorem dX12_settle_137 : decode cX12_settle 137 = .ok (.iadd, 1) := by decide +kernel
theorem dX12_settle_138 : decode cX12_settle 138 = .ok (.lload 4, 2) := by decide +kernel
theorem dX12_settle_140 : decode cX12_settle 140 = .ok (.l2i, 1) := by decide +kernel
theorem dX12_settle_141 : decode cX12_settle 141 = .ok (.iastore, 1) := by decide +kernel
theorem dX12_settle_142 : decode cX12_settle 142 = .ok (.aload_n 0, 1) := by decide +kernel
theorem dX12_settle_143 : decode cX12_settle 143 = .ok (.iconst 0, 1) := by decide +kernel
theorem dX12_settle_144 : decode cX12_settle 144 = .ok (.invokevirtual 105, 3) := by decide +kernel
theorem dX12_settle_147 : decode cX12_settle 147 = .ok (.ireturn, 1) := by decide +kernel
theorem dX12_hasTable_0 : decode cX12_hasTable 0 = .ok (.aload_n 0, 1) := by decide +kernel
theorem dX12_hasTable_1 : decode cX12_hasTable 1 = .ok (.getfield 7, 3) := by decide +kernel
theorem dX12_hasTable_4 : decode cX12_hasTable 4 = .ok (.iload_n 1, 1) := by decide +kernel
theorem dX12_hasTable_5 : decode cX12_hasTable 5 = .ok (.bipush 32, 2) := by decide +kernel
theorem dX12_hasTable_7 : decode cX12_hasTable 7 = .ok (.iadd, 1) := by decide +kernel
theorem dX12_hasTable_8 : decode cX12_hasTable 8 = .ok (.iaload, 1) := by decide +kernel
theorem dX12_hasTable_9 : decode cX12_hasTable 9 = .ok (.iconst 1, 1) := by decide +kernel
theorem dX12_hasTable_10 : decode cX12_hasTable 10 = .ok (.if_icmp .ne 7, 3) := by decide +kernel
theorem dX12_hasTable_13 : decode cX12_hasTable 13 = .ok (.iconst 1, 1) := by decide +kernel
theorem dX12_hasTable_14 : decode cX12_hasTable 14 = .ok (.goto 4, 3) := by decide +kernel
theorem dX12_hasTable_17 : decode cX12_hasTable 17 = .ok (.iconst 0, 1) := by decide +kernel
theorem dX12_hasTable_18 : decode cX12_hasTable 18 = .ok (.istore_n 2, 1) := by decide +kernel
theorem dX12_hasTable_19 : decode cX12_hasTable 19 = .ok (.iconst 1, 1) := by decide +kernel
theorem dX12_hasTable_20 : decode cX12_hasTable 20 = .ok (.istore_n 3, 1) := by decide +kernel
theorem dX12_hasTable_21 : decode cX12_hasTable 21 = .ok (.iload_n 3, 1) := by decide +kernel
theorem dX12_hasTable_22 : decode cX12_hasTable 22 = .ok (.iconst 4, 1) := by decide +kernel
theorem dX12_hasTable_23 : decode cX12_hasTable 23 = .ok (.if_icmp .ge 82, 3) := by decide +kernel
theorem dX12_hasTable_26 : decode cX12_hasTable 26 = .ok (.iload_n 1, 1) := by decide +kernel
theorem dX12_hasTable_27 : decode cX12_hasTable 27 = .ok (.bipush 32, 2) := by decide +kernel
theorem dX12_hasTable_29 : decode cX12_hasTable 29 = .ok (.iadd, 1) := by decide +kernel
theorem dX12_hasTable_30 : decode cX12_hasTable 30 = .ok (.iconst 3, 1) := by decide +kernel
theorem dX12_hasTable_31 : decode cX12_hasTable 31 = .ok (.iload_n 3, 1) := by decide +kernel
theorem dX12_hasTable_32 : decode cX12_hasTable 32 = .ok (.imul, 1) := by decide +kernel
theorem dX12_hasTable_33 : decode cX12_hasTable 33 = .ok (.iadd, 1) := by decide +kernel
theorem dX12_hasTable_34 : decode cX12_hasTable 34 = .ok (.istore 4, 2) := by decide +kernel
theorem dX12_hasTable_36 : decode cX12_hasTable 36 = .ok (.iload_n 2, 1) := by decide +kernel
theorem dX12_hasTable_37 : decode cX12_hasTable 37 = .ok (.ifCond .eq 60, 3) := by decide +kernel
theorem dX12_hasTable_40 : decode cX12_hasTable 40 = .ok (.aload_n 0, 1) := by decide +kernel
theorem dX12_hasTable_41 : decode cX12_hasTable 41 = .ok (.getfield 7, 3) := by decide +kernel
theorem dX12_hasTable_44 : decode cX12_hasTable 44 = .ok (.iload 4, 2) := by decide +kernel
theorem dX12_hasTable_46 : decode cX12_hasTable 46 = .ok (.iaload, 1) := by decide +kernel
theorem dX12_hasTable_47 : decode cX12_hasTable 47 = .ok (.iconst 1, 1) := by decide +kernel
theorem dX12_hasTable_48 : decode cX12_hasTable 48 = .ok (.if_icmp .ne 49, 3) := by decide +kernel
theorem dX12_hasTable_51 : decode cX12_hasTable 51 = .ok (.aload_n 0, 1) := by decide +kernel
theorem dX12_hasTable_52 : decode cX12_hasTable 52 = .ok (.getfield 7, 3) := by decide +kernel
theorem dX12_hasTable_55 : decode cX12_hasTable 55 = .ok (.iload 4, 2) := by decide +kernel
theorem dX12_hasTable_57 : decode cX12_hasTable 57 = .ok (.iconst 1, 1) := by decide +kernel
theorem dX12_hasTable_58 : decode cX12_hasTable 58 = .ok (.iadd, 1) := by decide +kernel
theorem dX12_hasTable_59 : decode cX12_hasTable 59 = .ok (.iaload, 1) := by decide +kernel
theorem dX12_hasTable_60 : decode cX12_hasTable 60 = .ok (.aload_n 0, 1) := by decide +kernel
theorem dX12_hasTable_61 : decode cX12_hasTable 61 = .ok (.getfield 7, 3) := by decide +kernel
theorem dX12_hasTable_64 : decode cX12_hasTable 64 = .ok (.iload 4, 2) := by decide +kernel
theorem dX12_hasTable_66 : decode cX12_hasTable 66 = .ok (.iconst 2, 1) := by decide +kernel
theorem dX12_hasTable_67 : decode cX12_hasTable 67 = .ok (.isub, 1) := by decide +kernel
theorem dX12_hasTable_68 : decode cX12_hasTable 68 = .ok (.iaload, 1) := by decide +kernel
theorem dX12_hasTable_69 : decode cX12_hasTable 69 = .ok (.if_icmp .le 28, 3) := by decide +kernel
theorem dX12_hasTable_72 : decode cX12_hasTable 72 = .ok (.aload_n 0, 1) := by decide +kernel
theorem dX12_hasTable_73 : decode cX12_hasTable 73 = .ok (.getfield 7, 3) := by decide +kernel
theorem dX12_hasTable_76 : decode cX12_hasTable 76 = .ok (.iload 4, 2) := by decide +kernel
theorem dX12_hasTable_78 : decode cX12_hasTable 78 = .ok (.iconst 2, 1) := by decide +kernel
theorem dX12_hasTable_79 : decode cX12_hasTable 79 = .ok (.iadd, 1) := by decide +kernel
theorem dX12_hasTable_80 : decode cX12_hasTable 80 = .ok (.iaload, 1) := by decide +kernel
theorem dX12_hasTable_81 : decode cX12_hasTable 81 = .ok (.aload_n 0, 1) := by decide +kernel
theorem dX12_hasTable_82 : decode cX12_hasTable 82 = .ok (.getfield 7, 3) := by decide +kernel
theorem dX12_hasTable_85 : decode cX12_hasTable 85 = .ok (.iload 4, 2) := by decide +kernel
theorem dX12_hasTable_87 : decode cX12_hasTable 87 = .ok (.iconst 1, 1) := by decide +kernel
theorem dX12_hasTable_88 : decode cX12_hasTable 88 = .ok (.isub, 1) := by decide +kernel
theorem dX12_hasTable_89 : decode cX12_hasTable 89 = .ok (.iaload, 1) := by decide +kernel
theorem dX12_hasTable_90 : decode cX12_hasTable 90 = .ok (.if_icmp .lt 7, 3) := by decide +kernel
theorem dX12_hasTable_93 : decode cX12_hasTable 93 = .ok (.iconst 1, 1) := by decide +kernel
theorem dX12_hasTable_94 : decode cX12_hasTable 94 = .ok (.goto 4, 3) := by decide +kernel
theorem dX12_hasTable_97 : decode cX12_hasTable 97 = .ok (.iconst 0, 1) := by decide +kernel
theorem dX12_hasTable_98 : decode cX12_hasTable 98 = .ok (.istore_n 2, 1) := by decide +kernel
theorem dX12_hasTable_99 : decode cX12_hasTable 99 = .ok (.iinc 3 1, 3) := by decide +kernel
theorem dX12_hasTable_102 : decode cX12_hasTable 102 = .ok (.goto (-81), 3) := by decide +kernel
theorem dX12_hasTable_105 : decode cX12_hasTable 105 = .ok (.iload_n 2, 1) := by decide +kernel
theorem dX12_hasTable_106 : decode cX12_hasTable 106 = .ok (.ireturn, 1) := by decide +kernel
theorem dX12_tonsBy_0 : decode cX12_tonsBy 0 = .ok (.iload_n 1, 1) := by decide +kernel
theorem dX12_tonsBy_1 : decode cX12_tonsBy 1 = .ok (.bipush 32, 2) := by decide +kernel
theorem dX12_tonsBy_3 : decode cX12_tonsBy 3 = .ok (.iadd, 1) := by decide +kernel
theorem dX12_tonsBy_4 : decode cX12_tonsBy 4 = .ok (.istore_n 3, 1) := by decide +kernel
theorem dX12_tonsBy_5 : decode cX12_tonsBy 5 = .ok (.iload_n 2, 1) := by decide +kernel
theorem dX12_tonsBy_6 : decode cX12_tonsBy 6 = .ok (.aload_n 0, 1) := by decide +kernel
theorem dX12_tonsBy_7 : decode cX12_tonsBy 7 = .ok (.getfield 7, 3) := by decide +kernel
theorem dX12_tonsBy_10 : decode cX12_tonsBy 10 = .ok (.iload_n 3, 1) := by decide +kernel
theorem dX12_tonsBy_11 : decode cX12_tonsBy 11 = .ok (.iconst 1, 1) := by decide +kernel
theorem dX12_tonsBy_12 : decode cX12_tonsBy 12 = .ok (.iadd, 1) := by decide +kernel
theorem dX12_tonsBy_13 : decode cX12_tonsBy 13 = .ok (.iaload, 1) := by decide +kernel
theorem dX12_tonsBy_14 : decode cX12_tonsBy 14 = .ok (.if_icmp .gt 13, 3) := by decide +kernel
theorem dX12_tonsBy_17 : decode cX12_tonsBy 17 = .ok (.aload_n 0, 1) := by decide +kernel
theorem dX12_tonsBy_18 : decode cX12_tonsBy 18 = .ok (.getfield 7, 3) := by decide +kernel
theorem dX12_tonsBy_21 : decode cX12_tonsBy 21 = .ok (.iload_n 3, 1) := by decide +kernel
theorem dX12_tonsBy_22 : decode cX12_tonsBy 22 = .ok (.iconst 2, 1) := by decide +kernel
theorem dX12_tonsBy_23 : decode cX12_tonsBy 23 = .ok (.iadd, 1) := by decide +kernel
theorem dX12_tonsBy_24 : decode cX12_tonsBy 24 = .ok (.iaload, 1) := by decide +kernel
theorem dX12_tonsBy_25 : decode cX12_tonsBy 25 = .ok (.i2l, 1) := by decide +kernel
theorem dX12_tonsBy_26 : decode cX12_tonsBy 26 = .ok (.lreturn, 1) := by decide +kernel
theorem dX12_tonsBy_27 : decode cX12_tonsBy 27 = .ok (.iconst 0, 1) := by decide +kernel
theorem dX12_tonsBy_28 : decode cX12_tonsBy 28 = .ok (.istore 4, 2) := by decide +kernel
theorem dX12_tonsBy_30 : decode cX12_tonsBy 30 = .ok (.iload 4, 2) := by decide +kernel
theorem dX12_tonsBy_32 : decode cX12_tonsBy 32 = .ok (.iconst 3, 1) := by decide +kernel
theorem dX12_tonsBy_33 : decode cX12_tonsBy 33 = .ok (.if_icmp .ge 102, 3) := by decide +kernel
theorem dX12_tonsBy_36 : decode cX12_tonsBy 36 = .ok (.iload_n 3, 1) := by decide +kernel
theorem dX12_tonsBy_37 : decode cX12_tonsBy 37 = .ok (.iconst 3, 1) := by decide +kernel
theorem dX12_tonsBy_38 : decode cX12_tonsBy 38 = .ok (.iload 4, 2) := by decide +kernel
theorem dX12_tonsBy_40 : decode cX12_tonsBy 40 = .ok (.imul, 1) := by decide +kernel
theorem dX12_tonsBy_41 : decode cX12_tonsBy 41 = .ok (.iadd, 1) := by decide +kernel
theorem dX12_tonsBy_42 : decode cX12_tonsBy 42 = .ok (.istore 5, 2) := by decide +kernel
theorem dX12_tonsBy_44 : decode cX12_tonsBy 44 = .ok (.iload 5, 2) := by decide +kernel
theorem dX12_tonsBy_46 : decode cX12_tonsBy 46 = .ok (.iconst 3, 1) := by decide +kernel
theorem dX12_tonsBy_47 : decode cX12_tonsBy 47 = .ok (.iadd, 1) := by decide +kernel
theorem dX12_tonsBy_48 : decode cX12_tonsBy 48 = .ok (.istore 6, 2) := by decide +kernel
theorem dX12_tonsBy_50 : decode cX12_tonsBy 50 = .ok (.iload_n 2, 1) := by decide +kernel
theorem dX12_tonsBy_51 : decode cX12_tonsBy 51 = .ok (.aload_n 0, 1) := by decide +kernel
theorem dX12_tonsBy_52 : decode cX12_tonsBy 52 = .ok (.getfield 7, 3) := by decide +kernel
theorem dX12_tonsBy_55 : decode cX12_tonsBy 55 = .ok (.iload 6, 2) := by decide +kernel
theorem dX12_tonsBy_57 : decode cX12_tonsBy 57 = .ok (.iconst 1, 1) := by decide +kernel
theorem dX12_tonsBy_58 : decode cX12_tonsBy 58 = .ok (.iadd, 1) := by decide +kernel
theorem dX12_tonsBy_59 : decode cX12_tonsBy 59 = .ok (.iaload, 1) := by decide +kernel
theorem dX12_tonsBy_60 : decode cX12_tonsBy 60 = .ok (.if_icmp .gt 69, 3) := by decide +kernel
theorem dX12_tonsBy_63 : decode cX12_tonsBy 63 = .ok (.aload_n 0, 1) := by decide +kernel
theorem dX12_tonsBy_64 : decode cX12_tonsBy 64 = .ok (.getfield 7, 3) := by decide +kernel
theorem dX12_tonsBy_67 : decode cX12_tonsBy 67 = .ok (.iload 5, 2) := by decide +kernel
theorem dX12_tonsBy_69 : decode cX12_tonsBy 69 = .ok (.iconst 2, 1) := by decide +kernel
theorem dX12_tonsBy_70 : decode cX12_tonsBy 70 = .ok (.iadd, 1) := by decide +kernel
theorem dX12_tonsBy_71 : decode cX12_tonsBy 71 = .ok (.iaload, 1) := by decide +kernel
theorem dX12_tonsBy_72 : decode cX12_tonsBy 72 = .ok (.i2l, 1) := by decide +kernel
theorem dX12_tonsBy_73 : decode cX12_tonsBy 73 = .ok (.aload_n 0, 1) := by decide +kernel
theorem dX12_tonsBy_74 : decode cX12_tonsBy 74 = .ok (.getfield 7, 3) := by decide +kernel
theorem dX12_tonsBy_77 : decode cX12_tonsBy 77 = .ok (.iload 6, 2) := by decide +kernel
theorem dX12_tonsBy_79 : decode cX12_tonsBy 79 = .ok (.iconst 2, 1) := by decide +kernel
theorem dX12_tonsBy_80 : decode cX12_tonsBy 80 = .ok (.iadd, 1) := by decide +kernel
theorem dX12_tonsBy_81 : decode cX12_tonsBy 81 = .ok (.iaload, 1) := by decide +kernel
theorem dX12_tonsBy_82 : decode cX12_tonsBy 82 = .ok (.aload_n 0, 1) := by decide +kernel
theorem dX12_tonsBy_83 : decode cX12_tonsBy 83 = .ok (.getfield 7, 3) := by decide +kernel
theorem dX12_tonsBy_86 : decode cX12_tonsBy 86 = .ok (.iload 5, 2) := by decide +kernel
theorem dX12_tonsBy_88 : decode cX12_tonsBy 88 = .ok (.iconst 2, 1) := by decide +kernel
theorem dX12_tonsBy_89 : decode cX12_tonsBy 89 = .ok (.iadd, 1) := by decide +kernel
theorem dX12_tonsBy_90 : decode cX12_tonsBy 90 = .ok (.iaload, 1) := by decide +kernel
theorem dX12_tonsBy_91 : decode cX12_tonsBy 91 = .ok (.isub, 1) := by decide +kernel
theorem dX12_tonsBy_92 : decode cX12_tonsBy 92 = .ok (.i2l, 1) := by decide +kernel
theorem dX12_tonsBy_93 : decode cX12_tonsBy 93 = .ok (.iload_n 2, 1) := by decide +kernel
theorem dX12_tonsBy_94 : decode cX12_tonsBy 94 = .ok (.aload_n 0, 1) := by decide +kernel
theorem dX12_tonsBy_95 : decode cX12_tonsBy 95 = .ok (.getfield 7, 3) := by decide +kernel
theorem dX12_tonsBy_98 : decode cX12_tonsBy 98 = .ok (.iload 5, 2) := by decide +kernel
theorem dX12_tonsBy_100 : decode cX12_tonsBy 100 = .ok (.iconst 1, 1) := by decide +kernel
theorem dX12_tonsBy_101 : decode cX12_tonsBy 101 = .ok (.iadd, 1) := by decide +kernel
theorem dX12_tonsBy_102 : decode cX12_tonsBy 102 = .ok (.iaload, 1) := by decide +kernel
theorem dX12_tonsBy_103 : decode cX12_tonsBy 103 = .ok (.isub, 1) := by decide +kernel
theorem dX12_tonsBy_104 : decode cX12_tonsBy 104 = .ok (.i2l, 1) := by decide +kernel
theorem dX12_tonsBy_105 : decode cX12_tonsBy 105 = .ok (.lmul, 1) := by decide +kernel
theorem dX12_tonsBy_106 : decode cX12_tonsBy 106 = .ok (.aload_n 0, 1) := by decide +kernel
theorem dX12_tonsBy_107 : decode cX12_tonsBy 107 = .ok (.getfield 7, 3) := by decide +kernel
theorem dX12_tonsBy_110 : decode cX12_tonsBy 110 = .ok (.iload 6, 2) := by decide +kernel
theorem dX12_tonsBy_112 : decode cX12_tonsBy 112 = .ok (.iconst 1, 1) := by decide +kernel
theorem dX12_tonsBy_113 : decode cX12_tonsBy 113 = .ok (.iadd, 1) := by decide +kernel
theorem dX12_tonsBy_114 : decode cX12_tonsBy 114 = .ok (.iaload, 1) := by decide +kernel
theorem dX12_tonsBy_115 : decode cX12_tonsBy 115 = .ok (.aload_n 0, 1) := by decide +kernel
theorem dX12_tonsBy_116 : decode cX12_tonsBy 116 = .ok (.getfield 7, 3) := by decide +kernel
theorem dX12_tonsBy_119 : decode cX12_tonsBy 119 = .ok (.iload 5, 2) := by decide +kernel
theorem dX12_tonsBy_121 : decode cX12_tonsBy 121 = .ok (.iconst 1, 1) := by decide +kernel
theorem dX12_tonsBy_122 : decode cX12_tonsBy 122 = .ok (.iadd, 1) := by decide +kernel
theorem dX12_tonsBy_123 : decode cX12_tonsBy 123 = .ok (.iaload, 1) := by decide +kernel
theorem dX12_tonsBy_124 : decode cX12_tonsBy 124 = .ok (.isub, 1) := by decide +kernel
theorem dX12_tonsBy_125 : decode cX12_tonsBy 125 = .ok (.i2l, 1) := by decide +kernel
theorem dX12_tonsBy_126 : decode cX12_tonsBy 126 = .ok (.ldiv, 1) := by decide +kernel
theorem dX12_tonsBy_127 : decode cX12_tonsBy 127 = .ok (.ladd, 1) := by decide +kernel
theorem dX12_tonsBy_128 : decode cX12_tonsBy 128 = .ok (.lreturn, 1) := by decide +kernel
theorem dX12_tonsBy_129 : decode cX12_tonsBy 129 = .ok (.iinc 4 1, 3) := by decide +kernel
theorem dX12_tonsBy_132 : decode cX12_tonsBy 132 = .ok (.goto (-102), 3) := by decide +kernel
theorem dX12_tonsBy_135 : decode cX12_tonsBy 135 = .ok (.aload_n 0, 1) := by decide +kernel
theorem dX12_tonsBy_136 : decode cX12_tonsBy 136 = .ok (.getfield 7, 3) := by decide +kernel
theorem dX12_tonsBy_139 : decode cX12_tonsBy 139 = .ok (.iload_n 3, 1) := by decide +kernel
theorem dX12_tonsBy_140 : decode cX12_tonsBy 140 = .ok (.bipush 11, 2) := by decide +kernel
theorem dX12_tonsBy_142 : decode cX12_tonsBy 142 = .ok (.iadd, 1) := by decide +kernel
theorem dX12_tonsBy_143 : decode cX12_tonsBy 143 = .ok (.iaload, 1) := by decide +kernel
theorem dX12_tonsBy_144 : decode cX12_tonsBy 144 = .ok (.i2l, 1) := by decide +kernel
theorem dX12_tonsBy_145 : decode cX12_tonsBy 145 = .ok (.lreturn, 1) := by decide +kernel
set_option maxRecDepth 20000 in
theorem ggX12_gaugedBy_X12_landingAt : GoodIn wsX12_gaugedBy wsX12_landingAt := goodIn_r _ [6] (by decide +kernel) (by decide +kernel)
set_option maxRecDepth 20000 in
theorem gX12_gaugedBy_X12_landingAt : GoodIn wsX12_gaugedBy (va_wsS RX12 242 yX12_landingAt wsX12_landingAt) := goodIn_app (goodIn_of _ (by decide +kernel)) ggX12_gaugedBy_X12_landingAt
set_option maxRecDepth 20000 in
theorem ggX12_gaugedBy_X12_shipAt : GoodIn wsX12_gaugedBy wsX12_shipAt := goodIn_r _ [9] (by decide +kernel) (by decide +kernel)
set_option maxRecDepth 20000 in
theorem gX12_gaugedBy_X12_shipAt : GoodIn wsX12_gaugedBy (va_wsS RX12 132 yX12_shipAt wsX12_shipAt) := goodIn_app (goodIn_of _ (by decide +kernel)) ggX12_gaugedBy_X12_shipAt
set_option maxRecDepth 20000 in
theorem ggX12_gaugedBy_X12_tonsBy : GoodIn wsX12_gaugedBy wsX12_tonsBy := goodIn_r _ [13, 1, 18, 19, 20, 21, 22, 23, 24, 25, 26, 27, 28, 29, 30, 31, 32, 33, 34, 35, 36, 37, 38, 39, 40, 41, 42, 43, 44, 45, 46, 47, 48, 49, 50, 51, 52, 53, 54, 55, 56, 57, 58, 59, 60, 61, 62, 63, 64, 65, 66, 67, 68, 69, 70] (by decide +kernel) (by decide +kernel)
set_option maxRecDepth 20000 in
theorem gX12_gaugedBy_X12_tonsBy : GoodIn wsX12_gaugedBy (wsV RX12 489 RX12 yX12_tonsBy wsX12_tonsBy) := goodIn_app (goodIn_of _ (by decide +kernel)) ggX12_gaugedBy_X12_tonsBy
set_option maxRecDepth 20000 in
theorem ggX12_gaugedBy_X12_hasTable : GoodIn wsX12_gaugedBy wsX12_hasTable := goodIn_r _ [17, 1, 18, 19, 20, 21, 22, 23, 24, 25, 26, 27, 28, 29, 30, 31, 32, 33, 34, 35, 36, 37, 38, 39, 40, 41, 42, 43, 44, 45, 46, 47, 48, 49, 50, 51, 52, 53, 54, 55, 56, 57, 58, 59, 60, 61, 62, 63, 64, 65, 66, 67, 68, 69, 70] (by decide +kernel) (by decide +kernel)
set_option maxRecDepth 20000 in
theorem gX12_gaugedBy_X12_hasTable : GoodIn wsX12_gaugedBy (wsV RX12 493 RX12 yX12_hasTable wsX12_hasTable) := goodIn_app (goodIn_of _ (by decide +kernel)) ggX12_gaugedBy_X12_hasTable
theorem dX12_gaugedBy_0 : decode cX12_gaugedBy 0 = .ok (.aload_n 0, 1) := by decide +kernel
theorem dX12_gaugedBy_1 : decode cX12_gaugedBy 1 = .ok (.getfield 7, 3) := by decide +kernel
theorem dX12_gaugedBy_4 : decode cX12_gaugedBy 4 = .ok (.iload_n 1, 1) := by decide +kernel
theorem dX12_gaugedBy_5 : decode cX12_gaugedBy 5 = .ok (.invokestatic 242, 3) := by decide +kernel
theorem dX12_gaugedBy_8 : decode cX12_gaugedBy 8 = .ok (.iaload, 1) := by decide +kernel
theorem dX12_gaugedBy_9 : decode cX12_gaugedBy 9 = .ok (.invokestatic 132, 3) := by decide +kernel
theorem dX12_gaugedBy_12 : decode cX12_gaugedBy 12 = .ok (.istore 4, 2) := by decide +kernel
theorem dX12_gaugedBy_14 : decode cX12_gaugedBy 14 = .ok (.ldc2_w 466, 3) := by decide +kernel
theorem dX12_gaugedBy_17 : decode cX12_gaugedBy 17 = .ok (.lstore 5, 2) := by decide +kernel
theorem dX12_gaugedBy_19 : decode cX12_gaugedBy 19 = .ok (.iconst 0, 1) := by decide +kernel
theorem dX12_gaugedBy_20 : decode cX12_gaugedBy 20 = .ok (.istore 7, 2) := by decide +kernel
theorem dX12_gaugedBy_22 : decode cX12_gaugedBy 22 = .ok (.iload 7, 2) := by decide +kernel
theorem dX12_gaugedBy_24 : decode cX12_gaugedBy 24 = .ok (.aload_n 0, 1) := by decide +kernel
theorem dX12_gaugedBy_25 : decode cX12_gaugedBy 25 = .ok (.getfield 7, 3) := by decide +kernel
theorem dX12_gaugedBy_28 : decode cX12_gaugedBy 28 = .ok (.bipush 9, 2) := by decide +kernel
theorem dX12_gaugedBy_30 : decode cX12_gaugedBy 30 = .ok (.iaload, 1) := by decide +kernel
theorem dX12_gaugedBy_31 : decode cX12_gaugedBy 31 = .ok (.if_icmp .ge 94, 3) := by decide +kernel
theorem dX12_gaugedBy_34 : decode cX12_gaugedBy 34 = .ok (.sipush 12619, 3) := by decide +kernel
theorem dX12_gaugedBy_37 : decode cX12_gaugedBy 37 = .ok (.iconst 5, 1) := by decide +kernel
theorem dX12_gaugedBy_38 : decode cX12_gaugedBy 38 = .ok (.iload 7, 2) := by decide +kernel
theorem dX12_gaugedBy_40 : decode cX12_gaugedBy 40 = .ok (.imul, 1) := by decide +kernel
theorem dX12_gaugedBy_41 : decode cX12_gaugedBy 41 = .ok (.iadd, 1) := by decide +kernel
theorem dX12_gaugedBy_42 : decode cX12_gaugedBy 42 = .ok (.istore 8, 2) := by decide +kernel
theorem dX12_gaugedBy_44 : decode cX12_gaugedBy 44 = .ok (.aload_n 0, 1) := by decide +kernel
theorem dX12_gaugedBy_45 : decode cX12_gaugedBy 45 = .ok (.getfield 7, 3) := by decide +kernel
theorem dX12_gaugedBy_48 : decode cX12_gaugedBy 48 = .ok (.iload 8, 2) := by decide +kernel
theorem dX12_gaugedBy_50 : decode cX12_gaugedBy 50 = .ok (.iaload, 1) := by decide +kernel
theorem dX12_gaugedBy_51 : decode cX12_gaugedBy 51 = .ok (.iload_n 1, 1) := by decide +kernel
theorem dX12_gaugedBy_52 : decode cX12_gaugedBy 52 = .ok (.if_icmp .ne 67, 3) := by decide +kernel
theorem dX12_gaugedBy_55 : decode cX12_gaugedBy 55 = .ok (.aload_n 0, 1) := by decide +kernel
theorem dX12_gaugedBy_56 : decode cX12_gaugedBy 56 = .ok (.getfield 7, 3) := by decide +kernel
theorem dX12_gaugedBy_59 : decode cX12_gaugedBy 59 = .ok (.iload 8, 2) := by decide +kernel
theorem dX12_gaugedBy_61 : decode cX12_gaugedBy 61 = .ok (.iconst 1, 1) := by decide +kernel
theorem dX12_gaugedBy_62 : decode cX12_gaugedBy 62 = .ok (.iadd, 1) := by decide +kernel
theorem dX12_gaugedBy_63 : decode cX12_gaugedBy 63 = .ok (.iaload, 1) := by decide +kernel
theorem dX12_gaugedBy_64 : decode cX12_gaugedBy 64 = .ok (.iload_n 2, 1) := by decide +kernel
theorem dX12_gaugedBy_65 : decode cX12_gaugedBy 65 = .ok (.if_icmp .ne 54, 3) := by decide +kernel
theorem dX12_gaugedBy_68 : decode cX12_gaugedBy 68 = .ok (.aload_n 0, 1) := by decide +kernel
theorem dX12_gaugedBy_69 : decode cX12_gaugedBy 69 = .ok (.getfield 7, 3) := by decide +kernel
theorem dX12_gaugedBy_72 : decode cX12_gaugedBy 72 = .ok (.iload 8, 2) := by decide +kernel
theorem dX12_gaugedBy_74 : decode cX12_gaugedBy 74 = .ok (.iconst 4, 1) := by decide +kernel
theorem dX12_gaugedBy_75 : decode cX12_gaugedBy 75 = .ok (.iadd, 1) := by decide +kernel
theorem dX12_gaugedBy_76 : decode cX12_gaugedBy 76 = .ok (.iaload, 1) := by decide +kernel
theorem dX12_gaugedBy_77 : decode cX12_gaugedBy 77 = .ok (.iload_n 3, 1) := by decide +kernel
theorem dX12_gaugedBy_78 : decode cX12_gaugedBy 78 = .ok (.if_icmp .gt 41, 3) := by decide +kernel
theorem dX12_gaugedBy_81 : decode cX12_gaugedBy 81 = .ok (.aload_n 0, 1) := by decide +kernel
theorem dX12_gaugedBy_82 : decode cX12_gaugedBy 82 = .ok (.iload 4, 2) := by decide +kernel
theorem dX12_gaugedBy_84 : decode cX12_gaugedBy 84 = .ok (.aload_n 0, 1) := by decide +kernel
theorem dX12_gaugedBy_85 : decode cX12_gaugedBy 85 = .ok (.getfield 7, 3) := by decide +kernel
theorem dX12_gaugedBy_88 : decode cX12_gaugedBy 88 = .ok (.iload 8, 2) := by decide +kernel
theorem dX12_gaugedBy_90 : decode cX12_gaugedBy 90 = .ok (.iconst 2, 1) := by decide +kernel
theorem dX12_gaugedBy_91 : decode cX12_gaugedBy 91 = .ok (.iadd, 1) := by decide +kernel
theorem dX12_gaugedBy_92 : decode cX12_gaugedBy 92 = .ok (.iaload, 1) := by decide +kernel
theorem dX12_gaugedBy_93 : decode cX12_gaugedBy 93 = .ok (.aload_n 0, 1) := by decide +kernel
theorem dX12_gaugedBy_94 : decode cX12_gaugedBy 94 = .ok (.getfield 7, 3) := by decide +kernel
theorem dX12_gaugedBy_97 : decode cX12_gaugedBy 97 = .ok (.iload 8, 2) := by decide +kernel
theorem dX12_gaugedBy_99 : decode cX12_gaugedBy 99 = .ok (.iconst 3, 1) := by decide +kernel
theorem dX12_gaugedBy_100 : decode cX12_gaugedBy 100 = .ok (.iadd, 1) := by decide +kernel
theorem dX12_gaugedBy_101 : decode cX12_gaugedBy 101 = .ok (.iaload, 1) := by decide +kernel
theorem dX12_gaugedBy_102 : decode cX12_gaugedBy 102 = .ok (.aload_n 0, 1) := by decide +kernel
theorem dX12_gaugedBy_103 : decode cX12_gaugedBy 103 = .ok (.getfield 7, 3) := by decide +kernel
theorem dX12_gaugedBy_106 : decode cX12_gaugedBy 106 = .ok (.iload 4, 2) := by decide +kernel
theorem dX12_gaugedBy_108 : decode cX12_gaugedBy 108 = .ok (.bipush 31, 2) := by decide +kernel
theorem dX12_gaugedBy_110 : decode cX12_gaugedBy 110 = .ok (.iadd, 1) := by decide +kernel
theorem dX12_gaugedBy_111 : decode cX12_gaugedBy 111 = .ok (.iaload, 1) := by decide +kernel
theorem dX12_gaugedBy_112 : decode cX12_gaugedBy 112 = .ok (.imul, 1) := by decide +kernel
theorem dX12_gaugedBy_113 : decode cX12_gaugedBy 113 = .ok (.isub, 1) := by decide +kernel
theorem dX12_gaugedBy_114 : decode cX12_gaugedBy 114 = .ok (.invokevirtual 489, 3) := by decide +kernel
theorem dX12_gaugedBy_117 : decode cX12_gaugedBy 117 = .ok (.lstore 5, 2) := by decide +kernel
theorem dX12_gaugedBy_119 : decode cX12_gaugedBy 119 = .ok (.iinc 7 1, 3) := by decide +kernel
theorem dX12_gaugedBy_122 : decode cX12_gaugedBy 122 = .ok (.goto (-100), 3) := by decide +kernel
theorem dX12_gaugedBy_125 : decode cX12_gaugedBy 125 = .ok (.aload_n 0, 1) := by decide +kernel
theorem dX12_gaugedBy_126 : decode cX12_gaugedBy 126 = .ok (.iload 4, 2) := by decide +kernel
theorem dX12_gaugedBy_128 : decode cX12_gaugedBy 128 = .ok (.invokevirtual 493, 3) := by decide +kernel
theorem dX12_gaugedBy_131 : decode cX12_gaugedBy 131 = .ok (.ifCond .eq 8, 3) := by decide +kernel
theorem dX12_gaugedBy_134 : decode cX12_gaugedBy 134 = .ok (.lload 5, 2) := by decide +kernel
theorem dX12_gaugedBy_136 : decode cX12_gaugedBy 136 = .ok (.goto 6, 3) := by decide +kernel
theorem dX12_gaugedBy_139 : decode cX12_gaugedBy 139 = .ok (.ldc2_w 466, 3) := by decide +kernel
theorem dX12_gaugedBy_142 : decode cX12_gaugedBy 142 = .ok (.lreturn, 1) := by decide +kernel
set_option maxRecDepth 20000 in
theorem ggX12_gauged_X12_isLanding : GoodIn wsX12_gauged wsX12_isLanding := goodIn_r _ [9, 4, 10, 11, 8, 12, 43, 44, 45, 46, 47, 48, 49, 50, 51, 52, 53, 54, 55, 56, 57, 58, 59, 60, 61, 62, 63, 64, 65, 66, 67, 68, 69, 70, 71, 72, 73, 74, 75, 76, 77, 78, 79, 80, 81, 82, 83, 84, 85, 86, 87, 88, 89, 90, 91, 92, 93, 94, 95] (by decide +kernel) (by decide +kernel)
set_option maxRecDepth 20000 in
theorem gX12_gauged_X12_isLanding : GoodIn wsX12_gauged (wsV RX12 237 RX12 yX12_isLanding wsX12_isLanding) := goodIn_app (goodIn_of _ (by decide +kernel)) ggX12_gauged_X12_isLanding
set_option maxRecDepth 20000 in
theorem ggX12_gauged_X12_isHour : GoodIn wsX12_gauged wsX12_isHour := goodIn_r _ [15, 16, 10, 11, 8, 12] (by decide +kernel) (by decide +kernel)
set_option maxRecDepth 20000 in
theorem gX12_gauged_X12_isHour : GoodIn wsX12_gauged (va_wsS RX12 144 yX12_isHour wsX12_isHour) := goodIn_app (goodIn_of _ (by decide +kernel)) ggX12_gauged_X12_isHour
set_option maxRecDepth 20000 in
theorem ggX12_gauged_X12_in : GoodIn wsX12_gauged wsX12_in := goodIn_r _ [12] (by decide +kernel) (by decide +kernel)
set_option maxRecDepth 20000 in
theorem gX12_gauged_X12_in : GoodIn wsX12_gauged (va_wsS RX12 99 yX12_in wsX12_in) := goodIn_app (goodIn_of _ (by decide +kernel)) ggX12_gauged_X12_in
set_option maxRecDepth 20000 in
theorem ggX12_gauged_X12_gaugedBy : GoodIn wsX12_gauged wsX12_gaugedBy := goodIn_r _ [20, 4, 3, 21, 22, 8, 23, 24, 25, 26, 27, 28, 29, 30, 31, 32, 33, 34, 43, 44, 45, 46, 47, 48, 49, 50, 51, 52, 53, 54, 55, 56, 57, 58, 59, 60, 61, 62, 63, 64, 65, 66, 67, 68, 69, 70, 71, 72, 73, 74, 75, 76, 77, 78, 79, 80, 81, 82, 83, 84, 85, 86, 87, 88, 89, 90, 91, 92, 93, 94, 95] (by decide +kernel) (by decide +kernel)
set_option maxRecDepth 20000 in
theorem gX12_gauged_X12_gaugedBy : GoodIn wsX12_gauged (wsV RX12 496 RX12 yX12_gaugedBy wsX12_gaugedBy) := goodIn_app (goodIn_of _ (by decide +kernel)) ggX12_gauged_X12_gaugedBy
set_option maxRecDepth 20000 in
theorem ggX12_gauged_X12_landingAt : GoodIn wsX12_gauged wsX12_landingAt := goodIn_r _ [23] (by decide +kernel) (by decide +kernel)
set_option maxRecDepth 20000 in
theorem gX12_gauged_X12_landingAt : GoodIn wsX12_gauged (va_wsS RX12 242 yX12_landingAt wsX12_landingAt) := goodIn_app (goodIn_of _ (by decide +kernel)) ggX12_gauged_X12_landingAt
set_option maxRecDepth 20000 in
theorem ggX12_gauged_X12_billed : GoodIn wsX12_gauged wsX12_billed := goodIn_r _ [38, 4, 43, 44, 45, 46, 47, 48, 49, 50, 51, 52, 53, 54, 55, 56, 57, 58, 59, 60, 61, 62, 63, 64, 65, 66, 67, 68, 69, 70, 71, 72, 73, 74, 75, 76, 77, 78, 79, 80, 81, 82, 83, 84, 85, 86, 87, 88, 89, 90, 91, 92, 93, 94, 95] (by decide +kernel) (by decide +kernel)
set_option maxRecDepth 20000 in
theorem gX12_gauged_X12_billed : GoodIn wsX12_gauged (wsV RX12 425 RX12 yX12_billed wsX12_billed) := goodIn_app (goodIn_of _ (by decide +kernel)) ggX12_gauged_X12_billed
set_option maxRecDepth 20000 in
theorem ggX12_gauged_X12_priceOf : GoodIn wsX12_gauged wsX12_priceOf := goodIn_r _ [42, 4, 43, 44, 45, 46, 47, 48, 49, 50, 51, 52, 53, 54, 55, 56, 57, 58, 59, 60, 61, 62, 63, 64, 65, 66, 67, 68, 69, 70, 71, 72, 73, 74, 75, 76, 77, 78, 79, 80, 81, 82, 83, 84, 85, 86, 87, 88, 89, 90, 91, 92, 93, 94, 95] (by decide +kernel) (by decide +kernel)
set_option maxRecDepth 20000 in
theorem gX12_gauged_X12_priceOf : GoodIn wsX12_gauged (wsV RX12 431 RX12 yX12_priceOf wsX12_priceOf) := goodIn_app (goodIn_of _ (by decide +kernel)) ggX12_gauged_X12_priceOf
theorem dX12_gauged_0 : decode cX12_gauged 0 = .ok (.aload_n 0, 1) := by decide +kernel
theorem dX12_gauged_1 : decode cX12_gauged 1 = .ok (.iconst 0, 1) := by decide +kernel
theorem dX12_gauged_2 : decode cX12_gauged 2 = .ok (.putfield 91, 3) := by decide +kernel
theorem dX12_gauged_5 : decode cX12_gauged 5 = .ok (.aload_n 0, 1) := by decide +kernel
theorem dX12_gauged_6 : decode cX12_gauged 6 = .ok (.iload_n 1, 1) := by decide +kernel
theorem dX12_gauged_7 : decode cX12_gauged 7 = .ok (.invokevirtual 237, 3) := by decide +kernel
theorem dX12_gauged_10 : decode cX12_gauged 10 = .ok (.ifCond .eq 22, 3) := by decide +kernel
theorem dX12_gauged_13 : decode cX12_gauged 13 = .ok (.iload_n 2, 1) := by decide +kernel
theorem dX12_gauged_14 : decode cX12_gauged 14 = .ok (.invokestatic 144, 3) := by decide +kernel
theorem dX12_gauged_17 : decode cX12_gauged 17 = .ok (.ifCond .eq 15, 3) := by decide +kernel
theorem dX12_gauged_20 : decode cX12_gauged 20 = .ok (.iload_n 3, 1) := by decide +kernel
theorem dX12_gauged_21 : decode cX12_gauged 21 = .ok (.i2l, 1) := by decide +kernel
theorem dX12_gauged_22 : decode cX12_gauged 22 = .ok (.lconst 0, 1) := by decide +kernel
theorem dX12_gauged_23 : decode cX12_gauged 23 = .ok (.ldc2_w 152, 3) := by decide +kernel
theorem dX12_gauged_26 : decode cX12_gauged 26 = .ok (.invokestatic 99, 3) := by decide +kernel
theorem dX12_gauged_29 : decode cX12_gauged 29 = .ok (.ifCond .ne 7, 3) := by decide +kernel
theorem dX12_gauged_32 : decode cX12_gauged 32 = .ok (.ldc2_w 466, 3) := by decide +kernel
theorem dX12_gauged_35 : decode cX12_gauged 35 = .ok (.lreturn, 1) := by decide +kernel
theorem dX12_gauged_36 : decode cX12_gauged 36 = .ok (.aload_n 0, 1) := by decide +kernel
theorem dX12_gauged_37 : decode cX12_gauged 37 = .ok (.iload_n 1, 1) := by decide +kernel
theorem dX12_gauged_38 : decode cX12_gauged 38 = .ok (.iconst 0, 1) := by decide +kernel
theorem dX12_gauged_39 : decode cX12_gauged 39 = .ok (.iload_n 2, 1) := by decide +kernel
theorem dX12_gauged_40 : decode cX12_gauged 40 = .ok (.invokevirtual 496, 3) := by decide +kernel
theorem dX12_gauged_43 : decode cX12_gauged 43 = .ok (.lstore 4, 2) := by decide +kernel
theorem dX12_gauged_45 : decode cX12_gauged 45 = .ok (.aload_n 0, 1) := by decide +kernel
theorem dX12_gauged_46 : decode cX12_gauged 46 = .ok (.iload_n 1, 1) := by decide +kernel
theorem dX12_gauged_47 : decode cX12_gauged 47 = .ok (.iconst 1, 1) := by decide +kernel
theorem dX12_gauged_48 : decode cX12_gauged 48 = .ok (.iload_n 2, 1) := by decide +kernel
theorem dX12_gauged_49 : decode cX12_gauged 49 = .ok (.invokevirtual 496, 3) := by decide +kernel
theorem dX12_gauged_52 : decode cX12_gauged 52 = .ok (.lstore 6, 2) := by decide +kernel
theorem dX12_gauged_54 : decode cX12_gauged 54 = .ok (.iload_n 3, 1) := by decide +kernel
theorem dX12_gauged_55 : decode cX12_gauged 55 = .ok (.iconst 2, 1) := by decide +kernel
theorem dX12_gauged_56 : decode cX12_gauged 56 = .ok (.if_icmp .ge 15, 3) := by decide +kernel
theorem dX12_gauged_59 : decode cX12_gauged 59 = .ok (.iload_n 3, 1) := by decide +kernel
theorem dX12_gauged_60 : decode cX12_gauged 60 = .ok (.ifCond .ne 8, 3) := by decide +kernel
theorem dX12_gauged_63 : decode cX12_gauged 63 = .ok (.lload 4, 2) := by decide +kernel
theorem dX12_gauged_65 : decode cX12_gauged 65 = .ok (.goto 5, 3) := by decide +kernel
theorem dX12_gauged_68 : decode cX12_gauged 68 = .ok (.lload 6, 2) := by decide +kernel
theorem dX12_gauged_70 : decode cX12_gauged 70 = .ok (.lreturn, 1) := by decide +kernel
theorem dX12_gauged_71 : decode cX12_gauged 71 = .ok (.lload 4, 2) := by decide +kernel
theorem dX12_gauged_73 : decode cX12_gauged 73 = .ok (.ldc2_w 466, 3) := by decide +kernel
theorem dX12_gauged_76 : decode cX12_gauged 76 = .ok (.lcmp, 1) := by decide +kernel
theorem dX12_gauged_77 : decode cX12_gauged 77 = .ok (.ifCond .eq 12, 3) := by decide +kernel
theorem dX12_gauged_80 : decode cX12_gauged 80 = .ok (.lload 6, 2) := by decide +kernel
theorem dX12_gauged_82 : decode cX12_gauged 82 = .ok (.ldc2_w 466, 3) := by decide +kernel
theorem dX12_gauged_85 : decode cX12_gauged 85 = .ok (.lcmp, 1) := by decide +kernel
theorem dX12_gauged_86 : decode cX12_gauged 86 = .ok (.ifCond .ne 7, 3) := by decide +kernel
theorem dX12_gauged_89 : decode cX12_gauged 89 = .ok (.ldc2_w 466, 3) := by decide +kernel
theorem dX12_gauged_92 : decode cX12_gauged 92 = .ok (.lreturn, 1) := by decide +kernel
theorem dX12_gauged_93 : decode cX12_gauged 93 = .ok (.iload_n 1, 1) := by decide +kernel
theorem dX12_gauged_94 : decode cX12_gauged 94 = .ok (.invokestatic 242, 3) := by decide +kernel
theorem dX12_gauged_97 : decode cX12_gauged 97 = .ok (.istore 8, 2) := by decide +kernel
theorem dX12_gauged_99 : decode cX12_gauged 99 = .ok (.lload 4, 2) := by decide +kernel
theorem dX12_gauged_101 : decode cX12_gauged 101 = .ok (.lload 6, 2) := by decide +kernel
theorem dX12_gauged_103 : decode cX12_gauged 103 = .ok (.lsub, 1) := by decide +kernel
theorem dX12_gauged_104 : decode cX12_gauged 104 = .ok (.lstore 9, 2) := by decide +kernel
theorem dX12_gauged_106 : decode cX12_gauged 106 = .ok (.iload_n 3, 1) := by decide +kernel
theorem dX12_gauged_107 : decode cX12_gauged 107 = .ok (.iconst 2, 1) := by decide +kernel
theorem dX12_gauged_108 : decode cX12_gauged 108 = .ok (.if_icmp .ne 8, 3) := by decide +kernel
theorem dX12_gauged_111 : decode cX12_gauged 111 = .ok (.lload 9, 2) := by decide +kernel
theorem dX12_gauged_113 : decode cX12_gauged 113 = .ok (.goto 32, 3) := by decide +kernel
theorem dX12_gauged_116 : decode cX12_gauged 116 = .ok (.aload_n 0, 1) := by decide +kernel
theorem dX12_gauged_117 : decode cX12_gauged 117 = .ok (.iload 8, 2) := by decide +kernel
theorem dX12_gauged_119 : decode cX12_gauged 119 = .ok (.invokevirtual 425, 3) := by decide +kernel
theorem dX12_gauged_122 : decode cX12_gauged 122 = .ok (.i2l, 1) := by decide +kernel
theorem dX12_gauged_123 : decode cX12_gauged 123 = .ok (.lload 9, 2) := by decide +kernel
theorem dX12_gauged_125 : decode cX12_gauged 125 = .ok (.lsub, 1) := by decide +kernel
theorem dX12_gauged_126 : decode cX12_gauged 126 = .ok (.aload_n 0, 1) := by decide +kernel
theorem dX12_gauged_127 : decode cX12_gauged 127 = .ok (.aload_n 0, 1) := by decide +kernel
theorem dX12_gauged_128 : decode cX12_gauged 128 = .ok (.getfield 7, 3) := by decide +kernel
theorem dX12_gauged_131 : decode cX12_gauged 131 = .ok (.iload 8, 2) := by decide +kernel
theorem dX12_gauged_133 : decode cX12_gauged 133 = .ok (.iconst 3, 1) := by decide +kernel
theorem dX12_gauged_134 : decode cX12_gauged 134 = .ok (.iadd, 1) := by decide +kernel
theorem dX12_gauged_135 : decode cX12_gauged 135 = .ok (.iaload, 1) := by decide +kernel
theorem dX12_gauged_136 : decode cX12_gauged 136 = .ok (.bipush 24, 2) := by decide +kernel
theorem dX12_gauged_138 : decode cX12_gauged 138 = .ok (.idiv, 1) := by decide +kernel
theorem dX12_gauged_139 : decode cX12_gauged 139 = .ok (.iload_n 2, 1) := by decide +kernel
theorem dX12_gauged_140 : decode cX12_gauged 140 = .ok (.invokevirtual 431, 3) := by decide +kernel
theorem dX12_gauged_143 : decode cX12_gauged 143 = .ok (.i2l, 1) := by decide +kernel
theorem dX12_gauged_144 : decode cX12_gauged 144 = .ok (.lmul, 1) := by decide +kernel
theorem dX12_gauged_145 : decode cX12_gauged 145 = .ok (.lreturn, 1) := by decide +kernel
