abbrev cX5_begin : ByteArray := prog_7_method_2_code
def yX5_begin : MethodName := ⟨RX5, "begin", "(III)V"⟩
abbrev cX5_addOrder : ByteArray := prog_7_method_3_code
def yX5_addOrder : MethodName := ⟨RX5, "addOrder", "(II)V"⟩
abbrev cX5_endOrder : ByteArray := prog_7_method_4_code
def yX5_endOrder : MethodName := ⟨RX5, "endOrder", "()V"⟩
abbrev cX5_tonsLeft : ByteArray := prog_7_method_5_code
def yX5_tonsLeft : MethodName := ⟨RX5, "tonsLeft", "()I"⟩
abbrev cX5_burnFuel : ByteArray := prog_7_method_6_code
def yX5_burnFuel : MethodName := ⟨RX5, "burnFuel", "(I)V"⟩
abbrev cX5_putAshore : ByteArray := prog_7_method_7_code
def yX5_putAshore : MethodName := ⟨RX5, "putAshore", "(II)V"⟩
abbrev cX5_forgetLanding : ByteArray := prog_7_method_8_code
def yX5_forgetLanding : MethodName := ⟨RX5, "forgetLanding", "()V"⟩
abbrev cX5_gaugeCounts : ByteArray := prog_7_method_9_code
def yX5_gaugeCounts : MethodName := ⟨RX5, "gaugeCounts", "()Z"⟩
abbrev cX5_tonsAt : ByteArray := prog_7_method_10_code
def yX5_tonsAt : MethodName := ⟨RX5, "tonsAt", "(I)J"⟩
abbrev cX5_copyFrom : ByteArray := prog_7_method_11_code
def yX5_copyFrom : MethodName := ⟨RX5, "copyFrom", "(LColdShips$Ship;)V"⟩
def wsX5_gaugeCounts : List Cond := .code yX5_gaugeCounts cX5_gaugeCounts 2 (some .boolean) :: ([.fieldLink RX5 32 "ColdShips$Ship" "gaugeCentimetres" "[I", .fieldLink RX5 35 "ColdShips$Ship" "gaugeTons" "[I"] ++ wsX50)
def wsX5_tonsAt : List Cond := .code yX5_tonsAt cX5_tonsAt 6 (some .long) :: ([.fieldLink RX5 32 "ColdShips$Ship" "gaugeCentimetres" "[I", .fieldLink RX5 35 "ColdShips$Ship" "gaugeTons" "[I"] ++ wsX50)
def wsX5_forgetLanding : List Cond := .code yX5_forgetLanding cX5_forgetLanding 1 none :: ([.fieldLink RX5 93 "ColdShips$Ship" "landTons" "I", .fieldLink RX5 29 "ColdShips$Ship" "landParts" "[I", .methodLink RX5 71 yJ7_fill_53178, .static yJ7_fill_53178, .initialized RJ7, .code yJ7_fill_53178 cJ7_fill_53178 4 none] ++ wsX50)
def wsX5_begin_r1 : List Cond := [Cond.fieldLink RX5 12 "ColdShips$Ship" "tank" "LColdShips$Tank;", Cond.fieldLink RX5 42 "ColdShips$Ship" "fuel" "I", Cond.fieldLink RX5 46 "ColdShips$Ship" "where" "I", Cond.fieldLink RX5 49 "ColdShips$Ship" "left" "I", Cond.fieldLink RX5 52 "ColdShips$Ship" "half" "I", Cond.fieldLink RX5 55 "ColdShips$Ship" "drifting" "Z", Cond.fieldLink RX5 59 "ColdShips$Ship" "orders" "I", Cond.fieldLink RX5 62 "ColdShips$Ship" "list" "I", Cond.fieldLink RX5 25 "ColdShips$Ship" "book" "[J", Cond.fieldLink RX5 32 "ColdShips$Ship" "gaugeCentimetres" "[I", Cond.methodLink RX5 38 yX7_begin, Cond.instanceMethod yX7_begin, Cond.selects RX7 yX7_begin yX7_begin, Cond.initialized RX7, Cond.code yX7_begin cX7_begin 2 none, Cond.methodLink RX7 26 Lib.Math.max.name, Cond.static Lib.Math.max.name, Cond.initialized "java/lang/Math", Cond.code Lib.Math.max.name Lib.Math.max.code 2 (some .int), Cond.fieldLink RX7 9 "ColdShips$Tank" "cap" "I", Cond.fieldLink RX7 32 "ColdShips$Tank" "gas" "I", Cond.fieldLink RX7 35 "ColdShips$Tank" "vapor" "I", Cond.fieldLink RX7 38 "ColdShips$Tank" "warm" "I", Cond.fieldLink RX7 15 "ColdShips$Tank" "parts" "[I"]
def wsX5_begin_r2 : List Cond := [Cond.methodLink RX7 41 yJ7_fill_53178, Cond.static yJ7_fill_53178, Cond.initialized RJ7, Cond.code yJ7_fill_53178 cJ7_fill_53178 4 none, Cond.methodLink RX5 65 yJ7_fill_d0a16, Cond.static yJ7_fill_d0a16, Cond.code yJ7_fill_d0a16 cJ7_fill_d0a16 5 none, Cond.methodLink RX5 71 yJ7_fill_53178, Cond.methodLink RX5 74 yX5_forgetLanding, Cond.instanceMethod yX5_forgetLanding, Cond.selects RX5 yX5_forgetLanding yX5_forgetLanding, Cond.initialized RX5, Cond.code yX5_forgetLanding cX5_forgetLanding 1 none, Cond.fieldLink RX5 93 "ColdShips$Ship" "landTons" "I", Cond.fieldLink RX5 29 "ColdShips$Ship" "landParts" "[I"]
def wsX5_begin : List Cond := .code yX5_begin cX5_begin 4 none :: ((wsX5_begin_r1 ++ wsX5_begin_r2) ++ wsX50 ++ wsX70)
def wsX5_addOrder : List Cond := .code yX5_addOrder cX5_addOrder 3 none :: ([.fieldLink RX5 59 "ColdShips$Ship" "orders" "I", .fieldLink RX5 18 "ColdShips$Ship" "orderSorts" "[I", .fieldLink RX5 22 "ColdShips$Ship" "orderWhats" "[I"] ++ wsX50)
def wsX5_endOrder : List Cond := .code yX5_endOrder cX5_endOrder 1 none :: ([.fieldLink RX5 59 "ColdShips$Ship" "orders" "I", .fieldLink RX5 18 "ColdShips$Ship" "orderSorts" "[I", .methodLink RX5 77 arraycopyName, .native arraycopyName, .static arraycopyName, .initialized "java/lang/System", .fieldLink RX5 22 "ColdShips$Ship" "orderWhats" "[I"] ++ wsX50)
def wsX5_tonsLeft : List Cond := .code yX5_tonsLeft cX5_tonsLeft 2 (some .int) :: ([.fieldLink RX5 59 "ColdShips$Ship" "orders" "I", .fieldLink RX5 18 "ColdShips$Ship" "orderSorts" "[I", .fieldLink RX5 22 "ColdShips$Ship" "orderWhats" "[I"] ++ wsX50)
def wsX5_burnFuel_r1 : List Cond := [Cond.fieldLink RX5 12 "ColdShips$Ship" "tank" "LColdShips$Tank;", Cond.fieldLink RX5 55 "ColdShips$Ship" "drifting" "Z", Cond.fieldLink RX5 25 "ColdShips$Ship" "book" "[J", Cond.methodLink RX5 83 yX7_burn, Cond.instanceMethod yX7_burn, Cond.selects RX7 yX7_burn yX7_burn, Cond.initialized RX7, Cond.code yX7_burn cX7_burn 4 (some .int), Cond.fieldLink RX7 35 "ColdShips$Tank" "vapor" "I", Cond.methodLink RX7 62 Lib.Math.min.name, Cond.static Lib.Math.min.name, Cond.initialized "java/lang/Math", Cond.code Lib.Math.min.name Lib.Math.min.code 2 (some .int), Cond.fieldLink RX7 32 "ColdShips$Tank" "gas" "I", Cond.methodLink RX7 68 yX7_takeGas, Cond.instanceMethod yX7_takeGas, Cond.selects RX7 yX7_takeGas yX7_takeGas, Cond.code yX7_takeGas cX7_takeGas 6 none, Cond.fieldLink RX7 15 "ColdShips$Tank" "parts" "[I", Cond.fieldLink RX7 19 "ColdShips$Tank" "given" "[I", Cond.fieldLink RX7 22 "ColdShips$Tank" "rests" "[J", Cond.methodLink RX7 71 yX7_giveByRests, Cond.instanceMethod yX7_giveByRests, Cond.selects RX7 yX7_giveByRests yX7_giveByRests]
def wsX5_burnFuel_r2 : List Cond := [Cond.code yX7_giveByRests cX7_giveByRests 5 none, Cond.constantLong RX7 80 (-1)]
def wsX5_burnFuel : List Cond := .code yX5_burnFuel cX5_burnFuel 3 none :: ((wsX5_burnFuel_r1 ++ wsX5_burnFuel_r2) ++ wsX50 ++ wsX70)
def wsX5_putAshore : List Cond := .code yX5_putAshore cX5_putAshore 4 none :: ([.fieldLink RX5 12 "ColdShips$Ship" "tank" "LColdShips$Tank;", .fieldLink RX5 29 "ColdShips$Ship" "landParts" "[I", .fieldLink RX5 93 "ColdShips$Ship" "landTons" "I", .fieldLink RX5 96 "ColdShips$Ship" "landFirst" "I", .fieldLink RX5 99 "ColdShips$Ship" "landLast" "I", .fieldLink RX5 25 "ColdShips$Ship" "book" "[J", .methodLink RX5 87 yX7_takeGas, .instanceMethod yX7_takeGas, .selects RX7 yX7_takeGas yX7_takeGas, .initialized RX7, .code yX7_takeGas cX7_takeGas 6 none, .fieldLink RX7 32 "ColdShips$Tank" "gas" "I", .fieldLink RX7 15 "ColdShips$Tank" "parts" "[I", .fieldLink RX7 19 "ColdShips$Tank" "given" "[I", .fieldLink RX7 22 "ColdShips$Tank" "rests" "[J", .methodLink RX7 71 yX7_giveByRests, .instanceMethod yX7_giveByRests, .selects RX7 yX7_giveByRests yX7_giveByRests, .code yX7_giveByRests cX7_giveByRests 5 none, .constantLong RX7 80 (-1)] ++ wsX50 ++ wsX70)
def wsX5_copyFrom_r1 : List Cond := [Cond.fieldLink RX5 12 "ColdShips$Ship" "tank" "LColdShips$Tank;", Cond.fieldLink RX5 42 "ColdShips$Ship" "fuel" "I", Cond.fieldLink RX5 46 "ColdShips$Ship" "where" "I", Cond.fieldLink RX5 49 "ColdShips$Ship" "left" "I", Cond.fieldLink RX5 52 "ColdShips$Ship" "half" "I", Cond.fieldLink RX5 55 "ColdShips$Ship" "drifting" "Z", Cond.fieldLink RX5 59 "ColdShips$Ship" "orders" "I", Cond.fieldLink RX5 62 "ColdShips$Ship" "list" "I", Cond.fieldLink RX5 96 "ColdShips$Ship" "landFirst" "I", Cond.fieldLink RX5 99 "ColdShips$Ship" "landLast" "I", Cond.fieldLink RX5 93 "ColdShips$Ship" "landTons" "I", Cond.fieldLink RX5 18 "ColdShips$Ship" "orderSorts" "[I", Cond.methodLink RX5 77 arraycopyName, Cond.native arraycopyName, Cond.static arraycopyName, Cond.initialized "java/lang/System", Cond.fieldLink RX5 22 "ColdShips$Ship" "orderWhats" "[I", Cond.fieldLink RX5 25 "ColdShips$Ship" "book" "[J", Cond.fieldLink RX5 29 "ColdShips$Ship" "landParts" "[I", Cond.fieldLink RX5 32 "ColdShips$Ship" "gaugeCentimetres" "[I", Cond.fieldLink RX5 35 "ColdShips$Ship" "gaugeTons" "[I", Cond.methodLink RX5 102 yX7_copyFrom, Cond.instanceMethod yX7_copyFrom, Cond.selects RX7 yX7_copyFrom yX7_copyFrom]
def wsX5_copyFrom_r2 : List Cond := [Cond.initialized RX7, Cond.code yX7_copyFrom cX7_copyFrom 2 none, Cond.fieldLink RX7 9 "ColdShips$Tank" "cap" "I", Cond.fieldLink RX7 32 "ColdShips$Tank" "gas" "I", Cond.fieldLink RX7 35 "ColdShips$Tank" "vapor" "I", Cond.fieldLink RX7 38 "ColdShips$Tank" "warm" "I", Cond.fieldLink RX7 15 "ColdShips$Tank" "parts" "[I", Cond.methodLink RX7 74 arraycopyName]
def wsX5_copyFrom : List Cond := .code yX5_copyFrom cX5_copyFrom 2 none :: ((wsX5_copyFrom_r1 ++ wsX5_copyFrom_r2) ++ wsX50 ++ wsX70)
set_option maxRecDepth 20000 in
theorem ggX5_begin_X7_begin : GoodIn wsX5_begin wsX7_begin := goodIn_r _ [15, 16, 17, 18, 19, 20, 21, 22, 23, 24, 25, 26, 27, 28, 57, 58, 59, 60, 61, 62, 63] (by decide +kernel) (by decide +kernel)
set_option maxRecDepth 20000 in
theorem gX5_begin_X7_begin : GoodIn wsX5_begin (wsV RX5 38 RX7 yX7_begin wsX7_begin) := goodIn_app (goodIn_of _ (by decide +kernel)) ggX5_begin_X7_begin
set_option maxRecDepth 20000 in
theorem ggX5_begin_J7_fill_d0a16 : GoodIn wsX5_begin wsJ7_fill_d0a16 := goodIn_r _ [31] (by decide +kernel) (by decide +kernel)
set_option maxRecDepth 20000 in
theorem gX5_begin_J7_fill_d0a16 : GoodIn wsX5_begin (va_wsS RX5 65 yJ7_fill_d0a16 wsJ7_fill_d0a16) := goodIn_app (goodIn_of _ (by decide +kernel)) ggX5_begin_J7_fill_d0a16
set_option maxRecDepth 20000 in
theorem ggX5_begin_J7_fill_53178 : GoodIn wsX5_begin wsJ7_fill_53178 := goodIn_r _ [28] (by decide +kernel) (by decide +kernel)
set_option maxRecDepth 20000 in
theorem gX5_begin_J7_fill_53178 : GoodIn wsX5_begin (va_wsS RX5 71 yJ7_fill_53178 wsJ7_fill_53178) := goodIn_app (goodIn_of _ (by decide +kernel)) ggX5_begin_J7_fill_53178
set_option maxRecDepth 20000 in
theorem ggX5_begin_X5_forgetLanding : GoodIn wsX5_begin wsX5_forgetLanding := goodIn_r _ [37, 38, 39, 32, 26, 27, 28, 40, 41, 42, 43, 44, 45, 46, 47, 48, 49, 50, 51, 52, 53, 54, 55, 56] (by decide +kernel) (by decide +kernel)
set_option maxRecDepth 20000 in
theorem gX5_begin_X5_forgetLanding : GoodIn wsX5_begin (wsV RX5 74 RX5 yX5_forgetLanding wsX5_forgetLanding) := goodIn_app (goodIn_of _ (by decide +kernel)) ggX5_begin_X5_forgetLanding
theorem dX5_begin_0 : decode cX5_begin 0 = .ok (.aload_n 0, 1) := by decide +kernel
theorem dX5_begin_1 : decode cX5_begin 1 = .ok (.getfield 12, 3) := by decide +kernel
theorem dX5_begin_4 : decode cX5_begin 4 = .ok (.iload_n 2, 1) := by decide +kernel
theorem dX5_begin_5 : decode cX5_begin 5 = .ok (.invokevirtual 38, 3) := by decide +kernel
theorem dX5_begin_8 : decode cX5_begin 8 = .ok (.aload_n 0, 1) := by decide +kernel
theorem dX5_begin_9 : decode cX5_begin 9 = .ok (.iload_n 3, 1) := by decide +kernel
theorem dX5_begin_10 : decode cX5_begin 10 = .ok (.putfield 42, 3) := by decide +kernel
theorem dX5_begin_13 : decode cX5_begin 13 = .ok (.aload_n 0, 1) := by decide +kernel
theorem dX5_begin_14 : decode cX5_begin 14 = .ok (.iload_n 1, 1) := by decide +kernel
theorem dX5_begin_15 : decode cX5_begin 15 = .ok (.putfield 46, 3) := by decide +kernel
theorem dX5_begin_18 : decode cX5_begin 18 = .ok (.aload_n 0, 1) := by decide +kernel
theorem dX5_begin_19 : decode cX5_begin 19 = .ok (.iconst 0, 1) := by decide +kernel
theorem dX5_begin_20 : decode cX5_begin 20 = .ok (.putfield 49, 3) := by decide +kernel
theorem dX5_begin_23 : decode cX5_begin 23 = .ok (.aload_n 0, 1) := by decide +kernel
theorem dX5_begin_24 : decode cX5_begin 24 = .ok (.iconst 0, 1) := by decide +kernel
theorem dX5_begin_25 : decode cX5_begin 25 = .ok (.putfield 52, 3) := by decide +kernel
theorem dX5_begin_28 : decode cX5_begin 28 = .ok (.aload_n 0, 1) := by decide +kernel
theorem dX5_begin_29 : decode cX5_begin 29 = .ok (.iconst 0, 1) := by decide +kernel
theorem dX5_begin_30 : decode cX5_begin 30 = .ok (.putfield 55, 3) := by decide +kernel
theorem dX5_begin_33 : decode cX5_begin 33 = .ok (.aload_n 0, 1) := by decide +kernel
theorem dX5_begin_34 : decode cX5_begin 34 = .ok (.iconst 0, 1) := by decide +kernel
theorem dX5_begin_35 : decode cX5_begin 35 = .ok (.putfield 59, 3) := by decide +kernel
theorem dX5_begin_38 : decode cX5_begin 38 = .ok (.aload_n 0, 1) := by decide +kernel
theorem dX5_begin_39 : decode cX5_begin 39 = .ok (.iconst 0, 1) := by decide +kernel
theorem dX5_begin_40 : decode cX5_begin 40 = .ok (.putfield 62, 3) := by decide +kernel
theorem dX5_begin_43 : decode cX5_begin 43 = .ok (.aload_n 0, 1) := by decide +kernel
theorem dX5_begin_44 : decode cX5_begin 44 = .ok (.getfield 25, 3) := by decide +kernel
theorem dX5_begin_47 : decode cX5_begin 47 = .ok (.lconst 0, 1) := by decide +kernel
theorem dX5_begin_48 : decode cX5_begin 48 = .ok (.invokestatic 65, 3) := by decide +kernel
theorem dX5_begin_51 : decode cX5_begin 51 = .ok (.aload_n 0, 1) := by decide +kernel
theorem dX5_begin_52 : decode cX5_begin 52 = .ok (.getfield 32, 3) := by decide +kernel
theorem dX5_begin_55 : decode cX5_begin 55 = .ok (.iconst (-1), 1) := by decide +kernel
theorem dX5_begin_56 : decode cX5_begin 56 = .ok (.invokestatic 71, 3) := by decide +kernel
theorem dX5_begin_59 : decode cX5_begin 59 = .ok (.aload_n 0, 1) := by decide +kernel
theorem dX5_begin_60 : decode cX5_begin 60 = .ok (.invokevirtual 74, 3) := by decide +kernel
theorem dX5_begin_63 : decode cX5_begin 63 = .ok (.return_, 1) := by decide +kernel
theorem dX5_addOrder_0 : decode cX5_addOrder 0 = .ok (.aload_n 0, 1) := by decide +kernel
theorem dX5_addOrder_1 : decode cX5_addOrder 1 = .ok (.getfield 59, 3) := by decide +kernel
theorem dX5_addOrder_4 : decode cX5_addOrder 4 = .ok (.bipush 20, 2) := by decide +kernel
theorem dX5_addOrder_6 : decode cX5_addOrder 6 = .ok (.if_icmp .ge 33, 3) := by decide +kernel
theorem dX5_addOrder_9 : decode cX5_addOrder 9 = .ok (.aload_n 0, 1) := by decide +kernel
theorem dX5_addOrder_10 : decode cX5_addOrder 10 = .ok (.getfield 18, 3) := by decide +kernel
theorem dX5_addOrder_13 : decode cX5_addOrder 13 = .ok (.aload_n 0, 1) := by decide +kernel
theorem dX5_addOrder_14 : decode cX5_addOrder 14 = .ok (.getfield 59, 3) := by decide +kernel
theorem dX5_addOrder_17 : decode cX5_addOrder 17 = .ok (.iload_n 1, 1) := by decide +kernel
theorem dX5_addOrder_18 : decode cX5_addOrder 18 = .ok (.iastore, 1) := by decide +kernel
theorem dX5_addOrder_19 : decode cX5_addOrder 19 = .ok (.aload_n 0, 1) := by decide +kernel
theorem dX5_addOrder_20 : decode cX5_addOrder 20 = .ok (.getfield 22, 3) := by decide +kernel
theorem dX5_addOrder_23 : decode cX5_addOrder 23 = .ok (.aload_n 0, 1) := by decide +kernel
theorem dX5_addOrder_24 : decode cX5_addOrder 24 = .ok (.getfield 59, 3) := by decide +kernel
theorem dX5_addOrder_27 : decode cX5_addOrder 27 = .ok (.iload_n 2, 1) := by decide +kernel
theorem dX5_addOrder_28 : decode cX5_addOrder 28 = .ok (.iastore, 1) := by decide +kernel
theorem dX5_addOrder_29 : decode cX5_addOrder 29 = .ok (.aload_n 0, 1) := by decide +kernel
theorem dX5_addOrder_30 : decode cX5_addOrder 30 = .ok (.dup, 1) := by decide +kernel
theorem dX5_addOrder_31 : decode cX5_addOrder 31 = .ok (.getfield 59, 3) := by decide +kernel
theorem dX5_addOrder_34 : decode cX5_addOrder 34 = .ok (.iconst 1, 1) := by decide +kernel
theorem dX5_addOrder_35 : decode cX5_addOrder 35 = .ok (.iadd, 1) := by decide +kernel
theorem dX5_addOrder_36 : decode cX5_addOrder 36 = .ok (.putfield 59, 3) := by decide +kernel
theorem dX5_addOrder_39 : decode cX5_addOrder 39 = .ok (.return_, 1) := by decide +kernel
theorem dX5_endOrder_0 : decode cX5_endOrder 0 = .ok (.aload_n 0, 1) := by decide +kernel
theorem dX5_endOrder_1 : decode cX5_endOrder 1 = .ok (.getfield 59, 3) := by decide +kernel
theorem dX5_endOrder_4 : decode cX5_endOrder 4 = .ok (.ifCond .le 47, 3) := by decide +kernel
theorem dX5_endOrder_7 : decode cX5_endOrder 7 = .ok (.aload_n 0, 1) := by decide +kernel
theorem dX5_endOrder_8 : decode cX5_endOrder 8 = .ok (.dup, 1) := by decide +kernel
theorem dX5_endOrder_9 : decode cX5_endOrder 9 = .ok (.getfield 59, 3) := by decide +kernel
theorem dX5_endOrder_12 : decode cX5_endOrder 12 = .ok (.iconst 1, 1) := by decide +kernel
theorem dX5_endOrder_13 : decode cX5_endOrder 13 = .ok (.isub, 1) := by decide +kernel
theorem dX5_endOrder_14 : decode cX5_endOrder 14 = .ok (.putfield 59, 3) := by decide +kernel
theorem dX5_endOrder_17 : decode cX5_endOrder 17 = .ok (.aload_n 0, 1) := by decide +kernel
theorem dX5_endOrder_18 : decode cX5_endOrder 18 = .ok (.getfield 18, 3) := by decide +kernel
theorem dX5_endOrder_21 : decode cX5_endOrder 21 = .ok (.iconst 1, 1) := by decide +kernel
theorem dX5_endOrder_22 : decode cX5_endOrder 22 = .ok (.aload_n 0, 1) := by decide +kernel
theorem dX5_endOrder_23 : decode cX5_endOrder 23 = .ok (.getfield 18, 3) := by decide +kernel
theorem dX5_endOrder_26 : decode cX5_endOrder 26 = .ok (.iconst 0, 1) := by decide +kernel
theorem dX5_endOrder_27 : decode cX5_endOrder 27 = .ok (.aload_n 0, 1) := by decide +kernel
theorem dX5_endOrder_28 : decode cX5_endOrder 28 = .ok (.getfield 59, 3) := by decide +kernel
theorem dX5_endOrder_31 : decode cX5_endOrder 31 = .ok (.invokestatic 77, 3) := by decide +kernel
theorem dX5_endOrder_34 : decode cX5_endOrder 34 = .ok (.aload_n 0, 1) := by decide +kernel
theorem dX5_endOrder_35 : decode cX5_endOrder 35 = .ok (.getfield 22, 3) := by decide +kernel
theorem dX5_endOrder_38 : decode cX5_endOrder 38 = .ok (.iconst 1, 1) := by decide +kernel
theorem dX5_endOrder_39 : decode cX5_endOrder 39 = .ok (.aload_n 0, 1) := by decide +kernel
theorem dX5_endOrder_40 : decode cX5_endOrder 40 = .ok (.getfield 22, 3) := by decide +kernel
theorem dX5_endOrder_43 : decode cX5_endOrder 43 = .ok (.iconst 0, 1) := by decide +kernel
theorem dX5_endOrder_44 : decode cX5_endOrder 44 = .ok (.aload_n 0, 1) := by decide +kernel
theorem dX5_endOrder_45 : decode cX5_endOrder 45 = .ok (.getfield 59, 3) := by decide +kernel
theorem dX5_endOrder_48 : decode cX5_endOrder 48 = .ok (.invokestatic 77, 3) := by decide +kernel
theorem dX5_endOrder_51 : decode cX5_endOrder 51 = .ok (.return_, 1) := by decide +kernel
theorem dX5_tonsLeft_0 : decode cX5_tonsLeft 0 = .ok (.aload_n 0, 1) := by decide +kernel
theorem dX5_tonsLeft_1 : decode cX5_tonsLeft 1 = .ok (.getfield 59, 3) := by decide +kernel
theorem dX5_tonsLeft_4 : decode cX5_tonsLeft 4 = .ok (.ifCond .le 27, 3) := by decide +kernel
theorem dX5_tonsLeft_7 : decode cX5_tonsLeft 7 = .ok (.aload_n 0, 1) := by decide +kernel
theorem dX5_tonsLeft_8 : decode cX5_tonsLeft 8 = .ok (.getfield 18, 3) := by decide +kernel
theorem dX5_tonsLeft_11 : decode cX5_tonsLeft 11 = .ok (.iconst 0, 1) := by decide +kernel
theorem dX5_tonsLeft_12 : decode cX5_tonsLeft 12 = .ok (.iaload, 1) := by decide +kernel
theorem dX5_tonsLeft_13 : decode cX5_tonsLeft 13 = .ok (.iconst 1, 1) := by decide +kernel
theorem dX5_tonsLeft_14 : decode cX5_tonsLeft 14 = .ok (.if_icmp .eq 13, 3) := by decide +kernel
theorem dX5_tonsLeft_17 : decode cX5_tonsLeft 17 = .ok (.aload_n 0, 1) := by decide +kernel
theorem dX5_tonsLeft_18 : decode cX5_tonsLeft 18 = .ok (.getfield 18, 3) := by decide +kernel
theorem dX5_tonsLeft_21 : decode cX5_tonsLeft 21 = .ok (.iconst 0, 1) := by decide +kernel
theorem dX5_tonsLeft_22 : decode cX5_tonsLeft 22 = .ok (.iaload, 1) := by decide +kernel
theorem dX5_tonsLeft_23 : decode cX5_tonsLeft 23 = .ok (.iconst 2, 1) := by decide +kernel
theorem dX5_tonsLeft_24 : decode cX5_tonsLeft 24 = .ok (.if_icmp .ne 7, 3) := by decide +kernel
theorem dX5_tonsLeft_27 : decode cX5_tonsLeft 27 = .ok (.iconst 1, 1) := by decide +kernel
theorem dX5_tonsLeft_28 : decode cX5_tonsLeft 28 = .ok (.goto 4, 3) := by decide +kernel
theorem dX5_tonsLeft_31 : decode cX5_tonsLeft 31 = .ok (.iconst 0, 1) := by decide +kernel
theorem dX5_tonsLeft_32 : decode cX5_tonsLeft 32 = .ok (.istore_n 1, 1) := by decide +kernel
theorem dX5_tonsLeft_33 : decode cX5_tonsLeft 33 = .ok (.iload_n 1, 1) := by decide +kernel
theorem dX5_tonsLeft_34 : decode cX5_tonsLeft 34 = .ok (.ifCond .eq 12, 3) := by decide +kernel
theorem dX5_tonsLeft_37 : decode cX5_tonsLeft 37 = .ok (.aload_n 0, 1) := by decide +kernel
theorem dX5_tonsLeft_38 : decode cX5_tonsLeft 38 = .ok (.getfield 22, 3) := by decide +kernel
theorem dX5_tonsLeft_41 : decode cX5_tonsLeft 41 = .ok (.iconst 0, 1) := by decide +kernel
theorem dX5_tonsLeft_42 : decode cX5_tonsLeft 42 = .ok (.iaload, 1) := by decide +kernel
theorem dX5_tonsLeft_43 : decode cX5_tonsLeft 43 = .ok (.goto 4, 3) := by decide +kernel
theorem dX5_tonsLeft_46 : decode cX5_tonsLeft 46 = .ok (.iconst 0, 1) := by decide +kernel
theorem dX5_tonsLeft_47 : decode cX5_tonsLeft 47 = .ok (.ireturn, 1) := by decide +kernel
set_option maxRecDepth 20000 in
theorem ggX5_burnFuel_X7_burn : GoodIn wsX5_burnFuel wsX7_burn := goodIn_r _ [8, 9, 10, 11, 12, 13, 14, 15, 16, 17, 7, 18, 19, 20, 21, 22, 23, 24, 25, 26, 44, 45, 46, 47, 48, 49, 50] (by decide +kernel) (by decide +kernel)
set_option maxRecDepth 20000 in
theorem gX5_burnFuel_X7_burn : GoodIn wsX5_burnFuel (wsV RX5 83 RX7 yX7_burn wsX7_burn) := goodIn_app (goodIn_of _ (by decide +kernel)) ggX5_burnFuel_X7_burn
theorem dX5_burnFuel_0 : decode cX5_burnFuel 0 = .ok (.aload_n 0, 1) := by decide +kernel
theorem dX5_burnFuel_1 : decode cX5_burnFuel 1 = .ok (.getfield 12, 3) := by decide +kernel
theorem dX5_burnFuel_4 : decode cX5_burnFuel 4 = .ok (.iload_n 1, 1) := by decide +kernel
theorem dX5_burnFuel_5 : decode cX5_burnFuel 5 = .ok (.invokevirtual 83, 3) := by decide +kernel
theorem dX5_burnFuel_8 : decode cX5_burnFuel 8 = .ok (.istore_n 2, 1) := by decide +kernel
theorem dX5_burnFuel_9 : decode cX5_burnFuel 9 = .ok (.aload_n 0, 1) := by decide +kernel
theorem dX5_burnFuel_10 : decode cX5_burnFuel 10 = .ok (.iload_n 2, 1) := by decide +kernel
theorem dX5_burnFuel_11 : decode cX5_burnFuel 11 = .ok (.iload_n 1, 1) := by decide +kernel
theorem dX5_burnFuel_12 : decode cX5_burnFuel 12 = .ok (.if_icmp .ge 7, 3) := by decide +kernel
theorem dX5_burnFuel_15 : decode cX5_burnFuel 15 = .ok (.iconst 1, 1) := by decide +kernel
theorem dX5_burnFuel_16 : decode cX5_burnFuel 16 = .ok (.goto 4, 3) := by decide +kernel
theorem dX5_burnFuel_19 : decode cX5_burnFuel 19 = .ok (.iconst 0, 1) := by decide +kernel
theorem dX5_burnFuel_20 : decode cX5_burnFuel 20 = .ok (.putfield 55, 3) := by decide +kernel
theorem dX5_burnFuel_23 : decode cX5_burnFuel 23 = .ok (.aload_n 0, 1) := by decide +kernel
theorem dX5_burnFuel_24 : decode cX5_burnFuel 24 = .ok (.getfield 25, 3) := by decide +kernel
theorem dX5_burnFuel_27 : decode cX5_burnFuel 27 = .ok (.iconst 1, 1) := by decide +kernel
theorem dX5_burnFuel_28 : decode cX5_burnFuel 28 = .ok (.dup2, 1) := by decide +kernel
theorem dX5_burnFuel_29 : decode cX5_burnFuel 29 = .ok (.laload, 1) := by decide +kernel
theorem dX5_burnFuel_30 : decode cX5_burnFuel 30 = .ok (.iload_n 2, 1) := by decide +kernel
theorem dX5_burnFuel_31 : decode cX5_burnFuel 31 = .ok (.i2l, 1) := by decide +kernel
theorem dX5_burnFuel_32 : decode cX5_burnFuel 32 = .ok (.ladd, 1) := by decide +kernel
theorem dX5_burnFuel_33 : decode cX5_burnFuel 33 = .ok (.lastore, 1) := by decide +kernel
theorem dX5_burnFuel_34 : decode cX5_burnFuel 34 = .ok (.return_, 1) := by decide +kernel
set_option maxRecDepth 20000 in
theorem ggX5_putAshore_X7_takeGas : GoodIn wsX5_putAshore wsX7_takeGas := goodIn_r _ [11, 12, 13, 14, 15, 16, 17, 18, 10, 19, 20, 38, 39, 40, 41, 42, 43, 44] (by decide +kernel) (by decide +kernel)
set_option maxRecDepth 20000 in
theorem gX5_putAshore_X7_takeGas : GoodIn wsX5_putAshore (wsV RX5 87 RX7 yX7_takeGas wsX7_takeGas) := goodIn_app (goodIn_of _ (by decide +kernel)) ggX5_putAshore_X7_takeGas
theorem dX5_putAshore_0 : decode cX5_putAshore 0 = .ok (.aload_n 0, 1) := by decide +kernel
theorem dX5_putAshore_1 : decode cX5_putAshore 1 = .ok (.getfield 12, 3) := by decide +kernel
theorem dX5_putAshore_4 : decode cX5_putAshore 4 = .ok (.iload_n 1, 1) := by decide +kernel
theorem dX5_putAshore_5 : decode cX5_putAshore 5 = .ok (.invokevirtual 87, 3) := by decide +kernel
theorem dX5_putAshore_8 : decode cX5_putAshore 8 = .ok (.iconst 0, 1) := by decide +kernel
theorem dX5_putAshore_9 : decode cX5_putAshore 9 = .ok (.istore_n 3, 1) := by decide +kernel
theorem dX5_putAshore_10 : decode cX5_putAshore 10 = .ok (.iload_n 3, 1) := by decide +kernel
theorem dX5_putAshore_11 : decode cX5_putAshore 11 = .ok (.bipush 6, 2) := by decide +kernel
theorem dX5_putAshore_13 : decode cX5_putAshore 13 = .ok (.if_icmp .ge 27, 3) := by decide +kernel
theorem dX5_putAshore_16 : decode cX5_putAshore 16 = .ok (.aload_n 0, 1) := by decide +kernel
theorem dX5_putAshore_17 : decode cX5_putAshore 17 = .ok (.getfield 29, 3) := by decide +kernel
theorem dX5_putAshore_20 : decode cX5_putAshore 20 = .ok (.iload_n 3, 1) := by decide +kernel
theorem dX5_putAshore_21 : decode cX5_putAshore 21 = .ok (.dup2, 1) := by decide +kernel
theorem dX5_putAshore_22 : decode cX5_putAshore 22 = .ok (.iaload, 1) := by decide +kernel
theorem dX5_putAshore_23 : decode cX5_putAshore 23 = .ok (.aload_n 0, 1) := by decide +kernel
theorem dX5_putAshore_24 : decode cX5_putAshore 24 = .ok (.getfield 12, 3) := by decide +kernel
theorem dX5_putAshore_27 : decode cX5_putAshore 27 = .ok (.getfield 90, 3) := by decide +kernel
theorem dX5_putAshore_30 : decode cX5_putAshore 30 = .ok (.iload_n 3, 1) := by decide +kernel
theorem dX5_putAshore_31 : decode cX5_putAshore 31 = .ok (.iaload, 1) := by decide +kernel
theorem dX5_putAshore_32 : decode cX5_putAshore 32 = .ok (.iadd, 1) := by decide +kernel
theorem dX5_putAshore_33 : decode cX5_putAshore 33 = .ok (.iastore, 1) := by decide +kernel
theorem dX5_putAshore_34 : decode cX5_putAshore 34 = .ok (.iinc 3 1, 3) := by decide +kernel
theorem dX5_putAshore_37 : decode cX5_putAshore 37 = .ok (.goto (-27), 3) := by decide +kernel
theorem dX5_putAshore_40 : decode cX5_putAshore 40 = .ok (.aload_n 0, 1) := by decide +kernel
theorem dX5_putAshore_41 : decode cX5_putAshore 41 = .ok (.getfield 93, 3) := by decide +kernel
theorem dX5_putAshore_44 : decode cX5_putAshore 44 = .ok (.ifCond .ne 8, 3) := by decide +kernel
theorem dX5_putAshore_47 : decode cX5_putAshore 47 = .ok (.aload_n 0, 1) := by decide +kernel
theorem dX5_putAshore_48 : decode cX5_putAshore 48 = .ok (.iload_n 2, 1) := by decide +kernel
theorem dX5_putAshore_49 : decode cX5_putAshore 49 = .ok (.putfield 96, 3) := by decide +kernel
theorem dX5_putAshore_52 : decode cX5_putAshore 52 = .ok (.aload_n 0, 1) := by decide +kernel
theorem dX5_putAshore_53 : decode cX5_putAshore 53 = .ok (.iload_n 2, 1) := by decide +kernel
theorem dX5_putAshore_54 : decode cX5_putAshore 54 = .ok (.putfield 99, 3) := by decide +kernel
theorem dX5_putAshore_57 : decode cX5_putAshore 57 = .ok (.aload_n 0, 1) := by decide +kernel
theorem dX5_putAshore_58 : decode cX5_putAshore 58 = .ok (.dup, 1) := by decide +kernel
theorem dX5_putAshore_59 : decode cX5_putAshore 59 = .ok (.getfield 93, 3) := by decide +kernel
theorem dX5_putAshore_62 : decode cX5_putAshore 62 = .ok (.iload_n 1, 1) := by decide +kernel
theorem dX5_putAshore_63 : decode cX5_putAshore 63 = .ok (.iadd, 1) := by decide +kernel
theorem dX5_putAshore_64 : decode cX5_putAshore 64 = .ok (.putfield 93, 3) := by decide +kernel
theorem dX5_putAshore_67 : decode cX5_putAshore 67 = .ok (.aload_n 0, 1) := by decide +kernel
theorem dX5_putAshore_68 : decode cX5_putAshore 68 = .ok (.getfield 25, 3) := by decide +kernel
theorem dX5_putAshore_71 : decode cX5_putAshore 71 = .ok (.iconst 3, 1) := by decide +kernel
theorem dX5_putAshore_72 : decode cX5_putAshore 72 = .ok (.dup2, 1) := by decide +kernel
theorem dX5_putAshore_73 : decode cX5_putAshore 73 = .ok (.laload, 1) := by decide +kernel
theorem dX5_putAshore_74 : decode cX5_putAshore 74 = .ok (.iload_n 1, 1) := by decide +kernel
theorem dX5_putAshore_75 : decode cX5_putAshore 75 = .ok (.i2l, 1) := by decide +kernel
theorem dX5_putAshore_76 : decode cX5_putAshore 76 = .ok (.ladd, 1) := by decide +kernel
theorem dX5_putAshore_77 : decode cX5_putAshore 77 = .ok (.lastore, 1) := by decide +kernel
theorem dX5_putAshore_78 : decode cX5_putAshore 78 = .ok (.return_, 1) := by decide +kernel
set_option maxRecDepth 20000 in
theorem ggX5_forgetLanding_J7_fill_53178 : GoodIn wsX5_forgetLanding wsJ7_fill_53178 := goodIn_r _ [6] (by decide +kernel) (by decide +kernel)
set_option maxRecDepth 20000 in
theorem gX5_forgetLanding_J7_fill_53178 : GoodIn wsX5_forgetLanding (va_wsS RX5 71 yJ7_fill_53178 wsJ7_fill_53178) := goodIn_app (goodIn_of _ (by decide +kernel)) ggX5_forgetLanding_J7_fill_53178
theorem dX5_forgetLanding_0 : decode cX5_forgetLanding 0 = .ok (.aload_n 0, 1) := by decide +kernel
theorem dX5_forgetLanding_1 : decode cX5_forgetLanding 1 = .ok (.iconst 0, 1) := by decide +kernel
theorem dX5_forgetLanding_2 : decode cX5_forgetLanding 2 = .ok (.putfield 93, 3) := by decide +kernel
theorem dX5_forgetLanding_5 : decode cX5_forgetLanding 5 = .ok (.aload_n 0, 1) := by decide +kernel
theorem dX5_forgetLanding_6 : decode cX5_forgetLanding 6 = .ok (.getfield 29, 3) := by decide +kernel
theorem dX5_forgetLanding_9 : decode cX5_forgetLanding 9 = .ok (.iconst 0, 1) := by decide +kernel
theorem dX5_forgetLanding_10 : decode cX5_forgetLanding 10 = .ok (.invokestatic 71, 3) := by decide +kernel
theorem dX5_forgetLanding_13 : decode cX5_forgetLanding 13 = .ok (.return_, 1) := by decide +kernel
theorem dX5_gaugeCounts_0 : decode cX5_gaugeCounts 0 = .ok (.iconst 0, 1) := by decide +kernel
theorem dX5_gaugeCounts_1 : decode cX5_gaugeCounts 1 = .ok (.istore_n 1, 1) := by decide +kernel
theorem dX5_gaugeCounts_2 : decode cX5_gaugeCounts 2 = .ok (.iload_n 1, 1) := by decide +kernel
theorem dX5_gaugeCounts_3 : decode cX5_gaugeCounts 3 = .ok (.iconst 4, 1) := by decide +kernel
theorem dX5_gaugeCounts_4 : decode cX5_gaugeCounts 4 = .ok (.if_icmp .ge 61, 3) := by decide +kernel
theorem dX5_gaugeCounts_7 : decode cX5_gaugeCounts 7 = .ok (.aload_n 0, 1) := by decide +kernel
theorem dX5_gaugeCounts_8 : decode cX5_gaugeCounts 8 = .ok (.getfield 32, 3) := by decide +kernel
theorem dX5_gaugeCounts_11 : decode cX5_gaugeCounts 11 = .ok (.iload_n 1, 1) := by decide +kernel
theorem dX5_gaugeCounts_12 : decode cX5_gaugeCounts 12 = .ok (.iaload, 1) := by decide +kernel
theorem dX5_gaugeCounts_13 : decode cX5_gaugeCounts 13 = .ok (.iconst (-1), 1) := by decide +kernel
theorem dX5_gaugeCounts_14 : decode cX5_gaugeCounts 14 = .ok (.if_icmp .ne 5, 3) := by decide +kernel
theorem dX5_gaugeCounts_17 : decode cX5_gaugeCounts 17 = .ok (.iconst 0, 1) := by decide +kernel
theorem dX5_gaugeCounts_18 : decode cX5_gaugeCounts 18 = .ok (.ireturn, 1) := by decide +kernel
theorem dX5_gaugeCounts_19 : decode cX5_gaugeCounts 19 = .ok (.iload_n 1, 1) := by decide +kernel
theorem dX5_gaugeCounts_20 : decode cX5_gaugeCounts 20 = .ok (.ifCond .le 39, 3) := by decide +kernel
theorem dX5_gaugeCounts_23 : decode cX5_gaugeCounts 23 = .ok (.aload_n 0, 1) := by decide +kernel
theorem dX5_gaugeCounts_24 : decode cX5_gaugeCounts 24 = .ok (.getfield 32, 3) := by decide +kernel
theorem dX5_gaugeCounts_27 : decode cX5_gaugeCounts 27 = .ok (.iload_n 1, 1) := by decide +kernel
theorem dX5_gaugeCounts_28 : decode cX5_gaugeCounts 28 = .ok (.iaload, 1) := by decide +kernel
theorem dX5_gaugeCounts_29 : decode cX5_gaugeCounts 29 = .ok (.aload_n 0, 1) := by decide +kernel
theorem dX5_gaugeCounts_30 : decode cX5_gaugeCounts 30 = .ok (.getfield 32, 3) := by decide +kernel
theorem dX5_gaugeCounts_33 : decode cX5_gaugeCounts 33 = .ok (.iload_n 1, 1) := by decide +kernel
theorem dX5_gaugeCounts_34 : decode cX5_gaugeCounts 34 = .ok (.iconst 1, 1) := by decide +kernel
theorem dX5_gaugeCounts_35 : decode cX5_gaugeCounts 35 = .ok (.isub, 1) := by decide +kernel
theorem dX5_gaugeCounts_36 : decode cX5_gaugeCounts 36 = .ok (.iaload, 1) := by decide +kernel
theorem dX5_gaugeCounts_37 : decode cX5_gaugeCounts 37 = .ok (.if_icmp .le 20, 3) := by decide +kernel
theorem dX5_gaugeCounts_40 : decode cX5_gaugeCounts 40 = .ok (.aload_n 0, 1) := by decide +kernel
theorem dX5_gaugeCounts_41 : decode cX5_gaugeCounts 41 = .ok (.getfield 35, 3) := by decide +kernel
theorem dX5_gaugeCounts_44 : decode cX5_gaugeCounts 44 = .ok (.iload_n 1, 1) := by decide +kernel
theorem dX5_gaugeCounts_45 : decode cX5_gaugeCounts 45 = .ok (.iaload, 1) := by decide +kernel
theorem dX5_gaugeCounts_46 : decode cX5_gaugeCounts 46 = .ok (.aload_n 0, 1) := by decide +kernel
theorem dX5_gaugeCounts_47 : decode cX5_gaugeCounts 47 = .ok (.getfield 35, 3) := by decide +kernel
theorem dX5_gaugeCounts_50 : decode cX5_gaugeCounts 50 = .ok (.iload_n 1, 1) := by decide +kernel
theorem dX5_gaugeCounts_51 : decode cX5_gaugeCounts 51 = .ok (.iconst 1, 1) := by decide +kernel
theorem dX5_gaugeCounts_52 : decode cX5_gaugeCounts 52 = .ok (.isub, 1) := by decide +kernel
theorem dX5_gaugeCounts_53 : decode cX5_gaugeCounts 53 = .ok (.iaload, 1) := by decide +kernel
theorem dX5_gaugeCounts_54 : decode cX5_gaugeCounts 54 = .ok (.if_icmp .ge 5, 3) := by decide +kernel
theorem dX5_gaugeCounts_57 : decode cX5_gaugeCounts 57 = .ok (.iconst 0, 1) := by decide +kernel
theorem dX5_gaugeCounts_58 : decode cX5_gaugeCounts 58 = .ok (.ireturn, 1) := by decide +kernel
theorem dX5_gaugeCounts_59 : decode cX5_gaugeCounts 59 = .ok (.iinc 1 1, 3) := by decide +kernel
theorem dX5_gaugeCounts_62 : decode cX5_gaugeCounts 62 = .ok (.goto (-60), 3) := by decide +kernel
theorem dX5_gaugeCounts_65 : decode cX5_gaugeCounts 65 = .ok (.iconst 1, 1) := by decide +kernel
theorem dX5_gaugeCounts_66 : decode cX5_gaugeCounts 66 = .ok (.ireturn, 1) := by decide +kernel
theorem dX5_tonsAt_0 : decode cX5_tonsAt 0 = .ok (.iload_n 1, 1) := by decide +kernel
theorem dX5_tonsAt_1 : decode cX5_tonsAt 1 = .ok (.aload_n 0, 1) := by decide +kernel
theorem dX5_tonsAt_2 : decode cX5_tonsAt 2 = .ok (.getfield 32, 3) := by decide +kernel
theorem dX5_tonsAt_5 : decode cX5_tonsAt 5 = .ok (.iconst 0, 1) := by decide +kernel
theorem dX5_tonsAt_6 : decode cX5_tonsAt 6 = .ok (.iaload, 1) := by decide +kernel
theorem dX5_tonsAt_7 : decode cX5_tonsAt 7 = .ok (.if_icmp .gt 11, 3) := by decide +kernel
theorem dX5_tonsAt_10 : decode cX5_tonsAt 10 = .ok (.aload_n 0, 1) := by decide +kernel
theorem dX5_tonsAt_11 : decode cX5_tonsAt 11 = .ok (.getfield 35, 3) := by decide +kernel
theorem dX5_tonsAt_14 : decode cX5_tonsAt 14 = .ok (.iconst 0, 1) := by decide +kernel
theorem dX5_tonsAt_15 : decode cX5_tonsAt 15 = .ok (.iaload, 1) := by decide +kernel
theorem dX5_tonsAt_16 : decode cX5_tonsAt 16 = .ok (.i2l, 1) := by decide +kernel
theorem dX5_tonsAt_17 : decode cX5_tonsAt 17 = .ok (.lreturn, 1) := by decide +kernel
theorem dX5_tonsAt_18 : decode cX5_tonsAt 18 = .ok (.iconst 1, 1) := by decide +kernel
theorem dX5_tonsAt_19 : decode cX5_tonsAt 19 = .ok (.istore_n 2, 1) := by decide +kernel
theorem dX5_tonsAt_20 : decode cX5_tonsAt 20 = .ok (.iload_n 2, 1) := by decide +kernel
theorem dX5_tonsAt_21 : decode cX5_tonsAt 21 = .ok (.iconst 4, 1) := by decide +kernel
theorem dX5_tonsAt_22 : decode cX5_tonsAt 22 = .ok (.if_icmp .ge 85, 3) := by decide +kernel
theorem dX5_tonsAt_25 : decode cX5_tonsAt 25 = .ok (.aload_n 0, 1) := by decide +kernel
theorem dX5_tonsAt_26 : decode cX5_tonsAt 26 = .ok (.getfield 32, 3) := by decide +kernel
theorem dX5_tonsAt_29 : decode cX5_tonsAt 29 = .ok (.iload_n 2, 1) := by decide +kernel
theorem dX5_tonsAt_30 : decode cX5_tonsAt 30 = .ok (.iaload, 1) := by decide +kernel
theorem dX5_tonsAt_31 : decode cX5_tonsAt 31 = .ok (.aload_n 0, 1) := by decide +kernel
theorem dX5_tonsAt_32 : decode cX5_tonsAt 32 = .ok (.getfield 32, 3) := by decide +kernel
theorem dX5_tonsAt_35 : decode cX5_tonsAt 35 = .ok (.iload_n 2, 1) := by decide +kernel
theorem dX5_tonsAt_36 : decode cX5_tonsAt 36 = .ok (.iconst 1, 1) := by decide +kernel
theorem dX5_tonsAt_37 : decode cX5_tonsAt 37 = .ok (.isub, 1) := by decide +kernel
theorem dX5_tonsAt_38 : decode cX5_tonsAt 38 = .ok (.iaload, 1) := by decide +kernel
theorem dX5_tonsAt_39 : decode cX5_tonsAt 39 = .ok (.isub, 1) := by decide +kernel
theorem dX5_tonsAt_40 : decode cX5_tonsAt 40 = .ok (.istore_n 3, 1) := by decide +kernel
theorem dX5_tonsAt_41 : decode cX5_tonsAt 41 = .ok (.iload_n 1, 1) := by decide +kernel
theorem dX5_tonsAt_42 : decode cX5_tonsAt 42 = .ok (.aload_n 0, 1) := by decide +kernel
theorem dX5_tonsAt_43 : decode cX5_tonsAt 43 = .ok (.getfield 32, 3) := by decide +kernel
theorem dX5_tonsAt_46 : decode cX5_tonsAt 46 = .ok (.iload_n 2, 1) := by decide +kernel
theorem dX5_tonsAt_47 : decode cX5_tonsAt 47 = .ok (.iaload, 1) := by decide +kernel
theorem dX5_tonsAt_48 : decode cX5_tonsAt 48 = .ok (.if_icmp .ge 53, 3) := by decide +kernel
theorem dX5_tonsAt_51 : decode cX5_tonsAt 51 = .ok (.iload_n 3, 1) := by decide +kernel
theorem dX5_tonsAt_52 : decode cX5_tonsAt 52 = .ok (.ifCond .le 49, 3) := by decide +kernel
theorem dX5_tonsAt_55 : decode cX5_tonsAt 55 = .ok (.aload_n 0, 1) := by decide +kernel
theorem dX5_tonsAt_56 : decode cX5_tonsAt 56 = .ok (.getfield 35, 3) := by decide +kernel
theorem dX5_tonsAt_59 : decode cX5_tonsAt 59 = .ok (.iload_n 2, 1) := by decide +kernel
theorem dX5_tonsAt_60 : decode cX5_tonsAt 60 = .ok (.iaload, 1) := by decide +kernel
theorem dX5_tonsAt_61 : decode cX5_tonsAt 61 = .ok (.aload_n 0, 1) := by decide +kernel
theorem dX5_tonsAt_62 : decode cX5_tonsAt 62 = .ok (.getfield 35, 3) := by decide +kernel
theorem dX5_tonsAt_65 : decode cX5_tonsAt 65 = .ok (.iload_n 2, 1) := by decide +kernel
theorem dX5_tonsAt_66 : decode cX5_tonsAt 66 = .ok (.iconst 1, 1) := by decide +kernel
theorem dX5_tonsAt_67 : decode cX5_tonsAt 67 = .ok (.isub, 1) := by decide +kernel
theorem dX5_tonsAt_68 : decode cX5_tonsAt 68 = .ok (.iaload, 1) := by decide +kernel
theorem dX5_tonsAt_69 : decode cX5_tonsAt 69 = .ok (.isub, 1) := by decide +kernel
theorem dX5_tonsAt_70 : decode cX5_tonsAt 70 = .ok (.i2l, 1) := by decide +kernel
theorem dX5_tonsAt_71 : decode cX5_tonsAt 71 = .ok (.lstore 4, 2) := by decide +kernel
theorem dX5_tonsAt_73 : decode cX5_tonsAt 73 = .ok (.aload_n 0, 1) := by decide +kernel
theorem dX5_tonsAt_74 : decode cX5_tonsAt 74 = .ok (.getfield 35, 3) := by decide +kernel
theorem dX5_tonsAt_77 : decode cX5_tonsAt 77 = .ok (.iload_n 2, 1) := by decide +kernel
theorem dX5_tonsAt_78 : decode cX5_tonsAt 78 = .ok (.iconst 1, 1) := by decide +kernel
theorem dX5_tonsAt_79 : decode cX5_tonsAt 79 = .ok (.isub, 1) := by decide +kernel
theorem dX5_tonsAt_80 : decode cX5_tonsAt 80 = .ok (.iaload, 1) := by decide +kernel
theorem dX5_tonsAt_81 : decode cX5_tonsAt 81 = .ok (.i2l, 1) := by decide +kernel
theorem dX5_tonsAt_82 : decode cX5_tonsAt 82 = .ok (.lload 4, 2) := by decide +kernel
theorem dX5_tonsAt_84 : decode cX5_tonsAt 84 = .ok (.iload_n 1, 1) := by decide +kernel
theorem dX5_tonsAt_85 : decode cX5_tonsAt 85 = .ok (.aload_n 0, 1) := by decide +kernel
theorem dX5_tonsAt_86 : decode cX5_tonsAt 86 = .ok (.getfield 32, 3) := by decide +kernel
theorem dX5_tonsAt_89 : decode cX5_tonsAt 89 = .ok (.iload_n 2, 1) := by decide +kernel
theorem dX5_tonsAt_90 : decode cX5_tonsAt 90 = .ok (.iconst 1, 1) := by decide +kernel
theorem dX5_tonsAt_91 : decode cX5_tonsAt 91 = .ok (.isub, 1) := by decide +kernel
theorem dX5_tonsAt_92 : decode cX5_tonsAt 92 = .ok (.iaload, 1) := by decide +kernel
theorem dX5_tonsAt_93 : decode cX5_tonsAt 93 = .ok (.isub, 1) := by decide +kernel
theorem dX5_tonsAt_94 : decode cX5_tonsAt 94 = .ok (.i2l, 1) := by decide +kernel
theorem dX5_tonsAt_95 : decode cX5_tonsAt 95 = .ok (.lmul, 1) := by decide +kernel
theorem dX5_tonsAt_96 : decode cX5_tonsAt 96 = .ok (.iload_n 3, 1) := by decide +kernel
theorem dX5_tonsAt_97 : decode cX5_tonsAt 97 = .ok (.i2l, 1) := by decide +kernel
theorem dX5_tonsAt_98 : decode cX5_tonsAt 98 = .ok (.ldiv, 1) := by decide +kernel
theorem dX5_tonsAt_99 : decode cX5_tonsAt 99 = .ok (.ladd, 1) := by decide +kernel
theorem dX5_tonsAt_100 : decode cX5_tonsAt 100 = .ok (.lreturn, 1) := by decide +kernel
theorem dX5_tonsAt_101 : decode cX5_tonsAt 101 = .ok (.iinc 2 1, 3) := by decide +kernel
theorem dX5_tonsAt_104 : decode cX5_tonsAt 104 = .ok (.goto (-84), 3) := by decide +kernel
theorem dX5_tonsAt_107 : decode cX5_tonsAt 107 = .ok (.aload_n 0, 1) := by decide +kernel
theorem dX5_tonsAt_108 : decode cX5_tonsAt 108 = .ok (.getfield 35, 3) := by decide +kernel
theorem dX5_tonsAt_111 : decode cX5_tonsAt 111 = .ok (.iconst 3, 1) := by decide +kernel
theorem dX5_tonsAt_112 : decode cX5_tonsAt 112 = .ok (.iaload, 1) := by decide +kernel
theorem dX5_tonsAt_113 : decode cX5_tonsAt 113 = .ok (.i2l, 1) := by decide +kernel
theorem dX5_tonsAt_114 : decode cX5_tonsAt 114 = .ok (.lreturn, 1) := by decide +kernel
set_option maxRecDepth 20000 in
theorem ggX5_copyFrom_X7_copyFrom : GoodIn wsX5_copyFrom wsX7_copyFrom := goodIn_r _ [26, 27, 28, 29, 30, 31, 32, 14, 15, 16, 50, 51, 52, 53, 54, 55, 56] (by decide +kernel) (by decide +kernel)
set_option maxRecDepth 20000 in
theorem gX5_copyFrom_X7_copyFrom : GoodIn wsX5_copyFrom (wsV RX5 102 RX7 yX7_copyFrom wsX7_copyFrom) := goodIn_app (goodIn_of _ (by decide +kernel)) ggX5_copyFrom_X7_copyFrom
theorem dX5_copyFrom_0 : decode cX5_copyFrom 0 = .ok (.aload_n 0, 1) := by decide +kernel
theorem dX5_copyFrom_1 : decode cX5_copyFrom 1 = .ok (.getfield 12, 3) := by decide +kernel
theorem dX5_copyFrom_4 : decode cX5_copyFrom 4 = .ok (.aload_n 1, 1) := by decide +kernel
theorem dX5_copyFrom_5 : decode cX5_copyFrom 5 = .ok (.getfield 12, 3) := by decide +kernel
theorem dX5_copyFrom_8 : decode cX5_copyFrom 8 = .ok (.invokevirtual 102, 3) := by decide +kernel
theorem dX5_copyFrom_11 : decode cX5_copyFrom 11 = .ok (.aload_n 0, 1) := by decide +kernel
theorem dX5_copyFrom_12 : decode cX5_copyFrom 12 = .ok (.aload_n 1, 1) := by decide +kernel
theorem dX5_copyFrom_13 : decode cX5_copyFrom 13 = .ok (.getfield 42, 3) := by decide +kernel
theorem dX5_copyFrom_16 : decode cX5_copyFrom 16 = .ok (.putfield 42, 3) := by decide +kernel
theorem dX5_copyFrom_19 : decode cX5_copyFrom 19 = .ok (.aload_n 0, 1) := by decide +kernel
theorem dX5_copyFrom_20 : decode cX5_copyFrom 20 = .ok (.aload_n 1, 1) := by decide +kernel
theorem dX5_copyFrom_21 : decode cX5_copyFrom 21 = .ok (.getfield 46, 3) := by decide +kernel
theorem dX5_copyFrom_24 : decode cX5_copyFrom 24 = .ok (.putfield 46, 3) := by decide +kernel
theorem dX5_copyFrom_27 : decode cX5_copyFrom 27 = .ok (.aload_n 0, 1) := by decide +kernel
theorem dX5_copyFrom_28 : decode cX5_copyFrom 28 = .ok (.aload_n 1, 1) := by decide +kernel
theorem dX5_copyFrom_29 : decode cX5_copyFrom 29 = .ok (.getfield 49, 3) := by decide +kernel
theorem dX5_copyFrom_32 : decode cX5_copyFrom 32 = .ok (.putfield 49, 3) := by decide +kernel
theorem dX5_copyFrom_35 : decode cX5_copyFrom 35 = .ok (.aload_n 0, 1) := by decide +kernel
theorem dX5_copyFrom_36 : decode cX5_copyFrom 36 = .ok (.aload_n 1, 1) := by decide +kernel
theorem dX5_copyFrom_37 : decode cX5_copyFrom 37 = .ok (.getfield 52, 3) := by decide +kernel
theorem dX5_copyFrom_40 : decode cX5_copyFrom 40 = .ok (.putfield 52, 3) := by decide +kernel
theorem dX5_copyFrom_43 : decode cX5_copyFrom 43 = .ok (.aload_n 0, 1) := by decide +kernel
theorem dX5_copyFrom_44 : decode cX5_copyFrom 44 = .ok (.aload_n 1, 1) := by decide +kernel
theorem dX5_copyFrom_45 : decode cX5_copyFrom 45 = .ok (.getfield 55, 3) := by decide +kernel
theorem dX5_copyFrom_48 : decode cX5_copyFrom 48 = .ok (.putfield 55, 3) := by decide +kernel
theorem dX5_copyFrom_51 : decode cX5_copyFrom 51 = .ok (.aload_n 0, 1) := by decide +kernel
theorem dX5_copyFrom_52 : decode cX5_copyFrom 52 = .ok (.aload_n 1, 1) := by decide +kernel
theorem dX5_copyFrom_53 : decode cX5_copyFrom 53 = .ok (.getfield 59, 3) := by decide +kernel
theorem dX5_copyFrom_56 : decode cX5_copyFrom 56 = .ok (.putfield 59, 3) := by decide +kernel
theorem dX5_copyFrom_59 : decode cX5_copyFrom 59 = .ok (.aload_n 0, 1) := by decide +kernel
theorem dX5_copyFrom_60 : decode cX5_copyFrom 60 = .ok (.aload_n 1, 1) := by decide +kernel
theorem dX5_copyFrom_61 : decode cX5_copyFrom 61 = .ok (.getfield 62, 3) := by decide +kernel
theorem dX5_copyFrom_64 : decode cX5_copyFrom 64 = .ok (.putfield 62, 3) := by decide +kernel
theorem dX5_copyFrom_67 : decode cX5_copyFrom 67 = .ok (.aload_n 0, 1) := by decide +kernel
theorem dX5_copyFrom_68 : decode cX5_copyFrom 68 = .ok (.aload_n 1, 1) := by decide +kernel
theorem dX5_copyFrom_69 : decode cX5_copyFrom 69 = .ok (.getfield 96, 3) := by decide +kernel
theorem dX5_copyFrom_72 : decode cX5_copyFrom 72 = .ok (.putfield 96, 3) := by decide +kernel
theorem dX5_copyFrom_75 : decode cX5_copyFrom 75 = .ok (.aload_n 0, 1) := by decide +kernel
theorem dX5_copyFrom_76 : decode cX5_copyFrom 76 = .ok (.aload_n 1, 1) := by decide +kernel
theorem dX5_copyFrom_77 : decode cX5_copyFrom 77 = .ok (.getfield 99, 3) := by decide +kernel
theorem dX5_copyFrom_80 : decode cX5_copyFrom 80 = .ok (.putfield 99, 3) := by decide +kernel
theorem dX5_copyFrom_83 : decode cX5_copyFrom 83 = .ok (.aload_n 0, 1) := by decide +kernel
theorem dX5_copyFrom_84 : decode cX5_copyFrom 84 = .ok (.aload_n 1, 1) := by decide +kernel
theorem dX5_copyFrom_85 : decode cX5_copyFrom 85 = .ok (.getfield 93, 3) := by decide +kernel
theorem dX5_copyFrom_88 : decode cX5_copyFrom 88 = .ok (.putfield 93, 3) := by decide +kernel
theorem dX5_copyFrom_91 : decode cX5_copyFrom 91 = .ok (.aload_n 1, 1) := by decide +kernel
theorem dX5_copyFrom_92 : decode cX5_copyFrom 92 = .ok (.getfield 18, 3) := by decide +kernel
theorem dX5_copyFrom_95 : decode cX5_copyFrom 95 = .ok (.iconst 0, 1) := by decide +kernel
theorem dX5_copyFrom_96 : decode cX5_copyFrom 96 = .ok (.aload_n 0, 1) := by decide +kernel
theorem dX5_copyFrom_97 : decode cX5_copyFrom 97 = .ok (.getfield 18, 3) := by decide +kernel
theorem dX5_copyFrom_100 : decode cX5_copyFrom 100 = .ok (.iconst 0, 1) := by decide +kernel
theorem dX5_copyFrom_101 : decode cX5_copyFrom 101 = .ok (.bipush 20, 2) := by decide +kernel
theorem dX5_copyFrom_103 : decode cX5_copyFrom 103 = .ok (.invokestatic 77, 3) := by decide +kernel
theorem dX5_copyFrom_106 : decode cX5_copyFrom 106 = .ok (.aload_n 1, 1) := by decide +kernel
theorem dX5_copyFrom_107 : decode cX5_copyFrom 107 = .ok (.getfield 22, 3) := by decide +kernel
theorem dX5_copyFrom_110 : decode cX5_copyFrom 110 = .ok (.iconst 0, 1) := by decide +kernel
theorem dX5_copyFrom_111 : decode cX5_copyFrom 111 = .ok (.aload_n 0, 1) := by decide +kernel
theorem dX5_copyFrom_112 : decode cX5_copyFrom 112 = .ok (.getfield 22, 3) := by decide +kernel
theorem dX5_copyFrom_115 : decode cX5_copyFrom 115 = .ok (.iconst 0, 1) := by decide +kernel
theorem dX5_copyFrom_116 : decode cX5_copyFrom 116 = .ok (.bipush 20, 2) := by decide +kernel
theorem dX5_copyFrom_118 : decode cX5_copyFrom 118 = .ok (.invokestatic 77, 3) := by decide +kernel
theorem dX5_copyFrom_121 : decode cX5_copyFrom 121 = .ok (.aload_n 1, 1) := by decide +kernel
theorem dX5_copyFrom_122 : decode cX5_copyFrom 122 = .ok (.getfield 25, 3) := by decide +kernel
theorem dX5_copyFrom_125 : decode cX5_copyFrom 125 = .ok (.iconst 0, 1) := by decide +kernel
theorem dX5_copyFrom_126 : decode cX5_copyFrom 126 = .ok (.aload_n 0, 1) := by decide +kernel
theorem dX5_copyFrom_127 : decode cX5_copyFrom 127 = .ok (.getfield 25, 3) := by decide +kernel
theorem dX5_copyFrom_130 : decode cX5_copyFrom 130 = .ok (.iconst 0, 1) := by decide +kernel
theorem dX5_copyFrom_131 : decode cX5_copyFrom 131 = .ok (.iconst 4, 1) := by decide +kernel
theorem dX5_copyFrom_132 : decode cX5_copyFrom 132 = .ok (.invokestatic 77, 3) := by decide +kernel
theorem dX5_copyFrom_135 : decode cX5_copyFrom 135 = .ok (.aload_n 1, 1) := by decide +kernel
theorem dX5_copyFrom_136 : decode cX5_copyFrom 136 = .ok (.getfield 29, 3) := by decide +kernel
theorem dX5_copyFrom_139 : decode cX5_copyFrom 139 = .ok (.iconst 0, 1) := by decide +kernel
theorem dX5_copyFrom_140 : decode cX5_copyFrom 140 = .ok (.aload_n 0, 1) := by decide +kernel
theorem dX5_copyFrom_141 : decode cX5_copyFrom 141 = .ok (.getfield 29, 3) := by decide +kernel
theorem dX5_copyFrom_144 : decode cX5_copyFrom 144 = .ok (.iconst 0, 1) := by decide +kernel
theorem dX5_copyFrom_145 : decode cX5_copyFrom 145 = .ok (.bipush 6, 2) := by decide +kernel
theorem dX5_copyFrom_147 : decode cX5_copyFrom 147 = .ok (.invokestatic 77, 3) := by decide +kernel
theorem dX5_copyFrom_150 : decode cX5_copyFrom 150 = .ok (.aload_n 1, 1) := by decide +kernel
theorem dX5_copyFrom_151 : decode cX5_copyFrom 151 = .ok (.getfield 32, 3) := by decide +kernel
theorem dX5_copyFrom_154 : decode cX5_copyFrom 154 = .ok (.iconst 0, 1) := by decide +kernel
theorem dX5_copyFrom_155 : decode cX5_copyFrom 155 = .ok (.aload_n 0, 1) := by decide +kernel
theorem dX5_copyFrom_156 : decode cX5_copyFrom 156 = .ok (.getfield 32, 3) := by decide +kernel
theorem dX5_copyFrom_159 : decode cX5_copyFrom 159 = .ok (.iconst 0, 1) := by decide +kernel
theorem dX5_copyFrom_160 : decode cX5_copyFrom 160 = .ok (.iconst 4, 1) := by decide +kernel
theorem dX5_copyFrom_161 : decode cX5_copyFrom 161 = .ok (.invokestatic 77, 3) := by decide +kernel
theorem dX5_copyFrom_164 : decode cX5_copyFrom 164 = .ok (.aload_n 1, 1) := by decide +kernel
theorem dX5_copyFrom_165 : decode cX5_copyFrom 165 = .ok (.getfield 35, 3) := by decide +kernel
theorem dX5_copyFrom_168 : decode cX5_copyFrom 168 = .ok (.iconst 0, 1) := by decide +kernel
theorem dX5_copyFrom_169 : decode cX5_copyFrom 169 = .ok (.aload_n 0, 1) := by decide +kernel
theorem dX5_copyFrom_170 : decode cX5_copyFrom 170 = .ok (.getfield 35, 3) := by decide +kernel
theorem dX5_copyFrom_173 : decode cX5_copyFrom 173 = .ok (.iconst 0, 1) := by decide +kernel
theorem dX5_copyFrom_174 : decode cX5_copyFrom 174 = .ok (.iconst 4, 1) := by decide +kernel
theorem dX5_copyFrom_175 : decode cX5_copyFrom 175 = .ok (.invokestatic 77, 3) := by decide +kernel
theorem dX5_copyFrom_178 : decode cX5_copyFrom 178 = .ok (.return_, 1) := by decide +kernel
