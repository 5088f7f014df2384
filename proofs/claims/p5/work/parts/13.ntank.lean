theorem goodIn_app {big a b : List Cond} (ha : GoodIn big a) (hb : GoodIn big b) : GoodIn big (a ++ b) := fun w h => (List.mem_append.mp h).elim (ha w) (hb w)
abbrev cX7_begin : ByteArray := prog_9_method_2_code
def yX7_begin : MethodName := ⟨RX7, "begin", "(I)V"⟩
abbrev cX7_heel : ByteArray := prog_9_method_3_code
def yX7_heel : MethodName := ⟨RX7, "heel", "()I"⟩
abbrev cX7_top : ByteArray := prog_9_method_4_code
def yX7_top : MethodName := ⟨RX7, "top", "()I"⟩
abbrev cX7_draft : ByteArray := prog_9_method_5_code
def yX7_draft : MethodName := ⟨RX7, "draft", "()I"⟩
abbrev cX7_press : ByteArray := prog_9_method_6_code
def yX7_press : MethodName := ⟨RX7, "press", "()I"⟩
abbrev cX7_boil : ByteArray := prog_9_method_7_code
def yX7_boil : MethodName := ⟨RX7, "boil", "(I)V"⟩
abbrev cX7_warmOrCool : ByteArray := prog_9_method_8_code
def yX7_warmOrCool : MethodName := ⟨RX7, "warmOrCool", "()V"⟩
abbrev cX7_burn : ByteArray := prog_9_method_9_code
def yX7_burn : MethodName := ⟨RX7, "burn", "(I)I"⟩
abbrev cX7_fill : ByteArray := prog_9_method_10_code
def yX7_fill : MethodName := ⟨RX7, "fill", "(II)V"⟩
abbrev cX7_vent : ByteArray := prog_9_method_11_code
def yX7_vent : MethodName := ⟨RX7, "vent", "(I)I"⟩
abbrev cX7_takeGas : ByteArray := prog_9_method_12_code
def yX7_takeGas : MethodName := ⟨RX7, "takeGas", "(I)V"⟩
abbrev cX7_copyFrom : ByteArray := prog_9_method_13_code
def yX7_copyFrom : MethodName := ⟨RX7, "copyFrom", "(LColdShips$Tank;)V"⟩
abbrev cX7_giveByRests : ByteArray := prog_9_method_14_code
def yX7_giveByRests : MethodName := ⟨RX7, "giveByRests", "(I)V"⟩
abbrev cX7_evaporate : ByteArray := prog_9_method_15_code
def yX7_evaporate : MethodName := ⟨RX7, "evaporate", "(I)V"⟩
abbrev cX7_space : ByteArray := prog_9_method_16_code
def yX7_space : MethodName := ⟨RX7, "space", "()I"⟩
def RJ7 : String := "java/util/Arrays"
abbrev cJ7_fill_d0a16 : ByteArray := prog_22_method_101_code
def yJ7_fill_d0a16 : MethodName := ⟨RJ7, "fill", "([JJ)V"⟩
abbrev cJ7_fill_53178 : ByteArray := prog_22_method_103_code
def yJ7_fill_53178 : MethodName := ⟨RJ7, "fill", "([II)V"⟩
def wsJ7_fill_d0a16 : List Cond := .code yJ7_fill_d0a16 cJ7_fill_d0a16 5 none :: ([])
def wsX7_top : List Cond := .code yX7_top cX7_top 1 (some .int) :: ([.fieldLink RX7 9 "ColdShips$Tank" "cap" "I"] ++ wsX70)
def wsJ7_fill_53178 : List Cond := .code yJ7_fill_53178 cJ7_fill_53178 4 none :: ([])
def wsX7_begin : List Cond := .code yX7_begin cX7_begin 2 none :: ([.methodLink RX7 26 Lib.Math.max.name, .static Lib.Math.max.name, .initialized "java/lang/Math", .code Lib.Math.max.name Lib.Math.max.code 2 (some .int), .fieldLink RX7 9 "ColdShips$Tank" "cap" "I", .fieldLink RX7 32 "ColdShips$Tank" "gas" "I", .fieldLink RX7 35 "ColdShips$Tank" "vapor" "I", .fieldLink RX7 38 "ColdShips$Tank" "warm" "I", .fieldLink RX7 15 "ColdShips$Tank" "parts" "[I", .methodLink RX7 41 yJ7_fill_53178, .static yJ7_fill_53178, .initialized RJ7, .code yJ7_fill_53178 cJ7_fill_53178 4 none] ++ wsX70)
def wsX7_giveByRests : List Cond := .code yX7_giveByRests cX7_giveByRests 5 none :: ([.fieldLink RX7 22 "ColdShips$Tank" "rests" "[J", .fieldLink RX7 19 "ColdShips$Tank" "given" "[I", .constantLong RX7 80 (-1)] ++ wsX70)
def wsX7_takeGas : List Cond := .code yX7_takeGas cX7_takeGas 6 none :: ([.fieldLink RX7 32 "ColdShips$Tank" "gas" "I", .fieldLink RX7 15 "ColdShips$Tank" "parts" "[I", .fieldLink RX7 19 "ColdShips$Tank" "given" "[I", .fieldLink RX7 22 "ColdShips$Tank" "rests" "[J", .methodLink RX7 71 yX7_giveByRests, .instanceMethod yX7_giveByRests, .selects RX7 yX7_giveByRests yX7_giveByRests, .initialized RX7, .code yX7_giveByRests cX7_giveByRests 5 none, .constantLong RX7 80 (-1)] ++ wsX70)
def wsX7_burn : List Cond := .code yX7_burn cX7_burn 4 (some .int) :: ([.fieldLink RX7 35 "ColdShips$Tank" "vapor" "I", .methodLink RX7 62 Lib.Math.min.name, .static Lib.Math.min.name, .initialized "java/lang/Math", .code Lib.Math.min.name Lib.Math.min.code 2 (some .int), .fieldLink RX7 32 "ColdShips$Tank" "gas" "I", .methodLink RX7 68 yX7_takeGas, .instanceMethod yX7_takeGas, .selects RX7 yX7_takeGas yX7_takeGas, .initialized RX7, .code yX7_takeGas cX7_takeGas 6 none, .fieldLink RX7 15 "ColdShips$Tank" "parts" "[I", .fieldLink RX7 19 "ColdShips$Tank" "given" "[I", .fieldLink RX7 22 "ColdShips$Tank" "rests" "[J", .methodLink RX7 71 yX7_giveByRests, .instanceMethod yX7_giveByRests, .selects RX7 yX7_giveByRests yX7_giveByRests, .code yX7_giveByRests cX7_giveByRests 5 none, .constantLong RX7 80 (-1)] ++ wsX70)
def wsX7_copyFrom : List Cond := .code yX7_copyFrom cX7_copyFrom 2 none :: ([.fieldLink RX7 9 "ColdShips$Tank" "cap" "I", .fieldLink RX7 32 "ColdShips$Tank" "gas" "I", .fieldLink RX7 35 "ColdShips$Tank" "vapor" "I", .fieldLink RX7 38 "ColdShips$Tank" "warm" "I", .fieldLink RX7 15 "ColdShips$Tank" "parts" "[I", .methodLink RX7 74 arraycopyName, .native arraycopyName, .static arraycopyName, .initialized "java/lang/System"] ++ wsX70)
def wsX7_heel : List Cond := .code yX7_heel cX7_heel 1 (some .int) :: ([.fieldLink RX7 9 "ColdShips$Tank" "cap" "I"] ++ wsX70)
def wsX7_draft : List Cond := .code yX7_draft cX7_draft 1 (some .int) :: ([.fieldLink RX7 32 "ColdShips$Tank" "gas" "I", .fieldLink RX7 9 "ColdShips$Tank" "cap" "I"] ++ wsX70)
def wsX7_space : List Cond := .code yX7_space cX7_space 1 (some .int) :: ([.fieldLink RX7 9 "ColdShips$Tank" "cap" "I", .fieldLink RX7 32 "ColdShips$Tank" "gas" "I", .methodLink RX7 26 Lib.Math.max.name, .static Lib.Math.max.name, .initialized "java/lang/Math", .code Lib.Math.max.name Lib.Math.max.code 2 (some .int)] ++ wsX70)
def wsX7_press : List Cond := .code yX7_press cX7_press 1 (some .int) :: ([.fieldLink RX7 35 "ColdShips$Tank" "vapor" "I", .constantLong RX7 47 (1000), .methodLink RX7 49 yX7_space, .instanceMethod yX7_space, .selects RX7 yX7_space yX7_space, .initialized RX7, .code yX7_space cX7_space 1 (some .int), .fieldLink RX7 9 "ColdShips$Tank" "cap" "I", .fieldLink RX7 32 "ColdShips$Tank" "gas" "I", .methodLink RX7 26 Lib.Math.max.name, .static Lib.Math.max.name, .initialized "java/lang/Math", .code Lib.Math.max.name Lib.Math.max.code 2 (some .int)] ++ wsX70)
def wsX7_evaporate : List Cond := .code yX7_evaporate cX7_evaporate 2 none :: ([.fieldLink RX7 35 "ColdShips$Tank" "vapor" "I", .methodLink RX7 68 yX7_takeGas, .instanceMethod yX7_takeGas, .selects RX7 yX7_takeGas yX7_takeGas, .initialized RX7, .code yX7_takeGas cX7_takeGas 6 none, .fieldLink RX7 32 "ColdShips$Tank" "gas" "I", .fieldLink RX7 15 "ColdShips$Tank" "parts" "[I", .fieldLink RX7 19 "ColdShips$Tank" "given" "[I", .fieldLink RX7 22 "ColdShips$Tank" "rests" "[J", .methodLink RX7 71 yX7_giveByRests, .instanceMethod yX7_giveByRests, .selects RX7 yX7_giveByRests yX7_giveByRests, .code yX7_giveByRests cX7_giveByRests 5 none, .constantLong RX7 80 (-1)] ++ wsX70)
def wsX7_boil : List Cond := .code yX7_boil cX7_boil 2 none :: ([.fieldLink RX7 32 "ColdShips$Tank" "gas" "I", .constantLong RX7 53 (100000), .methodLink RX7 55 yX7_evaporate, .instanceMethod yX7_evaporate, .selects RX7 yX7_evaporate yX7_evaporate, .initialized RX7, .code yX7_evaporate cX7_evaporate 2 none, .fieldLink RX7 35 "ColdShips$Tank" "vapor" "I", .methodLink RX7 68 yX7_takeGas, .instanceMethod yX7_takeGas, .selects RX7 yX7_takeGas yX7_takeGas, .code yX7_takeGas cX7_takeGas 6 none, .fieldLink RX7 15 "ColdShips$Tank" "parts" "[I", .fieldLink RX7 19 "ColdShips$Tank" "given" "[I", .fieldLink RX7 22 "ColdShips$Tank" "rests" "[J", .methodLink RX7 71 yX7_giveByRests, .instanceMethod yX7_giveByRests, .selects RX7 yX7_giveByRests yX7_giveByRests, .code yX7_giveByRests cX7_giveByRests 5 none, .constantLong RX7 80 (-1)] ++ wsX70)
def wsX7_warmOrCool_r1 : List Cond := [Cond.fieldLink RX7 32 "ColdShips$Tank" "gas" "I", Cond.fieldLink RX7 38 "ColdShips$Tank" "warm" "I", Cond.methodLink RX7 62 Lib.Math.min.name, Cond.static Lib.Math.min.name, Cond.initialized "java/lang/Math", Cond.code Lib.Math.min.name Lib.Math.min.code 2 (some .int), Cond.fieldLink RX7 9 "ColdShips$Tank" "cap" "I", Cond.constantLong RX7 53 (100000), Cond.methodLink RX7 65 Lib.MathLoose.min_long.x, Cond.static Lib.MathLoose.min_long.x, Cond.code Lib.MathLoose.min_long.x Lib.MathLoose.min_long.code 4 (some .long), Cond.methodLink RX7 59 yX7_heel, Cond.instanceMethod yX7_heel, Cond.selects RX7 yX7_heel yX7_heel, Cond.initialized RX7, Cond.code yX7_heel cX7_heel 1 (some .int), Cond.methodLink RX7 55 yX7_evaporate, Cond.instanceMethod yX7_evaporate, Cond.selects RX7 yX7_evaporate yX7_evaporate, Cond.code yX7_evaporate cX7_evaporate 2 none, Cond.fieldLink RX7 35 "ColdShips$Tank" "vapor" "I", Cond.methodLink RX7 68 yX7_takeGas, Cond.instanceMethod yX7_takeGas, Cond.selects RX7 yX7_takeGas yX7_takeGas]
def wsX7_warmOrCool_r2 : List Cond := [Cond.code yX7_takeGas cX7_takeGas 6 none, Cond.fieldLink RX7 15 "ColdShips$Tank" "parts" "[I", Cond.fieldLink RX7 19 "ColdShips$Tank" "given" "[I", Cond.fieldLink RX7 22 "ColdShips$Tank" "rests" "[J", Cond.methodLink RX7 71 yX7_giveByRests, Cond.instanceMethod yX7_giveByRests, Cond.selects RX7 yX7_giveByRests yX7_giveByRests, Cond.code yX7_giveByRests cX7_giveByRests 5 none, Cond.constantLong RX7 80 (-1)]
def wsX7_warmOrCool : List Cond := .code yX7_warmOrCool cX7_warmOrCool 2 none :: ((wsX7_warmOrCool_r1 ++ wsX7_warmOrCool_r2) ++ wsX70)
def wsX7_fill : List Cond := .code yX7_fill cX7_fill 3 none :: ([.fieldLink RX7 32 "ColdShips$Tank" "gas" "I", .fieldLink RX7 15 "ColdShips$Tank" "parts" "[I"] ++ wsX70)
def wsX7_vent : List Cond := .code yX7_vent cX7_vent 4 (some .int) :: ([.constantLong RX7 47 (1000), .fieldLink RX7 35 "ColdShips$Tank" "vapor" "I", .methodLink RX7 26 Lib.Math.max.name, .static Lib.Math.max.name, .initialized "java/lang/Math", .code Lib.Math.max.name Lib.Math.max.code 2 (some .int), .methodLink RX7 49 yX7_space, .instanceMethod yX7_space, .selects RX7 yX7_space yX7_space, .initialized RX7, .code yX7_space cX7_space 1 (some .int), .fieldLink RX7 9 "ColdShips$Tank" "cap" "I", .fieldLink RX7 32 "ColdShips$Tank" "gas" "I"] ++ wsX70)
set_option maxRecDepth 20000 in
theorem ggX7_begin_J7_fill_53178 : GoodIn wsX7_begin wsJ7_fill_53178 := goodIn_r _ [13] (by decide +kernel) (by decide +kernel)
set_option maxRecDepth 20000 in
theorem gX7_begin_J7_fill_53178 : GoodIn wsX7_begin (va_wsS RX7 41 yJ7_fill_53178 wsJ7_fill_53178) := goodIn_app (goodIn_of _ (by decide +kernel)) ggX7_begin_J7_fill_53178
theorem dX7_begin_0 : decode cX7_begin 0 = .ok (.aload_n 0, 1) := by decide +kernel
theorem dX7_begin_1 : decode cX7_begin 1 = .ok (.sipush 1000, 3) := by decide +kernel
theorem dX7_begin_4 : decode cX7_begin 4 = .ok (.iload_n 1, 1) := by decide +kernel
theorem dX7_begin_5 : decode cX7_begin 5 = .ok (.invokestatic 26, 3) := by decide +kernel
theorem dX7_begin_8 : decode cX7_begin 8 = .ok (.putfield 9, 3) := by decide +kernel
theorem dX7_begin_11 : decode cX7_begin 11 = .ok (.aload_n 0, 1) := by decide +kernel
theorem dX7_begin_12 : decode cX7_begin 12 = .ok (.iconst 0, 1) := by decide +kernel
theorem dX7_begin_13 : decode cX7_begin 13 = .ok (.putfield 32, 3) := by decide +kernel
theorem dX7_begin_16 : decode cX7_begin 16 = .ok (.aload_n 0, 1) := by decide +kernel
theorem dX7_begin_17 : decode cX7_begin 17 = .ok (.iconst 0, 1) := by decide +kernel
theorem dX7_begin_18 : decode cX7_begin 18 = .ok (.putfield 35, 3) := by decide +kernel
theorem dX7_begin_21 : decode cX7_begin 21 = .ok (.aload_n 0, 1) := by decide +kernel
theorem dX7_begin_22 : decode cX7_begin 22 = .ok (.sipush 1800, 3) := by decide +kernel
theorem dX7_begin_25 : decode cX7_begin 25 = .ok (.putfield 38, 3) := by decide +kernel
theorem dX7_begin_28 : decode cX7_begin 28 = .ok (.aload_n 0, 1) := by decide +kernel
theorem dX7_begin_29 : decode cX7_begin 29 = .ok (.getfield 15, 3) := by decide +kernel
theorem dX7_begin_32 : decode cX7_begin 32 = .ok (.iconst 0, 1) := by decide +kernel
theorem dX7_begin_33 : decode cX7_begin 33 = .ok (.invokestatic 41, 3) := by decide +kernel
theorem dX7_begin_36 : decode cX7_begin 36 = .ok (.return_, 1) := by decide +kernel
theorem dX7_heel_0 : decode cX7_heel 0 = .ok (.aload_n 0, 1) := by decide +kernel
theorem dX7_heel_1 : decode cX7_heel 1 = .ok (.getfield 9, 3) := by decide +kernel
theorem dX7_heel_4 : decode cX7_heel 4 = .ok (.iconst 2, 1) := by decide +kernel
theorem dX7_heel_5 : decode cX7_heel 5 = .ok (.imul, 1) := by decide +kernel
theorem dX7_heel_6 : decode cX7_heel 6 = .ok (.bipush 100, 2) := by decide +kernel
theorem dX7_heel_8 : decode cX7_heel 8 = .ok (.idiv, 1) := by decide +kernel
theorem dX7_heel_9 : decode cX7_heel 9 = .ok (.ireturn, 1) := by decide +kernel
theorem dX7_top_0 : decode cX7_top 0 = .ok (.aload_n 0, 1) := by decide +kernel
theorem dX7_top_1 : decode cX7_top 1 = .ok (.getfield 9, 3) := by decide +kernel
theorem dX7_top_4 : decode cX7_top 4 = .ok (.bipush 98, 2) := by decide +kernel
theorem dX7_top_6 : decode cX7_top 6 = .ok (.imul, 1) := by decide +kernel
theorem dX7_top_7 : decode cX7_top 7 = .ok (.bipush 100, 2) := by decide +kernel
theorem dX7_top_9 : decode cX7_top 9 = .ok (.idiv, 1) := by decide +kernel
theorem dX7_top_10 : decode cX7_top 10 = .ok (.ireturn, 1) := by decide +kernel
theorem dX7_draft_0 : decode cX7_draft 0 = .ok (.bipush 8, 2) := by decide +kernel
theorem dX7_draft_2 : decode cX7_draft 2 = .ok (.bipush 8, 2) := by decide +kernel
theorem dX7_draft_4 : decode cX7_draft 4 = .ok (.aload_n 0, 1) := by decide +kernel
theorem dX7_draft_5 : decode cX7_draft 5 = .ok (.getfield 32, 3) := by decide +kernel
theorem dX7_draft_8 : decode cX7_draft 8 = .ok (.imul, 1) := by decide +kernel
theorem dX7_draft_9 : decode cX7_draft 9 = .ok (.aload_n 0, 1) := by decide +kernel
theorem dX7_draft_10 : decode cX7_draft 10 = .ok (.getfield 9, 3) := by decide +kernel
theorem dX7_draft_13 : decode cX7_draft 13 = .ok (.idiv, 1) := by decide +kernel
theorem dX7_draft_14 : decode cX7_draft 14 = .ok (.iadd, 1) := by decide +kernel
theorem dX7_draft_15 : decode cX7_draft 15 = .ok (.ireturn, 1) := by decide +kernel
set_option maxRecDepth 20000 in
theorem ggX7_press_X7_space : GoodIn wsX7_press wsX7_space := goodIn_r _ [7, 8, 9, 10, 11, 12, 13, 14, 15, 16, 17, 18, 19, 20] (by decide +kernel) (by decide +kernel)
set_option maxRecDepth 20000 in
theorem gX7_press_X7_space : GoodIn wsX7_press (wsV RX7 49 RX7 yX7_space wsX7_space) := goodIn_app (goodIn_of _ (by decide +kernel)) ggX7_press_X7_space
theorem dX7_press_0 : decode cX7_press 0 = .ok (.aload_n 0, 1) := by decide +kernel
theorem dX7_press_1 : decode cX7_press 1 = .ok (.getfield 35, 3) := by decide +kernel
theorem dX7_press_4 : decode cX7_press 4 = .ok (.i2l, 1) := by decide +kernel
theorem dX7_press_5 : decode cX7_press 5 = .ok (.ldc2_w 47, 3) := by decide +kernel
theorem dX7_press_8 : decode cX7_press 8 = .ok (.lmul, 1) := by decide +kernel
theorem dX7_press_9 : decode cX7_press 9 = .ok (.aload_n 0, 1) := by decide +kernel
theorem dX7_press_10 : decode cX7_press 10 = .ok (.invokevirtual 49, 3) := by decide +kernel
theorem dX7_press_13 : decode cX7_press 13 = .ok (.i2l, 1) := by decide +kernel
theorem dX7_press_14 : decode cX7_press 14 = .ok (.ldiv, 1) := by decide +kernel
theorem dX7_press_15 : decode cX7_press 15 = .ok (.l2i, 1) := by decide +kernel
theorem dX7_press_16 : decode cX7_press 16 = .ok (.ireturn, 1) := by decide +kernel
set_option maxRecDepth 20000 in
theorem ggX7_boil_X7_evaporate : GoodIn wsX7_boil wsX7_evaporate := goodIn_r _ [7, 8, 9, 10, 11, 6, 12, 1, 13, 14, 15, 16, 17, 18, 19, 20, 21, 22, 23, 24, 25, 26, 27] (by decide +kernel) (by decide +kernel)
set_option maxRecDepth 20000 in
theorem gX7_boil_X7_evaporate : GoodIn wsX7_boil (wsV RX7 55 RX7 yX7_evaporate wsX7_evaporate) := goodIn_app (goodIn_of _ (by decide +kernel)) ggX7_boil_X7_evaporate
theorem dX7_boil_0 : decode cX7_boil 0 = .ok (.aload_n 0, 1) := by decide +kernel
theorem dX7_boil_1 : decode cX7_boil 1 = .ok (.aload_n 0, 1) := by decide +kernel
theorem dX7_boil_2 : decode cX7_boil 2 = .ok (.getfield 32, 3) := by decide +kernel
theorem dX7_boil_5 : decode cX7_boil 5 = .ok (.i2l, 1) := by decide +kernel
theorem dX7_boil_6 : decode cX7_boil 6 = .ok (.iload_n 1, 1) := by decide +kernel
theorem dX7_boil_7 : decode cX7_boil 7 = .ok (.i2l, 1) := by decide +kernel
theorem dX7_boil_8 : decode cX7_boil 8 = .ok (.lmul, 1) := by decide +kernel
theorem dX7_boil_9 : decode cX7_boil 9 = .ok (.ldc2_w 53, 3) := by decide +kernel
theorem dX7_boil_12 : decode cX7_boil 12 = .ok (.ldiv, 1) := by decide +kernel
theorem dX7_boil_13 : decode cX7_boil 13 = .ok (.l2i, 1) := by decide +kernel
theorem dX7_boil_14 : decode cX7_boil 14 = .ok (.invokevirtual 55, 3) := by decide +kernel
theorem dX7_boil_17 : decode cX7_boil 17 = .ok (.return_, 1) := by decide +kernel
set_option maxRecDepth 20000 in
theorem ggX7_warmOrCool_X7_heel : GoodIn wsX7_warmOrCool wsX7_heel := goodIn_r _ [16, 7, 34, 35, 36, 37, 38, 39, 40] (by decide +kernel) (by decide +kernel)
set_option maxRecDepth 20000 in
theorem gX7_warmOrCool_X7_heel : GoodIn wsX7_warmOrCool (wsV RX7 59 RX7 yX7_heel wsX7_heel) := goodIn_app (goodIn_of _ (by decide +kernel)) ggX7_warmOrCool_X7_heel
set_option maxRecDepth 20000 in
theorem ggX7_warmOrCool_X7_evaporate : GoodIn wsX7_warmOrCool wsX7_evaporate := goodIn_r _ [20, 21, 22, 23, 24, 15, 25, 1, 26, 27, 28, 29, 30, 31, 32, 33, 34, 35, 36, 37, 38, 39, 40] (by decide +kernel) (by decide +kernel)
set_option maxRecDepth 20000 in
theorem gX7_warmOrCool_X7_evaporate : GoodIn wsX7_warmOrCool (wsV RX7 55 RX7 yX7_evaporate wsX7_evaporate) := goodIn_app (goodIn_of _ (by decide +kernel)) ggX7_warmOrCool_X7_evaporate
theorem dX7_warmOrCool_0 : decode cX7_warmOrCool 0 = .ok (.aload_n 0, 1) := by decide +kernel
theorem dX7_warmOrCool_1 : decode cX7_warmOrCool 1 = .ok (.getfield 32, 3) := by decide +kernel
theorem dX7_warmOrCool_4 : decode cX7_warmOrCool 4 = .ok (.aload_n 0, 1) := by decide +kernel
theorem dX7_warmOrCool_5 : decode cX7_warmOrCool 5 = .ok (.invokevirtual 59, 3) := by decide +kernel
theorem dX7_warmOrCool_8 : decode cX7_warmOrCool 8 = .ok (.if_icmp .ge 22, 3) := by decide +kernel
theorem dX7_warmOrCool_11 : decode cX7_warmOrCool 11 = .ok (.aload_n 0, 1) := by decide +kernel
theorem dX7_warmOrCool_12 : decode cX7_warmOrCool 12 = .ok (.sipush 1800, 3) := by decide +kernel
theorem dX7_warmOrCool_15 : decode cX7_warmOrCool 15 = .ok (.aload_n 0, 1) := by decide +kernel
theorem dX7_warmOrCool_16 : decode cX7_warmOrCool 16 = .ok (.getfield 38, 3) := by decide +kernel
theorem dX7_warmOrCool_19 : decode cX7_warmOrCool 19 = .ok (.iconst 5, 1) := by decide +kernel
theorem dX7_warmOrCool_20 : decode cX7_warmOrCool 20 = .ok (.iadd, 1) := by decide +kernel
theorem dX7_warmOrCool_21 : decode cX7_warmOrCool 21 = .ok (.invokestatic 62, 3) := by decide +kernel
theorem dX7_warmOrCool_24 : decode cX7_warmOrCool 24 = .ok (.putfield 38, 3) := by decide +kernel
theorem dX7_warmOrCool_27 : decode cX7_warmOrCool 27 = .ok (.goto 55, 3) := by decide +kernel
theorem dX7_warmOrCool_30 : decode cX7_warmOrCool 30 = .ok (.aload_n 0, 1) := by decide +kernel
theorem dX7_warmOrCool_31 : decode cX7_warmOrCool 31 = .ok (.getfield 38, 3) := by decide +kernel
theorem dX7_warmOrCool_34 : decode cX7_warmOrCool 34 = .ok (.ifCond .le 48, 3) := by decide +kernel
theorem dX7_warmOrCool_37 : decode cX7_warmOrCool 37 = .ok (.bipush 20, 2) := by decide +kernel
theorem dX7_warmOrCool_39 : decode cX7_warmOrCool 39 = .ok (.aload_n 0, 1) := by decide +kernel
theorem dX7_warmOrCool_40 : decode cX7_warmOrCool 40 = .ok (.getfield 38, 3) := by decide +kernel
theorem dX7_warmOrCool_43 : decode cX7_warmOrCool 43 = .ok (.invokestatic 62, 3) := by decide +kernel
theorem dX7_warmOrCool_46 : decode cX7_warmOrCool 46 = .ok (.istore_n 1, 1) := by decide +kernel
theorem dX7_warmOrCool_47 : decode cX7_warmOrCool 47 = .ok (.aload_n 0, 1) := by decide +kernel
theorem dX7_warmOrCool_48 : decode cX7_warmOrCool 48 = .ok (.dup, 1) := by decide +kernel
theorem dX7_warmOrCool_49 : decode cX7_warmOrCool 49 = .ok (.getfield 38, 3) := by decide +kernel
theorem dX7_warmOrCool_52 : decode cX7_warmOrCool 52 = .ok (.iload_n 1, 1) := by decide +kernel
theorem dX7_warmOrCool_53 : decode cX7_warmOrCool 53 = .ok (.isub, 1) := by decide +kernel
theorem dX7_warmOrCool_54 : decode cX7_warmOrCool 54 = .ok (.putfield 38, 3) := by decide +kernel
theorem dX7_warmOrCool_57 : decode cX7_warmOrCool 57 = .ok (.aload_n 0, 1) := by decide +kernel
theorem dX7_warmOrCool_58 : decode cX7_warmOrCool 58 = .ok (.aload_n 0, 1) := by decide +kernel
theorem dX7_warmOrCool_59 : decode cX7_warmOrCool 59 = .ok (.getfield 32, 3) := by decide +kernel
theorem dX7_warmOrCool_62 : decode cX7_warmOrCool 62 = .ok (.i2l, 1) := by decide +kernel
theorem dX7_warmOrCool_63 : decode cX7_warmOrCool 63 = .ok (.iload_n 1, 1) := by decide +kernel
theorem dX7_warmOrCool_64 : decode cX7_warmOrCool 64 = .ok (.i2l, 1) := by decide +kernel
theorem dX7_warmOrCool_65 : decode cX7_warmOrCool 65 = .ok (.aload_n 0, 1) := by decide +kernel
theorem dX7_warmOrCool_66 : decode cX7_warmOrCool 66 = .ok (.getfield 9, 3) := by decide +kernel
theorem dX7_warmOrCool_69 : decode cX7_warmOrCool 69 = .ok (.i2l, 1) := by decide +kernel
theorem dX7_warmOrCool_70 : decode cX7_warmOrCool 70 = .ok (.lmul, 1) := by decide +kernel
theorem dX7_warmOrCool_71 : decode cX7_warmOrCool 71 = .ok (.ldc2_w 53, 3) := by decide +kernel
theorem dX7_warmOrCool_74 : decode cX7_warmOrCool 74 = .ok (.ldiv, 1) := by decide +kernel
theorem dX7_warmOrCool_75 : decode cX7_warmOrCool 75 = .ok (.invokestatic 65, 3) := by decide +kernel
theorem dX7_warmOrCool_78 : decode cX7_warmOrCool 78 = .ok (.l2i, 1) := by decide +kernel
theorem dX7_warmOrCool_79 : decode cX7_warmOrCool 79 = .ok (.invokevirtual 55, 3) := by decide +kernel
theorem dX7_warmOrCool_82 : decode cX7_warmOrCool 82 = .ok (.return_, 1) := by decide +kernel
set_option maxRecDepth 20000 in
theorem ggX7_burn_X7_takeGas : GoodIn wsX7_burn wsX7_takeGas := goodIn_r _ [11, 6, 12, 13, 14, 15, 16, 17, 10, 18, 19, 20, 21, 22, 23, 24, 25, 26] (by decide +kernel) (by decide +kernel)
set_option maxRecDepth 20000 in
theorem gX7_burn_X7_takeGas : GoodIn wsX7_burn (wsV RX7 68 RX7 yX7_takeGas wsX7_takeGas) := goodIn_app (goodIn_of _ (by decide +kernel)) ggX7_burn_X7_takeGas
theorem dX7_burn_0 : decode cX7_burn 0 = .ok (.iload_n 1, 1) := by decide +kernel
theorem dX7_burn_1 : decode cX7_burn 1 = .ok (.aload_n 0, 1) := by decide +kernel
theorem dX7_burn_2 : decode cX7_burn 2 = .ok (.getfield 35, 3) := by decide +kernel
theorem dX7_burn_5 : decode cX7_burn 5 = .ok (.invokestatic 62, 3) := by decide +kernel
theorem dX7_burn_8 : decode cX7_burn 8 = .ok (.istore_n 2, 1) := by decide +kernel
theorem dX7_burn_9 : decode cX7_burn 9 = .ok (.aload_n 0, 1) := by decide +kernel
theorem dX7_burn_10 : decode cX7_burn 10 = .ok (.dup, 1) := by decide +kernel
theorem dX7_burn_11 : decode cX7_burn 11 = .ok (.getfield 35, 3) := by decide +kernel
theorem dX7_burn_14 : decode cX7_burn 14 = .ok (.iload_n 2, 1) := by decide +kernel
theorem dX7_burn_15 : decode cX7_burn 15 = .ok (.isub, 1) := by decide +kernel
theorem dX7_burn_16 : decode cX7_burn 16 = .ok (.putfield 35, 3) := by decide +kernel
theorem dX7_burn_19 : decode cX7_burn 19 = .ok (.iload_n 1, 1) := by decide +kernel
theorem dX7_burn_20 : decode cX7_burn 20 = .ok (.iload_n 2, 1) := by decide +kernel
theorem dX7_burn_21 : decode cX7_burn 21 = .ok (.isub, 1) := by decide +kernel
theorem dX7_burn_22 : decode cX7_burn 22 = .ok (.aload_n 0, 1) := by decide +kernel
theorem dX7_burn_23 : decode cX7_burn 23 = .ok (.getfield 32, 3) := by decide +kernel
theorem dX7_burn_26 : decode cX7_burn 26 = .ok (.invokestatic 62, 3) := by decide +kernel
theorem dX7_burn_29 : decode cX7_burn 29 = .ok (.istore_n 3, 1) := by decide +kernel
theorem dX7_burn_30 : decode cX7_burn 30 = .ok (.aload_n 0, 1) := by decide +kernel
theorem dX7_burn_31 : decode cX7_burn 31 = .ok (.iload_n 3, 1) := by decide +kernel
theorem dX7_burn_32 : decode cX7_burn 32 = .ok (.invokevirtual 68, 3) := by decide +kernel
theorem dX7_burn_35 : decode cX7_burn 35 = .ok (.iload_n 2, 1) := by decide +kernel
theorem dX7_burn_36 : decode cX7_burn 36 = .ok (.iload_n 3, 1) := by decide +kernel
theorem dX7_burn_37 : decode cX7_burn 37 = .ok (.iadd, 1) := by decide +kernel
theorem dX7_burn_38 : decode cX7_burn 38 = .ok (.ireturn, 1) := by decide +kernel
theorem dX7_fill_0 : decode cX7_fill 0 = .ok (.aload_n 0, 1) := by decide +kernel
theorem dX7_fill_1 : decode cX7_fill 1 = .ok (.dup, 1) := by decide +kernel
theorem dX7_fill_2 : decode cX7_fill 2 = .ok (.getfield 32, 3) := by decide +kernel
theorem dX7_fill_5 : decode cX7_fill 5 = .ok (.iload_n 2, 1) := by decide +kernel
theorem dX7_fill_6 : decode cX7_fill 6 = .ok (.iadd, 1) := by decide +kernel
theorem dX7_fill_7 : decode cX7_fill 7 = .ok (.putfield 32, 3) := by decide +kernel
theorem dX7_fill_10 : decode cX7_fill 10 = .ok (.aload_n 0, 1) := by decide +kernel
theorem dX7_fill_11 : decode cX7_fill 11 = .ok (.getfield 15, 3) := by decide +kernel
theorem dX7_fill_14 : decode cX7_fill 14 = .ok (.iload_n 1, 1) := by decide +kernel
theorem dX7_fill_15 : decode cX7_fill 15 = .ok (.dup2, 1) := by decide +kernel
theorem dX7_fill_16 : decode cX7_fill 16 = .ok (.iaload, 1) := by decide +kernel
theorem dX7_fill_17 : decode cX7_fill 17 = .ok (.iload_n 2, 1) := by decide +kernel
theorem dX7_fill_18 : decode cX7_fill 18 = .ok (.iadd, 1) := by decide +kernel
theorem dX7_fill_19 : decode cX7_fill 19 = .ok (.iastore, 1) := by decide +kernel
theorem dX7_fill_20 : decode cX7_fill 20 = .ok (.return_, 1) := by decide +kernel
set_option maxRecDepth 20000 in
theorem ggX7_vent_X7_space : GoodIn wsX7_vent wsX7_space := goodIn_r _ [11, 12, 13, 3, 4, 5, 6, 14, 15, 16, 17, 18, 19, 20] (by decide +kernel) (by decide +kernel)
set_option maxRecDepth 20000 in
theorem gX7_vent_X7_space : GoodIn wsX7_vent (wsV RX7 49 RX7 yX7_space wsX7_space) := goodIn_app (goodIn_of _ (by decide +kernel)) ggX7_vent_X7_space
theorem dX7_vent_0 : decode cX7_vent 0 = .ok (.iload_n 1, 1) := by decide +kernel
theorem dX7_vent_1 : decode cX7_vent 1 = .ok (.i2l, 1) := by decide +kernel
theorem dX7_vent_2 : decode cX7_vent 2 = .ok (.lconst 1, 1) := by decide +kernel
theorem dX7_vent_3 : decode cX7_vent 3 = .ok (.ladd, 1) := by decide +kernel
theorem dX7_vent_4 : decode cX7_vent 4 = .ok (.aload_n 0, 1) := by decide +kernel
theorem dX7_vent_5 : decode cX7_vent 5 = .ok (.invokevirtual 49, 3) := by decide +kernel
theorem dX7_vent_8 : decode cX7_vent 8 = .ok (.i2l, 1) := by decide +kernel
theorem dX7_vent_9 : decode cX7_vent 9 = .ok (.lmul, 1) := by decide +kernel
theorem dX7_vent_10 : decode cX7_vent 10 = .ok (.lconst 1, 1) := by decide +kernel
theorem dX7_vent_11 : decode cX7_vent 11 = .ok (.lsub, 1) := by decide +kernel
theorem dX7_vent_12 : decode cX7_vent 12 = .ok (.ldc2_w 47, 3) := by decide +kernel
theorem dX7_vent_15 : decode cX7_vent 15 = .ok (.ldiv, 1) := by decide +kernel
theorem dX7_vent_16 : decode cX7_vent 16 = .ok (.l2i, 1) := by decide +kernel
theorem dX7_vent_17 : decode cX7_vent 17 = .ok (.istore_n 2, 1) := by decide +kernel
theorem dX7_vent_18 : decode cX7_vent 18 = .ok (.iconst 0, 1) := by decide +kernel
theorem dX7_vent_19 : decode cX7_vent 19 = .ok (.aload_n 0, 1) := by decide +kernel
theorem dX7_vent_20 : decode cX7_vent 20 = .ok (.getfield 35, 3) := by decide +kernel
theorem dX7_vent_23 : decode cX7_vent 23 = .ok (.iload_n 2, 1) := by decide +kernel
theorem dX7_vent_24 : decode cX7_vent 24 = .ok (.isub, 1) := by decide +kernel
theorem dX7_vent_25 : decode cX7_vent 25 = .ok (.invokestatic 26, 3) := by decide +kernel
theorem dX7_vent_28 : decode cX7_vent 28 = .ok (.istore_n 3, 1) := by decide +kernel
theorem dX7_vent_29 : decode cX7_vent 29 = .ok (.aload_n 0, 1) := by decide +kernel
theorem dX7_vent_30 : decode cX7_vent 30 = .ok (.dup, 1) := by decide +kernel
theorem dX7_vent_31 : decode cX7_vent 31 = .ok (.getfield 35, 3) := by decide +kernel
theorem dX7_vent_34 : decode cX7_vent 34 = .ok (.iload_n 3, 1) := by decide +kernel
theorem dX7_vent_35 : decode cX7_vent 35 = .ok (.isub, 1) := by decide +kernel
theorem dX7_vent_36 : decode cX7_vent 36 = .ok (.putfield 35, 3) := by decide +kernel
theorem dX7_vent_39 : decode cX7_vent 39 = .ok (.iload_n 3, 1) := by decide +kernel
theorem dX7_vent_40 : decode cX7_vent 40 = .ok (.ireturn, 1) := by decide +kernel
set_option maxRecDepth 20000 in
theorem ggX7_takeGas_X7_giveByRests : GoodIn wsX7_takeGas wsX7_giveByRests := goodIn_r _ [9, 4, 3, 10, 11, 12, 13, 14, 15, 16, 17] (by decide +kernel) (by decide +kernel)
set_option maxRecDepth 20000 in
theorem gX7_takeGas_X7_giveByRests : GoodIn wsX7_takeGas (wsV RX7 71 RX7 yX7_giveByRests wsX7_giveByRests) := goodIn_app (goodIn_of _ (by decide +kernel)) ggX7_takeGas_X7_giveByRests
theorem dX7_takeGas_0 : decode cX7_takeGas 0 = .ok (.iload_n 1, 1) := by decide +kernel
theorem dX7_takeGas_1 : decode cX7_takeGas 1 = .ok (.ifCond .le 11, 3) := by decide +kernel
theorem dX7_takeGas_4 : decode cX7_takeGas 4 = .ok (.iload_n 1, 1) := by decide +kernel
theorem dX7_takeGas_5 : decode cX7_takeGas 5 = .ok (.aload_n 0, 1) := by decide +kernel
theorem dX7_takeGas_6 : decode cX7_takeGas 6 = .ok (.getfield 32, 3) := by decide +kernel
theorem dX7_takeGas_9 : decode cX7_takeGas 9 = .ok (.if_icmp .le 4, 3) := by decide +kernel
theorem dX7_takeGas_12 : decode cX7_takeGas 12 = .ok (.return_, 1) := by decide +kernel
theorem dX7_takeGas_13 : decode cX7_takeGas 13 = .ok (.iload_n 1, 1) := by decide +kernel
theorem dX7_takeGas_14 : decode cX7_takeGas 14 = .ok (.istore_n 2, 1) := by decide +kernel
theorem dX7_takeGas_15 : decode cX7_takeGas 15 = .ok (.iconst 0, 1) := by decide +kernel
theorem dX7_takeGas_16 : decode cX7_takeGas 16 = .ok (.istore_n 3, 1) := by decide +kernel
theorem dX7_takeGas_17 : decode cX7_takeGas 17 = .ok (.iload_n 3, 1) := by decide +kernel
theorem dX7_takeGas_18 : decode cX7_takeGas 18 = .ok (.bipush 6, 2) := by decide +kernel
theorem dX7_takeGas_20 : decode cX7_takeGas 20 = .ok (.if_icmp .ge 59, 3) := by decide +kernel
theorem dX7_takeGas_23 : decode cX7_takeGas 23 = .ok (.iload_n 1, 1) := by decide +kernel
theorem dX7_takeGas_24 : decode cX7_takeGas 24 = .ok (.i2l, 1) := by decide +kernel
theorem dX7_takeGas_25 : decode cX7_takeGas 25 = .ok (.aload_n 0, 1) := by decide +kernel
theorem dX7_takeGas_26 : decode cX7_takeGas 26 = .ok (.getfield 15, 3) := by decide +kernel
theorem dX7_takeGas_29 : decode cX7_takeGas 29 = .ok (.iload_n 3, 1) := by decide +kernel
theorem dX7_takeGas_30 : decode cX7_takeGas 30 = .ok (.iaload, 1) := by decide +kernel
theorem dX7_takeGas_31 : decode cX7_takeGas 31 = .ok (.i2l, 1) := by decide +kernel
theorem dX7_takeGas_32 : decode cX7_takeGas 32 = .ok (.lmul, 1) := by decide +kernel
theorem dX7_takeGas_33 : decode cX7_takeGas 33 = .ok (.lstore 4, 2) := by decide +kernel
theorem dX7_takeGas_35 : decode cX7_takeGas 35 = .ok (.aload_n 0, 1) := by decide +kernel
theorem dX7_takeGas_36 : decode cX7_takeGas 36 = .ok (.getfield 19, 3) := by decide +kernel
theorem dX7_takeGas_39 : decode cX7_takeGas 39 = .ok (.iload_n 3, 1) := by decide +kernel
theorem dX7_takeGas_40 : decode cX7_takeGas 40 = .ok (.lload 4, 2) := by decide +kernel
theorem dX7_takeGas_42 : decode cX7_takeGas 42 = .ok (.aload_n 0, 1) := by decide +kernel
theorem dX7_takeGas_43 : decode cX7_takeGas 43 = .ok (.getfield 32, 3) := by decide +kernel
theorem dX7_takeGas_46 : decode cX7_takeGas 46 = .ok (.i2l, 1) := by decide +kernel
theorem dX7_takeGas_47 : decode cX7_takeGas 47 = .ok (.ldiv, 1) := by decide +kernel
theorem dX7_takeGas_48 : decode cX7_takeGas 48 = .ok (.l2i, 1) := by decide +kernel
theorem dX7_takeGas_49 : decode cX7_takeGas 49 = .ok (.iastore, 1) := by decide +kernel
theorem dX7_takeGas_50 : decode cX7_takeGas 50 = .ok (.aload_n 0, 1) := by decide +kernel
theorem dX7_takeGas_51 : decode cX7_takeGas 51 = .ok (.getfield 22, 3) := by decide +kernel
theorem dX7_takeGas_54 : decode cX7_takeGas 54 = .ok (.iload_n 3, 1) := by decide +kernel
theorem dX7_takeGas_55 : decode cX7_takeGas 55 = .ok (.lload 4, 2) := by decide +kernel
theorem dX7_takeGas_57 : decode cX7_takeGas 57 = .ok (.aload_n 0, 1) := by decide +kernel
theorem dX7_takeGas_58 : decode cX7_takeGas 58 = .ok (.getfield 32, 3) := by decide +kernel
theorem dX7_takeGas_61 : decode cX7_takeGas 61 = .ok (.i2l, 1) := by decide +kernel
theorem dX7_takeGas_62 : decode cX7_takeGas 62 = .ok (.lrem, 1) := by decide +kernel
theorem dX7_takeGas_63 : decode cX7_takeGas 63 = .ok (.lastore, 1) := by decide +kernel
theorem dX7_takeGas_64 : decode cX7_takeGas 64 = .ok (.iload_n 2, 1) := by decide +kernel
theorem dX7_takeGas_65 : decode cX7_takeGas 65 = .ok (.aload_n 0, 1) := by decide +kernel
theorem dX7_takeGas_66 : decode cX7_takeGas 66 = .ok (.getfield 19, 3) := by decide +kernel
theorem dX7_takeGas_69 : decode cX7_takeGas 69 = .ok (.iload_n 3, 1) := by decide +kernel
theorem dX7_takeGas_70 : decode cX7_takeGas 70 = .ok (.iaload, 1) := by decide +kernel
theorem dX7_takeGas_71 : decode cX7_takeGas 71 = .ok (.isub, 1) := by decide +kernel
theorem dX7_takeGas_72 : decode cX7_takeGas 72 = .ok (.istore_n 2, 1) := by decide +kernel
theorem dX7_takeGas_73 : decode cX7_takeGas 73 = .ok (.iinc 3 1, 3) := by decide +kernel
theorem dX7_takeGas_76 : decode cX7_takeGas 76 = .ok (.goto (-59), 3) := by decide +kernel
theorem dX7_takeGas_79 : decode cX7_takeGas 79 = .ok (.aload_n 0, 1) := by decide +kernel
theorem dX7_takeGas_80 : decode cX7_takeGas 80 = .ok (.iload_n 2, 1) := by decide +kernel
theorem dX7_takeGas_81 : decode cX7_takeGas 81 = .ok (.invokevirtual 71, 3) := by decide +kernel
theorem dX7_takeGas_84 : decode cX7_takeGas 84 = .ok (.iconst 0, 1) := by decide +kernel
theorem dX7_takeGas_85 : decode cX7_takeGas 85 = .ok (.istore_n 3, 1) := by decide +kernel
theorem dX7_takeGas_86 : decode cX7_takeGas 86 = .ok (.iload_n 3, 1) := by decide +kernel
theorem dX7_takeGas_87 : decode cX7_takeGas 87 = .ok (.bipush 6, 2) := by decide +kernel
theorem dX7_takeGas_89 : decode cX7_takeGas 89 = .ok (.if_icmp .ge 24, 3) := by decide +kernel
theorem dX7_takeGas_92 : decode cX7_takeGas 92 = .ok (.aload_n 0, 1) := by decide +kernel
theorem dX7_takeGas_93 : decode cX7_takeGas 93 = .ok (.getfield 15, 3) := by decide +kernel
theorem dX7_takeGas_96 : decode cX7_takeGas 96 = .ok (.iload_n 3, 1) := by decide +kernel
theorem dX7_takeGas_97 : decode cX7_takeGas 97 = .ok (.dup2, 1) := by decide +kernel
theorem dX7_takeGas_98 : decode cX7_takeGas 98 = .ok (.iaload, 1) := by decide +kernel
theorem dX7_takeGas_99 : decode cX7_takeGas 99 = .ok (.aload_n 0, 1) := by decide +kernel
theorem dX7_takeGas_100 : decode cX7_takeGas 100 = .ok (.getfield 19, 3) := by decide +kernel
theorem dX7_takeGas_103 : decode cX7_takeGas 103 = .ok (.iload_n 3, 1) := by decide +kernel
theorem dX7_takeGas_104 : decode cX7_takeGas 104 = .ok (.iaload, 1) := by decide +kernel
theorem dX7_takeGas_105 : decode cX7_takeGas 105 = .ok (.isub, 1) := by decide +kernel
theorem dX7_takeGas_106 : decode cX7_takeGas 106 = .ok (.iastore, 1) := by decide +kernel
theorem dX7_takeGas_107 : decode cX7_takeGas 107 = .ok (.iinc 3 1, 3) := by decide +kernel
theorem dX7_takeGas_110 : decode cX7_takeGas 110 = .ok (.goto (-24), 3) := by decide +kernel
theorem dX7_takeGas_113 : decode cX7_takeGas 113 = .ok (.aload_n 0, 1) := by decide +kernel
theorem dX7_takeGas_114 : decode cX7_takeGas 114 = .ok (.dup, 1) := by decide +kernel
theorem dX7_takeGas_115 : decode cX7_takeGas 115 = .ok (.getfield 32, 3) := by decide +kernel
theorem dX7_takeGas_118 : decode cX7_takeGas 118 = .ok (.iload_n 1, 1) := by decide +kernel
theorem dX7_takeGas_119 : decode cX7_takeGas 119 = .ok (.isub, 1) := by decide +kernel
theorem dX7_takeGas_120 : decode cX7_takeGas 120 = .ok (.putfield 32, 3) := by decide +kernel
theorem dX7_takeGas_123 : decode cX7_takeGas 123 = .ok (.return_, 1) := by decide +kernel
theorem dX7_copyFrom_0 : decode cX7_copyFrom 0 = .ok (.aload_n 0, 1) := by decide +kernel
theorem dX7_copyFrom_1 : decode cX7_copyFrom 1 = .ok (.aload_n 1, 1) := by decide +kernel
theorem dX7_copyFrom_2 : decode cX7_copyFrom 2 = .ok (.getfield 9, 3) := by decide +kernel
theorem dX7_copyFrom_5 : decode cX7_copyFrom 5 = .ok (.putfield 9, 3) := by decide +kernel
theorem dX7_copyFrom_8 : decode cX7_copyFrom 8 = .ok (.aload_n 0, 1) := by decide +kernel
theorem dX7_copyFrom_9 : decode cX7_copyFrom 9 = .ok (.aload_n 1, 1) := by decide +kernel
theorem dX7_copyFrom_10 : decode cX7_copyFrom 10 = .ok (.getfield 32, 3) := by decide +kernel
theorem dX7_copyFrom_13 : decode cX7_copyFrom 13 = .ok (.putfield 32, 3) := by decide +kernel
theorem dX7_copyFrom_16 : decode cX7_copyFrom 16 = .ok (.aload_n 0, 1) := by decide +kernel
theorem dX7_copyFrom_17 : decode cX7_copyFrom 17 = .ok (.aload_n 1, 1) := by decide +kernel
theorem dX7_copyFrom_18 : decode cX7_copyFrom 18 = .ok (.getfield 35, 3) := by decide +kernel
theorem dX7_copyFrom_21 : decode cX7_copyFrom 21 = .ok (.putfield 35, 3) := by decide +kernel
theorem dX7_copyFrom_24 : decode cX7_copyFrom 24 = .ok (.aload_n 0, 1) := by decide +kernel
theorem dX7_copyFrom_25 : decode cX7_copyFrom 25 = .ok (.aload_n 1, 1) := by decide +kernel
theorem dX7_copyFrom_26 : decode cX7_copyFrom 26 = .ok (.getfield 38, 3) := by decide +kernel
theorem dX7_copyFrom_29 : decode cX7_copyFrom 29 = .ok (.putfield 38, 3) := by decide +kernel
theorem dX7_copyFrom_32 : decode cX7_copyFrom 32 = .ok (.aload_n 1, 1) := by decide +kernel
theorem dX7_copyFrom_33 : decode cX7_copyFrom 33 = .ok (.getfield 15, 3) := by decide +kernel
theorem dX7_copyFrom_36 : decode cX7_copyFrom 36 = .ok (.iconst 0, 1) := by decide +kernel
theorem dX7_copyFrom_37 : decode cX7_copyFrom 37 = .ok (.aload_n 0, 1) := by decide +kernel
theorem dX7_copyFrom_38 : decode cX7_copyFrom 38 = .ok (.getfield 15, 3) := by decide +kernel
theorem dX7_copyFrom_41 : decode cX7_copyFrom 41 = .ok (.iconst 0, 1) := by decide +kernel
theorem dX7_copyFrom_42 : decode cX7_copyFrom 42 = .ok (.bipush 6, 2) := by decide +kernel
theorem dX7_copyFrom_44 : decode cX7_copyFrom 44 = .ok (.invokestatic 74, 3) := by decide +kernel
theorem dX7_copyFrom_47 : decode cX7_copyFrom 47 = .ok (.return_, 1) := by decide +kernel
theorem dX7_giveByRests_0 : decode cX7_giveByRests 0 = .ok (.iconst 0, 1) := by decide +kernel
theorem dX7_giveByRests_1 : decode cX7_giveByRests 1 = .ok (.istore_n 2, 1) := by decide +kernel
theorem dX7_giveByRests_2 : decode cX7_giveByRests 2 = .ok (.iload_n 2, 1) := by decide +kernel
theorem dX7_giveByRests_3 : decode cX7_giveByRests 3 = .ok (.iload_n 1, 1) := by decide +kernel
theorem dX7_giveByRests_4 : decode cX7_giveByRests 4 = .ok (.if_icmp .ge 72, 3) := by decide +kernel
theorem dX7_giveByRests_7 : decode cX7_giveByRests 7 = .ok (.iload_n 2, 1) := by decide +kernel
theorem dX7_giveByRests_8 : decode cX7_giveByRests 8 = .ok (.bipush 6, 2) := by decide +kernel
theorem dX7_giveByRests_10 : decode cX7_giveByRests 10 = .ok (.if_icmp .ge 66, 3) := by decide +kernel
theorem dX7_giveByRests_13 : decode cX7_giveByRests 13 = .ok (.iconst 0, 1) := by decide +kernel
theorem dX7_giveByRests_14 : decode cX7_giveByRests 14 = .ok (.istore_n 3, 1) := by decide +kernel
theorem dX7_giveByRests_15 : decode cX7_giveByRests 15 = .ok (.iconst 1, 1) := by decide +kernel
theorem dX7_giveByRests_16 : decode cX7_giveByRests 16 = .ok (.istore 4, 2) := by decide +kernel
theorem dX7_giveByRests_18 : decode cX7_giveByRests 18 = .ok (.iload 4, 2) := by decide +kernel
theorem dX7_giveByRests_20 : decode cX7_giveByRests 20 = .ok (.bipush 6, 2) := by decide +kernel
theorem dX7_giveByRests_22 : decode cX7_giveByRests 22 = .ok (.if_icmp .ge 29, 3) := by decide +kernel
theorem dX7_giveByRests_25 : decode cX7_giveByRests 25 = .ok (.aload_n 0, 1) := by decide +kernel
theorem dX7_giveByRests_26 : decode cX7_giveByRests 26 = .ok (.getfield 22, 3) := by decide +kernel
theorem dX7_giveByRests_29 : decode cX7_giveByRests 29 = .ok (.iload 4, 2) := by decide +kernel
theorem dX7_giveByRests_31 : decode cX7_giveByRests 31 = .ok (.laload, 1) := by decide +kernel
theorem dX7_giveByRests_32 : decode cX7_giveByRests 32 = .ok (.aload_n 0, 1) := by decide +kernel
theorem dX7_giveByRests_33 : decode cX7_giveByRests 33 = .ok (.getfield 22, 3) := by decide +kernel
theorem dX7_giveByRests_36 : decode cX7_giveByRests 36 = .ok (.iload_n 3, 1) := by decide +kernel
theorem dX7_giveByRests_37 : decode cX7_giveByRests 37 = .ok (.laload, 1) := by decide +kernel
theorem dX7_giveByRests_38 : decode cX7_giveByRests 38 = .ok (.lcmp, 1) := by decide +kernel
theorem dX7_giveByRests_39 : decode cX7_giveByRests 39 = .ok (.ifCond .le 6, 3) := by decide +kernel
theorem dX7_giveByRests_42 : decode cX7_giveByRests 42 = .ok (.iload 4, 2) := by decide +kernel
theorem dX7_giveByRests_44 : decode cX7_giveByRests 44 = .ok (.istore_n 3, 1) := by decide +kernel
theorem dX7_giveByRests_45 : decode cX7_giveByRests 45 = .ok (.iinc 4 1, 3) := by decide +kernel
theorem dX7_giveByRests_48 : decode cX7_giveByRests 48 = .ok (.goto (-30), 3) := by decide +kernel
theorem dX7_giveByRests_51 : decode cX7_giveByRests 51 = .ok (.aload_n 0, 1) := by decide +kernel
theorem dX7_giveByRests_52 : decode cX7_giveByRests 52 = .ok (.getfield 19, 3) := by decide +kernel
theorem dX7_giveByRests_55 : decode cX7_giveByRests 55 = .ok (.iload_n 3, 1) := by decide +kernel
theorem dX7_giveByRests_56 : decode cX7_giveByRests 56 = .ok (.dup2, 1) := by decide +kernel
theorem dX7_giveByRests_57 : decode cX7_giveByRests 57 = .ok (.iaload, 1) := by decide +kernel
theorem dX7_giveByRests_58 : decode cX7_giveByRests 58 = .ok (.iconst 1, 1) := by decide +kernel
theorem dX7_giveByRests_59 : decode cX7_giveByRests 59 = .ok (.iadd, 1) := by decide +kernel
theorem dX7_giveByRests_60 : decode cX7_giveByRests 60 = .ok (.iastore, 1) := by decide +kernel
theorem dX7_giveByRests_61 : decode cX7_giveByRests 61 = .ok (.aload_n 0, 1) := by decide +kernel
theorem dX7_giveByRests_62 : decode cX7_giveByRests 62 = .ok (.getfield 22, 3) := by decide +kernel
theorem dX7_giveByRests_65 : decode cX7_giveByRests 65 = .ok (.iload_n 3, 1) := by decide +kernel
theorem dX7_giveByRests_66 : decode cX7_giveByRests 66 = .ok (.ldc2_w 80, 3) := by decide +kernel
theorem dX7_giveByRests_69 : decode cX7_giveByRests 69 = .ok (.lastore, 1) := by decide +kernel
theorem dX7_giveByRests_70 : decode cX7_giveByRests 70 = .ok (.iinc 2 1, 3) := by decide +kernel
theorem dX7_giveByRests_73 : decode cX7_giveByRests 73 = .ok (.goto (-71), 3) := by decide +kernel
theorem dX7_giveByRests_76 : decode cX7_giveByRests 76 = .ok (.return_, 1) := by decide +kernel
set_option maxRecDepth 20000 in
theorem ggX7_evaporate_X7_takeGas : GoodIn wsX7_evaporate wsX7_takeGas := goodIn_r _ [6, 7, 8, 9, 10, 11, 12, 13, 5, 14, 15, 16, 17, 18, 19, 20, 21, 22] (by decide +kernel) (by decide +kernel)
set_option maxRecDepth 20000 in
theorem gX7_evaporate_X7_takeGas : GoodIn wsX7_evaporate (wsV RX7 68 RX7 yX7_takeGas wsX7_takeGas) := goodIn_app (goodIn_of _ (by decide +kernel)) ggX7_evaporate_X7_takeGas
theorem dX7_evaporate_0 : decode cX7_evaporate 0 = .ok (.aload_n 0, 1) := by decide +kernel
theorem dX7_evaporate_1 : decode cX7_evaporate 1 = .ok (.iload_n 1, 1) := by decide +kernel
theorem dX7_evaporate_2 : decode cX7_evaporate 2 = .ok (.invokevirtual 68, 3) := by decide +kernel
theorem dX7_evaporate_5 : decode cX7_evaporate 5 = .ok (.aload_n 0, 1) := by decide +kernel
theorem dX7_evaporate_6 : decode cX7_evaporate 6 = .ok (.dup, 1) := by decide +kernel
theorem dX7_evaporate_7 : decode cX7_evaporate 7 = .ok (.getfield 35, 3) := by decide +kernel
theorem dX7_evaporate_10 : decode cX7_evaporate 10 = .ok (.iload_n 1, 1) := by decide +kernel
theorem dX7_evaporate_11 : decode cX7_evaporate 11 = .ok (.iadd, 1) := by decide +kernel
theorem dX7_evaporate_12 : decode cX7_evaporate 12 = .ok (.putfield 35, 3) := by decide +kernel
theorem dX7_evaporate_15 : decode cX7_evaporate 15 = .ok (.return_, 1) := by decide +kernel
theorem dX7_space_0 : decode cX7_space 0 = .ok (.iconst 1, 1) := by decide +kernel
theorem dX7_space_1 : decode cX7_space 1 = .ok (.aload_n 0, 1) := by decide +kernel
theorem dX7_space_2 : decode cX7_space 2 = .ok (.getfield 9, 3) := by decide +kernel
theorem dX7_space_5 : decode cX7_space 5 = .ok (.aload_n 0, 1) := by decide +kernel
theorem dX7_space_6 : decode cX7_space 6 = .ok (.getfield 32, 3) := by decide +kernel
theorem dX7_space_9 : decode cX7_space 9 = .ok (.isub, 1) := by decide +kernel
theorem dX7_space_10 : decode cX7_space 10 = .ok (.aload_n 0, 1) := by decide +kernel
theorem dX7_space_11 : decode cX7_space 11 = .ok (.getfield 9, 3) := by decide +kernel
theorem dX7_space_14 : decode cX7_space 14 = .ok (.bipush 100, 2) := by decide +kernel
theorem dX7_space_16 : decode cX7_space 16 = .ok (.idiv, 1) := by decide +kernel
theorem dX7_space_17 : decode cX7_space 17 = .ok (.iadd, 1) := by decide +kernel
theorem dX7_space_18 : decode cX7_space 18 = .ok (.invokestatic 26, 3) := by decide +kernel
theorem dX7_space_21 : decode cX7_space 21 = .ok (.ireturn, 1) := by decide +kernel
theorem dJ7_fill_d0a16_0 : decode cJ7_fill_d0a16 0 = .ok (.iconst 0, 1) := by decide +kernel
theorem dJ7_fill_d0a16_1 : decode cJ7_fill_d0a16 1 = .ok (.istore_n 3, 1) := by decide +kernel
theorem dJ7_fill_d0a16_2 : decode cJ7_fill_d0a16 2 = .ok (.aload_n 0, 1) := by decide +kernel
theorem dJ7_fill_d0a16_3 : decode cJ7_fill_d0a16 3 = .ok (.arraylength, 1) := by decide +kernel
theorem dJ7_fill_d0a16_4 : decode cJ7_fill_d0a16 4 = .ok (.istore 4, 2) := by decide +kernel
theorem dJ7_fill_d0a16_6 : decode cJ7_fill_d0a16 6 = .ok (.iload_n 3, 1) := by decide +kernel
theorem dJ7_fill_d0a16_7 : decode cJ7_fill_d0a16 7 = .ok (.iload 4, 2) := by decide +kernel
theorem dJ7_fill_d0a16_9 : decode cJ7_fill_d0a16 9 = .ok (.if_icmp .ge 13, 3) := by decide +kernel
theorem dJ7_fill_d0a16_12 : decode cJ7_fill_d0a16 12 = .ok (.aload_n 0, 1) := by decide +kernel
theorem dJ7_fill_d0a16_13 : decode cJ7_fill_d0a16 13 = .ok (.iload_n 3, 1) := by decide +kernel
theorem dJ7_fill_d0a16_14 : decode cJ7_fill_d0a16 14 = .ok (.lload_n 1, 1) := by decide +kernel
theorem dJ7_fill_d0a16_15 : decode cJ7_fill_d0a16 15 = .ok (.lastore, 1) := by decide +kernel
theorem dJ7_fill_d0a16_16 : decode cJ7_fill_d0a16 16 = .ok (.iinc 3 1, 3) := by decide +kernel
theorem dJ7_fill_d0a16_19 : decode cJ7_fill_d0a16 19 = .ok (.goto (-13), 3) := by decide +kernel
theorem dJ7_fill_d0a16_22 : decode cJ7_fill_d0a16 22 = .ok (.return_, 1) := by decide +kernel
theorem dJ7_fill_53178_0 : decode cJ7_fill_53178 0 = .ok (.iconst 0, 1) := by decide +kernel
theorem dJ7_fill_53178_1 : decode cJ7_fill_53178 1 = .ok (.istore_n 2, 1) := by decide +kernel
theorem dJ7_fill_53178_2 : decode cJ7_fill_53178 2 = .ok (.aload_n 0, 1) := by decide +kernel
theorem dJ7_fill_53178_3 : decode cJ7_fill_53178 3 = .ok (.arraylength, 1) := by decide +kernel
theorem dJ7_fill_53178_4 : decode cJ7_fill_53178 4 = .ok (.istore_n 3, 1) := by decide +kernel
theorem dJ7_fill_53178_5 : decode cJ7_fill_53178 5 = .ok (.iload_n 2, 1) := by decide +kernel
theorem dJ7_fill_53178_6 : decode cJ7_fill_53178 6 = .ok (.iload_n 3, 1) := by decide +kernel
theorem dJ7_fill_53178_7 : decode cJ7_fill_53178 7 = .ok (.if_icmp .ge 13, 3) := by decide +kernel
theorem dJ7_fill_53178_10 : decode cJ7_fill_53178 10 = .ok (.aload_n 0, 1) := by decide +kernel
theorem dJ7_fill_53178_11 : decode cJ7_fill_53178 11 = .ok (.iload_n 2, 1) := by decide +kernel
theorem dJ7_fill_53178_12 : decode cJ7_fill_53178 12 = .ok (.iload_n 1, 1) := by decide +kernel
theorem dJ7_fill_53178_13 : decode cJ7_fill_53178 13 = .ok (.iastore, 1) := by decide +kernel
theorem dJ7_fill_53178_14 : decode cJ7_fill_53178 14 = .ok (.iinc 2 1, 3) := by decide +kernel
theorem dJ7_fill_53178_17 : decode cJ7_fill_53178 17 = .ok (.goto (-12), 3) := by decide +kernel
theorem dJ7_fill_53178_20 : decode cJ7_fill_53178 20 = .ok (.return_, 1) := by decide +kernel
