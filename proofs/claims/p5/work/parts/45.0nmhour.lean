abbrev cX12_take : ByteArray := prog_14_method_26_code
def yX12_take : MethodName := ⟨RX12, "take", "(II)V"⟩
abbrev cX12_heelOf : ByteArray := prog_14_method_27_code
def yX12_heelOf : MethodName := ⟨RX12, "heelOf", "(I)I"⟩
abbrev cX12_topOf : ByteArray := prog_14_method_28_code
def yX12_topOf : MethodName := ⟨RX12, "topOf", "(I)I"⟩
abbrev cX12_draftOf : ByteArray := prog_14_method_29_code
def yX12_draftOf : MethodName := ⟨RX12, "draftOf", "(I)I"⟩
abbrev cX12_roomOf : ByteArray := prog_14_method_30_code
def yX12_roomOf : MethodName := ⟨RX12, "roomOf", "(I)I"⟩
abbrev cX12_pressOf : ByteArray := prog_14_method_31_code
def yX12_pressOf : MethodName := ⟨RX12, "pressOf", "(I)I"⟩
abbrev cX12_burn : ByteArray := prog_14_method_34_code
def yX12_burn : MethodName := ⟨RX12, "burn", "(I)V"⟩
abbrev cX12_endOrder : ByteArray := prog_14_method_35_code
def yX12_endOrder : MethodName := ⟨RX12, "endOrder", "(I)V"⟩
abbrev cX12_doOrder : ByteArray := prog_14_method_36_code
def yX12_doOrder : MethodName := ⟨RX12, "doOrder", "(III)V"⟩
abbrev cX12_sail : ByteArray := prog_14_method_37_code
def yX12_sail : MethodName := ⟨RX12, "sail", "(III)V"⟩
abbrev cX12_mayGo : ByteArray := prog_14_method_38_code
def yX12_mayGo : MethodName := ⟨RX12, "mayGo", "(III)Z"⟩
abbrev cX12_toLoad : ByteArray := prog_14_method_40_code
def yX12_toLoad : MethodName := ⟨RX12, "toLoad", "(I)I"⟩
abbrev cX12_toLand : ByteArray := prog_14_method_41_code
def yX12_toLand : MethodName := ⟨RX12, "toLand", "(I)I"⟩
abbrev cX12_load : ByteArray := prog_14_method_42_code
def yX12_load : MethodName := ⟨RX12, "load", "(II)V"⟩
abbrev cX12_land : ByteArray := prog_14_method_43_code
def yX12_land : MethodName := ⟨RX12, "land", "(III)V"⟩
abbrev cX12_endLanding : ByteArray := prog_14_method_44_code
def yX12_endLanding : MethodName := ⟨RX12, "endLanding", "(II)V"⟩
def wsX12_take : List Cond := .code yX12_take cX12_take 8 none :: ([.fieldLink RX12 7 "ColdShipsModel" "row" "[I", .fieldLink RX12 20 "ColdShipsModel" "moved" "[I", .fieldLink RX12 23 "ColdShipsModel" "rests" "[J", .constantLong RX12 158 (-1)] ++ wsX120)
def wsX12_heelOf : List Cond := .code yX12_heelOf cX12_heelOf 2 (some .int) :: ([.fieldLink RX12 7 "ColdShipsModel" "row" "[I"] ++ wsX120)
def wsX12_topOf : List Cond := .code yX12_topOf cX12_topOf 2 (some .int) :: ([.fieldLink RX12 7 "ColdShipsModel" "row" "[I", .constantLong RX12 160 (98), .constantLong RX12 150 (100)] ++ wsX120)
def wsX12_draftOf : List Cond := .code yX12_draftOf cX12_draftOf 2 (some .int) :: ([.constantLong RX12 162 (8), .fieldLink RX12 7 "ColdShipsModel" "row" "[I"] ++ wsX120)
def wsX12_roomOf : List Cond := .code yX12_roomOf cX12_roomOf 2 (some .int) :: ([.fieldLink RX12 7 "ColdShipsModel" "row" "[I"] ++ wsX120)
def wsX12_pressOf : List Cond := .code yX12_pressOf cX12_pressOf 2 (some .int) :: ([.fieldLink RX12 7 "ColdShipsModel" "row" "[I", .constantLong RX12 122 (1000), .methodLink RX12 164 yX12_roomOf, .instanceMethod yX12_roomOf, .selects RX12 yX12_roomOf yX12_roomOf, .initialized RX12, .code yX12_roomOf cX12_roomOf 2 (some .int)] ++ wsX120)
def wsX12_burn : List Cond := .code yX12_burn cX12_burn 5 none :: ([.fieldLink RX12 7 "ColdShipsModel" "row" "[I", .methodLink RX12 179 yX12_take, .instanceMethod yX12_take, .selects RX12 yX12_take yX12_take, .initialized RX12, .code yX12_take cX12_take 8 none, .fieldLink RX12 20 "ColdShipsModel" "moved" "[I", .fieldLink RX12 23 "ColdShipsModel" "rests" "[J", .constantLong RX12 158 (-1)] ++ wsX120)
def wsX12_endOrder : List Cond := .code yX12_endOrder cX12_endOrder 3 none :: ([.fieldLink RX12 7 "ColdShipsModel" "row" "[I", .methodLink RX12 154 yX12_beginOrder, .instanceMethod yX12_beginOrder, .selects RX12 yX12_beginOrder yX12_beginOrder, .initialized RX12, .code yX12_beginOrder cX12_beginOrder 3 none] ++ wsX120)
def wsX12_sail : List Cond := .code yX12_sail cX12_sail 5 none :: ([.fieldLink RX12 7 "ColdShipsModel" "row" "[I", .fieldLink RX12 169 "ColdShipsModel" "isTurnTaken" "Z", .methodLink RX12 195 yX12_endOrder, .instanceMethod yX12_endOrder, .selects RX12 yX12_endOrder yX12_endOrder, .initialized RX12, .code yX12_endOrder cX12_endOrder 3 none, .methodLink RX12 154 yX12_beginOrder, .instanceMethod yX12_beginOrder, .selects RX12 yX12_beginOrder yX12_beginOrder, .code yX12_beginOrder cX12_beginOrder 3 none, .methodLink RX12 217 yX12_wayOf, .instanceMethod yX12_wayOf, .selects RX12 yX12_wayOf yX12_wayOf, .code yX12_wayOf cX12_wayOf 3 (some .int)] ++ wsX120)
def wsX12_mayGo : List Cond := .code yX12_mayGo cX12_mayGo 8 (some .boolean) :: ([.fieldLink RX12 7 "ColdShipsModel" "row" "[I", .methodLink RX12 99 yX12_in, .static yX12_in, .initialized RX12, .code yX12_in cX12_in 6 (some .boolean), .methodLink RX12 221 yX12_isBroken, .instanceMethod yX12_isBroken, .selects RX12 yX12_isBroken yX12_isBroken, .code yX12_isBroken cX12_isBroken 6 (some .boolean), .methodLink RX12 115 yX12_terminalAt, .static yX12_terminalAt, .code yX12_terminalAt cX12_terminalAt 1 (some .int), .methodLink RX12 225 yX12_draftOf, .instanceMethod yX12_draftOf, .selects RX12 yX12_draftOf yX12_draftOf, .code yX12_draftOf cX12_draftOf 2 (some .int), .constantLong RX12 162 (8)] ++ wsX120)
def wsX12_toLoad : List Cond := .code yX12_toLoad cX12_toLoad 4 (some .int) :: ([.fieldLink RX12 7 "ColdShipsModel" "row" "[I", .methodLink RX12 115 yX12_terminalAt, .static yX12_terminalAt, .initialized RX12, .code yX12_terminalAt cX12_terminalAt 1 (some .int), .methodLink RX12 228 yX12_lesser, .static yX12_lesser, .code yX12_lesser cX12_lesser 2 (some .int), .methodLink RX12 231 yX12_topOf, .instanceMethod yX12_topOf, .selects RX12 yX12_topOf yX12_topOf, .code yX12_topOf cX12_topOf 2 (some .int), .constantLong RX12 160 (98), .constantLong RX12 150 (100)] ++ wsX120)
def wsX12_toLand : List Cond := .code yX12_toLand cX12_toLand 3 (some .int) :: ([.fieldLink RX12 7 "ColdShipsModel" "row" "[I", .methodLink RX12 115 yX12_terminalAt, .static yX12_terminalAt, .initialized RX12, .code yX12_terminalAt cX12_terminalAt 1 (some .int), .methodLink RX12 228 yX12_lesser, .static yX12_lesser, .code yX12_lesser cX12_lesser 2 (some .int), .methodLink RX12 182 yX12_heelOf, .instanceMethod yX12_heelOf, .selects RX12 yX12_heelOf yX12_heelOf, .code yX12_heelOf cX12_heelOf 2 (some .int)] ++ wsX120)
def wsX12_load : List Cond := .code yX12_load cX12_load 3 none :: ([.fieldLink RX12 7 "ColdShipsModel" "row" "[I", .methodLink RX12 115 yX12_terminalAt, .static yX12_terminalAt, .initialized RX12, .code yX12_terminalAt cX12_terminalAt 1 (some .int)] ++ wsX120)
def wsX12_land : List Cond := .code yX12_land cX12_land 5 none :: ([.fieldLink RX12 7 "ColdShipsModel" "row" "[I", .fieldLink RX12 20 "ColdShipsModel" "moved" "[I", .methodLink RX12 179 yX12_take, .instanceMethod yX12_take, .selects RX12 yX12_take yX12_take, .initialized RX12, .code yX12_take cX12_take 8 none, .fieldLink RX12 23 "ColdShipsModel" "rests" "[J", .constantLong RX12 158 (-1), .methodLink RX12 115 yX12_terminalAt, .static yX12_terminalAt, .code yX12_terminalAt cX12_terminalAt 1 (some .int)] ++ wsX120)
def wsX12_endLanding : List Cond := .code yX12_endLanding cX12_endLanding 5 none :: ([.fieldLink RX12 7 "ColdShipsModel" "row" "[I", .methodLink RX12 118 yX12_addFour, .instanceMethod yX12_addFour, .selects RX12 yX12_addFour yX12_addFour, .initialized RX12, .code yX12_addFour cX12_addFour 6 none] ++ wsX120)
def wsX12_doOrder_r1 : List Cond := [Cond.fieldLink RX12 7 "ColdShipsModel" "row" "[I", Cond.methodLink RX12 192 yX12_sail, Cond.instanceMethod yX12_sail, Cond.selects RX12 yX12_sail yX12_sail, Cond.initialized RX12, Cond.code yX12_sail cX12_sail 5 none, Cond.fieldLink RX12 169 "ColdShipsModel" "isTurnTaken" "Z", Cond.methodLink RX12 195 yX12_endOrder, Cond.instanceMethod yX12_endOrder, Cond.selects RX12 yX12_endOrder yX12_endOrder, Cond.code yX12_endOrder cX12_endOrder 3 none, Cond.methodLink RX12 154 yX12_beginOrder, Cond.instanceMethod yX12_beginOrder, Cond.selects RX12 yX12_beginOrder yX12_beginOrder, Cond.code yX12_beginOrder cX12_beginOrder 3 none, Cond.methodLink RX12 217 yX12_wayOf, Cond.instanceMethod yX12_wayOf, Cond.selects RX12 yX12_wayOf yX12_wayOf, Cond.code yX12_wayOf cX12_wayOf 3 (some .int), Cond.methodLink RX12 198 yX12_mayGo, Cond.instanceMethod yX12_mayGo, Cond.selects RX12 yX12_mayGo yX12_mayGo, Cond.code yX12_mayGo cX12_mayGo 8 (some .boolean), Cond.methodLink RX12 99 yX12_in]
def wsX12_doOrder_r2 : List Cond := [Cond.static yX12_in, Cond.code yX12_in cX12_in 6 (some .boolean), Cond.methodLink RX12 221 yX12_isBroken, Cond.instanceMethod yX12_isBroken, Cond.selects RX12 yX12_isBroken yX12_isBroken, Cond.code yX12_isBroken cX12_isBroken 6 (some .boolean), Cond.methodLink RX12 115 yX12_terminalAt, Cond.static yX12_terminalAt, Cond.code yX12_terminalAt cX12_terminalAt 1 (some .int), Cond.methodLink RX12 225 yX12_draftOf, Cond.instanceMethod yX12_draftOf, Cond.selects RX12 yX12_draftOf yX12_draftOf, Cond.code yX12_draftOf cX12_draftOf 2 (some .int), Cond.constantLong RX12 162 (8), Cond.methodLink RX12 202 yX12_toLoad, Cond.instanceMethod yX12_toLoad, Cond.selects RX12 yX12_toLoad yX12_toLoad, Cond.code yX12_toLoad cX12_toLoad 4 (some .int), Cond.methodLink RX12 228 yX12_lesser, Cond.static yX12_lesser, Cond.code yX12_lesser cX12_lesser 2 (some .int), Cond.methodLink RX12 231 yX12_topOf, Cond.instanceMethod yX12_topOf, Cond.selects RX12 yX12_topOf yX12_topOf]
def wsX12_doOrder_r3 : List Cond := [Cond.code yX12_topOf cX12_topOf 2 (some .int), Cond.constantLong RX12 160 (98), Cond.constantLong RX12 150 (100), Cond.methodLink RX12 205 yX12_toLand, Cond.instanceMethod yX12_toLand, Cond.selects RX12 yX12_toLand yX12_toLand, Cond.code yX12_toLand cX12_toLand 3 (some .int), Cond.methodLink RX12 182 yX12_heelOf, Cond.instanceMethod yX12_heelOf, Cond.selects RX12 yX12_heelOf yX12_heelOf, Cond.code yX12_heelOf cX12_heelOf 2 (some .int), Cond.methodLink RX12 208 yX12_load, Cond.instanceMethod yX12_load, Cond.selects RX12 yX12_load yX12_load, Cond.code yX12_load cX12_load 3 none, Cond.methodLink RX12 211 yX12_land, Cond.instanceMethod yX12_land, Cond.selects RX12 yX12_land yX12_land, Cond.code yX12_land cX12_land 5 none, Cond.fieldLink RX12 20 "ColdShipsModel" "moved" "[I", Cond.methodLink RX12 179 yX12_take, Cond.instanceMethod yX12_take, Cond.selects RX12 yX12_take yX12_take, Cond.code yX12_take cX12_take 8 none]
def wsX12_doOrder_r4 : List Cond := [Cond.fieldLink RX12 23 "ColdShipsModel" "rests" "[J", Cond.constantLong RX12 158 (-1), Cond.methodLink RX12 214 yX12_endLanding, Cond.instanceMethod yX12_endLanding, Cond.selects RX12 yX12_endLanding yX12_endLanding, Cond.code yX12_endLanding cX12_endLanding 5 none, Cond.methodLink RX12 118 yX12_addFour, Cond.instanceMethod yX12_addFour, Cond.selects RX12 yX12_addFour yX12_addFour, Cond.code yX12_addFour cX12_addFour 6 none]
def wsX12_doOrder : List Cond := .code yX12_doOrder cX12_doOrder 7 none :: ((wsX12_doOrder_r1 ++ (wsX12_doOrder_r2 ++ (wsX12_doOrder_r3 ++ wsX12_doOrder_r4))) ++ wsX120)
theorem dX12_take_0 : decode cX12_take 0 = .ok (.aload_n 0, 1) := by decide +kernel
theorem dX12_take_1 : decode cX12_take 1 = .ok (.getfield 7, 3) := by decide +kernel
theorem dX12_take_4 : decode cX12_take 4 = .ok (.iload_n 1, 1) := by decide +kernel
theorem dX12_take_5 : decode cX12_take 5 = .ok (.iconst 4, 1) := by decide +kernel
theorem dX12_take_6 : decode cX12_take 6 = .ok (.iadd, 1) := by decide +kernel
theorem dX12_take_7 : decode cX12_take 7 = .ok (.iaload, 1) := by decide +kernel
theorem dX12_take_8 : decode cX12_take 8 = .ok (.istore_n 3, 1) := by decide +kernel
theorem dX12_take_9 : decode cX12_take 9 = .ok (.iload_n 2, 1) := by decide +kernel
theorem dX12_take_10 : decode cX12_take 10 = .ok (.istore 4, 2) := by decide +kernel
theorem dX12_take_12 : decode cX12_take 12 = .ok (.iconst 0, 1) := by decide +kernel
theorem dX12_take_13 : decode cX12_take 13 = .ok (.istore 5, 2) := by decide +kernel
theorem dX12_take_15 : decode cX12_take 15 = .ok (.iload 5, 2) := by decide +kernel
theorem dX12_take_17 : decode cX12_take 17 = .ok (.bipush 6, 2) := by decide +kernel
theorem dX12_take_19 : decode cX12_take 19 = .ok (.if_icmp .ge 80, 3) := by decide +kernel
theorem dX12_take_22 : decode cX12_take 22 = .ok (.iload_n 2, 1) := by decide +kernel
theorem dX12_take_23 : decode cX12_take 23 = .ok (.i2l, 1) := by decide +kernel
theorem dX12_take_24 : decode cX12_take 24 = .ok (.aload_n 0, 1) := by decide +kernel
theorem dX12_take_25 : decode cX12_take 25 = .ok (.getfield 7, 3) := by decide +kernel
theorem dX12_take_28 : decode cX12_take 28 = .ok (.iload_n 1, 1) := by decide +kernel
theorem dX12_take_29 : decode cX12_take 29 = .ok (.bipush 16, 2) := by decide +kernel
theorem dX12_take_31 : decode cX12_take 31 = .ok (.iadd, 1) := by decide +kernel
theorem dX12_take_32 : decode cX12_take 32 = .ok (.iload 5, 2) := by decide +kernel
theorem dX12_take_34 : decode cX12_take 34 = .ok (.iadd, 1) := by decide +kernel
theorem dX12_take_35 : decode cX12_take 35 = .ok (.iaload, 1) := by decide +kernel
theorem dX12_take_36 : decode cX12_take 36 = .ok (.i2l, 1) := by decide +kernel
theorem dX12_take_37 : decode cX12_take 37 = .ok (.lmul, 1) := by decide +kernel
theorem dX12_take_38 : decode cX12_take 38 = .ok (.lstore 6, 2) := by decide +kernel
theorem dX12_take_40 : decode cX12_take 40 = .ok (.aload_n 0, 1) := by decide +kernel
theorem dX12_take_41 : decode cX12_take 41 = .ok (.getfield 20, 3) := by decide +kernel
theorem dX12_take_44 : decode cX12_take 44 = .ok (.iload 5, 2) := by decide +kernel
theorem dX12_take_46 : decode cX12_take 46 = .ok (.iload_n 3, 1) := by decide +kernel
theorem dX12_take_47 : decode cX12_take 47 = .ok (.ifCond .ne 7, 3) := by decide +kernel
theorem dX12_take_50 : decode cX12_take 50 = .ok (.iconst 0, 1) := by decide +kernel
theorem dX12_take_51 : decode cX12_take 51 = .ok (.goto 9, 3) := by decide +kernel
theorem dX12_take_54 : decode cX12_take 54 = .ok (.lload 6, 2) := by decide +kernel
theorem dX12_take_56 : decode cX12_take 56 = .ok (.iload_n 3, 1) := by decide +kernel
theorem dX12_take_57 : decode cX12_take 57 = .ok (.i2l, 1) := by decide +kernel
theorem dX12_take_58 : decode cX12_take 58 = .ok (.ldiv, 1) := by decide +kernel
theorem dX12_take_59 : decode cX12_take 59 = .ok (.l2i, 1) := by decide +kernel
theorem dX12_take_60 : decode cX12_take 60 = .ok (.iastore, 1) := by decide +kernel
theorem dX12_take_61 : decode cX12_take 61 = .ok (.aload_n 0, 1) := by decide +kernel
theorem dX12_take_62 : decode cX12_take 62 = .ok (.getfield 23, 3) := by decide +kernel
theorem dX12_take_65 : decode cX12_take 65 = .ok (.iload 5, 2) := by decide +kernel
theorem dX12_take_67 : decode cX12_take 67 = .ok (.iload_n 3, 1) := by decide +kernel
theorem dX12_take_68 : decode cX12_take 68 = .ok (.ifCond .ne 7, 3) := by decide +kernel
theorem dX12_take_71 : decode cX12_take 71 = .ok (.lconst 0, 1) := by decide +kernel
theorem dX12_take_72 : decode cX12_take 72 = .ok (.goto 8, 3) := by decide +kernel
theorem dX12_take_75 : decode cX12_take 75 = .ok (.lload 6, 2) := by decide +kernel
theorem dX12_take_77 : decode cX12_take 77 = .ok (.iload_n 3, 1) := by decide +kernel
theorem dX12_take_78 : decode cX12_take 78 = .ok (.i2l, 1) := by decide +kernel
theorem dX12_take_79 : decode cX12_take 79 = .ok (.lrem, 1) := by decide +kernel
theorem dX12_take_80 : decode cX12_take 80 = .ok (.lastore, 1) := by decide +kernel
theorem dX12_take_81 : decode cX12_take 81 = .ok (.iload 4, 2) := by decide +kernel
theorem dX12_take_83 : decode cX12_take 83 = .ok (.aload_n 0, 1) := by decide +kernel
theorem dX12_take_84 : decode cX12_take 84 = .ok (.getfield 20, 3) := by decide +kernel
theorem dX12_take_87 : decode cX12_take 87 = .ok (.iload 5, 2) := by decide +kernel
theorem dX12_take_89 : decode cX12_take 89 = .ok (.iaload, 1) := by decide +kernel
theorem dX12_take_90 : decode cX12_take 90 = .ok (.isub, 1) := by decide +kernel
theorem dX12_take_91 : decode cX12_take 91 = .ok (.istore 4, 2) := by decide +kernel
theorem dX12_take_93 : decode cX12_take 93 = .ok (.iinc 5 1, 3) := by decide +kernel
theorem dX12_take_96 : decode cX12_take 96 = .ok (.goto (-81), 3) := by decide +kernel
theorem dX12_take_99 : decode cX12_take 99 = .ok (.iload 4, 2) := by decide +kernel
theorem dX12_take_101 : decode cX12_take 101 = .ok (.ifCond .le 76, 3) := by decide +kernel
theorem dX12_take_104 : decode cX12_take 104 = .ok (.iconst 0, 1) := by decide +kernel
theorem dX12_take_105 : decode cX12_take 105 = .ok (.istore 5, 2) := by decide +kernel
theorem dX12_take_107 : decode cX12_take 107 = .ok (.iconst 1, 1) := by decide +kernel
theorem dX12_take_108 : decode cX12_take 108 = .ok (.istore 6, 2) := by decide +kernel
theorem dX12_take_110 : decode cX12_take 110 = .ok (.iload 6, 2) := by decide +kernel
theorem dX12_take_112 : decode cX12_take 112 = .ok (.bipush 6, 2) := by decide +kernel
theorem dX12_take_114 : decode cX12_take 114 = .ok (.if_icmp .ge 36, 3) := by decide +kernel
theorem dX12_take_117 : decode cX12_take 117 = .ok (.aload_n 0, 1) := by decide +kernel
theorem dX12_take_118 : decode cX12_take 118 = .ok (.getfield 23, 3) := by decide +kernel
theorem dX12_take_121 : decode cX12_take 121 = .ok (.iload 6, 2) := by decide +kernel
theorem dX12_take_123 : decode cX12_take 123 = .ok (.laload, 1) := by decide +kernel
theorem dX12_take_124 : decode cX12_take 124 = .ok (.aload_n 0, 1) := by decide +kernel
theorem dX12_take_125 : decode cX12_take 125 = .ok (.getfield 23, 3) := by decide +kernel
theorem dX12_take_128 : decode cX12_take 128 = .ok (.iload 5, 2) := by decide +kernel
theorem dX12_take_130 : decode cX12_take 130 = .ok (.laload, 1) := by decide +kernel
theorem dX12_take_131 : decode cX12_take 131 = .ok (.lcmp, 1) := by decide +kernel
theorem dX12_take_132 : decode cX12_take 132 = .ok (.ifCond .le 8, 3) := by decide +kernel
theorem dX12_take_135 : decode cX12_take 135 = .ok (.iload 6, 2) := by decide +kernel
theorem dX12_take_137 : decode cX12_take 137 = .ok (.goto 5, 3) := by decide +kernel
theorem dX12_take_140 : decode cX12_take 140 = .ok (.iload 5, 2) := by decide +kernel
theorem dX12_take_142 : decode cX12_take 142 = .ok (.istore 5, 2) := by decide +kernel
theorem dX12_take_144 : decode cX12_take 144 = .ok (.iinc 6 1, 3) := by decide +kernel
theorem dX12_take_147 : decode cX12_take 147 = .ok (.goto (-37), 3) := by decide +kernel
theorem dX12_take_150 : decode cX12_take 150 = .ok (.aload_n 0, 1) := by decide +kernel
theorem dX12_take_151 : decode cX12_take 151 = .ok (.getfield 20, 3) := by decide +kernel
theorem dX12_take_154 : decode cX12_take 154 = .ok (.iload 5, 2) := by decide +kernel
theorem dX12_take_156 : decode cX12_take 156 = .ok (.dup2, 1) := by decide +kernel
theorem dX12_take_157 : decode cX12_take 157 = .ok (.iaload, 1) := by decide +kernel
theorem dX12_take_158 : decode cX12_take 158 = .ok (.iconst 1, 1) := by decide +kernel
theorem dX12_take_159 : decode cX12_take 159 = .ok (.iadd, 1) := by decide +kernel
theorem dX12_take_160 : decode cX12_take 160 = .ok (.iastore, 1) := by decide +kernel
theorem dX12_take_161 : decode cX12_take 161 = .ok (.aload_n 0, 1) := by decide +kernel
theorem dX12_take_162 : decode cX12_take 162 = .ok (.getfield 23, 3) := by decide +kernel
theorem dX12_take_165 : decode cX12_take 165 = .ok (.iload 5, 2) := by decide +kernel
theorem dX12_take_167 : decode cX12_take 167 = .ok (.ldc2_w 158, 3) := by decide +kernel
theorem dX12_take_170 : decode cX12_take 170 = .ok (.lastore, 1) := by decide +kernel
theorem dX12_take_171 : decode cX12_take 171 = .ok (.iinc 4 (-1), 3) := by decide +kernel
theorem dX12_take_174 : decode cX12_take 174 = .ok (.goto (-75), 3) := by decide +kernel
theorem dX12_take_177 : decode cX12_take 177 = .ok (.iconst 0, 1) := by decide +kernel
theorem dX12_take_178 : decode cX12_take 178 = .ok (.istore 5, 2) := by decide +kernel
theorem dX12_take_180 : decode cX12_take 180 = .ok (.iload 5, 2) := by decide +kernel
theorem dX12_take_182 : decode cX12_take 182 = .ok (.bipush 6, 2) := by decide +kernel
theorem dX12_take_184 : decode cX12_take 184 = .ok (.if_icmp .ge 31, 3) := by decide +kernel
theorem dX12_take_187 : decode cX12_take 187 = .ok (.aload_n 0, 1) := by decide +kernel
theorem dX12_take_188 : decode cX12_take 188 = .ok (.getfield 7, 3) := by decide +kernel
theorem dX12_take_191 : decode cX12_take 191 = .ok (.iload_n 1, 1) := by decide +kernel
theorem dX12_take_192 : decode cX12_take 192 = .ok (.bipush 16, 2) := by decide +kernel
theorem dX12_take_194 : decode cX12_take 194 = .ok (.iadd, 1) := by decide +kernel
theorem dX12_take_195 : decode cX12_take 195 = .ok (.iload 5, 2) := by decide +kernel
theorem dX12_take_197 : decode cX12_take 197 = .ok (.iadd, 1) := by decide +kernel
theorem dX12_take_198 : decode cX12_take 198 = .ok (.dup2, 1) := by decide +kernel
theorem dX12_take_199 : decode cX12_take 199 = .ok (.iaload, 1) := by decide +kernel
theorem dX12_take_200 : decode cX12_take 200 = .ok (.aload_n 0, 1) := by decide +kernel
theorem dX12_take_201 : decode cX12_take 201 = .ok (.getfield 20, 3) := by decide +kernel
theorem dX12_take_204 : decode cX12_take 204 = .ok (.iload 5, 2) := by decide +kernel
theorem dX12_take_206 : decode cX12_take 206 = .ok (.iaload, 1) := by decide +kernel
theorem dX12_take_207 : decode cX12_take 207 = .ok (.isub, 1) := by decide +kernel
theorem dX12_take_208 : decode cX12_take 208 = .ok (.iastore, 1) := by decide +kernel
theorem dX12_take_209 : decode cX12_take 209 = .ok (.iinc 5 1, 3) := by decide +kernel
theorem dX12_take_212 : decode cX12_take 212 = .ok (.goto (-32), 3) := by decide +kernel
theorem dX12_take_215 : decode cX12_take 215 = .ok (.aload_n 0, 1) := by decide +kernel
theorem dX12_take_216 : decode cX12_take 216 = .ok (.getfield 7, 3) := by decide +kernel
theorem dX12_take_219 : decode cX12_take 219 = .ok (.iload_n 1, 1) := by decide +kernel
theorem dX12_take_220 : decode cX12_take 220 = .ok (.iconst 4, 1) := by decide +kernel
theorem dX12_take_221 : decode cX12_take 221 = .ok (.iadd, 1) := by decide +kernel
theorem dX12_take_222 : decode cX12_take 222 = .ok (.dup2, 1) := by decide +kernel
theorem dX12_take_223 : decode cX12_take 223 = .ok (.iaload, 1) := by decide +kernel
theorem dX12_take_224 : decode cX12_take 224 = .ok (.iload_n 2, 1) := by decide +kernel
theorem dX12_take_225 : decode cX12_take 225 = .ok (.isub, 1) := by decide +kernel
theorem dX12_take_226 : decode cX12_take 226 = .ok (.iastore, 1) := by decide +kernel
theorem dX12_take_227 : decode cX12_take 227 = .ok (.return_, 1) := by decide +kernel
theorem dX12_heelOf_0 : decode cX12_heelOf 0 = .ok (.aload_n 0, 1) := by decide +kernel
theorem dX12_heelOf_1 : decode cX12_heelOf 1 = .ok (.getfield 7, 3) := by decide +kernel
theorem dX12_heelOf_4 : decode cX12_heelOf 4 = .ok (.iload_n 1, 1) := by decide +kernel
theorem dX12_heelOf_5 : decode cX12_heelOf 5 = .ok (.bipush 7, 2) := by decide +kernel
theorem dX12_heelOf_7 : decode cX12_heelOf 7 = .ok (.iadd, 1) := by decide +kernel
theorem dX12_heelOf_8 : decode cX12_heelOf 8 = .ok (.iaload, 1) := by decide +kernel
theorem dX12_heelOf_9 : decode cX12_heelOf 9 = .ok (.iconst 2, 1) := by decide +kernel
theorem dX12_heelOf_10 : decode cX12_heelOf 10 = .ok (.imul, 1) := by decide +kernel
theorem dX12_heelOf_11 : decode cX12_heelOf 11 = .ok (.bipush 100, 2) := by decide +kernel
theorem dX12_heelOf_13 : decode cX12_heelOf 13 = .ok (.idiv, 1) := by decide +kernel
theorem dX12_heelOf_14 : decode cX12_heelOf 14 = .ok (.ireturn, 1) := by decide +kernel
theorem dX12_topOf_0 : decode cX12_topOf 0 = .ok (.aload_n 0, 1) := by decide +kernel
theorem dX12_topOf_1 : decode cX12_topOf 1 = .ok (.getfield 7, 3) := by decide +kernel
theorem dX12_topOf_4 : decode cX12_topOf 4 = .ok (.iload_n 1, 1) := by decide +kernel
theorem dX12_topOf_5 : decode cX12_topOf 5 = .ok (.bipush 7, 2) := by decide +kernel
theorem dX12_topOf_7 : decode cX12_topOf 7 = .ok (.iadd, 1) := by decide +kernel
theorem dX12_topOf_8 : decode cX12_topOf 8 = .ok (.iaload, 1) := by decide +kernel
theorem dX12_topOf_9 : decode cX12_topOf 9 = .ok (.i2l, 1) := by decide +kernel
theorem dX12_topOf_10 : decode cX12_topOf 10 = .ok (.ldc2_w 160, 3) := by decide +kernel
theorem dX12_topOf_13 : decode cX12_topOf 13 = .ok (.lmul, 1) := by decide +kernel
theorem dX12_topOf_14 : decode cX12_topOf 14 = .ok (.ldc2_w 150, 3) := by decide +kernel
theorem dX12_topOf_17 : decode cX12_topOf 17 = .ok (.ldiv, 1) := by decide +kernel
theorem dX12_topOf_18 : decode cX12_topOf 18 = .ok (.l2i, 1) := by decide +kernel
theorem dX12_topOf_19 : decode cX12_topOf 19 = .ok (.ireturn, 1) := by decide +kernel
theorem dX12_draftOf_0 : decode cX12_draftOf 0 = .ok (.bipush 8, 2) := by decide +kernel
theorem dX12_draftOf_2 : decode cX12_draftOf 2 = .ok (.ldc2_w 162, 3) := by decide +kernel
theorem dX12_draftOf_5 : decode cX12_draftOf 5 = .ok (.aload_n 0, 1) := by decide +kernel
theorem dX12_draftOf_6 : decode cX12_draftOf 6 = .ok (.getfield 7, 3) := by decide +kernel
theorem dX12_draftOf_9 : decode cX12_draftOf 9 = .ok (.iload_n 1, 1) := by decide +kernel
theorem dX12_draftOf_10 : decode cX12_draftOf 10 = .ok (.iconst 4, 1) := by decide +kernel
theorem dX12_draftOf_11 : decode cX12_draftOf 11 = .ok (.iadd, 1) := by decide +kernel
theorem dX12_draftOf_12 : decode cX12_draftOf 12 = .ok (.iaload, 1) := by decide +kernel
theorem dX12_draftOf_13 : decode cX12_draftOf 13 = .ok (.i2l, 1) := by decide +kernel
theorem dX12_draftOf_14 : decode cX12_draftOf 14 = .ok (.lmul, 1) := by decide +kernel
theorem dX12_draftOf_15 : decode cX12_draftOf 15 = .ok (.aload_n 0, 1) := by decide +kernel
theorem dX12_draftOf_16 : decode cX12_draftOf 16 = .ok (.getfield 7, 3) := by decide +kernel
theorem dX12_draftOf_19 : decode cX12_draftOf 19 = .ok (.iload_n 1, 1) := by decide +kernel
theorem dX12_draftOf_20 : decode cX12_draftOf 20 = .ok (.bipush 7, 2) := by decide +kernel
theorem dX12_draftOf_22 : decode cX12_draftOf 22 = .ok (.iadd, 1) := by decide +kernel
theorem dX12_draftOf_23 : decode cX12_draftOf 23 = .ok (.iaload, 1) := by decide +kernel
theorem dX12_draftOf_24 : decode cX12_draftOf 24 = .ok (.i2l, 1) := by decide +kernel
theorem dX12_draftOf_25 : decode cX12_draftOf 25 = .ok (.ldiv, 1) := by decide +kernel
theorem dX12_draftOf_26 : decode cX12_draftOf 26 = .ok (.l2i, 1) := by decide +kernel
theorem dX12_draftOf_27 : decode cX12_draftOf 27 = .ok (.iadd, 1) := by decide +kernel
theorem dX12_draftOf_28 : decode cX12_draftOf 28 = .ok (.ireturn, 1) := by decide +kernel
theorem dX12_roomOf_0 : decode cX12_roomOf 0 = .ok (.aload_n 0, 1) := by decide +kernel
theorem dX12_roomOf_1 : decode cX12_roomOf 1 = .ok (.getfield 7, 3) := by decide +kernel
theorem dX12_roomOf_4 : decode cX12_roomOf 4 = .ok (.iload_n 1, 1) := by decide +kernel
theorem dX12_roomOf_5 : decode cX12_roomOf 5 = .ok (.bipush 7, 2) := by decide +kernel
theorem dX12_roomOf_7 : decode cX12_roomOf 7 = .ok (.iadd, 1) := by decide +kernel
theorem dX12_roomOf_8 : decode cX12_roomOf 8 = .ok (.iaload, 1) := by decide +kernel
theorem dX12_roomOf_9 : decode cX12_roomOf 9 = .ok (.aload_n 0, 1) := by decide +kernel
theorem dX12_roomOf_10 : decode cX12_roomOf 10 = .ok (.getfield 7, 3) := by decide +kernel
theorem dX12_roomOf_13 : decode cX12_roomOf 13 = .ok (.iload_n 1, 1) := by decide +kernel
theorem dX12_roomOf_14 : decode cX12_roomOf 14 = .ok (.iconst 4, 1) := by decide +kernel
theorem dX12_roomOf_15 : decode cX12_roomOf 15 = .ok (.iadd, 1) := by decide +kernel
theorem dX12_roomOf_16 : decode cX12_roomOf 16 = .ok (.iaload, 1) := by decide +kernel
theorem dX12_roomOf_17 : decode cX12_roomOf 17 = .ok (.isub, 1) := by decide +kernel
theorem dX12_roomOf_18 : decode cX12_roomOf 18 = .ok (.aload_n 0, 1) := by decide +kernel
theorem dX12_roomOf_19 : decode cX12_roomOf 19 = .ok (.getfield 7, 3) := by decide +kernel
theorem dX12_roomOf_22 : decode cX12_roomOf 22 = .ok (.iload_n 1, 1) := by decide +kernel
theorem dX12_roomOf_23 : decode cX12_roomOf 23 = .ok (.bipush 7, 2) := by decide +kernel
theorem dX12_roomOf_25 : decode cX12_roomOf 25 = .ok (.iadd, 1) := by decide +kernel
theorem dX12_roomOf_26 : decode cX12_roomOf 26 = .ok (.iaload, 1) := by decide +kernel
theorem dX12_roomOf_27 : decode cX12_roomOf 27 = .ok (.bipush 100, 2) := by decide +kernel
theorem dX12_roomOf_29 : decode cX12_roomOf 29 = .ok (.idiv, 1) := by decide +kernel
theorem dX12_roomOf_30 : decode cX12_roomOf 30 = .ok (.iadd, 1) := by decide +kernel
theorem dX12_roomOf_31 : decode cX12_roomOf 31 = .ok (.ireturn, 1) := by decide +kernel
set_option maxRecDepth 20000 in
theorem ggX12_pressOf_X12_roomOf : GoodIn wsX12_pressOf wsX12_roomOf := goodIn_r _ [7, 1, 8, 9, 10, 11, 12, 13, 14, 15, 16, 17, 18, 19, 20, 21, 22, 23, 24, 25, 26, 27, 28, 29, 30, 31, 32, 33, 34, 35, 36, 37, 38, 39, 40, 41, 42, 43, 44, 45, 46, 47, 48, 49, 50, 51, 52, 53, 54, 55, 56, 57, 58, 59, 60] (by decide +kernel) (by decide +kernel)
set_option maxRecDepth 20000 in
theorem gX12_pressOf_X12_roomOf : GoodIn wsX12_pressOf (wsV RX12 164 RX12 yX12_roomOf wsX12_roomOf) := goodIn_app (goodIn_of _ (by decide +kernel)) ggX12_pressOf_X12_roomOf
theorem dX12_pressOf_0 : decode cX12_pressOf 0 = .ok (.aload_n 0, 1) := by decide +kernel
theorem dX12_pressOf_1 : decode cX12_pressOf 1 = .ok (.getfield 7, 3) := by decide +kernel
theorem dX12_pressOf_4 : decode cX12_pressOf 4 = .ok (.iload_n 1, 1) := by decide +kernel
theorem dX12_pressOf_5 : decode cX12_pressOf 5 = .ok (.iconst 5, 1) := by decide +kernel
theorem dX12_pressOf_6 : decode cX12_pressOf 6 = .ok (.iadd, 1) := by decide +kernel
theorem dX12_pressOf_7 : decode cX12_pressOf 7 = .ok (.iaload, 1) := by decide +kernel
theorem dX12_pressOf_8 : decode cX12_pressOf 8 = .ok (.i2l, 1) := by decide +kernel
theorem dX12_pressOf_9 : decode cX12_pressOf 9 = .ok (.ldc2_w 122, 3) := by decide +kernel
theorem dX12_pressOf_12 : decode cX12_pressOf 12 = .ok (.lmul, 1) := by decide +kernel
theorem dX12_pressOf_13 : decode cX12_pressOf 13 = .ok (.aload_n 0, 1) := by decide +kernel
theorem dX12_pressOf_14 : decode cX12_pressOf 14 = .ok (.iload_n 1, 1) := by decide +kernel
theorem dX12_pressOf_15 : decode cX12_pressOf 15 = .ok (.invokevirtual 164, 3) := by decide +kernel
theorem dX12_pressOf_18 : decode cX12_pressOf 18 = .ok (.i2l, 1) := by decide +kernel
theorem dX12_pressOf_19 : decode cX12_pressOf 19 = .ok (.ldiv, 1) := by decide +kernel
theorem dX12_pressOf_20 : decode cX12_pressOf 20 = .ok (.l2i, 1) := by decide +kernel
theorem dX12_pressOf_21 : decode cX12_pressOf 21 = .ok (.ireturn, 1) := by decide +kernel
set_option maxRecDepth 20000 in
theorem ggX12_burn_X12_take : GoodIn wsX12_burn wsX12_take := goodIn_r _ [6, 1, 7, 8, 9, 10, 11, 12, 13, 14, 15, 16, 17, 18, 19, 20, 21, 22, 23, 24, 25, 26, 27, 28, 29, 30, 31, 32, 33, 34, 35, 36, 37, 38, 39, 40, 41, 42, 43, 44, 45, 46, 47, 48, 49, 50, 51, 52, 53, 54, 55, 56, 57, 58, 59, 60, 61, 62] (by decide +kernel) (by decide +kernel)
set_option maxRecDepth 20000 in
theorem gX12_burn_X12_take : GoodIn wsX12_burn (wsV RX12 179 RX12 yX12_take wsX12_take) := goodIn_app (goodIn_of _ (by decide +kernel)) ggX12_burn_X12_take
theorem dX12_burn_0 : decode cX12_burn 0 = .ok (.aload_n 0, 1) := by decide +kernel
theorem dX12_burn_1 : decode cX12_burn 1 = .ok (.getfield 7, 3) := by decide +kernel
theorem dX12_burn_4 : decode cX12_burn 4 = .ok (.iload_n 1, 1) := by decide +kernel
theorem dX12_burn_5 : decode cX12_burn 5 = .ok (.iconst 1, 1) := by decide +kernel
theorem dX12_burn_6 : decode cX12_burn 6 = .ok (.iadd, 1) := by decide +kernel
theorem dX12_burn_7 : decode cX12_burn 7 = .ok (.iaload, 1) := by decide +kernel
theorem dX12_burn_8 : decode cX12_burn 8 = .ok (.ifCond .le 15, 3) := by decide +kernel
theorem dX12_burn_11 : decode cX12_burn 11 = .ok (.aload_n 0, 1) := by decide +kernel
theorem dX12_burn_12 : decode cX12_burn 12 = .ok (.getfield 7, 3) := by decide +kernel
theorem dX12_burn_15 : decode cX12_burn 15 = .ok (.iload_n 1, 1) := by decide +kernel
theorem dX12_burn_16 : decode cX12_burn 16 = .ok (.bipush 8, 2) := by decide +kernel
theorem dX12_burn_18 : decode cX12_burn 18 = .ok (.iadd, 1) := by decide +kernel
theorem dX12_burn_19 : decode cX12_burn 19 = .ok (.iaload, 1) := by decide +kernel
theorem dX12_burn_20 : decode cX12_burn 20 = .ok (.goto 14, 3) := by decide +kernel
theorem dX12_burn_23 : decode cX12_burn 23 = .ok (.aload_n 0, 1) := by decide +kernel
theorem dX12_burn_24 : decode cX12_burn 24 = .ok (.getfield 7, 3) := by decide +kernel
theorem dX12_burn_27 : decode cX12_burn 27 = .ok (.iload_n 1, 1) := by decide +kernel
theorem dX12_burn_28 : decode cX12_burn 28 = .ok (.bipush 8, 2) := by decide +kernel
theorem dX12_burn_30 : decode cX12_burn 30 = .ok (.iadd, 1) := by decide +kernel
theorem dX12_burn_31 : decode cX12_burn 31 = .ok (.iaload, 1) := by decide +kernel
theorem dX12_burn_32 : decode cX12_burn 32 = .ok (.iconst 4, 1) := by decide +kernel
theorem dX12_burn_33 : decode cX12_burn 33 = .ok (.idiv, 1) := by decide +kernel
theorem dX12_burn_34 : decode cX12_burn 34 = .ok (.istore_n 2, 1) := by decide +kernel
theorem dX12_burn_35 : decode cX12_burn 35 = .ok (.iload_n 2, 1) := by decide +kernel
theorem dX12_burn_36 : decode cX12_burn 36 = .ok (.aload_n 0, 1) := by decide +kernel
theorem dX12_burn_37 : decode cX12_burn 37 = .ok (.getfield 7, 3) := by decide +kernel
theorem dX12_burn_40 : decode cX12_burn 40 = .ok (.iload_n 1, 1) := by decide +kernel
theorem dX12_burn_41 : decode cX12_burn 41 = .ok (.iconst 5, 1) := by decide +kernel
theorem dX12_burn_42 : decode cX12_burn 42 = .ok (.iadd, 1) := by decide +kernel
theorem dX12_burn_43 : decode cX12_burn 43 = .ok (.iaload, 1) := by decide +kernel
theorem dX12_burn_44 : decode cX12_burn 44 = .ok (.if_icmp .ge 7, 3) := by decide +kernel
theorem dX12_burn_47 : decode cX12_burn 47 = .ok (.iload_n 2, 1) := by decide +kernel
theorem dX12_burn_48 : decode cX12_burn 48 = .ok (.goto 11, 3) := by decide +kernel
theorem dX12_burn_51 : decode cX12_burn 51 = .ok (.aload_n 0, 1) := by decide +kernel
theorem dX12_burn_52 : decode cX12_burn 52 = .ok (.getfield 7, 3) := by decide +kernel
theorem dX12_burn_55 : decode cX12_burn 55 = .ok (.iload_n 1, 1) := by decide +kernel
theorem dX12_burn_56 : decode cX12_burn 56 = .ok (.iconst 5, 1) := by decide +kernel
theorem dX12_burn_57 : decode cX12_burn 57 = .ok (.iadd, 1) := by decide +kernel
theorem dX12_burn_58 : decode cX12_burn 58 = .ok (.iaload, 1) := by decide +kernel
theorem dX12_burn_59 : decode cX12_burn 59 = .ok (.istore_n 3, 1) := by decide +kernel
theorem dX12_burn_60 : decode cX12_burn 60 = .ok (.iload_n 2, 1) := by decide +kernel
theorem dX12_burn_61 : decode cX12_burn 61 = .ok (.iload_n 3, 1) := by decide +kernel
theorem dX12_burn_62 : decode cX12_burn 62 = .ok (.isub, 1) := by decide +kernel
theorem dX12_burn_63 : decode cX12_burn 63 = .ok (.aload_n 0, 1) := by decide +kernel
theorem dX12_burn_64 : decode cX12_burn 64 = .ok (.getfield 7, 3) := by decide +kernel
theorem dX12_burn_67 : decode cX12_burn 67 = .ok (.iload_n 1, 1) := by decide +kernel
theorem dX12_burn_68 : decode cX12_burn 68 = .ok (.iconst 4, 1) := by decide +kernel
theorem dX12_burn_69 : decode cX12_burn 69 = .ok (.iadd, 1) := by decide +kernel
theorem dX12_burn_70 : decode cX12_burn 70 = .ok (.iaload, 1) := by decide +kernel
theorem dX12_burn_71 : decode cX12_burn 71 = .ok (.if_icmp .ge 9, 3) := by decide +kernel
theorem dX12_burn_74 : decode cX12_burn 74 = .ok (.iload_n 2, 1) := by decide +kernel
theorem dX12_burn_75 : decode cX12_burn 75 = .ok (.iload_n 3, 1) := by decide +kernel
theorem dX12_burn_76 : decode cX12_burn 76 = .ok (.isub, 1) := by decide +kernel
theorem dX12_burn_77 : decode cX12_burn 77 = .ok (.goto 11, 3) := by decide +kernel
theorem dX12_burn_80 : decode cX12_burn 80 = .ok (.aload_n 0, 1) := by decide +kernel
theorem dX12_burn_81 : decode cX12_burn 81 = .ok (.getfield 7, 3) := by decide +kernel
theorem dX12_burn_84 : decode cX12_burn 84 = .ok (.iload_n 1, 1) := by decide +kernel
theorem dX12_burn_85 : decode cX12_burn 85 = .ok (.iconst 4, 1) := by decide +kernel
theorem dX12_burn_86 : decode cX12_burn 86 = .ok (.iadd, 1) := by decide +kernel
theorem dX12_burn_87 : decode cX12_burn 87 = .ok (.iaload, 1) := by decide +kernel
theorem dX12_burn_88 : decode cX12_burn 88 = .ok (.istore 4, 2) := by decide +kernel
theorem dX12_burn_90 : decode cX12_burn 90 = .ok (.aload_n 0, 1) := by decide +kernel
theorem dX12_burn_91 : decode cX12_burn 91 = .ok (.getfield 7, 3) := by decide +kernel
theorem dX12_burn_94 : decode cX12_burn 94 = .ok (.iload_n 1, 1) := by decide +kernel
theorem dX12_burn_95 : decode cX12_burn 95 = .ok (.iconst 5, 1) := by decide +kernel
theorem dX12_burn_96 : decode cX12_burn 96 = .ok (.iadd, 1) := by decide +kernel
theorem dX12_burn_97 : decode cX12_burn 97 = .ok (.dup2, 1) := by decide +kernel
theorem dX12_burn_98 : decode cX12_burn 98 = .ok (.iaload, 1) := by decide +kernel
theorem dX12_burn_99 : decode cX12_burn 99 = .ok (.iload_n 3, 1) := by decide +kernel
theorem dX12_burn_100 : decode cX12_burn 100 = .ok (.isub, 1) := by decide +kernel
theorem dX12_burn_101 : decode cX12_burn 101 = .ok (.iastore, 1) := by decide +kernel
theorem dX12_burn_102 : decode cX12_burn 102 = .ok (.aload_n 0, 1) := by decide +kernel
theorem dX12_burn_103 : decode cX12_burn 103 = .ok (.iload_n 1, 1) := by decide +kernel
theorem dX12_burn_104 : decode cX12_burn 104 = .ok (.iload 4, 2) := by decide +kernel
theorem dX12_burn_106 : decode cX12_burn 106 = .ok (.invokevirtual 179, 3) := by decide +kernel
theorem dX12_burn_109 : decode cX12_burn 109 = .ok (.aload_n 0, 1) := by decide +kernel
theorem dX12_burn_110 : decode cX12_burn 110 = .ok (.getfield 7, 3) := by decide +kernel
theorem dX12_burn_113 : decode cX12_burn 113 = .ok (.iload_n 1, 1) := by decide +kernel
theorem dX12_burn_114 : decode cX12_burn 114 = .ok (.bipush 12, 2) := by decide +kernel
theorem dX12_burn_116 : decode cX12_burn 116 = .ok (.iadd, 1) := by decide +kernel
theorem dX12_burn_117 : decode cX12_burn 117 = .ok (.iconst 1, 1) := by decide +kernel
theorem dX12_burn_118 : decode cX12_burn 118 = .ok (.iadd, 1) := by decide +kernel
theorem dX12_burn_119 : decode cX12_burn 119 = .ok (.dup2, 1) := by decide +kernel
theorem dX12_burn_120 : decode cX12_burn 120 = .ok (.iaload, 1) := by decide +kernel
theorem dX12_burn_121 : decode cX12_burn 121 = .ok (.iload_n 3, 1) := by decide +kernel
theorem dX12_burn_122 : decode cX12_burn 122 = .ok (.iload 4, 2) := by decide +kernel
theorem dX12_burn_124 : decode cX12_burn 124 = .ok (.iadd, 1) := by decide +kernel
theorem dX12_burn_125 : decode cX12_burn 125 = .ok (.iadd, 1) := by decide +kernel
theorem dX12_burn_126 : decode cX12_burn 126 = .ok (.iastore, 1) := by decide +kernel
theorem dX12_burn_127 : decode cX12_burn 127 = .ok (.aload_n 0, 1) := by decide +kernel
theorem dX12_burn_128 : decode cX12_burn 128 = .ok (.getfield 7, 3) := by decide +kernel
theorem dX12_burn_131 : decode cX12_burn 131 = .ok (.iload_n 1, 1) := by decide +kernel
theorem dX12_burn_132 : decode cX12_burn 132 = .ok (.bipush 9, 2) := by decide +kernel
theorem dX12_burn_134 : decode cX12_burn 134 = .ok (.iadd, 1) := by decide +kernel
theorem dX12_burn_135 : decode cX12_burn 135 = .ok (.iload_n 3, 1) := by decide +kernel
theorem dX12_burn_136 : decode cX12_burn 136 = .ok (.iload 4, 2) := by decide +kernel
theorem dX12_burn_138 : decode cX12_burn 138 = .ok (.iadd, 1) := by decide +kernel
theorem dX12_burn_139 : decode cX12_burn 139 = .ok (.iload_n 2, 1) := by decide +kernel
theorem dX12_burn_140 : decode cX12_burn 140 = .ok (.if_icmp .ge 7, 3) := by decide +kernel
theorem dX12_burn_143 : decode cX12_burn 143 = .ok (.iconst 1, 1) := by decide +kernel
theorem dX12_burn_144 : decode cX12_burn 144 = .ok (.goto 4, 3) := by decide +kernel
theorem dX12_burn_147 : decode cX12_burn 147 = .ok (.iconst 0, 1) := by decide +kernel
theorem dX12_burn_148 : decode cX12_burn 148 = .ok (.iastore, 1) := by decide +kernel
theorem dX12_burn_149 : decode cX12_burn 149 = .ok (.return_, 1) := by decide +kernel
set_option maxRecDepth 20000 in
theorem ggX12_endOrder_X12_beginOrder : GoodIn wsX12_endOrder wsX12_beginOrder := goodIn_r _ [6, 1, 7, 8, 9, 10, 11, 12, 13, 14, 15, 16, 17, 18, 19, 20, 21, 22, 23, 24, 25, 26, 27, 28, 29, 30, 31, 32, 33, 34, 35, 36, 37, 38, 39, 40, 41, 42, 43, 44, 45, 46, 47, 48, 49, 50, 51, 52, 53, 54, 55, 56, 57, 58, 59] (by decide +kernel) (by decide +kernel)
set_option maxRecDepth 20000 in
theorem gX12_endOrder_X12_beginOrder : GoodIn wsX12_endOrder (wsV RX12 154 RX12 yX12_beginOrder wsX12_beginOrder) := goodIn_app (goodIn_of _ (by decide +kernel)) ggX12_endOrder_X12_beginOrder
theorem dX12_endOrder_0 : decode cX12_endOrder 0 = .ok (.iconst 2, 1) := by decide +kernel
theorem dX12_endOrder_1 : decode cX12_endOrder 1 = .ok (.istore_n 2, 1) := by decide +kernel
theorem dX12_endOrder_2 : decode cX12_endOrder 2 = .ok (.iload_n 2, 1) := by decide +kernel
theorem dX12_endOrder_3 : decode cX12_endOrder 3 = .ok (.iconst 2, 1) := by decide +kernel
theorem dX12_endOrder_4 : decode cX12_endOrder 4 = .ok (.aload_n 0, 1) := by decide +kernel
theorem dX12_endOrder_5 : decode cX12_endOrder 5 = .ok (.getfield 7, 3) := by decide +kernel
theorem dX12_endOrder_8 : decode cX12_endOrder 8 = .ok (.iload_n 1, 1) := by decide +kernel
theorem dX12_endOrder_9 : decode cX12_endOrder 9 = .ok (.bipush 10, 2) := by decide +kernel
theorem dX12_endOrder_11 : decode cX12_endOrder 11 = .ok (.iadd, 1) := by decide +kernel
theorem dX12_endOrder_12 : decode cX12_endOrder 12 = .ok (.iaload, 1) := by decide +kernel
theorem dX12_endOrder_13 : decode cX12_endOrder 13 = .ok (.imul, 1) := by decide +kernel
theorem dX12_endOrder_14 : decode cX12_endOrder 14 = .ok (.if_icmp .ge 33, 3) := by decide +kernel
theorem dX12_endOrder_17 : decode cX12_endOrder 17 = .ok (.aload_n 0, 1) := by decide +kernel
theorem dX12_endOrder_18 : decode cX12_endOrder 18 = .ok (.getfield 7, 3) := by decide +kernel
theorem dX12_endOrder_21 : decode cX12_endOrder 21 = .ok (.iload_n 1, 1) := by decide +kernel
theorem dX12_endOrder_22 : decode cX12_endOrder 22 = .ok (.bipush 44, 2) := by decide +kernel
theorem dX12_endOrder_24 : decode cX12_endOrder 24 = .ok (.iadd, 1) := by decide +kernel
theorem dX12_endOrder_25 : decode cX12_endOrder 25 = .ok (.iload_n 2, 1) := by decide +kernel
theorem dX12_endOrder_26 : decode cX12_endOrder 26 = .ok (.iadd, 1) := by decide +kernel
theorem dX12_endOrder_27 : decode cX12_endOrder 27 = .ok (.iconst 2, 1) := by decide +kernel
theorem dX12_endOrder_28 : decode cX12_endOrder 28 = .ok (.isub, 1) := by decide +kernel
theorem dX12_endOrder_29 : decode cX12_endOrder 29 = .ok (.aload_n 0, 1) := by decide +kernel
theorem dX12_endOrder_30 : decode cX12_endOrder 30 = .ok (.getfield 7, 3) := by decide +kernel
theorem dX12_endOrder_33 : decode cX12_endOrder 33 = .ok (.iload_n 1, 1) := by decide +kernel
theorem dX12_endOrder_34 : decode cX12_endOrder 34 = .ok (.bipush 44, 2) := by decide +kernel
theorem dX12_endOrder_36 : decode cX12_endOrder 36 = .ok (.iadd, 1) := by decide +kernel
theorem dX12_endOrder_37 : decode cX12_endOrder 37 = .ok (.iload_n 2, 1) := by decide +kernel
theorem dX12_endOrder_38 : decode cX12_endOrder 38 = .ok (.iadd, 1) := by decide +kernel
theorem dX12_endOrder_39 : decode cX12_endOrder 39 = .ok (.iaload, 1) := by decide +kernel
theorem dX12_endOrder_40 : decode cX12_endOrder 40 = .ok (.iastore, 1) := by decide +kernel
theorem dX12_endOrder_41 : decode cX12_endOrder 41 = .ok (.iinc 2 1, 3) := by decide +kernel
theorem dX12_endOrder_44 : decode cX12_endOrder 44 = .ok (.goto (-42), 3) := by decide +kernel
theorem dX12_endOrder_47 : decode cX12_endOrder 47 = .ok (.aload_n 0, 1) := by decide +kernel
theorem dX12_endOrder_48 : decode cX12_endOrder 48 = .ok (.getfield 7, 3) := by decide +kernel
theorem dX12_endOrder_51 : decode cX12_endOrder 51 = .ok (.iload_n 1, 1) := by decide +kernel
theorem dX12_endOrder_52 : decode cX12_endOrder 52 = .ok (.bipush 10, 2) := by decide +kernel
theorem dX12_endOrder_54 : decode cX12_endOrder 54 = .ok (.iadd, 1) := by decide +kernel
theorem dX12_endOrder_55 : decode cX12_endOrder 55 = .ok (.dup2, 1) := by decide +kernel
theorem dX12_endOrder_56 : decode cX12_endOrder 56 = .ok (.iaload, 1) := by decide +kernel
theorem dX12_endOrder_57 : decode cX12_endOrder 57 = .ok (.iconst 1, 1) := by decide +kernel
theorem dX12_endOrder_58 : decode cX12_endOrder 58 = .ok (.isub, 1) := by decide +kernel
theorem dX12_endOrder_59 : decode cX12_endOrder 59 = .ok (.iastore, 1) := by decide +kernel
theorem dX12_endOrder_60 : decode cX12_endOrder 60 = .ok (.aload_n 0, 1) := by decide +kernel
theorem dX12_endOrder_61 : decode cX12_endOrder 61 = .ok (.iload_n 1, 1) := by decide +kernel
theorem dX12_endOrder_62 : decode cX12_endOrder 62 = .ok (.invokevirtual 154, 3) := by decide +kernel
theorem dX12_endOrder_65 : decode cX12_endOrder 65 = .ok (.return_, 1) := by decide +kernel
set_option maxRecDepth 20000 in
theorem ggX12_doOrder_X12_sail : GoodIn wsX12_doOrder wsX12_sail := goodIn_r _ [6, 1, 7, 8, 9, 10, 5, 11, 12, 13, 14, 15, 16, 17, 18, 19, 83, 84, 85, 86, 87, 88, 89, 90, 91, 92, 93, 94, 95, 96, 97, 98, 99, 100, 101, 102, 103, 104, 105, 106, 107, 108, 109, 110, 111, 112, 113, 114, 115, 116, 117, 118, 119, 120, 121, 122, 123, 124, 125, 126, 127, 128, 129, 130, 131, 132, 133, 134, 135] (by decide +kernel) (by decide +kernel)
set_option maxRecDepth 20000 in
theorem gX12_doOrder_X12_sail : GoodIn wsX12_doOrder (wsV RX12 192 RX12 yX12_sail wsX12_sail) := goodIn_app (goodIn_of _ (by decide +kernel)) ggX12_doOrder_X12_sail
set_option maxRecDepth 20000 in
theorem ggX12_doOrder_X12_endOrder : GoodIn wsX12_doOrder wsX12_endOrder := goodIn_r _ [11, 1, 12, 13, 14, 5, 15, 83, 84, 85, 86, 87, 88, 89, 90, 91, 92, 93, 94, 95, 96, 97, 98, 99, 100, 101, 102, 103, 104, 105, 106, 107, 108, 109, 110, 111, 112, 113, 114, 115, 116, 117, 118, 119, 120, 121, 122, 123, 124, 125, 126, 127, 128, 129, 130, 131, 132, 133, 134, 135] (by decide +kernel) (by decide +kernel)
set_option maxRecDepth 20000 in
theorem gX12_doOrder_X12_endOrder : GoodIn wsX12_doOrder (wsV RX12 195 RX12 yX12_endOrder wsX12_endOrder) := goodIn_app (goodIn_of _ (by decide +kernel)) ggX12_doOrder_X12_endOrder
set_option maxRecDepth 20000 in
theorem ggX12_doOrder_X12_mayGo : GoodIn wsX12_doOrder wsX12_mayGo := goodIn_r _ [23, 1, 24, 25, 5, 26, 27, 28, 29, 30, 31, 32, 33, 34, 35, 36, 37, 38, 83, 84, 85, 86, 87, 88, 89, 90, 91, 92, 93, 94, 95, 96, 97, 98, 99, 100, 101, 102, 103, 104, 105, 106, 107, 108, 109, 110, 111, 112, 113, 114, 115, 116, 117, 118, 119, 120, 121, 122, 123, 124, 125, 126, 127, 128, 129, 130, 131, 132, 133, 134, 135] (by decide +kernel) (by decide +kernel)
set_option maxRecDepth 20000 in
theorem gX12_doOrder_X12_mayGo : GoodIn wsX12_doOrder (wsV RX12 198 RX12 yX12_mayGo wsX12_mayGo) := goodIn_app (goodIn_of _ (by decide +kernel)) ggX12_doOrder_X12_mayGo
set_option maxRecDepth 20000 in
theorem ggX12_doOrder_X12_toLoad : GoodIn wsX12_doOrder wsX12_toLoad := goodIn_r _ [42, 1, 31, 32, 5, 33, 43, 44, 45, 46, 47, 48, 49, 50, 51, 83, 84, 85, 86, 87, 88, 89, 90, 91, 92, 93, 94, 95, 96, 97, 98, 99, 100, 101, 102, 103, 104, 105, 106, 107, 108, 109, 110, 111, 112, 113, 114, 115, 116, 117, 118, 119, 120, 121, 122, 123, 124, 125, 126, 127, 128, 129, 130, 131, 132, 133, 134, 135] (by decide +kernel) (by decide +kernel)
set_option maxRecDepth 20000 in
theorem gX12_doOrder_X12_toLoad : GoodIn wsX12_doOrder (wsV RX12 202 RX12 yX12_toLoad wsX12_toLoad) := goodIn_app (goodIn_of _ (by decide +kernel)) ggX12_doOrder_X12_toLoad
set_option maxRecDepth 20000 in
theorem ggX12_doOrder_X12_toLand : GoodIn wsX12_doOrder wsX12_toLand := goodIn_r _ [55, 1, 31, 32, 5, 33, 43, 44, 45, 56, 57, 58, 59, 83, 84, 85, 86, 87, 88, 89, 90, 91, 92, 93, 94, 95, 96, 97, 98, 99, 100, 101, 102, 103, 104, 105, 106, 107, 108, 109, 110, 111, 112, 113, 114, 115, 116, 117, 118, 119, 120, 121, 122, 123, 124, 125, 126, 127, 128, 129, 130, 131, 132, 133, 134, 135] (by decide +kernel) (by decide +kernel)
set_option maxRecDepth 20000 in
theorem gX12_doOrder_X12_toLand : GoodIn wsX12_doOrder (wsV RX12 205 RX12 yX12_toLand wsX12_toLand) := goodIn_app (goodIn_of _ (by decide +kernel)) ggX12_doOrder_X12_toLand
set_option maxRecDepth 20000 in
theorem ggX12_doOrder_X12_load : GoodIn wsX12_doOrder wsX12_load := goodIn_r _ [63, 1, 31, 32, 5, 33, 83, 84, 85, 86, 87, 88, 89, 90, 91, 92, 93, 94, 95, 96, 97, 98, 99, 100, 101, 102, 103, 104, 105, 106, 107, 108, 109, 110, 111, 112, 113, 114, 115, 116, 117, 118, 119, 120, 121, 122, 123, 124, 125, 126, 127, 128, 129, 130, 131, 132, 133, 134, 135] (by decide +kernel) (by decide +kernel)
set_option maxRecDepth 20000 in
theorem gX12_doOrder_X12_load : GoodIn wsX12_doOrder (wsV RX12 208 RX12 yX12_load wsX12_load) := goodIn_app (goodIn_of _ (by decide +kernel)) ggX12_doOrder_X12_load
set_option maxRecDepth 20000 in
theorem ggX12_doOrder_X12_land : GoodIn wsX12_doOrder wsX12_land := goodIn_r _ [67, 1, 68, 69, 70, 71, 5, 72, 73, 74, 31, 32, 33, 83, 84, 85, 86, 87, 88, 89, 90, 91, 92, 93, 94, 95, 96, 97, 98, 99, 100, 101, 102, 103, 104, 105, 106, 107, 108, 109, 110, 111, 112, 113, 114, 115, 116, 117, 118, 119, 120, 121, 122, 123, 124, 125, 126, 127, 128, 129, 130, 131, 132, 133, 134, 135] (by decide +kernel) (by decide +kernel)
set_option maxRecDepth 20000 in
theorem gX12_doOrder_X12_land : GoodIn wsX12_doOrder (wsV RX12 211 RX12 yX12_land wsX12_land) := goodIn_app (goodIn_of _ (by decide +kernel)) ggX12_doOrder_X12_land
set_option maxRecDepth 20000 in
theorem ggX12_doOrder_X12_endLanding : GoodIn wsX12_doOrder wsX12_endLanding := goodIn_r _ [78, 1, 79, 80, 81, 5, 82, 83, 84, 85, 86, 87, 88, 89, 90, 91, 92, 93, 94, 95, 96, 97, 98, 99, 100, 101, 102, 103, 104, 105, 106, 107, 108, 109, 110, 111, 112, 113, 114, 115, 116, 117, 118, 119, 120, 121, 122, 123, 124, 125, 126, 127, 128, 129, 130, 131, 132, 133, 134, 135] (by decide +kernel) (by decide +kernel)
set_option maxRecDepth 20000 in
theorem gX12_doOrder_X12_endLanding : GoodIn wsX12_doOrder (wsV RX12 214 RX12 yX12_endLanding wsX12_endLanding) := goodIn_app (goodIn_of _ (by decide +kernel)) ggX12_doOrder_X12_endLanding
theorem dX12_doOrder_0 : decode cX12_doOrder 0 = .ok (.aload_n 0, 1) := by decide +kernel
theorem dX12_doOrder_1 : decode cX12_doOrder 1 = .ok (.getfield 7, 3) := by decide +kernel
theorem dX12_doOrder_4 : decode cX12_doOrder 4 = .ok (.iload_n 2, 1) := by decide +kernel
theorem dX12_doOrder_5 : decode cX12_doOrder 5 = .ok (.bipush 44, 2) := by decide +kernel
theorem dX12_doOrder_7 : decode cX12_doOrder 7 = .ok (.iadd, 1) := by decide +kernel
theorem dX12_doOrder_8 : decode cX12_doOrder 8 = .ok (.iaload, 1) := by decide +kernel
theorem dX12_doOrder_9 : decode cX12_doOrder 9 = .ok (.istore 4, 2) := by decide +kernel
theorem dX12_doOrder_11 : decode cX12_doOrder 11 = .ok (.aload_n 0, 1) := by decide +kernel
theorem dX12_doOrder_12 : decode cX12_doOrder 12 = .ok (.getfield 7, 3) := by decide +kernel
theorem dX12_doOrder_15 : decode cX12_doOrder 15 = .ok (.iload_n 2, 1) := by decide +kernel
theorem dX12_doOrder_16 : decode cX12_doOrder 16 = .ok (.bipush 44, 2) := by decide +kernel
theorem dX12_doOrder_18 : decode cX12_doOrder 18 = .ok (.iadd, 1) := by decide +kernel
theorem dX12_doOrder_19 : decode cX12_doOrder 19 = .ok (.iconst 1, 1) := by decide +kernel
theorem dX12_doOrder_20 : decode cX12_doOrder 20 = .ok (.iadd, 1) := by decide +kernel
theorem dX12_doOrder_21 : decode cX12_doOrder 21 = .ok (.iaload, 1) := by decide +kernel
theorem dX12_doOrder_22 : decode cX12_doOrder 22 = .ok (.istore 5, 2) := by decide +kernel
theorem dX12_doOrder_24 : decode cX12_doOrder 24 = .ok (.iload 4, 2) := by decide +kernel
theorem dX12_doOrder_26 : decode cX12_doOrder 26 = .ok (.ifCond .ne 14, 3) := by decide +kernel
theorem dX12_doOrder_29 : decode cX12_doOrder 29 = .ok (.aload_n 0, 1) := by decide +kernel
theorem dX12_doOrder_30 : decode cX12_doOrder 30 = .ok (.iload_n 2, 1) := by decide +kernel
theorem dX12_doOrder_31 : decode cX12_doOrder 31 = .ok (.iload_n 3, 1) := by decide +kernel
theorem dX12_doOrder_32 : decode cX12_doOrder 32 = .ok (.iload 5, 2) := by decide +kernel
theorem dX12_doOrder_34 : decode cX12_doOrder 34 = .ok (.invokevirtual 192, 3) := by decide +kernel
theorem dX12_doOrder_37 : decode cX12_doOrder 37 = .ok (.goto 131, 3) := by decide +kernel
theorem dX12_doOrder_40 : decode cX12_doOrder 40 = .ok (.iload 4, 2) := by decide +kernel
theorem dX12_doOrder_42 : decode cX12_doOrder 42 = .ok (.iconst 3, 1) := by decide +kernel
theorem dX12_doOrder_43 : decode cX12_doOrder 43 = .ok (.if_icmp .ne 17, 3) := by decide +kernel
theorem dX12_doOrder_46 : decode cX12_doOrder 46 = .ok (.iload_n 3, 1) := by decide +kernel
theorem dX12_doOrder_47 : decode cX12_doOrder 47 = .ok (.iload 5, 2) := by decide +kernel
theorem dX12_doOrder_49 : decode cX12_doOrder 49 = .ok (.if_icmp .lt 119, 3) := by decide +kernel
theorem dX12_doOrder_52 : decode cX12_doOrder 52 = .ok (.aload_n 0, 1) := by decide +kernel
theorem dX12_doOrder_53 : decode cX12_doOrder 53 = .ok (.iload_n 2, 1) := by decide +kernel
theorem dX12_doOrder_54 : decode cX12_doOrder 54 = .ok (.invokevirtual 195, 3) := by decide +kernel
theorem dX12_doOrder_57 : decode cX12_doOrder 57 = .ok (.goto 111, 3) := by decide +kernel
theorem dX12_doOrder_60 : decode cX12_doOrder 60 = .ok (.aload_n 0, 1) := by decide +kernel
theorem dX12_doOrder_61 : decode cX12_doOrder 61 = .ok (.iload_n 1, 1) := by decide +kernel
theorem dX12_doOrder_62 : decode cX12_doOrder 62 = .ok (.iload_n 2, 1) := by decide +kernel
theorem dX12_doOrder_63 : decode cX12_doOrder 63 = .ok (.iload_n 3, 1) := by decide +kernel
theorem dX12_doOrder_64 : decode cX12_doOrder 64 = .ok (.invokevirtual 198, 3) := by decide +kernel
theorem dX12_doOrder_67 : decode cX12_doOrder 67 = .ok (.ifCond .eq 101, 3) := by decide +kernel
theorem dX12_doOrder_70 : decode cX12_doOrder 70 = .ok (.iload 4, 2) := by decide +kernel
theorem dX12_doOrder_72 : decode cX12_doOrder 72 = .ok (.iconst 1, 1) := by decide +kernel
theorem dX12_doOrder_73 : decode cX12_doOrder 73 = .ok (.if_icmp .ne 11, 3) := by decide +kernel
theorem dX12_doOrder_76 : decode cX12_doOrder 76 = .ok (.aload_n 0, 1) := by decide +kernel
theorem dX12_doOrder_77 : decode cX12_doOrder 77 = .ok (.iload_n 2, 1) := by decide +kernel
theorem dX12_doOrder_78 : decode cX12_doOrder 78 = .ok (.invokevirtual 202, 3) := by decide +kernel
theorem dX12_doOrder_81 : decode cX12_doOrder 81 = .ok (.goto 8, 3) := by decide +kernel
theorem dX12_doOrder_84 : decode cX12_doOrder 84 = .ok (.aload_n 0, 1) := by decide +kernel
theorem dX12_doOrder_85 : decode cX12_doOrder 85 = .ok (.iload_n 2, 1) := by decide +kernel
theorem dX12_doOrder_86 : decode cX12_doOrder 86 = .ok (.invokevirtual 205, 3) := by decide +kernel
theorem dX12_doOrder_89 : decode cX12_doOrder 89 = .ok (.istore 6, 2) := by decide +kernel
theorem dX12_doOrder_91 : decode cX12_doOrder 91 = .ok (.iload 6, 2) := by decide +kernel
theorem dX12_doOrder_93 : decode cX12_doOrder 93 = .ok (.ifCond .le 41, 3) := by decide +kernel
theorem dX12_doOrder_96 : decode cX12_doOrder 96 = .ok (.iload 4, 2) := by decide +kernel
theorem dX12_doOrder_98 : decode cX12_doOrder 98 = .ok (.iconst 1, 1) := by decide +kernel
theorem dX12_doOrder_99 : decode cX12_doOrder 99 = .ok (.if_icmp .ne 13, 3) := by decide +kernel
theorem dX12_doOrder_102 : decode cX12_doOrder 102 = .ok (.aload_n 0, 1) := by decide +kernel
theorem dX12_doOrder_103 : decode cX12_doOrder 103 = .ok (.iload_n 2, 1) := by decide +kernel
theorem dX12_doOrder_104 : decode cX12_doOrder 104 = .ok (.iload 6, 2) := by decide +kernel
theorem dX12_doOrder_106 : decode cX12_doOrder 106 = .ok (.invokevirtual 208, 3) := by decide +kernel
theorem dX12_doOrder_109 : decode cX12_doOrder 109 = .ok (.goto 11, 3) := by decide +kernel
theorem dX12_doOrder_112 : decode cX12_doOrder 112 = .ok (.aload_n 0, 1) := by decide +kernel
theorem dX12_doOrder_113 : decode cX12_doOrder 113 = .ok (.iload_n 2, 1) := by decide +kernel
theorem dX12_doOrder_114 : decode cX12_doOrder 114 = .ok (.iload 6, 2) := by decide +kernel
theorem dX12_doOrder_116 : decode cX12_doOrder 116 = .ok (.iload_n 3, 1) := by decide +kernel
theorem dX12_doOrder_117 : decode cX12_doOrder 117 = .ok (.invokevirtual 211, 3) := by decide +kernel
theorem dX12_doOrder_120 : decode cX12_doOrder 120 = .ok (.aload_n 0, 1) := by decide +kernel
theorem dX12_doOrder_121 : decode cX12_doOrder 121 = .ok (.getfield 7, 3) := by decide +kernel
theorem dX12_doOrder_124 : decode cX12_doOrder 124 = .ok (.iload_n 2, 1) := by decide +kernel
theorem dX12_doOrder_125 : decode cX12_doOrder 125 = .ok (.bipush 11, 2) := by decide +kernel
theorem dX12_doOrder_127 : decode cX12_doOrder 127 = .ok (.iadd, 1) := by decide +kernel
theorem dX12_doOrder_128 : decode cX12_doOrder 128 = .ok (.dup2, 1) := by decide +kernel
theorem dX12_doOrder_129 : decode cX12_doOrder 129 = .ok (.iaload, 1) := by decide +kernel
theorem dX12_doOrder_130 : decode cX12_doOrder 130 = .ok (.iload 6, 2) := by decide +kernel
theorem dX12_doOrder_132 : decode cX12_doOrder 132 = .ok (.isub, 1) := by decide +kernel
theorem dX12_doOrder_133 : decode cX12_doOrder 133 = .ok (.iastore, 1) := by decide +kernel
theorem dX12_doOrder_134 : decode cX12_doOrder 134 = .ok (.iload 6, 2) := by decide +kernel
theorem dX12_doOrder_136 : decode cX12_doOrder 136 = .ok (.ifCond .le 15, 3) := by decide +kernel
theorem dX12_doOrder_139 : decode cX12_doOrder 139 = .ok (.aload_n 0, 1) := by decide +kernel
theorem dX12_doOrder_140 : decode cX12_doOrder 140 = .ok (.getfield 7, 3) := by decide +kernel
theorem dX12_doOrder_143 : decode cX12_doOrder 143 = .ok (.iload_n 2, 1) := by decide +kernel
theorem dX12_doOrder_144 : decode cX12_doOrder 144 = .ok (.bipush 11, 2) := by decide +kernel
theorem dX12_doOrder_146 : decode cX12_doOrder 146 = .ok (.iadd, 1) := by decide +kernel
theorem dX12_doOrder_147 : decode cX12_doOrder 147 = .ok (.iaload, 1) := by decide +kernel
theorem dX12_doOrder_148 : decode cX12_doOrder 148 = .ok (.ifCond .ne 20, 3) := by decide +kernel
theorem dX12_doOrder_151 : decode cX12_doOrder 151 = .ok (.iload 4, 2) := by decide +kernel
theorem dX12_doOrder_153 : decode cX12_doOrder 153 = .ok (.iconst 2, 1) := by decide +kernel
theorem dX12_doOrder_154 : decode cX12_doOrder 154 = .ok (.if_icmp .ne 9, 3) := by decide +kernel
theorem dX12_doOrder_157 : decode cX12_doOrder 157 = .ok (.aload_n 0, 1) := by decide +kernel
theorem dX12_doOrder_158 : decode cX12_doOrder 158 = .ok (.iload_n 1, 1) := by decide +kernel
theorem dX12_doOrder_159 : decode cX12_doOrder 159 = .ok (.iload_n 2, 1) := by decide +kernel
theorem dX12_doOrder_160 : decode cX12_doOrder 160 = .ok (.invokevirtual 214, 3) := by decide +kernel
theorem dX12_doOrder_163 : decode cX12_doOrder 163 = .ok (.aload_n 0, 1) := by decide +kernel
theorem dX12_doOrder_164 : decode cX12_doOrder 164 = .ok (.iload_n 2, 1) := by decide +kernel
theorem dX12_doOrder_165 : decode cX12_doOrder 165 = .ok (.invokevirtual 195, 3) := by decide +kernel
theorem dX12_doOrder_168 : decode cX12_doOrder 168 = .ok (.return_, 1) := by decide +kernel
set_option maxRecDepth 20000 in
theorem ggX12_sail_X12_endOrder : GoodIn wsX12_sail wsX12_endOrder := goodIn_r _ [7, 1, 8, 9, 10, 6, 11, 16, 17, 18, 19, 20, 21, 22, 23, 24, 25, 26, 27, 28, 29, 30, 31, 32, 33, 34, 35, 36, 37, 38, 39, 40, 41, 42, 43, 44, 45, 46, 47, 48, 49, 50, 51, 52, 53, 54, 55, 56, 57, 58, 59, 60, 61, 62, 63, 64, 65, 66, 67, 68] (by decide +kernel) (by decide +kernel)
set_option maxRecDepth 20000 in
theorem gX12_sail_X12_endOrder : GoodIn wsX12_sail (wsV RX12 195 RX12 yX12_endOrder wsX12_endOrder) := goodIn_app (goodIn_of _ (by decide +kernel)) ggX12_sail_X12_endOrder
set_option maxRecDepth 20000 in
theorem ggX12_sail_X12_wayOf : GoodIn wsX12_sail wsX12_wayOf := goodIn_r _ [15, 1, 16, 17, 18, 19, 20, 21, 22, 23, 24, 25, 26, 27, 28, 29, 30, 31, 32, 33, 34, 35, 36, 37, 38, 39, 40, 41, 42, 43, 44, 45, 46, 47, 48, 49, 50, 51, 52, 53, 54, 55, 56, 57, 58, 59, 60, 61, 62, 63, 64, 65, 66, 67, 68] (by decide +kernel) (by decide +kernel)
set_option maxRecDepth 20000 in
theorem gX12_sail_X12_wayOf : GoodIn wsX12_sail (wsV RX12 217 RX12 yX12_wayOf wsX12_wayOf) := goodIn_app (goodIn_of _ (by decide +kernel)) ggX12_sail_X12_wayOf
theorem dX12_sail_0 : decode cX12_sail 0 = .ok (.aload_n 0, 1) := by decide +kernel
theorem dX12_sail_1 : decode cX12_sail 1 = .ok (.getfield 7, 3) := by decide +kernel
theorem dX12_sail_4 : decode cX12_sail 4 = .ok (.iload_n 1, 1) := by decide +kernel
theorem dX12_sail_5 : decode cX12_sail 5 = .ok (.iconst 1, 1) := by decide +kernel
theorem dX12_sail_6 : decode cX12_sail 6 = .ok (.iadd, 1) := by decide +kernel
theorem dX12_sail_7 : decode cX12_sail 7 = .ok (.iaload, 1) := by decide +kernel
theorem dX12_sail_8 : decode cX12_sail 8 = .ok (.ifCond .ne 104, 3) := by decide +kernel
theorem dX12_sail_11 : decode cX12_sail 11 = .ok (.aload_n 0, 1) := by decide +kernel
theorem dX12_sail_12 : decode cX12_sail 12 = .ok (.getfield 7, 3) := by decide +kernel
theorem dX12_sail_15 : decode cX12_sail 15 = .ok (.iload_n 1, 1) := by decide +kernel
theorem dX12_sail_16 : decode cX12_sail 16 = .ok (.iconst 0, 1) := by decide +kernel
theorem dX12_sail_17 : decode cX12_sail 17 = .ok (.iadd, 1) := by decide +kernel
theorem dX12_sail_18 : decode cX12_sail 18 = .ok (.iaload, 1) := by decide +kernel
theorem dX12_sail_19 : decode cX12_sail 19 = .ok (.iload_n 3, 1) := by decide +kernel
theorem dX12_sail_20 : decode cX12_sail 20 = .ok (.if_icmp .ne 9, 3) := by decide +kernel
theorem dX12_sail_23 : decode cX12_sail 23 = .ok (.aload_n 0, 1) := by decide +kernel
theorem dX12_sail_24 : decode cX12_sail 24 = .ok (.iload_n 1, 1) := by decide +kernel
theorem dX12_sail_25 : decode cX12_sail 25 = .ok (.invokevirtual 195, 3) := by decide +kernel
theorem dX12_sail_28 : decode cX12_sail 28 = .ok (.return_, 1) := by decide +kernel
theorem dX12_sail_29 : decode cX12_sail 29 = .ok (.aload_n 0, 1) := by decide +kernel
theorem dX12_sail_30 : decode cX12_sail 30 = .ok (.aload_n 0, 1) := by decide +kernel
theorem dX12_sail_31 : decode cX12_sail 31 = .ok (.getfield 7, 3) := by decide +kernel
theorem dX12_sail_34 : decode cX12_sail 34 = .ok (.iload_n 1, 1) := by decide +kernel
theorem dX12_sail_35 : decode cX12_sail 35 = .ok (.iconst 0, 1) := by decide +kernel
theorem dX12_sail_36 : decode cX12_sail 36 = .ok (.iadd, 1) := by decide +kernel
theorem dX12_sail_37 : decode cX12_sail 37 = .ok (.iaload, 1) := by decide +kernel
theorem dX12_sail_38 : decode cX12_sail 38 = .ok (.iload_n 3, 1) := by decide +kernel
theorem dX12_sail_39 : decode cX12_sail 39 = .ok (.invokevirtual 217, 3) := by decide +kernel
theorem dX12_sail_42 : decode cX12_sail 42 = .ok (.istore 4, 2) := by decide +kernel
theorem dX12_sail_44 : decode cX12_sail 44 = .ok (.iload 4, 2) := by decide +kernel
theorem dX12_sail_46 : decode cX12_sail 46 = .ok (.ifCond .ne 4, 3) := by decide +kernel
theorem dX12_sail_49 : decode cX12_sail 49 = .ok (.return_, 1) := by decide +kernel
theorem dX12_sail_50 : decode cX12_sail 50 = .ok (.aload_n 0, 1) := by decide +kernel
theorem dX12_sail_51 : decode cX12_sail 51 = .ok (.getfield 7, 3) := by decide +kernel
theorem dX12_sail_54 : decode cX12_sail 54 = .ok (.iload_n 1, 1) := by decide +kernel
theorem dX12_sail_55 : decode cX12_sail 55 = .ok (.iconst 3, 1) := by decide +kernel
theorem dX12_sail_56 : decode cX12_sail 56 = .ok (.iadd, 1) := by decide +kernel
theorem dX12_sail_57 : decode cX12_sail 57 = .ok (.aload_n 0, 1) := by decide +kernel
theorem dX12_sail_58 : decode cX12_sail 58 = .ok (.getfield 7, 3) := by decide +kernel
theorem dX12_sail_61 : decode cX12_sail 61 = .ok (.bipush 50, 2) := by decide +kernel
theorem dX12_sail_63 : decode cX12_sail 63 = .ok (.iconst 2, 1) := by decide +kernel
theorem dX12_sail_64 : decode cX12_sail 64 = .ok (.bipush 6, 2) := by decide +kernel
theorem dX12_sail_66 : decode cX12_sail 66 = .ok (.aload_n 0, 1) := by decide +kernel
theorem dX12_sail_67 : decode cX12_sail 67 = .ok (.getfield 7, 3) := by decide +kernel
theorem dX12_sail_70 : decode cX12_sail 70 = .ok (.iload_n 1, 1) := by decide +kernel
theorem dX12_sail_71 : decode cX12_sail 71 = .ok (.iconst 0, 1) := by decide +kernel
theorem dX12_sail_72 : decode cX12_sail 72 = .ok (.iadd, 1) := by decide +kernel
theorem dX12_sail_73 : decode cX12_sail 73 = .ok (.iaload, 1) := by decide +kernel
theorem dX12_sail_74 : decode cX12_sail 74 = .ok (.imul, 1) := by decide +kernel
theorem dX12_sail_75 : decode cX12_sail 75 = .ok (.iload_n 3, 1) := by decide +kernel
theorem dX12_sail_76 : decode cX12_sail 76 = .ok (.iadd, 1) := by decide +kernel
theorem dX12_sail_77 : decode cX12_sail 77 = .ok (.imul, 1) := by decide +kernel
theorem dX12_sail_78 : decode cX12_sail 78 = .ok (.iadd, 1) := by decide +kernel
theorem dX12_sail_79 : decode cX12_sail 79 = .ok (.iconst 1, 1) := by decide +kernel
theorem dX12_sail_80 : decode cX12_sail 80 = .ok (.iadd, 1) := by decide +kernel
theorem dX12_sail_81 : decode cX12_sail 81 = .ok (.iaload, 1) := by decide +kernel
theorem dX12_sail_82 : decode cX12_sail 82 = .ok (.iastore, 1) := by decide +kernel
theorem dX12_sail_83 : decode cX12_sail 83 = .ok (.aload_n 0, 1) := by decide +kernel
theorem dX12_sail_84 : decode cX12_sail 84 = .ok (.getfield 7, 3) := by decide +kernel
theorem dX12_sail_87 : decode cX12_sail 87 = .ok (.iload_n 1, 1) := by decide +kernel
theorem dX12_sail_88 : decode cX12_sail 88 = .ok (.iconst 1, 1) := by decide +kernel
theorem dX12_sail_89 : decode cX12_sail 89 = .ok (.iadd, 1) := by decide +kernel
theorem dX12_sail_90 : decode cX12_sail 90 = .ok (.iload 4, 2) := by decide +kernel
theorem dX12_sail_92 : decode cX12_sail 92 = .ok (.iastore, 1) := by decide +kernel
theorem dX12_sail_93 : decode cX12_sail 93 = .ok (.aload_n 0, 1) := by decide +kernel
theorem dX12_sail_94 : decode cX12_sail 94 = .ok (.getfield 7, 3) := by decide +kernel
theorem dX12_sail_97 : decode cX12_sail 97 = .ok (.iload_n 1, 1) := by decide +kernel
theorem dX12_sail_98 : decode cX12_sail 98 = .ok (.iconst 2, 1) := by decide +kernel
theorem dX12_sail_99 : decode cX12_sail 99 = .ok (.iadd, 1) := by decide +kernel
theorem dX12_sail_100 : decode cX12_sail 100 = .ok (.iload 4, 2) := by decide +kernel
theorem dX12_sail_102 : decode cX12_sail 102 = .ok (.iastore, 1) := by decide +kernel
theorem dX12_sail_103 : decode cX12_sail 103 = .ok (.aload_n 0, 1) := by decide +kernel
theorem dX12_sail_104 : decode cX12_sail 104 = .ok (.getfield 7, 3) := by decide +kernel
theorem dX12_sail_107 : decode cX12_sail 107 = .ok (.iload_n 1, 1) := by decide +kernel
theorem dX12_sail_108 : decode cX12_sail 108 = .ok (.iconst 0, 1) := by decide +kernel
theorem dX12_sail_109 : decode cX12_sail 109 = .ok (.iadd, 1) := by decide +kernel
theorem dX12_sail_110 : decode cX12_sail 110 = .ok (.iload_n 3, 1) := by decide +kernel
theorem dX12_sail_111 : decode cX12_sail 111 = .ok (.iastore, 1) := by decide +kernel
theorem dX12_sail_112 : decode cX12_sail 112 = .ok (.aload_n 0, 1) := by decide +kernel
theorem dX12_sail_113 : decode cX12_sail 113 = .ok (.getfield 7, 3) := by decide +kernel
theorem dX12_sail_116 : decode cX12_sail 116 = .ok (.iload_n 1, 1) := by decide +kernel
theorem dX12_sail_117 : decode cX12_sail 117 = .ok (.bipush 9, 2) := by decide +kernel
theorem dX12_sail_119 : decode cX12_sail 119 = .ok (.iadd, 1) := by decide +kernel
theorem dX12_sail_120 : decode cX12_sail 120 = .ok (.iaload, 1) := by decide +kernel
theorem dX12_sail_121 : decode cX12_sail 121 = .ok (.iconst 1, 1) := by decide +kernel
theorem dX12_sail_122 : decode cX12_sail 122 = .ok (.if_icmp .eq 28, 3) := by decide +kernel
theorem dX12_sail_125 : decode cX12_sail 125 = .ok (.aload_n 0, 1) := by decide +kernel
theorem dX12_sail_126 : decode cX12_sail 126 = .ok (.getfield 7, 3) := by decide +kernel
theorem dX12_sail_129 : decode cX12_sail 129 = .ok (.sipush 147, 3) := by decide +kernel
theorem dX12_sail_132 : decode cX12_sail 132 = .ok (.iload_n 2, 1) := by decide +kernel
theorem dX12_sail_133 : decode cX12_sail 133 = .ok (.bipush 24, 2) := by decide +kernel
theorem dX12_sail_135 : decode cX12_sail 135 = .ok (.idiv, 1) := by decide +kernel
theorem dX12_sail_136 : decode cX12_sail 136 = .ok (.iadd, 1) := by decide +kernel
theorem dX12_sail_137 : decode cX12_sail 137 = .ok (.iaload, 1) := by decide +kernel
theorem dX12_sail_138 : decode cX12_sail 138 = .ok (.bipush 6, 2) := by decide +kernel
theorem dX12_sail_140 : decode cX12_sail 140 = .ok (.if_icmp .le 11, 3) := by decide +kernel
theorem dX12_sail_143 : decode cX12_sail 143 = .ok (.iload_n 2, 1) := by decide +kernel
theorem dX12_sail_144 : decode cX12_sail 144 = .ok (.iconst 2, 1) := by decide +kernel
theorem dX12_sail_145 : decode cX12_sail 145 = .ok (.irem, 1) := by decide +kernel
theorem dX12_sail_146 : decode cX12_sail 146 = .ok (.iconst 1, 1) := by decide +kernel
theorem dX12_sail_147 : decode cX12_sail 147 = .ok (.if_icmp .ne 4, 3) := by decide +kernel
theorem dX12_sail_150 : decode cX12_sail 150 = .ok (.return_, 1) := by decide +kernel
theorem dX12_sail_151 : decode cX12_sail 151 = .ok (.aload_n 0, 1) := by decide +kernel
theorem dX12_sail_152 : decode cX12_sail 152 = .ok (.getfield 7, 3) := by decide +kernel
theorem dX12_sail_155 : decode cX12_sail 155 = .ok (.iload_n 1, 1) := by decide +kernel
theorem dX12_sail_156 : decode cX12_sail 156 = .ok (.iconst 3, 1) := by decide +kernel
theorem dX12_sail_157 : decode cX12_sail 157 = .ok (.iadd, 1) := by decide +kernel
theorem dX12_sail_158 : decode cX12_sail 158 = .ok (.iaload, 1) := by decide +kernel
theorem dX12_sail_159 : decode cX12_sail 159 = .ok (.iconst 1, 1) := by decide +kernel
theorem dX12_sail_160 : decode cX12_sail 160 = .ok (.if_icmp .ne 64, 3) := by decide +kernel
theorem dX12_sail_163 : decode cX12_sail 163 = .ok (.aload_n 0, 1) := by decide +kernel
theorem dX12_sail_164 : decode cX12_sail 164 = .ok (.getfield 7, 3) := by decide +kernel
theorem dX12_sail_167 : decode cX12_sail 167 = .ok (.iload_n 1, 1) := by decide +kernel
theorem dX12_sail_168 : decode cX12_sail 168 = .ok (.iconst 1, 1) := by decide +kernel
theorem dX12_sail_169 : decode cX12_sail 169 = .ok (.iadd, 1) := by decide +kernel
theorem dX12_sail_170 : decode cX12_sail 170 = .ok (.iaload, 1) := by decide +kernel
theorem dX12_sail_171 : decode cX12_sail 171 = .ok (.aload_n 0, 1) := by decide +kernel
theorem dX12_sail_172 : decode cX12_sail 172 = .ok (.getfield 7, 3) := by decide +kernel
theorem dX12_sail_175 : decode cX12_sail 175 = .ok (.iload_n 1, 1) := by decide +kernel
theorem dX12_sail_176 : decode cX12_sail 176 = .ok (.iconst 2, 1) := by decide +kernel
theorem dX12_sail_177 : decode cX12_sail 177 = .ok (.iadd, 1) := by decide +kernel
theorem dX12_sail_178 : decode cX12_sail 178 = .ok (.iaload, 1) := by decide +kernel
theorem dX12_sail_179 : decode cX12_sail 179 = .ok (.iconst 2, 1) := by decide +kernel
theorem dX12_sail_180 : decode cX12_sail 180 = .ok (.idiv, 1) := by decide +kernel
theorem dX12_sail_181 : decode cX12_sail 181 = .ok (.if_icmp .ne 43, 3) := by decide +kernel
theorem dX12_sail_184 : decode cX12_sail 184 = .ok (.iload_n 2, 1) := by decide +kernel
theorem dX12_sail_185 : decode cX12_sail 185 = .ok (.bipush 24, 2) := by decide +kernel
theorem dX12_sail_187 : decode cX12_sail 187 = .ok (.irem, 1) := by decide +kernel
theorem dX12_sail_188 : decode cX12_sail 188 = .ok (.istore 4, 2) := by decide +kernel
theorem dX12_sail_190 : decode cX12_sail 190 = .ok (.aload_n 0, 1) := by decide +kernel
theorem dX12_sail_191 : decode cX12_sail 191 = .ok (.getfield 169, 3) := by decide +kernel
theorem dX12_sail_194 : decode cX12_sail 194 = .ok (.ifCond .ne 24, 3) := by decide +kernel
theorem dX12_sail_197 : decode cX12_sail 197 = .ok (.iload 4, 2) := by decide +kernel
theorem dX12_sail_199 : decode cX12_sail 199 = .ok (.bipush 6, 2) := by decide +kernel
theorem dX12_sail_201 : decode cX12_sail 201 = .ok (.if_icmp .eq 18, 3) := by decide +kernel
theorem dX12_sail_204 : decode cX12_sail 204 = .ok (.iload 4, 2) := by decide +kernel
theorem dX12_sail_206 : decode cX12_sail 206 = .ok (.bipush 12, 2) := by decide +kernel
theorem dX12_sail_208 : decode cX12_sail 208 = .ok (.if_icmp .eq 11, 3) := by decide +kernel
theorem dX12_sail_211 : decode cX12_sail 211 = .ok (.iload 4, 2) := by decide +kernel
theorem dX12_sail_213 : decode cX12_sail 213 = .ok (.bipush 18, 2) := by decide +kernel
theorem dX12_sail_215 : decode cX12_sail 215 = .ok (.if_icmp .eq 4, 3) := by decide +kernel
theorem dX12_sail_218 : decode cX12_sail 218 = .ok (.return_, 1) := by decide +kernel
theorem dX12_sail_219 : decode cX12_sail 219 = .ok (.aload_n 0, 1) := by decide +kernel
theorem dX12_sail_220 : decode cX12_sail 220 = .ok (.iconst 1, 1) := by decide +kernel
theorem dX12_sail_221 : decode cX12_sail 221 = .ok (.putfield 169, 3) := by decide +kernel
theorem dX12_sail_224 : decode cX12_sail 224 = .ok (.aload_n 0, 1) := by decide +kernel
theorem dX12_sail_225 : decode cX12_sail 225 = .ok (.getfield 7, 3) := by decide +kernel
theorem dX12_sail_228 : decode cX12_sail 228 = .ok (.iload_n 1, 1) := by decide +kernel
theorem dX12_sail_229 : decode cX12_sail 229 = .ok (.iconst 1, 1) := by decide +kernel
theorem dX12_sail_230 : decode cX12_sail 230 = .ok (.iadd, 1) := by decide +kernel
theorem dX12_sail_231 : decode cX12_sail 231 = .ok (.dup2, 1) := by decide +kernel
theorem dX12_sail_232 : decode cX12_sail 232 = .ok (.iaload, 1) := by decide +kernel
theorem dX12_sail_233 : decode cX12_sail 233 = .ok (.iconst 1, 1) := by decide +kernel
theorem dX12_sail_234 : decode cX12_sail 234 = .ok (.isub, 1) := by decide +kernel
theorem dX12_sail_235 : decode cX12_sail 235 = .ok (.iastore, 1) := by decide +kernel
theorem dX12_sail_236 : decode cX12_sail 236 = .ok (.aload_n 0, 1) := by decide +kernel
theorem dX12_sail_237 : decode cX12_sail 237 = .ok (.getfield 7, 3) := by decide +kernel
theorem dX12_sail_240 : decode cX12_sail 240 = .ok (.iload_n 1, 1) := by decide +kernel
theorem dX12_sail_241 : decode cX12_sail 241 = .ok (.iconst 1, 1) := by decide +kernel
theorem dX12_sail_242 : decode cX12_sail 242 = .ok (.iadd, 1) := by decide +kernel
theorem dX12_sail_243 : decode cX12_sail 243 = .ok (.iaload, 1) := by decide +kernel
theorem dX12_sail_244 : decode cX12_sail 244 = .ok (.ifCond .ne 8, 3) := by decide +kernel
theorem dX12_sail_247 : decode cX12_sail 247 = .ok (.aload_n 0, 1) := by decide +kernel
theorem dX12_sail_248 : decode cX12_sail 248 = .ok (.iload_n 1, 1) := by decide +kernel
theorem dX12_sail_249 : decode cX12_sail 249 = .ok (.invokevirtual 195, 3) := by decide +kernel
theorem dX12_sail_252 : decode cX12_sail 252 = .ok (.return_, 1) := by decide +kernel
set_option maxRecDepth 20000 in
theorem ggX12_mayGo_X12_in : GoodIn wsX12_mayGo wsX12_in := goodIn_r _ [5] (by decide +kernel) (by decide +kernel)
set_option maxRecDepth 20000 in
theorem gX12_mayGo_X12_in : GoodIn wsX12_mayGo (va_wsS RX12 99 yX12_in wsX12_in) := goodIn_app (goodIn_of _ (by decide +kernel)) ggX12_mayGo_X12_in
set_option maxRecDepth 20000 in
theorem ggX12_mayGo_X12_isBroken : GoodIn wsX12_mayGo wsX12_isBroken := goodIn_r _ [9, 1, 2, 3, 4, 5, 18, 19, 20, 21, 22, 23, 24, 25, 26, 27, 28, 29, 30, 31, 32, 33, 34, 35, 36, 37, 38, 39, 40, 41, 42, 43, 44, 45, 46, 47, 48, 49, 50, 51, 52, 53, 54, 55, 56, 57, 58, 59, 60, 61, 62, 63, 64, 65, 66, 67, 68, 69, 70] (by decide +kernel) (by decide +kernel)
set_option maxRecDepth 20000 in
theorem gX12_mayGo_X12_isBroken : GoodIn wsX12_mayGo (wsV RX12 221 RX12 yX12_isBroken wsX12_isBroken) := goodIn_app (goodIn_of _ (by decide +kernel)) ggX12_mayGo_X12_isBroken
set_option maxRecDepth 20000 in
theorem ggX12_mayGo_X12_terminalAt : GoodIn wsX12_mayGo wsX12_terminalAt := goodIn_r _ [12] (by decide +kernel) (by decide +kernel)
set_option maxRecDepth 20000 in
theorem gX12_mayGo_X12_terminalAt : GoodIn wsX12_mayGo (va_wsS RX12 115 yX12_terminalAt wsX12_terminalAt) := goodIn_app (goodIn_of _ (by decide +kernel)) ggX12_mayGo_X12_terminalAt
set_option maxRecDepth 20000 in
theorem ggX12_mayGo_X12_draftOf : GoodIn wsX12_mayGo wsX12_draftOf := goodIn_r _ [16, 17, 1, 18, 19, 20, 21, 22, 23, 24, 25, 26, 27, 28, 29, 30, 31, 32, 33, 34, 35, 36, 37, 38, 39, 40, 41, 42, 43, 44, 45, 46, 47, 48, 49, 50, 51, 52, 53, 54, 55, 56, 57, 58, 59, 60, 61, 62, 63, 64, 65, 66, 67, 68, 69, 70] (by decide +kernel) (by decide +kernel)
set_option maxRecDepth 20000 in
theorem gX12_mayGo_X12_draftOf : GoodIn wsX12_mayGo (wsV RX12 225 RX12 yX12_draftOf wsX12_draftOf) := goodIn_app (goodIn_of _ (by decide +kernel)) ggX12_mayGo_X12_draftOf
theorem dX12_mayGo_0 : decode cX12_mayGo 0 = .ok (.aload_n 0, 1) := by decide +kernel
theorem dX12_mayGo_1 : decode cX12_mayGo 1 = .ok (.getfield 7, 3) := by decide +kernel
theorem dX12_mayGo_4 : decode cX12_mayGo 4 = .ok (.iload_n 2, 1) := by decide +kernel
theorem dX12_mayGo_5 : decode cX12_mayGo 5 = .ok (.iconst 0, 1) := by decide +kernel
theorem dX12_mayGo_6 : decode cX12_mayGo 6 = .ok (.iadd, 1) := by decide +kernel
theorem dX12_mayGo_7 : decode cX12_mayGo 7 = .ok (.iaload, 1) := by decide +kernel
theorem dX12_mayGo_8 : decode cX12_mayGo 8 = .ok (.istore 4, 2) := by decide +kernel
theorem dX12_mayGo_10 : decode cX12_mayGo 10 = .ok (.iconst 0, 1) := by decide +kernel
theorem dX12_mayGo_11 : decode cX12_mayGo 11 = .ok (.istore 5, 2) := by decide +kernel
theorem dX12_mayGo_13 : decode cX12_mayGo 13 = .ok (.iconst 0, 1) := by decide +kernel
theorem dX12_mayGo_14 : decode cX12_mayGo 14 = .ok (.istore 6, 2) := by decide +kernel
theorem dX12_mayGo_16 : decode cX12_mayGo 16 = .ok (.iload 6, 2) := by decide +kernel
theorem dX12_mayGo_18 : decode cX12_mayGo 18 = .ok (.aload_n 0, 1) := by decide +kernel
theorem dX12_mayGo_19 : decode cX12_mayGo 19 = .ok (.getfield 7, 3) := by decide +kernel
theorem dX12_mayGo_22 : decode cX12_mayGo 22 = .ok (.iconst 2, 1) := by decide +kernel
theorem dX12_mayGo_23 : decode cX12_mayGo 23 = .ok (.iaload, 1) := by decide +kernel
theorem dX12_mayGo_24 : decode cX12_mayGo 24 = .ok (.if_icmp .ge 84, 3) := by decide +kernel
theorem dX12_mayGo_27 : decode cX12_mayGo 27 = .ok (.sipush 247, 3) := by decide +kernel
theorem dX12_mayGo_30 : decode cX12_mayGo 30 = .ok (.iconst 4, 1) := by decide +kernel
theorem dX12_mayGo_31 : decode cX12_mayGo 31 = .ok (.iload 6, 2) := by decide +kernel
theorem dX12_mayGo_33 : decode cX12_mayGo 33 = .ok (.imul, 1) := by decide +kernel
theorem dX12_mayGo_34 : decode cX12_mayGo 34 = .ok (.iadd, 1) := by decide +kernel
theorem dX12_mayGo_35 : decode cX12_mayGo 35 = .ok (.istore 7, 2) := by decide +kernel
theorem dX12_mayGo_37 : decode cX12_mayGo 37 = .ok (.iload 5, 2) := by decide +kernel
theorem dX12_mayGo_39 : decode cX12_mayGo 39 = .ok (.ifCond .ne 56, 3) := by decide +kernel
theorem dX12_mayGo_42 : decode cX12_mayGo 42 = .ok (.aload_n 0, 1) := by decide +kernel
theorem dX12_mayGo_43 : decode cX12_mayGo 43 = .ok (.getfield 7, 3) := by decide +kernel
theorem dX12_mayGo_46 : decode cX12_mayGo 46 = .ok (.iload 7, 2) := by decide +kernel
theorem dX12_mayGo_48 : decode cX12_mayGo 48 = .ok (.iaload, 1) := by decide +kernel
theorem dX12_mayGo_49 : decode cX12_mayGo 49 = .ok (.iload 4, 2) := by decide +kernel
theorem dX12_mayGo_51 : decode cX12_mayGo 51 = .ok (.if_icmp .ne 48, 3) := by decide +kernel
theorem dX12_mayGo_54 : decode cX12_mayGo 54 = .ok (.aload_n 0, 1) := by decide +kernel
theorem dX12_mayGo_55 : decode cX12_mayGo 55 = .ok (.getfield 7, 3) := by decide +kernel
theorem dX12_mayGo_58 : decode cX12_mayGo 58 = .ok (.iload 7, 2) := by decide +kernel
theorem dX12_mayGo_60 : decode cX12_mayGo 60 = .ok (.iconst 1, 1) := by decide +kernel
theorem dX12_mayGo_61 : decode cX12_mayGo 61 = .ok (.iadd, 1) := by decide +kernel
theorem dX12_mayGo_62 : decode cX12_mayGo 62 = .ok (.iaload, 1) := by decide +kernel
theorem dX12_mayGo_63 : decode cX12_mayGo 63 = .ok (.iload_n 1, 1) := by decide +kernel
theorem dX12_mayGo_64 : decode cX12_mayGo 64 = .ok (.if_icmp .ne 35, 3) := by decide +kernel
theorem dX12_mayGo_67 : decode cX12_mayGo 67 = .ok (.iload_n 3, 1) := by decide +kernel
theorem dX12_mayGo_68 : decode cX12_mayGo 68 = .ok (.i2l, 1) := by decide +kernel
theorem dX12_mayGo_69 : decode cX12_mayGo 69 = .ok (.aload_n 0, 1) := by decide +kernel
theorem dX12_mayGo_70 : decode cX12_mayGo 70 = .ok (.getfield 7, 3) := by decide +kernel
theorem dX12_mayGo_73 : decode cX12_mayGo 73 = .ok (.iload 7, 2) := by decide +kernel
theorem dX12_mayGo_75 : decode cX12_mayGo 75 = .ok (.iconst 2, 1) := by decide +kernel
theorem dX12_mayGo_76 : decode cX12_mayGo 76 = .ok (.iadd, 1) := by decide +kernel
theorem dX12_mayGo_77 : decode cX12_mayGo 77 = .ok (.iaload, 1) := by decide +kernel
theorem dX12_mayGo_78 : decode cX12_mayGo 78 = .ok (.i2l, 1) := by decide +kernel
theorem dX12_mayGo_79 : decode cX12_mayGo 79 = .ok (.aload_n 0, 1) := by decide +kernel
theorem dX12_mayGo_80 : decode cX12_mayGo 80 = .ok (.getfield 7, 3) := by decide +kernel
theorem dX12_mayGo_83 : decode cX12_mayGo 83 = .ok (.iload 7, 2) := by decide +kernel
theorem dX12_mayGo_85 : decode cX12_mayGo 85 = .ok (.iconst 3, 1) := by decide +kernel
theorem dX12_mayGo_86 : decode cX12_mayGo 86 = .ok (.iadd, 1) := by decide +kernel
theorem dX12_mayGo_87 : decode cX12_mayGo 87 = .ok (.iaload, 1) := by decide +kernel
theorem dX12_mayGo_88 : decode cX12_mayGo 88 = .ok (.i2l, 1) := by decide +kernel
theorem dX12_mayGo_89 : decode cX12_mayGo 89 = .ok (.invokestatic 99, 3) := by decide +kernel
theorem dX12_mayGo_92 : decode cX12_mayGo 92 = .ok (.ifCond .eq 7, 3) := by decide +kernel
theorem dX12_mayGo_95 : decode cX12_mayGo 95 = .ok (.iconst 1, 1) := by decide +kernel
theorem dX12_mayGo_96 : decode cX12_mayGo 96 = .ok (.goto 4, 3) := by decide +kernel
theorem dX12_mayGo_99 : decode cX12_mayGo 99 = .ok (.iconst 0, 1) := by decide +kernel
theorem dX12_mayGo_100 : decode cX12_mayGo 100 = .ok (.istore 5, 2) := by decide +kernel
theorem dX12_mayGo_102 : decode cX12_mayGo 102 = .ok (.iinc 6 1, 3) := by decide +kernel
theorem dX12_mayGo_105 : decode cX12_mayGo 105 = .ok (.goto (-89), 3) := by decide +kernel
theorem dX12_mayGo_108 : decode cX12_mayGo 108 = .ok (.aload_n 0, 1) := by decide +kernel
theorem dX12_mayGo_109 : decode cX12_mayGo 109 = .ok (.getfield 7, 3) := by decide +kernel
theorem dX12_mayGo_112 : decode cX12_mayGo 112 = .ok (.iload_n 2, 1) := by decide +kernel
theorem dX12_mayGo_113 : decode cX12_mayGo 113 = .ok (.iconst 1, 1) := by decide +kernel
theorem dX12_mayGo_114 : decode cX12_mayGo 114 = .ok (.iadd, 1) := by decide +kernel
theorem dX12_mayGo_115 : decode cX12_mayGo 115 = .ok (.iaload, 1) := by decide +kernel
theorem dX12_mayGo_116 : decode cX12_mayGo 116 = .ok (.ifCond .ne 55, 3) := by decide +kernel
theorem dX12_mayGo_119 : decode cX12_mayGo 119 = .ok (.iload 5, 2) := by decide +kernel
theorem dX12_mayGo_121 : decode cX12_mayGo 121 = .ok (.ifCond .eq 50, 3) := by decide +kernel
theorem dX12_mayGo_124 : decode cX12_mayGo 124 = .ok (.aload_n 0, 1) := by decide +kernel
theorem dX12_mayGo_125 : decode cX12_mayGo 125 = .ok (.iload 4, 2) := by decide +kernel
theorem dX12_mayGo_127 : decode cX12_mayGo 127 = .ok (.iload_n 3, 1) := by decide +kernel
theorem dX12_mayGo_128 : decode cX12_mayGo 128 = .ok (.invokevirtual 221, 3) := by decide +kernel
theorem dX12_mayGo_131 : decode cX12_mayGo 131 = .ok (.ifCond .ne 40, 3) := by decide +kernel
theorem dX12_mayGo_134 : decode cX12_mayGo 134 = .ok (.aload_n 0, 1) := by decide +kernel
theorem dX12_mayGo_135 : decode cX12_mayGo 135 = .ok (.getfield 7, 3) := by decide +kernel
theorem dX12_mayGo_138 : decode cX12_mayGo 138 = .ok (.iload 4, 2) := by decide +kernel
theorem dX12_mayGo_140 : decode cX12_mayGo 140 = .ok (.invokestatic 115, 3) := by decide +kernel
theorem dX12_mayGo_143 : decode cX12_mayGo 143 = .ok (.iconst 3, 1) := by decide +kernel
theorem dX12_mayGo_144 : decode cX12_mayGo 144 = .ok (.iadd, 1) := by decide +kernel
theorem dX12_mayGo_145 : decode cX12_mayGo 145 = .ok (.iaload, 1) := by decide +kernel
theorem dX12_mayGo_146 : decode cX12_mayGo 146 = .ok (.aload_n 0, 1) := by decide +kernel
theorem dX12_mayGo_147 : decode cX12_mayGo 147 = .ok (.getfield 7, 3) := by decide +kernel
theorem dX12_mayGo_150 : decode cX12_mayGo 150 = .ok (.bipush 122, 2) := by decide +kernel
theorem dX12_mayGo_152 : decode cX12_mayGo 152 = .ok (.iload_n 3, 1) := by decide +kernel
theorem dX12_mayGo_153 : decode cX12_mayGo 153 = .ok (.bipush 25, 2) := by decide +kernel
theorem dX12_mayGo_155 : decode cX12_mayGo 155 = .ok (.irem, 1) := by decide +kernel
theorem dX12_mayGo_156 : decode cX12_mayGo 156 = .ok (.iadd, 1) := by decide +kernel
theorem dX12_mayGo_157 : decode cX12_mayGo 157 = .ok (.iaload, 1) := by decide +kernel
theorem dX12_mayGo_158 : decode cX12_mayGo 158 = .ok (.iadd, 1) := by decide +kernel
theorem dX12_mayGo_159 : decode cX12_mayGo 159 = .ok (.aload_n 0, 1) := by decide +kernel
theorem dX12_mayGo_160 : decode cX12_mayGo 160 = .ok (.iload_n 2, 1) := by decide +kernel
theorem dX12_mayGo_161 : decode cX12_mayGo 161 = .ok (.invokevirtual 225, 3) := by decide +kernel
theorem dX12_mayGo_164 : decode cX12_mayGo 164 = .ok (.if_icmp .lt 7, 3) := by decide +kernel
theorem dX12_mayGo_167 : decode cX12_mayGo 167 = .ok (.iconst 1, 1) := by decide +kernel
theorem dX12_mayGo_168 : decode cX12_mayGo 168 = .ok (.goto 4, 3) := by decide +kernel
theorem dX12_mayGo_171 : decode cX12_mayGo 171 = .ok (.iconst 0, 1) := by decide +kernel
theorem dX12_mayGo_172 : decode cX12_mayGo 172 = .ok (.ireturn, 1) := by decide +kernel
set_option maxRecDepth 20000 in
theorem ggX12_toLoad_X12_terminalAt : GoodIn wsX12_toLoad wsX12_terminalAt := goodIn_r _ [5] (by decide +kernel) (by decide +kernel)
set_option maxRecDepth 20000 in
theorem gX12_toLoad_X12_terminalAt : GoodIn wsX12_toLoad (va_wsS RX12 115 yX12_terminalAt wsX12_terminalAt) := goodIn_app (goodIn_of _ (by decide +kernel)) ggX12_toLoad_X12_terminalAt
set_option maxRecDepth 20000 in
theorem ggX12_toLoad_X12_lesser : GoodIn wsX12_toLoad wsX12_lesser := goodIn_r _ [8] (by decide +kernel) (by decide +kernel)
set_option maxRecDepth 20000 in
theorem gX12_toLoad_X12_lesser : GoodIn wsX12_toLoad (va_wsS RX12 228 yX12_lesser wsX12_lesser) := goodIn_app (goodIn_of _ (by decide +kernel)) ggX12_toLoad_X12_lesser
set_option maxRecDepth 20000 in
theorem ggX12_toLoad_X12_topOf : GoodIn wsX12_toLoad wsX12_topOf := goodIn_r _ [12, 1, 13, 14, 15, 16, 17, 18, 19, 20, 21, 22, 23, 24, 25, 26, 27, 28, 29, 30, 31, 32, 33, 34, 35, 36, 37, 38, 39, 40, 41, 42, 43, 44, 45, 46, 47, 48, 49, 50, 51, 52, 53, 54, 55, 56, 57, 58, 59, 60, 61, 62, 63, 64, 65, 66, 67] (by decide +kernel) (by decide +kernel)
set_option maxRecDepth 20000 in
theorem gX12_toLoad_X12_topOf : GoodIn wsX12_toLoad (wsV RX12 231 RX12 yX12_topOf wsX12_topOf) := goodIn_app (goodIn_of _ (by decide +kernel)) ggX12_toLoad_X12_topOf
theorem dX12_toLoad_0 : decode cX12_toLoad 0 = .ok (.aload_n 0, 1) := by decide +kernel
theorem dX12_toLoad_1 : decode cX12_toLoad 1 = .ok (.getfield 7, 3) := by decide +kernel
theorem dX12_toLoad_4 : decode cX12_toLoad 4 = .ok (.iload_n 1, 1) := by decide +kernel
theorem dX12_toLoad_5 : decode cX12_toLoad 5 = .ok (.iconst 0, 1) := by decide +kernel
theorem dX12_toLoad_6 : decode cX12_toLoad 6 = .ok (.iadd, 1) := by decide +kernel
theorem dX12_toLoad_7 : decode cX12_toLoad 7 = .ok (.iaload, 1) := by decide +kernel
theorem dX12_toLoad_8 : decode cX12_toLoad 8 = .ok (.invokestatic 115, 3) := by decide +kernel
theorem dX12_toLoad_11 : decode cX12_toLoad 11 = .ok (.istore_n 2, 1) := by decide +kernel
theorem dX12_toLoad_12 : decode cX12_toLoad 12 = .ok (.aload_n 0, 1) := by decide +kernel
theorem dX12_toLoad_13 : decode cX12_toLoad 13 = .ok (.getfield 7, 3) := by decide +kernel
theorem dX12_toLoad_16 : decode cX12_toLoad 16 = .ok (.iload_n 2, 1) := by decide +kernel
theorem dX12_toLoad_17 : decode cX12_toLoad 17 = .ok (.iconst 2, 1) := by decide +kernel
theorem dX12_toLoad_18 : decode cX12_toLoad 18 = .ok (.iadd, 1) := by decide +kernel
theorem dX12_toLoad_19 : decode cX12_toLoad 19 = .ok (.iaload, 1) := by decide +kernel
theorem dX12_toLoad_20 : decode cX12_toLoad 20 = .ok (.istore_n 3, 1) := by decide +kernel
theorem dX12_toLoad_21 : decode cX12_toLoad 21 = .ok (.aload_n 0, 1) := by decide +kernel
theorem dX12_toLoad_22 : decode cX12_toLoad 22 = .ok (.getfield 7, 3) := by decide +kernel
theorem dX12_toLoad_25 : decode cX12_toLoad 25 = .ok (.iload_n 1, 1) := by decide +kernel
theorem dX12_toLoad_26 : decode cX12_toLoad 26 = .ok (.bipush 6, 2) := by decide +kernel
theorem dX12_toLoad_28 : decode cX12_toLoad 28 = .ok (.iadd, 1) := by decide +kernel
theorem dX12_toLoad_29 : decode cX12_toLoad 29 = .ok (.iaload, 1) := by decide +kernel
theorem dX12_toLoad_30 : decode cX12_toLoad 30 = .ok (.sipush 200, 3) := by decide +kernel
theorem dX12_toLoad_33 : decode cX12_toLoad 33 = .ok (.if_icmp .le 16, 3) := by decide +kernel
theorem dX12_toLoad_36 : decode cX12_toLoad 36 = .ok (.iload_n 3, 1) := by decide +kernel
theorem dX12_toLoad_37 : decode cX12_toLoad 37 = .ok (.iconst 4, 1) := by decide +kernel
theorem dX12_toLoad_38 : decode cX12_toLoad 38 = .ok (.if_icmp .ge 7, 3) := by decide +kernel
theorem dX12_toLoad_41 : decode cX12_toLoad 41 = .ok (.iconst 1, 1) := by decide +kernel
theorem dX12_toLoad_42 : decode cX12_toLoad 42 = .ok (.goto 6, 3) := by decide +kernel
theorem dX12_toLoad_45 : decode cX12_toLoad 45 = .ok (.iload_n 3, 1) := by decide +kernel
theorem dX12_toLoad_46 : decode cX12_toLoad 46 = .ok (.iconst 4, 1) := by decide +kernel
theorem dX12_toLoad_47 : decode cX12_toLoad 47 = .ok (.idiv, 1) := by decide +kernel
theorem dX12_toLoad_48 : decode cX12_toLoad 48 = .ok (.istore_n 3, 1) := by decide +kernel
theorem dX12_toLoad_49 : decode cX12_toLoad 49 = .ok (.iload_n 3, 1) := by decide +kernel
theorem dX12_toLoad_50 : decode cX12_toLoad 50 = .ok (.aload_n 0, 1) := by decide +kernel
theorem dX12_toLoad_51 : decode cX12_toLoad 51 = .ok (.getfield 7, 3) := by decide +kernel
theorem dX12_toLoad_54 : decode cX12_toLoad 54 = .ok (.iload_n 1, 1) := by decide +kernel
theorem dX12_toLoad_55 : decode cX12_toLoad 55 = .ok (.bipush 11, 2) := by decide +kernel
theorem dX12_toLoad_57 : decode cX12_toLoad 57 = .ok (.iadd, 1) := by decide +kernel
theorem dX12_toLoad_58 : decode cX12_toLoad 58 = .ok (.iaload, 1) := by decide +kernel
theorem dX12_toLoad_59 : decode cX12_toLoad 59 = .ok (.invokestatic 228, 3) := by decide +kernel
theorem dX12_toLoad_62 : decode cX12_toLoad 62 = .ok (.aload_n 0, 1) := by decide +kernel
theorem dX12_toLoad_63 : decode cX12_toLoad 63 = .ok (.getfield 7, 3) := by decide +kernel
theorem dX12_toLoad_66 : decode cX12_toLoad 66 = .ok (.iload_n 2, 1) := by decide +kernel
theorem dX12_toLoad_67 : decode cX12_toLoad 67 = .ok (.iaload, 1) := by decide +kernel
theorem dX12_toLoad_68 : decode cX12_toLoad 68 = .ok (.aload_n 0, 1) := by decide +kernel
theorem dX12_toLoad_69 : decode cX12_toLoad 69 = .ok (.iload_n 1, 1) := by decide +kernel
theorem dX12_toLoad_70 : decode cX12_toLoad 70 = .ok (.invokevirtual 231, 3) := by decide +kernel
theorem dX12_toLoad_73 : decode cX12_toLoad 73 = .ok (.aload_n 0, 1) := by decide +kernel
theorem dX12_toLoad_74 : decode cX12_toLoad 74 = .ok (.getfield 7, 3) := by decide +kernel
theorem dX12_toLoad_77 : decode cX12_toLoad 77 = .ok (.iload_n 1, 1) := by decide +kernel
theorem dX12_toLoad_78 : decode cX12_toLoad 78 = .ok (.iconst 4, 1) := by decide +kernel
theorem dX12_toLoad_79 : decode cX12_toLoad 79 = .ok (.iadd, 1) := by decide +kernel
theorem dX12_toLoad_80 : decode cX12_toLoad 80 = .ok (.iaload, 1) := by decide +kernel
theorem dX12_toLoad_81 : decode cX12_toLoad 81 = .ok (.isub, 1) := by decide +kernel
theorem dX12_toLoad_82 : decode cX12_toLoad 82 = .ok (.invokestatic 228, 3) := by decide +kernel
theorem dX12_toLoad_85 : decode cX12_toLoad 85 = .ok (.invokestatic 228, 3) := by decide +kernel
theorem dX12_toLoad_88 : decode cX12_toLoad 88 = .ok (.ireturn, 1) := by decide +kernel
set_option maxRecDepth 20000 in
theorem ggX12_toLand_X12_terminalAt : GoodIn wsX12_toLand wsX12_terminalAt := goodIn_r _ [5] (by decide +kernel) (by decide +kernel)
set_option maxRecDepth 20000 in
theorem gX12_toLand_X12_terminalAt : GoodIn wsX12_toLand (va_wsS RX12 115 yX12_terminalAt wsX12_terminalAt) := goodIn_app (goodIn_of _ (by decide +kernel)) ggX12_toLand_X12_terminalAt
set_option maxRecDepth 20000 in
theorem ggX12_toLand_X12_lesser : GoodIn wsX12_toLand wsX12_lesser := goodIn_r _ [8] (by decide +kernel) (by decide +kernel)
set_option maxRecDepth 20000 in
theorem gX12_toLand_X12_lesser : GoodIn wsX12_toLand (va_wsS RX12 228 yX12_lesser wsX12_lesser) := goodIn_app (goodIn_of _ (by decide +kernel)) ggX12_toLand_X12_lesser
set_option maxRecDepth 20000 in
theorem ggX12_toLand_X12_heelOf : GoodIn wsX12_toLand wsX12_heelOf := goodIn_r _ [12, 1, 13, 14, 15, 16, 17, 18, 19, 20, 21, 22, 23, 24, 25, 26, 27, 28, 29, 30, 31, 32, 33, 34, 35, 36, 37, 38, 39, 40, 41, 42, 43, 44, 45, 46, 47, 48, 49, 50, 51, 52, 53, 54, 55, 56, 57, 58, 59, 60, 61, 62, 63, 64, 65] (by decide +kernel) (by decide +kernel)
set_option maxRecDepth 20000 in
theorem gX12_toLand_X12_heelOf : GoodIn wsX12_toLand (wsV RX12 182 RX12 yX12_heelOf wsX12_heelOf) := goodIn_app (goodIn_of _ (by decide +kernel)) ggX12_toLand_X12_heelOf
theorem dX12_toLand_0 : decode cX12_toLand 0 = .ok (.aload_n 0, 1) := by decide +kernel
theorem dX12_toLand_1 : decode cX12_toLand 1 = .ok (.getfield 7, 3) := by decide +kernel
theorem dX12_toLand_4 : decode cX12_toLand 4 = .ok (.iload_n 1, 1) := by decide +kernel
theorem dX12_toLand_5 : decode cX12_toLand 5 = .ok (.iconst 0, 1) := by decide +kernel
theorem dX12_toLand_6 : decode cX12_toLand 6 = .ok (.iadd, 1) := by decide +kernel
theorem dX12_toLand_7 : decode cX12_toLand 7 = .ok (.iaload, 1) := by decide +kernel
theorem dX12_toLand_8 : decode cX12_toLand 8 = .ok (.invokestatic 115, 3) := by decide +kernel
theorem dX12_toLand_11 : decode cX12_toLand 11 = .ok (.istore_n 2, 1) := by decide +kernel
theorem dX12_toLand_12 : decode cX12_toLand 12 = .ok (.aload_n 0, 1) := by decide +kernel
theorem dX12_toLand_13 : decode cX12_toLand 13 = .ok (.getfield 7, 3) := by decide +kernel
theorem dX12_toLand_16 : decode cX12_toLand 16 = .ok (.iload_n 2, 1) := by decide +kernel
theorem dX12_toLand_17 : decode cX12_toLand 17 = .ok (.iconst 2, 1) := by decide +kernel
theorem dX12_toLand_18 : decode cX12_toLand 18 = .ok (.iadd, 1) := by decide +kernel
theorem dX12_toLand_19 : decode cX12_toLand 19 = .ok (.iaload, 1) := by decide +kernel
theorem dX12_toLand_20 : decode cX12_toLand 20 = .ok (.aload_n 0, 1) := by decide +kernel
theorem dX12_toLand_21 : decode cX12_toLand 21 = .ok (.getfield 7, 3) := by decide +kernel
theorem dX12_toLand_24 : decode cX12_toLand 24 = .ok (.iload_n 1, 1) := by decide +kernel
theorem dX12_toLand_25 : decode cX12_toLand 25 = .ok (.bipush 11, 2) := by decide +kernel
theorem dX12_toLand_27 : decode cX12_toLand 27 = .ok (.iadd, 1) := by decide +kernel
theorem dX12_toLand_28 : decode cX12_toLand 28 = .ok (.iaload, 1) := by decide +kernel
theorem dX12_toLand_29 : decode cX12_toLand 29 = .ok (.invokestatic 228, 3) := by decide +kernel
theorem dX12_toLand_32 : decode cX12_toLand 32 = .ok (.aload_n 0, 1) := by decide +kernel
theorem dX12_toLand_33 : decode cX12_toLand 33 = .ok (.getfield 7, 3) := by decide +kernel
theorem dX12_toLand_36 : decode cX12_toLand 36 = .ok (.iload_n 1, 1) := by decide +kernel
theorem dX12_toLand_37 : decode cX12_toLand 37 = .ok (.iconst 4, 1) := by decide +kernel
theorem dX12_toLand_38 : decode cX12_toLand 38 = .ok (.iadd, 1) := by decide +kernel
theorem dX12_toLand_39 : decode cX12_toLand 39 = .ok (.iaload, 1) := by decide +kernel
theorem dX12_toLand_40 : decode cX12_toLand 40 = .ok (.aload_n 0, 1) := by decide +kernel
theorem dX12_toLand_41 : decode cX12_toLand 41 = .ok (.iload_n 1, 1) := by decide +kernel
theorem dX12_toLand_42 : decode cX12_toLand 42 = .ok (.invokevirtual 182, 3) := by decide +kernel
theorem dX12_toLand_45 : decode cX12_toLand 45 = .ok (.isub, 1) := by decide +kernel
theorem dX12_toLand_46 : decode cX12_toLand 46 = .ok (.aload_n 0, 1) := by decide +kernel
theorem dX12_toLand_47 : decode cX12_toLand 47 = .ok (.getfield 7, 3) := by decide +kernel
theorem dX12_toLand_50 : decode cX12_toLand 50 = .ok (.iload_n 2, 1) := by decide +kernel
theorem dX12_toLand_51 : decode cX12_toLand 51 = .ok (.iconst 1, 1) := by decide +kernel
theorem dX12_toLand_52 : decode cX12_toLand 52 = .ok (.iadd, 1) := by decide +kernel
theorem dX12_toLand_53 : decode cX12_toLand 53 = .ok (.iaload, 1) := by decide +kernel
theorem dX12_toLand_54 : decode cX12_toLand 54 = .ok (.aload_n 0, 1) := by decide +kernel
theorem dX12_toLand_55 : decode cX12_toLand 55 = .ok (.getfield 7, 3) := by decide +kernel
theorem dX12_toLand_58 : decode cX12_toLand 58 = .ok (.iload_n 2, 1) := by decide +kernel
theorem dX12_toLand_59 : decode cX12_toLand 59 = .ok (.iaload, 1) := by decide +kernel
theorem dX12_toLand_60 : decode cX12_toLand 60 = .ok (.isub, 1) := by decide +kernel
theorem dX12_toLand_61 : decode cX12_toLand 61 = .ok (.invokestatic 228, 3) := by decide +kernel
theorem dX12_toLand_64 : decode cX12_toLand 64 = .ok (.invokestatic 228, 3) := by decide +kernel
theorem dX12_toLand_67 : decode cX12_toLand 67 = .ok (.ireturn, 1) := by decide +kernel
set_option maxRecDepth 20000 in
theorem ggX12_load_X12_terminalAt : GoodIn wsX12_load wsX12_terminalAt := goodIn_r _ [5] (by decide +kernel) (by decide +kernel)
set_option maxRecDepth 20000 in
theorem gX12_load_X12_terminalAt : GoodIn wsX12_load (va_wsS RX12 115 yX12_terminalAt wsX12_terminalAt) := goodIn_app (goodIn_of _ (by decide +kernel)) ggX12_load_X12_terminalAt
theorem dX12_load_0 : decode cX12_load 0 = .ok (.aload_n 0, 1) := by decide +kernel
theorem dX12_load_1 : decode cX12_load 1 = .ok (.getfield 7, 3) := by decide +kernel
theorem dX12_load_4 : decode cX12_load 4 = .ok (.aload_n 0, 1) := by decide +kernel
theorem dX12_load_5 : decode cX12_load 5 = .ok (.getfield 7, 3) := by decide +kernel
theorem dX12_load_8 : decode cX12_load 8 = .ok (.iload_n 1, 1) := by decide +kernel
theorem dX12_load_9 : decode cX12_load 9 = .ok (.iconst 0, 1) := by decide +kernel
theorem dX12_load_10 : decode cX12_load 10 = .ok (.iadd, 1) := by decide +kernel
theorem dX12_load_11 : decode cX12_load 11 = .ok (.iaload, 1) := by decide +kernel
theorem dX12_load_12 : decode cX12_load 12 = .ok (.invokestatic 115, 3) := by decide +kernel
theorem dX12_load_15 : decode cX12_load 15 = .ok (.dup2, 1) := by decide +kernel
theorem dX12_load_16 : decode cX12_load 16 = .ok (.iaload, 1) := by decide +kernel
theorem dX12_load_17 : decode cX12_load 17 = .ok (.iload_n 2, 1) := by decide +kernel
theorem dX12_load_18 : decode cX12_load 18 = .ok (.isub, 1) := by decide +kernel
theorem dX12_load_19 : decode cX12_load 19 = .ok (.iastore, 1) := by decide +kernel
theorem dX12_load_20 : decode cX12_load 20 = .ok (.aload_n 0, 1) := by decide +kernel
theorem dX12_load_21 : decode cX12_load 21 = .ok (.getfield 7, 3) := by decide +kernel
theorem dX12_load_24 : decode cX12_load 24 = .ok (.iload_n 1, 1) := by decide +kernel
theorem dX12_load_25 : decode cX12_load 25 = .ok (.iconst 4, 1) := by decide +kernel
theorem dX12_load_26 : decode cX12_load 26 = .ok (.iadd, 1) := by decide +kernel
theorem dX12_load_27 : decode cX12_load 27 = .ok (.dup2, 1) := by decide +kernel
theorem dX12_load_28 : decode cX12_load 28 = .ok (.iaload, 1) := by decide +kernel
theorem dX12_load_29 : decode cX12_load 29 = .ok (.iload_n 2, 1) := by decide +kernel
theorem dX12_load_30 : decode cX12_load 30 = .ok (.iadd, 1) := by decide +kernel
theorem dX12_load_31 : decode cX12_load 31 = .ok (.iastore, 1) := by decide +kernel
theorem dX12_load_32 : decode cX12_load 32 = .ok (.aload_n 0, 1) := by decide +kernel
theorem dX12_load_33 : decode cX12_load 33 = .ok (.getfield 7, 3) := by decide +kernel
theorem dX12_load_36 : decode cX12_load 36 = .ok (.iload_n 1, 1) := by decide +kernel
theorem dX12_load_37 : decode cX12_load 37 = .ok (.bipush 16, 2) := by decide +kernel
theorem dX12_load_39 : decode cX12_load 39 = .ok (.iadd, 1) := by decide +kernel
theorem dX12_load_40 : decode cX12_load 40 = .ok (.aload_n 0, 1) := by decide +kernel
theorem dX12_load_41 : decode cX12_load 41 = .ok (.getfield 7, 3) := by decide +kernel
theorem dX12_load_44 : decode cX12_load 44 = .ok (.iload_n 1, 1) := by decide +kernel
theorem dX12_load_45 : decode cX12_load 45 = .ok (.iconst 0, 1) := by decide +kernel
theorem dX12_load_46 : decode cX12_load 46 = .ok (.iadd, 1) := by decide +kernel
theorem dX12_load_47 : decode cX12_load 47 = .ok (.iaload, 1) := by decide +kernel
theorem dX12_load_48 : decode cX12_load 48 = .ok (.iadd, 1) := by decide +kernel
theorem dX12_load_49 : decode cX12_load 49 = .ok (.dup2, 1) := by decide +kernel
theorem dX12_load_50 : decode cX12_load 50 = .ok (.iaload, 1) := by decide +kernel
theorem dX12_load_51 : decode cX12_load 51 = .ok (.iload_n 2, 1) := by decide +kernel
theorem dX12_load_52 : decode cX12_load 52 = .ok (.iadd, 1) := by decide +kernel
theorem dX12_load_53 : decode cX12_load 53 = .ok (.iastore, 1) := by decide +kernel
theorem dX12_load_54 : decode cX12_load 54 = .ok (.aload_n 0, 1) := by decide +kernel
theorem dX12_load_55 : decode cX12_load 55 = .ok (.getfield 7, 3) := by decide +kernel
theorem dX12_load_58 : decode cX12_load 58 = .ok (.iload_n 1, 1) := by decide +kernel
theorem dX12_load_59 : decode cX12_load 59 = .ok (.bipush 12, 2) := by decide +kernel
theorem dX12_load_61 : decode cX12_load 61 = .ok (.iadd, 1) := by decide +kernel
theorem dX12_load_62 : decode cX12_load 62 = .ok (.dup2, 1) := by decide +kernel
theorem dX12_load_63 : decode cX12_load 63 = .ok (.iaload, 1) := by decide +kernel
theorem dX12_load_64 : decode cX12_load 64 = .ok (.iload_n 2, 1) := by decide +kernel
theorem dX12_load_65 : decode cX12_load 65 = .ok (.iadd, 1) := by decide +kernel
theorem dX12_load_66 : decode cX12_load 66 = .ok (.iastore, 1) := by decide +kernel
theorem dX12_load_67 : decode cX12_load 67 = .ok (.return_, 1) := by decide +kernel
set_option maxRecDepth 20000 in
theorem ggX12_land_X12_take : GoodIn wsX12_land wsX12_take := goodIn_r _ [7, 1, 2, 8, 9, 13, 14, 15, 16, 17, 18, 19, 20, 21, 22, 23, 24, 25, 26, 27, 28, 29, 30, 31, 32, 33, 34, 35, 36, 37, 38, 39, 40, 41, 42, 43, 44, 45, 46, 47, 48, 49, 50, 51, 52, 53, 54, 55, 56, 57, 58, 59, 60, 61, 62, 63, 64, 65] (by decide +kernel) (by decide +kernel)
set_option maxRecDepth 20000 in
theorem gX12_land_X12_take : GoodIn wsX12_land (wsV RX12 179 RX12 yX12_take wsX12_take) := goodIn_app (goodIn_of _ (by decide +kernel)) ggX12_land_X12_take
set_option maxRecDepth 20000 in
theorem ggX12_land_X12_terminalAt : GoodIn wsX12_land wsX12_terminalAt := goodIn_r _ [12] (by decide +kernel) (by decide +kernel)
set_option maxRecDepth 20000 in
theorem gX12_land_X12_terminalAt : GoodIn wsX12_land (va_wsS RX12 115 yX12_terminalAt wsX12_terminalAt) := goodIn_app (goodIn_of _ (by decide +kernel)) ggX12_land_X12_terminalAt
theorem dX12_land_0 : decode cX12_land 0 = .ok (.aload_n 0, 1) := by decide +kernel
theorem dX12_land_1 : decode cX12_land 1 = .ok (.iload_n 1, 1) := by decide +kernel
theorem dX12_land_2 : decode cX12_land 2 = .ok (.iload_n 2, 1) := by decide +kernel
theorem dX12_land_3 : decode cX12_land 3 = .ok (.invokevirtual 179, 3) := by decide +kernel
theorem dX12_land_6 : decode cX12_land 6 = .ok (.aload_n 0, 1) := by decide +kernel
theorem dX12_land_7 : decode cX12_land 7 = .ok (.getfield 7, 3) := by decide +kernel
theorem dX12_land_10 : decode cX12_land 10 = .ok (.aload_n 0, 1) := by decide +kernel
theorem dX12_land_11 : decode cX12_land 11 = .ok (.getfield 7, 3) := by decide +kernel
theorem dX12_land_14 : decode cX12_land 14 = .ok (.iload_n 1, 1) := by decide +kernel
theorem dX12_land_15 : decode cX12_land 15 = .ok (.iconst 0, 1) := by decide +kernel
theorem dX12_land_16 : decode cX12_land 16 = .ok (.iadd, 1) := by decide +kernel
theorem dX12_land_17 : decode cX12_land 17 = .ok (.iaload, 1) := by decide +kernel
theorem dX12_land_18 : decode cX12_land 18 = .ok (.invokestatic 115, 3) := by decide +kernel
theorem dX12_land_21 : decode cX12_land 21 = .ok (.dup2, 1) := by decide +kernel
theorem dX12_land_22 : decode cX12_land 22 = .ok (.iaload, 1) := by decide +kernel
theorem dX12_land_23 : decode cX12_land 23 = .ok (.iload_n 2, 1) := by decide +kernel
theorem dX12_land_24 : decode cX12_land 24 = .ok (.iadd, 1) := by decide +kernel
theorem dX12_land_25 : decode cX12_land 25 = .ok (.iastore, 1) := by decide +kernel
theorem dX12_land_26 : decode cX12_land 26 = .ok (.aload_n 0, 1) := by decide +kernel
theorem dX12_land_27 : decode cX12_land 27 = .ok (.getfield 7, 3) := by decide +kernel
theorem dX12_land_30 : decode cX12_land 30 = .ok (.iload_n 1, 1) := by decide +kernel
theorem dX12_land_31 : decode cX12_land 31 = .ok (.bipush 12, 2) := by decide +kernel
theorem dX12_land_33 : decode cX12_land 33 = .ok (.iadd, 1) := by decide +kernel
theorem dX12_land_34 : decode cX12_land 34 = .ok (.iconst 3, 1) := by decide +kernel
theorem dX12_land_35 : decode cX12_land 35 = .ok (.iadd, 1) := by decide +kernel
theorem dX12_land_36 : decode cX12_land 36 = .ok (.dup2, 1) := by decide +kernel
theorem dX12_land_37 : decode cX12_land 37 = .ok (.iaload, 1) := by decide +kernel
theorem dX12_land_38 : decode cX12_land 38 = .ok (.iload_n 2, 1) := by decide +kernel
theorem dX12_land_39 : decode cX12_land 39 = .ok (.iadd, 1) := by decide +kernel
theorem dX12_land_40 : decode cX12_land 40 = .ok (.iastore, 1) := by decide +kernel
theorem dX12_land_41 : decode cX12_land 41 = .ok (.aload_n 0, 1) := by decide +kernel
theorem dX12_land_42 : decode cX12_land 42 = .ok (.getfield 7, 3) := by decide +kernel
theorem dX12_land_45 : decode cX12_land 45 = .ok (.iload_n 1, 1) := by decide +kernel
theorem dX12_land_46 : decode cX12_land 46 = .ok (.bipush 23, 2) := by decide +kernel
theorem dX12_land_48 : decode cX12_land 48 = .ok (.iadd, 1) := by decide +kernel
theorem dX12_land_49 : decode cX12_land 49 = .ok (.aload_n 0, 1) := by decide +kernel
theorem dX12_land_50 : decode cX12_land 50 = .ok (.getfield 7, 3) := by decide +kernel
theorem dX12_land_53 : decode cX12_land 53 = .ok (.iload_n 1, 1) := by decide +kernel
theorem dX12_land_54 : decode cX12_land 54 = .ok (.bipush 22, 2) := by decide +kernel
theorem dX12_land_56 : decode cX12_land 56 = .ok (.iadd, 1) := by decide +kernel
theorem dX12_land_57 : decode cX12_land 57 = .ok (.iaload, 1) := by decide +kernel
theorem dX12_land_58 : decode cX12_land 58 = .ok (.ifCond .ne 7, 3) := by decide +kernel
theorem dX12_land_61 : decode cX12_land 61 = .ok (.iload_n 3, 1) := by decide +kernel
theorem dX12_land_62 : decode cX12_land 62 = .ok (.goto 12, 3) := by decide +kernel
theorem dX12_land_65 : decode cX12_land 65 = .ok (.aload_n 0, 1) := by decide +kernel
theorem dX12_land_66 : decode cX12_land 66 = .ok (.getfield 7, 3) := by decide +kernel
theorem dX12_land_69 : decode cX12_land 69 = .ok (.iload_n 1, 1) := by decide +kernel
theorem dX12_land_70 : decode cX12_land 70 = .ok (.bipush 23, 2) := by decide +kernel
theorem dX12_land_72 : decode cX12_land 72 = .ok (.iadd, 1) := by decide +kernel
theorem dX12_land_73 : decode cX12_land 73 = .ok (.iaload, 1) := by decide +kernel
theorem dX12_land_74 : decode cX12_land 74 = .ok (.iastore, 1) := by decide +kernel
theorem dX12_land_75 : decode cX12_land 75 = .ok (.aload_n 0, 1) := by decide +kernel
theorem dX12_land_76 : decode cX12_land 76 = .ok (.getfield 7, 3) := by decide +kernel
theorem dX12_land_79 : decode cX12_land 79 = .ok (.iload_n 1, 1) := by decide +kernel
theorem dX12_land_80 : decode cX12_land 80 = .ok (.bipush 24, 2) := by decide +kernel
theorem dX12_land_82 : decode cX12_land 82 = .ok (.iadd, 1) := by decide +kernel
theorem dX12_land_83 : decode cX12_land 83 = .ok (.iload_n 3, 1) := by decide +kernel
theorem dX12_land_84 : decode cX12_land 84 = .ok (.iastore, 1) := by decide +kernel
theorem dX12_land_85 : decode cX12_land 85 = .ok (.aload_n 0, 1) := by decide +kernel
theorem dX12_land_86 : decode cX12_land 86 = .ok (.getfield 7, 3) := by decide +kernel
theorem dX12_land_89 : decode cX12_land 89 = .ok (.iload_n 1, 1) := by decide +kernel
theorem dX12_land_90 : decode cX12_land 90 = .ok (.bipush 22, 2) := by decide +kernel
theorem dX12_land_92 : decode cX12_land 92 = .ok (.iadd, 1) := by decide +kernel
theorem dX12_land_93 : decode cX12_land 93 = .ok (.dup2, 1) := by decide +kernel
theorem dX12_land_94 : decode cX12_land 94 = .ok (.iaload, 1) := by decide +kernel
theorem dX12_land_95 : decode cX12_land 95 = .ok (.iload_n 2, 1) := by decide +kernel
theorem dX12_land_96 : decode cX12_land 96 = .ok (.iadd, 1) := by decide +kernel
theorem dX12_land_97 : decode cX12_land 97 = .ok (.iastore, 1) := by decide +kernel
theorem dX12_land_98 : decode cX12_land 98 = .ok (.iconst 0, 1) := by decide +kernel
theorem dX12_land_99 : decode cX12_land 99 = .ok (.istore 4, 2) := by decide +kernel
theorem dX12_land_101 : decode cX12_land 101 = .ok (.iload 4, 2) := by decide +kernel
theorem dX12_land_103 : decode cX12_land 103 = .ok (.bipush 6, 2) := by decide +kernel
theorem dX12_land_105 : decode cX12_land 105 = .ok (.if_icmp .ge 31, 3) := by decide +kernel
theorem dX12_land_108 : decode cX12_land 108 = .ok (.aload_n 0, 1) := by decide +kernel
theorem dX12_land_109 : decode cX12_land 109 = .ok (.getfield 7, 3) := by decide +kernel
theorem dX12_land_112 : decode cX12_land 112 = .ok (.iload_n 1, 1) := by decide +kernel
theorem dX12_land_113 : decode cX12_land 113 = .ok (.bipush 25, 2) := by decide +kernel
theorem dX12_land_115 : decode cX12_land 115 = .ok (.iadd, 1) := by decide +kernel
theorem dX12_land_116 : decode cX12_land 116 = .ok (.iload 4, 2) := by decide +kernel
theorem dX12_land_118 : decode cX12_land 118 = .ok (.iadd, 1) := by decide +kernel
theorem dX12_land_119 : decode cX12_land 119 = .ok (.dup2, 1) := by decide +kernel
theorem dX12_land_120 : decode cX12_land 120 = .ok (.iaload, 1) := by decide +kernel
theorem dX12_land_121 : decode cX12_land 121 = .ok (.aload_n 0, 1) := by decide +kernel
theorem dX12_land_122 : decode cX12_land 122 = .ok (.getfield 20, 3) := by decide +kernel
theorem dX12_land_125 : decode cX12_land 125 = .ok (.iload 4, 2) := by decide +kernel
theorem dX12_land_127 : decode cX12_land 127 = .ok (.iaload, 1) := by decide +kernel
theorem dX12_land_128 : decode cX12_land 128 = .ok (.iadd, 1) := by decide +kernel
theorem dX12_land_129 : decode cX12_land 129 = .ok (.iastore, 1) := by decide +kernel
theorem dX12_land_130 : decode cX12_land 130 = .ok (.iinc 4 1, 3) := by decide +kernel
theorem dX12_land_133 : decode cX12_land 133 = .ok (.goto (-32), 3) := by decide +kernel
theorem dX12_land_136 : decode cX12_land 136 = .ok (.return_, 1) := by decide +kernel
set_option maxRecDepth 20000 in
theorem ggX12_endLanding_X12_addFour : GoodIn wsX12_endLanding wsX12_addFour := goodIn_r _ [6, 1, 7, 8, 9, 10, 11, 12, 13, 14, 15, 16, 17, 18, 19, 20, 21, 22, 23, 24, 25, 26, 27, 28, 29, 30, 31, 32, 33, 34, 35, 36, 37, 38, 39, 40, 41, 42, 43, 44, 45, 46, 47, 48, 49, 50, 51, 52, 53, 54, 55, 56, 57, 58, 59] (by decide +kernel) (by decide +kernel)
set_option maxRecDepth 20000 in
theorem gX12_endLanding_X12_addFour : GoodIn wsX12_endLanding (wsV RX12 118 RX12 yX12_addFour wsX12_addFour) := goodIn_app (goodIn_of _ (by decide +kernel)) ggX12_endLanding_X12_addFour
theorem dX12_endLanding_0 : decode cX12_endLanding 0 = .ok (.aload_n 0, 1) := by decide +kernel
theorem dX12_endLanding_1 : decode cX12_endLanding 1 = .ok (.getfield 7, 3) := by decide +kernel
theorem dX12_endLanding_4 : decode cX12_endLanding 4 = .ok (.iload_n 2, 1) := by decide +kernel
theorem dX12_endLanding_5 : decode cX12_endLanding 5 = .ok (.bipush 22, 2) := by decide +kernel
theorem dX12_endLanding_7 : decode cX12_endLanding 7 = .ok (.iadd, 1) := by decide +kernel
theorem dX12_endLanding_8 : decode cX12_endLanding 8 = .ok (.iaload, 1) := by decide +kernel
theorem dX12_endLanding_9 : decode cX12_endLanding 9 = .ok (.ifCond .le 146, 3) := by decide +kernel
theorem dX12_endLanding_12 : decode cX12_endLanding 12 = .ok (.aload_n 0, 1) := by decide +kernel
theorem dX12_endLanding_13 : decode cX12_endLanding 13 = .ok (.getfield 7, 3) := by decide +kernel
theorem dX12_endLanding_16 : decode cX12_endLanding 16 = .ok (.iconst 5, 1) := by decide +kernel
theorem dX12_endLanding_17 : decode cX12_endLanding 17 = .ok (.iaload, 1) := by decide +kernel
theorem dX12_endLanding_18 : decode cX12_endLanding 18 = .ok (.bipush 60, 2) := by decide +kernel
theorem dX12_endLanding_20 : decode cX12_endLanding 20 = .ok (.if_icmp .ge 135, 3) := by decide +kernel
theorem dX12_endLanding_23 : decode cX12_endLanding 23 = .ok (.sipush 1051, 3) := by decide +kernel
theorem dX12_endLanding_26 : decode cX12_endLanding 26 = .ok (.bipush 16, 2) := by decide +kernel
theorem dX12_endLanding_28 : decode cX12_endLanding 28 = .ok (.aload_n 0, 1) := by decide +kernel
theorem dX12_endLanding_29 : decode cX12_endLanding 29 = .ok (.getfield 7, 3) := by decide +kernel
theorem dX12_endLanding_32 : decode cX12_endLanding 32 = .ok (.iconst 5, 1) := by decide +kernel
theorem dX12_endLanding_33 : decode cX12_endLanding 33 = .ok (.iaload, 1) := by decide +kernel
theorem dX12_endLanding_34 : decode cX12_endLanding 34 = .ok (.imul, 1) := by decide +kernel
theorem dX12_endLanding_35 : decode cX12_endLanding 35 = .ok (.iadd, 1) := by decide +kernel
theorem dX12_endLanding_36 : decode cX12_endLanding 36 = .ok (.istore_n 3, 1) := by decide +kernel
theorem dX12_endLanding_37 : decode cX12_endLanding 37 = .ok (.aload_n 0, 1) := by decide +kernel
theorem dX12_endLanding_38 : decode cX12_endLanding 38 = .ok (.iload_n 3, 1) := by decide +kernel
theorem dX12_endLanding_39 : decode cX12_endLanding 39 = .ok (.iload_n 1, 1) := by decide +kernel
theorem dX12_endLanding_40 : decode cX12_endLanding 40 = .ok (.aload_n 0, 1) := by decide +kernel
theorem dX12_endLanding_41 : decode cX12_endLanding 41 = .ok (.getfield 7, 3) := by decide +kernel
theorem dX12_endLanding_44 : decode cX12_endLanding 44 = .ok (.iload_n 2, 1) := by decide +kernel
theorem dX12_endLanding_45 : decode cX12_endLanding 45 = .ok (.iconst 0, 1) := by decide +kernel
theorem dX12_endLanding_46 : decode cX12_endLanding 46 = .ok (.iadd, 1) := by decide +kernel
theorem dX12_endLanding_47 : decode cX12_endLanding 47 = .ok (.iaload, 1) := by decide +kernel
theorem dX12_endLanding_48 : decode cX12_endLanding 48 = .ok (.aload_n 0, 1) := by decide +kernel
theorem dX12_endLanding_49 : decode cX12_endLanding 49 = .ok (.getfield 7, 3) := by decide +kernel
theorem dX12_endLanding_52 : decode cX12_endLanding 52 = .ok (.iload_n 2, 1) := by decide +kernel
theorem dX12_endLanding_53 : decode cX12_endLanding 53 = .ok (.bipush 23, 2) := by decide +kernel
theorem dX12_endLanding_55 : decode cX12_endLanding 55 = .ok (.iadd, 1) := by decide +kernel
theorem dX12_endLanding_56 : decode cX12_endLanding 56 = .ok (.iaload, 1) := by decide +kernel
theorem dX12_endLanding_57 : decode cX12_endLanding 57 = .ok (.aload_n 0, 1) := by decide +kernel
theorem dX12_endLanding_58 : decode cX12_endLanding 58 = .ok (.getfield 7, 3) := by decide +kernel
theorem dX12_endLanding_61 : decode cX12_endLanding 61 = .ok (.iload_n 2, 1) := by decide +kernel
theorem dX12_endLanding_62 : decode cX12_endLanding 62 = .ok (.bipush 24, 2) := by decide +kernel
theorem dX12_endLanding_64 : decode cX12_endLanding 64 = .ok (.iadd, 1) := by decide +kernel
theorem dX12_endLanding_65 : decode cX12_endLanding 65 = .ok (.iaload, 1) := by decide +kernel
theorem dX12_endLanding_66 : decode cX12_endLanding 66 = .ok (.invokevirtual 118, 3) := by decide +kernel
theorem dX12_endLanding_69 : decode cX12_endLanding 69 = .ok (.aload_n 0, 1) := by decide +kernel
theorem dX12_endLanding_70 : decode cX12_endLanding 70 = .ok (.getfield 7, 3) := by decide +kernel
theorem dX12_endLanding_73 : decode cX12_endLanding 73 = .ok (.iload_n 3, 1) := by decide +kernel
theorem dX12_endLanding_74 : decode cX12_endLanding 74 = .ok (.iconst 4, 1) := by decide +kernel
theorem dX12_endLanding_75 : decode cX12_endLanding 75 = .ok (.iadd, 1) := by decide +kernel
theorem dX12_endLanding_76 : decode cX12_endLanding 76 = .ok (.aload_n 0, 1) := by decide +kernel
theorem dX12_endLanding_77 : decode cX12_endLanding 77 = .ok (.getfield 7, 3) := by decide +kernel
theorem dX12_endLanding_80 : decode cX12_endLanding 80 = .ok (.iload_n 2, 1) := by decide +kernel
theorem dX12_endLanding_81 : decode cX12_endLanding 81 = .ok (.bipush 22, 2) := by decide +kernel
theorem dX12_endLanding_83 : decode cX12_endLanding 83 = .ok (.iadd, 1) := by decide +kernel
theorem dX12_endLanding_84 : decode cX12_endLanding 84 = .ok (.iaload, 1) := by decide +kernel
theorem dX12_endLanding_85 : decode cX12_endLanding 85 = .ok (.iastore, 1) := by decide +kernel
theorem dX12_endLanding_86 : decode cX12_endLanding 86 = .ok (.iconst 0, 1) := by decide +kernel
theorem dX12_endLanding_87 : decode cX12_endLanding 87 = .ok (.istore 4, 2) := by decide +kernel
theorem dX12_endLanding_89 : decode cX12_endLanding 89 = .ok (.iload 4, 2) := by decide +kernel
theorem dX12_endLanding_91 : decode cX12_endLanding 91 = .ok (.bipush 6, 2) := by decide +kernel
theorem dX12_endLanding_93 : decode cX12_endLanding 93 = .ok (.if_icmp .ge 32, 3) := by decide +kernel
theorem dX12_endLanding_96 : decode cX12_endLanding 96 = .ok (.aload_n 0, 1) := by decide +kernel
theorem dX12_endLanding_97 : decode cX12_endLanding 97 = .ok (.getfield 7, 3) := by decide +kernel
theorem dX12_endLanding_100 : decode cX12_endLanding 100 = .ok (.iload_n 3, 1) := by decide +kernel
theorem dX12_endLanding_101 : decode cX12_endLanding 101 = .ok (.iconst 5, 1) := by decide +kernel
theorem dX12_endLanding_102 : decode cX12_endLanding 102 = .ok (.iadd, 1) := by decide +kernel
theorem dX12_endLanding_103 : decode cX12_endLanding 103 = .ok (.iload 4, 2) := by decide +kernel
theorem dX12_endLanding_105 : decode cX12_endLanding 105 = .ok (.iadd, 1) := by decide +kernel
theorem dX12_endLanding_106 : decode cX12_endLanding 106 = .ok (.aload_n 0, 1) := by decide +kernel
theorem dX12_endLanding_107 : decode cX12_endLanding 107 = .ok (.getfield 7, 3) := by decide +kernel
theorem dX12_endLanding_110 : decode cX12_endLanding 110 = .ok (.iload_n 2, 1) := by decide +kernel
theorem dX12_endLanding_111 : decode cX12_endLanding 111 = .ok (.bipush 25, 2) := by decide +kernel
theorem dX12_endLanding_113 : decode cX12_endLanding 113 = .ok (.iadd, 1) := by decide +kernel
theorem dX12_endLanding_114 : decode cX12_endLanding 114 = .ok (.iload 4, 2) := by decide +kernel
theorem dX12_endLanding_116 : decode cX12_endLanding 116 = .ok (.iadd, 1) := by decide +kernel
theorem dX12_endLanding_117 : decode cX12_endLanding 117 = .ok (.iaload, 1) := by decide +kernel
theorem dX12_endLanding_118 : decode cX12_endLanding 118 = .ok (.iastore, 1) := by decide +kernel
theorem dX12_endLanding_119 : decode cX12_endLanding 119 = .ok (.iinc 4 1, 3) := by decide +kernel
theorem dX12_endLanding_122 : decode cX12_endLanding 122 = .ok (.goto (-33), 3) := by decide +kernel
theorem dX12_endLanding_125 : decode cX12_endLanding 125 = .ok (.aload_n 0, 1) := by decide +kernel
theorem dX12_endLanding_126 : decode cX12_endLanding 126 = .ok (.getfield 7, 3) := by decide +kernel
theorem dX12_endLanding_129 : decode cX12_endLanding 129 = .ok (.iload_n 3, 1) := by decide +kernel
theorem dX12_endLanding_130 : decode cX12_endLanding 130 = .ok (.bipush 11, 2) := by decide +kernel
theorem dX12_endLanding_132 : decode cX12_endLanding 132 = .ok (.iadd, 1) := by decide +kernel
theorem dX12_endLanding_133 : decode cX12_endLanding 133 = .ok (.iconst (-1), 1) := by decide +kernel
theorem dX12_endLanding_134 : decode cX12_endLanding 134 = .ok (.iastore, 1) := by decide +kernel
theorem dX12_endLanding_135 : decode cX12_endLanding 135 = .ok (.aload_n 0, 1) := by decide +kernel
theorem dX12_endLanding_136 : decode cX12_endLanding 136 = .ok (.getfield 7, 3) := by decide +kernel
theorem dX12_endLanding_139 : decode cX12_endLanding 139 = .ok (.iload_n 3, 1) := by decide +kernel
theorem dX12_endLanding_140 : decode cX12_endLanding 140 = .ok (.bipush 12, 2) := by decide +kernel
theorem dX12_endLanding_142 : decode cX12_endLanding 142 = .ok (.iadd, 1) := by decide +kernel
theorem dX12_endLanding_143 : decode cX12_endLanding 143 = .ok (.iconst (-1), 1) := by decide +kernel
theorem dX12_endLanding_144 : decode cX12_endLanding 144 = .ok (.iastore, 1) := by decide +kernel
theorem dX12_endLanding_145 : decode cX12_endLanding 145 = .ok (.aload_n 0, 1) := by decide +kernel
theorem dX12_endLanding_146 : decode cX12_endLanding 146 = .ok (.getfield 7, 3) := by decide +kernel
theorem dX12_endLanding_149 : decode cX12_endLanding 149 = .ok (.iconst 5, 1) := by decide +kernel
theorem dX12_endLanding_150 : decode cX12_endLanding 150 = .ok (.dup2, 1) := by decide +kernel
theorem dX12_endLanding_151 : decode cX12_endLanding 151 = .ok (.iaload, 1) := by decide +kernel
theorem dX12_endLanding_152 : decode cX12_endLanding 152 = .ok (.iconst 1, 1) := by decide +kernel
theorem dX12_endLanding_153 : decode cX12_endLanding 153 = .ok (.iadd, 1) := by decide +kernel
theorem dX12_endLanding_154 : decode cX12_endLanding 154 = .ok (.iastore, 1) := by decide +kernel
theorem dX12_endLanding_155 : decode cX12_endLanding 155 = .ok (.aload_n 0, 1) := by decide +kernel
theorem dX12_endLanding_156 : decode cX12_endLanding 156 = .ok (.getfield 7, 3) := by decide +kernel
theorem dX12_endLanding_159 : decode cX12_endLanding 159 = .ok (.iload_n 2, 1) := by decide +kernel
theorem dX12_endLanding_160 : decode cX12_endLanding 160 = .ok (.bipush 22, 2) := by decide +kernel
theorem dX12_endLanding_162 : decode cX12_endLanding 162 = .ok (.iadd, 1) := by decide +kernel
theorem dX12_endLanding_163 : decode cX12_endLanding 163 = .ok (.iconst 0, 1) := by decide +kernel
theorem dX12_endLanding_164 : decode cX12_endLanding 164 = .ok (.iastore, 1) := by decide +kernel
theorem dX12_endLanding_165 : decode cX12_endLanding 165 = .ok (.iconst 0, 1) := by decide +kernel
theorem dX12_endLanding_166 : decode cX12_endLanding 166 = .ok (.istore_n 3, 1) := by decide +kernel
theorem dX12_endLanding_167 : decode cX12_endLanding 167 = .ok (.iload_n 3, 1) := by decide +kernel
theorem dX12_endLanding_168 : decode cX12_endLanding 168 = .ok (.bipush 6, 2) := by decide +kernel
theorem dX12_endLanding_170 : decode cX12_endLanding 170 = .ok (.if_icmp .ge 21, 3) := by decide +kernel
theorem dX12_endLanding_173 : decode cX12_endLanding 173 = .ok (.aload_n 0, 1) := by decide +kernel
theorem dX12_endLanding_174 : decode cX12_endLanding 174 = .ok (.getfield 7, 3) := by decide +kernel
theorem dX12_endLanding_177 : decode cX12_endLanding 177 = .ok (.iload_n 2, 1) := by decide +kernel
theorem dX12_endLanding_178 : decode cX12_endLanding 178 = .ok (.bipush 25, 2) := by decide +kernel
theorem dX12_endLanding_180 : decode cX12_endLanding 180 = .ok (.iadd, 1) := by decide +kernel
theorem dX12_endLanding_181 : decode cX12_endLanding 181 = .ok (.iload_n 3, 1) := by decide +kernel
theorem dX12_endLanding_182 : decode cX12_endLanding 182 = .ok (.iadd, 1) := by decide +kernel
theorem dX12_endLanding_183 : decode cX12_endLanding 183 = .ok (.iconst 0, 1) := by decide +kernel
theorem dX12_endLanding_184 : decode cX12_endLanding 184 = .ok (.iastore, 1) := by decide +kernel
theorem dX12_endLanding_185 : decode cX12_endLanding 185 = .ok (.iinc 3 1, 3) := by decide +kernel
theorem dX12_endLanding_188 : decode cX12_endLanding 188 = .ok (.goto (-21), 3) := by decide +kernel
theorem dX12_endLanding_191 : decode cX12_endLanding 191 = .ok (.return_, 1) := by decide +kernel
