abbrev cX4_has : ByteArray := prog_6_method_2_code
def yX4_has : MethodName := ⟨RX4, "has", "(I)Z"⟩
abbrev cX4_at : ByteArray := prog_6_method_4_code
def yX4_at : MethodName := ⟨RX4, "at", "(II)J"⟩
abbrev cX4_number : ByteArray := prog_6_method_5_code
def yX4_number : MethodName := ⟨RX4, "number", "(II)I"⟩
abbrev cX4_set : ByteArray := prog_6_method_6_code
def yX4_set : MethodName := ⟨RX4, "set", "(IIJ)V"⟩
abbrev cX6_add : ByteArray := prog_8_method_2_code
def yX6_add : MethodName := ⟨RX6, "add", "(III)I"⟩
abbrev cX6_meets : ByteArray := prog_8_method_3_code
def yX6_meets : MethodName := ⟨RX6, "meets", "(IIII)Z"⟩
abbrev cX6_freeHours : ByteArray := prog_8_method_4_code
def yX6_freeHours : MethodName := ⟨RX6, "freeHours", "(IIII)I"⟩
abbrev cX6_hourBehind : ByteArray := prog_8_method_5_code
def yX6_hourBehind : MethodName := ⟨RX6, "hourBehind", "(IIII)I"⟩
abbrev cX6_copyFrom : ByteArray := prog_8_method_6_code
def yX6_copyFrom : MethodName := ⟨RX6, "copyFrom", "(LColdShips$Spans;)V"⟩
abbrev cX8_begin : ByteArray := prog_10_method_2_code
def yX8_begin : MethodName := ⟨RX8, "begin", "(IIII)V"⟩
abbrev cX8_tellWay : ByteArray := prog_10_method_3_code
def yX8_tellWay : MethodName := ⟨RX8, "tellWay", "(IIZ)V"⟩
abbrev cX8_hoursFor : ByteArray := prog_10_method_4_code
def yX8_hoursFor : MethodName := ⟨RX8, "hoursFor", "(I)I"⟩
abbrev cX8_copyFrom : ByteArray := prog_10_method_5_code
def yX8_copyFrom : MethodName := ⟨RX8, "copyFrom", "(LColdShips$Terminal;)V"⟩
abbrev cX11_within : ByteArray := prog_1_method_45_code
abbrev cX11_isHour : ByteArray := prog_1_method_46_code
abbrev cX11_isSpan : ByteArray := prog_1_method_47_code
def yX11_isSpan : MethodName := ⟨RX11, "isSpan", "(II)Z"⟩
abbrev cX11_slotOwner : ByteArray := prog_1_method_49_code
def wsX4_at : List Cond := .code yX4_at cX4_at 4 (some .long) :: ([.fieldLink RX4 25 "ColdShips$Rows" "size" "I", .fieldLink RX4 15 "ColdShips$Rows" "width" "I", .fieldLink RX4 21 "ColdShips$Rows" "cells" "[J"] ++ wsX40)
def wsX4_number : List Cond := .code yX4_number cX4_number 3 (some .int) :: ([.methodLink RX4 34 yX4_at, .instanceMethod yX4_at, .selects RX4 yX4_at yX4_at, .initialized RX4, .code yX4_at cX4_at 4 (some .long), .fieldLink RX4 25 "ColdShips$Rows" "size" "I", .fieldLink RX4 15 "ColdShips$Rows" "width" "I", .fieldLink RX4 21 "ColdShips$Rows" "cells" "[J"] ++ wsX40)
def wsX8_hoursFor : List Cond := .code yX8_hoursFor cX8_hoursFor 2 (some .int) :: ([.fieldLink RX8 9 "ColdShips$Terminal" "rate" "I"] ++ wsX80)
def wsX6_hourBehind : List Cond := .code yX6_hourBehind cX6_hourBehind 8 (some .int) :: ([.fieldLink RX6 27 "ColdShips$Spans" "size" "I", .fieldLink RX6 21 "ColdShips$Spans" "begins" "[I", .fieldLink RX6 15 "ColdShips$Spans" "owners" "[I", .fieldLink RX6 24 "ColdShips$Spans" "ends" "[I", .methodLink RX6 9 Lib.Math.max.name, .static Lib.Math.max.name, .initialized "java/lang/Math", .code Lib.Math.max.name Lib.Math.max.code 2 (some .int)] ++ wsX60)
def wsX4_has : List Cond := .code yX4_has cX4_has 2 (some .boolean) :: ([.fieldLink RX4 25 "ColdShips$Rows" "size" "I"] ++ wsX40)
def wsX11_within : List Cond := .code yX11_within cX11_within 3 (some .boolean) :: ([])
def wsX6_freeHours : List Cond := .code yX6_freeHours cX6_freeHours 9 (some .int) :: ([.methodLink RX6 9 Lib.Math.max.name, .static Lib.Math.max.name, .initialized "java/lang/Math", .code Lib.Math.max.name Lib.Math.max.code 2 (some .int), .fieldLink RX6 27 "ColdShips$Spans" "size" "I", .fieldLink RX6 21 "ColdShips$Spans" "begins" "[I", .fieldLink RX6 15 "ColdShips$Spans" "owners" "[I", .fieldLink RX6 24 "ColdShips$Spans" "ends" "[I", .methodLink RX6 31 Lib.Math.min.name, .static Lib.Math.min.name, .code Lib.Math.min.name Lib.Math.min.code 2 (some .int)] ++ wsX60)
def wsX4_set : List Cond := .code yX4_set cX4_set 5 none :: ([.fieldLink RX4 15 "ColdShips$Rows" "width" "I", .fieldLink RX4 21 "ColdShips$Rows" "cells" "[J", .methodLink RX4 38 yX4_has, .instanceMethod yX4_has, .selects RX4 yX4_has yX4_has, .initialized RX4, .code yX4_has cX4_has 2 (some .boolean), .fieldLink RX4 25 "ColdShips$Rows" "size" "I"] ++ wsX40)
def wsX6_add : List Cond := .code yX6_add cX6_add 5 (some .int) :: ([.fieldLink RX6 27 "ColdShips$Spans" "size" "I", .fieldLink RX6 15 "ColdShips$Spans" "owners" "[I", .fieldLink RX6 21 "ColdShips$Spans" "begins" "[I", .fieldLink RX6 24 "ColdShips$Spans" "ends" "[I"] ++ wsX60)
def wsX6_meets : List Cond := .code yX6_meets cX6_meets 6 (some .boolean) :: ([.fieldLink RX6 27 "ColdShips$Spans" "size" "I", .fieldLink RX6 21 "ColdShips$Spans" "begins" "[I", .fieldLink RX6 15 "ColdShips$Spans" "owners" "[I", .fieldLink RX6 24 "ColdShips$Spans" "ends" "[I"] ++ wsX60)
def wsX6_copyFrom : List Cond := .code yX6_copyFrom cX6_copyFrom 2 none :: ([.fieldLink RX6 27 "ColdShips$Spans" "size" "I", .fieldLink RX6 15 "ColdShips$Spans" "owners" "[I", .methodLink RX6 34 arraycopyName, .native arraycopyName, .static arraycopyName, .initialized "java/lang/System", .fieldLink RX6 21 "ColdShips$Spans" "begins" "[I", .fieldLink RX6 24 "ColdShips$Spans" "ends" "[I"] ++ wsX60)
def wsX8_begin : List Cond := .code yX8_begin cX8_begin 5 none :: ([.fieldLink RX8 22 "ColdShips$Terminal" "store" "I", .fieldLink RX8 25 "ColdShips$Terminal" "cap" "I", .methodLink RX8 28 Lib.Math.max.name, .static Lib.Math.max.name, .initialized "java/lang/Math", .code Lib.Math.max.name Lib.Math.max.code 2 (some .int), .fieldLink RX8 9 "ColdShips$Terminal" "rate" "I", .fieldLink RX8 34 "ColdShips$Terminal" "depth" "I", .fieldLink RX8 37 "ColdShips$Terminal" "heat" "I", .fieldLink RX8 15 "ColdShips$Terminal" "wayHours" "[I", .methodLink RX8 40 yJ7_fill_53178, .static yJ7_fill_53178, .initialized RJ7, .code yJ7_fill_53178 cJ7_fill_53178 4 none] ++ wsX80)
def wsX8_tellWay : List Cond := .code yX8_tellWay cX8_tellWay 4 none :: ([.fieldLink RX8 15 "ColdShips$Terminal" "wayHours" "[I", .fieldLink RX8 19 "ColdShips$Terminal" "wayHalf" "[I", .static yX11_within, .initialized RX11, .code yX11_within cX11_within 3 (some .boolean)] ++ wsX80)
def wsX8_copyFrom : List Cond := .code yX8_copyFrom cX8_copyFrom 2 none :: ([.fieldLink RX8 22 "ColdShips$Terminal" "store" "I", .fieldLink RX8 25 "ColdShips$Terminal" "cap" "I", .fieldLink RX8 9 "ColdShips$Terminal" "rate" "I", .fieldLink RX8 34 "ColdShips$Terminal" "depth" "I", .fieldLink RX8 37 "ColdShips$Terminal" "heat" "I", .fieldLink RX8 15 "ColdShips$Terminal" "wayHours" "[I", .methodLink RX8 50 arraycopyName, .native arraycopyName, .static arraycopyName, .initialized "java/lang/System", .fieldLink RX8 19 "ColdShips$Terminal" "wayHalf" "[I"] ++ wsX80)
def wsX11_isHour : List Cond := .code yX11_isHour cX11_isHour 1 (some .boolean) :: ([.methodLink RX11 51 yX11_within, .static yX11_within, .initialized RX11, .code yX11_within cX11_within 3 (some .boolean)])
def wsX11_slotOwner : List Cond := .code yX11_slotOwner cX11_slotOwner 2 (some .int) :: ([])
def wsX11_isSpan : List Cond := .code yX11_isSpan cX11_isSpan 2 (some .boolean) :: ([.methodLink RX11 229 yX11_isHour, .static yX11_isHour, .initialized RX11, .code yX11_isHour cX11_isHour 1 (some .boolean), .methodLink RX11 51 yX11_within, .static yX11_within, .code yX11_within cX11_within 3 (some .boolean)])
theorem dX4_has_0 : decode cX4_has 0 = .ok (.iload_n 1, 1) := by decide +kernel
theorem dX4_has_1 : decode cX4_has 1 = .ok (.ifCond .lt 15, 3) := by decide +kernel
theorem dX4_has_4 : decode cX4_has 4 = .ok (.iload_n 1, 1) := by decide +kernel
theorem dX4_has_5 : decode cX4_has 5 = .ok (.aload_n 0, 1) := by decide +kernel
theorem dX4_has_6 : decode cX4_has 6 = .ok (.getfield 25, 3) := by decide +kernel
theorem dX4_has_9 : decode cX4_has 9 = .ok (.if_icmp .ge 7, 3) := by decide +kernel
theorem dX4_has_12 : decode cX4_has 12 = .ok (.iconst 1, 1) := by decide +kernel
theorem dX4_has_13 : decode cX4_has 13 = .ok (.goto 4, 3) := by decide +kernel
theorem dX4_has_16 : decode cX4_has 16 = .ok (.iconst 0, 1) := by decide +kernel
theorem dX4_has_17 : decode cX4_has 17 = .ok (.ireturn, 1) := by decide +kernel
theorem dX4_at_0 : decode cX4_at 0 = .ok (.iload_n 1, 1) := by decide +kernel
theorem dX4_at_1 : decode cX4_at 1 = .ok (.ifCond .lt 27, 3) := by decide +kernel
theorem dX4_at_4 : decode cX4_at 4 = .ok (.iload_n 1, 1) := by decide +kernel
theorem dX4_at_5 : decode cX4_at 5 = .ok (.aload_n 0, 1) := by decide +kernel
theorem dX4_at_6 : decode cX4_at 6 = .ok (.getfield 25, 3) := by decide +kernel
theorem dX4_at_9 : decode cX4_at 9 = .ok (.if_icmp .ge 19, 3) := by decide +kernel
theorem dX4_at_12 : decode cX4_at 12 = .ok (.iload_n 2, 1) := by decide +kernel
theorem dX4_at_13 : decode cX4_at 13 = .ok (.ifCond .lt 15, 3) := by decide +kernel
theorem dX4_at_16 : decode cX4_at 16 = .ok (.iload_n 2, 1) := by decide +kernel
theorem dX4_at_17 : decode cX4_at 17 = .ok (.aload_n 0, 1) := by decide +kernel
theorem dX4_at_18 : decode cX4_at 18 = .ok (.getfield 15, 3) := by decide +kernel
theorem dX4_at_21 : decode cX4_at 21 = .ok (.if_icmp .ge 7, 3) := by decide +kernel
theorem dX4_at_24 : decode cX4_at 24 = .ok (.iconst 1, 1) := by decide +kernel
theorem dX4_at_25 : decode cX4_at 25 = .ok (.goto 4, 3) := by decide +kernel
theorem dX4_at_28 : decode cX4_at 28 = .ok (.iconst 0, 1) := by decide +kernel
theorem dX4_at_29 : decode cX4_at 29 = .ok (.istore_n 3, 1) := by decide +kernel
theorem dX4_at_30 : decode cX4_at 30 = .ok (.iload_n 3, 1) := by decide +kernel
theorem dX4_at_31 : decode cX4_at 31 = .ok (.ifCond .eq 19, 3) := by decide +kernel
theorem dX4_at_34 : decode cX4_at 34 = .ok (.aload_n 0, 1) := by decide +kernel
theorem dX4_at_35 : decode cX4_at 35 = .ok (.getfield 21, 3) := by decide +kernel
theorem dX4_at_38 : decode cX4_at 38 = .ok (.iload_n 1, 1) := by decide +kernel
theorem dX4_at_39 : decode cX4_at 39 = .ok (.aload_n 0, 1) := by decide +kernel
theorem dX4_at_40 : decode cX4_at 40 = .ok (.getfield 15, 3) := by decide +kernel
theorem dX4_at_43 : decode cX4_at 43 = .ok (.imul, 1) := by decide +kernel
theorem dX4_at_44 : decode cX4_at 44 = .ok (.iload_n 2, 1) := by decide +kernel
theorem dX4_at_45 : decode cX4_at 45 = .ok (.iadd, 1) := by decide +kernel
theorem dX4_at_46 : decode cX4_at 46 = .ok (.laload, 1) := by decide +kernel
theorem dX4_at_47 : decode cX4_at 47 = .ok (.goto 4, 3) := by decide +kernel
theorem dX4_at_50 : decode cX4_at 50 = .ok (.lconst 0, 1) := by decide +kernel
theorem dX4_at_51 : decode cX4_at 51 = .ok (.lreturn, 1) := by decide +kernel
set_option maxRecDepth 20000 in
theorem ggX4_number_X4_at : GoodIn wsX4_number wsX4_at := goodIn_r _ [5, 6, 7, 8, 9, 10, 11] (by decide +kernel) (by decide +kernel)
set_option maxRecDepth 20000 in
theorem gX4_number_X4_at : GoodIn wsX4_number (wsV RX4 34 RX4 yX4_at wsX4_at) := goodIn_app (goodIn_of _ (by decide +kernel)) ggX4_number_X4_at
theorem dX4_number_0 : decode cX4_number 0 = .ok (.aload_n 0, 1) := by decide +kernel
theorem dX4_number_1 : decode cX4_number 1 = .ok (.iload_n 1, 1) := by decide +kernel
theorem dX4_number_2 : decode cX4_number 2 = .ok (.iload_n 2, 1) := by decide +kernel
theorem dX4_number_3 : decode cX4_number 3 = .ok (.invokevirtual 34, 3) := by decide +kernel
theorem dX4_number_6 : decode cX4_number 6 = .ok (.l2i, 1) := by decide +kernel
theorem dX4_number_7 : decode cX4_number 7 = .ok (.ireturn, 1) := by decide +kernel
set_option maxRecDepth 20000 in
theorem ggX4_set_X4_has : GoodIn wsX4_set wsX4_has := goodIn_r _ [7, 8, 9, 10, 11] (by decide +kernel) (by decide +kernel)
set_option maxRecDepth 20000 in
theorem gX4_set_X4_has : GoodIn wsX4_set (wsV RX4 38 RX4 yX4_has wsX4_has) := goodIn_app (goodIn_of _ (by decide +kernel)) ggX4_set_X4_has
theorem dX4_set_0 : decode cX4_set 0 = .ok (.aload_n 0, 1) := by decide +kernel
theorem dX4_set_1 : decode cX4_set 1 = .ok (.iload_n 1, 1) := by decide +kernel
theorem dX4_set_2 : decode cX4_set 2 = .ok (.invokevirtual 38, 3) := by decide +kernel
theorem dX4_set_5 : decode cX4_set 5 = .ok (.ifCond .eq 29, 3) := by decide +kernel
theorem dX4_set_8 : decode cX4_set 8 = .ok (.iload_n 2, 1) := by decide +kernel
theorem dX4_set_9 : decode cX4_set 9 = .ok (.ifCond .lt 25, 3) := by decide +kernel
theorem dX4_set_12 : decode cX4_set 12 = .ok (.iload_n 2, 1) := by decide +kernel
theorem dX4_set_13 : decode cX4_set 13 = .ok (.aload_n 0, 1) := by decide +kernel
theorem dX4_set_14 : decode cX4_set 14 = .ok (.getfield 15, 3) := by decide +kernel
theorem dX4_set_17 : decode cX4_set 17 = .ok (.if_icmp .ge 17, 3) := by decide +kernel
theorem dX4_set_20 : decode cX4_set 20 = .ok (.aload_n 0, 1) := by decide +kernel
theorem dX4_set_21 : decode cX4_set 21 = .ok (.getfield 21, 3) := by decide +kernel
theorem dX4_set_24 : decode cX4_set 24 = .ok (.iload_n 1, 1) := by decide +kernel
theorem dX4_set_25 : decode cX4_set 25 = .ok (.aload_n 0, 1) := by decide +kernel
theorem dX4_set_26 : decode cX4_set 26 = .ok (.getfield 15, 3) := by decide +kernel
theorem dX4_set_29 : decode cX4_set 29 = .ok (.imul, 1) := by decide +kernel
theorem dX4_set_30 : decode cX4_set 30 = .ok (.iload_n 2, 1) := by decide +kernel
theorem dX4_set_31 : decode cX4_set 31 = .ok (.iadd, 1) := by decide +kernel
theorem dX4_set_32 : decode cX4_set 32 = .ok (.lload_n 3, 1) := by decide +kernel
theorem dX4_set_33 : decode cX4_set 33 = .ok (.lastore, 1) := by decide +kernel
theorem dX4_set_34 : decode cX4_set 34 = .ok (.return_, 1) := by decide +kernel
theorem dX6_add_0 : decode cX6_add 0 = .ok (.aload_n 0, 1) := by decide +kernel
theorem dX6_add_1 : decode cX6_add 1 = .ok (.getfield 27, 3) := by decide +kernel
theorem dX6_add_4 : decode cX6_add 4 = .ok (.aload_n 0, 1) := by decide +kernel
theorem dX6_add_5 : decode cX6_add 5 = .ok (.getfield 15, 3) := by decide +kernel
theorem dX6_add_8 : decode cX6_add 8 = .ok (.arraylength, 1) := by decide +kernel
theorem dX6_add_9 : decode cX6_add 9 = .ok (.if_icmp .lt 5, 3) := by decide +kernel
theorem dX6_add_12 : decode cX6_add 12 = .ok (.iconst (-1), 1) := by decide +kernel
theorem dX6_add_13 : decode cX6_add 13 = .ok (.ireturn, 1) := by decide +kernel
theorem dX6_add_14 : decode cX6_add 14 = .ok (.aload_n 0, 1) := by decide +kernel
theorem dX6_add_15 : decode cX6_add 15 = .ok (.getfield 27, 3) := by decide +kernel
theorem dX6_add_18 : decode cX6_add 18 = .ok (.istore 4, 2) := by decide +kernel
theorem dX6_add_20 : decode cX6_add 20 = .ok (.iload 4, 2) := by decide +kernel
theorem dX6_add_22 : decode cX6_add 22 = .ok (.ifCond .le 70, 3) := by decide +kernel
theorem dX6_add_25 : decode cX6_add 25 = .ok (.aload_n 0, 1) := by decide +kernel
theorem dX6_add_26 : decode cX6_add 26 = .ok (.getfield 21, 3) := by decide +kernel
theorem dX6_add_29 : decode cX6_add 29 = .ok (.iload 4, 2) := by decide +kernel
theorem dX6_add_31 : decode cX6_add 31 = .ok (.iconst 1, 1) := by decide +kernel
theorem dX6_add_32 : decode cX6_add 32 = .ok (.isub, 1) := by decide +kernel
theorem dX6_add_33 : decode cX6_add 33 = .ok (.iaload, 1) := by decide +kernel
theorem dX6_add_34 : decode cX6_add 34 = .ok (.iload_n 2, 1) := by decide +kernel
theorem dX6_add_35 : decode cX6_add 35 = .ok (.if_icmp .le 57, 3) := by decide +kernel
theorem dX6_add_38 : decode cX6_add 38 = .ok (.aload_n 0, 1) := by decide +kernel
theorem dX6_add_39 : decode cX6_add 39 = .ok (.getfield 15, 3) := by decide +kernel
theorem dX6_add_42 : decode cX6_add 42 = .ok (.iload 4, 2) := by decide +kernel
theorem dX6_add_44 : decode cX6_add 44 = .ok (.aload_n 0, 1) := by decide +kernel
theorem dX6_add_45 : decode cX6_add 45 = .ok (.getfield 15, 3) := by decide +kernel
theorem dX6_add_48 : decode cX6_add 48 = .ok (.iload 4, 2) := by decide +kernel
theorem dX6_add_50 : decode cX6_add 50 = .ok (.iconst 1, 1) := by decide +kernel
theorem dX6_add_51 : decode cX6_add 51 = .ok (.isub, 1) := by decide +kernel
theorem dX6_add_52 : decode cX6_add 52 = .ok (.iaload, 1) := by decide +kernel
theorem dX6_add_53 : decode cX6_add 53 = .ok (.iastore, 1) := by decide +kernel
theorem dX6_add_54 : decode cX6_add 54 = .ok (.aload_n 0, 1) := by decide +kernel
theorem dX6_add_55 : decode cX6_add 55 = .ok (.getfield 21, 3) := by decide +kernel
theorem dX6_add_58 : decode cX6_add 58 = .ok (.iload 4, 2) := by decide +kernel
theorem dX6_add_60 : decode cX6_add 60 = .ok (.aload_n 0, 1) := by decide +kernel
theorem dX6_add_61 : decode cX6_add 61 = .ok (.getfield 21, 3) := by decide +kernel
theorem dX6_add_64 : decode cX6_add 64 = .ok (.iload 4, 2) := by decide +kernel
theorem dX6_add_66 : decode cX6_add 66 = .ok (.iconst 1, 1) := by decide +kernel
theorem dX6_add_67 : decode cX6_add 67 = .ok (.isub, 1) := by decide +kernel
theorem dX6_add_68 : decode cX6_add 68 = .ok (.iaload, 1) := by decide +kernel
theorem dX6_add_69 : decode cX6_add 69 = .ok (.iastore, 1) := by decide +kernel
theorem dX6_add_70 : decode cX6_add 70 = .ok (.aload_n 0, 1) := by decide +kernel
theorem dX6_add_71 : decode cX6_add 71 = .ok (.getfield 24, 3) := by decide +kernel
theorem dX6_add_74 : decode cX6_add 74 = .ok (.iload 4, 2) := by decide +kernel
theorem dX6_add_76 : decode cX6_add 76 = .ok (.aload_n 0, 1) := by decide +kernel
theorem dX6_add_77 : decode cX6_add 77 = .ok (.getfield 24, 3) := by decide +kernel
theorem dX6_add_80 : decode cX6_add 80 = .ok (.iload 4, 2) := by decide +kernel
theorem dX6_add_82 : decode cX6_add 82 = .ok (.iconst 1, 1) := by decide +kernel
theorem dX6_add_83 : decode cX6_add 83 = .ok (.isub, 1) := by decide +kernel
theorem dX6_add_84 : decode cX6_add 84 = .ok (.iaload, 1) := by decide +kernel
theorem dX6_add_85 : decode cX6_add 85 = .ok (.iastore, 1) := by decide +kernel
theorem dX6_add_86 : decode cX6_add 86 = .ok (.iinc 4 (-1), 3) := by decide +kernel
theorem dX6_add_89 : decode cX6_add 89 = .ok (.goto (-69), 3) := by decide +kernel
theorem dX6_add_92 : decode cX6_add 92 = .ok (.aload_n 0, 1) := by decide +kernel
theorem dX6_add_93 : decode cX6_add 93 = .ok (.getfield 15, 3) := by decide +kernel
theorem dX6_add_96 : decode cX6_add 96 = .ok (.iload 4, 2) := by decide +kernel
theorem dX6_add_98 : decode cX6_add 98 = .ok (.iload_n 1, 1) := by decide +kernel
theorem dX6_add_99 : decode cX6_add 99 = .ok (.iastore, 1) := by decide +kernel
theorem dX6_add_100 : decode cX6_add 100 = .ok (.aload_n 0, 1) := by decide +kernel
theorem dX6_add_101 : decode cX6_add 101 = .ok (.getfield 21, 3) := by decide +kernel
theorem dX6_add_104 : decode cX6_add 104 = .ok (.iload 4, 2) := by decide +kernel
theorem dX6_add_106 : decode cX6_add 106 = .ok (.iload_n 2, 1) := by decide +kernel
theorem dX6_add_107 : decode cX6_add 107 = .ok (.iastore, 1) := by decide +kernel
theorem dX6_add_108 : decode cX6_add 108 = .ok (.aload_n 0, 1) := by decide +kernel
theorem dX6_add_109 : decode cX6_add 109 = .ok (.getfield 24, 3) := by decide +kernel
theorem dX6_add_112 : decode cX6_add 112 = .ok (.iload 4, 2) := by decide +kernel
theorem dX6_add_114 : decode cX6_add 114 = .ok (.iload_n 3, 1) := by decide +kernel
theorem dX6_add_115 : decode cX6_add 115 = .ok (.iastore, 1) := by decide +kernel
theorem dX6_add_116 : decode cX6_add 116 = .ok (.aload_n 0, 1) := by decide +kernel
theorem dX6_add_117 : decode cX6_add 117 = .ok (.dup, 1) := by decide +kernel
theorem dX6_add_118 : decode cX6_add 118 = .ok (.getfield 27, 3) := by decide +kernel
theorem dX6_add_121 : decode cX6_add 121 = .ok (.iconst 1, 1) := by decide +kernel
theorem dX6_add_122 : decode cX6_add 122 = .ok (.iadd, 1) := by decide +kernel
theorem dX6_add_123 : decode cX6_add 123 = .ok (.putfield 27, 3) := by decide +kernel
theorem dX6_add_126 : decode cX6_add 126 = .ok (.aload_n 0, 1) := by decide +kernel
theorem dX6_add_127 : decode cX6_add 127 = .ok (.getfield 27, 3) := by decide +kernel
theorem dX6_add_130 : decode cX6_add 130 = .ok (.ireturn, 1) := by decide +kernel
theorem dX6_meets_0 : decode cX6_meets 0 = .ok (.iconst 0, 1) := by decide +kernel
theorem dX6_meets_1 : decode cX6_meets 1 = .ok (.istore 5, 2) := by decide +kernel
theorem dX6_meets_3 : decode cX6_meets 3 = .ok (.iload 5, 2) := by decide +kernel
theorem dX6_meets_5 : decode cX6_meets 5 = .ok (.aload_n 0, 1) := by decide +kernel
theorem dX6_meets_6 : decode cX6_meets 6 = .ok (.getfield 27, 3) := by decide +kernel
theorem dX6_meets_9 : decode cX6_meets 9 = .ok (.if_icmp .ge 56, 3) := by decide +kernel
theorem dX6_meets_12 : decode cX6_meets 12 = .ok (.aload_n 0, 1) := by decide +kernel
theorem dX6_meets_13 : decode cX6_meets 13 = .ok (.getfield 21, 3) := by decide +kernel
theorem dX6_meets_16 : decode cX6_meets 16 = .ok (.iload 5, 2) := by decide +kernel
theorem dX6_meets_18 : decode cX6_meets 18 = .ok (.iaload, 1) := by decide +kernel
theorem dX6_meets_19 : decode cX6_meets 19 = .ok (.iload 4, 2) := by decide +kernel
theorem dX6_meets_21 : decode cX6_meets 21 = .ok (.if_icmp .gt 44, 3) := by decide +kernel
theorem dX6_meets_24 : decode cX6_meets 24 = .ok (.aload_n 0, 1) := by decide +kernel
theorem dX6_meets_25 : decode cX6_meets 25 = .ok (.getfield 15, 3) := by decide +kernel
theorem dX6_meets_28 : decode cX6_meets 28 = .ok (.iload 5, 2) := by decide +kernel
theorem dX6_meets_30 : decode cX6_meets 30 = .ok (.iaload, 1) := by decide +kernel
theorem dX6_meets_31 : decode cX6_meets 31 = .ok (.iload_n 1, 1) := by decide +kernel
theorem dX6_meets_32 : decode cX6_meets 32 = .ok (.if_icmp .lt 27, 3) := by decide +kernel
theorem dX6_meets_35 : decode cX6_meets 35 = .ok (.aload_n 0, 1) := by decide +kernel
theorem dX6_meets_36 : decode cX6_meets 36 = .ok (.getfield 15, 3) := by decide +kernel
theorem dX6_meets_39 : decode cX6_meets 39 = .ok (.iload 5, 2) := by decide +kernel
theorem dX6_meets_41 : decode cX6_meets 41 = .ok (.iaload, 1) := by decide +kernel
theorem dX6_meets_42 : decode cX6_meets 42 = .ok (.iload_n 2, 1) := by decide +kernel
theorem dX6_meets_43 : decode cX6_meets 43 = .ok (.if_icmp .gt 16, 3) := by decide +kernel
theorem dX6_meets_46 : decode cX6_meets 46 = .ok (.aload_n 0, 1) := by decide +kernel
theorem dX6_meets_47 : decode cX6_meets 47 = .ok (.getfield 24, 3) := by decide +kernel
theorem dX6_meets_50 : decode cX6_meets 50 = .ok (.iload 5, 2) := by decide +kernel
theorem dX6_meets_52 : decode cX6_meets 52 = .ok (.iaload, 1) := by decide +kernel
theorem dX6_meets_53 : decode cX6_meets 53 = .ok (.iload_n 3, 1) := by decide +kernel
theorem dX6_meets_54 : decode cX6_meets 54 = .ok (.if_icmp .lt 5, 3) := by decide +kernel
theorem dX6_meets_57 : decode cX6_meets 57 = .ok (.iconst 1, 1) := by decide +kernel
theorem dX6_meets_58 : decode cX6_meets 58 = .ok (.ireturn, 1) := by decide +kernel
theorem dX6_meets_59 : decode cX6_meets 59 = .ok (.iinc 5 1, 3) := by decide +kernel
theorem dX6_meets_62 : decode cX6_meets 62 = .ok (.goto (-59), 3) := by decide +kernel
theorem dX6_meets_65 : decode cX6_meets 65 = .ok (.iconst 0, 1) := by decide +kernel
theorem dX6_meets_66 : decode cX6_meets 66 = .ok (.ireturn, 1) := by decide +kernel
theorem dX6_freeHours_0 : decode cX6_freeHours 0 = .ok (.iconst 0, 1) := by decide +kernel
theorem dX6_freeHours_1 : decode cX6_freeHours 1 = .ok (.iload 4, 2) := by decide +kernel
theorem dX6_freeHours_3 : decode cX6_freeHours 3 = .ok (.iload_n 3, 1) := by decide +kernel
theorem dX6_freeHours_4 : decode cX6_freeHours 4 = .ok (.isub, 1) := by decide +kernel
theorem dX6_freeHours_5 : decode cX6_freeHours 5 = .ok (.iconst 1, 1) := by decide +kernel
theorem dX6_freeHours_6 : decode cX6_freeHours 6 = .ok (.iadd, 1) := by decide +kernel
theorem dX6_freeHours_7 : decode cX6_freeHours 7 = .ok (.invokestatic 9, 3) := by decide +kernel
theorem dX6_freeHours_10 : decode cX6_freeHours 10 = .ok (.istore 5, 2) := by decide +kernel
theorem dX6_freeHours_12 : decode cX6_freeHours 12 = .ok (.iload_n 3, 1) := by decide +kernel
theorem dX6_freeHours_13 : decode cX6_freeHours 13 = .ok (.istore 6, 2) := by decide +kernel
theorem dX6_freeHours_15 : decode cX6_freeHours 15 = .ok (.iconst 0, 1) := by decide +kernel
theorem dX6_freeHours_16 : decode cX6_freeHours 16 = .ok (.istore 7, 2) := by decide +kernel
theorem dX6_freeHours_18 : decode cX6_freeHours 18 = .ok (.iload 7, 2) := by decide +kernel
theorem dX6_freeHours_20 : decode cX6_freeHours 20 = .ok (.aload_n 0, 1) := by decide +kernel
theorem dX6_freeHours_21 : decode cX6_freeHours 21 = .ok (.getfield 27, 3) := by decide +kernel
theorem dX6_freeHours_24 : decode cX6_freeHours 24 = .ok (.if_icmp .ge 104, 3) := by decide +kernel
theorem dX6_freeHours_27 : decode cX6_freeHours 27 = .ok (.aload_n 0, 1) := by decide +kernel
theorem dX6_freeHours_28 : decode cX6_freeHours 28 = .ok (.getfield 21, 3) := by decide +kernel
theorem dX6_freeHours_31 : decode cX6_freeHours 31 = .ok (.iload 7, 2) := by decide +kernel
theorem dX6_freeHours_33 : decode cX6_freeHours 33 = .ok (.iaload, 1) := by decide +kernel
theorem dX6_freeHours_34 : decode cX6_freeHours 34 = .ok (.iload 4, 2) := by decide +kernel
theorem dX6_freeHours_36 : decode cX6_freeHours 36 = .ok (.if_icmp .gt 92, 3) := by decide +kernel
theorem dX6_freeHours_39 : decode cX6_freeHours 39 = .ok (.aload_n 0, 1) := by decide +kernel
theorem dX6_freeHours_40 : decode cX6_freeHours 40 = .ok (.getfield 15, 3) := by decide +kernel
theorem dX6_freeHours_43 : decode cX6_freeHours 43 = .ok (.iload 7, 2) := by decide +kernel
theorem dX6_freeHours_45 : decode cX6_freeHours 45 = .ok (.iaload, 1) := by decide +kernel
theorem dX6_freeHours_46 : decode cX6_freeHours 46 = .ok (.iload_n 1, 1) := by decide +kernel
theorem dX6_freeHours_47 : decode cX6_freeHours 47 = .ok (.if_icmp .lt 75, 3) := by decide +kernel
theorem dX6_freeHours_50 : decode cX6_freeHours 50 = .ok (.aload_n 0, 1) := by decide +kernel
theorem dX6_freeHours_51 : decode cX6_freeHours 51 = .ok (.getfield 15, 3) := by decide +kernel
theorem dX6_freeHours_54 : decode cX6_freeHours 54 = .ok (.iload 7, 2) := by decide +kernel
theorem dX6_freeHours_56 : decode cX6_freeHours 56 = .ok (.iaload, 1) := by decide +kernel
theorem dX6_freeHours_57 : decode cX6_freeHours 57 = .ok (.iload_n 2, 1) := by decide +kernel
theorem dX6_freeHours_58 : decode cX6_freeHours 58 = .ok (.if_icmp .gt 64, 3) := by decide +kernel
theorem dX6_freeHours_61 : decode cX6_freeHours 61 = .ok (.aload_n 0, 1) := by decide +kernel
theorem dX6_freeHours_62 : decode cX6_freeHours 62 = .ok (.getfield 24, 3) := by decide +kernel
theorem dX6_freeHours_65 : decode cX6_freeHours 65 = .ok (.iload 7, 2) := by decide +kernel
theorem dX6_freeHours_67 : decode cX6_freeHours 67 = .ok (.iaload, 1) := by decide +kernel
theorem dX6_freeHours_68 : decode cX6_freeHours 68 = .ok (.iload 6, 2) := by decide +kernel
theorem dX6_freeHours_70 : decode cX6_freeHours 70 = .ok (.if_icmp .lt 52, 3) := by decide +kernel
theorem dX6_freeHours_73 : decode cX6_freeHours 73 = .ok (.iload 6, 2) := by decide +kernel
theorem dX6_freeHours_75 : decode cX6_freeHours 75 = .ok (.iload 4, 2) := by decide +kernel
theorem dX6_freeHours_77 : decode cX6_freeHours 77 = .ok (.if_icmp .gt 45, 3) := by decide +kernel
theorem dX6_freeHours_80 : decode cX6_freeHours 80 = .ok (.aload_n 0, 1) := by decide +kernel
theorem dX6_freeHours_81 : decode cX6_freeHours 81 = .ok (.getfield 24, 3) := by decide +kernel
theorem dX6_freeHours_84 : decode cX6_freeHours 84 = .ok (.iload 7, 2) := by decide +kernel
theorem dX6_freeHours_86 : decode cX6_freeHours 86 = .ok (.iaload, 1) := by decide +kernel
theorem dX6_freeHours_87 : decode cX6_freeHours 87 = .ok (.iload 4, 2) := by decide +kernel
theorem dX6_freeHours_89 : decode cX6_freeHours 89 = .ok (.invokestatic 31, 3) := by decide +kernel
theorem dX6_freeHours_92 : decode cX6_freeHours 92 = .ok (.istore 8, 2) := by decide +kernel
theorem dX6_freeHours_94 : decode cX6_freeHours 94 = .ok (.iload 5, 2) := by decide +kernel
theorem dX6_freeHours_96 : decode cX6_freeHours 96 = .ok (.iload 8, 2) := by decide +kernel
theorem dX6_freeHours_98 : decode cX6_freeHours 98 = .ok (.aload_n 0, 1) := by decide +kernel
theorem dX6_freeHours_99 : decode cX6_freeHours 99 = .ok (.getfield 21, 3) := by decide +kernel
theorem dX6_freeHours_102 : decode cX6_freeHours 102 = .ok (.iload 7, 2) := by decide +kernel
theorem dX6_freeHours_104 : decode cX6_freeHours 104 = .ok (.iaload, 1) := by decide +kernel
theorem dX6_freeHours_105 : decode cX6_freeHours 105 = .ok (.iload 6, 2) := by decide +kernel
theorem dX6_freeHours_107 : decode cX6_freeHours 107 = .ok (.invokestatic 9, 3) := by decide +kernel
theorem dX6_freeHours_110 : decode cX6_freeHours 110 = .ok (.isub, 1) := by decide +kernel
theorem dX6_freeHours_111 : decode cX6_freeHours 111 = .ok (.iconst 1, 1) := by decide +kernel
theorem dX6_freeHours_112 : decode cX6_freeHours 112 = .ok (.iadd, 1) := by decide +kernel
theorem dX6_freeHours_113 : decode cX6_freeHours 113 = .ok (.isub, 1) := by decide +kernel
theorem dX6_freeHours_114 : decode cX6_freeHours 114 = .ok (.istore 5, 2) := by decide +kernel
theorem dX6_freeHours_116 : decode cX6_freeHours 116 = .ok (.iload 8, 2) := by decide +kernel
theorem dX6_freeHours_118 : decode cX6_freeHours 118 = .ok (.iconst 1, 1) := by decide +kernel
theorem dX6_freeHours_119 : decode cX6_freeHours 119 = .ok (.iadd, 1) := by decide +kernel
theorem dX6_freeHours_120 : decode cX6_freeHours 120 = .ok (.istore 6, 2) := by decide +kernel
theorem dX6_freeHours_122 : decode cX6_freeHours 122 = .ok (.iinc 7 1, 3) := by decide +kernel
theorem dX6_freeHours_125 : decode cX6_freeHours 125 = .ok (.goto (-107), 3) := by decide +kernel
theorem dX6_freeHours_128 : decode cX6_freeHours 128 = .ok (.iload 5, 2) := by decide +kernel
theorem dX6_freeHours_130 : decode cX6_freeHours 130 = .ok (.ireturn, 1) := by decide +kernel
theorem dX6_hourBehind_0 : decode cX6_hourBehind 0 = .ok (.iload 4, 2) := by decide +kernel
theorem dX6_hourBehind_2 : decode cX6_hourBehind 2 = .ok (.istore 5, 2) := by decide +kernel
theorem dX6_hourBehind_4 : decode cX6_hourBehind 4 = .ok (.iload_n 3, 1) := by decide +kernel
theorem dX6_hourBehind_5 : decode cX6_hourBehind 5 = .ok (.istore 6, 2) := by decide +kernel
theorem dX6_hourBehind_7 : decode cX6_hourBehind 7 = .ok (.iconst 0, 1) := by decide +kernel
theorem dX6_hourBehind_8 : decode cX6_hourBehind 8 = .ok (.istore 7, 2) := by decide +kernel
theorem dX6_hourBehind_10 : decode cX6_hourBehind 10 = .ok (.iload 7, 2) := by decide +kernel
theorem dX6_hourBehind_12 : decode cX6_hourBehind 12 = .ok (.aload_n 0, 1) := by decide +kernel
theorem dX6_hourBehind_13 : decode cX6_hourBehind 13 = .ok (.getfield 27, 3) := by decide +kernel
theorem dX6_hourBehind_16 : decode cX6_hourBehind 16 = .ok (.if_icmp .ge 88, 3) := by decide +kernel
theorem dX6_hourBehind_19 : decode cX6_hourBehind 19 = .ok (.aload_n 0, 1) := by decide +kernel
theorem dX6_hourBehind_20 : decode cX6_hourBehind 20 = .ok (.getfield 21, 3) := by decide +kernel
theorem dX6_hourBehind_23 : decode cX6_hourBehind 23 = .ok (.iload 7, 2) := by decide +kernel
theorem dX6_hourBehind_25 : decode cX6_hourBehind 25 = .ok (.iaload, 1) := by decide +kernel
theorem dX6_hourBehind_26 : decode cX6_hourBehind 26 = .ok (.iload 6, 2) := by decide +kernel
theorem dX6_hourBehind_28 : decode cX6_hourBehind 28 = .ok (.isub, 1) := by decide +kernel
theorem dX6_hourBehind_29 : decode cX6_hourBehind 29 = .ok (.iload 5, 2) := by decide +kernel
theorem dX6_hourBehind_31 : decode cX6_hourBehind 31 = .ok (.if_icmp .ge 73, 3) := by decide +kernel
theorem dX6_hourBehind_34 : decode cX6_hourBehind 34 = .ok (.aload_n 0, 1) := by decide +kernel
theorem dX6_hourBehind_35 : decode cX6_hourBehind 35 = .ok (.getfield 15, 3) := by decide +kernel
theorem dX6_hourBehind_38 : decode cX6_hourBehind 38 = .ok (.iload 7, 2) := by decide +kernel
theorem dX6_hourBehind_40 : decode cX6_hourBehind 40 = .ok (.iaload, 1) := by decide +kernel
theorem dX6_hourBehind_41 : decode cX6_hourBehind 41 = .ok (.iload_n 1, 1) := by decide +kernel
theorem dX6_hourBehind_42 : decode cX6_hourBehind 42 = .ok (.if_icmp .lt 56, 3) := by decide +kernel
theorem dX6_hourBehind_45 : decode cX6_hourBehind 45 = .ok (.aload_n 0, 1) := by decide +kernel
theorem dX6_hourBehind_46 : decode cX6_hourBehind 46 = .ok (.getfield 15, 3) := by decide +kernel
theorem dX6_hourBehind_49 : decode cX6_hourBehind 49 = .ok (.iload 7, 2) := by decide +kernel
theorem dX6_hourBehind_51 : decode cX6_hourBehind 51 = .ok (.iaload, 1) := by decide +kernel
theorem dX6_hourBehind_52 : decode cX6_hourBehind 52 = .ok (.iload_n 2, 1) := by decide +kernel
theorem dX6_hourBehind_53 : decode cX6_hourBehind 53 = .ok (.if_icmp .gt 45, 3) := by decide +kernel
theorem dX6_hourBehind_56 : decode cX6_hourBehind 56 = .ok (.aload_n 0, 1) := by decide +kernel
theorem dX6_hourBehind_57 : decode cX6_hourBehind 57 = .ok (.getfield 24, 3) := by decide +kernel
theorem dX6_hourBehind_60 : decode cX6_hourBehind 60 = .ok (.iload 7, 2) := by decide +kernel
theorem dX6_hourBehind_62 : decode cX6_hourBehind 62 = .ok (.iaload, 1) := by decide +kernel
theorem dX6_hourBehind_63 : decode cX6_hourBehind 63 = .ok (.iload 6, 2) := by decide +kernel
theorem dX6_hourBehind_65 : decode cX6_hourBehind 65 = .ok (.if_icmp .lt 33, 3) := by decide +kernel
theorem dX6_hourBehind_68 : decode cX6_hourBehind 68 = .ok (.iload 5, 2) := by decide +kernel
theorem dX6_hourBehind_70 : decode cX6_hourBehind 70 = .ok (.iconst 0, 1) := by decide +kernel
theorem dX6_hourBehind_71 : decode cX6_hourBehind 71 = .ok (.aload_n 0, 1) := by decide +kernel
theorem dX6_hourBehind_72 : decode cX6_hourBehind 72 = .ok (.getfield 21, 3) := by decide +kernel
theorem dX6_hourBehind_75 : decode cX6_hourBehind 75 = .ok (.iload 7, 2) := by decide +kernel
theorem dX6_hourBehind_77 : decode cX6_hourBehind 77 = .ok (.iaload, 1) := by decide +kernel
theorem dX6_hourBehind_78 : decode cX6_hourBehind 78 = .ok (.iload 6, 2) := by decide +kernel
theorem dX6_hourBehind_80 : decode cX6_hourBehind 80 = .ok (.isub, 1) := by decide +kernel
theorem dX6_hourBehind_81 : decode cX6_hourBehind 81 = .ok (.invokestatic 9, 3) := by decide +kernel
theorem dX6_hourBehind_84 : decode cX6_hourBehind 84 = .ok (.isub, 1) := by decide +kernel
theorem dX6_hourBehind_85 : decode cX6_hourBehind 85 = .ok (.istore 5, 2) := by decide +kernel
theorem dX6_hourBehind_87 : decode cX6_hourBehind 87 = .ok (.aload_n 0, 1) := by decide +kernel
theorem dX6_hourBehind_88 : decode cX6_hourBehind 88 = .ok (.getfield 24, 3) := by decide +kernel
theorem dX6_hourBehind_91 : decode cX6_hourBehind 91 = .ok (.iload 7, 2) := by decide +kernel
theorem dX6_hourBehind_93 : decode cX6_hourBehind 93 = .ok (.iaload, 1) := by decide +kernel
theorem dX6_hourBehind_94 : decode cX6_hourBehind 94 = .ok (.iconst 1, 1) := by decide +kernel
theorem dX6_hourBehind_95 : decode cX6_hourBehind 95 = .ok (.iadd, 1) := by decide +kernel
theorem dX6_hourBehind_96 : decode cX6_hourBehind 96 = .ok (.istore 6, 2) := by decide +kernel
theorem dX6_hourBehind_98 : decode cX6_hourBehind 98 = .ok (.iinc 7 1, 3) := by decide +kernel
theorem dX6_hourBehind_101 : decode cX6_hourBehind 101 = .ok (.goto (-91), 3) := by decide +kernel
theorem dX6_hourBehind_104 : decode cX6_hourBehind 104 = .ok (.iload 6, 2) := by decide +kernel
theorem dX6_hourBehind_106 : decode cX6_hourBehind 106 = .ok (.iload 5, 2) := by decide +kernel
theorem dX6_hourBehind_108 : decode cX6_hourBehind 108 = .ok (.iadd, 1) := by decide +kernel
theorem dX6_hourBehind_109 : decode cX6_hourBehind 109 = .ok (.sipush 2400, 3) := by decide +kernel
theorem dX6_hourBehind_112 : decode cX6_hourBehind 112 = .ok (.if_icmp .gt 11, 3) := by decide +kernel
theorem dX6_hourBehind_115 : decode cX6_hourBehind 115 = .ok (.iload 6, 2) := by decide +kernel
theorem dX6_hourBehind_117 : decode cX6_hourBehind 117 = .ok (.iload 5, 2) := by decide +kernel
theorem dX6_hourBehind_119 : decode cX6_hourBehind 119 = .ok (.iadd, 1) := by decide +kernel
theorem dX6_hourBehind_120 : decode cX6_hourBehind 120 = .ok (.goto 4, 3) := by decide +kernel
theorem dX6_hourBehind_123 : decode cX6_hourBehind 123 = .ok (.iconst (-1), 1) := by decide +kernel
theorem dX6_hourBehind_124 : decode cX6_hourBehind 124 = .ok (.ireturn, 1) := by decide +kernel
theorem dX6_copyFrom_0 : decode cX6_copyFrom 0 = .ok (.aload_n 1, 1) := by decide +kernel
theorem dX6_copyFrom_1 : decode cX6_copyFrom 1 = .ok (.getfield 27, 3) := by decide +kernel
theorem dX6_copyFrom_4 : decode cX6_copyFrom 4 = .ok (.aload_n 0, 1) := by decide +kernel
theorem dX6_copyFrom_5 : decode cX6_copyFrom 5 = .ok (.getfield 15, 3) := by decide +kernel
theorem dX6_copyFrom_8 : decode cX6_copyFrom 8 = .ok (.arraylength, 1) := by decide +kernel
theorem dX6_copyFrom_9 : decode cX6_copyFrom 9 = .ok (.if_icmp .gt 62, 3) := by decide +kernel
theorem dX6_copyFrom_12 : decode cX6_copyFrom 12 = .ok (.aload_n 1, 1) := by decide +kernel
theorem dX6_copyFrom_13 : decode cX6_copyFrom 13 = .ok (.getfield 15, 3) := by decide +kernel
theorem dX6_copyFrom_16 : decode cX6_copyFrom 16 = .ok (.iconst 0, 1) := by decide +kernel
theorem dX6_copyFrom_17 : decode cX6_copyFrom 17 = .ok (.aload_n 0, 1) := by decide +kernel
theorem dX6_copyFrom_18 : decode cX6_copyFrom 18 = .ok (.getfield 15, 3) := by decide +kernel
theorem dX6_copyFrom_21 : decode cX6_copyFrom 21 = .ok (.iconst 0, 1) := by decide +kernel
theorem dX6_copyFrom_22 : decode cX6_copyFrom 22 = .ok (.aload_n 1, 1) := by decide +kernel
theorem dX6_copyFrom_23 : decode cX6_copyFrom 23 = .ok (.getfield 27, 3) := by decide +kernel
theorem dX6_copyFrom_26 : decode cX6_copyFrom 26 = .ok (.invokestatic 34, 3) := by decide +kernel
theorem dX6_copyFrom_29 : decode cX6_copyFrom 29 = .ok (.aload_n 1, 1) := by decide +kernel
theorem dX6_copyFrom_30 : decode cX6_copyFrom 30 = .ok (.getfield 21, 3) := by decide +kernel
theorem dX6_copyFrom_33 : decode cX6_copyFrom 33 = .ok (.iconst 0, 1) := by decide +kernel
theorem dX6_copyFrom_34 : decode cX6_copyFrom 34 = .ok (.aload_n 0, 1) := by decide +kernel
theorem dX6_copyFrom_35 : decode cX6_copyFrom 35 = .ok (.getfield 21, 3) := by decide +kernel
theorem dX6_copyFrom_38 : decode cX6_copyFrom 38 = .ok (.iconst 0, 1) := by decide +kernel
theorem dX6_copyFrom_39 : decode cX6_copyFrom 39 = .ok (.aload_n 1, 1) := by decide +kernel
theorem dX6_copyFrom_40 : decode cX6_copyFrom 40 = .ok (.getfield 27, 3) := by decide +kernel
theorem dX6_copyFrom_43 : decode cX6_copyFrom 43 = .ok (.invokestatic 34, 3) := by decide +kernel
theorem dX6_copyFrom_46 : decode cX6_copyFrom 46 = .ok (.aload_n 1, 1) := by decide +kernel
theorem dX6_copyFrom_47 : decode cX6_copyFrom 47 = .ok (.getfield 24, 3) := by decide +kernel
theorem dX6_copyFrom_50 : decode cX6_copyFrom 50 = .ok (.iconst 0, 1) := by decide +kernel
theorem dX6_copyFrom_51 : decode cX6_copyFrom 51 = .ok (.aload_n 0, 1) := by decide +kernel
theorem dX6_copyFrom_52 : decode cX6_copyFrom 52 = .ok (.getfield 24, 3) := by decide +kernel
theorem dX6_copyFrom_55 : decode cX6_copyFrom 55 = .ok (.iconst 0, 1) := by decide +kernel
theorem dX6_copyFrom_56 : decode cX6_copyFrom 56 = .ok (.aload_n 1, 1) := by decide +kernel
theorem dX6_copyFrom_57 : decode cX6_copyFrom 57 = .ok (.getfield 27, 3) := by decide +kernel
theorem dX6_copyFrom_60 : decode cX6_copyFrom 60 = .ok (.invokestatic 34, 3) := by decide +kernel
theorem dX6_copyFrom_63 : decode cX6_copyFrom 63 = .ok (.aload_n 0, 1) := by decide +kernel
theorem dX6_copyFrom_64 : decode cX6_copyFrom 64 = .ok (.aload_n 1, 1) := by decide +kernel
theorem dX6_copyFrom_65 : decode cX6_copyFrom 65 = .ok (.getfield 27, 3) := by decide +kernel
theorem dX6_copyFrom_68 : decode cX6_copyFrom 68 = .ok (.putfield 27, 3) := by decide +kernel
theorem dX6_copyFrom_71 : decode cX6_copyFrom 71 = .ok (.return_, 1) := by decide +kernel
set_option maxRecDepth 20000 in
theorem ggX8_begin_J7_fill_53178 : GoodIn wsX8_begin wsJ7_fill_53178 := goodIn_r _ [14] (by decide +kernel) (by decide +kernel)
set_option maxRecDepth 20000 in
theorem gX8_begin_J7_fill_53178 : GoodIn wsX8_begin (va_wsS RX8 40 yJ7_fill_53178 wsJ7_fill_53178) := goodIn_app (goodIn_of _ (by decide +kernel)) ggX8_begin_J7_fill_53178
theorem dX8_begin_0 : decode cX8_begin 0 = .ok (.aload_n 0, 1) := by decide +kernel
theorem dX8_begin_1 : decode cX8_begin 1 = .ok (.iload_n 1, 1) := by decide +kernel
theorem dX8_begin_2 : decode cX8_begin 2 = .ok (.putfield 22, 3) := by decide +kernel
theorem dX8_begin_5 : decode cX8_begin 5 = .ok (.aload_n 0, 1) := by decide +kernel
theorem dX8_begin_6 : decode cX8_begin 6 = .ok (.iload_n 2, 1) := by decide +kernel
theorem dX8_begin_7 : decode cX8_begin 7 = .ok (.putfield 25, 3) := by decide +kernel
theorem dX8_begin_10 : decode cX8_begin 10 = .ok (.aload_n 0, 1) := by decide +kernel
theorem dX8_begin_11 : decode cX8_begin 11 = .ok (.iconst 1, 1) := by decide +kernel
theorem dX8_begin_12 : decode cX8_begin 12 = .ok (.iload_n 3, 1) := by decide +kernel
theorem dX8_begin_13 : decode cX8_begin 13 = .ok (.invokestatic 28, 3) := by decide +kernel
theorem dX8_begin_16 : decode cX8_begin 16 = .ok (.putfield 9, 3) := by decide +kernel
theorem dX8_begin_19 : decode cX8_begin 19 = .ok (.aload_n 0, 1) := by decide +kernel
theorem dX8_begin_20 : decode cX8_begin 20 = .ok (.iload 4, 2) := by decide +kernel
theorem dX8_begin_22 : decode cX8_begin 22 = .ok (.putfield 34, 3) := by decide +kernel
theorem dX8_begin_25 : decode cX8_begin 25 = .ok (.aload_n 0, 1) := by decide +kernel
theorem dX8_begin_26 : decode cX8_begin 26 = .ok (.sipush 1000, 3) := by decide +kernel
theorem dX8_begin_29 : decode cX8_begin 29 = .ok (.putfield 37, 3) := by decide +kernel
theorem dX8_begin_32 : decode cX8_begin 32 = .ok (.aload_n 0, 1) := by decide +kernel
theorem dX8_begin_33 : decode cX8_begin 33 = .ok (.getfield 15, 3) := by decide +kernel
theorem dX8_begin_36 : decode cX8_begin 36 = .ok (.iconst 0, 1) := by decide +kernel
theorem dX8_begin_37 : decode cX8_begin 37 = .ok (.invokestatic 40, 3) := by decide +kernel
theorem dX8_begin_40 : decode cX8_begin 40 = .ok (.return_, 1) := by decide +kernel
set_option maxRecDepth 20000 in
theorem ggX8_tellWay_X11_within : GoodIn wsX8_tellWay wsX11_within := goodIn_r _ [5] (by decide +kernel) (by decide +kernel)
theorem dX8_tellWay_0 : decode cX8_tellWay 0 = .ok (.iload_n 1, 1) := by decide +kernel
theorem dX8_tellWay_1 : decode cX8_tellWay 1 = .ok (.iconst 0, 1) := by decide +kernel
theorem dX8_tellWay_2 : decode cX8_tellWay 2 = .ok (.iconst 5, 1) := by decide +kernel
theorem dX8_tellWay_3 : decode cX8_tellWay 3 = .ok (.invokestatic 46, 3) := by decide +kernel
theorem dX8_tellWay_6 : decode cX8_tellWay 6 = .ok (.ifCond .eq 27, 3) := by decide +kernel
theorem dX8_tellWay_9 : decode cX8_tellWay 9 = .ok (.aload_n 0, 1) := by decide +kernel
theorem dX8_tellWay_10 : decode cX8_tellWay 10 = .ok (.getfield 15, 3) := by decide +kernel
theorem dX8_tellWay_13 : decode cX8_tellWay 13 = .ok (.iload_n 1, 1) := by decide +kernel
theorem dX8_tellWay_14 : decode cX8_tellWay 14 = .ok (.iload_n 2, 1) := by decide +kernel
theorem dX8_tellWay_15 : decode cX8_tellWay 15 = .ok (.iastore, 1) := by decide +kernel
theorem dX8_tellWay_16 : decode cX8_tellWay 16 = .ok (.aload_n 0, 1) := by decide +kernel
theorem dX8_tellWay_17 : decode cX8_tellWay 17 = .ok (.getfield 19, 3) := by decide +kernel
theorem dX8_tellWay_20 : decode cX8_tellWay 20 = .ok (.iload_n 1, 1) := by decide +kernel
theorem dX8_tellWay_21 : decode cX8_tellWay 21 = .ok (.iload_n 3, 1) := by decide +kernel
theorem dX8_tellWay_22 : decode cX8_tellWay 22 = .ok (.ifCond .eq 9, 3) := by decide +kernel
theorem dX8_tellWay_25 : decode cX8_tellWay 25 = .ok (.iload_n 2, 1) := by decide +kernel
theorem dX8_tellWay_26 : decode cX8_tellWay 26 = .ok (.iconst 2, 1) := by decide +kernel
theorem dX8_tellWay_27 : decode cX8_tellWay 27 = .ok (.idiv, 1) := by decide +kernel
theorem dX8_tellWay_28 : decode cX8_tellWay 28 = .ok (.goto 4, 3) := by decide +kernel
theorem dX8_tellWay_31 : decode cX8_tellWay 31 = .ok (.iconst 0, 1) := by decide +kernel
theorem dX8_tellWay_32 : decode cX8_tellWay 32 = .ok (.iastore, 1) := by decide +kernel
theorem dX8_tellWay_33 : decode cX8_tellWay 33 = .ok (.return_, 1) := by decide +kernel
theorem dX8_hoursFor_0 : decode cX8_hoursFor 0 = .ok (.iload_n 1, 1) := by decide +kernel
theorem dX8_hoursFor_1 : decode cX8_hoursFor 1 = .ok (.aload_n 0, 1) := by decide +kernel
theorem dX8_hoursFor_2 : decode cX8_hoursFor 2 = .ok (.getfield 9, 3) := by decide +kernel
theorem dX8_hoursFor_5 : decode cX8_hoursFor 5 = .ok (.iadd, 1) := by decide +kernel
theorem dX8_hoursFor_6 : decode cX8_hoursFor 6 = .ok (.iconst 1, 1) := by decide +kernel
theorem dX8_hoursFor_7 : decode cX8_hoursFor 7 = .ok (.isub, 1) := by decide +kernel
theorem dX8_hoursFor_8 : decode cX8_hoursFor 8 = .ok (.aload_n 0, 1) := by decide +kernel
theorem dX8_hoursFor_9 : decode cX8_hoursFor 9 = .ok (.getfield 9, 3) := by decide +kernel
theorem dX8_hoursFor_12 : decode cX8_hoursFor 12 = .ok (.idiv, 1) := by decide +kernel
theorem dX8_hoursFor_13 : decode cX8_hoursFor 13 = .ok (.ireturn, 1) := by decide +kernel
theorem dX8_copyFrom_0 : decode cX8_copyFrom 0 = .ok (.aload_n 0, 1) := by decide +kernel
theorem dX8_copyFrom_1 : decode cX8_copyFrom 1 = .ok (.aload_n 1, 1) := by decide +kernel
theorem dX8_copyFrom_2 : decode cX8_copyFrom 2 = .ok (.getfield 22, 3) := by decide +kernel
theorem dX8_copyFrom_5 : decode cX8_copyFrom 5 = .ok (.putfield 22, 3) := by decide +kernel
theorem dX8_copyFrom_8 : decode cX8_copyFrom 8 = .ok (.aload_n 0, 1) := by decide +kernel
theorem dX8_copyFrom_9 : decode cX8_copyFrom 9 = .ok (.aload_n 1, 1) := by decide +kernel
theorem dX8_copyFrom_10 : decode cX8_copyFrom 10 = .ok (.getfield 25, 3) := by decide +kernel
theorem dX8_copyFrom_13 : decode cX8_copyFrom 13 = .ok (.putfield 25, 3) := by decide +kernel
theorem dX8_copyFrom_16 : decode cX8_copyFrom 16 = .ok (.aload_n 0, 1) := by decide +kernel
theorem dX8_copyFrom_17 : decode cX8_copyFrom 17 = .ok (.aload_n 1, 1) := by decide +kernel
theorem dX8_copyFrom_18 : decode cX8_copyFrom 18 = .ok (.getfield 9, 3) := by decide +kernel
theorem dX8_copyFrom_21 : decode cX8_copyFrom 21 = .ok (.putfield 9, 3) := by decide +kernel
theorem dX8_copyFrom_24 : decode cX8_copyFrom 24 = .ok (.aload_n 0, 1) := by decide +kernel
theorem dX8_copyFrom_25 : decode cX8_copyFrom 25 = .ok (.aload_n 1, 1) := by decide +kernel
theorem dX8_copyFrom_26 : decode cX8_copyFrom 26 = .ok (.getfield 34, 3) := by decide +kernel
theorem dX8_copyFrom_29 : decode cX8_copyFrom 29 = .ok (.putfield 34, 3) := by decide +kernel
theorem dX8_copyFrom_32 : decode cX8_copyFrom 32 = .ok (.aload_n 0, 1) := by decide +kernel
theorem dX8_copyFrom_33 : decode cX8_copyFrom 33 = .ok (.aload_n 1, 1) := by decide +kernel
theorem dX8_copyFrom_34 : decode cX8_copyFrom 34 = .ok (.getfield 37, 3) := by decide +kernel
theorem dX8_copyFrom_37 : decode cX8_copyFrom 37 = .ok (.putfield 37, 3) := by decide +kernel
theorem dX8_copyFrom_40 : decode cX8_copyFrom 40 = .ok (.aload_n 1, 1) := by decide +kernel
theorem dX8_copyFrom_41 : decode cX8_copyFrom 41 = .ok (.getfield 15, 3) := by decide +kernel
theorem dX8_copyFrom_44 : decode cX8_copyFrom 44 = .ok (.iconst 0, 1) := by decide +kernel
theorem dX8_copyFrom_45 : decode cX8_copyFrom 45 = .ok (.aload_n 0, 1) := by decide +kernel
theorem dX8_copyFrom_46 : decode cX8_copyFrom 46 = .ok (.getfield 15, 3) := by decide +kernel
theorem dX8_copyFrom_49 : decode cX8_copyFrom 49 = .ok (.iconst 0, 1) := by decide +kernel
theorem dX8_copyFrom_50 : decode cX8_copyFrom 50 = .ok (.bipush 6, 2) := by decide +kernel
theorem dX8_copyFrom_52 : decode cX8_copyFrom 52 = .ok (.invokestatic 50, 3) := by decide +kernel
theorem dX8_copyFrom_55 : decode cX8_copyFrom 55 = .ok (.aload_n 1, 1) := by decide +kernel
theorem dX8_copyFrom_56 : decode cX8_copyFrom 56 = .ok (.getfield 19, 3) := by decide +kernel
theorem dX8_copyFrom_59 : decode cX8_copyFrom 59 = .ok (.iconst 0, 1) := by decide +kernel
theorem dX8_copyFrom_60 : decode cX8_copyFrom 60 = .ok (.aload_n 0, 1) := by decide +kernel
theorem dX8_copyFrom_61 : decode cX8_copyFrom 61 = .ok (.getfield 19, 3) := by decide +kernel
theorem dX8_copyFrom_64 : decode cX8_copyFrom 64 = .ok (.iconst 0, 1) := by decide +kernel
theorem dX8_copyFrom_65 : decode cX8_copyFrom 65 = .ok (.bipush 6, 2) := by decide +kernel
theorem dX8_copyFrom_67 : decode cX8_copyFrom 67 = .ok (.invokestatic 50, 3) := by decide +kernel
theorem dX8_copyFrom_70 : decode cX8_copyFrom 70 = .ok (.return_, 1) := by decide +kernel
theorem dX11_within_0 : decode cX11_within 0 = .ok (.iload_n 0, 1) := by decide +kernel
theorem dX11_within_1 : decode cX11_within 1 = .ok (.iload_n 1, 1) := by decide +kernel
theorem dX11_within_2 : decode cX11_within 2 = .ok (.if_icmp .lt 12, 3) := by decide +kernel
theorem dX11_within_5 : decode cX11_within 5 = .ok (.iload_n 0, 1) := by decide +kernel
theorem dX11_within_6 : decode cX11_within 6 = .ok (.iload_n 2, 1) := by decide +kernel
theorem dX11_within_7 : decode cX11_within 7 = .ok (.if_icmp .gt 7, 3) := by decide +kernel
theorem dX11_within_10 : decode cX11_within 10 = .ok (.iconst 1, 1) := by decide +kernel
theorem dX11_within_11 : decode cX11_within 11 = .ok (.goto 4, 3) := by decide +kernel
theorem dX11_within_14 : decode cX11_within 14 = .ok (.iconst 0, 1) := by decide +kernel
theorem dX11_within_15 : decode cX11_within 15 = .ok (.ireturn, 1) := by decide +kernel
set_option maxRecDepth 20000 in
theorem ggX11_isHour_X11_within : GoodIn wsX11_isHour wsX11_within := goodIn_r _ [4] (by decide +kernel) (by decide +kernel)
set_option maxRecDepth 20000 in
theorem gX11_isHour_X11_within : GoodIn wsX11_isHour (va_wsS RX11 51 yX11_within wsX11_within) := goodIn_app (goodIn_of _ (by decide +kernel)) ggX11_isHour_X11_within
theorem dX11_isHour_0 : decode cX11_isHour 0 = .ok (.iload_n 0, 1) := by decide +kernel
theorem dX11_isHour_1 : decode cX11_isHour 1 = .ok (.iconst 0, 1) := by decide +kernel
theorem dX11_isHour_2 : decode cX11_isHour 2 = .ok (.sipush 2399, 3) := by decide +kernel
theorem dX11_isHour_5 : decode cX11_isHour 5 = .ok (.invokestatic 51, 3) := by decide +kernel
theorem dX11_isHour_8 : decode cX11_isHour 8 = .ok (.ireturn, 1) := by decide +kernel
set_option maxRecDepth 20000 in
theorem ggX11_isSpan_X11_isHour : GoodIn wsX11_isSpan wsX11_isHour := goodIn_r _ [4, 5, 6, 3, 7] (by decide +kernel) (by decide +kernel)
set_option maxRecDepth 20000 in
theorem gX11_isSpan_X11_isHour : GoodIn wsX11_isSpan (va_wsS RX11 229 yX11_isHour wsX11_isHour) := goodIn_app (goodIn_of _ (by decide +kernel)) ggX11_isSpan_X11_isHour
theorem dX11_isSpan_0 : decode cX11_isSpan 0 = .ok (.iload_n 0, 1) := by decide +kernel
theorem dX11_isSpan_1 : decode cX11_isSpan 1 = .ok (.invokestatic 229, 3) := by decide +kernel
theorem dX11_isSpan_4 : decode cX11_isSpan 4 = .ok (.ifCond .eq 19, 3) := by decide +kernel
theorem dX11_isSpan_7 : decode cX11_isSpan 7 = .ok (.iload_n 1, 1) := by decide +kernel
theorem dX11_isSpan_8 : decode cX11_isSpan 8 = .ok (.invokestatic 229, 3) := by decide +kernel
theorem dX11_isSpan_11 : decode cX11_isSpan 11 = .ok (.ifCond .eq 12, 3) := by decide +kernel
theorem dX11_isSpan_14 : decode cX11_isSpan 14 = .ok (.iload_n 0, 1) := by decide +kernel
theorem dX11_isSpan_15 : decode cX11_isSpan 15 = .ok (.iload_n 1, 1) := by decide +kernel
theorem dX11_isSpan_16 : decode cX11_isSpan 16 = .ok (.if_icmp .gt 7, 3) := by decide +kernel
theorem dX11_isSpan_19 : decode cX11_isSpan 19 = .ok (.iconst 1, 1) := by decide +kernel
theorem dX11_isSpan_20 : decode cX11_isSpan 20 = .ok (.goto 4, 3) := by decide +kernel
theorem dX11_isSpan_23 : decode cX11_isSpan 23 = .ok (.iconst 0, 1) := by decide +kernel
theorem dX11_isSpan_24 : decode cX11_isSpan 24 = .ok (.ireturn, 1) := by decide +kernel
theorem dX11_slotOwner_0 : decode cX11_slotOwner 0 = .ok (.iload_n 0, 1) := by decide +kernel
theorem dX11_slotOwner_1 : decode cX11_slotOwner 1 = .ok (.bipush 6, 2) := by decide +kernel
theorem dX11_slotOwner_3 : decode cX11_slotOwner 3 = .ok (.imul, 1) := by decide +kernel
theorem dX11_slotOwner_4 : decode cX11_slotOwner 4 = .ok (.iload_n 1, 1) := by decide +kernel
theorem dX11_slotOwner_5 : decode cX11_slotOwner 5 = .ok (.iadd, 1) := by decide +kernel
theorem dX11_slotOwner_6 : decode cX11_slotOwner 6 = .ok (.ireturn, 1) := by decide +kernel
