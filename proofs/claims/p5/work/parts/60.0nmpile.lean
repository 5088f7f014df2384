abbrev cX12_settleDown : ByteArray := prog_14_method_76_code
def yX12_settleDown : MethodName := ⟨RX12, "settleDown", "(I)V"⟩
abbrev cX12_inner : ByteArray := prog_14_method_77_code
def yX12_inner : MethodName := ⟨RX12, "inner", "()I"⟩
abbrev cX12_isCompared : ByteArray := prog_14_method_78_code
def yX12_isCompared : MethodName := ⟨RX12, "isCompared", "()Z"⟩
abbrev cX12_partAt : ByteArray := prog_14_method_79_code
def yX12_partAt : MethodName := ⟨RX12, "partAt", "()I"⟩
def wsX12_settleDown : List Cond := .code yX12_settleDown cX12_settleDown 2 none :: ([.fieldLink RX12 300 "ColdShipsModel" "piled" "I", .fieldLink RX12 43 "ColdShipsModel" "pile" "[I", .fieldLink RX12 40 "ColdShipsModel" "nArg" "[I", .fieldLink RX12 46 "ColdShipsModel" "pileAt" "[I", .fieldLink RX12 297 "ColdShipsModel" "nCode" "I", .methodLink RX12 303 yX12_binds, .static yX12_binds, .initialized RX12, .code yX12_binds cX12_binds 1 (some .int), .methodLink RX12 306 yX12_emit, .instanceMethod yX12_emit, .selects RX12 yX12_emit yX12_emit, .code yX12_emit cX12_emit 3 none, .fieldLink RX12 37 "ColdShipsModel" "nOp" "[I"] ++ wsX120)
def wsX12_inner : List Cond := .code yX12_inner cX12_inner 3 (some .int) :: ([.fieldLink RX12 300 "ColdShipsModel" "piled" "I", .fieldLink RX12 43 "ColdShipsModel" "pile" "[I"] ++ wsX120)
def wsX12_isCompared : List Cond := .code yX12_isCompared cX12_isCompared 2 (some .boolean) :: ([.fieldLink RX12 300 "ColdShipsModel" "piled" "I", .fieldLink RX12 43 "ColdShipsModel" "pile" "[I", .constantLong RX12 289 (10), .constantLong RX12 309 (13), .constantLong RX12 311 (14), .constantLong RX12 313 (16), .methodLink RX12 99 yX12_in, .static yX12_in, .initialized RX12, .code yX12_in cX12_in 6 (some .boolean)] ++ wsX120)
def wsX12_partAt : List Cond := .code yX12_partAt cX12_partAt 1 (some .int) :: ([.constantLong RX12 315 (671187), .constantLong RX12 321 (76951716), .constantLong RX12 323 (267316), .constantLong RX12 325 (394885), .constantLong RX12 327 (5294489), .constantLong RX12 329 (17376357), .constantLong RX12 331 (8902227), .constantLong RX12 333 (5930468251205), .methodLink RX12 317 yX12_isWord, .instanceMethod yX12_isWord, .selects RX12 yX12_isWord yX12_isWord, .initialized RX12, .code yX12_isWord cX12_isWord 3 (some .boolean), .fieldLink RX12 280 "ColdShipsModel" "sort" "I", .fieldLink RX12 270 "ColdShipsModel" "worth" "J"] ++ wsX120)
set_option maxRecDepth 20000 in
theorem ggX12_settleDown_X12_binds : GoodIn wsX12_settleDown wsX12_binds := goodIn_r _ [9] (by decide +kernel) (by decide +kernel)
set_option maxRecDepth 20000 in
theorem gX12_settleDown_X12_binds : GoodIn wsX12_settleDown (va_wsS RX12 303 yX12_binds wsX12_binds) := goodIn_app (goodIn_of _ (by decide +kernel)) ggX12_settleDown_X12_binds
set_option maxRecDepth 20000 in
theorem ggX12_settleDown_X12_emit : GoodIn wsX12_settleDown wsX12_emit := goodIn_r _ [13, 14, 5, 3, 15, 16, 17, 18, 19, 20, 21, 22, 23, 24, 25, 26, 27, 28, 29, 30, 31, 32, 33, 34, 35, 36, 37, 38, 39, 40, 41, 42, 43, 44, 45, 46, 47, 48, 49, 50, 51, 52, 53, 54, 55, 56, 57, 58, 59, 60, 61, 62, 63, 64, 65, 66, 67] (by decide +kernel) (by decide +kernel)
set_option maxRecDepth 20000 in
theorem gX12_settleDown_X12_emit : GoodIn wsX12_settleDown (wsV RX12 306 RX12 yX12_emit wsX12_emit) := goodIn_app (goodIn_of _ (by decide +kernel)) ggX12_settleDown_X12_emit
theorem dX12_settleDown_0 : decode cX12_settleDown 0 = .ok (.aload_n 0, 1) := by decide +kernel
theorem dX12_settleDown_1 : decode cX12_settleDown 1 = .ok (.getfield 300, 3) := by decide +kernel
theorem dX12_settleDown_4 : decode cX12_settleDown 4 = .ok (.ifCond .le 97, 3) := by decide +kernel
theorem dX12_settleDown_7 : decode cX12_settleDown 7 = .ok (.aload_n 0, 1) := by decide +kernel
theorem dX12_settleDown_8 : decode cX12_settleDown 8 = .ok (.getfield 43, 3) := by decide +kernel
theorem dX12_settleDown_11 : decode cX12_settleDown 11 = .ok (.aload_n 0, 1) := by decide +kernel
theorem dX12_settleDown_12 : decode cX12_settleDown 12 = .ok (.getfield 300, 3) := by decide +kernel
theorem dX12_settleDown_15 : decode cX12_settleDown 15 = .ok (.iconst 1, 1) := by decide +kernel
theorem dX12_settleDown_16 : decode cX12_settleDown 16 = .ok (.isub, 1) := by decide +kernel
theorem dX12_settleDown_17 : decode cX12_settleDown 17 = .ok (.iaload, 1) := by decide +kernel
theorem dX12_settleDown_18 : decode cX12_settleDown 18 = .ok (.invokestatic 303, 3) := by decide +kernel
theorem dX12_settleDown_21 : decode cX12_settleDown 21 = .ok (.iload_n 1, 1) := by decide +kernel
theorem dX12_settleDown_22 : decode cX12_settleDown 22 = .ok (.if_icmp .lt 79, 3) := by decide +kernel
theorem dX12_settleDown_25 : decode cX12_settleDown 25 = .ok (.aload_n 0, 1) := by decide +kernel
theorem dX12_settleDown_26 : decode cX12_settleDown 26 = .ok (.dup, 1) := by decide +kernel
theorem dX12_settleDown_27 : decode cX12_settleDown 27 = .ok (.getfield 300, 3) := by decide +kernel
theorem dX12_settleDown_30 : decode cX12_settleDown 30 = .ok (.iconst 1, 1) := by decide +kernel
theorem dX12_settleDown_31 : decode cX12_settleDown 31 = .ok (.isub, 1) := by decide +kernel
theorem dX12_settleDown_32 : decode cX12_settleDown 32 = .ok (.putfield 300, 3) := by decide +kernel
theorem dX12_settleDown_35 : decode cX12_settleDown 35 = .ok (.aload_n 0, 1) := by decide +kernel
theorem dX12_settleDown_36 : decode cX12_settleDown 36 = .ok (.getfield 43, 3) := by decide +kernel
theorem dX12_settleDown_39 : decode cX12_settleDown 39 = .ok (.aload_n 0, 1) := by decide +kernel
theorem dX12_settleDown_40 : decode cX12_settleDown 40 = .ok (.getfield 300, 3) := by decide +kernel
theorem dX12_settleDown_43 : decode cX12_settleDown 43 = .ok (.iaload, 1) := by decide +kernel
theorem dX12_settleDown_44 : decode cX12_settleDown 44 = .ok (.bipush 18, 2) := by decide +kernel
theorem dX12_settleDown_46 : decode cX12_settleDown 46 = .ok (.if_icmp .eq 17, 3) := by decide +kernel
theorem dX12_settleDown_49 : decode cX12_settleDown 49 = .ok (.aload_n 0, 1) := by decide +kernel
theorem dX12_settleDown_50 : decode cX12_settleDown 50 = .ok (.getfield 43, 3) := by decide +kernel
theorem dX12_settleDown_53 : decode cX12_settleDown 53 = .ok (.aload_n 0, 1) := by decide +kernel
theorem dX12_settleDown_54 : decode cX12_settleDown 54 = .ok (.getfield 300, 3) := by decide +kernel
theorem dX12_settleDown_57 : decode cX12_settleDown 57 = .ok (.iaload, 1) := by decide +kernel
theorem dX12_settleDown_58 : decode cX12_settleDown 58 = .ok (.bipush 19, 2) := by decide +kernel
theorem dX12_settleDown_60 : decode cX12_settleDown 60 = .ok (.if_icmp .ne 24, 3) := by decide +kernel
theorem dX12_settleDown_63 : decode cX12_settleDown 63 = .ok (.aload_n 0, 1) := by decide +kernel
theorem dX12_settleDown_64 : decode cX12_settleDown 64 = .ok (.getfield 40, 3) := by decide +kernel
theorem dX12_settleDown_67 : decode cX12_settleDown 67 = .ok (.aload_n 0, 1) := by decide +kernel
theorem dX12_settleDown_68 : decode cX12_settleDown 68 = .ok (.getfield 46, 3) := by decide +kernel
theorem dX12_settleDown_71 : decode cX12_settleDown 71 = .ok (.aload_n 0, 1) := by decide +kernel
theorem dX12_settleDown_72 : decode cX12_settleDown 72 = .ok (.getfield 300, 3) := by decide +kernel
theorem dX12_settleDown_75 : decode cX12_settleDown 75 = .ok (.iaload, 1) := by decide +kernel
theorem dX12_settleDown_76 : decode cX12_settleDown 76 = .ok (.aload_n 0, 1) := by decide +kernel
theorem dX12_settleDown_77 : decode cX12_settleDown 77 = .ok (.getfield 297, 3) := by decide +kernel
theorem dX12_settleDown_80 : decode cX12_settleDown 80 = .ok (.iastore, 1) := by decide +kernel
theorem dX12_settleDown_81 : decode cX12_settleDown 81 = .ok (.goto (-81), 3) := by decide +kernel
theorem dX12_settleDown_84 : decode cX12_settleDown 84 = .ok (.aload_n 0, 1) := by decide +kernel
theorem dX12_settleDown_85 : decode cX12_settleDown 85 = .ok (.aload_n 0, 1) := by decide +kernel
theorem dX12_settleDown_86 : decode cX12_settleDown 86 = .ok (.getfield 43, 3) := by decide +kernel
theorem dX12_settleDown_89 : decode cX12_settleDown 89 = .ok (.aload_n 0, 1) := by decide +kernel
theorem dX12_settleDown_90 : decode cX12_settleDown 90 = .ok (.getfield 300, 3) := by decide +kernel
theorem dX12_settleDown_93 : decode cX12_settleDown 93 = .ok (.iaload, 1) := by decide +kernel
theorem dX12_settleDown_94 : decode cX12_settleDown 94 = .ok (.iconst 0, 1) := by decide +kernel
theorem dX12_settleDown_95 : decode cX12_settleDown 95 = .ok (.invokevirtual 306, 3) := by decide +kernel
theorem dX12_settleDown_98 : decode cX12_settleDown 98 = .ok (.goto (-98), 3) := by decide +kernel
theorem dX12_settleDown_101 : decode cX12_settleDown 101 = .ok (.return_, 1) := by decide +kernel
theorem dX12_inner_0 : decode cX12_inner 0 = .ok (.iconst (-1), 1) := by decide +kernel
theorem dX12_inner_1 : decode cX12_inner 1 = .ok (.istore_n 1, 1) := by decide +kernel
theorem dX12_inner_2 : decode cX12_inner 2 = .ok (.iconst 0, 1) := by decide +kernel
theorem dX12_inner_3 : decode cX12_inner 3 = .ok (.istore_n 2, 1) := by decide +kernel
theorem dX12_inner_4 : decode cX12_inner 4 = .ok (.iload_n 2, 1) := by decide +kernel
theorem dX12_inner_5 : decode cX12_inner 5 = .ok (.aload_n 0, 1) := by decide +kernel
theorem dX12_inner_6 : decode cX12_inner 6 = .ok (.getfield 300, 3) := by decide +kernel
theorem dX12_inner_9 : decode cX12_inner 9 = .ok (.if_icmp .ge 31, 3) := by decide +kernel
theorem dX12_inner_12 : decode cX12_inner 12 = .ok (.aload_n 0, 1) := by decide +kernel
theorem dX12_inner_13 : decode cX12_inner 13 = .ok (.getfield 43, 3) := by decide +kernel
theorem dX12_inner_16 : decode cX12_inner 16 = .ok (.iload_n 2, 1) := by decide +kernel
theorem dX12_inner_17 : decode cX12_inner 17 = .ok (.iaload, 1) := by decide +kernel
theorem dX12_inner_18 : decode cX12_inner 18 = .ok (.bipush 30, 2) := by decide +kernel
theorem dX12_inner_20 : decode cX12_inner 20 = .ok (.if_icmp .lt 12, 3) := by decide +kernel
theorem dX12_inner_23 : decode cX12_inner 23 = .ok (.aload_n 0, 1) := by decide +kernel
theorem dX12_inner_24 : decode cX12_inner 24 = .ok (.getfield 43, 3) := by decide +kernel
theorem dX12_inner_27 : decode cX12_inner 27 = .ok (.iload_n 2, 1) := by decide +kernel
theorem dX12_inner_28 : decode cX12_inner 28 = .ok (.iaload, 1) := by decide +kernel
theorem dX12_inner_29 : decode cX12_inner 29 = .ok (.goto 4, 3) := by decide +kernel
theorem dX12_inner_32 : decode cX12_inner 32 = .ok (.iload_n 1, 1) := by decide +kernel
theorem dX12_inner_33 : decode cX12_inner 33 = .ok (.istore_n 1, 1) := by decide +kernel
theorem dX12_inner_34 : decode cX12_inner 34 = .ok (.iinc 2 1, 3) := by decide +kernel
theorem dX12_inner_37 : decode cX12_inner 37 = .ok (.goto (-33), 3) := by decide +kernel
theorem dX12_inner_40 : decode cX12_inner 40 = .ok (.iload_n 1, 1) := by decide +kernel
theorem dX12_inner_41 : decode cX12_inner 41 = .ok (.ireturn, 1) := by decide +kernel
set_option maxRecDepth 20000 in
theorem ggX12_isCompared_X12_in : GoodIn wsX12_isCompared wsX12_in := goodIn_r _ [10] (by decide +kernel) (by decide +kernel)
set_option maxRecDepth 20000 in
theorem gX12_isCompared_X12_in : GoodIn wsX12_isCompared (va_wsS RX12 99 yX12_in wsX12_in) := goodIn_app (goodIn_of _ (by decide +kernel)) ggX12_isCompared_X12_in
theorem dX12_isCompared_0 : decode cX12_isCompared 0 = .ok (.aload_n 0, 1) := by decide +kernel
theorem dX12_isCompared_1 : decode cX12_isCompared 1 = .ok (.getfield 300, 3) := by decide +kernel
theorem dX12_isCompared_4 : decode cX12_isCompared 4 = .ok (.iconst 1, 1) := by decide +kernel
theorem dX12_isCompared_5 : decode cX12_isCompared 5 = .ok (.isub, 1) := by decide +kernel
theorem dX12_isCompared_6 : decode cX12_isCompared 6 = .ok (.istore_n 1, 1) := by decide +kernel
theorem dX12_isCompared_7 : decode cX12_isCompared 7 = .ok (.iload_n 1, 1) := by decide +kernel
theorem dX12_isCompared_8 : decode cX12_isCompared 8 = .ok (.ifCond .lt 28, 3) := by decide +kernel
theorem dX12_isCompared_11 : decode cX12_isCompared 11 = .ok (.aload_n 0, 1) := by decide +kernel
theorem dX12_isCompared_12 : decode cX12_isCompared 12 = .ok (.getfield 43, 3) := by decide +kernel
theorem dX12_isCompared_15 : decode cX12_isCompared 15 = .ok (.iload_n 1, 1) := by decide +kernel
theorem dX12_isCompared_16 : decode cX12_isCompared 16 = .ok (.iaload, 1) := by decide +kernel
theorem dX12_isCompared_17 : decode cX12_isCompared 17 = .ok (.i2l, 1) := by decide +kernel
theorem dX12_isCompared_18 : decode cX12_isCompared 18 = .ok (.ldc2_w 289, 3) := by decide +kernel
theorem dX12_isCompared_21 : decode cX12_isCompared 21 = .ok (.ldc2_w 309, 3) := by decide +kernel
theorem dX12_isCompared_24 : decode cX12_isCompared 24 = .ok (.invokestatic 99, 3) := by decide +kernel
theorem dX12_isCompared_27 : decode cX12_isCompared 27 = .ok (.ifCond .eq 9, 3) := by decide +kernel
theorem dX12_isCompared_30 : decode cX12_isCompared 30 = .ok (.iinc 1 (-1), 3) := by decide +kernel
theorem dX12_isCompared_33 : decode cX12_isCompared 33 = .ok (.goto (-26), 3) := by decide +kernel
theorem dX12_isCompared_36 : decode cX12_isCompared 36 = .ok (.iload_n 1, 1) := by decide +kernel
theorem dX12_isCompared_37 : decode cX12_isCompared 37 = .ok (.ifCond .lt 26, 3) := by decide +kernel
theorem dX12_isCompared_40 : decode cX12_isCompared 40 = .ok (.aload_n 0, 1) := by decide +kernel
theorem dX12_isCompared_41 : decode cX12_isCompared 41 = .ok (.getfield 43, 3) := by decide +kernel
theorem dX12_isCompared_44 : decode cX12_isCompared 44 = .ok (.iload_n 1, 1) := by decide +kernel
theorem dX12_isCompared_45 : decode cX12_isCompared 45 = .ok (.iaload, 1) := by decide +kernel
theorem dX12_isCompared_46 : decode cX12_isCompared 46 = .ok (.i2l, 1) := by decide +kernel
theorem dX12_isCompared_47 : decode cX12_isCompared 47 = .ok (.ldc2_w 311, 3) := by decide +kernel
theorem dX12_isCompared_50 : decode cX12_isCompared 50 = .ok (.ldc2_w 313, 3) := by decide +kernel
theorem dX12_isCompared_53 : decode cX12_isCompared 53 = .ok (.invokestatic 99, 3) := by decide +kernel
theorem dX12_isCompared_56 : decode cX12_isCompared 56 = .ok (.ifCond .eq 7, 3) := by decide +kernel
theorem dX12_isCompared_59 : decode cX12_isCompared 59 = .ok (.iconst 1, 1) := by decide +kernel
theorem dX12_isCompared_60 : decode cX12_isCompared 60 = .ok (.goto 4, 3) := by decide +kernel
theorem dX12_isCompared_63 : decode cX12_isCompared 63 = .ok (.iconst 0, 1) := by decide +kernel
theorem dX12_isCompared_64 : decode cX12_isCompared 64 = .ok (.ireturn, 1) := by decide +kernel
set_option maxRecDepth 20000 in
theorem ggX12_partAt_X12_isWord : GoodIn wsX12_partAt wsX12_isWord := goodIn_r _ [13, 14, 15, 16, 17, 18, 19, 20, 21, 22, 23, 24, 25, 26, 27, 28, 29, 30, 31, 32, 33, 34, 35, 36, 37, 38, 39, 40, 41, 42, 43, 44, 45, 46, 47, 48, 49, 50, 51, 52, 53, 54, 55, 56, 57, 58, 59, 60, 61, 62, 63, 64, 65, 66, 67, 68] (by decide +kernel) (by decide +kernel)
set_option maxRecDepth 20000 in
theorem gX12_partAt_X12_isWord : GoodIn wsX12_partAt (wsV RX12 317 RX12 yX12_isWord wsX12_isWord) := goodIn_app (goodIn_of _ (by decide +kernel)) ggX12_partAt_X12_isWord
theorem dX12_partAt_0 : decode cX12_partAt 0 = .ok (.aload_n 0, 1) := by decide +kernel
theorem dX12_partAt_1 : decode cX12_partAt 1 = .ok (.ldc2_w 315, 3) := by decide +kernel
theorem dX12_partAt_4 : decode cX12_partAt 4 = .ok (.invokevirtual 317, 3) := by decide +kernel
theorem dX12_partAt_7 : decode cX12_partAt 7 = .ok (.ifCond .ne 33, 3) := by decide +kernel
theorem dX12_partAt_10 : decode cX12_partAt 10 = .ok (.aload_n 0, 1) := by decide +kernel
theorem dX12_partAt_11 : decode cX12_partAt 11 = .ok (.ldc2_w 321, 3) := by decide +kernel
theorem dX12_partAt_14 : decode cX12_partAt 14 = .ok (.invokevirtual 317, 3) := by decide +kernel
theorem dX12_partAt_17 : decode cX12_partAt 17 = .ok (.ifCond .ne 23, 3) := by decide +kernel
theorem dX12_partAt_20 : decode cX12_partAt 20 = .ok (.aload_n 0, 1) := by decide +kernel
theorem dX12_partAt_21 : decode cX12_partAt 21 = .ok (.ldc2_w 323, 3) := by decide +kernel
theorem dX12_partAt_24 : decode cX12_partAt 24 = .ok (.invokevirtual 317, 3) := by decide +kernel
theorem dX12_partAt_27 : decode cX12_partAt 27 = .ok (.ifCond .ne 13, 3) := by decide +kernel
theorem dX12_partAt_30 : decode cX12_partAt 30 = .ok (.aload_n 0, 1) := by decide +kernel
theorem dX12_partAt_31 : decode cX12_partAt 31 = .ok (.ldc2_w 325, 3) := by decide +kernel
theorem dX12_partAt_34 : decode cX12_partAt 34 = .ok (.invokevirtual 317, 3) := by decide +kernel
theorem dX12_partAt_37 : decode cX12_partAt 37 = .ok (.ifCond .eq 47, 3) := by decide +kernel
theorem dX12_partAt_40 : decode cX12_partAt 40 = .ok (.aload_n 0, 1) := by decide +kernel
theorem dX12_partAt_41 : decode cX12_partAt 41 = .ok (.ldc2_w 315, 3) := by decide +kernel
theorem dX12_partAt_44 : decode cX12_partAt 44 = .ok (.invokevirtual 317, 3) := by decide +kernel
theorem dX12_partAt_47 : decode cX12_partAt 47 = .ok (.ifCond .eq 7, 3) := by decide +kernel
theorem dX12_partAt_50 : decode cX12_partAt 50 = .ok (.iconst 1, 1) := by decide +kernel
theorem dX12_partAt_51 : decode cX12_partAt 51 = .ok (.goto 32, 3) := by decide +kernel
theorem dX12_partAt_54 : decode cX12_partAt 54 = .ok (.aload_n 0, 1) := by decide +kernel
theorem dX12_partAt_55 : decode cX12_partAt 55 = .ok (.ldc2_w 321, 3) := by decide +kernel
theorem dX12_partAt_58 : decode cX12_partAt 58 = .ok (.invokevirtual 317, 3) := by decide +kernel
theorem dX12_partAt_61 : decode cX12_partAt 61 = .ok (.ifCond .eq 7, 3) := by decide +kernel
theorem dX12_partAt_64 : decode cX12_partAt 64 = .ok (.iconst 2, 1) := by decide +kernel
theorem dX12_partAt_65 : decode cX12_partAt 65 = .ok (.goto 18, 3) := by decide +kernel
theorem dX12_partAt_68 : decode cX12_partAt 68 = .ok (.aload_n 0, 1) := by decide +kernel
theorem dX12_partAt_69 : decode cX12_partAt 69 = .ok (.ldc2_w 323, 3) := by decide +kernel
theorem dX12_partAt_72 : decode cX12_partAt 72 = .ok (.invokevirtual 317, 3) := by decide +kernel
theorem dX12_partAt_75 : decode cX12_partAt 75 = .ok (.ifCond .eq 7, 3) := by decide +kernel
theorem dX12_partAt_78 : decode cX12_partAt 78 = .ok (.iconst 3, 1) := by decide +kernel
theorem dX12_partAt_79 : decode cX12_partAt 79 = .ok (.goto 4, 3) := by decide +kernel
theorem dX12_partAt_82 : decode cX12_partAt 82 = .ok (.iconst 4, 1) := by decide +kernel
theorem dX12_partAt_83 : decode cX12_partAt 83 = .ok (.ireturn, 1) := by decide +kernel
theorem dX12_partAt_84 : decode cX12_partAt 84 = .ok (.aload_n 0, 1) := by decide +kernel
theorem dX12_partAt_85 : decode cX12_partAt 85 = .ok (.ldc2_w 327, 3) := by decide +kernel
theorem dX12_partAt_88 : decode cX12_partAt 88 = .ok (.invokevirtual 317, 3) := by decide +kernel
theorem dX12_partAt_91 : decode cX12_partAt 91 = .ok (.ifCond .eq 7, 3) := by decide +kernel
theorem dX12_partAt_94 : decode cX12_partAt 94 = .ok (.iconst 5, 1) := by decide +kernel
theorem dX12_partAt_95 : decode cX12_partAt 95 = .ok (.goto 49, 3) := by decide +kernel
theorem dX12_partAt_98 : decode cX12_partAt 98 = .ok (.aload_n 0, 1) := by decide +kernel
theorem dX12_partAt_99 : decode cX12_partAt 99 = .ok (.ldc2_w 329, 3) := by decide +kernel
theorem dX12_partAt_102 : decode cX12_partAt 102 = .ok (.invokevirtual 317, 3) := by decide +kernel
theorem dX12_partAt_105 : decode cX12_partAt 105 = .ok (.ifCond .eq 8, 3) := by decide +kernel
theorem dX12_partAt_108 : decode cX12_partAt 108 = .ok (.bipush 6, 2) := by decide +kernel
theorem dX12_partAt_110 : decode cX12_partAt 110 = .ok (.goto 34, 3) := by decide +kernel
theorem dX12_partAt_113 : decode cX12_partAt 113 = .ok (.aload_n 0, 1) := by decide +kernel
theorem dX12_partAt_114 : decode cX12_partAt 114 = .ok (.ldc2_w 331, 3) := by decide +kernel
theorem dX12_partAt_117 : decode cX12_partAt 117 = .ok (.invokevirtual 317, 3) := by decide +kernel
theorem dX12_partAt_120 : decode cX12_partAt 120 = .ok (.ifCond .eq 8, 3) := by decide +kernel
theorem dX12_partAt_123 : decode cX12_partAt 123 = .ok (.bipush 7, 2) := by decide +kernel
theorem dX12_partAt_125 : decode cX12_partAt 125 = .ok (.goto 19, 3) := by decide +kernel
theorem dX12_partAt_128 : decode cX12_partAt 128 = .ok (.aload_n 0, 1) := by decide +kernel
theorem dX12_partAt_129 : decode cX12_partAt 129 = .ok (.ldc2_w 333, 3) := by decide +kernel
theorem dX12_partAt_132 : decode cX12_partAt 132 = .ok (.invokevirtual 317, 3) := by decide +kernel
theorem dX12_partAt_135 : decode cX12_partAt 135 = .ok (.ifCond .eq 8, 3) := by decide +kernel
theorem dX12_partAt_138 : decode cX12_partAt 138 = .ok (.bipush 8, 2) := by decide +kernel
theorem dX12_partAt_140 : decode cX12_partAt 140 = .ok (.goto 4, 3) := by decide +kernel
theorem dX12_partAt_143 : decode cX12_partAt 143 = .ok (.iconst (-1), 1) := by decide +kernel
theorem dX12_partAt_144 : decode cX12_partAt 144 = .ok (.ireturn, 1) := by decide +kernel
