abbrev cX12_tide : ByteArray := prog_14_method_18_code
def yX12_tide : MethodName := ⟨RX12, "tide", "(II)I"⟩
abbrev cX12_sea : ByteArray := prog_14_method_19_code
def yX12_sea : MethodName := ⟨RX12, "sea", "(II)I"⟩
abbrev cX12_terms : ByteArray := prog_14_method_23_code
def yX12_terms : MethodName := ⟨RX12, "terms", "(II)I"⟩
def wsX12_tide : List Cond := .code yX12_tide cX12_tide 3 (some .int) :: ([.fieldLink RX12 91 "ColdShipsModel" "thrown" "I", .constantLong RX12 137 (24), .constantLong RX12 139 (9), .fieldLink RX12 7 "ColdShipsModel" "row" "[I", .methodLink RX12 99 yX12_in, .static yX12_in, .initialized RX12, .code yX12_in cX12_in 6 (some .boolean), .methodLink RX12 105 yX12_told, .instanceMethod yX12_told, .selects RX12 yX12_told yX12_told, .code yX12_told cX12_told 2 (some .int), .fieldLink RX12 94 "ColdShipsModel" "status" "I"] ++ wsX120)
def wsX12_sea : List Cond := .code yX12_sea cX12_sea 3 (some .int) :: ([.fieldLink RX12 91 "ColdShipsModel" "thrown" "I", .constantLong RX12 139 (9), .fieldLink RX12 7 "ColdShipsModel" "row" "[I", .methodLink RX12 141 yX12_isDay, .static yX12_isDay, .initialized RX12, .code yX12_isDay cX12_isDay 1 (some .boolean), .constantLong RX12 103 (99), .methodLink RX12 99 yX12_in, .static yX12_in, .code yX12_in cX12_in 6 (some .boolean), .methodLink RX12 105 yX12_told, .instanceMethod yX12_told, .selects RX12 yX12_told yX12_told, .code yX12_told cX12_told 2 (some .int), .fieldLink RX12 94 "ColdShipsModel" "status" "I"] ++ wsX120)
def wsX12_terms : List Cond := .code yX12_terms cX12_terms 3 (some .int) :: ([.fieldLink RX12 91 "ColdShipsModel" "thrown" "I", .constantLong RX12 150 (100), .constantLong RX12 122 (1000), .fieldLink RX12 7 "ColdShipsModel" "row" "[I", .methodLink RX12 99 yX12_in, .static yX12_in, .initialized RX12, .code yX12_in cX12_in 6 (some .boolean), .methodLink RX12 105 yX12_told, .instanceMethod yX12_told, .selects RX12 yX12_told yX12_told, .code yX12_told cX12_told 2 (some .int), .fieldLink RX12 94 "ColdShipsModel" "status" "I"] ++ wsX120)
set_option maxRecDepth 20000 in
theorem ggX12_tide_X12_in : GoodIn wsX12_tide wsX12_in := goodIn_r _ [8] (by decide +kernel) (by decide +kernel)
set_option maxRecDepth 20000 in
theorem gX12_tide_X12_in : GoodIn wsX12_tide (va_wsS RX12 99 yX12_in wsX12_in) := goodIn_app (goodIn_of _ (by decide +kernel)) ggX12_tide_X12_in
set_option maxRecDepth 20000 in
theorem ggX12_tide_X12_told : GoodIn wsX12_tide wsX12_told := goodIn_r _ [12, 13, 14, 15, 16, 17, 18, 19, 20, 21, 22, 23, 24, 25, 26, 27, 28, 29, 30, 31, 32, 33, 34, 35, 36, 37, 38, 39, 40, 41, 42, 43, 44, 45, 46, 47, 48, 49, 50, 51, 52, 53, 54, 55, 56, 57, 58, 59, 60, 61, 62, 63, 64, 65, 66] (by decide +kernel) (by decide +kernel)
set_option maxRecDepth 20000 in
theorem gX12_tide_X12_told : GoodIn wsX12_tide (wsV RX12 105 RX12 yX12_told wsX12_told) := goodIn_app (goodIn_of _ (by decide +kernel)) ggX12_tide_X12_told
theorem dX12_tide_0 : decode cX12_tide 0 = .ok (.aload_n 0, 1) := by decide +kernel
theorem dX12_tide_1 : decode cX12_tide 1 = .ok (.iconst 0, 1) := by decide +kernel
theorem dX12_tide_2 : decode cX12_tide 2 = .ok (.putfield 91, 3) := by decide +kernel
theorem dX12_tide_5 : decode cX12_tide 5 = .ok (.iload_n 1, 1) := by decide +kernel
theorem dX12_tide_6 : decode cX12_tide 6 = .ok (.i2l, 1) := by decide +kernel
theorem dX12_tide_7 : decode cX12_tide 7 = .ok (.lconst 0, 1) := by decide +kernel
theorem dX12_tide_8 : decode cX12_tide 8 = .ok (.ldc2_w 137, 3) := by decide +kernel
theorem dX12_tide_11 : decode cX12_tide 11 = .ok (.invokestatic 99, 3) := by decide +kernel
theorem dX12_tide_14 : decode cX12_tide 14 = .ok (.ifCond .eq 15, 3) := by decide +kernel
theorem dX12_tide_17 : decode cX12_tide 17 = .ok (.iload_n 2, 1) := by decide +kernel
theorem dX12_tide_18 : decode cX12_tide 18 = .ok (.i2l, 1) := by decide +kernel
theorem dX12_tide_19 : decode cX12_tide 19 = .ok (.lconst 0, 1) := by decide +kernel
theorem dX12_tide_20 : decode cX12_tide 20 = .ok (.ldc2_w 139, 3) := by decide +kernel
theorem dX12_tide_23 : decode cX12_tide 23 = .ok (.invokestatic 99, 3) := by decide +kernel
theorem dX12_tide_26 : decode cX12_tide 26 = .ok (.ifCond .ne 9, 3) := by decide +kernel
theorem dX12_tide_29 : decode cX12_tide 29 = .ok (.aload_n 0, 1) := by decide +kernel
theorem dX12_tide_30 : decode cX12_tide 30 = .ok (.iconst (-1), 1) := by decide +kernel
theorem dX12_tide_31 : decode cX12_tide 31 = .ok (.invokevirtual 105, 3) := by decide +kernel
theorem dX12_tide_34 : decode cX12_tide 34 = .ok (.ireturn, 1) := by decide +kernel
theorem dX12_tide_35 : decode cX12_tide 35 = .ok (.aload_n 0, 1) := by decide +kernel
theorem dX12_tide_36 : decode cX12_tide 36 = .ok (.getfield 7, 3) := by decide +kernel
theorem dX12_tide_39 : decode cX12_tide 39 = .ok (.bipush 122, 2) := by decide +kernel
theorem dX12_tide_41 : decode cX12_tide 41 = .ok (.iload_n 1, 1) := by decide +kernel
theorem dX12_tide_42 : decode cX12_tide 42 = .ok (.iadd, 1) := by decide +kernel
theorem dX12_tide_43 : decode cX12_tide 43 = .ok (.iload_n 2, 1) := by decide +kernel
theorem dX12_tide_44 : decode cX12_tide 44 = .ok (.iastore, 1) := by decide +kernel
theorem dX12_tide_45 : decode cX12_tide 45 = .ok (.aload_n 0, 1) := by decide +kernel
theorem dX12_tide_46 : decode cX12_tide 46 = .ok (.iconst 0, 1) := by decide +kernel
theorem dX12_tide_47 : decode cX12_tide 47 = .ok (.invokevirtual 105, 3) := by decide +kernel
theorem dX12_tide_50 : decode cX12_tide 50 = .ok (.ireturn, 1) := by decide +kernel
set_option maxRecDepth 20000 in
theorem ggX12_sea_X12_isDay : GoodIn wsX12_sea wsX12_isDay := goodIn_r _ [7, 8, 9, 10, 6, 11] (by decide +kernel) (by decide +kernel)
set_option maxRecDepth 20000 in
theorem gX12_sea_X12_isDay : GoodIn wsX12_sea (va_wsS RX12 141 yX12_isDay wsX12_isDay) := goodIn_app (goodIn_of _ (by decide +kernel)) ggX12_sea_X12_isDay
set_option maxRecDepth 20000 in
theorem ggX12_sea_X12_in : GoodIn wsX12_sea wsX12_in := goodIn_r _ [11] (by decide +kernel) (by decide +kernel)
set_option maxRecDepth 20000 in
theorem gX12_sea_X12_in : GoodIn wsX12_sea (va_wsS RX12 99 yX12_in wsX12_in) := goodIn_app (goodIn_of _ (by decide +kernel)) ggX12_sea_X12_in
set_option maxRecDepth 20000 in
theorem ggX12_sea_X12_told : GoodIn wsX12_sea wsX12_told := goodIn_r _ [15, 16, 17, 18, 19, 20, 21, 22, 23, 24, 25, 26, 27, 28, 29, 30, 31, 32, 33, 34, 35, 36, 37, 38, 39, 40, 41, 42, 43, 44, 45, 46, 47, 48, 49, 50, 51, 52, 53, 54, 55, 56, 57, 58, 59, 60, 61, 62, 63, 64, 65, 66, 67, 68, 69] (by decide +kernel) (by decide +kernel)
set_option maxRecDepth 20000 in
theorem gX12_sea_X12_told : GoodIn wsX12_sea (wsV RX12 105 RX12 yX12_told wsX12_told) := goodIn_app (goodIn_of _ (by decide +kernel)) ggX12_sea_X12_told
theorem dX12_sea_0 : decode cX12_sea 0 = .ok (.aload_n 0, 1) := by decide +kernel
theorem dX12_sea_1 : decode cX12_sea 1 = .ok (.iconst 0, 1) := by decide +kernel
theorem dX12_sea_2 : decode cX12_sea 2 = .ok (.putfield 91, 3) := by decide +kernel
theorem dX12_sea_5 : decode cX12_sea 5 = .ok (.iload_n 1, 1) := by decide +kernel
theorem dX12_sea_6 : decode cX12_sea 6 = .ok (.invokestatic 141, 3) := by decide +kernel
theorem dX12_sea_9 : decode cX12_sea 9 = .ok (.ifCond .eq 15, 3) := by decide +kernel
theorem dX12_sea_12 : decode cX12_sea 12 = .ok (.iload_n 2, 1) := by decide +kernel
theorem dX12_sea_13 : decode cX12_sea 13 = .ok (.i2l, 1) := by decide +kernel
theorem dX12_sea_14 : decode cX12_sea 14 = .ok (.lconst 0, 1) := by decide +kernel
theorem dX12_sea_15 : decode cX12_sea 15 = .ok (.ldc2_w 139, 3) := by decide +kernel
theorem dX12_sea_18 : decode cX12_sea 18 = .ok (.invokestatic 99, 3) := by decide +kernel
theorem dX12_sea_21 : decode cX12_sea 21 = .ok (.ifCond .ne 9, 3) := by decide +kernel
theorem dX12_sea_24 : decode cX12_sea 24 = .ok (.aload_n 0, 1) := by decide +kernel
theorem dX12_sea_25 : decode cX12_sea 25 = .ok (.iconst (-1), 1) := by decide +kernel
theorem dX12_sea_26 : decode cX12_sea 26 = .ok (.invokevirtual 105, 3) := by decide +kernel
theorem dX12_sea_29 : decode cX12_sea 29 = .ok (.ireturn, 1) := by decide +kernel
theorem dX12_sea_30 : decode cX12_sea 30 = .ok (.aload_n 0, 1) := by decide +kernel
theorem dX12_sea_31 : decode cX12_sea 31 = .ok (.getfield 7, 3) := by decide +kernel
theorem dX12_sea_34 : decode cX12_sea 34 = .ok (.sipush 147, 3) := by decide +kernel
theorem dX12_sea_37 : decode cX12_sea 37 = .ok (.iload_n 1, 1) := by decide +kernel
theorem dX12_sea_38 : decode cX12_sea 38 = .ok (.iadd, 1) := by decide +kernel
theorem dX12_sea_39 : decode cX12_sea 39 = .ok (.iload_n 2, 1) := by decide +kernel
theorem dX12_sea_40 : decode cX12_sea 40 = .ok (.iastore, 1) := by decide +kernel
theorem dX12_sea_41 : decode cX12_sea 41 = .ok (.aload_n 0, 1) := by decide +kernel
theorem dX12_sea_42 : decode cX12_sea 42 = .ok (.iconst 0, 1) := by decide +kernel
theorem dX12_sea_43 : decode cX12_sea 43 = .ok (.invokevirtual 105, 3) := by decide +kernel
theorem dX12_sea_46 : decode cX12_sea 46 = .ok (.ireturn, 1) := by decide +kernel
set_option maxRecDepth 20000 in
theorem ggX12_terms_X12_in : GoodIn wsX12_terms wsX12_in := goodIn_r _ [8] (by decide +kernel) (by decide +kernel)
set_option maxRecDepth 20000 in
theorem gX12_terms_X12_in : GoodIn wsX12_terms (va_wsS RX12 99 yX12_in wsX12_in) := goodIn_app (goodIn_of _ (by decide +kernel)) ggX12_terms_X12_in
set_option maxRecDepth 20000 in
theorem ggX12_terms_X12_told : GoodIn wsX12_terms wsX12_told := goodIn_r _ [12, 13, 14, 15, 16, 17, 18, 19, 20, 21, 22, 23, 24, 25, 26, 27, 28, 29, 30, 31, 32, 33, 34, 35, 36, 37, 38, 39, 40, 41, 42, 43, 44, 45, 46, 47, 48, 49, 50, 51, 52, 53, 54, 55, 56, 57, 58, 59, 60, 61, 62, 63, 64, 65, 66] (by decide +kernel) (by decide +kernel)
set_option maxRecDepth 20000 in
theorem gX12_terms_X12_told : GoodIn wsX12_terms (wsV RX12 105 RX12 yX12_told wsX12_told) := goodIn_app (goodIn_of _ (by decide +kernel)) ggX12_terms_X12_told
theorem dX12_terms_0 : decode cX12_terms 0 = .ok (.aload_n 0, 1) := by decide +kernel
theorem dX12_terms_1 : decode cX12_terms 1 = .ok (.iconst 0, 1) := by decide +kernel
theorem dX12_terms_2 : decode cX12_terms 2 = .ok (.putfield 91, 3) := by decide +kernel
theorem dX12_terms_5 : decode cX12_terms 5 = .ok (.iload_n 1, 1) := by decide +kernel
theorem dX12_terms_6 : decode cX12_terms 6 = .ok (.i2l, 1) := by decide +kernel
theorem dX12_terms_7 : decode cX12_terms 7 = .ok (.lconst 0, 1) := by decide +kernel
theorem dX12_terms_8 : decode cX12_terms 8 = .ok (.ldc2_w 150, 3) := by decide +kernel
theorem dX12_terms_11 : decode cX12_terms 11 = .ok (.invokestatic 99, 3) := by decide +kernel
theorem dX12_terms_14 : decode cX12_terms 14 = .ok (.ifCond .eq 15, 3) := by decide +kernel
theorem dX12_terms_17 : decode cX12_terms 17 = .ok (.iload_n 2, 1) := by decide +kernel
theorem dX12_terms_18 : decode cX12_terms 18 = .ok (.i2l, 1) := by decide +kernel
theorem dX12_terms_19 : decode cX12_terms 19 = .ok (.lconst 1, 1) := by decide +kernel
theorem dX12_terms_20 : decode cX12_terms 20 = .ok (.ldc2_w 122, 3) := by decide +kernel
theorem dX12_terms_23 : decode cX12_terms 23 = .ok (.invokestatic 99, 3) := by decide +kernel
theorem dX12_terms_26 : decode cX12_terms 26 = .ok (.ifCond .ne 9, 3) := by decide +kernel
theorem dX12_terms_29 : decode cX12_terms 29 = .ok (.aload_n 0, 1) := by decide +kernel
theorem dX12_terms_30 : decode cX12_terms 30 = .ok (.iconst (-1), 1) := by decide +kernel
theorem dX12_terms_31 : decode cX12_terms 31 = .ok (.invokevirtual 105, 3) := by decide +kernel
theorem dX12_terms_34 : decode cX12_terms 34 = .ok (.ireturn, 1) := by decide +kernel
theorem dX12_terms_35 : decode cX12_terms 35 = .ok (.aload_n 0, 1) := by decide +kernel
theorem dX12_terms_36 : decode cX12_terms 36 = .ok (.getfield 7, 3) := by decide +kernel
theorem dX12_terms_39 : decode cX12_terms 39 = .ok (.bipush 12, 2) := by decide +kernel
theorem dX12_terms_41 : decode cX12_terms 41 = .ok (.iload_n 1, 1) := by decide +kernel
theorem dX12_terms_42 : decode cX12_terms 42 = .ok (.iastore, 1) := by decide +kernel
theorem dX12_terms_43 : decode cX12_terms 43 = .ok (.aload_n 0, 1) := by decide +kernel
theorem dX12_terms_44 : decode cX12_terms 44 = .ok (.getfield 7, 3) := by decide +kernel
theorem dX12_terms_47 : decode cX12_terms 47 = .ok (.bipush 13, 2) := by decide +kernel
theorem dX12_terms_49 : decode cX12_terms 49 = .ok (.iload_n 2, 1) := by decide +kernel
theorem dX12_terms_50 : decode cX12_terms 50 = .ok (.iastore, 1) := by decide +kernel
theorem dX12_terms_51 : decode cX12_terms 51 = .ok (.aload_n 0, 1) := by decide +kernel
theorem dX12_terms_52 : decode cX12_terms 52 = .ok (.iconst 0, 1) := by decide +kernel
theorem dX12_terms_53 : decode cX12_terms 53 = .ok (.invokevirtual 105, 3) := by decide +kernel
theorem dX12_terms_56 : decode cX12_terms 56 = .ok (.ireturn, 1) := by decide +kernel
