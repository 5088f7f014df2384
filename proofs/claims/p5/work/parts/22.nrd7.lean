set_option maxRecDepth 20000 in
theorem ggX2_readInBrackets_X2_advance : GoodIn wsX2_readInBrackets wsX2_advance := goodIn_r _ [6, 7, 8, 9, 10, 11, 12, 13, 14, 15, 16, 17, 18, 19, 5, 20, 21, 22, 23, 144, 145, 146, 147, 148, 149, 150, 151, 152, 153, 154, 155, 156, 157, 158, 159] (by decide +kernel) (by decide +kernel)
set_option maxRecDepth 20000 in
theorem gX2_readInBrackets_X2_advance : GoodIn wsX2_readInBrackets (wsV RX2 53 RX2 yX2_advance wsX2_advance) := goodIn_app (goodIn_of _ (by decide +kernel)) ggX2_readInBrackets_X2_advance
set_option maxRecDepth 20000 in
theorem ggX2_readInBrackets_X2_readTest : GoodIn wsX2_readInBrackets wsX2_readTest := goodIn_r _ [140, 141, 142, 143, 5, 42, 43, 44, 45, 46, 47, 48, 49, 11, 7, 8, 10, 50, 51, 52, 53, 54, 55, 56, 57, 58, 59, 60, 61, 62, 63, 64, 65, 66, 67, 68, 69, 70, 71, 72, 73, 74, 75, 76, 77, 78, 79, 80, 81, 82, 83, 84, 85, 86, 87, 88, 89, 90, 91, 92, 93, 94, 95, 96, 97, 98, 2, 3, 4, 6, 9, 12, 13, 14, 15, 16, 17, 18, 19, 20, 21, 22, 23, 99, 100, 101, 102, 103, 104, 105, 106, 107, 108, 109, 110, 111, 112, 38, 39, 40, 41, 113, 27, 28, 29, 34, 35, 36, 37, 0, 1, 24, 25, 26, 30, 31, 32, 33, 114, 115, 116, 117, 118, 119, 120, 121, 122, 123, 124, 125, 126, 127, 128, 129, 130, 131, 132, 133, 134, 135, 136, 137, 138, 139, 144, 145, 146, 147, 148, 149, 150, 151, 152, 153, 154, 155, 156, 157, 158, 159] (by decide +kernel) (by decide +kernel)
set_option maxRecDepth 20000 in
theorem gX2_readInBrackets_X2_readTest : GoodIn wsX2_readInBrackets (wsV RX2 117 RX2 yX2_readTest wsX2_readTest) := goodIn_app (goodIn_of _ (by decide +kernel)) ggX2_readInBrackets_X2_readTest
set_option maxRecDepth 20000 in
theorem ggX2_readInBrackets_X2_readSum : GoodIn wsX2_readInBrackets wsX2_readSum := goodIn_r _ [132, 133, 134, 135, 5, 34, 35, 36, 37, 11, 10, 8, 2, 3, 4, 6, 7, 9, 12, 13, 14, 15, 16, 17, 18, 19, 20, 21, 22, 23, 104, 105, 106, 107, 103, 108, 38, 39, 40, 41, 42, 43, 44, 45, 46, 47, 48, 49, 50, 51, 52, 53, 54, 55, 56, 57, 58, 59, 60, 61, 62, 63, 64, 65, 66, 67, 68, 69, 70, 71, 72, 73, 74, 75, 76, 77, 78, 79, 80, 81, 82, 83, 84, 85, 86, 87, 88, 89, 90, 91, 92, 93, 94, 95, 96, 97, 98, 99, 100, 101, 102, 109, 110, 111, 112, 113, 27, 28, 29, 0, 1, 24, 25, 26, 30, 31, 32, 33, 114, 115, 116, 117, 118, 119, 120, 121, 122, 123, 124, 125, 126, 127, 128, 129, 130, 131, 136, 137, 138, 139, 140, 141, 142, 143, 144, 145, 146, 147, 148, 149, 150, 151, 152, 153, 154, 155, 156, 157, 158, 159] (by decide +kernel) (by decide +kernel)
set_option maxRecDepth 20000 in
theorem gX2_readInBrackets_X2_readSum : GoodIn wsX2_readInBrackets (wsV RX2 112 RX2 yX2_readSum wsX2_readSum) := goodIn_app (goodIn_of _ (by decide +kernel)) ggX2_readInBrackets_X2_readSum
set_option maxRecDepth 20000 in
theorem ggX2_readInBrackets_X2_passSign : GoodIn wsX2_readInBrackets wsX2_passSign := goodIn_r _ [33, 34, 35, 36, 5, 37, 11, 10, 8, 2, 3, 4, 6, 7, 9, 12, 13, 14, 15, 16, 17, 18, 19, 20, 21, 22, 23, 144, 145, 146, 147, 148, 149, 150, 151, 152, 153, 154, 155, 156, 157, 158, 159] (by decide +kernel) (by decide +kernel)
set_option maxRecDepth 20000 in
theorem gX2_readInBrackets_X2_passSign : GoodIn wsX2_readInBrackets (wsV RX2 80 RX2 yX2_passSign wsX2_passSign) := goodIn_app (goodIn_of _ (by decide +kernel)) ggX2_readInBrackets_X2_passSign
theorem dX2_readInBrackets_11 : decode cX2_readInBrackets 11 = .ok (.aload_n 0, 1) := by decide +kernel
theorem dX2_readInBrackets_12 : decode cX2_readInBrackets 12 = .ok (.dup, 1) := by decide +kernel
theorem dX2_readInBrackets_13 : decode cX2_readInBrackets 13 = .ok (.getfield 41, 3) := by decide +kernel
theorem dX2_readInBrackets_16 : decode cX2_readInBrackets 16 = .ok (.iconst 1, 1) := by decide +kernel
theorem dX2_readInBrackets_17 : decode cX2_readInBrackets 17 = .ok (.iadd, 1) := by decide +kernel
theorem dX2_readInBrackets_18 : decode cX2_readInBrackets 18 = .ok (.putfield 41, 3) := by decide +kernel
theorem dX2_readInBrackets_21 : decode cX2_readInBrackets 21 = .ok (.aload_n 0, 1) := by decide +kernel
theorem dX2_readInBrackets_22 : decode cX2_readInBrackets 22 = .ok (.invokevirtual 53, 3) := by decide +kernel
theorem dX2_readInBrackets_25 : decode cX2_readInBrackets 25 = .ok (.iload_n 1, 1) := by decide +kernel
theorem dX2_readInBrackets_26 : decode cX2_readInBrackets 26 = .ok (.ifCond .eq 10, 3) := by decide +kernel
theorem dX2_readInBrackets_29 : decode cX2_readInBrackets 29 = .ok (.aload_n 0, 1) := by decide +kernel
theorem dX2_readInBrackets_30 : decode cX2_readInBrackets 30 = .ok (.invokevirtual 117, 3) := by decide +kernel
theorem dX2_readInBrackets_33 : decode cX2_readInBrackets 33 = .ok (.goto 7, 3) := by decide +kernel
theorem dX2_readInBrackets_36 : decode cX2_readInBrackets 36 = .ok (.aload_n 0, 1) := by decide +kernel
theorem dX2_readInBrackets_37 : decode cX2_readInBrackets 37 = .ok (.invokevirtual 112, 3) := by decide +kernel
theorem dX2_readInBrackets_40 : decode cX2_readInBrackets 40 = .ok (.istore_n 2, 1) := by decide +kernel
theorem dX2_readInBrackets_41 : decode cX2_readInBrackets 41 = .ok (.aload_n 0, 1) := by decide +kernel
theorem dX2_readInBrackets_42 : decode cX2_readInBrackets 42 = .ok (.dup, 1) := by decide +kernel
theorem dX2_readInBrackets_43 : decode cX2_readInBrackets 43 = .ok (.getfield 41, 3) := by decide +kernel
theorem dX2_readInBrackets_46 : decode cX2_readInBrackets 46 = .ok (.iconst 1, 1) := by decide +kernel
theorem dX2_readInBrackets_47 : decode cX2_readInBrackets 47 = .ok (.isub, 1) := by decide +kernel
theorem dX2_readInBrackets_48 : decode cX2_readInBrackets 48 = .ok (.putfield 41, 3) := by decide +kernel
theorem dX2_readInBrackets_51 : decode cX2_readInBrackets 51 = .ok (.iload_n 2, 1) := by decide +kernel
theorem dX2_readInBrackets_52 : decode cX2_readInBrackets 52 = .ok (.ifCond .eq 25, 3) := by decide +kernel
theorem dX2_readInBrackets_55 : decode cX2_readInBrackets 55 = .ok (.aload_n 0, 1) := by decide +kernel
theorem dX2_readInBrackets_56 : decode cX2_readInBrackets 56 = .ok (.iload_n 1, 1) := by decide +kernel
theorem dX2_readInBrackets_57 : decode cX2_readInBrackets 57 = .ok (.ifCond .eq 8, 3) := by decide +kernel
theorem dX2_readInBrackets_60 : decode cX2_readInBrackets 60 = .ok (.bipush 41, 2) := by decide +kernel
theorem dX2_readInBrackets_62 : decode cX2_readInBrackets 62 = .ok (.goto 5, 3) := by decide +kernel
theorem dX2_readInBrackets_65 : decode cX2_readInBrackets 65 = .ok (.bipush 93, 2) := by decide +kernel
theorem dX2_readInBrackets_67 : decode cX2_readInBrackets 67 = .ok (.invokevirtual 80, 3) := by decide +kernel
theorem dX2_readInBrackets_70 : decode cX2_readInBrackets 70 = .ok (.ifCond .eq 7, 3) := by decide +kernel
theorem dX2_readInBrackets_73 : decode cX2_readInBrackets 73 = .ok (.iconst 1, 1) := by decide +kernel
theorem dX2_readInBrackets_74 : decode cX2_readInBrackets 74 = .ok (.goto 4, 3) := by decide +kernel
theorem dX2_readInBrackets_77 : decode cX2_readInBrackets 77 = .ok (.iconst 0, 1) := by decide +kernel
theorem dX2_readInBrackets_78 : decode cX2_readInBrackets 78 = .ok (.ireturn, 1) := by decide +kernel
