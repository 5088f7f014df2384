abbrev cX12_nextPlaces : ByteArray := prog_14_method_112_code
def yX12_nextPlaces : MethodName := ⟨RX12, "nextPlaces", "(I)Z"⟩
abbrev cX12_swapPlaces : ByteArray := prog_14_method_113_code
def yX12_swapPlaces : MethodName := ⟨RX12, "swapPlaces", "(II)V"⟩
def wsX12_swapPlaces : List Cond := .code yX12_swapPlaces cX12_swapPlaces 4 none :: ([.fieldLink RX12 76 "ColdShipsModel" "places" "[I"] ++ wsX120)
def wsX12_nextPlaces : List Cond := .code yX12_nextPlaces cX12_nextPlaces 6 (some .boolean) :: ([.fieldLink RX12 76 "ColdShipsModel" "places" "[I", .methodLink RX12 522 yX12_swapPlaces, .instanceMethod yX12_swapPlaces, .selects RX12 yX12_swapPlaces yX12_swapPlaces, .initialized RX12, .code yX12_swapPlaces cX12_swapPlaces 4 none] ++ wsX120)
set_option maxRecDepth 20000 in
theorem ggX12_nextPlaces_X12_swapPlaces : GoodIn wsX12_nextPlaces wsX12_swapPlaces := goodIn_r _ [6, 1, 7, 8, 9, 10, 11, 12, 13, 14, 15, 16, 17, 18, 19, 20, 21, 22, 23, 24, 25, 26, 27, 28, 29, 30, 31, 32, 33, 34, 35, 36, 37, 38, 39, 40, 41, 42, 43, 44, 45, 46, 47, 48, 49, 50, 51, 52, 53, 54, 55, 56, 57, 58, 59] (by decide +kernel) (by decide +kernel)
set_option maxRecDepth 20000 in
theorem gX12_nextPlaces_X12_swapPlaces : GoodIn wsX12_nextPlaces (wsV RX12 522 RX12 yX12_swapPlaces wsX12_swapPlaces) := goodIn_app (goodIn_of _ (by decide +kernel)) ggX12_nextPlaces_X12_swapPlaces
theorem dX12_nextPlaces_0 : decode cX12_nextPlaces 0 = .ok (.iload_n 1, 1) := by decide +kernel
theorem dX12_nextPlaces_1 : decode cX12_nextPlaces 1 = .ok (.iconst 2, 1) := by decide +kernel
theorem dX12_nextPlaces_2 : decode cX12_nextPlaces 2 = .ok (.isub, 1) := by decide +kernel
theorem dX12_nextPlaces_3 : decode cX12_nextPlaces 3 = .ok (.istore_n 2, 1) := by decide +kernel
theorem dX12_nextPlaces_4 : decode cX12_nextPlaces 4 = .ok (.iload_n 2, 1) := by decide +kernel
theorem dX12_nextPlaces_5 : decode cX12_nextPlaces 5 = .ok (.ifCond .lt 26, 3) := by decide +kernel
theorem dX12_nextPlaces_8 : decode cX12_nextPlaces 8 = .ok (.aload_n 0, 1) := by decide +kernel
theorem dX12_nextPlaces_9 : decode cX12_nextPlaces 9 = .ok (.getfield 76, 3) := by decide +kernel
theorem dX12_nextPlaces_12 : decode cX12_nextPlaces 12 = .ok (.iload_n 2, 1) := by decide +kernel
theorem dX12_nextPlaces_13 : decode cX12_nextPlaces 13 = .ok (.iaload, 1) := by decide +kernel
theorem dX12_nextPlaces_14 : decode cX12_nextPlaces 14 = .ok (.aload_n 0, 1) := by decide +kernel
theorem dX12_nextPlaces_15 : decode cX12_nextPlaces 15 = .ok (.getfield 76, 3) := by decide +kernel
theorem dX12_nextPlaces_18 : decode cX12_nextPlaces 18 = .ok (.iload_n 2, 1) := by decide +kernel
theorem dX12_nextPlaces_19 : decode cX12_nextPlaces 19 = .ok (.iconst 1, 1) := by decide +kernel
theorem dX12_nextPlaces_20 : decode cX12_nextPlaces 20 = .ok (.iadd, 1) := by decide +kernel
theorem dX12_nextPlaces_21 : decode cX12_nextPlaces 21 = .ok (.iaload, 1) := by decide +kernel
theorem dX12_nextPlaces_22 : decode cX12_nextPlaces 22 = .ok (.if_icmp .le 9, 3) := by decide +kernel
theorem dX12_nextPlaces_25 : decode cX12_nextPlaces 25 = .ok (.iinc 2 (-1), 3) := by decide +kernel
theorem dX12_nextPlaces_28 : decode cX12_nextPlaces 28 = .ok (.goto (-24), 3) := by decide +kernel
theorem dX12_nextPlaces_31 : decode cX12_nextPlaces 31 = .ok (.iload_n 2, 1) := by decide +kernel
theorem dX12_nextPlaces_32 : decode cX12_nextPlaces 32 = .ok (.ifCond .ge 5, 3) := by decide +kernel
theorem dX12_nextPlaces_35 : decode cX12_nextPlaces 35 = .ok (.iconst 0, 1) := by decide +kernel
theorem dX12_nextPlaces_36 : decode cX12_nextPlaces 36 = .ok (.ireturn, 1) := by decide +kernel
theorem dX12_nextPlaces_37 : decode cX12_nextPlaces 37 = .ok (.iload_n 1, 1) := by decide +kernel
theorem dX12_nextPlaces_38 : decode cX12_nextPlaces 38 = .ok (.iconst 1, 1) := by decide +kernel
theorem dX12_nextPlaces_39 : decode cX12_nextPlaces 39 = .ok (.isub, 1) := by decide +kernel
theorem dX12_nextPlaces_40 : decode cX12_nextPlaces 40 = .ok (.istore_n 3, 1) := by decide +kernel
theorem dX12_nextPlaces_41 : decode cX12_nextPlaces 41 = .ok (.aload_n 0, 1) := by decide +kernel
theorem dX12_nextPlaces_42 : decode cX12_nextPlaces 42 = .ok (.getfield 76, 3) := by decide +kernel
theorem dX12_nextPlaces_45 : decode cX12_nextPlaces 45 = .ok (.iload_n 3, 1) := by decide +kernel
theorem dX12_nextPlaces_46 : decode cX12_nextPlaces 46 = .ok (.iaload, 1) := by decide +kernel
theorem dX12_nextPlaces_47 : decode cX12_nextPlaces 47 = .ok (.aload_n 0, 1) := by decide +kernel
theorem dX12_nextPlaces_48 : decode cX12_nextPlaces 48 = .ok (.getfield 76, 3) := by decide +kernel
theorem dX12_nextPlaces_51 : decode cX12_nextPlaces 51 = .ok (.iload_n 2, 1) := by decide +kernel
theorem dX12_nextPlaces_52 : decode cX12_nextPlaces 52 = .ok (.iaload, 1) := by decide +kernel
theorem dX12_nextPlaces_53 : decode cX12_nextPlaces 53 = .ok (.if_icmp .ge 9, 3) := by decide +kernel
theorem dX12_nextPlaces_56 : decode cX12_nextPlaces 56 = .ok (.iinc 3 (-1), 3) := by decide +kernel
theorem dX12_nextPlaces_59 : decode cX12_nextPlaces 59 = .ok (.goto (-18), 3) := by decide +kernel
theorem dX12_nextPlaces_62 : decode cX12_nextPlaces 62 = .ok (.aload_n 0, 1) := by decide +kernel
theorem dX12_nextPlaces_63 : decode cX12_nextPlaces 63 = .ok (.iload_n 2, 1) := by decide +kernel
theorem dX12_nextPlaces_64 : decode cX12_nextPlaces 64 = .ok (.iload_n 3, 1) := by decide +kernel
theorem dX12_nextPlaces_65 : decode cX12_nextPlaces 65 = .ok (.invokevirtual 522, 3) := by decide +kernel
theorem dX12_nextPlaces_68 : decode cX12_nextPlaces 68 = .ok (.iload_n 2, 1) := by decide +kernel
theorem dX12_nextPlaces_69 : decode cX12_nextPlaces 69 = .ok (.iconst 1, 1) := by decide +kernel
theorem dX12_nextPlaces_70 : decode cX12_nextPlaces 70 = .ok (.iadd, 1) := by decide +kernel
theorem dX12_nextPlaces_71 : decode cX12_nextPlaces 71 = .ok (.istore 4, 2) := by decide +kernel
theorem dX12_nextPlaces_73 : decode cX12_nextPlaces 73 = .ok (.iload_n 1, 1) := by decide +kernel
theorem dX12_nextPlaces_74 : decode cX12_nextPlaces 74 = .ok (.iconst 1, 1) := by decide +kernel
theorem dX12_nextPlaces_75 : decode cX12_nextPlaces 75 = .ok (.isub, 1) := by decide +kernel
theorem dX12_nextPlaces_76 : decode cX12_nextPlaces 76 = .ok (.istore 5, 2) := by decide +kernel
theorem dX12_nextPlaces_78 : decode cX12_nextPlaces 78 = .ok (.iload 4, 2) := by decide +kernel
theorem dX12_nextPlaces_80 : decode cX12_nextPlaces 80 = .ok (.iload 5, 2) := by decide +kernel
theorem dX12_nextPlaces_82 : decode cX12_nextPlaces 82 = .ok (.if_icmp .ge 20, 3) := by decide +kernel
theorem dX12_nextPlaces_85 : decode cX12_nextPlaces 85 = .ok (.aload_n 0, 1) := by decide +kernel
theorem dX12_nextPlaces_86 : decode cX12_nextPlaces 86 = .ok (.iload 4, 2) := by decide +kernel
theorem dX12_nextPlaces_88 : decode cX12_nextPlaces 88 = .ok (.iload 5, 2) := by decide +kernel
theorem dX12_nextPlaces_90 : decode cX12_nextPlaces 90 = .ok (.invokevirtual 522, 3) := by decide +kernel
theorem dX12_nextPlaces_93 : decode cX12_nextPlaces 93 = .ok (.iinc 4 1, 3) := by decide +kernel
theorem dX12_nextPlaces_96 : decode cX12_nextPlaces 96 = .ok (.iinc 5 (-1), 3) := by decide +kernel
theorem dX12_nextPlaces_99 : decode cX12_nextPlaces 99 = .ok (.goto (-21), 3) := by decide +kernel
theorem dX12_nextPlaces_102 : decode cX12_nextPlaces 102 = .ok (.iconst 1, 1) := by decide +kernel
theorem dX12_nextPlaces_103 : decode cX12_nextPlaces 103 = .ok (.ireturn, 1) := by decide +kernel
theorem dX12_swapPlaces_0 : decode cX12_swapPlaces 0 = .ok (.aload_n 0, 1) := by decide +kernel
theorem dX12_swapPlaces_1 : decode cX12_swapPlaces 1 = .ok (.getfield 76, 3) := by decide +kernel
theorem dX12_swapPlaces_4 : decode cX12_swapPlaces 4 = .ok (.iload_n 1, 1) := by decide +kernel
theorem dX12_swapPlaces_5 : decode cX12_swapPlaces 5 = .ok (.iaload, 1) := by decide +kernel
theorem dX12_swapPlaces_6 : decode cX12_swapPlaces 6 = .ok (.istore_n 3, 1) := by decide +kernel
theorem dX12_swapPlaces_7 : decode cX12_swapPlaces 7 = .ok (.aload_n 0, 1) := by decide +kernel
theorem dX12_swapPlaces_8 : decode cX12_swapPlaces 8 = .ok (.getfield 76, 3) := by decide +kernel
theorem dX12_swapPlaces_11 : decode cX12_swapPlaces 11 = .ok (.iload_n 1, 1) := by decide +kernel
theorem dX12_swapPlaces_12 : decode cX12_swapPlaces 12 = .ok (.aload_n 0, 1) := by decide +kernel
theorem dX12_swapPlaces_13 : decode cX12_swapPlaces 13 = .ok (.getfield 76, 3) := by decide +kernel
theorem dX12_swapPlaces_16 : decode cX12_swapPlaces 16 = .ok (.iload_n 2, 1) := by decide +kernel
theorem dX12_swapPlaces_17 : decode cX12_swapPlaces 17 = .ok (.iaload, 1) := by decide +kernel
theorem dX12_swapPlaces_18 : decode cX12_swapPlaces 18 = .ok (.iastore, 1) := by decide +kernel
theorem dX12_swapPlaces_19 : decode cX12_swapPlaces 19 = .ok (.aload_n 0, 1) := by decide +kernel
theorem dX12_swapPlaces_20 : decode cX12_swapPlaces 20 = .ok (.getfield 76, 3) := by decide +kernel
theorem dX12_swapPlaces_23 : decode cX12_swapPlaces 23 = .ok (.iload_n 2, 1) := by decide +kernel
theorem dX12_swapPlaces_24 : decode cX12_swapPlaces 24 = .ok (.iload_n 3, 1) := by decide +kernel
theorem dX12_swapPlaces_25 : decode cX12_swapPlaces 25 = .ok (.iastore, 1) := by decide +kernel
theorem dX12_swapPlaces_26 : decode cX12_swapPlaces 26 = .ok (.return_, 1) := by decide +kernel
