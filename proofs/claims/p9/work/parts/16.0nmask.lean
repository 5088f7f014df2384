section
theorem gX12_of_X12_isShip : GoodIn WALL (wsV RX12 147 RX12 yX12_isShip wqX12_isShip) := wg_V wa_355 wa_356 wa_357 wa_5 wa_358
theorem gX12_of_X12_shipAt : GoodIn WALL (va_wsS RX12 132 yX12_shipAt wqX12_shipAt) := wg_S wa_278 wa_279 wa_5 wa_280
theorem gX12_of_X12_pressOf : GoodIn WALL (wsV RX12 234 RX12 yX12_pressOf wqX12_pressOf) := wg_V wa_644 wa_645 wa_646 wa_5 wa_647
theorem gX12_of_X12_draftOf : GoodIn WALL (wsV RX12 225 RX12 yX12_draftOf wqX12_draftOf) := wg_V wa_590 wa_591 wa_592 wa_5 wa_593
theorem dX12_of_0 : decode cX12_of 0 = .ok (.aload_n 0, 1) := od_42  (by decide +kernel)
theorem dX12_of_1 : decode cX12_of 1 = .ok (.iconst 0, 1) := od_3  (by decide +kernel)
theorem dX12_of_2 : decode cX12_of 2 = .ok (.putfield 91, 3) := od_181 (a := 0) (b := 91) (by decide +kernel) (by decide)
theorem dX12_of_5 : decode cX12_of 5 = .ok (.aload_n 0, 1) := od_42  (by decide +kernel)
theorem dX12_of_6 : decode cX12_of 6 = .ok (.iload_n 1, 1) := od_27  (by decide +kernel)
theorem dX12_of_7 : decode cX12_of 7 = .ok (.invokevirtual 147, 3) := od_182 (a := 0) (b := 147) (by decide +kernel) (by decide)
theorem dX12_of_10 : decode cX12_of 10 = .ok (.ifCond .ne 5, 3) := od_154 (a := 0) (b := 5) (by decide +kernel) (by decide +kernel)
theorem dX12_of_13 : decode cX12_of 13 = .ok (.iconst (-1), 1) := od_2  (by decide +kernel)
theorem dX12_of_14 : decode cX12_of 14 = .ok (.ireturn, 1) := od_172  (by decide +kernel)
theorem dX12_of_15 : decode cX12_of 15 = .ok (.iload_n 1, 1) := od_27  (by decide +kernel)
theorem dX12_of_16 : decode cX12_of 16 = .ok (.invokestatic 132, 3) := od_184 (a := 0) (b := 132) (by decide +kernel) (by decide)
theorem dX12_of_19 : decode cX12_of 19 = .ok (.istore_n 3, 1) := od_62  (by decide +kernel)
theorem dX12_of_20 : decode cX12_of 20 = .ok (.iload_n 2, 1) := od_28  (by decide +kernel)
theorem dX12_of_21 : decode cX12_of 21 = .ok (.tableswitch 143 0 9 #[55, 64, 73, 82, 91, 101, 107, 117, 127, 133], 55) := by decide +kernel
theorem dX12_of_76 : decode cX12_of 76 = .ok (.aload_n 0, 1) := od_42  (by decide +kernel)
theorem dX12_of_77 : decode cX12_of 77 = .ok (.getfield 7, 3) := od_180 (a := 0) (b := 7) (by decide +kernel) (by decide)
theorem dX12_of_80 : decode cX12_of 80 = .ok (.iload_n 3, 1) := od_29  (by decide +kernel)
theorem dX12_of_81 : decode cX12_of 81 = .ok (.iconst 0, 1) := od_3  (by decide +kernel)
theorem dX12_of_82 : decode cX12_of 82 = .ok (.iadd, 1) := od_96  (by decide +kernel)
theorem dX12_of_83 : decode cX12_of 83 = .ok (.iaload, 1) := od_46  (by decide +kernel)
theorem dX12_of_84 : decode cX12_of 84 = .ok (.ireturn, 1) := od_172  (by decide +kernel)
theorem dX12_of_85 : decode cX12_of 85 = .ok (.aload_n 0, 1) := od_42  (by decide +kernel)
theorem dX12_of_86 : decode cX12_of 86 = .ok (.getfield 7, 3) := od_180 (a := 0) (b := 7) (by decide +kernel) (by decide)
theorem dX12_of_89 : decode cX12_of 89 = .ok (.iload_n 3, 1) := od_29  (by decide +kernel)
theorem dX12_of_90 : decode cX12_of 90 = .ok (.iconst 1, 1) := od_4  (by decide +kernel)
theorem dX12_of_91 : decode cX12_of 91 = .ok (.iadd, 1) := od_96  (by decide +kernel)
theorem dX12_of_92 : decode cX12_of 92 = .ok (.iaload, 1) := od_46  (by decide +kernel)
theorem dX12_of_93 : decode cX12_of 93 = .ok (.ireturn, 1) := od_172  (by decide +kernel)
theorem dX12_of_94 : decode cX12_of 94 = .ok (.aload_n 0, 1) := od_42  (by decide +kernel)
theorem dX12_of_95 : decode cX12_of 95 = .ok (.getfield 7, 3) := od_180 (a := 0) (b := 7) (by decide +kernel) (by decide)
theorem dX12_of_98 : decode cX12_of 98 = .ok (.iload_n 3, 1) := od_29  (by decide +kernel)
theorem dX12_of_99 : decode cX12_of 99 = .ok (.iconst 4, 1) := od_7  (by decide +kernel)
theorem dX12_of_100 : decode cX12_of 100 = .ok (.iadd, 1) := od_96  (by decide +kernel)
theorem dX12_of_101 : decode cX12_of 101 = .ok (.iaload, 1) := od_46  (by decide +kernel)
theorem dX12_of_102 : decode cX12_of 102 = .ok (.ireturn, 1) := od_172  (by decide +kernel)
theorem dX12_of_103 : decode cX12_of 103 = .ok (.aload_n 0, 1) := od_42  (by decide +kernel)
theorem dX12_of_104 : decode cX12_of 104 = .ok (.getfield 7, 3) := od_180 (a := 0) (b := 7) (by decide +kernel) (by decide)
theorem dX12_of_107 : decode cX12_of 107 = .ok (.iload_n 3, 1) := od_29  (by decide +kernel)
theorem dX12_of_108 : decode cX12_of 108 = .ok (.iconst 5, 1) := od_8  (by decide +kernel)
theorem dX12_of_109 : decode cX12_of 109 = .ok (.iadd, 1) := od_96  (by decide +kernel)
theorem dX12_of_110 : decode cX12_of 110 = .ok (.iaload, 1) := od_46  (by decide +kernel)
theorem dX12_of_111 : decode cX12_of 111 = .ok (.ireturn, 1) := od_172  (by decide +kernel)
theorem dX12_of_112 : decode cX12_of 112 = .ok (.aload_n 0, 1) := od_42  (by decide +kernel)
theorem dX12_of_113 : decode cX12_of 113 = .ok (.getfield 7, 3) := od_180 (a := 0) (b := 7) (by decide +kernel) (by decide)
theorem dX12_of_116 : decode cX12_of 116 = .ok (.iload_n 3, 1) := od_29  (by decide +kernel)
theorem dX12_of_117 : decode cX12_of 117 = .ok (.bipush 6, 2) := od_16 (a := 6) (by decide +kernel) (by decide +kernel)
theorem dX12_of_119 : decode cX12_of 119 = .ok (.iadd, 1) := od_96  (by decide +kernel)
theorem dX12_of_120 : decode cX12_of 120 = .ok (.iaload, 1) := od_46  (by decide +kernel)
theorem dX12_of_121 : decode cX12_of 121 = .ok (.ireturn, 1) := od_172  (by decide +kernel)
theorem dX12_of_122 : decode cX12_of 122 = .ok (.aload_n 0, 1) := od_42  (by decide +kernel)
theorem dX12_of_123 : decode cX12_of 123 = .ok (.iload_n 3, 1) := od_29  (by decide +kernel)
theorem dX12_of_124 : decode cX12_of 124 = .ok (.invokevirtual 234, 3) := od_182 (a := 0) (b := 234) (by decide +kernel) (by decide)
theorem dX12_of_127 : decode cX12_of 127 = .ok (.ireturn, 1) := od_172  (by decide +kernel)
theorem dX12_of_128 : decode cX12_of 128 = .ok (.aload_n 0, 1) := od_42  (by decide +kernel)
theorem dX12_of_129 : decode cX12_of 129 = .ok (.getfield 7, 3) := od_180 (a := 0) (b := 7) (by decide +kernel) (by decide)
theorem dX12_of_132 : decode cX12_of 132 = .ok (.iload_n 3, 1) := od_29  (by decide +kernel)
theorem dX12_of_133 : decode cX12_of 133 = .ok (.bipush 10, 2) := od_16 (a := 10) (by decide +kernel) (by decide +kernel)
theorem dX12_of_135 : decode cX12_of 135 = .ok (.iadd, 1) := od_96  (by decide +kernel)
theorem dX12_of_136 : decode cX12_of 136 = .ok (.iaload, 1) := od_46  (by decide +kernel)
theorem dX12_of_137 : decode cX12_of 137 = .ok (.ireturn, 1) := od_172  (by decide +kernel)
theorem dX12_of_138 : decode cX12_of 138 = .ok (.aload_n 0, 1) := od_42  (by decide +kernel)
theorem dX12_of_139 : decode cX12_of 139 = .ok (.getfield 7, 3) := od_180 (a := 0) (b := 7) (by decide +kernel) (by decide)
theorem dX12_of_142 : decode cX12_of 142 = .ok (.iload_n 3, 1) := od_29  (by decide +kernel)
theorem dX12_of_143 : decode cX12_of 143 = .ok (.bipush 11, 2) := od_16 (a := 11) (by decide +kernel) (by decide +kernel)
theorem dX12_of_145 : decode cX12_of 145 = .ok (.iadd, 1) := od_96  (by decide +kernel)
theorem dX12_of_146 : decode cX12_of 146 = .ok (.iaload, 1) := od_46  (by decide +kernel)
theorem dX12_of_147 : decode cX12_of 147 = .ok (.ireturn, 1) := od_172  (by decide +kernel)
theorem dX12_of_148 : decode cX12_of 148 = .ok (.aload_n 0, 1) := od_42  (by decide +kernel)
theorem dX12_of_149 : decode cX12_of 149 = .ok (.iload_n 3, 1) := od_29  (by decide +kernel)
theorem dX12_of_150 : decode cX12_of 150 = .ok (.invokevirtual 225, 3) := od_182 (a := 0) (b := 225) (by decide +kernel) (by decide)
theorem dX12_of_153 : decode cX12_of 153 = .ok (.ireturn, 1) := od_172  (by decide +kernel)
theorem dX12_of_154 : decode cX12_of 154 = .ok (.aload_n 0, 1) := od_42  (by decide +kernel)
theorem dX12_of_155 : decode cX12_of 155 = .ok (.getfield 7, 3) := od_180 (a := 0) (b := 7) (by decide +kernel) (by decide)
theorem dX12_of_158 : decode cX12_of 158 = .ok (.iload_n 3, 1) := od_29  (by decide +kernel)
theorem dX12_of_159 : decode cX12_of 159 = .ok (.bipush 9, 2) := od_16 (a := 9) (by decide +kernel) (by decide +kernel)
theorem dX12_of_161 : decode cX12_of 161 = .ok (.iadd, 1) := od_96  (by decide +kernel)
theorem dX12_of_162 : decode cX12_of 162 = .ok (.iaload, 1) := od_46  (by decide +kernel)
theorem dX12_of_163 : decode cX12_of 163 = .ok (.ireturn, 1) := od_172  (by decide +kernel)
theorem dX12_of_164 : decode cX12_of 164 = .ok (.iconst (-1), 1) := od_2  (by decide +kernel)
theorem dX12_of_165 : decode cX12_of 165 = .ok (.ireturn, 1) := od_172  (by decide +kernel)
theorem gX12_part_X12_isShip : GoodIn WALL (wsV RX12 147 RX12 yX12_isShip wqX12_isShip) := wg_V wa_355 wa_356 wa_357 wa_5 wa_358
theorem gX12_part_X12_isTerminal : GoodIn WALL (wsV RX12 128 RX12 yX12_isTerminal wqX12_isTerminal) := wg_V wa_274 wa_275 wa_276 wa_5 wa_277
theorem gX12_part_X12_shipAt : GoodIn WALL (va_wsS RX12 132 yX12_shipAt wqX12_shipAt) := wg_S wa_278 wa_279 wa_5 wa_280
theorem dX12_part_0 : decode cX12_part 0 = .ok (.aload_n 0, 1) := od_42  (by decide +kernel)
theorem dX12_part_1 : decode cX12_part 1 = .ok (.iconst 0, 1) := od_3  (by decide +kernel)
theorem dX12_part_2 : decode cX12_part 2 = .ok (.putfield 91, 3) := od_181 (a := 0) (b := 91) (by decide +kernel) (by decide)
theorem dX12_part_5 : decode cX12_part 5 = .ok (.aload_n 0, 1) := od_42  (by decide +kernel)
theorem dX12_part_6 : decode cX12_part 6 = .ok (.iload_n 1, 1) := od_27  (by decide +kernel)
theorem dX12_part_7 : decode cX12_part 7 = .ok (.invokevirtual 147, 3) := od_182 (a := 0) (b := 147) (by decide +kernel) (by decide)
theorem dX12_part_10 : decode cX12_part 10 = .ok (.ifCond .eq 28, 3) := od_153 (a := 0) (b := 28) (by decide +kernel) (by decide +kernel)
theorem dX12_part_13 : decode cX12_part 13 = .ok (.aload_n 0, 1) := od_42  (by decide +kernel)
theorem dX12_part_14 : decode cX12_part 14 = .ok (.iload_n 2, 1) := od_28  (by decide +kernel)
theorem dX12_part_15 : decode cX12_part 15 = .ok (.invokevirtual 128, 3) := od_182 (a := 0) (b := 128) (by decide +kernel) (by decide)
theorem dX12_part_18 : decode cX12_part 18 = .ok (.ifCond .eq 20, 3) := od_153 (a := 0) (b := 20) (by decide +kernel) (by decide +kernel)
theorem dX12_part_21 : decode cX12_part 21 = .ok (.aload_n 0, 1) := od_42  (by decide +kernel)
theorem dX12_part_22 : decode cX12_part 22 = .ok (.getfield 7, 3) := od_180 (a := 0) (b := 7) (by decide +kernel) (by decide)
theorem dX12_part_25 : decode cX12_part 25 = .ok (.iload_n 1, 1) := od_27  (by decide +kernel)
theorem dX12_part_26 : decode cX12_part 26 = .ok (.invokestatic 132, 3) := od_184 (a := 0) (b := 132) (by decide +kernel) (by decide)
theorem dX12_part_29 : decode cX12_part 29 = .ok (.bipush 16, 2) := od_16 (a := 16) (by decide +kernel) (by decide +kernel)
theorem dX12_part_31 : decode cX12_part 31 = .ok (.iadd, 1) := od_96  (by decide +kernel)
theorem dX12_part_32 : decode cX12_part 32 = .ok (.iload_n 2, 1) := od_28  (by decide +kernel)
theorem dX12_part_33 : decode cX12_part 33 = .ok (.iadd, 1) := od_96  (by decide +kernel)
theorem dX12_part_34 : decode cX12_part 34 = .ok (.iaload, 1) := od_46  (by decide +kernel)
theorem dX12_part_35 : decode cX12_part 35 = .ok (.goto 4, 3) := od_167 (a := 0) (b := 4) (by decide +kernel) (by decide +kernel)
theorem dX12_part_38 : decode cX12_part 38 = .ok (.iconst (-1), 1) := od_2  (by decide +kernel)
theorem dX12_part_39 : decode cX12_part 39 = .ok (.ireturn, 1) := od_172  (by decide +kernel)
theorem gX12_book_X12_isShip : GoodIn WALL (wsV RX12 147 RX12 yX12_isShip wqX12_isShip) := wg_V wa_355 wa_356 wa_357 wa_5 wa_358
theorem gX12_book_X12_in : GoodIn WALL (va_wsS RX12 99 yX12_in wqX12_in) := wg_S wa_213 wa_214 wa_5 wa_215
theorem gX12_book_X12_shipAt : GoodIn WALL (va_wsS RX12 132 yX12_shipAt wqX12_shipAt) := wg_S wa_278 wa_279 wa_5 wa_280
theorem dX12_book_0 : decode cX12_book 0 = .ok (.aload_n 0, 1) := od_42  (by decide +kernel)
theorem dX12_book_1 : decode cX12_book 1 = .ok (.iconst 0, 1) := od_3  (by decide +kernel)
theorem dX12_book_2 : decode cX12_book 2 = .ok (.putfield 91, 3) := od_181 (a := 0) (b := 91) (by decide +kernel) (by decide)
theorem dX12_book_5 : decode cX12_book 5 = .ok (.aload_n 0, 1) := od_42  (by decide +kernel)
theorem dX12_book_6 : decode cX12_book 6 = .ok (.iload_n 1, 1) := od_27  (by decide +kernel)
theorem dX12_book_7 : decode cX12_book 7 = .ok (.invokevirtual 147, 3) := od_182 (a := 0) (b := 147) (by decide +kernel) (by decide)
theorem dX12_book_10 : decode cX12_book 10 = .ok (.ifCond .eq 33, 3) := od_153 (a := 0) (b := 33) (by decide +kernel) (by decide +kernel)
theorem dX12_book_13 : decode cX12_book 13 = .ok (.iload_n 2, 1) := od_28  (by decide +kernel)
theorem dX12_book_14 : decode cX12_book 14 = .ok (.i2l, 1) := od_133  (by decide +kernel)
theorem dX12_book_15 : decode cX12_book 15 = .ok (.lconst 0, 1) := od_9  (by decide +kernel)
theorem dX12_book_16 : decode cX12_book 16 = .ok (.ldc2_w 152, 3) := od_20 (a := 0) (b := 152) (by decide +kernel) (by decide)
theorem dX12_book_19 : decode cX12_book 19 = .ok (.invokestatic 99, 3) := od_184 (a := 0) (b := 99) (by decide +kernel) (by decide)
theorem dX12_book_22 : decode cX12_book 22 = .ok (.ifCond .eq 21, 3) := od_153 (a := 0) (b := 21) (by decide +kernel) (by decide +kernel)
theorem dX12_book_25 : decode cX12_book 25 = .ok (.aload_n 0, 1) := od_42  (by decide +kernel)
theorem dX12_book_26 : decode cX12_book 26 = .ok (.getfield 7, 3) := od_180 (a := 0) (b := 7) (by decide +kernel) (by decide)
theorem dX12_book_29 : decode cX12_book 29 = .ok (.iload_n 1, 1) := od_27  (by decide +kernel)
theorem dX12_book_30 : decode cX12_book 30 = .ok (.invokestatic 132, 3) := od_184 (a := 0) (b := 132) (by decide +kernel) (by decide)
theorem dX12_book_33 : decode cX12_book 33 = .ok (.bipush 12, 2) := od_16 (a := 12) (by decide +kernel) (by decide +kernel)
theorem dX12_book_35 : decode cX12_book 35 = .ok (.iadd, 1) := od_96  (by decide +kernel)
theorem dX12_book_36 : decode cX12_book 36 = .ok (.iload_n 2, 1) := od_28  (by decide +kernel)
theorem dX12_book_37 : decode cX12_book 37 = .ok (.iadd, 1) := od_96  (by decide +kernel)
theorem dX12_book_38 : decode cX12_book 38 = .ok (.iaload, 1) := od_46  (by decide +kernel)
theorem dX12_book_39 : decode cX12_book 39 = .ok (.i2l, 1) := od_133  (by decide +kernel)
theorem dX12_book_40 : decode cX12_book 40 = .ok (.goto 6, 3) := od_167 (a := 0) (b := 6) (by decide +kernel) (by decide +kernel)
theorem dX12_book_43 : decode cX12_book 43 = .ok (.ldc2_w 158, 3) := od_20 (a := 0) (b := 158) (by decide +kernel) (by decide)
theorem dX12_book_46 : decode cX12_book 46 = .ok (.lreturn, 1) := od_173  (by decide +kernel)
theorem gX12_store_X12_isTerminal : GoodIn WALL (wsV RX12 128 RX12 yX12_isTerminal wqX12_isTerminal) := wg_V wa_274 wa_275 wa_276 wa_5 wa_277
theorem gX12_store_X12_terminalAt : GoodIn WALL (va_wsS RX12 115 yX12_terminalAt wqX12_terminalAt) := wg_S wa_221 wa_222 wa_5 wa_223
theorem dX12_store_0 : decode cX12_store 0 = .ok (.aload_n 0, 1) := od_42  (by decide +kernel)
theorem dX12_store_1 : decode cX12_store 1 = .ok (.iconst 0, 1) := od_3  (by decide +kernel)
theorem dX12_store_2 : decode cX12_store 2 = .ok (.putfield 91, 3) := od_181 (a := 0) (b := 91) (by decide +kernel) (by decide)
theorem dX12_store_5 : decode cX12_store 5 = .ok (.aload_n 0, 1) := od_42  (by decide +kernel)
theorem dX12_store_6 : decode cX12_store 6 = .ok (.iload_n 1, 1) := od_27  (by decide +kernel)
theorem dX12_store_7 : decode cX12_store 7 = .ok (.invokevirtual 128, 3) := od_182 (a := 0) (b := 128) (by decide +kernel) (by decide)
theorem dX12_store_10 : decode cX12_store 10 = .ok (.ifCond .eq 15, 3) := od_153 (a := 0) (b := 15) (by decide +kernel) (by decide +kernel)
theorem dX12_store_13 : decode cX12_store 13 = .ok (.aload_n 0, 1) := od_42  (by decide +kernel)
theorem dX12_store_14 : decode cX12_store 14 = .ok (.getfield 7, 3) := od_180 (a := 0) (b := 7) (by decide +kernel) (by decide)
theorem dX12_store_17 : decode cX12_store 17 = .ok (.iload_n 1, 1) := od_27  (by decide +kernel)
theorem dX12_store_18 : decode cX12_store 18 = .ok (.invokestatic 115, 3) := od_184 (a := 0) (b := 115) (by decide +kernel) (by decide)
theorem dX12_store_21 : decode cX12_store 21 = .ok (.iaload, 1) := od_46  (by decide +kernel)
theorem dX12_store_22 : decode cX12_store 22 = .ok (.goto 4, 3) := od_167 (a := 0) (b := 4) (by decide +kernel) (by decide +kernel)
theorem dX12_store_25 : decode cX12_store 25 = .ok (.iconst (-1), 1) := od_2  (by decide +kernel)
theorem dX12_store_26 : decode cX12_store 26 = .ok (.ireturn, 1) := od_172  (by decide +kernel)
theorem gX12_heatOf_X12_terminalAt : GoodIn WALL (va_wsS RX12 115 yX12_terminalAt wqX12_terminalAt) := wg_S wa_221 wa_222 wa_5 wa_223
theorem dX12_heatOf_0 : decode cX12_heatOf 0 = .ok (.lconst 0, 1) := od_9  (by decide +kernel)
theorem dX12_heatOf_1 : decode cX12_heatOf 1 = .ok (.lstore_n 2, 1) := od_65  (by decide +kernel)
theorem dX12_heatOf_2 : decode cX12_heatOf 2 = .ok (.iconst 0, 1) := od_3  (by decide +kernel)
theorem dX12_heatOf_3 : decode cX12_heatOf 3 = .ok (.istore 4, 2) := od_54 (n := 4) (by decide +kernel)
theorem dX12_heatOf_5 : decode cX12_heatOf 5 = .ok (.iload 4, 2) := od_21 (n := 4) (by decide +kernel)
theorem dX12_heatOf_7 : decode cX12_heatOf 7 = .ok (.aload_n 0, 1) := od_42  (by decide +kernel)
theorem dX12_heatOf_8 : decode cX12_heatOf 8 = .ok (.getfield 7, 3) := od_180 (a := 0) (b := 7) (by decide +kernel) (by decide)
theorem dX12_heatOf_11 : decode cX12_heatOf 11 = .ok (.iconst 0, 1) := od_3  (by decide +kernel)
theorem dX12_heatOf_12 : decode cX12_heatOf 12 = .ok (.iaload, 1) := od_46  (by decide +kernel)
theorem dX12_heatOf_13 : decode cX12_heatOf 13 = .ok (.if_icmp .ge 38, 3) := od_162 (a := 0) (b := 38) (by decide +kernel) (by decide +kernel)
theorem dX12_heatOf_16 : decode cX12_heatOf 16 = .ok (.lload_n 2, 1) := od_32  (by decide +kernel)
theorem dX12_heatOf_17 : decode cX12_heatOf 17 = .ok (.aload_n 0, 1) := od_42  (by decide +kernel)
theorem dX12_heatOf_18 : decode cX12_heatOf 18 = .ok (.getfield 7, 3) := od_180 (a := 0) (b := 7) (by decide +kernel) (by decide)
theorem dX12_heatOf_21 : decode cX12_heatOf 21 = .ok (.iload_n 1, 1) := od_27  (by decide +kernel)
theorem dX12_heatOf_22 : decode cX12_heatOf 22 = .ok (.iconst 5, 1) := od_8  (by decide +kernel)
theorem dX12_heatOf_23 : decode cX12_heatOf 23 = .ok (.iadd, 1) := od_96  (by decide +kernel)
theorem dX12_heatOf_24 : decode cX12_heatOf 24 = .ok (.iload 4, 2) := od_21 (n := 4) (by decide +kernel)
theorem dX12_heatOf_26 : decode cX12_heatOf 26 = .ok (.iadd, 1) := od_96  (by decide +kernel)
theorem dX12_heatOf_27 : decode cX12_heatOf 27 = .ok (.iaload, 1) := od_46  (by decide +kernel)
theorem dX12_heatOf_28 : decode cX12_heatOf 28 = .ok (.i2l, 1) := od_133  (by decide +kernel)
theorem dX12_heatOf_29 : decode cX12_heatOf 29 = .ok (.aload_n 0, 1) := od_42  (by decide +kernel)
theorem dX12_heatOf_30 : decode cX12_heatOf 30 = .ok (.getfield 7, 3) := od_180 (a := 0) (b := 7) (by decide +kernel) (by decide)
theorem dX12_heatOf_33 : decode cX12_heatOf 33 = .ok (.iload 4, 2) := od_21 (n := 4) (by decide +kernel)
theorem dX12_heatOf_35 : decode cX12_heatOf 35 = .ok (.invokestatic 115, 3) := od_184 (a := 0) (b := 115) (by decide +kernel) (by decide)
theorem dX12_heatOf_38 : decode cX12_heatOf 38 = .ok (.iconst 4, 1) := od_7  (by decide +kernel)
theorem dX12_heatOf_39 : decode cX12_heatOf 39 = .ok (.iadd, 1) := od_96  (by decide +kernel)
theorem dX12_heatOf_40 : decode cX12_heatOf 40 = .ok (.iaload, 1) := od_46  (by decide +kernel)
theorem dX12_heatOf_41 : decode cX12_heatOf 41 = .ok (.i2l, 1) := od_133  (by decide +kernel)
theorem dX12_heatOf_42 : decode cX12_heatOf 42 = .ok (.lmul, 1) := od_105  (by decide +kernel)
theorem dX12_heatOf_43 : decode cX12_heatOf 43 = .ok (.ladd, 1) := od_97  (by decide +kernel)
theorem dX12_heatOf_44 : decode cX12_heatOf 44 = .ok (.lstore_n 2, 1) := od_65  (by decide +kernel)
theorem dX12_heatOf_45 : decode cX12_heatOf 45 = .ok (.iinc 4 1, 3) := od_132 (a := 4) (b := 1) (by decide +kernel) (by decide +kernel)
theorem dX12_heatOf_48 : decode cX12_heatOf 48 = .ok (.goto (-43), 3) := od_167 (a := 255) (b := 213) (by decide +kernel) (by decide +kernel)
theorem dX12_heatOf_51 : decode cX12_heatOf 51 = .ok (.lload_n 2, 1) := od_32  (by decide +kernel)
theorem dX12_heatOf_52 : decode cX12_heatOf 52 = .ok (.aload_n 0, 1) := od_42  (by decide +kernel)
theorem dX12_heatOf_53 : decode cX12_heatOf 53 = .ok (.getfield 7, 3) := od_180 (a := 0) (b := 7) (by decide +kernel) (by decide)
theorem dX12_heatOf_56 : decode cX12_heatOf 56 = .ok (.iload_n 1, 1) := od_27  (by decide +kernel)
theorem dX12_heatOf_57 : decode cX12_heatOf 57 = .ok (.iconst 4, 1) := od_7  (by decide +kernel)
theorem dX12_heatOf_58 : decode cX12_heatOf 58 = .ok (.iadd, 1) := od_96  (by decide +kernel)
theorem dX12_heatOf_59 : decode cX12_heatOf 59 = .ok (.iaload, 1) := od_46  (by decide +kernel)
theorem dX12_heatOf_60 : decode cX12_heatOf 60 = .ok (.i2l, 1) := od_133  (by decide +kernel)
theorem dX12_heatOf_61 : decode cX12_heatOf 61 = .ok (.ldiv, 1) := od_109  (by decide +kernel)
theorem dX12_heatOf_62 : decode cX12_heatOf 62 = .ok (.l2i, 1) := od_136  (by decide +kernel)
theorem dX12_heatOf_63 : decode cX12_heatOf 63 = .ok (.ireturn, 1) := od_172  (by decide +kernel)
theorem gX12_landing_X12_isLanding : GoodIn WALL (wsV RX12 237 RX12 yX12_isLanding wqX12_isLanding) := wg_V wa_701 wa_702 wa_703 wa_5 wa_704
theorem gX12_landing_X12_in : GoodIn WALL (va_wsS RX12 99 yX12_in wqX12_in) := wg_S wa_213 wa_214 wa_5 wa_215
theorem gX12_landing_X12_landingAt : GoodIn WALL (va_wsS RX12 242 yX12_landingAt wqX12_landingAt) := wg_S wa_705 wa_706 wa_5 wa_707
theorem gX12_landing_X12_heatOf : GoodIn WALL (wsV RX12 245 RX12 yX12_heatOf wqX12_heatOf) := wg_V wa_708 wa_709 wa_710 wa_5 wa_711
theorem dX12_landing_0 : decode cX12_landing 0 = .ok (.aload_n 0, 1) := od_42  (by decide +kernel)
theorem dX12_landing_1 : decode cX12_landing 1 = .ok (.iconst 0, 1) := od_3  (by decide +kernel)
theorem dX12_landing_2 : decode cX12_landing 2 = .ok (.putfield 91, 3) := od_181 (a := 0) (b := 91) (by decide +kernel) (by decide)
theorem dX12_landing_5 : decode cX12_landing 5 = .ok (.aload_n 0, 1) := od_42  (by decide +kernel)
theorem dX12_landing_6 : decode cX12_landing 6 = .ok (.iload_n 1, 1) := od_27  (by decide +kernel)
theorem dX12_landing_7 : decode cX12_landing 7 = .ok (.invokevirtual 237, 3) := od_182 (a := 0) (b := 237) (by decide +kernel) (by decide)
theorem dX12_landing_10 : decode cX12_landing 10 = .ok (.ifCond .eq 15, 3) := od_153 (a := 0) (b := 15) (by decide +kernel) (by decide +kernel)
theorem dX12_landing_13 : decode cX12_landing 13 = .ok (.iload_n 2, 1) := od_28  (by decide +kernel)
theorem dX12_landing_14 : decode cX12_landing 14 = .ok (.i2l, 1) := od_133  (by decide +kernel)
theorem dX12_landing_15 : decode cX12_landing 15 = .ok (.lconst 0, 1) := od_9  (by decide +kernel)
theorem dX12_landing_16 : decode cX12_landing 16 = .ok (.ldc2_w 240, 3) := od_20 (a := 0) (b := 240) (by decide +kernel) (by decide)
theorem dX12_landing_19 : decode cX12_landing 19 = .ok (.invokestatic 99, 3) := od_184 (a := 0) (b := 99) (by decide +kernel) (by decide)
theorem dX12_landing_22 : decode cX12_landing 22 = .ok (.ifCond .ne 5, 3) := od_154 (a := 0) (b := 5) (by decide +kernel) (by decide +kernel)
theorem dX12_landing_25 : decode cX12_landing 25 = .ok (.iconst (-1), 1) := od_2  (by decide +kernel)
theorem dX12_landing_26 : decode cX12_landing 26 = .ok (.ireturn, 1) := od_172  (by decide +kernel)
theorem dX12_landing_27 : decode cX12_landing 27 = .ok (.iload_n 1, 1) := od_27  (by decide +kernel)
theorem dX12_landing_28 : decode cX12_landing 28 = .ok (.invokestatic 242, 3) := od_184 (a := 0) (b := 242) (by decide +kernel) (by decide)
theorem dX12_landing_31 : decode cX12_landing 31 = .ok (.istore_n 3, 1) := od_62  (by decide +kernel)
theorem dX12_landing_32 : decode cX12_landing 32 = .ok (.iload_n 2, 1) := od_28  (by decide +kernel)
theorem dX12_landing_33 : decode cX12_landing 33 = .ok (.iconst 5, 1) := od_8  (by decide +kernel)
theorem dX12_landing_34 : decode cX12_landing 34 = .ok (.if_icmp .ge 14, 3) := od_162 (a := 0) (b := 14) (by decide +kernel) (by decide +kernel)
theorem dX12_landing_37 : decode cX12_landing 37 = .ok (.aload_n 0, 1) := od_42  (by decide +kernel)
theorem dX12_landing_38 : decode cX12_landing 38 = .ok (.getfield 7, 3) := od_180 (a := 0) (b := 7) (by decide +kernel) (by decide)
theorem dX12_landing_41 : decode cX12_landing 41 = .ok (.iload_n 3, 1) := od_29  (by decide +kernel)
theorem dX12_landing_42 : decode cX12_landing 42 = .ok (.iload_n 2, 1) := od_28  (by decide +kernel)
theorem dX12_landing_43 : decode cX12_landing 43 = .ok (.iadd, 1) := od_96  (by decide +kernel)
theorem dX12_landing_44 : decode cX12_landing 44 = .ok (.iaload, 1) := od_46  (by decide +kernel)
theorem dX12_landing_45 : decode cX12_landing 45 = .ok (.goto 34, 3) := od_167 (a := 0) (b := 34) (by decide +kernel) (by decide +kernel)
theorem dX12_landing_48 : decode cX12_landing 48 = .ok (.iload_n 2, 1) := od_28  (by decide +kernel)
theorem dX12_landing_49 : decode cX12_landing 49 = .ok (.iconst 5, 1) := od_8  (by decide +kernel)
theorem dX12_landing_50 : decode cX12_landing 50 = .ok (.if_icmp .ne 11, 3) := od_160 (a := 0) (b := 11) (by decide +kernel) (by decide +kernel)
theorem dX12_landing_53 : decode cX12_landing 53 = .ok (.aload_n 0, 1) := od_42  (by decide +kernel)
theorem dX12_landing_54 : decode cX12_landing 54 = .ok (.iload_n 3, 1) := od_29  (by decide +kernel)
theorem dX12_landing_55 : decode cX12_landing 55 = .ok (.invokevirtual 245, 3) := od_182 (a := 0) (b := 245) (by decide +kernel) (by decide)
theorem dX12_landing_58 : decode cX12_landing 58 = .ok (.goto 21, 3) := od_167 (a := 0) (b := 21) (by decide +kernel) (by decide +kernel)
theorem dX12_landing_61 : decode cX12_landing 61 = .ok (.aload_n 0, 1) := od_42  (by decide +kernel)
theorem dX12_landing_62 : decode cX12_landing 62 = .ok (.getfield 7, 3) := od_180 (a := 0) (b := 7) (by decide +kernel) (by decide)
theorem dX12_landing_65 : decode cX12_landing 65 = .ok (.iload_n 3, 1) := od_29  (by decide +kernel)
theorem dX12_landing_66 : decode cX12_landing 66 = .ok (.bipush 12, 2) := od_16 (a := 12) (by decide +kernel) (by decide +kernel)
theorem dX12_landing_68 : decode cX12_landing 68 = .ok (.iadd, 1) := od_96  (by decide +kernel)
theorem dX12_landing_69 : decode cX12_landing 69 = .ok (.iaload, 1) := od_46  (by decide +kernel)
theorem dX12_landing_70 : decode cX12_landing 70 = .ok (.iconst (-1), 1) := od_2  (by decide +kernel)
theorem dX12_landing_71 : decode cX12_landing 71 = .ok (.if_icmp .ne 7, 3) := od_160 (a := 0) (b := 7) (by decide +kernel) (by decide +kernel)
theorem dX12_landing_74 : decode cX12_landing 74 = .ok (.iconst 0, 1) := od_3  (by decide +kernel)
theorem dX12_landing_75 : decode cX12_landing 75 = .ok (.goto 4, 3) := od_167 (a := 0) (b := 4) (by decide +kernel) (by decide +kernel)
theorem dX12_landing_78 : decode cX12_landing 78 = .ok (.iconst 1, 1) := od_4  (by decide +kernel)
theorem dX12_landing_79 : decode cX12_landing 79 = .ok (.ireturn, 1) := od_172  (by decide +kernel)
theorem gX12_led_X12_isLanding : GoodIn WALL (wsV RX12 237 RX12 yX12_isLanding wqX12_isLanding) := wg_V wa_701 wa_702 wa_703 wa_5 wa_704
theorem gX12_led_X12_isTerminal : GoodIn WALL (wsV RX12 128 RX12 yX12_isTerminal wqX12_isTerminal) := wg_V wa_274 wa_275 wa_276 wa_5 wa_277
theorem gX12_led_X12_landingAt : GoodIn WALL (va_wsS RX12 242 yX12_landingAt wqX12_landingAt) := wg_S wa_705 wa_706 wa_5 wa_707
theorem dX12_led_0 : decode cX12_led 0 = .ok (.aload_n 0, 1) := od_42  (by decide +kernel)
theorem dX12_led_1 : decode cX12_led 1 = .ok (.iconst 0, 1) := od_3  (by decide +kernel)
theorem dX12_led_2 : decode cX12_led 2 = .ok (.putfield 91, 3) := od_181 (a := 0) (b := 91) (by decide +kernel) (by decide)
theorem dX12_led_5 : decode cX12_led 5 = .ok (.aload_n 0, 1) := od_42  (by decide +kernel)
theorem dX12_led_6 : decode cX12_led 6 = .ok (.iload_n 1, 1) := od_27  (by decide +kernel)
theorem dX12_led_7 : decode cX12_led 7 = .ok (.invokevirtual 237, 3) := od_182 (a := 0) (b := 237) (by decide +kernel) (by decide)
theorem dX12_led_10 : decode cX12_led 10 = .ok (.ifCond .eq 27, 3) := od_153 (a := 0) (b := 27) (by decide +kernel) (by decide +kernel)
theorem dX12_led_13 : decode cX12_led 13 = .ok (.aload_n 0, 1) := od_42  (by decide +kernel)
theorem dX12_led_14 : decode cX12_led 14 = .ok (.iload_n 2, 1) := od_28  (by decide +kernel)
theorem dX12_led_15 : decode cX12_led 15 = .ok (.invokevirtual 128, 3) := od_182 (a := 0) (b := 128) (by decide +kernel) (by decide)
theorem dX12_led_18 : decode cX12_led 18 = .ok (.ifCond .eq 19, 3) := od_153 (a := 0) (b := 19) (by decide +kernel) (by decide +kernel)
theorem dX12_led_21 : decode cX12_led 21 = .ok (.aload_n 0, 1) := od_42  (by decide +kernel)
theorem dX12_led_22 : decode cX12_led 22 = .ok (.getfield 7, 3) := od_180 (a := 0) (b := 7) (by decide +kernel) (by decide)
theorem dX12_led_25 : decode cX12_led 25 = .ok (.iload_n 1, 1) := od_27  (by decide +kernel)
theorem dX12_led_26 : decode cX12_led 26 = .ok (.invokestatic 242, 3) := od_184 (a := 0) (b := 242) (by decide +kernel) (by decide)
theorem dX12_led_29 : decode cX12_led 29 = .ok (.iconst 5, 1) := od_8  (by decide +kernel)
theorem dX12_led_30 : decode cX12_led 30 = .ok (.iadd, 1) := od_96  (by decide +kernel)
theorem dX12_led_31 : decode cX12_led 31 = .ok (.iload_n 2, 1) := od_28  (by decide +kernel)
theorem dX12_led_32 : decode cX12_led 32 = .ok (.iadd, 1) := od_96  (by decide +kernel)
theorem dX12_led_33 : decode cX12_led 33 = .ok (.iaload, 1) := od_46  (by decide +kernel)
theorem dX12_led_34 : decode cX12_led 34 = .ok (.goto 4, 3) := od_167 (a := 0) (b := 4) (by decide +kernel) (by decide +kernel)
theorem dX12_led_37 : decode cX12_led 37 = .ok (.iconst (-1), 1) := od_2  (by decide +kernel)
theorem dX12_led_38 : decode cX12_led 38 = .ok (.ireturn, 1) := od_172  (by decide +kernel)
theorem gX12_heat_X12_in : GoodIn WALL (va_wsS RX12 99 yX12_in wqX12_in) := wg_S wa_213 wa_214 wa_5 wa_215
theorem gX12_heat_X12_told : GoodIn WALL (wsV RX12 105 RX12 yX12_told wqX12_told) := wg_V wa_216 wa_217 wa_218 wa_5 wa_219
theorem gX12_heat_X12_isTerminal : GoodIn WALL (wsV RX12 128 RX12 yX12_isTerminal wqX12_isTerminal) := wg_V wa_274 wa_275 wa_276 wa_5 wa_277
theorem gX12_heat_X12_terminalAt : GoodIn WALL (va_wsS RX12 115 yX12_terminalAt wqX12_terminalAt) := wg_S wa_221 wa_222 wa_5 wa_223
theorem dX12_heat_0 : decode cX12_heat 0 = .ok (.aload_n 0, 1) := od_42  (by decide +kernel)
theorem dX12_heat_1 : decode cX12_heat 1 = .ok (.iconst 0, 1) := od_3  (by decide +kernel)
theorem dX12_heat_2 : decode cX12_heat 2 = .ok (.putfield 91, 3) := od_181 (a := 0) (b := 91) (by decide +kernel) (by decide)
theorem dX12_heat_5 : decode cX12_heat 5 = .ok (.iload_n 2, 1) := od_28  (by decide +kernel)
theorem dX12_heat_6 : decode cX12_heat 6 = .ok (.i2l, 1) := od_133  (by decide +kernel)
theorem dX12_heat_7 : decode cX12_heat 7 = .ok (.ldc2_w 248, 3) := od_20 (a := 0) (b := 248) (by decide +kernel) (by decide)
theorem dX12_heat_10 : decode cX12_heat 10 = .ok (.ldc2_w 250, 3) := od_20 (a := 0) (b := 250) (by decide +kernel) (by decide)
theorem dX12_heat_13 : decode cX12_heat 13 = .ok (.invokestatic 99, 3) := od_184 (a := 0) (b := 99) (by decide +kernel) (by decide)
theorem dX12_heat_16 : decode cX12_heat 16 = .ok (.ifCond .ne 9, 3) := od_154 (a := 0) (b := 9) (by decide +kernel) (by decide +kernel)
theorem dX12_heat_19 : decode cX12_heat 19 = .ok (.aload_n 0, 1) := od_42  (by decide +kernel)
theorem dX12_heat_20 : decode cX12_heat 20 = .ok (.iconst (-1), 1) := od_2  (by decide +kernel)
theorem dX12_heat_21 : decode cX12_heat 21 = .ok (.invokevirtual 105, 3) := od_182 (a := 0) (b := 105) (by decide +kernel) (by decide)
theorem dX12_heat_24 : decode cX12_heat 24 = .ok (.ireturn, 1) := od_172  (by decide +kernel)
theorem dX12_heat_25 : decode cX12_heat 25 = .ok (.aload_n 0, 1) := od_42  (by decide +kernel)
theorem dX12_heat_26 : decode cX12_heat 26 = .ok (.iload_n 1, 1) := od_27  (by decide +kernel)
theorem dX12_heat_27 : decode cX12_heat 27 = .ok (.invokevirtual 128, 3) := od_182 (a := 0) (b := 128) (by decide +kernel) (by decide)
theorem dX12_heat_30 : decode cX12_heat 30 = .ok (.ifCond .ne 10, 3) := od_154 (a := 0) (b := 10) (by decide +kernel) (by decide +kernel)
theorem dX12_heat_33 : decode cX12_heat 33 = .ok (.aload_n 0, 1) := od_42  (by decide +kernel)
theorem dX12_heat_34 : decode cX12_heat 34 = .ok (.bipush (-2), 2) := od_16 (a := 254) (by decide +kernel) (by decide +kernel)
theorem dX12_heat_36 : decode cX12_heat 36 = .ok (.invokevirtual 105, 3) := od_182 (a := 0) (b := 105) (by decide +kernel) (by decide)
theorem dX12_heat_39 : decode cX12_heat 39 = .ok (.ireturn, 1) := od_172  (by decide +kernel)
theorem dX12_heat_40 : decode cX12_heat 40 = .ok (.aload_n 0, 1) := od_42  (by decide +kernel)
theorem dX12_heat_41 : decode cX12_heat 41 = .ok (.getfield 7, 3) := od_180 (a := 0) (b := 7) (by decide +kernel) (by decide)
theorem dX12_heat_44 : decode cX12_heat 44 = .ok (.iload_n 1, 1) := od_27  (by decide +kernel)
theorem dX12_heat_45 : decode cX12_heat 45 = .ok (.invokestatic 115, 3) := od_184 (a := 0) (b := 115) (by decide +kernel) (by decide)
theorem dX12_heat_48 : decode cX12_heat 48 = .ok (.iconst 4, 1) := od_7  (by decide +kernel)
theorem dX12_heat_49 : decode cX12_heat 49 = .ok (.iadd, 1) := od_96  (by decide +kernel)
theorem dX12_heat_50 : decode cX12_heat 50 = .ok (.iaload, 1) := od_46  (by decide +kernel)
theorem dX12_heat_51 : decode cX12_heat 51 = .ok (.istore_n 3, 1) := od_62  (by decide +kernel)
theorem dX12_heat_52 : decode cX12_heat 52 = .ok (.aload_n 0, 1) := od_42  (by decide +kernel)
theorem dX12_heat_53 : decode cX12_heat 53 = .ok (.getfield 7, 3) := od_180 (a := 0) (b := 7) (by decide +kernel) (by decide)
theorem dX12_heat_56 : decode cX12_heat 56 = .ok (.iload_n 1, 1) := od_27  (by decide +kernel)
theorem dX12_heat_57 : decode cX12_heat 57 = .ok (.invokestatic 115, 3) := od_184 (a := 0) (b := 115) (by decide +kernel) (by decide)
theorem dX12_heat_60 : decode cX12_heat 60 = .ok (.iconst 4, 1) := od_7  (by decide +kernel)
theorem dX12_heat_61 : decode cX12_heat 61 = .ok (.iadd, 1) := od_96  (by decide +kernel)
theorem dX12_heat_62 : decode cX12_heat 62 = .ok (.iload_n 2, 1) := od_28  (by decide +kernel)
theorem dX12_heat_63 : decode cX12_heat 63 = .ok (.iastore, 1) := od_79  (by decide +kernel)
theorem dX12_heat_64 : decode cX12_heat 64 = .ok (.aload_n 0, 1) := od_42  (by decide +kernel)
theorem dX12_heat_65 : decode cX12_heat 65 = .ok (.iload_n 3, 1) := od_29  (by decide +kernel)
theorem dX12_heat_66 : decode cX12_heat 66 = .ok (.invokevirtual 105, 3) := od_182 (a := 0) (b := 105) (by decide +kernel) (by decide)
theorem dX12_heat_69 : decode cX12_heat 69 = .ok (.ireturn, 1) := od_172  (by decide +kernel)
theorem gX12_price_X12_isDay : GoodIn WALL (va_wsS RX12 141 yX12_isDay wqX12_isDay) := wg_S wa_312 wa_313 wa_5 wa_314
theorem gX12_price_X12_in : GoodIn WALL (va_wsS RX12 99 yX12_in wqX12_in) := wg_S wa_213 wa_214 wa_5 wa_215
theorem gX12_price_X12_isHour : GoodIn WALL (va_wsS RX12 144 yX12_isHour wqX12_isHour) := wg_S wa_351 wa_352 wa_5 wa_353
theorem gX12_price_X12_told : GoodIn WALL (wsV RX12 105 RX12 yX12_told wqX12_told) := wg_V wa_216 wa_217 wa_218 wa_5 wa_219
theorem dX12_price_0 : decode cX12_price 0 = .ok (.aload_n 0, 1) := od_42  (by decide +kernel)
theorem dX12_price_1 : decode cX12_price 1 = .ok (.iconst 0, 1) := od_3  (by decide +kernel)
theorem dX12_price_2 : decode cX12_price 2 = .ok (.putfield 91, 3) := od_181 (a := 0) (b := 91) (by decide +kernel) (by decide)
theorem dX12_price_5 : decode cX12_price 5 = .ok (.iload_n 1, 1) := od_27  (by decide +kernel)
theorem dX12_price_6 : decode cX12_price 6 = .ok (.invokestatic 141, 3) := od_184 (a := 0) (b := 141) (by decide +kernel) (by decide)
theorem dX12_price_9 : decode cX12_price 9 = .ok (.ifCond .eq 22, 3) := od_153 (a := 0) (b := 22) (by decide +kernel) (by decide +kernel)
theorem dX12_price_12 : decode cX12_price 12 = .ok (.iload_n 2, 1) := od_28  (by decide +kernel)
theorem dX12_price_13 : decode cX12_price 13 = .ok (.i2l, 1) := od_133  (by decide +kernel)
theorem dX12_price_14 : decode cX12_price 14 = .ok (.lconst 0, 1) := od_9  (by decide +kernel)
theorem dX12_price_15 : decode cX12_price 15 = .ok (.ldc2_w 111, 3) := od_20 (a := 0) (b := 111) (by decide +kernel) (by decide)
theorem dX12_price_18 : decode cX12_price 18 = .ok (.invokestatic 99, 3) := od_184 (a := 0) (b := 99) (by decide +kernel) (by decide)
theorem dX12_price_21 : decode cX12_price 21 = .ok (.ifCond .eq 10, 3) := od_153 (a := 0) (b := 10) (by decide +kernel) (by decide +kernel)
theorem dX12_price_24 : decode cX12_price 24 = .ok (.iload_n 3, 1) := od_29  (by decide +kernel)
theorem dX12_price_25 : decode cX12_price 25 = .ok (.invokestatic 144, 3) := od_184 (a := 0) (b := 144) (by decide +kernel) (by decide)
theorem dX12_price_28 : decode cX12_price 28 = .ok (.ifCond .ne 9, 3) := od_154 (a := 0) (b := 9) (by decide +kernel) (by decide +kernel)
theorem dX12_price_31 : decode cX12_price 31 = .ok (.aload_n 0, 1) := od_42  (by decide +kernel)
theorem dX12_price_32 : decode cX12_price 32 = .ok (.iconst (-1), 1) := od_2  (by decide +kernel)
theorem dX12_price_33 : decode cX12_price 33 = .ok (.invokevirtual 105, 3) := od_182 (a := 0) (b := 105) (by decide +kernel) (by decide)
theorem dX12_price_36 : decode cX12_price 36 = .ok (.ireturn, 1) := od_172  (by decide +kernel)
theorem dX12_price_37 : decode cX12_price 37 = .ok (.aload_n 0, 1) := od_42  (by decide +kernel)
theorem dX12_price_38 : decode cX12_price 38 = .ok (.getfield 7, 3) := od_180 (a := 0) (b := 7) (by decide +kernel) (by decide)
theorem dX12_price_41 : decode cX12_price 41 = .ok (.bipush 6, 2) := od_16 (a := 6) (by decide +kernel) (by decide +kernel)
theorem dX12_price_43 : decode cX12_price 43 = .ok (.iaload, 1) := od_46  (by decide +kernel)
theorem dX12_price_44 : decode cX12_price 44 = .ok (.bipush 60, 2) := od_16 (a := 60) (by decide +kernel) (by decide +kernel)
theorem dX12_price_46 : decode cX12_price 46 = .ok (.if_icmp .ne 10, 3) := od_160 (a := 0) (b := 10) (by decide +kernel) (by decide +kernel)
theorem dX12_price_49 : decode cX12_price 49 = .ok (.aload_n 0, 1) := od_42  (by decide +kernel)
theorem dX12_price_50 : decode cX12_price 50 = .ok (.bipush (-5), 2) := od_16 (a := 251) (by decide +kernel) (by decide +kernel)
theorem dX12_price_52 : decode cX12_price 52 = .ok (.invokevirtual 105, 3) := od_182 (a := 0) (b := 105) (by decide +kernel) (by decide)
theorem dX12_price_55 : decode cX12_price 55 = .ok (.ireturn, 1) := od_172  (by decide +kernel)
theorem dX12_price_56 : decode cX12_price 56 = .ok (.sipush 2011, 3) := od_17 (a := 7) (b := 219) (by decide +kernel) (by decide +kernel)
theorem dX12_price_59 : decode cX12_price 59 = .ok (.iconst 3, 1) := od_6  (by decide +kernel)
theorem dX12_price_60 : decode cX12_price 60 = .ok (.aload_n 0, 1) := od_42  (by decide +kernel)
theorem dX12_price_61 : decode cX12_price 61 = .ok (.getfield 7, 3) := od_180 (a := 0) (b := 7) (by decide +kernel) (by decide)
theorem dX12_price_64 : decode cX12_price 64 = .ok (.bipush 6, 2) := od_16 (a := 6) (by decide +kernel) (by decide +kernel)
theorem dX12_price_66 : decode cX12_price 66 = .ok (.iaload, 1) := od_46  (by decide +kernel)
theorem dX12_price_67 : decode cX12_price 67 = .ok (.imul, 1) := od_104  (by decide +kernel)
theorem dX12_price_68 : decode cX12_price 68 = .ok (.iadd, 1) := od_96  (by decide +kernel)
theorem dX12_price_69 : decode cX12_price 69 = .ok (.istore 4, 2) := od_54 (n := 4) (by decide +kernel)
theorem dX12_price_71 : decode cX12_price 71 = .ok (.aload_n 0, 1) := od_42  (by decide +kernel)
theorem dX12_price_72 : decode cX12_price 72 = .ok (.getfield 7, 3) := od_180 (a := 0) (b := 7) (by decide +kernel) (by decide)
theorem dX12_price_75 : decode cX12_price 75 = .ok (.iload 4, 2) := od_21 (n := 4) (by decide +kernel)
theorem dX12_price_77 : decode cX12_price 77 = .ok (.iload_n 1, 1) := od_27  (by decide +kernel)
theorem dX12_price_78 : decode cX12_price 78 = .ok (.iastore, 1) := od_79  (by decide +kernel)
theorem dX12_price_79 : decode cX12_price 79 = .ok (.aload_n 0, 1) := od_42  (by decide +kernel)
theorem dX12_price_80 : decode cX12_price 80 = .ok (.getfield 7, 3) := od_180 (a := 0) (b := 7) (by decide +kernel) (by decide)
theorem dX12_price_83 : decode cX12_price 83 = .ok (.iload 4, 2) := od_21 (n := 4) (by decide +kernel)
theorem dX12_price_85 : decode cX12_price 85 = .ok (.iconst 1, 1) := od_4  (by decide +kernel)
theorem dX12_price_86 : decode cX12_price 86 = .ok (.iadd, 1) := od_96  (by decide +kernel)
theorem dX12_price_87 : decode cX12_price 87 = .ok (.iload_n 2, 1) := od_28  (by decide +kernel)
theorem dX12_price_88 : decode cX12_price 88 = .ok (.iastore, 1) := od_79  (by decide +kernel)
theorem dX12_price_89 : decode cX12_price 89 = .ok (.aload_n 0, 1) := od_42  (by decide +kernel)
theorem dX12_price_90 : decode cX12_price 90 = .ok (.getfield 7, 3) := od_180 (a := 0) (b := 7) (by decide +kernel) (by decide)
theorem dX12_price_93 : decode cX12_price 93 = .ok (.iload 4, 2) := od_21 (n := 4) (by decide +kernel)
theorem dX12_price_95 : decode cX12_price 95 = .ok (.iconst 2, 1) := od_5  (by decide +kernel)
theorem dX12_price_96 : decode cX12_price 96 = .ok (.iadd, 1) := od_96  (by decide +kernel)
theorem dX12_price_97 : decode cX12_price 97 = .ok (.iload_n 3, 1) := od_29  (by decide +kernel)
theorem dX12_price_98 : decode cX12_price 98 = .ok (.iastore, 1) := od_79  (by decide +kernel)
theorem dX12_price_99 : decode cX12_price 99 = .ok (.aload_n 0, 1) := od_42  (by decide +kernel)
theorem dX12_price_100 : decode cX12_price 100 = .ok (.getfield 7, 3) := od_180 (a := 0) (b := 7) (by decide +kernel) (by decide)
theorem dX12_price_103 : decode cX12_price 103 = .ok (.bipush 6, 2) := od_16 (a := 6) (by decide +kernel) (by decide +kernel)
theorem dX12_price_105 : decode cX12_price 105 = .ok (.dup2, 1) := od_92  (by decide +kernel)
theorem dX12_price_106 : decode cX12_price 106 = .ok (.iaload, 1) := od_46  (by decide +kernel)
theorem dX12_price_107 : decode cX12_price 107 = .ok (.iconst 1, 1) := od_4  (by decide +kernel)
theorem dX12_price_108 : decode cX12_price 108 = .ok (.iadd, 1) := od_96  (by decide +kernel)
theorem dX12_price_109 : decode cX12_price 109 = .ok (.iastore, 1) := od_79  (by decide +kernel)
theorem dX12_price_110 : decode cX12_price 110 = .ok (.aload_n 0, 1) := od_42  (by decide +kernel)
theorem dX12_price_111 : decode cX12_price 111 = .ok (.aload_n 0, 1) := od_42  (by decide +kernel)
theorem dX12_price_112 : decode cX12_price 112 = .ok (.getfield 7, 3) := od_180 (a := 0) (b := 7) (by decide +kernel) (by decide)
theorem dX12_price_115 : decode cX12_price 115 = .ok (.bipush 6, 2) := od_16 (a := 6) (by decide +kernel) (by decide +kernel)
theorem dX12_price_117 : decode cX12_price 117 = .ok (.iaload, 1) := od_46  (by decide +kernel)
theorem dX12_price_118 : decode cX12_price 118 = .ok (.invokevirtual 105, 3) := od_182 (a := 0) (b := 105) (by decide +kernel) (by decide)
theorem dX12_price_121 : decode cX12_price 121 = .ok (.ireturn, 1) := od_172  (by decide +kernel)
theorem dX12_priceOf_0 : decode cX12_priceOf 0 = .ok (.iconst 0, 1) := od_3  (by decide +kernel)
theorem dX12_priceOf_1 : decode cX12_priceOf 1 = .ok (.istore_n 3, 1) := od_62  (by decide +kernel)
theorem dX12_priceOf_2 : decode cX12_priceOf 2 = .ok (.iconst (-1), 1) := od_2  (by decide +kernel)
theorem dX12_priceOf_3 : decode cX12_priceOf 3 = .ok (.istore 4, 2) := od_54 (n := 4) (by decide +kernel)
theorem dX12_priceOf_5 : decode cX12_priceOf 5 = .ok (.iconst 0, 1) := od_3  (by decide +kernel)
theorem dX12_priceOf_6 : decode cX12_priceOf 6 = .ok (.istore 5, 2) := od_54 (n := 5) (by decide +kernel)
theorem dX12_priceOf_8 : decode cX12_priceOf 8 = .ok (.iload 5, 2) := od_21 (n := 5) (by decide +kernel)
theorem dX12_priceOf_10 : decode cX12_priceOf 10 = .ok (.aload_n 0, 1) := od_42  (by decide +kernel)
theorem dX12_priceOf_11 : decode cX12_priceOf 11 = .ok (.getfield 7, 3) := od_180 (a := 0) (b := 7) (by decide +kernel) (by decide)
theorem dX12_priceOf_14 : decode cX12_priceOf 14 = .ok (.bipush 6, 2) := od_16 (a := 6) (by decide +kernel) (by decide +kernel)
theorem dX12_priceOf_16 : decode cX12_priceOf 16 = .ok (.iaload, 1) := od_46  (by decide +kernel)
theorem dX12_priceOf_17 : decode cX12_priceOf 17 = .ok (.if_icmp .ge 74, 3) := od_162 (a := 0) (b := 74) (by decide +kernel) (by decide +kernel)
theorem dX12_priceOf_20 : decode cX12_priceOf 20 = .ok (.sipush 2011, 3) := od_17 (a := 7) (b := 219) (by decide +kernel) (by decide +kernel)
theorem dX12_priceOf_23 : decode cX12_priceOf 23 = .ok (.iconst 3, 1) := od_6  (by decide +kernel)
theorem dX12_priceOf_24 : decode cX12_priceOf 24 = .ok (.iload 5, 2) := od_21 (n := 5) (by decide +kernel)
theorem dX12_priceOf_26 : decode cX12_priceOf 26 = .ok (.imul, 1) := od_104  (by decide +kernel)
theorem dX12_priceOf_27 : decode cX12_priceOf 27 = .ok (.iadd, 1) := od_96  (by decide +kernel)
theorem dX12_priceOf_28 : decode cX12_priceOf 28 = .ok (.istore 6, 2) := od_54 (n := 6) (by decide +kernel)
theorem dX12_priceOf_30 : decode cX12_priceOf 30 = .ok (.aload_n 0, 1) := od_42  (by decide +kernel)
theorem dX12_priceOf_31 : decode cX12_priceOf 31 = .ok (.getfield 7, 3) := od_180 (a := 0) (b := 7) (by decide +kernel) (by decide)
theorem dX12_priceOf_34 : decode cX12_priceOf 34 = .ok (.iload 6, 2) := od_21 (n := 6) (by decide +kernel)
theorem dX12_priceOf_36 : decode cX12_priceOf 36 = .ok (.iconst 2, 1) := od_5  (by decide +kernel)
theorem dX12_priceOf_37 : decode cX12_priceOf 37 = .ok (.iadd, 1) := od_96  (by decide +kernel)
theorem dX12_priceOf_38 : decode cX12_priceOf 38 = .ok (.iaload, 1) := od_46  (by decide +kernel)
theorem dX12_priceOf_39 : decode cX12_priceOf 39 = .ok (.iload_n 2, 1) := od_28  (by decide +kernel)
theorem dX12_priceOf_40 : decode cX12_priceOf 40 = .ok (.if_icmp .gt 45, 3) := od_163 (a := 0) (b := 45) (by decide +kernel) (by decide +kernel)
theorem dX12_priceOf_43 : decode cX12_priceOf 43 = .ok (.aload_n 0, 1) := od_42  (by decide +kernel)
theorem dX12_priceOf_44 : decode cX12_priceOf 44 = .ok (.getfield 7, 3) := od_180 (a := 0) (b := 7) (by decide +kernel) (by decide)
theorem dX12_priceOf_47 : decode cX12_priceOf 47 = .ok (.iload 6, 2) := od_21 (n := 6) (by decide +kernel)
theorem dX12_priceOf_49 : decode cX12_priceOf 49 = .ok (.iaload, 1) := od_46  (by decide +kernel)
theorem dX12_priceOf_50 : decode cX12_priceOf 50 = .ok (.iload_n 1, 1) := od_27  (by decide +kernel)
theorem dX12_priceOf_51 : decode cX12_priceOf 51 = .ok (.if_icmp .gt 34, 3) := od_163 (a := 0) (b := 34) (by decide +kernel) (by decide +kernel)
theorem dX12_priceOf_54 : decode cX12_priceOf 54 = .ok (.aload_n 0, 1) := od_42  (by decide +kernel)
theorem dX12_priceOf_55 : decode cX12_priceOf 55 = .ok (.getfield 7, 3) := od_180 (a := 0) (b := 7) (by decide +kernel) (by decide)
theorem dX12_priceOf_58 : decode cX12_priceOf 58 = .ok (.iload 6, 2) := od_21 (n := 6) (by decide +kernel)
theorem dX12_priceOf_60 : decode cX12_priceOf 60 = .ok (.iaload, 1) := od_46  (by decide +kernel)
theorem dX12_priceOf_61 : decode cX12_priceOf 61 = .ok (.iload 4, 2) := od_21 (n := 4) (by decide +kernel)
theorem dX12_priceOf_63 : decode cX12_priceOf 63 = .ok (.if_icmp .lt 22, 3) := od_161 (a := 0) (b := 22) (by decide +kernel) (by decide +kernel)
theorem dX12_priceOf_66 : decode cX12_priceOf 66 = .ok (.aload_n 0, 1) := od_42  (by decide +kernel)
theorem dX12_priceOf_67 : decode cX12_priceOf 67 = .ok (.getfield 7, 3) := od_180 (a := 0) (b := 7) (by decide +kernel) (by decide)
theorem dX12_priceOf_70 : decode cX12_priceOf 70 = .ok (.iload 6, 2) := od_21 (n := 6) (by decide +kernel)
theorem dX12_priceOf_72 : decode cX12_priceOf 72 = .ok (.iaload, 1) := od_46  (by decide +kernel)
theorem dX12_priceOf_73 : decode cX12_priceOf 73 = .ok (.istore 4, 2) := od_54 (n := 4) (by decide +kernel)
theorem dX12_priceOf_75 : decode cX12_priceOf 75 = .ok (.aload_n 0, 1) := od_42  (by decide +kernel)
theorem dX12_priceOf_76 : decode cX12_priceOf 76 = .ok (.getfield 7, 3) := od_180 (a := 0) (b := 7) (by decide +kernel) (by decide)
theorem dX12_priceOf_79 : decode cX12_priceOf 79 = .ok (.iload 6, 2) := od_21 (n := 6) (by decide +kernel)
theorem dX12_priceOf_81 : decode cX12_priceOf 81 = .ok (.iconst 1, 1) := od_4  (by decide +kernel)
theorem dX12_priceOf_82 : decode cX12_priceOf 82 = .ok (.iadd, 1) := od_96  (by decide +kernel)
theorem dX12_priceOf_83 : decode cX12_priceOf 83 = .ok (.iaload, 1) := od_46  (by decide +kernel)
theorem dX12_priceOf_84 : decode cX12_priceOf 84 = .ok (.istore_n 3, 1) := od_62  (by decide +kernel)
theorem dX12_priceOf_85 : decode cX12_priceOf 85 = .ok (.iinc 5 1, 3) := od_132 (a := 5) (b := 1) (by decide +kernel) (by decide +kernel)
theorem dX12_priceOf_88 : decode cX12_priceOf 88 = .ok (.goto (-80), 3) := od_167 (a := 255) (b := 176) (by decide +kernel) (by decide +kernel)
theorem dX12_priceOf_91 : decode cX12_priceOf 91 = .ok (.iload_n 3, 1) := od_29  (by decide +kernel)
theorem dX12_priceOf_92 : decode cX12_priceOf 92 = .ok (.ireturn, 1) := od_172  (by decide +kernel)
theorem gX12_force_X12_isHour : GoodIn WALL (va_wsS RX12 144 yX12_isHour wqX12_isHour) := wg_S wa_351 wa_352 wa_5 wa_353
theorem gX12_force_X12_in : GoodIn WALL (va_wsS RX12 99 yX12_in wqX12_in) := wg_S wa_213 wa_214 wa_5 wa_215
theorem gX12_force_X12_told : GoodIn WALL (wsV RX12 105 RX12 yX12_told wqX12_told) := wg_V wa_216 wa_217 wa_218 wa_5 wa_219
theorem dX12_force_0 : decode cX12_force 0 = .ok (.aload_n 0, 1) := od_42  (by decide +kernel)
theorem dX12_force_1 : decode cX12_force 1 = .ok (.iconst 0, 1) := od_3  (by decide +kernel)
theorem dX12_force_2 : decode cX12_force 2 = .ok (.putfield 91, 3) := od_181 (a := 0) (b := 91) (by decide +kernel) (by decide)
theorem dX12_force_5 : decode cX12_force 5 = .ok (.iload_n 2, 1) := od_28  (by decide +kernel)
theorem dX12_force_6 : decode cX12_force 6 = .ok (.invokestatic 144, 3) := od_184 (a := 0) (b := 144) (by decide +kernel) (by decide)
theorem dX12_force_9 : decode cX12_force 9 = .ok (.ifCond .eq 21, 3) := od_153 (a := 0) (b := 21) (by decide +kernel) (by decide +kernel)
theorem dX12_force_12 : decode cX12_force 12 = .ok (.iload_n 1, 1) := od_27  (by decide +kernel)
theorem dX12_force_13 : decode cX12_force 13 = .ok (.i2l, 1) := od_133  (by decide +kernel)
theorem dX12_force_14 : decode cX12_force 14 = .ok (.lconst 0, 1) := od_9  (by decide +kernel)
theorem dX12_force_15 : decode cX12_force 15 = .ok (.iload_n 2, 1) := od_28  (by decide +kernel)
theorem dX12_force_16 : decode cX12_force 16 = .ok (.i2l, 1) := od_133  (by decide +kernel)
theorem dX12_force_17 : decode cX12_force 17 = .ok (.invokestatic 99, 3) := od_184 (a := 0) (b := 99) (by decide +kernel) (by decide)
theorem dX12_force_20 : decode cX12_force 20 = .ok (.ifCond .eq 10, 3) := od_153 (a := 0) (b := 10) (by decide +kernel) (by decide +kernel)
theorem dX12_force_23 : decode cX12_force 23 = .ok (.iload_n 3, 1) := od_29  (by decide +kernel)
theorem dX12_force_24 : decode cX12_force 24 = .ok (.invokestatic 144, 3) := od_184 (a := 0) (b := 144) (by decide +kernel) (by decide)
theorem dX12_force_27 : decode cX12_force 27 = .ok (.ifCond .ne 9, 3) := od_154 (a := 0) (b := 9) (by decide +kernel) (by decide +kernel)
theorem dX12_force_30 : decode cX12_force 30 = .ok (.aload_n 0, 1) := od_42  (by decide +kernel)
theorem dX12_force_31 : decode cX12_force 31 = .ok (.iconst (-1), 1) := od_2  (by decide +kernel)
theorem dX12_force_32 : decode cX12_force 32 = .ok (.invokevirtual 105, 3) := od_182 (a := 0) (b := 105) (by decide +kernel) (by decide)
theorem dX12_force_35 : decode cX12_force 35 = .ok (.ireturn, 1) := od_172  (by decide +kernel)
theorem dX12_force_36 : decode cX12_force 36 = .ok (.aload_n 0, 1) := od_42  (by decide +kernel)
theorem dX12_force_37 : decode cX12_force 37 = .ok (.getfield 7, 3) := od_180 (a := 0) (b := 7) (by decide +kernel) (by decide)
theorem dX12_force_40 : decode cX12_force 40 = .ok (.bipush 7, 2) := od_16 (a := 7) (by decide +kernel) (by decide +kernel)
theorem dX12_force_42 : decode cX12_force 42 = .ok (.iaload, 1) := od_46  (by decide +kernel)
theorem dX12_force_43 : decode cX12_force 43 = .ok (.bipush 20, 2) := od_16 (a := 20) (by decide +kernel) (by decide +kernel)
theorem dX12_force_45 : decode cX12_force 45 = .ok (.if_icmp .ne 10, 3) := od_160 (a := 0) (b := 10) (by decide +kernel) (by decide +kernel)
theorem dX12_force_48 : decode cX12_force 48 = .ok (.aload_n 0, 1) := od_42  (by decide +kernel)
theorem dX12_force_49 : decode cX12_force 49 = .ok (.bipush (-5), 2) := od_16 (a := 251) (by decide +kernel) (by decide +kernel)
theorem dX12_force_51 : decode cX12_force 51 = .ok (.invokevirtual 105, 3) := od_182 (a := 0) (b := 105) (by decide +kernel) (by decide)
theorem dX12_force_54 : decode cX12_force 54 = .ok (.ireturn, 1) := od_172  (by decide +kernel)
theorem dX12_force_55 : decode cX12_force 55 = .ok (.sipush 2191, 3) := od_17 (a := 8) (b := 143) (by decide +kernel) (by decide +kernel)
theorem dX12_force_58 : decode cX12_force 58 = .ok (.iconst 3, 1) := od_6  (by decide +kernel)
theorem dX12_force_59 : decode cX12_force 59 = .ok (.aload_n 0, 1) := od_42  (by decide +kernel)
theorem dX12_force_60 : decode cX12_force 60 = .ok (.getfield 7, 3) := od_180 (a := 0) (b := 7) (by decide +kernel) (by decide)
theorem dX12_force_63 : decode cX12_force 63 = .ok (.bipush 7, 2) := od_16 (a := 7) (by decide +kernel) (by decide +kernel)
theorem dX12_force_65 : decode cX12_force 65 = .ok (.iaload, 1) := od_46  (by decide +kernel)
theorem dX12_force_66 : decode cX12_force 66 = .ok (.imul, 1) := od_104  (by decide +kernel)
theorem dX12_force_67 : decode cX12_force 67 = .ok (.iadd, 1) := od_96  (by decide +kernel)
theorem dX12_force_68 : decode cX12_force 68 = .ok (.istore 4, 2) := od_54 (n := 4) (by decide +kernel)
theorem dX12_force_70 : decode cX12_force 70 = .ok (.aload_n 0, 1) := od_42  (by decide +kernel)
theorem dX12_force_71 : decode cX12_force 71 = .ok (.getfield 7, 3) := od_180 (a := 0) (b := 7) (by decide +kernel) (by decide)
theorem dX12_force_74 : decode cX12_force 74 = .ok (.iload 4, 2) := od_21 (n := 4) (by decide +kernel)
theorem dX12_force_76 : decode cX12_force 76 = .ok (.iload_n 1, 1) := od_27  (by decide +kernel)
theorem dX12_force_77 : decode cX12_force 77 = .ok (.iastore, 1) := od_79  (by decide +kernel)
theorem dX12_force_78 : decode cX12_force 78 = .ok (.aload_n 0, 1) := od_42  (by decide +kernel)
theorem dX12_force_79 : decode cX12_force 79 = .ok (.getfield 7, 3) := od_180 (a := 0) (b := 7) (by decide +kernel) (by decide)
theorem dX12_force_82 : decode cX12_force 82 = .ok (.iload 4, 2) := od_21 (n := 4) (by decide +kernel)
theorem dX12_force_84 : decode cX12_force 84 = .ok (.iconst 1, 1) := od_4  (by decide +kernel)
theorem dX12_force_85 : decode cX12_force 85 = .ok (.iadd, 1) := od_96  (by decide +kernel)
theorem dX12_force_86 : decode cX12_force 86 = .ok (.iload_n 2, 1) := od_28  (by decide +kernel)
theorem dX12_force_87 : decode cX12_force 87 = .ok (.iastore, 1) := od_79  (by decide +kernel)
theorem dX12_force_88 : decode cX12_force 88 = .ok (.aload_n 0, 1) := od_42  (by decide +kernel)
theorem dX12_force_89 : decode cX12_force 89 = .ok (.getfield 7, 3) := od_180 (a := 0) (b := 7) (by decide +kernel) (by decide)
theorem dX12_force_92 : decode cX12_force 92 = .ok (.iload 4, 2) := od_21 (n := 4) (by decide +kernel)
theorem dX12_force_94 : decode cX12_force 94 = .ok (.iconst 2, 1) := od_5  (by decide +kernel)
theorem dX12_force_95 : decode cX12_force 95 = .ok (.iadd, 1) := od_96  (by decide +kernel)
theorem dX12_force_96 : decode cX12_force 96 = .ok (.iload_n 3, 1) := od_29  (by decide +kernel)
theorem dX12_force_97 : decode cX12_force 97 = .ok (.iastore, 1) := od_79  (by decide +kernel)
theorem dX12_force_98 : decode cX12_force 98 = .ok (.aload_n 0, 1) := od_42  (by decide +kernel)
theorem dX12_force_99 : decode cX12_force 99 = .ok (.getfield 7, 3) := od_180 (a := 0) (b := 7) (by decide +kernel) (by decide)
theorem dX12_force_102 : decode cX12_force 102 = .ok (.bipush 7, 2) := od_16 (a := 7) (by decide +kernel) (by decide +kernel)
theorem dX12_force_104 : decode cX12_force 104 = .ok (.dup2, 1) := od_92  (by decide +kernel)
theorem dX12_force_105 : decode cX12_force 105 = .ok (.iaload, 1) := od_46  (by decide +kernel)
theorem dX12_force_106 : decode cX12_force 106 = .ok (.iconst 1, 1) := od_4  (by decide +kernel)
theorem dX12_force_107 : decode cX12_force 107 = .ok (.iadd, 1) := od_96  (by decide +kernel)
theorem dX12_force_108 : decode cX12_force 108 = .ok (.iastore, 1) := od_79  (by decide +kernel)
theorem dX12_force_109 : decode cX12_force 109 = .ok (.aload_n 0, 1) := od_42  (by decide +kernel)
theorem dX12_force_110 : decode cX12_force 110 = .ok (.aload_n 0, 1) := od_42  (by decide +kernel)
theorem dX12_force_111 : decode cX12_force 111 = .ok (.getfield 7, 3) := od_180 (a := 0) (b := 7) (by decide +kernel) (by decide)
theorem dX12_force_114 : decode cX12_force 114 = .ok (.bipush 7, 2) := od_16 (a := 7) (by decide +kernel) (by decide +kernel)
theorem dX12_force_116 : decode cX12_force 116 = .ok (.iaload, 1) := od_46  (by decide +kernel)
theorem dX12_force_117 : decode cX12_force 117 = .ok (.invokevirtual 105, 3) := od_182 (a := 0) (b := 105) (by decide +kernel) (by decide)
theorem dX12_force_120 : decode cX12_force 120 = .ok (.ireturn, 1) := od_172  (by decide +kernel)
theorem gX12_isForce_X12_in : GoodIn WALL (va_wsS RX12 99 yX12_in wqX12_in) := wg_S wa_213 wa_214 wa_5 wa_215
theorem dX12_isForce_0 : decode cX12_isForce 0 = .ok (.iconst 0, 1) := od_3  (by decide +kernel)
theorem dX12_isForce_1 : decode cX12_isForce 1 = .ok (.istore_n 3, 1) := od_62  (by decide +kernel)
theorem dX12_isForce_2 : decode cX12_isForce 2 = .ok (.iconst 0, 1) := od_3  (by decide +kernel)
theorem dX12_isForce_3 : decode cX12_isForce 3 = .ok (.istore 4, 2) := od_54 (n := 4) (by decide +kernel)
theorem dX12_isForce_5 : decode cX12_isForce 5 = .ok (.iload 4, 2) := od_21 (n := 4) (by decide +kernel)
theorem dX12_isForce_7 : decode cX12_isForce 7 = .ok (.aload_n 0, 1) := od_42  (by decide +kernel)
theorem dX12_isForce_8 : decode cX12_isForce 8 = .ok (.getfield 7, 3) := od_180 (a := 0) (b := 7) (by decide +kernel) (by decide)
theorem dX12_isForce_11 : decode cX12_isForce 11 = .ok (.bipush 7, 2) := od_16 (a := 7) (by decide +kernel) (by decide +kernel)
theorem dX12_isForce_13 : decode cX12_isForce 13 = .ok (.iaload, 1) := od_46  (by decide +kernel)
theorem dX12_isForce_14 : decode cX12_isForce 14 = .ok (.if_icmp .ge 68, 3) := od_162 (a := 0) (b := 68) (by decide +kernel) (by decide +kernel)
theorem dX12_isForce_17 : decode cX12_isForce 17 = .ok (.sipush 2191, 3) := od_17 (a := 8) (b := 143) (by decide +kernel) (by decide +kernel)
theorem dX12_isForce_20 : decode cX12_isForce 20 = .ok (.iconst 3, 1) := od_6  (by decide +kernel)
theorem dX12_isForce_21 : decode cX12_isForce 21 = .ok (.iload 4, 2) := od_21 (n := 4) (by decide +kernel)
theorem dX12_isForce_23 : decode cX12_isForce 23 = .ok (.imul, 1) := od_104  (by decide +kernel)
theorem dX12_isForce_24 : decode cX12_isForce 24 = .ok (.iadd, 1) := od_96  (by decide +kernel)
theorem dX12_isForce_25 : decode cX12_isForce 25 = .ok (.istore 5, 2) := od_54 (n := 5) (by decide +kernel)
theorem dX12_isForce_27 : decode cX12_isForce 27 = .ok (.iload_n 3, 1) := od_29  (by decide +kernel)
theorem dX12_isForce_28 : decode cX12_isForce 28 = .ok (.ifCond .ne 42, 3) := od_154 (a := 0) (b := 42) (by decide +kernel) (by decide +kernel)
theorem dX12_isForce_31 : decode cX12_isForce 31 = .ok (.aload_n 0, 1) := od_42  (by decide +kernel)
theorem dX12_isForce_32 : decode cX12_isForce 32 = .ok (.getfield 7, 3) := od_180 (a := 0) (b := 7) (by decide +kernel) (by decide)
theorem dX12_isForce_35 : decode cX12_isForce 35 = .ok (.iload 5, 2) := od_21 (n := 5) (by decide +kernel)
theorem dX12_isForce_37 : decode cX12_isForce 37 = .ok (.iconst 2, 1) := od_5  (by decide +kernel)
theorem dX12_isForce_38 : decode cX12_isForce 38 = .ok (.iadd, 1) := od_96  (by decide +kernel)
theorem dX12_isForce_39 : decode cX12_isForce 39 = .ok (.iaload, 1) := od_46  (by decide +kernel)
theorem dX12_isForce_40 : decode cX12_isForce 40 = .ok (.iload_n 2, 1) := od_28  (by decide +kernel)
theorem dX12_isForce_41 : decode cX12_isForce 41 = .ok (.if_icmp .gt 33, 3) := od_163 (a := 0) (b := 33) (by decide +kernel) (by decide +kernel)
theorem dX12_isForce_44 : decode cX12_isForce 44 = .ok (.iload_n 1, 1) := od_27  (by decide +kernel)
theorem dX12_isForce_45 : decode cX12_isForce 45 = .ok (.i2l, 1) := od_133  (by decide +kernel)
theorem dX12_isForce_46 : decode cX12_isForce 46 = .ok (.aload_n 0, 1) := od_42  (by decide +kernel)
theorem dX12_isForce_47 : decode cX12_isForce 47 = .ok (.getfield 7, 3) := od_180 (a := 0) (b := 7) (by decide +kernel) (by decide)
theorem dX12_isForce_50 : decode cX12_isForce 50 = .ok (.iload 5, 2) := od_21 (n := 5) (by decide +kernel)
theorem dX12_isForce_52 : decode cX12_isForce 52 = .ok (.iaload, 1) := od_46  (by decide +kernel)
theorem dX12_isForce_53 : decode cX12_isForce 53 = .ok (.i2l, 1) := od_133  (by decide +kernel)
theorem dX12_isForce_54 : decode cX12_isForce 54 = .ok (.aload_n 0, 1) := od_42  (by decide +kernel)
theorem dX12_isForce_55 : decode cX12_isForce 55 = .ok (.getfield 7, 3) := od_180 (a := 0) (b := 7) (by decide +kernel) (by decide)
theorem dX12_isForce_58 : decode cX12_isForce 58 = .ok (.iload 5, 2) := od_21 (n := 5) (by decide +kernel)
theorem dX12_isForce_60 : decode cX12_isForce 60 = .ok (.iconst 1, 1) := od_4  (by decide +kernel)
theorem dX12_isForce_61 : decode cX12_isForce 61 = .ok (.iadd, 1) := od_96  (by decide +kernel)
theorem dX12_isForce_62 : decode cX12_isForce 62 = .ok (.iaload, 1) := od_46  (by decide +kernel)
theorem dX12_isForce_63 : decode cX12_isForce 63 = .ok (.i2l, 1) := od_133  (by decide +kernel)
theorem dX12_isForce_64 : decode cX12_isForce 64 = .ok (.invokestatic 99, 3) := od_184 (a := 0) (b := 99) (by decide +kernel) (by decide)
theorem dX12_isForce_67 : decode cX12_isForce 67 = .ok (.ifCond .eq 7, 3) := od_153 (a := 0) (b := 7) (by decide +kernel) (by decide +kernel)
theorem dX12_isForce_70 : decode cX12_isForce 70 = .ok (.iconst 1, 1) := od_4  (by decide +kernel)
theorem dX12_isForce_71 : decode cX12_isForce 71 = .ok (.goto 4, 3) := od_167 (a := 0) (b := 4) (by decide +kernel) (by decide +kernel)
theorem dX12_isForce_74 : decode cX12_isForce 74 = .ok (.iconst 0, 1) := od_3  (by decide +kernel)
theorem dX12_isForce_75 : decode cX12_isForce 75 = .ok (.istore_n 3, 1) := od_62  (by decide +kernel)
theorem dX12_isForce_76 : decode cX12_isForce 76 = .ok (.iinc 4 1, 3) := od_132 (a := 4) (b := 1) (by decide +kernel) (by decide +kernel)
theorem dX12_isForce_79 : decode cX12_isForce 79 = .ok (.goto (-74), 3) := od_167 (a := 255) (b := 182) (by decide +kernel) (by decide +kernel)
theorem dX12_isForce_82 : decode cX12_isForce 82 = .ok (.iload_n 3, 1) := od_29  (by decide +kernel)
theorem dX12_isForce_83 : decode cX12_isForce 83 = .ok (.ireturn, 1) := od_172  (by decide +kernel)
theorem gX12_bill_X12_in : GoodIn WALL (va_wsS RX12 99 yX12_in wqX12_in) := wg_S wa_213 wa_214 wa_5 wa_215
theorem gX12_bill_X12_told : GoodIn WALL (wsV RX12 105 RX12 yX12_told wqX12_told) := wg_V wa_216 wa_217 wa_218 wa_5 wa_219
theorem gX12_bill_X12_isLanding : GoodIn WALL (wsV RX12 237 RX12 yX12_isLanding wqX12_isLanding) := wg_V wa_701 wa_702 wa_703 wa_5 wa_704
theorem gX12_bill_X12_landingAt : GoodIn WALL (va_wsS RX12 242 yX12_landingAt wqX12_landingAt) := wg_S wa_705 wa_706 wa_5 wa_707
theorem dX12_bill_0 : decode cX12_bill 0 = .ok (.aload_n 0, 1) := od_42  (by decide +kernel)
theorem dX12_bill_1 : decode cX12_bill 1 = .ok (.iconst 0, 1) := od_3  (by decide +kernel)
theorem dX12_bill_2 : decode cX12_bill 2 = .ok (.putfield 91, 3) := od_181 (a := 0) (b := 91) (by decide +kernel) (by decide)
theorem dX12_bill_5 : decode cX12_bill 5 = .ok (.iload_n 2, 1) := od_28  (by decide +kernel)
theorem dX12_bill_6 : decode cX12_bill 6 = .ok (.i2l, 1) := od_133  (by decide +kernel)
theorem dX12_bill_7 : decode cX12_bill 7 = .ok (.lconst 0, 1) := od_9  (by decide +kernel)
theorem dX12_bill_8 : decode cX12_bill 8 = .ok (.ldc2_w 124, 3) := od_20 (a := 0) (b := 124) (by decide +kernel) (by decide)
theorem dX12_bill_11 : decode cX12_bill 11 = .ok (.invokestatic 99, 3) := od_184 (a := 0) (b := 99) (by decide +kernel) (by decide)
theorem dX12_bill_14 : decode cX12_bill 14 = .ok (.ifCond .ne 9, 3) := od_154 (a := 0) (b := 9) (by decide +kernel) (by decide +kernel)
theorem dX12_bill_17 : decode cX12_bill 17 = .ok (.aload_n 0, 1) := od_42  (by decide +kernel)
theorem dX12_bill_18 : decode cX12_bill 18 = .ok (.iconst (-1), 1) := od_2  (by decide +kernel)
theorem dX12_bill_19 : decode cX12_bill 19 = .ok (.invokevirtual 105, 3) := od_182 (a := 0) (b := 105) (by decide +kernel) (by decide)
theorem dX12_bill_22 : decode cX12_bill 22 = .ok (.ireturn, 1) := od_172  (by decide +kernel)
theorem dX12_bill_23 : decode cX12_bill 23 = .ok (.aload_n 0, 1) := od_42  (by decide +kernel)
theorem dX12_bill_24 : decode cX12_bill 24 = .ok (.iload_n 1, 1) := od_27  (by decide +kernel)
theorem dX12_bill_25 : decode cX12_bill 25 = .ok (.invokevirtual 237, 3) := od_182 (a := 0) (b := 237) (by decide +kernel) (by decide)
theorem dX12_bill_28 : decode cX12_bill 28 = .ok (.ifCond .ne 10, 3) := od_154 (a := 0) (b := 10) (by decide +kernel) (by decide +kernel)
theorem dX12_bill_31 : decode cX12_bill 31 = .ok (.aload_n 0, 1) := od_42  (by decide +kernel)
theorem dX12_bill_32 : decode cX12_bill 32 = .ok (.bipush (-2), 2) := od_16 (a := 254) (by decide +kernel) (by decide +kernel)
theorem dX12_bill_34 : decode cX12_bill 34 = .ok (.invokevirtual 105, 3) := od_182 (a := 0) (b := 105) (by decide +kernel) (by decide)
theorem dX12_bill_37 : decode cX12_bill 37 = .ok (.ireturn, 1) := od_172  (by decide +kernel)
theorem dX12_bill_38 : decode cX12_bill 38 = .ok (.aload_n 0, 1) := od_42  (by decide +kernel)
theorem dX12_bill_39 : decode cX12_bill 39 = .ok (.getfield 7, 3) := od_180 (a := 0) (b := 7) (by decide +kernel) (by decide)
theorem dX12_bill_42 : decode cX12_bill 42 = .ok (.iload_n 1, 1) := od_27  (by decide +kernel)
theorem dX12_bill_43 : decode cX12_bill 43 = .ok (.invokestatic 242, 3) := od_184 (a := 0) (b := 242) (by decide +kernel) (by decide)
theorem dX12_bill_46 : decode cX12_bill 46 = .ok (.bipush 11, 2) := od_16 (a := 11) (by decide +kernel) (by decide +kernel)
theorem dX12_bill_48 : decode cX12_bill 48 = .ok (.iadd, 1) := od_96  (by decide +kernel)
theorem dX12_bill_49 : decode cX12_bill 49 = .ok (.iaload, 1) := od_46  (by decide +kernel)
theorem dX12_bill_50 : decode cX12_bill 50 = .ok (.iconst (-1), 1) := od_2  (by decide +kernel)
theorem dX12_bill_51 : decode cX12_bill 51 = .ok (.if_icmp .eq 10, 3) := od_159 (a := 0) (b := 10) (by decide +kernel) (by decide +kernel)
theorem dX12_bill_54 : decode cX12_bill 54 = .ok (.aload_n 0, 1) := od_42  (by decide +kernel)
theorem dX12_bill_55 : decode cX12_bill 55 = .ok (.bipush (-4), 2) := od_16 (a := 252) (by decide +kernel) (by decide +kernel)
theorem dX12_bill_57 : decode cX12_bill 57 = .ok (.invokevirtual 105, 3) := od_182 (a := 0) (b := 105) (by decide +kernel) (by decide)
theorem dX12_bill_60 : decode cX12_bill 60 = .ok (.ireturn, 1) := od_172  (by decide +kernel)
theorem dX12_bill_61 : decode cX12_bill 61 = .ok (.aload_n 0, 1) := od_42  (by decide +kernel)
theorem dX12_bill_62 : decode cX12_bill 62 = .ok (.getfield 7, 3) := od_180 (a := 0) (b := 7) (by decide +kernel) (by decide)
theorem dX12_bill_65 : decode cX12_bill 65 = .ok (.iload_n 1, 1) := od_27  (by decide +kernel)
theorem dX12_bill_66 : decode cX12_bill 66 = .ok (.invokestatic 242, 3) := od_184 (a := 0) (b := 242) (by decide +kernel) (by decide)
theorem dX12_bill_69 : decode cX12_bill 69 = .ok (.bipush 11, 2) := od_16 (a := 11) (by decide +kernel) (by decide +kernel)
theorem dX12_bill_71 : decode cX12_bill 71 = .ok (.iadd, 1) := od_96  (by decide +kernel)
theorem dX12_bill_72 : decode cX12_bill 72 = .ok (.iload_n 2, 1) := od_28  (by decide +kernel)
theorem dX12_bill_73 : decode cX12_bill 73 = .ok (.iastore, 1) := od_79  (by decide +kernel)
theorem dX12_bill_74 : decode cX12_bill 74 = .ok (.aload_n 0, 1) := od_42  (by decide +kernel)
theorem dX12_bill_75 : decode cX12_bill 75 = .ok (.iconst 0, 1) := od_3  (by decide +kernel)
theorem dX12_bill_76 : decode cX12_bill 76 = .ok (.invokevirtual 105, 3) := od_182 (a := 0) (b := 105) (by decide +kernel) (by decide)
theorem dX12_bill_79 : decode cX12_bill 79 = .ok (.ireturn, 1) := od_172  (by decide +kernel)
theorem dX12_billed_0 : decode cX12_billed 0 = .ok (.aload_n 0, 1) := od_42  (by decide +kernel)
theorem dX12_billed_1 : decode cX12_billed 1 = .ok (.getfield 7, 3) := od_180 (a := 0) (b := 7) (by decide +kernel) (by decide)
theorem dX12_billed_4 : decode cX12_billed 4 = .ok (.iload_n 1, 1) := od_27  (by decide +kernel)
theorem dX12_billed_5 : decode cX12_billed 5 = .ok (.bipush 11, 2) := od_16 (a := 11) (by decide +kernel) (by decide +kernel)
theorem dX12_billed_7 : decode cX12_billed 7 = .ok (.iadd, 1) := od_96  (by decide +kernel)
theorem dX12_billed_8 : decode cX12_billed 8 = .ok (.iaload, 1) := od_46  (by decide +kernel)
theorem dX12_billed_9 : decode cX12_billed 9 = .ok (.iconst (-1), 1) := od_2  (by decide +kernel)
theorem dX12_billed_10 : decode cX12_billed 10 = .ok (.if_icmp .ne 14, 3) := od_160 (a := 0) (b := 14) (by decide +kernel) (by decide +kernel)
theorem dX12_billed_13 : decode cX12_billed 13 = .ok (.aload_n 0, 1) := od_42  (by decide +kernel)
theorem dX12_billed_14 : decode cX12_billed 14 = .ok (.getfield 7, 3) := od_180 (a := 0) (b := 7) (by decide +kernel) (by decide)
theorem dX12_billed_17 : decode cX12_billed 17 = .ok (.iload_n 1, 1) := od_27  (by decide +kernel)
theorem dX12_billed_18 : decode cX12_billed 18 = .ok (.iconst 4, 1) := od_7  (by decide +kernel)
theorem dX12_billed_19 : decode cX12_billed 19 = .ok (.iadd, 1) := od_96  (by decide +kernel)
theorem dX12_billed_20 : decode cX12_billed 20 = .ok (.iaload, 1) := od_46  (by decide +kernel)
theorem dX12_billed_21 : decode cX12_billed 21 = .ok (.goto 12, 3) := od_167 (a := 0) (b := 12) (by decide +kernel) (by decide +kernel)
theorem dX12_billed_24 : decode cX12_billed 24 = .ok (.aload_n 0, 1) := od_42  (by decide +kernel)
theorem dX12_billed_25 : decode cX12_billed 25 = .ok (.getfield 7, 3) := od_180 (a := 0) (b := 7) (by decide +kernel) (by decide)
theorem dX12_billed_28 : decode cX12_billed 28 = .ok (.iload_n 1, 1) := od_27  (by decide +kernel)
theorem dX12_billed_29 : decode cX12_billed 29 = .ok (.bipush 11, 2) := od_16 (a := 11) (by decide +kernel) (by decide +kernel)
theorem dX12_billed_31 : decode cX12_billed 31 = .ok (.iadd, 1) := od_96  (by decide +kernel)
theorem dX12_billed_32 : decode cX12_billed 32 = .ok (.iaload, 1) := od_46  (by decide +kernel)
theorem dX12_billed_33 : decode cX12_billed 33 = .ok (.ireturn, 1) := od_172  (by decide +kernel)
theorem dX12_four_0 : decode cX12_four 0 = .ok (.bipush 24, 2) := od_16 (a := 24) (by decide +kernel) (by decide +kernel)
theorem dX12_four_2 : decode cX12_four 2 = .ok (.istore_n 2, 1) := od_61  (by decide +kernel)
theorem dX12_four_3 : decode cX12_four 3 = .ok (.iload_n 2, 1) := od_28  (by decide +kernel)
theorem dX12_four_4 : decode cX12_four 4 = .ok (.ifCond .lt 35, 3) := od_155 (a := 0) (b := 35) (by decide +kernel) (by decide +kernel)
theorem dX12_four_7 : decode cX12_four 7 = .ok (.aload_n 0, 1) := od_42  (by decide +kernel)
theorem dX12_four_8 : decode cX12_four 8 = .ok (.getfield 27, 3) := od_180 (a := 0) (b := 27) (by decide +kernel) (by decide)
theorem dX12_four_11 : decode cX12_four 11 = .ok (.aload_n 0, 1) := od_42  (by decide +kernel)
theorem dX12_four_12 : decode cX12_four 12 = .ok (.getfield 252, 3) := od_180 (a := 0) (b := 252) (by decide +kernel) (by decide)
theorem dX12_four_15 : decode cX12_four 15 = .ok (.iload_n 1, 1) := od_27  (by decide +kernel)
theorem dX12_four_16 : decode cX12_four 16 = .ok (.iload_n 2, 1) := od_28  (by decide +kernel)
theorem dX12_four_17 : decode cX12_four 17 = .ok (.ishr, 1) := od_122  (by decide +kernel)
theorem dX12_four_18 : decode cX12_four 18 = .ok (.sipush 255, 3) := od_17 (a := 0) (b := 255) (by decide +kernel) (by decide +kernel)
theorem dX12_four_21 : decode cX12_four 21 = .ok (.iand, 1) := od_126  (by decide +kernel)
theorem dX12_four_22 : decode cX12_four 22 = .ok (.iastore, 1) := od_79  (by decide +kernel)
theorem dX12_four_23 : decode cX12_four 23 = .ok (.aload_n 0, 1) := od_42  (by decide +kernel)
theorem dX12_four_24 : decode cX12_four 24 = .ok (.dup, 1) := od_89  (by decide +kernel)
theorem dX12_four_25 : decode cX12_four 25 = .ok (.getfield 252, 3) := od_180 (a := 0) (b := 252) (by decide +kernel) (by decide)
theorem dX12_four_28 : decode cX12_four 28 = .ok (.iconst 1, 1) := od_4  (by decide +kernel)
theorem dX12_four_29 : decode cX12_four 29 = .ok (.iadd, 1) := od_96  (by decide +kernel)
theorem dX12_four_30 : decode cX12_four 30 = .ok (.putfield 252, 3) := od_181 (a := 0) (b := 252) (by decide +kernel) (by decide)
theorem dX12_four_33 : decode cX12_four 33 = .ok (.iinc 2 (-8), 3) := od_132 (a := 2) (b := 248) (by decide +kernel) (by decide +kernel)
theorem dX12_four_36 : decode cX12_four 36 = .ok (.goto (-33), 3) := od_167 (a := 255) (b := 223) (by decide +kernel) (by decide +kernel)
theorem dX12_four_39 : decode cX12_four 39 = .ok (.return_, 1) := od_177  (by decide +kernel)
theorem gX12_feed_X12_four : GoodIn WALL (wsV RX12 255 RX12 yX12_four wqX12_four) := wg_V wa_775 wa_776 wa_777 wa_5 wa_778
theorem dX12_feed_0 : decode cX12_feed 0 = .ok (.aload_n 0, 1) := od_42  (by decide +kernel)
theorem dX12_feed_1 : decode cX12_feed 1 = .ok (.iconst 0, 1) := od_3  (by decide +kernel)
theorem dX12_feed_2 : decode cX12_feed 2 = .ok (.putfield 91, 3) := od_181 (a := 0) (b := 91) (by decide +kernel) (by decide)
theorem dX12_feed_5 : decode cX12_feed 5 = .ok (.aload_n 0, 1) := od_42  (by decide +kernel)
theorem dX12_feed_6 : decode cX12_feed 6 = .ok (.getfield 252, 3) := od_180 (a := 0) (b := 252) (by decide +kernel) (by decide)
theorem dX12_feed_9 : decode cX12_feed 9 = .ok (.bipush 20, 2) := od_16 (a := 20) (by decide +kernel) (by decide +kernel)
theorem dX12_feed_11 : decode cX12_feed 11 = .ok (.iadd, 1) := od_96  (by decide +kernel)
theorem dX12_feed_12 : decode cX12_feed 12 = .ok (.sipush 400, 3) := od_17 (a := 1) (b := 144) (by decide +kernel) (by decide +kernel)
theorem dX12_feed_15 : decode cX12_feed 15 = .ok (.if_icmp .le 5, 3) := od_164 (a := 0) (b := 5) (by decide +kernel) (by decide +kernel)
theorem dX12_feed_18 : decode cX12_feed 18 = .ok (.iconst (-1), 1) := od_2  (by decide +kernel)
theorem dX12_feed_19 : decode cX12_feed 19 = .ok (.ireturn, 1) := od_172  (by decide +kernel)
theorem dX12_feed_20 : decode cX12_feed 20 = .ok (.aload_n 0, 1) := od_42  (by decide +kernel)
theorem dX12_feed_21 : decode cX12_feed 21 = .ok (.iload_n 1, 1) := od_27  (by decide +kernel)
theorem dX12_feed_22 : decode cX12_feed 22 = .ok (.invokevirtual 255, 3) := od_182 (a := 0) (b := 255) (by decide +kernel) (by decide)
theorem dX12_feed_25 : decode cX12_feed 25 = .ok (.aload_n 0, 1) := od_42  (by decide +kernel)
theorem dX12_feed_26 : decode cX12_feed 26 = .ok (.iload_n 2, 1) := od_28  (by decide +kernel)
theorem dX12_feed_27 : decode cX12_feed 27 = .ok (.invokevirtual 255, 3) := od_182 (a := 0) (b := 255) (by decide +kernel) (by decide)
theorem dX12_feed_30 : decode cX12_feed 30 = .ok (.aload_n 0, 1) := od_42  (by decide +kernel)
theorem dX12_feed_31 : decode cX12_feed 31 = .ok (.iload_n 3, 1) := od_29  (by decide +kernel)
theorem dX12_feed_32 : decode cX12_feed 32 = .ok (.invokevirtual 255, 3) := od_182 (a := 0) (b := 255) (by decide +kernel) (by decide)
theorem dX12_feed_35 : decode cX12_feed 35 = .ok (.aload_n 0, 1) := od_42  (by decide +kernel)
theorem dX12_feed_36 : decode cX12_feed 36 = .ok (.iload 4, 2) := od_21 (n := 4) (by decide +kernel)
theorem dX12_feed_38 : decode cX12_feed 38 = .ok (.invokevirtual 255, 3) := od_182 (a := 0) (b := 255) (by decide +kernel) (by decide)
theorem dX12_feed_41 : decode cX12_feed 41 = .ok (.aload_n 0, 1) := od_42  (by decide +kernel)
theorem dX12_feed_42 : decode cX12_feed 42 = .ok (.iload 5, 2) := od_21 (n := 5) (by decide +kernel)
theorem dX12_feed_44 : decode cX12_feed 44 = .ok (.invokevirtual 255, 3) := od_182 (a := 0) (b := 255) (by decide +kernel) (by decide)
theorem dX12_feed_47 : decode cX12_feed 47 = .ok (.aload_n 0, 1) := od_42  (by decide +kernel)
theorem dX12_feed_48 : decode cX12_feed 48 = .ok (.getfield 252, 3) := od_180 (a := 0) (b := 252) (by decide +kernel) (by decide)
theorem dX12_feed_51 : decode cX12_feed 51 = .ok (.ireturn, 1) := od_172  (by decide +kernel)
theorem dX12_end_0 : decode cX12_end 0 = .ok (.aload_n 0, 1) := od_42  (by decide +kernel)
theorem dX12_end_1 : decode cX12_end 1 = .ok (.iconst 0, 1) := od_3  (by decide +kernel)
theorem dX12_end_2 : decode cX12_end 2 = .ok (.putfield 91, 3) := od_181 (a := 0) (b := 91) (by decide +kernel) (by decide)
theorem dX12_end_5 : decode cX12_end 5 = .ok (.iload_n 1, 1) := od_27  (by decide +kernel)
theorem dX12_end_6 : decode cX12_end 6 = .ok (.ifCond .lt 11, 3) := od_155 (a := 0) (b := 11) (by decide +kernel) (by decide +kernel)
theorem dX12_end_9 : decode cX12_end 9 = .ok (.iload_n 1, 1) := od_27  (by decide +kernel)
theorem dX12_end_10 : decode cX12_end 10 = .ok (.aload_n 0, 1) := od_42  (by decide +kernel)
theorem dX12_end_11 : decode cX12_end 11 = .ok (.getfield 252, 3) := od_180 (a := 0) (b := 252) (by decide +kernel) (by decide)
theorem dX12_end_14 : decode cX12_end 14 = .ok (.if_icmp .le 5, 3) := od_164 (a := 0) (b := 5) (by decide +kernel) (by decide +kernel)
theorem dX12_end_17 : decode cX12_end 17 = .ok (.iconst (-1), 1) := od_2  (by decide +kernel)
theorem dX12_end_18 : decode cX12_end 18 = .ok (.ireturn, 1) := od_172  (by decide +kernel)
theorem dX12_end_19 : decode cX12_end 19 = .ok (.aload_n 0, 1) := od_42  (by decide +kernel)
theorem dX12_end_20 : decode cX12_end 20 = .ok (.iload_n 1, 1) := od_27  (by decide +kernel)
theorem dX12_end_21 : decode cX12_end 21 = .ok (.putfield 252, 3) := od_181 (a := 0) (b := 252) (by decide +kernel) (by decide)
theorem dX12_end_24 : decode cX12_end 24 = .ok (.iload_n 1, 1) := od_27  (by decide +kernel)
theorem dX12_end_25 : decode cX12_end 25 = .ok (.ireturn, 1) := od_172  (by decide +kernel)
theorem dX12_fault_0 : decode cX12_fault 0 = .ok (.aload_n 0, 1) := od_42  (by decide +kernel)
theorem dX12_fault_1 : decode cX12_fault 1 = .ok (.iconst 0, 1) := od_3  (by decide +kernel)
theorem dX12_fault_2 : decode cX12_fault 2 = .ok (.putfield 91, 3) := od_181 (a := 0) (b := 91) (by decide +kernel) (by decide)
theorem dX12_fault_5 : decode cX12_fault 5 = .ok (.aload_n 0, 1) := od_42  (by decide +kernel)
theorem dX12_fault_6 : decode cX12_fault 6 = .ok (.getfield 30, 3) := od_180 (a := 0) (b := 30) (by decide +kernel) (by decide)
theorem dX12_fault_9 : decode cX12_fault 9 = .ok (.ireturn, 1) := od_172  (by decide +kernel)
theorem gX12_settled_X12_isLanding : GoodIn WALL (wsV RX12 237 RX12 yX12_isLanding wqX12_isLanding) := wg_V wa_701 wa_702 wa_703 wa_5 wa_704
theorem gX12_settled_X12_in : GoodIn WALL (va_wsS RX12 99 yX12_in wqX12_in) := wg_S wa_213 wa_214 wa_5 wa_215
theorem gX12_settled_X12_landingAt : GoodIn WALL (va_wsS RX12 242 yX12_landingAt wqX12_landingAt) := wg_S wa_705 wa_706 wa_5 wa_707
theorem dX12_settled_0 : decode cX12_settled 0 = .ok (.aload_n 0, 1) := od_42  (by decide +kernel)
theorem dX12_settled_1 : decode cX12_settled 1 = .ok (.iconst 0, 1) := od_3  (by decide +kernel)
theorem dX12_settled_2 : decode cX12_settled 2 = .ok (.putfield 91, 3) := od_181 (a := 0) (b := 91) (by decide +kernel) (by decide)
theorem dX12_settled_5 : decode cX12_settled 5 = .ok (.aload_n 0, 1) := od_42  (by decide +kernel)
theorem dX12_settled_6 : decode cX12_settled 6 = .ok (.iload_n 1, 1) := od_27  (by decide +kernel)
theorem dX12_settled_7 : decode cX12_settled 7 = .ok (.invokevirtual 237, 3) := od_182 (a := 0) (b := 237) (by decide +kernel) (by decide)
theorem dX12_settled_10 : decode cX12_settled 10 = .ok (.ifCond .eq 31, 3) := od_153 (a := 0) (b := 31) (by decide +kernel) (by decide +kernel)
theorem dX12_settled_13 : decode cX12_settled 13 = .ok (.iload_n 2, 1) := od_28  (by decide +kernel)
theorem dX12_settled_14 : decode cX12_settled 14 = .ok (.i2l, 1) := od_133  (by decide +kernel)
theorem dX12_settled_15 : decode cX12_settled 15 = .ok (.lconst 0, 1) := od_9  (by decide +kernel)
theorem dX12_settled_16 : decode cX12_settled 16 = .ok (.ldc2_w 477, 3) := od_20 (a := 1) (b := 221) (by decide +kernel) (by decide)
theorem dX12_settled_19 : decode cX12_settled 19 = .ok (.invokestatic 99, 3) := od_184 (a := 0) (b := 99) (by decide +kernel) (by decide)
theorem dX12_settled_22 : decode cX12_settled 22 = .ok (.ifCond .eq 19, 3) := od_153 (a := 0) (b := 19) (by decide +kernel) (by decide +kernel)
theorem dX12_settled_25 : decode cX12_settled 25 = .ok (.aload_n 0, 1) := od_42  (by decide +kernel)
theorem dX12_settled_26 : decode cX12_settled 26 = .ok (.getfield 7, 3) := od_180 (a := 0) (b := 7) (by decide +kernel) (by decide)
theorem dX12_settled_29 : decode cX12_settled 29 = .ok (.iload_n 1, 1) := od_27  (by decide +kernel)
theorem dX12_settled_30 : decode cX12_settled 30 = .ok (.invokestatic 242, 3) := od_184 (a := 0) (b := 242) (by decide +kernel) (by decide)
theorem dX12_settled_33 : decode cX12_settled 33 = .ok (.bipush 12, 2) := od_16 (a := 12) (by decide +kernel) (by decide +kernel)
theorem dX12_settled_35 : decode cX12_settled 35 = .ok (.iadd, 1) := od_96  (by decide +kernel)
theorem dX12_settled_36 : decode cX12_settled 36 = .ok (.iaload, 1) := od_46  (by decide +kernel)
theorem dX12_settled_37 : decode cX12_settled 37 = .ok (.iconst (-1), 1) := od_2  (by decide +kernel)
theorem dX12_settled_38 : decode cX12_settled 38 = .ok (.if_icmp .ne 7, 3) := od_160 (a := 0) (b := 7) (by decide +kernel) (by decide +kernel)
theorem dX12_settled_41 : decode cX12_settled 41 = .ok (.ldc2_w 466, 3) := od_20 (a := 1) (b := 210) (by decide +kernel) (by decide)
theorem dX12_settled_44 : decode cX12_settled 44 = .ok (.lreturn, 1) := od_173  (by decide +kernel)
theorem dX12_settled_45 : decode cX12_settled 45 = .ok (.iload_n 1, 1) := od_27  (by decide +kernel)
theorem dX12_settled_46 : decode cX12_settled 46 = .ok (.invokestatic 242, 3) := od_184 (a := 0) (b := 242) (by decide +kernel) (by decide)
theorem dX12_settled_49 : decode cX12_settled 49 = .ok (.istore_n 3, 1) := od_62  (by decide +kernel)
theorem dX12_settled_50 : decode cX12_settled 50 = .ok (.iload_n 2, 1) := od_28  (by decide +kernel)
theorem dX12_settled_51 : decode cX12_settled 51 = .ok (.ifCond .ne 34, 3) := od_154 (a := 0) (b := 34) (by decide +kernel) (by decide +kernel)
theorem dX12_settled_54 : decode cX12_settled 54 = .ok (.aload_n 0, 1) := od_42  (by decide +kernel)
theorem dX12_settled_55 : decode cX12_settled 55 = .ok (.getfield 7, 3) := od_180 (a := 0) (b := 7) (by decide +kernel) (by decide)
theorem dX12_settled_58 : decode cX12_settled 58 = .ok (.iload_n 3, 1) := od_29  (by decide +kernel)
theorem dX12_settled_59 : decode cX12_settled 59 = .ok (.bipush 14, 2) := od_16 (a := 14) (by decide +kernel) (by decide +kernel)
theorem dX12_settled_61 : decode cX12_settled 61 = .ok (.iadd, 1) := od_96  (by decide +kernel)
theorem dX12_settled_62 : decode cX12_settled 62 = .ok (.iaload, 1) := od_46  (by decide +kernel)
theorem dX12_settled_63 : decode cX12_settled 63 = .ok (.i2l, 1) := od_133  (by decide +kernel)
theorem dX12_settled_64 : decode cX12_settled 64 = .ok (.bipush 32, 2) := od_16 (a := 32) (by decide +kernel) (by decide +kernel)
theorem dX12_settled_66 : decode cX12_settled 66 = .ok (.lshl, 1) := od_121  (by decide +kernel)
theorem dX12_settled_67 : decode cX12_settled 67 = .ok (.aload_n 0, 1) := od_42  (by decide +kernel)
theorem dX12_settled_68 : decode cX12_settled 68 = .ok (.getfield 7, 3) := od_180 (a := 0) (b := 7) (by decide +kernel) (by decide)
theorem dX12_settled_71 : decode cX12_settled 71 = .ok (.iload_n 3, 1) := od_29  (by decide +kernel)
theorem dX12_settled_72 : decode cX12_settled 72 = .ok (.bipush 15, 2) := od_16 (a := 15) (by decide +kernel) (by decide +kernel)
theorem dX12_settled_74 : decode cX12_settled 74 = .ok (.iadd, 1) := od_96  (by decide +kernel)
theorem dX12_settled_75 : decode cX12_settled 75 = .ok (.iaload, 1) := od_46  (by decide +kernel)
theorem dX12_settled_76 : decode cX12_settled 76 = .ok (.i2l, 1) := od_133  (by decide +kernel)
theorem dX12_settled_77 : decode cX12_settled 77 = .ok (.ldc2_w 479, 3) := od_20 (a := 1) (b := 223) (by decide +kernel) (by decide)
theorem dX12_settled_80 : decode cX12_settled 80 = .ok (.land, 1) := od_127  (by decide +kernel)
theorem dX12_settled_81 : decode cX12_settled 81 = .ok (.lor, 1) := od_129  (by decide +kernel)
theorem dX12_settled_82 : decode cX12_settled 82 = .ok (.goto 15, 3) := od_167 (a := 0) (b := 15) (by decide +kernel) (by decide +kernel)
theorem dX12_settled_85 : decode cX12_settled 85 = .ok (.aload_n 0, 1) := od_42  (by decide +kernel)
theorem dX12_settled_86 : decode cX12_settled 86 = .ok (.getfield 7, 3) := od_180 (a := 0) (b := 7) (by decide +kernel) (by decide)
theorem dX12_settled_89 : decode cX12_settled 89 = .ok (.iload_n 3, 1) := od_29  (by decide +kernel)
theorem dX12_settled_90 : decode cX12_settled 90 = .ok (.bipush 11, 2) := od_16 (a := 11) (by decide +kernel) (by decide +kernel)
theorem dX12_settled_92 : decode cX12_settled 92 = .ok (.iadd, 1) := od_96  (by decide +kernel)
theorem dX12_settled_93 : decode cX12_settled 93 = .ok (.iload_n 2, 1) := od_28  (by decide +kernel)
theorem dX12_settled_94 : decode cX12_settled 94 = .ok (.iadd, 1) := od_96  (by decide +kernel)
theorem dX12_settled_95 : decode cX12_settled 95 = .ok (.iaload, 1) := od_46  (by decide +kernel)
theorem dX12_settled_96 : decode cX12_settled 96 = .ok (.i2l, 1) := od_133  (by decide +kernel)
theorem dX12_settled_97 : decode cX12_settled 97 = .ok (.lreturn, 1) := od_173  (by decide +kernel)
theorem gX12_table_X12_in : GoodIn WALL (va_wsS RX12 99 yX12_in wqX12_in) := wg_S wa_213 wa_214 wa_5 wa_215
theorem gX12_table_X12_told : GoodIn WALL (wsV RX12 105 RX12 yX12_told wqX12_told) := wg_V wa_216 wa_217 wa_218 wa_5 wa_219
theorem gX12_table_X12_isShip : GoodIn WALL (wsV RX12 147 RX12 yX12_isShip wqX12_isShip) := wg_V wa_355 wa_356 wa_357 wa_5 wa_358
theorem gX12_table_X12_shipAt : GoodIn WALL (va_wsS RX12 132 yX12_shipAt wqX12_shipAt) := wg_S wa_278 wa_279 wa_5 wa_280
theorem dX12_table_0 : decode cX12_table 0 = .ok (.aload_n 0, 1) := od_42  (by decide +kernel)
theorem dX12_table_1 : decode cX12_table 1 = .ok (.iconst 0, 1) := od_3  (by decide +kernel)
theorem dX12_table_2 : decode cX12_table 2 = .ok (.putfield 91, 3) := od_181 (a := 0) (b := 91) (by decide +kernel) (by decide)
theorem dX12_table_5 : decode cX12_table 5 = .ok (.iload_n 2, 1) := od_28  (by decide +kernel)
theorem dX12_table_6 : decode cX12_table 6 = .ok (.i2l, 1) := od_133  (by decide +kernel)
theorem dX12_table_7 : decode cX12_table 7 = .ok (.lconst 0, 1) := od_9  (by decide +kernel)
theorem dX12_table_8 : decode cX12_table 8 = .ok (.ldc2_w 152, 3) := od_20 (a := 0) (b := 152) (by decide +kernel) (by decide)
theorem dX12_table_11 : decode cX12_table 11 = .ok (.invokestatic 99, 3) := od_184 (a := 0) (b := 99) (by decide +kernel) (by decide)
theorem dX12_table_14 : decode cX12_table 14 = .ok (.ifCond .eq 28, 3) := od_153 (a := 0) (b := 28) (by decide +kernel) (by decide +kernel)
theorem dX12_table_17 : decode cX12_table 17 = .ok (.iload_n 3, 1) := od_29  (by decide +kernel)
theorem dX12_table_18 : decode cX12_table 18 = .ok (.i2l, 1) := od_133  (by decide +kernel)
theorem dX12_table_19 : decode cX12_table 19 = .ok (.lconst 0, 1) := od_9  (by decide +kernel)
theorem dX12_table_20 : decode cX12_table 20 = .ok (.ldc2_w 481, 3) := od_20 (a := 1) (b := 225) (by decide +kernel) (by decide)
theorem dX12_table_23 : decode cX12_table 23 = .ok (.invokestatic 99, 3) := od_184 (a := 0) (b := 99) (by decide +kernel) (by decide)
theorem dX12_table_26 : decode cX12_table 26 = .ok (.ifCond .eq 16, 3) := od_153 (a := 0) (b := 16) (by decide +kernel) (by decide +kernel)
theorem dX12_table_29 : decode cX12_table 29 = .ok (.iload 4, 2) := od_21 (n := 4) (by decide +kernel)
theorem dX12_table_31 : decode cX12_table 31 = .ok (.i2l, 1) := od_133  (by decide +kernel)
theorem dX12_table_32 : decode cX12_table 32 = .ok (.lconst 0, 1) := od_9  (by decide +kernel)
theorem dX12_table_33 : decode cX12_table 33 = .ok (.ldc2_w 124, 3) := od_20 (a := 0) (b := 124) (by decide +kernel) (by decide)
theorem dX12_table_36 : decode cX12_table 36 = .ok (.invokestatic 99, 3) := od_184 (a := 0) (b := 99) (by decide +kernel) (by decide)
theorem dX12_table_39 : decode cX12_table 39 = .ok (.ifCond .ne 9, 3) := od_154 (a := 0) (b := 9) (by decide +kernel) (by decide +kernel)
theorem dX12_table_42 : decode cX12_table 42 = .ok (.aload_n 0, 1) := od_42  (by decide +kernel)
theorem dX12_table_43 : decode cX12_table 43 = .ok (.iconst (-1), 1) := od_2  (by decide +kernel)
theorem dX12_table_44 : decode cX12_table 44 = .ok (.invokevirtual 105, 3) := od_182 (a := 0) (b := 105) (by decide +kernel) (by decide)
theorem dX12_table_47 : decode cX12_table 47 = .ok (.ireturn, 1) := od_172  (by decide +kernel)
theorem dX12_table_48 : decode cX12_table 48 = .ok (.aload_n 0, 1) := od_42  (by decide +kernel)
theorem dX12_table_49 : decode cX12_table 49 = .ok (.iload_n 1, 1) := od_27  (by decide +kernel)
theorem dX12_table_50 : decode cX12_table 50 = .ok (.invokevirtual 147, 3) := od_182 (a := 0) (b := 147) (by decide +kernel) (by decide)
theorem dX12_table_53 : decode cX12_table 53 = .ok (.ifCond .ne 10, 3) := od_154 (a := 0) (b := 10) (by decide +kernel) (by decide +kernel)
theorem dX12_table_56 : decode cX12_table 56 = .ok (.aload_n 0, 1) := od_42  (by decide +kernel)
theorem dX12_table_57 : decode cX12_table 57 = .ok (.bipush (-2), 2) := od_16 (a := 254) (by decide +kernel) (by decide +kernel)
theorem dX12_table_59 : decode cX12_table 59 = .ok (.invokevirtual 105, 3) := od_182 (a := 0) (b := 105) (by decide +kernel) (by decide)
theorem dX12_table_62 : decode cX12_table 62 = .ok (.ireturn, 1) := od_172  (by decide +kernel)
theorem dX12_table_63 : decode cX12_table 63 = .ok (.iload_n 1, 1) := od_27  (by decide +kernel)
theorem dX12_table_64 : decode cX12_table 64 = .ok (.invokestatic 132, 3) := od_184 (a := 0) (b := 132) (by decide +kernel) (by decide)
theorem dX12_table_67 : decode cX12_table 67 = .ok (.bipush 32, 2) := od_16 (a := 32) (by decide +kernel) (by decide +kernel)
theorem dX12_table_69 : decode cX12_table 69 = .ok (.iadd, 1) := od_96  (by decide +kernel)
theorem dX12_table_70 : decode cX12_table 70 = .ok (.iconst 3, 1) := od_6  (by decide +kernel)
theorem dX12_table_71 : decode cX12_table 71 = .ok (.iload_n 2, 1) := od_28  (by decide +kernel)
theorem dX12_table_72 : decode cX12_table 72 = .ok (.imul, 1) := od_104  (by decide +kernel)
theorem dX12_table_73 : decode cX12_table 73 = .ok (.iadd, 1) := od_96  (by decide +kernel)
theorem dX12_table_74 : decode cX12_table 74 = .ok (.istore 5, 2) := od_54 (n := 5) (by decide +kernel)
theorem dX12_table_76 : decode cX12_table 76 = .ok (.aload_n 0, 1) := od_42  (by decide +kernel)
theorem dX12_table_77 : decode cX12_table 77 = .ok (.getfield 7, 3) := od_180 (a := 0) (b := 7) (by decide +kernel) (by decide)
theorem dX12_table_80 : decode cX12_table 80 = .ok (.iload 5, 2) := od_21 (n := 5) (by decide +kernel)
theorem dX12_table_82 : decode cX12_table 82 = .ok (.iconst 1, 1) := od_4  (by decide +kernel)
theorem dX12_table_83 : decode cX12_table 83 = .ok (.iastore, 1) := od_79  (by decide +kernel)
theorem dX12_table_84 : decode cX12_table 84 = .ok (.aload_n 0, 1) := od_42  (by decide +kernel)
theorem dX12_table_85 : decode cX12_table 85 = .ok (.getfield 7, 3) := od_180 (a := 0) (b := 7) (by decide +kernel) (by decide)
theorem dX12_table_88 : decode cX12_table 88 = .ok (.iload 5, 2) := od_21 (n := 5) (by decide +kernel)
theorem dX12_table_90 : decode cX12_table 90 = .ok (.iconst 1, 1) := od_4  (by decide +kernel)
theorem dX12_table_91 : decode cX12_table 91 = .ok (.iadd, 1) := od_96  (by decide +kernel)
theorem dX12_table_92 : decode cX12_table 92 = .ok (.iload_n 3, 1) := od_29  (by decide +kernel)
theorem dX12_table_93 : decode cX12_table 93 = .ok (.iastore, 1) := od_79  (by decide +kernel)
theorem dX12_table_94 : decode cX12_table 94 = .ok (.aload_n 0, 1) := od_42  (by decide +kernel)
theorem dX12_table_95 : decode cX12_table 95 = .ok (.getfield 7, 3) := od_180 (a := 0) (b := 7) (by decide +kernel) (by decide)
theorem dX12_table_98 : decode cX12_table 98 = .ok (.iload 5, 2) := od_21 (n := 5) (by decide +kernel)
theorem dX12_table_100 : decode cX12_table 100 = .ok (.iconst 2, 1) := od_5  (by decide +kernel)
theorem dX12_table_101 : decode cX12_table 101 = .ok (.iadd, 1) := od_96  (by decide +kernel)
theorem dX12_table_102 : decode cX12_table 102 = .ok (.iload 4, 2) := od_21 (n := 4) (by decide +kernel)
theorem dX12_table_104 : decode cX12_table 104 = .ok (.iastore, 1) := od_79  (by decide +kernel)
theorem dX12_table_105 : decode cX12_table 105 = .ok (.aload_n 0, 1) := od_42  (by decide +kernel)
theorem dX12_table_106 : decode cX12_table 106 = .ok (.iconst 0, 1) := od_3  (by decide +kernel)
theorem dX12_table_107 : decode cX12_table 107 = .ok (.invokevirtual 105, 3) := od_182 (a := 0) (b := 105) (by decide +kernel) (by decide)
theorem dX12_table_110 : decode cX12_table 110 = .ok (.ireturn, 1) := od_172  (by decide +kernel)
theorem gX12_list_X12_in : GoodIn WALL (va_wsS RX12 99 yX12_in wqX12_in) := wg_S wa_213 wa_214 wa_5 wa_215
theorem gX12_list_X12_told : GoodIn WALL (wsV RX12 105 RX12 yX12_told wqX12_told) := wg_V wa_216 wa_217 wa_218 wa_5 wa_219
theorem gX12_list_X12_isShip : GoodIn WALL (wsV RX12 147 RX12 yX12_isShip wqX12_isShip) := wg_V wa_355 wa_356 wa_357 wa_5 wa_358
theorem gX12_list_X12_shipAt : GoodIn WALL (va_wsS RX12 132 yX12_shipAt wqX12_shipAt) := wg_S wa_278 wa_279 wa_5 wa_280
theorem dX12_list_0 : decode cX12_list 0 = .ok (.aload_n 0, 1) := od_42  (by decide +kernel)
theorem dX12_list_1 : decode cX12_list 1 = .ok (.iconst 0, 1) := od_3  (by decide +kernel)
theorem dX12_list_2 : decode cX12_list 2 = .ok (.putfield 91, 3) := od_181 (a := 0) (b := 91) (by decide +kernel) (by decide)
theorem dX12_list_5 : decode cX12_list 5 = .ok (.iload_n 2, 1) := od_28  (by decide +kernel)
theorem dX12_list_6 : decode cX12_list 6 = .ok (.i2l, 1) := od_133  (by decide +kernel)
theorem dX12_list_7 : decode cX12_list 7 = .ok (.ldc2_w 483, 3) := od_20 (a := 1) (b := 227) (by decide +kernel) (by decide)
theorem dX12_list_10 : decode cX12_list 10 = .ok (.ldc2_w 126, 3) := od_20 (a := 0) (b := 126) (by decide +kernel) (by decide)
theorem dX12_list_13 : decode cX12_list 13 = .ok (.invokestatic 99, 3) := od_184 (a := 0) (b := 99) (by decide +kernel) (by decide)
theorem dX12_list_16 : decode cX12_list 16 = .ok (.ifCond .ne 9, 3) := od_154 (a := 0) (b := 9) (by decide +kernel) (by decide +kernel)
theorem dX12_list_19 : decode cX12_list 19 = .ok (.aload_n 0, 1) := od_42  (by decide +kernel)
theorem dX12_list_20 : decode cX12_list 20 = .ok (.iconst (-1), 1) := od_2  (by decide +kernel)
theorem dX12_list_21 : decode cX12_list 21 = .ok (.invokevirtual 105, 3) := od_182 (a := 0) (b := 105) (by decide +kernel) (by decide)
theorem dX12_list_24 : decode cX12_list 24 = .ok (.ireturn, 1) := od_172  (by decide +kernel)
theorem dX12_list_25 : decode cX12_list 25 = .ok (.aload_n 0, 1) := od_42  (by decide +kernel)
theorem dX12_list_26 : decode cX12_list 26 = .ok (.iload_n 1, 1) := od_27  (by decide +kernel)
theorem dX12_list_27 : decode cX12_list 27 = .ok (.invokevirtual 147, 3) := od_182 (a := 0) (b := 147) (by decide +kernel) (by decide)
theorem dX12_list_30 : decode cX12_list 30 = .ok (.ifCond .ne 10, 3) := od_154 (a := 0) (b := 10) (by decide +kernel) (by decide +kernel)
theorem dX12_list_33 : decode cX12_list 33 = .ok (.aload_n 0, 1) := od_42  (by decide +kernel)
theorem dX12_list_34 : decode cX12_list 34 = .ok (.bipush (-2), 2) := od_16 (a := 254) (by decide +kernel) (by decide +kernel)
theorem dX12_list_36 : decode cX12_list 36 = .ok (.invokevirtual 105, 3) := od_182 (a := 0) (b := 105) (by decide +kernel) (by decide)
theorem dX12_list_39 : decode cX12_list 39 = .ok (.ireturn, 1) := od_172  (by decide +kernel)
theorem dX12_list_40 : decode cX12_list 40 = .ok (.aload_n 0, 1) := od_42  (by decide +kernel)
theorem dX12_list_41 : decode cX12_list 41 = .ok (.getfield 7, 3) := od_180 (a := 0) (b := 7) (by decide +kernel) (by decide)
theorem dX12_list_44 : decode cX12_list 44 = .ok (.iload_n 1, 1) := od_27  (by decide +kernel)
theorem dX12_list_45 : decode cX12_list 45 = .ok (.invokestatic 132, 3) := od_184 (a := 0) (b := 132) (by decide +kernel) (by decide)
theorem dX12_list_48 : decode cX12_list 48 = .ok (.bipush 31, 2) := od_16 (a := 31) (by decide +kernel) (by decide +kernel)
theorem dX12_list_50 : decode cX12_list 50 = .ok (.iadd, 1) := od_96  (by decide +kernel)
theorem dX12_list_51 : decode cX12_list 51 = .ok (.iaload, 1) := od_46  (by decide +kernel)
theorem dX12_list_52 : decode cX12_list 52 = .ok (.istore_n 3, 1) := od_62  (by decide +kernel)
theorem dX12_list_53 : decode cX12_list 53 = .ok (.aload_n 0, 1) := od_42  (by decide +kernel)
theorem dX12_list_54 : decode cX12_list 54 = .ok (.getfield 7, 3) := od_180 (a := 0) (b := 7) (by decide +kernel) (by decide)
theorem dX12_list_57 : decode cX12_list 57 = .ok (.iload_n 1, 1) := od_27  (by decide +kernel)
theorem dX12_list_58 : decode cX12_list 58 = .ok (.invokestatic 132, 3) := od_184 (a := 0) (b := 132) (by decide +kernel) (by decide)
theorem dX12_list_61 : decode cX12_list 61 = .ok (.bipush 31, 2) := od_16 (a := 31) (by decide +kernel) (by decide +kernel)
theorem dX12_list_63 : decode cX12_list 63 = .ok (.iadd, 1) := od_96  (by decide +kernel)
theorem dX12_list_64 : decode cX12_list 64 = .ok (.iload_n 2, 1) := od_28  (by decide +kernel)
theorem dX12_list_65 : decode cX12_list 65 = .ok (.iastore, 1) := od_79  (by decide +kernel)
theorem dX12_list_66 : decode cX12_list 66 = .ok (.aload_n 0, 1) := od_42  (by decide +kernel)
theorem dX12_list_67 : decode cX12_list 67 = .ok (.iconst 0, 1) := od_3  (by decide +kernel)
theorem dX12_list_68 : decode cX12_list 68 = .ok (.putfield 94, 3) := od_181 (a := 0) (b := 94) (by decide +kernel) (by decide)
theorem dX12_list_71 : decode cX12_list 71 = .ok (.iload_n 3, 1) := od_29  (by decide +kernel)
theorem dX12_list_72 : decode cX12_list 72 = .ok (.ireturn, 1) := od_172  (by decide +kernel)
theorem gX12_reading_X12_in : GoodIn WALL (va_wsS RX12 99 yX12_in wqX12_in) := wg_S wa_213 wa_214 wa_5 wa_215
theorem gX12_reading_X12_isHour : GoodIn WALL (va_wsS RX12 144 yX12_isHour wqX12_isHour) := wg_S wa_351 wa_352 wa_5 wa_353
theorem gX12_reading_X12_told : GoodIn WALL (wsV RX12 105 RX12 yX12_told wqX12_told) := wg_V wa_216 wa_217 wa_218 wa_5 wa_219
theorem gX12_reading_X12_isLanding : GoodIn WALL (wsV RX12 237 RX12 yX12_isLanding wqX12_isLanding) := wg_V wa_701 wa_702 wa_703 wa_5 wa_704
theorem gX12_reading_X12_addFour : GoodIn WALL (wsV RX12 118 RX12 yX12_addFour wqX12_addFour) := wg_V wa_224 wa_225 wa_226 wa_5 wa_227
theorem dX12_reading_0 : decode cX12_reading 0 = .ok (.aload_n 0, 1) := od_42  (by decide +kernel)
theorem dX12_reading_1 : decode cX12_reading 1 = .ok (.iconst 0, 1) := od_3  (by decide +kernel)
theorem dX12_reading_2 : decode cX12_reading 2 = .ok (.putfield 91, 3) := od_181 (a := 0) (b := 91) (by decide +kernel) (by decide)
theorem dX12_reading_5 : decode cX12_reading 5 = .ok (.iload_n 2, 1) := od_28  (by decide +kernel)
theorem dX12_reading_6 : decode cX12_reading 6 = .ok (.i2l, 1) := od_133  (by decide +kernel)
theorem dX12_reading_7 : decode cX12_reading 7 = .ok (.lconst 0, 1) := od_9  (by decide +kernel)
theorem dX12_reading_8 : decode cX12_reading 8 = .ok (.lconst 1, 1) := od_10  (by decide +kernel)
theorem dX12_reading_9 : decode cX12_reading 9 = .ok (.invokestatic 99, 3) := od_184 (a := 0) (b := 99) (by decide +kernel) (by decide)
theorem dX12_reading_12 : decode cX12_reading 12 = .ok (.ifCond .eq 38, 3) := od_153 (a := 0) (b := 38) (by decide +kernel) (by decide +kernel)
theorem dX12_reading_15 : decode cX12_reading 15 = .ok (.iload_n 3, 1) := od_29  (by decide +kernel)
theorem dX12_reading_16 : decode cX12_reading 16 = .ok (.i2l, 1) := od_133  (by decide +kernel)
theorem dX12_reading_17 : decode cX12_reading 17 = .ok (.lconst 0, 1) := od_9  (by decide +kernel)
theorem dX12_reading_18 : decode cX12_reading 18 = .ok (.ldc2_w 481, 3) := od_20 (a := 1) (b := 225) (by decide +kernel) (by decide)
theorem dX12_reading_21 : decode cX12_reading 21 = .ok (.invokestatic 99, 3) := od_184 (a := 0) (b := 99) (by decide +kernel) (by decide)
theorem dX12_reading_24 : decode cX12_reading 24 = .ok (.ifCond .eq 26, 3) := od_153 (a := 0) (b := 26) (by decide +kernel) (by decide +kernel)
theorem dX12_reading_27 : decode cX12_reading 27 = .ok (.iload 4, 2) := od_21 (n := 4) (by decide +kernel)
theorem dX12_reading_29 : decode cX12_reading 29 = .ok (.i2l, 1) := od_133  (by decide +kernel)
theorem dX12_reading_30 : decode cX12_reading 30 = .ok (.ldc2_w 485, 3) := od_20 (a := 1) (b := 229) (by decide +kernel) (by decide)
theorem dX12_reading_33 : decode cX12_reading 33 = .ok (.ldc2_w 487, 3) := od_20 (a := 1) (b := 231) (by decide +kernel) (by decide)
theorem dX12_reading_36 : decode cX12_reading 36 = .ok (.invokestatic 99, 3) := od_184 (a := 0) (b := 99) (by decide +kernel) (by decide)
theorem dX12_reading_39 : decode cX12_reading 39 = .ok (.ifCond .eq 11, 3) := od_153 (a := 0) (b := 11) (by decide +kernel) (by decide +kernel)
theorem dX12_reading_42 : decode cX12_reading 42 = .ok (.iload 5, 2) := od_21 (n := 5) (by decide +kernel)
theorem dX12_reading_44 : decode cX12_reading 44 = .ok (.invokestatic 144, 3) := od_184 (a := 0) (b := 144) (by decide +kernel) (by decide)
theorem dX12_reading_47 : decode cX12_reading 47 = .ok (.ifCond .ne 9, 3) := od_154 (a := 0) (b := 9) (by decide +kernel) (by decide +kernel)
theorem dX12_reading_50 : decode cX12_reading 50 = .ok (.aload_n 0, 1) := od_42  (by decide +kernel)
theorem dX12_reading_51 : decode cX12_reading 51 = .ok (.iconst (-1), 1) := od_2  (by decide +kernel)
theorem dX12_reading_52 : decode cX12_reading 52 = .ok (.invokevirtual 105, 3) := od_182 (a := 0) (b := 105) (by decide +kernel) (by decide)
theorem dX12_reading_55 : decode cX12_reading 55 = .ok (.ireturn, 1) := od_172  (by decide +kernel)
theorem dX12_reading_56 : decode cX12_reading 56 = .ok (.aload_n 0, 1) := od_42  (by decide +kernel)
theorem dX12_reading_57 : decode cX12_reading 57 = .ok (.iload_n 1, 1) := od_27  (by decide +kernel)
theorem dX12_reading_58 : decode cX12_reading 58 = .ok (.invokevirtual 237, 3) := od_182 (a := 0) (b := 237) (by decide +kernel) (by decide)
theorem dX12_reading_61 : decode cX12_reading 61 = .ok (.ifCond .ne 10, 3) := od_154 (a := 0) (b := 10) (by decide +kernel) (by decide +kernel)
theorem dX12_reading_64 : decode cX12_reading 64 = .ok (.aload_n 0, 1) := od_42  (by decide +kernel)
theorem dX12_reading_65 : decode cX12_reading 65 = .ok (.bipush (-2), 2) := od_16 (a := 254) (by decide +kernel) (by decide +kernel)
theorem dX12_reading_67 : decode cX12_reading 67 = .ok (.invokevirtual 105, 3) := od_182 (a := 0) (b := 105) (by decide +kernel) (by decide)
theorem dX12_reading_70 : decode cX12_reading 70 = .ok (.ireturn, 1) := od_172  (by decide +kernel)
theorem dX12_reading_71 : decode cX12_reading 71 = .ok (.aload_n 0, 1) := od_42  (by decide +kernel)
theorem dX12_reading_72 : decode cX12_reading 72 = .ok (.getfield 7, 3) := od_180 (a := 0) (b := 7) (by decide +kernel) (by decide)
theorem dX12_reading_75 : decode cX12_reading 75 = .ok (.bipush 9, 2) := od_16 (a := 9) (by decide +kernel) (by decide +kernel)
theorem dX12_reading_77 : decode cX12_reading 77 = .ok (.iaload, 1) := od_46  (by decide +kernel)
theorem dX12_reading_78 : decode cX12_reading 78 = .ok (.bipush 60, 2) := od_16 (a := 60) (by decide +kernel) (by decide +kernel)
theorem dX12_reading_80 : decode cX12_reading 80 = .ok (.if_icmp .ne 10, 3) := od_160 (a := 0) (b := 10) (by decide +kernel) (by decide +kernel)
theorem dX12_reading_83 : decode cX12_reading 83 = .ok (.aload_n 0, 1) := od_42  (by decide +kernel)
theorem dX12_reading_84 : decode cX12_reading 84 = .ok (.bipush (-5), 2) := od_16 (a := 251) (by decide +kernel) (by decide +kernel)
theorem dX12_reading_86 : decode cX12_reading 86 = .ok (.invokevirtual 105, 3) := od_182 (a := 0) (b := 105) (by decide +kernel) (by decide)
theorem dX12_reading_89 : decode cX12_reading 89 = .ok (.ireturn, 1) := od_172  (by decide +kernel)
theorem dX12_reading_90 : decode cX12_reading 90 = .ok (.sipush 12619, 3) := od_17 (a := 49) (b := 75) (by decide +kernel) (by decide +kernel)
theorem dX12_reading_93 : decode cX12_reading 93 = .ok (.iconst 5, 1) := od_8  (by decide +kernel)
theorem dX12_reading_94 : decode cX12_reading 94 = .ok (.aload_n 0, 1) := od_42  (by decide +kernel)
theorem dX12_reading_95 : decode cX12_reading 95 = .ok (.getfield 7, 3) := od_180 (a := 0) (b := 7) (by decide +kernel) (by decide)
theorem dX12_reading_98 : decode cX12_reading 98 = .ok (.bipush 9, 2) := od_16 (a := 9) (by decide +kernel) (by decide +kernel)
theorem dX12_reading_100 : decode cX12_reading 100 = .ok (.iaload, 1) := od_46  (by decide +kernel)
theorem dX12_reading_101 : decode cX12_reading 101 = .ok (.imul, 1) := od_104  (by decide +kernel)
theorem dX12_reading_102 : decode cX12_reading 102 = .ok (.iadd, 1) := od_96  (by decide +kernel)
theorem dX12_reading_103 : decode cX12_reading 103 = .ok (.istore 6, 2) := od_54 (n := 6) (by decide +kernel)
theorem dX12_reading_105 : decode cX12_reading 105 = .ok (.aload_n 0, 1) := od_42  (by decide +kernel)
theorem dX12_reading_106 : decode cX12_reading 106 = .ok (.iload 6, 2) := od_21 (n := 6) (by decide +kernel)
theorem dX12_reading_108 : decode cX12_reading 108 = .ok (.iload_n 1, 1) := od_27  (by decide +kernel)
theorem dX12_reading_109 : decode cX12_reading 109 = .ok (.iload_n 2, 1) := od_28  (by decide +kernel)
theorem dX12_reading_110 : decode cX12_reading 110 = .ok (.iload_n 3, 1) := od_29  (by decide +kernel)
theorem dX12_reading_111 : decode cX12_reading 111 = .ok (.iload 4, 2) := od_21 (n := 4) (by decide +kernel)
theorem dX12_reading_113 : decode cX12_reading 113 = .ok (.invokevirtual 118, 3) := od_182 (a := 0) (b := 118) (by decide +kernel) (by decide)
theorem dX12_reading_116 : decode cX12_reading 116 = .ok (.aload_n 0, 1) := od_42  (by decide +kernel)
theorem dX12_reading_117 : decode cX12_reading 117 = .ok (.getfield 7, 3) := od_180 (a := 0) (b := 7) (by decide +kernel) (by decide)
theorem dX12_reading_120 : decode cX12_reading 120 = .ok (.iload 6, 2) := od_21 (n := 6) (by decide +kernel)
theorem dX12_reading_122 : decode cX12_reading 122 = .ok (.iconst 4, 1) := od_7  (by decide +kernel)
theorem dX12_reading_123 : decode cX12_reading 123 = .ok (.iadd, 1) := od_96  (by decide +kernel)
theorem dX12_reading_124 : decode cX12_reading 124 = .ok (.iload 5, 2) := od_21 (n := 5) (by decide +kernel)
theorem dX12_reading_126 : decode cX12_reading 126 = .ok (.iastore, 1) := od_79  (by decide +kernel)
theorem dX12_reading_127 : decode cX12_reading 127 = .ok (.aload_n 0, 1) := od_42  (by decide +kernel)
theorem dX12_reading_128 : decode cX12_reading 128 = .ok (.getfield 7, 3) := od_180 (a := 0) (b := 7) (by decide +kernel) (by decide)
theorem dX12_reading_131 : decode cX12_reading 131 = .ok (.bipush 9, 2) := od_16 (a := 9) (by decide +kernel) (by decide +kernel)
theorem dX12_reading_133 : decode cX12_reading 133 = .ok (.dup2, 1) := od_92  (by decide +kernel)
theorem dX12_reading_134 : decode cX12_reading 134 = .ok (.iaload, 1) := od_46  (by decide +kernel)
theorem dX12_reading_135 : decode cX12_reading 135 = .ok (.iconst 1, 1) := od_4  (by decide +kernel)
theorem dX12_reading_136 : decode cX12_reading 136 = .ok (.iadd, 1) := od_96  (by decide +kernel)
theorem dX12_reading_137 : decode cX12_reading 137 = .ok (.iastore, 1) := od_79  (by decide +kernel)
theorem dX12_reading_138 : decode cX12_reading 138 = .ok (.aload_n 0, 1) := od_42  (by decide +kernel)
theorem dX12_reading_139 : decode cX12_reading 139 = .ok (.aload_n 0, 1) := od_42  (by decide +kernel)
theorem dX12_reading_140 : decode cX12_reading 140 = .ok (.getfield 7, 3) := od_180 (a := 0) (b := 7) (by decide +kernel) (by decide)
theorem dX12_reading_143 : decode cX12_reading 143 = .ok (.bipush 9, 2) := od_16 (a := 9) (by decide +kernel) (by decide +kernel)
theorem dX12_reading_145 : decode cX12_reading 145 = .ok (.iaload, 1) := od_46  (by decide +kernel)
theorem dX12_reading_146 : decode cX12_reading 146 = .ok (.invokevirtual 105, 3) := od_182 (a := 0) (b := 105) (by decide +kernel) (by decide)
theorem dX12_reading_149 : decode cX12_reading 149 = .ok (.ireturn, 1) := od_172  (by decide +kernel)
theorem gX12_cargo_X12_isHour : GoodIn WALL (va_wsS RX12 144 yX12_isHour wqX12_isHour) := wg_S wa_351 wa_352 wa_5 wa_353
theorem gX12_cargo_X12_in : GoodIn WALL (va_wsS RX12 99 yX12_in wqX12_in) := wg_S wa_213 wa_214 wa_5 wa_215
theorem gX12_cargo_X12_told : GoodIn WALL (wsV RX12 105 RX12 yX12_told wqX12_told) := wg_V wa_216 wa_217 wa_218 wa_5 wa_219
theorem gX12_cargo_X12_isTerminal : GoodIn WALL (wsV RX12 128 RX12 yX12_isTerminal wqX12_isTerminal) := wg_V wa_274 wa_275 wa_276 wa_5 wa_277
theorem gX12_cargo_X12_addFour : GoodIn WALL (wsV RX12 118 RX12 yX12_addFour wqX12_addFour) := wg_V wa_224 wa_225 wa_226 wa_5 wa_227
theorem dX12_cargo_0 : decode cX12_cargo 0 = .ok (.aload_n 0, 1) := od_42  (by decide +kernel)
theorem dX12_cargo_1 : decode cX12_cargo 1 = .ok (.iconst 0, 1) := od_3  (by decide +kernel)
theorem dX12_cargo_2 : decode cX12_cargo 2 = .ok (.putfield 91, 3) := od_181 (a := 0) (b := 91) (by decide +kernel) (by decide)
theorem dX12_cargo_5 : decode cX12_cargo 5 = .ok (.iload 4, 2) := od_21 (n := 4) (by decide +kernel)
theorem dX12_cargo_7 : decode cX12_cargo 7 = .ok (.invokestatic 144, 3) := od_184 (a := 0) (b := 144) (by decide +kernel) (by decide)
theorem dX12_cargo_10 : decode cX12_cargo 10 = .ok (.ifCond .eq 62, 3) := od_153 (a := 0) (b := 62) (by decide +kernel) (by decide +kernel)
theorem dX12_cargo_13 : decode cX12_cargo 13 = .ok (.iload_n 3, 1) := od_29  (by decide +kernel)
theorem dX12_cargo_14 : decode cX12_cargo 14 = .ok (.i2l, 1) := od_133  (by decide +kernel)
theorem dX12_cargo_15 : decode cX12_cargo 15 = .ok (.lconst 0, 1) := od_9  (by decide +kernel)
theorem dX12_cargo_16 : decode cX12_cargo 16 = .ok (.iload 4, 2) := od_21 (n := 4) (by decide +kernel)
theorem dX12_cargo_18 : decode cX12_cargo 18 = .ok (.i2l, 1) := od_133  (by decide +kernel)
theorem dX12_cargo_19 : decode cX12_cargo 19 = .ok (.invokestatic 99, 3) := od_184 (a := 0) (b := 99) (by decide +kernel) (by decide)
theorem dX12_cargo_22 : decode cX12_cargo 22 = .ok (.ifCond .eq 50, 3) := od_153 (a := 0) (b := 50) (by decide +kernel) (by decide +kernel)
theorem dX12_cargo_25 : decode cX12_cargo 25 = .ok (.iload 6, 2) := od_21 (n := 6) (by decide +kernel)
theorem dX12_cargo_27 : decode cX12_cargo 27 = .ok (.invokestatic 144, 3) := od_184 (a := 0) (b := 144) (by decide +kernel) (by decide)
theorem dX12_cargo_30 : decode cX12_cargo 30 = .ok (.ifCond .eq 42, 3) := od_153 (a := 0) (b := 42) (by decide +kernel) (by decide +kernel)
theorem dX12_cargo_33 : decode cX12_cargo 33 = .ok (.iload 5, 2) := od_21 (n := 5) (by decide +kernel)
theorem dX12_cargo_35 : decode cX12_cargo 35 = .ok (.i2l, 1) := od_133  (by decide +kernel)
theorem dX12_cargo_36 : decode cX12_cargo 36 = .ok (.lconst 0, 1) := od_9  (by decide +kernel)
theorem dX12_cargo_37 : decode cX12_cargo 37 = .ok (.iload 6, 2) := od_21 (n := 6) (by decide +kernel)
theorem dX12_cargo_39 : decode cX12_cargo 39 = .ok (.i2l, 1) := od_133  (by decide +kernel)
theorem dX12_cargo_40 : decode cX12_cargo 40 = .ok (.invokestatic 99, 3) := od_184 (a := 0) (b := 99) (by decide +kernel) (by decide)
theorem dX12_cargo_43 : decode cX12_cargo 43 = .ok (.ifCond .eq 29, 3) := od_153 (a := 0) (b := 29) (by decide +kernel) (by decide +kernel)
theorem dX12_cargo_46 : decode cX12_cargo 46 = .ok (.iload 7, 2) := od_21 (n := 7) (by decide +kernel)
theorem dX12_cargo_48 : decode cX12_cargo 48 = .ok (.i2l, 1) := od_133  (by decide +kernel)
theorem dX12_cargo_49 : decode cX12_cargo 49 = .ok (.lconst 1, 1) := od_10  (by decide +kernel)
theorem dX12_cargo_50 : decode cX12_cargo 50 = .ok (.ldc2_w 124, 3) := od_20 (a := 0) (b := 124) (by decide +kernel) (by decide)
theorem dX12_cargo_53 : decode cX12_cargo 53 = .ok (.invokestatic 99, 3) := od_184 (a := 0) (b := 99) (by decide +kernel) (by decide)
theorem dX12_cargo_56 : decode cX12_cargo 56 = .ok (.ifCond .eq 16, 3) := od_153 (a := 0) (b := 16) (by decide +kernel) (by decide +kernel)
theorem dX12_cargo_59 : decode cX12_cargo 59 = .ok (.iload 8, 2) := od_21 (n := 8) (by decide +kernel)
theorem dX12_cargo_61 : decode cX12_cargo 61 = .ok (.i2l, 1) := od_133  (by decide +kernel)
theorem dX12_cargo_62 : decode cX12_cargo 62 = .ok (.lconst 0, 1) := od_9  (by decide +kernel)
theorem dX12_cargo_63 : decode cX12_cargo 63 = .ok (.ldc2_w 122, 3) := od_20 (a := 0) (b := 122) (by decide +kernel) (by decide)
theorem dX12_cargo_66 : decode cX12_cargo 66 = .ok (.invokestatic 99, 3) := od_184 (a := 0) (b := 99) (by decide +kernel) (by decide)
theorem dX12_cargo_69 : decode cX12_cargo 69 = .ok (.ifCond .ne 9, 3) := od_154 (a := 0) (b := 9) (by decide +kernel) (by decide +kernel)
theorem dX12_cargo_72 : decode cX12_cargo 72 = .ok (.aload_n 0, 1) := od_42  (by decide +kernel)
theorem dX12_cargo_73 : decode cX12_cargo 73 = .ok (.iconst (-1), 1) := od_2  (by decide +kernel)
theorem dX12_cargo_74 : decode cX12_cargo 74 = .ok (.invokevirtual 105, 3) := od_182 (a := 0) (b := 105) (by decide +kernel) (by decide)
theorem dX12_cargo_77 : decode cX12_cargo 77 = .ok (.ireturn, 1) := od_172  (by decide +kernel)
theorem dX12_cargo_78 : decode cX12_cargo 78 = .ok (.aload_n 0, 1) := od_42  (by decide +kernel)
theorem dX12_cargo_79 : decode cX12_cargo 79 = .ok (.iload_n 1, 1) := od_27  (by decide +kernel)
theorem dX12_cargo_80 : decode cX12_cargo 80 = .ok (.invokevirtual 128, 3) := od_182 (a := 0) (b := 128) (by decide +kernel) (by decide)
theorem dX12_cargo_83 : decode cX12_cargo 83 = .ok (.ifCond .eq 11, 3) := od_153 (a := 0) (b := 11) (by decide +kernel) (by decide +kernel)
theorem dX12_cargo_86 : decode cX12_cargo 86 = .ok (.aload_n 0, 1) := od_42  (by decide +kernel)
theorem dX12_cargo_87 : decode cX12_cargo 87 = .ok (.iload_n 2, 1) := od_28  (by decide +kernel)
theorem dX12_cargo_88 : decode cX12_cargo 88 = .ok (.invokevirtual 128, 3) := od_182 (a := 0) (b := 128) (by decide +kernel) (by decide)
theorem dX12_cargo_91 : decode cX12_cargo 91 = .ok (.ifCond .ne 10, 3) := od_154 (a := 0) (b := 10) (by decide +kernel) (by decide +kernel)
theorem dX12_cargo_94 : decode cX12_cargo 94 = .ok (.aload_n 0, 1) := od_42  (by decide +kernel)
theorem dX12_cargo_95 : decode cX12_cargo 95 = .ok (.bipush (-2), 2) := od_16 (a := 254) (by decide +kernel) (by decide +kernel)
theorem dX12_cargo_97 : decode cX12_cargo 97 = .ok (.invokevirtual 105, 3) := od_182 (a := 0) (b := 105) (by decide +kernel) (by decide)
theorem dX12_cargo_100 : decode cX12_cargo 100 = .ok (.ireturn, 1) := od_172  (by decide +kernel)
theorem dX12_cargo_101 : decode cX12_cargo 101 = .ok (.iload_n 1, 1) := od_27  (by decide +kernel)
theorem dX12_cargo_102 : decode cX12_cargo 102 = .ok (.iload_n 2, 1) := od_28  (by decide +kernel)
theorem dX12_cargo_103 : decode cX12_cargo 103 = .ok (.if_icmp .ne 10, 3) := od_160 (a := 0) (b := 10) (by decide +kernel) (by decide +kernel)
theorem dX12_cargo_106 : decode cX12_cargo 106 = .ok (.aload_n 0, 1) := od_42  (by decide +kernel)
theorem dX12_cargo_107 : decode cX12_cargo 107 = .ok (.bipush (-3), 2) := od_16 (a := 253) (by decide +kernel) (by decide +kernel)
theorem dX12_cargo_109 : decode cX12_cargo 109 = .ok (.invokevirtual 105, 3) := od_182 (a := 0) (b := 105) (by decide +kernel) (by decide)
theorem dX12_cargo_112 : decode cX12_cargo 112 = .ok (.ireturn, 1) := od_172  (by decide +kernel)
theorem dX12_cargo_113 : decode cX12_cargo 113 = .ok (.aload_n 0, 1) := od_42  (by decide +kernel)
theorem dX12_cargo_114 : decode cX12_cargo 114 = .ok (.getfield 7, 3) := od_180 (a := 0) (b := 7) (by decide +kernel) (by decide)
theorem dX12_cargo_117 : decode cX12_cargo 117 = .ok (.bipush 10, 2) := od_16 (a := 10) (by decide +kernel) (by decide +kernel)
theorem dX12_cargo_119 : decode cX12_cargo 119 = .ok (.iaload, 1) := od_46  (by decide +kernel)
theorem dX12_cargo_120 : decode cX12_cargo 120 = .ok (.bipush 6, 2) := od_16 (a := 6) (by decide +kernel) (by decide +kernel)
theorem dX12_cargo_122 : decode cX12_cargo 122 = .ok (.if_icmp .ne 10, 3) := od_160 (a := 0) (b := 10) (by decide +kernel) (by decide +kernel)
theorem dX12_cargo_125 : decode cX12_cargo 125 = .ok (.aload_n 0, 1) := od_42  (by decide +kernel)
theorem dX12_cargo_126 : decode cX12_cargo 126 = .ok (.bipush (-5), 2) := od_16 (a := 251) (by decide +kernel) (by decide +kernel)
theorem dX12_cargo_128 : decode cX12_cargo 128 = .ok (.invokevirtual 105, 3) := od_182 (a := 0) (b := 105) (by decide +kernel) (by decide)
theorem dX12_cargo_131 : decode cX12_cargo 131 = .ok (.ireturn, 1) := od_172  (by decide +kernel)
theorem dX12_cargo_132 : decode cX12_cargo 132 = .ok (.sipush 12919, 3) := od_17 (a := 50) (b := 119) (by decide +kernel) (by decide +kernel)
theorem dX12_cargo_135 : decode cX12_cargo 135 = .ok (.bipush 8, 2) := od_16 (a := 8) (by decide +kernel) (by decide +kernel)
theorem dX12_cargo_137 : decode cX12_cargo 137 = .ok (.aload_n 0, 1) := od_42  (by decide +kernel)
theorem dX12_cargo_138 : decode cX12_cargo 138 = .ok (.getfield 7, 3) := od_180 (a := 0) (b := 7) (by decide +kernel) (by decide)
theorem dX12_cargo_141 : decode cX12_cargo 141 = .ok (.bipush 10, 2) := od_16 (a := 10) (by decide +kernel) (by decide +kernel)
theorem dX12_cargo_143 : decode cX12_cargo 143 = .ok (.iaload, 1) := od_46  (by decide +kernel)
theorem dX12_cargo_144 : decode cX12_cargo 144 = .ok (.imul, 1) := od_104  (by decide +kernel)
theorem dX12_cargo_145 : decode cX12_cargo 145 = .ok (.iadd, 1) := od_96  (by decide +kernel)
theorem dX12_cargo_146 : decode cX12_cargo 146 = .ok (.istore 9, 2) := od_54 (n := 9) (by decide +kernel)
theorem dX12_cargo_148 : decode cX12_cargo 148 = .ok (.aload_n 0, 1) := od_42  (by decide +kernel)
theorem dX12_cargo_149 : decode cX12_cargo 149 = .ok (.iload 9, 2) := od_21 (n := 9) (by decide +kernel)
theorem dX12_cargo_151 : decode cX12_cargo 151 = .ok (.iload_n 1, 1) := od_27  (by decide +kernel)
theorem dX12_cargo_152 : decode cX12_cargo 152 = .ok (.iload_n 2, 1) := od_28  (by decide +kernel)
theorem dX12_cargo_153 : decode cX12_cargo 153 = .ok (.iload_n 3, 1) := od_29  (by decide +kernel)
theorem dX12_cargo_154 : decode cX12_cargo 154 = .ok (.iload 4, 2) := od_21 (n := 4) (by decide +kernel)
theorem dX12_cargo_156 : decode cX12_cargo 156 = .ok (.invokevirtual 118, 3) := od_182 (a := 0) (b := 118) (by decide +kernel) (by decide)
theorem dX12_cargo_159 : decode cX12_cargo 159 = .ok (.aload_n 0, 1) := od_42  (by decide +kernel)
theorem dX12_cargo_160 : decode cX12_cargo 160 = .ok (.iload 9, 2) := od_21 (n := 9) (by decide +kernel)
theorem dX12_cargo_162 : decode cX12_cargo 162 = .ok (.iconst 4, 1) := od_7  (by decide +kernel)
theorem dX12_cargo_163 : decode cX12_cargo 163 = .ok (.iadd, 1) := od_96  (by decide +kernel)
theorem dX12_cargo_164 : decode cX12_cargo 164 = .ok (.iload 5, 2) := od_21 (n := 5) (by decide +kernel)
theorem dX12_cargo_166 : decode cX12_cargo 166 = .ok (.iload 6, 2) := od_21 (n := 6) (by decide +kernel)
theorem dX12_cargo_168 : decode cX12_cargo 168 = .ok (.iload 7, 2) := od_21 (n := 7) (by decide +kernel)
theorem dX12_cargo_170 : decode cX12_cargo 170 = .ok (.iload 8, 2) := od_21 (n := 8) (by decide +kernel)
theorem dX12_cargo_172 : decode cX12_cargo 172 = .ok (.invokevirtual 118, 3) := od_182 (a := 0) (b := 118) (by decide +kernel) (by decide)
theorem dX12_cargo_175 : decode cX12_cargo 175 = .ok (.aload_n 0, 1) := od_42  (by decide +kernel)
theorem dX12_cargo_176 : decode cX12_cargo 176 = .ok (.getfield 7, 3) := od_180 (a := 0) (b := 7) (by decide +kernel) (by decide)
theorem dX12_cargo_179 : decode cX12_cargo 179 = .ok (.bipush 10, 2) := od_16 (a := 10) (by decide +kernel) (by decide +kernel)
theorem dX12_cargo_181 : decode cX12_cargo 181 = .ok (.dup2, 1) := od_92  (by decide +kernel)
theorem dX12_cargo_182 : decode cX12_cargo 182 = .ok (.iaload, 1) := od_46  (by decide +kernel)
theorem dX12_cargo_183 : decode cX12_cargo 183 = .ok (.iconst 1, 1) := od_4  (by decide +kernel)
theorem dX12_cargo_184 : decode cX12_cargo 184 = .ok (.iadd, 1) := od_96  (by decide +kernel)
theorem dX12_cargo_185 : decode cX12_cargo 185 = .ok (.iastore, 1) := od_79  (by decide +kernel)
theorem dX12_cargo_186 : decode cX12_cargo 186 = .ok (.aload_n 0, 1) := od_42  (by decide +kernel)
theorem dX12_cargo_187 : decode cX12_cargo 187 = .ok (.aload_n 0, 1) := od_42  (by decide +kernel)
theorem dX12_cargo_188 : decode cX12_cargo 188 = .ok (.getfield 7, 3) := od_180 (a := 0) (b := 7) (by decide +kernel) (by decide)
theorem dX12_cargo_191 : decode cX12_cargo 191 = .ok (.bipush 10, 2) := od_16 (a := 10) (by decide +kernel) (by decide +kernel)
theorem dX12_cargo_193 : decode cX12_cargo 193 = .ok (.iaload, 1) := od_46  (by decide +kernel)
theorem dX12_cargo_194 : decode cX12_cargo 194 = .ok (.invokevirtual 105, 3) := od_182 (a := 0) (b := 105) (by decide +kernel) (by decide)
theorem dX12_cargo_197 : decode cX12_cargo 197 = .ok (.ireturn, 1) := od_172  (by decide +kernel)
theorem dX12_clear_0 : decode cX12_clear 0 = .ok (.aload_n 0, 1) := od_42  (by decide +kernel)
theorem dX12_clear_1 : decode cX12_clear 1 = .ok (.iconst 0, 1) := od_3  (by decide +kernel)
theorem dX12_clear_2 : decode cX12_clear 2 = .ok (.putfield 91, 3) := od_181 (a := 0) (b := 91) (by decide +kernel) (by decide)
theorem dX12_clear_5 : decode cX12_clear 5 = .ok (.aload_n 0, 1) := od_42  (by decide +kernel)
theorem dX12_clear_6 : decode cX12_clear 6 = .ok (.getfield 7, 3) := od_180 (a := 0) (b := 7) (by decide +kernel) (by decide)
theorem dX12_clear_9 : decode cX12_clear 9 = .ok (.bipush 10, 2) := od_16 (a := 10) (by decide +kernel) (by decide +kernel)
theorem dX12_clear_11 : decode cX12_clear 11 = .ok (.iaload, 1) := od_46  (by decide +kernel)
theorem dX12_clear_12 : decode cX12_clear 12 = .ok (.istore_n 1, 1) := od_60  (by decide +kernel)
theorem dX12_clear_13 : decode cX12_clear 13 = .ok (.aload_n 0, 1) := od_42  (by decide +kernel)
theorem dX12_clear_14 : decode cX12_clear 14 = .ok (.getfield 7, 3) := od_180 (a := 0) (b := 7) (by decide +kernel) (by decide)
theorem dX12_clear_17 : decode cX12_clear 17 = .ok (.bipush 10, 2) := od_16 (a := 10) (by decide +kernel) (by decide +kernel)
theorem dX12_clear_19 : decode cX12_clear 19 = .ok (.iconst 0, 1) := od_3  (by decide +kernel)
theorem dX12_clear_20 : decode cX12_clear 20 = .ok (.iastore, 1) := od_79  (by decide +kernel)
theorem dX12_clear_21 : decode cX12_clear 21 = .ok (.iload_n 1, 1) := od_27  (by decide +kernel)
theorem dX12_clear_22 : decode cX12_clear 22 = .ok (.ireturn, 1) := od_172  (by decide +kernel)
theorem gX12_voyage_X12_in : GoodIn WALL (va_wsS RX12 99 yX12_in wqX12_in) := wg_S wa_213 wa_214 wa_5 wa_215
theorem dX12_voyage_0 : decode cX12_voyage 0 = .ok (.aload_n 0, 1) := od_42  (by decide +kernel)
theorem dX12_voyage_1 : decode cX12_voyage 1 = .ok (.iconst 0, 1) := od_3  (by decide +kernel)
theorem dX12_voyage_2 : decode cX12_voyage 2 = .ok (.putfield 91, 3) := od_181 (a := 0) (b := 91) (by decide +kernel) (by decide)
theorem dX12_voyage_5 : decode cX12_voyage 5 = .ok (.aload_n 0, 1) := od_42  (by decide +kernel)
theorem dX12_voyage_6 : decode cX12_voyage 6 = .ok (.getfield 538, 3) := od_180 (a := 2) (b := 26) (by decide +kernel) (by decide)
theorem dX12_voyage_9 : decode cX12_voyage 9 = .ok (.ifCond .eq 44, 3) := od_153 (a := 0) (b := 44) (by decide +kernel) (by decide +kernel)
theorem dX12_voyage_12 : decode cX12_voyage 12 = .ok (.iload_n 1, 1) := od_27  (by decide +kernel)
theorem dX12_voyage_13 : decode cX12_voyage 13 = .ok (.i2l, 1) := od_133  (by decide +kernel)
theorem dX12_voyage_14 : decode cX12_voyage 14 = .ok (.lconst 0, 1) := od_9  (by decide +kernel)
theorem dX12_voyage_15 : decode cX12_voyage 15 = .ok (.aload_n 0, 1) := od_42  (by decide +kernel)
theorem dX12_voyage_16 : decode cX12_voyage 16 = .ok (.getfield 541, 3) := od_180 (a := 2) (b := 29) (by decide +kernel) (by decide)
theorem dX12_voyage_19 : decode cX12_voyage 19 = .ok (.i2l, 1) := od_133  (by decide +kernel)
theorem dX12_voyage_20 : decode cX12_voyage 20 = .ok (.lconst 1, 1) := od_10  (by decide +kernel)
theorem dX12_voyage_21 : decode cX12_voyage 21 = .ok (.lsub, 1) := od_101  (by decide +kernel)
theorem dX12_voyage_22 : decode cX12_voyage 22 = .ok (.invokestatic 99, 3) := od_184 (a := 0) (b := 99) (by decide +kernel) (by decide)
theorem dX12_voyage_25 : decode cX12_voyage 25 = .ok (.ifCond .eq 28, 3) := od_153 (a := 0) (b := 28) (by decide +kernel) (by decide +kernel)
theorem dX12_voyage_28 : decode cX12_voyage 28 = .ok (.iload_n 2, 1) := od_28  (by decide +kernel)
theorem dX12_voyage_29 : decode cX12_voyage 29 = .ok (.i2l, 1) := od_133  (by decide +kernel)
theorem dX12_voyage_30 : decode cX12_voyage 30 = .ok (.lconst 0, 1) := od_9  (by decide +kernel)
theorem dX12_voyage_31 : decode cX12_voyage 31 = .ok (.ldc2_w 464, 3) := od_20 (a := 1) (b := 208) (by decide +kernel) (by decide)
theorem dX12_voyage_34 : decode cX12_voyage 34 = .ok (.invokestatic 99, 3) := od_184 (a := 0) (b := 99) (by decide +kernel) (by decide)
theorem dX12_voyage_37 : decode cX12_voyage 37 = .ok (.ifCond .eq 16, 3) := od_153 (a := 0) (b := 16) (by decide +kernel) (by decide +kernel)
theorem dX12_voyage_40 : decode cX12_voyage 40 = .ok (.aload_n 0, 1) := od_42  (by decide +kernel)
theorem dX12_voyage_41 : decode cX12_voyage 41 = .ok (.getfield 82, 3) := od_180 (a := 0) (b := 82) (by decide +kernel) (by decide)
theorem dX12_voyage_44 : decode cX12_voyage 44 = .ok (.iconst 5, 1) := od_8  (by decide +kernel)
theorem dX12_voyage_45 : decode cX12_voyage 45 = .ok (.iload_n 1, 1) := od_27  (by decide +kernel)
theorem dX12_voyage_46 : decode cX12_voyage 46 = .ok (.imul, 1) := od_104  (by decide +kernel)
theorem dX12_voyage_47 : decode cX12_voyage 47 = .ok (.iload_n 2, 1) := od_28  (by decide +kernel)
theorem dX12_voyage_48 : decode cX12_voyage 48 = .ok (.iadd, 1) := od_96  (by decide +kernel)
theorem dX12_voyage_49 : decode cX12_voyage 49 = .ok (.laload, 1) := od_47  (by decide +kernel)
theorem dX12_voyage_50 : decode cX12_voyage 50 = .ok (.goto 6, 3) := od_167 (a := 0) (b := 6) (by decide +kernel) (by decide +kernel)
theorem dX12_voyage_53 : decode cX12_voyage 53 = .ok (.ldc2_w 466, 3) := od_20 (a := 1) (b := 210) (by decide +kernel) (by decide)
theorem dX12_voyage_56 : decode cX12_voyage 56 = .ok (.lreturn, 1) := od_173  (by decide +kernel)
theorem dX12_count_0 : decode cX12_count 0 = .ok (.aload_n 0, 1) := od_42  (by decide +kernel)
theorem dX12_count_1 : decode cX12_count 1 = .ok (.iconst 0, 1) := od_3  (by decide +kernel)
theorem dX12_count_2 : decode cX12_count 2 = .ok (.putfield 91, 3) := od_181 (a := 0) (b := 91) (by decide +kernel) (by decide)
theorem dX12_count_5 : decode cX12_count 5 = .ok (.iload_n 1, 1) := od_27  (by decide +kernel)
theorem dX12_count_6 : decode cX12_count 6 = .ok (.tableswitch 115 0 8 #[50, 58, 65, 72, 79, 86, 94, 102, 110], 50) := by decide +kernel
theorem dX12_count_56 : decode cX12_count 56 = .ok (.aload_n 0, 1) := od_42  (by decide +kernel)
theorem dX12_count_57 : decode cX12_count 57 = .ok (.getfield 7, 3) := od_180 (a := 0) (b := 7) (by decide +kernel) (by decide)
theorem dX12_count_60 : decode cX12_count 60 = .ok (.bipush 11, 2) := od_16 (a := 11) (by decide +kernel) (by decide +kernel)
theorem dX12_count_62 : decode cX12_count 62 = .ok (.iaload, 1) := od_46  (by decide +kernel)
theorem dX12_count_63 : decode cX12_count 63 = .ok (.ireturn, 1) := od_172  (by decide +kernel)
theorem dX12_count_64 : decode cX12_count 64 = .ok (.aload_n 0, 1) := od_42  (by decide +kernel)
theorem dX12_count_65 : decode cX12_count 65 = .ok (.getfield 7, 3) := od_180 (a := 0) (b := 7) (by decide +kernel) (by decide)
theorem dX12_count_68 : decode cX12_count 68 = .ok (.iconst 0, 1) := od_3  (by decide +kernel)
theorem dX12_count_69 : decode cX12_count 69 = .ok (.iaload, 1) := od_46  (by decide +kernel)
theorem dX12_count_70 : decode cX12_count 70 = .ok (.ireturn, 1) := od_172  (by decide +kernel)
theorem dX12_count_71 : decode cX12_count 71 = .ok (.aload_n 0, 1) := od_42  (by decide +kernel)
theorem dX12_count_72 : decode cX12_count 72 = .ok (.getfield 7, 3) := od_180 (a := 0) (b := 7) (by decide +kernel) (by decide)
theorem dX12_count_75 : decode cX12_count 75 = .ok (.iconst 1, 1) := od_4  (by decide +kernel)
theorem dX12_count_76 : decode cX12_count 76 = .ok (.iaload, 1) := od_46  (by decide +kernel)
theorem dX12_count_77 : decode cX12_count 77 = .ok (.ireturn, 1) := od_172  (by decide +kernel)
theorem dX12_count_78 : decode cX12_count 78 = .ok (.aload_n 0, 1) := od_42  (by decide +kernel)
theorem dX12_count_79 : decode cX12_count 79 = .ok (.getfield 7, 3) := od_180 (a := 0) (b := 7) (by decide +kernel) (by decide)
theorem dX12_count_82 : decode cX12_count 82 = .ok (.iconst 2, 1) := od_5  (by decide +kernel)
theorem dX12_count_83 : decode cX12_count 83 = .ok (.iaload, 1) := od_46  (by decide +kernel)
theorem dX12_count_84 : decode cX12_count 84 = .ok (.ireturn, 1) := od_172  (by decide +kernel)
theorem dX12_count_85 : decode cX12_count 85 = .ok (.aload_n 0, 1) := od_42  (by decide +kernel)
theorem dX12_count_86 : decode cX12_count 86 = .ok (.getfield 7, 3) := od_180 (a := 0) (b := 7) (by decide +kernel) (by decide)
theorem dX12_count_89 : decode cX12_count 89 = .ok (.iconst 5, 1) := od_8  (by decide +kernel)
theorem dX12_count_90 : decode cX12_count 90 = .ok (.iaload, 1) := od_46  (by decide +kernel)
theorem dX12_count_91 : decode cX12_count 91 = .ok (.ireturn, 1) := od_172  (by decide +kernel)
theorem dX12_count_92 : decode cX12_count 92 = .ok (.aload_n 0, 1) := od_42  (by decide +kernel)
theorem dX12_count_93 : decode cX12_count 93 = .ok (.getfield 7, 3) := od_180 (a := 0) (b := 7) (by decide +kernel) (by decide)
theorem dX12_count_96 : decode cX12_count 96 = .ok (.bipush 8, 2) := od_16 (a := 8) (by decide +kernel) (by decide +kernel)
theorem dX12_count_98 : decode cX12_count 98 = .ok (.iaload, 1) := od_46  (by decide +kernel)
theorem dX12_count_99 : decode cX12_count 99 = .ok (.ireturn, 1) := od_172  (by decide +kernel)
theorem dX12_count_100 : decode cX12_count 100 = .ok (.aload_n 0, 1) := od_42  (by decide +kernel)
theorem dX12_count_101 : decode cX12_count 101 = .ok (.getfield 7, 3) := od_180 (a := 0) (b := 7) (by decide +kernel) (by decide)
theorem dX12_count_104 : decode cX12_count 104 = .ok (.bipush 10, 2) := od_16 (a := 10) (by decide +kernel) (by decide +kernel)
theorem dX12_count_106 : decode cX12_count 106 = .ok (.iaload, 1) := od_46  (by decide +kernel)
theorem dX12_count_107 : decode cX12_count 107 = .ok (.ireturn, 1) := od_172  (by decide +kernel)
theorem dX12_count_108 : decode cX12_count 108 = .ok (.aload_n 0, 1) := od_42  (by decide +kernel)
theorem dX12_count_109 : decode cX12_count 109 = .ok (.getfield 7, 3) := od_180 (a := 0) (b := 7) (by decide +kernel) (by decide)
theorem dX12_count_112 : decode cX12_count 112 = .ok (.bipush 9, 2) := od_16 (a := 9) (by decide +kernel) (by decide +kernel)
theorem dX12_count_114 : decode cX12_count 114 = .ok (.iaload, 1) := od_46  (by decide +kernel)
theorem dX12_count_115 : decode cX12_count 115 = .ok (.ireturn, 1) := od_172  (by decide +kernel)
theorem dX12_count_116 : decode cX12_count 116 = .ok (.aload_n 0, 1) := od_42  (by decide +kernel)
theorem dX12_count_117 : decode cX12_count 117 = .ok (.getfield 252, 3) := od_180 (a := 0) (b := 252) (by decide +kernel) (by decide)
theorem dX12_count_120 : decode cX12_count 120 = .ok (.ireturn, 1) := od_172  (by decide +kernel)
theorem dX12_count_121 : decode cX12_count 121 = .ok (.iconst (-1), 1) := od_2  (by decide +kernel)
theorem dX12_count_122 : decode cX12_count 122 = .ok (.ireturn, 1) := od_172  (by decide +kernel)
theorem dX12_status_0 : decode cX12_status 0 = .ok (.aload_n 0, 1) := od_42  (by decide +kernel)
theorem dX12_status_1 : decode cX12_status 1 = .ok (.iconst 0, 1) := od_3  (by decide +kernel)
theorem dX12_status_2 : decode cX12_status 2 = .ok (.putfield 91, 3) := od_181 (a := 0) (b := 91) (by decide +kernel) (by decide)
theorem dX12_status_5 : decode cX12_status 5 = .ok (.aload_n 0, 1) := od_42  (by decide +kernel)
theorem dX12_status_6 : decode cX12_status 6 = .ok (.getfield 94, 3) := od_180 (a := 0) (b := 94) (by decide +kernel) (by decide)
theorem dX12_status_9 : decode cX12_status 9 = .ok (.ireturn, 1) := od_172  (by decide +kernel)
end
section
set_option maxHeartbeats 4000000 in
set_option maxRecDepth 100000 in
theorem t_X12_billed (l : Launch) (dC : Nat → ClassId) (dI : Nat → Nat → Nat) (sz : Nat) (κ : Nat → ClassId) (Θ : Nat → Option Int) (τ ν : Nat → Nat) (ρ : Nat → Nat → Nat) (L : List Nat) (f : Nat → va_E) (hG : tp_G τ ν ρ L) (hT : tp_T (mo_O κ Θ) κ τ ν ρ f) (h0 : Nat) (ul : Int32) (x : Int) (b : Int) (ql : Int) (ht_h0 : τ h0 = 13) (hL_ul : ul.toInt = 1051 + 16 * ql) (hq_ul : 0 ≤ ql ∧ ql ≤ 59) (hbb : 0 ≤ b ∧ b ≤ 1000) (hJ : mo_RI x b (mo_R (mo_i (f (ρ h0 2))))) : Met l yX12_billed wqX12_billed ({ frames := 2, cells := 0, slots := 0, locals := 400 }) (va_Pc [.ref h0, .int ul] (pz_B dC dI (tp_K κ) (va_pl L f) sz)) (vp_Si (fun r => True ∧ True)) 0 0 (fun _ => False) := by
  refine Met.ofW (cc := cX12_billed) (maxL := 2) (ret := some .int) (by decide) rfl ?_
  intro p e s m args below meth c s₁ B hml hv
  obtain ⟨rfl, hsz, hP, hK, hD0, hN⟩ := hv
  have hx := B.exec
  have hb := B.bytes
  have hr := B.returns
  have hts := fun (w : Cond) (h : w ∈ WALL) => atoms_spec (ws := wqX12_billed) B.pre w (List.mem_cons_of_mem _ h)
  have hown : s.vm.findClass RX12 = some m.cls := findClass_of_methodNamed B.named
  have hlocks := B.notSynchronized
  subst hsz
  have hD := hD0
  have hS : va_S (fun _ => True) s.heap s.heap [] := va_S.rf
  have hl := lv_entry ([.ref h0, .int ul]) (n := 2) (Nat.le_of_ble_eq_true rfl)
  rw [lg_entry_eq]
  generalize (lg_sl ([.ref h0, .int ul]) ++ List.replicate (2 - (lg_sl ([.ref h0, .int ul])).length) Slot.unset).toArray = ls at hl ⊢
  have hl : lv_has ls 2 [(0, .ref h0), (1, .int ul)] := hl
  refine tgk_13 hG ht_h0 (fun y1 y2 y3 y4 y5 y6 y7 y8 y9 y10 y11 y12 y13 y14 y15 y16 y17 y18 y19 y20 y21 y22 y23 y24 y25 => ?_)
  refine tpk_32 hT y1 (fun g27 hf_o26 => ?_)
  have hI : mo_RI x b (mo_R g27) := by have q9 := hJ; rw [hf_o26, mo_i1] at q9; exact q9
  refine lv_aload_n hx hb dX12_billed_0 rfl (lv_at hl 0 rfl) ?_
  refine tpk_13 hT ht_h0 (fun o28_x0 o28_x1 o28_x7 o28_x9 o28_x10 o28_x11 o28_x12 o28_x13 o28_x14 o28_x15 o28_x16 o28_x17 o28_x18 o28_x19 o28_x20 o28_x22 o28_x25 o28_x28 o28_x29 o28_x32 o28_x33 o28_x34 o28_x35 o28_x36 o28_x37 o28_x38 o28_x47 o28_x48 hf_o28 ro28_0 ro28_1 ro28_2 ro28_3 ro28_4 ro28_5 ro28_6 ro28_7 ro28_8 ro28_9 ro28_10 ro28_11 ro28_12 ro28_13 ro28_14 => ?_)
  refine tpk_pos (tp_in hG ht_h0 (by decide)) hf_o28 (fun q29 eq29 => ?_)
  refine va_get (D := (dC, dI)) (ci := 12) (v := .ref (ρ h0 2)) (C := RX12) (T := TX12) (N := 53) hx hb hts hfX12 hown hK hP q29 eq29 rfl 2 (by decide) (hts (.fieldLink RX12 7 "ColdShipsModel" "row" "[I") wa_148) (fun _ h9 => h9) rfl dX12_billed_1 ?_
  refine lv_iload_n hx hb dX12_billed_4 rfl (lv_at hl 1 rfl) ?_
  refine lv_bipush (v := 11) hx hb dX12_billed_5 (by decide) ?_
  refine lv_iadd hx hb dX12_billed_7 ?_
  refine lv_topi (fun z30 ez30 => ?_)
  have iz30 : z30.toInt = ul.toInt + 11 := zi_add ez30 rfl rfl (by omega) (by omega)
  refine tpk_pos (tp_in hG y1 (by decide)) hf_o26 (fun q31 eq31 => ?_)
  refine va_iald hx hb hK hP q31 0 eq31 rfl (vp_in_iff.mpr ⟨by omega, by omega⟩) dX12_billed_8 ?_
  refine lv_topi (fun z32 ez32 => ?_)
  refine lv_iconst (v := (-1)) hx hb dX12_billed_9 (by decide) ?_
  refine lv_icmp_ne (tgt := 24) hx hb dX12_billed_10 (by decide) (fun c33 => ?_) (fun c33 => ?_)
  · have ic33 : z32.toInt ≠ (-1) := zi_ne rfl rfl c33
    refine lv_aload_n hx hb dX12_billed_24 rfl (lv_at hl 0 rfl) ?_
    refine va_get (D := (dC, dI)) (ci := 12) (v := .ref (ρ h0 2)) (C := RX12) (T := TX12) (N := 53) hx hb hts hfX12 hown hK hP q29 eq29 rfl 2 (by decide) (hts (.fieldLink RX12 7 "ColdShipsModel" "row" "[I") wa_148) (fun _ h9 => h9) rfl dX12_billed_25 ?_
    refine lv_iload_n hx hb dX12_billed_28 rfl (lv_at hl 1 rfl) ?_
    refine lv_bipush (v := 11) hx hb dX12_billed_29 (by decide) ?_
    refine lv_iadd hx hb dX12_billed_31 ?_
    refine lv_topi (fun z34 ez34 => ?_)
    have iz34 : z34.toInt = ul.toInt + 11 := zi_add ez34 rfl rfl (by omega) (by omega)
    refine va_iald hx hb hK hP q31 0 eq31 rfl (vp_in_iff.mpr ⟨by omega, by omega⟩) dX12_billed_32 ?_
    refine lv_topi (fun z35 ez35 => ?_)
    exact W.iret (v := z35) hx hb hr (fun t ht hW => ⟨z35, rfl, ⟨trivial, trivial⟩, ht⟩) (fun _ h => by cases h) dX12_billed_33
  · have ic33 : z32.toInt = (-1) := zi_nef rfl rfl c33
    refine lv_aload_n hx hb dX12_billed_13 rfl (lv_at hl 0 rfl) ?_
    refine va_get (D := (dC, dI)) (ci := 12) (v := .ref (ρ h0 2)) (C := RX12) (T := TX12) (N := 53) hx hb hts hfX12 hown hK hP q29 eq29 rfl 2 (by decide) (hts (.fieldLink RX12 7 "ColdShipsModel" "row" "[I") wa_148) (fun _ h9 => h9) rfl dX12_billed_14 ?_
    refine lv_iload_n hx hb dX12_billed_17 rfl (lv_at hl 1 rfl) ?_
    refine lv_iconst (v := 4) hx hb dX12_billed_18 (by decide) ?_
    refine lv_iadd hx hb dX12_billed_19 ?_
    refine lv_topi (fun z36 ez36 => ?_)
    have iz36 : z36.toInt = ul.toInt + 4 := zi_add ez36 rfl rfl (by omega) (by omega)
    refine va_iald hx hb hK hP q31 0 eq31 rfl (vp_in_iff.mpr ⟨by omega, by omega⟩) dX12_billed_20 ?_
    refine lv_topi (fun z37 ez37 => ?_)
    refine lv_goto (tgt := 33) hx hb dX12_billed_21 (by decide) ?_
    exact W.iret (v := z37) hx hb hr (fun t ht hW => ⟨z37, rfl, ⟨trivial, trivial⟩, ht⟩) (fun _ h => by cases h) dX12_billed_33
set_option maxHeartbeats 4000000 in
set_option maxRecDepth 100000 in
theorem t_X12_heatOf (l : Launch) (dC : Nat → ClassId) (dI : Nat → Nat → Nat) (sz : Nat) (κ : Nat → ClassId) (Θ : Nat → Option Int) (τ ν : Nat → Nat) (ρ : Nat → Nat → Nat) (L : List Nat) (f : Nat → va_E) (hG : tp_G τ ν ρ L) (hT : tp_T (mo_O κ Θ) κ τ ν ρ f) (h0 : Nat) (ul : Int32) (x : Int) (b : Int) (ql : Int) (ht_h0 : τ h0 = 13) (hL_ul : ul.toInt = 1051 + 16 * ql) (hq_ul : 0 ≤ ql ∧ ql ≤ 59) (hbb : 0 ≤ b ∧ b ≤ 1000) (hJ : mo_RI x b (mo_R (mo_i (f (ρ h0 2))))) (hn5 : ql < (mo_R (mo_i (f (ρ h0 2)))) (5)) : Met l yX12_heatOf wqX12_heatOf ({ frames := 3, cells := 0, slots := 0, locals := 800 }) (va_Pc [.ref h0, .int ul] (pz_B dC dI (tp_K κ) (va_pl L f) sz)) (vp_Si (fun r => True ∧ True)) 0 0 (fun _ => False) := by
  refine Met.ofW (cc := cX12_heatOf) (maxL := 5) (ret := some .int) (by decide) rfl ?_
  intro p e s m args below meth c s₁ B hml hv
  obtain ⟨rfl, hsz, hP, hK, hD0, hN⟩ := hv
  have hx := B.exec
  have hb := B.bytes
  have hr := B.returns
  have hts := fun (w : Cond) (h : w ∈ WALL) => atoms_spec (ws := wqX12_heatOf) B.pre w (List.mem_cons_of_mem _ h)
  have hown : s.vm.findClass RX12 = some m.cls := findClass_of_methodNamed B.named
  have hlocks := B.notSynchronized
  subst hsz
  have hD := hD0
  have hS : va_S (fun _ => True) s.heap s.heap [] := va_S.rf
  have hl := lv_entry ([.ref h0, .int ul]) (n := 5) (Nat.le_of_ble_eq_true rfl)
  rw [lg_entry_eq]
  generalize (lg_sl ([.ref h0, .int ul]) ++ List.replicate (5 - (lg_sl ([.ref h0, .int ul])).length) Slot.unset).toArray = ls at hl ⊢
  have hl : lv_has ls 5 [(0, .ref h0), (1, .int ul)] := hl
  refine tgk_13 hG ht_h0 (fun y1 y2 y3 y4 y5 y6 y7 y8 y9 y10 y11 y12 y13 y14 y15 y16 y17 y18 y19 y20 y21 y22 y23 y24 y25 => ?_)
  refine tpk_32 hT y1 (fun g27 hf_o26 => ?_)
  have hI : mo_RI x b (mo_R g27) := by have q9 := hJ; rw [hf_o26, mo_i1] at q9; exact q9
  rw [hf_o26, mo_i1] at hn5
  refine lv_lconst (v := 0) hx hb dX12_heatOf_0 (by decide) ?_
  refine lv_lstore_n (lv' := [(2, .long 0), (0, .ref h0), (1, .int ul)]) hx hb dX12_heatOf_1 rfl hl (by decide) rfl (fun ls hl => ?_)
  refine lv_iconst (v := 0) hx hb dX12_heatOf_2 (by decide) ?_
  refine lv_istore (lv' := [(4, .int 0), (2, .long 0), (0, .ref h0), (1, .int ul)]) hx hb dX12_heatOf_3 hl (by decide) rfl (fun ls hl => ?_)
  refine pz_loop (fun n0 H locs ls => ∃ w28 : Int32, ∃ w29 : Int64, n0 = (6 - (w28.toInt)).toNat ∧ (0 ≤ w28.toInt ∧ w28.toInt ≤ 6) ∧ H = s.heap ∧ locs = [] ∧ lv_has ls 5 [(4, .int w28), (2, .long w29), (0, .ref h0), (1, .int ul)]) ?_ _ _ _ _ ⟨0, 0, rfl, (by have : (0 : Int32).toInt = 0 := rfl; have : (0 : Int64).toInt = 0 := rfl; omega), rfl, rfl, lv_sub hl [0, 1, 2, 3] rfl⟩
  intro n0 H locs ls hI ih30
  refine Exists.elim hI (fun w28 hE90 => Exists.elim hE90 (fun w29 hE91 => tn_5 hE91 (fun hn31 rw28 e92 e93 hl => ?_)))
  clear hE91 hE90 hI; subst e92; subst e93
  refine lv_iload hx hb dX12_heatOf_5 (lv_at hl 0 rfl) ?_
  refine lv_aload_n hx hb dX12_heatOf_7 rfl (lv_at hl 2 rfl) ?_
  refine tpk_13 hT ht_h0 (fun o32_x0 o32_x1 o32_x7 o32_x9 o32_x10 o32_x11 o32_x12 o32_x13 o32_x14 o32_x15 o32_x16 o32_x17 o32_x18 o32_x19 o32_x20 o32_x22 o32_x25 o32_x28 o32_x29 o32_x32 o32_x33 o32_x34 o32_x35 o32_x36 o32_x37 o32_x38 o32_x47 o32_x48 hf_o32 ro32_0 ro32_1 ro32_2 ro32_3 ro32_4 ro32_5 ro32_6 ro32_7 ro32_8 ro32_9 ro32_10 ro32_11 ro32_12 ro32_13 ro32_14 => ?_)
  refine tpk_pos (tp_in hG ht_h0 (by decide)) hf_o32 (fun q33 eq33 => ?_)
  refine va_get (D := (dC, dI)) (ci := 12) (v := .ref (ρ h0 2)) (C := RX12) (T := TX12) (N := 53) hx hb hts hfX12 hown hK hP q33 eq33 rfl 2 (by decide) (hts (.fieldLink RX12 7 "ColdShipsModel" "row" "[I") wa_148) (fun _ h9 => h9) rfl dX12_heatOf_8 ?_
  refine lv_iconst (v := 0) hx hb dX12_heatOf_11 (by decide) ?_
  refine tpk_pos (tp_in hG y1 (by decide)) hf_o26 (fun q34 eq34 => ?_)
  refine va_iald hx hb hK hP q34 0 eq34 rfl (vp_in_iff.mpr ⟨by decide, by decide⟩) dX12_heatOf_12 ?_
  refine lv_topi (fun z35 ez35 => ?_)
  have jz35 : z35.toInt = mo_R g27 (0) := mo_rd ez35 (show (0 : Int32).toInt = (0) from by decide)
  have kz35 := hI.k0
  refine lv_icmp_ge (tgt := 51) hx hb dX12_heatOf_13 (by decide) (fun c36 => ?_) (fun c36 => ?_)
  · have ic36 : w28.toInt ≥ z35.toInt := zi_ge rfl rfl c36
    refine lv_lload_n hx hb dX12_heatOf_51 rfl (lv_at hl 1 rfl) ?_
    refine lv_aload_n hx hb dX12_heatOf_52 rfl (lv_at hl 2 rfl) ?_
    refine va_get (D := (dC, dI)) (ci := 12) (v := .ref (ρ h0 2)) (C := RX12) (T := TX12) (N := 53) hx hb hts hfX12 hown hK hP q33 eq33 rfl 2 (by decide) (hts (.fieldLink RX12 7 "ColdShipsModel" "row" "[I") wa_148) (fun _ h9 => h9) rfl dX12_heatOf_53 ?_
    refine lv_iload_n hx hb dX12_heatOf_56 rfl (lv_at hl 3 rfl) ?_
    refine lv_iconst (v := 4) hx hb dX12_heatOf_57 (by decide) ?_
    refine lv_iadd hx hb dX12_heatOf_58 ?_
    refine lv_topi (fun z37 ez37 => ?_)
    have iz37 : z37.toInt = ul.toInt + 4 := zi_add ez37 rfl rfl (by omega) (by omega)
    refine va_iald hx hb hK hP q34 0 eq34 rfl (vp_in_iff.mpr ⟨by omega, by omega⟩) dX12_heatOf_59 ?_
    refine lv_topi (fun z38 ez38 => ?_)
    have jz38 : z38.toInt = mo_R g27 (1051 + 16 * ql + 4) := mo_rd ez38 (by omega)
    have kz38 := hI.LT (l := ql) (by omega) (by omega)
    refine lv_i2l hx hb dX12_heatOf_60 rfl ?_
    refine lv_ldiv hx hb dX12_heatOf_61 (zl_nz (by omega) (Int32.toInt_toInt64 z38)) ?_
    refine lv_topl (fun z39 ez39 => ?_)
    refine lv_l2i hx hb dX12_heatOf_62 rfl ?_
    refine lv_topi (fun z40 ez40 => ?_)
    exact W.iret (v := z40) hx hb hr (fun t ht hW => ⟨z40, rfl, ⟨trivial, trivial⟩, ht⟩) (fun _ h => by cases h) dX12_heatOf_63
  · have ic36 : w28.toInt < z35.toInt := zi_gef rfl rfl c36
    refine lv_lload_n hx hb dX12_heatOf_16 rfl (lv_at hl 1 rfl) ?_
    refine lv_aload_n hx hb dX12_heatOf_17 rfl (lv_at hl 2 rfl) ?_
    refine va_get (D := (dC, dI)) (ci := 12) (v := .ref (ρ h0 2)) (C := RX12) (T := TX12) (N := 53) hx hb hts hfX12 hown hK hP q33 eq33 rfl 2 (by decide) (hts (.fieldLink RX12 7 "ColdShipsModel" "row" "[I") wa_148) (fun _ h9 => h9) rfl dX12_heatOf_18 ?_
    refine lv_iload_n hx hb dX12_heatOf_21 rfl (lv_at hl 3 rfl) ?_
    refine lv_iconst (v := 5) hx hb dX12_heatOf_22 (by decide) ?_
    refine lv_iadd hx hb dX12_heatOf_23 ?_
    refine lv_topi (fun z41 ez41 => ?_)
    have iz41 : z41.toInt = ul.toInt + 5 := zi_add ez41 rfl rfl (by omega) (by omega)
    refine lv_iload hx hb dX12_heatOf_24 (lv_at hl 0 rfl) ?_
    refine lv_iadd hx hb dX12_heatOf_26 ?_
    refine lv_topi (fun z42 ez42 => ?_)
    have iz42 : z42.toInt = z41.toInt + w28.toInt := zi_add ez42 rfl rfl (by omega) (by omega)
    refine va_iald hx hb hK hP q34 0 eq34 rfl (vp_in_iff.mpr ⟨by omega, by omega⟩) dX12_heatOf_27 ?_
    refine lv_topi (fun z43 ez43 => ?_)
    refine lv_i2l hx hb dX12_heatOf_28 rfl ?_
    refine lv_aload_n hx hb dX12_heatOf_29 rfl (lv_at hl 2 rfl) ?_
    refine va_get (D := (dC, dI)) (ci := 12) (v := .ref (ρ h0 2)) (C := RX12) (T := TX12) (N := 53) hx hb hts hfX12 hown hK hP q33 eq33 rfl 2 (by decide) (hts (.fieldLink RX12 7 "ColdShipsModel" "row" "[I") wa_148) (fun _ h9 => h9) rfl dX12_heatOf_30 ?_
    refine lv_iload hx hb dX12_heatOf_33 (lv_at hl 0 rfl) ?_
    refine pz_calli (va_runS (As := [.int w28]) (rest := [.ref (ρ h0 2), .long z43.toInt64, .long w29]) ⟨hx, hb, hml, hown, hts⟩ (t_X12_terminalAt l dC dI _ w28 (w28.toInt) (by omega) rfl) (va_cwS 1 hts gX12_heatOf_X12_terminalAt rfl rfl rfl pd_X12_terminalAt ⟨Nat.le_of_ble_eq_true rfl, Nat.le_of_ble_eq_true rfl⟩) ⟨pz_blind, pz_pre pz_P0 (hK.sub (tys' := []) [] rfl) (pz_D0 (A := fun _ => True)) hN⟩ rfl rfl hl.1 rfl (lv_room (Nat.le_of_ble_eq_true rfl)) dX12_heatOf_35 ⟨Nat.le_of_ble_eq_true rfl, Nat.le_of_ble_eq_true rfl⟩) (fun r44 hw45 => ?_)
    obtain ⟨hw45r, hw45p⟩ := hw45
    refine lv_iconst (v := 4) hx hb dX12_heatOf_38 (by decide) ?_
    refine lv_iadd hx hb dX12_heatOf_39 ?_
    refine lv_topi (fun z46 ez46 => ?_)
    have iz46 : z46.toInt = r44.toInt + 4 := zi_add ez46 rfl rfl (by omega) (by omega)
    refine va_iald hx hb hK hP q34 0 eq34 rfl (vp_in_iff.mpr ⟨by omega, by omega⟩) dX12_heatOf_40 ?_
    refine lv_topi (fun z47 ez47 => ?_)
    refine lv_i2l hx hb dX12_heatOf_41 rfl ?_
    refine lv_lmul hx hb dX12_heatOf_42 ?_
    refine lv_topl (fun z48 ez48 => ?_)
    refine lv_ladd hx hb dX12_heatOf_43 ?_
    refine lv_topl (fun z49 ez49 => ?_)
    refine lv_lstore_n (lv' := [(2, .long z49), (4, .int w28), (0, .ref h0), (1, .int ul)]) hx hb dX12_heatOf_44 rfl hl (by decide) rfl (fun ls hl => ?_)
    obtain ⟨z50, ez50⟩ : ∃ y : Int32, y = w28 + 1 := ⟨_, rfl⟩
    refine lv_iinc (v := z50) (lv' := [(4, .int z50), (2, .long z49), (0, .ref h0), (1, .int ul)]) hx hb dX12_heatOf_45 hl (k := 1) rfl (by rw [ez50]; rfl) (by decide) rfl (fun ls hl => ?_)
    have iz50 : z50.toInt = w28.toInt + 1 := zi_add ez50 rfl rfl (by omega) (by omega)
    refine lv_goto (tgt := 5) hx hb dX12_heatOf_48 (by decide) ?_
    exact ih30 _ _ _ _ (by rw [hn31]; omega) ⟨z50, z49, rfl, (by omega), rfl, rfl, lv_sub hl [0, 1, 2, 3] rfl⟩
set_option maxHeartbeats 4000000 in
set_option maxRecDepth 100000 in
theorem t_X12_priceOf (l : Launch) (dC : Nat → ClassId) (dI : Nat → Nat → Nat) (sz : Nat) (κ : Nat → ClassId) (Θ : Nat → Option Int) (τ ν : Nat → Nat) (ρ : Nat → Nat → Nat) (L : List Nat) (f : Nat → va_E) (hG : tp_G τ ν ρ L) (hT : tp_T (mo_O κ Θ) κ τ ν ρ f) (h0 : Nat) (v : Int32) (u : Int32) (x : Int) (b : Int) (ht_h0 : τ h0 = 13) (hbb : 0 ≤ b ∧ b ≤ 1000) (hJ : mo_RI x b (mo_R (mo_i (f (ρ h0 2))))) : Met l yX12_priceOf wqX12_priceOf ({ frames := 2, cells := 0, slots := 0, locals := 400 }) (va_Pc [.ref h0, .int v, .int u] (pz_B dC dI (tp_K κ) (va_pl L f) sz)) (vp_Si (fun r => True ∧ True)) 0 0 (fun _ => False) := by
  refine Met.ofW (cc := cX12_priceOf) (maxL := 7) (ret := some .int) (by decide) rfl ?_
  intro p e s m args below meth c s₁ B hml hv
  obtain ⟨rfl, hsz, hP, hK, hD0, hN⟩ := hv
  have hx := B.exec
  have hb := B.bytes
  have hr := B.returns
  have hts := fun (w : Cond) (h : w ∈ WALL) => atoms_spec (ws := wqX12_priceOf) B.pre w (List.mem_cons_of_mem _ h)
  have hown : s.vm.findClass RX12 = some m.cls := findClass_of_methodNamed B.named
  have hlocks := B.notSynchronized
  subst hsz
  have hD := hD0
  have hS : va_S (fun _ => True) s.heap s.heap [] := va_S.rf
  have hl := lv_entry ([.ref h0, .int v, .int u]) (n := 7) (Nat.le_of_ble_eq_true rfl)
  rw [lg_entry_eq]
  generalize (lg_sl ([.ref h0, .int v, .int u]) ++ List.replicate (7 - (lg_sl ([.ref h0, .int v, .int u])).length) Slot.unset).toArray = ls at hl ⊢
  have hl : lv_has ls 7 [(0, .ref h0), (1, .int v), (2, .int u)] := hl
  refine tgk_13 hG ht_h0 (fun y1 y2 y3 y4 y5 y6 y7 y8 y9 y10 y11 y12 y13 y14 y15 y16 y17 y18 y19 y20 y21 y22 y23 y24 y25 => ?_)
  refine tpk_32 hT y1 (fun g27 hf_o26 => ?_)
  have hI : mo_RI x b (mo_R g27) := by have q9 := hJ; rw [hf_o26, mo_i1] at q9; exact q9
  refine lv_iconst (v := 0) hx hb dX12_priceOf_0 (by decide) ?_
  refine lv_istore_n (lv' := [(3, .int 0), (0, .ref h0), (1, .int v), (2, .int u)]) hx hb dX12_priceOf_1 rfl hl (by decide) rfl (fun ls hl => ?_)
  refine lv_iconst (v := (-1)) hx hb dX12_priceOf_2 (by decide) ?_
  refine lv_istore (lv' := [(4, .int (-1)), (3, .int 0), (0, .ref h0), (1, .int v), (2, .int u)]) hx hb dX12_priceOf_3 hl (by decide) rfl (fun ls hl => ?_)
  refine lv_iconst (v := 0) hx hb dX12_priceOf_5 (by decide) ?_
  refine lv_istore (lv' := [(5, .int 0), (4, .int (-1)), (3, .int 0), (0, .ref h0), (1, .int v), (2, .int u)]) hx hb dX12_priceOf_6 hl (by decide) rfl (fun ls hl => ?_)
  refine pz_loop (fun n0 H locs ls => ∃ w28 : Int32, ∃ w29 : Int32, ∃ w30 : Int32, n0 = (60 - (w28.toInt)).toNat ∧ (0 ≤ w28.toInt ∧ w28.toInt ≤ 60) ∧ H = s.heap ∧ locs = [] ∧ lv_has ls 7 [(5, .int w28), (4, .int w29), (3, .int w30), (0, .ref h0), (1, .int v), (2, .int u)]) ?_ _ _ _ _ ⟨0, (-1), 0, rfl, (by have : (0 : Int32).toInt = 0 := rfl; have : ((-1) : Int32).toInt = (-1) := rfl; have : (0 : Int32).toInt = 0 := rfl; omega), rfl, rfl, lv_sub hl [0, 1, 2, 3, 4, 5] rfl⟩
  intro n0 H locs ls hI ih31
  refine Exists.elim hI (fun w28 hE90 => Exists.elim hE90 (fun w29 hE91 => Exists.elim hE91 (fun w30 hE92 => tn_5 hE92 (fun hn32 rw28 e92 e93 hl => ?_))))
  clear hE92 hE91 hE90 hI; subst e92; subst e93
  refine lv_iload hx hb dX12_priceOf_8 (lv_at hl 0 rfl) ?_
  refine lv_aload_n hx hb dX12_priceOf_10 rfl (lv_at hl 3 rfl) ?_
  refine tpk_13 hT ht_h0 (fun o33_x0 o33_x1 o33_x7 o33_x9 o33_x10 o33_x11 o33_x12 o33_x13 o33_x14 o33_x15 o33_x16 o33_x17 o33_x18 o33_x19 o33_x20 o33_x22 o33_x25 o33_x28 o33_x29 o33_x32 o33_x33 o33_x34 o33_x35 o33_x36 o33_x37 o33_x38 o33_x47 o33_x48 hf_o33 ro33_0 ro33_1 ro33_2 ro33_3 ro33_4 ro33_5 ro33_6 ro33_7 ro33_8 ro33_9 ro33_10 ro33_11 ro33_12 ro33_13 ro33_14 => ?_)
  refine tpk_pos (tp_in hG ht_h0 (by decide)) hf_o33 (fun q34 eq34 => ?_)
  refine va_get (D := (dC, dI)) (ci := 12) (v := .ref (ρ h0 2)) (C := RX12) (T := TX12) (N := 53) hx hb hts hfX12 hown hK hP q34 eq34 rfl 2 (by decide) (hts (.fieldLink RX12 7 "ColdShipsModel" "row" "[I") wa_148) (fun _ h9 => h9) rfl dX12_priceOf_11 ?_
  refine lv_bipush (v := 6) hx hb dX12_priceOf_14 (by decide) ?_
  refine tpk_pos (tp_in hG y1 (by decide)) hf_o26 (fun q35 eq35 => ?_)
  refine va_iald hx hb hK hP q35 0 eq35 rfl (vp_in_iff.mpr ⟨by decide, by decide⟩) dX12_priceOf_16 ?_
  refine lv_topi (fun z36 ez36 => ?_)
  have jz36 : z36.toInt = mo_R g27 (6) := mo_rd ez36 (show (6 : Int32).toInt = (6) from by decide)
  have kz36 := hI.k6
  refine lv_icmp_ge (tgt := 91) hx hb dX12_priceOf_17 (by decide) (fun c37 => ?_) (fun c37 => ?_)
  · have ic37 : w28.toInt ≥ z36.toInt := zi_ge rfl rfl c37
    refine lv_iload_n hx hb dX12_priceOf_91 rfl (lv_at hl 2 rfl) ?_
    exact W.iret (v := w30) hx hb hr (fun t ht hW => ⟨w30, rfl, ⟨trivial, trivial⟩, ht⟩) (fun _ h => by cases h) dX12_priceOf_92
  · have ic37 : w28.toInt < z36.toInt := zi_gef rfl rfl c37
    refine lv_sipush (v := 2011) hx hb dX12_priceOf_20 (by decide) ?_
    refine lv_iconst (v := 3) hx hb dX12_priceOf_23 (by decide) ?_
    refine lv_iload hx hb dX12_priceOf_24 (lv_at hl 0 rfl) ?_
    refine lv_imul hx hb dX12_priceOf_26 ?_
    refine lv_topi (fun z38 ez38 => ?_)
    have iz38 : z38.toInt = 3 * w28.toInt := zi_mul ez38 rfl rfl (by omega) (by omega)
    refine lv_iadd hx hb dX12_priceOf_27 ?_
    refine lv_topi (fun z39 ez39 => ?_)
    have iz39 : z39.toInt = 2011 + z38.toInt := zi_add ez39 rfl rfl (by omega) (by omega)
    refine lv_istore (lv' := [(6, .int z39), (5, .int w28), (4, .int w29), (3, .int w30), (0, .ref h0), (1, .int v), (2, .int u)]) hx hb dX12_priceOf_28 hl (by decide) rfl (fun ls hl => ?_)
    refine lv_aload_n hx hb dX12_priceOf_30 rfl (lv_at hl 4 rfl) ?_
    refine va_get (D := (dC, dI)) (ci := 12) (v := .ref (ρ h0 2)) (C := RX12) (T := TX12) (N := 53) hx hb hts hfX12 hown hK hP q34 eq34 rfl 2 (by decide) (hts (.fieldLink RX12 7 "ColdShipsModel" "row" "[I") wa_148) (fun _ h9 => h9) rfl dX12_priceOf_31 ?_
    refine lv_iload hx hb dX12_priceOf_34 (lv_at hl 0 rfl) ?_
    refine lv_iconst (v := 2) hx hb dX12_priceOf_36 (by decide) ?_
    refine lv_iadd hx hb dX12_priceOf_37 ?_
    refine lv_topi (fun z40 ez40 => ?_)
    have iz40 : z40.toInt = z39.toInt + 2 := zi_add ez40 rfl rfl (by omega) (by omega)
    refine va_iald hx hb hK hP q35 0 eq35 rfl (vp_in_iff.mpr ⟨by omega, by omega⟩) dX12_priceOf_38 ?_
    refine lv_topi (fun z41 ez41 => ?_)
    refine lv_iload_n hx hb dX12_priceOf_39 rfl (lv_at hl 6 rfl) ?_
    refine lv_icmp_gt (tgt := 85) hx hb dX12_priceOf_40 (by decide) (fun c42 => ?_) (fun c42 => ?_)
    · have ic42 : z41.toInt > u.toInt := zi_gt rfl rfl c42
      obtain ⟨z43, ez43⟩ : ∃ y : Int32, y = w28 + 1 := ⟨_, rfl⟩
      refine lv_iinc (v := z43) (lv' := [(5, .int z43), (6, .int z39), (4, .int w29), (3, .int w30), (0, .ref h0), (1, .int v), (2, .int u)]) hx hb dX12_priceOf_85 hl (k := 1) rfl (by rw [ez43]; rfl) (by decide) rfl (fun ls hl => ?_)
      have iz43 : z43.toInt = w28.toInt + 1 := zi_add ez43 rfl rfl (by omega) (by omega)
      refine lv_goto (tgt := 8) hx hb dX12_priceOf_88 (by decide) ?_
      exact ih31 _ _ _ _ (by rw [hn32]; omega) ⟨z43, w29, w30, rfl, (by omega), rfl, rfl, lv_sub hl [0, 2, 3, 4, 5, 6] rfl⟩
    · have ic42 : z41.toInt ≤ u.toInt := zi_gtf rfl rfl c42
      refine lv_aload_n hx hb dX12_priceOf_43 rfl (lv_at hl 4 rfl) ?_
      refine va_get (D := (dC, dI)) (ci := 12) (v := .ref (ρ h0 2)) (C := RX12) (T := TX12) (N := 53) hx hb hts hfX12 hown hK hP q34 eq34 rfl 2 (by decide) (hts (.fieldLink RX12 7 "ColdShipsModel" "row" "[I") wa_148) (fun _ h9 => h9) rfl dX12_priceOf_44 ?_
      refine lv_iload hx hb dX12_priceOf_47 (lv_at hl 0 rfl) ?_
      refine va_iald hx hb hK hP q35 0 eq35 rfl (vp_in_iff.mpr ⟨by omega, by omega⟩) dX12_priceOf_49 ?_
      refine lv_topi (fun z44 ez44 => ?_)
      refine lv_iload_n hx hb dX12_priceOf_50 rfl (lv_at hl 5 rfl) ?_
      refine lv_icmp_gt (tgt := 85) hx hb dX12_priceOf_51 (by decide) (fun c45 => ?_) (fun c45 => ?_)
      · have ic45 : z44.toInt > v.toInt := zi_gt rfl rfl c45
        obtain ⟨z46, ez46⟩ : ∃ y : Int32, y = w28 + 1 := ⟨_, rfl⟩
        refine lv_iinc (v := z46) (lv' := [(5, .int z46), (6, .int z39), (4, .int w29), (3, .int w30), (0, .ref h0), (1, .int v), (2, .int u)]) hx hb dX12_priceOf_85 hl (k := 1) rfl (by rw [ez46]; rfl) (by decide) rfl (fun ls hl => ?_)
        have iz46 : z46.toInt = w28.toInt + 1 := zi_add ez46 rfl rfl (by omega) (by omega)
        refine lv_goto (tgt := 8) hx hb dX12_priceOf_88 (by decide) ?_
        exact ih31 _ _ _ _ (by rw [hn32]; omega) ⟨z46, w29, w30, rfl, (by omega), rfl, rfl, lv_sub hl [0, 2, 3, 4, 5, 6] rfl⟩
      · have ic45 : z44.toInt ≤ v.toInt := zi_gtf rfl rfl c45
        refine lv_aload_n hx hb dX12_priceOf_54 rfl (lv_at hl 4 rfl) ?_
        refine va_get (D := (dC, dI)) (ci := 12) (v := .ref (ρ h0 2)) (C := RX12) (T := TX12) (N := 53) hx hb hts hfX12 hown hK hP q34 eq34 rfl 2 (by decide) (hts (.fieldLink RX12 7 "ColdShipsModel" "row" "[I") wa_148) (fun _ h9 => h9) rfl dX12_priceOf_55 ?_
        refine lv_iload hx hb dX12_priceOf_58 (lv_at hl 0 rfl) ?_
        refine va_iald hx hb hK hP q35 0 eq35 rfl (vp_in_iff.mpr ⟨by omega, by omega⟩) dX12_priceOf_60 ?_
        refine lv_topi (fun z47 ez47 => ?_)
        refine lv_iload hx hb dX12_priceOf_61 (lv_at hl 2 rfl) ?_
        refine lv_icmp_lt (tgt := 85) hx hb dX12_priceOf_63 (by decide) (fun c48 => ?_) (fun c48 => ?_)
        · have ic48 : z47.toInt < w29.toInt := zi_lt rfl rfl c48
          obtain ⟨z49, ez49⟩ : ∃ y : Int32, y = w28 + 1 := ⟨_, rfl⟩
          refine lv_iinc (v := z49) (lv' := [(5, .int z49), (6, .int z39), (4, .int w29), (3, .int w30), (0, .ref h0), (1, .int v), (2, .int u)]) hx hb dX12_priceOf_85 hl (k := 1) rfl (by rw [ez49]; rfl) (by decide) rfl (fun ls hl => ?_)
          have iz49 : z49.toInt = w28.toInt + 1 := zi_add ez49 rfl rfl (by omega) (by omega)
          refine lv_goto (tgt := 8) hx hb dX12_priceOf_88 (by decide) ?_
          exact ih31 _ _ _ _ (by rw [hn32]; omega) ⟨z49, w29, w30, rfl, (by omega), rfl, rfl, lv_sub hl [0, 2, 3, 4, 5, 6] rfl⟩
        · have ic48 : z47.toInt ≥ w29.toInt := zi_ltf rfl rfl c48
          refine lv_aload_n hx hb dX12_priceOf_66 rfl (lv_at hl 4 rfl) ?_
          refine va_get (D := (dC, dI)) (ci := 12) (v := .ref (ρ h0 2)) (C := RX12) (T := TX12) (N := 53) hx hb hts hfX12 hown hK hP q34 eq34 rfl 2 (by decide) (hts (.fieldLink RX12 7 "ColdShipsModel" "row" "[I") wa_148) (fun _ h9 => h9) rfl dX12_priceOf_67 ?_
          refine lv_iload hx hb dX12_priceOf_70 (lv_at hl 0 rfl) ?_
          refine va_iald hx hb hK hP q35 0 eq35 rfl (vp_in_iff.mpr ⟨by omega, by omega⟩) dX12_priceOf_72 ?_
          refine lv_topi (fun z50 ez50 => ?_)
          refine lv_istore (lv' := [(4, .int z50), (6, .int z39), (5, .int w28), (3, .int w30), (0, .ref h0), (1, .int v), (2, .int u)]) hx hb dX12_priceOf_73 hl (by decide) rfl (fun ls hl => ?_)
          refine lv_aload_n hx hb dX12_priceOf_75 rfl (lv_at hl 4 rfl) ?_
          refine va_get (D := (dC, dI)) (ci := 12) (v := .ref (ρ h0 2)) (C := RX12) (T := TX12) (N := 53) hx hb hts hfX12 hown hK hP q34 eq34 rfl 2 (by decide) (hts (.fieldLink RX12 7 "ColdShipsModel" "row" "[I") wa_148) (fun _ h9 => h9) rfl dX12_priceOf_76 ?_
          refine lv_iload hx hb dX12_priceOf_79 (lv_at hl 1 rfl) ?_
          refine lv_iconst (v := 1) hx hb dX12_priceOf_81 (by decide) ?_
          refine lv_iadd hx hb dX12_priceOf_82 ?_
          refine lv_topi (fun z51 ez51 => ?_)
          have iz51 : z51.toInt = z39.toInt + 1 := zi_add ez51 rfl rfl (by omega) (by omega)
          refine va_iald hx hb hK hP q35 0 eq35 rfl (vp_in_iff.mpr ⟨by omega, by omega⟩) dX12_priceOf_83 ?_
          refine lv_topi (fun z52 ez52 => ?_)
          refine lv_istore_n (lv' := [(3, .int z52), (4, .int z50), (6, .int z39), (5, .int w28), (0, .ref h0), (1, .int v), (2, .int u)]) hx hb dX12_priceOf_84 rfl hl (by decide) rfl (fun ls hl => ?_)
          obtain ⟨z53, ez53⟩ : ∃ y : Int32, y = w28 + 1 := ⟨_, rfl⟩
          refine lv_iinc (v := z53) (lv' := [(5, .int z53), (3, .int z52), (4, .int z50), (6, .int z39), (0, .ref h0), (1, .int v), (2, .int u)]) hx hb dX12_priceOf_85 hl (k := 3) rfl (by rw [ez53]; rfl) (by decide) rfl (fun ls hl => ?_)
          have iz53 : z53.toInt = w28.toInt + 1 := zi_add ez53 rfl rfl (by omega) (by omega)
          refine lv_goto (tgt := 8) hx hb dX12_priceOf_88 (by decide) ?_
          exact ih31 _ _ _ _ (by rw [hn32]; omega) ⟨z53, z50, z52, rfl, (by omega), rfl, rfl, lv_sub hl [0, 2, 1, 4, 5, 6] rfl⟩
set_option maxHeartbeats 4000000 in
set_option maxRecDepth 100000 in
theorem t_X12_isForce (l : Launch) (dC : Nat → ClassId) (dI : Nat → Nat → Nat) (sz : Nat) (κ : Nat → ClassId) (Θ : Nat → Option Int) (τ ν : Nat → Nat) (ρ : Nat → Nat → Nat) (L : List Nat) (f : Nat → va_E) (hG : tp_G τ ν ρ L) (hT : tp_T (mo_O κ Θ) κ τ ν ρ f) (h0 : Nat) (v : Int32) (u : Int32) (x : Int) (b : Int) (ht_h0 : τ h0 = 13) (hbb : 0 ≤ b ∧ b ≤ 1000) (hJ : mo_RI x b (mo_R (mo_i (f (ρ h0 2))))) : Met l yX12_isForce wqX12_isForce ({ frames := 3, cells := 0, slots := 0, locals := 800 }) (va_Pc [.ref h0, .int v, .int u] (pz_B dC dI (tp_K κ) (va_pl L f) sz)) (vp_Si (fun r => (0 ≤ r.toInt ∧ r.toInt ≤ 1) ∧ True)) 0 0 (fun _ => False) := by
  refine Met.ofW (cc := cX12_isForce) (maxL := 6) (ret := some .boolean) (by decide) rfl ?_
  intro p e s m args below meth c s₁ B hml hv
  obtain ⟨rfl, hsz, hP, hK, hD0, hN⟩ := hv
  have hx := B.exec
  have hb := B.bytes
  have hr := B.returns
  have hts := fun (w : Cond) (h : w ∈ WALL) => atoms_spec (ws := wqX12_isForce) B.pre w (List.mem_cons_of_mem _ h)
  have hown : s.vm.findClass RX12 = some m.cls := findClass_of_methodNamed B.named
  have hlocks := B.notSynchronized
  subst hsz
  have hD := hD0
  have hS : va_S (fun _ => True) s.heap s.heap [] := va_S.rf
  have hl := lv_entry ([.ref h0, .int v, .int u]) (n := 6) (Nat.le_of_ble_eq_true rfl)
  rw [lg_entry_eq]
  generalize (lg_sl ([.ref h0, .int v, .int u]) ++ List.replicate (6 - (lg_sl ([.ref h0, .int v, .int u])).length) Slot.unset).toArray = ls at hl ⊢
  have hl : lv_has ls 6 [(0, .ref h0), (1, .int v), (2, .int u)] := hl
  refine tgk_13 hG ht_h0 (fun y1 y2 y3 y4 y5 y6 y7 y8 y9 y10 y11 y12 y13 y14 y15 y16 y17 y18 y19 y20 y21 y22 y23 y24 y25 => ?_)
  refine tpk_32 hT y1 (fun g27 hf_o26 => ?_)
  have hI : mo_RI x b (mo_R g27) := by have q9 := hJ; rw [hf_o26, mo_i1] at q9; exact q9
  refine lv_iconst (v := 0) hx hb dX12_isForce_0 (by decide) ?_
  refine lv_istore_n (lv' := [(3, .int 0), (0, .ref h0), (1, .int v), (2, .int u)]) hx hb dX12_isForce_1 rfl hl (by decide) rfl (fun ls hl => ?_)
  refine lv_iconst (v := 0) hx hb dX12_isForce_2 (by decide) ?_
  refine lv_istore (lv' := [(4, .int 0), (3, .int 0), (0, .ref h0), (1, .int v), (2, .int u)]) hx hb dX12_isForce_3 hl (by decide) rfl (fun ls hl => ?_)
  refine pz_loop (fun n0 H locs ls => ∃ w28 : Int32, ∃ w29 : Int32, n0 = (20 - (w28.toInt)).toNat ∧ (0 ≤ w28.toInt ∧ w28.toInt ≤ 20) ∧ (0 ≤ w29.toInt ∧ w29.toInt ≤ 1) ∧ H = s.heap ∧ locs = [] ∧ lv_has ls 6 [(4, .int w28), (3, .int w29), (0, .ref h0), (1, .int v), (2, .int u)]) ?_ _ _ _ _ ⟨0, 0, rfl, (by have : (0 : Int32).toInt = 0 := rfl; have : (0 : Int32).toInt = 0 := rfl; omega), (by have : (0 : Int32).toInt = 0 := rfl; have : (0 : Int32).toInt = 0 := rfl; omega), rfl, rfl, lv_sub hl [0, 1, 2, 3, 4] rfl⟩
  intro n0 H locs ls hI ih30
  refine Exists.elim hI (fun w28 hE90 => Exists.elim hE90 (fun w29 hE91 => tn_6 hE91 (fun hn31 rw28 rw29 e93 e94 hl => ?_)))
  clear hE91 hE90 hI; subst e93; subst e94
  refine lv_iload hx hb dX12_isForce_5 (lv_at hl 0 rfl) ?_
  refine lv_aload_n hx hb dX12_isForce_7 rfl (lv_at hl 2 rfl) ?_
  refine tpk_13 hT ht_h0 (fun o32_x0 o32_x1 o32_x7 o32_x9 o32_x10 o32_x11 o32_x12 o32_x13 o32_x14 o32_x15 o32_x16 o32_x17 o32_x18 o32_x19 o32_x20 o32_x22 o32_x25 o32_x28 o32_x29 o32_x32 o32_x33 o32_x34 o32_x35 o32_x36 o32_x37 o32_x38 o32_x47 o32_x48 hf_o32 ro32_0 ro32_1 ro32_2 ro32_3 ro32_4 ro32_5 ro32_6 ro32_7 ro32_8 ro32_9 ro32_10 ro32_11 ro32_12 ro32_13 ro32_14 => ?_)
  refine tpk_pos (tp_in hG ht_h0 (by decide)) hf_o32 (fun q33 eq33 => ?_)
  refine va_get (D := (dC, dI)) (ci := 12) (v := .ref (ρ h0 2)) (C := RX12) (T := TX12) (N := 53) hx hb hts hfX12 hown hK hP q33 eq33 rfl 2 (by decide) (hts (.fieldLink RX12 7 "ColdShipsModel" "row" "[I") wa_148) (fun _ h9 => h9) rfl dX12_isForce_8 ?_
  refine lv_bipush (v := 7) hx hb dX12_isForce_11 (by decide) ?_
  refine tpk_pos (tp_in hG y1 (by decide)) hf_o26 (fun q34 eq34 => ?_)
  refine va_iald hx hb hK hP q34 0 eq34 rfl (vp_in_iff.mpr ⟨by decide, by decide⟩) dX12_isForce_13 ?_
  refine lv_topi (fun z35 ez35 => ?_)
  have jz35 : z35.toInt = mo_R g27 (7) := mo_rd ez35 (show (7 : Int32).toInt = (7) from by decide)
  have kz35 := hI.k7
  refine lv_icmp_ge (tgt := 82) hx hb dX12_isForce_14 (by decide) (fun c36 => ?_) (fun c36 => ?_)
  · have ic36 : w28.toInt ≥ z35.toInt := zi_ge rfl rfl c36
    refine lv_iload_n hx hb dX12_isForce_82 rfl (lv_at hl 1 rfl) ?_
    exact W.zret (v := w29) hx hb hr (zi_narZ (by omega) (by omega)) (fun t ht hW => ⟨w29, rfl, ⟨(by first | decide | omega), trivial⟩, ht⟩) (fun _ h => by cases h) dX12_isForce_83
  · have ic36 : w28.toInt < z35.toInt := zi_gef rfl rfl c36
    refine lv_sipush (v := 2191) hx hb dX12_isForce_17 (by decide) ?_
    refine lv_iconst (v := 3) hx hb dX12_isForce_20 (by decide) ?_
    refine lv_iload hx hb dX12_isForce_21 (lv_at hl 0 rfl) ?_
    refine lv_imul hx hb dX12_isForce_23 ?_
    refine lv_topi (fun z37 ez37 => ?_)
    have iz37 : z37.toInt = 3 * w28.toInt := zi_mul ez37 rfl rfl (by omega) (by omega)
    refine lv_iadd hx hb dX12_isForce_24 ?_
    refine lv_topi (fun z38 ez38 => ?_)
    have iz38 : z38.toInt = 2191 + z37.toInt := zi_add ez38 rfl rfl (by omega) (by omega)
    refine lv_istore (lv' := [(5, .int z38), (4, .int w28), (3, .int w29), (0, .ref h0), (1, .int v), (2, .int u)]) hx hb dX12_isForce_25 hl (by decide) rfl (fun ls hl => ?_)
    refine lv_iload_n hx hb dX12_isForce_27 rfl (lv_at hl 2 rfl) ?_
    refine lv_if_ne (tgt := 70) hx hb dX12_isForce_28 (by decide) (fun c39 => ?_) (fun c39 => ?_)
    · have ic39 : w29.toInt ≠ 0 := zi_ne rfl rfl c39
      replace ic39 : 1 ≤ w29.toInt := by omega
      refine lv_iconst (v := 1) hx hb dX12_isForce_70 (by decide) ?_
      refine lv_goto (tgt := 75) hx hb dX12_isForce_71 (by decide) ?_
      refine lv_istore_n (lv' := [(3, .int 1), (5, .int z38), (4, .int w28), (0, .ref h0), (1, .int v), (2, .int u)]) hx hb dX12_isForce_75 rfl hl (by decide) rfl (fun ls hl => ?_)
      obtain ⟨z40, ez40⟩ : ∃ y : Int32, y = w28 + 1 := ⟨_, rfl⟩
      refine lv_iinc (v := z40) (lv' := [(4, .int z40), (3, .int 1), (5, .int z38), (0, .ref h0), (1, .int v), (2, .int u)]) hx hb dX12_isForce_76 hl (k := 2) rfl (by rw [ez40]; rfl) (by decide) rfl (fun ls hl => ?_)
      have iz40 : z40.toInt = w28.toInt + 1 := zi_add ez40 rfl rfl (by omega) (by omega)
      refine lv_goto (tgt := 5) hx hb dX12_isForce_79 (by decide) ?_
      exact ih30 _ _ _ _ (by rw [hn31]; omega) ⟨z40, 1, rfl, (by have : (1 : Int32).toInt = 1 := rfl; omega), (by have : (1 : Int32).toInt = 1 := rfl; omega), rfl, rfl, lv_sub hl [0, 1, 3, 4, 5] rfl⟩
    · have ic39 : w29.toInt = 0 := zi_nef rfl rfl c39
      refine lv_aload_n hx hb dX12_isForce_31 rfl (lv_at hl 3 rfl) ?_
      refine va_get (D := (dC, dI)) (ci := 12) (v := .ref (ρ h0 2)) (C := RX12) (T := TX12) (N := 53) hx hb hts hfX12 hown hK hP q33 eq33 rfl 2 (by decide) (hts (.fieldLink RX12 7 "ColdShipsModel" "row" "[I") wa_148) (fun _ h9 => h9) rfl dX12_isForce_32 ?_
      refine lv_iload hx hb dX12_isForce_35 (lv_at hl 0 rfl) ?_
      refine lv_iconst (v := 2) hx hb dX12_isForce_37 (by decide) ?_
      refine lv_iadd hx hb dX12_isForce_38 ?_
      refine lv_topi (fun z41 ez41 => ?_)
      have iz41 : z41.toInt = z38.toInt + 2 := zi_add ez41 rfl rfl (by omega) (by omega)
      refine va_iald hx hb hK hP q34 0 eq34 rfl (vp_in_iff.mpr ⟨by omega, by omega⟩) dX12_isForce_39 ?_
      refine lv_topi (fun z42 ez42 => ?_)
      refine lv_iload_n hx hb dX12_isForce_40 rfl (lv_at hl 5 rfl) ?_
      refine lv_icmp_gt (tgt := 74) hx hb dX12_isForce_41 (by decide) (fun c43 => ?_) (fun c43 => ?_)
      · have ic43 : z42.toInt > u.toInt := zi_gt rfl rfl c43
        refine lv_iconst (v := 0) hx hb dX12_isForce_74 (by decide) ?_
        refine lv_istore_n (lv' := [(3, .int 0), (5, .int z38), (4, .int w28), (0, .ref h0), (1, .int v), (2, .int u)]) hx hb dX12_isForce_75 rfl hl (by decide) rfl (fun ls hl => ?_)
        obtain ⟨z44, ez44⟩ : ∃ y : Int32, y = w28 + 1 := ⟨_, rfl⟩
        refine lv_iinc (v := z44) (lv' := [(4, .int z44), (3, .int 0), (5, .int z38), (0, .ref h0), (1, .int v), (2, .int u)]) hx hb dX12_isForce_76 hl (k := 2) rfl (by rw [ez44]; rfl) (by decide) rfl (fun ls hl => ?_)
        have iz44 : z44.toInt = w28.toInt + 1 := zi_add ez44 rfl rfl (by omega) (by omega)
        refine lv_goto (tgt := 5) hx hb dX12_isForce_79 (by decide) ?_
        exact ih30 _ _ _ _ (by rw [hn31]; omega) ⟨z44, 0, rfl, (by have : (0 : Int32).toInt = 0 := rfl; omega), (by have : (0 : Int32).toInt = 0 := rfl; omega), rfl, rfl, lv_sub hl [0, 1, 3, 4, 5] rfl⟩
      · have ic43 : z42.toInt ≤ u.toInt := zi_gtf rfl rfl c43
        refine lv_iload_n hx hb dX12_isForce_44 rfl (lv_at hl 4 rfl) ?_
        refine lv_i2l hx hb dX12_isForce_45 rfl ?_
        refine lv_aload_n hx hb dX12_isForce_46 rfl (lv_at hl 3 rfl) ?_
        refine va_get (D := (dC, dI)) (ci := 12) (v := .ref (ρ h0 2)) (C := RX12) (T := TX12) (N := 53) hx hb hts hfX12 hown hK hP q33 eq33 rfl 2 (by decide) (hts (.fieldLink RX12 7 "ColdShipsModel" "row" "[I") wa_148) (fun _ h9 => h9) rfl dX12_isForce_47 ?_
        refine lv_iload hx hb dX12_isForce_50 (lv_at hl 0 rfl) ?_
        refine va_iald hx hb hK hP q34 0 eq34 rfl (vp_in_iff.mpr ⟨by omega, by omega⟩) dX12_isForce_52 ?_
        refine lv_topi (fun z45 ez45 => ?_)
        refine lv_i2l hx hb dX12_isForce_53 rfl ?_
        refine lv_aload_n hx hb dX12_isForce_54 rfl (lv_at hl 3 rfl) ?_
        refine va_get (D := (dC, dI)) (ci := 12) (v := .ref (ρ h0 2)) (C := RX12) (T := TX12) (N := 53) hx hb hts hfX12 hown hK hP q33 eq33 rfl 2 (by decide) (hts (.fieldLink RX12 7 "ColdShipsModel" "row" "[I") wa_148) (fun _ h9 => h9) rfl dX12_isForce_55 ?_
        refine lv_iload hx hb dX12_isForce_58 (lv_at hl 0 rfl) ?_
        refine lv_iconst (v := 1) hx hb dX12_isForce_60 (by decide) ?_
        refine lv_iadd hx hb dX12_isForce_61 ?_
        refine lv_topi (fun z46 ez46 => ?_)
        have iz46 : z46.toInt = z38.toInt + 1 := zi_add ez46 rfl rfl (by omega) (by omega)
        refine va_iald hx hb hK hP q34 0 eq34 rfl (vp_in_iff.mpr ⟨by omega, by omega⟩) dX12_isForce_62 ?_
        refine lv_topi (fun z47 ez47 => ?_)
        refine lv_i2l hx hb dX12_isForce_63 rfl ?_
        refine pz_calli (va_runS (As := [.long v.toInt64, .long z45.toInt64, .long z47.toInt64]) (rest := []) ⟨hx, hb, hml, hown, hts⟩ (t_X12_in l dC dI _ v.toInt64 z45.toInt64 z47.toInt64 (v.toInt) (z45.toInt) (z47.toInt) (Int32.toInt_toInt64 v) (Int32.toInt_toInt64 z45) (Int32.toInt_toInt64 z47)) (va_cwS 3 hts gX12_isForce_X12_in rfl rfl rfl pd_X12_in ⟨Nat.le_of_ble_eq_true rfl, Nat.le_of_ble_eq_true rfl⟩) ⟨pz_blind, pz_pre pz_P0 (hK.sub (tys' := []) [] rfl) (pz_D0 (A := fun _ => True)) hN⟩ rfl rfl hl.1 rfl (lv_room (Nat.le_of_ble_eq_true rfl)) dX12_isForce_64 ⟨Nat.le_of_ble_eq_true rfl, Nat.le_of_ble_eq_true rfl⟩) (fun r48 hw49 => ?_)
        obtain ⟨hw49r, hw49p⟩ := hw49
        refine lv_if_eq (tgt := 74) hx hb dX12_isForce_67 (by decide) (fun c50 => ?_) (fun c50 => ?_)
        · have ic50 : r48.toInt = 0 := zi_eq rfl rfl c50
          clear hw49r ic50
          refine lv_iconst (v := 0) hx hb dX12_isForce_74 (by decide) ?_
          refine lv_istore_n (lv' := [(3, .int 0), (5, .int z38), (4, .int w28), (0, .ref h0), (1, .int v), (2, .int u)]) hx hb dX12_isForce_75 rfl hl (by decide) rfl (fun ls hl => ?_)
          obtain ⟨z51, ez51⟩ : ∃ y : Int32, y = w28 + 1 := ⟨_, rfl⟩
          refine lv_iinc (v := z51) (lv' := [(4, .int z51), (3, .int 0), (5, .int z38), (0, .ref h0), (1, .int v), (2, .int u)]) hx hb dX12_isForce_76 hl (k := 2) rfl (by rw [ez51]; rfl) (by decide) rfl (fun ls hl => ?_)
          have iz51 : z51.toInt = w28.toInt + 1 := zi_add ez51 rfl rfl (by omega) (by omega)
          refine lv_goto (tgt := 5) hx hb dX12_isForce_79 (by decide) ?_
          exact ih30 _ _ _ _ (by rw [hn31]; omega) ⟨z51, 0, rfl, (by have : (0 : Int32).toInt = 0 := rfl; omega), (by have : (0 : Int32).toInt = 0 := rfl; omega), rfl, rfl, lv_sub hl [0, 1, 3, 4, 5] rfl⟩
        · have ic50 : r48.toInt ≠ 0 := zi_eqf rfl rfl c50
          replace ic50 : 1 ≤ r48.toInt := by omega
          have p52 : (z45.toInt) ≤ (v.toInt) ∧ (v.toInt) ≤ (z47.toInt) := (tp_cond.yes hw49p) (by omega)
          clear hw49r ic50
          refine lv_iconst (v := 1) hx hb dX12_isForce_70 (by decide) ?_
          refine lv_goto (tgt := 75) hx hb dX12_isForce_71 (by decide) ?_
          refine lv_istore_n (lv' := [(3, .int 1), (5, .int z38), (4, .int w28), (0, .ref h0), (1, .int v), (2, .int u)]) hx hb dX12_isForce_75 rfl hl (by decide) rfl (fun ls hl => ?_)
          obtain ⟨z53, ez53⟩ : ∃ y : Int32, y = w28 + 1 := ⟨_, rfl⟩
          refine lv_iinc (v := z53) (lv' := [(4, .int z53), (3, .int 1), (5, .int z38), (0, .ref h0), (1, .int v), (2, .int u)]) hx hb dX12_isForce_76 hl (k := 2) rfl (by rw [ez53]; rfl) (by decide) rfl (fun ls hl => ?_)
          have iz53 : z53.toInt = w28.toInt + 1 := zi_add ez53 rfl rfl (by omega) (by omega)
          refine lv_goto (tgt := 5) hx hb dX12_isForce_79 (by decide) ?_
          exact ih30 _ _ _ _ (by rw [hn31]; omega) ⟨z53, 1, rfl, (by have : (1 : Int32).toInt = 1 := rfl; omega), (by have : (1 : Int32).toInt = 1 := rfl; omega), rfl, rfl, lv_sub hl [0, 1, 3, 4, 5] rfl⟩
set_option maxHeartbeats 4000000 in
set_option maxRecDepth 100000 in
theorem t_X12_of (l : Launch) (dC : Nat → ClassId) (dI : Nat → Nat → Nat) (sz : Nat) (κ : Nat → ClassId) (Θ : Nat → Option Int) (τ ν : Nat → Nat) (ρ : Nat → Nat → Nat) (L : List Nat) (f : Nat → va_E) (hG : tp_G τ ν ρ L) (hT : tp_T (mo_O κ Θ) κ τ ν ρ f) (h0 : Nat) (v : Int32) (u : Int32) (ht_h0 : τ h0 = 13) (hJ : mo_RI (-1) 0 (mo_R (mo_i (f (ρ h0 2))))) : Met l yX12_of wqX12_of ({ frames := 4, cells := 0, slots := 0, locals := 1200 }) (va_Pc [.ref h0, .int v, .int u] (pz_B dC dI (tp_K κ) (va_pl L f) sz)) (va_Qi (fun (r : Int32) (f1 : Nat → va_E) => tp_T (mo_O κ Θ) κ τ ν ρ f1 ∧ tp_F τ [13] f f1 ∧ True ∧ True) (fun (f1 : Nat → va_E) (t : State) => pz_E dC dI (tp_K κ) (va_A (va_pl L f) sz) (va_pl L f1) t) (va_A (va_pl L f) sz)) 0 0 (va_A (va_pl L f) sz) := by
  refine Met.ofW (cc := cX12_of) (maxL := 4) (ret := some .int) (by decide) rfl ?_
  intro p e s m args below meth c s₁ B hml hv
  obtain ⟨rfl, hsz, hP, hK, hD0, hN⟩ := hv
  have hx := B.exec
  have hb := B.bytes
  have hr := B.returns
  have hts := fun (w : Cond) (h : w ∈ WALL) => atoms_spec (ws := wqX12_of) B.pre w (List.mem_cons_of_mem _ h)
  have hown : s.vm.findClass RX12 = some m.cls := findClass_of_methodNamed B.named
  have hlocks := B.notSynchronized
  subst hsz
  have hD := hD0.self (sz := s.heap.size)
  generalize hAe : va_A (va_pl L f) s.heap.size = A at hD ⊢
  have hA : ∀ q : Nat, s.heap.size ≤ q → A q := fun q h => by rw [← hAe]; exact Or.inr h
  have hS : va_S A s.heap s.heap [] := va_S.rf
  have hR : tp_F τ [13] f f := tp_F.rf
  have hl := lv_entry ([.ref h0, .int v, .int u]) (n := 4) (Nat.le_of_ble_eq_true rfl)
  rw [lg_entry_eq]
  generalize (lg_sl ([.ref h0, .int v, .int u]) ++ List.replicate (4 - (lg_sl ([.ref h0, .int v, .int u])).length) Slot.unset).toArray = ls at hl ⊢
  have hl : lv_has ls 4 [(0, .ref h0), (1, .int v), (2, .int u)] := hl
  refine tgk_13 hG ht_h0 (fun y1 y2 y3 y4 y5 y6 y7 y8 y9 y10 y11 y12 y13 y14 y15 y16 y17 y18 y19 y20 y21 y22 y23 y24 y25 => ?_)
  refine tpk_32 hT y1 (fun g27 hf_o26 => ?_)
  have hI : mo_RI (-1) 0 (mo_R g27) := by have q9 := hJ; rw [hf_o26, mo_i1] at q9; exact q9
  refine lv_aload_n hx hb dX12_of_0 rfl (lv_at hl 0 rfl) ?_
  refine lv_iconst (v := 0) hx hb dX12_of_1 (by decide) ?_
  refine tpk_13 hT ht_h0 (fun o28_x0 o28_x1 o28_x7 o28_x9 o28_x10 o28_x11 o28_x12 o28_x13 o28_x14 o28_x15 o28_x16 o28_x17 o28_x18 o28_x19 o28_x20 o28_x22 o28_x25 o28_x28 o28_x29 o28_x32 o28_x33 o28_x34 o28_x35 o28_x36 o28_x37 o28_x38 o28_x47 o28_x48 hf_o28 ro28_0 ro28_1 ro28_2 ro28_3 ro28_4 ro28_5 ro28_6 ro28_7 ro28_8 ro28_9 ro28_10 ro28_11 ro28_12 ro28_13 ro28_14 => ?_)
  refine tpk_pos (tp_in hG ht_h0 (by decide)) hf_o28 (fun q29 eq29 => ?_)
  refine va_put (D := (dC, dI)) (ci := 12) (v := .int 0) (ty := .int) (C := RX12) (T := TX12) (N := 53) hx hb hts hfX12 tyX12 tyX12_ok nmX12 hown hK hP hD hS q29 eq29 rfl 0 (by decide) (hts (.fieldLink RX12 91 "ColdShipsModel" "thrown" "I") wa_209) (fun _ h9 => h9) rfl (tyX12_ok 0 (by decide)) rfl rfl (Nat.le_of_ble_eq_true rfl) dX12_of_2 (tp_k (.inr (12, [.int 0, .int o28_x1, .ref (ρ h0 2), .ref (ρ h0 3), .ref (ρ h0 4), .ref (ρ h0 5), .ref (ρ h0 6), .int o28_x7, .ref (ρ h0 8), .int o28_x9, .int o28_x10, .int o28_x11, .int o28_x12, .long o28_x13, .int o28_x14, .int o28_x15, .int o28_x16, .int o28_x17, .int o28_x18, .int o28_x19, .int o28_x20, .ref (ρ h0 21), .int o28_x22, .ref (ρ h0 23), .ref (ρ h0 24), .int o28_x25, .ref (ρ h0 26), .ref (ρ h0 27), .int o28_x28, .int o28_x29, .ref (ρ h0 30), .ref (ρ h0 31), .int o28_x32, .long o28_x33, .long o28_x34, .long o28_x35, .int o28_x36, .int o28_x37, .int o28_x38, .ref (ρ h0 39), .ref (ρ h0 40), .ref (ρ h0 41), .ref (ρ h0 42), .ref (ρ h0 43), .ref (ρ h0 44), .ref (ρ h0 45), .ref (ρ h0 46), .int o28_x47, .int o28_x48, .ref (ρ h0 49), .ref (ρ h0 50), .ref (ρ h0 51), .ref (ρ h0 52)])) hD (tp_in hG ht_h0 (by decide)) eq29 (fun f30 H locs hP hD hS g32 k31 => ?_))
  have hT := hT.up ht_h0 g32 k31 ⟨_, _, _, _, _, _, _, _, _, _, _, _, _, _, _, _, _, _, _, _, _, _, _, _, _, _, _, _, rfl, ro28_0, ro28_1, ro28_2, ro28_3, ro28_4, ro28_5, ro28_6, ro28_7, ro28_8, ro28_9, ro28_10, ro28_11, ro28_12, ro28_13, ro28_14⟩
  have hR := hR.up ht_h0 (by decide) k31
  refine lv_aload_n hx hb dX12_of_5 rfl (lv_at hl 0 rfl) ?_
  refine lv_iload_n hx hb dX12_of_6 rfl (lv_at hl 1 rfl) ?_
  have hf_33 : f30 (ρ h0 2) = .inl (κ 0, 12967, .inl g27) := (k31 _ (tp_ne y1 ht_h0 (by decide))).trans hf_o26
  refine tpk_pos (tp_in hG ht_h0 (by decide)) g32 (fun q34 eq34 => ?_)
  refine pz_calli (va_runV (As := [.int v]) (rest := []) ⟨hx, hb, hml, hown, hts⟩ (t_X12_isShip l dC dI _ κ Θ τ ν ρ L f30 hG hT h0 v (-1) 0 ht_h0 (by omega) (by rw [hf_33, mo_i1]; exact hI)) (cwV 1 hts gX12_of_X12_isShip rfl rfl rfl ⟨rfl, pd_X12_isShip⟩ ⟨Nat.le_of_ble_eq_true rfl, Nat.le_of_ble_eq_true rfl⟩) ⟨pz_blind, va_recv hK hP (ci := 12) (q0 := q34) rfl eq34, pz_pre hP hK hD hN⟩ rfl rfl hl.1 rfl (lv_room (Nat.le_of_ble_eq_true rfl)) dX12_of_7 ⟨Nat.le_of_ble_eq_true rfl, Nat.le_of_ble_eq_true rfl⟩) (fun r35 hw36 => ?_)
  obtain ⟨hw36r, hw36p⟩ := hw36
  have := hI.k1
  rw [hf_33, mo_i1] at hw36p
  refine lv_if_ne (tgt := 15) hx hb dX12_of_10 (by decide) (fun c37 => ?_) (fun c37 => ?_)
  · have ic37 : r35.toInt ≠ 0 := zi_ne rfl rfl c37
    replace ic37 : 1 ≤ r35.toInt := by omega
    have p38 : 0 ≤ v.toInt ∧ v.toInt < mo_R g27 1 := (tp_cond.yes hw36p) (by omega)
    clear hw36r ic37
    refine lv_iload_n hx hb dX12_of_15 rfl (lv_at hl 1 rfl) ?_
    refine pz_calli (va_runS (As := [.int v]) (rest := []) ⟨hx, hb, hml, hown, hts⟩ (t_X12_shipAt l dC dI _ v (v.toInt) (by omega) rfl) (va_cwS 1 hts gX12_of_X12_shipAt rfl rfl rfl pd_X12_shipAt ⟨Nat.le_of_ble_eq_true rfl, Nat.le_of_ble_eq_true rfl⟩) ⟨pz_blind, pz_pre pz_P0 (hK.sub (tys' := []) [] rfl) (pz_D0 (A := fun _ => True)) hN⟩ rfl rfl hl.1 rfl (lv_room (Nat.le_of_ble_eq_true rfl)) dX12_of_16 ⟨Nat.le_of_ble_eq_true rfl, Nat.le_of_ble_eq_true rfl⟩) (fun r39 hw40 => ?_)
    obtain ⟨hw40r, hw40p⟩ := hw40
    refine lv_istore_n (lv' := [(3, .int r39), (0, .ref h0), (1, .int v), (2, .int u)]) hx hb dX12_of_19 rfl hl (by decide) rfl (fun ls hl => ?_)
    refine lv_iload_n hx hb dX12_of_20 rfl (lv_at hl 3 rfl) ?_
    rcases zi_sw u 0 9 with h41 | h41
    · refine lv_tableOut (tgt := 164) hx hb dX12_of_21 h41 (by decide) ?_
      refine lv_iconst (v := (-1)) hx hb dX12_of_164 (by decide) ?_
      exact W.iret (v := (-1)) hx hb hr (fun t ht hW => ⟨⟨(-1), f30, rfl, ⟨hT, hR, trivial, trivial⟩, by rw [ht]; exact hP, va_K.moved hW.alike hK, hD⟩, hS.F ht⟩) hS.2.2 dX12_of_165
    · rcases (show u.toInt = 0 ∨ u.toInt = 1 ∨ u.toInt = 2 ∨ u.toInt = 3 ∨ u.toInt = 4 ∨ u.toInt = 5 ∨ u.toInt = 6 ∨ u.toInt = 7 ∨ u.toInt = 8 ∨ u.toInt = 9 by omega) with h41k | h41k | h41k | h41k | h41k | h41k | h41k | h41k | h41k | h41k
      · refine lv_tableIn (tgt := 76) hx hb dX12_of_21 (by omega) (by omega) (by rw [h41k]; rfl) (by decide) ?_
        refine lv_aload_n hx hb dX12_of_76 rfl (lv_at hl 1 rfl) ?_
        refine va_get (D := (dC, dI)) (ci := 12) (v := .ref (ρ h0 2)) (C := RX12) (T := TX12) (N := 53) hx hb hts hfX12 hown hK hP q34 eq34 rfl 2 (by decide) (hts (.fieldLink RX12 7 "ColdShipsModel" "row" "[I") wa_148) (fun _ h9 => h9) rfl dX12_of_77 ?_
        refine lv_iload_n hx hb dX12_of_80 rfl (lv_at hl 0 rfl) ?_
        refine lv_iconst (v := 0) hx hb dX12_of_81 (by decide) ?_
        refine lv_iadd hx hb dX12_of_82 ?_
        refine lv_topi (fun z42 ez42 => ?_)
        have iz42 : z42.toInt = r39.toInt + 0 := zi_add ez42 rfl rfl (by omega) (by omega)
        refine tpk_pos (tp_in hG y1 (by decide)) hf_33 (fun q43 eq43 => ?_)
        refine va_iald hx hb hK hP q43 0 eq43 rfl (vp_in_iff.mpr ⟨by omega, by omega⟩) dX12_of_83 ?_
        refine lv_topi (fun z44 ez44 => ?_)
        have jz44 : z44.toInt = mo_R g27 (547 + 84 * v.toInt + 0) := mo_rd ez44 (by omega)
        have kz44 := hI.SA (s := v.toInt) (by omega) (by omega)
        exact W.iret (v := z44) hx hb hr (fun t ht hW => ⟨⟨z44, f30, rfl, ⟨hT, hR, trivial, trivial⟩, by rw [ht]; exact hP, va_K.moved hW.alike hK, hD⟩, hS.F ht⟩) hS.2.2 dX12_of_84
      · refine lv_tableIn (tgt := 85) hx hb dX12_of_21 (by omega) (by omega) (by rw [h41k]; rfl) (by decide) ?_
        refine lv_aload_n hx hb dX12_of_85 rfl (lv_at hl 1 rfl) ?_
        refine va_get (D := (dC, dI)) (ci := 12) (v := .ref (ρ h0 2)) (C := RX12) (T := TX12) (N := 53) hx hb hts hfX12 hown hK hP q34 eq34 rfl 2 (by decide) (hts (.fieldLink RX12 7 "ColdShipsModel" "row" "[I") wa_148) (fun _ h9 => h9) rfl dX12_of_86 ?_
        refine lv_iload_n hx hb dX12_of_89 rfl (lv_at hl 0 rfl) ?_
        refine lv_iconst (v := 1) hx hb dX12_of_90 (by decide) ?_
        refine lv_iadd hx hb dX12_of_91 ?_
        refine lv_topi (fun z45 ez45 => ?_)
        have iz45 : z45.toInt = r39.toInt + 1 := zi_add ez45 rfl rfl (by omega) (by omega)
        refine tpk_pos (tp_in hG y1 (by decide)) hf_33 (fun q46 eq46 => ?_)
        refine va_iald hx hb hK hP q46 0 eq46 rfl (vp_in_iff.mpr ⟨by omega, by omega⟩) dX12_of_92 ?_
        refine lv_topi (fun z47 ez47 => ?_)
        exact W.iret (v := z47) hx hb hr (fun t ht hW => ⟨⟨z47, f30, rfl, ⟨hT, hR, trivial, trivial⟩, by rw [ht]; exact hP, va_K.moved hW.alike hK, hD⟩, hS.F ht⟩) hS.2.2 dX12_of_93
      · refine lv_tableIn (tgt := 94) hx hb dX12_of_21 (by omega) (by omega) (by rw [h41k]; rfl) (by decide) ?_
        refine lv_aload_n hx hb dX12_of_94 rfl (lv_at hl 1 rfl) ?_
        refine va_get (D := (dC, dI)) (ci := 12) (v := .ref (ρ h0 2)) (C := RX12) (T := TX12) (N := 53) hx hb hts hfX12 hown hK hP q34 eq34 rfl 2 (by decide) (hts (.fieldLink RX12 7 "ColdShipsModel" "row" "[I") wa_148) (fun _ h9 => h9) rfl dX12_of_95 ?_
        refine lv_iload_n hx hb dX12_of_98 rfl (lv_at hl 0 rfl) ?_
        refine lv_iconst (v := 4) hx hb dX12_of_99 (by decide) ?_
        refine lv_iadd hx hb dX12_of_100 ?_
        refine lv_topi (fun z48 ez48 => ?_)
        have iz48 : z48.toInt = r39.toInt + 4 := zi_add ez48 rfl rfl (by omega) (by omega)
        refine tpk_pos (tp_in hG y1 (by decide)) hf_33 (fun q49 eq49 => ?_)
        refine va_iald hx hb hK hP q49 0 eq49 rfl (vp_in_iff.mpr ⟨by omega, by omega⟩) dX12_of_101 ?_
        refine lv_topi (fun z50 ez50 => ?_)
        have := hI.GC (s := v.toInt) (by omega) (by omega)
        have jz50 : z50.toInt = mo_R g27 (547 + 84 * v.toInt + 4) := mo_rd ez50 (by omega)
        have kz50 := hI.GG (s := v.toInt) (by omega) (by omega)
        exact W.iret (v := z50) hx hb hr (fun t ht hW => ⟨⟨z50, f30, rfl, ⟨hT, hR, trivial, trivial⟩, by rw [ht]; exact hP, va_K.moved hW.alike hK, hD⟩, hS.F ht⟩) hS.2.2 dX12_of_102
      · refine lv_tableIn (tgt := 103) hx hb dX12_of_21 (by omega) (by omega) (by rw [h41k]; rfl) (by decide) ?_
        refine lv_aload_n hx hb dX12_of_103 rfl (lv_at hl 1 rfl) ?_
        refine va_get (D := (dC, dI)) (ci := 12) (v := .ref (ρ h0 2)) (C := RX12) (T := TX12) (N := 53) hx hb hts hfX12 hown hK hP q34 eq34 rfl 2 (by decide) (hts (.fieldLink RX12 7 "ColdShipsModel" "row" "[I") wa_148) (fun _ h9 => h9) rfl dX12_of_104 ?_
        refine lv_iload_n hx hb dX12_of_107 rfl (lv_at hl 0 rfl) ?_
        refine lv_iconst (v := 5) hx hb dX12_of_108 (by decide) ?_
        refine lv_iadd hx hb dX12_of_109 ?_
        refine lv_topi (fun z51 ez51 => ?_)
        have iz51 : z51.toInt = r39.toInt + 5 := zi_add ez51 rfl rfl (by omega) (by omega)
        refine tpk_pos (tp_in hG y1 (by decide)) hf_33 (fun q52 eq52 => ?_)
        refine va_iald hx hb hK hP q52 0 eq52 rfl (vp_in_iff.mpr ⟨by omega, by omega⟩) dX12_of_110 ?_
        refine lv_topi (fun z53 ez53 => ?_)
        have jz53 : z53.toInt = mo_R g27 (547 + 84 * v.toInt + 5) := mo_rd ez53 (by omega)
        have kz53 := hI.V (s := v.toInt) (by omega) (by omega)
        exact W.iret (v := z53) hx hb hr (fun t ht hW => ⟨⟨z53, f30, rfl, ⟨hT, hR, trivial, trivial⟩, by rw [ht]; exact hP, va_K.moved hW.alike hK, hD⟩, hS.F ht⟩) hS.2.2 dX12_of_111
      · refine lv_tableIn (tgt := 112) hx hb dX12_of_21 (by omega) (by omega) (by rw [h41k]; rfl) (by decide) ?_
        refine lv_aload_n hx hb dX12_of_112 rfl (lv_at hl 1 rfl) ?_
        refine va_get (D := (dC, dI)) (ci := 12) (v := .ref (ρ h0 2)) (C := RX12) (T := TX12) (N := 53) hx hb hts hfX12 hown hK hP q34 eq34 rfl 2 (by decide) (hts (.fieldLink RX12 7 "ColdShipsModel" "row" "[I") wa_148) (fun _ h9 => h9) rfl dX12_of_113 ?_
        refine lv_iload_n hx hb dX12_of_116 rfl (lv_at hl 0 rfl) ?_
        refine lv_bipush (v := 6) hx hb dX12_of_117 (by decide) ?_
        refine lv_iadd hx hb dX12_of_119 ?_
        refine lv_topi (fun z54 ez54 => ?_)
        have iz54 : z54.toInt = r39.toInt + 6 := zi_add ez54 rfl rfl (by omega) (by omega)
        refine tpk_pos (tp_in hG y1 (by decide)) hf_33 (fun q55 eq55 => ?_)
        refine va_iald hx hb hK hP q55 0 eq55 rfl (vp_in_iff.mpr ⟨by omega, by omega⟩) dX12_of_120 ?_
        refine lv_topi (fun z56 ez56 => ?_)
        exact W.iret (v := z56) hx hb hr (fun t ht hW => ⟨⟨z56, f30, rfl, ⟨hT, hR, trivial, trivial⟩, by rw [ht]; exact hP, va_K.moved hW.alike hK, hD⟩, hS.F ht⟩) hS.2.2 dX12_of_121
      · refine lv_tableIn (tgt := 122) hx hb dX12_of_21 (by omega) (by omega) (by rw [h41k]; rfl) (by decide) ?_
        refine lv_aload_n hx hb dX12_of_122 rfl (lv_at hl 1 rfl) ?_
        refine lv_iload_n hx hb dX12_of_123 rfl (lv_at hl 0 rfl) ?_
        refine pz_calli (va_runV (As := [.int r39]) (rest := []) ⟨hx, hb, hml, hown, hts⟩ (t_X12_pressOf l dC dI _ κ Θ τ ν ρ L f30 hG hT h0 r39 (-1) 0 v.toInt ht_h0 (by omega) (by omega) (by omega) (by rw [hf_33, mo_i1]; exact hI) (by first | (simp only [hf_33, hf_o26, mo_i1]; omega) | (simp only [hf_33, hf_o26, mo_i1]; trivial) | (simp only [hf_33, hf_o26, mo_i1]; done) | omega)) (cwV 1 hts gX12_of_X12_pressOf rfl rfl rfl ⟨rfl, pd_X12_pressOf⟩ ⟨Nat.le_of_ble_eq_true rfl, Nat.le_of_ble_eq_true rfl⟩) ⟨pz_blind, va_recv hK hP (ci := 12) (q0 := q34) rfl eq34, pz_pre hP hK hD hN⟩ rfl rfl hl.1 rfl (lv_room (Nat.le_of_ble_eq_true rfl)) dX12_of_124 ⟨Nat.le_of_ble_eq_true rfl, Nat.le_of_ble_eq_true rfl⟩) (fun r57 hw58 => ?_)
        obtain ⟨hw58r, hw58p⟩ := hw58
        exact W.iret (v := r57) hx hb hr (fun t ht hW => ⟨⟨r57, f30, rfl, ⟨hT, hR, trivial, trivial⟩, by rw [ht]; exact hP, va_K.moved hW.alike hK, hD⟩, hS.F ht⟩) hS.2.2 dX12_of_127
      · refine lv_tableIn (tgt := 128) hx hb dX12_of_21 (by omega) (by omega) (by rw [h41k]; rfl) (by decide) ?_
        refine lv_aload_n hx hb dX12_of_128 rfl (lv_at hl 1 rfl) ?_
        refine va_get (D := (dC, dI)) (ci := 12) (v := .ref (ρ h0 2)) (C := RX12) (T := TX12) (N := 53) hx hb hts hfX12 hown hK hP q34 eq34 rfl 2 (by decide) (hts (.fieldLink RX12 7 "ColdShipsModel" "row" "[I") wa_148) (fun _ h9 => h9) rfl dX12_of_129 ?_
        refine lv_iload_n hx hb dX12_of_132 rfl (lv_at hl 0 rfl) ?_
        refine lv_bipush (v := 10) hx hb dX12_of_133 (by decide) ?_
        refine lv_iadd hx hb dX12_of_135 ?_
        refine lv_topi (fun z59 ez59 => ?_)
        have iz59 : z59.toInt = r39.toInt + 10 := zi_add ez59 rfl rfl (by omega) (by omega)
        refine tpk_pos (tp_in hG y1 (by decide)) hf_33 (fun q60 eq60 => ?_)
        refine va_iald hx hb hK hP q60 0 eq60 rfl (vp_in_iff.mpr ⟨by omega, by omega⟩) dX12_of_136 ?_
        refine lv_topi (fun z61 ez61 => ?_)
        have jz61 : z61.toInt = mo_R g27 (547 + 84 * v.toInt + 10) := mo_rd ez61 (by omega)
        have kz61 := hI.SO (s := v.toInt) (by omega) (by omega)
        exact W.iret (v := z61) hx hb hr (fun t ht hW => ⟨⟨z61, f30, rfl, ⟨hT, hR, trivial, trivial⟩, by rw [ht]; exact hP, va_K.moved hW.alike hK, hD⟩, hS.F ht⟩) hS.2.2 dX12_of_137
      · refine lv_tableIn (tgt := 138) hx hb dX12_of_21 (by omega) (by omega) (by rw [h41k]; rfl) (by decide) ?_
        refine lv_aload_n hx hb dX12_of_138 rfl (lv_at hl 1 rfl) ?_
        refine va_get (D := (dC, dI)) (ci := 12) (v := .ref (ρ h0 2)) (C := RX12) (T := TX12) (N := 53) hx hb hts hfX12 hown hK hP q34 eq34 rfl 2 (by decide) (hts (.fieldLink RX12 7 "ColdShipsModel" "row" "[I") wa_148) (fun _ h9 => h9) rfl dX12_of_139 ?_
        refine lv_iload_n hx hb dX12_of_142 rfl (lv_at hl 0 rfl) ?_
        refine lv_bipush (v := 11) hx hb dX12_of_143 (by decide) ?_
        refine lv_iadd hx hb dX12_of_145 ?_
        refine lv_topi (fun z62 ez62 => ?_)
        have iz62 : z62.toInt = r39.toInt + 11 := zi_add ez62 rfl rfl (by omega) (by omega)
        refine tpk_pos (tp_in hG y1 (by decide)) hf_33 (fun q63 eq63 => ?_)
        refine va_iald hx hb hK hP q63 0 eq63 rfl (vp_in_iff.mpr ⟨by omega, by omega⟩) dX12_of_146 ?_
        refine lv_topi (fun z64 ez64 => ?_)
        exact W.iret (v := z64) hx hb hr (fun t ht hW => ⟨⟨z64, f30, rfl, ⟨hT, hR, trivial, trivial⟩, by rw [ht]; exact hP, va_K.moved hW.alike hK, hD⟩, hS.F ht⟩) hS.2.2 dX12_of_147
      · refine lv_tableIn (tgt := 148) hx hb dX12_of_21 (by omega) (by omega) (by rw [h41k]; rfl) (by decide) ?_
        refine lv_aload_n hx hb dX12_of_148 rfl (lv_at hl 1 rfl) ?_
        refine lv_iload_n hx hb dX12_of_149 rfl (lv_at hl 0 rfl) ?_
        refine pz_calli (va_runV (As := [.int r39]) (rest := []) ⟨hx, hb, hml, hown, hts⟩ (t_X12_draftOf l dC dI _ κ Θ τ ν ρ L f30 hG hT h0 r39 (-1) 0 v.toInt ht_h0 (by omega) (by omega) (by omega) (by rw [hf_33, mo_i1]; exact hI) (by first | (simp only [hf_33, hf_o26, mo_i1]; omega) | (simp only [hf_33, hf_o26, mo_i1]; trivial) | (simp only [hf_33, hf_o26, mo_i1]; done) | omega)) (cwV 1 hts gX12_of_X12_draftOf rfl rfl rfl ⟨rfl, pd_X12_draftOf⟩ ⟨Nat.le_of_ble_eq_true rfl, Nat.le_of_ble_eq_true rfl⟩) ⟨pz_blind, va_recv hK hP (ci := 12) (q0 := q34) rfl eq34, pz_pre hP hK hD hN⟩ rfl rfl hl.1 rfl (lv_room (Nat.le_of_ble_eq_true rfl)) dX12_of_150 ⟨Nat.le_of_ble_eq_true rfl, Nat.le_of_ble_eq_true rfl⟩) (fun r65 hw66 => ?_)
        obtain ⟨hw66r, hw66p⟩ := hw66
        exact W.iret (v := r65) hx hb hr (fun t ht hW => ⟨⟨r65, f30, rfl, ⟨hT, hR, trivial, trivial⟩, by rw [ht]; exact hP, va_K.moved hW.alike hK, hD⟩, hS.F ht⟩) hS.2.2 dX12_of_153
      · refine lv_tableIn (tgt := 154) hx hb dX12_of_21 (by omega) (by omega) (by rw [h41k]; rfl) (by decide) ?_
        refine lv_aload_n hx hb dX12_of_154 rfl (lv_at hl 1 rfl) ?_
        refine va_get (D := (dC, dI)) (ci := 12) (v := .ref (ρ h0 2)) (C := RX12) (T := TX12) (N := 53) hx hb hts hfX12 hown hK hP q34 eq34 rfl 2 (by decide) (hts (.fieldLink RX12 7 "ColdShipsModel" "row" "[I") wa_148) (fun _ h9 => h9) rfl dX12_of_155 ?_
        refine lv_iload_n hx hb dX12_of_158 rfl (lv_at hl 0 rfl) ?_
        refine lv_bipush (v := 9) hx hb dX12_of_159 (by decide) ?_
        refine lv_iadd hx hb dX12_of_161 ?_
        refine lv_topi (fun z67 ez67 => ?_)
        have iz67 : z67.toInt = r39.toInt + 9 := zi_add ez67 rfl rfl (by omega) (by omega)
        refine tpk_pos (tp_in hG y1 (by decide)) hf_33 (fun q68 eq68 => ?_)
        refine va_iald hx hb hK hP q68 0 eq68 rfl (vp_in_iff.mpr ⟨by omega, by omega⟩) dX12_of_162 ?_
        refine lv_topi (fun z69 ez69 => ?_)
        exact W.iret (v := z69) hx hb hr (fun t ht hW => ⟨⟨z69, f30, rfl, ⟨hT, hR, trivial, trivial⟩, by rw [ht]; exact hP, va_K.moved hW.alike hK, hD⟩, hS.F ht⟩) hS.2.2 dX12_of_163
  · have ic37 : r35.toInt = 0 := zi_nef rfl rfl c37
    clear hw36r ic37
    refine lv_iconst (v := (-1)) hx hb dX12_of_13 (by decide) ?_
    exact W.iret (v := (-1)) hx hb hr (fun t ht hW => ⟨⟨(-1), f30, rfl, ⟨hT, hR, trivial, trivial⟩, by rw [ht]; exact hP, va_K.moved hW.alike hK, hD⟩, hS.F ht⟩) hS.2.2 dX12_of_14
set_option maxHeartbeats 4000000 in
set_option maxRecDepth 100000 in
theorem t_X12_part (l : Launch) (dC : Nat → ClassId) (dI : Nat → Nat → Nat) (sz : Nat) (κ : Nat → ClassId) (Θ : Nat → Option Int) (τ ν : Nat → Nat) (ρ : Nat → Nat → Nat) (L : List Nat) (f : Nat → va_E) (hG : tp_G τ ν ρ L) (hT : tp_T (mo_O κ Θ) κ τ ν ρ f) (h0 : Nat) (v : Int32) (u : Int32) (ht_h0 : τ h0 = 13) (hJ : mo_RI (-1) 0 (mo_R (mo_i (f (ρ h0 2))))) : Met l yX12_part wqX12_part ({ frames := 4, cells := 0, slots := 0, locals := 1200 }) (va_Pc [.ref h0, .int v, .int u] (pz_B dC dI (tp_K κ) (va_pl L f) sz)) (va_Qi (fun (r : Int32) (f1 : Nat → va_E) => tp_T (mo_O κ Θ) κ τ ν ρ f1 ∧ tp_F τ [13] f f1 ∧ True ∧ True) (fun (f1 : Nat → va_E) (t : State) => pz_E dC dI (tp_K κ) (va_A (va_pl L f) sz) (va_pl L f1) t) (va_A (va_pl L f) sz)) 0 0 (va_A (va_pl L f) sz) := by
  refine Met.ofW (cc := cX12_part) (maxL := 3) (ret := some .int) (by decide) rfl ?_
  intro p e s m args below meth c s₁ B hml hv
  obtain ⟨rfl, hsz, hP, hK, hD0, hN⟩ := hv
  have hx := B.exec
  have hb := B.bytes
  have hr := B.returns
  have hts := fun (w : Cond) (h : w ∈ WALL) => atoms_spec (ws := wqX12_part) B.pre w (List.mem_cons_of_mem _ h)
  have hown : s.vm.findClass RX12 = some m.cls := findClass_of_methodNamed B.named
  have hlocks := B.notSynchronized
  subst hsz
  have hD := hD0.self (sz := s.heap.size)
  generalize hAe : va_A (va_pl L f) s.heap.size = A at hD ⊢
  have hA : ∀ q : Nat, s.heap.size ≤ q → A q := fun q h => by rw [← hAe]; exact Or.inr h
  have hS : va_S A s.heap s.heap [] := va_S.rf
  have hR : tp_F τ [13] f f := tp_F.rf
  have hl := lv_entry ([.ref h0, .int v, .int u]) (n := 3) (Nat.le_of_ble_eq_true rfl)
  rw [lg_entry_eq]
  generalize (lg_sl ([.ref h0, .int v, .int u]) ++ List.replicate (3 - (lg_sl ([.ref h0, .int v, .int u])).length) Slot.unset).toArray = ls at hl ⊢
  have hl : lv_has ls 3 [(0, .ref h0), (1, .int v), (2, .int u)] := hl
  refine tgk_13 hG ht_h0 (fun y1 y2 y3 y4 y5 y6 y7 y8 y9 y10 y11 y12 y13 y14 y15 y16 y17 y18 y19 y20 y21 y22 y23 y24 y25 => ?_)
  refine tpk_32 hT y1 (fun g27 hf_o26 => ?_)
  have hI : mo_RI (-1) 0 (mo_R g27) := by have q9 := hJ; rw [hf_o26, mo_i1] at q9; exact q9
  refine lv_aload_n hx hb dX12_part_0 rfl (lv_at hl 0 rfl) ?_
  refine lv_iconst (v := 0) hx hb dX12_part_1 (by decide) ?_
  refine tpk_13 hT ht_h0 (fun o28_x0 o28_x1 o28_x7 o28_x9 o28_x10 o28_x11 o28_x12 o28_x13 o28_x14 o28_x15 o28_x16 o28_x17 o28_x18 o28_x19 o28_x20 o28_x22 o28_x25 o28_x28 o28_x29 o28_x32 o28_x33 o28_x34 o28_x35 o28_x36 o28_x37 o28_x38 o28_x47 o28_x48 hf_o28 ro28_0 ro28_1 ro28_2 ro28_3 ro28_4 ro28_5 ro28_6 ro28_7 ro28_8 ro28_9 ro28_10 ro28_11 ro28_12 ro28_13 ro28_14 => ?_)
  refine tpk_pos (tp_in hG ht_h0 (by decide)) hf_o28 (fun q29 eq29 => ?_)
  refine va_put (D := (dC, dI)) (ci := 12) (v := .int 0) (ty := .int) (C := RX12) (T := TX12) (N := 53) hx hb hts hfX12 tyX12 tyX12_ok nmX12 hown hK hP hD hS q29 eq29 rfl 0 (by decide) (hts (.fieldLink RX12 91 "ColdShipsModel" "thrown" "I") wa_209) (fun _ h9 => h9) rfl (tyX12_ok 0 (by decide)) rfl rfl (Nat.le_of_ble_eq_true rfl) dX12_part_2 (tp_k (.inr (12, [.int 0, .int o28_x1, .ref (ρ h0 2), .ref (ρ h0 3), .ref (ρ h0 4), .ref (ρ h0 5), .ref (ρ h0 6), .int o28_x7, .ref (ρ h0 8), .int o28_x9, .int o28_x10, .int o28_x11, .int o28_x12, .long o28_x13, .int o28_x14, .int o28_x15, .int o28_x16, .int o28_x17, .int o28_x18, .int o28_x19, .int o28_x20, .ref (ρ h0 21), .int o28_x22, .ref (ρ h0 23), .ref (ρ h0 24), .int o28_x25, .ref (ρ h0 26), .ref (ρ h0 27), .int o28_x28, .int o28_x29, .ref (ρ h0 30), .ref (ρ h0 31), .int o28_x32, .long o28_x33, .long o28_x34, .long o28_x35, .int o28_x36, .int o28_x37, .int o28_x38, .ref (ρ h0 39), .ref (ρ h0 40), .ref (ρ h0 41), .ref (ρ h0 42), .ref (ρ h0 43), .ref (ρ h0 44), .ref (ρ h0 45), .ref (ρ h0 46), .int o28_x47, .int o28_x48, .ref (ρ h0 49), .ref (ρ h0 50), .ref (ρ h0 51), .ref (ρ h0 52)])) hD (tp_in hG ht_h0 (by decide)) eq29 (fun f30 H locs hP hD hS g32 k31 => ?_))
  have hT := hT.up ht_h0 g32 k31 ⟨_, _, _, _, _, _, _, _, _, _, _, _, _, _, _, _, _, _, _, _, _, _, _, _, _, _, _, _, rfl, ro28_0, ro28_1, ro28_2, ro28_3, ro28_4, ro28_5, ro28_6, ro28_7, ro28_8, ro28_9, ro28_10, ro28_11, ro28_12, ro28_13, ro28_14⟩
  have hR := hR.up ht_h0 (by decide) k31
  refine lv_aload_n hx hb dX12_part_5 rfl (lv_at hl 0 rfl) ?_
  refine lv_iload_n hx hb dX12_part_6 rfl (lv_at hl 1 rfl) ?_
  have hf_33 : f30 (ρ h0 2) = .inl (κ 0, 12967, .inl g27) := (k31 _ (tp_ne y1 ht_h0 (by decide))).trans hf_o26
  refine tpk_pos (tp_in hG ht_h0 (by decide)) g32 (fun q34 eq34 => ?_)
  refine pz_calli (va_runV (As := [.int v]) (rest := []) ⟨hx, hb, hml, hown, hts⟩ (t_X12_isShip l dC dI _ κ Θ τ ν ρ L f30 hG hT h0 v (-1) 0 ht_h0 (by omega) (by rw [hf_33, mo_i1]; exact hI)) (cwV 1 hts gX12_part_X12_isShip rfl rfl rfl ⟨rfl, pd_X12_isShip⟩ ⟨Nat.le_of_ble_eq_true rfl, Nat.le_of_ble_eq_true rfl⟩) ⟨pz_blind, va_recv hK hP (ci := 12) (q0 := q34) rfl eq34, pz_pre hP hK hD hN⟩ rfl rfl hl.1 rfl (lv_room (Nat.le_of_ble_eq_true rfl)) dX12_part_7 ⟨Nat.le_of_ble_eq_true rfl, Nat.le_of_ble_eq_true rfl⟩) (fun r35 hw36 => ?_)
  obtain ⟨hw36r, hw36p⟩ := hw36
  have := hI.k1
  rw [hf_33, mo_i1] at hw36p
  refine lv_if_eq (tgt := 38) hx hb dX12_part_10 (by decide) (fun c37 => ?_) (fun c37 => ?_)
  · have ic37 : r35.toInt = 0 := zi_eq rfl rfl c37
    clear hw36r ic37
    refine lv_iconst (v := (-1)) hx hb dX12_part_38 (by decide) ?_
    exact W.iret (v := (-1)) hx hb hr (fun t ht hW => ⟨⟨(-1), f30, rfl, ⟨hT, hR, trivial, trivial⟩, by rw [ht]; exact hP, va_K.moved hW.alike hK, hD⟩, hS.F ht⟩) hS.2.2 dX12_part_39
  · have ic37 : r35.toInt ≠ 0 := zi_eqf rfl rfl c37
    replace ic37 : 1 ≤ r35.toInt := by omega
    have p38 : 0 ≤ v.toInt ∧ v.toInt < mo_R g27 1 := (tp_cond.yes hw36p) (by omega)
    clear hw36r ic37
    refine lv_aload_n hx hb dX12_part_13 rfl (lv_at hl 0 rfl) ?_
    refine lv_iload_n hx hb dX12_part_14 rfl (lv_at hl 2 rfl) ?_
    refine pz_calli (va_runV (As := [.int u]) (rest := []) ⟨hx, hb, hml, hown, hts⟩ (t_X12_isTerminal l dC dI _ κ Θ τ ν ρ L f30 hG hT h0 u (-1) 0 ht_h0 (by omega) (by rw [hf_33, mo_i1]; exact hI)) (cwV 1 hts gX12_part_X12_isTerminal rfl rfl rfl ⟨rfl, pd_X12_isTerminal⟩ ⟨Nat.le_of_ble_eq_true rfl, Nat.le_of_ble_eq_true rfl⟩) ⟨pz_blind, va_recv hK hP (ci := 12) (q0 := q34) rfl eq34, pz_pre hP hK hD hN⟩ rfl rfl hl.1 rfl (lv_room (Nat.le_of_ble_eq_true rfl)) dX12_part_15 ⟨Nat.le_of_ble_eq_true rfl, Nat.le_of_ble_eq_true rfl⟩) (fun r39 hw40 => ?_)
    obtain ⟨hw40r, hw40p⟩ := hw40
    have := hI.k0
    rw [hf_33, mo_i1] at hw40p
    refine lv_if_eq (tgt := 38) hx hb dX12_part_18 (by decide) (fun c41 => ?_) (fun c41 => ?_)
    · have ic41 : r39.toInt = 0 := zi_eq rfl rfl c41
      clear hw40r ic41
      refine lv_iconst (v := (-1)) hx hb dX12_part_38 (by decide) ?_
      exact W.iret (v := (-1)) hx hb hr (fun t ht hW => ⟨⟨(-1), f30, rfl, ⟨hT, hR, trivial, trivial⟩, by rw [ht]; exact hP, va_K.moved hW.alike hK, hD⟩, hS.F ht⟩) hS.2.2 dX12_part_39
    · have ic41 : r39.toInt ≠ 0 := zi_eqf rfl rfl c41
      replace ic41 : 1 ≤ r39.toInt := by omega
      have p42 : 0 ≤ u.toInt ∧ u.toInt < mo_R g27 0 := (tp_cond.yes hw40p) (by omega)
      clear hw40r ic41
      refine lv_aload_n hx hb dX12_part_21 rfl (lv_at hl 0 rfl) ?_
      refine va_get (D := (dC, dI)) (ci := 12) (v := .ref (ρ h0 2)) (C := RX12) (T := TX12) (N := 53) hx hb hts hfX12 hown hK hP q34 eq34 rfl 2 (by decide) (hts (.fieldLink RX12 7 "ColdShipsModel" "row" "[I") wa_148) (fun _ h9 => h9) rfl dX12_part_22 ?_
      refine lv_iload_n hx hb dX12_part_25 rfl (lv_at hl 1 rfl) ?_
      refine pz_calli (va_runS (As := [.int v]) (rest := [.ref (ρ h0 2)]) ⟨hx, hb, hml, hown, hts⟩ (t_X12_shipAt l dC dI _ v (v.toInt) (by omega) rfl) (va_cwS 1 hts gX12_part_X12_shipAt rfl rfl rfl pd_X12_shipAt ⟨Nat.le_of_ble_eq_true rfl, Nat.le_of_ble_eq_true rfl⟩) ⟨pz_blind, pz_pre pz_P0 (hK.sub (tys' := []) [] rfl) (pz_D0 (A := fun _ => True)) hN⟩ rfl rfl hl.1 rfl (lv_room (Nat.le_of_ble_eq_true rfl)) dX12_part_26 ⟨Nat.le_of_ble_eq_true rfl, Nat.le_of_ble_eq_true rfl⟩) (fun r43 hw44 => ?_)
      obtain ⟨hw44r, hw44p⟩ := hw44
      refine lv_bipush (v := 16) hx hb dX12_part_29 (by decide) ?_
      refine lv_iadd hx hb dX12_part_31 ?_
      refine lv_topi (fun z45 ez45 => ?_)
      have iz45 : z45.toInt = r43.toInt + 16 := zi_add ez45 rfl rfl (by omega) (by omega)
      refine lv_iload_n hx hb dX12_part_32 rfl (lv_at hl 2 rfl) ?_
      refine lv_iadd hx hb dX12_part_33 ?_
      refine lv_topi (fun z46 ez46 => ?_)
      have iz46 : z46.toInt = z45.toInt + u.toInt := zi_add ez46 rfl rfl (by omega) (by omega)
      refine tpk_pos (tp_in hG y1 (by decide)) hf_33 (fun q47 eq47 => ?_)
      refine va_iald hx hb hK hP q47 0 eq47 rfl (vp_in_iff.mpr ⟨by omega, by omega⟩) dX12_part_34 ?_
      refine lv_topi (fun z48 ez48 => ?_)
      refine lv_goto (tgt := 39) hx hb dX12_part_35 (by decide) ?_
      exact W.iret (v := z48) hx hb hr (fun t ht hW => ⟨⟨z48, f30, rfl, ⟨hT, hR, trivial, trivial⟩, by rw [ht]; exact hP, va_K.moved hW.alike hK, hD⟩, hS.F ht⟩) hS.2.2 dX12_part_39
set_option maxHeartbeats 4000000 in
set_option maxRecDepth 100000 in
theorem t_X12_book (l : Launch) (dC : Nat → ClassId) (dI : Nat → Nat → Nat) (sz : Nat) (κ : Nat → ClassId) (Θ : Nat → Option Int) (τ ν : Nat → Nat) (ρ : Nat → Nat → Nat) (L : List Nat) (f : Nat → va_E) (hG : tp_G τ ν ρ L) (hT : tp_T (mo_O κ Θ) κ τ ν ρ f) (h0 : Nat) (v : Int32) (u : Int32) (ht_h0 : τ h0 = 13) (hJ : mo_RI (-1) 0 (mo_R (mo_i (f (ρ h0 2))))) : Met l yX12_book wqX12_book ({ frames := 4, cells := 0, slots := 0, locals := 1200 }) (va_Pc [.ref h0, .int v, .int u] (pz_B dC dI (tp_K κ) (va_pl L f) sz)) (va_Ql (fun (r : Int64) (f1 : Nat → va_E) => tp_T (mo_O κ Θ) κ τ ν ρ f1 ∧ tp_F τ [13] f f1 ∧ True ∧ True) (fun (f1 : Nat → va_E) (t : State) => pz_E dC dI (tp_K κ) (va_A (va_pl L f) sz) (va_pl L f1) t) (va_A (va_pl L f) sz)) 0 0 (va_A (va_pl L f) sz) := by
  refine Met.ofW (cc := cX12_book) (maxL := 3) (ret := some .long) (by decide) rfl ?_
  intro p e s m args below meth c s₁ B hml hv
  obtain ⟨rfl, hsz, hP, hK, hD0, hN⟩ := hv
  have hx := B.exec
  have hb := B.bytes
  have hr := B.returns
  have hts := fun (w : Cond) (h : w ∈ WALL) => atoms_spec (ws := wqX12_book) B.pre w (List.mem_cons_of_mem _ h)
  have hown : s.vm.findClass RX12 = some m.cls := findClass_of_methodNamed B.named
  have hlocks := B.notSynchronized
  subst hsz
  have hD := hD0.self (sz := s.heap.size)
  generalize hAe : va_A (va_pl L f) s.heap.size = A at hD ⊢
  have hA : ∀ q : Nat, s.heap.size ≤ q → A q := fun q h => by rw [← hAe]; exact Or.inr h
  have hS : va_S A s.heap s.heap [] := va_S.rf
  have hR : tp_F τ [13] f f := tp_F.rf
  have hl := lv_entry ([.ref h0, .int v, .int u]) (n := 3) (Nat.le_of_ble_eq_true rfl)
  rw [lg_entry_eq]
  generalize (lg_sl ([.ref h0, .int v, .int u]) ++ List.replicate (3 - (lg_sl ([.ref h0, .int v, .int u])).length) Slot.unset).toArray = ls at hl ⊢
  have hl : lv_has ls 3 [(0, .ref h0), (1, .int v), (2, .int u)] := hl
  refine tgk_13 hG ht_h0 (fun y1 y2 y3 y4 y5 y6 y7 y8 y9 y10 y11 y12 y13 y14 y15 y16 y17 y18 y19 y20 y21 y22 y23 y24 y25 => ?_)
  refine tpk_32 hT y1 (fun g27 hf_o26 => ?_)
  have hI : mo_RI (-1) 0 (mo_R g27) := by have q9 := hJ; rw [hf_o26, mo_i1] at q9; exact q9
  refine lv_aload_n hx hb dX12_book_0 rfl (lv_at hl 0 rfl) ?_
  refine lv_iconst (v := 0) hx hb dX12_book_1 (by decide) ?_
  refine tpk_13 hT ht_h0 (fun o28_x0 o28_x1 o28_x7 o28_x9 o28_x10 o28_x11 o28_x12 o28_x13 o28_x14 o28_x15 o28_x16 o28_x17 o28_x18 o28_x19 o28_x20 o28_x22 o28_x25 o28_x28 o28_x29 o28_x32 o28_x33 o28_x34 o28_x35 o28_x36 o28_x37 o28_x38 o28_x47 o28_x48 hf_o28 ro28_0 ro28_1 ro28_2 ro28_3 ro28_4 ro28_5 ro28_6 ro28_7 ro28_8 ro28_9 ro28_10 ro28_11 ro28_12 ro28_13 ro28_14 => ?_)
  refine tpk_pos (tp_in hG ht_h0 (by decide)) hf_o28 (fun q29 eq29 => ?_)
  refine va_put (D := (dC, dI)) (ci := 12) (v := .int 0) (ty := .int) (C := RX12) (T := TX12) (N := 53) hx hb hts hfX12 tyX12 tyX12_ok nmX12 hown hK hP hD hS q29 eq29 rfl 0 (by decide) (hts (.fieldLink RX12 91 "ColdShipsModel" "thrown" "I") wa_209) (fun _ h9 => h9) rfl (tyX12_ok 0 (by decide)) rfl rfl (Nat.le_of_ble_eq_true rfl) dX12_book_2 (tp_k (.inr (12, [.int 0, .int o28_x1, .ref (ρ h0 2), .ref (ρ h0 3), .ref (ρ h0 4), .ref (ρ h0 5), .ref (ρ h0 6), .int o28_x7, .ref (ρ h0 8), .int o28_x9, .int o28_x10, .int o28_x11, .int o28_x12, .long o28_x13, .int o28_x14, .int o28_x15, .int o28_x16, .int o28_x17, .int o28_x18, .int o28_x19, .int o28_x20, .ref (ρ h0 21), .int o28_x22, .ref (ρ h0 23), .ref (ρ h0 24), .int o28_x25, .ref (ρ h0 26), .ref (ρ h0 27), .int o28_x28, .int o28_x29, .ref (ρ h0 30), .ref (ρ h0 31), .int o28_x32, .long o28_x33, .long o28_x34, .long o28_x35, .int o28_x36, .int o28_x37, .int o28_x38, .ref (ρ h0 39), .ref (ρ h0 40), .ref (ρ h0 41), .ref (ρ h0 42), .ref (ρ h0 43), .ref (ρ h0 44), .ref (ρ h0 45), .ref (ρ h0 46), .int o28_x47, .int o28_x48, .ref (ρ h0 49), .ref (ρ h0 50), .ref (ρ h0 51), .ref (ρ h0 52)])) hD (tp_in hG ht_h0 (by decide)) eq29 (fun f30 H locs hP hD hS g32 k31 => ?_))
  have hT := hT.up ht_h0 g32 k31 ⟨_, _, _, _, _, _, _, _, _, _, _, _, _, _, _, _, _, _, _, _, _, _, _, _, _, _, _, _, rfl, ro28_0, ro28_1, ro28_2, ro28_3, ro28_4, ro28_5, ro28_6, ro28_7, ro28_8, ro28_9, ro28_10, ro28_11, ro28_12, ro28_13, ro28_14⟩
  have hR := hR.up ht_h0 (by decide) k31
  refine lv_aload_n hx hb dX12_book_5 rfl (lv_at hl 0 rfl) ?_
  refine lv_iload_n hx hb dX12_book_6 rfl (lv_at hl 1 rfl) ?_
  have hf_33 : f30 (ρ h0 2) = .inl (κ 0, 12967, .inl g27) := (k31 _ (tp_ne y1 ht_h0 (by decide))).trans hf_o26
  refine tpk_pos (tp_in hG ht_h0 (by decide)) g32 (fun q34 eq34 => ?_)
  refine pz_calli (va_runV (As := [.int v]) (rest := []) ⟨hx, hb, hml, hown, hts⟩ (t_X12_isShip l dC dI _ κ Θ τ ν ρ L f30 hG hT h0 v (-1) 0 ht_h0 (by omega) (by rw [hf_33, mo_i1]; exact hI)) (cwV 1 hts gX12_book_X12_isShip rfl rfl rfl ⟨rfl, pd_X12_isShip⟩ ⟨Nat.le_of_ble_eq_true rfl, Nat.le_of_ble_eq_true rfl⟩) ⟨pz_blind, va_recv hK hP (ci := 12) (q0 := q34) rfl eq34, pz_pre hP hK hD hN⟩ rfl rfl hl.1 rfl (lv_room (Nat.le_of_ble_eq_true rfl)) dX12_book_7 ⟨Nat.le_of_ble_eq_true rfl, Nat.le_of_ble_eq_true rfl⟩) (fun r35 hw36 => ?_)
  obtain ⟨hw36r, hw36p⟩ := hw36
  have := hI.k1
  rw [hf_33, mo_i1] at hw36p
  refine lv_if_eq (tgt := 43) hx hb dX12_book_10 (by decide) (fun c37 => ?_) (fun c37 => ?_)
  · have ic37 : r35.toInt = 0 := zi_eq rfl rfl c37
    clear hw36r ic37
    refine lv_ldc2 (own := RX12) (v := (-1)) hx hb hown (hts (.constantLong RX12 158 (-1)) wa_557) dX12_book_43 ?_
    exact W.lret (v := (-1)) hx hb hr (fun t ht hW => ⟨⟨(-1), f30, rfl, ⟨hT, hR, trivial, trivial⟩, by rw [ht]; exact hP, va_K.moved hW.alike hK, hD⟩, hS.F ht⟩) hS.2.2 dX12_book_46
  · have ic37 : r35.toInt ≠ 0 := zi_eqf rfl rfl c37
    replace ic37 : 1 ≤ r35.toInt := by omega
    have p38 : 0 ≤ v.toInt ∧ v.toInt < mo_R g27 1 := (tp_cond.yes hw36p) (by omega)
    clear hw36r ic37
    refine lv_iload_n hx hb dX12_book_13 rfl (lv_at hl 2 rfl) ?_
    refine lv_i2l hx hb dX12_book_14 rfl ?_
    refine lv_lconst (v := 0) hx hb dX12_book_15 (by decide) ?_
    refine lv_ldc2 (own := RX12) (v := 3) hx hb hown (hts (.constantLong RX12 152 (3)) wa_391) dX12_book_16 ?_
    refine pz_calli (va_runS (As := [.long u.toInt64, .long 0, .long 3]) (rest := []) ⟨hx, hb, hml, hown, hts⟩ (t_X12_in l dC dI _ u.toInt64 (0) (3) (u.toInt) (0) (3) (Int32.toInt_toInt64 u) rfl rfl) (va_cwS 3 hts gX12_book_X12_in rfl rfl rfl pd_X12_in ⟨Nat.le_of_ble_eq_true rfl, Nat.le_of_ble_eq_true rfl⟩) ⟨pz_blind, pz_pre pz_P0 (hK.sub (tys' := []) [] rfl) (pz_D0 (A := fun _ => True)) hN⟩ rfl rfl hl.1 rfl (lv_room (Nat.le_of_ble_eq_true rfl)) dX12_book_19 ⟨Nat.le_of_ble_eq_true rfl, Nat.le_of_ble_eq_true rfl⟩) (fun r39 hw40 => ?_)
    obtain ⟨hw40r, hw40p⟩ := hw40
    refine lv_if_eq (tgt := 43) hx hb dX12_book_22 (by decide) (fun c41 => ?_) (fun c41 => ?_)
    · have ic41 : r39.toInt = 0 := zi_eq rfl rfl c41
      clear hw40r ic41
      refine lv_ldc2 (own := RX12) (v := (-1)) hx hb hown (hts (.constantLong RX12 158 (-1)) wa_557) dX12_book_43 ?_
      exact W.lret (v := (-1)) hx hb hr (fun t ht hW => ⟨⟨(-1), f30, rfl, ⟨hT, hR, trivial, trivial⟩, by rw [ht]; exact hP, va_K.moved hW.alike hK, hD⟩, hS.F ht⟩) hS.2.2 dX12_book_46
    · have ic41 : r39.toInt ≠ 0 := zi_eqf rfl rfl c41
      replace ic41 : 1 ≤ r39.toInt := by omega
      have p42 : (0) ≤ (u.toInt) ∧ (u.toInt) ≤ (3) := (tp_cond.yes hw40p) (by omega)
      clear hw40r ic41
      refine lv_aload_n hx hb dX12_book_25 rfl (lv_at hl 0 rfl) ?_
      refine va_get (D := (dC, dI)) (ci := 12) (v := .ref (ρ h0 2)) (C := RX12) (T := TX12) (N := 53) hx hb hts hfX12 hown hK hP q34 eq34 rfl 2 (by decide) (hts (.fieldLink RX12 7 "ColdShipsModel" "row" "[I") wa_148) (fun _ h9 => h9) rfl dX12_book_26 ?_
      refine lv_iload_n hx hb dX12_book_29 rfl (lv_at hl 1 rfl) ?_
      refine pz_calli (va_runS (As := [.int v]) (rest := [.ref (ρ h0 2)]) ⟨hx, hb, hml, hown, hts⟩ (t_X12_shipAt l dC dI _ v (v.toInt) (by omega) rfl) (va_cwS 1 hts gX12_book_X12_shipAt rfl rfl rfl pd_X12_shipAt ⟨Nat.le_of_ble_eq_true rfl, Nat.le_of_ble_eq_true rfl⟩) ⟨pz_blind, pz_pre pz_P0 (hK.sub (tys' := []) [] rfl) (pz_D0 (A := fun _ => True)) hN⟩ rfl rfl hl.1 rfl (lv_room (Nat.le_of_ble_eq_true rfl)) dX12_book_30 ⟨Nat.le_of_ble_eq_true rfl, Nat.le_of_ble_eq_true rfl⟩) (fun r43 hw44 => ?_)
      obtain ⟨hw44r, hw44p⟩ := hw44
      refine lv_bipush (v := 12) hx hb dX12_book_33 (by decide) ?_
      refine lv_iadd hx hb dX12_book_35 ?_
      refine lv_topi (fun z45 ez45 => ?_)
      have iz45 : z45.toInt = r43.toInt + 12 := zi_add ez45 rfl rfl (by omega) (by omega)
      refine lv_iload_n hx hb dX12_book_36 rfl (lv_at hl 2 rfl) ?_
      refine lv_iadd hx hb dX12_book_37 ?_
      refine lv_topi (fun z46 ez46 => ?_)
      have iz46 : z46.toInt = z45.toInt + u.toInt := zi_add ez46 rfl rfl (by omega) (by omega)
      refine tpk_pos (tp_in hG y1 (by decide)) hf_33 (fun q47 eq47 => ?_)
      refine va_iald hx hb hK hP q47 0 eq47 rfl (vp_in_iff.mpr ⟨by omega, by omega⟩) dX12_book_38 ?_
      refine lv_topi (fun z48 ez48 => ?_)
      refine lv_i2l hx hb dX12_book_39 rfl ?_
      refine lv_goto (tgt := 46) hx hb dX12_book_40 (by decide) ?_
      exact W.lret (v := z48.toInt64) hx hb hr (fun t ht hW => ⟨⟨z48.toInt64, f30, rfl, ⟨hT, hR, trivial, trivial⟩, by rw [ht]; exact hP, va_K.moved hW.alike hK, hD⟩, hS.F ht⟩) hS.2.2 dX12_book_46
set_option maxHeartbeats 4000000 in
set_option maxRecDepth 100000 in
theorem t_X12_store (l : Launch) (dC : Nat → ClassId) (dI : Nat → Nat → Nat) (sz : Nat) (κ : Nat → ClassId) (Θ : Nat → Option Int) (τ ν : Nat → Nat) (ρ : Nat → Nat → Nat) (L : List Nat) (f : Nat → va_E) (hG : tp_G τ ν ρ L) (hT : tp_T (mo_O κ Θ) κ τ ν ρ f) (h0 : Nat) (v : Int32) (ht_h0 : τ h0 = 13) (hJ : mo_RI (-1) 0 (mo_R (mo_i (f (ρ h0 2))))) : Met l yX12_store wqX12_store ({ frames := 4, cells := 0, slots := 0, locals := 1200 }) (va_Pc [.ref h0, .int v] (pz_B dC dI (tp_K κ) (va_pl L f) sz)) (va_Qi (fun (r : Int32) (f1 : Nat → va_E) => tp_T (mo_O κ Θ) κ τ ν ρ f1 ∧ tp_F τ [13] f f1 ∧ True ∧ True) (fun (f1 : Nat → va_E) (t : State) => pz_E dC dI (tp_K κ) (va_A (va_pl L f) sz) (va_pl L f1) t) (va_A (va_pl L f) sz)) 0 0 (va_A (va_pl L f) sz) := by
  refine Met.ofW (cc := cX12_store) (maxL := 2) (ret := some .int) (by decide) rfl ?_
  intro p e s m args below meth c s₁ B hml hv
  obtain ⟨rfl, hsz, hP, hK, hD0, hN⟩ := hv
  have hx := B.exec
  have hb := B.bytes
  have hr := B.returns
  have hts := fun (w : Cond) (h : w ∈ WALL) => atoms_spec (ws := wqX12_store) B.pre w (List.mem_cons_of_mem _ h)
  have hown : s.vm.findClass RX12 = some m.cls := findClass_of_methodNamed B.named
  have hlocks := B.notSynchronized
  subst hsz
  have hD := hD0.self (sz := s.heap.size)
  generalize hAe : va_A (va_pl L f) s.heap.size = A at hD ⊢
  have hA : ∀ q : Nat, s.heap.size ≤ q → A q := fun q h => by rw [← hAe]; exact Or.inr h
  have hS : va_S A s.heap s.heap [] := va_S.rf
  have hR : tp_F τ [13] f f := tp_F.rf
  have hl := lv_entry ([.ref h0, .int v]) (n := 2) (Nat.le_of_ble_eq_true rfl)
  rw [lg_entry_eq]
  generalize (lg_sl ([.ref h0, .int v]) ++ List.replicate (2 - (lg_sl ([.ref h0, .int v])).length) Slot.unset).toArray = ls at hl ⊢
  have hl : lv_has ls 2 [(0, .ref h0), (1, .int v)] := hl
  refine tgk_13 hG ht_h0 (fun y1 y2 y3 y4 y5 y6 y7 y8 y9 y10 y11 y12 y13 y14 y15 y16 y17 y18 y19 y20 y21 y22 y23 y24 y25 => ?_)
  refine tpk_32 hT y1 (fun g27 hf_o26 => ?_)
  have hI : mo_RI (-1) 0 (mo_R g27) := by have q9 := hJ; rw [hf_o26, mo_i1] at q9; exact q9
  refine lv_aload_n hx hb dX12_store_0 rfl (lv_at hl 0 rfl) ?_
  refine lv_iconst (v := 0) hx hb dX12_store_1 (by decide) ?_
  refine tpk_13 hT ht_h0 (fun o28_x0 o28_x1 o28_x7 o28_x9 o28_x10 o28_x11 o28_x12 o28_x13 o28_x14 o28_x15 o28_x16 o28_x17 o28_x18 o28_x19 o28_x20 o28_x22 o28_x25 o28_x28 o28_x29 o28_x32 o28_x33 o28_x34 o28_x35 o28_x36 o28_x37 o28_x38 o28_x47 o28_x48 hf_o28 ro28_0 ro28_1 ro28_2 ro28_3 ro28_4 ro28_5 ro28_6 ro28_7 ro28_8 ro28_9 ro28_10 ro28_11 ro28_12 ro28_13 ro28_14 => ?_)
  refine tpk_pos (tp_in hG ht_h0 (by decide)) hf_o28 (fun q29 eq29 => ?_)
  refine va_put (D := (dC, dI)) (ci := 12) (v := .int 0) (ty := .int) (C := RX12) (T := TX12) (N := 53) hx hb hts hfX12 tyX12 tyX12_ok nmX12 hown hK hP hD hS q29 eq29 rfl 0 (by decide) (hts (.fieldLink RX12 91 "ColdShipsModel" "thrown" "I") wa_209) (fun _ h9 => h9) rfl (tyX12_ok 0 (by decide)) rfl rfl (Nat.le_of_ble_eq_true rfl) dX12_store_2 (tp_k (.inr (12, [.int 0, .int o28_x1, .ref (ρ h0 2), .ref (ρ h0 3), .ref (ρ h0 4), .ref (ρ h0 5), .ref (ρ h0 6), .int o28_x7, .ref (ρ h0 8), .int o28_x9, .int o28_x10, .int o28_x11, .int o28_x12, .long o28_x13, .int o28_x14, .int o28_x15, .int o28_x16, .int o28_x17, .int o28_x18, .int o28_x19, .int o28_x20, .ref (ρ h0 21), .int o28_x22, .ref (ρ h0 23), .ref (ρ h0 24), .int o28_x25, .ref (ρ h0 26), .ref (ρ h0 27), .int o28_x28, .int o28_x29, .ref (ρ h0 30), .ref (ρ h0 31), .int o28_x32, .long o28_x33, .long o28_x34, .long o28_x35, .int o28_x36, .int o28_x37, .int o28_x38, .ref (ρ h0 39), .ref (ρ h0 40), .ref (ρ h0 41), .ref (ρ h0 42), .ref (ρ h0 43), .ref (ρ h0 44), .ref (ρ h0 45), .ref (ρ h0 46), .int o28_x47, .int o28_x48, .ref (ρ h0 49), .ref (ρ h0 50), .ref (ρ h0 51), .ref (ρ h0 52)])) hD (tp_in hG ht_h0 (by decide)) eq29 (fun f30 H locs hP hD hS g32 k31 => ?_))
  have hT := hT.up ht_h0 g32 k31 ⟨_, _, _, _, _, _, _, _, _, _, _, _, _, _, _, _, _, _, _, _, _, _, _, _, _, _, _, _, rfl, ro28_0, ro28_1, ro28_2, ro28_3, ro28_4, ro28_5, ro28_6, ro28_7, ro28_8, ro28_9, ro28_10, ro28_11, ro28_12, ro28_13, ro28_14⟩
  have hR := hR.up ht_h0 (by decide) k31
  refine lv_aload_n hx hb dX12_store_5 rfl (lv_at hl 0 rfl) ?_
  refine lv_iload_n hx hb dX12_store_6 rfl (lv_at hl 1 rfl) ?_
  have hf_33 : f30 (ρ h0 2) = .inl (κ 0, 12967, .inl g27) := (k31 _ (tp_ne y1 ht_h0 (by decide))).trans hf_o26
  refine tpk_pos (tp_in hG ht_h0 (by decide)) g32 (fun q34 eq34 => ?_)
  refine pz_calli (va_runV (As := [.int v]) (rest := []) ⟨hx, hb, hml, hown, hts⟩ (t_X12_isTerminal l dC dI _ κ Θ τ ν ρ L f30 hG hT h0 v (-1) 0 ht_h0 (by omega) (by rw [hf_33, mo_i1]; exact hI)) (cwV 1 hts gX12_store_X12_isTerminal rfl rfl rfl ⟨rfl, pd_X12_isTerminal⟩ ⟨Nat.le_of_ble_eq_true rfl, Nat.le_of_ble_eq_true rfl⟩) ⟨pz_blind, va_recv hK hP (ci := 12) (q0 := q34) rfl eq34, pz_pre hP hK hD hN⟩ rfl rfl hl.1 rfl (lv_room (Nat.le_of_ble_eq_true rfl)) dX12_store_7 ⟨Nat.le_of_ble_eq_true rfl, Nat.le_of_ble_eq_true rfl⟩) (fun r35 hw36 => ?_)
  obtain ⟨hw36r, hw36p⟩ := hw36
  have := hI.k0
  rw [hf_33, mo_i1] at hw36p
  refine lv_if_eq (tgt := 25) hx hb dX12_store_10 (by decide) (fun c37 => ?_) (fun c37 => ?_)
  · have ic37 : r35.toInt = 0 := zi_eq rfl rfl c37
    clear hw36r ic37
    refine lv_iconst (v := (-1)) hx hb dX12_store_25 (by decide) ?_
    exact W.iret (v := (-1)) hx hb hr (fun t ht hW => ⟨⟨(-1), f30, rfl, ⟨hT, hR, trivial, trivial⟩, by rw [ht]; exact hP, va_K.moved hW.alike hK, hD⟩, hS.F ht⟩) hS.2.2 dX12_store_26
  · have ic37 : r35.toInt ≠ 0 := zi_eqf rfl rfl c37
    replace ic37 : 1 ≤ r35.toInt := by omega
    have p38 : 0 ≤ v.toInt ∧ v.toInt < mo_R g27 0 := (tp_cond.yes hw36p) (by omega)
    clear hw36r ic37
    refine lv_aload_n hx hb dX12_store_13 rfl (lv_at hl 0 rfl) ?_
    refine va_get (D := (dC, dI)) (ci := 12) (v := .ref (ρ h0 2)) (C := RX12) (T := TX12) (N := 53) hx hb hts hfX12 hown hK hP q34 eq34 rfl 2 (by decide) (hts (.fieldLink RX12 7 "ColdShipsModel" "row" "[I") wa_148) (fun _ h9 => h9) rfl dX12_store_14 ?_
    refine lv_iload_n hx hb dX12_store_17 rfl (lv_at hl 1 rfl) ?_
    refine pz_calli (va_runS (As := [.int v]) (rest := [.ref (ρ h0 2)]) ⟨hx, hb, hml, hown, hts⟩ (t_X12_terminalAt l dC dI _ v (v.toInt) (by omega) rfl) (va_cwS 1 hts gX12_store_X12_terminalAt rfl rfl rfl pd_X12_terminalAt ⟨Nat.le_of_ble_eq_true rfl, Nat.le_of_ble_eq_true rfl⟩) ⟨pz_blind, pz_pre pz_P0 (hK.sub (tys' := []) [] rfl) (pz_D0 (A := fun _ => True)) hN⟩ rfl rfl hl.1 rfl (lv_room (Nat.le_of_ble_eq_true rfl)) dX12_store_18 ⟨Nat.le_of_ble_eq_true rfl, Nat.le_of_ble_eq_true rfl⟩) (fun r39 hw40 => ?_)
    obtain ⟨hw40r, hw40p⟩ := hw40
    refine tpk_pos (tp_in hG y1 (by decide)) hf_33 (fun q41 eq41 => ?_)
    refine va_iald hx hb hK hP q41 0 eq41 rfl (vp_in_iff.mpr ⟨by omega, by omega⟩) dX12_store_21 ?_
    refine lv_topi (fun z42 ez42 => ?_)
    refine lv_goto (tgt := 26) hx hb dX12_store_22 (by decide) ?_
    exact W.iret (v := z42) hx hb hr (fun t ht hW => ⟨⟨z42, f30, rfl, ⟨hT, hR, trivial, trivial⟩, by rw [ht]; exact hP, va_K.moved hW.alike hK, hD⟩, hS.F ht⟩) hS.2.2 dX12_store_26
set_option maxHeartbeats 4000000 in
set_option maxRecDepth 100000 in
theorem t_X12_landing (l : Launch) (dC : Nat → ClassId) (dI : Nat → Nat → Nat) (sz : Nat) (κ : Nat → ClassId) (Θ : Nat → Option Int) (τ ν : Nat → Nat) (ρ : Nat → Nat → Nat) (L : List Nat) (f : Nat → va_E) (hG : tp_G τ ν ρ L) (hT : tp_T (mo_O κ Θ) κ τ ν ρ f) (h0 : Nat) (v : Int32) (u : Int32) (ht_h0 : τ h0 = 13) (hJ : mo_RI (-1) 0 (mo_R (mo_i (f (ρ h0 2))))) : Met l yX12_landing wqX12_landing ({ frames := 4, cells := 0, slots := 0, locals := 1200 }) (va_Pc [.ref h0, .int v, .int u] (pz_B dC dI (tp_K κ) (va_pl L f) sz)) (va_Qi (fun (r : Int32) (f1 : Nat → va_E) => tp_T (mo_O κ Θ) κ τ ν ρ f1 ∧ tp_F τ [13] f f1 ∧ True ∧ True) (fun (f1 : Nat → va_E) (t : State) => pz_E dC dI (tp_K κ) (va_A (va_pl L f) sz) (va_pl L f1) t) (va_A (va_pl L f) sz)) 0 0 (va_A (va_pl L f) sz) := by
  refine Met.ofW (cc := cX12_landing) (maxL := 4) (ret := some .int) (by decide) rfl ?_
  intro p e s m args below meth c s₁ B hml hv
  obtain ⟨rfl, hsz, hP, hK, hD0, hN⟩ := hv
  have hx := B.exec
  have hb := B.bytes
  have hr := B.returns
  have hts := fun (w : Cond) (h : w ∈ WALL) => atoms_spec (ws := wqX12_landing) B.pre w (List.mem_cons_of_mem _ h)
  have hown : s.vm.findClass RX12 = some m.cls := findClass_of_methodNamed B.named
  have hlocks := B.notSynchronized
  subst hsz
  have hD := hD0.self (sz := s.heap.size)
  generalize hAe : va_A (va_pl L f) s.heap.size = A at hD ⊢
  have hA : ∀ q : Nat, s.heap.size ≤ q → A q := fun q h => by rw [← hAe]; exact Or.inr h
  have hS : va_S A s.heap s.heap [] := va_S.rf
  have hR : tp_F τ [13] f f := tp_F.rf
  have hl := lv_entry ([.ref h0, .int v, .int u]) (n := 4) (Nat.le_of_ble_eq_true rfl)
  rw [lg_entry_eq]
  generalize (lg_sl ([.ref h0, .int v, .int u]) ++ List.replicate (4 - (lg_sl ([.ref h0, .int v, .int u])).length) Slot.unset).toArray = ls at hl ⊢
  have hl : lv_has ls 4 [(0, .ref h0), (1, .int v), (2, .int u)] := hl
  refine tgk_13 hG ht_h0 (fun y1 y2 y3 y4 y5 y6 y7 y8 y9 y10 y11 y12 y13 y14 y15 y16 y17 y18 y19 y20 y21 y22 y23 y24 y25 => ?_)
  refine tpk_32 hT y1 (fun g27 hf_o26 => ?_)
  have hI : mo_RI (-1) 0 (mo_R g27) := by have q9 := hJ; rw [hf_o26, mo_i1] at q9; exact q9
  refine lv_aload_n hx hb dX12_landing_0 rfl (lv_at hl 0 rfl) ?_
  refine lv_iconst (v := 0) hx hb dX12_landing_1 (by decide) ?_
  refine tpk_13 hT ht_h0 (fun o28_x0 o28_x1 o28_x7 o28_x9 o28_x10 o28_x11 o28_x12 o28_x13 o28_x14 o28_x15 o28_x16 o28_x17 o28_x18 o28_x19 o28_x20 o28_x22 o28_x25 o28_x28 o28_x29 o28_x32 o28_x33 o28_x34 o28_x35 o28_x36 o28_x37 o28_x38 o28_x47 o28_x48 hf_o28 ro28_0 ro28_1 ro28_2 ro28_3 ro28_4 ro28_5 ro28_6 ro28_7 ro28_8 ro28_9 ro28_10 ro28_11 ro28_12 ro28_13 ro28_14 => ?_)
  refine tpk_pos (tp_in hG ht_h0 (by decide)) hf_o28 (fun q29 eq29 => ?_)
  refine va_put (D := (dC, dI)) (ci := 12) (v := .int 0) (ty := .int) (C := RX12) (T := TX12) (N := 53) hx hb hts hfX12 tyX12 tyX12_ok nmX12 hown hK hP hD hS q29 eq29 rfl 0 (by decide) (hts (.fieldLink RX12 91 "ColdShipsModel" "thrown" "I") wa_209) (fun _ h9 => h9) rfl (tyX12_ok 0 (by decide)) rfl rfl (Nat.le_of_ble_eq_true rfl) dX12_landing_2 (tp_k (.inr (12, [.int 0, .int o28_x1, .ref (ρ h0 2), .ref (ρ h0 3), .ref (ρ h0 4), .ref (ρ h0 5), .ref (ρ h0 6), .int o28_x7, .ref (ρ h0 8), .int o28_x9, .int o28_x10, .int o28_x11, .int o28_x12, .long o28_x13, .int o28_x14, .int o28_x15, .int o28_x16, .int o28_x17, .int o28_x18, .int o28_x19, .int o28_x20, .ref (ρ h0 21), .int o28_x22, .ref (ρ h0 23), .ref (ρ h0 24), .int o28_x25, .ref (ρ h0 26), .ref (ρ h0 27), .int o28_x28, .int o28_x29, .ref (ρ h0 30), .ref (ρ h0 31), .int o28_x32, .long o28_x33, .long o28_x34, .long o28_x35, .int o28_x36, .int o28_x37, .int o28_x38, .ref (ρ h0 39), .ref (ρ h0 40), .ref (ρ h0 41), .ref (ρ h0 42), .ref (ρ h0 43), .ref (ρ h0 44), .ref (ρ h0 45), .ref (ρ h0 46), .int o28_x47, .int o28_x48, .ref (ρ h0 49), .ref (ρ h0 50), .ref (ρ h0 51), .ref (ρ h0 52)])) hD (tp_in hG ht_h0 (by decide)) eq29 (fun f30 H locs hP hD hS g32 k31 => ?_))
  have hT := hT.up ht_h0 g32 k31 ⟨_, _, _, _, _, _, _, _, _, _, _, _, _, _, _, _, _, _, _, _, _, _, _, _, _, _, _, _, rfl, ro28_0, ro28_1, ro28_2, ro28_3, ro28_4, ro28_5, ro28_6, ro28_7, ro28_8, ro28_9, ro28_10, ro28_11, ro28_12, ro28_13, ro28_14⟩
  have hR := hR.up ht_h0 (by decide) k31
  refine lv_aload_n hx hb dX12_landing_5 rfl (lv_at hl 0 rfl) ?_
  refine lv_iload_n hx hb dX12_landing_6 rfl (lv_at hl 1 rfl) ?_
  have hf_33 : f30 (ρ h0 2) = .inl (κ 0, 12967, .inl g27) := (k31 _ (tp_ne y1 ht_h0 (by decide))).trans hf_o26
  refine tpk_pos (tp_in hG ht_h0 (by decide)) g32 (fun q34 eq34 => ?_)
  refine pz_calli (va_runV (As := [.int v]) (rest := []) ⟨hx, hb, hml, hown, hts⟩ (t_X12_isLanding l dC dI _ κ Θ τ ν ρ L f30 hG hT h0 v (-1) 0 ht_h0 (by omega) (by rw [hf_33, mo_i1]; exact hI)) (cwV 1 hts gX12_landing_X12_isLanding rfl rfl rfl ⟨rfl, pd_X12_isLanding⟩ ⟨Nat.le_of_ble_eq_true rfl, Nat.le_of_ble_eq_true rfl⟩) ⟨pz_blind, va_recv hK hP (ci := 12) (q0 := q34) rfl eq34, pz_pre hP hK hD hN⟩ rfl rfl hl.1 rfl (lv_room (Nat.le_of_ble_eq_true rfl)) dX12_landing_7 ⟨Nat.le_of_ble_eq_true rfl, Nat.le_of_ble_eq_true rfl⟩) (fun r35 hw36 => ?_)
  obtain ⟨hw36r, hw36p⟩ := hw36
  have := hI.k5
  rw [hf_33, mo_i1] at hw36p
  refine lv_if_eq (tgt := 25) hx hb dX12_landing_10 (by decide) (fun c37 => ?_) (fun c37 => ?_)
  · have ic37 : r35.toInt = 0 := zi_eq rfl rfl c37
    clear hw36r ic37
    refine lv_iconst (v := (-1)) hx hb dX12_landing_25 (by decide) ?_
    exact W.iret (v := (-1)) hx hb hr (fun t ht hW => ⟨⟨(-1), f30, rfl, ⟨hT, hR, trivial, trivial⟩, by rw [ht]; exact hP, va_K.moved hW.alike hK, hD⟩, hS.F ht⟩) hS.2.2 dX12_landing_26
  · have ic37 : r35.toInt ≠ 0 := zi_eqf rfl rfl c37
    replace ic37 : 1 ≤ r35.toInt := by omega
    have p38 : 0 ≤ v.toInt ∧ v.toInt < mo_R g27 5 := (tp_cond.yes hw36p) (by omega)
    clear hw36r ic37
    refine lv_iload_n hx hb dX12_landing_13 rfl (lv_at hl 2 rfl) ?_
    refine lv_i2l hx hb dX12_landing_14 rfl ?_
    refine lv_lconst (v := 0) hx hb dX12_landing_15 (by decide) ?_
    refine lv_ldc2 (own := RX12) (v := 6) hx hb hown (hts (.constantLong RX12 240 (6)) wa_700) dX12_landing_16 ?_
    refine pz_calli (va_runS (As := [.long u.toInt64, .long 0, .long 6]) (rest := []) ⟨hx, hb, hml, hown, hts⟩ (t_X12_in l dC dI _ u.toInt64 (0) (6) (u.toInt) (0) (6) (Int32.toInt_toInt64 u) rfl rfl) (va_cwS 3 hts gX12_landing_X12_in rfl rfl rfl pd_X12_in ⟨Nat.le_of_ble_eq_true rfl, Nat.le_of_ble_eq_true rfl⟩) ⟨pz_blind, pz_pre pz_P0 (hK.sub (tys' := []) [] rfl) (pz_D0 (A := fun _ => True)) hN⟩ rfl rfl hl.1 rfl (lv_room (Nat.le_of_ble_eq_true rfl)) dX12_landing_19 ⟨Nat.le_of_ble_eq_true rfl, Nat.le_of_ble_eq_true rfl⟩) (fun r39 hw40 => ?_)
    obtain ⟨hw40r, hw40p⟩ := hw40
    refine lv_if_ne (tgt := 27) hx hb dX12_landing_22 (by decide) (fun c41 => ?_) (fun c41 => ?_)
    · have ic41 : r39.toInt ≠ 0 := zi_ne rfl rfl c41
      replace ic41 : 1 ≤ r39.toInt := by omega
      have p42 : (0) ≤ (u.toInt) ∧ (u.toInt) ≤ (6) := (tp_cond.yes hw40p) (by omega)
      clear hw40r ic41
      refine lv_iload_n hx hb dX12_landing_27 rfl (lv_at hl 1 rfl) ?_
      refine pz_calli (va_runS (As := [.int v]) (rest := []) ⟨hx, hb, hml, hown, hts⟩ (t_X12_landingAt l dC dI _ v (v.toInt) (by omega) rfl) (va_cwS 1 hts gX12_landing_X12_landingAt rfl rfl rfl pd_X12_landingAt ⟨Nat.le_of_ble_eq_true rfl, Nat.le_of_ble_eq_true rfl⟩) ⟨pz_blind, pz_pre pz_P0 (hK.sub (tys' := []) [] rfl) (pz_D0 (A := fun _ => True)) hN⟩ rfl rfl hl.1 rfl (lv_room (Nat.le_of_ble_eq_true rfl)) dX12_landing_28 ⟨Nat.le_of_ble_eq_true rfl, Nat.le_of_ble_eq_true rfl⟩) (fun r43 hw44 => ?_)
      obtain ⟨hw44r, hw44p⟩ := hw44
      refine lv_istore_n (lv' := [(3, .int r43), (0, .ref h0), (1, .int v), (2, .int u)]) hx hb dX12_landing_31 rfl hl (by decide) rfl (fun ls hl => ?_)
      refine lv_iload_n hx hb dX12_landing_32 rfl (lv_at hl 3 rfl) ?_
      refine lv_iconst (v := 5) hx hb dX12_landing_33 (by decide) ?_
      refine lv_icmp_ge (tgt := 48) hx hb dX12_landing_34 (by decide) (fun c45 => ?_) (fun c45 => ?_)
      · have ic45 : u.toInt ≥ 5 := zi_ge rfl rfl c45
        refine lv_iload_n hx hb dX12_landing_48 rfl (lv_at hl 3 rfl) ?_
        refine lv_iconst (v := 5) hx hb dX12_landing_49 (by decide) ?_
        refine lv_icmp_ne (tgt := 61) hx hb dX12_landing_50 (by decide) (fun c46 => ?_) (fun c46 => ?_)
        · have ic46 : u.toInt ≠ 5 := zi_ne rfl rfl c46
          replace ic46 : 6 ≤ u.toInt := by omega
          refine lv_aload_n hx hb dX12_landing_61 rfl (lv_at hl 1 rfl) ?_
          refine va_get (D := (dC, dI)) (ci := 12) (v := .ref (ρ h0 2)) (C := RX12) (T := TX12) (N := 53) hx hb hts hfX12 hown hK hP q34 eq34 rfl 2 (by decide) (hts (.fieldLink RX12 7 "ColdShipsModel" "row" "[I") wa_148) (fun _ h9 => h9) rfl dX12_landing_62 ?_
          refine lv_iload_n hx hb dX12_landing_65 rfl (lv_at hl 0 rfl) ?_
          refine lv_bipush (v := 12) hx hb dX12_landing_66 (by decide) ?_
          refine lv_iadd hx hb dX12_landing_68 ?_
          refine lv_topi (fun z47 ez47 => ?_)
          have iz47 : z47.toInt = r43.toInt + 12 := zi_add ez47 rfl rfl (by omega) (by omega)
          refine tpk_pos (tp_in hG y1 (by decide)) hf_33 (fun q48 eq48 => ?_)
          refine va_iald hx hb hK hP q48 0 eq48 rfl (vp_in_iff.mpr ⟨by omega, by omega⟩) dX12_landing_69 ?_
          refine lv_topi (fun z49 ez49 => ?_)
          refine lv_iconst (v := (-1)) hx hb dX12_landing_70 (by decide) ?_
          refine lv_icmp_ne (tgt := 78) hx hb dX12_landing_71 (by decide) (fun c50 => ?_) (fun c50 => ?_)
          · have ic50 : z49.toInt ≠ (-1) := zi_ne rfl rfl c50
            refine lv_iconst (v := 1) hx hb dX12_landing_78 (by decide) ?_
            exact W.iret (v := 1) hx hb hr (fun t ht hW => ⟨⟨1, f30, rfl, ⟨hT, hR, trivial, trivial⟩, by rw [ht]; exact hP, va_K.moved hW.alike hK, hD⟩, hS.F ht⟩) hS.2.2 dX12_landing_79
          · have ic50 : z49.toInt = (-1) := zi_nef rfl rfl c50
            refine lv_iconst (v := 0) hx hb dX12_landing_74 (by decide) ?_
            refine lv_goto (tgt := 79) hx hb dX12_landing_75 (by decide) ?_
            exact W.iret (v := 0) hx hb hr (fun t ht hW => ⟨⟨0, f30, rfl, ⟨hT, hR, trivial, trivial⟩, by rw [ht]; exact hP, va_K.moved hW.alike hK, hD⟩, hS.F ht⟩) hS.2.2 dX12_landing_79
        · have ic46 : u.toInt = 5 := zi_nef rfl rfl c46
          refine lv_aload_n hx hb dX12_landing_53 rfl (lv_at hl 1 rfl) ?_
          refine lv_iload_n hx hb dX12_landing_54 rfl (lv_at hl 0 rfl) ?_
          refine pz_calli (va_runV (As := [.int r43]) (rest := []) ⟨hx, hb, hml, hown, hts⟩ (t_X12_heatOf l dC dI _ κ Θ τ ν ρ L f30 hG hT h0 r43 (-1) 0 v.toInt ht_h0 (by omega) (by omega) (by omega) (by rw [hf_33, mo_i1]; exact hI) (by first | (simp only [hf_33, hf_o26, mo_i1]; omega) | (simp only [hf_33, hf_o26, mo_i1]; trivial) | (simp only [hf_33, hf_o26, mo_i1]; done) | omega)) (cwV 1 hts gX12_landing_X12_heatOf rfl rfl rfl ⟨rfl, pd_X12_heatOf⟩ ⟨Nat.le_of_ble_eq_true rfl, Nat.le_of_ble_eq_true rfl⟩) ⟨pz_blind, va_recv hK hP (ci := 12) (q0 := q34) rfl eq34, pz_pre hP hK hD hN⟩ rfl rfl hl.1 rfl (lv_room (Nat.le_of_ble_eq_true rfl)) dX12_landing_55 ⟨Nat.le_of_ble_eq_true rfl, Nat.le_of_ble_eq_true rfl⟩) (fun r51 hw52 => ?_)
          obtain ⟨hw52r, hw52p⟩ := hw52
          refine lv_goto (tgt := 79) hx hb dX12_landing_58 (by decide) ?_
          exact W.iret (v := r51) hx hb hr (fun t ht hW => ⟨⟨r51, f30, rfl, ⟨hT, hR, trivial, trivial⟩, by rw [ht]; exact hP, va_K.moved hW.alike hK, hD⟩, hS.F ht⟩) hS.2.2 dX12_landing_79
      · have ic45 : u.toInt < 5 := zi_gef rfl rfl c45
        refine lv_aload_n hx hb dX12_landing_37 rfl (lv_at hl 1 rfl) ?_
        refine va_get (D := (dC, dI)) (ci := 12) (v := .ref (ρ h0 2)) (C := RX12) (T := TX12) (N := 53) hx hb hts hfX12 hown hK hP q34 eq34 rfl 2 (by decide) (hts (.fieldLink RX12 7 "ColdShipsModel" "row" "[I") wa_148) (fun _ h9 => h9) rfl dX12_landing_38 ?_
        refine lv_iload_n hx hb dX12_landing_41 rfl (lv_at hl 0 rfl) ?_
        refine lv_iload_n hx hb dX12_landing_42 rfl (lv_at hl 3 rfl) ?_
        refine lv_iadd hx hb dX12_landing_43 ?_
        refine lv_topi (fun z53 ez53 => ?_)
        have iz53 : z53.toInt = r43.toInt + u.toInt := zi_add ez53 rfl rfl (by omega) (by omega)
        refine tpk_pos (tp_in hG y1 (by decide)) hf_33 (fun q54 eq54 => ?_)
        refine va_iald hx hb hK hP q54 0 eq54 rfl (vp_in_iff.mpr ⟨by omega, by omega⟩) dX12_landing_44 ?_
        refine lv_topi (fun z55 ez55 => ?_)
        refine lv_goto (tgt := 79) hx hb dX12_landing_45 (by decide) ?_
        exact W.iret (v := z55) hx hb hr (fun t ht hW => ⟨⟨z55, f30, rfl, ⟨hT, hR, trivial, trivial⟩, by rw [ht]; exact hP, va_K.moved hW.alike hK, hD⟩, hS.F ht⟩) hS.2.2 dX12_landing_79
    · have ic41 : r39.toInt = 0 := zi_nef rfl rfl c41
      clear hw40r ic41
      refine lv_iconst (v := (-1)) hx hb dX12_landing_25 (by decide) ?_
      exact W.iret (v := (-1)) hx hb hr (fun t ht hW => ⟨⟨(-1), f30, rfl, ⟨hT, hR, trivial, trivial⟩, by rw [ht]; exact hP, va_K.moved hW.alike hK, hD⟩, hS.F ht⟩) hS.2.2 dX12_landing_26
end
section
set_option maxHeartbeats 4000000 in
set_option maxRecDepth 100000 in
theorem t_X12_led (l : Launch) (dC : Nat → ClassId) (dI : Nat → Nat → Nat) (sz : Nat) (κ : Nat → ClassId) (Θ : Nat → Option Int) (τ ν : Nat → Nat) (ρ : Nat → Nat → Nat) (L : List Nat) (f : Nat → va_E) (hG : tp_G τ ν ρ L) (hT : tp_T (mo_O κ Θ) κ τ ν ρ f) (h0 : Nat) (v : Int32) (u : Int32) (ht_h0 : τ h0 = 13) (hJ : mo_RI (-1) 0 (mo_R (mo_i (f (ρ h0 2))))) : Met l yX12_led wqX12_led ({ frames := 4, cells := 0, slots := 0, locals := 1200 }) (va_Pc [.ref h0, .int v, .int u] (pz_B dC dI (tp_K κ) (va_pl L f) sz)) (va_Qi (fun (r : Int32) (f1 : Nat → va_E) => tp_T (mo_O κ Θ) κ τ ν ρ f1 ∧ tp_F τ [13] f f1 ∧ True ∧ True) (fun (f1 : Nat → va_E) (t : State) => pz_E dC dI (tp_K κ) (va_A (va_pl L f) sz) (va_pl L f1) t) (va_A (va_pl L f) sz)) 0 0 (va_A (va_pl L f) sz) := by
  refine Met.ofW (cc := cX12_led) (maxL := 3) (ret := some .int) (by decide) rfl ?_
  intro p e s m args below meth c s₁ B hml hv
  obtain ⟨rfl, hsz, hP, hK, hD0, hN⟩ := hv
  have hx := B.exec
  have hb := B.bytes
  have hr := B.returns
  have hts := fun (w : Cond) (h : w ∈ WALL) => atoms_spec (ws := wqX12_led) B.pre w (List.mem_cons_of_mem _ h)
  have hown : s.vm.findClass RX12 = some m.cls := findClass_of_methodNamed B.named
  have hlocks := B.notSynchronized
  subst hsz
  have hD := hD0.self (sz := s.heap.size)
  generalize hAe : va_A (va_pl L f) s.heap.size = A at hD ⊢
  have hA : ∀ q : Nat, s.heap.size ≤ q → A q := fun q h => by rw [← hAe]; exact Or.inr h
  have hS : va_S A s.heap s.heap [] := va_S.rf
  have hR : tp_F τ [13] f f := tp_F.rf
  have hl := lv_entry ([.ref h0, .int v, .int u]) (n := 3) (Nat.le_of_ble_eq_true rfl)
  rw [lg_entry_eq]
  generalize (lg_sl ([.ref h0, .int v, .int u]) ++ List.replicate (3 - (lg_sl ([.ref h0, .int v, .int u])).length) Slot.unset).toArray = ls at hl ⊢
  have hl : lv_has ls 3 [(0, .ref h0), (1, .int v), (2, .int u)] := hl
  refine tgk_13 hG ht_h0 (fun y1 y2 y3 y4 y5 y6 y7 y8 y9 y10 y11 y12 y13 y14 y15 y16 y17 y18 y19 y20 y21 y22 y23 y24 y25 => ?_)
  refine tpk_32 hT y1 (fun g27 hf_o26 => ?_)
  have hI : mo_RI (-1) 0 (mo_R g27) := by have q9 := hJ; rw [hf_o26, mo_i1] at q9; exact q9
  refine lv_aload_n hx hb dX12_led_0 rfl (lv_at hl 0 rfl) ?_
  refine lv_iconst (v := 0) hx hb dX12_led_1 (by decide) ?_
  refine tpk_13 hT ht_h0 (fun o28_x0 o28_x1 o28_x7 o28_x9 o28_x10 o28_x11 o28_x12 o28_x13 o28_x14 o28_x15 o28_x16 o28_x17 o28_x18 o28_x19 o28_x20 o28_x22 o28_x25 o28_x28 o28_x29 o28_x32 o28_x33 o28_x34 o28_x35 o28_x36 o28_x37 o28_x38 o28_x47 o28_x48 hf_o28 ro28_0 ro28_1 ro28_2 ro28_3 ro28_4 ro28_5 ro28_6 ro28_7 ro28_8 ro28_9 ro28_10 ro28_11 ro28_12 ro28_13 ro28_14 => ?_)
  refine tpk_pos (tp_in hG ht_h0 (by decide)) hf_o28 (fun q29 eq29 => ?_)
  refine va_put (D := (dC, dI)) (ci := 12) (v := .int 0) (ty := .int) (C := RX12) (T := TX12) (N := 53) hx hb hts hfX12 tyX12 tyX12_ok nmX12 hown hK hP hD hS q29 eq29 rfl 0 (by decide) (hts (.fieldLink RX12 91 "ColdShipsModel" "thrown" "I") wa_209) (fun _ h9 => h9) rfl (tyX12_ok 0 (by decide)) rfl rfl (Nat.le_of_ble_eq_true rfl) dX12_led_2 (tp_k (.inr (12, [.int 0, .int o28_x1, .ref (ρ h0 2), .ref (ρ h0 3), .ref (ρ h0 4), .ref (ρ h0 5), .ref (ρ h0 6), .int o28_x7, .ref (ρ h0 8), .int o28_x9, .int o28_x10, .int o28_x11, .int o28_x12, .long o28_x13, .int o28_x14, .int o28_x15, .int o28_x16, .int o28_x17, .int o28_x18, .int o28_x19, .int o28_x20, .ref (ρ h0 21), .int o28_x22, .ref (ρ h0 23), .ref (ρ h0 24), .int o28_x25, .ref (ρ h0 26), .ref (ρ h0 27), .int o28_x28, .int o28_x29, .ref (ρ h0 30), .ref (ρ h0 31), .int o28_x32, .long o28_x33, .long o28_x34, .long o28_x35, .int o28_x36, .int o28_x37, .int o28_x38, .ref (ρ h0 39), .ref (ρ h0 40), .ref (ρ h0 41), .ref (ρ h0 42), .ref (ρ h0 43), .ref (ρ h0 44), .ref (ρ h0 45), .ref (ρ h0 46), .int o28_x47, .int o28_x48, .ref (ρ h0 49), .ref (ρ h0 50), .ref (ρ h0 51), .ref (ρ h0 52)])) hD (tp_in hG ht_h0 (by decide)) eq29 (fun f30 H locs hP hD hS g32 k31 => ?_))
  have hT := hT.up ht_h0 g32 k31 ⟨_, _, _, _, _, _, _, _, _, _, _, _, _, _, _, _, _, _, _, _, _, _, _, _, _, _, _, _, rfl, ro28_0, ro28_1, ro28_2, ro28_3, ro28_4, ro28_5, ro28_6, ro28_7, ro28_8, ro28_9, ro28_10, ro28_11, ro28_12, ro28_13, ro28_14⟩
  have hR := hR.up ht_h0 (by decide) k31
  refine lv_aload_n hx hb dX12_led_5 rfl (lv_at hl 0 rfl) ?_
  refine lv_iload_n hx hb dX12_led_6 rfl (lv_at hl 1 rfl) ?_
  have hf_33 : f30 (ρ h0 2) = .inl (κ 0, 12967, .inl g27) := (k31 _ (tp_ne y1 ht_h0 (by decide))).trans hf_o26
  refine tpk_pos (tp_in hG ht_h0 (by decide)) g32 (fun q34 eq34 => ?_)
  refine pz_calli (va_runV (As := [.int v]) (rest := []) ⟨hx, hb, hml, hown, hts⟩ (t_X12_isLanding l dC dI _ κ Θ τ ν ρ L f30 hG hT h0 v (-1) 0 ht_h0 (by omega) (by rw [hf_33, mo_i1]; exact hI)) (cwV 1 hts gX12_led_X12_isLanding rfl rfl rfl ⟨rfl, pd_X12_isLanding⟩ ⟨Nat.le_of_ble_eq_true rfl, Nat.le_of_ble_eq_true rfl⟩) ⟨pz_blind, va_recv hK hP (ci := 12) (q0 := q34) rfl eq34, pz_pre hP hK hD hN⟩ rfl rfl hl.1 rfl (lv_room (Nat.le_of_ble_eq_true rfl)) dX12_led_7 ⟨Nat.le_of_ble_eq_true rfl, Nat.le_of_ble_eq_true rfl⟩) (fun r35 hw36 => ?_)
  obtain ⟨hw36r, hw36p⟩ := hw36
  have := hI.k5
  rw [hf_33, mo_i1] at hw36p
  refine lv_if_eq (tgt := 37) hx hb dX12_led_10 (by decide) (fun c37 => ?_) (fun c37 => ?_)
  · have ic37 : r35.toInt = 0 := zi_eq rfl rfl c37
    clear hw36r ic37
    refine lv_iconst (v := (-1)) hx hb dX12_led_37 (by decide) ?_
    exact W.iret (v := (-1)) hx hb hr (fun t ht hW => ⟨⟨(-1), f30, rfl, ⟨hT, hR, trivial, trivial⟩, by rw [ht]; exact hP, va_K.moved hW.alike hK, hD⟩, hS.F ht⟩) hS.2.2 dX12_led_38
  · have ic37 : r35.toInt ≠ 0 := zi_eqf rfl rfl c37
    replace ic37 : 1 ≤ r35.toInt := by omega
    have p38 : 0 ≤ v.toInt ∧ v.toInt < mo_R g27 5 := (tp_cond.yes hw36p) (by omega)
    clear hw36r ic37
    refine lv_aload_n hx hb dX12_led_13 rfl (lv_at hl 0 rfl) ?_
    refine lv_iload_n hx hb dX12_led_14 rfl (lv_at hl 2 rfl) ?_
    refine pz_calli (va_runV (As := [.int u]) (rest := []) ⟨hx, hb, hml, hown, hts⟩ (t_X12_isTerminal l dC dI _ κ Θ τ ν ρ L f30 hG hT h0 u (-1) 0 ht_h0 (by omega) (by rw [hf_33, mo_i1]; exact hI)) (cwV 1 hts gX12_led_X12_isTerminal rfl rfl rfl ⟨rfl, pd_X12_isTerminal⟩ ⟨Nat.le_of_ble_eq_true rfl, Nat.le_of_ble_eq_true rfl⟩) ⟨pz_blind, va_recv hK hP (ci := 12) (q0 := q34) rfl eq34, pz_pre hP hK hD hN⟩ rfl rfl hl.1 rfl (lv_room (Nat.le_of_ble_eq_true rfl)) dX12_led_15 ⟨Nat.le_of_ble_eq_true rfl, Nat.le_of_ble_eq_true rfl⟩) (fun r39 hw40 => ?_)
    obtain ⟨hw40r, hw40p⟩ := hw40
    have := hI.k0
    rw [hf_33, mo_i1] at hw40p
    refine lv_if_eq (tgt := 37) hx hb dX12_led_18 (by decide) (fun c41 => ?_) (fun c41 => ?_)
    · have ic41 : r39.toInt = 0 := zi_eq rfl rfl c41
      clear hw40r ic41
      refine lv_iconst (v := (-1)) hx hb dX12_led_37 (by decide) ?_
      exact W.iret (v := (-1)) hx hb hr (fun t ht hW => ⟨⟨(-1), f30, rfl, ⟨hT, hR, trivial, trivial⟩, by rw [ht]; exact hP, va_K.moved hW.alike hK, hD⟩, hS.F ht⟩) hS.2.2 dX12_led_38
    · have ic41 : r39.toInt ≠ 0 := zi_eqf rfl rfl c41
      replace ic41 : 1 ≤ r39.toInt := by omega
      have p42 : 0 ≤ u.toInt ∧ u.toInt < mo_R g27 0 := (tp_cond.yes hw40p) (by omega)
      clear hw40r ic41
      refine lv_aload_n hx hb dX12_led_21 rfl (lv_at hl 0 rfl) ?_
      refine va_get (D := (dC, dI)) (ci := 12) (v := .ref (ρ h0 2)) (C := RX12) (T := TX12) (N := 53) hx hb hts hfX12 hown hK hP q34 eq34 rfl 2 (by decide) (hts (.fieldLink RX12 7 "ColdShipsModel" "row" "[I") wa_148) (fun _ h9 => h9) rfl dX12_led_22 ?_
      refine lv_iload_n hx hb dX12_led_25 rfl (lv_at hl 1 rfl) ?_
      refine pz_calli (va_runS (As := [.int v]) (rest := [.ref (ρ h0 2)]) ⟨hx, hb, hml, hown, hts⟩ (t_X12_landingAt l dC dI _ v (v.toInt) (by omega) rfl) (va_cwS 1 hts gX12_led_X12_landingAt rfl rfl rfl pd_X12_landingAt ⟨Nat.le_of_ble_eq_true rfl, Nat.le_of_ble_eq_true rfl⟩) ⟨pz_blind, pz_pre pz_P0 (hK.sub (tys' := []) [] rfl) (pz_D0 (A := fun _ => True)) hN⟩ rfl rfl hl.1 rfl (lv_room (Nat.le_of_ble_eq_true rfl)) dX12_led_26 ⟨Nat.le_of_ble_eq_true rfl, Nat.le_of_ble_eq_true rfl⟩) (fun r43 hw44 => ?_)
      obtain ⟨hw44r, hw44p⟩ := hw44
      refine lv_iconst (v := 5) hx hb dX12_led_29 (by decide) ?_
      refine lv_iadd hx hb dX12_led_30 ?_
      refine lv_topi (fun z45 ez45 => ?_)
      have iz45 : z45.toInt = r43.toInt + 5 := zi_add ez45 rfl rfl (by omega) (by omega)
      refine lv_iload_n hx hb dX12_led_31 rfl (lv_at hl 2 rfl) ?_
      refine lv_iadd hx hb dX12_led_32 ?_
      refine lv_topi (fun z46 ez46 => ?_)
      have iz46 : z46.toInt = z45.toInt + u.toInt := zi_add ez46 rfl rfl (by omega) (by omega)
      refine tpk_pos (tp_in hG y1 (by decide)) hf_33 (fun q47 eq47 => ?_)
      refine va_iald hx hb hK hP q47 0 eq47 rfl (vp_in_iff.mpr ⟨by omega, by omega⟩) dX12_led_33 ?_
      refine lv_topi (fun z48 ez48 => ?_)
      refine lv_goto (tgt := 38) hx hb dX12_led_34 (by decide) ?_
      exact W.iret (v := z48) hx hb hr (fun t ht hW => ⟨⟨z48, f30, rfl, ⟨hT, hR, trivial, trivial⟩, by rw [ht]; exact hP, va_K.moved hW.alike hK, hD⟩, hS.F ht⟩) hS.2.2 dX12_led_38
set_option maxHeartbeats 4000000 in
set_option maxRecDepth 100000 in
theorem t_X12_heat (l : Launch) (dC : Nat → ClassId) (dI : Nat → Nat → Nat) (sz : Nat) (κ : Nat → ClassId) (Θ : Nat → Option Int) (τ ν : Nat → Nat) (ρ : Nat → Nat → Nat) (L : List Nat) (f : Nat → va_E) (hG : tp_G τ ν ρ L) (hT : tp_T (mo_O κ Θ) κ τ ν ρ f) (h0 : Nat) (v : Int32) (u : Int32) (ht_h0 : τ h0 = 13) (hJ : mo_RI (-1) 0 (mo_R (mo_i (f (ρ h0 2))))) : Met l yX12_heat wqX12_heat ({ frames := 4, cells := 0, slots := 0, locals := 1200 }) (va_Pc [.ref h0, .int v, .int u] (pz_B dC dI (tp_K κ) (va_pl L f) sz)) (va_Qi (fun (r : Int32) (f1 : Nat → va_E) => tp_T (mo_O κ Θ) κ τ ν ρ f1 ∧ tp_F τ [13, 32] f f1 ∧ True ∧ mo_RI (-1) 0 (mo_R (mo_i (f1 (ρ h0 2)))) ∧ mo_KN (fun k => False) (mo_R (mo_i (f (ρ h0 2)))) (mo_R (mo_i (f1 (ρ h0 2))))) (fun (f1 : Nat → va_E) (t : State) => pz_E dC dI (tp_K κ) (va_A (va_pl L f) sz) (va_pl L f1) t) (va_A (va_pl L f) sz)) 0 0 (va_A (va_pl L f) sz) := by
  refine Met.ofW (cc := cX12_heat) (maxL := 4) (ret := some .int) (by decide) rfl ?_
  intro p e s m args below meth c s₁ B hml hv
  obtain ⟨rfl, hsz, hP, hK, hD0, hN⟩ := hv
  have hx := B.exec
  have hb := B.bytes
  have hr := B.returns
  have hts := fun (w : Cond) (h : w ∈ WALL) => atoms_spec (ws := wqX12_heat) B.pre w (List.mem_cons_of_mem _ h)
  have hown : s.vm.findClass RX12 = some m.cls := findClass_of_methodNamed B.named
  have hlocks := B.notSynchronized
  subst hsz
  have hD := hD0.self (sz := s.heap.size)
  generalize hAe : va_A (va_pl L f) s.heap.size = A at hD ⊢
  have hA : ∀ q : Nat, s.heap.size ≤ q → A q := fun q h => by rw [← hAe]; exact Or.inr h
  have hS : va_S A s.heap s.heap [] := va_S.rf
  have hR : tp_F τ [13, 32] f f := tp_F.rf
  have hl := lv_entry ([.ref h0, .int v, .int u]) (n := 4) (Nat.le_of_ble_eq_true rfl)
  rw [lg_entry_eq]
  generalize (lg_sl ([.ref h0, .int v, .int u]) ++ List.replicate (4 - (lg_sl ([.ref h0, .int v, .int u])).length) Slot.unset).toArray = ls at hl ⊢
  have hl : lv_has ls 4 [(0, .ref h0), (1, .int v), (2, .int u)] := hl
  refine tgk_13 hG ht_h0 (fun y1 y2 y3 y4 y5 y6 y7 y8 y9 y10 y11 y12 y13 y14 y15 y16 y17 y18 y19 y20 y21 y22 y23 y24 y25 => ?_)
  refine tpk_32 hT y1 (fun g27 hf_o26 => ?_)
  have hI : mo_RI (-1) 0 (mo_R g27) := by have q9 := hJ; rw [hf_o26, mo_i1] at q9; exact q9
  have hKN : mo_KN (fun k => False) (mo_R g27) (mo_R g27) := mo_KN.rf
  refine lv_aload_n hx hb dX12_heat_0 rfl (lv_at hl 0 rfl) ?_
  refine lv_iconst (v := 0) hx hb dX12_heat_1 (by decide) ?_
  refine tpk_13 hT ht_h0 (fun o28_x0 o28_x1 o28_x7 o28_x9 o28_x10 o28_x11 o28_x12 o28_x13 o28_x14 o28_x15 o28_x16 o28_x17 o28_x18 o28_x19 o28_x20 o28_x22 o28_x25 o28_x28 o28_x29 o28_x32 o28_x33 o28_x34 o28_x35 o28_x36 o28_x37 o28_x38 o28_x47 o28_x48 hf_o28 ro28_0 ro28_1 ro28_2 ro28_3 ro28_4 ro28_5 ro28_6 ro28_7 ro28_8 ro28_9 ro28_10 ro28_11 ro28_12 ro28_13 ro28_14 => ?_)
  refine tpk_pos (tp_in hG ht_h0 (by decide)) hf_o28 (fun q29 eq29 => ?_)
  refine va_put (D := (dC, dI)) (ci := 12) (v := .int 0) (ty := .int) (C := RX12) (T := TX12) (N := 53) hx hb hts hfX12 tyX12 tyX12_ok nmX12 hown hK hP hD hS q29 eq29 rfl 0 (by decide) (hts (.fieldLink RX12 91 "ColdShipsModel" "thrown" "I") wa_209) (fun _ h9 => h9) rfl (tyX12_ok 0 (by decide)) rfl rfl (Nat.le_of_ble_eq_true rfl) dX12_heat_2 (tp_k (.inr (12, [.int 0, .int o28_x1, .ref (ρ h0 2), .ref (ρ h0 3), .ref (ρ h0 4), .ref (ρ h0 5), .ref (ρ h0 6), .int o28_x7, .ref (ρ h0 8), .int o28_x9, .int o28_x10, .int o28_x11, .int o28_x12, .long o28_x13, .int o28_x14, .int o28_x15, .int o28_x16, .int o28_x17, .int o28_x18, .int o28_x19, .int o28_x20, .ref (ρ h0 21), .int o28_x22, .ref (ρ h0 23), .ref (ρ h0 24), .int o28_x25, .ref (ρ h0 26), .ref (ρ h0 27), .int o28_x28, .int o28_x29, .ref (ρ h0 30), .ref (ρ h0 31), .int o28_x32, .long o28_x33, .long o28_x34, .long o28_x35, .int o28_x36, .int o28_x37, .int o28_x38, .ref (ρ h0 39), .ref (ρ h0 40), .ref (ρ h0 41), .ref (ρ h0 42), .ref (ρ h0 43), .ref (ρ h0 44), .ref (ρ h0 45), .ref (ρ h0 46), .int o28_x47, .int o28_x48, .ref (ρ h0 49), .ref (ρ h0 50), .ref (ρ h0 51), .ref (ρ h0 52)])) hD (tp_in hG ht_h0 (by decide)) eq29 (fun f30 H locs hP hD hS g32 k31 => ?_))
  have hT := hT.up ht_h0 g32 k31 ⟨_, _, _, _, _, _, _, _, _, _, _, _, _, _, _, _, _, _, _, _, _, _, _, _, _, _, _, _, rfl, ro28_0, ro28_1, ro28_2, ro28_3, ro28_4, ro28_5, ro28_6, ro28_7, ro28_8, ro28_9, ro28_10, ro28_11, ro28_12, ro28_13, ro28_14⟩
  have hR := hR.up ht_h0 (by decide) k31
  refine lv_iload_n hx hb dX12_heat_5 rfl (lv_at hl 2 rfl) ?_
  refine lv_i2l hx hb dX12_heat_6 rfl ?_
  refine lv_ldc2 (own := RX12) (v := 500) hx hb hown (hts (.constantLong RX12 248 (500)) wa_728) dX12_heat_7 ?_
  refine lv_ldc2 (own := RX12) (v := 2000) hx hb hown (hts (.constantLong RX12 250 (2000)) wa_729) dX12_heat_10 ?_
  have hf_33 : f30 (ρ h0 2) = .inl (κ 0, 12967, .inl g27) := (k31 _ (tp_ne y1 ht_h0 (by decide))).trans hf_o26
  refine pz_calli (va_runS (As := [.long u.toInt64, .long 500, .long 2000]) (rest := []) ⟨hx, hb, hml, hown, hts⟩ (t_X12_in l dC dI _ u.toInt64 (500) (2000) (u.toInt) (500) (2000) (Int32.toInt_toInt64 u) rfl rfl) (va_cwS 3 hts gX12_heat_X12_in rfl rfl rfl pd_X12_in ⟨Nat.le_of_ble_eq_true rfl, Nat.le_of_ble_eq_true rfl⟩) ⟨pz_blind, pz_pre pz_P0 (hK.sub (tys' := []) [] rfl) (pz_D0 (A := fun _ => True)) hN⟩ rfl rfl hl.1 rfl (lv_room (Nat.le_of_ble_eq_true rfl)) dX12_heat_13 ⟨Nat.le_of_ble_eq_true rfl, Nat.le_of_ble_eq_true rfl⟩) (fun r34 hw35 => ?_)
  obtain ⟨hw35r, hw35p⟩ := hw35
  refine lv_if_ne (tgt := 25) hx hb dX12_heat_16 (by decide) (fun c36 => ?_) (fun c36 => ?_)
  · have ic36 : r34.toInt ≠ 0 := zi_ne rfl rfl c36
    replace ic36 : 1 ≤ r34.toInt := by omega
    have p37 : (500) ≤ (u.toInt) ∧ (u.toInt) ≤ (2000) := (tp_cond.yes hw35p) (by omega)
    clear hw35r ic36
    refine lv_aload_n hx hb dX12_heat_25 rfl (lv_at hl 0 rfl) ?_
    refine lv_iload_n hx hb dX12_heat_26 rfl (lv_at hl 1 rfl) ?_
    refine tpk_pos (tp_in hG ht_h0 (by decide)) g32 (fun q38 eq38 => ?_)
    refine pz_calli (va_runV (As := [.int v]) (rest := []) ⟨hx, hb, hml, hown, hts⟩ (t_X12_isTerminal l dC dI _ κ Θ τ ν ρ L f30 hG hT h0 v (-1) 0 ht_h0 (by omega) (by rw [hf_33, mo_i1]; exact hI)) (cwV 1 hts gX12_heat_X12_isTerminal rfl rfl rfl ⟨rfl, pd_X12_isTerminal⟩ ⟨Nat.le_of_ble_eq_true rfl, Nat.le_of_ble_eq_true rfl⟩) ⟨pz_blind, va_recv hK hP (ci := 12) (q0 := q38) rfl eq38, pz_pre hP hK hD hN⟩ rfl rfl hl.1 rfl (lv_room (Nat.le_of_ble_eq_true rfl)) dX12_heat_27 ⟨Nat.le_of_ble_eq_true rfl, Nat.le_of_ble_eq_true rfl⟩) (fun r39 hw40 => ?_)
    obtain ⟨hw40r, hw40p⟩ := hw40
    have := hI.k0
    rw [hf_33, mo_i1] at hw40p
    refine lv_if_ne (tgt := 40) hx hb dX12_heat_30 (by decide) (fun c41 => ?_) (fun c41 => ?_)
    · have ic41 : r39.toInt ≠ 0 := zi_ne rfl rfl c41
      replace ic41 : 1 ≤ r39.toInt := by omega
      have p42 : 0 ≤ v.toInt ∧ v.toInt < mo_R g27 0 := (tp_cond.yes hw40p) (by omega)
      clear hw40r ic41
      refine lv_aload_n hx hb dX12_heat_40 rfl (lv_at hl 0 rfl) ?_
      refine va_get (D := (dC, dI)) (ci := 12) (v := .ref (ρ h0 2)) (C := RX12) (T := TX12) (N := 53) hx hb hts hfX12 hown hK hP q38 eq38 rfl 2 (by decide) (hts (.fieldLink RX12 7 "ColdShipsModel" "row" "[I") wa_148) (fun _ h9 => h9) rfl dX12_heat_41 ?_
      refine lv_iload_n hx hb dX12_heat_44 rfl (lv_at hl 1 rfl) ?_
      refine pz_calli (va_runS (As := [.int v]) (rest := [.ref (ρ h0 2)]) ⟨hx, hb, hml, hown, hts⟩ (t_X12_terminalAt l dC dI _ v (v.toInt) (by omega) rfl) (va_cwS 1 hts gX12_heat_X12_terminalAt rfl rfl rfl pd_X12_terminalAt ⟨Nat.le_of_ble_eq_true rfl, Nat.le_of_ble_eq_true rfl⟩) ⟨pz_blind, pz_pre pz_P0 (hK.sub (tys' := []) [] rfl) (pz_D0 (A := fun _ => True)) hN⟩ rfl rfl hl.1 rfl (lv_room (Nat.le_of_ble_eq_true rfl)) dX12_heat_45 ⟨Nat.le_of_ble_eq_true rfl, Nat.le_of_ble_eq_true rfl⟩) (fun r43 hw44 => ?_)
      obtain ⟨hw44r, hw44p⟩ := hw44
      refine lv_iconst (v := 4) hx hb dX12_heat_48 (by decide) ?_
      refine lv_iadd hx hb dX12_heat_49 ?_
      refine lv_topi (fun z45 ez45 => ?_)
      have iz45 : z45.toInt = r43.toInt + 4 := zi_add ez45 rfl rfl (by omega) (by omega)
      refine tpk_pos (tp_in hG y1 (by decide)) hf_33 (fun q46 eq46 => ?_)
      refine va_iald hx hb hK hP q46 0 eq46 rfl (vp_in_iff.mpr ⟨by omega, by omega⟩) dX12_heat_50 ?_
      refine lv_topi (fun z47 ez47 => ?_)
      refine lv_istore_n (lv' := [(3, .int z47), (0, .ref h0), (1, .int v), (2, .int u)]) hx hb dX12_heat_51 rfl hl (by decide) rfl (fun ls hl => ?_)
      refine lv_aload_n hx hb dX12_heat_52 rfl (lv_at hl 1 rfl) ?_
      refine va_get (D := (dC, dI)) (ci := 12) (v := .ref (ρ h0 2)) (C := RX12) (T := TX12) (N := 53) hx hb hts hfX12 hown hK hP q38 eq38 rfl 2 (by decide) (hts (.fieldLink RX12 7 "ColdShipsModel" "row" "[I") wa_148) (fun _ h9 => h9) rfl dX12_heat_53 ?_
      refine lv_iload_n hx hb dX12_heat_56 rfl (lv_at hl 2 rfl) ?_
      refine pz_calli (va_runS (As := [.int v]) (rest := [.ref (ρ h0 2)]) ⟨hx, hb, hml, hown, hts⟩ (t_X12_terminalAt l dC dI _ v (v.toInt) (by omega) rfl) (va_cwS 1 hts gX12_heat_X12_terminalAt rfl rfl rfl pd_X12_terminalAt ⟨Nat.le_of_ble_eq_true rfl, Nat.le_of_ble_eq_true rfl⟩) ⟨pz_blind, pz_pre pz_P0 (hK.sub (tys' := []) [] rfl) (pz_D0 (A := fun _ => True)) hN⟩ rfl rfl hl.1 rfl (lv_room (Nat.le_of_ble_eq_true rfl)) dX12_heat_57 ⟨Nat.le_of_ble_eq_true rfl, Nat.le_of_ble_eq_true rfl⟩) (fun r48 hw49 => ?_)
      obtain ⟨hw49r, hw49p⟩ := hw49
      refine lv_iconst (v := 4) hx hb dX12_heat_60 (by decide) ?_
      refine lv_iadd hx hb dX12_heat_61 ?_
      refine lv_topi (fun z50 ez50 => ?_)
      have iz50 : z50.toInt = r48.toInt + 4 := zi_add ez50 rfl rfl (by omega) (by omega)
      refine lv_iload_n hx hb dX12_heat_62 rfl (lv_at hl 3 rfl) ?_
      refine va_iast hx hb hK hP hD hS q46 0 eq46 rfl (vp_in_iff.mpr ⟨by omega, by omega⟩) dX12_heat_63 (tp_k (.inl (κ 0, 12967, .inl (upd g27 z50.toNatClampNeg u))) hD (tp_in hG y1 (by decide)) eq46 (fun f51 H locs hP hD hS g53 k52 => ?_))
      have hT := hT.up y1 g53 k52 tp_o32
      have hR := hR.up y1 (by decide) k52
      have hU : mo_U (mo_R g27) (mo_R (upd g27 z50.toNatClampNeg u)) (20 + 5 * v.toInt + 4) (u.toInt) := mo_up (by omega) (rfl : u.toInt = _) (by omega)
      generalize (upd g27 z50.toNatClampNeg u) = g54 at g53 hU
      have hI := mo_w_term hI hU v.toInt 4 (by omega) (by omega) (by omega)
      have hKN := hKN.up hU (Or.inl (by omega))
      refine lv_aload_n hx hb dX12_heat_64 rfl (lv_at hl 1 rfl) ?_
      refine lv_iload_n hx hb dX12_heat_65 rfl (lv_at hl 0 rfl) ?_
      have hf_55 : f51 h0 = .inr (12, [.int 0, .int o28_x1, .ref (ρ h0 2), .ref (ρ h0 3), .ref (ρ h0 4), .ref (ρ h0 5), .ref (ρ h0 6), .int o28_x7, .ref (ρ h0 8), .int o28_x9, .int o28_x10, .int o28_x11, .int o28_x12, .long o28_x13, .int o28_x14, .int o28_x15, .int o28_x16, .int o28_x17, .int o28_x18, .int o28_x19, .int o28_x20, .ref (ρ h0 21), .int o28_x22, .ref (ρ h0 23), .ref (ρ h0 24), .int o28_x25, .ref (ρ h0 26), .ref (ρ h0 27), .int o28_x28, .int o28_x29, .ref (ρ h0 30), .ref (ρ h0 31), .int o28_x32, .long o28_x33, .long o28_x34, .long o28_x35, .int o28_x36, .int o28_x37, .int o28_x38, .ref (ρ h0 39), .ref (ρ h0 40), .ref (ρ h0 41), .ref (ρ h0 42), .ref (ρ h0 43), .ref (ρ h0 44), .ref (ρ h0 45), .ref (ρ h0 46), .int o28_x47, .int o28_x48, .ref (ρ h0 49), .ref (ρ h0 50), .ref (ρ h0 51), .ref (ρ h0 52)]) := (k52 _ (tp_ne ht_h0 y1 (by decide))).trans g32
      refine tpk_pos (tp_in hG ht_h0 (by decide)) hf_55 (fun q56 eq56 => ?_)
      have hFc := tp_fr hD hS hA
      refine va_calli (va_runV (As := [.int z47]) (rest := []) ⟨hx, hb, hml, hown, hts⟩ (t_X12_told l dC dI _ κ Θ τ ν ρ L f51 hG hT h0 z47 ht_h0) (cwV 1 hts gX12_heat_X12_told rfl rfl rfl ⟨rfl, pd_X12_told⟩ ⟨Nat.le_of_ble_eq_true rfl, Nat.le_of_ble_eq_true rfl⟩) ⟨pz_blind, va_recv hK hP (ci := 12) (q0 := q56) rfl eq56, pz_pre hP hK hD hN⟩ rfl rfl hl.1 rfl (lv_room (Nat.le_of_ble_eq_true rfl)) dX12_heat_66 ⟨Nat.le_of_ble_eq_true rfl, Nat.le_of_ble_eq_true rfl⟩) hS (fun q _ h => hFc q h) hFc (fun r57 f59 t H1 locs ht hvm hw58 hB hz1 hk1 hS => ?_)
      refine tn_4 hw58 (fun hT hF60 hw58r hw58p => ?_); clear hw58
      have hR := hR.then hF60 (by decide)
      have hP := hB.1; rw [ht] at hP; have hD := tp_ad f59 hD; clear hB hFc hz1 hk1; subst ht; generalize t.heap = H at hP hS ⊢
      have hw58pq : r57.toInt = z47.toInt := by rw [hw58p]
      have hf_61 : f59 (ρ h0 2) = .inl (κ 0, 12967, .inl g54) := (hF60 _ (by rw [tp_iu y1]; decide)).trans g53
      exact W.iret (v := r57) hx hb hr (fun t ht hW => ⟨⟨r57, f59, rfl, ⟨hT, hR, trivial, ⟨(by rw [hf_61, mo_i1]; exact hI), (by rw [hf_61, mo_i1, hf_o26, mo_i1]; exact hKN)⟩⟩, by rw [ht]; exact hP, va_K.moved hW.alike hK, hD⟩, hS.F ht⟩) hS.2.2 dX12_heat_69
    · have ic41 : r39.toInt = 0 := zi_nef rfl rfl c41
      clear hw40r ic41
      refine lv_aload_n hx hb dX12_heat_33 rfl (lv_at hl 0 rfl) ?_
      refine lv_bipush (v := (-2)) hx hb dX12_heat_34 (by decide) ?_
      have hFc := tp_fr hD hS hA
      refine va_calli (va_runV (As := [.int (-2)]) (rest := []) ⟨hx, hb, hml, hown, hts⟩ (t_X12_told l dC dI _ κ Θ τ ν ρ L f30 hG hT h0 ((-2)) ht_h0) (cwV 1 hts gX12_heat_X12_told rfl rfl rfl ⟨rfl, pd_X12_told⟩ ⟨Nat.le_of_ble_eq_true rfl, Nat.le_of_ble_eq_true rfl⟩) ⟨pz_blind, va_recv hK hP (ci := 12) (q0 := q38) rfl eq38, pz_pre hP hK hD hN⟩ rfl rfl hl.1 rfl (lv_room (Nat.le_of_ble_eq_true rfl)) dX12_heat_36 ⟨Nat.le_of_ble_eq_true rfl, Nat.le_of_ble_eq_true rfl⟩) hS (fun q _ h => hFc q h) hFc (fun r62 f64 t H1 locs ht hvm hw63 hB hz1 hk1 hS => ?_)
      refine tn_4 hw63 (fun hT hF65 hw63r hw63p => ?_); clear hw63
      have hR := hR.then hF65 (by decide)
      have hP := hB.1; rw [ht] at hP; have hD := tp_ad f64 hD; clear hB hFc hz1 hk1; subst ht; generalize t.heap = H at hP hS ⊢
      have hw63pq : r62.toInt = (-2) := by rw [hw63p]; rfl
      have hf_66 : f64 (ρ h0 2) = .inl (κ 0, 12967, .inl g27) := (hF65 _ (by rw [tp_iu y1]; decide)).trans hf_33
      exact W.iret (v := r62) hx hb hr (fun t ht hW => ⟨⟨r62, f64, rfl, ⟨hT, hR, trivial, ⟨(by rw [hf_66, mo_i1]; exact hI), (by rw [hf_66, mo_i1, hf_o26, mo_i1]; exact hKN)⟩⟩, by rw [ht]; exact hP, va_K.moved hW.alike hK, hD⟩, hS.F ht⟩) hS.2.2 dX12_heat_39
  · have ic36 : r34.toInt = 0 := zi_nef rfl rfl c36
    clear hw35r ic36
    refine lv_aload_n hx hb dX12_heat_19 rfl (lv_at hl 0 rfl) ?_
    refine lv_iconst (v := (-1)) hx hb dX12_heat_20 (by decide) ?_
    refine tpk_pos (tp_in hG ht_h0 (by decide)) g32 (fun q67 eq67 => ?_)
    have hFc := tp_fr hD hS hA
    refine va_calli (va_runV (As := [.int (-1)]) (rest := []) ⟨hx, hb, hml, hown, hts⟩ (t_X12_told l dC dI _ κ Θ τ ν ρ L f30 hG hT h0 ((-1)) ht_h0) (cwV 1 hts gX12_heat_X12_told rfl rfl rfl ⟨rfl, pd_X12_told⟩ ⟨Nat.le_of_ble_eq_true rfl, Nat.le_of_ble_eq_true rfl⟩) ⟨pz_blind, va_recv hK hP (ci := 12) (q0 := q67) rfl eq67, pz_pre hP hK hD hN⟩ rfl rfl hl.1 rfl (lv_room (Nat.le_of_ble_eq_true rfl)) dX12_heat_21 ⟨Nat.le_of_ble_eq_true rfl, Nat.le_of_ble_eq_true rfl⟩) hS (fun q _ h => hFc q h) hFc (fun r68 f70 t H1 locs ht hvm hw69 hB hz1 hk1 hS => ?_)
    refine tn_4 hw69 (fun hT hF71 hw69r hw69p => ?_); clear hw69
    have hR := hR.then hF71 (by decide)
    have hP := hB.1; rw [ht] at hP; have hD := tp_ad f70 hD; clear hB hFc hz1 hk1; subst ht; generalize t.heap = H at hP hS ⊢
    have hw69pq : r68.toInt = (-1) := by rw [hw69p]; rfl
    have hf_72 : f70 (ρ h0 2) = .inl (κ 0, 12967, .inl g27) := (hF71 _ (by rw [tp_iu y1]; decide)).trans hf_33
    exact W.iret (v := r68) hx hb hr (fun t ht hW => ⟨⟨r68, f70, rfl, ⟨hT, hR, trivial, ⟨(by rw [hf_72, mo_i1]; exact hI), (by rw [hf_72, mo_i1, hf_o26, mo_i1]; exact hKN)⟩⟩, by rw [ht]; exact hP, va_K.moved hW.alike hK, hD⟩, hS.F ht⟩) hS.2.2 dX12_heat_24
set_option maxHeartbeats 4000000 in
set_option maxRecDepth 100000 in
theorem t_X12_price (l : Launch) (dC : Nat → ClassId) (dI : Nat → Nat → Nat) (sz : Nat) (κ : Nat → ClassId) (Θ : Nat → Option Int) (τ ν : Nat → Nat) (ρ : Nat → Nat → Nat) (L : List Nat) (f : Nat → va_E) (hG : tp_G τ ν ρ L) (hT : tp_T (mo_O κ Θ) κ τ ν ρ f) (h0 : Nat) (v : Int32) (u : Int32) (a : Int32) (ht_h0 : τ h0 = 13) (hJ : mo_RI (-1) 0 (mo_R (mo_i (f (ρ h0 2))))) : Met l yX12_price wqX12_price ({ frames := 4, cells := 0, slots := 0, locals := 1200 }) (va_Pc [.ref h0, .int v, .int u, .int a] (pz_B dC dI (tp_K κ) (va_pl L f) sz)) (va_Qi (fun (r : Int32) (f1 : Nat → va_E) => tp_T (mo_O κ Θ) κ τ ν ρ f1 ∧ tp_F τ [13, 32] f f1 ∧ True ∧ mo_RI (-1) 0 (mo_R (mo_i (f1 (ρ h0 2)))) ∧ mo_KN (fun k => k = 6) (mo_R (mo_i (f (ρ h0 2)))) (mo_R (mo_i (f1 (ρ h0 2)))) ∧ ((((¬ ((0 ≤ v.toInt ∧ v.toInt ≤ 99) ∧ (0 ≤ u.toInt ∧ u.toInt ≤ 10000) ∧ (0 ≤ a.toInt ∧ a.toInt ≤ 2399))) → r.toInt = -1) ∧ (¬ (¬ ((0 ≤ v.toInt ∧ v.toInt ≤ 99) ∧ (0 ≤ u.toInt ∧ u.toInt ≤ 10000) ∧ (0 ≤ a.toInt ∧ a.toInt ≤ 2399))) → ((((mo_R (mo_i (f (ρ h0 2)))) (6) = 60) → r.toInt = -5) ∧ (¬ ((mo_R (mo_i (f (ρ h0 2)))) (6) = 60) → r.toInt = (mo_R (mo_i (f (ρ h0 2)))) (6) + 1))))) ∧ ((((¬ ((0 ≤ v.toInt ∧ v.toInt ≤ 99) ∧ (0 ≤ u.toInt ∧ u.toInt ≤ 10000) ∧ (0 ≤ a.toInt ∧ a.toInt ≤ 2399))) → (mo_R (mo_i (f1 (ρ h0 2)))) (6) = (mo_R (mo_i (f (ρ h0 2)))) (6)) ∧ (¬ (¬ ((0 ≤ v.toInt ∧ v.toInt ≤ 99) ∧ (0 ≤ u.toInt ∧ u.toInt ≤ 10000) ∧ (0 ≤ a.toInt ∧ a.toInt ≤ 2399))) → ((((mo_R (mo_i (f (ρ h0 2)))) (6) = 60) → (mo_R (mo_i (f1 (ρ h0 2)))) (6) = (mo_R (mo_i (f (ρ h0 2)))) (6)) ∧ (¬ ((mo_R (mo_i (f (ρ h0 2)))) (6) = 60) → (mo_R (mo_i (f1 (ρ h0 2)))) (6) = (mo_R (mo_i (f (ρ h0 2)))) (6) + 1)))))) (fun (f1 : Nat → va_E) (t : State) => pz_E dC dI (tp_K κ) (va_A (va_pl L f) sz) (va_pl L f1) t) (va_A (va_pl L f) sz)) 0 0 (va_A (va_pl L f) sz) := by
  refine Met.ofW (cc := cX12_price) (maxL := 5) (ret := some .int) (by decide) rfl ?_
  intro p e s m args below meth c s₁ B hml hv
  obtain ⟨rfl, hsz, hP, hK, hD0, hN⟩ := hv
  have hx := B.exec
  have hb := B.bytes
  have hr := B.returns
  have hts := fun (w : Cond) (h : w ∈ WALL) => atoms_spec (ws := wqX12_price) B.pre w (List.mem_cons_of_mem _ h)
  have hown : s.vm.findClass RX12 = some m.cls := findClass_of_methodNamed B.named
  have hlocks := B.notSynchronized
  subst hsz
  have hD := hD0.self (sz := s.heap.size)
  generalize hAe : va_A (va_pl L f) s.heap.size = A at hD ⊢
  have hA : ∀ q : Nat, s.heap.size ≤ q → A q := fun q h => by rw [← hAe]; exact Or.inr h
  have hS : va_S A s.heap s.heap [] := va_S.rf
  have hR : tp_F τ [13, 32] f f := tp_F.rf
  have hl := lv_entry ([.ref h0, .int v, .int u, .int a]) (n := 5) (Nat.le_of_ble_eq_true rfl)
  rw [lg_entry_eq]
  generalize (lg_sl ([.ref h0, .int v, .int u, .int a]) ++ List.replicate (5 - (lg_sl ([.ref h0, .int v, .int u, .int a])).length) Slot.unset).toArray = ls at hl ⊢
  have hl : lv_has ls 5 [(0, .ref h0), (1, .int v), (2, .int u), (3, .int a)] := hl
  refine tgk_13 hG ht_h0 (fun y1 y2 y3 y4 y5 y6 y7 y8 y9 y10 y11 y12 y13 y14 y15 y16 y17 y18 y19 y20 y21 y22 y23 y24 y25 => ?_)
  refine tpk_32 hT y1 (fun g27 hf_o26 => ?_)
  have hI : mo_RI (-1) 0 (mo_R g27) := by have q9 := hJ; rw [hf_o26, mo_i1] at q9; exact q9
  have hKN : mo_KN (fun k => k = 6) (mo_R g27) (mo_R g27) := mo_KN.rf
  refine lv_aload_n hx hb dX12_price_0 rfl (lv_at hl 0 rfl) ?_
  refine lv_iconst (v := 0) hx hb dX12_price_1 (by decide) ?_
  refine tpk_13 hT ht_h0 (fun o28_x0 o28_x1 o28_x7 o28_x9 o28_x10 o28_x11 o28_x12 o28_x13 o28_x14 o28_x15 o28_x16 o28_x17 o28_x18 o28_x19 o28_x20 o28_x22 o28_x25 o28_x28 o28_x29 o28_x32 o28_x33 o28_x34 o28_x35 o28_x36 o28_x37 o28_x38 o28_x47 o28_x48 hf_o28 ro28_0 ro28_1 ro28_2 ro28_3 ro28_4 ro28_5 ro28_6 ro28_7 ro28_8 ro28_9 ro28_10 ro28_11 ro28_12 ro28_13 ro28_14 => ?_)
  refine tpk_pos (tp_in hG ht_h0 (by decide)) hf_o28 (fun q29 eq29 => ?_)
  refine va_put (D := (dC, dI)) (ci := 12) (v := .int 0) (ty := .int) (C := RX12) (T := TX12) (N := 53) hx hb hts hfX12 tyX12 tyX12_ok nmX12 hown hK hP hD hS q29 eq29 rfl 0 (by decide) (hts (.fieldLink RX12 91 "ColdShipsModel" "thrown" "I") wa_209) (fun _ h9 => h9) rfl (tyX12_ok 0 (by decide)) rfl rfl (Nat.le_of_ble_eq_true rfl) dX12_price_2 (tp_k (.inr (12, [.int 0, .int o28_x1, .ref (ρ h0 2), .ref (ρ h0 3), .ref (ρ h0 4), .ref (ρ h0 5), .ref (ρ h0 6), .int o28_x7, .ref (ρ h0 8), .int o28_x9, .int o28_x10, .int o28_x11, .int o28_x12, .long o28_x13, .int o28_x14, .int o28_x15, .int o28_x16, .int o28_x17, .int o28_x18, .int o28_x19, .int o28_x20, .ref (ρ h0 21), .int o28_x22, .ref (ρ h0 23), .ref (ρ h0 24), .int o28_x25, .ref (ρ h0 26), .ref (ρ h0 27), .int o28_x28, .int o28_x29, .ref (ρ h0 30), .ref (ρ h0 31), .int o28_x32, .long o28_x33, .long o28_x34, .long o28_x35, .int o28_x36, .int o28_x37, .int o28_x38, .ref (ρ h0 39), .ref (ρ h0 40), .ref (ρ h0 41), .ref (ρ h0 42), .ref (ρ h0 43), .ref (ρ h0 44), .ref (ρ h0 45), .ref (ρ h0 46), .int o28_x47, .int o28_x48, .ref (ρ h0 49), .ref (ρ h0 50), .ref (ρ h0 51), .ref (ρ h0 52)])) hD (tp_in hG ht_h0 (by decide)) eq29 (fun f30 H locs hP hD hS g32 k31 => ?_))
  have hT := hT.up ht_h0 g32 k31 ⟨_, _, _, _, _, _, _, _, _, _, _, _, _, _, _, _, _, _, _, _, _, _, _, _, _, _, _, _, rfl, ro28_0, ro28_1, ro28_2, ro28_3, ro28_4, ro28_5, ro28_6, ro28_7, ro28_8, ro28_9, ro28_10, ro28_11, ro28_12, ro28_13, ro28_14⟩
  have hR := hR.up ht_h0 (by decide) k31
  refine lv_iload_n hx hb dX12_price_5 rfl (lv_at hl 1 rfl) ?_
  have hf_33 : f30 (ρ h0 2) = .inl (κ 0, 12967, .inl g27) := (k31 _ (tp_ne y1 ht_h0 (by decide))).trans hf_o26
  refine pz_calli (va_runS (As := [.int v]) (rest := []) ⟨hx, hb, hml, hown, hts⟩ (t_X12_isDay l dC dI _ v (v.toInt) rfl) (va_cwS 1 hts gX12_price_X12_isDay rfl rfl rfl pd_X12_isDay ⟨Nat.le_of_ble_eq_true rfl, Nat.le_of_ble_eq_true rfl⟩) ⟨pz_blind, pz_pre pz_P0 (hK.sub (tys' := []) [] rfl) (pz_D0 (A := fun _ => True)) hN⟩ rfl rfl hl.1 rfl (lv_room (Nat.le_of_ble_eq_true rfl)) dX12_price_6 ⟨Nat.le_of_ble_eq_true rfl, Nat.le_of_ble_eq_true rfl⟩) (fun r34 hw35 => ?_)
  obtain ⟨hw35r, hw35p⟩ := hw35
  refine lv_if_eq (tgt := 31) hx hb dX12_price_9 (by decide) (fun c36 => ?_) (fun c36 => ?_)
  · have ic36 : r34.toInt = 0 := zi_eq rfl rfl c36
    have p37 : ¬ (0 ≤ (v.toInt) ∧ (v.toInt) ≤ 99) := (tp_cond.no hw35p) (by omega)
    clear hw35r ic36
    refine lv_aload_n hx hb dX12_price_31 rfl (lv_at hl 0 rfl) ?_
    refine lv_iconst (v := (-1)) hx hb dX12_price_32 (by decide) ?_
    refine tpk_pos (tp_in hG ht_h0 (by decide)) g32 (fun q38 eq38 => ?_)
    have hFc := tp_fr hD hS hA
    refine va_calli (va_runV (As := [.int (-1)]) (rest := []) ⟨hx, hb, hml, hown, hts⟩ (t_X12_told l dC dI _ κ Θ τ ν ρ L f30 hG hT h0 ((-1)) ht_h0) (cwV 1 hts gX12_price_X12_told rfl rfl rfl ⟨rfl, pd_X12_told⟩ ⟨Nat.le_of_ble_eq_true rfl, Nat.le_of_ble_eq_true rfl⟩) ⟨pz_blind, va_recv hK hP (ci := 12) (q0 := q38) rfl eq38, pz_pre hP hK hD hN⟩ rfl rfl hl.1 rfl (lv_room (Nat.le_of_ble_eq_true rfl)) dX12_price_33 ⟨Nat.le_of_ble_eq_true rfl, Nat.le_of_ble_eq_true rfl⟩) hS (fun q _ h => hFc q h) hFc (fun r39 f41 t H1 locs ht hvm hw40 hB hz1 hk1 hS => ?_)
    refine tn_4 hw40 (fun hT hF42 hw40r hw40p => ?_); clear hw40
    have hR := hR.then hF42 (by decide)
    have hP := hB.1; rw [ht] at hP; have hD := tp_ad f41 hD; clear hB hFc hz1 hk1; subst ht; generalize t.heap = H at hP hS ⊢
    have hw40pq : r39.toInt = (-1) := by rw [hw40p]; rfl
    have hf_43 : f41 (ρ h0 2) = .inl (κ 0, 12967, .inl g27) := (hF42 _ (by rw [tp_iu y1]; decide)).trans hf_33
    exact W.iret (v := r39) hx hb hr (fun t ht hW => ⟨⟨r39, f41, rfl, ⟨hT, hR, trivial, ⟨(by rw [hf_43, mo_i1]; exact hI), (by rw [hf_43, mo_i1, hf_o26, mo_i1]; exact hKN), (by simp only [hf_43, hf_o26, mo_i1]; exact ⟨⟨fun q0 => by omega, fun q0 => ⟨fun q1 => by omega, fun q1 => (by omega)⟩⟩, ⟨fun q0 => by omega, fun q0 => ⟨fun q1 => by omega, fun q1 => (by omega)⟩⟩⟩)⟩⟩, by rw [ht]; exact hP, va_K.moved hW.alike hK, hD⟩, hS.F ht⟩) hS.2.2 dX12_price_36
  · have ic36 : r34.toInt ≠ 0 := zi_eqf rfl rfl c36
    replace ic36 : 1 ≤ r34.toInt := by omega
    have p44 : 0 ≤ (v.toInt) ∧ (v.toInt) ≤ 99 := (tp_cond.yes hw35p) (by omega)
    clear hw35r ic36
    refine lv_iload_n hx hb dX12_price_12 rfl (lv_at hl 2 rfl) ?_
    refine lv_i2l hx hb dX12_price_13 rfl ?_
    refine lv_lconst (v := 0) hx hb dX12_price_14 (by decide) ?_
    refine lv_ldc2 (own := RX12) (v := 10000) hx hb hown (hts (.constantLong RX12 111 (10000)) wa_211) dX12_price_15 ?_
    refine pz_calli (va_runS (As := [.long u.toInt64, .long 0, .long 10000]) (rest := []) ⟨hx, hb, hml, hown, hts⟩ (t_X12_in l dC dI _ u.toInt64 (0) (10000) (u.toInt) (0) (10000) (Int32.toInt_toInt64 u) rfl rfl) (va_cwS 3 hts gX12_price_X12_in rfl rfl rfl pd_X12_in ⟨Nat.le_of_ble_eq_true rfl, Nat.le_of_ble_eq_true rfl⟩) ⟨pz_blind, pz_pre pz_P0 (hK.sub (tys' := []) [] rfl) (pz_D0 (A := fun _ => True)) hN⟩ rfl rfl hl.1 rfl (lv_room (Nat.le_of_ble_eq_true rfl)) dX12_price_18 ⟨Nat.le_of_ble_eq_true rfl, Nat.le_of_ble_eq_true rfl⟩) (fun r45 hw46 => ?_)
    obtain ⟨hw46r, hw46p⟩ := hw46
    refine lv_if_eq (tgt := 31) hx hb dX12_price_21 (by decide) (fun c47 => ?_) (fun c47 => ?_)
    · have ic47 : r45.toInt = 0 := zi_eq rfl rfl c47
      have p48 : ¬ ((0) ≤ (u.toInt) ∧ (u.toInt) ≤ (10000)) := (tp_cond.no hw46p) (by omega)
      clear hw46r ic47
      refine lv_aload_n hx hb dX12_price_31 rfl (lv_at hl 0 rfl) ?_
      refine lv_iconst (v := (-1)) hx hb dX12_price_32 (by decide) ?_
      refine tpk_pos (tp_in hG ht_h0 (by decide)) g32 (fun q49 eq49 => ?_)
      have hFc := tp_fr hD hS hA
      refine va_calli (va_runV (As := [.int (-1)]) (rest := []) ⟨hx, hb, hml, hown, hts⟩ (t_X12_told l dC dI _ κ Θ τ ν ρ L f30 hG hT h0 ((-1)) ht_h0) (cwV 1 hts gX12_price_X12_told rfl rfl rfl ⟨rfl, pd_X12_told⟩ ⟨Nat.le_of_ble_eq_true rfl, Nat.le_of_ble_eq_true rfl⟩) ⟨pz_blind, va_recv hK hP (ci := 12) (q0 := q49) rfl eq49, pz_pre hP hK hD hN⟩ rfl rfl hl.1 rfl (lv_room (Nat.le_of_ble_eq_true rfl)) dX12_price_33 ⟨Nat.le_of_ble_eq_true rfl, Nat.le_of_ble_eq_true rfl⟩) hS (fun q _ h => hFc q h) hFc (fun r50 f52 t H1 locs ht hvm hw51 hB hz1 hk1 hS => ?_)
      refine tn_4 hw51 (fun hT hF53 hw51r hw51p => ?_); clear hw51
      have hR := hR.then hF53 (by decide)
      have hP := hB.1; rw [ht] at hP; have hD := tp_ad f52 hD; clear hB hFc hz1 hk1; subst ht; generalize t.heap = H at hP hS ⊢
      have hw51pq : r50.toInt = (-1) := by rw [hw51p]; rfl
      have hf_54 : f52 (ρ h0 2) = .inl (κ 0, 12967, .inl g27) := (hF53 _ (by rw [tp_iu y1]; decide)).trans hf_33
      exact W.iret (v := r50) hx hb hr (fun t ht hW => ⟨⟨r50, f52, rfl, ⟨hT, hR, trivial, ⟨(by rw [hf_54, mo_i1]; exact hI), (by rw [hf_54, mo_i1, hf_o26, mo_i1]; exact hKN), (by simp only [hf_54, hf_o26, mo_i1]; exact ⟨⟨fun q0 => by omega, fun q0 => ⟨fun q1 => by omega, fun q1 => (by omega)⟩⟩, ⟨fun q0 => by omega, fun q0 => ⟨fun q1 => by omega, fun q1 => (by omega)⟩⟩⟩)⟩⟩, by rw [ht]; exact hP, va_K.moved hW.alike hK, hD⟩, hS.F ht⟩) hS.2.2 dX12_price_36
    · have ic47 : r45.toInt ≠ 0 := zi_eqf rfl rfl c47
      replace ic47 : 1 ≤ r45.toInt := by omega
      have p55 : (0) ≤ (u.toInt) ∧ (u.toInt) ≤ (10000) := (tp_cond.yes hw46p) (by omega)
      clear hw46r ic47
      refine lv_iload_n hx hb dX12_price_24 rfl (lv_at hl 3 rfl) ?_
      refine pz_calli (va_runS (As := [.int a]) (rest := []) ⟨hx, hb, hml, hown, hts⟩ (t_X12_isHour l dC dI _ a (a.toInt) rfl) (va_cwS 1 hts gX12_price_X12_isHour rfl rfl rfl pd_X12_isHour ⟨Nat.le_of_ble_eq_true rfl, Nat.le_of_ble_eq_true rfl⟩) ⟨pz_blind, pz_pre pz_P0 (hK.sub (tys' := []) [] rfl) (pz_D0 (A := fun _ => True)) hN⟩ rfl rfl hl.1 rfl (lv_room (Nat.le_of_ble_eq_true rfl)) dX12_price_25 ⟨Nat.le_of_ble_eq_true rfl, Nat.le_of_ble_eq_true rfl⟩) (fun r56 hw57 => ?_)
      obtain ⟨hw57r, hw57p⟩ := hw57
      refine lv_if_ne (tgt := 37) hx hb dX12_price_28 (by decide) (fun c58 => ?_) (fun c58 => ?_)
      · have ic58 : r56.toInt ≠ 0 := zi_ne rfl rfl c58
        replace ic58 : 1 ≤ r56.toInt := by omega
        have p59 : 0 ≤ (a.toInt) ∧ (a.toInt) ≤ 2399 := (tp_cond.yes hw57p) (by omega)
        clear hw57r ic58
        refine lv_aload_n hx hb dX12_price_37 rfl (lv_at hl 0 rfl) ?_
        refine tpk_pos (tp_in hG ht_h0 (by decide)) g32 (fun q60 eq60 => ?_)
        refine va_get (D := (dC, dI)) (ci := 12) (v := .ref (ρ h0 2)) (C := RX12) (T := TX12) (N := 53) hx hb hts hfX12 hown hK hP q60 eq60 rfl 2 (by decide) (hts (.fieldLink RX12 7 "ColdShipsModel" "row" "[I") wa_148) (fun _ h9 => h9) rfl dX12_price_38 ?_
        refine lv_bipush (v := 6) hx hb dX12_price_41 (by decide) ?_
        refine tpk_pos (tp_in hG y1 (by decide)) hf_33 (fun q61 eq61 => ?_)
        refine va_iald hx hb hK hP q61 0 eq61 rfl (vp_in_iff.mpr ⟨by decide, by decide⟩) dX12_price_43 ?_
        refine lv_topi (fun z62 ez62 => ?_)
        have jz62 : z62.toInt = mo_R g27 (6) := mo_rd ez62 (show (6 : Int32).toInt = (6) from by decide)
        have kz62 := hI.k6
        refine lv_bipush (v := 60) hx hb dX12_price_44 (by decide) ?_
        refine lv_icmp_ne (tgt := 56) hx hb dX12_price_46 (by decide) (fun c63 => ?_) (fun c63 => ?_)
        · have ic63 : z62.toInt ≠ 60 := zi_ne rfl rfl c63
          replace ic63 : z62.toInt ≤ 59 := by omega
          refine lv_sipush (v := 2011) hx hb dX12_price_56 (by decide) ?_
          refine lv_iconst (v := 3) hx hb dX12_price_59 (by decide) ?_
          refine lv_aload_n hx hb dX12_price_60 rfl (lv_at hl 0 rfl) ?_
          refine va_get (D := (dC, dI)) (ci := 12) (v := .ref (ρ h0 2)) (C := RX12) (T := TX12) (N := 53) hx hb hts hfX12 hown hK hP q60 eq60 rfl 2 (by decide) (hts (.fieldLink RX12 7 "ColdShipsModel" "row" "[I") wa_148) (fun _ h9 => h9) rfl dX12_price_61 ?_
          refine lv_bipush (v := 6) hx hb dX12_price_64 (by decide) ?_
          refine va_iald hx hb hK hP q61 0 eq61 rfl (vp_in_iff.mpr ⟨by decide, by decide⟩) dX12_price_66 ?_
          refine lv_topi (fun z64 ez64 => ?_)
          have jz64 : z64.toInt = mo_R g27 (6) := mo_rd ez64 (show (6 : Int32).toInt = (6) from by decide)
          have kz64 := hI.k6
          have vz64 : z64.toInt = z62.toInt := jz64.trans (jz62).symm
          refine lv_imul hx hb dX12_price_67 ?_
          refine lv_topi (fun z65 ez65 => ?_)
          have iz65 : z65.toInt = 3 * z64.toInt := zi_mul ez65 rfl rfl (by omega) (by omega)
          refine lv_iadd hx hb dX12_price_68 ?_
          refine lv_topi (fun z66 ez66 => ?_)
          have iz66 : z66.toInt = 2011 + z65.toInt := zi_add ez66 rfl rfl (by omega) (by omega)
          refine lv_istore (lv' := [(4, .int z66), (0, .ref h0), (1, .int v), (2, .int u), (3, .int a)]) hx hb dX12_price_69 hl (by decide) rfl (fun ls hl => ?_)
          refine lv_aload_n hx hb dX12_price_71 rfl (lv_at hl 1 rfl) ?_
          refine va_get (D := (dC, dI)) (ci := 12) (v := .ref (ρ h0 2)) (C := RX12) (T := TX12) (N := 53) hx hb hts hfX12 hown hK hP q60 eq60 rfl 2 (by decide) (hts (.fieldLink RX12 7 "ColdShipsModel" "row" "[I") wa_148) (fun _ h9 => h9) rfl dX12_price_72 ?_
          refine lv_iload hx hb dX12_price_75 (lv_at hl 0 rfl) ?_
          refine lv_iload_n hx hb dX12_price_77 rfl (lv_at hl 2 rfl) ?_
          refine va_iast hx hb hK hP hD hS q61 0 eq61 rfl (vp_in_iff.mpr ⟨by omega, by omega⟩) dX12_price_78 (tp_k (.inl (κ 0, 12967, .inl (upd g27 z66.toNatClampNeg v))) hD (tp_in hG y1 (by decide)) eq61 (fun f67 H locs hP hD hS g69 k68 => ?_))
          have hT := hT.up y1 g69 k68 tp_o32
          have hR := hR.up y1 (by decide) k68
          have hU : mo_U (mo_R g27) (mo_R (upd g27 z66.toNatClampNeg v)) (2011 + 3 * z62.toInt) (v.toInt) := mo_up (by omega) (rfl : v.toInt = _) (by omega)
          generalize (upd g27 z66.toNatClampNeg v) = g70 at g69 hU
          have hI := mo_w_flat hI hU (by omega)
          have hKN := hKN.up hU (Or.inl (by omega))
          have pn71 : mo_R g70 (6) = z62.toInt := (hU.ne (by omega) (by omega)).trans (jz62).symm
          refine lv_aload_n hx hb dX12_price_79 rfl (lv_at hl 1 rfl) ?_
          have hf_72 : f67 h0 = .inr (12, [.int 0, .int o28_x1, .ref (ρ h0 2), .ref (ρ h0 3), .ref (ρ h0 4), .ref (ρ h0 5), .ref (ρ h0 6), .int o28_x7, .ref (ρ h0 8), .int o28_x9, .int o28_x10, .int o28_x11, .int o28_x12, .long o28_x13, .int o28_x14, .int o28_x15, .int o28_x16, .int o28_x17, .int o28_x18, .int o28_x19, .int o28_x20, .ref (ρ h0 21), .int o28_x22, .ref (ρ h0 23), .ref (ρ h0 24), .int o28_x25, .ref (ρ h0 26), .ref (ρ h0 27), .int o28_x28, .int o28_x29, .ref (ρ h0 30), .ref (ρ h0 31), .int o28_x32, .long o28_x33, .long o28_x34, .long o28_x35, .int o28_x36, .int o28_x37, .int o28_x38, .ref (ρ h0 39), .ref (ρ h0 40), .ref (ρ h0 41), .ref (ρ h0 42), .ref (ρ h0 43), .ref (ρ h0 44), .ref (ρ h0 45), .ref (ρ h0 46), .int o28_x47, .int o28_x48, .ref (ρ h0 49), .ref (ρ h0 50), .ref (ρ h0 51), .ref (ρ h0 52)]) := (k68 _ (tp_ne ht_h0 y1 (by decide))).trans g32
          refine tpk_pos (tp_in hG ht_h0 (by decide)) hf_72 (fun q73 eq73 => ?_)
          refine va_get (D := (dC, dI)) (ci := 12) (v := .ref (ρ h0 2)) (C := RX12) (T := TX12) (N := 53) hx hb hts hfX12 hown hK hP q73 eq73 rfl 2 (by decide) (hts (.fieldLink RX12 7 "ColdShipsModel" "row" "[I") wa_148) (fun _ h9 => h9) rfl dX12_price_80 ?_
          refine lv_iload hx hb dX12_price_83 (lv_at hl 0 rfl) ?_
          refine lv_iconst (v := 1) hx hb dX12_price_85 (by decide) ?_
          refine lv_iadd hx hb dX12_price_86 ?_
          refine lv_topi (fun z74 ez74 => ?_)
          have iz74 : z74.toInt = z66.toInt + 1 := zi_add ez74 rfl rfl (by omega) (by omega)
          refine lv_iload_n hx hb dX12_price_87 rfl (lv_at hl 3 rfl) ?_
          refine tpk_pos (tp_in hG y1 (by decide)) g69 (fun q75 eq75 => ?_)
          refine va_iast hx hb hK hP hD hS q75 0 eq75 rfl (vp_in_iff.mpr ⟨by omega, by omega⟩) dX12_price_88 (tp_k (.inl (κ 0, 12967, .inl (upd g70 z74.toNatClampNeg u))) hD (tp_in hG y1 (by decide)) eq75 (fun f76 H locs hP hD hS g78 k77 => ?_))
          have hT := hT.up y1 g78 k77 tp_o32
          have hR := hR.up y1 (by decide) k77
          have hU : mo_U (mo_R g70) (mo_R (upd g70 z74.toNatClampNeg u)) (2012 + 3 * z62.toInt) (u.toInt) := mo_up (by omega) (rfl : u.toInt = _) (by omega)
          generalize (upd g70 z74.toNatClampNeg u) = g79 at g78 hU
          have hI := mo_w_flat hI hU (by omega)
          have hKN := hKN.up hU (Or.inl (by omega))
          have pn80 : mo_R g79 (6) = z62.toInt := (hU.ne (by omega) (by omega)).trans pn71
          refine lv_aload_n hx hb dX12_price_89 rfl (lv_at hl 1 rfl) ?_
          have hf_81 : f76 h0 = .inr (12, [.int 0, .int o28_x1, .ref (ρ h0 2), .ref (ρ h0 3), .ref (ρ h0 4), .ref (ρ h0 5), .ref (ρ h0 6), .int o28_x7, .ref (ρ h0 8), .int o28_x9, .int o28_x10, .int o28_x11, .int o28_x12, .long o28_x13, .int o28_x14, .int o28_x15, .int o28_x16, .int o28_x17, .int o28_x18, .int o28_x19, .int o28_x20, .ref (ρ h0 21), .int o28_x22, .ref (ρ h0 23), .ref (ρ h0 24), .int o28_x25, .ref (ρ h0 26), .ref (ρ h0 27), .int o28_x28, .int o28_x29, .ref (ρ h0 30), .ref (ρ h0 31), .int o28_x32, .long o28_x33, .long o28_x34, .long o28_x35, .int o28_x36, .int o28_x37, .int o28_x38, .ref (ρ h0 39), .ref (ρ h0 40), .ref (ρ h0 41), .ref (ρ h0 42), .ref (ρ h0 43), .ref (ρ h0 44), .ref (ρ h0 45), .ref (ρ h0 46), .int o28_x47, .int o28_x48, .ref (ρ h0 49), .ref (ρ h0 50), .ref (ρ h0 51), .ref (ρ h0 52)]) := (k77 _ (tp_ne ht_h0 y1 (by decide))).trans hf_72
          refine tpk_pos (tp_in hG ht_h0 (by decide)) hf_81 (fun q82 eq82 => ?_)
          refine va_get (D := (dC, dI)) (ci := 12) (v := .ref (ρ h0 2)) (C := RX12) (T := TX12) (N := 53) hx hb hts hfX12 hown hK hP q82 eq82 rfl 2 (by decide) (hts (.fieldLink RX12 7 "ColdShipsModel" "row" "[I") wa_148) (fun _ h9 => h9) rfl dX12_price_90 ?_
          refine lv_iload hx hb dX12_price_93 (lv_at hl 0 rfl) ?_
          refine lv_iconst (v := 2) hx hb dX12_price_95 (by decide) ?_
          refine lv_iadd hx hb dX12_price_96 ?_
          refine lv_topi (fun z83 ez83 => ?_)
          have iz83 : z83.toInt = z66.toInt + 2 := zi_add ez83 rfl rfl (by omega) (by omega)
          refine lv_iload_n hx hb dX12_price_97 rfl (lv_at hl 4 rfl) ?_
          refine tpk_pos (tp_in hG y1 (by decide)) g78 (fun q84 eq84 => ?_)
          refine va_iast hx hb hK hP hD hS q84 0 eq84 rfl (vp_in_iff.mpr ⟨by omega, by omega⟩) dX12_price_98 (tp_k (.inl (κ 0, 12967, .inl (upd g79 z83.toNatClampNeg a))) hD (tp_in hG y1 (by decide)) eq84 (fun f85 H locs hP hD hS g87 k86 => ?_))
          have hT := hT.up y1 g87 k86 tp_o32
          have hR := hR.up y1 (by decide) k86
          have hU : mo_U (mo_R g79) (mo_R (upd g79 z83.toNatClampNeg a)) (2013 + 3 * z62.toInt) (a.toInt) := mo_up (by omega) (rfl : a.toInt = _) (by omega)
          generalize (upd g79 z83.toNatClampNeg a) = g88 at g87 hU
          have hI := mo_w_flat hI hU (by omega)
          have hKN := hKN.up hU (Or.inl (by omega))
          have pn89 : mo_R g88 (6) = z62.toInt := (hU.ne (by omega) (by omega)).trans pn80
          refine lv_aload_n hx hb dX12_price_99 rfl (lv_at hl 1 rfl) ?_
          have hf_90 : f85 h0 = .inr (12, [.int 0, .int o28_x1, .ref (ρ h0 2), .ref (ρ h0 3), .ref (ρ h0 4), .ref (ρ h0 5), .ref (ρ h0 6), .int o28_x7, .ref (ρ h0 8), .int o28_x9, .int o28_x10, .int o28_x11, .int o28_x12, .long o28_x13, .int o28_x14, .int o28_x15, .int o28_x16, .int o28_x17, .int o28_x18, .int o28_x19, .int o28_x20, .ref (ρ h0 21), .int o28_x22, .ref (ρ h0 23), .ref (ρ h0 24), .int o28_x25, .ref (ρ h0 26), .ref (ρ h0 27), .int o28_x28, .int o28_x29, .ref (ρ h0 30), .ref (ρ h0 31), .int o28_x32, .long o28_x33, .long o28_x34, .long o28_x35, .int o28_x36, .int o28_x37, .int o28_x38, .ref (ρ h0 39), .ref (ρ h0 40), .ref (ρ h0 41), .ref (ρ h0 42), .ref (ρ h0 43), .ref (ρ h0 44), .ref (ρ h0 45), .ref (ρ h0 46), .int o28_x47, .int o28_x48, .ref (ρ h0 49), .ref (ρ h0 50), .ref (ρ h0 51), .ref (ρ h0 52)]) := (k86 _ (tp_ne ht_h0 y1 (by decide))).trans hf_81
          refine tpk_pos (tp_in hG ht_h0 (by decide)) hf_90 (fun q91 eq91 => ?_)
          refine va_get (D := (dC, dI)) (ci := 12) (v := .ref (ρ h0 2)) (C := RX12) (T := TX12) (N := 53) hx hb hts hfX12 hown hK hP q91 eq91 rfl 2 (by decide) (hts (.fieldLink RX12 7 "ColdShipsModel" "row" "[I") wa_148) (fun _ h9 => h9) rfl dX12_price_100 ?_
          refine lv_bipush (v := 6) hx hb dX12_price_103 (by decide) ?_
          refine lv_dup2_11 hx hb dX12_price_105 rfl rfl ?_
          refine tpk_pos (tp_in hG y1 (by decide)) g87 (fun q92 eq92 => ?_)
          refine va_iald hx hb hK hP q92 0 eq92 rfl (vp_in_iff.mpr ⟨by decide, by decide⟩) dX12_price_106 ?_
          refine lv_topi (fun z93 ez93 => ?_)
          have jz93 : z93.toInt = mo_R g88 (6) := mo_rd ez93 (show (6 : Int32).toInt = (6) from by decide)
          have kz93 := hI.k6
          have vz93 : z93.toInt = z62.toInt := jz93.trans pn89
          refine lv_iconst (v := 1) hx hb dX12_price_107 (by decide) ?_
          refine lv_iadd hx hb dX12_price_108 ?_
          refine lv_topi (fun z94 ez94 => ?_)
          have iz94 : z94.toInt = z93.toInt + 1 := zi_add ez94 rfl rfl (by omega) (by omega)
          refine va_iast hx hb hK hP hD hS q92 0 eq92 rfl (vp_in_iff.mpr ⟨by decide, by decide⟩) dX12_price_109 (tp_k (.inl (κ 0, 12967, .inl (upd g88 (6 : Int32).toNatClampNeg z94))) hD (tp_in hG y1 (by decide)) eq92 (fun f95 H locs hP hD hS g97 k96 => ?_))
          have hT := hT.up y1 g97 k96 tp_o32
          have hR := hR.up y1 (by decide) k96
          have hU : mo_U (mo_R g88) (mo_R (upd g88 (6 : Int32).toNatClampNeg z94)) (6) (z94.toInt) := mo_up (show (6 : Int32).toInt = (6) from by decide) (rfl : z94.toInt = _) (by omega)
          generalize (upd g88 (6 : Int32).toNatClampNeg z94) = g98 at g97 hU
          have hI := mo_w_cnt hI hU (by omega) (by omega)
          have hKN := hKN.up hU (Or.inr (by show (6) = 6; omega))
          have pn99 : mo_R g98 (6) = z94.toInt := hU.eq (by omega)
          refine lv_aload_n hx hb dX12_price_110 rfl (lv_at hl 1 rfl) ?_
          refine lv_aload_n hx hb dX12_price_111 rfl (lv_at hl 1 rfl) ?_
          have hf_100 : f95 h0 = .inr (12, [.int 0, .int o28_x1, .ref (ρ h0 2), .ref (ρ h0 3), .ref (ρ h0 4), .ref (ρ h0 5), .ref (ρ h0 6), .int o28_x7, .ref (ρ h0 8), .int o28_x9, .int o28_x10, .int o28_x11, .int o28_x12, .long o28_x13, .int o28_x14, .int o28_x15, .int o28_x16, .int o28_x17, .int o28_x18, .int o28_x19, .int o28_x20, .ref (ρ h0 21), .int o28_x22, .ref (ρ h0 23), .ref (ρ h0 24), .int o28_x25, .ref (ρ h0 26), .ref (ρ h0 27), .int o28_x28, .int o28_x29, .ref (ρ h0 30), .ref (ρ h0 31), .int o28_x32, .long o28_x33, .long o28_x34, .long o28_x35, .int o28_x36, .int o28_x37, .int o28_x38, .ref (ρ h0 39), .ref (ρ h0 40), .ref (ρ h0 41), .ref (ρ h0 42), .ref (ρ h0 43), .ref (ρ h0 44), .ref (ρ h0 45), .ref (ρ h0 46), .int o28_x47, .int o28_x48, .ref (ρ h0 49), .ref (ρ h0 50), .ref (ρ h0 51), .ref (ρ h0 52)]) := (k96 _ (tp_ne ht_h0 y1 (by decide))).trans hf_90
          refine tpk_pos (tp_in hG ht_h0 (by decide)) hf_100 (fun q101 eq101 => ?_)
          refine va_get (D := (dC, dI)) (ci := 12) (v := .ref (ρ h0 2)) (C := RX12) (T := TX12) (N := 53) hx hb hts hfX12 hown hK hP q101 eq101 rfl 2 (by decide) (hts (.fieldLink RX12 7 "ColdShipsModel" "row" "[I") wa_148) (fun _ h9 => h9) rfl dX12_price_112 ?_
          refine lv_bipush (v := 6) hx hb dX12_price_115 (by decide) ?_
          refine tpk_pos (tp_in hG y1 (by decide)) g97 (fun q102 eq102 => ?_)
          refine va_iald hx hb hK hP q102 0 eq102 rfl (vp_in_iff.mpr ⟨by decide, by decide⟩) dX12_price_117 ?_
          refine lv_topi (fun z103 ez103 => ?_)
          have jz103 : z103.toInt = mo_R g98 (6) := mo_rd ez103 (show (6 : Int32).toInt = (6) from by decide)
          have kz103 := hI.k6
          have vz103 : z103.toInt = z94.toInt := jz103.trans pn99
          have hFc := tp_fr hD hS hA
          refine va_calli (va_runV (As := [.int z103]) (rest := []) ⟨hx, hb, hml, hown, hts⟩ (t_X12_told l dC dI _ κ Θ τ ν ρ L f95 hG hT h0 z103 ht_h0) (cwV 1 hts gX12_price_X12_told rfl rfl rfl ⟨rfl, pd_X12_told⟩ ⟨Nat.le_of_ble_eq_true rfl, Nat.le_of_ble_eq_true rfl⟩) ⟨pz_blind, va_recv hK hP (ci := 12) (q0 := q101) rfl eq101, pz_pre hP hK hD hN⟩ rfl rfl hl.1 rfl (lv_room (Nat.le_of_ble_eq_true rfl)) dX12_price_118 ⟨Nat.le_of_ble_eq_true rfl, Nat.le_of_ble_eq_true rfl⟩) hS (fun q _ h => hFc q h) hFc (fun r104 f106 t H1 locs ht hvm hw105 hB hz1 hk1 hS => ?_)
          refine tn_4 hw105 (fun hT hF107 hw105r hw105p => ?_); clear hw105
          have hR := hR.then hF107 (by decide)
          have hP := hB.1; rw [ht] at hP; have hD := tp_ad f106 hD; clear hB hFc hz1 hk1; subst ht; generalize t.heap = H at hP hS ⊢
          have hw105pq : r104.toInt = z103.toInt := by rw [hw105p]
          have hf_108 : f106 (ρ h0 2) = .inl (κ 0, 12967, .inl g98) := (hF107 _ (by rw [tp_iu y1]; decide)).trans g97
          exact W.iret (v := r104) hx hb hr (fun t ht hW => ⟨⟨r104, f106, rfl, ⟨hT, hR, trivial, ⟨(by rw [hf_108, mo_i1]; exact hI), (by rw [hf_108, mo_i1, hf_o26, mo_i1]; exact hKN), (by simp only [hf_108, hf_o26, mo_i1]; exact ⟨⟨fun q0 => by omega, fun q0 => ⟨fun q1 => by omega, fun q1 => (by omega)⟩⟩, ⟨fun q0 => by omega, fun q0 => ⟨fun q1 => by omega, fun q1 => (by omega)⟩⟩⟩)⟩⟩, by rw [ht]; exact hP, va_K.moved hW.alike hK, hD⟩, hS.F ht⟩) hS.2.2 dX12_price_121
        · have ic63 : z62.toInt = 60 := zi_nef rfl rfl c63
          refine lv_aload_n hx hb dX12_price_49 rfl (lv_at hl 0 rfl) ?_
          refine lv_bipush (v := (-5)) hx hb dX12_price_50 (by decide) ?_
          have hFc := tp_fr hD hS hA
          refine va_calli (va_runV (As := [.int (-5)]) (rest := []) ⟨hx, hb, hml, hown, hts⟩ (t_X12_told l dC dI _ κ Θ τ ν ρ L f30 hG hT h0 ((-5)) ht_h0) (cwV 1 hts gX12_price_X12_told rfl rfl rfl ⟨rfl, pd_X12_told⟩ ⟨Nat.le_of_ble_eq_true rfl, Nat.le_of_ble_eq_true rfl⟩) ⟨pz_blind, va_recv hK hP (ci := 12) (q0 := q60) rfl eq60, pz_pre hP hK hD hN⟩ rfl rfl hl.1 rfl (lv_room (Nat.le_of_ble_eq_true rfl)) dX12_price_52 ⟨Nat.le_of_ble_eq_true rfl, Nat.le_of_ble_eq_true rfl⟩) hS (fun q _ h => hFc q h) hFc (fun r109 f111 t H1 locs ht hvm hw110 hB hz1 hk1 hS => ?_)
          refine tn_4 hw110 (fun hT hF112 hw110r hw110p => ?_); clear hw110
          have hR := hR.then hF112 (by decide)
          have hP := hB.1; rw [ht] at hP; have hD := tp_ad f111 hD; clear hB hFc hz1 hk1; subst ht; generalize t.heap = H at hP hS ⊢
          have hw110pq : r109.toInt = (-5) := by rw [hw110p]; rfl
          have hf_113 : f111 (ρ h0 2) = .inl (κ 0, 12967, .inl g27) := (hF112 _ (by rw [tp_iu y1]; decide)).trans hf_33
          exact W.iret (v := r109) hx hb hr (fun t ht hW => ⟨⟨r109, f111, rfl, ⟨hT, hR, trivial, ⟨(by rw [hf_113, mo_i1]; exact hI), (by rw [hf_113, mo_i1, hf_o26, mo_i1]; exact hKN), (by simp only [hf_113, hf_o26, mo_i1]; exact ⟨⟨fun q0 => by omega, fun q0 => ⟨fun q1 => by omega, fun q1 => (by omega)⟩⟩, ⟨fun q0 => by omega, fun q0 => ⟨fun q1 => by omega, fun q1 => (by omega)⟩⟩⟩)⟩⟩, by rw [ht]; exact hP, va_K.moved hW.alike hK, hD⟩, hS.F ht⟩) hS.2.2 dX12_price_55
      · have ic58 : r56.toInt = 0 := zi_nef rfl rfl c58
        have p114 : ¬ (0 ≤ (a.toInt) ∧ (a.toInt) ≤ 2399) := (tp_cond.no hw57p) (by omega)
        clear hw57r ic58
        refine lv_aload_n hx hb dX12_price_31 rfl (lv_at hl 0 rfl) ?_
        refine lv_iconst (v := (-1)) hx hb dX12_price_32 (by decide) ?_
        refine tpk_pos (tp_in hG ht_h0 (by decide)) g32 (fun q115 eq115 => ?_)
        have hFc := tp_fr hD hS hA
        refine va_calli (va_runV (As := [.int (-1)]) (rest := []) ⟨hx, hb, hml, hown, hts⟩ (t_X12_told l dC dI _ κ Θ τ ν ρ L f30 hG hT h0 ((-1)) ht_h0) (cwV 1 hts gX12_price_X12_told rfl rfl rfl ⟨rfl, pd_X12_told⟩ ⟨Nat.le_of_ble_eq_true rfl, Nat.le_of_ble_eq_true rfl⟩) ⟨pz_blind, va_recv hK hP (ci := 12) (q0 := q115) rfl eq115, pz_pre hP hK hD hN⟩ rfl rfl hl.1 rfl (lv_room (Nat.le_of_ble_eq_true rfl)) dX12_price_33 ⟨Nat.le_of_ble_eq_true rfl, Nat.le_of_ble_eq_true rfl⟩) hS (fun q _ h => hFc q h) hFc (fun r116 f118 t H1 locs ht hvm hw117 hB hz1 hk1 hS => ?_)
        refine tn_4 hw117 (fun hT hF119 hw117r hw117p => ?_); clear hw117
        have hR := hR.then hF119 (by decide)
        have hP := hB.1; rw [ht] at hP; have hD := tp_ad f118 hD; clear hB hFc hz1 hk1; subst ht; generalize t.heap = H at hP hS ⊢
        have hw117pq : r116.toInt = (-1) := by rw [hw117p]; rfl
        have hf_120 : f118 (ρ h0 2) = .inl (κ 0, 12967, .inl g27) := (hF119 _ (by rw [tp_iu y1]; decide)).trans hf_33
        exact W.iret (v := r116) hx hb hr (fun t ht hW => ⟨⟨r116, f118, rfl, ⟨hT, hR, trivial, ⟨(by rw [hf_120, mo_i1]; exact hI), (by rw [hf_120, mo_i1, hf_o26, mo_i1]; exact hKN), (by simp only [hf_120, hf_o26, mo_i1]; exact ⟨⟨fun q0 => by omega, fun q0 => ⟨fun q1 => by omega, fun q1 => (by omega)⟩⟩, ⟨fun q0 => by omega, fun q0 => ⟨fun q1 => by omega, fun q1 => (by omega)⟩⟩⟩)⟩⟩, by rw [ht]; exact hP, va_K.moved hW.alike hK, hD⟩, hS.F ht⟩) hS.2.2 dX12_price_36
set_option maxHeartbeats 4000000 in
set_option maxRecDepth 100000 in
theorem t_X12_force (l : Launch) (dC : Nat → ClassId) (dI : Nat → Nat → Nat) (sz : Nat) (κ : Nat → ClassId) (Θ : Nat → Option Int) (τ ν : Nat → Nat) (ρ : Nat → Nat → Nat) (L : List Nat) (f : Nat → va_E) (hG : tp_G τ ν ρ L) (hT : tp_T (mo_O κ Θ) κ τ ν ρ f) (h0 : Nat) (v : Int32) (u : Int32) (a : Int32) (ht_h0 : τ h0 = 13) (hJ : mo_RI (-1) 0 (mo_R (mo_i (f (ρ h0 2))))) : Met l yX12_force wqX12_force ({ frames := 4, cells := 0, slots := 0, locals := 1200 }) (va_Pc [.ref h0, .int v, .int u, .int a] (pz_B dC dI (tp_K κ) (va_pl L f) sz)) (va_Qi (fun (r : Int32) (f1 : Nat → va_E) => tp_T (mo_O κ Θ) κ τ ν ρ f1 ∧ tp_F τ [13, 32] f f1 ∧ True ∧ mo_RI (-1) 0 (mo_R (mo_i (f1 (ρ h0 2)))) ∧ mo_KN (fun k => k = 7) (mo_R (mo_i (f (ρ h0 2)))) (mo_R (mo_i (f1 (ρ h0 2)))) ∧ ((((¬ (((0 ≤ v.toInt ∧ v.toInt ≤ 2399) ∧ (0 ≤ u.toInt ∧ u.toInt ≤ 2399) ∧ v.toInt ≤ u.toInt) ∧ (0 ≤ a.toInt ∧ a.toInt ≤ 2399))) → r.toInt = -1) ∧ (¬ (¬ (((0 ≤ v.toInt ∧ v.toInt ≤ 2399) ∧ (0 ≤ u.toInt ∧ u.toInt ≤ 2399) ∧ v.toInt ≤ u.toInt) ∧ (0 ≤ a.toInt ∧ a.toInt ≤ 2399))) → ((((mo_R (mo_i (f (ρ h0 2)))) (7) = 20) → r.toInt = -5) ∧ (¬ ((mo_R (mo_i (f (ρ h0 2)))) (7) = 20) → r.toInt = (mo_R (mo_i (f (ρ h0 2)))) (7) + 1))))) ∧ ((((¬ (((0 ≤ v.toInt ∧ v.toInt ≤ 2399) ∧ (0 ≤ u.toInt ∧ u.toInt ≤ 2399) ∧ v.toInt ≤ u.toInt) ∧ (0 ≤ a.toInt ∧ a.toInt ≤ 2399))) → (mo_R (mo_i (f1 (ρ h0 2)))) (7) = (mo_R (mo_i (f (ρ h0 2)))) (7)) ∧ (¬ (¬ (((0 ≤ v.toInt ∧ v.toInt ≤ 2399) ∧ (0 ≤ u.toInt ∧ u.toInt ≤ 2399) ∧ v.toInt ≤ u.toInt) ∧ (0 ≤ a.toInt ∧ a.toInt ≤ 2399))) → ((((mo_R (mo_i (f (ρ h0 2)))) (7) = 20) → (mo_R (mo_i (f1 (ρ h0 2)))) (7) = (mo_R (mo_i (f (ρ h0 2)))) (7)) ∧ (¬ ((mo_R (mo_i (f (ρ h0 2)))) (7) = 20) → (mo_R (mo_i (f1 (ρ h0 2)))) (7) = (mo_R (mo_i (f (ρ h0 2)))) (7) + 1)))))) (fun (f1 : Nat → va_E) (t : State) => pz_E dC dI (tp_K κ) (va_A (va_pl L f) sz) (va_pl L f1) t) (va_A (va_pl L f) sz)) 0 0 (va_A (va_pl L f) sz) := by
  refine Met.ofW (cc := cX12_force) (maxL := 5) (ret := some .int) (by decide) rfl ?_
  intro p e s m args below meth c s₁ B hml hv
  obtain ⟨rfl, hsz, hP, hK, hD0, hN⟩ := hv
  have hx := B.exec
  have hb := B.bytes
  have hr := B.returns
  have hts := fun (w : Cond) (h : w ∈ WALL) => atoms_spec (ws := wqX12_force) B.pre w (List.mem_cons_of_mem _ h)
  have hown : s.vm.findClass RX12 = some m.cls := findClass_of_methodNamed B.named
  have hlocks := B.notSynchronized
  subst hsz
  have hD := hD0.self (sz := s.heap.size)
  generalize hAe : va_A (va_pl L f) s.heap.size = A at hD ⊢
  have hA : ∀ q : Nat, s.heap.size ≤ q → A q := fun q h => by rw [← hAe]; exact Or.inr h
  have hS : va_S A s.heap s.heap [] := va_S.rf
  have hR : tp_F τ [13, 32] f f := tp_F.rf
  have hl := lv_entry ([.ref h0, .int v, .int u, .int a]) (n := 5) (Nat.le_of_ble_eq_true rfl)
  rw [lg_entry_eq]
  generalize (lg_sl ([.ref h0, .int v, .int u, .int a]) ++ List.replicate (5 - (lg_sl ([.ref h0, .int v, .int u, .int a])).length) Slot.unset).toArray = ls at hl ⊢
  have hl : lv_has ls 5 [(0, .ref h0), (1, .int v), (2, .int u), (3, .int a)] := hl
  refine tgk_13 hG ht_h0 (fun y1 y2 y3 y4 y5 y6 y7 y8 y9 y10 y11 y12 y13 y14 y15 y16 y17 y18 y19 y20 y21 y22 y23 y24 y25 => ?_)
  refine tpk_32 hT y1 (fun g27 hf_o26 => ?_)
  have hI : mo_RI (-1) 0 (mo_R g27) := by have q9 := hJ; rw [hf_o26, mo_i1] at q9; exact q9
  have hKN : mo_KN (fun k => k = 7) (mo_R g27) (mo_R g27) := mo_KN.rf
  refine lv_aload_n hx hb dX12_force_0 rfl (lv_at hl 0 rfl) ?_
  refine lv_iconst (v := 0) hx hb dX12_force_1 (by decide) ?_
  refine tpk_13 hT ht_h0 (fun o28_x0 o28_x1 o28_x7 o28_x9 o28_x10 o28_x11 o28_x12 o28_x13 o28_x14 o28_x15 o28_x16 o28_x17 o28_x18 o28_x19 o28_x20 o28_x22 o28_x25 o28_x28 o28_x29 o28_x32 o28_x33 o28_x34 o28_x35 o28_x36 o28_x37 o28_x38 o28_x47 o28_x48 hf_o28 ro28_0 ro28_1 ro28_2 ro28_3 ro28_4 ro28_5 ro28_6 ro28_7 ro28_8 ro28_9 ro28_10 ro28_11 ro28_12 ro28_13 ro28_14 => ?_)
  refine tpk_pos (tp_in hG ht_h0 (by decide)) hf_o28 (fun q29 eq29 => ?_)
  refine va_put (D := (dC, dI)) (ci := 12) (v := .int 0) (ty := .int) (C := RX12) (T := TX12) (N := 53) hx hb hts hfX12 tyX12 tyX12_ok nmX12 hown hK hP hD hS q29 eq29 rfl 0 (by decide) (hts (.fieldLink RX12 91 "ColdShipsModel" "thrown" "I") wa_209) (fun _ h9 => h9) rfl (tyX12_ok 0 (by decide)) rfl rfl (Nat.le_of_ble_eq_true rfl) dX12_force_2 (tp_k (.inr (12, [.int 0, .int o28_x1, .ref (ρ h0 2), .ref (ρ h0 3), .ref (ρ h0 4), .ref (ρ h0 5), .ref (ρ h0 6), .int o28_x7, .ref (ρ h0 8), .int o28_x9, .int o28_x10, .int o28_x11, .int o28_x12, .long o28_x13, .int o28_x14, .int o28_x15, .int o28_x16, .int o28_x17, .int o28_x18, .int o28_x19, .int o28_x20, .ref (ρ h0 21), .int o28_x22, .ref (ρ h0 23), .ref (ρ h0 24), .int o28_x25, .ref (ρ h0 26), .ref (ρ h0 27), .int o28_x28, .int o28_x29, .ref (ρ h0 30), .ref (ρ h0 31), .int o28_x32, .long o28_x33, .long o28_x34, .long o28_x35, .int o28_x36, .int o28_x37, .int o28_x38, .ref (ρ h0 39), .ref (ρ h0 40), .ref (ρ h0 41), .ref (ρ h0 42), .ref (ρ h0 43), .ref (ρ h0 44), .ref (ρ h0 45), .ref (ρ h0 46), .int o28_x47, .int o28_x48, .ref (ρ h0 49), .ref (ρ h0 50), .ref (ρ h0 51), .ref (ρ h0 52)])) hD (tp_in hG ht_h0 (by decide)) eq29 (fun f30 H locs hP hD hS g32 k31 => ?_))
  have hT := hT.up ht_h0 g32 k31 ⟨_, _, _, _, _, _, _, _, _, _, _, _, _, _, _, _, _, _, _, _, _, _, _, _, _, _, _, _, rfl, ro28_0, ro28_1, ro28_2, ro28_3, ro28_4, ro28_5, ro28_6, ro28_7, ro28_8, ro28_9, ro28_10, ro28_11, ro28_12, ro28_13, ro28_14⟩
  have hR := hR.up ht_h0 (by decide) k31
  refine lv_iload_n hx hb dX12_force_5 rfl (lv_at hl 2 rfl) ?_
  have hf_33 : f30 (ρ h0 2) = .inl (κ 0, 12967, .inl g27) := (k31 _ (tp_ne y1 ht_h0 (by decide))).trans hf_o26
  refine pz_calli (va_runS (As := [.int u]) (rest := []) ⟨hx, hb, hml, hown, hts⟩ (t_X12_isHour l dC dI _ u (u.toInt) rfl) (va_cwS 1 hts gX12_force_X12_isHour rfl rfl rfl pd_X12_isHour ⟨Nat.le_of_ble_eq_true rfl, Nat.le_of_ble_eq_true rfl⟩) ⟨pz_blind, pz_pre pz_P0 (hK.sub (tys' := []) [] rfl) (pz_D0 (A := fun _ => True)) hN⟩ rfl rfl hl.1 rfl (lv_room (Nat.le_of_ble_eq_true rfl)) dX12_force_6 ⟨Nat.le_of_ble_eq_true rfl, Nat.le_of_ble_eq_true rfl⟩) (fun r34 hw35 => ?_)
  obtain ⟨hw35r, hw35p⟩ := hw35
  refine lv_if_eq (tgt := 30) hx hb dX12_force_9 (by decide) (fun c36 => ?_) (fun c36 => ?_)
  · have ic36 : r34.toInt = 0 := zi_eq rfl rfl c36
    have p37 : ¬ (0 ≤ (u.toInt) ∧ (u.toInt) ≤ 2399) := (tp_cond.no hw35p) (by omega)
    clear hw35r ic36
    refine lv_aload_n hx hb dX12_force_30 rfl (lv_at hl 0 rfl) ?_
    refine lv_iconst (v := (-1)) hx hb dX12_force_31 (by decide) ?_
    refine tpk_pos (tp_in hG ht_h0 (by decide)) g32 (fun q38 eq38 => ?_)
    have hFc := tp_fr hD hS hA
    refine va_calli (va_runV (As := [.int (-1)]) (rest := []) ⟨hx, hb, hml, hown, hts⟩ (t_X12_told l dC dI _ κ Θ τ ν ρ L f30 hG hT h0 ((-1)) ht_h0) (cwV 1 hts gX12_force_X12_told rfl rfl rfl ⟨rfl, pd_X12_told⟩ ⟨Nat.le_of_ble_eq_true rfl, Nat.le_of_ble_eq_true rfl⟩) ⟨pz_blind, va_recv hK hP (ci := 12) (q0 := q38) rfl eq38, pz_pre hP hK hD hN⟩ rfl rfl hl.1 rfl (lv_room (Nat.le_of_ble_eq_true rfl)) dX12_force_32 ⟨Nat.le_of_ble_eq_true rfl, Nat.le_of_ble_eq_true rfl⟩) hS (fun q _ h => hFc q h) hFc (fun r39 f41 t H1 locs ht hvm hw40 hB hz1 hk1 hS => ?_)
    refine tn_4 hw40 (fun hT hF42 hw40r hw40p => ?_); clear hw40
    have hR := hR.then hF42 (by decide)
    have hP := hB.1; rw [ht] at hP; have hD := tp_ad f41 hD; clear hB hFc hz1 hk1; subst ht; generalize t.heap = H at hP hS ⊢
    have hw40pq : r39.toInt = (-1) := by rw [hw40p]; rfl
    have hf_43 : f41 (ρ h0 2) = .inl (κ 0, 12967, .inl g27) := (hF42 _ (by rw [tp_iu y1]; decide)).trans hf_33
    exact W.iret (v := r39) hx hb hr (fun t ht hW => ⟨⟨r39, f41, rfl, ⟨hT, hR, trivial, ⟨(by rw [hf_43, mo_i1]; exact hI), (by rw [hf_43, mo_i1, hf_o26, mo_i1]; exact hKN), (by simp only [hf_43, hf_o26, mo_i1]; exact ⟨⟨fun q0 => by omega, fun q0 => ⟨fun q1 => by omega, fun q1 => (by omega)⟩⟩, ⟨fun q0 => by omega, fun q0 => ⟨fun q1 => by omega, fun q1 => (by omega)⟩⟩⟩)⟩⟩, by rw [ht]; exact hP, va_K.moved hW.alike hK, hD⟩, hS.F ht⟩) hS.2.2 dX12_force_35
  · have ic36 : r34.toInt ≠ 0 := zi_eqf rfl rfl c36
    replace ic36 : 1 ≤ r34.toInt := by omega
    have p44 : 0 ≤ (u.toInt) ∧ (u.toInt) ≤ 2399 := (tp_cond.yes hw35p) (by omega)
    clear hw35r ic36
    refine lv_iload_n hx hb dX12_force_12 rfl (lv_at hl 1 rfl) ?_
    refine lv_i2l hx hb dX12_force_13 rfl ?_
    refine lv_lconst (v := 0) hx hb dX12_force_14 (by decide) ?_
    refine lv_iload_n hx hb dX12_force_15 rfl (lv_at hl 2 rfl) ?_
    refine lv_i2l hx hb dX12_force_16 rfl ?_
    refine pz_calli (va_runS (As := [.long v.toInt64, .long 0, .long u.toInt64]) (rest := []) ⟨hx, hb, hml, hown, hts⟩ (t_X12_in l dC dI _ v.toInt64 (0) u.toInt64 (v.toInt) (0) (u.toInt) (Int32.toInt_toInt64 v) rfl (Int32.toInt_toInt64 u)) (va_cwS 3 hts gX12_force_X12_in rfl rfl rfl pd_X12_in ⟨Nat.le_of_ble_eq_true rfl, Nat.le_of_ble_eq_true rfl⟩) ⟨pz_blind, pz_pre pz_P0 (hK.sub (tys' := []) [] rfl) (pz_D0 (A := fun _ => True)) hN⟩ rfl rfl hl.1 rfl (lv_room (Nat.le_of_ble_eq_true rfl)) dX12_force_17 ⟨Nat.le_of_ble_eq_true rfl, Nat.le_of_ble_eq_true rfl⟩) (fun r45 hw46 => ?_)
    obtain ⟨hw46r, hw46p⟩ := hw46
    refine lv_if_eq (tgt := 30) hx hb dX12_force_20 (by decide) (fun c47 => ?_) (fun c47 => ?_)
    · have ic47 : r45.toInt = 0 := zi_eq rfl rfl c47
      have p48 : ¬ ((0) ≤ (v.toInt) ∧ (v.toInt) ≤ (u.toInt)) := (tp_cond.no hw46p) (by omega)
      clear hw46r ic47
      refine lv_aload_n hx hb dX12_force_30 rfl (lv_at hl 0 rfl) ?_
      refine lv_iconst (v := (-1)) hx hb dX12_force_31 (by decide) ?_
      refine tpk_pos (tp_in hG ht_h0 (by decide)) g32 (fun q49 eq49 => ?_)
      have hFc := tp_fr hD hS hA
      refine va_calli (va_runV (As := [.int (-1)]) (rest := []) ⟨hx, hb, hml, hown, hts⟩ (t_X12_told l dC dI _ κ Θ τ ν ρ L f30 hG hT h0 ((-1)) ht_h0) (cwV 1 hts gX12_force_X12_told rfl rfl rfl ⟨rfl, pd_X12_told⟩ ⟨Nat.le_of_ble_eq_true rfl, Nat.le_of_ble_eq_true rfl⟩) ⟨pz_blind, va_recv hK hP (ci := 12) (q0 := q49) rfl eq49, pz_pre hP hK hD hN⟩ rfl rfl hl.1 rfl (lv_room (Nat.le_of_ble_eq_true rfl)) dX12_force_32 ⟨Nat.le_of_ble_eq_true rfl, Nat.le_of_ble_eq_true rfl⟩) hS (fun q _ h => hFc q h) hFc (fun r50 f52 t H1 locs ht hvm hw51 hB hz1 hk1 hS => ?_)
      refine tn_4 hw51 (fun hT hF53 hw51r hw51p => ?_); clear hw51
      have hR := hR.then hF53 (by decide)
      have hP := hB.1; rw [ht] at hP; have hD := tp_ad f52 hD; clear hB hFc hz1 hk1; subst ht; generalize t.heap = H at hP hS ⊢
      have hw51pq : r50.toInt = (-1) := by rw [hw51p]; rfl
      have hf_54 : f52 (ρ h0 2) = .inl (κ 0, 12967, .inl g27) := (hF53 _ (by rw [tp_iu y1]; decide)).trans hf_33
      exact W.iret (v := r50) hx hb hr (fun t ht hW => ⟨⟨r50, f52, rfl, ⟨hT, hR, trivial, ⟨(by rw [hf_54, mo_i1]; exact hI), (by rw [hf_54, mo_i1, hf_o26, mo_i1]; exact hKN), (by simp only [hf_54, hf_o26, mo_i1]; exact ⟨⟨fun q0 => by omega, fun q0 => ⟨fun q1 => by omega, fun q1 => (by omega)⟩⟩, ⟨fun q0 => by omega, fun q0 => ⟨fun q1 => by omega, fun q1 => (by omega)⟩⟩⟩)⟩⟩, by rw [ht]; exact hP, va_K.moved hW.alike hK, hD⟩, hS.F ht⟩) hS.2.2 dX12_force_35
    · have ic47 : r45.toInt ≠ 0 := zi_eqf rfl rfl c47
      replace ic47 : 1 ≤ r45.toInt := by omega
      have p55 : (0) ≤ (v.toInt) ∧ (v.toInt) ≤ (u.toInt) := (tp_cond.yes hw46p) (by omega)
      clear hw46r ic47
      refine lv_iload_n hx hb dX12_force_23 rfl (lv_at hl 3 rfl) ?_
      refine pz_calli (va_runS (As := [.int a]) (rest := []) ⟨hx, hb, hml, hown, hts⟩ (t_X12_isHour l dC dI _ a (a.toInt) rfl) (va_cwS 1 hts gX12_force_X12_isHour rfl rfl rfl pd_X12_isHour ⟨Nat.le_of_ble_eq_true rfl, Nat.le_of_ble_eq_true rfl⟩) ⟨pz_blind, pz_pre pz_P0 (hK.sub (tys' := []) [] rfl) (pz_D0 (A := fun _ => True)) hN⟩ rfl rfl hl.1 rfl (lv_room (Nat.le_of_ble_eq_true rfl)) dX12_force_24 ⟨Nat.le_of_ble_eq_true rfl, Nat.le_of_ble_eq_true rfl⟩) (fun r56 hw57 => ?_)
      obtain ⟨hw57r, hw57p⟩ := hw57
      refine lv_if_ne (tgt := 36) hx hb dX12_force_27 (by decide) (fun c58 => ?_) (fun c58 => ?_)
      · have ic58 : r56.toInt ≠ 0 := zi_ne rfl rfl c58
        replace ic58 : 1 ≤ r56.toInt := by omega
        have p59 : 0 ≤ (a.toInt) ∧ (a.toInt) ≤ 2399 := (tp_cond.yes hw57p) (by omega)
        clear hw57r ic58
        refine lv_aload_n hx hb dX12_force_36 rfl (lv_at hl 0 rfl) ?_
        refine tpk_pos (tp_in hG ht_h0 (by decide)) g32 (fun q60 eq60 => ?_)
        refine va_get (D := (dC, dI)) (ci := 12) (v := .ref (ρ h0 2)) (C := RX12) (T := TX12) (N := 53) hx hb hts hfX12 hown hK hP q60 eq60 rfl 2 (by decide) (hts (.fieldLink RX12 7 "ColdShipsModel" "row" "[I") wa_148) (fun _ h9 => h9) rfl dX12_force_37 ?_
        refine lv_bipush (v := 7) hx hb dX12_force_40 (by decide) ?_
        refine tpk_pos (tp_in hG y1 (by decide)) hf_33 (fun q61 eq61 => ?_)
        refine va_iald hx hb hK hP q61 0 eq61 rfl (vp_in_iff.mpr ⟨by decide, by decide⟩) dX12_force_42 ?_
        refine lv_topi (fun z62 ez62 => ?_)
        have jz62 : z62.toInt = mo_R g27 (7) := mo_rd ez62 (show (7 : Int32).toInt = (7) from by decide)
        have kz62 := hI.k7
        refine lv_bipush (v := 20) hx hb dX12_force_43 (by decide) ?_
        refine lv_icmp_ne (tgt := 55) hx hb dX12_force_45 (by decide) (fun c63 => ?_) (fun c63 => ?_)
        · have ic63 : z62.toInt ≠ 20 := zi_ne rfl rfl c63
          replace ic63 : z62.toInt ≤ 19 := by omega
          refine lv_sipush (v := 2191) hx hb dX12_force_55 (by decide) ?_
          refine lv_iconst (v := 3) hx hb dX12_force_58 (by decide) ?_
          refine lv_aload_n hx hb dX12_force_59 rfl (lv_at hl 0 rfl) ?_
          refine va_get (D := (dC, dI)) (ci := 12) (v := .ref (ρ h0 2)) (C := RX12) (T := TX12) (N := 53) hx hb hts hfX12 hown hK hP q60 eq60 rfl 2 (by decide) (hts (.fieldLink RX12 7 "ColdShipsModel" "row" "[I") wa_148) (fun _ h9 => h9) rfl dX12_force_60 ?_
          refine lv_bipush (v := 7) hx hb dX12_force_63 (by decide) ?_
          refine va_iald hx hb hK hP q61 0 eq61 rfl (vp_in_iff.mpr ⟨by decide, by decide⟩) dX12_force_65 ?_
          refine lv_topi (fun z64 ez64 => ?_)
          have jz64 : z64.toInt = mo_R g27 (7) := mo_rd ez64 (show (7 : Int32).toInt = (7) from by decide)
          have kz64 := hI.k7
          have vz64 : z64.toInt = z62.toInt := jz64.trans (jz62).symm
          refine lv_imul hx hb dX12_force_66 ?_
          refine lv_topi (fun z65 ez65 => ?_)
          have iz65 : z65.toInt = 3 * z64.toInt := zi_mul ez65 rfl rfl (by omega) (by omega)
          refine lv_iadd hx hb dX12_force_67 ?_
          refine lv_topi (fun z66 ez66 => ?_)
          have iz66 : z66.toInt = 2191 + z65.toInt := zi_add ez66 rfl rfl (by omega) (by omega)
          refine lv_istore (lv' := [(4, .int z66), (0, .ref h0), (1, .int v), (2, .int u), (3, .int a)]) hx hb dX12_force_68 hl (by decide) rfl (fun ls hl => ?_)
          refine lv_aload_n hx hb dX12_force_70 rfl (lv_at hl 1 rfl) ?_
          refine va_get (D := (dC, dI)) (ci := 12) (v := .ref (ρ h0 2)) (C := RX12) (T := TX12) (N := 53) hx hb hts hfX12 hown hK hP q60 eq60 rfl 2 (by decide) (hts (.fieldLink RX12 7 "ColdShipsModel" "row" "[I") wa_148) (fun _ h9 => h9) rfl dX12_force_71 ?_
          refine lv_iload hx hb dX12_force_74 (lv_at hl 0 rfl) ?_
          refine lv_iload_n hx hb dX12_force_76 rfl (lv_at hl 2 rfl) ?_
          refine va_iast hx hb hK hP hD hS q61 0 eq61 rfl (vp_in_iff.mpr ⟨by omega, by omega⟩) dX12_force_77 (tp_k (.inl (κ 0, 12967, .inl (upd g27 z66.toNatClampNeg v))) hD (tp_in hG y1 (by decide)) eq61 (fun f67 H locs hP hD hS g69 k68 => ?_))
          have hT := hT.up y1 g69 k68 tp_o32
          have hR := hR.up y1 (by decide) k68
          have hU : mo_U (mo_R g27) (mo_R (upd g27 z66.toNatClampNeg v)) (2191 + 3 * z62.toInt) (v.toInt) := mo_up (by omega) (rfl : v.toInt = _) (by omega)
          generalize (upd g27 z66.toNatClampNeg v) = g70 at g69 hU
          have hI := mo_w_flat hI hU (by omega)
          have hKN := hKN.up hU (Or.inl (by omega))
          have pn71 : mo_R g70 (7) = z62.toInt := (hU.ne (by omega) (by omega)).trans (jz62).symm
          refine lv_aload_n hx hb dX12_force_78 rfl (lv_at hl 1 rfl) ?_
          have hf_72 : f67 h0 = .inr (12, [.int 0, .int o28_x1, .ref (ρ h0 2), .ref (ρ h0 3), .ref (ρ h0 4), .ref (ρ h0 5), .ref (ρ h0 6), .int o28_x7, .ref (ρ h0 8), .int o28_x9, .int o28_x10, .int o28_x11, .int o28_x12, .long o28_x13, .int o28_x14, .int o28_x15, .int o28_x16, .int o28_x17, .int o28_x18, .int o28_x19, .int o28_x20, .ref (ρ h0 21), .int o28_x22, .ref (ρ h0 23), .ref (ρ h0 24), .int o28_x25, .ref (ρ h0 26), .ref (ρ h0 27), .int o28_x28, .int o28_x29, .ref (ρ h0 30), .ref (ρ h0 31), .int o28_x32, .long o28_x33, .long o28_x34, .long o28_x35, .int o28_x36, .int o28_x37, .int o28_x38, .ref (ρ h0 39), .ref (ρ h0 40), .ref (ρ h0 41), .ref (ρ h0 42), .ref (ρ h0 43), .ref (ρ h0 44), .ref (ρ h0 45), .ref (ρ h0 46), .int o28_x47, .int o28_x48, .ref (ρ h0 49), .ref (ρ h0 50), .ref (ρ h0 51), .ref (ρ h0 52)]) := (k68 _ (tp_ne ht_h0 y1 (by decide))).trans g32
          refine tpk_pos (tp_in hG ht_h0 (by decide)) hf_72 (fun q73 eq73 => ?_)
          refine va_get (D := (dC, dI)) (ci := 12) (v := .ref (ρ h0 2)) (C := RX12) (T := TX12) (N := 53) hx hb hts hfX12 hown hK hP q73 eq73 rfl 2 (by decide) (hts (.fieldLink RX12 7 "ColdShipsModel" "row" "[I") wa_148) (fun _ h9 => h9) rfl dX12_force_79 ?_
          refine lv_iload hx hb dX12_force_82 (lv_at hl 0 rfl) ?_
          refine lv_iconst (v := 1) hx hb dX12_force_84 (by decide) ?_
          refine lv_iadd hx hb dX12_force_85 ?_
          refine lv_topi (fun z74 ez74 => ?_)
          have iz74 : z74.toInt = z66.toInt + 1 := zi_add ez74 rfl rfl (by omega) (by omega)
          refine lv_iload_n hx hb dX12_force_86 rfl (lv_at hl 3 rfl) ?_
          refine tpk_pos (tp_in hG y1 (by decide)) g69 (fun q75 eq75 => ?_)
          refine va_iast hx hb hK hP hD hS q75 0 eq75 rfl (vp_in_iff.mpr ⟨by omega, by omega⟩) dX12_force_87 (tp_k (.inl (κ 0, 12967, .inl (upd g70 z74.toNatClampNeg u))) hD (tp_in hG y1 (by decide)) eq75 (fun f76 H locs hP hD hS g78 k77 => ?_))
          have hT := hT.up y1 g78 k77 tp_o32
          have hR := hR.up y1 (by decide) k77
          have hU : mo_U (mo_R g70) (mo_R (upd g70 z74.toNatClampNeg u)) (2192 + 3 * z62.toInt) (u.toInt) := mo_up (by omega) (rfl : u.toInt = _) (by omega)
          generalize (upd g70 z74.toNatClampNeg u) = g79 at g78 hU
          have hI := mo_w_flat hI hU (by omega)
          have hKN := hKN.up hU (Or.inl (by omega))
          have pn80 : mo_R g79 (7) = z62.toInt := (hU.ne (by omega) (by omega)).trans pn71
          refine lv_aload_n hx hb dX12_force_88 rfl (lv_at hl 1 rfl) ?_
          have hf_81 : f76 h0 = .inr (12, [.int 0, .int o28_x1, .ref (ρ h0 2), .ref (ρ h0 3), .ref (ρ h0 4), .ref (ρ h0 5), .ref (ρ h0 6), .int o28_x7, .ref (ρ h0 8), .int o28_x9, .int o28_x10, .int o28_x11, .int o28_x12, .long o28_x13, .int o28_x14, .int o28_x15, .int o28_x16, .int o28_x17, .int o28_x18, .int o28_x19, .int o28_x20, .ref (ρ h0 21), .int o28_x22, .ref (ρ h0 23), .ref (ρ h0 24), .int o28_x25, .ref (ρ h0 26), .ref (ρ h0 27), .int o28_x28, .int o28_x29, .ref (ρ h0 30), .ref (ρ h0 31), .int o28_x32, .long o28_x33, .long o28_x34, .long o28_x35, .int o28_x36, .int o28_x37, .int o28_x38, .ref (ρ h0 39), .ref (ρ h0 40), .ref (ρ h0 41), .ref (ρ h0 42), .ref (ρ h0 43), .ref (ρ h0 44), .ref (ρ h0 45), .ref (ρ h0 46), .int o28_x47, .int o28_x48, .ref (ρ h0 49), .ref (ρ h0 50), .ref (ρ h0 51), .ref (ρ h0 52)]) := (k77 _ (tp_ne ht_h0 y1 (by decide))).trans hf_72
          refine tpk_pos (tp_in hG ht_h0 (by decide)) hf_81 (fun q82 eq82 => ?_)
          refine va_get (D := (dC, dI)) (ci := 12) (v := .ref (ρ h0 2)) (C := RX12) (T := TX12) (N := 53) hx hb hts hfX12 hown hK hP q82 eq82 rfl 2 (by decide) (hts (.fieldLink RX12 7 "ColdShipsModel" "row" "[I") wa_148) (fun _ h9 => h9) rfl dX12_force_89 ?_
          refine lv_iload hx hb dX12_force_92 (lv_at hl 0 rfl) ?_
          refine lv_iconst (v := 2) hx hb dX12_force_94 (by decide) ?_
          refine lv_iadd hx hb dX12_force_95 ?_
          refine lv_topi (fun z83 ez83 => ?_)
          have iz83 : z83.toInt = z66.toInt + 2 := zi_add ez83 rfl rfl (by omega) (by omega)
          refine lv_iload_n hx hb dX12_force_96 rfl (lv_at hl 4 rfl) ?_
          refine tpk_pos (tp_in hG y1 (by decide)) g78 (fun q84 eq84 => ?_)
          refine va_iast hx hb hK hP hD hS q84 0 eq84 rfl (vp_in_iff.mpr ⟨by omega, by omega⟩) dX12_force_97 (tp_k (.inl (κ 0, 12967, .inl (upd g79 z83.toNatClampNeg a))) hD (tp_in hG y1 (by decide)) eq84 (fun f85 H locs hP hD hS g87 k86 => ?_))
          have hT := hT.up y1 g87 k86 tp_o32
          have hR := hR.up y1 (by decide) k86
          have hU : mo_U (mo_R g79) (mo_R (upd g79 z83.toNatClampNeg a)) (2193 + 3 * z62.toInt) (a.toInt) := mo_up (by omega) (rfl : a.toInt = _) (by omega)
          generalize (upd g79 z83.toNatClampNeg a) = g88 at g87 hU
          have hI := mo_w_flat hI hU (by omega)
          have hKN := hKN.up hU (Or.inl (by omega))
          have pn89 : mo_R g88 (7) = z62.toInt := (hU.ne (by omega) (by omega)).trans pn80
          refine lv_aload_n hx hb dX12_force_98 rfl (lv_at hl 1 rfl) ?_
          have hf_90 : f85 h0 = .inr (12, [.int 0, .int o28_x1, .ref (ρ h0 2), .ref (ρ h0 3), .ref (ρ h0 4), .ref (ρ h0 5), .ref (ρ h0 6), .int o28_x7, .ref (ρ h0 8), .int o28_x9, .int o28_x10, .int o28_x11, .int o28_x12, .long o28_x13, .int o28_x14, .int o28_x15, .int o28_x16, .int o28_x17, .int o28_x18, .int o28_x19, .int o28_x20, .ref (ρ h0 21), .int o28_x22, .ref (ρ h0 23), .ref (ρ h0 24), .int o28_x25, .ref (ρ h0 26), .ref (ρ h0 27), .int o28_x28, .int o28_x29, .ref (ρ h0 30), .ref (ρ h0 31), .int o28_x32, .long o28_x33, .long o28_x34, .long o28_x35, .int o28_x36, .int o28_x37, .int o28_x38, .ref (ρ h0 39), .ref (ρ h0 40), .ref (ρ h0 41), .ref (ρ h0 42), .ref (ρ h0 43), .ref (ρ h0 44), .ref (ρ h0 45), .ref (ρ h0 46), .int o28_x47, .int o28_x48, .ref (ρ h0 49), .ref (ρ h0 50), .ref (ρ h0 51), .ref (ρ h0 52)]) := (k86 _ (tp_ne ht_h0 y1 (by decide))).trans hf_81
          refine tpk_pos (tp_in hG ht_h0 (by decide)) hf_90 (fun q91 eq91 => ?_)
          refine va_get (D := (dC, dI)) (ci := 12) (v := .ref (ρ h0 2)) (C := RX12) (T := TX12) (N := 53) hx hb hts hfX12 hown hK hP q91 eq91 rfl 2 (by decide) (hts (.fieldLink RX12 7 "ColdShipsModel" "row" "[I") wa_148) (fun _ h9 => h9) rfl dX12_force_99 ?_
          refine lv_bipush (v := 7) hx hb dX12_force_102 (by decide) ?_
          refine lv_dup2_11 hx hb dX12_force_104 rfl rfl ?_
          refine tpk_pos (tp_in hG y1 (by decide)) g87 (fun q92 eq92 => ?_)
          refine va_iald hx hb hK hP q92 0 eq92 rfl (vp_in_iff.mpr ⟨by decide, by decide⟩) dX12_force_105 ?_
          refine lv_topi (fun z93 ez93 => ?_)
          have jz93 : z93.toInt = mo_R g88 (7) := mo_rd ez93 (show (7 : Int32).toInt = (7) from by decide)
          have kz93 := hI.k7
          have vz93 : z93.toInt = z62.toInt := jz93.trans pn89
          refine lv_iconst (v := 1) hx hb dX12_force_106 (by decide) ?_
          refine lv_iadd hx hb dX12_force_107 ?_
          refine lv_topi (fun z94 ez94 => ?_)
          have iz94 : z94.toInt = z93.toInt + 1 := zi_add ez94 rfl rfl (by omega) (by omega)
          refine va_iast hx hb hK hP hD hS q92 0 eq92 rfl (vp_in_iff.mpr ⟨by decide, by decide⟩) dX12_force_108 (tp_k (.inl (κ 0, 12967, .inl (upd g88 (7 : Int32).toNatClampNeg z94))) hD (tp_in hG y1 (by decide)) eq92 (fun f95 H locs hP hD hS g97 k96 => ?_))
          have hT := hT.up y1 g97 k96 tp_o32
          have hR := hR.up y1 (by decide) k96
          have hU : mo_U (mo_R g88) (mo_R (upd g88 (7 : Int32).toNatClampNeg z94)) (7) (z94.toInt) := mo_up (show (7 : Int32).toInt = (7) from by decide) (rfl : z94.toInt = _) (by omega)
          generalize (upd g88 (7 : Int32).toNatClampNeg z94) = g98 at g97 hU
          have hI := mo_w_cnt hI hU (by omega) (by omega)
          have hKN := hKN.up hU (Or.inr (by show (7) = 7; omega))
          have pn99 : mo_R g98 (7) = z94.toInt := hU.eq (by omega)
          refine lv_aload_n hx hb dX12_force_109 rfl (lv_at hl 1 rfl) ?_
          refine lv_aload_n hx hb dX12_force_110 rfl (lv_at hl 1 rfl) ?_
          have hf_100 : f95 h0 = .inr (12, [.int 0, .int o28_x1, .ref (ρ h0 2), .ref (ρ h0 3), .ref (ρ h0 4), .ref (ρ h0 5), .ref (ρ h0 6), .int o28_x7, .ref (ρ h0 8), .int o28_x9, .int o28_x10, .int o28_x11, .int o28_x12, .long o28_x13, .int o28_x14, .int o28_x15, .int o28_x16, .int o28_x17, .int o28_x18, .int o28_x19, .int o28_x20, .ref (ρ h0 21), .int o28_x22, .ref (ρ h0 23), .ref (ρ h0 24), .int o28_x25, .ref (ρ h0 26), .ref (ρ h0 27), .int o28_x28, .int o28_x29, .ref (ρ h0 30), .ref (ρ h0 31), .int o28_x32, .long o28_x33, .long o28_x34, .long o28_x35, .int o28_x36, .int o28_x37, .int o28_x38, .ref (ρ h0 39), .ref (ρ h0 40), .ref (ρ h0 41), .ref (ρ h0 42), .ref (ρ h0 43), .ref (ρ h0 44), .ref (ρ h0 45), .ref (ρ h0 46), .int o28_x47, .int o28_x48, .ref (ρ h0 49), .ref (ρ h0 50), .ref (ρ h0 51), .ref (ρ h0 52)]) := (k96 _ (tp_ne ht_h0 y1 (by decide))).trans hf_90
          refine tpk_pos (tp_in hG ht_h0 (by decide)) hf_100 (fun q101 eq101 => ?_)
          refine va_get (D := (dC, dI)) (ci := 12) (v := .ref (ρ h0 2)) (C := RX12) (T := TX12) (N := 53) hx hb hts hfX12 hown hK hP q101 eq101 rfl 2 (by decide) (hts (.fieldLink RX12 7 "ColdShipsModel" "row" "[I") wa_148) (fun _ h9 => h9) rfl dX12_force_111 ?_
          refine lv_bipush (v := 7) hx hb dX12_force_114 (by decide) ?_
          refine tpk_pos (tp_in hG y1 (by decide)) g97 (fun q102 eq102 => ?_)
          refine va_iald hx hb hK hP q102 0 eq102 rfl (vp_in_iff.mpr ⟨by decide, by decide⟩) dX12_force_116 ?_
          refine lv_topi (fun z103 ez103 => ?_)
          have jz103 : z103.toInt = mo_R g98 (7) := mo_rd ez103 (show (7 : Int32).toInt = (7) from by decide)
          have kz103 := hI.k7
          have vz103 : z103.toInt = z94.toInt := jz103.trans pn99
          have hFc := tp_fr hD hS hA
          refine va_calli (va_runV (As := [.int z103]) (rest := []) ⟨hx, hb, hml, hown, hts⟩ (t_X12_told l dC dI _ κ Θ τ ν ρ L f95 hG hT h0 z103 ht_h0) (cwV 1 hts gX12_force_X12_told rfl rfl rfl ⟨rfl, pd_X12_told⟩ ⟨Nat.le_of_ble_eq_true rfl, Nat.le_of_ble_eq_true rfl⟩) ⟨pz_blind, va_recv hK hP (ci := 12) (q0 := q101) rfl eq101, pz_pre hP hK hD hN⟩ rfl rfl hl.1 rfl (lv_room (Nat.le_of_ble_eq_true rfl)) dX12_force_117 ⟨Nat.le_of_ble_eq_true rfl, Nat.le_of_ble_eq_true rfl⟩) hS (fun q _ h => hFc q h) hFc (fun r104 f106 t H1 locs ht hvm hw105 hB hz1 hk1 hS => ?_)
          refine tn_4 hw105 (fun hT hF107 hw105r hw105p => ?_); clear hw105
          have hR := hR.then hF107 (by decide)
          have hP := hB.1; rw [ht] at hP; have hD := tp_ad f106 hD; clear hB hFc hz1 hk1; subst ht; generalize t.heap = H at hP hS ⊢
          have hw105pq : r104.toInt = z103.toInt := by rw [hw105p]
          have hf_108 : f106 (ρ h0 2) = .inl (κ 0, 12967, .inl g98) := (hF107 _ (by rw [tp_iu y1]; decide)).trans g97
          exact W.iret (v := r104) hx hb hr (fun t ht hW => ⟨⟨r104, f106, rfl, ⟨hT, hR, trivial, ⟨(by rw [hf_108, mo_i1]; exact hI), (by rw [hf_108, mo_i1, hf_o26, mo_i1]; exact hKN), (by simp only [hf_108, hf_o26, mo_i1]; exact ⟨⟨fun q0 => by omega, fun q0 => ⟨fun q1 => by omega, fun q1 => (by omega)⟩⟩, ⟨fun q0 => by omega, fun q0 => ⟨fun q1 => by omega, fun q1 => (by omega)⟩⟩⟩)⟩⟩, by rw [ht]; exact hP, va_K.moved hW.alike hK, hD⟩, hS.F ht⟩) hS.2.2 dX12_force_120
        · have ic63 : z62.toInt = 20 := zi_nef rfl rfl c63
          refine lv_aload_n hx hb dX12_force_48 rfl (lv_at hl 0 rfl) ?_
          refine lv_bipush (v := (-5)) hx hb dX12_force_49 (by decide) ?_
          have hFc := tp_fr hD hS hA
          refine va_calli (va_runV (As := [.int (-5)]) (rest := []) ⟨hx, hb, hml, hown, hts⟩ (t_X12_told l dC dI _ κ Θ τ ν ρ L f30 hG hT h0 ((-5)) ht_h0) (cwV 1 hts gX12_force_X12_told rfl rfl rfl ⟨rfl, pd_X12_told⟩ ⟨Nat.le_of_ble_eq_true rfl, Nat.le_of_ble_eq_true rfl⟩) ⟨pz_blind, va_recv hK hP (ci := 12) (q0 := q60) rfl eq60, pz_pre hP hK hD hN⟩ rfl rfl hl.1 rfl (lv_room (Nat.le_of_ble_eq_true rfl)) dX12_force_51 ⟨Nat.le_of_ble_eq_true rfl, Nat.le_of_ble_eq_true rfl⟩) hS (fun q _ h => hFc q h) hFc (fun r109 f111 t H1 locs ht hvm hw110 hB hz1 hk1 hS => ?_)
          refine tn_4 hw110 (fun hT hF112 hw110r hw110p => ?_); clear hw110
          have hR := hR.then hF112 (by decide)
          have hP := hB.1; rw [ht] at hP; have hD := tp_ad f111 hD; clear hB hFc hz1 hk1; subst ht; generalize t.heap = H at hP hS ⊢
          have hw110pq : r109.toInt = (-5) := by rw [hw110p]; rfl
          have hf_113 : f111 (ρ h0 2) = .inl (κ 0, 12967, .inl g27) := (hF112 _ (by rw [tp_iu y1]; decide)).trans hf_33
          exact W.iret (v := r109) hx hb hr (fun t ht hW => ⟨⟨r109, f111, rfl, ⟨hT, hR, trivial, ⟨(by rw [hf_113, mo_i1]; exact hI), (by rw [hf_113, mo_i1, hf_o26, mo_i1]; exact hKN), (by simp only [hf_113, hf_o26, mo_i1]; exact ⟨⟨fun q0 => by omega, fun q0 => ⟨fun q1 => by omega, fun q1 => (by omega)⟩⟩, ⟨fun q0 => by omega, fun q0 => ⟨fun q1 => by omega, fun q1 => (by omega)⟩⟩⟩)⟩⟩, by rw [ht]; exact hP, va_K.moved hW.alike hK, hD⟩, hS.F ht⟩) hS.2.2 dX12_force_54
      · have ic58 : r56.toInt = 0 := zi_nef rfl rfl c58
        have p114 : ¬ (0 ≤ (a.toInt) ∧ (a.toInt) ≤ 2399) := (tp_cond.no hw57p) (by omega)
        clear hw57r ic58
        refine lv_aload_n hx hb dX12_force_30 rfl (lv_at hl 0 rfl) ?_
        refine lv_iconst (v := (-1)) hx hb dX12_force_31 (by decide) ?_
        refine tpk_pos (tp_in hG ht_h0 (by decide)) g32 (fun q115 eq115 => ?_)
        have hFc := tp_fr hD hS hA
        refine va_calli (va_runV (As := [.int (-1)]) (rest := []) ⟨hx, hb, hml, hown, hts⟩ (t_X12_told l dC dI _ κ Θ τ ν ρ L f30 hG hT h0 ((-1)) ht_h0) (cwV 1 hts gX12_force_X12_told rfl rfl rfl ⟨rfl, pd_X12_told⟩ ⟨Nat.le_of_ble_eq_true rfl, Nat.le_of_ble_eq_true rfl⟩) ⟨pz_blind, va_recv hK hP (ci := 12) (q0 := q115) rfl eq115, pz_pre hP hK hD hN⟩ rfl rfl hl.1 rfl (lv_room (Nat.le_of_ble_eq_true rfl)) dX12_force_32 ⟨Nat.le_of_ble_eq_true rfl, Nat.le_of_ble_eq_true rfl⟩) hS (fun q _ h => hFc q h) hFc (fun r116 f118 t H1 locs ht hvm hw117 hB hz1 hk1 hS => ?_)
        refine tn_4 hw117 (fun hT hF119 hw117r hw117p => ?_); clear hw117
        have hR := hR.then hF119 (by decide)
        have hP := hB.1; rw [ht] at hP; have hD := tp_ad f118 hD; clear hB hFc hz1 hk1; subst ht; generalize t.heap = H at hP hS ⊢
        have hw117pq : r116.toInt = (-1) := by rw [hw117p]; rfl
        have hf_120 : f118 (ρ h0 2) = .inl (κ 0, 12967, .inl g27) := (hF119 _ (by rw [tp_iu y1]; decide)).trans hf_33
        exact W.iret (v := r116) hx hb hr (fun t ht hW => ⟨⟨r116, f118, rfl, ⟨hT, hR, trivial, ⟨(by rw [hf_120, mo_i1]; exact hI), (by rw [hf_120, mo_i1, hf_o26, mo_i1]; exact hKN), (by simp only [hf_120, hf_o26, mo_i1]; exact ⟨⟨fun q0 => by omega, fun q0 => ⟨fun q1 => by omega, fun q1 => (by omega)⟩⟩, ⟨fun q0 => by omega, fun q0 => ⟨fun q1 => by omega, fun q1 => (by omega)⟩⟩⟩)⟩⟩, by rw [ht]; exact hP, va_K.moved hW.alike hK, hD⟩, hS.F ht⟩) hS.2.2 dX12_force_35
set_option maxHeartbeats 4000000 in
set_option maxRecDepth 100000 in
theorem t_X12_bill (l : Launch) (dC : Nat → ClassId) (dI : Nat → Nat → Nat) (sz : Nat) (κ : Nat → ClassId) (Θ : Nat → Option Int) (τ ν : Nat → Nat) (ρ : Nat → Nat → Nat) (L : List Nat) (f : Nat → va_E) (hG : tp_G τ ν ρ L) (hT : tp_T (mo_O κ Θ) κ τ ν ρ f) (h0 : Nat) (v : Int32) (u : Int32) (ht_h0 : τ h0 = 13) (hJ : mo_RI (-1) 0 (mo_R (mo_i (f (ρ h0 2))))) : Met l yX12_bill wqX12_bill ({ frames := 4, cells := 0, slots := 0, locals := 1200 }) (va_Pc [.ref h0, .int v, .int u] (pz_B dC dI (tp_K κ) (va_pl L f) sz)) (va_Qi (fun (r : Int32) (f1 : Nat → va_E) => tp_T (mo_O κ Θ) κ τ ν ρ f1 ∧ tp_F τ [13, 32] f f1 ∧ True ∧ mo_RI (-1) 0 (mo_R (mo_i (f1 (ρ h0 2)))) ∧ mo_KN (fun k => False) (mo_R (mo_i (f (ρ h0 2)))) (mo_R (mo_i (f1 (ρ h0 2))))) (fun (f1 : Nat → va_E) (t : State) => pz_E dC dI (tp_K κ) (va_A (va_pl L f) sz) (va_pl L f1) t) (va_A (va_pl L f) sz)) 0 0 (va_A (va_pl L f) sz) := by
  refine Met.ofW (cc := cX12_bill) (maxL := 3) (ret := some .int) (by decide) rfl ?_
  intro p e s m args below meth c s₁ B hml hv
  obtain ⟨rfl, hsz, hP, hK, hD0, hN⟩ := hv
  have hx := B.exec
  have hb := B.bytes
  have hr := B.returns
  have hts := fun (w : Cond) (h : w ∈ WALL) => atoms_spec (ws := wqX12_bill) B.pre w (List.mem_cons_of_mem _ h)
  have hown : s.vm.findClass RX12 = some m.cls := findClass_of_methodNamed B.named
  have hlocks := B.notSynchronized
  subst hsz
  have hD := hD0.self (sz := s.heap.size)
  generalize hAe : va_A (va_pl L f) s.heap.size = A at hD ⊢
  have hA : ∀ q : Nat, s.heap.size ≤ q → A q := fun q h => by rw [← hAe]; exact Or.inr h
  have hS : va_S A s.heap s.heap [] := va_S.rf
  have hR : tp_F τ [13, 32] f f := tp_F.rf
  have hl := lv_entry ([.ref h0, .int v, .int u]) (n := 3) (Nat.le_of_ble_eq_true rfl)
  rw [lg_entry_eq]
  generalize (lg_sl ([.ref h0, .int v, .int u]) ++ List.replicate (3 - (lg_sl ([.ref h0, .int v, .int u])).length) Slot.unset).toArray = ls at hl ⊢
  have hl : lv_has ls 3 [(0, .ref h0), (1, .int v), (2, .int u)] := hl
  refine tgk_13 hG ht_h0 (fun y1 y2 y3 y4 y5 y6 y7 y8 y9 y10 y11 y12 y13 y14 y15 y16 y17 y18 y19 y20 y21 y22 y23 y24 y25 => ?_)
  refine tpk_32 hT y1 (fun g27 hf_o26 => ?_)
  have hI : mo_RI (-1) 0 (mo_R g27) := by have q9 := hJ; rw [hf_o26, mo_i1] at q9; exact q9
  have hKN : mo_KN (fun k => False) (mo_R g27) (mo_R g27) := mo_KN.rf
  refine lv_aload_n hx hb dX12_bill_0 rfl (lv_at hl 0 rfl) ?_
  refine lv_iconst (v := 0) hx hb dX12_bill_1 (by decide) ?_
  refine tpk_13 hT ht_h0 (fun o28_x0 o28_x1 o28_x7 o28_x9 o28_x10 o28_x11 o28_x12 o28_x13 o28_x14 o28_x15 o28_x16 o28_x17 o28_x18 o28_x19 o28_x20 o28_x22 o28_x25 o28_x28 o28_x29 o28_x32 o28_x33 o28_x34 o28_x35 o28_x36 o28_x37 o28_x38 o28_x47 o28_x48 hf_o28 ro28_0 ro28_1 ro28_2 ro28_3 ro28_4 ro28_5 ro28_6 ro28_7 ro28_8 ro28_9 ro28_10 ro28_11 ro28_12 ro28_13 ro28_14 => ?_)
  refine tpk_pos (tp_in hG ht_h0 (by decide)) hf_o28 (fun q29 eq29 => ?_)
  refine va_put (D := (dC, dI)) (ci := 12) (v := .int 0) (ty := .int) (C := RX12) (T := TX12) (N := 53) hx hb hts hfX12 tyX12 tyX12_ok nmX12 hown hK hP hD hS q29 eq29 rfl 0 (by decide) (hts (.fieldLink RX12 91 "ColdShipsModel" "thrown" "I") wa_209) (fun _ h9 => h9) rfl (tyX12_ok 0 (by decide)) rfl rfl (Nat.le_of_ble_eq_true rfl) dX12_bill_2 (tp_k (.inr (12, [.int 0, .int o28_x1, .ref (ρ h0 2), .ref (ρ h0 3), .ref (ρ h0 4), .ref (ρ h0 5), .ref (ρ h0 6), .int o28_x7, .ref (ρ h0 8), .int o28_x9, .int o28_x10, .int o28_x11, .int o28_x12, .long o28_x13, .int o28_x14, .int o28_x15, .int o28_x16, .int o28_x17, .int o28_x18, .int o28_x19, .int o28_x20, .ref (ρ h0 21), .int o28_x22, .ref (ρ h0 23), .ref (ρ h0 24), .int o28_x25, .ref (ρ h0 26), .ref (ρ h0 27), .int o28_x28, .int o28_x29, .ref (ρ h0 30), .ref (ρ h0 31), .int o28_x32, .long o28_x33, .long o28_x34, .long o28_x35, .int o28_x36, .int o28_x37, .int o28_x38, .ref (ρ h0 39), .ref (ρ h0 40), .ref (ρ h0 41), .ref (ρ h0 42), .ref (ρ h0 43), .ref (ρ h0 44), .ref (ρ h0 45), .ref (ρ h0 46), .int o28_x47, .int o28_x48, .ref (ρ h0 49), .ref (ρ h0 50), .ref (ρ h0 51), .ref (ρ h0 52)])) hD (tp_in hG ht_h0 (by decide)) eq29 (fun f30 H locs hP hD hS g32 k31 => ?_))
  have hT := hT.up ht_h0 g32 k31 ⟨_, _, _, _, _, _, _, _, _, _, _, _, _, _, _, _, _, _, _, _, _, _, _, _, _, _, _, _, rfl, ro28_0, ro28_1, ro28_2, ro28_3, ro28_4, ro28_5, ro28_6, ro28_7, ro28_8, ro28_9, ro28_10, ro28_11, ro28_12, ro28_13, ro28_14⟩
  have hR := hR.up ht_h0 (by decide) k31
  refine lv_iload_n hx hb dX12_bill_5 rfl (lv_at hl 2 rfl) ?_
  refine lv_i2l hx hb dX12_bill_6 rfl ?_
  refine lv_lconst (v := 0) hx hb dX12_bill_7 (by decide) ?_
  refine lv_ldc2 (own := RX12) (v := 200000) hx hb hown (hts (.constantLong RX12 124 (200000)) wa_272) dX12_bill_8 ?_
  have hf_33 : f30 (ρ h0 2) = .inl (κ 0, 12967, .inl g27) := (k31 _ (tp_ne y1 ht_h0 (by decide))).trans hf_o26
  refine pz_calli (va_runS (As := [.long u.toInt64, .long 0, .long 200000]) (rest := []) ⟨hx, hb, hml, hown, hts⟩ (t_X12_in l dC dI _ u.toInt64 (0) (200000) (u.toInt) (0) (200000) (Int32.toInt_toInt64 u) rfl rfl) (va_cwS 3 hts gX12_bill_X12_in rfl rfl rfl pd_X12_in ⟨Nat.le_of_ble_eq_true rfl, Nat.le_of_ble_eq_true rfl⟩) ⟨pz_blind, pz_pre pz_P0 (hK.sub (tys' := []) [] rfl) (pz_D0 (A := fun _ => True)) hN⟩ rfl rfl hl.1 rfl (lv_room (Nat.le_of_ble_eq_true rfl)) dX12_bill_11 ⟨Nat.le_of_ble_eq_true rfl, Nat.le_of_ble_eq_true rfl⟩) (fun r34 hw35 => ?_)
  obtain ⟨hw35r, hw35p⟩ := hw35
  refine lv_if_ne (tgt := 23) hx hb dX12_bill_14 (by decide) (fun c36 => ?_) (fun c36 => ?_)
  · have ic36 : r34.toInt ≠ 0 := zi_ne rfl rfl c36
    replace ic36 : 1 ≤ r34.toInt := by omega
    have p37 : (0) ≤ (u.toInt) ∧ (u.toInt) ≤ (200000) := (tp_cond.yes hw35p) (by omega)
    clear hw35r ic36
    refine lv_aload_n hx hb dX12_bill_23 rfl (lv_at hl 0 rfl) ?_
    refine lv_iload_n hx hb dX12_bill_24 rfl (lv_at hl 1 rfl) ?_
    refine tpk_pos (tp_in hG ht_h0 (by decide)) g32 (fun q38 eq38 => ?_)
    refine pz_calli (va_runV (As := [.int v]) (rest := []) ⟨hx, hb, hml, hown, hts⟩ (t_X12_isLanding l dC dI _ κ Θ τ ν ρ L f30 hG hT h0 v (-1) 0 ht_h0 (by omega) (by rw [hf_33, mo_i1]; exact hI)) (cwV 1 hts gX12_bill_X12_isLanding rfl rfl rfl ⟨rfl, pd_X12_isLanding⟩ ⟨Nat.le_of_ble_eq_true rfl, Nat.le_of_ble_eq_true rfl⟩) ⟨pz_blind, va_recv hK hP (ci := 12) (q0 := q38) rfl eq38, pz_pre hP hK hD hN⟩ rfl rfl hl.1 rfl (lv_room (Nat.le_of_ble_eq_true rfl)) dX12_bill_25 ⟨Nat.le_of_ble_eq_true rfl, Nat.le_of_ble_eq_true rfl⟩) (fun r39 hw40 => ?_)
    obtain ⟨hw40r, hw40p⟩ := hw40
    have := hI.k5
    rw [hf_33, mo_i1] at hw40p
    refine lv_if_ne (tgt := 38) hx hb dX12_bill_28 (by decide) (fun c41 => ?_) (fun c41 => ?_)
    · have ic41 : r39.toInt ≠ 0 := zi_ne rfl rfl c41
      replace ic41 : 1 ≤ r39.toInt := by omega
      have p42 : 0 ≤ v.toInt ∧ v.toInt < mo_R g27 5 := (tp_cond.yes hw40p) (by omega)
      clear hw40r ic41
      refine lv_aload_n hx hb dX12_bill_38 rfl (lv_at hl 0 rfl) ?_
      refine va_get (D := (dC, dI)) (ci := 12) (v := .ref (ρ h0 2)) (C := RX12) (T := TX12) (N := 53) hx hb hts hfX12 hown hK hP q38 eq38 rfl 2 (by decide) (hts (.fieldLink RX12 7 "ColdShipsModel" "row" "[I") wa_148) (fun _ h9 => h9) rfl dX12_bill_39 ?_
      refine lv_iload_n hx hb dX12_bill_42 rfl (lv_at hl 1 rfl) ?_
      refine pz_calli (va_runS (As := [.int v]) (rest := [.ref (ρ h0 2)]) ⟨hx, hb, hml, hown, hts⟩ (t_X12_landingAt l dC dI _ v (v.toInt) (by omega) rfl) (va_cwS 1 hts gX12_bill_X12_landingAt rfl rfl rfl pd_X12_landingAt ⟨Nat.le_of_ble_eq_true rfl, Nat.le_of_ble_eq_true rfl⟩) ⟨pz_blind, pz_pre pz_P0 (hK.sub (tys' := []) [] rfl) (pz_D0 (A := fun _ => True)) hN⟩ rfl rfl hl.1 rfl (lv_room (Nat.le_of_ble_eq_true rfl)) dX12_bill_43 ⟨Nat.le_of_ble_eq_true rfl, Nat.le_of_ble_eq_true rfl⟩) (fun r43 hw44 => ?_)
      obtain ⟨hw44r, hw44p⟩ := hw44
      refine lv_bipush (v := 11) hx hb dX12_bill_46 (by decide) ?_
      refine lv_iadd hx hb dX12_bill_48 ?_
      refine lv_topi (fun z45 ez45 => ?_)
      have iz45 : z45.toInt = r43.toInt + 11 := zi_add ez45 rfl rfl (by omega) (by omega)
      refine tpk_pos (tp_in hG y1 (by decide)) hf_33 (fun q46 eq46 => ?_)
      refine va_iald hx hb hK hP q46 0 eq46 rfl (vp_in_iff.mpr ⟨by omega, by omega⟩) dX12_bill_49 ?_
      refine lv_topi (fun z47 ez47 => ?_)
      refine lv_iconst (v := (-1)) hx hb dX12_bill_50 (by decide) ?_
      refine lv_icmp_eq (tgt := 61) hx hb dX12_bill_51 (by decide) (fun c48 => ?_) (fun c48 => ?_)
      · have ic48 : z47.toInt = (-1) := zi_eq rfl rfl c48
        refine lv_aload_n hx hb dX12_bill_61 rfl (lv_at hl 0 rfl) ?_
        refine va_get (D := (dC, dI)) (ci := 12) (v := .ref (ρ h0 2)) (C := RX12) (T := TX12) (N := 53) hx hb hts hfX12 hown hK hP q38 eq38 rfl 2 (by decide) (hts (.fieldLink RX12 7 "ColdShipsModel" "row" "[I") wa_148) (fun _ h9 => h9) rfl dX12_bill_62 ?_
        refine lv_iload_n hx hb dX12_bill_65 rfl (lv_at hl 1 rfl) ?_
        refine pz_calli (va_runS (As := [.int v]) (rest := [.ref (ρ h0 2)]) ⟨hx, hb, hml, hown, hts⟩ (t_X12_landingAt l dC dI _ v (v.toInt) (by omega) rfl) (va_cwS 1 hts gX12_bill_X12_landingAt rfl rfl rfl pd_X12_landingAt ⟨Nat.le_of_ble_eq_true rfl, Nat.le_of_ble_eq_true rfl⟩) ⟨pz_blind, pz_pre pz_P0 (hK.sub (tys' := []) [] rfl) (pz_D0 (A := fun _ => True)) hN⟩ rfl rfl hl.1 rfl (lv_room (Nat.le_of_ble_eq_true rfl)) dX12_bill_66 ⟨Nat.le_of_ble_eq_true rfl, Nat.le_of_ble_eq_true rfl⟩) (fun r49 hw50 => ?_)
        obtain ⟨hw50r, hw50p⟩ := hw50
        refine lv_bipush (v := 11) hx hb dX12_bill_69 (by decide) ?_
        refine lv_iadd hx hb dX12_bill_71 ?_
        refine lv_topi (fun z51 ez51 => ?_)
        have iz51 : z51.toInt = r49.toInt + 11 := zi_add ez51 rfl rfl (by omega) (by omega)
        refine lv_iload_n hx hb dX12_bill_72 rfl (lv_at hl 2 rfl) ?_
        refine va_iast hx hb hK hP hD hS q46 0 eq46 rfl (vp_in_iff.mpr ⟨by omega, by omega⟩) dX12_bill_73 (tp_k (.inl (κ 0, 12967, .inl (upd g27 z51.toNatClampNeg u))) hD (tp_in hG y1 (by decide)) eq46 (fun f52 H locs hP hD hS g54 k53 => ?_))
        have hT := hT.up y1 g54 k53 tp_o32
        have hR := hR.up y1 (by decide) k53
        have hU : mo_U (mo_R g27) (mo_R (upd g27 z51.toNatClampNeg u)) (1051 + 16 * v.toInt + 11) (u.toInt) := mo_up (by omega) (rfl : u.toInt = _) (by omega)
        generalize (upd g27 z51.toNatClampNeg u) = g55 at g54 hU
        have hI := mo_w_land hI hU v.toInt (11) (by omega) (by omega) (by omega)
        have hKN := hKN.up hU (Or.inl (by omega))
        refine lv_aload_n hx hb dX12_bill_74 rfl (lv_at hl 0 rfl) ?_
        refine lv_iconst (v := 0) hx hb dX12_bill_75 (by decide) ?_
        have hf_56 : f52 h0 = .inr (12, [.int 0, .int o28_x1, .ref (ρ h0 2), .ref (ρ h0 3), .ref (ρ h0 4), .ref (ρ h0 5), .ref (ρ h0 6), .int o28_x7, .ref (ρ h0 8), .int o28_x9, .int o28_x10, .int o28_x11, .int o28_x12, .long o28_x13, .int o28_x14, .int o28_x15, .int o28_x16, .int o28_x17, .int o28_x18, .int o28_x19, .int o28_x20, .ref (ρ h0 21), .int o28_x22, .ref (ρ h0 23), .ref (ρ h0 24), .int o28_x25, .ref (ρ h0 26), .ref (ρ h0 27), .int o28_x28, .int o28_x29, .ref (ρ h0 30), .ref (ρ h0 31), .int o28_x32, .long o28_x33, .long o28_x34, .long o28_x35, .int o28_x36, .int o28_x37, .int o28_x38, .ref (ρ h0 39), .ref (ρ h0 40), .ref (ρ h0 41), .ref (ρ h0 42), .ref (ρ h0 43), .ref (ρ h0 44), .ref (ρ h0 45), .ref (ρ h0 46), .int o28_x47, .int o28_x48, .ref (ρ h0 49), .ref (ρ h0 50), .ref (ρ h0 51), .ref (ρ h0 52)]) := (k53 _ (tp_ne ht_h0 y1 (by decide))).trans g32
        refine tpk_pos (tp_in hG ht_h0 (by decide)) hf_56 (fun q57 eq57 => ?_)
        have hFc := tp_fr hD hS hA
        refine va_calli (va_runV (As := [.int 0]) (rest := []) ⟨hx, hb, hml, hown, hts⟩ (t_X12_told l dC dI _ κ Θ τ ν ρ L f52 hG hT h0 (0) ht_h0) (cwV 1 hts gX12_bill_X12_told rfl rfl rfl ⟨rfl, pd_X12_told⟩ ⟨Nat.le_of_ble_eq_true rfl, Nat.le_of_ble_eq_true rfl⟩) ⟨pz_blind, va_recv hK hP (ci := 12) (q0 := q57) rfl eq57, pz_pre hP hK hD hN⟩ rfl rfl hl.1 rfl (lv_room (Nat.le_of_ble_eq_true rfl)) dX12_bill_76 ⟨Nat.le_of_ble_eq_true rfl, Nat.le_of_ble_eq_true rfl⟩) hS (fun q _ h => hFc q h) hFc (fun r58 f60 t H1 locs ht hvm hw59 hB hz1 hk1 hS => ?_)
        refine tn_4 hw59 (fun hT hF61 hw59r hw59p => ?_); clear hw59
        have hR := hR.then hF61 (by decide)
        have hP := hB.1; rw [ht] at hP; have hD := tp_ad f60 hD; clear hB hFc hz1 hk1; subst ht; generalize t.heap = H at hP hS ⊢
        have hw59pq : r58.toInt = 0 := by rw [hw59p]; rfl
        have hf_62 : f60 (ρ h0 2) = .inl (κ 0, 12967, .inl g55) := (hF61 _ (by rw [tp_iu y1]; decide)).trans g54
        exact W.iret (v := r58) hx hb hr (fun t ht hW => ⟨⟨r58, f60, rfl, ⟨hT, hR, trivial, ⟨(by rw [hf_62, mo_i1]; exact hI), (by rw [hf_62, mo_i1, hf_o26, mo_i1]; exact hKN)⟩⟩, by rw [ht]; exact hP, va_K.moved hW.alike hK, hD⟩, hS.F ht⟩) hS.2.2 dX12_bill_79
      · have ic48 : z47.toInt ≠ (-1) := zi_eqf rfl rfl c48
        refine lv_aload_n hx hb dX12_bill_54 rfl (lv_at hl 0 rfl) ?_
        refine lv_bipush (v := (-4)) hx hb dX12_bill_55 (by decide) ?_
        have hFc := tp_fr hD hS hA
        refine va_calli (va_runV (As := [.int (-4)]) (rest := []) ⟨hx, hb, hml, hown, hts⟩ (t_X12_told l dC dI _ κ Θ τ ν ρ L f30 hG hT h0 ((-4)) ht_h0) (cwV 1 hts gX12_bill_X12_told rfl rfl rfl ⟨rfl, pd_X12_told⟩ ⟨Nat.le_of_ble_eq_true rfl, Nat.le_of_ble_eq_true rfl⟩) ⟨pz_blind, va_recv hK hP (ci := 12) (q0 := q38) rfl eq38, pz_pre hP hK hD hN⟩ rfl rfl hl.1 rfl (lv_room (Nat.le_of_ble_eq_true rfl)) dX12_bill_57 ⟨Nat.le_of_ble_eq_true rfl, Nat.le_of_ble_eq_true rfl⟩) hS (fun q _ h => hFc q h) hFc (fun r63 f65 t H1 locs ht hvm hw64 hB hz1 hk1 hS => ?_)
        refine tn_4 hw64 (fun hT hF66 hw64r hw64p => ?_); clear hw64
        have hR := hR.then hF66 (by decide)
        have hP := hB.1; rw [ht] at hP; have hD := tp_ad f65 hD; clear hB hFc hz1 hk1; subst ht; generalize t.heap = H at hP hS ⊢
        have hw64pq : r63.toInt = (-4) := by rw [hw64p]; rfl
        have hf_67 : f65 (ρ h0 2) = .inl (κ 0, 12967, .inl g27) := (hF66 _ (by rw [tp_iu y1]; decide)).trans hf_33
        exact W.iret (v := r63) hx hb hr (fun t ht hW => ⟨⟨r63, f65, rfl, ⟨hT, hR, trivial, ⟨(by rw [hf_67, mo_i1]; exact hI), (by rw [hf_67, mo_i1, hf_o26, mo_i1]; exact hKN)⟩⟩, by rw [ht]; exact hP, va_K.moved hW.alike hK, hD⟩, hS.F ht⟩) hS.2.2 dX12_bill_60
    · have ic41 : r39.toInt = 0 := zi_nef rfl rfl c41
      clear hw40r ic41
      refine lv_aload_n hx hb dX12_bill_31 rfl (lv_at hl 0 rfl) ?_
      refine lv_bipush (v := (-2)) hx hb dX12_bill_32 (by decide) ?_
      have hFc := tp_fr hD hS hA
      refine va_calli (va_runV (As := [.int (-2)]) (rest := []) ⟨hx, hb, hml, hown, hts⟩ (t_X12_told l dC dI _ κ Θ τ ν ρ L f30 hG hT h0 ((-2)) ht_h0) (cwV 1 hts gX12_bill_X12_told rfl rfl rfl ⟨rfl, pd_X12_told⟩ ⟨Nat.le_of_ble_eq_true rfl, Nat.le_of_ble_eq_true rfl⟩) ⟨pz_blind, va_recv hK hP (ci := 12) (q0 := q38) rfl eq38, pz_pre hP hK hD hN⟩ rfl rfl hl.1 rfl (lv_room (Nat.le_of_ble_eq_true rfl)) dX12_bill_34 ⟨Nat.le_of_ble_eq_true rfl, Nat.le_of_ble_eq_true rfl⟩) hS (fun q _ h => hFc q h) hFc (fun r68 f70 t H1 locs ht hvm hw69 hB hz1 hk1 hS => ?_)
      refine tn_4 hw69 (fun hT hF71 hw69r hw69p => ?_); clear hw69
      have hR := hR.then hF71 (by decide)
      have hP := hB.1; rw [ht] at hP; have hD := tp_ad f70 hD; clear hB hFc hz1 hk1; subst ht; generalize t.heap = H at hP hS ⊢
      have hw69pq : r68.toInt = (-2) := by rw [hw69p]; rfl
      have hf_72 : f70 (ρ h0 2) = .inl (κ 0, 12967, .inl g27) := (hF71 _ (by rw [tp_iu y1]; decide)).trans hf_33
      exact W.iret (v := r68) hx hb hr (fun t ht hW => ⟨⟨r68, f70, rfl, ⟨hT, hR, trivial, ⟨(by rw [hf_72, mo_i1]; exact hI), (by rw [hf_72, mo_i1, hf_o26, mo_i1]; exact hKN)⟩⟩, by rw [ht]; exact hP, va_K.moved hW.alike hK, hD⟩, hS.F ht⟩) hS.2.2 dX12_bill_37
  · have ic36 : r34.toInt = 0 := zi_nef rfl rfl c36
    clear hw35r ic36
    refine lv_aload_n hx hb dX12_bill_17 rfl (lv_at hl 0 rfl) ?_
    refine lv_iconst (v := (-1)) hx hb dX12_bill_18 (by decide) ?_
    refine tpk_pos (tp_in hG ht_h0 (by decide)) g32 (fun q73 eq73 => ?_)
    have hFc := tp_fr hD hS hA
    refine va_calli (va_runV (As := [.int (-1)]) (rest := []) ⟨hx, hb, hml, hown, hts⟩ (t_X12_told l dC dI _ κ Θ τ ν ρ L f30 hG hT h0 ((-1)) ht_h0) (cwV 1 hts gX12_bill_X12_told rfl rfl rfl ⟨rfl, pd_X12_told⟩ ⟨Nat.le_of_ble_eq_true rfl, Nat.le_of_ble_eq_true rfl⟩) ⟨pz_blind, va_recv hK hP (ci := 12) (q0 := q73) rfl eq73, pz_pre hP hK hD hN⟩ rfl rfl hl.1 rfl (lv_room (Nat.le_of_ble_eq_true rfl)) dX12_bill_19 ⟨Nat.le_of_ble_eq_true rfl, Nat.le_of_ble_eq_true rfl⟩) hS (fun q _ h => hFc q h) hFc (fun r74 f76 t H1 locs ht hvm hw75 hB hz1 hk1 hS => ?_)
    refine tn_4 hw75 (fun hT hF77 hw75r hw75p => ?_); clear hw75
    have hR := hR.then hF77 (by decide)
    have hP := hB.1; rw [ht] at hP; have hD := tp_ad f76 hD; clear hB hFc hz1 hk1; subst ht; generalize t.heap = H at hP hS ⊢
    have hw75pq : r74.toInt = (-1) := by rw [hw75p]; rfl
    have hf_78 : f76 (ρ h0 2) = .inl (κ 0, 12967, .inl g27) := (hF77 _ (by rw [tp_iu y1]; decide)).trans hf_33
    exact W.iret (v := r74) hx hb hr (fun t ht hW => ⟨⟨r74, f76, rfl, ⟨hT, hR, trivial, ⟨(by rw [hf_78, mo_i1]; exact hI), (by rw [hf_78, mo_i1, hf_o26, mo_i1]; exact hKN)⟩⟩, by rw [ht]; exact hP, va_K.moved hW.alike hK, hD⟩, hS.F ht⟩) hS.2.2 dX12_bill_22
end
