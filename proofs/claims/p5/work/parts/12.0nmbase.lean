def tyX12 : Nat → FieldType := fun k => match k with
  | 0 => .int
  | 1 => .int
  | 2 => .array .int
  | 3 => .array .int
  | 4 => .array .boolean
  | 5 => .array .int
  | 6 => .array .long
  | 7 => .boolean
  | 8 => .array .int
  | 9 => .int
  | 10 => .int
  | 11 => .int
  | 12 => .int
  | 13 => .long
  | 14 => .int
  | 15 => .boolean
  | 16 => .int
  | 17 => .int
  | 18 => .int
  | 19 => .int
  | 20 => .int
  | 21 => .array .int
  | 22 => .int
  | 23 => .array .int
  | 24 => .array .int
  | 25 => .int
  | 26 => .array .int
  | 27 => .array .int
  | 28 => .int
  | 29 => .int
  | 30 => .array .long
  | 31 => .array .long
  | 32 => .boolean
  | 33 => .long
  | 34 => .long
  | 35 => .long
  | 36 => .int
  | 37 => .int
  | 38 => .int
  | 39 => .array .int
  | 40 => .array .int
  | 41 => .array .long
  | 42 => .array .int
  | 43 => .array .long
  | 44 => .array .int
  | 45 => .array .int
  | 46 => .array .int
  | 47 => .boolean
  | 48 => .int
  | 49 => .array .int
  | 50 => .array .long
  | 51 => .array .int
  | _ => .array .int
theorem nmX12 : ∀ a, a < 53 → ∀ b, b < 53 → a ≠ b → (TX12 a).2.1 ≠ (TX12 b).2.1 := by decide +kernel
theorem tyX12_ok : ∀ k, k < 53 → parseFieldDescriptor (TX12 k).2.2.1 = some (tyX12 k) := by decide +kernel
theorem dX12_in_0 : decode cX12_in 0 = .ok (.lload_n 0, 1) := od_30  (by decide +kernel)
theorem dX12_in_1 : decode cX12_in 1 = .ok (.lload_n 2, 1) := od_32  (by decide +kernel)
theorem dX12_in_2 : decode cX12_in 2 = .ok (.lcmp, 1) := od_148  (by decide +kernel)
theorem dX12_in_3 : decode cX12_in 3 = .ok (.ifCond .lt 14, 3) := od_155 (a := 0) (b := 14) (by decide +kernel) (by decide +kernel)
theorem dX12_in_6 : decode cX12_in 6 = .ok (.lload_n 0, 1) := od_30  (by decide +kernel)
theorem dX12_in_7 : decode cX12_in 7 = .ok (.lload 4, 2) := od_22 (n := 4) (by decide +kernel)
theorem dX12_in_9 : decode cX12_in 9 = .ok (.lcmp, 1) := od_148  (by decide +kernel)
theorem dX12_in_10 : decode cX12_in 10 = .ok (.ifCond .gt 7, 3) := od_157 (a := 0) (b := 7) (by decide +kernel) (by decide +kernel)
theorem dX12_in_13 : decode cX12_in 13 = .ok (.iconst 1, 1) := od_4  (by decide +kernel)
theorem dX12_in_14 : decode cX12_in 14 = .ok (.goto 4, 3) := od_167 (a := 0) (b := 4) (by decide +kernel) (by decide +kernel)
theorem dX12_in_17 : decode cX12_in 17 = .ok (.iconst 0, 1) := od_3  (by decide +kernel)
theorem dX12_in_18 : decode cX12_in 18 = .ok (.ireturn, 1) := od_172  (by decide +kernel)
theorem dX12_told_0 : decode cX12_told 0 = .ok (.aload_n 0, 1) := od_42  (by decide +kernel)
theorem dX12_told_1 : decode cX12_told 1 = .ok (.iload_n 1, 1) := od_27  (by decide +kernel)
theorem dX12_told_2 : decode cX12_told 2 = .ok (.ifCond .ge 7, 3) := od_156 (a := 0) (b := 7) (by decide +kernel) (by decide +kernel)
theorem dX12_told_5 : decode cX12_told 5 = .ok (.iload_n 1, 1) := od_27  (by decide +kernel)
theorem dX12_told_6 : decode cX12_told 6 = .ok (.goto 4, 3) := od_167 (a := 0) (b := 4) (by decide +kernel) (by decide +kernel)
theorem dX12_told_9 : decode cX12_told 9 = .ok (.iconst 0, 1) := od_3  (by decide +kernel)
theorem dX12_told_10 : decode cX12_told 10 = .ok (.putfield 94, 3) := od_181 (a := 0) (b := 94) (by decide +kernel) (by decide)
theorem dX12_told_13 : decode cX12_told 13 = .ok (.iload_n 1, 1) := od_27  (by decide +kernel)
theorem dX12_told_14 : decode cX12_told 14 = .ok (.ireturn, 1) := od_172  (by decide +kernel)
theorem gX12_isHour_X12_in : GoodIn WALL (va_wsS RX12 99 yX12_in wqX12_in) := wg_S wa_213 wa_214 wa_5 wa_215
theorem dX12_isHour_0 : decode cX12_isHour 0 = .ok (.iload_n 0, 1) := od_26  (by decide +kernel)
theorem dX12_isHour_1 : decode cX12_isHour 1 = .ok (.i2l, 1) := od_133  (by decide +kernel)
theorem dX12_isHour_2 : decode cX12_isHour 2 = .ok (.lconst 0, 1) := od_9  (by decide +kernel)
theorem dX12_isHour_3 : decode cX12_isHour 3 = .ok (.ldc2_w 97, 3) := od_20 (a := 0) (b := 97) (by decide +kernel) (by decide)
theorem dX12_isHour_6 : decode cX12_isHour 6 = .ok (.invokestatic 99, 3) := od_184 (a := 0) (b := 99) (by decide +kernel) (by decide)
theorem dX12_isHour_9 : decode cX12_isHour 9 = .ok (.ireturn, 1) := od_172  (by decide +kernel)
theorem gX12_isDay_X12_in : GoodIn WALL (va_wsS RX12 99 yX12_in wqX12_in) := wg_S wa_213 wa_214 wa_5 wa_215
theorem dX12_isDay_0 : decode cX12_isDay 0 = .ok (.iload_n 0, 1) := od_26  (by decide +kernel)
theorem dX12_isDay_1 : decode cX12_isDay 1 = .ok (.i2l, 1) := od_133  (by decide +kernel)
theorem dX12_isDay_2 : decode cX12_isDay 2 = .ok (.lconst 0, 1) := od_9  (by decide +kernel)
theorem dX12_isDay_3 : decode cX12_isDay 3 = .ok (.ldc2_w 103, 3) := od_20 (a := 0) (b := 103) (by decide +kernel) (by decide)
theorem dX12_isDay_6 : decode cX12_isDay 6 = .ok (.invokestatic 99, 3) := od_184 (a := 0) (b := 99) (by decide +kernel) (by decide)
theorem dX12_isDay_9 : decode cX12_isDay 9 = .ok (.ireturn, 1) := od_172  (by decide +kernel)
theorem dX12_addFour_0 : decode cX12_addFour 0 = .ok (.aload_n 0, 1) := od_42  (by decide +kernel)
theorem dX12_addFour_1 : decode cX12_addFour 1 = .ok (.getfield 7, 3) := od_180 (a := 0) (b := 7) (by decide +kernel) (by decide)
theorem dX12_addFour_4 : decode cX12_addFour 4 = .ok (.iload_n 1, 1) := od_27  (by decide +kernel)
theorem dX12_addFour_5 : decode cX12_addFour 5 = .ok (.iload_n 2, 1) := od_28  (by decide +kernel)
theorem dX12_addFour_6 : decode cX12_addFour 6 = .ok (.iastore, 1) := od_79  (by decide +kernel)
theorem dX12_addFour_7 : decode cX12_addFour 7 = .ok (.aload_n 0, 1) := od_42  (by decide +kernel)
theorem dX12_addFour_8 : decode cX12_addFour 8 = .ok (.getfield 7, 3) := od_180 (a := 0) (b := 7) (by decide +kernel) (by decide)
theorem dX12_addFour_11 : decode cX12_addFour 11 = .ok (.iload_n 1, 1) := od_27  (by decide +kernel)
theorem dX12_addFour_12 : decode cX12_addFour 12 = .ok (.iconst 1, 1) := od_4  (by decide +kernel)
theorem dX12_addFour_13 : decode cX12_addFour 13 = .ok (.iadd, 1) := od_96  (by decide +kernel)
theorem dX12_addFour_14 : decode cX12_addFour 14 = .ok (.iload_n 3, 1) := od_29  (by decide +kernel)
theorem dX12_addFour_15 : decode cX12_addFour 15 = .ok (.iastore, 1) := od_79  (by decide +kernel)
theorem dX12_addFour_16 : decode cX12_addFour 16 = .ok (.aload_n 0, 1) := od_42  (by decide +kernel)
theorem dX12_addFour_17 : decode cX12_addFour 17 = .ok (.getfield 7, 3) := od_180 (a := 0) (b := 7) (by decide +kernel) (by decide)
theorem dX12_addFour_20 : decode cX12_addFour 20 = .ok (.iload_n 1, 1) := od_27  (by decide +kernel)
theorem dX12_addFour_21 : decode cX12_addFour 21 = .ok (.iconst 2, 1) := od_5  (by decide +kernel)
theorem dX12_addFour_22 : decode cX12_addFour 22 = .ok (.iadd, 1) := od_96  (by decide +kernel)
theorem dX12_addFour_23 : decode cX12_addFour 23 = .ok (.iload 4, 2) := od_21 (n := 4) (by decide +kernel)
theorem dX12_addFour_25 : decode cX12_addFour 25 = .ok (.iastore, 1) := od_79  (by decide +kernel)
theorem dX12_addFour_26 : decode cX12_addFour 26 = .ok (.aload_n 0, 1) := od_42  (by decide +kernel)
theorem dX12_addFour_27 : decode cX12_addFour 27 = .ok (.getfield 7, 3) := od_180 (a := 0) (b := 7) (by decide +kernel) (by decide)
theorem dX12_addFour_30 : decode cX12_addFour 30 = .ok (.iload_n 1, 1) := od_27  (by decide +kernel)
theorem dX12_addFour_31 : decode cX12_addFour 31 = .ok (.iconst 3, 1) := od_6  (by decide +kernel)
theorem dX12_addFour_32 : decode cX12_addFour 32 = .ok (.iadd, 1) := od_96  (by decide +kernel)
theorem dX12_addFour_33 : decode cX12_addFour 33 = .ok (.iload 5, 2) := od_21 (n := 5) (by decide +kernel)
theorem dX12_addFour_35 : decode cX12_addFour 35 = .ok (.iastore, 1) := od_79  (by decide +kernel)
theorem dX12_addFour_36 : decode cX12_addFour 36 = .ok (.return_, 1) := od_177  (by decide +kernel)
theorem gX12_isTerminal_X12_in : GoodIn WALL (va_wsS RX12 99 yX12_in wqX12_in) := wg_S wa_213 wa_214 wa_5 wa_215
theorem dX12_isTerminal_0 : decode cX12_isTerminal 0 = .ok (.iload_n 1, 1) := od_27  (by decide +kernel)
theorem dX12_isTerminal_1 : decode cX12_isTerminal 1 = .ok (.i2l, 1) := od_133  (by decide +kernel)
theorem dX12_isTerminal_2 : decode cX12_isTerminal 2 = .ok (.lconst 0, 1) := od_9  (by decide +kernel)
theorem dX12_isTerminal_3 : decode cX12_isTerminal 3 = .ok (.aload_n 0, 1) := od_42  (by decide +kernel)
theorem dX12_isTerminal_4 : decode cX12_isTerminal 4 = .ok (.getfield 7, 3) := od_180 (a := 0) (b := 7) (by decide +kernel) (by decide)
theorem dX12_isTerminal_7 : decode cX12_isTerminal 7 = .ok (.iconst 0, 1) := od_3  (by decide +kernel)
theorem dX12_isTerminal_8 : decode cX12_isTerminal 8 = .ok (.iaload, 1) := od_46  (by decide +kernel)
theorem dX12_isTerminal_9 : decode cX12_isTerminal 9 = .ok (.i2l, 1) := od_133  (by decide +kernel)
theorem dX12_isTerminal_10 : decode cX12_isTerminal 10 = .ok (.lconst 1, 1) := od_10  (by decide +kernel)
theorem dX12_isTerminal_11 : decode cX12_isTerminal 11 = .ok (.lsub, 1) := od_101  (by decide +kernel)
theorem dX12_isTerminal_12 : decode cX12_isTerminal 12 = .ok (.invokestatic 99, 3) := od_184 (a := 0) (b := 99) (by decide +kernel) (by decide)
theorem dX12_isTerminal_15 : decode cX12_isTerminal 15 = .ok (.ireturn, 1) := od_172  (by decide +kernel)
theorem gX12_isShip_X12_in : GoodIn WALL (va_wsS RX12 99 yX12_in wqX12_in) := wg_S wa_213 wa_214 wa_5 wa_215
theorem dX12_isShip_0 : decode cX12_isShip 0 = .ok (.iload_n 1, 1) := od_27  (by decide +kernel)
theorem dX12_isShip_1 : decode cX12_isShip 1 = .ok (.i2l, 1) := od_133  (by decide +kernel)
theorem dX12_isShip_2 : decode cX12_isShip 2 = .ok (.lconst 0, 1) := od_9  (by decide +kernel)
theorem dX12_isShip_3 : decode cX12_isShip 3 = .ok (.aload_n 0, 1) := od_42  (by decide +kernel)
theorem dX12_isShip_4 : decode cX12_isShip 4 = .ok (.getfield 7, 3) := od_180 (a := 0) (b := 7) (by decide +kernel) (by decide)
theorem dX12_isShip_7 : decode cX12_isShip 7 = .ok (.iconst 1, 1) := od_4  (by decide +kernel)
theorem dX12_isShip_8 : decode cX12_isShip 8 = .ok (.iaload, 1) := od_46  (by decide +kernel)
theorem dX12_isShip_9 : decode cX12_isShip 9 = .ok (.i2l, 1) := od_133  (by decide +kernel)
theorem dX12_isShip_10 : decode cX12_isShip 10 = .ok (.lconst 1, 1) := od_10  (by decide +kernel)
theorem dX12_isShip_11 : decode cX12_isShip 11 = .ok (.lsub, 1) := od_101  (by decide +kernel)
theorem dX12_isShip_12 : decode cX12_isShip 12 = .ok (.invokestatic 99, 3) := od_184 (a := 0) (b := 99) (by decide +kernel) (by decide)
theorem dX12_isShip_15 : decode cX12_isShip 15 = .ok (.ireturn, 1) := od_172  (by decide +kernel)
theorem dX12_shipAt_0 : decode cX12_shipAt 0 = .ok (.sipush 547, 3) := od_17 (a := 2) (b := 35) (by decide +kernel) (by decide +kernel)
theorem dX12_shipAt_3 : decode cX12_shipAt 3 = .ok (.bipush 84, 2) := od_16 (a := 84) (by decide +kernel) (by decide +kernel)
theorem dX12_shipAt_5 : decode cX12_shipAt 5 = .ok (.iload_n 0, 1) := od_26  (by decide +kernel)
theorem dX12_shipAt_6 : decode cX12_shipAt 6 = .ok (.imul, 1) := od_104  (by decide +kernel)
theorem dX12_shipAt_7 : decode cX12_shipAt 7 = .ok (.iadd, 1) := od_96  (by decide +kernel)
theorem dX12_shipAt_8 : decode cX12_shipAt 8 = .ok (.ireturn, 1) := od_172  (by decide +kernel)
theorem dX12_terminalAt_0 : decode cX12_terminalAt 0 = .ok (.bipush 20, 2) := od_16 (a := 20) (by decide +kernel) (by decide +kernel)
theorem dX12_terminalAt_2 : decode cX12_terminalAt 2 = .ok (.iconst 5, 1) := od_8  (by decide +kernel)
theorem dX12_terminalAt_3 : decode cX12_terminalAt 3 = .ok (.iload_n 0, 1) := od_26  (by decide +kernel)
theorem dX12_terminalAt_4 : decode cX12_terminalAt 4 = .ok (.imul, 1) := od_104  (by decide +kernel)
theorem dX12_terminalAt_5 : decode cX12_terminalAt 5 = .ok (.iadd, 1) := od_96  (by decide +kernel)
theorem dX12_terminalAt_6 : decode cX12_terminalAt 6 = .ok (.ireturn, 1) := od_172  (by decide +kernel)
theorem dX12_lesser_0 : decode cX12_lesser 0 = .ok (.iload_n 0, 1) := od_26  (by decide +kernel)
theorem dX12_lesser_1 : decode cX12_lesser 1 = .ok (.iload_n 1, 1) := od_27  (by decide +kernel)
theorem dX12_lesser_2 : decode cX12_lesser 2 = .ok (.if_icmp .ge 7, 3) := od_162 (a := 0) (b := 7) (by decide +kernel) (by decide +kernel)
theorem dX12_lesser_5 : decode cX12_lesser 5 = .ok (.iload_n 0, 1) := od_26  (by decide +kernel)
theorem dX12_lesser_6 : decode cX12_lesser 6 = .ok (.goto 4, 3) := od_167 (a := 0) (b := 4) (by decide +kernel) (by decide +kernel)
theorem dX12_lesser_9 : decode cX12_lesser 9 = .ok (.iload_n 1, 1) := od_27  (by decide +kernel)
theorem dX12_lesser_10 : decode cX12_lesser 10 = .ok (.ireturn, 1) := od_172  (by decide +kernel)
theorem gX12_isLanding_X12_in : GoodIn WALL (va_wsS RX12 99 yX12_in wqX12_in) := wg_S wa_213 wa_214 wa_5 wa_215
theorem dX12_isLanding_0 : decode cX12_isLanding 0 = .ok (.iload_n 1, 1) := od_27  (by decide +kernel)
theorem dX12_isLanding_1 : decode cX12_isLanding 1 = .ok (.i2l, 1) := od_133  (by decide +kernel)
theorem dX12_isLanding_2 : decode cX12_isLanding 2 = .ok (.lconst 0, 1) := od_9  (by decide +kernel)
theorem dX12_isLanding_3 : decode cX12_isLanding 3 = .ok (.aload_n 0, 1) := od_42  (by decide +kernel)
theorem dX12_isLanding_4 : decode cX12_isLanding 4 = .ok (.getfield 7, 3) := od_180 (a := 0) (b := 7) (by decide +kernel) (by decide)
theorem dX12_isLanding_7 : decode cX12_isLanding 7 = .ok (.iconst 5, 1) := od_8  (by decide +kernel)
theorem dX12_isLanding_8 : decode cX12_isLanding 8 = .ok (.iaload, 1) := od_46  (by decide +kernel)
theorem dX12_isLanding_9 : decode cX12_isLanding 9 = .ok (.i2l, 1) := od_133  (by decide +kernel)
theorem dX12_isLanding_10 : decode cX12_isLanding 10 = .ok (.lconst 1, 1) := od_10  (by decide +kernel)
theorem dX12_isLanding_11 : decode cX12_isLanding 11 = .ok (.lsub, 1) := od_101  (by decide +kernel)
theorem dX12_isLanding_12 : decode cX12_isLanding 12 = .ok (.invokestatic 99, 3) := od_184 (a := 0) (b := 99) (by decide +kernel) (by decide)
theorem dX12_isLanding_15 : decode cX12_isLanding 15 = .ok (.ireturn, 1) := od_172  (by decide +kernel)
theorem dX12_landingAt_0 : decode cX12_landingAt 0 = .ok (.sipush 1051, 3) := od_17 (a := 4) (b := 27) (by decide +kernel) (by decide +kernel)
theorem dX12_landingAt_3 : decode cX12_landingAt 3 = .ok (.bipush 16, 2) := od_16 (a := 16) (by decide +kernel) (by decide +kernel)
theorem dX12_landingAt_5 : decode cX12_landingAt 5 = .ok (.iload_n 0, 1) := od_26  (by decide +kernel)
theorem dX12_landingAt_6 : decode cX12_landingAt 6 = .ok (.imul, 1) := od_104  (by decide +kernel)
theorem dX12_landingAt_7 : decode cX12_landingAt 7 = .ok (.iadd, 1) := od_96  (by decide +kernel)
theorem dX12_landingAt_8 : decode cX12_landingAt 8 = .ok (.ireturn, 1) := od_172  (by decide +kernel)
theorem dX12_isSmall_0 : decode cX12_isSmall 0 = .ok (.iload_n 0, 1) := od_26  (by decide +kernel)
theorem dX12_isSmall_1 : decode cX12_isSmall 1 = .ok (.bipush 97, 2) := od_16 (a := 97) (by decide +kernel) (by decide +kernel)
theorem dX12_isSmall_3 : decode cX12_isSmall 3 = .ok (.if_icmp .lt 13, 3) := od_161 (a := 0) (b := 13) (by decide +kernel) (by decide +kernel)
theorem dX12_isSmall_6 : decode cX12_isSmall 6 = .ok (.iload_n 0, 1) := od_26  (by decide +kernel)
theorem dX12_isSmall_7 : decode cX12_isSmall 7 = .ok (.bipush 122, 2) := od_16 (a := 122) (by decide +kernel) (by decide +kernel)
theorem dX12_isSmall_9 : decode cX12_isSmall 9 = .ok (.if_icmp .gt 7, 3) := od_163 (a := 0) (b := 7) (by decide +kernel) (by decide +kernel)
theorem dX12_isSmall_12 : decode cX12_isSmall 12 = .ok (.iconst 1, 1) := od_4  (by decide +kernel)
theorem dX12_isSmall_13 : decode cX12_isSmall 13 = .ok (.goto 4, 3) := od_167 (a := 0) (b := 4) (by decide +kernel) (by decide +kernel)
theorem dX12_isSmall_16 : decode cX12_isSmall 16 = .ok (.iconst 0, 1) := od_3  (by decide +kernel)
theorem dX12_isSmall_17 : decode cX12_isSmall 17 = .ok (.ireturn, 1) := od_172  (by decide +kernel)
theorem dX12_isDigit_0 : decode cX12_isDigit 0 = .ok (.iload_n 0, 1) := od_26  (by decide +kernel)
theorem dX12_isDigit_1 : decode cX12_isDigit 1 = .ok (.bipush 48, 2) := od_16 (a := 48) (by decide +kernel) (by decide +kernel)
theorem dX12_isDigit_3 : decode cX12_isDigit 3 = .ok (.if_icmp .lt 13, 3) := od_161 (a := 0) (b := 13) (by decide +kernel) (by decide +kernel)
theorem dX12_isDigit_6 : decode cX12_isDigit 6 = .ok (.iload_n 0, 1) := od_26  (by decide +kernel)
theorem dX12_isDigit_7 : decode cX12_isDigit 7 = .ok (.bipush 57, 2) := od_16 (a := 57) (by decide +kernel) (by decide +kernel)
theorem dX12_isDigit_9 : decode cX12_isDigit 9 = .ok (.if_icmp .gt 7, 3) := od_163 (a := 0) (b := 7) (by decide +kernel) (by decide +kernel)
theorem dX12_isDigit_12 : decode cX12_isDigit 12 = .ok (.iconst 1, 1) := od_4  (by decide +kernel)
theorem dX12_isDigit_13 : decode cX12_isDigit 13 = .ok (.goto 4, 3) := od_167 (a := 0) (b := 4) (by decide +kernel) (by decide +kernel)
theorem dX12_isDigit_16 : decode cX12_isDigit 16 = .ok (.iconst 0, 1) := od_3  (by decide +kernel)
theorem dX12_isDigit_17 : decode cX12_isDigit 17 = .ok (.ireturn, 1) := od_172  (by decide +kernel)
theorem gX12_isContract_X12_in : GoodIn WALL (va_wsS RX12 99 yX12_in wqX12_in) := wg_S wa_213 wa_214 wa_5 wa_215
theorem dX12_isContract_0 : decode cX12_isContract 0 = .ok (.iload_n 1, 1) := od_27  (by decide +kernel)
theorem dX12_isContract_1 : decode cX12_isContract 1 = .ok (.i2l, 1) := od_133  (by decide +kernel)
theorem dX12_isContract_2 : decode cX12_isContract 2 = .ok (.lconst 0, 1) := od_9  (by decide +kernel)
theorem dX12_isContract_3 : decode cX12_isContract 3 = .ok (.aload_n 0, 1) := od_42  (by decide +kernel)
theorem dX12_isContract_4 : decode cX12_isContract 4 = .ok (.getfield 7, 3) := od_180 (a := 0) (b := 7) (by decide +kernel) (by decide)
theorem dX12_isContract_7 : decode cX12_isContract 7 = .ok (.bipush 8, 2) := od_16 (a := 8) (by decide +kernel) (by decide +kernel)
theorem dX12_isContract_9 : decode cX12_isContract 9 = .ok (.iaload, 1) := od_46  (by decide +kernel)
theorem dX12_isContract_10 : decode cX12_isContract 10 = .ok (.i2l, 1) := od_133  (by decide +kernel)
theorem dX12_isContract_11 : decode cX12_isContract 11 = .ok (.lconst 1, 1) := od_10  (by decide +kernel)
theorem dX12_isContract_12 : decode cX12_isContract 12 = .ok (.lsub, 1) := od_101  (by decide +kernel)
theorem dX12_isContract_13 : decode cX12_isContract 13 = .ok (.invokestatic 99, 3) := od_184 (a := 0) (b := 99) (by decide +kernel) (by decide)
theorem dX12_isContract_16 : decode cX12_isContract 16 = .ok (.ireturn, 1) := od_172  (by decide +kernel)
theorem dX12_contractAt_0 : decode cX12_contractAt 0 = .ok (.sipush 2251, 3) := od_17 (a := 8) (b := 203) (by decide +kernel) (by decide +kernel)
theorem dX12_contractAt_3 : decode cX12_contractAt 3 = .ok (.sipush 864, 3) := od_17 (a := 3) (b := 96) (by decide +kernel) (by decide +kernel)
theorem dX12_contractAt_6 : decode cX12_contractAt 6 = .ok (.iload_n 0, 1) := od_26  (by decide +kernel)
theorem dX12_contractAt_7 : decode cX12_contractAt 7 = .ok (.imul, 1) := od_104  (by decide +kernel)
theorem dX12_contractAt_8 : decode cX12_contractAt 8 = .ok (.iadd, 1) := od_96  (by decide +kernel)
theorem dX12_contractAt_9 : decode cX12_contractAt 9 = .ok (.ireturn, 1) := od_172  (by decide +kernel)
