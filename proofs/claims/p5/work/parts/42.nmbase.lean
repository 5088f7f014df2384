def tyX12 : Nat → FieldType := fun k => match k with
  | 0 => .int
  | 1 => .int
  | 2 => .array .int
  | 3 => .array .int
  | 4 => .array .boolean
  | 5 => .array .int
  | 6 => .array .long
  | 7 => .boolean
  | 8 => .array .int
  | 9 => .int
  | 10 => .int
  | 11 => .int
  | 12 => .int
  | 13 => .long
  | 14 => .int
  | 15 => .boolean
  | 16 => .int
  | 17 => .int
  | 18 => .int
  | 19 => .int
  | 20 => .int
  | 21 => .array .int
  | 22 => .int
  | 23 => .array .int
  | 24 => .array .int
  | 25 => .int
  | 26 => .array .int
  | 27 => .array .int
  | 28 => .int
  | 29 => .int
  | 30 => .array .long
  | 31 => .array .long
  | 32 => .boolean
  | 33 => .long
  | 34 => .long
  | 35 => .long
  | 36 => .int
  | 37 => .int
  | 38 => .int
  | 39 => .array .int
  | 40 => .array .int
  | 41 => .array .long
  | 42 => .array .int
  | 43 => .array .long
  | 44 => .array .int
  | 45 => .array .int
  | 46 => .array .int
  | 47 => .boolean
  | 48 => .int
  | 49 => .array .int
  | 50 => .array .long
  | 51 => .array .int
  | _ => .array .int
abbrev wsX120 : List Cond := u_ws RX12 TX12 53
theorem nmX12 : ∀ a, a < 53 → ∀ b, b < 53 → a ≠ b → (TX12 a).2.1 ≠ (TX12 b).2.1 := by decide +kernel
theorem tyX12_ok : ∀ k, k < 53 → parseFieldDescriptor (TX12 k).2.2.1 = some (tyX12 k) := by decide +kernel
abbrev cX12_in : ByteArray := prog_14_method_3_code
def yX12_in : MethodName := ⟨RX12, "in", "(JJJ)Z"⟩
abbrev cX12_told : ByteArray := prog_14_method_4_code
def yX12_told : MethodName := ⟨RX12, "told", "(I)I"⟩
abbrev cX12_isHour : ByteArray := prog_14_method_5_code
def yX12_isHour : MethodName := ⟨RX12, "isHour", "(I)Z"⟩
abbrev cX12_isDay : ByteArray := prog_14_method_6_code
def yX12_isDay : MethodName := ⟨RX12, "isDay", "(I)Z"⟩
abbrev cX12_addFour : ByteArray := prog_14_method_7_code
def yX12_addFour : MethodName := ⟨RX12, "addFour", "(IIIII)V"⟩
abbrev cX12_isTerminal : ByteArray := prog_14_method_10_code
def yX12_isTerminal : MethodName := ⟨RX12, "isTerminal", "(I)Z"⟩
abbrev cX12_isShip : ByteArray := prog_14_method_11_code
def yX12_isShip : MethodName := ⟨RX12, "isShip", "(I)Z"⟩
abbrev cX12_shipAt : ByteArray := prog_14_method_12_code
def yX12_shipAt : MethodName := ⟨RX12, "shipAt", "(I)I"⟩
abbrev cX12_terminalAt : ByteArray := prog_14_method_13_code
def yX12_terminalAt : MethodName := ⟨RX12, "terminalAt", "(I)I"⟩
abbrev cX12_lesser : ByteArray := prog_14_method_39_code
def yX12_lesser : MethodName := ⟨RX12, "lesser", "(II)I"⟩
abbrev cX12_isLanding : ByteArray := prog_14_method_49_code
def yX12_isLanding : MethodName := ⟨RX12, "isLanding", "(I)Z"⟩
abbrev cX12_landingAt : ByteArray := prog_14_method_50_code
def yX12_landingAt : MethodName := ⟨RX12, "landingAt", "(I)I"⟩
abbrev cX12_isSmall : ByteArray := prog_14_method_64_code
def yX12_isSmall : MethodName := ⟨RX12, "isSmall", "(I)Z"⟩
abbrev cX12_isDigit : ByteArray := prog_14_method_65_code
def yX12_isDigit : MethodName := ⟨RX12, "isDigit", "(I)Z"⟩
abbrev cX12_isContract : ByteArray := prog_14_method_88_code
def yX12_isContract : MethodName := ⟨RX12, "isContract", "(I)Z"⟩
abbrev cX12_contractAt : ByteArray := prog_14_method_94_code
def yX12_contractAt : MethodName := ⟨RX12, "contractAt", "(I)I"⟩
def wsX12_in : List Cond := .code yX12_in cX12_in 6 (some .boolean) :: ([])
def wsX12_told : List Cond := .code yX12_told cX12_told 2 (some .int) :: ([.fieldLink RX12 94 "ColdShipsModel" "status" "I"] ++ wsX120)
def wsX12_isHour : List Cond := .code yX12_isHour cX12_isHour 1 (some .boolean) :: ([.constantLong RX12 97 (2399), .methodLink RX12 99 yX12_in, .static yX12_in, .initialized RX12, .code yX12_in cX12_in 6 (some .boolean)])
def wsX12_isDay : List Cond := .code yX12_isDay cX12_isDay 1 (some .boolean) :: ([.constantLong RX12 103 (99), .methodLink RX12 99 yX12_in, .static yX12_in, .initialized RX12, .code yX12_in cX12_in 6 (some .boolean)])
def wsX12_addFour : List Cond := .code yX12_addFour cX12_addFour 6 none :: ([.fieldLink RX12 7 "ColdShipsModel" "row" "[I"] ++ wsX120)
def wsX12_isTerminal : List Cond := .code yX12_isTerminal cX12_isTerminal 2 (some .boolean) :: ([.fieldLink RX12 7 "ColdShipsModel" "row" "[I", .methodLink RX12 99 yX12_in, .static yX12_in, .initialized RX12, .code yX12_in cX12_in 6 (some .boolean)] ++ wsX120)
def wsX12_isShip : List Cond := .code yX12_isShip cX12_isShip 2 (some .boolean) :: ([.fieldLink RX12 7 "ColdShipsModel" "row" "[I", .methodLink RX12 99 yX12_in, .static yX12_in, .initialized RX12, .code yX12_in cX12_in 6 (some .boolean)] ++ wsX120)
def wsX12_shipAt : List Cond := .code yX12_shipAt cX12_shipAt 1 (some .int) :: ([])
def wsX12_terminalAt : List Cond := .code yX12_terminalAt cX12_terminalAt 1 (some .int) :: ([])
def wsX12_lesser : List Cond := .code yX12_lesser cX12_lesser 2 (some .int) :: ([])
def wsX12_isLanding : List Cond := .code yX12_isLanding cX12_isLanding 2 (some .boolean) :: ([.fieldLink RX12 7 "ColdShipsModel" "row" "[I", .methodLink RX12 99 yX12_in, .static yX12_in, .initialized RX12, .code yX12_in cX12_in 6 (some .boolean)] ++ wsX120)
def wsX12_landingAt : List Cond := .code yX12_landingAt cX12_landingAt 1 (some .int) :: ([])
def wsX12_isSmall : List Cond := .code yX12_isSmall cX12_isSmall 1 (some .boolean) :: ([])
def wsX12_isDigit : List Cond := .code yX12_isDigit cX12_isDigit 1 (some .boolean) :: ([])
def wsX12_isContract : List Cond := .code yX12_isContract cX12_isContract 2 (some .boolean) :: ([.fieldLink RX12 7 "ColdShipsModel" "row" "[I", .methodLink RX12 99 yX12_in, .static yX12_in, .initialized RX12, .code yX12_in cX12_in 6 (some .boolean)] ++ wsX120)
def wsX12_contractAt : List Cond := .code yX12_contractAt cX12_contractAt 1 (some .int) :: ([])
theorem dX12_in_0 : decode cX12_in 0 = .ok (.lload_n 0, 1) := by decide +kernel
theorem dX12_in_1 : decode cX12_in 1 = .ok (.lload_n 2, 1) := by decide +kernel
theorem dX12_in_2 : decode cX12_in 2 = .ok (.lcmp, 1) := by decide +kernel
theorem dX12_in_3 : decode cX12_in 3 = .ok (.ifCond .lt 14, 3) := by decide +kernel
theorem dX12_in_6 : decode cX12_in 6 = .ok (.lload_n 0, 1) := by decide +kernel
theorem dX12_in_7 : decode cX12_in 7 = .ok (.lload 4, 2) := by decide +kernel
theorem dX12_in_9 : decode cX12_in 9 = .ok (.lcmp, 1) := by decide +kernel
theorem dX12_in_10 : decode cX12_in 10 = .ok (.ifCond .gt 7, 3) := by decide +kernel
theorem dX12_in_13 : decode cX12_in 13 = .ok (.iconst 1, 1) := by decide +kernel
theorem dX12_in_14 : decode cX12_in 14 = .ok (.goto 4, 3) := by decide +kernel
theorem dX12_in_17 : decode cX12_in 17 = .ok (.iconst 0, 1) := by decide +kernel
theorem dX12_in_18 : decode cX12_in 18 = .ok (.ireturn, 1) := by decide +kernel
theorem dX12_told_0 : decode cX12_told 0 = .ok (.aload_n 0, 1) := by decide +kernel
theorem dX12_told_1 : decode cX12_told 1 = .ok (.iload_n 1, 1) := by decide +kernel
theorem dX12_told_2 : decode cX12_told 2 = .ok (.ifCond .ge 7, 3) := by decide +kernel
theorem dX12_told_5 : decode cX12_told 5 = .ok (.iload_n 1, 1) := by decide +kernel
theorem dX12_told_6 : decode cX12_told 6 = .ok (.goto 4, 3) := by decide +kernel
theorem dX12_told_9 : decode cX12_told 9 = .ok (.iconst 0, 1) := by decide +kernel
theorem dX12_told_10 : decode cX12_told 10 = .ok (.putfield 94, 3) := by decide +kernel
theorem dX12_told_13 : decode cX12_told 13 = .ok (.iload_n 1, 1) := by decide +kernel
theorem dX12_told_14 : decode cX12_told 14 = .ok (.ireturn, 1) := by decide +kernel
set_option maxRecDepth 20000 in
theorem ggX12_isHour_X12_in : GoodIn wsX12_isHour wsX12_in := goodIn_r _ [5] (by decide +kernel) (by decide +kernel)
set_option maxRecDepth 20000 in
theorem gX12_isHour_X12_in : GoodIn wsX12_isHour (va_wsS RX12 99 yX12_in wsX12_in) := goodIn_app (goodIn_of _ (by decide +kernel)) ggX12_isHour_X12_in
theorem dX12_isHour_0 : decode cX12_isHour 0 = .ok (.iload_n 0, 1) := by decide +kernel
theorem dX12_isHour_1 : decode cX12_isHour 1 = .ok (.i2l, 1) := by decide +kernel
theorem dX12_isHour_2 : decode cX12_isHour 2 = .ok (.lconst 0, 1) := by decide +kernel
theorem dX12_isHour_3 : decode cX12_isHour 3 = .ok (.ldc2_w 97, 3) := by decide +kernel
theorem dX12_isHour_6 : decode cX12_isHour 6 = .ok (.invokestatic 99, 3) := by decide +kernel
theorem dX12_isHour_9 : decode cX12_isHour 9 = .ok (.ireturn, 1) := by decide +kernel
set_option maxRecDepth 20000 in
theorem ggX12_isDay_X12_in : GoodIn wsX12_isDay wsX12_in := goodIn_r _ [5] (by decide +kernel) (by decide +kernel)
set_option maxRecDepth 20000 in
theorem gX12_isDay_X12_in : GoodIn wsX12_isDay (va_wsS RX12 99 yX12_in wsX12_in) := goodIn_app (goodIn_of _ (by decide +kernel)) ggX12_isDay_X12_in
theorem dX12_isDay_0 : decode cX12_isDay 0 = .ok (.iload_n 0, 1) := by decide +kernel
theorem dX12_isDay_1 : decode cX12_isDay 1 = .ok (.i2l, 1) := by decide +kernel
theorem dX12_isDay_2 : decode cX12_isDay 2 = .ok (.lconst 0, 1) := by decide +kernel
theorem dX12_isDay_3 : decode cX12_isDay 3 = .ok (.ldc2_w 103, 3) := by decide +kernel
theorem dX12_isDay_6 : decode cX12_isDay 6 = .ok (.invokestatic 99, 3) := by decide +kernel
theorem dX12_isDay_9 : decode cX12_isDay 9 = .ok (.ireturn, 1) := by decide +kernel
theorem dX12_addFour_0 : decode cX12_addFour 0 = .ok (.aload_n 0, 1) := by decide +kernel
theorem dX12_addFour_1 : decode cX12_addFour 1 = .ok (.getfield 7, 3) := by decide +kernel
theorem dX12_addFour_4 : decode cX12_addFour 4 = .ok (.iload_n 1, 1) := by decide +kernel
theorem dX12_addFour_5 : decode cX12_addFour 5 = .ok (.iload_n 2, 1) := by decide +kernel
theorem dX12_addFour_6 : decode cX12_addFour 6 = .ok (.iastore, 1) := by decide +kernel
theorem dX12_addFour_7 : decode cX12_addFour 7 = .ok (.aload_n 0, 1) := by decide +kernel
theorem dX12_addFour_8 : decode cX12_addFour 8 = .ok (.getfield 7, 3) := by decide +kernel
theorem dX12_addFour_11 : decode cX12_addFour 11 = .ok (.iload_n 1, 1) := by decide +kernel
theorem dX12_addFour_12 : decode cX12_addFour 12 = .ok (.iconst 1, 1) := by decide +kernel
theorem dX12_addFour_13 : decode cX12_addFour 13 = .ok (.iadd, 1) := by decide +kernel
theorem dX12_addFour_14 : decode cX12_addFour 14 = .ok (.iload_n 3, 1) := by decide +kernel
theorem dX12_addFour_15 : decode cX12_addFour 15 = .ok (.iastore, 1) := by decide +kernel
theorem dX12_addFour_16 : decode cX12_addFour 16 = .ok (.aload_n 0, 1) := by decide +kernel
theorem dX12_addFour_17 : decode cX12_addFour 17 = .ok (.getfield 7, 3) := by decide +kernel
theorem dX12_addFour_20 : decode cX12_addFour 20 = .ok (.iload_n 1, 1) := by decide +kernel
theorem dX12_addFour_21 : decode cX12_addFour 21 = .ok (.iconst 2, 1) := by decide +kernel
theorem dX12_addFour_22 : decode cX12_addFour 22 = .ok (.iadd, 1) := by decide +kernel
theorem dX12_addFour_23 : decode cX12_addFour 23 = .ok (.iload 4, 2) := by decide +kernel
theorem dX12_addFour_25 : decode cX12_addFour 25 = .ok (.iastore, 1) := by decide +kernel
theorem dX12_addFour_26 : decode cX12_addFour 26 = .ok (.aload_n 0, 1) := by decide +kernel
theorem dX12_addFour_27 : decode cX12_addFour 27 = .ok (.getfield 7, 3) := by decide +kernel
theorem dX12_addFour_30 : decode cX12_addFour 30 = .ok (.iload_n 1, 1) := by decide +kernel
theorem dX12_addFour_31 : decode cX12_addFour 31 = .ok (.iconst 3, 1) := by decide +kernel
theorem dX12_addFour_32 : decode cX12_addFour 32 = .ok (.iadd, 1) := by decide +kernel
theorem dX12_addFour_33 : decode cX12_addFour 33 = .ok (.iload 5, 2) := by decide +kernel
theorem dX12_addFour_35 : decode cX12_addFour 35 = .ok (.iastore, 1) := by decide +kernel
theorem dX12_addFour_36 : decode cX12_addFour 36 = .ok (.return_, 1) := by decide +kernel
set_option maxRecDepth 20000 in
theorem ggX12_isTerminal_X12_in : GoodIn wsX12_isTerminal wsX12_in := goodIn_r _ [5] (by decide +kernel) (by decide +kernel)
set_option maxRecDepth 20000 in
theorem gX12_isTerminal_X12_in : GoodIn wsX12_isTerminal (va_wsS RX12 99 yX12_in wsX12_in) := goodIn_app (goodIn_of _ (by decide +kernel)) ggX12_isTerminal_X12_in
theorem dX12_isTerminal_0 : decode cX12_isTerminal 0 = .ok (.iload_n 1, 1) := by decide +kernel
theorem dX12_isTerminal_1 : decode cX12_isTerminal 1 = .ok (.i2l, 1) := by decide +kernel
theorem dX12_isTerminal_2 : decode cX12_isTerminal 2 = .ok (.lconst 0, 1) := by decide +kernel
theorem dX12_isTerminal_3 : decode cX12_isTerminal 3 = .ok (.aload_n 0, 1) := by decide +kernel
theorem dX12_isTerminal_4 : decode cX12_isTerminal 4 = .ok (.getfield 7, 3) := by decide +kernel
theorem dX12_isTerminal_7 : decode cX12_isTerminal 7 = .ok (.iconst 0, 1) := by decide +kernel
theorem dX12_isTerminal_8 : decode cX12_isTerminal 8 = .ok (.iaload, 1) := by decide +kernel
theorem dX12_isTerminal_9 : decode cX12_isTerminal 9 = .ok (.i2l, 1) := by decide +kernel
theorem dX12_isTerminal_10 : decode cX12_isTerminal 10 = .ok (.lconst 1, 1) := by decide +kernel
theorem dX12_isTerminal_11 : decode cX12_isTerminal 11 = .ok (.lsub, 1) := by decide +kernel
theorem dX12_isTerminal_12 : decode cX12_isTerminal 12 = .ok (.invokestatic 99, 3) := by decide +kernel
theorem dX12_isTerminal_15 : decode cX12_isTerminal 15 = .ok (.ireturn, 1) := by decide +kernel
set_option maxRecDepth 20000 in
theorem ggX12_isShip_X12_in : GoodIn wsX12_isShip wsX12_in := goodIn_r _ [5] (by decide +kernel) (by decide +kernel)
set_option maxRecDepth 20000 in
theorem gX12_isShip_X12_in : GoodIn wsX12_isShip (va_wsS RX12 99 yX12_in wsX12_in) := goodIn_app (goodIn_of _ (by decide +kernel)) ggX12_isShip_X12_in
theorem dX12_isShip_0 : decode cX12_isShip 0 = .ok (.iload_n 1, 1) := by decide +kernel
theorem dX12_isShip_1 : decode cX12_isShip 1 = .ok (.i2l, 1) := by decide +kernel
theorem dX12_isShip_2 : decode cX12_isShip 2 = .ok (.lconst 0, 1) := by decide +kernel
theorem dX12_isShip_3 : decode cX12_isShip 3 = .ok (.aload_n 0, 1) := by decide +kernel
theorem dX12_isShip_4 : decode cX12_isShip 4 = .ok (.getfield 7, 3) := by decide +kernel
theorem dX12_isShip_7 : decode cX12_isShip 7 = .ok (.iconst 1, 1) := by decide +kernel
theorem dX12_isShip_8 : decode cX12_isShip 8 = .ok (.iaload, 1) := by decide +kernel
theorem dX12_isShip_9 : decode cX12_isShip 9 = .ok (.i2l, 1) := by decide +kernel
theorem dX12_isShip_10 : decode cX12_isShip 10 = .ok (.lconst 1, 1) := by decide +kernel
theorem dX12_isShip_11 : decode cX12_isShip 11 = .ok (.lsub, 1) := by decide +kernel
theorem dX12_isShip_12 : decode cX12_isShip 12 = .ok (.invokestatic 99, 3) := by decide +kernel
theorem dX12_isShip_15 : decode cX12_isShip 15 = .ok (.ireturn, 1) := by decide +kernel
theorem dX12_shipAt_0 : decode cX12_shipAt 0 = .ok (.sipush 547, 3) := by decide +kernel
theorem dX12_shipAt_3 : decode cX12_shipAt 3 = .ok (.bipush 84, 2) := by decide +kernel
theorem dX12_shipAt_5 : decode cX12_shipAt 5 = .ok (.iload_n 0, 1) := by decide +kernel
theorem dX12_shipAt_6 : decode cX12_shipAt 6 = .ok (.imul, 1) := by decide +kernel
theorem dX12_shipAt_7 : decode cX12_shipAt 7 = .ok (.iadd, 1) := by decide +kernel
theorem dX12_shipAt_8 : decode cX12_shipAt 8 = .ok (.ireturn, 1) := by decide +kernel
theorem dX12_terminalAt_0 : decode cX12_terminalAt 0 = .ok (.bipush 20, 2) := by decide +kernel
theorem dX12_terminalAt_2 : decode cX12_terminalAt 2 = .ok (.iconst 5, 1) := by decide +kernel
theorem dX12_terminalAt_3 : decode cX12_terminalAt 3 = .ok (.iload_n 0, 1) := by decide +kernel
theorem dX12_terminalAt_4 : decode cX12_terminalAt 4 = .ok (.imul, 1) := by decide +kernel
theorem dX12_terminalAt_5 : decode cX12_terminalAt 5 = .ok (.iadd, 1) := by decide +kernel
theorem dX12_terminalAt_6 : decode cX12_terminalAt 6 = .ok (.ireturn, 1) := by decide +kernel
theorem dX12_lesser_0 : decode cX12_lesser 0 = .ok (.iload_n 0, 1) := by decide +kernel
theorem dX12_lesser_1 : decode cX12_lesser 1 = .ok (.iload_n 1, 1) := by decide +kernel
theorem dX12_lesser_2 : decode cX12_lesser 2 = .ok (.if_icmp .ge 7, 3) := by decide +kernel
theorem dX12_lesser_5 : decode cX12_lesser 5 = .ok (.iload_n 0, 1) := by decide +kernel
theorem dX12_lesser_6 : decode cX12_lesser 6 = .ok (.goto 4, 3) := by decide +kernel
theorem dX12_lesser_9 : decode cX12_lesser 9 = .ok (.iload_n 1, 1) := by decide +kernel
theorem dX12_lesser_10 : decode cX12_lesser 10 = .ok (.ireturn, 1) := by decide +kernel
set_option maxRecDepth 20000 in
theorem ggX12_isLanding_X12_in : GoodIn wsX12_isLanding wsX12_in := goodIn_r _ [5] (by decide +kernel) (by decide +kernel)
set_option maxRecDepth 20000 in
theorem gX12_isLanding_X12_in : GoodIn wsX12_isLanding (va_wsS RX12 99 yX12_in wsX12_in) := goodIn_app (goodIn_of _ (by decide +kernel)) ggX12_isLanding_X12_in
theorem dX12_isLanding_0 : decode cX12_isLanding 0 = .ok (.iload_n 1, 1) := by decide +kernel
theorem dX12_isLanding_1 : decode cX12_isLanding 1 = .ok (.i2l, 1) := by decide +kernel
theorem dX12_isLanding_2 : decode cX12_isLanding 2 = .ok (.lconst 0, 1) := by decide +kernel
theorem dX12_isLanding_3 : decode cX12_isLanding 3 = .ok (.aload_n 0, 1) := by decide +kernel
theorem dX12_isLanding_4 : decode cX12_isLanding 4 = .ok (.getfield 7, 3) := by decide +kernel
theorem dX12_isLanding_7 : decode cX12_isLanding 7 = .ok (.iconst 5, 1) := by decide +kernel
theorem dX12_isLanding_8 : decode cX12_isLanding 8 = .ok (.iaload, 1) := by decide +kernel
theorem dX12_isLanding_9 : decode cX12_isLanding 9 = .ok (.i2l, 1) := by decide +kernel
theorem dX12_isLanding_10 : decode cX12_isLanding 10 = .ok (.lconst 1, 1) := by decide +kernel
theorem dX12_isLanding_11 : decode cX12_isLanding 11 = .ok (.lsub, 1) := by decide +kernel
theorem dX12_isLanding_12 : decode cX12_isLanding 12 = .ok (.invokestatic 99, 3) := by decide +kernel
theorem dX12_isLanding_15 : decode cX12_isLanding 15 = .ok (.ireturn, 1) := by decide +kernel
theorem dX12_landingAt_0 : decode cX12_landingAt 0 = .ok (.sipush 1051, 3) := by decide +kernel
theorem dX12_landingAt_3 : decode cX12_landingAt 3 = .ok (.bipush 16, 2) := by decide +kernel
theorem dX12_landingAt_5 : decode cX12_landingAt 5 = .ok (.iload_n 0, 1) := by decide +kernel
theorem dX12_landingAt_6 : decode cX12_landingAt 6 = .ok (.imul, 1) := by decide +kernel
theorem dX12_landingAt_7 : decode cX12_landingAt 7 = .ok (.iadd, 1) := by decide +kernel
theorem dX12_landingAt_8 : decode cX12_landingAt 8 = .ok (.ireturn, 1) := by decide +kernel
theorem dX12_isSmall_0 : decode cX12_isSmall 0 = .ok (.iload_n 0, 1) := by decide +kernel
theorem dX12_isSmall_1 : decode cX12_isSmall 1 = .ok (.bipush 97, 2) := by decide +kernel
theorem dX12_isSmall_3 : decode cX12_isSmall 3 = .ok (.if_icmp .lt 13, 3) := by decide +kernel
theorem dX12_isSmall_6 : decode cX12_isSmall 6 = .ok (.iload_n 0, 1) := by decide +kernel
theorem dX12_isSmall_7 : decode cX12_isSmall 7 = .ok (.bipush 122, 2) := by decide +kernel
theorem dX12_isSmall_9 : decode cX12_isSmall 9 = .ok (.if_icmp .gt 7, 3) := by decide +kernel
theorem dX12_isSmall_12 : decode cX12_isSmall 12 = .ok (.iconst 1, 1) := by decide +kernel
theorem dX12_isSmall_13 : decode cX12_isSmall 13 = .ok (.goto 4, 3) := by decide +kernel
theorem dX12_isSmall_16 : decode cX12_isSmall 16 = .ok (.iconst 0, 1) := by decide +kernel
theorem dX12_isSmall_17 : decode cX12_isSmall 17 = .ok (.ireturn, 1) := by decide +kernel
theorem dX12_isDigit_0 : decode cX12_isDigit 0 = .ok (.iload_n 0, 1) := by decide +kernel
theorem dX12_isDigit_1 : decode cX12_isDigit 1 = .ok (.bipush 48, 2) := by decide +kernel
theorem dX12_isDigit_3 : decode cX12_isDigit 3 = .ok (.if_icmp .lt 13, 3) := by decide +kernel
theorem dX12_isDigit_6 : decode cX12_isDigit 6 = .ok (.iload_n 0, 1) := by decide +kernel
theorem dX12_isDigit_7 : decode cX12_isDigit 7 = .ok (.bipush 57, 2) := by decide +kernel
theorem dX12_isDigit_9 : decode cX12_isDigit 9 = .ok (.if_icmp .gt 7, 3) := by decide +kernel
theorem dX12_isDigit_12 : decode cX12_isDigit 12 = .ok (.iconst 1, 1) := by decide +kernel
theorem dX12_isDigit_13 : decode cX12_isDigit 13 = .ok (.goto 4, 3) := by decide +kernel
theorem dX12_isDigit_16 : decode cX12_isDigit 16 = .ok (.iconst 0, 1) := by decide +kernel
theorem dX12_isDigit_17 : decode cX12_isDigit 17 = .ok (.ireturn, 1) := by decide +kernel
set_option maxRecDepth 20000 in
theorem ggX12_isContract_X12_in : GoodIn wsX12_isContract wsX12_in := goodIn_r _ [5] (by decide +kernel) (by decide +kernel)
set_option maxRecDepth 20000 in
theorem gX12_isContract_X12_in : GoodIn wsX12_isContract (va_wsS RX12 99 yX12_in wsX12_in) := goodIn_app (goodIn_of _ (by decide +kernel)) ggX12_isContract_X12_in
theorem dX12_isContract_0 : decode cX12_isContract 0 = .ok (.iload_n 1, 1) := by decide +kernel
theorem dX12_isContract_1 : decode cX12_isContract 1 = .ok (.i2l, 1) := by decide +kernel
theorem dX12_isContract_2 : decode cX12_isContract 2 = .ok (.lconst 0, 1) := by decide +kernel
theorem dX12_isContract_3 : decode cX12_isContract 3 = .ok (.aload_n 0, 1) := by decide +kernel
theorem dX12_isContract_4 : decode cX12_isContract 4 = .ok (.getfield 7, 3) := by decide +kernel
theorem dX12_isContract_7 : decode cX12_isContract 7 = .ok (.bipush 8, 2) := by decide +kernel
theorem dX12_isContract_9 : decode cX12_isContract 9 = .ok (.iaload, 1) := by decide +kernel
theorem dX12_isContract_10 : decode cX12_isContract 10 = .ok (.i2l, 1) := by decide +kernel
theorem dX12_isContract_11 : decode cX12_isContract 11 = .ok (.lconst 1, 1) := by decide +kernel
theorem dX12_isContract_12 : decode cX12_isContract 12 = .ok (.lsub, 1) := by decide +kernel
theorem dX12_isContract_13 : decode cX12_isContract 13 = .ok (.invokestatic 99, 3) := by decide +kernel
theorem dX12_isContract_16 : decode cX12_isContract 16 = .ok (.ireturn, 1) := by decide +kernel
theorem dX12_contractAt_0 : decode cX12_contractAt 0 = .ok (.sipush 2251, 3) := by decide +kernel
theorem dX12_contractAt_3 : decode cX12_contractAt 3 = .ok (.sipush 864, 3) := by decide +kernel
theorem dX12_contractAt_6 : decode cX12_contractAt 6 = .ok (.iload_n 0, 1) := by decide +kernel
theorem dX12_contractAt_7 : decode cX12_contractAt 7 = .ok (.imul, 1) := by decide +kernel
theorem dX12_contractAt_8 : decode cX12_contractAt 8 = .ok (.iadd, 1) := by decide +kernel
theorem dX12_contractAt_9 : decode cX12_contractAt 9 = .ok (.ireturn, 1) := by decide +kernel
