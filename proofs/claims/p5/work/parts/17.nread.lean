def tyX2 : Nat → FieldType := fun k => match k with
  | 0 => .array .char
  | 1 => .int
  | 2 => .int
  | 3 => .int
  | 4 => .int
  | 5 => .int
  | 6 => .int
  | 7 => .array .int
  | 8 => .int
  | 9 => .array .int
  | 10 => .int
  | 11 => .int
  | 12 => .int
  | 13 => .int
  | 14 => .int
  | _ => .int
abbrev wsX20 : List Cond := u_ws RX2 TX2 16
theorem nmX2 : ∀ a, a < 16 → ∀ b, b < 16 → a ≠ b → (TX2 a).2.1 ≠ (TX2 b).2.1 := by decide +kernel
theorem tyX2_ok : ∀ k, k < 16 → parseFieldDescriptor (TX2 k).2.2.1 = some (tyX2 k) := by decide +kernel
abbrev cX2_hasRoom : ByteArray := prog_4_method_2_code
def yX2_hasRoom : MethodName := ⟨RX2, "hasRoom", "()Z"⟩
abbrev cX2_addFour : ByteArray := prog_4_method_3_code
def yX2_addFour : MethodName := ⟨RX2, "addFour", "(I)V"⟩
abbrev cX2_emptyTape : ByteArray := prog_4_method_4_code
def yX2_emptyTape : MethodName := ⟨RX2, "emptyTape", "()V"⟩
abbrev cX2_isLetter : ByteArray := prog_4_method_26_code
def yX2_isLetter : MethodName := ⟨RX2, "isLetter", "(C)Z"⟩
abbrev cX2_isDigit : ByteArray := prog_4_method_27_code
def yX2_isDigit : MethodName := ⟨RX2, "isDigit", "(C)Z"⟩
def wsX2_hasRoom : List Cond := .code yX2_hasRoom cX2_hasRoom 1 (some .boolean) :: ([.fieldLink RX2 26 "ColdShips$Reader" "size" "I"] ++ wsX20)
def wsX2_addFour : List Cond := .code yX2_addFour cX2_addFour 3 none :: ([.fieldLink RX2 26 "ColdShips$Reader" "size" "I", .fieldLink RX2 11 "ColdShips$Reader" "tape" "[C"] ++ wsX20)
def wsX2_emptyTape : List Cond := .code yX2_emptyTape cX2_emptyTape 1 none :: ([.fieldLink RX2 26 "ColdShips$Reader" "size" "I"] ++ wsX20)
def wsX2_isLetter : List Cond := .code yX2_isLetter cX2_isLetter 1 (some .boolean) :: ([])
def wsX2_isDigit : List Cond := .code yX2_isDigit cX2_isDigit 1 (some .boolean) :: ([])
theorem dX2_hasRoom_0 : decode cX2_hasRoom 0 = .ok (.aload_n 0, 1) := by decide +kernel
theorem dX2_hasRoom_1 : decode cX2_hasRoom 1 = .ok (.getfield 26, 3) := by decide +kernel
theorem dX2_hasRoom_4 : decode cX2_hasRoom 4 = .ok (.bipush 20, 2) := by decide +kernel
theorem dX2_hasRoom_6 : decode cX2_hasRoom 6 = .ok (.iadd, 1) := by decide +kernel
theorem dX2_hasRoom_7 : decode cX2_hasRoom 7 = .ok (.sipush 400, 3) := by decide +kernel
theorem dX2_hasRoom_10 : decode cX2_hasRoom 10 = .ok (.if_icmp .gt 7, 3) := by decide +kernel
theorem dX2_hasRoom_13 : decode cX2_hasRoom 13 = .ok (.iconst 1, 1) := by decide +kernel
theorem dX2_hasRoom_14 : decode cX2_hasRoom 14 = .ok (.goto 4, 3) := by decide +kernel
theorem dX2_hasRoom_17 : decode cX2_hasRoom 17 = .ok (.iconst 0, 1) := by decide +kernel
theorem dX2_hasRoom_18 : decode cX2_hasRoom 18 = .ok (.ireturn, 1) := by decide +kernel
theorem dX2_addFour_0 : decode cX2_addFour 0 = .ok (.bipush 24, 2) := by decide +kernel
theorem dX2_addFour_2 : decode cX2_addFour 2 = .ok (.istore_n 2, 1) := by decide +kernel
theorem dX2_addFour_3 : decode cX2_addFour 3 = .ok (.iload_n 2, 1) := by decide +kernel
theorem dX2_addFour_4 : decode cX2_addFour 4 = .ok (.ifCond .lt 46, 3) := by decide +kernel
theorem dX2_addFour_7 : decode cX2_addFour 7 = .ok (.aload_n 0, 1) := by decide +kernel
theorem dX2_addFour_8 : decode cX2_addFour 8 = .ok (.getfield 26, 3) := by decide +kernel
theorem dX2_addFour_11 : decode cX2_addFour 11 = .ok (.sipush 400, 3) := by decide +kernel
theorem dX2_addFour_14 : decode cX2_addFour 14 = .ok (.if_icmp .ge 36, 3) := by decide +kernel
theorem dX2_addFour_17 : decode cX2_addFour 17 = .ok (.aload_n 0, 1) := by decide +kernel
theorem dX2_addFour_18 : decode cX2_addFour 18 = .ok (.getfield 11, 3) := by decide +kernel
theorem dX2_addFour_21 : decode cX2_addFour 21 = .ok (.aload_n 0, 1) := by decide +kernel
theorem dX2_addFour_22 : decode cX2_addFour 22 = .ok (.getfield 26, 3) := by decide +kernel
theorem dX2_addFour_25 : decode cX2_addFour 25 = .ok (.iload_n 1, 1) := by decide +kernel
theorem dX2_addFour_26 : decode cX2_addFour 26 = .ok (.iload_n 2, 1) := by decide +kernel
theorem dX2_addFour_27 : decode cX2_addFour 27 = .ok (.iushr, 1) := by decide +kernel
theorem dX2_addFour_28 : decode cX2_addFour 28 = .ok (.sipush 255, 3) := by decide +kernel
theorem dX2_addFour_31 : decode cX2_addFour 31 = .ok (.iand, 1) := by decide +kernel
theorem dX2_addFour_32 : decode cX2_addFour 32 = .ok (.i2c, 1) := by decide +kernel
theorem dX2_addFour_33 : decode cX2_addFour 33 = .ok (.castore, 1) := by decide +kernel
theorem dX2_addFour_34 : decode cX2_addFour 34 = .ok (.aload_n 0, 1) := by decide +kernel
theorem dX2_addFour_35 : decode cX2_addFour 35 = .ok (.dup, 1) := by decide +kernel
theorem dX2_addFour_36 : decode cX2_addFour 36 = .ok (.getfield 26, 3) := by decide +kernel
theorem dX2_addFour_39 : decode cX2_addFour 39 = .ok (.iconst 1, 1) := by decide +kernel
theorem dX2_addFour_40 : decode cX2_addFour 40 = .ok (.iadd, 1) := by decide +kernel
theorem dX2_addFour_41 : decode cX2_addFour 41 = .ok (.putfield 26, 3) := by decide +kernel
theorem dX2_addFour_44 : decode cX2_addFour 44 = .ok (.iinc 2 (-8), 3) := by decide +kernel
theorem dX2_addFour_47 : decode cX2_addFour 47 = .ok (.goto (-44), 3) := by decide +kernel
theorem dX2_addFour_50 : decode cX2_addFour 50 = .ok (.return_, 1) := by decide +kernel
theorem dX2_emptyTape_0 : decode cX2_emptyTape 0 = .ok (.aload_n 0, 1) := by decide +kernel
theorem dX2_emptyTape_1 : decode cX2_emptyTape 1 = .ok (.iconst 0, 1) := by decide +kernel
theorem dX2_emptyTape_2 : decode cX2_emptyTape 2 = .ok (.putfield 26, 3) := by decide +kernel
theorem dX2_emptyTape_5 : decode cX2_emptyTape 5 = .ok (.return_, 1) := by decide +kernel
theorem dX2_isLetter_0 : decode cX2_isLetter 0 = .ok (.iload_n 0, 1) := by decide +kernel
theorem dX2_isLetter_1 : decode cX2_isLetter 1 = .ok (.bipush 97, 2) := by decide +kernel
theorem dX2_isLetter_3 : decode cX2_isLetter 3 = .ok (.if_icmp .lt 13, 3) := by decide +kernel
theorem dX2_isLetter_6 : decode cX2_isLetter 6 = .ok (.iload_n 0, 1) := by decide +kernel
theorem dX2_isLetter_7 : decode cX2_isLetter 7 = .ok (.bipush 122, 2) := by decide +kernel
theorem dX2_isLetter_9 : decode cX2_isLetter 9 = .ok (.if_icmp .gt 7, 3) := by decide +kernel
theorem dX2_isLetter_12 : decode cX2_isLetter 12 = .ok (.iconst 1, 1) := by decide +kernel
theorem dX2_isLetter_13 : decode cX2_isLetter 13 = .ok (.goto 4, 3) := by decide +kernel
theorem dX2_isLetter_16 : decode cX2_isLetter 16 = .ok (.iconst 0, 1) := by decide +kernel
theorem dX2_isLetter_17 : decode cX2_isLetter 17 = .ok (.ireturn, 1) := by decide +kernel
theorem dX2_isDigit_0 : decode cX2_isDigit 0 = .ok (.iload_n 0, 1) := by decide +kernel
theorem dX2_isDigit_1 : decode cX2_isDigit 1 = .ok (.bipush 48, 2) := by decide +kernel
theorem dX2_isDigit_3 : decode cX2_isDigit 3 = .ok (.if_icmp .lt 13, 3) := by decide +kernel
theorem dX2_isDigit_6 : decode cX2_isDigit 6 = .ok (.iload_n 0, 1) := by decide +kernel
theorem dX2_isDigit_7 : decode cX2_isDigit 7 = .ok (.bipush 57, 2) := by decide +kernel
theorem dX2_isDigit_9 : decode cX2_isDigit 9 = .ok (.if_icmp .gt 7, 3) := by decide +kernel
theorem dX2_isDigit_12 : decode cX2_isDigit 12 = .ok (.iconst 1, 1) := by decide +kernel
theorem dX2_isDigit_13 : decode cX2_isDigit 13 = .ok (.goto 4, 3) := by decide +kernel
theorem dX2_isDigit_16 : decode cX2_isDigit 16 = .ok (.iconst 0, 1) := by decide +kernel
theorem dX2_isDigit_17 : decode cX2_isDigit 17 = .ok (.ireturn, 1) := by decide +kernel
