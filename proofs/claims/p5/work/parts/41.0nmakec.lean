def tyX11 : Nat → FieldType := fun k => match k with
  | 0 => .object "ColdShips$World"
  | 1 => .array (.object "ColdShips$World")
  | 2 => .object "ColdShips$Watch"
  | 3 => .object "ColdShips$Reader"
  | 4 => .object "ColdShips$Reckoner"
  | 5 => .object "ColdShips$Planner"
  | _ => .int
theorem nmX11 : ∀ a, a < 7 → ∀ b, b < 7 → a ≠ b → (TX11 a).2.1 ≠ (TX11 b).2.1 := by decide +kernel
theorem tyX11_ok : ∀ k, k < 7 → parseFieldDescriptor (TX11 k).2.2.1 = some (tyX11 k) := by decide +kernel
theorem ggX11_init_X10_init : GoodIn WALL wqX10_init := wg_c wa_35
theorem ggX11_init_X9_init : GoodIn WALL wqX9_init := wg_c wa_112
theorem ggX11_init_X2_init : GoodIn WALL wqX2_init := wg_c wa_116
theorem ggX11_init_X3_init : GoodIn WALL wqX3_init := wg_c wa_125
theorem ggX11_init_X1_init : GoodIn WALL wqX1_init := wg_c wa_132
theorem dX11_init_0 : decode cX11_init 0 = .ok (.aload_n 0, 1) := od_42  (by decide +kernel)
theorem dX11_init_1 : decode cX11_init 1 = .ok (.invokespecial 1, 3) := od_183 (a := 0) (b := 1) (by decide +kernel) (by decide)
theorem dX11_init_4 : decode cX11_init 4 = .ok (.aload_n 0, 1) := od_42  (by decide +kernel)
theorem dX11_init_5 : decode cX11_init 5 = .ok (.new 7, 3) := od_187 (a := 0) (b := 7) (by decide +kernel) (by decide)
theorem dX11_init_8 : decode cX11_init 8 = .ok (.dup, 1) := od_89  (by decide +kernel)
theorem dX11_init_9 : decode cX11_init 9 = .ok (.invokespecial 9, 3) := od_183 (a := 0) (b := 9) (by decide +kernel) (by decide)
theorem dX11_init_12 : decode cX11_init 12 = .ok (.putfield 10, 3) := od_181 (a := 0) (b := 10) (by decide +kernel) (by decide)
theorem dX11_init_15 : decode cX11_init 15 = .ok (.aload_n 0, 1) := od_42  (by decide +kernel)
theorem dX11_init_16 : decode cX11_init 16 = .ok (.iconst 2, 1) := od_5  (by decide +kernel)
theorem dX11_init_17 : decode cX11_init 17 = .ok (.anewarray 7, 3) := od_189 (a := 0) (b := 7) (by decide +kernel) (by decide)
theorem dX11_init_20 : decode cX11_init 20 = .ok (.putfield 16, 3) := od_181 (a := 0) (b := 16) (by decide +kernel) (by decide)
theorem dX11_init_23 : decode cX11_init 23 = .ok (.aload_n 0, 1) := od_42  (by decide +kernel)
theorem dX11_init_24 : decode cX11_init 24 = .ok (.new 20, 3) := od_187 (a := 0) (b := 20) (by decide +kernel) (by decide)
theorem dX11_init_27 : decode cX11_init 27 = .ok (.dup, 1) := od_89  (by decide +kernel)
theorem dX11_init_28 : decode cX11_init 28 = .ok (.aload_n 0, 1) := od_42  (by decide +kernel)
theorem dX11_init_29 : decode cX11_init 29 = .ok (.getfield 10, 3) := od_180 (a := 0) (b := 10) (by decide +kernel) (by decide)
theorem dX11_init_32 : decode cX11_init 32 = .ok (.invokespecial 22, 3) := od_183 (a := 0) (b := 22) (by decide +kernel) (by decide)
theorem dX11_init_35 : decode cX11_init 35 = .ok (.putfield 25, 3) := od_181 (a := 0) (b := 25) (by decide +kernel) (by decide)
theorem dX11_init_38 : decode cX11_init 38 = .ok (.aload_n 0, 1) := od_42  (by decide +kernel)
theorem dX11_init_39 : decode cX11_init 39 = .ok (.new 29, 3) := od_187 (a := 0) (b := 29) (by decide +kernel) (by decide)
theorem dX11_init_42 : decode cX11_init 42 = .ok (.dup, 1) := od_89  (by decide +kernel)
theorem dX11_init_43 : decode cX11_init 43 = .ok (.invokespecial 31, 3) := od_183 (a := 0) (b := 31) (by decide +kernel) (by decide)
theorem dX11_init_46 : decode cX11_init 46 = .ok (.putfield 32, 3) := od_181 (a := 0) (b := 32) (by decide +kernel) (by decide)
theorem dX11_init_49 : decode cX11_init 49 = .ok (.aload_n 0, 1) := od_42  (by decide +kernel)
theorem dX11_init_50 : decode cX11_init 50 = .ok (.new 36, 3) := od_187 (a := 0) (b := 36) (by decide +kernel) (by decide)
theorem dX11_init_53 : decode cX11_init 53 = .ok (.dup, 1) := od_89  (by decide +kernel)
theorem dX11_init_54 : decode cX11_init 54 = .ok (.aload_n 0, 1) := od_42  (by decide +kernel)
theorem dX11_init_55 : decode cX11_init 55 = .ok (.getfield 10, 3) := od_180 (a := 0) (b := 10) (by decide +kernel) (by decide)
theorem dX11_init_58 : decode cX11_init 58 = .ok (.invokespecial 38, 3) := od_183 (a := 0) (b := 38) (by decide +kernel) (by decide)
theorem dX11_init_61 : decode cX11_init 61 = .ok (.putfield 39, 3) := od_181 (a := 0) (b := 39) (by decide +kernel) (by decide)
theorem dX11_init_64 : decode cX11_init 64 = .ok (.aload_n 0, 1) := od_42  (by decide +kernel)
theorem dX11_init_65 : decode cX11_init 65 = .ok (.new 43, 3) := od_187 (a := 0) (b := 43) (by decide +kernel) (by decide)
theorem dX11_init_68 : decode cX11_init 68 = .ok (.dup, 1) := od_89  (by decide +kernel)
theorem dX11_init_69 : decode cX11_init 69 = .ok (.aload_n 0, 1) := od_42  (by decide +kernel)
theorem dX11_init_70 : decode cX11_init 70 = .ok (.getfield 10, 3) := od_180 (a := 0) (b := 10) (by decide +kernel) (by decide)
theorem dX11_init_73 : decode cX11_init 73 = .ok (.invokespecial 45, 3) := od_183 (a := 0) (b := 45) (by decide +kernel) (by decide)
theorem dX11_init_76 : decode cX11_init 76 = .ok (.putfield 46, 3) := od_181 (a := 0) (b := 46) (by decide +kernel) (by decide)
theorem dX11_init_79 : decode cX11_init 79 = .ok (.return_, 1) := od_177  (by decide +kernel)
