def tyX0 : Nat → FieldType := fun k => match k with
  | 0 => .array .int
  | 1 => .array .int
  | 2 => .int
  | 3 => .int
  | _ => .int
theorem nmX0 : ∀ a, a < 5 → ∀ b, b < 5 → a ≠ b → (TX0 a).2.1 ≠ (TX0 b).2.1 := by decide +kernel
theorem tyX0_ok : ∀ k, k < 5 → parseFieldDescriptor (TX0 k).2.2.1 = some (tyX0 k) := by decide +kernel
def tyX1 : Nat → FieldType := fun k => match k with
  | 0 => .object "ColdShips$World"
  | 1 => .array .long
  | 2 => .array .int
  | 3 => .array .long
  | 4 => .array .int
  | 5 => .int
  | 6 => .int
  | 7 => .int
  | 8 => .long
  | 9 => .int
  | 10 => .array .int
  | 11 => .array .int
  | 12 => .array .int
  | 13 => .array .int
  | _ => .array .long
theorem nmX1 : ∀ a, a < 15 → ∀ b, b < 15 → a ≠ b → (TX1 a).2.1 ≠ (TX1 b).2.1 := by decide +kernel
theorem tyX1_ok : ∀ k, k < 15 → parseFieldDescriptor (TX1 k).2.2.1 = some (tyX1 k) := by decide +kernel
def tyX2 : Nat → FieldType := fun k => match k with
  | 0 => .array .char
  | 1 => .int
  | 2 => .int
  | 3 => .int
  | 4 => .int
  | 5 => .int
  | 6 => .int
  | 7 => .array .int
  | 8 => .int
  | 9 => .array .int
  | 10 => .int
  | 11 => .int
  | 12 => .int
  | 13 => .int
  | 14 => .int
  | _ => .int
theorem nmX2 : ∀ a, a < 16 → ∀ b, b < 16 → a ≠ b → (TX2 a).2.1 ≠ (TX2 b).2.1 := by decide +kernel
theorem tyX2_ok : ∀ k, k < 16 → parseFieldDescriptor (TX2 k).2.2.1 = some (tyX2 k) := by decide +kernel
def tyX3 : Nat → FieldType := fun k => match k with
  | 0 => .object "ColdShips$World"
  | 1 => .array .long
  | 2 => .array .long
  | 3 => .int
  | 4 => .long
  | _ => .long
theorem nmX3 : ∀ a, a < 6 → ∀ b, b < 6 → a ≠ b → (TX3 a).2.1 ≠ (TX3 b).2.1 := by decide +kernel
theorem tyX3_ok : ∀ k, k < 6 → parseFieldDescriptor (TX3 k).2.2.1 = some (tyX3 k) := by decide +kernel
def tyX4 : Nat → FieldType := fun k => match k with
  | 0 => .int
  | 1 => .array .long
  | _ => .int
theorem nmX4 : ∀ a, a < 3 → ∀ b, b < 3 → a ≠ b → (TX4 a).2.1 ≠ (TX4 b).2.1 := by decide +kernel
theorem tyX4_ok : ∀ k, k < 3 → parseFieldDescriptor (TX4 k).2.2.1 = some (tyX4 k) := by decide +kernel
def tyX5 : Nat → FieldType := fun k => match k with
  | 0 => .object "ColdShips$Tank"
  | 1 => .int
  | 2 => .int
  | 3 => .int
  | 4 => .int
  | 5 => .boolean
  | 6 => .int
  | 7 => .array .int
  | 8 => .array .int
  | 9 => .array .long
  | 10 => .int
  | 11 => .int
  | 12 => .int
  | 13 => .array .int
  | 14 => .int
  | 15 => .array .int
  | _ => .array .int
theorem nmX5 : ∀ a, a < 17 → ∀ b, b < 17 → a ≠ b → (TX5 a).2.1 ≠ (TX5 b).2.1 := by decide +kernel
theorem tyX5_ok : ∀ k, k < 17 → parseFieldDescriptor (TX5 k).2.2.1 = some (tyX5 k) := by decide +kernel
def tyX6 : Nat → FieldType := fun k => match k with
  | 0 => .array .int
  | 1 => .array .int
  | 2 => .array .int
  | _ => .int
theorem nmX6 : ∀ a, a < 4 → ∀ b, b < 4 → a ≠ b → (TX6 a).2.1 ≠ (TX6 b).2.1 := by decide +kernel
theorem tyX6_ok : ∀ k, k < 4 → parseFieldDescriptor (TX6 k).2.2.1 = some (tyX6 k) := by decide +kernel
def tyX7 : Nat → FieldType := fun k => match k with
  | 0 => .int
  | 1 => .int
  | 2 => .int
  | 3 => .int
  | 4 => .array .int
  | 5 => .array .int
  | _ => .array .long
theorem nmX7 : ∀ a, a < 7 → ∀ b, b < 7 → a ≠ b → (TX7 a).2.1 ≠ (TX7 b).2.1 := by decide +kernel
theorem tyX7_ok : ∀ k, k < 7 → parseFieldDescriptor (TX7 k).2.2.1 = some (tyX7 k) := by decide +kernel
def tyX8 : Nat → FieldType := fun k => match k with
  | 0 => .int
  | 1 => .int
  | 2 => .int
  | 3 => .int
  | 4 => .int
  | 5 => .array .int
  | _ => .array .int
theorem nmX8 : ∀ a, a < 7 → ∀ b, b < 7 → a ≠ b → (TX8 a).2.1 ≠ (TX8 b).2.1 := by decide +kernel
theorem tyX8_ok : ∀ k, k < 7 → parseFieldDescriptor (TX8 k).2.2.1 = some (tyX8 k) := by decide +kernel
def tyX9 : Nat → FieldType := fun k => match k with
  | 0 => .object "ColdShips$World"
  | 1 => .int
  | 2 => .int
  | _ => .boolean
theorem nmX9 : ∀ a, a < 4 → ∀ b, b < 4 → a ≠ b → (TX9 a).2.1 ≠ (TX9 b).2.1 := by decide +kernel
theorem tyX9_ok : ∀ k, k < 4 → parseFieldDescriptor (TX9 k).2.2.1 = some (tyX9 k) := by decide +kernel
theorem dX0_init_0 : decode cX0_init 0 = .ok (.aload_n 0, 1) := od_42  (by decide +kernel)
theorem dX0_init_1 : decode cX0_init 1 = .ok (.invokespecial 1, 3) := od_183 (a := 0) (b := 1) (by decide +kernel) (by decide)
theorem dX0_init_4 : decode cX0_init 4 = .ok (.aload_n 0, 1) := od_42  (by decide +kernel)
theorem dX0_init_5 : decode cX0_init 5 = .ok (.aload_n 1, 1) := od_43  (by decide +kernel)
theorem dX0_init_6 : decode cX0_init 6 = .ok (.putfield 7, 3) := od_181 (a := 0) (b := 7) (by decide +kernel) (by decide)
theorem dX0_init_9 : decode cX0_init 9 = .ok (.aload_n 0, 1) := od_42  (by decide +kernel)
theorem dX0_init_10 : decode cX0_init 10 = .ok (.aload_n 2, 1) := od_44  (by decide +kernel)
theorem dX0_init_11 : decode cX0_init 11 = .ok (.putfield 13, 3) := od_181 (a := 0) (b := 13) (by decide +kernel) (by decide)
theorem dX0_init_14 : decode cX0_init 14 = .ok (.aload_n 0, 1) := od_42  (by decide +kernel)
theorem dX0_init_15 : decode cX0_init 15 = .ok (.iload_n 3, 1) := od_29  (by decide +kernel)
theorem dX0_init_16 : decode cX0_init 16 = .ok (.putfield 16, 3) := od_181 (a := 0) (b := 16) (by decide +kernel) (by decide)
theorem dX0_init_19 : decode cX0_init 19 = .ok (.aload_n 0, 1) := od_42  (by decide +kernel)
theorem dX0_init_20 : decode cX0_init 20 = .ok (.iload 4, 2) := od_21 (n := 4) (by decide +kernel)
theorem dX0_init_22 : decode cX0_init 22 = .ok (.putfield 20, 3) := od_181 (a := 0) (b := 20) (by decide +kernel) (by decide)
theorem dX0_init_25 : decode cX0_init 25 = .ok (.aload_n 0, 1) := od_42  (by decide +kernel)
theorem dX0_init_26 : decode cX0_init 26 = .ok (.iload 5, 2) := od_21 (n := 5) (by decide +kernel)
theorem dX0_init_28 : decode cX0_init 28 = .ok (.putfield 23, 3) := od_181 (a := 0) (b := 23) (by decide +kernel) (by decide)
theorem dX0_init_31 : decode cX0_init 31 = .ok (.return_, 1) := od_177  (by decide +kernel)
theorem dX1_init_0 : decode cX1_init 0 = .ok (.aload_n 0, 1) := od_42  (by decide +kernel)
theorem dX1_init_1 : decode cX1_init 1 = .ok (.invokespecial 3, 3) := od_183 (a := 0) (b := 3) (by decide +kernel) (by decide)
theorem dX1_init_4 : decode cX1_init 4 = .ok (.aload_n 0, 1) := od_42  (by decide +kernel)
theorem dX1_init_5 : decode cX1_init 5 = .ok (.sipush 192, 3) := od_17 (a := 0) (b := 192) (by decide +kernel) (by decide +kernel)
theorem dX1_init_8 : decode cX1_init 8 = .ok (.newarray .long, 2) := od_188_11 (by decide +kernel)
theorem dX1_init_10 : decode cX1_init 10 = .ok (.putfield 11, 3) := od_181 (a := 0) (b := 11) (by decide +kernel) (by decide)
theorem dX1_init_13 : decode cX1_init 13 = .ok (.aload_n 0, 1) := od_42  (by decide +kernel)
theorem dX1_init_14 : decode cX1_init 14 = .ok (.sipush 192, 3) := od_17 (a := 0) (b := 192) (by decide +kernel) (by decide +kernel)
theorem dX1_init_17 : decode cX1_init 17 = .ok (.newarray .int, 2) := od_188_10 (by decide +kernel)
theorem dX1_init_19 : decode cX1_init 19 = .ok (.putfield 15, 3) := od_181 (a := 0) (b := 15) (by decide +kernel) (by decide)
theorem dX1_init_22 : decode cX1_init 22 = .ok (.aload_n 0, 1) := od_42  (by decide +kernel)
theorem dX1_init_23 : decode cX1_init 23 = .ok (.bipush 64, 2) := od_16 (a := 64) (by decide +kernel) (by decide +kernel)
theorem dX1_init_25 : decode cX1_init 25 = .ok (.newarray .long, 2) := od_188_11 (by decide +kernel)
theorem dX1_init_27 : decode cX1_init 27 = .ok (.putfield 19, 3) := od_181 (a := 0) (b := 19) (by decide +kernel) (by decide)
theorem dX1_init_30 : decode cX1_init 30 = .ok (.aload_n 0, 1) := od_42  (by decide +kernel)
theorem dX1_init_31 : decode cX1_init 31 = .ok (.bipush 64, 2) := od_16 (a := 64) (by decide +kernel) (by decide +kernel)
theorem dX1_init_33 : decode cX1_init 33 = .ok (.newarray .int, 2) := od_188_10 (by decide +kernel)
theorem dX1_init_35 : decode cX1_init 35 = .ok (.putfield 22, 3) := od_181 (a := 0) (b := 22) (by decide +kernel) (by decide)
theorem dX1_init_38 : decode cX1_init 38 = .ok (.aload_n 0, 1) := od_42  (by decide +kernel)
theorem dX1_init_39 : decode cX1_init 39 = .ok (.bipush 6, 2) := od_16 (a := 6) (by decide +kernel) (by decide +kernel)
theorem dX1_init_41 : decode cX1_init 41 = .ok (.newarray .int, 2) := od_188_10 (by decide +kernel)
theorem dX1_init_43 : decode cX1_init 43 = .ok (.putfield 25, 3) := od_181 (a := 0) (b := 25) (by decide +kernel) (by decide)
theorem dX1_init_46 : decode cX1_init 46 = .ok (.aload_n 0, 1) := od_42  (by decide +kernel)
theorem dX1_init_47 : decode cX1_init 47 = .ok (.bipush 6, 2) := od_16 (a := 6) (by decide +kernel) (by decide +kernel)
theorem dX1_init_49 : decode cX1_init 49 = .ok (.newarray .int, 2) := od_188_10 (by decide +kernel)
theorem dX1_init_51 : decode cX1_init 51 = .ok (.putfield 28, 3) := od_181 (a := 0) (b := 28) (by decide +kernel) (by decide)
theorem dX1_init_54 : decode cX1_init 54 = .ok (.aload_n 0, 1) := od_42  (by decide +kernel)
theorem dX1_init_55 : decode cX1_init 55 = .ok (.bipush 6, 2) := od_16 (a := 6) (by decide +kernel) (by decide +kernel)
theorem dX1_init_57 : decode cX1_init 57 = .ok (.newarray .int, 2) := od_188_10 (by decide +kernel)
theorem dX1_init_59 : decode cX1_init 59 = .ok (.putfield 31, 3) := od_181 (a := 0) (b := 31) (by decide +kernel) (by decide)
theorem dX1_init_62 : decode cX1_init 62 = .ok (.aload_n 0, 1) := od_42  (by decide +kernel)
theorem dX1_init_63 : decode cX1_init 63 = .ok (.bipush 6, 2) := od_16 (a := 6) (by decide +kernel) (by decide +kernel)
theorem dX1_init_65 : decode cX1_init 65 = .ok (.newarray .int, 2) := od_188_10 (by decide +kernel)
theorem dX1_init_67 : decode cX1_init 67 = .ok (.putfield 34, 3) := od_181 (a := 0) (b := 34) (by decide +kernel) (by decide)
theorem dX1_init_70 : decode cX1_init 70 = .ok (.aload_n 0, 1) := od_42  (by decide +kernel)
theorem dX1_init_71 : decode cX1_init 71 = .ok (.bipush 6, 2) := od_16 (a := 6) (by decide +kernel) (by decide +kernel)
theorem dX1_init_73 : decode cX1_init 73 = .ok (.newarray .long, 2) := od_188_11 (by decide +kernel)
theorem dX1_init_75 : decode cX1_init 75 = .ok (.putfield 37, 3) := od_181 (a := 0) (b := 37) (by decide +kernel) (by decide)
theorem dX1_init_78 : decode cX1_init 78 = .ok (.aload_n 0, 1) := od_42  (by decide +kernel)
theorem dX1_init_79 : decode cX1_init 79 = .ok (.aload_n 1, 1) := od_43  (by decide +kernel)
theorem dX1_init_80 : decode cX1_init 80 = .ok (.putfield 40, 3) := od_181 (a := 0) (b := 40) (by decide +kernel) (by decide)
theorem dX1_init_83 : decode cX1_init 83 = .ok (.return_, 1) := od_177  (by decide +kernel)
theorem dX2_init_0 : decode cX2_init 0 = .ok (.aload_n 0, 1) := od_42  (by decide +kernel)
theorem dX2_init_1 : decode cX2_init 1 = .ok (.invokespecial 3, 3) := od_183 (a := 0) (b := 3) (by decide +kernel) (by decide)
theorem dX2_init_4 : decode cX2_init 4 = .ok (.aload_n 0, 1) := od_42  (by decide +kernel)
theorem dX2_init_5 : decode cX2_init 5 = .ok (.sipush 400, 3) := od_17 (a := 1) (b := 144) (by decide +kernel) (by decide +kernel)
theorem dX2_init_8 : decode cX2_init 8 = .ok (.newarray .char, 2) := od_188_5 (by decide +kernel)
theorem dX2_init_10 : decode cX2_init 10 = .ok (.putfield 11, 3) := od_181 (a := 0) (b := 11) (by decide +kernel) (by decide)
theorem dX2_init_13 : decode cX2_init 13 = .ok (.aload_n 0, 1) := od_42  (by decide +kernel)
theorem dX2_init_14 : decode cX2_init 14 = .ok (.iconst (-1), 1) := od_2  (by decide +kernel)
theorem dX2_init_15 : decode cX2_init 15 = .ok (.putfield 15, 3) := od_181 (a := 0) (b := 15) (by decide +kernel) (by decide)
theorem dX2_init_18 : decode cX2_init 18 = .ok (.aload_n 0, 1) := od_42  (by decide +kernel)
theorem dX2_init_19 : decode cX2_init 19 = .ok (.sipush 400, 3) := od_17 (a := 1) (b := 144) (by decide +kernel) (by decide +kernel)
theorem dX2_init_22 : decode cX2_init 22 = .ok (.newarray .int, 2) := od_188_10 (by decide +kernel)
theorem dX2_init_24 : decode cX2_init 24 = .ok (.putfield 19, 3) := od_181 (a := 0) (b := 19) (by decide +kernel) (by decide)
theorem dX2_init_27 : decode cX2_init 27 = .ok (.aload_n 0, 1) := od_42  (by decide +kernel)
theorem dX2_init_28 : decode cX2_init 28 = .ok (.bipush 13, 2) := od_16 (a := 13) (by decide +kernel) (by decide +kernel)
theorem dX2_init_30 : decode cX2_init 30 = .ok (.newarray .int, 2) := od_188_10 (by decide +kernel)
theorem dX2_init_32 : decode cX2_init 32 = .ok (.putfield 23, 3) := od_181 (a := 0) (b := 23) (by decide +kernel) (by decide)
theorem dX2_init_35 : decode cX2_init 35 = .ok (.return_, 1) := od_177  (by decide +kernel)
theorem dX3_init_0 : decode cX3_init 0 = .ok (.aload_n 0, 1) := od_42  (by decide +kernel)
theorem dX3_init_1 : decode cX3_init 1 = .ok (.invokespecial 3, 3) := od_183 (a := 0) (b := 3) (by decide +kernel) (by decide)
theorem dX3_init_4 : decode cX3_init 4 = .ok (.aload_n 0, 1) := od_42  (by decide +kernel)
theorem dX3_init_5 : decode cX3_init 5 = .ok (.bipush 8, 2) := od_16 (a := 8) (by decide +kernel) (by decide +kernel)
theorem dX3_init_7 : decode cX3_init 7 = .ok (.newarray .long, 2) := od_188_11 (by decide +kernel)
theorem dX3_init_9 : decode cX3_init 9 = .ok (.putfield 9, 3) := od_181 (a := 0) (b := 9) (by decide +kernel) (by decide)
theorem dX3_init_12 : decode cX3_init 12 = .ok (.aload_n 0, 1) := od_42  (by decide +kernel)
theorem dX3_init_13 : decode cX3_init 13 = .ok (.bipush 64, 2) := od_16 (a := 64) (by decide +kernel) (by decide +kernel)
theorem dX3_init_15 : decode cX3_init 15 = .ok (.newarray .long, 2) := od_188_11 (by decide +kernel)
theorem dX3_init_17 : decode cX3_init 17 = .ok (.putfield 15, 3) := od_181 (a := 0) (b := 15) (by decide +kernel) (by decide)
theorem dX3_init_20 : decode cX3_init 20 = .ok (.aload_n 0, 1) := od_42  (by decide +kernel)
theorem dX3_init_21 : decode cX3_init 21 = .ok (.aload_n 1, 1) := od_43  (by decide +kernel)
theorem dX3_init_22 : decode cX3_init 22 = .ok (.putfield 18, 3) := od_181 (a := 0) (b := 18) (by decide +kernel) (by decide)
theorem dX3_init_25 : decode cX3_init 25 = .ok (.return_, 1) := od_177  (by decide +kernel)
theorem dX4_init_0 : decode cX4_init 0 = .ok (.aload_n 0, 1) := od_42  (by decide +kernel)
theorem dX4_init_1 : decode cX4_init 1 = .ok (.invokespecial 3, 3) := od_183 (a := 0) (b := 3) (by decide +kernel) (by decide)
theorem dX4_init_4 : decode cX4_init 4 = .ok (.aload_n 0, 1) := od_42  (by decide +kernel)
theorem dX4_init_5 : decode cX4_init 5 = .ok (.iconst 1, 1) := od_4  (by decide +kernel)
theorem dX4_init_6 : decode cX4_init 6 = .ok (.iload_n 2, 1) := od_28  (by decide +kernel)
theorem dX4_init_7 : decode cX4_init 7 = .ok (.invokestatic 9, 3) := od_184 (a := 0) (b := 9) (by decide +kernel) (by decide)
theorem dX4_init_10 : decode cX4_init 10 = .ok (.putfield 15, 3) := od_181 (a := 0) (b := 15) (by decide +kernel) (by decide)
theorem dX4_init_13 : decode cX4_init 13 = .ok (.aload_n 0, 1) := od_42  (by decide +kernel)
theorem dX4_init_14 : decode cX4_init 14 = .ok (.iconst 0, 1) := od_3  (by decide +kernel)
theorem dX4_init_15 : decode cX4_init 15 = .ok (.iload_n 1, 1) := od_27  (by decide +kernel)
theorem dX4_init_16 : decode cX4_init 16 = .ok (.invokestatic 9, 3) := od_184 (a := 0) (b := 9) (by decide +kernel) (by decide)
theorem dX4_init_19 : decode cX4_init 19 = .ok (.aload_n 0, 1) := od_42  (by decide +kernel)
theorem dX4_init_20 : decode cX4_init 20 = .ok (.getfield 15, 3) := od_180 (a := 0) (b := 15) (by decide +kernel) (by decide)
theorem dX4_init_23 : decode cX4_init 23 = .ok (.imul, 1) := od_104  (by decide +kernel)
theorem dX4_init_24 : decode cX4_init 24 = .ok (.newarray .long, 2) := od_188_11 (by decide +kernel)
theorem dX4_init_26 : decode cX4_init 26 = .ok (.putfield 21, 3) := od_181 (a := 0) (b := 21) (by decide +kernel) (by decide)
theorem dX4_init_29 : decode cX4_init 29 = .ok (.return_, 1) := od_177  (by decide +kernel)
theorem ggX5_init_X7_init : GoodIn WALL wqX7_init := wg_c wa_104
theorem dX5_init_0 : decode cX5_init 0 = .ok (.aload_n 0, 1) := od_42  (by decide +kernel)
theorem dX5_init_1 : decode cX5_init 1 = .ok (.invokespecial 3, 3) := od_183 (a := 0) (b := 3) (by decide +kernel) (by decide)
theorem dX5_init_4 : decode cX5_init 4 = .ok (.aload_n 0, 1) := od_42  (by decide +kernel)
theorem dX5_init_5 : decode cX5_init 5 = .ok (.new 9, 3) := od_187 (a := 0) (b := 9) (by decide +kernel) (by decide)
theorem dX5_init_8 : decode cX5_init 8 = .ok (.dup, 1) := od_89  (by decide +kernel)
theorem dX5_init_9 : decode cX5_init 9 = .ok (.invokespecial 11, 3) := od_183 (a := 0) (b := 11) (by decide +kernel) (by decide)
theorem dX5_init_12 : decode cX5_init 12 = .ok (.putfield 12, 3) := od_181 (a := 0) (b := 12) (by decide +kernel) (by decide)
theorem dX5_init_15 : decode cX5_init 15 = .ok (.aload_n 0, 1) := od_42  (by decide +kernel)
theorem dX5_init_16 : decode cX5_init 16 = .ok (.bipush 20, 2) := od_16 (a := 20) (by decide +kernel) (by decide +kernel)
theorem dX5_init_18 : decode cX5_init 18 = .ok (.newarray .int, 2) := od_188_10 (by decide +kernel)
theorem dX5_init_20 : decode cX5_init 20 = .ok (.putfield 18, 3) := od_181 (a := 0) (b := 18) (by decide +kernel) (by decide)
theorem dX5_init_23 : decode cX5_init 23 = .ok (.aload_n 0, 1) := od_42  (by decide +kernel)
theorem dX5_init_24 : decode cX5_init 24 = .ok (.bipush 20, 2) := od_16 (a := 20) (by decide +kernel) (by decide +kernel)
theorem dX5_init_26 : decode cX5_init 26 = .ok (.newarray .int, 2) := od_188_10 (by decide +kernel)
theorem dX5_init_28 : decode cX5_init 28 = .ok (.putfield 22, 3) := od_181 (a := 0) (b := 22) (by decide +kernel) (by decide)
theorem dX5_init_31 : decode cX5_init 31 = .ok (.aload_n 0, 1) := od_42  (by decide +kernel)
theorem dX5_init_32 : decode cX5_init 32 = .ok (.iconst 4, 1) := od_7  (by decide +kernel)
theorem dX5_init_33 : decode cX5_init 33 = .ok (.newarray .long, 2) := od_188_11 (by decide +kernel)
theorem dX5_init_35 : decode cX5_init 35 = .ok (.putfield 25, 3) := od_181 (a := 0) (b := 25) (by decide +kernel) (by decide)
theorem dX5_init_38 : decode cX5_init 38 = .ok (.aload_n 0, 1) := od_42  (by decide +kernel)
theorem dX5_init_39 : decode cX5_init 39 = .ok (.bipush 6, 2) := od_16 (a := 6) (by decide +kernel) (by decide +kernel)
theorem dX5_init_41 : decode cX5_init 41 = .ok (.newarray .int, 2) := od_188_10 (by decide +kernel)
theorem dX5_init_43 : decode cX5_init 43 = .ok (.putfield 29, 3) := od_181 (a := 0) (b := 29) (by decide +kernel) (by decide)
theorem dX5_init_46 : decode cX5_init 46 = .ok (.aload_n 0, 1) := od_42  (by decide +kernel)
theorem dX5_init_47 : decode cX5_init 47 = .ok (.iconst 4, 1) := od_7  (by decide +kernel)
theorem dX5_init_48 : decode cX5_init 48 = .ok (.newarray .int, 2) := od_188_10 (by decide +kernel)
theorem dX5_init_50 : decode cX5_init 50 = .ok (.putfield 32, 3) := od_181 (a := 0) (b := 32) (by decide +kernel) (by decide)
theorem dX5_init_53 : decode cX5_init 53 = .ok (.aload_n 0, 1) := od_42  (by decide +kernel)
theorem dX5_init_54 : decode cX5_init 54 = .ok (.iconst 4, 1) := od_7  (by decide +kernel)
theorem dX5_init_55 : decode cX5_init 55 = .ok (.newarray .int, 2) := od_188_10 (by decide +kernel)
theorem dX5_init_57 : decode cX5_init 57 = .ok (.putfield 35, 3) := od_181 (a := 0) (b := 35) (by decide +kernel) (by decide)
theorem dX5_init_60 : decode cX5_init 60 = .ok (.return_, 1) := od_177  (by decide +kernel)
theorem dX6_init_0 : decode cX6_init 0 = .ok (.aload_n 0, 1) := od_42  (by decide +kernel)
theorem dX6_init_1 : decode cX6_init 1 = .ok (.invokespecial 3, 3) := od_183 (a := 0) (b := 3) (by decide +kernel) (by decide)
theorem dX6_init_4 : decode cX6_init 4 = .ok (.iconst 0, 1) := od_3  (by decide +kernel)
theorem dX6_init_5 : decode cX6_init 5 = .ok (.iload_n 1, 1) := od_27  (by decide +kernel)
theorem dX6_init_6 : decode cX6_init 6 = .ok (.invokestatic 9, 3) := od_184 (a := 0) (b := 9) (by decide +kernel) (by decide)
theorem dX6_init_9 : decode cX6_init 9 = .ok (.istore_n 2, 1) := od_61  (by decide +kernel)
theorem dX6_init_10 : decode cX6_init 10 = .ok (.aload_n 0, 1) := od_42  (by decide +kernel)
theorem dX6_init_11 : decode cX6_init 11 = .ok (.iload_n 2, 1) := od_28  (by decide +kernel)
theorem dX6_init_12 : decode cX6_init 12 = .ok (.newarray .int, 2) := od_188_10 (by decide +kernel)
theorem dX6_init_14 : decode cX6_init 14 = .ok (.putfield 15, 3) := od_181 (a := 0) (b := 15) (by decide +kernel) (by decide)
theorem dX6_init_17 : decode cX6_init 17 = .ok (.aload_n 0, 1) := od_42  (by decide +kernel)
theorem dX6_init_18 : decode cX6_init 18 = .ok (.iload_n 2, 1) := od_28  (by decide +kernel)
theorem dX6_init_19 : decode cX6_init 19 = .ok (.newarray .int, 2) := od_188_10 (by decide +kernel)
theorem dX6_init_21 : decode cX6_init 21 = .ok (.putfield 21, 3) := od_181 (a := 0) (b := 21) (by decide +kernel) (by decide)
theorem dX6_init_24 : decode cX6_init 24 = .ok (.aload_n 0, 1) := od_42  (by decide +kernel)
theorem dX6_init_25 : decode cX6_init 25 = .ok (.iload_n 2, 1) := od_28  (by decide +kernel)
theorem dX6_init_26 : decode cX6_init 26 = .ok (.newarray .int, 2) := od_188_10 (by decide +kernel)
theorem dX6_init_28 : decode cX6_init 28 = .ok (.putfield 24, 3) := od_181 (a := 0) (b := 24) (by decide +kernel) (by decide)
theorem dX6_init_31 : decode cX6_init 31 = .ok (.return_, 1) := od_177  (by decide +kernel)
theorem dX7_init_0 : decode cX7_init 0 = .ok (.aload_n 0, 1) := od_42  (by decide +kernel)
theorem dX7_init_1 : decode cX7_init 1 = .ok (.invokespecial 3, 3) := od_183 (a := 0) (b := 3) (by decide +kernel) (by decide)
theorem dX7_init_4 : decode cX7_init 4 = .ok (.aload_n 0, 1) := od_42  (by decide +kernel)
theorem dX7_init_5 : decode cX7_init 5 = .ok (.sipush 1000, 3) := od_17 (a := 3) (b := 232) (by decide +kernel) (by decide +kernel)
theorem dX7_init_8 : decode cX7_init 8 = .ok (.putfield 9, 3) := od_181 (a := 0) (b := 9) (by decide +kernel) (by decide)
theorem dX7_init_11 : decode cX7_init 11 = .ok (.aload_n 0, 1) := od_42  (by decide +kernel)
theorem dX7_init_12 : decode cX7_init 12 = .ok (.bipush 6, 2) := od_16 (a := 6) (by decide +kernel) (by decide +kernel)
theorem dX7_init_14 : decode cX7_init 14 = .ok (.newarray .int, 2) := od_188_10 (by decide +kernel)
theorem dX7_init_16 : decode cX7_init 16 = .ok (.putfield 15, 3) := od_181 (a := 0) (b := 15) (by decide +kernel) (by decide)
theorem dX7_init_19 : decode cX7_init 19 = .ok (.aload_n 0, 1) := od_42  (by decide +kernel)
theorem dX7_init_20 : decode cX7_init 20 = .ok (.bipush 6, 2) := od_16 (a := 6) (by decide +kernel) (by decide +kernel)
theorem dX7_init_22 : decode cX7_init 22 = .ok (.newarray .int, 2) := od_188_10 (by decide +kernel)
theorem dX7_init_24 : decode cX7_init 24 = .ok (.putfield 19, 3) := od_181 (a := 0) (b := 19) (by decide +kernel) (by decide)
theorem dX7_init_27 : decode cX7_init 27 = .ok (.aload_n 0, 1) := od_42  (by decide +kernel)
theorem dX7_init_28 : decode cX7_init 28 = .ok (.bipush 6, 2) := od_16 (a := 6) (by decide +kernel) (by decide +kernel)
theorem dX7_init_30 : decode cX7_init 30 = .ok (.newarray .long, 2) := od_188_11 (by decide +kernel)
theorem dX7_init_32 : decode cX7_init 32 = .ok (.putfield 22, 3) := od_181 (a := 0) (b := 22) (by decide +kernel) (by decide)
theorem dX7_init_35 : decode cX7_init 35 = .ok (.return_, 1) := od_177  (by decide +kernel)
theorem dX8_init_0 : decode cX8_init 0 = .ok (.aload_n 0, 1) := od_42  (by decide +kernel)
theorem dX8_init_1 : decode cX8_init 1 = .ok (.invokespecial 3, 3) := od_183 (a := 0) (b := 3) (by decide +kernel) (by decide)
theorem dX8_init_4 : decode cX8_init 4 = .ok (.aload_n 0, 1) := od_42  (by decide +kernel)
theorem dX8_init_5 : decode cX8_init 5 = .ok (.iconst 1, 1) := od_4  (by decide +kernel)
theorem dX8_init_6 : decode cX8_init 6 = .ok (.putfield 9, 3) := od_181 (a := 0) (b := 9) (by decide +kernel) (by decide)
theorem dX8_init_9 : decode cX8_init 9 = .ok (.aload_n 0, 1) := od_42  (by decide +kernel)
theorem dX8_init_10 : decode cX8_init 10 = .ok (.bipush 6, 2) := od_16 (a := 6) (by decide +kernel) (by decide +kernel)
theorem dX8_init_12 : decode cX8_init 12 = .ok (.newarray .int, 2) := od_188_10 (by decide +kernel)
theorem dX8_init_14 : decode cX8_init 14 = .ok (.putfield 15, 3) := od_181 (a := 0) (b := 15) (by decide +kernel) (by decide)
theorem dX8_init_17 : decode cX8_init 17 = .ok (.aload_n 0, 1) := od_42  (by decide +kernel)
theorem dX8_init_18 : decode cX8_init 18 = .ok (.bipush 6, 2) := od_16 (a := 6) (by decide +kernel) (by decide +kernel)
theorem dX8_init_20 : decode cX8_init 20 = .ok (.newarray .int, 2) := od_188_10 (by decide +kernel)
theorem dX8_init_22 : decode cX8_init 22 = .ok (.putfield 19, 3) := od_181 (a := 0) (b := 19) (by decide +kernel) (by decide)
theorem dX8_init_25 : decode cX8_init 25 = .ok (.return_, 1) := od_177  (by decide +kernel)
theorem dX9_init_0 : decode cX9_init 0 = .ok (.aload_n 0, 1) := od_42  (by decide +kernel)
theorem dX9_init_1 : decode cX9_init 1 = .ok (.invokespecial 3, 3) := od_183 (a := 0) (b := 3) (by decide +kernel) (by decide)
theorem dX9_init_4 : decode cX9_init 4 = .ok (.aload_n 0, 1) := od_42  (by decide +kernel)
theorem dX9_init_5 : decode cX9_init 5 = .ok (.aload_n 1, 1) := od_43  (by decide +kernel)
theorem dX9_init_6 : decode cX9_init 6 = .ok (.putfield 9, 3) := od_181 (a := 0) (b := 9) (by decide +kernel) (by decide)
theorem dX9_init_9 : decode cX9_init 9 = .ok (.return_, 1) := od_177  (by decide +kernel)
