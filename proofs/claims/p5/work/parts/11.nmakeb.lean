def tyX10 : Nat → FieldType := fun k => match k with
  | 0 => .int
  | 1 => .int
  | 2 => .int
  | 3 => .int
  | 4 => .int
  | 5 => .int
  | 6 => .int
  | 7 => .array .int
  | 8 => .array .int
  | 9 => .array (.object "ColdShips$Terminal")
  | 10 => .array (.object "ColdShips$Ship")
  | 11 => .array (.object "ColdShips$Contract")
  | 12 => .object "ColdShips$Spans"
  | 13 => .object "ColdShips$Spans"
  | 14 => .object "ColdShips$Spans"
  | 15 => .object "ColdShips$Rows"
  | 16 => .object "ColdShips$Rows"
  | 17 => .object "ColdShips$Rows"
  | _ => .object "ColdShips$Rows"
abbrev wsX100 : List Cond := u_ws RX10 TX10 19
theorem nmX10 : ∀ a, a < 19 → ∀ b, b < 19 → a ≠ b → (TX10 a).2.1 ≠ (TX10 b).2.1 := by decide +kernel
theorem tyX10_ok : ∀ k, k < 19 → parseFieldDescriptor (TX10 k).2.2.1 = some (tyX10 k) := by decide +kernel
abbrev cX10_init : ByteArray := prog_12_method_1_code
def yX10_init : MethodName := ⟨RX10, "<init>", "()V"⟩
def wsX10_init_r1 : List Cond := [Cond.methodLink RX10 3 objectInit, Cond.instanceMethod objectInit, Cond.code objectInit ⟨#[0xb1]⟩ 1 none, Cond.fieldLink RX10 9 "ColdShips$World" "boils" "I", Cond.fieldLink RX10 15 "ColdShips$World" "limit" "I", Cond.arrayClass .int, Cond.fieldLink RX10 18 "ColdShips$World" "tides" "[I", Cond.fieldLink RX10 22 "ColdShips$World" "seas" "[I", Cond.classLink RX10 25 RX8, Cond.fieldLink RX10 27 "ColdShips$World" "terminals" "[LColdShips$Terminal;", Cond.classLink RX10 31 RX5, Cond.fieldLink RX10 33 "ColdShips$World" "ships" "[LColdShips$Ship;", Cond.classLink RX10 37 RX0, Cond.fieldLink RX10 39 "ColdShips$World" "contracts" "[LColdShips$Contract;", Cond.classLink RX10 43 RX6, Cond.instantiable RX6 4, Cond.initialized RX6, Cond.fieldLink RX10 48 "ColdShips$World" "slots" "LColdShips$Spans;", Cond.fieldLink RX10 52 "ColdShips$World" "breaks" "LColdShips$Spans;", Cond.fieldLink RX10 55 "ColdShips$World" "forces" "LColdShips$Spans;", Cond.classLink RX10 58 RX4, Cond.instantiable RX4 3, Cond.initialized RX4, Cond.fieldLink RX10 63 "ColdShips$World" "prices" "LColdShips$Rows;"]
def wsX10_init_r2 : List Cond := [Cond.fieldLink RX10 67 "ColdShips$World" "readings" "LColdShips$Rows;", Cond.fieldLink RX10 70 "ColdShips$World" "landings" "LColdShips$Rows;", Cond.fieldLink RX10 73 "ColdShips$World" "cargoes" "LColdShips$Rows;", Cond.instantiable RX8 7, Cond.initialized RX8, Cond.instantiable RX5 17, Cond.initialized RX5, Cond.methodLink RX10 45 yX6_init, Cond.instanceMethod yX6_init, Cond.code yX6_init cX6_init 3 none, Cond.methodLink RX6 3 objectInit, Cond.methodLink RX6 9 Lib.Math.max.name, Cond.static Lib.Math.max.name, Cond.initialized "java/lang/Math", Cond.code Lib.Math.max.name Lib.Math.max.code 2 (some .int), Cond.fieldLink RX6 15 "ColdShips$Spans" "owners" "[I", Cond.fieldLink RX6 21 "ColdShips$Spans" "begins" "[I", Cond.fieldLink RX6 24 "ColdShips$Spans" "ends" "[I", Cond.methodLink RX10 60 yX4_init, Cond.instanceMethod yX4_init, Cond.code yX4_init cX4_init 3 none, Cond.methodLink RX4 3 objectInit, Cond.methodLink RX4 9 Lib.Math.max.name, Cond.fieldLink RX4 15 "ColdShips$Rows" "width" "I"]
def wsX10_init_r3 : List Cond := [Cond.arrayClass .long, Cond.fieldLink RX4 21 "ColdShips$Rows" "cells" "[J", Cond.instanceMethod yX8_init, Cond.code yX8_init cX8_init 1 none, Cond.methodLink RX8 3 objectInit, Cond.fieldLink RX8 9 "ColdShips$Terminal" "rate" "I", Cond.fieldLink RX8 15 "ColdShips$Terminal" "wayHours" "[I", Cond.fieldLink RX8 19 "ColdShips$Terminal" "wayHalf" "[I", Cond.instanceMethod yX5_init, Cond.code yX5_init cX5_init 1 none, Cond.methodLink RX5 3 objectInit, Cond.classLink RX5 9 RX7, Cond.instantiable RX7 7, Cond.initialized RX7, Cond.fieldLink RX5 12 "ColdShips$Ship" "tank" "LColdShips$Tank;", Cond.fieldLink RX5 18 "ColdShips$Ship" "orderSorts" "[I", Cond.fieldLink RX5 22 "ColdShips$Ship" "orderWhats" "[I", Cond.fieldLink RX5 25 "ColdShips$Ship" "book" "[J", Cond.fieldLink RX5 29 "ColdShips$Ship" "landParts" "[I", Cond.fieldLink RX5 32 "ColdShips$Ship" "gaugeCentimetres" "[I", Cond.fieldLink RX5 35 "ColdShips$Ship" "gaugeTons" "[I", Cond.instanceMethod yX7_init, Cond.code yX7_init cX7_init 1 none, Cond.methodLink RX7 3 objectInit]
def wsX10_init_r4 : List Cond := [Cond.fieldLink RX7 9 "ColdShips$Tank" "cap" "I", Cond.fieldLink RX7 15 "ColdShips$Tank" "parts" "[I", Cond.fieldLink RX7 19 "ColdShips$Tank" "given" "[I", Cond.fieldLink RX7 22 "ColdShips$Tank" "rests" "[J"]
def wsX10_init : List Cond := .code yX10_init cX10_init 2 none :: ((wsX10_init_r1 ++ (wsX10_init_r2 ++ (wsX10_init_r3 ++ wsX10_init_r4))) ++ wsX100 ++ wsX60 ++ wsX40 ++ wsX80 ++ wsX50 ++ wsX70)
set_option maxRecDepth 20000 in
theorem ggX10_init_X6_init : GoodIn wsX10_init wsX6_init := goodIn_r _ [34, 35, 2, 3, 36, 37, 38, 39, 6, 40, 41, 42, 96, 97, 98, 99] (by decide +kernel) (by decide +kernel)
set_option maxRecDepth 20000 in
theorem ggX10_init_X4_init : GoodIn wsX10_init wsX4_init := goodIn_r _ [45, 46, 2, 3, 47, 37, 38, 39, 48, 49, 50, 100, 101, 102] (by decide +kernel) (by decide +kernel)
set_option maxRecDepth 20000 in
theorem ggX10_init_X8_init : GoodIn wsX10_init wsX8_init := goodIn_r _ [52, 53, 2, 3, 54, 6, 55, 56, 103, 104, 105, 106, 107, 108, 109] (by decide +kernel) (by decide +kernel)
set_option maxRecDepth 20000 in
theorem ggX10_init_X5_init : GoodIn wsX10_init wsX5_init := goodIn_r _ [58, 59, 2, 3, 60, 61, 62, 63, 6, 64, 65, 49, 66, 67, 68, 69, 70, 71, 72, 73, 74, 75, 76, 127, 128, 129, 130, 131, 132, 133, 110, 111, 112, 113, 114, 115, 116, 117, 118, 119, 120, 121, 122, 123, 124, 125, 126] (by decide +kernel) (by decide +kernel)
theorem dX10_init_0 : decode cX10_init 0 = .ok (.aload_n 0, 1) := by decide +kernel
theorem dX10_init_1 : decode cX10_init 1 = .ok (.invokespecial 3, 3) := by decide +kernel
theorem dX10_init_4 : decode cX10_init 4 = .ok (.aload_n 0, 1) := by decide +kernel
theorem dX10_init_5 : decode cX10_init 5 = .ok (.bipush 10, 2) := by decide +kernel
theorem dX10_init_7 : decode cX10_init 7 = .ok (.putfield 9, 3) := by decide +kernel
theorem dX10_init_10 : decode cX10_init 10 = .ok (.aload_n 0, 1) := by decide +kernel
theorem dX10_init_11 : decode cX10_init 11 = .ok (.sipush 700, 3) := by decide +kernel
theorem dX10_init_14 : decode cX10_init 14 = .ok (.putfield 15, 3) := by decide +kernel
theorem dX10_init_17 : decode cX10_init 17 = .ok (.aload_n 0, 1) := by decide +kernel
theorem dX10_init_18 : decode cX10_init 18 = .ok (.bipush 25, 2) := by decide +kernel
theorem dX10_init_20 : decode cX10_init 20 = .ok (.newarray .int, 2) := by decide +kernel
theorem dX10_init_22 : decode cX10_init 22 = .ok (.putfield 18, 3) := by decide +kernel
theorem dX10_init_25 : decode cX10_init 25 = .ok (.aload_n 0, 1) := by decide +kernel
theorem dX10_init_26 : decode cX10_init 26 = .ok (.bipush 100, 2) := by decide +kernel
theorem dX10_init_28 : decode cX10_init 28 = .ok (.newarray .int, 2) := by decide +kernel
theorem dX10_init_30 : decode cX10_init 30 = .ok (.putfield 22, 3) := by decide +kernel
theorem dX10_init_33 : decode cX10_init 33 = .ok (.aload_n 0, 1) := by decide +kernel
theorem dX10_init_34 : decode cX10_init 34 = .ok (.bipush 6, 2) := by decide +kernel
theorem dX10_init_36 : decode cX10_init 36 = .ok (.anewarray 25, 3) := by decide +kernel
theorem dX10_init_39 : decode cX10_init 39 = .ok (.putfield 27, 3) := by decide +kernel
theorem dX10_init_42 : decode cX10_init 42 = .ok (.aload_n 0, 1) := by decide +kernel
theorem dX10_init_43 : decode cX10_init 43 = .ok (.bipush 6, 2) := by decide +kernel
theorem dX10_init_45 : decode cX10_init 45 = .ok (.anewarray 31, 3) := by decide +kernel
theorem dX10_init_48 : decode cX10_init 48 = .ok (.putfield 33, 3) := by decide +kernel
theorem dX10_init_51 : decode cX10_init 51 = .ok (.aload_n 0, 1) := by decide +kernel
theorem dX10_init_52 : decode cX10_init 52 = .ok (.bipush 12, 2) := by decide +kernel
theorem dX10_init_54 : decode cX10_init 54 = .ok (.anewarray 37, 3) := by decide +kernel
theorem dX10_init_57 : decode cX10_init 57 = .ok (.putfield 39, 3) := by decide +kernel
theorem dX10_init_60 : decode cX10_init 60 = .ok (.aload_n 0, 1) := by decide +kernel
theorem dX10_init_61 : decode cX10_init 61 = .ok (.new 43, 3) := by decide +kernel
theorem dX10_init_64 : decode cX10_init 64 = .ok (.dup, 1) := by decide +kernel
theorem dX10_init_65 : decode cX10_init 65 = .ok (.bipush 60, 2) := by decide +kernel
theorem dX10_init_67 : decode cX10_init 67 = .ok (.invokespecial 45, 3) := by decide +kernel
theorem dX10_init_70 : decode cX10_init 70 = .ok (.putfield 48, 3) := by decide +kernel
theorem dX10_init_73 : decode cX10_init 73 = .ok (.aload_n 0, 1) := by decide +kernel
theorem dX10_init_74 : decode cX10_init 74 = .ok (.new 43, 3) := by decide +kernel
theorem dX10_init_77 : decode cX10_init 77 = .ok (.dup, 1) := by decide +kernel
theorem dX10_init_78 : decode cX10_init 78 = .ok (.bipush 20, 2) := by decide +kernel
theorem dX10_init_80 : decode cX10_init 80 = .ok (.invokespecial 45, 3) := by decide +kernel
theorem dX10_init_83 : decode cX10_init 83 = .ok (.putfield 52, 3) := by decide +kernel
theorem dX10_init_86 : decode cX10_init 86 = .ok (.aload_n 0, 1) := by decide +kernel
theorem dX10_init_87 : decode cX10_init 87 = .ok (.new 43, 3) := by decide +kernel
theorem dX10_init_90 : decode cX10_init 90 = .ok (.dup, 1) := by decide +kernel
theorem dX10_init_91 : decode cX10_init 91 = .ok (.bipush 20, 2) := by decide +kernel
theorem dX10_init_93 : decode cX10_init 93 = .ok (.invokespecial 45, 3) := by decide +kernel
theorem dX10_init_96 : decode cX10_init 96 = .ok (.putfield 55, 3) := by decide +kernel
theorem dX10_init_99 : decode cX10_init 99 = .ok (.aload_n 0, 1) := by decide +kernel
theorem dX10_init_100 : decode cX10_init 100 = .ok (.new 58, 3) := by decide +kernel
theorem dX10_init_103 : decode cX10_init 103 = .ok (.dup, 1) := by decide +kernel
theorem dX10_init_104 : decode cX10_init 104 = .ok (.bipush 60, 2) := by decide +kernel
theorem dX10_init_106 : decode cX10_init 106 = .ok (.iconst 3, 1) := by decide +kernel
theorem dX10_init_107 : decode cX10_init 107 = .ok (.invokespecial 60, 3) := by decide +kernel
theorem dX10_init_110 : decode cX10_init 110 = .ok (.putfield 63, 3) := by decide +kernel
theorem dX10_init_113 : decode cX10_init 113 = .ok (.aload_n 0, 1) := by decide +kernel
theorem dX10_init_114 : decode cX10_init 114 = .ok (.new 58, 3) := by decide +kernel
theorem dX10_init_117 : decode cX10_init 117 = .ok (.dup, 1) := by decide +kernel
theorem dX10_init_118 : decode cX10_init 118 = .ok (.bipush 60, 2) := by decide +kernel
theorem dX10_init_120 : decode cX10_init 120 = .ok (.iconst 5, 1) := by decide +kernel
theorem dX10_init_121 : decode cX10_init 121 = .ok (.invokespecial 60, 3) := by decide +kernel
theorem dX10_init_124 : decode cX10_init 124 = .ok (.putfield 67, 3) := by decide +kernel
theorem dX10_init_127 : decode cX10_init 127 = .ok (.aload_n 0, 1) := by decide +kernel
theorem dX10_init_128 : decode cX10_init 128 = .ok (.new 58, 3) := by decide +kernel
theorem dX10_init_131 : decode cX10_init 131 = .ok (.dup, 1) := by decide +kernel
theorem dX10_init_132 : decode cX10_init 132 = .ok (.bipush 60, 2) := by decide +kernel
theorem dX10_init_134 : decode cX10_init 134 = .ok (.bipush 15, 2) := by decide +kernel
theorem dX10_init_136 : decode cX10_init 136 = .ok (.invokespecial 60, 3) := by decide +kernel
theorem dX10_init_139 : decode cX10_init 139 = .ok (.putfield 70, 3) := by decide +kernel
theorem dX10_init_142 : decode cX10_init 142 = .ok (.aload_n 0, 1) := by decide +kernel
theorem dX10_init_143 : decode cX10_init 143 = .ok (.new 58, 3) := by decide +kernel
theorem dX10_init_146 : decode cX10_init 146 = .ok (.dup, 1) := by decide +kernel
theorem dX10_init_147 : decode cX10_init 147 = .ok (.bipush 6, 2) := by decide +kernel
theorem dX10_init_149 : decode cX10_init 149 = .ok (.bipush 8, 2) := by decide +kernel
theorem dX10_init_151 : decode cX10_init 151 = .ok (.invokespecial 60, 3) := by decide +kernel
theorem dX10_init_154 : decode cX10_init 154 = .ok (.putfield 73, 3) := by decide +kernel
theorem dX10_init_157 : decode cX10_init 157 = .ok (.iconst 0, 1) := by decide +kernel
theorem dX10_init_158 : decode cX10_init 158 = .ok (.istore_n 1, 1) := by decide +kernel
theorem dX10_init_159 : decode cX10_init 159 = .ok (.iload_n 1, 1) := by decide +kernel
theorem dX10_init_160 : decode cX10_init 160 = .ok (.bipush 6, 2) := by decide +kernel
theorem dX10_init_162 : decode cX10_init 162 = .ok (.if_icmp .ge 22, 3) := by decide +kernel
theorem dX10_init_165 : decode cX10_init 165 = .ok (.aload_n 0, 1) := by decide +kernel
theorem dX10_init_166 : decode cX10_init 166 = .ok (.getfield 27, 3) := by decide +kernel
theorem dX10_init_169 : decode cX10_init 169 = .ok (.iload_n 1, 1) := by decide +kernel
theorem dX10_init_170 : decode cX10_init 170 = .ok (.new 25, 3) := by decide +kernel
theorem dX10_init_173 : decode cX10_init 173 = .ok (.dup, 1) := by decide +kernel
theorem dX10_init_174 : decode cX10_init 174 = .ok (.invokespecial 76, 3) := by decide +kernel
theorem dX10_init_177 : decode cX10_init 177 = .ok (.aastore, 1) := by decide +kernel
theorem dX10_init_178 : decode cX10_init 178 = .ok (.iinc 1 1, 3) := by decide +kernel
theorem dX10_init_181 : decode cX10_init 181 = .ok (.goto (-22), 3) := by decide +kernel
theorem dX10_init_184 : decode cX10_init 184 = .ok (.iconst 0, 1) := by decide +kernel
theorem dX10_init_185 : decode cX10_init 185 = .ok (.istore_n 1, 1) := by decide +kernel
theorem dX10_init_186 : decode cX10_init 186 = .ok (.iload_n 1, 1) := by decide +kernel
theorem dX10_init_187 : decode cX10_init 187 = .ok (.bipush 6, 2) := by decide +kernel
theorem dX10_init_189 : decode cX10_init 189 = .ok (.if_icmp .ge 22, 3) := by decide +kernel
theorem dX10_init_192 : decode cX10_init 192 = .ok (.aload_n 0, 1) := by decide +kernel
theorem dX10_init_193 : decode cX10_init 193 = .ok (.getfield 33, 3) := by decide +kernel
theorem dX10_init_196 : decode cX10_init 196 = .ok (.iload_n 1, 1) := by decide +kernel
theorem dX10_init_197 : decode cX10_init 197 = .ok (.new 31, 3) := by decide +kernel
theorem dX10_init_200 : decode cX10_init 200 = .ok (.dup, 1) := by decide +kernel
theorem dX10_init_201 : decode cX10_init 201 = .ok (.invokespecial 77, 3) := by decide +kernel
theorem dX10_init_204 : decode cX10_init 204 = .ok (.aastore, 1) := by decide +kernel
theorem dX10_init_205 : decode cX10_init 205 = .ok (.iinc 1 1, 3) := by decide +kernel
theorem dX10_init_208 : decode cX10_init 208 = .ok (.goto (-22), 3) := by decide +kernel
theorem dX10_init_211 : decode cX10_init 211 = .ok (.return_, 1) := by decide +kernel
