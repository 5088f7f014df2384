abbrev cX1_init : ByteArray := prog_3_method_1_code
def yX1_init : MethodName := ⟨RX1, "<init>", "(LColdShips$World;)V"⟩
abbrev cX2_init : ByteArray := prog_4_method_1_code
def tyX3 : Nat → FieldType := fun k => match k with
  | 0 => .object "ColdShips$World"
  | 1 => .array .long
  | 2 => .array .long
  | 3 => .int
  | 4 => .long
  | _ => .long
theorem nmX3 : ∀ a, a < 6 → ∀ b, b < 6 → a ≠ b → (TX3 a).2.1 ≠ (TX3 b).2.1 := by decide +kernel
theorem tyX3_ok : ∀ k, k < 6 → parseFieldDescriptor (TX3 k).2.2.1 = some (tyX3 k) := by decide +kernel
abbrev cX3_init : ByteArray := prog_5_method_1_code
def yX3_init : MethodName := ⟨RX3, "<init>", "(LColdShips$World;)V"⟩
abbrev cX4_init : ByteArray := prog_6_method_1_code
def yX4_init : MethodName := ⟨RX4, "<init>", "(II)V"⟩
def tyX5 : Nat → FieldType := fun k => match k with
  | 0 => .object "ColdShips$Tank"
  | 1 => .int
  | 2 => .int
  | 3 => .int
  | 4 => .int
  | 5 => .boolean
  | 6 => .int
  | 7 => .array .int
  | 8 => .array .int
  | 9 => .array .long
  | 10 => .int
  | 11 => .int
  | 12 => .int
  | 13 => .array .int
  | 14 => .int
  | 15 => .array .int
  | _ => .array .int
theorem nmX5 : ∀ a, a < 17 → ∀ b, b < 17 → a ≠ b → (TX5 a).2.1 ≠ (TX5 b).2.1 := by decide +kernel
theorem tyX5_ok : ∀ k, k < 17 → parseFieldDescriptor (TX5 k).2.2.1 = some (tyX5 k) := by decide +kernel
abbrev cX5_init : ByteArray := prog_7_method_1_code
abbrev cX6_init : ByteArray := prog_8_method_1_code
def yX6_init : MethodName := ⟨RX6, "<init>", "(I)V"⟩
def tyX7 : Nat → FieldType := fun k => match k with
  | 0 => .int
  | 1 => .int
  | 2 => .int
  | 3 => .int
  | 4 => .array .int
  | 5 => .array .int
  | _ => .array .long
theorem nmX7 : ∀ a, a < 7 → ∀ b, b < 7 → a ≠ b → (TX7 a).2.1 ≠ (TX7 b).2.1 := by decide +kernel
theorem tyX7_ok : ∀ k, k < 7 → parseFieldDescriptor (TX7 k).2.2.1 = some (tyX7 k) := by decide +kernel
abbrev cX7_init : ByteArray := prog_9_method_1_code
abbrev cX8_init : ByteArray := prog_10_method_1_code
abbrev cX9_init : ByteArray := prog_11_method_1_code
def yX9_init : MethodName := ⟨RX9, "<init>", "(LColdShips$World;)V"⟩
abbrev cX10_init : ByteArray := prog_12_method_1_code
def yX10_init : MethodName := ⟨RX10, "<init>", "()V"⟩
abbrev cX11_init : ByteArray := prog_1_method_1_code
def yX11_init : MethodName := ⟨RX11, "<init>", "()V"⟩
def wsX1_init : List Cond := .code yX1_init cX1_init 2 none :: ([.methodLink RX1 3 objectInit, .instanceMethod objectInit, .code objectInit ⟨#[0xb1]⟩ 1 none, .arrayClass .long, .fieldLink RX1 11 "ColdShips$Planner" "rowWorths" "[J", .arrayClass .int, .fieldLink RX1 15 "ColdShips$Planner" "rowPlaces" "[I", .fieldLink RX1 19 "ColdShips$Planner" "setWorths" "[J", .fieldLink RX1 22 "ColdShips$Planner" "setShips" "[I", .fieldLink RX1 25 "ColdShips$Planner" "shipOf" "[I", .fieldLink RX1 28 "ColdShips$Planner" "placeOf" "[I", .fieldLink RX1 31 "ColdShips$Planner" "loadOf" "[I", .fieldLink RX1 34 "ColdShips$Planner" "landOf" "[I", .fieldLink RX1 37 "ColdShips$Planner" "worthOf" "[J", .fieldLink RX1 40 "ColdShips$Planner" "world" "LColdShips$World;"] ++ wsX10)
def wsX2_init : List Cond := .code yX2_init cX2_init 1 none :: ([.methodLink RX2 3 objectInit, .instanceMethod objectInit, .code objectInit ⟨#[0xb1]⟩ 1 none, .arrayClass .char, .fieldLink RX2 11 "ColdShips$Reader" "tape" "[C", .fieldLink RX2 15 "ColdShips$Reader" "faultAt" "I", .arrayClass .int, .fieldLink RX2 19 "ColdShips$Reader" "code" "[I", .fieldLink RX2 23 "ColdShips$Reader" "starts" "[I"] ++ wsX20)
def wsX3_init : List Cond := .code yX3_init cX3_init 2 none :: ([.methodLink RX3 3 objectInit, .instanceMethod objectInit, .code objectInit ⟨#[0xb1]⟩ 1 none, .arrayClass .long, .fieldLink RX3 9 "ColdShips$Reckoner" "facts" "[J", .fieldLink RX3 15 "ColdShips$Reckoner" "stack" "[J", .fieldLink RX3 18 "ColdShips$Reckoner" "world" "LColdShips$World;"] ++ wsX30)
def wsX4_init : List Cond := .code yX4_init cX4_init 3 none :: ([.methodLink RX4 3 objectInit, .instanceMethod objectInit, .code objectInit ⟨#[0xb1]⟩ 1 none, .methodLink RX4 9 Lib.Math.max.name, .static Lib.Math.max.name, .initialized "java/lang/Math", .code Lib.Math.max.name Lib.Math.max.code 2 (some .int), .fieldLink RX4 15 "ColdShips$Rows" "width" "I", .arrayClass .long, .fieldLink RX4 21 "ColdShips$Rows" "cells" "[J"] ++ wsX40)
def wsX7_init : List Cond := .code yX7_init cX7_init 1 none :: ([.methodLink RX7 3 objectInit, .instanceMethod objectInit, .code objectInit ⟨#[0xb1]⟩ 1 none, .fieldLink RX7 9 "ColdShips$Tank" "cap" "I", .arrayClass .int, .fieldLink RX7 15 "ColdShips$Tank" "parts" "[I", .fieldLink RX7 19 "ColdShips$Tank" "given" "[I", .arrayClass .long, .fieldLink RX7 22 "ColdShips$Tank" "rests" "[J"] ++ wsX70)
def wsX5_init : List Cond := .code yX5_init cX5_init 1 none :: ([.methodLink RX5 3 objectInit, .instanceMethod objectInit, .code objectInit ⟨#[0xb1]⟩ 1 none, .classLink RX5 9 RX7, .instantiable RX7 7, .initialized RX7, .fieldLink RX5 12 "ColdShips$Ship" "tank" "LColdShips$Tank;", .arrayClass .int, .fieldLink RX5 18 "ColdShips$Ship" "orderSorts" "[I", .fieldLink RX5 22 "ColdShips$Ship" "orderWhats" "[I", .arrayClass .long, .fieldLink RX5 25 "ColdShips$Ship" "book" "[J", .fieldLink RX5 29 "ColdShips$Ship" "landParts" "[I", .fieldLink RX5 32 "ColdShips$Ship" "gaugeCentimetres" "[I", .fieldLink RX5 35 "ColdShips$Ship" "gaugeTons" "[I", .instanceMethod yX7_init, .code yX7_init cX7_init 1 none, .methodLink RX7 3 objectInit, .fieldLink RX7 9 "ColdShips$Tank" "cap" "I", .fieldLink RX7 15 "ColdShips$Tank" "parts" "[I", .fieldLink RX7 19 "ColdShips$Tank" "given" "[I", .fieldLink RX7 22 "ColdShips$Tank" "rests" "[J"] ++ wsX70 ++ wsX50)
def wsX6_init : List Cond := .code yX6_init cX6_init 3 none :: ([.methodLink RX6 3 objectInit, .instanceMethod objectInit, .code objectInit ⟨#[0xb1]⟩ 1 none, .methodLink RX6 9 Lib.Math.max.name, .static Lib.Math.max.name, .initialized "java/lang/Math", .code Lib.Math.max.name Lib.Math.max.code 2 (some .int), .arrayClass .int, .fieldLink RX6 15 "ColdShips$Spans" "owners" "[I", .fieldLink RX6 21 "ColdShips$Spans" "begins" "[I", .fieldLink RX6 24 "ColdShips$Spans" "ends" "[I"] ++ wsX60)
def wsX8_init : List Cond := .code yX8_init cX8_init 1 none :: ([.methodLink RX8 3 objectInit, .instanceMethod objectInit, .code objectInit ⟨#[0xb1]⟩ 1 none, .fieldLink RX8 9 "ColdShips$Terminal" "rate" "I", .arrayClass .int, .fieldLink RX8 15 "ColdShips$Terminal" "wayHours" "[I", .fieldLink RX8 19 "ColdShips$Terminal" "wayHalf" "[I"] ++ wsX80)
def wsX9_init : List Cond := .code yX9_init cX9_init 2 none :: ([.methodLink RX9 3 objectInit, .instanceMethod objectInit, .code objectInit ⟨#[0xb1]⟩ 1 none, .fieldLink RX9 9 "ColdShips$Watch" "world" "LColdShips$World;"] ++ wsX90)
def wsX10_init_r1 : List Cond := [Cond.methodLink RX10 3 objectInit, Cond.instanceMethod objectInit, Cond.code objectInit ⟨#[0xb1]⟩ 1 none, Cond.fieldLink RX10 9 "ColdShips$World" "boils" "I", Cond.fieldLink RX10 15 "ColdShips$World" "limit" "I", Cond.arrayClass .int, Cond.fieldLink RX10 18 "ColdShips$World" "tides" "[I", Cond.fieldLink RX10 22 "ColdShips$World" "seas" "[I", Cond.classLink RX10 25 RX8, Cond.fieldLink RX10 27 "ColdShips$World" "terminals" "[LColdShips$Terminal;", Cond.classLink RX10 31 RX5, Cond.fieldLink RX10 33 "ColdShips$World" "ships" "[LColdShips$Ship;", Cond.classLink RX10 37 RX0, Cond.fieldLink RX10 39 "ColdShips$World" "contracts" "[LColdShips$Contract;", Cond.classLink RX10 43 RX6, Cond.instantiable RX6 4, Cond.initialized RX6, Cond.fieldLink RX10 48 "ColdShips$World" "slots" "LColdShips$Spans;", Cond.fieldLink RX10 52 "ColdShips$World" "breaks" "LColdShips$Spans;", Cond.fieldLink RX10 55 "ColdShips$World" "forces" "LColdShips$Spans;", Cond.classLink RX10 58 RX4, Cond.instantiable RX4 3, Cond.initialized RX4, Cond.fieldLink RX10 63 "ColdShips$World" "prices" "LColdShips$Rows;"]
def wsX10_init_r2 : List Cond := [Cond.fieldLink RX10 67 "ColdShips$World" "readings" "LColdShips$Rows;", Cond.fieldLink RX10 70 "ColdShips$World" "landings" "LColdShips$Rows;", Cond.fieldLink RX10 73 "ColdShips$World" "cargoes" "LColdShips$Rows;", Cond.instantiable RX8 7, Cond.initialized RX8, Cond.instantiable RX5 17, Cond.initialized RX5, Cond.methodLink RX10 45 yX6_init, Cond.instanceMethod yX6_init, Cond.code yX6_init cX6_init 3 none, Cond.methodLink RX6 3 objectInit, Cond.methodLink RX6 9 Lib.Math.max.name, Cond.static Lib.Math.max.name, Cond.initialized "java/lang/Math", Cond.code Lib.Math.max.name Lib.Math.max.code 2 (some .int), Cond.fieldLink RX6 15 "ColdShips$Spans" "owners" "[I", Cond.fieldLink RX6 21 "ColdShips$Spans" "begins" "[I", Cond.fieldLink RX6 24 "ColdShips$Spans" "ends" "[I", Cond.methodLink RX10 60 yX4_init, Cond.instanceMethod yX4_init, Cond.code yX4_init cX4_init 3 none, Cond.methodLink RX4 3 objectInit, Cond.methodLink RX4 9 Lib.Math.max.name, Cond.fieldLink RX4 15 "ColdShips$Rows" "width" "I"]
def wsX10_init_r3 : List Cond := [Cond.arrayClass .long, Cond.fieldLink RX4 21 "ColdShips$Rows" "cells" "[J", Cond.instanceMethod yX8_init, Cond.code yX8_init cX8_init 1 none, Cond.methodLink RX8 3 objectInit, Cond.fieldLink RX8 9 "ColdShips$Terminal" "rate" "I", Cond.fieldLink RX8 15 "ColdShips$Terminal" "wayHours" "[I", Cond.fieldLink RX8 19 "ColdShips$Terminal" "wayHalf" "[I", Cond.instanceMethod yX5_init, Cond.code yX5_init cX5_init 1 none, Cond.methodLink RX5 3 objectInit, Cond.classLink RX5 9 RX7, Cond.instantiable RX7 7, Cond.initialized RX7, Cond.fieldLink RX5 12 "ColdShips$Ship" "tank" "LColdShips$Tank;", Cond.fieldLink RX5 18 "ColdShips$Ship" "orderSorts" "[I", Cond.fieldLink RX5 22 "ColdShips$Ship" "orderWhats" "[I", Cond.fieldLink RX5 25 "ColdShips$Ship" "book" "[J", Cond.fieldLink RX5 29 "ColdShips$Ship" "landParts" "[I", Cond.fieldLink RX5 32 "ColdShips$Ship" "gaugeCentimetres" "[I", Cond.fieldLink RX5 35 "ColdShips$Ship" "gaugeTons" "[I", Cond.instanceMethod yX7_init, Cond.code yX7_init cX7_init 1 none, Cond.methodLink RX7 3 objectInit]
def wsX10_init_r4 : List Cond := [Cond.fieldLink RX7 9 "ColdShips$Tank" "cap" "I", Cond.fieldLink RX7 15 "ColdShips$Tank" "parts" "[I", Cond.fieldLink RX7 19 "ColdShips$Tank" "given" "[I", Cond.fieldLink RX7 22 "ColdShips$Tank" "rests" "[J"]
def wsX10_init : List Cond := .code yX10_init cX10_init 2 none :: ((wsX10_init_r1 ++ (wsX10_init_r2 ++ (wsX10_init_r3 ++ wsX10_init_r4))) ++ wsX100 ++ wsX60 ++ wsX40 ++ wsX80 ++ wsX50 ++ wsX70)
def wsX11_init_r1 : List Cond := [Cond.methodLink RX11 1 objectInit, Cond.instanceMethod objectInit, Cond.code objectInit ⟨#[0xb1]⟩ 1 none, Cond.classLink RX11 7 RX10, Cond.instantiable RX10 19, Cond.initialized RX10, Cond.fieldLink RX11 10 "ColdShips" "world" "LColdShips$World;", Cond.fieldLink RX11 16 "ColdShips" "images" "[LColdShips$World;", Cond.classLink RX11 20 RX9, Cond.instantiable RX9 4, Cond.initialized RX9, Cond.fieldLink RX11 25 "ColdShips" "watch" "LColdShips$Watch;", Cond.classLink RX11 29 RX2, Cond.instantiable RX2 16, Cond.initialized RX2, Cond.fieldLink RX11 32 "ColdShips" "reader" "LColdShips$Reader;", Cond.classLink RX11 36 RX3, Cond.instantiable RX3 6, Cond.initialized RX3, Cond.fieldLink RX11 39 "ColdShips" "reckoner" "LColdShips$Reckoner;", Cond.classLink RX11 43 RX1, Cond.instantiable RX1 15, Cond.initialized RX1, Cond.fieldLink RX11 46 "ColdShips" "planner" "LColdShips$Planner;"]
def wsX11_init_r2 : List Cond := [Cond.methodLink RX11 9 yX10_init, Cond.instanceMethod yX10_init, Cond.code yX10_init cX10_init 2 none, Cond.methodLink RX10 3 objectInit, Cond.fieldLink RX10 9 "ColdShips$World" "boils" "I", Cond.fieldLink RX10 15 "ColdShips$World" "limit" "I", Cond.arrayClass .int, Cond.fieldLink RX10 18 "ColdShips$World" "tides" "[I", Cond.fieldLink RX10 22 "ColdShips$World" "seas" "[I", Cond.classLink RX10 25 RX8, Cond.fieldLink RX10 27 "ColdShips$World" "terminals" "[LColdShips$Terminal;", Cond.classLink RX10 31 RX5, Cond.fieldLink RX10 33 "ColdShips$World" "ships" "[LColdShips$Ship;", Cond.classLink RX10 37 RX0, Cond.fieldLink RX10 39 "ColdShips$World" "contracts" "[LColdShips$Contract;", Cond.classLink RX10 43 RX6, Cond.instantiable RX6 4, Cond.initialized RX6, Cond.fieldLink RX10 48 "ColdShips$World" "slots" "LColdShips$Spans;", Cond.fieldLink RX10 52 "ColdShips$World" "breaks" "LColdShips$Spans;", Cond.fieldLink RX10 55 "ColdShips$World" "forces" "LColdShips$Spans;", Cond.classLink RX10 58 RX4, Cond.instantiable RX4 3, Cond.initialized RX4]
def wsX11_init_r3 : List Cond := [Cond.fieldLink RX10 63 "ColdShips$World" "prices" "LColdShips$Rows;", Cond.fieldLink RX10 67 "ColdShips$World" "readings" "LColdShips$Rows;", Cond.fieldLink RX10 70 "ColdShips$World" "landings" "LColdShips$Rows;", Cond.fieldLink RX10 73 "ColdShips$World" "cargoes" "LColdShips$Rows;", Cond.instantiable RX8 7, Cond.initialized RX8, Cond.instantiable RX5 17, Cond.initialized RX5, Cond.methodLink RX10 45 yX6_init, Cond.instanceMethod yX6_init, Cond.code yX6_init cX6_init 3 none, Cond.methodLink RX6 3 objectInit, Cond.methodLink RX6 9 Lib.Math.max.name, Cond.static Lib.Math.max.name, Cond.initialized "java/lang/Math", Cond.code Lib.Math.max.name Lib.Math.max.code 2 (some .int), Cond.fieldLink RX6 15 "ColdShips$Spans" "owners" "[I", Cond.fieldLink RX6 21 "ColdShips$Spans" "begins" "[I", Cond.fieldLink RX6 24 "ColdShips$Spans" "ends" "[I", Cond.methodLink RX10 60 yX4_init, Cond.instanceMethod yX4_init, Cond.code yX4_init cX4_init 3 none, Cond.methodLink RX4 3 objectInit, Cond.methodLink RX4 9 Lib.Math.max.name]
def wsX11_init_r4 : List Cond := [Cond.fieldLink RX4 15 "ColdShips$Rows" "width" "I", Cond.arrayClass .long, Cond.fieldLink RX4 21 "ColdShips$Rows" "cells" "[J", Cond.instanceMethod yX8_init, Cond.code yX8_init cX8_init 1 none, Cond.methodLink RX8 3 objectInit, Cond.fieldLink RX8 9 "ColdShips$Terminal" "rate" "I", Cond.fieldLink RX8 15 "ColdShips$Terminal" "wayHours" "[I", Cond.fieldLink RX8 19 "ColdShips$Terminal" "wayHalf" "[I", Cond.instanceMethod yX5_init, Cond.code yX5_init cX5_init 1 none, Cond.methodLink RX5 3 objectInit, Cond.classLink RX5 9 RX7, Cond.instantiable RX7 7, Cond.initialized RX7, Cond.fieldLink RX5 12 "ColdShips$Ship" "tank" "LColdShips$Tank;", Cond.fieldLink RX5 18 "ColdShips$Ship" "orderSorts" "[I", Cond.fieldLink RX5 22 "ColdShips$Ship" "orderWhats" "[I", Cond.fieldLink RX5 25 "ColdShips$Ship" "book" "[J", Cond.fieldLink RX5 29 "ColdShips$Ship" "landParts" "[I", Cond.fieldLink RX5 32 "ColdShips$Ship" "gaugeCentimetres" "[I", Cond.fieldLink RX5 35 "ColdShips$Ship" "gaugeTons" "[I", Cond.instanceMethod yX7_init, Cond.code yX7_init cX7_init 1 none]
def wsX11_init_r5 : List Cond := [Cond.methodLink RX7 3 objectInit, Cond.fieldLink RX7 9 "ColdShips$Tank" "cap" "I", Cond.fieldLink RX7 15 "ColdShips$Tank" "parts" "[I", Cond.fieldLink RX7 19 "ColdShips$Tank" "given" "[I", Cond.fieldLink RX7 22 "ColdShips$Tank" "rests" "[J", Cond.methodLink RX11 22 yX9_init, Cond.instanceMethod yX9_init, Cond.code yX9_init cX9_init 2 none, Cond.methodLink RX9 3 objectInit, Cond.fieldLink RX9 9 "ColdShips$Watch" "world" "LColdShips$World;", Cond.instanceMethod yX2_init, Cond.code yX2_init cX2_init 1 none, Cond.methodLink RX2 3 objectInit, Cond.arrayClass .char, Cond.fieldLink RX2 11 "ColdShips$Reader" "tape" "[C", Cond.fieldLink RX2 15 "ColdShips$Reader" "faultAt" "I", Cond.fieldLink RX2 19 "ColdShips$Reader" "code" "[I", Cond.fieldLink RX2 23 "ColdShips$Reader" "starts" "[I", Cond.methodLink RX11 38 yX3_init, Cond.instanceMethod yX3_init, Cond.code yX3_init cX3_init 2 none, Cond.methodLink RX3 3 objectInit, Cond.fieldLink RX3 9 "ColdShips$Reckoner" "facts" "[J", Cond.fieldLink RX3 15 "ColdShips$Reckoner" "stack" "[J"]
def wsX11_init_r6 : List Cond := [Cond.fieldLink RX3 18 "ColdShips$Reckoner" "world" "LColdShips$World;", Cond.methodLink RX11 45 yX1_init, Cond.instanceMethod yX1_init, Cond.code yX1_init cX1_init 2 none, Cond.methodLink RX1 3 objectInit, Cond.fieldLink RX1 11 "ColdShips$Planner" "rowWorths" "[J", Cond.fieldLink RX1 15 "ColdShips$Planner" "rowPlaces" "[I", Cond.fieldLink RX1 19 "ColdShips$Planner" "setWorths" "[J", Cond.fieldLink RX1 22 "ColdShips$Planner" "setShips" "[I", Cond.fieldLink RX1 25 "ColdShips$Planner" "shipOf" "[I", Cond.fieldLink RX1 28 "ColdShips$Planner" "placeOf" "[I", Cond.fieldLink RX1 31 "ColdShips$Planner" "loadOf" "[I", Cond.fieldLink RX1 34 "ColdShips$Planner" "landOf" "[I", Cond.fieldLink RX1 37 "ColdShips$Planner" "worthOf" "[J", Cond.fieldLink RX1 40 "ColdShips$Planner" "world" "LColdShips$World;"]
def wsX11_init : List Cond := .code yX11_init cX11_init 1 none :: ((wsX11_init_r1 ++ (wsX11_init_r2 ++ (wsX11_init_r3 ++ (wsX11_init_r4 ++ (wsX11_init_r5 ++ wsX11_init_r6))))) ++ wsX100 ++ wsX110 ++ wsX90 ++ wsX20 ++ wsX30 ++ wsX10 ++ wsX60 ++ wsX40 ++ wsX80 ++ wsX50 ++ wsX70)
theorem dX1_init_0 : decode cX1_init 0 = .ok (.aload_n 0, 1) := by decide +kernel
theorem dX1_init_1 : decode cX1_init 1 = .ok (.invokespecial 3, 3) := by decide +kernel
theorem dX1_init_4 : decode cX1_init 4 = .ok (.aload_n 0, 1) := by decide +kernel
theorem dX1_init_5 : decode cX1_init 5 = .ok (.sipush 192, 3) := by decide +kernel
theorem dX1_init_8 : decode cX1_init 8 = .ok (.newarray .long, 2) := by decide +kernel
theorem dX1_init_10 : decode cX1_init 10 = .ok (.putfield 11, 3) := by decide +kernel
theorem dX1_init_13 : decode cX1_init 13 = .ok (.aload_n 0, 1) := by decide +kernel
theorem dX1_init_14 : decode cX1_init 14 = .ok (.sipush 192, 3) := by decide +kernel
theorem dX1_init_17 : decode cX1_init 17 = .ok (.newarray .int, 2) := by decide +kernel
theorem dX1_init_19 : decode cX1_init 19 = .ok (.putfield 15, 3) := by decide +kernel
theorem dX1_init_22 : decode cX1_init 22 = .ok (.aload_n 0, 1) := by decide +kernel
theorem dX1_init_23 : decode cX1_init 23 = .ok (.bipush 64, 2) := by decide +kernel
theorem dX1_init_25 : decode cX1_init 25 = .ok (.newarray .long, 2) := by decide +kernel
theorem dX1_init_27 : decode cX1_init 27 = .ok (.putfield 19, 3) := by decide +kernel
theorem dX1_init_30 : decode cX1_init 30 = .ok (.aload_n 0, 1) := by decide +kernel
theorem dX1_init_31 : decode cX1_init 31 = .ok (.bipush 64, 2) := by decide +kernel
theorem dX1_init_33 : decode cX1_init 33 = .ok (.newarray .int, 2) := by decide +kernel
theorem dX1_init_35 : decode cX1_init 35 = .ok (.putfield 22, 3) := by decide +kernel
theorem dX1_init_38 : decode cX1_init 38 = .ok (.aload_n 0, 1) := by decide +kernel
theorem dX1_init_39 : decode cX1_init 39 = .ok (.bipush 6, 2) := by decide +kernel
theorem dX1_init_41 : decode cX1_init 41 = .ok (.newarray .int, 2) := by decide +kernel
theorem dX1_init_43 : decode cX1_init 43 = .ok (.putfield 25, 3) := by decide +kernel
theorem dX1_init_46 : decode cX1_init 46 = .ok (.aload_n 0, 1) := by decide +kernel
theorem dX1_init_47 : decode cX1_init 47 = .ok (.bipush 6, 2) := by decide +kernel
theorem dX1_init_49 : decode cX1_init 49 = .ok (.newarray .int, 2) := by decide +kernel
theorem dX1_init_51 : decode cX1_init 51 = .ok (.putfield 28, 3) := by decide +kernel
theorem dX1_init_54 : decode cX1_init 54 = .ok (.aload_n 0, 1) := by decide +kernel
theorem dX1_init_55 : decode cX1_init 55 = .ok (.bipush 6, 2) := by decide +kernel
theorem dX1_init_57 : decode cX1_init 57 = .ok (.newarray .int, 2) := by decide +kernel
theorem dX1_init_59 : decode cX1_init 59 = .ok (.putfield 31, 3) := by decide +kernel
theorem dX1_init_62 : decode cX1_init 62 = .ok (.aload_n 0, 1) := by decide +kernel
theorem dX1_init_63 : decode cX1_init 63 = .ok (.bipush 6, 2) := by decide +kernel
theorem dX1_init_65 : decode cX1_init 65 = .ok (.newarray .int, 2) := by decide +kernel
theorem dX1_init_67 : decode cX1_init 67 = .ok (.putfield 34, 3) := by decide +kernel
theorem dX1_init_70 : decode cX1_init 70 = .ok (.aload_n 0, 1) := by decide +kernel
theorem dX1_init_71 : decode cX1_init 71 = .ok (.bipush 6, 2) := by decide +kernel
theorem dX1_init_73 : decode cX1_init 73 = .ok (.newarray .long, 2) := by decide +kernel
theorem dX1_init_75 : decode cX1_init 75 = .ok (.putfield 37, 3) := by decide +kernel
theorem dX1_init_78 : decode cX1_init 78 = .ok (.aload_n 0, 1) := by decide +kernel
theorem dX1_init_79 : decode cX1_init 79 = .ok (.aload_n 1, 1) := by decide +kernel
theorem dX1_init_80 : decode cX1_init 80 = .ok (.putfield 40, 3) := by decide +kernel
theorem dX1_init_83 : decode cX1_init 83 = .ok (.return_, 1) := by decide +kernel
theorem dX2_init_0 : decode cX2_init 0 = .ok (.aload_n 0, 1) := by decide +kernel
theorem dX2_init_1 : decode cX2_init 1 = .ok (.invokespecial 3, 3) := by decide +kernel
theorem dX2_init_4 : decode cX2_init 4 = .ok (.aload_n 0, 1) := by decide +kernel
theorem dX2_init_5 : decode cX2_init 5 = .ok (.sipush 400, 3) := by decide +kernel
theorem dX2_init_8 : decode cX2_init 8 = .ok (.newarray .char, 2) := by decide +kernel
theorem dX2_init_10 : decode cX2_init 10 = .ok (.putfield 11, 3) := by decide +kernel
theorem dX2_init_13 : decode cX2_init 13 = .ok (.aload_n 0, 1) := by decide +kernel
theorem dX2_init_14 : decode cX2_init 14 = .ok (.iconst (-1), 1) := by decide +kernel
theorem dX2_init_15 : decode cX2_init 15 = .ok (.putfield 15, 3) := by decide +kernel
theorem dX2_init_18 : decode cX2_init 18 = .ok (.aload_n 0, 1) := by decide +kernel
theorem dX2_init_19 : decode cX2_init 19 = .ok (.sipush 400, 3) := by decide +kernel
theorem dX2_init_22 : decode cX2_init 22 = .ok (.newarray .int, 2) := by decide +kernel
theorem dX2_init_24 : decode cX2_init 24 = .ok (.putfield 19, 3) := by decide +kernel
theorem dX2_init_27 : decode cX2_init 27 = .ok (.aload_n 0, 1) := by decide +kernel
theorem dX2_init_28 : decode cX2_init 28 = .ok (.bipush 13, 2) := by decide +kernel
theorem dX2_init_30 : decode cX2_init 30 = .ok (.newarray .int, 2) := by decide +kernel
theorem dX2_init_32 : decode cX2_init 32 = .ok (.putfield 23, 3) := by decide +kernel
theorem dX2_init_35 : decode cX2_init 35 = .ok (.return_, 1) := by decide +kernel
theorem dX3_init_0 : decode cX3_init 0 = .ok (.aload_n 0, 1) := by decide +kernel
theorem dX3_init_1 : decode cX3_init 1 = .ok (.invokespecial 3, 3) := by decide +kernel
theorem dX3_init_4 : decode cX3_init 4 = .ok (.aload_n 0, 1) := by decide +kernel
theorem dX3_init_5 : decode cX3_init 5 = .ok (.bipush 8, 2) := by decide +kernel
theorem dX3_init_7 : decode cX3_init 7 = .ok (.newarray .long, 2) := by decide +kernel
theorem dX3_init_9 : decode cX3_init 9 = .ok (.putfield 9, 3) := by decide +kernel
theorem dX3_init_12 : decode cX3_init 12 = .ok (.aload_n 0, 1) := by decide +kernel
theorem dX3_init_13 : decode cX3_init 13 = .ok (.bipush 64, 2) := by decide +kernel
theorem dX3_init_15 : decode cX3_init 15 = .ok (.newarray .long, 2) := by decide +kernel
theorem dX3_init_17 : decode cX3_init 17 = .ok (.putfield 15, 3) := by decide +kernel
theorem dX3_init_20 : decode cX3_init 20 = .ok (.aload_n 0, 1) := by decide +kernel
theorem dX3_init_21 : decode cX3_init 21 = .ok (.aload_n 1, 1) := by decide +kernel
theorem dX3_init_22 : decode cX3_init 22 = .ok (.putfield 18, 3) := by decide +kernel
theorem dX3_init_25 : decode cX3_init 25 = .ok (.return_, 1) := by decide +kernel
theorem dX4_init_0 : decode cX4_init 0 = .ok (.aload_n 0, 1) := by decide +kernel
theorem dX4_init_1 : decode cX4_init 1 = .ok (.invokespecial 3, 3) := by decide +kernel
theorem dX4_init_4 : decode cX4_init 4 = .ok (.aload_n 0, 1) := by decide +kernel
theorem dX4_init_5 : decode cX4_init 5 = .ok (.iconst 1, 1) := by decide +kernel
theorem dX4_init_6 : decode cX4_init 6 = .ok (.iload_n 2, 1) := by decide +kernel
theorem dX4_init_7 : decode cX4_init 7 = .ok (.invokestatic 9, 3) := by decide +kernel
theorem dX4_init_10 : decode cX4_init 10 = .ok (.putfield 15, 3) := by decide +kernel
theorem dX4_init_13 : decode cX4_init 13 = .ok (.aload_n 0, 1) := by decide +kernel
theorem dX4_init_14 : decode cX4_init 14 = .ok (.iconst 0, 1) := by decide +kernel
theorem dX4_init_15 : decode cX4_init 15 = .ok (.iload_n 1, 1) := by decide +kernel
theorem dX4_init_16 : decode cX4_init 16 = .ok (.invokestatic 9, 3) := by decide +kernel
theorem dX4_init_19 : decode cX4_init 19 = .ok (.aload_n 0, 1) := by decide +kernel
theorem dX4_init_20 : decode cX4_init 20 = .ok (.getfield 15, 3) := by decide +kernel
theorem dX4_init_23 : decode cX4_init 23 = .ok (.imul, 1) := by decide +kernel
theorem dX4_init_24 : decode cX4_init 24 = .ok (.newarray .long, 2) := by decide +kernel
theorem dX4_init_26 : decode cX4_init 26 = .ok (.putfield 21, 3) := by decide +kernel
theorem dX4_init_29 : decode cX4_init 29 = .ok (.return_, 1) := by decide +kernel
set_option maxRecDepth 20000 in
theorem ggX5_init_X7_init : GoodIn wsX5_init wsX7_init := goodIn_r _ [17, 18, 2, 3, 19, 8, 20, 21, 11, 22, 23, 24, 25, 26, 27, 28, 29] (by decide +kernel) (by decide +kernel)
theorem dX5_init_0 : decode cX5_init 0 = .ok (.aload_n 0, 1) := by decide +kernel
theorem dX5_init_1 : decode cX5_init 1 = .ok (.invokespecial 3, 3) := by decide +kernel
theorem dX5_init_4 : decode cX5_init 4 = .ok (.aload_n 0, 1) := by decide +kernel
theorem dX5_init_5 : decode cX5_init 5 = .ok (.new 9, 3) := by decide +kernel
theorem dX5_init_8 : decode cX5_init 8 = .ok (.dup, 1) := by decide +kernel
theorem dX5_init_9 : decode cX5_init 9 = .ok (.invokespecial 11, 3) := by decide +kernel
theorem dX5_init_12 : decode cX5_init 12 = .ok (.putfield 12, 3) := by decide +kernel
theorem dX5_init_15 : decode cX5_init 15 = .ok (.aload_n 0, 1) := by decide +kernel
theorem dX5_init_16 : decode cX5_init 16 = .ok (.bipush 20, 2) := by decide +kernel
theorem dX5_init_18 : decode cX5_init 18 = .ok (.newarray .int, 2) := by decide +kernel
theorem dX5_init_20 : decode cX5_init 20 = .ok (.putfield 18, 3) := by decide +kernel
theorem dX5_init_23 : decode cX5_init 23 = .ok (.aload_n 0, 1) := by decide +kernel
theorem dX5_init_24 : decode cX5_init 24 = .ok (.bipush 20, 2) := by decide +kernel
theorem dX5_init_26 : decode cX5_init 26 = .ok (.newarray .int, 2) := by decide +kernel
theorem dX5_init_28 : decode cX5_init 28 = .ok (.putfield 22, 3) := by decide +kernel
theorem dX5_init_31 : decode cX5_init 31 = .ok (.aload_n 0, 1) := by decide +kernel
theorem dX5_init_32 : decode cX5_init 32 = .ok (.iconst 4, 1) := by decide +kernel
theorem dX5_init_33 : decode cX5_init 33 = .ok (.newarray .long, 2) := by decide +kernel
theorem dX5_init_35 : decode cX5_init 35 = .ok (.putfield 25, 3) := by decide +kernel
theorem dX5_init_38 : decode cX5_init 38 = .ok (.aload_n 0, 1) := by decide +kernel
theorem dX5_init_39 : decode cX5_init 39 = .ok (.bipush 6, 2) := by decide +kernel
theorem dX5_init_41 : decode cX5_init 41 = .ok (.newarray .int, 2) := by decide +kernel
theorem dX5_init_43 : decode cX5_init 43 = .ok (.putfield 29, 3) := by decide +kernel
theorem dX5_init_46 : decode cX5_init 46 = .ok (.aload_n 0, 1) := by decide +kernel
theorem dX5_init_47 : decode cX5_init 47 = .ok (.iconst 4, 1) := by decide +kernel
theorem dX5_init_48 : decode cX5_init 48 = .ok (.newarray .int, 2) := by decide +kernel
theorem dX5_init_50 : decode cX5_init 50 = .ok (.putfield 32, 3) := by decide +kernel
theorem dX5_init_53 : decode cX5_init 53 = .ok (.aload_n 0, 1) := by decide +kernel
theorem dX5_init_54 : decode cX5_init 54 = .ok (.iconst 4, 1) := by decide +kernel
theorem dX5_init_55 : decode cX5_init 55 = .ok (.newarray .int, 2) := by decide +kernel
theorem dX5_init_57 : decode cX5_init 57 = .ok (.putfield 35, 3) := by decide +kernel
theorem dX5_init_60 : decode cX5_init 60 = .ok (.return_, 1) := by decide +kernel
theorem dX6_init_0 : decode cX6_init 0 = .ok (.aload_n 0, 1) := by decide +kernel
theorem dX6_init_1 : decode cX6_init 1 = .ok (.invokespecial 3, 3) := by decide +kernel
theorem dX6_init_4 : decode cX6_init 4 = .ok (.iconst 0, 1) := by decide +kernel
theorem dX6_init_5 : decode cX6_init 5 = .ok (.iload_n 1, 1) := by decide +kernel
theorem dX6_init_6 : decode cX6_init 6 = .ok (.invokestatic 9, 3) := by decide +kernel
theorem dX6_init_9 : decode cX6_init 9 = .ok (.istore_n 2, 1) := by decide +kernel
theorem dX6_init_10 : decode cX6_init 10 = .ok (.aload_n 0, 1) := by decide +kernel
theorem dX6_init_11 : decode cX6_init 11 = .ok (.iload_n 2, 1) := by decide +kernel
theorem dX6_init_12 : decode cX6_init 12 = .ok (.newarray .int, 2) := by decide +kernel
theorem dX6_init_14 : decode cX6_init 14 = .ok (.putfield 15, 3) := by decide +kernel
theorem dX6_init_17 : decode cX6_init 17 = .ok (.aload_n 0, 1) := by decide +kernel
theorem dX6_init_18 : decode cX6_init 18 = .ok (.iload_n 2, 1) := by decide +kernel
theorem dX6_init_19 : decode cX6_init 19 = .ok (.newarray .int, 2) := by decide +kernel
theorem dX6_init_21 : decode cX6_init 21 = .ok (.putfield 21, 3) := by decide +kernel
theorem dX6_init_24 : decode cX6_init 24 = .ok (.aload_n 0, 1) := by decide +kernel
theorem dX6_init_25 : decode cX6_init 25 = .ok (.iload_n 2, 1) := by decide +kernel
theorem dX6_init_26 : decode cX6_init 26 = .ok (.newarray .int, 2) := by decide +kernel
theorem dX6_init_28 : decode cX6_init 28 = .ok (.putfield 24, 3) := by decide +kernel
theorem dX6_init_31 : decode cX6_init 31 = .ok (.return_, 1) := by decide +kernel
theorem dX7_init_0 : decode cX7_init 0 = .ok (.aload_n 0, 1) := by decide +kernel
theorem dX7_init_1 : decode cX7_init 1 = .ok (.invokespecial 3, 3) := by decide +kernel
theorem dX7_init_4 : decode cX7_init 4 = .ok (.aload_n 0, 1) := by decide +kernel
theorem dX7_init_5 : decode cX7_init 5 = .ok (.sipush 1000, 3) := by decide +kernel
theorem dX7_init_8 : decode cX7_init 8 = .ok (.putfield 9, 3) := by decide +kernel
theorem dX7_init_11 : decode cX7_init 11 = .ok (.aload_n 0, 1) := by decide +kernel
theorem dX7_init_12 : decode cX7_init 12 = .ok (.bipush 6, 2) := by decide +kernel
theorem dX7_init_14 : decode cX7_init 14 = .ok (.newarray .int, 2) := by decide +kernel
theorem dX7_init_16 : decode cX7_init 16 = .ok (.putfield 15, 3) := by decide +kernel
theorem dX7_init_19 : decode cX7_init 19 = .ok (.aload_n 0, 1) := by decide +kernel
theorem dX7_init_20 : decode cX7_init 20 = .ok (.bipush 6, 2) := by decide +kernel
theorem dX7_init_22 : decode cX7_init 22 = .ok (.newarray .int, 2) := by decide +kernel
theorem dX7_init_24 : decode cX7_init 24 = .ok (.putfield 19, 3) := by decide +kernel
theorem dX7_init_27 : decode cX7_init 27 = .ok (.aload_n 0, 1) := by decide +kernel
theorem dX7_init_28 : decode cX7_init 28 = .ok (.bipush 6, 2) := by decide +kernel
theorem dX7_init_30 : decode cX7_init 30 = .ok (.newarray .long, 2) := by decide +kernel
theorem dX7_init_32 : decode cX7_init 32 = .ok (.putfield 22, 3) := by decide +kernel
theorem dX7_init_35 : decode cX7_init 35 = .ok (.return_, 1) := by decide +kernel
theorem dX8_init_0 : decode cX8_init 0 = .ok (.aload_n 0, 1) := by decide +kernel
theorem dX8_init_1 : decode cX8_init 1 = .ok (.invokespecial 3, 3) := by decide +kernel
theorem dX8_init_4 : decode cX8_init 4 = .ok (.aload_n 0, 1) := by decide +kernel
theorem dX8_init_5 : decode cX8_init 5 = .ok (.iconst 1, 1) := by decide +kernel
theorem dX8_init_6 : decode cX8_init 6 = .ok (.putfield 9, 3) := by decide +kernel
theorem dX8_init_9 : decode cX8_init 9 = .ok (.aload_n 0, 1) := by decide +kernel
theorem dX8_init_10 : decode cX8_init 10 = .ok (.bipush 6, 2) := by decide +kernel
theorem dX8_init_12 : decode cX8_init 12 = .ok (.newarray .int, 2) := by decide +kernel
theorem dX8_init_14 : decode cX8_init 14 = .ok (.putfield 15, 3) := by decide +kernel
theorem dX8_init_17 : decode cX8_init 17 = .ok (.aload_n 0, 1) := by decide +kernel
theorem dX8_init_18 : decode cX8_init 18 = .ok (.bipush 6, 2) := by decide +kernel
theorem dX8_init_20 : decode cX8_init 20 = .ok (.newarray .int, 2) := by decide +kernel
theorem dX8_init_22 : decode cX8_init 22 = .ok (.putfield 19, 3) := by decide +kernel
theorem dX8_init_25 : decode cX8_init 25 = .ok (.return_, 1) := by decide +kernel
theorem dX9_init_0 : decode cX9_init 0 = .ok (.aload_n 0, 1) := by decide +kernel
theorem dX9_init_1 : decode cX9_init 1 = .ok (.invokespecial 3, 3) := by decide +kernel
theorem dX9_init_4 : decode cX9_init 4 = .ok (.aload_n 0, 1) := by decide +kernel
theorem dX9_init_5 : decode cX9_init 5 = .ok (.aload_n 1, 1) := by decide +kernel
theorem dX9_init_6 : decode cX9_init 6 = .ok (.putfield 9, 3) := by decide +kernel
theorem dX9_init_9 : decode cX9_init 9 = .ok (.return_, 1) := by decide +kernel
set_option maxRecDepth 20000 in
theorem ggX10_init_X6_init : GoodIn wsX10_init wsX6_init := goodIn_r _ [34, 35, 2, 3, 36, 37, 38, 39, 6, 40, 41, 42, 96, 97, 98, 99] (by decide +kernel) (by decide +kernel)
set_option maxRecDepth 20000 in
theorem ggX10_init_X4_init : GoodIn wsX10_init wsX4_init := goodIn_r _ [45, 46, 2, 3, 47, 37, 38, 39, 48, 49, 50, 100, 101, 102] (by decide +kernel) (by decide +kernel)
set_option maxRecDepth 20000 in
theorem ggX10_init_X8_init : GoodIn wsX10_init wsX8_init := goodIn_r _ [52, 53, 2, 3, 54, 6, 55, 56, 103, 104, 105, 106, 107, 108, 109] (by decide +kernel) (by decide +kernel)
set_option maxRecDepth 20000 in
theorem ggX10_init_X5_init : GoodIn wsX10_init wsX5_init := goodIn_r _ [58, 59, 2, 3, 60, 61, 62, 63, 6, 64, 65, 49, 66, 67, 68, 69, 70, 71, 72, 73, 74, 75, 76, 127, 128, 129, 130, 131, 132, 133, 110, 111, 112, 113, 114, 115, 116, 117, 118, 119, 120, 121, 122, 123, 124, 125, 126] (by decide +kernel) (by decide +kernel)
theorem dX10_init_0 : decode cX10_init 0 = .ok (.aload_n 0, 1) := by decide +kernel
theorem dX10_init_1 : decode cX10_init 1 = .ok (.invokespecial 3, 3) := by decide +kernel
theorem dX10_init_4 : decode cX10_init 4 = .ok (.aload_n 0, 1) := by decide +kernel
theorem dX10_init_5 : decode cX10_init 5 = .ok (.bipush 10, 2) := by decide +kernel
theorem dX10_init_7 : decode cX10_init 7 = .ok (.putfield 9, 3) := by decide +kernel
theorem dX10_init_10 : decode cX10_init 10 = .ok (.aload_n 0, 1) := by decide +kernel
theorem dX10_init_11 : decode cX10_init 11 = .ok (.sipush 700, 3) := by decide +kernel
theorem dX10_init_14 : decode cX10_init 14 = .ok (.putfield 15, 3) := by decide +kernel
theorem dX10_init_17 : decode cX10_init 17 = .ok (.aload_n 0, 1) := by decide +kernel
theorem dX10_init_18 : decode cX10_init 18 = .ok (.bipush 25, 2) := by decide +kernel
theorem dX10_init_20 : decode cX10_init 20 = .ok (.newarray .int, 2) := by decide +kernel
theorem dX10_init_22 : decode cX10_init 22 = .ok (.putfield 18, 3) := by decide +kernel
theorem dX10_init_25 : decode cX10_init 25 = .ok (.aload_n 0, 1) := by decide +kernel
theorem dX10_init_26 : decode cX10_init 26 = .ok (.bipush 100, 2) := by decide +kernel
theorem dX10_init_28 : decode cX10_init 28 = .ok (.newarray .int, 2) := by decide +kernel
theorem dX10_init_30 : decode cX10_init 30 = .ok (.putfield 22, 3) := by decide +kernel
theorem dX10_init_33 : decode cX10_init 33 = .ok (.aload_n 0, 1) := by decide +kernel
theorem dX10_init_34 : decode cX10_init 34 = .ok (.bipush 6, 2) := by decide +kernel
theorem dX10_init_36 : decode cX10_init 36 = .ok (.anewarray 25, 3) := by decide +kernel
theorem dX10_init_39 : decode cX10_init 39 = .ok (.putfield 27, 3) := by decide +kernel
theorem dX10_init_42 : decode cX10_init 42 = .ok (.aload_n 0, 1) := by decide +kernel
theorem dX10_init_43 : decode cX10_init 43 = .ok (.bipush 6, 2) := by decide +kernel
theorem dX10_init_45 : decode cX10_init 45 = .ok (.anewarray 31, 3) := by decide +kernel
theorem dX10_init_48 : decode cX10_init 48 = .ok (.putfield 33, 3) := by decide +kernel
theorem dX10_init_51 : decode cX10_init 51 = .ok (.aload_n 0, 1) := by decide +kernel
theorem dX10_init_52 : decode cX10_init 52 = .ok (.bipush 12, 2) := by decide +kernel
theorem dX10_init_54 : decode cX10_init 54 = .ok (.anewarray 37, 3) := by decide +kernel
theorem dX10_init_57 : decode cX10_init 57 = .ok (.putfield 39, 3) := by decide +kernel
theorem dX10_init_60 : decode cX10_init 60 = .ok (.aload_n 0, 1) := by decide +kernel
theorem dX10_init_61 : decode cX10_init 61 = .ok (.new 43, 3) := by decide +kernel
theorem dX10_init_64 : decode cX10_init 64 = .ok (.dup, 1) := by decide +kernel
theorem dX10_init_65 : decode cX10_init 65 = .ok (.bipush 60, 2) := by decide +kernel
theorem dX10_init_67 : decode cX10_init 67 = .ok (.invokespecial 45, 3) := by decide +kernel
theorem dX10_init_70 : decode cX10_init 70 = .ok (.putfield 48, 3) := by decide +kernel
theorem dX10_init_73 : decode cX10_init 73 = .ok (.aload_n 0, 1) := by decide +kernel
theorem dX10_init_74 : decode cX10_init 74 = .ok (.new 43, 3) := by decide +kernel
theorem dX10_init_77 : decode cX10_init 77 = .ok (.dup, 1) := by decide +kernel
theorem dX10_init_78 : decode cX10_init 78 = .ok (.bipush 20, 2) := by decide +kernel
theorem dX10_init_80 : decode cX10_init 80 = .ok (.invokespecial 45, 3) := by decide +kernel
theorem dX10_init_83 : decode cX10_init 83 = .ok (.putfield 52, 3) := by decide +kernel
theorem dX10_init_86 : decode cX10_init 86 = .ok (.aload_n 0, 1) := by decide +kernel
theorem dX10_init_87 : decode cX10_init 87 = .ok (.new 43, 3) := by decide +kernel
theorem dX10_init_90 : decode cX10_init 90 = .ok (.dup, 1) := by decide +kernel
theorem dX10_init_91 : decode cX10_init 91 = .ok (.bipush 20, 2) := by decide +kernel
theorem dX10_init_93 : decode cX10_init 93 = .ok (.invokespecial 45, 3) := by decide +kernel
theorem dX10_init_96 : decode cX10_init 96 = .ok (.putfield 55, 3) := by decide +kernel
theorem dX10_init_99 : decode cX10_init 99 = .ok (.aload_n 0, 1) := by decide +kernel
theorem dX10_init_100 : decode cX10_init 100 = .ok (.new 58, 3) := by decide +kernel
theorem dX10_init_103 : decode cX10_init 103 = .ok (.dup, 1) := by decide +kernel
theorem dX10_init_104 : decode cX10_init 104 = .ok (.bipush 60, 2) := by decide +kernel
theorem dX10_init_106 : decode cX10_init 106 = .ok (.iconst 3, 1) := by decide +kernel
theorem dX10_init_107 : decode cX10_init 107 = .ok (.invokespecial 60, 3) := by decide +kernel
theorem dX10_init_110 : decode cX10_init 110 = .ok (.putfield 63, 3) := by decide +kernel
theorem dX10_init_113 : decode cX10_init 113 = .ok (.aload_n 0, 1) := by decide +kernel
theorem dX10_init_114 : decode cX10_init 114 = .ok (.new 58, 3) := by decide +kernel
theorem dX10_init_117 : decode cX10_init 117 = .ok (.dup, 1) := by decide +kernel
theorem dX10_init_118 : decode cX10_init 118 = .ok (.bipush 60, 2) := by decide +kernel
theorem dX10_init_120 : decode cX10_init 120 = .ok (.iconst 5, 1) := by decide +kernel
theorem dX10_init_121 : decode cX10_init 121 = .ok (.invokespecial 60, 3) := by decide +kernel
theorem dX10_init_124 : decode cX10_init 124 = .ok (.putfield 67, 3) := by decide +kernel
theorem dX10_init_127 : decode cX10_init 127 = .ok (.aload_n 0, 1) := by decide +kernel
theorem dX10_init_128 : decode cX10_init 128 = .ok (.new 58, 3) := by decide +kernel
theorem dX10_init_131 : decode cX10_init 131 = .ok (.dup, 1) := by decide +kernel
theorem dX10_init_132 : decode cX10_init 132 = .ok (.bipush 60, 2) := by decide +kernel
theorem dX10_init_134 : decode cX10_init 134 = .ok (.bipush 15, 2) := by decide +kernel
theorem dX10_init_136 : decode cX10_init 136 = .ok (.invokespecial 60, 3) := by decide +kernel
theorem dX10_init_139 : decode cX10_init 139 = .ok (.putfield 70, 3) := by decide +kernel
theorem dX10_init_142 : decode cX10_init 142 = .ok (.aload_n 0, 1) := by decide +kernel
theorem dX10_init_143 : decode cX10_init 143 = .ok (.new 58, 3) := by decide +kernel
theorem dX10_init_146 : decode cX10_init 146 = .ok (.dup, 1) := by decide +kernel
theorem dX10_init_147 : decode cX10_init 147 = .ok (.bipush 6, 2) := by decide +kernel
theorem dX10_init_149 : decode cX10_init 149 = .ok (.bipush 8, 2) := by decide +kernel
theorem dX10_init_151 : decode cX10_init 151 = .ok (.invokespecial 60, 3) := by decide +kernel
theorem dX10_init_154 : decode cX10_init 154 = .ok (.putfield 73, 3) := by decide +kernel
theorem dX10_init_157 : decode cX10_init 157 = .ok (.iconst 0, 1) := by decide +kernel
theorem dX10_init_158 : decode cX10_init 158 = .ok (.istore_n 1, 1) := by decide +kernel
theorem dX10_init_159 : decode cX10_init 159 = .ok (.iload_n 1, 1) := by decide +kernel
theorem dX10_init_160 : decode cX10_init 160 = .ok (.bipush 6, 2) := by decide +kernel
theorem dX10_init_162 : decode cX10_init 162 = .ok (.if_icmp .ge 22, 3) := by decide +kernel
theorem dX10_init_165 : decode cX10_init 165 = .ok (.aload_n 0, 1) := by decide +kernel
theorem dX10_init_166 : decode cX10_init 166 = .ok (.getfield 27, 3) := by decide +kernel
theorem dX10_init_169 : decode cX10_init 169 = .ok (.iload_n 1, 1) := by decide +kernel
theorem dX10_init_170 : decode cX10_init 170 = .ok (.new 25, 3) := by decide +kernel
theorem dX10_init_173 : decode cX10_init 173 = .ok (.dup, 1) := by decide +kernel
theorem dX10_init_174 : decode cX10_init 174 = .ok (.invokespecial 76, 3) := by decide +kernel
theorem dX10_init_177 : decode cX10_init 177 = .ok (.aastore, 1) := by decide +kernel
theorem dX10_init_178 : decode cX10_init 178 = .ok (.iinc 1 1, 3) := by decide +kernel
theorem dX10_init_181 : decode cX10_init 181 = .ok (.goto (-22), 3) := by decide +kernel
theorem dX10_init_184 : decode cX10_init 184 = .ok (.iconst 0, 1) := by decide +kernel
theorem dX10_init_185 : decode cX10_init 185 = .ok (.istore_n 1, 1) := by decide +kernel
theorem dX10_init_186 : decode cX10_init 186 = .ok (.iload_n 1, 1) := by decide +kernel
theorem dX10_init_187 : decode cX10_init 187 = .ok (.bipush 6, 2) := by decide +kernel
theorem dX10_init_189 : decode cX10_init 189 = .ok (.if_icmp .ge 22, 3) := by decide +kernel
theorem dX10_init_192 : decode cX10_init 192 = .ok (.aload_n 0, 1) := by decide +kernel
theorem dX10_init_193 : decode cX10_init 193 = .ok (.getfield 33, 3) := by decide +kernel
theorem dX10_init_196 : decode cX10_init 196 = .ok (.iload_n 1, 1) := by decide +kernel
theorem dX10_init_197 : decode cX10_init 197 = .ok (.new 31, 3) := by decide +kernel
theorem dX10_init_200 : decode cX10_init 200 = .ok (.dup, 1) := by decide +kernel
theorem dX10_init_201 : decode cX10_init 201 = .ok (.invokespecial 77, 3) := by decide +kernel
theorem dX10_init_204 : decode cX10_init 204 = .ok (.aastore, 1) := by decide +kernel
theorem dX10_init_205 : decode cX10_init 205 = .ok (.iinc 1 1, 3) := by decide +kernel
theorem dX10_init_208 : decode cX10_init 208 = .ok (.goto (-22), 3) := by decide +kernel
theorem dX10_init_211 : decode cX10_init 211 = .ok (.return_, 1) := by decide +kernel
set_option maxRecDepth 20000 in
theorem ggX11_init_X10_init : GoodIn wsX11_init wsX10_init := goodIn_r _ [27, 28, 2, 3, 29, 30, 31, 32, 33, 34, 35, 36, 37, 38, 39, 40, 41, 42, 43, 44, 45, 46, 47, 48, 49, 50, 51, 52, 53, 54, 55, 56, 57, 58, 59, 60, 61, 62, 63, 64, 65, 66, 67, 68, 69, 70, 71, 72, 73, 74, 75, 76, 77, 78, 79, 80, 81, 82, 83, 84, 85, 86, 87, 88, 89, 90, 91, 92, 93, 94, 95, 96, 97, 98, 99, 100, 101, 136, 137, 138, 139, 140, 141, 142, 143, 144, 145, 146, 147, 148, 149, 150, 151, 152, 153, 154, 203, 204, 205, 206, 207, 208, 209, 210, 211, 212, 213, 214, 215, 216, 217, 218, 219, 220, 221, 222, 223, 224, 225, 226, 227, 228, 229, 230, 231, 232, 233, 234, 235, 236, 237, 238, 239, 240] (by decide +kernel) (by decide +kernel)
set_option maxRecDepth 20000 in
theorem ggX11_init_X9_init : GoodIn wsX11_init wsX9_init := goodIn_r _ [104, 105, 2, 3, 106, 162, 163, 164, 165] (by decide +kernel) (by decide +kernel)
set_option maxRecDepth 20000 in
theorem ggX11_init_X2_init : GoodIn wsX11_init wsX2_init := goodIn_r _ [108, 109, 2, 3, 110, 111, 112, 31, 113, 114, 166, 167, 168, 169, 170, 171, 172, 173, 174, 175, 176, 177, 178, 179, 180, 181] (by decide +kernel) (by decide +kernel)
set_option maxRecDepth 20000 in
theorem ggX11_init_X3_init : GoodIn wsX11_init wsX3_init := goodIn_r _ [117, 118, 2, 3, 74, 119, 120, 121, 182, 183, 184, 185, 186, 187] (by decide +kernel) (by decide +kernel)
set_option maxRecDepth 20000 in
theorem ggX11_init_X1_init : GoodIn wsX11_init wsX1_init := goodIn_r _ [124, 125, 2, 3, 74, 126, 31, 127, 128, 129, 130, 131, 132, 133, 134, 135, 188, 189, 190, 191, 192, 193, 194, 195, 196, 197, 198, 199, 200, 201, 202] (by decide +kernel) (by decide +kernel)
theorem dX11_init_0 : decode cX11_init 0 = .ok (.aload_n 0, 1) := by decide +kernel
theorem dX11_init_1 : decode cX11_init 1 = .ok (.invokespecial 1, 3) := by decide +kernel
theorem dX11_init_4 : decode cX11_init 4 = .ok (.aload_n 0, 1) := by decide +kernel
theorem dX11_init_5 : decode cX11_init 5 = .ok (.new 7, 3) := by decide +kernel
theorem dX11_init_8 : decode cX11_init 8 = .ok (.dup, 1) := by decide +kernel
theorem dX11_init_9 : decode cX11_init 9 = .ok (.invokespecial 9, 3) := by decide +kernel
theorem dX11_init_12 : decode cX11_init 12 = .ok (.putfield 10, 3) := by decide +kernel
theorem dX11_init_15 : decode cX11_init 15 = .ok (.aload_n 0, 1) := by decide +kernel
theorem dX11_init_16 : decode cX11_init 16 = .ok (.iconst 2, 1) := by decide +kernel
theorem dX11_init_17 : decode cX11_init 17 = .ok (.anewarray 7, 3) := by decide +kernel
theorem dX11_init_20 : decode cX11_init 20 = .ok (.putfield 16, 3) := by decide +kernel
theorem dX11_init_23 : decode cX11_init 23 = .ok (.aload_n 0, 1) := by decide +kernel
theorem dX11_init_24 : decode cX11_init 24 = .ok (.new 20, 3) := by decide +kernel
theorem dX11_init_27 : decode cX11_init 27 = .ok (.dup, 1) := by decide +kernel
theorem dX11_init_28 : decode cX11_init 28 = .ok (.aload_n 0, 1) := by decide +kernel
theorem dX11_init_29 : decode cX11_init 29 = .ok (.getfield 10, 3) := by decide +kernel
theorem dX11_init_32 : decode cX11_init 32 = .ok (.invokespecial 22, 3) := by decide +kernel
theorem dX11_init_35 : decode cX11_init 35 = .ok (.putfield 25, 3) := by decide +kernel
theorem dX11_init_38 : decode cX11_init 38 = .ok (.aload_n 0, 1) := by decide +kernel
theorem dX11_init_39 : decode cX11_init 39 = .ok (.new 29, 3) := by decide +kernel
theorem dX11_init_42 : decode cX11_init 42 = .ok (.dup, 1) := by decide +kernel
theorem dX11_init_43 : decode cX11_init 43 = .ok (.invokespecial 31, 3) := by decide +kernel
theorem dX11_init_46 : decode cX11_init 46 = .ok (.putfield 32, 3) := by decide +kernel
theorem dX11_init_49 : decode cX11_init 49 = .ok (.aload_n 0, 1) := by decide +kernel
theorem dX11_init_50 : decode cX11_init 50 = .ok (.new 36, 3) := by decide +kernel
theorem dX11_init_53 : decode cX11_init 53 = .ok (.dup, 1) := by decide +kernel
theorem dX11_init_54 : decode cX11_init 54 = .ok (.aload_n 0, 1) := by decide +kernel
theorem dX11_init_55 : decode cX11_init 55 = .ok (.getfield 10, 3) := by decide +kernel
theorem dX11_init_58 : decode cX11_init 58 = .ok (.invokespecial 38, 3) := by decide +kernel
theorem dX11_init_61 : decode cX11_init 61 = .ok (.putfield 39, 3) := by decide +kernel
theorem dX11_init_64 : decode cX11_init 64 = .ok (.aload_n 0, 1) := by decide +kernel
theorem dX11_init_65 : decode cX11_init 65 = .ok (.new 43, 3) := by decide +kernel
theorem dX11_init_68 : decode cX11_init 68 = .ok (.dup, 1) := by decide +kernel
theorem dX11_init_69 : decode cX11_init 69 = .ok (.aload_n 0, 1) := by decide +kernel
theorem dX11_init_70 : decode cX11_init 70 = .ok (.getfield 10, 3) := by decide +kernel
theorem dX11_init_73 : decode cX11_init 73 = .ok (.invokespecial 45, 3) := by decide +kernel
theorem dX11_init_76 : decode cX11_init 76 = .ok (.putfield 46, 3) := by decide +kernel
theorem dX11_init_79 : decode cX11_init 79 = .ok (.return_, 1) := by decide +kernel
