abbrev cX11_image : ByteArray := prog_1_method_38_code
def yX11_image : MethodName := ⟨RX11, "image", "(I)I"⟩
def wsX4_copyFrom : List Cond := .code yX4_copyFrom cX4_copyFrom 3 none :: ([.fieldLink RX4 25 "ColdShips$Rows" "size" "I", .fieldLink RX4 15 "ColdShips$Rows" "width" "I", .fieldLink RX4 21 "ColdShips$Rows" "cells" "[J", .methodLink RX4 42 arraycopyName, .native arraycopyName, .static arraycopyName, .initialized "java/lang/System"] ++ wsX40)
def wsX6_copyFrom : List Cond := .code yX6_copyFrom cX6_copyFrom 2 none :: ([.fieldLink RX6 27 "ColdShips$Spans" "size" "I", .fieldLink RX6 15 "ColdShips$Spans" "owners" "[I", .methodLink RX6 34 arraycopyName, .native arraycopyName, .static arraycopyName, .initialized "java/lang/System", .fieldLink RX6 21 "ColdShips$Spans" "begins" "[I", .fieldLink RX6 24 "ColdShips$Spans" "ends" "[I"] ++ wsX60)
def wsX10_copyFrom_r1 : List Cond := [Cond.fieldLink RX10 108 "ColdShips$World" "now" "I", Cond.fieldLink RX10 9 "ColdShips$World" "boils" "I", Cond.fieldLink RX10 15 "ColdShips$World" "limit" "I", Cond.fieldLink RX10 111 "ColdShips$World" "ordersGiven" "I", Cond.fieldLink RX10 78 "ColdShips$World" "terminalCount" "I", Cond.fieldLink RX10 81 "ColdShips$World" "shipCount" "I", Cond.fieldLink RX10 84 "ColdShips$World" "contractCount" "I", Cond.fieldLink RX10 18 "ColdShips$World" "tides" "[I", Cond.methodLink RX10 114 arraycopyName, Cond.native arraycopyName, Cond.static arraycopyName, Cond.initialized "java/lang/System", Cond.fieldLink RX10 22 "ColdShips$World" "seas" "[I", Cond.fieldLink RX10 39 "ColdShips$World" "contracts" "[LColdShips$Contract;", Cond.fieldLink RX10 27 "ColdShips$World" "terminals" "[LColdShips$Terminal;", Cond.fieldLink RX10 33 "ColdShips$World" "ships" "[LColdShips$Ship;", Cond.fieldLink RX10 48 "ColdShips$World" "slots" "LColdShips$Spans;", Cond.fieldLink RX10 52 "ColdShips$World" "breaks" "LColdShips$Spans;", Cond.fieldLink RX10 55 "ColdShips$World" "forces" "LColdShips$Spans;", Cond.fieldLink RX10 63 "ColdShips$World" "prices" "LColdShips$Rows;", Cond.fieldLink RX10 67 "ColdShips$World" "readings" "LColdShips$Rows;", Cond.fieldLink RX10 70 "ColdShips$World" "landings" "LColdShips$Rows;", Cond.fieldLink RX10 73 "ColdShips$World" "cargoes" "LColdShips$Rows;", Cond.methodLink RX10 120 yX8_copyFrom]
def wsX10_copyFrom_r2 : List Cond := [Cond.instanceMethod yX8_copyFrom, Cond.selects RX8 yX8_copyFrom yX8_copyFrom, Cond.initialized RX8, Cond.code yX8_copyFrom cX8_copyFrom 2 none, Cond.fieldLink RX8 22 "ColdShips$Terminal" "store" "I", Cond.fieldLink RX8 25 "ColdShips$Terminal" "cap" "I", Cond.fieldLink RX8 9 "ColdShips$Terminal" "rate" "I", Cond.fieldLink RX8 34 "ColdShips$Terminal" "depth" "I", Cond.fieldLink RX8 37 "ColdShips$Terminal" "heat" "I", Cond.fieldLink RX8 15 "ColdShips$Terminal" "wayHours" "[I", Cond.methodLink RX8 50 arraycopyName, Cond.fieldLink RX8 19 "ColdShips$Terminal" "wayHalf" "[I", Cond.methodLink RX10 124 yX5_copyFrom, Cond.instanceMethod yX5_copyFrom, Cond.selects RX5 yX5_copyFrom yX5_copyFrom, Cond.initialized RX5, Cond.code yX5_copyFrom cX5_copyFrom 2 none, Cond.fieldLink RX5 12 "ColdShips$Ship" "tank" "LColdShips$Tank;", Cond.fieldLink RX5 42 "ColdShips$Ship" "fuel" "I", Cond.fieldLink RX5 46 "ColdShips$Ship" "where" "I", Cond.fieldLink RX5 49 "ColdShips$Ship" "left" "I", Cond.fieldLink RX5 52 "ColdShips$Ship" "half" "I", Cond.fieldLink RX5 55 "ColdShips$Ship" "drifting" "Z", Cond.fieldLink RX5 59 "ColdShips$Ship" "orders" "I"]
def wsX10_copyFrom_r3 : List Cond := [Cond.fieldLink RX5 62 "ColdShips$Ship" "list" "I", Cond.fieldLink RX5 96 "ColdShips$Ship" "landFirst" "I", Cond.fieldLink RX5 99 "ColdShips$Ship" "landLast" "I", Cond.fieldLink RX5 93 "ColdShips$Ship" "landTons" "I", Cond.fieldLink RX5 18 "ColdShips$Ship" "orderSorts" "[I", Cond.methodLink RX5 77 arraycopyName, Cond.fieldLink RX5 22 "ColdShips$Ship" "orderWhats" "[I", Cond.fieldLink RX5 25 "ColdShips$Ship" "book" "[J", Cond.fieldLink RX5 29 "ColdShips$Ship" "landParts" "[I", Cond.fieldLink RX5 32 "ColdShips$Ship" "gaugeCentimetres" "[I", Cond.fieldLink RX5 35 "ColdShips$Ship" "gaugeTons" "[I", Cond.methodLink RX5 102 yX7_copyFrom, Cond.instanceMethod yX7_copyFrom, Cond.selects RX7 yX7_copyFrom yX7_copyFrom, Cond.initialized RX7, Cond.code yX7_copyFrom cX7_copyFrom 2 none, Cond.fieldLink RX7 9 "ColdShips$Tank" "cap" "I", Cond.fieldLink RX7 32 "ColdShips$Tank" "gas" "I", Cond.fieldLink RX7 35 "ColdShips$Tank" "vapor" "I", Cond.fieldLink RX7 38 "ColdShips$Tank" "warm" "I", Cond.fieldLink RX7 15 "ColdShips$Tank" "parts" "[I", Cond.methodLink RX7 74 arraycopyName, Cond.methodLink RX10 127 yX6_copyFrom, Cond.instanceMethod yX6_copyFrom]
def wsX10_copyFrom_r4 : List Cond := [Cond.selects RX6 yX6_copyFrom yX6_copyFrom, Cond.initialized RX6, Cond.code yX6_copyFrom cX6_copyFrom 2 none, Cond.fieldLink RX6 27 "ColdShips$Spans" "size" "I", Cond.fieldLink RX6 15 "ColdShips$Spans" "owners" "[I", Cond.methodLink RX6 34 arraycopyName, Cond.fieldLink RX6 21 "ColdShips$Spans" "begins" "[I", Cond.fieldLink RX6 24 "ColdShips$Spans" "ends" "[I", Cond.methodLink RX10 130 yX4_copyFrom, Cond.instanceMethod yX4_copyFrom, Cond.selects RX4 yX4_copyFrom yX4_copyFrom, Cond.initialized RX4, Cond.code yX4_copyFrom cX4_copyFrom 3 none, Cond.fieldLink RX4 25 "ColdShips$Rows" "size" "I", Cond.fieldLink RX4 15 "ColdShips$Rows" "width" "I", Cond.fieldLink RX4 21 "ColdShips$Rows" "cells" "[J", Cond.methodLink RX4 42 arraycopyName]
def wsX10_copyFrom : List Cond := .code yX10_copyFrom cX10_copyFrom 3 none :: ((wsX10_copyFrom_r1 ++ (wsX10_copyFrom_r2 ++ (wsX10_copyFrom_r3 ++ wsX10_copyFrom_r4))) ++ wsX100 ++ wsX80 ++ wsX50 ++ wsX70 ++ wsX60 ++ wsX40)
def wsX11_image_r1 : List Cond := [Cond.fieldLink RX11 16 "ColdShips" "images" "[LColdShips$World;", Cond.classLink RX11 7 RX10, Cond.instantiable RX10 19, Cond.initialized RX10, Cond.fieldLink RX11 10 "ColdShips" "world" "LColdShips$World;", Cond.methodLink RX11 51 yX11_within, Cond.static yX11_within, Cond.initialized RX11, Cond.code yX11_within cX11_within 3 (some .boolean), Cond.methodLink RX11 55 yX11_refuse, Cond.instanceMethod yX11_refuse, Cond.selects RX11 yX11_refuse yX11_refuse, Cond.code yX11_refuse cX11_refuse 2 (some .int), Cond.fieldLink RX11 354 "ColdShips" "refusal" "I", Cond.methodLink RX11 9 yX10_init, Cond.instanceMethod yX10_init, Cond.code yX10_init cX10_init 2 none, Cond.methodLink RX10 3 objectInit, Cond.instanceMethod objectInit, Cond.code objectInit ⟨#[0xb1]⟩ 1 none, Cond.fieldLink RX10 9 "ColdShips$World" "boils" "I", Cond.fieldLink RX10 15 "ColdShips$World" "limit" "I", Cond.arrayClass .int, Cond.fieldLink RX10 18 "ColdShips$World" "tides" "[I"]
def wsX11_image_r2 : List Cond := [Cond.fieldLink RX10 22 "ColdShips$World" "seas" "[I", Cond.classLink RX10 25 RX8, Cond.fieldLink RX10 27 "ColdShips$World" "terminals" "[LColdShips$Terminal;", Cond.classLink RX10 31 RX5, Cond.fieldLink RX10 33 "ColdShips$World" "ships" "[LColdShips$Ship;", Cond.classLink RX10 37 RX0, Cond.fieldLink RX10 39 "ColdShips$World" "contracts" "[LColdShips$Contract;", Cond.classLink RX10 43 RX6, Cond.instantiable RX6 4, Cond.initialized RX6, Cond.fieldLink RX10 48 "ColdShips$World" "slots" "LColdShips$Spans;", Cond.fieldLink RX10 52 "ColdShips$World" "breaks" "LColdShips$Spans;", Cond.fieldLink RX10 55 "ColdShips$World" "forces" "LColdShips$Spans;", Cond.classLink RX10 58 RX4, Cond.instantiable RX4 3, Cond.initialized RX4, Cond.fieldLink RX10 63 "ColdShips$World" "prices" "LColdShips$Rows;", Cond.fieldLink RX10 67 "ColdShips$World" "readings" "LColdShips$Rows;", Cond.fieldLink RX10 70 "ColdShips$World" "landings" "LColdShips$Rows;", Cond.fieldLink RX10 73 "ColdShips$World" "cargoes" "LColdShips$Rows;", Cond.instantiable RX8 7, Cond.initialized RX8, Cond.instantiable RX5 17, Cond.initialized RX5]
def wsX11_image_r3 : List Cond := [Cond.methodLink RX10 45 yX6_init, Cond.instanceMethod yX6_init, Cond.code yX6_init cX6_init 3 none, Cond.methodLink RX6 3 objectInit, Cond.methodLink RX6 9 Lib.Math.max.name, Cond.static Lib.Math.max.name, Cond.initialized "java/lang/Math", Cond.code Lib.Math.max.name Lib.Math.max.code 2 (some .int), Cond.fieldLink RX6 15 "ColdShips$Spans" "owners" "[I", Cond.fieldLink RX6 21 "ColdShips$Spans" "begins" "[I", Cond.fieldLink RX6 24 "ColdShips$Spans" "ends" "[I", Cond.methodLink RX10 60 yX4_init, Cond.instanceMethod yX4_init, Cond.code yX4_init cX4_init 3 none, Cond.methodLink RX4 3 objectInit, Cond.methodLink RX4 9 Lib.Math.max.name, Cond.fieldLink RX4 15 "ColdShips$Rows" "width" "I", Cond.arrayClass .long, Cond.fieldLink RX4 21 "ColdShips$Rows" "cells" "[J", Cond.instanceMethod yX8_init, Cond.code yX8_init cX8_init 1 none, Cond.methodLink RX8 3 objectInit, Cond.fieldLink RX8 9 "ColdShips$Terminal" "rate" "I", Cond.fieldLink RX8 15 "ColdShips$Terminal" "wayHours" "[I"]
def wsX11_image_r4 : List Cond := [Cond.fieldLink RX8 19 "ColdShips$Terminal" "wayHalf" "[I", Cond.instanceMethod yX5_init, Cond.code yX5_init cX5_init 1 none, Cond.methodLink RX5 3 objectInit, Cond.classLink RX5 9 RX7, Cond.instantiable RX7 7, Cond.initialized RX7, Cond.fieldLink RX5 12 "ColdShips$Ship" "tank" "LColdShips$Tank;", Cond.fieldLink RX5 18 "ColdShips$Ship" "orderSorts" "[I", Cond.fieldLink RX5 22 "ColdShips$Ship" "orderWhats" "[I", Cond.fieldLink RX5 25 "ColdShips$Ship" "book" "[J", Cond.fieldLink RX5 29 "ColdShips$Ship" "landParts" "[I", Cond.fieldLink RX5 32 "ColdShips$Ship" "gaugeCentimetres" "[I", Cond.fieldLink RX5 35 "ColdShips$Ship" "gaugeTons" "[I", Cond.instanceMethod yX7_init, Cond.code yX7_init cX7_init 1 none, Cond.methodLink RX7 3 objectInit, Cond.fieldLink RX7 9 "ColdShips$Tank" "cap" "I", Cond.fieldLink RX7 15 "ColdShips$Tank" "parts" "[I", Cond.fieldLink RX7 19 "ColdShips$Tank" "given" "[I", Cond.fieldLink RX7 22 "ColdShips$Tank" "rests" "[J", Cond.methodLink RX11 350 yX10_copyFrom, Cond.instanceMethod yX10_copyFrom, Cond.selects RX10 yX10_copyFrom yX10_copyFrom]
def wsX11_image_r5 : List Cond := [Cond.code yX10_copyFrom cX10_copyFrom 3 none, Cond.fieldLink RX10 108 "ColdShips$World" "now" "I", Cond.fieldLink RX10 111 "ColdShips$World" "ordersGiven" "I", Cond.fieldLink RX10 78 "ColdShips$World" "terminalCount" "I", Cond.fieldLink RX10 81 "ColdShips$World" "shipCount" "I", Cond.fieldLink RX10 84 "ColdShips$World" "contractCount" "I", Cond.methodLink RX10 114 arraycopyName, Cond.native arraycopyName, Cond.static arraycopyName, Cond.initialized "java/lang/System", Cond.methodLink RX10 120 yX8_copyFrom, Cond.instanceMethod yX8_copyFrom, Cond.selects RX8 yX8_copyFrom yX8_copyFrom, Cond.code yX8_copyFrom cX8_copyFrom 2 none, Cond.fieldLink RX8 22 "ColdShips$Terminal" "store" "I", Cond.fieldLink RX8 25 "ColdShips$Terminal" "cap" "I", Cond.fieldLink RX8 34 "ColdShips$Terminal" "depth" "I", Cond.fieldLink RX8 37 "ColdShips$Terminal" "heat" "I", Cond.methodLink RX8 50 arraycopyName, Cond.methodLink RX10 124 yX5_copyFrom, Cond.instanceMethod yX5_copyFrom, Cond.selects RX5 yX5_copyFrom yX5_copyFrom, Cond.code yX5_copyFrom cX5_copyFrom 2 none, Cond.fieldLink RX5 42 "ColdShips$Ship" "fuel" "I"]
def wsX11_image_r6 : List Cond := [Cond.fieldLink RX5 46 "ColdShips$Ship" "where" "I", Cond.fieldLink RX5 49 "ColdShips$Ship" "left" "I", Cond.fieldLink RX5 52 "ColdShips$Ship" "half" "I", Cond.fieldLink RX5 55 "ColdShips$Ship" "drifting" "Z", Cond.fieldLink RX5 59 "ColdShips$Ship" "orders" "I", Cond.fieldLink RX5 62 "ColdShips$Ship" "list" "I", Cond.fieldLink RX5 96 "ColdShips$Ship" "landFirst" "I", Cond.fieldLink RX5 99 "ColdShips$Ship" "landLast" "I", Cond.fieldLink RX5 93 "ColdShips$Ship" "landTons" "I", Cond.methodLink RX5 77 arraycopyName, Cond.methodLink RX5 102 yX7_copyFrom, Cond.instanceMethod yX7_copyFrom, Cond.selects RX7 yX7_copyFrom yX7_copyFrom, Cond.code yX7_copyFrom cX7_copyFrom 2 none, Cond.fieldLink RX7 32 "ColdShips$Tank" "gas" "I", Cond.fieldLink RX7 35 "ColdShips$Tank" "vapor" "I", Cond.fieldLink RX7 38 "ColdShips$Tank" "warm" "I", Cond.methodLink RX7 74 arraycopyName, Cond.methodLink RX10 127 yX6_copyFrom, Cond.instanceMethod yX6_copyFrom, Cond.selects RX6 yX6_copyFrom yX6_copyFrom, Cond.code yX6_copyFrom cX6_copyFrom 2 none, Cond.fieldLink RX6 27 "ColdShips$Spans" "size" "I", Cond.methodLink RX6 34 arraycopyName]
def wsX11_image_r7 : List Cond := [Cond.methodLink RX10 130 yX4_copyFrom, Cond.instanceMethod yX4_copyFrom, Cond.selects RX4 yX4_copyFrom yX4_copyFrom, Cond.code yX4_copyFrom cX4_copyFrom 3 none, Cond.fieldLink RX4 25 "ColdShips$Rows" "size" "I", Cond.methodLink RX4 42 arraycopyName, Cond.methodLink RX11 73 yX11_accept, Cond.instanceMethod yX11_accept, Cond.selects RX11 yX11_accept yX11_accept, Cond.code yX11_accept cX11_accept 2 (some .int)]
def wsX11_image : List Cond := .code yX11_image cX11_image 2 (some .int) :: ((wsX11_image_r1 ++ (wsX11_image_r2 ++ (wsX11_image_r3 ++ (wsX11_image_r4 ++ (wsX11_image_r5 ++ (wsX11_image_r6 ++ wsX11_image_r7)))))) ++ wsX110 ++ wsX100 ++ wsX60 ++ wsX40 ++ wsX80 ++ wsX50 ++ wsX70)
theorem dX4_copyFrom_0 : decode cX4_copyFrom 0 = .ok (.aload_n 1, 1) := by decide +kernel
theorem dX4_copyFrom_1 : decode cX4_copyFrom 1 = .ok (.getfield 25, 3) := by decide +kernel
theorem dX4_copyFrom_4 : decode cX4_copyFrom 4 = .ok (.aload_n 1, 1) := by decide +kernel
theorem dX4_copyFrom_5 : decode cX4_copyFrom 5 = .ok (.getfield 15, 3) := by decide +kernel
theorem dX4_copyFrom_8 : decode cX4_copyFrom 8 = .ok (.imul, 1) := by decide +kernel
theorem dX4_copyFrom_9 : decode cX4_copyFrom 9 = .ok (.istore_n 2, 1) := by decide +kernel
theorem dX4_copyFrom_10 : decode cX4_copyFrom 10 = .ok (.aload_n 1, 1) := by decide +kernel
theorem dX4_copyFrom_11 : decode cX4_copyFrom 11 = .ok (.getfield 15, 3) := by decide +kernel
theorem dX4_copyFrom_14 : decode cX4_copyFrom 14 = .ok (.aload_n 0, 1) := by decide +kernel
theorem dX4_copyFrom_15 : decode cX4_copyFrom 15 = .ok (.getfield 15, 3) := by decide +kernel
theorem dX4_copyFrom_18 : decode cX4_copyFrom 18 = .ok (.if_icmp .ne 34, 3) := by decide +kernel
theorem dX4_copyFrom_21 : decode cX4_copyFrom 21 = .ok (.iload_n 2, 1) := by decide +kernel
theorem dX4_copyFrom_22 : decode cX4_copyFrom 22 = .ok (.aload_n 0, 1) := by decide +kernel
theorem dX4_copyFrom_23 : decode cX4_copyFrom 23 = .ok (.getfield 21, 3) := by decide +kernel
theorem dX4_copyFrom_26 : decode cX4_copyFrom 26 = .ok (.arraylength, 1) := by decide +kernel
theorem dX4_copyFrom_27 : decode cX4_copyFrom 27 = .ok (.if_icmp .gt 25, 3) := by decide +kernel
theorem dX4_copyFrom_30 : decode cX4_copyFrom 30 = .ok (.aload_n 1, 1) := by decide +kernel
theorem dX4_copyFrom_31 : decode cX4_copyFrom 31 = .ok (.getfield 21, 3) := by decide +kernel
theorem dX4_copyFrom_34 : decode cX4_copyFrom 34 = .ok (.iconst 0, 1) := by decide +kernel
theorem dX4_copyFrom_35 : decode cX4_copyFrom 35 = .ok (.aload_n 0, 1) := by decide +kernel
theorem dX4_copyFrom_36 : decode cX4_copyFrom 36 = .ok (.getfield 21, 3) := by decide +kernel
theorem dX4_copyFrom_39 : decode cX4_copyFrom 39 = .ok (.iconst 0, 1) := by decide +kernel
theorem dX4_copyFrom_40 : decode cX4_copyFrom 40 = .ok (.iload_n 2, 1) := by decide +kernel
theorem dX4_copyFrom_41 : decode cX4_copyFrom 41 = .ok (.invokestatic 42, 3) := by decide +kernel
theorem dX4_copyFrom_44 : decode cX4_copyFrom 44 = .ok (.aload_n 0, 1) := by decide +kernel
theorem dX4_copyFrom_45 : decode cX4_copyFrom 45 = .ok (.aload_n 1, 1) := by decide +kernel
theorem dX4_copyFrom_46 : decode cX4_copyFrom 46 = .ok (.getfield 25, 3) := by decide +kernel
theorem dX4_copyFrom_49 : decode cX4_copyFrom 49 = .ok (.putfield 25, 3) := by decide +kernel
theorem dX4_copyFrom_52 : decode cX4_copyFrom 52 = .ok (.return_, 1) := by decide +kernel
theorem dX6_copyFrom_0 : decode cX6_copyFrom 0 = .ok (.aload_n 1, 1) := by decide +kernel
theorem dX6_copyFrom_1 : decode cX6_copyFrom 1 = .ok (.getfield 27, 3) := by decide +kernel
theorem dX6_copyFrom_4 : decode cX6_copyFrom 4 = .ok (.aload_n 0, 1) := by decide +kernel
theorem dX6_copyFrom_5 : decode cX6_copyFrom 5 = .ok (.getfield 15, 3) := by decide +kernel
theorem dX6_copyFrom_8 : decode cX6_copyFrom 8 = .ok (.arraylength, 1) := by decide +kernel
theorem dX6_copyFrom_9 : decode cX6_copyFrom 9 = .ok (.if_icmp .gt 62, 3) := by decide +kernel
theorem dX6_copyFrom_12 : decode cX6_copyFrom 12 = .ok (.aload_n 1, 1) := by decide +kernel
theorem dX6_copyFrom_13 : decode cX6_copyFrom 13 = .ok (.getfield 15, 3) := by decide +kernel
theorem dX6_copyFrom_16 : decode cX6_copyFrom 16 = .ok (.iconst 0, 1) := by decide +kernel
theorem dX6_copyFrom_17 : decode cX6_copyFrom 17 = .ok (.aload_n 0, 1) := by decide +kernel
theorem dX6_copyFrom_18 : decode cX6_copyFrom 18 = .ok (.getfield 15, 3) := by decide +kernel
theorem dX6_copyFrom_21 : decode cX6_copyFrom 21 = .ok (.iconst 0, 1) := by decide +kernel
theorem dX6_copyFrom_22 : decode cX6_copyFrom 22 = .ok (.aload_n 1, 1) := by decide +kernel
theorem dX6_copyFrom_23 : decode cX6_copyFrom 23 = .ok (.getfield 27, 3) := by decide +kernel
theorem dX6_copyFrom_26 : decode cX6_copyFrom 26 = .ok (.invokestatic 34, 3) := by decide +kernel
theorem dX6_copyFrom_29 : decode cX6_copyFrom 29 = .ok (.aload_n 1, 1) := by decide +kernel
theorem dX6_copyFrom_30 : decode cX6_copyFrom 30 = .ok (.getfield 21, 3) := by decide +kernel
theorem dX6_copyFrom_33 : decode cX6_copyFrom 33 = .ok (.iconst 0, 1) := by decide +kernel
theorem dX6_copyFrom_34 : decode cX6_copyFrom 34 = .ok (.aload_n 0, 1) := by decide +kernel
theorem dX6_copyFrom_35 : decode cX6_copyFrom 35 = .ok (.getfield 21, 3) := by decide +kernel
theorem dX6_copyFrom_38 : decode cX6_copyFrom 38 = .ok (.iconst 0, 1) := by decide +kernel
theorem dX6_copyFrom_39 : decode cX6_copyFrom 39 = .ok (.aload_n 1, 1) := by decide +kernel
theorem dX6_copyFrom_40 : decode cX6_copyFrom 40 = .ok (.getfield 27, 3) := by decide +kernel
theorem dX6_copyFrom_43 : decode cX6_copyFrom 43 = .ok (.invokestatic 34, 3) := by decide +kernel
theorem dX6_copyFrom_46 : decode cX6_copyFrom 46 = .ok (.aload_n 1, 1) := by decide +kernel
theorem dX6_copyFrom_47 : decode cX6_copyFrom 47 = .ok (.getfield 24, 3) := by decide +kernel
theorem dX6_copyFrom_50 : decode cX6_copyFrom 50 = .ok (.iconst 0, 1) := by decide +kernel
theorem dX6_copyFrom_51 : decode cX6_copyFrom 51 = .ok (.aload_n 0, 1) := by decide +kernel
theorem dX6_copyFrom_52 : decode cX6_copyFrom 52 = .ok (.getfield 24, 3) := by decide +kernel
theorem dX6_copyFrom_55 : decode cX6_copyFrom 55 = .ok (.iconst 0, 1) := by decide +kernel
theorem dX6_copyFrom_56 : decode cX6_copyFrom 56 = .ok (.aload_n 1, 1) := by decide +kernel
theorem dX6_copyFrom_57 : decode cX6_copyFrom 57 = .ok (.getfield 27, 3) := by decide +kernel
theorem dX6_copyFrom_60 : decode cX6_copyFrom 60 = .ok (.invokestatic 34, 3) := by decide +kernel
theorem dX6_copyFrom_63 : decode cX6_copyFrom 63 = .ok (.aload_n 0, 1) := by decide +kernel
theorem dX6_copyFrom_64 : decode cX6_copyFrom 64 = .ok (.aload_n 1, 1) := by decide +kernel
theorem dX6_copyFrom_65 : decode cX6_copyFrom 65 = .ok (.getfield 27, 3) := by decide +kernel
theorem dX6_copyFrom_68 : decode cX6_copyFrom 68 = .ok (.putfield 27, 3) := by decide +kernel
theorem dX6_copyFrom_71 : decode cX6_copyFrom 71 = .ok (.return_, 1) := by decide +kernel
set_option maxRecDepth 20000 in
theorem ggX10_copyFrom_X6_copyFrom : GoodIn wsX10_copyFrom wsX6_copyFrom := goodIn_r _ [75, 76, 77, 78, 10, 11, 12, 79, 80, 140, 141, 142, 143] (by decide +kernel) (by decide +kernel)
set_option maxRecDepth 20000 in
theorem gX10_copyFrom_X6_copyFrom : GoodIn wsX10_copyFrom (wsV RX10 127 RX6 yX6_copyFrom wsX6_copyFrom) := goodIn_app (goodIn_of _ (by decide +kernel)) ggX10_copyFrom_X6_copyFrom
set_option maxRecDepth 20000 in
theorem ggX10_copyFrom_X4_copyFrom : GoodIn wsX10_copyFrom wsX4_copyFrom := goodIn_r _ [85, 86, 87, 88, 89, 10, 11, 12, 144, 145, 146] (by decide +kernel) (by decide +kernel)
set_option maxRecDepth 20000 in
theorem gX10_copyFrom_X4_copyFrom : GoodIn wsX10_copyFrom (wsV RX10 130 RX4 yX4_copyFrom wsX4_copyFrom) := goodIn_app (goodIn_of _ (by decide +kernel)) ggX10_copyFrom_X4_copyFrom
theorem dX10_copyFrom_0 : decode cX10_copyFrom 0 = .ok (.aload_n 0, 1) := by decide +kernel
theorem dX10_copyFrom_1 : decode cX10_copyFrom 1 = .ok (.aload_n 1, 1) := by decide +kernel
theorem dX10_copyFrom_2 : decode cX10_copyFrom 2 = .ok (.getfield 108, 3) := by decide +kernel
theorem dX10_copyFrom_5 : decode cX10_copyFrom 5 = .ok (.putfield 108, 3) := by decide +kernel
theorem dX10_copyFrom_8 : decode cX10_copyFrom 8 = .ok (.aload_n 0, 1) := by decide +kernel
theorem dX10_copyFrom_9 : decode cX10_copyFrom 9 = .ok (.aload_n 1, 1) := by decide +kernel
theorem dX10_copyFrom_10 : decode cX10_copyFrom 10 = .ok (.getfield 9, 3) := by decide +kernel
theorem dX10_copyFrom_13 : decode cX10_copyFrom 13 = .ok (.putfield 9, 3) := by decide +kernel
theorem dX10_copyFrom_16 : decode cX10_copyFrom 16 = .ok (.aload_n 0, 1) := by decide +kernel
theorem dX10_copyFrom_17 : decode cX10_copyFrom 17 = .ok (.aload_n 1, 1) := by decide +kernel
theorem dX10_copyFrom_18 : decode cX10_copyFrom 18 = .ok (.getfield 15, 3) := by decide +kernel
theorem dX10_copyFrom_21 : decode cX10_copyFrom 21 = .ok (.putfield 15, 3) := by decide +kernel
theorem dX10_copyFrom_24 : decode cX10_copyFrom 24 = .ok (.aload_n 0, 1) := by decide +kernel
theorem dX10_copyFrom_25 : decode cX10_copyFrom 25 = .ok (.aload_n 1, 1) := by decide +kernel
theorem dX10_copyFrom_26 : decode cX10_copyFrom 26 = .ok (.getfield 111, 3) := by decide +kernel
theorem dX10_copyFrom_29 : decode cX10_copyFrom 29 = .ok (.putfield 111, 3) := by decide +kernel
theorem dX10_copyFrom_32 : decode cX10_copyFrom 32 = .ok (.aload_n 0, 1) := by decide +kernel
theorem dX10_copyFrom_33 : decode cX10_copyFrom 33 = .ok (.aload_n 1, 1) := by decide +kernel
theorem dX10_copyFrom_34 : decode cX10_copyFrom 34 = .ok (.getfield 78, 3) := by decide +kernel
theorem dX10_copyFrom_37 : decode cX10_copyFrom 37 = .ok (.putfield 78, 3) := by decide +kernel
theorem dX10_copyFrom_40 : decode cX10_copyFrom 40 = .ok (.aload_n 0, 1) := by decide +kernel
theorem dX10_copyFrom_41 : decode cX10_copyFrom 41 = .ok (.aload_n 1, 1) := by decide +kernel
theorem dX10_copyFrom_42 : decode cX10_copyFrom 42 = .ok (.getfield 81, 3) := by decide +kernel
theorem dX10_copyFrom_45 : decode cX10_copyFrom 45 = .ok (.putfield 81, 3) := by decide +kernel
theorem dX10_copyFrom_48 : decode cX10_copyFrom 48 = .ok (.aload_n 0, 1) := by decide +kernel
theorem dX10_copyFrom_49 : decode cX10_copyFrom 49 = .ok (.aload_n 1, 1) := by decide +kernel
theorem dX10_copyFrom_50 : decode cX10_copyFrom 50 = .ok (.getfield 84, 3) := by decide +kernel
theorem dX10_copyFrom_53 : decode cX10_copyFrom 53 = .ok (.putfield 84, 3) := by decide +kernel
theorem dX10_copyFrom_56 : decode cX10_copyFrom 56 = .ok (.aload_n 1, 1) := by decide +kernel
theorem dX10_copyFrom_57 : decode cX10_copyFrom 57 = .ok (.getfield 18, 3) := by decide +kernel
theorem dX10_copyFrom_60 : decode cX10_copyFrom 60 = .ok (.iconst 0, 1) := by decide +kernel
theorem dX10_copyFrom_61 : decode cX10_copyFrom 61 = .ok (.aload_n 0, 1) := by decide +kernel
theorem dX10_copyFrom_62 : decode cX10_copyFrom 62 = .ok (.getfield 18, 3) := by decide +kernel
theorem dX10_copyFrom_65 : decode cX10_copyFrom 65 = .ok (.iconst 0, 1) := by decide +kernel
theorem dX10_copyFrom_66 : decode cX10_copyFrom 66 = .ok (.bipush 25, 2) := by decide +kernel
theorem dX10_copyFrom_68 : decode cX10_copyFrom 68 = .ok (.invokestatic 114, 3) := by decide +kernel
theorem dX10_copyFrom_71 : decode cX10_copyFrom 71 = .ok (.aload_n 1, 1) := by decide +kernel
theorem dX10_copyFrom_72 : decode cX10_copyFrom 72 = .ok (.getfield 22, 3) := by decide +kernel
theorem dX10_copyFrom_75 : decode cX10_copyFrom 75 = .ok (.iconst 0, 1) := by decide +kernel
theorem dX10_copyFrom_76 : decode cX10_copyFrom 76 = .ok (.aload_n 0, 1) := by decide +kernel
theorem dX10_copyFrom_77 : decode cX10_copyFrom 77 = .ok (.getfield 22, 3) := by decide +kernel
theorem dX10_copyFrom_80 : decode cX10_copyFrom 80 = .ok (.iconst 0, 1) := by decide +kernel
theorem dX10_copyFrom_81 : decode cX10_copyFrom 81 = .ok (.bipush 100, 2) := by decide +kernel
theorem dX10_copyFrom_83 : decode cX10_copyFrom 83 = .ok (.invokestatic 114, 3) := by decide +kernel
theorem dX10_copyFrom_86 : decode cX10_copyFrom 86 = .ok (.iconst 0, 1) := by decide +kernel
theorem dX10_copyFrom_87 : decode cX10_copyFrom 87 = .ok (.istore_n 2, 1) := by decide +kernel
theorem dX10_copyFrom_88 : decode cX10_copyFrom 88 = .ok (.iload_n 2, 1) := by decide +kernel
theorem dX10_copyFrom_89 : decode cX10_copyFrom 89 = .ok (.bipush 12, 2) := by decide +kernel
theorem dX10_copyFrom_91 : decode cX10_copyFrom 91 = .ok (.if_icmp .ge 21, 3) := by decide +kernel
theorem dX10_copyFrom_94 : decode cX10_copyFrom 94 = .ok (.aload_n 0, 1) := by decide +kernel
theorem dX10_copyFrom_95 : decode cX10_copyFrom 95 = .ok (.getfield 39, 3) := by decide +kernel
theorem dX10_copyFrom_98 : decode cX10_copyFrom 98 = .ok (.iload_n 2, 1) := by decide +kernel
theorem dX10_copyFrom_99 : decode cX10_copyFrom 99 = .ok (.aload_n 1, 1) := by decide +kernel
theorem dX10_copyFrom_100 : decode cX10_copyFrom 100 = .ok (.getfield 39, 3) := by decide +kernel
theorem dX10_copyFrom_103 : decode cX10_copyFrom 103 = .ok (.iload_n 2, 1) := by decide +kernel
theorem dX10_copyFrom_104 : decode cX10_copyFrom 104 = .ok (.aaload, 1) := by decide +kernel
theorem dX10_copyFrom_105 : decode cX10_copyFrom 105 = .ok (.aastore, 1) := by decide +kernel
theorem dX10_copyFrom_106 : decode cX10_copyFrom 106 = .ok (.iinc 2 1, 3) := by decide +kernel
theorem dX10_copyFrom_109 : decode cX10_copyFrom 109 = .ok (.goto (-21), 3) := by decide +kernel
theorem dX10_copyFrom_112 : decode cX10_copyFrom 112 = .ok (.iconst 0, 1) := by decide +kernel
theorem dX10_copyFrom_113 : decode cX10_copyFrom 113 = .ok (.istore_n 2, 1) := by decide +kernel
theorem dX10_copyFrom_114 : decode cX10_copyFrom 114 = .ok (.iload_n 2, 1) := by decide +kernel
theorem dX10_copyFrom_115 : decode cX10_copyFrom 115 = .ok (.aload_n 0, 1) := by decide +kernel
theorem dX10_copyFrom_116 : decode cX10_copyFrom 116 = .ok (.getfield 78, 3) := by decide +kernel
theorem dX10_copyFrom_119 : decode cX10_copyFrom 119 = .ok (.if_icmp .ge 24, 3) := by decide +kernel
theorem dX10_copyFrom_143 : decode cX10_copyFrom 143 = .ok (.iconst 0, 1) := by decide +kernel
theorem dX10_copyFrom_144 : decode cX10_copyFrom 144 = .ok (.istore_n 2, 1) := by decide +kernel
theorem dX10_copyFrom_145 : decode cX10_copyFrom 145 = .ok (.iload_n 2, 1) := by decide +kernel
theorem dX10_copyFrom_146 : decode cX10_copyFrom 146 = .ok (.aload_n 0, 1) := by decide +kernel
theorem dX10_copyFrom_147 : decode cX10_copyFrom 147 = .ok (.getfield 81, 3) := by decide +kernel
theorem dX10_copyFrom_150 : decode cX10_copyFrom 150 = .ok (.if_icmp .ge 24, 3) := by decide +kernel
theorem dX10_copyFrom_174 : decode cX10_copyFrom 174 = .ok (.aload_n 0, 1) := by decide +kernel
theorem dX10_copyFrom_175 : decode cX10_copyFrom 175 = .ok (.getfield 48, 3) := by decide +kernel
theorem dX10_copyFrom_178 : decode cX10_copyFrom 178 = .ok (.aload_n 1, 1) := by decide +kernel
theorem dX10_copyFrom_179 : decode cX10_copyFrom 179 = .ok (.getfield 48, 3) := by decide +kernel
theorem dX10_copyFrom_182 : decode cX10_copyFrom 182 = .ok (.invokevirtual 127, 3) := by decide +kernel
theorem dX10_copyFrom_185 : decode cX10_copyFrom 185 = .ok (.aload_n 0, 1) := by decide +kernel
theorem dX10_copyFrom_186 : decode cX10_copyFrom 186 = .ok (.getfield 52, 3) := by decide +kernel
theorem dX10_copyFrom_189 : decode cX10_copyFrom 189 = .ok (.aload_n 1, 1) := by decide +kernel
theorem dX10_copyFrom_190 : decode cX10_copyFrom 190 = .ok (.getfield 52, 3) := by decide +kernel
theorem dX10_copyFrom_193 : decode cX10_copyFrom 193 = .ok (.invokevirtual 127, 3) := by decide +kernel
theorem dX10_copyFrom_196 : decode cX10_copyFrom 196 = .ok (.aload_n 0, 1) := by decide +kernel
theorem dX10_copyFrom_197 : decode cX10_copyFrom 197 = .ok (.getfield 55, 3) := by decide +kernel
theorem dX10_copyFrom_200 : decode cX10_copyFrom 200 = .ok (.aload_n 1, 1) := by decide +kernel
theorem dX10_copyFrom_201 : decode cX10_copyFrom 201 = .ok (.getfield 55, 3) := by decide +kernel
theorem dX10_copyFrom_204 : decode cX10_copyFrom 204 = .ok (.invokevirtual 127, 3) := by decide +kernel
theorem dX10_copyFrom_207 : decode cX10_copyFrom 207 = .ok (.aload_n 0, 1) := by decide +kernel
theorem dX10_copyFrom_208 : decode cX10_copyFrom 208 = .ok (.getfield 63, 3) := by decide +kernel
theorem dX10_copyFrom_211 : decode cX10_copyFrom 211 = .ok (.aload_n 1, 1) := by decide +kernel
theorem dX10_copyFrom_212 : decode cX10_copyFrom 212 = .ok (.getfield 63, 3) := by decide +kernel
theorem dX10_copyFrom_215 : decode cX10_copyFrom 215 = .ok (.invokevirtual 130, 3) := by decide +kernel
theorem dX10_copyFrom_218 : decode cX10_copyFrom 218 = .ok (.aload_n 0, 1) := by decide +kernel
theorem dX10_copyFrom_219 : decode cX10_copyFrom 219 = .ok (.getfield 67, 3) := by decide +kernel
theorem dX10_copyFrom_222 : decode cX10_copyFrom 222 = .ok (.aload_n 1, 1) := by decide +kernel
theorem dX10_copyFrom_223 : decode cX10_copyFrom 223 = .ok (.getfield 67, 3) := by decide +kernel
theorem dX10_copyFrom_226 : decode cX10_copyFrom 226 = .ok (.invokevirtual 130, 3) := by decide +kernel
theorem dX10_copyFrom_229 : decode cX10_copyFrom 229 = .ok (.aload_n 0, 1) := by decide +kernel
theorem dX10_copyFrom_230 : decode cX10_copyFrom 230 = .ok (.getfield 70, 3) := by decide +kernel
theorem dX10_copyFrom_233 : decode cX10_copyFrom 233 = .ok (.aload_n 1, 1) := by decide +kernel
theorem dX10_copyFrom_234 : decode cX10_copyFrom 234 = .ok (.getfield 70, 3) := by decide +kernel
theorem dX10_copyFrom_237 : decode cX10_copyFrom 237 = .ok (.invokevirtual 130, 3) := by decide +kernel
theorem dX10_copyFrom_240 : decode cX10_copyFrom 240 = .ok (.aload_n 0, 1) := by decide +kernel
theorem dX10_copyFrom_241 : decode cX10_copyFrom 241 = .ok (.getfield 73, 3) := by decide +kernel
theorem dX10_copyFrom_244 : decode cX10_copyFrom 244 = .ok (.aload_n 1, 1) := by decide +kernel
theorem dX10_copyFrom_245 : decode cX10_copyFrom 245 = .ok (.getfield 73, 3) := by decide +kernel
theorem dX10_copyFrom_248 : decode cX10_copyFrom 248 = .ok (.invokevirtual 130, 3) := by decide +kernel
theorem dX10_copyFrom_251 : decode cX10_copyFrom 251 = .ok (.return_, 1) := by decide +kernel
set_option maxRecDepth 20000 in
theorem ggX11_image_X11_within : GoodIn wsX11_image wsX11_within := goodIn_r _ [9] (by decide +kernel) (by decide +kernel)
set_option maxRecDepth 20000 in
theorem gX11_image_X11_within : GoodIn wsX11_image (va_wsS RX11 51 yX11_within wsX11_within) := goodIn_app (goodIn_of _ (by decide +kernel)) ggX11_image_X11_within
set_option maxRecDepth 20000 in
theorem ggX11_image_X11_refuse : GoodIn wsX11_image wsX11_refuse := goodIn_r _ [13, 14, 155, 156, 157, 158, 159, 160, 161] (by decide +kernel) (by decide +kernel)
set_option maxRecDepth 20000 in
theorem gX11_image_X11_refuse : GoodIn wsX11_image (wsV RX11 55 RX11 yX11_refuse wsX11_refuse) := goodIn_app (goodIn_of _ (by decide +kernel)) ggX11_image_X11_refuse
set_option maxRecDepth 20000 in
theorem ggX11_image_X10_init : GoodIn wsX11_image wsX10_init := goodIn_r _ [17, 18, 19, 20, 21, 22, 23, 24, 25, 26, 27, 28, 29, 30, 31, 32, 33, 34, 35, 36, 37, 38, 39, 40, 41, 42, 43, 44, 45, 46, 47, 48, 49, 50, 51, 52, 53, 54, 55, 56, 57, 58, 59, 60, 61, 62, 63, 64, 65, 66, 67, 68, 69, 70, 71, 72, 73, 74, 75, 76, 77, 78, 79, 80, 81, 82, 83, 84, 85, 86, 87, 88, 89, 90, 91, 92, 93, 162, 163, 164, 165, 166, 167, 168, 169, 170, 171, 172, 173, 174, 175, 176, 177, 178, 179, 180, 181, 182, 183, 184, 185, 186, 187, 188, 189, 190, 191, 192, 193, 194, 195, 196, 197, 198, 199, 200, 201, 202, 203, 204, 205, 206, 207, 208, 209, 210, 211, 212, 213, 214, 215, 216, 217, 218] (by decide +kernel) (by decide +kernel)
set_option maxRecDepth 20000 in
theorem ggX11_image_X10_copyFrom : GoodIn wsX11_image wsX10_copyFrom := goodIn_r _ [97, 98, 21, 22, 99, 100, 101, 102, 24, 103, 104, 105, 106, 25, 31, 27, 29, 35, 36, 37, 41, 42, 43, 44, 107, 108, 109, 46, 110, 111, 112, 71, 113, 114, 72, 115, 73, 116, 117, 118, 48, 119, 80, 120, 121, 122, 123, 124, 125, 126, 127, 128, 129, 81, 130, 82, 83, 84, 85, 86, 131, 132, 133, 79, 134, 90, 135, 136, 137, 91, 138, 139, 140, 141, 34, 142, 143, 57, 144, 58, 59, 145, 146, 147, 40, 148, 149, 65, 67, 150, 162, 163, 164, 165, 166, 167, 168, 169, 170, 171, 172, 173, 174, 175, 176, 177, 178, 179, 180, 188, 189, 190, 191, 192, 193, 194, 195, 196, 197, 198, 199, 200, 201, 202, 203, 204, 205, 206, 207, 208, 209, 210, 211, 212, 213, 214, 215, 216, 217, 218, 181, 182, 183, 184, 185, 186, 187] (by decide +kernel) (by decide +kernel)
set_option maxRecDepth 20000 in
theorem gX11_image_X10_copyFrom : GoodIn wsX11_image (wsV RX11 350 RX10 yX10_copyFrom wsX10_copyFrom) := goodIn_app (goodIn_of _ (by decide +kernel)) ggX11_image_X10_copyFrom
set_option maxRecDepth 20000 in
theorem ggX11_image_X11_accept : GoodIn wsX11_image wsX11_accept := goodIn_r _ [154, 14, 155, 156, 157, 158, 159, 160, 161] (by decide +kernel) (by decide +kernel)
set_option maxRecDepth 20000 in
theorem gX11_image_X11_accept : GoodIn wsX11_image (wsV RX11 73 RX11 yX11_accept wsX11_accept) := goodIn_app (goodIn_of _ (by decide +kernel)) ggX11_image_X11_accept
theorem dX11_image_0 : decode cX11_image 0 = .ok (.iload_n 1, 1) := by decide +kernel
theorem dX11_image_1 : decode cX11_image 1 = .ok (.iconst 0, 1) := by decide +kernel
theorem dX11_image_2 : decode cX11_image 2 = .ok (.aload_n 0, 1) := by decide +kernel
theorem dX11_image_3 : decode cX11_image 3 = .ok (.getfield 16, 3) := by decide +kernel
theorem dX11_image_6 : decode cX11_image 6 = .ok (.arraylength, 1) := by decide +kernel
theorem dX11_image_7 : decode cX11_image 7 = .ok (.iconst 1, 1) := by decide +kernel
theorem dX11_image_8 : decode cX11_image 8 = .ok (.isub, 1) := by decide +kernel
theorem dX11_image_9 : decode cX11_image 9 = .ok (.invokestatic 51, 3) := by decide +kernel
theorem dX11_image_12 : decode cX11_image 12 = .ok (.ifCond .ne 9, 3) := by decide +kernel
theorem dX11_image_15 : decode cX11_image 15 = .ok (.aload_n 0, 1) := by decide +kernel
theorem dX11_image_16 : decode cX11_image 16 = .ok (.iconst (-1), 1) := by decide +kernel
theorem dX11_image_17 : decode cX11_image 17 = .ok (.invokevirtual 55, 3) := by decide +kernel
theorem dX11_image_20 : decode cX11_image 20 = .ok (.ireturn, 1) := by decide +kernel
theorem dX11_image_21 : decode cX11_image 21 = .ok (.aload_n 0, 1) := by decide +kernel
theorem dX11_image_22 : decode cX11_image 22 = .ok (.getfield 16, 3) := by decide +kernel
theorem dX11_image_25 : decode cX11_image 25 = .ok (.iload_n 1, 1) := by decide +kernel
theorem dX11_image_26 : decode cX11_image 26 = .ok (.aaload, 1) := by decide +kernel
theorem dX11_image_27 : decode cX11_image 27 = .ok (.ifnonnull 16, 3) := by decide +kernel
theorem dX11_image_30 : decode cX11_image 30 = .ok (.aload_n 0, 1) := by decide +kernel
theorem dX11_image_31 : decode cX11_image 31 = .ok (.getfield 16, 3) := by decide +kernel
theorem dX11_image_34 : decode cX11_image 34 = .ok (.iload_n 1, 1) := by decide +kernel
theorem dX11_image_35 : decode cX11_image 35 = .ok (.new 7, 3) := by decide +kernel
theorem dX11_image_38 : decode cX11_image 38 = .ok (.dup, 1) := by decide +kernel
theorem dX11_image_39 : decode cX11_image 39 = .ok (.invokespecial 9, 3) := by decide +kernel
theorem dX11_image_42 : decode cX11_image 42 = .ok (.aastore, 1) := by decide +kernel
theorem dX11_image_43 : decode cX11_image 43 = .ok (.aload_n 0, 1) := by decide +kernel
theorem dX11_image_44 : decode cX11_image 44 = .ok (.getfield 16, 3) := by decide +kernel
theorem dX11_image_47 : decode cX11_image 47 = .ok (.iload_n 1, 1) := by decide +kernel
theorem dX11_image_48 : decode cX11_image 48 = .ok (.aaload, 1) := by decide +kernel
theorem dX11_image_49 : decode cX11_image 49 = .ok (.aload_n 0, 1) := by decide +kernel
theorem dX11_image_50 : decode cX11_image 50 = .ok (.getfield 10, 3) := by decide +kernel
theorem dX11_image_53 : decode cX11_image 53 = .ok (.invokevirtual 350, 3) := by decide +kernel
theorem dX11_image_56 : decode cX11_image 56 = .ok (.aload_n 0, 1) := by decide +kernel
theorem dX11_image_57 : decode cX11_image 57 = .ok (.iconst 0, 1) := by decide +kernel
theorem dX11_image_58 : decode cX11_image 58 = .ok (.invokevirtual 73, 3) := by decide +kernel
theorem dX11_image_61 : decode cX11_image 61 = .ok (.ireturn, 1) := by decide +kernel
