abbrev cX12_go : ByteArray := prog_14_method_32_code
def yX12_go : MethodName := ⟨RX12, "go", "(I)I"⟩
abbrev cX12_goShip : ByteArray := prog_14_method_33_code
def yX12_goShip : MethodName := ⟨RX12, "goShip", "(II)V"⟩
def wsX12_goShip_r1 : List Cond := [Cond.fieldLink RX12 7 "ColdShipsModel" "row" "[I", Cond.constantLong RX12 177 (100000), Cond.constantLong RX12 122 (1000), Cond.methodLink RX12 132 yX12_shipAt, Cond.static yX12_shipAt, Cond.initialized RX12, Cond.code yX12_shipAt cX12_shipAt 1 (some .int), Cond.methodLink RX12 179 yX12_take, Cond.instanceMethod yX12_take, Cond.selects RX12 yX12_take yX12_take, Cond.code yX12_take cX12_take 8 none, Cond.fieldLink RX12 20 "ColdShipsModel" "moved" "[I", Cond.fieldLink RX12 23 "ColdShipsModel" "rests" "[J", Cond.constantLong RX12 158 (-1), Cond.methodLink RX12 182 yX12_heelOf, Cond.instanceMethod yX12_heelOf, Cond.selects RX12 yX12_heelOf yX12_heelOf, Cond.code yX12_heelOf cX12_heelOf 2 (some .int), Cond.methodLink RX12 185 yX12_burn, Cond.instanceMethod yX12_burn, Cond.selects RX12 yX12_burn yX12_burn, Cond.code yX12_burn cX12_burn 5 none, Cond.methodLink RX12 188 yX12_doOrder, Cond.instanceMethod yX12_doOrder]
def wsX12_goShip_r2 : List Cond := [Cond.selects RX12 yX12_doOrder yX12_doOrder, Cond.code yX12_doOrder cX12_doOrder 7 none, Cond.methodLink RX12 192 yX12_sail, Cond.instanceMethod yX12_sail, Cond.selects RX12 yX12_sail yX12_sail, Cond.code yX12_sail cX12_sail 5 none, Cond.fieldLink RX12 169 "ColdShipsModel" "isTurnTaken" "Z", Cond.methodLink RX12 195 yX12_endOrder, Cond.instanceMethod yX12_endOrder, Cond.selects RX12 yX12_endOrder yX12_endOrder, Cond.code yX12_endOrder cX12_endOrder 3 none, Cond.methodLink RX12 154 yX12_beginOrder, Cond.instanceMethod yX12_beginOrder, Cond.selects RX12 yX12_beginOrder yX12_beginOrder, Cond.code yX12_beginOrder cX12_beginOrder 3 none, Cond.methodLink RX12 217 yX12_wayOf, Cond.instanceMethod yX12_wayOf, Cond.selects RX12 yX12_wayOf yX12_wayOf, Cond.code yX12_wayOf cX12_wayOf 3 (some .int), Cond.methodLink RX12 198 yX12_mayGo, Cond.instanceMethod yX12_mayGo, Cond.selects RX12 yX12_mayGo yX12_mayGo, Cond.code yX12_mayGo cX12_mayGo 8 (some .boolean), Cond.methodLink RX12 99 yX12_in]
def wsX12_goShip_r3 : List Cond := [Cond.static yX12_in, Cond.code yX12_in cX12_in 6 (some .boolean), Cond.methodLink RX12 221 yX12_isBroken, Cond.instanceMethod yX12_isBroken, Cond.selects RX12 yX12_isBroken yX12_isBroken, Cond.code yX12_isBroken cX12_isBroken 6 (some .boolean), Cond.methodLink RX12 115 yX12_terminalAt, Cond.static yX12_terminalAt, Cond.code yX12_terminalAt cX12_terminalAt 1 (some .int), Cond.methodLink RX12 225 yX12_draftOf, Cond.instanceMethod yX12_draftOf, Cond.selects RX12 yX12_draftOf yX12_draftOf, Cond.code yX12_draftOf cX12_draftOf 2 (some .int), Cond.constantLong RX12 162 (8), Cond.methodLink RX12 202 yX12_toLoad, Cond.instanceMethod yX12_toLoad, Cond.selects RX12 yX12_toLoad yX12_toLoad, Cond.code yX12_toLoad cX12_toLoad 4 (some .int), Cond.methodLink RX12 228 yX12_lesser, Cond.static yX12_lesser, Cond.code yX12_lesser cX12_lesser 2 (some .int), Cond.methodLink RX12 231 yX12_topOf, Cond.instanceMethod yX12_topOf, Cond.selects RX12 yX12_topOf yX12_topOf]
def wsX12_goShip_r4 : List Cond := [Cond.code yX12_topOf cX12_topOf 2 (some .int), Cond.constantLong RX12 160 (98), Cond.constantLong RX12 150 (100), Cond.methodLink RX12 205 yX12_toLand, Cond.instanceMethod yX12_toLand, Cond.selects RX12 yX12_toLand yX12_toLand, Cond.code yX12_toLand cX12_toLand 3 (some .int), Cond.methodLink RX12 208 yX12_load, Cond.instanceMethod yX12_load, Cond.selects RX12 yX12_load yX12_load, Cond.code yX12_load cX12_load 3 none, Cond.methodLink RX12 211 yX12_land, Cond.instanceMethod yX12_land, Cond.selects RX12 yX12_land yX12_land, Cond.code yX12_land cX12_land 5 none, Cond.methodLink RX12 214 yX12_endLanding, Cond.instanceMethod yX12_endLanding, Cond.selects RX12 yX12_endLanding yX12_endLanding, Cond.code yX12_endLanding cX12_endLanding 5 none, Cond.methodLink RX12 118 yX12_addFour, Cond.instanceMethod yX12_addFour, Cond.selects RX12 yX12_addFour yX12_addFour, Cond.code yX12_addFour cX12_addFour 6 none, Cond.methodLink RX12 164 yX12_roomOf]
def wsX12_goShip_r5 : List Cond := [Cond.instanceMethod yX12_roomOf, Cond.selects RX12 yX12_roomOf yX12_roomOf, Cond.code yX12_roomOf cX12_roomOf 2 (some .int)]
def wsX12_goShip : List Cond := .code yX12_goShip cX12_goShip 7 none :: ((wsX12_goShip_r1 ++ (wsX12_goShip_r2 ++ (wsX12_goShip_r3 ++ (wsX12_goShip_r4 ++ wsX12_goShip_r5)))) ++ wsX120)
def wsX12_go_r1 : List Cond := [Cond.fieldLink RX12 91 "ColdShipsModel" "thrown" "I", Cond.constantLong RX12 167 (480), Cond.fieldLink RX12 7 "ColdShipsModel" "row" "[I", Cond.fieldLink RX12 169 "ColdShipsModel" "isTurnTaken" "Z", Cond.methodLink RX12 99 yX12_in, Cond.static yX12_in, Cond.initialized RX12, Cond.code yX12_in cX12_in 6 (some .boolean), Cond.methodLink RX12 105 yX12_told, Cond.instanceMethod yX12_told, Cond.selects RX12 yX12_told yX12_told, Cond.code yX12_told cX12_told 2 (some .int), Cond.fieldLink RX12 94 "ColdShipsModel" "status" "I", Cond.methodLink RX12 173 yX12_goShip, Cond.instanceMethod yX12_goShip, Cond.selects RX12 yX12_goShip yX12_goShip, Cond.code yX12_goShip cX12_goShip 7 none, Cond.constantLong RX12 177 (100000), Cond.constantLong RX12 122 (1000), Cond.methodLink RX12 132 yX12_shipAt, Cond.static yX12_shipAt, Cond.code yX12_shipAt cX12_shipAt 1 (some .int), Cond.methodLink RX12 179 yX12_take, Cond.instanceMethod yX12_take]
def wsX12_go_r2 : List Cond := [Cond.selects RX12 yX12_take yX12_take, Cond.code yX12_take cX12_take 8 none, Cond.fieldLink RX12 20 "ColdShipsModel" "moved" "[I", Cond.fieldLink RX12 23 "ColdShipsModel" "rests" "[J", Cond.constantLong RX12 158 (-1), Cond.methodLink RX12 182 yX12_heelOf, Cond.instanceMethod yX12_heelOf, Cond.selects RX12 yX12_heelOf yX12_heelOf, Cond.code yX12_heelOf cX12_heelOf 2 (some .int), Cond.methodLink RX12 185 yX12_burn, Cond.instanceMethod yX12_burn, Cond.selects RX12 yX12_burn yX12_burn, Cond.code yX12_burn cX12_burn 5 none, Cond.methodLink RX12 188 yX12_doOrder, Cond.instanceMethod yX12_doOrder, Cond.selects RX12 yX12_doOrder yX12_doOrder, Cond.code yX12_doOrder cX12_doOrder 7 none, Cond.methodLink RX12 192 yX12_sail, Cond.instanceMethod yX12_sail, Cond.selects RX12 yX12_sail yX12_sail, Cond.code yX12_sail cX12_sail 5 none, Cond.methodLink RX12 195 yX12_endOrder, Cond.instanceMethod yX12_endOrder, Cond.selects RX12 yX12_endOrder yX12_endOrder]
def wsX12_go_r3 : List Cond := [Cond.code yX12_endOrder cX12_endOrder 3 none, Cond.methodLink RX12 154 yX12_beginOrder, Cond.instanceMethod yX12_beginOrder, Cond.selects RX12 yX12_beginOrder yX12_beginOrder, Cond.code yX12_beginOrder cX12_beginOrder 3 none, Cond.methodLink RX12 217 yX12_wayOf, Cond.instanceMethod yX12_wayOf, Cond.selects RX12 yX12_wayOf yX12_wayOf, Cond.code yX12_wayOf cX12_wayOf 3 (some .int), Cond.methodLink RX12 198 yX12_mayGo, Cond.instanceMethod yX12_mayGo, Cond.selects RX12 yX12_mayGo yX12_mayGo, Cond.code yX12_mayGo cX12_mayGo 8 (some .boolean), Cond.methodLink RX12 221 yX12_isBroken, Cond.instanceMethod yX12_isBroken, Cond.selects RX12 yX12_isBroken yX12_isBroken, Cond.code yX12_isBroken cX12_isBroken 6 (some .boolean), Cond.methodLink RX12 115 yX12_terminalAt, Cond.static yX12_terminalAt, Cond.code yX12_terminalAt cX12_terminalAt 1 (some .int), Cond.methodLink RX12 225 yX12_draftOf, Cond.instanceMethod yX12_draftOf, Cond.selects RX12 yX12_draftOf yX12_draftOf, Cond.code yX12_draftOf cX12_draftOf 2 (some .int)]
def wsX12_go_r4 : List Cond := [Cond.constantLong RX12 162 (8), Cond.methodLink RX12 202 yX12_toLoad, Cond.instanceMethod yX12_toLoad, Cond.selects RX12 yX12_toLoad yX12_toLoad, Cond.code yX12_toLoad cX12_toLoad 4 (some .int), Cond.methodLink RX12 228 yX12_lesser, Cond.static yX12_lesser, Cond.code yX12_lesser cX12_lesser 2 (some .int), Cond.methodLink RX12 231 yX12_topOf, Cond.instanceMethod yX12_topOf, Cond.selects RX12 yX12_topOf yX12_topOf, Cond.code yX12_topOf cX12_topOf 2 (some .int), Cond.constantLong RX12 160 (98), Cond.constantLong RX12 150 (100), Cond.methodLink RX12 205 yX12_toLand, Cond.instanceMethod yX12_toLand, Cond.selects RX12 yX12_toLand yX12_toLand, Cond.code yX12_toLand cX12_toLand 3 (some .int), Cond.methodLink RX12 208 yX12_load, Cond.instanceMethod yX12_load, Cond.selects RX12 yX12_load yX12_load, Cond.code yX12_load cX12_load 3 none, Cond.methodLink RX12 211 yX12_land, Cond.instanceMethod yX12_land]
def wsX12_go_r5 : List Cond := [Cond.selects RX12 yX12_land yX12_land, Cond.code yX12_land cX12_land 5 none, Cond.methodLink RX12 214 yX12_endLanding, Cond.instanceMethod yX12_endLanding, Cond.selects RX12 yX12_endLanding yX12_endLanding, Cond.code yX12_endLanding cX12_endLanding 5 none, Cond.methodLink RX12 118 yX12_addFour, Cond.instanceMethod yX12_addFour, Cond.selects RX12 yX12_addFour yX12_addFour, Cond.code yX12_addFour cX12_addFour 6 none, Cond.methodLink RX12 164 yX12_roomOf, Cond.instanceMethod yX12_roomOf, Cond.selects RX12 yX12_roomOf yX12_roomOf, Cond.code yX12_roomOf cX12_roomOf 2 (some .int)]
def wsX12_go : List Cond := .code yX12_go cX12_go 4 (some .int) :: ((wsX12_go_r1 ++ (wsX12_go_r2 ++ (wsX12_go_r3 ++ (wsX12_go_r4 ++ wsX12_go_r5)))) ++ wsX120)
set_option maxRecDepth 20000 in
theorem ggX12_go_X12_in : GoodIn wsX12_go wsX12_in := goodIn_r _ [8] (by decide +kernel) (by decide +kernel)
set_option maxRecDepth 20000 in
theorem gX12_go_X12_in : GoodIn wsX12_go (va_wsS RX12 99 yX12_in wsX12_in) := goodIn_app (goodIn_of _ (by decide +kernel)) ggX12_go_X12_in
set_option maxRecDepth 20000 in
theorem ggX12_go_X12_told : GoodIn wsX12_go wsX12_told := goodIn_r _ [12, 13, 111, 112, 113, 114, 115, 116, 117, 118, 119, 120, 121, 122, 123, 124, 125, 126, 127, 128, 129, 130, 131, 132, 133, 134, 135, 136, 137, 138, 139, 140, 141, 142, 143, 144, 145, 146, 147, 148, 149, 150, 151, 152, 153, 154, 155, 156, 157, 158, 159, 160, 161, 162, 163] (by decide +kernel) (by decide +kernel)
set_option maxRecDepth 20000 in
theorem gX12_go_X12_told : GoodIn wsX12_go (wsV RX12 105 RX12 yX12_told wsX12_told) := goodIn_app (goodIn_of _ (by decide +kernel)) ggX12_go_X12_told
set_option maxRecDepth 20000 in
theorem ggX12_go_X12_goShip : GoodIn wsX12_go wsX12_goShip := goodIn_r _ [17, 3, 18, 19, 20, 21, 7, 22, 23, 24, 25, 26, 27, 28, 29, 30, 31, 32, 33, 34, 35, 36, 37, 38, 39, 40, 41, 42, 43, 44, 45, 4, 46, 47, 48, 49, 50, 51, 52, 53, 54, 55, 56, 57, 58, 59, 60, 61, 5, 6, 8, 62, 63, 64, 65, 66, 67, 68, 69, 70, 71, 72, 73, 74, 75, 76, 77, 78, 79, 80, 81, 82, 83, 84, 85, 86, 87, 88, 89, 90, 91, 92, 93, 94, 95, 96, 97, 98, 99, 100, 101, 102, 103, 104, 105, 106, 107, 108, 109, 110, 111, 112, 113, 114, 115, 116, 117, 118, 119, 120, 121, 122, 123, 124, 125, 126, 127, 128, 129, 130, 131, 132, 133, 134, 135, 136, 137, 138, 139, 140, 141, 142, 143, 144, 145, 146, 147, 148, 149, 150, 151, 152, 153, 154, 155, 156, 157, 158, 159, 160, 161, 162, 163] (by decide +kernel) (by decide +kernel)
set_option maxRecDepth 20000 in
theorem gX12_go_X12_goShip : GoodIn wsX12_go (wsV RX12 173 RX12 yX12_goShip wsX12_goShip) := goodIn_app (goodIn_of _ (by decide +kernel)) ggX12_go_X12_goShip
theorem dX12_go_0 : decode cX12_go 0 = .ok (.aload_n 0, 1) := by decide +kernel
theorem dX12_go_1 : decode cX12_go 1 = .ok (.iconst 0, 1) := by decide +kernel
theorem dX12_go_2 : decode cX12_go 2 = .ok (.putfield 91, 3) := by decide +kernel
theorem dX12_go_5 : decode cX12_go 5 = .ok (.iload_n 1, 1) := by decide +kernel
theorem dX12_go_6 : decode cX12_go 6 = .ok (.i2l, 1) := by decide +kernel
theorem dX12_go_7 : decode cX12_go 7 = .ok (.lconst 1, 1) := by decide +kernel
theorem dX12_go_8 : decode cX12_go 8 = .ok (.ldc2_w 167, 3) := by decide +kernel
theorem dX12_go_11 : decode cX12_go 11 = .ok (.invokestatic 99, 3) := by decide +kernel
theorem dX12_go_14 : decode cX12_go 14 = .ok (.ifCond .eq 18, 3) := by decide +kernel
theorem dX12_go_17 : decode cX12_go 17 = .ok (.aload_n 0, 1) := by decide +kernel
theorem dX12_go_18 : decode cX12_go 18 = .ok (.getfield 7, 3) := by decide +kernel
theorem dX12_go_21 : decode cX12_go 21 = .ok (.bipush 11, 2) := by decide +kernel
theorem dX12_go_23 : decode cX12_go 23 = .ok (.iaload, 1) := by decide +kernel
theorem dX12_go_24 : decode cX12_go 24 = .ok (.iload_n 1, 1) := by decide +kernel
theorem dX12_go_25 : decode cX12_go 25 = .ok (.iadd, 1) := by decide +kernel
theorem dX12_go_26 : decode cX12_go 26 = .ok (.sipush 2399, 3) := by decide +kernel
theorem dX12_go_29 : decode cX12_go 29 = .ok (.if_icmp .le 9, 3) := by decide +kernel
theorem dX12_go_32 : decode cX12_go 32 = .ok (.aload_n 0, 1) := by decide +kernel
theorem dX12_go_33 : decode cX12_go 33 = .ok (.iconst (-1), 1) := by decide +kernel
theorem dX12_go_34 : decode cX12_go 34 = .ok (.invokevirtual 105, 3) := by decide +kernel
theorem dX12_go_37 : decode cX12_go 37 = .ok (.ireturn, 1) := by decide +kernel
theorem dX12_go_38 : decode cX12_go 38 = .ok (.iconst 0, 1) := by decide +kernel
theorem dX12_go_39 : decode cX12_go 39 = .ok (.istore_n 2, 1) := by decide +kernel
theorem dX12_go_40 : decode cX12_go 40 = .ok (.iload_n 2, 1) := by decide +kernel
theorem dX12_go_41 : decode cX12_go 41 = .ok (.iload_n 1, 1) := by decide +kernel
theorem dX12_go_42 : decode cX12_go 42 = .ok (.if_icmp .ge 55, 3) := by decide +kernel
theorem dX12_go_45 : decode cX12_go 45 = .ok (.aload_n 0, 1) := by decide +kernel
theorem dX12_go_46 : decode cX12_go 46 = .ok (.iconst 0, 1) := by decide +kernel
theorem dX12_go_47 : decode cX12_go 47 = .ok (.putfield 169, 3) := by decide +kernel
theorem dX12_go_50 : decode cX12_go 50 = .ok (.iconst 0, 1) := by decide +kernel
theorem dX12_go_51 : decode cX12_go 51 = .ok (.istore_n 3, 1) := by decide +kernel
theorem dX12_go_52 : decode cX12_go 52 = .ok (.iload_n 3, 1) := by decide +kernel
theorem dX12_go_53 : decode cX12_go 53 = .ok (.aload_n 0, 1) := by decide +kernel
theorem dX12_go_54 : decode cX12_go 54 = .ok (.getfield 7, 3) := by decide +kernel
theorem dX12_go_57 : decode cX12_go 57 = .ok (.iconst 1, 1) := by decide +kernel
theorem dX12_go_58 : decode cX12_go 58 = .ok (.iaload, 1) := by decide +kernel
theorem dX12_go_59 : decode cX12_go 59 = .ok (.if_icmp .ge 21, 3) := by decide +kernel
theorem dX12_go_62 : decode cX12_go 62 = .ok (.aload_n 0, 1) := by decide +kernel
theorem dX12_go_63 : decode cX12_go 63 = .ok (.iload_n 3, 1) := by decide +kernel
theorem dX12_go_64 : decode cX12_go 64 = .ok (.aload_n 0, 1) := by decide +kernel
theorem dX12_go_65 : decode cX12_go 65 = .ok (.getfield 7, 3) := by decide +kernel
theorem dX12_go_68 : decode cX12_go 68 = .ok (.bipush 11, 2) := by decide +kernel
theorem dX12_go_70 : decode cX12_go 70 = .ok (.iaload, 1) := by decide +kernel
theorem dX12_go_71 : decode cX12_go 71 = .ok (.invokevirtual 173, 3) := by decide +kernel
theorem dX12_go_74 : decode cX12_go 74 = .ok (.iinc 3 1, 3) := by decide +kernel
theorem dX12_go_77 : decode cX12_go 77 = .ok (.goto (-25), 3) := by decide +kernel
theorem dX12_go_80 : decode cX12_go 80 = .ok (.aload_n 0, 1) := by decide +kernel
theorem dX12_go_81 : decode cX12_go 81 = .ok (.getfield 7, 3) := by decide +kernel
theorem dX12_go_84 : decode cX12_go 84 = .ok (.bipush 11, 2) := by decide +kernel
theorem dX12_go_86 : decode cX12_go 86 = .ok (.dup2, 1) := by decide +kernel
theorem dX12_go_87 : decode cX12_go 87 = .ok (.iaload, 1) := by decide +kernel
theorem dX12_go_88 : decode cX12_go 88 = .ok (.iconst 1, 1) := by decide +kernel
theorem dX12_go_89 : decode cX12_go 89 = .ok (.iadd, 1) := by decide +kernel
theorem dX12_go_90 : decode cX12_go 90 = .ok (.iastore, 1) := by decide +kernel
theorem dX12_go_91 : decode cX12_go 91 = .ok (.iinc 2 1, 3) := by decide +kernel
theorem dX12_go_94 : decode cX12_go 94 = .ok (.goto (-54), 3) := by decide +kernel
theorem dX12_go_97 : decode cX12_go 97 = .ok (.aload_n 0, 1) := by decide +kernel
theorem dX12_go_98 : decode cX12_go 98 = .ok (.aload_n 0, 1) := by decide +kernel
theorem dX12_go_99 : decode cX12_go 99 = .ok (.getfield 7, 3) := by decide +kernel
theorem dX12_go_102 : decode cX12_go 102 = .ok (.bipush 11, 2) := by decide +kernel
theorem dX12_go_104 : decode cX12_go 104 = .ok (.iaload, 1) := by decide +kernel
theorem dX12_go_105 : decode cX12_go 105 = .ok (.invokevirtual 105, 3) := by decide +kernel
theorem dX12_go_108 : decode cX12_go 108 = .ok (.ireturn, 1) := by decide +kernel
set_option maxRecDepth 20000 in
theorem ggX12_goShip_X12_shipAt : GoodIn wsX12_goShip wsX12_shipAt := goodIn_r _ [7] (by decide +kernel) (by decide +kernel)
set_option maxRecDepth 20000 in
theorem gX12_goShip_X12_shipAt : GoodIn wsX12_goShip (va_wsS RX12 132 yX12_shipAt wsX12_shipAt) := goodIn_app (goodIn_of _ (by decide +kernel)) ggX12_goShip_X12_shipAt
set_option maxRecDepth 20000 in
theorem ggX12_goShip_X12_take : GoodIn wsX12_goShip wsX12_take := goodIn_r _ [11, 1, 12, 13, 14, 100, 101, 102, 103, 104, 105, 106, 107, 108, 109, 110, 111, 112, 113, 114, 115, 116, 117, 118, 119, 120, 121, 122, 123, 124, 125, 126, 127, 128, 129, 130, 131, 132, 133, 134, 135, 136, 137, 138, 139, 140, 141, 142, 143, 144, 145, 146, 147, 148, 149, 150, 151, 152] (by decide +kernel) (by decide +kernel)
set_option maxRecDepth 20000 in
theorem gX12_goShip_X12_take : GoodIn wsX12_goShip (wsV RX12 179 RX12 yX12_take wsX12_take) := goodIn_app (goodIn_of _ (by decide +kernel)) ggX12_goShip_X12_take
set_option maxRecDepth 20000 in
theorem ggX12_goShip_X12_heelOf : GoodIn wsX12_goShip wsX12_heelOf := goodIn_r _ [18, 1, 100, 101, 102, 103, 104, 105, 106, 107, 108, 109, 110, 111, 112, 113, 114, 115, 116, 117, 118, 119, 120, 121, 122, 123, 124, 125, 126, 127, 128, 129, 130, 131, 132, 133, 134, 135, 136, 137, 138, 139, 140, 141, 142, 143, 144, 145, 146, 147, 148, 149, 150, 151, 152] (by decide +kernel) (by decide +kernel)
set_option maxRecDepth 20000 in
theorem gX12_goShip_X12_heelOf : GoodIn wsX12_goShip (wsV RX12 182 RX12 yX12_heelOf wsX12_heelOf) := goodIn_app (goodIn_of _ (by decide +kernel)) ggX12_goShip_X12_heelOf
set_option maxRecDepth 20000 in
theorem ggX12_goShip_X12_burn : GoodIn wsX12_goShip wsX12_burn := goodIn_r _ [22, 1, 8, 9, 10, 6, 11, 12, 13, 14, 100, 101, 102, 103, 104, 105, 106, 107, 108, 109, 110, 111, 112, 113, 114, 115, 116, 117, 118, 119, 120, 121, 122, 123, 124, 125, 126, 127, 128, 129, 130, 131, 132, 133, 134, 135, 136, 137, 138, 139, 140, 141, 142, 143, 144, 145, 146, 147, 148, 149, 150, 151, 152] (by decide +kernel) (by decide +kernel)
set_option maxRecDepth 20000 in
theorem gX12_goShip_X12_burn : GoodIn wsX12_goShip (wsV RX12 185 RX12 yX12_burn wsX12_burn) := goodIn_app (goodIn_of _ (by decide +kernel)) ggX12_goShip_X12_burn
set_option maxRecDepth 20000 in
theorem ggX12_goShip_X12_doOrder : GoodIn wsX12_goShip wsX12_doOrder := goodIn_r _ [26, 1, 27, 28, 29, 6, 30, 31, 32, 33, 34, 35, 36, 37, 38, 39, 40, 41, 42, 43, 44, 45, 46, 47, 48, 49, 50, 51, 52, 53, 54, 55, 56, 57, 58, 59, 60, 61, 62, 63, 64, 65, 66, 67, 68, 69, 70, 71, 72, 73, 74, 75, 76, 77, 78, 79, 15, 16, 17, 18, 80, 81, 82, 83, 84, 85, 86, 87, 12, 8, 9, 10, 11, 13, 14, 88, 89, 90, 91, 92, 93, 94, 95, 100, 101, 102, 103, 104, 105, 106, 107, 108, 109, 110, 111, 112, 113, 114, 115, 116, 117, 118, 119, 120, 121, 122, 123, 124, 125, 126, 127, 128, 129, 130, 131, 132, 133, 134, 135, 136, 137, 138, 139, 140, 141, 142, 143, 144, 145, 146, 147, 148, 149, 150, 151, 152] (by decide +kernel) (by decide +kernel)
set_option maxRecDepth 20000 in
theorem gX12_goShip_X12_doOrder : GoodIn wsX12_goShip (wsV RX12 188 RX12 yX12_doOrder wsX12_doOrder) := goodIn_app (goodIn_of _ (by decide +kernel)) ggX12_goShip_X12_doOrder
set_option maxRecDepth 20000 in
theorem ggX12_goShip_X12_roomOf : GoodIn wsX12_goShip wsX12_roomOf := goodIn_r _ [99, 1, 100, 101, 102, 103, 104, 105, 106, 107, 108, 109, 110, 111, 112, 113, 114, 115, 116, 117, 118, 119, 120, 121, 122, 123, 124, 125, 126, 127, 128, 129, 130, 131, 132, 133, 134, 135, 136, 137, 138, 139, 140, 141, 142, 143, 144, 145, 146, 147, 148, 149, 150, 151, 152] (by decide +kernel) (by decide +kernel)
set_option maxRecDepth 20000 in
theorem gX12_goShip_X12_roomOf : GoodIn wsX12_goShip (wsV RX12 164 RX12 yX12_roomOf wsX12_roomOf) := goodIn_app (goodIn_of _ (by decide +kernel)) ggX12_goShip_X12_roomOf
theorem dX12_goShip_0 : decode cX12_goShip 0 = .ok (.iload_n 1, 1) := by decide +kernel
theorem dX12_goShip_1 : decode cX12_goShip 1 = .ok (.invokestatic 132, 3) := by decide +kernel
theorem dX12_goShip_4 : decode cX12_goShip 4 = .ok (.istore_n 3, 1) := by decide +kernel
theorem dX12_goShip_5 : decode cX12_goShip 5 = .ok (.aload_n 0, 1) := by decide +kernel
theorem dX12_goShip_6 : decode cX12_goShip 6 = .ok (.getfield 7, 3) := by decide +kernel
theorem dX12_goShip_9 : decode cX12_goShip 9 = .ok (.iload_n 3, 1) := by decide +kernel
theorem dX12_goShip_10 : decode cX12_goShip 10 = .ok (.iconst 4, 1) := by decide +kernel
theorem dX12_goShip_11 : decode cX12_goShip 11 = .ok (.iadd, 1) := by decide +kernel
theorem dX12_goShip_12 : decode cX12_goShip 12 = .ok (.iaload, 1) := by decide +kernel
theorem dX12_goShip_13 : decode cX12_goShip 13 = .ok (.i2l, 1) := by decide +kernel
theorem dX12_goShip_14 : decode cX12_goShip 14 = .ok (.aload_n 0, 1) := by decide +kernel
theorem dX12_goShip_15 : decode cX12_goShip 15 = .ok (.getfield 7, 3) := by decide +kernel
theorem dX12_goShip_18 : decode cX12_goShip 18 = .ok (.bipush 12, 2) := by decide +kernel
theorem dX12_goShip_20 : decode cX12_goShip 20 = .ok (.iaload, 1) := by decide +kernel
theorem dX12_goShip_21 : decode cX12_goShip 21 = .ok (.aload_n 0, 1) := by decide +kernel
theorem dX12_goShip_22 : decode cX12_goShip 22 = .ok (.getfield 7, 3) := by decide +kernel
theorem dX12_goShip_25 : decode cX12_goShip 25 = .ok (.sipush 147, 3) := by decide +kernel
theorem dX12_goShip_28 : decode cX12_goShip 28 = .ok (.iload_n 2, 1) := by decide +kernel
theorem dX12_goShip_29 : decode cX12_goShip 29 = .ok (.bipush 24, 2) := by decide +kernel
theorem dX12_goShip_31 : decode cX12_goShip 31 = .ok (.idiv, 1) := by decide +kernel
theorem dX12_goShip_32 : decode cX12_goShip 32 = .ok (.iadd, 1) := by decide +kernel
theorem dX12_goShip_33 : decode cX12_goShip 33 = .ok (.iaload, 1) := by decide +kernel
theorem dX12_goShip_34 : decode cX12_goShip 34 = .ok (.iadd, 1) := by decide +kernel
theorem dX12_goShip_35 : decode cX12_goShip 35 = .ok (.i2l, 1) := by decide +kernel
theorem dX12_goShip_36 : decode cX12_goShip 36 = .ok (.lmul, 1) := by decide +kernel
theorem dX12_goShip_37 : decode cX12_goShip 37 = .ok (.ldc2_w 177, 3) := by decide +kernel
theorem dX12_goShip_40 : decode cX12_goShip 40 = .ok (.ldiv, 1) := by decide +kernel
theorem dX12_goShip_41 : decode cX12_goShip 41 = .ok (.l2i, 1) := by decide +kernel
theorem dX12_goShip_42 : decode cX12_goShip 42 = .ok (.istore 4, 2) := by decide +kernel
theorem dX12_goShip_44 : decode cX12_goShip 44 = .ok (.aload_n 0, 1) := by decide +kernel
theorem dX12_goShip_45 : decode cX12_goShip 45 = .ok (.iload_n 3, 1) := by decide +kernel
theorem dX12_goShip_46 : decode cX12_goShip 46 = .ok (.iload 4, 2) := by decide +kernel
theorem dX12_goShip_48 : decode cX12_goShip 48 = .ok (.invokevirtual 179, 3) := by decide +kernel
theorem dX12_goShip_51 : decode cX12_goShip 51 = .ok (.aload_n 0, 1) := by decide +kernel
theorem dX12_goShip_52 : decode cX12_goShip 52 = .ok (.getfield 7, 3) := by decide +kernel
theorem dX12_goShip_55 : decode cX12_goShip 55 = .ok (.iload_n 3, 1) := by decide +kernel
theorem dX12_goShip_56 : decode cX12_goShip 56 = .ok (.iconst 5, 1) := by decide +kernel
theorem dX12_goShip_57 : decode cX12_goShip 57 = .ok (.iadd, 1) := by decide +kernel
theorem dX12_goShip_58 : decode cX12_goShip 58 = .ok (.dup2, 1) := by decide +kernel
theorem dX12_goShip_59 : decode cX12_goShip 59 = .ok (.iaload, 1) := by decide +kernel
theorem dX12_goShip_60 : decode cX12_goShip 60 = .ok (.iload 4, 2) := by decide +kernel
theorem dX12_goShip_62 : decode cX12_goShip 62 = .ok (.iadd, 1) := by decide +kernel
theorem dX12_goShip_63 : decode cX12_goShip 63 = .ok (.iastore, 1) := by decide +kernel
theorem dX12_goShip_64 : decode cX12_goShip 64 = .ok (.aload_n 0, 1) := by decide +kernel
theorem dX12_goShip_65 : decode cX12_goShip 65 = .ok (.getfield 7, 3) := by decide +kernel
theorem dX12_goShip_68 : decode cX12_goShip 68 = .ok (.iload_n 3, 1) := by decide +kernel
theorem dX12_goShip_69 : decode cX12_goShip 69 = .ok (.iconst 4, 1) := by decide +kernel
theorem dX12_goShip_70 : decode cX12_goShip 70 = .ok (.iadd, 1) := by decide +kernel
theorem dX12_goShip_71 : decode cX12_goShip 71 = .ok (.iaload, 1) := by decide +kernel
theorem dX12_goShip_72 : decode cX12_goShip 72 = .ok (.aload_n 0, 1) := by decide +kernel
theorem dX12_goShip_73 : decode cX12_goShip 73 = .ok (.iload_n 3, 1) := by decide +kernel
theorem dX12_goShip_74 : decode cX12_goShip 74 = .ok (.invokevirtual 182, 3) := by decide +kernel
theorem dX12_goShip_77 : decode cX12_goShip 77 = .ok (.if_icmp .ge 49, 3) := by decide +kernel
theorem dX12_goShip_80 : decode cX12_goShip 80 = .ok (.aload_n 0, 1) := by decide +kernel
theorem dX12_goShip_81 : decode cX12_goShip 81 = .ok (.getfield 7, 3) := by decide +kernel
theorem dX12_goShip_84 : decode cX12_goShip 84 = .ok (.iload_n 3, 1) := by decide +kernel
theorem dX12_goShip_85 : decode cX12_goShip 85 = .ok (.bipush 6, 2) := by decide +kernel
theorem dX12_goShip_87 : decode cX12_goShip 87 = .ok (.iadd, 1) := by decide +kernel
theorem dX12_goShip_88 : decode cX12_goShip 88 = .ok (.aload_n 0, 1) := by decide +kernel
theorem dX12_goShip_89 : decode cX12_goShip 89 = .ok (.getfield 7, 3) := by decide +kernel
theorem dX12_goShip_92 : decode cX12_goShip 92 = .ok (.iload_n 3, 1) := by decide +kernel
theorem dX12_goShip_93 : decode cX12_goShip 93 = .ok (.bipush 6, 2) := by decide +kernel
theorem dX12_goShip_95 : decode cX12_goShip 95 = .ok (.iadd, 1) := by decide +kernel
theorem dX12_goShip_96 : decode cX12_goShip 96 = .ok (.iaload, 1) := by decide +kernel
theorem dX12_goShip_97 : decode cX12_goShip 97 = .ok (.iconst 5, 1) := by decide +kernel
theorem dX12_goShip_98 : decode cX12_goShip 98 = .ok (.iadd, 1) := by decide +kernel
theorem dX12_goShip_99 : decode cX12_goShip 99 = .ok (.sipush 1800, 3) := by decide +kernel
theorem dX12_goShip_102 : decode cX12_goShip 102 = .ok (.if_icmp .le 9, 3) := by decide +kernel
theorem dX12_goShip_105 : decode cX12_goShip 105 = .ok (.sipush 1800, 3) := by decide +kernel
theorem dX12_goShip_108 : decode cX12_goShip 108 = .ok (.goto 14, 3) := by decide +kernel
theorem dX12_goShip_111 : decode cX12_goShip 111 = .ok (.aload_n 0, 1) := by decide +kernel
theorem dX12_goShip_112 : decode cX12_goShip 112 = .ok (.getfield 7, 3) := by decide +kernel
theorem dX12_goShip_115 : decode cX12_goShip 115 = .ok (.iload_n 3, 1) := by decide +kernel
theorem dX12_goShip_116 : decode cX12_goShip 116 = .ok (.bipush 6, 2) := by decide +kernel
theorem dX12_goShip_118 : decode cX12_goShip 118 = .ok (.iadd, 1) := by decide +kernel
theorem dX12_goShip_119 : decode cX12_goShip 119 = .ok (.iaload, 1) := by decide +kernel
theorem dX12_goShip_120 : decode cX12_goShip 120 = .ok (.iconst 5, 1) := by decide +kernel
theorem dX12_goShip_121 : decode cX12_goShip 121 = .ok (.iadd, 1) := by decide +kernel
theorem dX12_goShip_122 : decode cX12_goShip 122 = .ok (.iastore, 1) := by decide +kernel
theorem dX12_goShip_123 : decode cX12_goShip 123 = .ok (.goto 128, 3) := by decide +kernel
theorem dX12_goShip_126 : decode cX12_goShip 126 = .ok (.aload_n 0, 1) := by decide +kernel
theorem dX12_goShip_127 : decode cX12_goShip 127 = .ok (.getfield 7, 3) := by decide +kernel
theorem dX12_goShip_130 : decode cX12_goShip 130 = .ok (.iload_n 3, 1) := by decide +kernel
theorem dX12_goShip_131 : decode cX12_goShip 131 = .ok (.bipush 6, 2) := by decide +kernel
theorem dX12_goShip_133 : decode cX12_goShip 133 = .ok (.iadd, 1) := by decide +kernel
theorem dX12_goShip_134 : decode cX12_goShip 134 = .ok (.iaload, 1) := by decide +kernel
theorem dX12_goShip_135 : decode cX12_goShip 135 = .ok (.ifCond .le 116, 3) := by decide +kernel
theorem dX12_goShip_138 : decode cX12_goShip 138 = .ok (.aload_n 0, 1) := by decide +kernel
theorem dX12_goShip_139 : decode cX12_goShip 139 = .ok (.getfield 7, 3) := by decide +kernel
theorem dX12_goShip_142 : decode cX12_goShip 142 = .ok (.iload_n 3, 1) := by decide +kernel
theorem dX12_goShip_143 : decode cX12_goShip 143 = .ok (.bipush 6, 2) := by decide +kernel
theorem dX12_goShip_145 : decode cX12_goShip 145 = .ok (.iadd, 1) := by decide +kernel
theorem dX12_goShip_146 : decode cX12_goShip 146 = .ok (.iaload, 1) := by decide +kernel
theorem dX12_goShip_147 : decode cX12_goShip 147 = .ok (.bipush 20, 2) := by decide +kernel
theorem dX12_goShip_149 : decode cX12_goShip 149 = .ok (.if_icmp .ge 15, 3) := by decide +kernel
theorem dX12_goShip_152 : decode cX12_goShip 152 = .ok (.aload_n 0, 1) := by decide +kernel
theorem dX12_goShip_153 : decode cX12_goShip 153 = .ok (.getfield 7, 3) := by decide +kernel
theorem dX12_goShip_156 : decode cX12_goShip 156 = .ok (.iload_n 3, 1) := by decide +kernel
theorem dX12_goShip_157 : decode cX12_goShip 157 = .ok (.bipush 6, 2) := by decide +kernel
theorem dX12_goShip_159 : decode cX12_goShip 159 = .ok (.iadd, 1) := by decide +kernel
theorem dX12_goShip_160 : decode cX12_goShip 160 = .ok (.iaload, 1) := by decide +kernel
theorem dX12_goShip_161 : decode cX12_goShip 161 = .ok (.goto 5, 3) := by decide +kernel
theorem dX12_goShip_164 : decode cX12_goShip 164 = .ok (.bipush 20, 2) := by decide +kernel
theorem dX12_goShip_166 : decode cX12_goShip 166 = .ok (.istore 5, 2) := by decide +kernel
theorem dX12_goShip_168 : decode cX12_goShip 168 = .ok (.aload_n 0, 1) := by decide +kernel
theorem dX12_goShip_169 : decode cX12_goShip 169 = .ok (.getfield 7, 3) := by decide +kernel
theorem dX12_goShip_172 : decode cX12_goShip 172 = .ok (.iload_n 3, 1) := by decide +kernel
theorem dX12_goShip_173 : decode cX12_goShip 173 = .ok (.bipush 6, 2) := by decide +kernel
theorem dX12_goShip_175 : decode cX12_goShip 175 = .ok (.iadd, 1) := by decide +kernel
theorem dX12_goShip_176 : decode cX12_goShip 176 = .ok (.dup2, 1) := by decide +kernel
theorem dX12_goShip_177 : decode cX12_goShip 177 = .ok (.iaload, 1) := by decide +kernel
theorem dX12_goShip_178 : decode cX12_goShip 178 = .ok (.iload 5, 2) := by decide +kernel
theorem dX12_goShip_180 : decode cX12_goShip 180 = .ok (.isub, 1) := by decide +kernel
theorem dX12_goShip_181 : decode cX12_goShip 181 = .ok (.iastore, 1) := by decide +kernel
theorem dX12_goShip_182 : decode cX12_goShip 182 = .ok (.iload 5, 2) := by decide +kernel
theorem dX12_goShip_184 : decode cX12_goShip 184 = .ok (.i2l, 1) := by decide +kernel
theorem dX12_goShip_185 : decode cX12_goShip 185 = .ok (.aload_n 0, 1) := by decide +kernel
theorem dX12_goShip_186 : decode cX12_goShip 186 = .ok (.getfield 7, 3) := by decide +kernel
theorem dX12_goShip_189 : decode cX12_goShip 189 = .ok (.iload_n 3, 1) := by decide +kernel
theorem dX12_goShip_190 : decode cX12_goShip 190 = .ok (.bipush 7, 2) := by decide +kernel
theorem dX12_goShip_192 : decode cX12_goShip 192 = .ok (.iadd, 1) := by decide +kernel
theorem dX12_goShip_193 : decode cX12_goShip 193 = .ok (.iaload, 1) := by decide +kernel
theorem dX12_goShip_194 : decode cX12_goShip 194 = .ok (.i2l, 1) := by decide +kernel
theorem dX12_goShip_195 : decode cX12_goShip 195 = .ok (.lmul, 1) := by decide +kernel
theorem dX12_goShip_196 : decode cX12_goShip 196 = .ok (.ldc2_w 177, 3) := by decide +kernel
theorem dX12_goShip_199 : decode cX12_goShip 199 = .ok (.ldiv, 1) := by decide +kernel
theorem dX12_goShip_200 : decode cX12_goShip 200 = .ok (.l2i, 1) := by decide +kernel
theorem dX12_goShip_201 : decode cX12_goShip 201 = .ok (.istore 6, 2) := by decide +kernel
theorem dX12_goShip_203 : decode cX12_goShip 203 = .ok (.iload 6, 2) := by decide +kernel
theorem dX12_goShip_205 : decode cX12_goShip 205 = .ok (.aload_n 0, 1) := by decide +kernel
theorem dX12_goShip_206 : decode cX12_goShip 206 = .ok (.getfield 7, 3) := by decide +kernel
theorem dX12_goShip_209 : decode cX12_goShip 209 = .ok (.iload_n 3, 1) := by decide +kernel
theorem dX12_goShip_210 : decode cX12_goShip 210 = .ok (.iconst 4, 1) := by decide +kernel
theorem dX12_goShip_211 : decode cX12_goShip 211 = .ok (.iadd, 1) := by decide +kernel
theorem dX12_goShip_212 : decode cX12_goShip 212 = .ok (.iaload, 1) := by decide +kernel
theorem dX12_goShip_213 : decode cX12_goShip 213 = .ok (.if_icmp .le 14, 3) := by decide +kernel
theorem dX12_goShip_216 : decode cX12_goShip 216 = .ok (.aload_n 0, 1) := by decide +kernel
theorem dX12_goShip_217 : decode cX12_goShip 217 = .ok (.getfield 7, 3) := by decide +kernel
theorem dX12_goShip_220 : decode cX12_goShip 220 = .ok (.iload_n 3, 1) := by decide +kernel
theorem dX12_goShip_221 : decode cX12_goShip 221 = .ok (.iconst 4, 1) := by decide +kernel
theorem dX12_goShip_222 : decode cX12_goShip 222 = .ok (.iadd, 1) := by decide +kernel
theorem dX12_goShip_223 : decode cX12_goShip 223 = .ok (.iaload, 1) := by decide +kernel
theorem dX12_goShip_224 : decode cX12_goShip 224 = .ok (.goto 5, 3) := by decide +kernel
theorem dX12_goShip_227 : decode cX12_goShip 227 = .ok (.iload 6, 2) := by decide +kernel
theorem dX12_goShip_229 : decode cX12_goShip 229 = .ok (.istore 6, 2) := by decide +kernel
theorem dX12_goShip_231 : decode cX12_goShip 231 = .ok (.aload_n 0, 1) := by decide +kernel
theorem dX12_goShip_232 : decode cX12_goShip 232 = .ok (.iload_n 3, 1) := by decide +kernel
theorem dX12_goShip_233 : decode cX12_goShip 233 = .ok (.iload 6, 2) := by decide +kernel
theorem dX12_goShip_235 : decode cX12_goShip 235 = .ok (.invokevirtual 179, 3) := by decide +kernel
theorem dX12_goShip_238 : decode cX12_goShip 238 = .ok (.aload_n 0, 1) := by decide +kernel
theorem dX12_goShip_239 : decode cX12_goShip 239 = .ok (.getfield 7, 3) := by decide +kernel
theorem dX12_goShip_242 : decode cX12_goShip 242 = .ok (.iload_n 3, 1) := by decide +kernel
theorem dX12_goShip_243 : decode cX12_goShip 243 = .ok (.iconst 5, 1) := by decide +kernel
theorem dX12_goShip_244 : decode cX12_goShip 244 = .ok (.iadd, 1) := by decide +kernel
theorem dX12_goShip_245 : decode cX12_goShip 245 = .ok (.dup2, 1) := by decide +kernel
theorem dX12_goShip_246 : decode cX12_goShip 246 = .ok (.iaload, 1) := by decide +kernel
theorem dX12_goShip_247 : decode cX12_goShip 247 = .ok (.iload 6, 2) := by decide +kernel
theorem dX12_goShip_249 : decode cX12_goShip 249 = .ok (.iadd, 1) := by decide +kernel
theorem dX12_goShip_250 : decode cX12_goShip 250 = .ok (.iastore, 1) := by decide +kernel
theorem dX12_goShip_251 : decode cX12_goShip 251 = .ok (.aload_n 0, 1) := by decide +kernel
theorem dX12_goShip_252 : decode cX12_goShip 252 = .ok (.iload_n 3, 1) := by decide +kernel
theorem dX12_goShip_253 : decode cX12_goShip 253 = .ok (.invokevirtual 185, 3) := by decide +kernel
theorem dX12_goShip_256 : decode cX12_goShip 256 = .ok (.aload_n 0, 1) := by decide +kernel
theorem dX12_goShip_257 : decode cX12_goShip 257 = .ok (.getfield 7, 3) := by decide +kernel
theorem dX12_goShip_260 : decode cX12_goShip 260 = .ok (.iload_n 3, 1) := by decide +kernel
theorem dX12_goShip_261 : decode cX12_goShip 261 = .ok (.bipush 10, 2) := by decide +kernel
theorem dX12_goShip_263 : decode cX12_goShip 263 = .ok (.iadd, 1) := by decide +kernel
theorem dX12_goShip_264 : decode cX12_goShip 264 = .ok (.iaload, 1) := by decide +kernel
theorem dX12_goShip_265 : decode cX12_goShip 265 = .ok (.ifCond .le 10, 3) := by decide +kernel
theorem dX12_goShip_268 : decode cX12_goShip 268 = .ok (.aload_n 0, 1) := by decide +kernel
theorem dX12_goShip_269 : decode cX12_goShip 269 = .ok (.iload_n 1, 1) := by decide +kernel
theorem dX12_goShip_270 : decode cX12_goShip 270 = .ok (.iload_n 3, 1) := by decide +kernel
theorem dX12_goShip_271 : decode cX12_goShip 271 = .ok (.iload_n 2, 1) := by decide +kernel
theorem dX12_goShip_272 : decode cX12_goShip 272 = .ok (.invokevirtual 188, 3) := by decide +kernel
theorem dX12_goShip_275 : decode cX12_goShip 275 = .ok (.aload_n 0, 1) := by decide +kernel
theorem dX12_goShip_276 : decode cX12_goShip 276 = .ok (.getfield 7, 3) := by decide +kernel
theorem dX12_goShip_279 : decode cX12_goShip 279 = .ok (.bipush 13, 2) := by decide +kernel
theorem dX12_goShip_281 : decode cX12_goShip 281 = .ok (.iaload, 1) := by decide +kernel
theorem dX12_goShip_282 : decode cX12_goShip 282 = .ok (.i2l, 1) := by decide +kernel
theorem dX12_goShip_283 : decode cX12_goShip 283 = .ok (.lconst 1, 1) := by decide +kernel
theorem dX12_goShip_284 : decode cX12_goShip 284 = .ok (.ladd, 1) := by decide +kernel
theorem dX12_goShip_285 : decode cX12_goShip 285 = .ok (.aload_n 0, 1) := by decide +kernel
theorem dX12_goShip_286 : decode cX12_goShip 286 = .ok (.iload_n 3, 1) := by decide +kernel
theorem dX12_goShip_287 : decode cX12_goShip 287 = .ok (.invokevirtual 164, 3) := by decide +kernel
theorem dX12_goShip_290 : decode cX12_goShip 290 = .ok (.i2l, 1) := by decide +kernel
theorem dX12_goShip_291 : decode cX12_goShip 291 = .ok (.lmul, 1) := by decide +kernel
theorem dX12_goShip_292 : decode cX12_goShip 292 = .ok (.lconst 1, 1) := by decide +kernel
theorem dX12_goShip_293 : decode cX12_goShip 293 = .ok (.lsub, 1) := by decide +kernel
theorem dX12_goShip_294 : decode cX12_goShip 294 = .ok (.ldc2_w 122, 3) := by decide +kernel
theorem dX12_goShip_297 : decode cX12_goShip 297 = .ok (.ldiv, 1) := by decide +kernel
theorem dX12_goShip_298 : decode cX12_goShip 298 = .ok (.lstore 5, 2) := by decide +kernel
theorem dX12_goShip_300 : decode cX12_goShip 300 = .ok (.aload_n 0, 1) := by decide +kernel
theorem dX12_goShip_301 : decode cX12_goShip 301 = .ok (.getfield 7, 3) := by decide +kernel
theorem dX12_goShip_304 : decode cX12_goShip 304 = .ok (.iload_n 3, 1) := by decide +kernel
theorem dX12_goShip_305 : decode cX12_goShip 305 = .ok (.iconst 5, 1) := by decide +kernel
theorem dX12_goShip_306 : decode cX12_goShip 306 = .ok (.iadd, 1) := by decide +kernel
theorem dX12_goShip_307 : decode cX12_goShip 307 = .ok (.iaload, 1) := by decide +kernel
theorem dX12_goShip_308 : decode cX12_goShip 308 = .ok (.i2l, 1) := by decide +kernel
theorem dX12_goShip_309 : decode cX12_goShip 309 = .ok (.lload 5, 2) := by decide +kernel
theorem dX12_goShip_311 : decode cX12_goShip 311 = .ok (.lcmp, 1) := by decide +kernel
theorem dX12_goShip_312 : decode cX12_goShip 312 = .ok (.ifCond .le 40, 3) := by decide +kernel
theorem dX12_goShip_315 : decode cX12_goShip 315 = .ok (.aload_n 0, 1) := by decide +kernel
theorem dX12_goShip_316 : decode cX12_goShip 316 = .ok (.getfield 7, 3) := by decide +kernel
theorem dX12_goShip_319 : decode cX12_goShip 319 = .ok (.iload_n 3, 1) := by decide +kernel
theorem dX12_goShip_320 : decode cX12_goShip 320 = .ok (.bipush 12, 2) := by decide +kernel
theorem dX12_goShip_322 : decode cX12_goShip 322 = .ok (.iadd, 1) := by decide +kernel
theorem dX12_goShip_323 : decode cX12_goShip 323 = .ok (.iconst 2, 1) := by decide +kernel
theorem dX12_goShip_324 : decode cX12_goShip 324 = .ok (.iadd, 1) := by decide +kernel
theorem dX12_goShip_325 : decode cX12_goShip 325 = .ok (.dup2, 1) := by decide +kernel
theorem dX12_goShip_326 : decode cX12_goShip 326 = .ok (.iaload, 1) := by decide +kernel
theorem dX12_goShip_327 : decode cX12_goShip 327 = .ok (.aload_n 0, 1) := by decide +kernel
theorem dX12_goShip_328 : decode cX12_goShip 328 = .ok (.getfield 7, 3) := by decide +kernel
theorem dX12_goShip_331 : decode cX12_goShip 331 = .ok (.iload_n 3, 1) := by decide +kernel
theorem dX12_goShip_332 : decode cX12_goShip 332 = .ok (.iconst 5, 1) := by decide +kernel
theorem dX12_goShip_333 : decode cX12_goShip 333 = .ok (.iadd, 1) := by decide +kernel
theorem dX12_goShip_334 : decode cX12_goShip 334 = .ok (.iaload, 1) := by decide +kernel
theorem dX12_goShip_335 : decode cX12_goShip 335 = .ok (.lload 5, 2) := by decide +kernel
theorem dX12_goShip_337 : decode cX12_goShip 337 = .ok (.l2i, 1) := by decide +kernel
theorem dX12_goShip_338 : decode cX12_goShip 338 = .ok (.isub, 1) := by decide +kernel
theorem dX12_goShip_339 : decode cX12_goShip 339 = .ok (.iadd, 1) := by decide +kernel
theorem dX12_goShip_340 : decode cX12_goShip 340 = .ok (.iastore, 1) := by decide +kernel
theorem dX12_goShip_341 : decode cX12_goShip 341 = .ok (.aload_n 0, 1) := by decide +kernel
theorem dX12_goShip_342 : decode cX12_goShip 342 = .ok (.getfield 7, 3) := by decide +kernel
theorem dX12_goShip_345 : decode cX12_goShip 345 = .ok (.iload_n 3, 1) := by decide +kernel
theorem dX12_goShip_346 : decode cX12_goShip 346 = .ok (.iconst 5, 1) := by decide +kernel
theorem dX12_goShip_347 : decode cX12_goShip 347 = .ok (.iadd, 1) := by decide +kernel
theorem dX12_goShip_348 : decode cX12_goShip 348 = .ok (.lload 5, 2) := by decide +kernel
theorem dX12_goShip_350 : decode cX12_goShip 350 = .ok (.l2i, 1) := by decide +kernel
theorem dX12_goShip_351 : decode cX12_goShip 351 = .ok (.iastore, 1) := by decide +kernel
theorem dX12_goShip_352 : decode cX12_goShip 352 = .ok (.return_, 1) := by decide +kernel
