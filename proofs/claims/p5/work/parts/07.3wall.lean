theorem WALLgood : WALL.all goodWord = true := by decide +kernel
theorem wg_of {w : Cond} (h : w ∈ WALL) : w ∈ WALL ∧ ((w.onTables && w.keeps) = true ∨ ∃ ty, w = .arrayClass ty) := ⟨h, good_of_word (List.all_eq_true.mp WALLgood w h)⟩
theorem wg_c {c : Cond} (hc : c ∈ WALL) : GoodIn WALL (c :: WALL) := fun w hw => wg_of ((List.mem_cons.mp hw).elim (fun e => by rw [e]; exact hc) (fun h => h))
theorem wg_V {own C : String} {idx : Nat} {y : MethodName} {c : Cond} (h1 : Cond.methodLink own idx y ∈ WALL) (h2 : Cond.instanceMethod y ∈ WALL) (h3 : Cond.selects C y y ∈ WALL) (h4 : Cond.initialized C ∈ WALL) (hc : c ∈ WALL) : GoodIn WALL (wsV own idx C y (c :: WALL)) := by
  intro w hw
  unfold wsV at hw
  rcases List.mem_append.mp hw with h | h
  · simp only [List.mem_cons, List.not_mem_nil, or_false] at h
    rcases h with rfl | rfl | rfl | rfl
    · exact wg_of h1
    · exact wg_of h2
    · exact wg_of h3
    · exact wg_of h4
  · exact wg_c hc w h
theorem wg_S {own : String} {idx : Nat} {y : MethodName} {c : Cond} (h1 : Cond.methodLink own idx y ∈ WALL) (h2 : Cond.static y ∈ WALL) (h3 : Cond.initialized y.cls ∈ WALL) (hc : c ∈ WALL) : GoodIn WALL (va_wsS own idx y (c :: WALL)) := by
  intro w hw
  unfold va_wsS at hw
  rcases List.mem_append.mp hw with h | h
  · simp only [List.mem_cons, List.not_mem_nil, or_false] at h
    rcases h with rfl | rfl | rfl
    · exact wg_of h1
    · exact wg_of h2
    · exact wg_of h3
  · exact wg_c hc w h
def wqX0_init : List Cond := .code yX0_init cX0_init 6 none :: WALL
theorem pd_X0_init : yX0_init.cls ≠ "java/lang/invoke/MethodHandle" ∧ yX0_init.cls ≠ "java/lang/invoke/VarHandle" ∧ (parseMethodDescriptor yX0_init.desc).map (fun d => d.parameters.length) = some 5 := by decide +kernel
def wqX1_init : List Cond := .code yX1_init cX1_init 2 none :: WALL
theorem pd_X1_init : yX1_init.cls ≠ "java/lang/invoke/MethodHandle" ∧ yX1_init.cls ≠ "java/lang/invoke/VarHandle" ∧ (parseMethodDescriptor yX1_init.desc).map (fun d => d.parameters.length) = some 1 := by decide +kernel
def wqX10_hasShip : List Cond := .code yX10_hasShip cX10_hasShip 2 (some .boolean) :: WALL
theorem pd_X10_hasShip : yX10_hasShip.cls ≠ "java/lang/invoke/MethodHandle" ∧ yX10_hasShip.cls ≠ "java/lang/invoke/VarHandle" ∧ (parseMethodDescriptor yX10_hasShip.desc).map (fun d => d.parameters.length) = some 1 := by decide +kernel
def wqX1_sails : List Cond := .code yX1_sails cX1_sails 2 (some .boolean) :: WALL
theorem pd_X1_sails : yX1_sails.cls ≠ "java/lang/invoke/MethodHandle" ∧ yX1_sails.cls ≠ "java/lang/invoke/VarHandle" ∧ (parseMethodDescriptor yX1_sails.desc).map (fun d => d.parameters.length) = some 1 := by decide +kernel
def wqJ7_fill_d0a16 : List Cond := .code yJ7_fill_d0a16 cJ7_fill_d0a16 5 none :: WALL
theorem pd_J7_fill_d0a16 : yJ7_fill_d0a16.cls ≠ "java/lang/invoke/MethodHandle" ∧ yJ7_fill_d0a16.cls ≠ "java/lang/invoke/VarHandle" ∧ (parseMethodDescriptor yJ7_fill_d0a16.desc).map (fun d => d.parameters.length) = some 2 := by decide +kernel
def wqJ7_rangeCheck_23922 : List Cond := .code yJ7_rangeCheck_23922 cJ7_rangeCheck_23922 3 none :: WALL
theorem pd_J7_rangeCheck_23922 : yJ7_rangeCheck_23922.cls ≠ "java/lang/invoke/MethodHandle" ∧ yJ7_rangeCheck_23922.cls ≠ "java/lang/invoke/VarHandle" ∧ (parseMethodDescriptor yJ7_rangeCheck_23922.desc).map (fun d => d.parameters.length) = some 3 := by decide +kernel
def wqJ7_fill_bad5a : List Cond := .code yJ7_fill_bad5a cJ7_fill_bad5a 6 none :: WALL
theorem pd_J7_fill_bad5a : yJ7_fill_bad5a.cls ≠ "java/lang/invoke/MethodHandle" ∧ yJ7_fill_bad5a.cls ≠ "java/lang/invoke/VarHandle" ∧ (parseMethodDescriptor yJ7_fill_bad5a.desc).map (fun d => d.parameters.length) = some 4 := by decide +kernel
def wqX4_at : List Cond := .code yX4_at cX4_at 4 (some .long) :: WALL
theorem pd_X4_at : yX4_at.cls ≠ "java/lang/invoke/MethodHandle" ∧ yX4_at.cls ≠ "java/lang/invoke/VarHandle" ∧ (parseMethodDescriptor yX4_at.desc).map (fun d => d.parameters.length) = some 2 := by decide +kernel
def wqX4_number : List Cond := .code yX4_number cX4_number 3 (some .int) :: WALL
theorem pd_X4_number : yX4_number.cls ≠ "java/lang/invoke/MethodHandle" ∧ yX4_number.cls ≠ "java/lang/invoke/VarHandle" ∧ (parseMethodDescriptor yX4_number.desc).map (fun d => d.parameters.length) = some 2 := by decide +kernel
def wqX10_hasTerminal : List Cond := .code yX10_hasTerminal cX10_hasTerminal 2 (some .boolean) :: WALL
theorem pd_X10_hasTerminal : yX10_hasTerminal.cls ≠ "java/lang/invoke/MethodHandle" ∧ yX10_hasTerminal.cls ≠ "java/lang/invoke/VarHandle" ∧ (parseMethodDescriptor yX10_hasTerminal.desc).map (fun d => d.parameters.length) = some 1 := by decide +kernel
def wqX10_hoursBetween : List Cond := .code yX10_hoursBetween cX10_hoursBetween 4 (some .int) :: WALL
theorem pd_X10_hoursBetween : yX10_hoursBetween.cls ≠ "java/lang/invoke/MethodHandle" ∧ yX10_hoursBetween.cls ≠ "java/lang/invoke/VarHandle" ∧ (parseMethodDescriptor yX10_hoursBetween.desc).map (fun d => d.parameters.length) = some 2 := by decide +kernel
def wqX7_top : List Cond := .code yX7_top cX7_top 1 (some .int) :: WALL
theorem pd_X7_top : yX7_top.cls ≠ "java/lang/invoke/MethodHandle" ∧ yX7_top.cls ≠ "java/lang/invoke/VarHandle" ∧ (parseMethodDescriptor yX7_top.desc).map (fun d => d.parameters.length) = some 0 := by decide +kernel
def wqX8_hoursFor : List Cond := .code yX8_hoursFor cX8_hoursFor 2 (some .int) :: WALL
theorem pd_X8_hoursFor : yX8_hoursFor.cls ≠ "java/lang/invoke/MethodHandle" ∧ yX8_hoursFor.cls ≠ "java/lang/invoke/VarHandle" ∧ (parseMethodDescriptor yX8_hoursFor.desc).map (fun d => d.parameters.length) = some 1 := by decide +kernel
def wqX6_hourBehind : List Cond := .code yX6_hourBehind cX6_hourBehind 8 (some .int) :: WALL
theorem pd_X6_hourBehind : yX6_hourBehind.cls ≠ "java/lang/invoke/MethodHandle" ∧ yX6_hourBehind.cls ≠ "java/lang/invoke/VarHandle" ∧ (parseMethodDescriptor yX6_hourBehind.desc).map (fun d => d.parameters.length) = some 4 := by decide +kernel
def wqX1_reckon : List Cond := .code yX1_reckon cX1_reckon 14 (some .boolean) :: WALL
theorem pd_X1_reckon : yX1_reckon.cls ≠ "java/lang/invoke/MethodHandle" ∧ yX1_reckon.cls ≠ "java/lang/invoke/VarHandle" ∧ (parseMethodDescriptor yX1_reckon.desc).map (fun d => d.parameters.length) = some 4 := by decide +kernel
def wqX1_keepRow : List Cond := .code yX1_keepRow cX1_keepRow 5 none :: WALL
theorem pd_X1_keepRow : yX1_keepRow.cls ≠ "java/lang/invoke/MethodHandle" ∧ yX1_keepRow.cls ≠ "java/lang/invoke/VarHandle" ∧ (parseMethodDescriptor yX1_keepRow.desc).map (fun d => d.parameters.length) = some 3 := by decide +kernel
def wqX1_extend : List Cond := .code yX1_extend cX1_extend 14 none :: WALL
theorem pd_X1_extend : yX1_extend.cls ≠ "java/lang/invoke/MethodHandle" ∧ yX1_extend.cls ≠ "java/lang/invoke/VarHandle" ∧ (parseMethodDescriptor yX1_extend.desc).map (fun d => d.parameters.length) = some 7 := by decide +kernel
def wqX1_joinSets : List Cond := .code yX1_joinSets cX1_joinSets 10 none :: WALL
theorem pd_X1_joinSets : yX1_joinSets.cls ≠ "java/lang/invoke/MethodHandle" ∧ yX1_joinSets.cls ≠ "java/lang/invoke/VarHandle" ∧ (parseMethodDescriptor yX1_joinSets.desc).map (fun d => d.parameters.length) = some 3 := by decide +kernel
def wqX1_addShip : List Cond := .code yX1_addShip cX1_addShip 6 none :: WALL
theorem pd_X1_addShip : yX1_addShip.cls ≠ "java/lang/invoke/MethodHandle" ∧ yX1_addShip.cls ≠ "java/lang/invoke/VarHandle" ∧ (parseMethodDescriptor yX1_addShip.desc).map (fun d => d.parameters.length) = some 2 := by decide +kernel
def wqJ6_bitCount_0f7a4 : List Cond := .code yJ6_bitCount_0f7a4 cJ6_bitCount_0f7a4 1 (some .int) :: WALL
theorem pd_J6_bitCount_0f7a4 : yJ6_bitCount_0f7a4.cls ≠ "java/lang/invoke/MethodHandle" ∧ yJ6_bitCount_0f7a4.cls ≠ "java/lang/invoke/VarHandle" ∧ (parseMethodDescriptor yJ6_bitCount_0f7a4.desc).map (fun d => d.parameters.length) = some 1 := by decide +kernel
def wqX1_isBetter : List Cond := .code yX1_isBetter cX1_isBetter 4 (some .boolean) :: WALL
theorem pd_X1_isBetter : yX1_isBetter.cls ≠ "java/lang/invoke/MethodHandle" ∧ yX1_isBetter.cls ≠ "java/lang/invoke/VarHandle" ∧ (parseMethodDescriptor yX1_isBetter.desc).map (fun d => d.parameters.length) = some 2 := by decide +kernel
def wqX1_cargoAt : List Cond := .code yX1_cargoAt cX1_cargoAt 5 (some .int) :: WALL
theorem pd_X1_cargoAt : yX1_cargoAt.cls ≠ "java/lang/invoke/MethodHandle" ∧ yX1_cargoAt.cls ≠ "java/lang/invoke/VarHandle" ∧ (parseMethodDescriptor yX1_cargoAt.desc).map (fun d => d.parameters.length) = some 3 := by decide +kernel
def wqX1_keepVoyage : List Cond := .code yX1_keepVoyage cX1_keepVoyage 9 none :: WALL
theorem pd_X1_keepVoyage : yX1_keepVoyage.cls ≠ "java/lang/invoke/MethodHandle" ∧ yX1_keepVoyage.cls ≠ "java/lang/invoke/VarHandle" ∧ (parseMethodDescriptor yX1_keepVoyage.desc).map (fun d => d.parameters.length) = some 2 := by decide +kernel
def wqX1_keepPlan : List Cond := .code yX1_keepPlan cX1_keepPlan 5 none :: WALL
theorem pd_X1_keepPlan : yX1_keepPlan.cls ≠ "java/lang/invoke/MethodHandle" ∧ yX1_keepPlan.cls ≠ "java/lang/invoke/VarHandle" ∧ (parseMethodDescriptor yX1_keepPlan.desc).map (fun d => d.parameters.length) = some 2 := by decide +kernel
def wqX1_findBest : List Cond := .code yX1_findBest cX1_findBest 5 (some .long) :: WALL
theorem pd_X1_findBest : yX1_findBest.cls ≠ "java/lang/invoke/MethodHandle" ∧ yX1_findBest.cls ≠ "java/lang/invoke/VarHandle" ∧ (parseMethodDescriptor yX1_findBest.desc).map (fun d => d.parameters.length) = some 1 := by decide +kernel
def wqX4_has : List Cond := .code yX4_has cX4_has 2 (some .boolean) :: WALL
theorem pd_X4_has : yX4_has.cls ≠ "java/lang/invoke/MethodHandle" ∧ yX4_has.cls ≠ "java/lang/invoke/VarHandle" ∧ (parseMethodDescriptor yX4_has.desc).map (fun d => d.parameters.length) = some 1 := by decide +kernel
def wqX1_worthOfRow : List Cond := .code yX1_worthOfRow cX1_worthOfRow 13 (some .long) :: WALL
theorem pd_X1_worthOfRow : yX1_worthOfRow.cls ≠ "java/lang/invoke/MethodHandle" ∧ yX1_worthOfRow.cls ≠ "java/lang/invoke/VarHandle" ∧ (parseMethodDescriptor yX1_worthOfRow.desc).map (fun d => d.parameters.length) = some 5 := by decide +kernel
def wqX2_init : List Cond := .code yX2_init cX2_init 1 none :: WALL
theorem pd_X2_init : yX2_init.cls ≠ "java/lang/invoke/MethodHandle" ∧ yX2_init.cls ≠ "java/lang/invoke/VarHandle" ∧ (parseMethodDescriptor yX2_init.desc).map (fun d => d.parameters.length) = some 0 := by decide +kernel
def wqX2_hasRoom : List Cond := .code yX2_hasRoom cX2_hasRoom 1 (some .boolean) :: WALL
theorem pd_X2_hasRoom : yX2_hasRoom.cls ≠ "java/lang/invoke/MethodHandle" ∧ yX2_hasRoom.cls ≠ "java/lang/invoke/VarHandle" ∧ (parseMethodDescriptor yX2_hasRoom.desc).map (fun d => d.parameters.length) = some 0 := by decide +kernel
def wqX2_addFour : List Cond := .code yX2_addFour cX2_addFour 3 none :: WALL
theorem pd_X2_addFour : yX2_addFour.cls ≠ "java/lang/invoke/MethodHandle" ∧ yX2_addFour.cls ≠ "java/lang/invoke/VarHandle" ∧ (parseMethodDescriptor yX2_addFour.desc).map (fun d => d.parameters.length) = some 1 := by decide +kernel
def wqX2_emptyTape : List Cond := .code yX2_emptyTape cX2_emptyTape 1 none :: WALL
theorem pd_X2_emptyTape : yX2_emptyTape.cls ≠ "java/lang/invoke/MethodHandle" ∧ yX2_emptyTape.cls ≠ "java/lang/invoke/VarHandle" ∧ (parseMethodDescriptor yX2_emptyTape.desc).map (fun d => d.parameters.length) = some 0 := by decide +kernel
def wqX2_isLetter : List Cond := .code yX2_isLetter cX2_isLetter 1 (some .boolean) :: WALL
theorem pd_X2_isLetter : yX2_isLetter.cls ≠ "java/lang/invoke/MethodHandle" ∧ yX2_isLetter.cls ≠ "java/lang/invoke/VarHandle" ∧ (parseMethodDescriptor yX2_isLetter.desc).map (fun d => d.parameters.length) = some 1 := by decide +kernel
def wqX2_isDigit : List Cond := .code yX2_isDigit cX2_isDigit 1 (some .boolean) :: WALL
theorem pd_X2_isDigit : yX2_isDigit.cls ≠ "java/lang/invoke/MethodHandle" ∧ yX2_isDigit.cls ≠ "java/lang/invoke/VarHandle" ∧ (parseMethodDescriptor yX2_isDigit.desc).map (fun d => d.parameters.length) = some 1 := by decide +kernel
def wqX2_advance : List Cond := .code yX2_advance cX2_advance 1 none :: WALL
theorem pd_X2_advance : yX2_advance.cls ≠ "java/lang/invoke/MethodHandle" ∧ yX2_advance.cls ≠ "java/lang/invoke/VarHandle" ∧ (parseMethodDescriptor yX2_advance.desc).map (fun d => d.parameters.length) = some 0 := by decide +kernel
def wqJ0_coder_7d493 : List Cond := .code yJ0_coder_7d493 cJ0_coder_7d493 1 (some .byte) :: WALL
theorem pd_J0_coder_7d493 : yJ0_coder_7d493.cls ≠ "java/lang/invoke/MethodHandle" ∧ yJ0_coder_7d493.cls ≠ "java/lang/invoke/VarHandle" ∧ (parseMethodDescriptor yJ0_coder_7d493.desc).map (fun d => d.parameters.length) = some 0 := by decide +kernel
def wqJ0_length_8abf5 : List Cond := .code yJ0_length_8abf5 cJ0_length_8abf5 1 (some .int) :: WALL
theorem pd_J0_length_8abf5 : yJ0_length_8abf5.cls ≠ "java/lang/invoke/MethodHandle" ∧ yJ0_length_8abf5.cls ≠ "java/lang/invoke/VarHandle" ∧ (parseMethodDescriptor yJ0_length_8abf5.desc).map (fun d => d.parameters.length) = some 0 := by decide +kernel
def wqJ0_isLatin1_aae02 : List Cond := .code yJ0_isLatin1_aae02 cJ0_isLatin1_aae02 1 (some .boolean) :: WALL
theorem pd_J0_isLatin1_aae02 : yJ0_isLatin1_aae02.cls ≠ "java/lang/invoke/MethodHandle" ∧ yJ0_isLatin1_aae02.cls ≠ "java/lang/invoke/VarHandle" ∧ (parseMethodDescriptor yJ0_isLatin1_aae02.desc).map (fun d => d.parameters.length) = some 0 := by decide +kernel
def wqJ3_checkIndex_8e157 : List Cond := .code yJ3_checkIndex_8e157 cJ3_checkIndex_8e157 3 (some .int) :: WALL
theorem pd_J3_checkIndex_8e157 : yJ3_checkIndex_8e157.cls ≠ "java/lang/invoke/MethodHandle" ∧ yJ3_checkIndex_8e157.cls ≠ "java/lang/invoke/VarHandle" ∧ (parseMethodDescriptor yJ3_checkIndex_8e157.desc).map (fun d => d.parameters.length) = some 3 := by decide +kernel
def wqJ0_checkIndex_df160 : List Cond := .code yJ0_checkIndex_df160 cJ0_checkIndex_df160 2 none :: WALL
theorem pd_J0_checkIndex_df160 : yJ0_checkIndex_df160.cls ≠ "java/lang/invoke/MethodHandle" ∧ yJ0_checkIndex_df160.cls ≠ "java/lang/invoke/VarHandle" ∧ (parseMethodDescriptor yJ0_checkIndex_df160.desc).map (fun d => d.parameters.length) = some 2 := by decide +kernel
def wqJ1_charAt_3b067 : List Cond := .code yJ1_charAt_3b067 cJ1_charAt_3b067 2 (some .char) :: WALL
theorem pd_J1_charAt_3b067 : yJ1_charAt_3b067.cls ≠ "java/lang/invoke/MethodHandle" ∧ yJ1_charAt_3b067.cls ≠ "java/lang/invoke/VarHandle" ∧ (parseMethodDescriptor yJ1_charAt_3b067.desc).map (fun d => d.parameters.length) = some 2 := by decide +kernel
def wqJ2_length_9d52b : List Cond := .code yJ2_length_9d52b cJ2_length_9d52b 1 (some .int) :: WALL
theorem pd_J2_length_9d52b : yJ2_length_9d52b.cls ≠ "java/lang/invoke/MethodHandle" ∧ yJ2_length_9d52b.cls ≠ "java/lang/invoke/VarHandle" ∧ (parseMethodDescriptor yJ2_length_9d52b.desc).map (fun d => d.parameters.length) = some 1 := by decide +kernel
def wqJ2_checkIndex_2214a : List Cond := .code yJ2_checkIndex_2214a cJ2_checkIndex_2214a 2 none :: WALL
theorem pd_J2_checkIndex_2214a : yJ2_checkIndex_2214a.cls ≠ "java/lang/invoke/MethodHandle" ∧ yJ2_checkIndex_2214a.cls ≠ "java/lang/invoke/VarHandle" ∧ (parseMethodDescriptor yJ2_checkIndex_2214a.desc).map (fun d => d.parameters.length) = some 2 := by decide +kernel
def wqJ2_getChar_3b067 : List Cond := .code yJ2_getChar_3b067 cJ2_getChar_3b067 2 (some .char) :: WALL
theorem pd_J2_getChar_3b067 : yJ2_getChar_3b067.cls ≠ "java/lang/invoke/MethodHandle" ∧ yJ2_getChar_3b067.cls ≠ "java/lang/invoke/VarHandle" ∧ (parseMethodDescriptor yJ2_getChar_3b067.desc).map (fun d => d.parameters.length) = some 2 := by decide +kernel
def wqJ2_charAt_3b067 : List Cond := .code yJ2_charAt_3b067 cJ2_charAt_3b067 2 (some .char) :: WALL
theorem pd_J2_charAt_3b067 : yJ2_charAt_3b067.cls ≠ "java/lang/invoke/MethodHandle" ∧ yJ2_charAt_3b067.cls ≠ "java/lang/invoke/VarHandle" ∧ (parseMethodDescriptor yJ2_charAt_3b067.desc).map (fun d => d.parameters.length) = some 2 := by decide +kernel
def wqJ0_charAt_5068e : List Cond := .code yJ0_charAt_5068e cJ0_charAt_5068e 2 (some .char) :: WALL
theorem pd_J0_charAt_5068e : yJ0_charAt_5068e.cls ≠ "java/lang/invoke/MethodHandle" ∧ yJ0_charAt_5068e.cls ≠ "java/lang/invoke/VarHandle" ∧ (parseMethodDescriptor yJ0_charAt_5068e.desc).map (fun d => d.parameters.length) = some 1 := by decide +kernel
def wqX2_isWord : List Cond := .code yX2_isWord cX2_isWord 3 (some .boolean) :: WALL
theorem pd_X2_isWord : yX2_isWord.cls ≠ "java/lang/invoke/MethodHandle" ∧ yX2_isWord.cls ≠ "java/lang/invoke/VarHandle" ∧ (parseMethodDescriptor yX2_isWord.desc).map (fun d => d.parameters.length) = some 1 := by decide +kernel
def wqX2_passWord : List Cond := .code yX2_passWord cX2_passWord 3 (some .boolean) :: WALL
theorem pd_X2_passWord : yX2_passWord.cls ≠ "java/lang/invoke/MethodHandle" ∧ yX2_passWord.cls ≠ "java/lang/invoke/VarHandle" ∧ (parseMethodDescriptor yX2_passWord.desc).map (fun d => d.parameters.length) = some 1 := by decide +kernel
def wqX11_within : List Cond := .code yX11_within cX11_within 3 (some .boolean) :: WALL
theorem pd_X11_within : yX11_within.cls ≠ "java/lang/invoke/MethodHandle" ∧ yX11_within.cls ≠ "java/lang/invoke/VarHandle" ∧ (parseMethodDescriptor yX11_within.desc).map (fun d => d.parameters.length) = some 3 := by decide +kernel
def wqX2_isNumber : List Cond := .code yX2_isNumber cX2_isNumber 3 (some .boolean) :: WALL
theorem pd_X2_isNumber : yX2_isNumber.cls ≠ "java/lang/invoke/MethodHandle" ∧ yX2_isNumber.cls ≠ "java/lang/invoke/VarHandle" ∧ (parseMethodDescriptor yX2_isNumber.desc).map (fun d => d.parameters.length) = some 2 := by decide +kernel
def wqX2_readWindow : List Cond := .code yX2_readWindow cX2_readWindow 2 (some .boolean) :: WALL
theorem pd_X2_readWindow : yX2_readWindow.cls ≠ "java/lang/invoke/MethodHandle" ∧ yX2_readWindow.cls ≠ "java/lang/invoke/VarHandle" ∧ (parseMethodDescriptor yX2_readWindow.desc).map (fun d => d.parameters.length) = some 0 := by decide +kernel
def wqX2_emit : List Cond := .code yX2_emit cX2_emit 2 none :: WALL
theorem pd_X2_emit : yX2_emit.cls ≠ "java/lang/invoke/MethodHandle" ∧ yX2_emit.cls ≠ "java/lang/invoke/VarHandle" ∧ (parseMethodDescriptor yX2_emit.desc).map (fun d => d.parameters.length) = some 1 := by decide +kernel
def wqX2_emitJump : List Cond := .code yX2_emitJump cX2_emitJump 2 (some .int) :: WALL
theorem pd_X2_emitJump : yX2_emitJump.cls ≠ "java/lang/invoke/MethodHandle" ∧ yX2_emitJump.cls ≠ "java/lang/invoke/VarHandle" ∧ (parseMethodDescriptor yX2_emitJump.desc).map (fun d => d.parameters.length) = some 1 := by decide +kernel
def wqX2_land : List Cond := .code yX2_land cX2_land 2 none :: WALL
theorem pd_X2_land : yX2_land.cls ≠ "java/lang/invoke/MethodHandle" ∧ yX2_land.cls ≠ "java/lang/invoke/VarHandle" ∧ (parseMethodDescriptor yX2_land.desc).map (fun d => d.parameters.length) = some 1 := by decide +kernel
def wqX2_isSign : List Cond := .code yX2_isSign cX2_isSign 2 (some .boolean) :: WALL
theorem pd_X2_isSign : yX2_isSign.cls ≠ "java/lang/invoke/MethodHandle" ∧ yX2_isSign.cls ≠ "java/lang/invoke/VarHandle" ∧ (parseMethodDescriptor yX2_isSign.desc).map (fun d => d.parameters.length) = some 1 := by decide +kernel
def wqX2_passSign : List Cond := .code yX2_passSign cX2_passSign 3 (some .boolean) :: WALL
theorem pd_X2_passSign : yX2_passSign.cls ≠ "java/lang/invoke/MethodHandle" ∧ yX2_passSign.cls ≠ "java/lang/invoke/VarHandle" ∧ (parseMethodDescriptor yX2_passSign.desc).map (fun d => d.parameters.length) = some 1 := by decide +kernel
def wqX2_factHere : List Cond := .code yX2_factHere cX2_factHere 1 (some .int) :: WALL
theorem pd_X2_factHere : yX2_factHere.cls ≠ "java/lang/invoke/MethodHandle" ∧ yX2_factHere.cls ≠ "java/lang/invoke/VarHandle" ∧ (parseMethodDescriptor yX2_factHere.desc).map (fun d => d.parameters.length) = some 0 := by decide +kernel
def wqX2_leafHere : List Cond := .code yX2_leafHere cX2_leafHere 2 (some .int) :: WALL
theorem pd_X2_leafHere : yX2_leafHere.cls ≠ "java/lang/invoke/MethodHandle" ∧ yX2_leafHere.cls ≠ "java/lang/invoke/VarHandle" ∧ (parseMethodDescriptor yX2_leafHere.desc).map (fun d => d.parameters.length) = some 0 := by decide +kernel
def wqX2_readBoth : List Cond := .code yX2_readBoth cX2_readBoth 3 (some .boolean) :: WALL
theorem pd_X2_readBoth : yX2_readBoth.cls ≠ "java/lang/invoke/MethodHandle" ∧ yX2_readBoth.cls ≠ "java/lang/invoke/VarHandle" ∧ (parseMethodDescriptor yX2_readBoth.desc).map (fun d => d.parameters.length) = some 0 := by decide +kernel
def wqX2_readCompared : List Cond := .code yX2_readCompared cX2_readCompared 2 (some .boolean) :: WALL
theorem pd_X2_readCompared : yX2_readCompared.cls ≠ "java/lang/invoke/MethodHandle" ∧ yX2_readCompared.cls ≠ "java/lang/invoke/VarHandle" ∧ (parseMethodDescriptor yX2_readCompared.desc).map (fun d => d.parameters.length) = some 0 := by decide +kernel
def wqX2_readInBrackets : List Cond := .code yX2_readInBrackets cX2_readInBrackets 3 (some .boolean) :: WALL
theorem pd_X2_readInBrackets : yX2_readInBrackets.cls ≠ "java/lang/invoke/MethodHandle" ∧ yX2_readInBrackets.cls ≠ "java/lang/invoke/VarHandle" ∧ (parseMethodDescriptor yX2_readInBrackets.desc).map (fun d => d.parameters.length) = some 1 := by decide +kernel
def wqX2_readPart : List Cond := .code yX2_readPart cX2_readPart 2 (some .boolean) :: WALL
theorem pd_X2_readPart : yX2_readPart.cls ≠ "java/lang/invoke/MethodHandle" ∧ yX2_readPart.cls ≠ "java/lang/invoke/VarHandle" ∧ (parseMethodDescriptor yX2_readPart.desc).map (fun d => d.parameters.length) = some 0 := by decide +kernel
def wqX2_readPlain : List Cond := .code yX2_readPlain cX2_readPlain 3 (some .boolean) :: WALL
theorem pd_X2_readPlain : yX2_readPlain.cls ≠ "java/lang/invoke/MethodHandle" ∧ yX2_readPlain.cls ≠ "java/lang/invoke/VarHandle" ∧ (parseMethodDescriptor yX2_readPlain.desc).map (fun d => d.parameters.length) = some 0 := by decide +kernel
def wqX2_readSum : List Cond := .code yX2_readSum cX2_readSum 3 (some .boolean) :: WALL
theorem pd_X2_readSum : yX2_readSum.cls ≠ "java/lang/invoke/MethodHandle" ∧ yX2_readSum.cls ≠ "java/lang/invoke/VarHandle" ∧ (parseMethodDescriptor yX2_readSum.desc).map (fun d => d.parameters.length) = some 0 := by decide +kernel
def wqX2_readTerm : List Cond := .code yX2_readTerm cX2_readTerm 3 (some .boolean) :: WALL
theorem pd_X2_readTerm : yX2_readTerm.cls ≠ "java/lang/invoke/MethodHandle" ∧ yX2_readTerm.cls ≠ "java/lang/invoke/VarHandle" ∧ (parseMethodDescriptor yX2_readTerm.desc).map (fun d => d.parameters.length) = some 0 := by decide +kernel
def wqX2_readTest : List Cond := .code yX2_readTest cX2_readTest 3 (some .boolean) :: WALL
theorem pd_X2_readTest : yX2_readTest.cls ≠ "java/lang/invoke/MethodHandle" ∧ yX2_readTest.cls ≠ "java/lang/invoke/VarHandle" ∧ (parseMethodDescriptor yX2_readTest.desc).map (fun d => d.parameters.length) = some 0 := by decide +kernel
def wqX2_readMoney : List Cond := .code yX2_readMoney cX2_readMoney 2 (some .boolean) :: WALL
theorem pd_X2_readMoney : yX2_readMoney.cls ≠ "java/lang/invoke/MethodHandle" ∧ yX2_readMoney.cls ≠ "java/lang/invoke/VarHandle" ∧ (parseMethodDescriptor yX2_readMoney.desc).map (fun d => d.parameters.length) = some 1 := by decide +kernel
def wqX2_readClause : List Cond := .code yX2_readClause cX2_readClause 1 (some .boolean) :: WALL
theorem pd_X2_readClause : yX2_readClause.cls ≠ "java/lang/invoke/MethodHandle" ∧ yX2_readClause.cls ≠ "java/lang/invoke/VarHandle" ∧ (parseMethodDescriptor yX2_readClause.desc).map (fun d => d.parameters.length) = some 0 := by decide +kernel
def wqX2_readClauses : List Cond := .code yX2_readClauses cX2_readClauses 2 (some .boolean) :: WALL
theorem pd_X2_readClauses : yX2_readClauses.cls ≠ "java/lang/invoke/MethodHandle" ∧ yX2_readClauses.cls ≠ "java/lang/invoke/VarHandle" ∧ (parseMethodDescriptor yX2_readClauses.desc).map (fun d => d.parameters.length) = some 0 := by decide +kernel
def wqJ7_copyOf_59c91 : List Cond := .code yJ7_copyOf_59c91 cJ7_copyOf_59c91 3 (some (.array .int)) :: WALL
theorem pd_J7_copyOf_59c91 : yJ7_copyOf_59c91.cls ≠ "java/lang/invoke/MethodHandle" ∧ yJ7_copyOf_59c91.cls ≠ "java/lang/invoke/VarHandle" ∧ (parseMethodDescriptor yJ7_copyOf_59c91.desc).map (fun d => d.parameters.length) = some 2 := by decide +kernel
def wqX2_readTape : List Cond := .code yX2_readTape cX2_readTape 2 (some (.object "ColdShips$Contract")) :: WALL
theorem pd_X2_readTape : yX2_readTape.cls ≠ "java/lang/invoke/MethodHandle" ∧ yX2_readTape.cls ≠ "java/lang/invoke/VarHandle" ∧ (parseMethodDescriptor yX2_readTape.desc).map (fun d => d.parameters.length) = some 0 := by decide +kernel
def wqX3_init : List Cond := .code yX3_init cX3_init 2 none :: WALL
theorem pd_X3_init : yX3_init.cls ≠ "java/lang/invoke/MethodHandle" ∧ yX3_init.cls ≠ "java/lang/invoke/VarHandle" ∧ (parseMethodDescriptor yX3_init.desc).map (fun d => d.parameters.length) = some 1 := by decide +kernel
def wqX10_billedOf : List Cond := .code yX10_billedOf cX10_billedOf 4 (some .long) :: WALL
theorem pd_X10_billedOf : yX10_billedOf.cls ≠ "java/lang/invoke/MethodHandle" ∧ yX10_billedOf.cls ≠ "java/lang/invoke/VarHandle" ∧ (parseMethodDescriptor yX10_billedOf.desc).map (fun d => d.parameters.length) = some 1 := by decide +kernel
def wqX10_heatOf : List Cond := .code yX10_heatOf cX10_heatOf 7 (some .long) :: WALL
theorem pd_X10_heatOf : yX10_heatOf.cls ≠ "java/lang/invoke/MethodHandle" ∧ yX10_heatOf.cls ≠ "java/lang/invoke/VarHandle" ∧ (parseMethodDescriptor yX10_heatOf.desc).map (fun d => d.parameters.length) = some 1 := by decide +kernel
def wqX6_freeHours : List Cond := .code yX6_freeHours cX6_freeHours 9 (some .int) :: WALL
theorem pd_X6_freeHours : yX6_freeHours.cls ≠ "java/lang/invoke/MethodHandle" ∧ yX6_freeHours.cls ≠ "java/lang/invoke/VarHandle" ∧ (parseMethodDescriptor yX6_freeHours.desc).map (fun d => d.parameters.length) = some 4 := by decide +kernel
def wqX10_priceOf : List Cond := .code yX10_priceOf cX10_priceOf 12 (some .long) :: WALL
theorem pd_X10_priceOf : yX10_priceOf.cls ≠ "java/lang/invoke/MethodHandle" ∧ yX10_priceOf.cls ≠ "java/lang/invoke/VarHandle" ∧ (parseMethodDescriptor yX10_priceOf.desc).map (fun d => d.parameters.length) = some 2 := by decide +kernel
def wqX3_findFacts : List Cond := .code yX3_findFacts cX3_findFacts 7 none :: WALL
theorem pd_X3_findFacts : yX3_findFacts.cls ≠ "java/lang/invoke/MethodHandle" ∧ yX3_findFacts.cls ≠ "java/lang/invoke/VarHandle" ∧ (parseMethodDescriptor yX3_findFacts.desc).map (fun d => d.parameters.length) = some 3 := by decide +kernel
def wqX3_push : List Cond := .code yX3_push cX3_push 3 none :: WALL
theorem pd_X3_push : yX3_push.cls ≠ "java/lang/invoke/MethodHandle" ∧ yX3_push.cls ≠ "java/lang/invoke/VarHandle" ∧ (parseMethodDescriptor yX3_push.desc).map (fun d => d.parameters.length) = some 1 := by decide +kernel
def wqX3_pop : List Cond := .code yX3_pop cX3_pop 1 (some .long) :: WALL
theorem pd_X3_pop : yX3_pop.cls ≠ "java/lang/invoke/MethodHandle" ∧ yX3_pop.cls ≠ "java/lang/invoke/VarHandle" ∧ (parseMethodDescriptor yX3_pop.desc).map (fun d => d.parameters.length) = some 0 := by decide +kernel
def wqX3_pushSum : List Cond := .code yX3_pushSum cX3_pushSum 3 (some .boolean) :: WALL
theorem pd_X3_pushSum : yX3_pushSum.cls ≠ "java/lang/invoke/MethodHandle" ∧ yX3_pushSum.cls ≠ "java/lang/invoke/VarHandle" ∧ (parseMethodDescriptor yX3_pushSum.desc).map (fun d => d.parameters.length) = some 1 := by decide +kernel
def wqX3_combine : List Cond := .code yX3_combine cX3_combine 6 (some .boolean) :: WALL
theorem pd_X3_combine : yX3_combine.cls ≠ "java/lang/invoke/MethodHandle" ∧ yX3_combine.cls ≠ "java/lang/invoke/VarHandle" ∧ (parseMethodDescriptor yX3_combine.desc).map (fun d => d.parameters.length) = some 1 := by decide +kernel
def wqX3_runClause : List Cond := .code yX3_runClause cX3_runClause 9 none :: WALL
theorem pd_X3_runClause : yX3_runClause.cls ≠ "java/lang/invoke/MethodHandle" ∧ yX3_runClause.cls ≠ "java/lang/invoke/VarHandle" ∧ (parseMethodDescriptor yX3_runClause.desc).map (fun d => d.parameters.length) = some 3 := by decide +kernel
def wqX3_reckon : List Cond := .code yX3_reckon cX3_reckon 5 none :: WALL
theorem pd_X3_reckon : yX3_reckon.cls ≠ "java/lang/invoke/MethodHandle" ∧ yX3_reckon.cls ≠ "java/lang/invoke/VarHandle" ∧ (parseMethodDescriptor yX3_reckon.desc).map (fun d => d.parameters.length) = some 3 := by decide +kernel
def wqX5_gaugeCounts : List Cond := .code yX5_gaugeCounts cX5_gaugeCounts 2 (some .boolean) :: WALL
theorem pd_X5_gaugeCounts : yX5_gaugeCounts.cls ≠ "java/lang/invoke/MethodHandle" ∧ yX5_gaugeCounts.cls ≠ "java/lang/invoke/VarHandle" ∧ (parseMethodDescriptor yX5_gaugeCounts.desc).map (fun d => d.parameters.length) = some 0 := by decide +kernel
def wqX5_tonsAt : List Cond := .code yX5_tonsAt cX5_tonsAt 6 (some .long) :: WALL
theorem pd_X5_tonsAt : yX5_tonsAt.cls ≠ "java/lang/invoke/MethodHandle" ∧ yX5_tonsAt.cls ≠ "java/lang/invoke/VarHandle" ∧ (parseMethodDescriptor yX5_tonsAt.desc).map (fun d => d.parameters.length) = some 1 := by decide +kernel
def wqX3_tonsRead : List Cond := .code yX3_tonsRead cX3_tonsRead 7 (some .long) :: WALL
theorem pd_X3_tonsRead : yX3_tonsRead.cls ≠ "java/lang/invoke/MethodHandle" ∧ yX3_tonsRead.cls ≠ "java/lang/invoke/VarHandle" ∧ (parseMethodDescriptor yX3_tonsRead.desc).map (fun d => d.parameters.length) = some 3 := by decide +kernel
def wqX3_tonsGauged : List Cond := .code yX3_tonsGauged cX3_tonsGauged 7 (some .long) :: WALL
theorem pd_X3_tonsGauged : yX3_tonsGauged.cls ≠ "java/lang/invoke/MethodHandle" ∧ yX3_tonsGauged.cls ≠ "java/lang/invoke/VarHandle" ∧ (parseMethodDescriptor yX3_tonsGauged.desc).map (fun d => d.parameters.length) = some 2 := by decide +kernel
def wqX3_claimOf : List Cond := .code yX3_claimOf cX3_claimOf 5 (some .long) :: WALL
theorem pd_X3_claimOf : yX3_claimOf.cls ≠ "java/lang/invoke/MethodHandle" ∧ yX3_claimOf.cls ≠ "java/lang/invoke/VarHandle" ∧ (parseMethodDescriptor yX3_claimOf.desc).map (fun d => d.parameters.length) = some 2 := by decide +kernel
def wqX4_init : List Cond := .code yX4_init cX4_init 3 none :: WALL
theorem pd_X4_init : yX4_init.cls ≠ "java/lang/invoke/MethodHandle" ∧ yX4_init.cls ≠ "java/lang/invoke/VarHandle" ∧ (parseMethodDescriptor yX4_init.desc).map (fun d => d.parameters.length) = some 2 := by decide +kernel
def wqX4_addRow : List Cond := .code yX4_addRow cX4_addRow 2 (some .int) :: WALL
theorem pd_X4_addRow : yX4_addRow.cls ≠ "java/lang/invoke/MethodHandle" ∧ yX4_addRow.cls ≠ "java/lang/invoke/VarHandle" ∧ (parseMethodDescriptor yX4_addRow.desc).map (fun d => d.parameters.length) = some 0 := by decide +kernel
def wqX4_set : List Cond := .code yX4_set cX4_set 5 none :: WALL
theorem pd_X4_set : yX4_set.cls ≠ "java/lang/invoke/MethodHandle" ∧ yX4_set.cls ≠ "java/lang/invoke/VarHandle" ∧ (parseMethodDescriptor yX4_set.desc).map (fun d => d.parameters.length) = some 3 := by decide +kernel
def wqX4_copyFrom : List Cond := .code yX4_copyFrom cX4_copyFrom 3 none :: WALL
theorem pd_X4_copyFrom : yX4_copyFrom.cls ≠ "java/lang/invoke/MethodHandle" ∧ yX4_copyFrom.cls ≠ "java/lang/invoke/VarHandle" ∧ (parseMethodDescriptor yX4_copyFrom.desc).map (fun d => d.parameters.length) = some 1 := by decide +kernel
def wqX7_init : List Cond := .code yX7_init cX7_init 1 none :: WALL
theorem pd_X7_init : yX7_init.cls ≠ "java/lang/invoke/MethodHandle" ∧ yX7_init.cls ≠ "java/lang/invoke/VarHandle" ∧ (parseMethodDescriptor yX7_init.desc).map (fun d => d.parameters.length) = some 0 := by decide +kernel
def wqX5_init : List Cond := .code yX5_init cX5_init 1 none :: WALL
theorem pd_X5_init : yX5_init.cls ≠ "java/lang/invoke/MethodHandle" ∧ yX5_init.cls ≠ "java/lang/invoke/VarHandle" ∧ (parseMethodDescriptor yX5_init.desc).map (fun d => d.parameters.length) = some 0 := by decide +kernel
def wqJ7_fill_53178 : List Cond := .code yJ7_fill_53178 cJ7_fill_53178 4 none :: WALL
theorem pd_J7_fill_53178 : yJ7_fill_53178.cls ≠ "java/lang/invoke/MethodHandle" ∧ yJ7_fill_53178.cls ≠ "java/lang/invoke/VarHandle" ∧ (parseMethodDescriptor yJ7_fill_53178.desc).map (fun d => d.parameters.length) = some 2 := by decide +kernel
def wqX7_begin : List Cond := .code yX7_begin cX7_begin 2 none :: WALL
theorem pd_X7_begin : yX7_begin.cls ≠ "java/lang/invoke/MethodHandle" ∧ yX7_begin.cls ≠ "java/lang/invoke/VarHandle" ∧ (parseMethodDescriptor yX7_begin.desc).map (fun d => d.parameters.length) = some 1 := by decide +kernel
def wqX5_forgetLanding : List Cond := .code yX5_forgetLanding cX5_forgetLanding 1 none :: WALL
theorem pd_X5_forgetLanding : yX5_forgetLanding.cls ≠ "java/lang/invoke/MethodHandle" ∧ yX5_forgetLanding.cls ≠ "java/lang/invoke/VarHandle" ∧ (parseMethodDescriptor yX5_forgetLanding.desc).map (fun d => d.parameters.length) = some 0 := by decide +kernel
def wqX5_begin : List Cond := .code yX5_begin cX5_begin 4 none :: WALL
theorem pd_X5_begin : yX5_begin.cls ≠ "java/lang/invoke/MethodHandle" ∧ yX5_begin.cls ≠ "java/lang/invoke/VarHandle" ∧ (parseMethodDescriptor yX5_begin.desc).map (fun d => d.parameters.length) = some 3 := by decide +kernel
def wqX5_addOrder : List Cond := .code yX5_addOrder cX5_addOrder 3 none :: WALL
theorem pd_X5_addOrder : yX5_addOrder.cls ≠ "java/lang/invoke/MethodHandle" ∧ yX5_addOrder.cls ≠ "java/lang/invoke/VarHandle" ∧ (parseMethodDescriptor yX5_addOrder.desc).map (fun d => d.parameters.length) = some 2 := by decide +kernel
def wqX5_endOrder : List Cond := .code yX5_endOrder cX5_endOrder 1 none :: WALL
theorem pd_X5_endOrder : yX5_endOrder.cls ≠ "java/lang/invoke/MethodHandle" ∧ yX5_endOrder.cls ≠ "java/lang/invoke/VarHandle" ∧ (parseMethodDescriptor yX5_endOrder.desc).map (fun d => d.parameters.length) = some 0 := by decide +kernel
def wqX5_tonsLeft : List Cond := .code yX5_tonsLeft cX5_tonsLeft 2 (some .int) :: WALL
theorem pd_X5_tonsLeft : yX5_tonsLeft.cls ≠ "java/lang/invoke/MethodHandle" ∧ yX5_tonsLeft.cls ≠ "java/lang/invoke/VarHandle" ∧ (parseMethodDescriptor yX5_tonsLeft.desc).map (fun d => d.parameters.length) = some 0 := by decide +kernel
def wqX7_giveByRests : List Cond := .code yX7_giveByRests cX7_giveByRests 5 none :: WALL
theorem pd_X7_giveByRests : yX7_giveByRests.cls ≠ "java/lang/invoke/MethodHandle" ∧ yX7_giveByRests.cls ≠ "java/lang/invoke/VarHandle" ∧ (parseMethodDescriptor yX7_giveByRests.desc).map (fun d => d.parameters.length) = some 1 := by decide +kernel
def wqX7_takeGas : List Cond := .code yX7_takeGas cX7_takeGas 6 none :: WALL
theorem pd_X7_takeGas : yX7_takeGas.cls ≠ "java/lang/invoke/MethodHandle" ∧ yX7_takeGas.cls ≠ "java/lang/invoke/VarHandle" ∧ (parseMethodDescriptor yX7_takeGas.desc).map (fun d => d.parameters.length) = some 1 := by decide +kernel
def wqX7_burn : List Cond := .code yX7_burn cX7_burn 4 (some .int) :: WALL
theorem pd_X7_burn : yX7_burn.cls ≠ "java/lang/invoke/MethodHandle" ∧ yX7_burn.cls ≠ "java/lang/invoke/VarHandle" ∧ (parseMethodDescriptor yX7_burn.desc).map (fun d => d.parameters.length) = some 1 := by decide +kernel
def wqX5_burnFuel : List Cond := .code yX5_burnFuel cX5_burnFuel 3 none :: WALL
theorem pd_X5_burnFuel : yX5_burnFuel.cls ≠ "java/lang/invoke/MethodHandle" ∧ yX5_burnFuel.cls ≠ "java/lang/invoke/VarHandle" ∧ (parseMethodDescriptor yX5_burnFuel.desc).map (fun d => d.parameters.length) = some 1 := by decide +kernel
def wqX5_putAshore : List Cond := .code yX5_putAshore cX5_putAshore 4 none :: WALL
theorem pd_X5_putAshore : yX5_putAshore.cls ≠ "java/lang/invoke/MethodHandle" ∧ yX5_putAshore.cls ≠ "java/lang/invoke/VarHandle" ∧ (parseMethodDescriptor yX5_putAshore.desc).map (fun d => d.parameters.length) = some 2 := by decide +kernel
def wqX7_copyFrom : List Cond := .code yX7_copyFrom cX7_copyFrom 2 none :: WALL
theorem pd_X7_copyFrom : yX7_copyFrom.cls ≠ "java/lang/invoke/MethodHandle" ∧ yX7_copyFrom.cls ≠ "java/lang/invoke/VarHandle" ∧ (parseMethodDescriptor yX7_copyFrom.desc).map (fun d => d.parameters.length) = some 1 := by decide +kernel
def wqX5_copyFrom : List Cond := .code yX5_copyFrom cX5_copyFrom 2 none :: WALL
theorem pd_X5_copyFrom : yX5_copyFrom.cls ≠ "java/lang/invoke/MethodHandle" ∧ yX5_copyFrom.cls ≠ "java/lang/invoke/VarHandle" ∧ (parseMethodDescriptor yX5_copyFrom.desc).map (fun d => d.parameters.length) = some 1 := by decide +kernel
def wqX6_init : List Cond := .code yX6_init cX6_init 3 none :: WALL
theorem pd_X6_init : yX6_init.cls ≠ "java/lang/invoke/MethodHandle" ∧ yX6_init.cls ≠ "java/lang/invoke/VarHandle" ∧ (parseMethodDescriptor yX6_init.desc).map (fun d => d.parameters.length) = some 1 := by decide +kernel
def wqX6_add : List Cond := .code yX6_add cX6_add 5 (some .int) :: WALL
theorem pd_X6_add : yX6_add.cls ≠ "java/lang/invoke/MethodHandle" ∧ yX6_add.cls ≠ "java/lang/invoke/VarHandle" ∧ (parseMethodDescriptor yX6_add.desc).map (fun d => d.parameters.length) = some 3 := by decide +kernel
def wqX6_meets : List Cond := .code yX6_meets cX6_meets 6 (some .boolean) :: WALL
theorem pd_X6_meets : yX6_meets.cls ≠ "java/lang/invoke/MethodHandle" ∧ yX6_meets.cls ≠ "java/lang/invoke/VarHandle" ∧ (parseMethodDescriptor yX6_meets.desc).map (fun d => d.parameters.length) = some 4 := by decide +kernel
def wqX6_copyFrom : List Cond := .code yX6_copyFrom cX6_copyFrom 2 none :: WALL
theorem pd_X6_copyFrom : yX6_copyFrom.cls ≠ "java/lang/invoke/MethodHandle" ∧ yX6_copyFrom.cls ≠ "java/lang/invoke/VarHandle" ∧ (parseMethodDescriptor yX6_copyFrom.desc).map (fun d => d.parameters.length) = some 1 := by decide +kernel
def wqX7_heel : List Cond := .code yX7_heel cX7_heel 1 (some .int) :: WALL
theorem pd_X7_heel : yX7_heel.cls ≠ "java/lang/invoke/MethodHandle" ∧ yX7_heel.cls ≠ "java/lang/invoke/VarHandle" ∧ (parseMethodDescriptor yX7_heel.desc).map (fun d => d.parameters.length) = some 0 := by decide +kernel
def wqX7_draft : List Cond := .code yX7_draft cX7_draft 1 (some .int) :: WALL
theorem pd_X7_draft : yX7_draft.cls ≠ "java/lang/invoke/MethodHandle" ∧ yX7_draft.cls ≠ "java/lang/invoke/VarHandle" ∧ (parseMethodDescriptor yX7_draft.desc).map (fun d => d.parameters.length) = some 0 := by decide +kernel
def wqX7_space : List Cond := .code yX7_space cX7_space 1 (some .int) :: WALL
theorem pd_X7_space : yX7_space.cls ≠ "java/lang/invoke/MethodHandle" ∧ yX7_space.cls ≠ "java/lang/invoke/VarHandle" ∧ (parseMethodDescriptor yX7_space.desc).map (fun d => d.parameters.length) = some 0 := by decide +kernel
def wqX7_press : List Cond := .code yX7_press cX7_press 1 (some .int) :: WALL
theorem pd_X7_press : yX7_press.cls ≠ "java/lang/invoke/MethodHandle" ∧ yX7_press.cls ≠ "java/lang/invoke/VarHandle" ∧ (parseMethodDescriptor yX7_press.desc).map (fun d => d.parameters.length) = some 0 := by decide +kernel
def wqX7_evaporate : List Cond := .code yX7_evaporate cX7_evaporate 2 none :: WALL
theorem pd_X7_evaporate : yX7_evaporate.cls ≠ "java/lang/invoke/MethodHandle" ∧ yX7_evaporate.cls ≠ "java/lang/invoke/VarHandle" ∧ (parseMethodDescriptor yX7_evaporate.desc).map (fun d => d.parameters.length) = some 1 := by decide +kernel
def wqX7_boil : List Cond := .code yX7_boil cX7_boil 2 none :: WALL
theorem pd_X7_boil : yX7_boil.cls ≠ "java/lang/invoke/MethodHandle" ∧ yX7_boil.cls ≠ "java/lang/invoke/VarHandle" ∧ (parseMethodDescriptor yX7_boil.desc).map (fun d => d.parameters.length) = some 1 := by decide +kernel
def wqX7_warmOrCool : List Cond := .code yX7_warmOrCool cX7_warmOrCool 2 none :: WALL
theorem pd_X7_warmOrCool : yX7_warmOrCool.cls ≠ "java/lang/invoke/MethodHandle" ∧ yX7_warmOrCool.cls ≠ "java/lang/invoke/VarHandle" ∧ (parseMethodDescriptor yX7_warmOrCool.desc).map (fun d => d.parameters.length) = some 0 := by decide +kernel
def wqX7_fill : List Cond := .code yX7_fill cX7_fill 3 none :: WALL
theorem pd_X7_fill : yX7_fill.cls ≠ "java/lang/invoke/MethodHandle" ∧ yX7_fill.cls ≠ "java/lang/invoke/VarHandle" ∧ (parseMethodDescriptor yX7_fill.desc).map (fun d => d.parameters.length) = some 2 := by decide +kernel
def wqX7_vent : List Cond := .code yX7_vent cX7_vent 4 (some .int) :: WALL
theorem pd_X7_vent : yX7_vent.cls ≠ "java/lang/invoke/MethodHandle" ∧ yX7_vent.cls ≠ "java/lang/invoke/VarHandle" ∧ (parseMethodDescriptor yX7_vent.desc).map (fun d => d.parameters.length) = some 1 := by decide +kernel
def wqX8_init : List Cond := .code yX8_init cX8_init 1 none :: WALL
theorem pd_X8_init : yX8_init.cls ≠ "java/lang/invoke/MethodHandle" ∧ yX8_init.cls ≠ "java/lang/invoke/VarHandle" ∧ (parseMethodDescriptor yX8_init.desc).map (fun d => d.parameters.length) = some 0 := by decide +kernel
def wqX8_begin : List Cond := .code yX8_begin cX8_begin 5 none :: WALL
theorem pd_X8_begin : yX8_begin.cls ≠ "java/lang/invoke/MethodHandle" ∧ yX8_begin.cls ≠ "java/lang/invoke/VarHandle" ∧ (parseMethodDescriptor yX8_begin.desc).map (fun d => d.parameters.length) = some 4 := by decide +kernel
def wqX8_tellWay : List Cond := .code yX8_tellWay cX8_tellWay 4 none :: WALL
theorem pd_X8_tellWay : yX8_tellWay.cls ≠ "java/lang/invoke/MethodHandle" ∧ yX8_tellWay.cls ≠ "java/lang/invoke/VarHandle" ∧ (parseMethodDescriptor yX8_tellWay.desc).map (fun d => d.parameters.length) = some 3 := by decide +kernel
def wqX8_copyFrom : List Cond := .code yX8_copyFrom cX8_copyFrom 2 none :: WALL
theorem pd_X8_copyFrom : yX8_copyFrom.cls ≠ "java/lang/invoke/MethodHandle" ∧ yX8_copyFrom.cls ≠ "java/lang/invoke/VarHandle" ∧ (parseMethodDescriptor yX8_copyFrom.desc).map (fun d => d.parameters.length) = some 1 := by decide +kernel
def wqX9_init : List Cond := .code yX9_init cX9_init 2 none :: WALL
theorem pd_X9_init : yX9_init.cls ≠ "java/lang/invoke/MethodHandle" ∧ yX9_init.cls ≠ "java/lang/invoke/VarHandle" ∧ (parseMethodDescriptor yX9_init.desc).map (fun d => d.parameters.length) = some 1 := by decide +kernel
def wqX11_isHour : List Cond := .code yX11_isHour cX11_isHour 1 (some .boolean) :: WALL
theorem pd_X11_isHour : yX11_isHour.cls ≠ "java/lang/invoke/MethodHandle" ∧ yX11_isHour.cls ≠ "java/lang/invoke/VarHandle" ∧ (parseMethodDescriptor yX11_isHour.desc).map (fun d => d.parameters.length) = some 1 := by decide +kernel
def wqX9_takesTurn : List Cond := .code yX9_takesTurn cX9_takesTurn 2 (some .boolean) :: WALL
theorem pd_X9_takesTurn : yX9_takesTurn.cls ≠ "java/lang/invoke/MethodHandle" ∧ yX9_takesTurn.cls ≠ "java/lang/invoke/VarHandle" ∧ (parseMethodDescriptor yX9_takesTurn.desc).map (fun d => d.parameters.length) = some 0 := by decide +kernel
def wqX9_sail : List Cond := .code yX9_sail cX9_sail 4 none :: WALL
theorem pd_X9_sail : yX9_sail.cls ≠ "java/lang/invoke/MethodHandle" ∧ yX9_sail.cls ≠ "java/lang/invoke/VarHandle" ∧ (parseMethodDescriptor yX9_sail.desc).map (fun d => d.parameters.length) = some 1 := by decide +kernel
def wqX11_slotOwner : List Cond := .code yX11_slotOwner cX11_slotOwner 2 (some .int) :: WALL
theorem pd_X11_slotOwner : yX11_slotOwner.cls ≠ "java/lang/invoke/MethodHandle" ∧ yX11_slotOwner.cls ≠ "java/lang/invoke/VarHandle" ∧ (parseMethodDescriptor yX11_slotOwner.desc).map (fun d => d.parameters.length) = some 2 := by decide +kernel
def wqX9_tonsMayGo : List Cond := .code yX9_tonsMayGo cX9_tonsMayGo 6 (some .boolean) :: WALL
theorem pd_X9_tonsMayGo : yX9_tonsMayGo.cls ≠ "java/lang/invoke/MethodHandle" ∧ yX9_tonsMayGo.cls ≠ "java/lang/invoke/VarHandle" ∧ (parseMethodDescriptor yX9_tonsMayGo.desc).map (fun d => d.parameters.length) = some 2 := by decide +kernel
def wqX9_load : List Cond := .code yX9_load cX9_load 6 none :: WALL
theorem pd_X9_load : yX9_load.cls ≠ "java/lang/invoke/MethodHandle" ∧ yX9_load.cls ≠ "java/lang/invoke/VarHandle" ∧ (parseMethodDescriptor yX9_load.desc).map (fun d => d.parameters.length) = some 1 := by decide +kernel
def wqX9_keepLanding : List Cond := .code yX9_keepLanding cX9_keepLanding 5 none :: WALL
theorem pd_X9_keepLanding : yX9_keepLanding.cls ≠ "java/lang/invoke/MethodHandle" ∧ yX9_keepLanding.cls ≠ "java/lang/invoke/VarHandle" ∧ (parseMethodDescriptor yX9_keepLanding.desc).map (fun d => d.parameters.length) = some 2 := by decide +kernel
def wqX9_land : List Cond := .code yX9_land cX9_land 7 none :: WALL
theorem pd_X9_land : yX9_land.cls ≠ "java/lang/invoke/MethodHandle" ∧ yX9_land.cls ≠ "java/lang/invoke/VarHandle" ∧ (parseMethodDescriptor yX9_land.desc).map (fun d => d.parameters.length) = some 2 := by decide +kernel
def wqX9_passShip : List Cond := .code yX9_passShip cX9_passShip 5 none :: WALL
theorem pd_X9_passShip : yX9_passShip.cls ≠ "java/lang/invoke/MethodHandle" ∧ yX9_passShip.cls ≠ "java/lang/invoke/VarHandle" ∧ (parseMethodDescriptor yX9_passShip.desc).map (fun d => d.parameters.length) = some 1 := by decide +kernel
def wqX9_passHour : List Cond := .code yX9_passHour cX9_passHour 2 none :: WALL
theorem pd_X9_passHour : yX9_passHour.cls ≠ "java/lang/invoke/MethodHandle" ∧ yX9_passHour.cls ≠ "java/lang/invoke/VarHandle" ∧ (parseMethodDescriptor yX9_passHour.desc).map (fun d => d.parameters.length) = some 0 := by decide +kernel
def wqX10_init : List Cond := .code yX10_init cX10_init 2 none :: WALL
theorem pd_X10_init : yX10_init.cls ≠ "java/lang/invoke/MethodHandle" ∧ yX10_init.cls ≠ "java/lang/invoke/VarHandle" ∧ (parseMethodDescriptor yX10_init.desc).map (fun d => d.parameters.length) = some 0 := by decide +kernel
def wqX10_hasContract : List Cond := .code yX10_hasContract cX10_hasContract 2 (some .boolean) :: WALL
theorem pd_X10_hasContract : yX10_hasContract.cls ≠ "java/lang/invoke/MethodHandle" ∧ yX10_hasContract.cls ≠ "java/lang/invoke/VarHandle" ∧ (parseMethodDescriptor yX10_hasContract.desc).map (fun d => d.parameters.length) = some 1 := by decide +kernel
def wqX10_isSettled : List Cond := .code yX10_isSettled cX10_isSettled 2 (some .boolean) :: WALL
theorem pd_X10_isSettled : yX10_isSettled.cls ≠ "java/lang/invoke/MethodHandle" ∧ yX10_isSettled.cls ≠ "java/lang/invoke/VarHandle" ∧ (parseMethodDescriptor yX10_isSettled.desc).map (fun d => d.parameters.length) = some 1 := by decide +kernel
def wqX10_copyFrom : List Cond := .code yX10_copyFrom cX10_copyFrom 3 none :: WALL
theorem pd_X10_copyFrom : yX10_copyFrom.cls ≠ "java/lang/invoke/MethodHandle" ∧ yX10_copyFrom.cls ≠ "java/lang/invoke/VarHandle" ∧ (parseMethodDescriptor yX10_copyFrom.desc).map (fun d => d.parameters.length) = some 1 := by decide +kernel
def wqX11_init : List Cond := .code yX11_init cX11_init 1 none :: WALL
theorem pd_X11_init : yX11_init.cls ≠ "java/lang/invoke/MethodHandle" ∧ yX11_init.cls ≠ "java/lang/invoke/VarHandle" ∧ (parseMethodDescriptor yX11_init.desc).map (fun d => d.parameters.length) = some 0 := by decide +kernel
def wqX11_refuse : List Cond := .code yX11_refuse cX11_refuse 2 (some .int) :: WALL
theorem pd_X11_refuse : yX11_refuse.cls ≠ "java/lang/invoke/MethodHandle" ∧ yX11_refuse.cls ≠ "java/lang/invoke/VarHandle" ∧ (parseMethodDescriptor yX11_refuse.desc).map (fun d => d.parameters.length) = some 1 := by decide +kernel
def wqX11_accept : List Cond := .code yX11_accept cX11_accept 2 (some .int) :: WALL
theorem pd_X11_accept : yX11_accept.cls ≠ "java/lang/invoke/MethodHandle" ∧ yX11_accept.cls ≠ "java/lang/invoke/VarHandle" ∧ (parseMethodDescriptor yX11_accept.desc).map (fun d => d.parameters.length) = some 1 := by decide +kernel
def wqX11_terminal : List Cond := .code yX11_terminal cX11_terminal 6 (some .int) :: WALL
theorem pd_X11_terminal : yX11_terminal.cls ≠ "java/lang/invoke/MethodHandle" ∧ yX11_terminal.cls ≠ "java/lang/invoke/VarHandle" ∧ (parseMethodDescriptor yX11_terminal.desc).map (fun d => d.parameters.length) = some 4 := by decide +kernel
def wqX11_ship : List Cond := .code yX11_ship cX11_ship 5 (some .int) :: WALL
theorem pd_X11_ship : yX11_ship.cls ≠ "java/lang/invoke/MethodHandle" ∧ yX11_ship.cls ≠ "java/lang/invoke/VarHandle" ∧ (parseMethodDescriptor yX11_ship.desc).map (fun d => d.parameters.length) = some 3 := by decide +kernel
def wqX11_way : List Cond := .code yX11_way cX11_way 5 (some .int) :: WALL
theorem pd_X11_way : yX11_way.cls ≠ "java/lang/invoke/MethodHandle" ∧ yX11_way.cls ≠ "java/lang/invoke/VarHandle" ∧ (parseMethodDescriptor yX11_way.desc).map (fun d => d.parameters.length) = some 4 := by decide +kernel
def wqX11_tide : List Cond := .code yX11_tide cX11_tide 3 (some .int) :: WALL
theorem pd_X11_tide : yX11_tide.cls ≠ "java/lang/invoke/MethodHandle" ∧ yX11_tide.cls ≠ "java/lang/invoke/VarHandle" ∧ (parseMethodDescriptor yX11_tide.desc).map (fun d => d.parameters.length) = some 2 := by decide +kernel
def wqX11_sea : List Cond := .code yX11_sea cX11_sea 3 (some .int) :: WALL
theorem pd_X11_sea : yX11_sea.cls ≠ "java/lang/invoke/MethodHandle" ∧ yX11_sea.cls ≠ "java/lang/invoke/VarHandle" ∧ (parseMethodDescriptor yX11_sea.desc).map (fun d => d.parameters.length) = some 2 := by decide +kernel
def wqX11_isSpan : List Cond := .code yX11_isSpan cX11_isSpan 2 (some .boolean) :: WALL
theorem pd_X11_isSpan : yX11_isSpan.cls ≠ "java/lang/invoke/MethodHandle" ∧ yX11_isSpan.cls ≠ "java/lang/invoke/VarHandle" ∧ (parseMethodDescriptor yX11_isSpan.desc).map (fun d => d.parameters.length) = some 2 := by decide +kernel
def wqX11_acceptOrFull : List Cond := .code yX11_acceptOrFull cX11_acceptOrFull 2 (some .int) :: WALL
theorem pd_X11_acceptOrFull : yX11_acceptOrFull.cls ≠ "java/lang/invoke/MethodHandle" ∧ yX11_acceptOrFull.cls ≠ "java/lang/invoke/VarHandle" ∧ (parseMethodDescriptor yX11_acceptOrFull.desc).map (fun d => d.parameters.length) = some 1 := by decide +kernel
def wqX11_slot : List Cond := .code yX11_slot cX11_slot 5 (some .int) :: WALL
theorem pd_X11_slot : yX11_slot.cls ≠ "java/lang/invoke/MethodHandle" ∧ yX11_slot.cls ≠ "java/lang/invoke/VarHandle" ∧ (parseMethodDescriptor yX11_slot.desc).map (fun d => d.parameters.length) = some 4 := by decide +kernel
def wqX11_broken : List Cond := .code yX11_broken cX11_broken 4 (some .int) :: WALL
theorem pd_X11_broken : yX11_broken.cls ≠ "java/lang/invoke/MethodHandle" ∧ yX11_broken.cls ≠ "java/lang/invoke/VarHandle" ∧ (parseMethodDescriptor yX11_broken.desc).map (fun d => d.parameters.length) = some 3 := by decide +kernel
def wqX11_terms : List Cond := .code yX11_terms cX11_terms 3 (some .int) :: WALL
theorem pd_X11_terms : yX11_terms.cls ≠ "java/lang/invoke/MethodHandle" ∧ yX11_terms.cls ≠ "java/lang/invoke/VarHandle" ∧ (parseMethodDescriptor yX11_terms.desc).map (fun d => d.parameters.length) = some 2 := by decide +kernel
def wqX11_isOrder : List Cond := .code yX11_isOrder cX11_isOrder 2 (some .boolean) :: WALL
theorem pd_X11_isOrder : yX11_isOrder.cls ≠ "java/lang/invoke/MethodHandle" ∧ yX11_isOrder.cls ≠ "java/lang/invoke/VarHandle" ∧ (parseMethodDescriptor yX11_isOrder.desc).map (fun d => d.parameters.length) = some 2 := by decide +kernel
def wqX11_order : List Cond := .code yX11_order cX11_order 5 (some .int) :: WALL
theorem pd_X11_order : yX11_order.cls ≠ "java/lang/invoke/MethodHandle" ∧ yX11_order.cls ≠ "java/lang/invoke/VarHandle" ∧ (parseMethodDescriptor yX11_order.desc).map (fun d => d.parameters.length) = some 3 := by decide +kernel
def wqX11_go : List Cond := .code yX11_go cX11_go 3 (some .int) :: WALL
theorem pd_X11_go : yX11_go.cls ≠ "java/lang/invoke/MethodHandle" ∧ yX11_go.cls ≠ "java/lang/invoke/VarHandle" ∧ (parseMethodDescriptor yX11_go.desc).map (fun d => d.parameters.length) = some 1 := by decide +kernel
def wqX11_of : List Cond := .code yX11_of cX11_of 4 (some .int) :: WALL
theorem pd_X11_of : yX11_of.cls ≠ "java/lang/invoke/MethodHandle" ∧ yX11_of.cls ≠ "java/lang/invoke/VarHandle" ∧ (parseMethodDescriptor yX11_of.desc).map (fun d => d.parameters.length) = some 2 := by decide +kernel
def wqX11_part : List Cond := .code yX11_part cX11_part 3 (some .int) :: WALL
theorem pd_X11_part : yX11_part.cls ≠ "java/lang/invoke/MethodHandle" ∧ yX11_part.cls ≠ "java/lang/invoke/VarHandle" ∧ (parseMethodDescriptor yX11_part.desc).map (fun d => d.parameters.length) = some 2 := by decide +kernel
def wqX11_book : List Cond := .code yX11_book cX11_book 3 (some .long) :: WALL
theorem pd_X11_book : yX11_book.cls ≠ "java/lang/invoke/MethodHandle" ∧ yX11_book.cls ≠ "java/lang/invoke/VarHandle" ∧ (parseMethodDescriptor yX11_book.desc).map (fun d => d.parameters.length) = some 2 := by decide +kernel
def wqX11_store : List Cond := .code yX11_store cX11_store 2 (some .int) :: WALL
theorem pd_X11_store : yX11_store.cls ≠ "java/lang/invoke/MethodHandle" ∧ yX11_store.cls ≠ "java/lang/invoke/VarHandle" ∧ (parseMethodDescriptor yX11_store.desc).map (fun d => d.parameters.length) = some 1 := by decide +kernel
def wqX11_landing : List Cond := .code yX11_landing cX11_landing 3 (some .int) :: WALL
theorem pd_X11_landing : yX11_landing.cls ≠ "java/lang/invoke/MethodHandle" ∧ yX11_landing.cls ≠ "java/lang/invoke/VarHandle" ∧ (parseMethodDescriptor yX11_landing.desc).map (fun d => d.parameters.length) = some 2 := by decide +kernel
def wqX11_led : List Cond := .code yX11_led cX11_led 3 (some .int) :: WALL
theorem pd_X11_led : yX11_led.cls ≠ "java/lang/invoke/MethodHandle" ∧ yX11_led.cls ≠ "java/lang/invoke/VarHandle" ∧ (parseMethodDescriptor yX11_led.desc).map (fun d => d.parameters.length) = some 2 := by decide +kernel
def wqX11_heat : List Cond := .code yX11_heat cX11_heat 4 (some .int) :: WALL
theorem pd_X11_heat : yX11_heat.cls ≠ "java/lang/invoke/MethodHandle" ∧ yX11_heat.cls ≠ "java/lang/invoke/VarHandle" ∧ (parseMethodDescriptor yX11_heat.desc).map (fun d => d.parameters.length) = some 2 := by decide +kernel
def wqX11_price : List Cond := .code yX11_price cX11_price 5 (some .int) :: WALL
theorem pd_X11_price : yX11_price.cls ≠ "java/lang/invoke/MethodHandle" ∧ yX11_price.cls ≠ "java/lang/invoke/VarHandle" ∧ (parseMethodDescriptor yX11_price.desc).map (fun d => d.parameters.length) = some 3 := by decide +kernel
def wqX11_force : List Cond := .code yX11_force cX11_force 4 (some .int) :: WALL
theorem pd_X11_force : yX11_force.cls ≠ "java/lang/invoke/MethodHandle" ∧ yX11_force.cls ≠ "java/lang/invoke/VarHandle" ∧ (parseMethodDescriptor yX11_force.desc).map (fun d => d.parameters.length) = some 3 := by decide +kernel
def wqX11_bill : List Cond := .code yX11_bill cX11_bill 3 (some .int) :: WALL
theorem pd_X11_bill : yX11_bill.cls ≠ "java/lang/invoke/MethodHandle" ∧ yX11_bill.cls ≠ "java/lang/invoke/VarHandle" ∧ (parseMethodDescriptor yX11_bill.desc).map (fun d => d.parameters.length) = some 2 := by decide +kernel
def wqX11_feed : List Cond := .code yX11_feed cX11_feed 6 (some .int) :: WALL
theorem pd_X11_feed : yX11_feed.cls ≠ "java/lang/invoke/MethodHandle" ∧ yX11_feed.cls ≠ "java/lang/invoke/VarHandle" ∧ (parseMethodDescriptor yX11_feed.desc).map (fun d => d.parameters.length) = some 5 := by decide +kernel
def wqX11_end : List Cond := .code yX11_end cX11_end 2 (some .int) :: WALL
theorem pd_X11_end : yX11_end.cls ≠ "java/lang/invoke/MethodHandle" ∧ yX11_end.cls ≠ "java/lang/invoke/VarHandle" ∧ (parseMethodDescriptor yX11_end.desc).map (fun d => d.parameters.length) = some 1 := by decide +kernel
def wqX11_contract : List Cond := .code yX11_contract cX11_contract 4 (some .int) :: WALL
theorem pd_X11_contract : yX11_contract.cls ≠ "java/lang/invoke/MethodHandle" ∧ yX11_contract.cls ≠ "java/lang/invoke/VarHandle" ∧ (parseMethodDescriptor yX11_contract.desc).map (fun d => d.parameters.length) = some 0 := by decide +kernel
def wqX11_fault : List Cond := .code yX11_fault cX11_fault 1 (some .int) :: WALL
theorem pd_X11_fault : yX11_fault.cls ≠ "java/lang/invoke/MethodHandle" ∧ yX11_fault.cls ≠ "java/lang/invoke/VarHandle" ∧ (parseMethodDescriptor yX11_fault.desc).map (fun d => d.parameters.length) = some 0 := by decide +kernel
def wqX11_due : List Cond := .code yX11_due cX11_due 5 (some .long) :: WALL
theorem pd_X11_due : yX11_due.cls ≠ "java/lang/invoke/MethodHandle" ∧ yX11_due.cls ≠ "java/lang/invoke/VarHandle" ∧ (parseMethodDescriptor yX11_due.desc).map (fun d => d.parameters.length) = some 4 := by decide +kernel
def wqX11_settle : List Cond := .code yX11_settle cX11_settle 3 (some .int) :: WALL
theorem pd_X11_settle : yX11_settle.cls ≠ "java/lang/invoke/MethodHandle" ∧ yX11_settle.cls ≠ "java/lang/invoke/VarHandle" ∧ (parseMethodDescriptor yX11_settle.desc).map (fun d => d.parameters.length) = some 2 := by decide +kernel
def wqX11_settled : List Cond := .code yX11_settled cX11_settled 3 (some .long) :: WALL
theorem pd_X11_settled : yX11_settled.cls ≠ "java/lang/invoke/MethodHandle" ∧ yX11_settled.cls ≠ "java/lang/invoke/VarHandle" ∧ (parseMethodDescriptor yX11_settled.desc).map (fun d => d.parameters.length) = some 2 := by decide +kernel
def wqX11_table : List Cond := .code yX11_table cX11_table 5 (some .int) :: WALL
theorem pd_X11_table : yX11_table.cls ≠ "java/lang/invoke/MethodHandle" ∧ yX11_table.cls ≠ "java/lang/invoke/VarHandle" ∧ (parseMethodDescriptor yX11_table.desc).map (fun d => d.parameters.length) = some 4 := by decide +kernel
def wqX11_list : List Cond := .code yX11_list cX11_list 4 (some .int) :: WALL
theorem pd_X11_list : yX11_list.cls ≠ "java/lang/invoke/MethodHandle" ∧ yX11_list.cls ≠ "java/lang/invoke/VarHandle" ∧ (parseMethodDescriptor yX11_list.desc).map (fun d => d.parameters.length) = some 2 := by decide +kernel
def wqX11_reading : List Cond := .code yX11_reading cX11_reading 7 (some .int) :: WALL
theorem pd_X11_reading : yX11_reading.cls ≠ "java/lang/invoke/MethodHandle" ∧ yX11_reading.cls ≠ "java/lang/invoke/VarHandle" ∧ (parseMethodDescriptor yX11_reading.desc).map (fun d => d.parameters.length) = some 5 := by decide +kernel
def wqX11_gauged : List Cond := .code yX11_gauged cX11_gauged 4 (some .long) :: WALL
theorem pd_X11_gauged : yX11_gauged.cls ≠ "java/lang/invoke/MethodHandle" ∧ yX11_gauged.cls ≠ "java/lang/invoke/VarHandle" ∧ (parseMethodDescriptor yX11_gauged.desc).map (fun d => d.parameters.length) = some 3 := by decide +kernel
def wqX11_cargo : List Cond := .code yX11_cargo cX11_cargo 10 (some .int) :: WALL
theorem pd_X11_cargo : yX11_cargo.cls ≠ "java/lang/invoke/MethodHandle" ∧ yX11_cargo.cls ≠ "java/lang/invoke/VarHandle" ∧ (parseMethodDescriptor yX11_cargo.desc).map (fun d => d.parameters.length) = some 8 := by decide +kernel
def wqX11_clear : List Cond := .code yX11_clear cX11_clear 2 (some .int) :: WALL
theorem pd_X11_clear : yX11_clear.cls ≠ "java/lang/invoke/MethodHandle" ∧ yX11_clear.cls ≠ "java/lang/invoke/VarHandle" ∧ (parseMethodDescriptor yX11_clear.desc).map (fun d => d.parameters.length) = some 0 := by decide +kernel
def wqX11_best : List Cond := .code yX11_best cX11_best 2 (some .long) :: WALL
theorem pd_X11_best : yX11_best.cls ≠ "java/lang/invoke/MethodHandle" ∧ yX11_best.cls ≠ "java/lang/invoke/VarHandle" ∧ (parseMethodDescriptor yX11_best.desc).map (fun d => d.parameters.length) = some 1 := by decide +kernel
def wqX11_voyage : List Cond := .code yX11_voyage cX11_voyage 3 (some .long) :: WALL
theorem pd_X11_voyage : yX11_voyage.cls ≠ "java/lang/invoke/MethodHandle" ∧ yX11_voyage.cls ≠ "java/lang/invoke/VarHandle" ∧ (parseMethodDescriptor yX11_voyage.desc).map (fun d => d.parameters.length) = some 2 := by decide +kernel
def wqX11_judge : List Cond := .code yX11_judge cX11_judge 6 (some .long) :: WALL
theorem pd_X11_judge : yX11_judge.cls ≠ "java/lang/invoke/MethodHandle" ∧ yX11_judge.cls ≠ "java/lang/invoke/VarHandle" ∧ (parseMethodDescriptor yX11_judge.desc).map (fun d => d.parameters.length) = some 5 := by decide +kernel
def wqX11_image : List Cond := .code yX11_image cX11_image 2 (some .int) :: WALL
theorem pd_X11_image : yX11_image.cls ≠ "java/lang/invoke/MethodHandle" ∧ yX11_image.cls ≠ "java/lang/invoke/VarHandle" ∧ (parseMethodDescriptor yX11_image.desc).map (fun d => d.parameters.length) = some 1 := by decide +kernel
def wqX11_back : List Cond := .code yX11_back cX11_back 2 (some .int) :: WALL
theorem pd_X11_back : yX11_back.cls ≠ "java/lang/invoke/MethodHandle" ∧ yX11_back.cls ≠ "java/lang/invoke/VarHandle" ∧ (parseMethodDescriptor yX11_back.desc).map (fun d => d.parameters.length) = some 1 := by decide +kernel
def wqX11_count : List Cond := .code yX11_count cX11_count 2 (some .int) :: WALL
theorem pd_X11_count : yX11_count.cls ≠ "java/lang/invoke/MethodHandle" ∧ yX11_count.cls ≠ "java/lang/invoke/VarHandle" ∧ (parseMethodDescriptor yX11_count.desc).map (fun d => d.parameters.length) = some 1 := by decide +kernel
def wqX11_status : List Cond := .code yX11_status cX11_status 1 (some .int) :: WALL
theorem pd_X11_status : yX11_status.cls ≠ "java/lang/invoke/MethodHandle" ∧ yX11_status.cls ≠ "java/lang/invoke/VarHandle" ∧ (parseMethodDescriptor yX11_status.desc).map (fun d => d.parameters.length) = some 0 := by decide +kernel
def wqX12_init : List Cond := .code yX12_init cX12_init 1 none :: WALL
theorem pd_X12_init : yX12_init.cls ≠ "java/lang/invoke/MethodHandle" ∧ yX12_init.cls ≠ "java/lang/invoke/VarHandle" ∧ (parseMethodDescriptor yX12_init.desc).map (fun d => d.parameters.length) = some 0 := by decide +kernel
def wqX12_in : List Cond := .code yX12_in cX12_in 6 (some .boolean) :: WALL
theorem pd_X12_in : yX12_in.cls ≠ "java/lang/invoke/MethodHandle" ∧ yX12_in.cls ≠ "java/lang/invoke/VarHandle" ∧ (parseMethodDescriptor yX12_in.desc).map (fun d => d.parameters.length) = some 3 := by decide +kernel
def wqX12_told : List Cond := .code yX12_told cX12_told 2 (some .int) :: WALL
theorem pd_X12_told : yX12_told.cls ≠ "java/lang/invoke/MethodHandle" ∧ yX12_told.cls ≠ "java/lang/invoke/VarHandle" ∧ (parseMethodDescriptor yX12_told.desc).map (fun d => d.parameters.length) = some 1 := by decide +kernel
def wqX12_isHour : List Cond := .code yX12_isHour cX12_isHour 1 (some .boolean) :: WALL
theorem pd_X12_isHour : yX12_isHour.cls ≠ "java/lang/invoke/MethodHandle" ∧ yX12_isHour.cls ≠ "java/lang/invoke/VarHandle" ∧ (parseMethodDescriptor yX12_isHour.desc).map (fun d => d.parameters.length) = some 1 := by decide +kernel
def wqX12_isDay : List Cond := .code yX12_isDay cX12_isDay 1 (some .boolean) :: WALL
theorem pd_X12_isDay : yX12_isDay.cls ≠ "java/lang/invoke/MethodHandle" ∧ yX12_isDay.cls ≠ "java/lang/invoke/VarHandle" ∧ (parseMethodDescriptor yX12_isDay.desc).map (fun d => d.parameters.length) = some 1 := by decide +kernel
def wqX12_addFour : List Cond := .code yX12_addFour cX12_addFour 6 none :: WALL
theorem pd_X12_addFour : yX12_addFour.cls ≠ "java/lang/invoke/MethodHandle" ∧ yX12_addFour.cls ≠ "java/lang/invoke/VarHandle" ∧ (parseMethodDescriptor yX12_addFour.desc).map (fun d => d.parameters.length) = some 5 := by decide +kernel
def wqX12_image : List Cond := .code yX12_image cX12_image 3 (some .int) :: WALL
theorem pd_X12_image : yX12_image.cls ≠ "java/lang/invoke/MethodHandle" ∧ yX12_image.cls ≠ "java/lang/invoke/VarHandle" ∧ (parseMethodDescriptor yX12_image.desc).map (fun d => d.parameters.length) = some 1 := by decide +kernel
def wqX12_back : List Cond := .code yX12_back cX12_back 3 (some .int) :: WALL
theorem pd_X12_back : yX12_back.cls ≠ "java/lang/invoke/MethodHandle" ∧ yX12_back.cls ≠ "java/lang/invoke/VarHandle" ∧ (parseMethodDescriptor yX12_back.desc).map (fun d => d.parameters.length) = some 1 := by decide +kernel
def wqX12_isTerminal : List Cond := .code yX12_isTerminal cX12_isTerminal 2 (some .boolean) :: WALL
theorem pd_X12_isTerminal : yX12_isTerminal.cls ≠ "java/lang/invoke/MethodHandle" ∧ yX12_isTerminal.cls ≠ "java/lang/invoke/VarHandle" ∧ (parseMethodDescriptor yX12_isTerminal.desc).map (fun d => d.parameters.length) = some 1 := by decide +kernel
def wqX12_isShip : List Cond := .code yX12_isShip cX12_isShip 2 (some .boolean) :: WALL
theorem pd_X12_isShip : yX12_isShip.cls ≠ "java/lang/invoke/MethodHandle" ∧ yX12_isShip.cls ≠ "java/lang/invoke/VarHandle" ∧ (parseMethodDescriptor yX12_isShip.desc).map (fun d => d.parameters.length) = some 1 := by decide +kernel
def wqX12_shipAt : List Cond := .code yX12_shipAt cX12_shipAt 1 (some .int) :: WALL
theorem pd_X12_shipAt : yX12_shipAt.cls ≠ "java/lang/invoke/MethodHandle" ∧ yX12_shipAt.cls ≠ "java/lang/invoke/VarHandle" ∧ (parseMethodDescriptor yX12_shipAt.desc).map (fun d => d.parameters.length) = some 1 := by decide +kernel
def wqX12_terminalAt : List Cond := .code yX12_terminalAt cX12_terminalAt 1 (some .int) :: WALL
theorem pd_X12_terminalAt : yX12_terminalAt.cls ≠ "java/lang/invoke/MethodHandle" ∧ yX12_terminalAt.cls ≠ "java/lang/invoke/VarHandle" ∧ (parseMethodDescriptor yX12_terminalAt.desc).map (fun d => d.parameters.length) = some 1 := by decide +kernel
def wqX12_terminal : List Cond := .code yX12_terminal cX12_terminal 6 (some .int) :: WALL
theorem pd_X12_terminal : yX12_terminal.cls ≠ "java/lang/invoke/MethodHandle" ∧ yX12_terminal.cls ≠ "java/lang/invoke/VarHandle" ∧ (parseMethodDescriptor yX12_terminal.desc).map (fun d => d.parameters.length) = some 4 := by decide +kernel
def wqX12_ship : List Cond := .code yX12_ship cX12_ship 6 (some .int) :: WALL
theorem pd_X12_ship : yX12_ship.cls ≠ "java/lang/invoke/MethodHandle" ∧ yX12_ship.cls ≠ "java/lang/invoke/VarHandle" ∧ (parseMethodDescriptor yX12_ship.desc).map (fun d => d.parameters.length) = some 3 := by decide +kernel
def wqX12_way : List Cond := .code yX12_way cX12_way 7 (some .int) :: WALL
theorem pd_X12_way : yX12_way.cls ≠ "java/lang/invoke/MethodHandle" ∧ yX12_way.cls ≠ "java/lang/invoke/VarHandle" ∧ (parseMethodDescriptor yX12_way.desc).map (fun d => d.parameters.length) = some 4 := by decide +kernel
def wqX12_wayOf : List Cond := .code yX12_wayOf cX12_wayOf 3 (some .int) :: WALL
theorem pd_X12_wayOf : yX12_wayOf.cls ≠ "java/lang/invoke/MethodHandle" ∧ yX12_wayOf.cls ≠ "java/lang/invoke/VarHandle" ∧ (parseMethodDescriptor yX12_wayOf.desc).map (fun d => d.parameters.length) = some 2 := by decide +kernel
def wqX12_tide : List Cond := .code yX12_tide cX12_tide 3 (some .int) :: WALL
theorem pd_X12_tide : yX12_tide.cls ≠ "java/lang/invoke/MethodHandle" ∧ yX12_tide.cls ≠ "java/lang/invoke/VarHandle" ∧ (parseMethodDescriptor yX12_tide.desc).map (fun d => d.parameters.length) = some 2 := by decide +kernel
def wqX12_sea : List Cond := .code yX12_sea cX12_sea 3 (some .int) :: WALL
theorem pd_X12_sea : yX12_sea.cls ≠ "java/lang/invoke/MethodHandle" ∧ yX12_sea.cls ≠ "java/lang/invoke/VarHandle" ∧ (parseMethodDescriptor yX12_sea.desc).map (fun d => d.parameters.length) = some 2 := by decide +kernel
def wqX12_slot : List Cond := .code yX12_slot cX12_slot 7 (some .int) :: WALL
theorem pd_X12_slot : yX12_slot.cls ≠ "java/lang/invoke/MethodHandle" ∧ yX12_slot.cls ≠ "java/lang/invoke/VarHandle" ∧ (parseMethodDescriptor yX12_slot.desc).map (fun d => d.parameters.length) = some 4 := by decide +kernel
def wqX12_broken : List Cond := .code yX12_broken cX12_broken 5 (some .int) :: WALL
theorem pd_X12_broken : yX12_broken.cls ≠ "java/lang/invoke/MethodHandle" ∧ yX12_broken.cls ≠ "java/lang/invoke/VarHandle" ∧ (parseMethodDescriptor yX12_broken.desc).map (fun d => d.parameters.length) = some 3 := by decide +kernel
def wqX12_isBroken : List Cond := .code yX12_isBroken cX12_isBroken 6 (some .boolean) :: WALL
theorem pd_X12_isBroken : yX12_isBroken.cls ≠ "java/lang/invoke/MethodHandle" ∧ yX12_isBroken.cls ≠ "java/lang/invoke/VarHandle" ∧ (parseMethodDescriptor yX12_isBroken.desc).map (fun d => d.parameters.length) = some 2 := by decide +kernel
def wqX12_terms : List Cond := .code yX12_terms cX12_terms 3 (some .int) :: WALL
theorem pd_X12_terms : yX12_terms.cls ≠ "java/lang/invoke/MethodHandle" ∧ yX12_terms.cls ≠ "java/lang/invoke/VarHandle" ∧ (parseMethodDescriptor yX12_terms.desc).map (fun d => d.parameters.length) = some 2 := by decide +kernel
def wqX12_beginOrder : List Cond := .code yX12_beginOrder cX12_beginOrder 3 none :: WALL
theorem pd_X12_beginOrder : yX12_beginOrder.cls ≠ "java/lang/invoke/MethodHandle" ∧ yX12_beginOrder.cls ≠ "java/lang/invoke/VarHandle" ∧ (parseMethodDescriptor yX12_beginOrder.desc).map (fun d => d.parameters.length) = some 1 := by decide +kernel
def wqX12_order : List Cond := .code yX12_order cX12_order 7 (some .int) :: WALL
theorem pd_X12_order : yX12_order.cls ≠ "java/lang/invoke/MethodHandle" ∧ yX12_order.cls ≠ "java/lang/invoke/VarHandle" ∧ (parseMethodDescriptor yX12_order.desc).map (fun d => d.parameters.length) = some 3 := by decide +kernel
def wqX12_take : List Cond := .code yX12_take cX12_take 8 none :: WALL
theorem pd_X12_take : yX12_take.cls ≠ "java/lang/invoke/MethodHandle" ∧ yX12_take.cls ≠ "java/lang/invoke/VarHandle" ∧ (parseMethodDescriptor yX12_take.desc).map (fun d => d.parameters.length) = some 2 := by decide +kernel
def wqX12_heelOf : List Cond := .code yX12_heelOf cX12_heelOf 2 (some .int) :: WALL
theorem pd_X12_heelOf : yX12_heelOf.cls ≠ "java/lang/invoke/MethodHandle" ∧ yX12_heelOf.cls ≠ "java/lang/invoke/VarHandle" ∧ (parseMethodDescriptor yX12_heelOf.desc).map (fun d => d.parameters.length) = some 1 := by decide +kernel
def wqX12_topOf : List Cond := .code yX12_topOf cX12_topOf 2 (some .int) :: WALL
theorem pd_X12_topOf : yX12_topOf.cls ≠ "java/lang/invoke/MethodHandle" ∧ yX12_topOf.cls ≠ "java/lang/invoke/VarHandle" ∧ (parseMethodDescriptor yX12_topOf.desc).map (fun d => d.parameters.length) = some 1 := by decide +kernel
def wqX12_draftOf : List Cond := .code yX12_draftOf cX12_draftOf 2 (some .int) :: WALL
theorem pd_X12_draftOf : yX12_draftOf.cls ≠ "java/lang/invoke/MethodHandle" ∧ yX12_draftOf.cls ≠ "java/lang/invoke/VarHandle" ∧ (parseMethodDescriptor yX12_draftOf.desc).map (fun d => d.parameters.length) = some 1 := by decide +kernel
def wqX12_roomOf : List Cond := .code yX12_roomOf cX12_roomOf 2 (some .int) :: WALL
theorem pd_X12_roomOf : yX12_roomOf.cls ≠ "java/lang/invoke/MethodHandle" ∧ yX12_roomOf.cls ≠ "java/lang/invoke/VarHandle" ∧ (parseMethodDescriptor yX12_roomOf.desc).map (fun d => d.parameters.length) = some 1 := by decide +kernel
def wqX12_pressOf : List Cond := .code yX12_pressOf cX12_pressOf 2 (some .int) :: WALL
theorem pd_X12_pressOf : yX12_pressOf.cls ≠ "java/lang/invoke/MethodHandle" ∧ yX12_pressOf.cls ≠ "java/lang/invoke/VarHandle" ∧ (parseMethodDescriptor yX12_pressOf.desc).map (fun d => d.parameters.length) = some 1 := by decide +kernel
def wqX12_burn : List Cond := .code yX12_burn cX12_burn 5 none :: WALL
theorem pd_X12_burn : yX12_burn.cls ≠ "java/lang/invoke/MethodHandle" ∧ yX12_burn.cls ≠ "java/lang/invoke/VarHandle" ∧ (parseMethodDescriptor yX12_burn.desc).map (fun d => d.parameters.length) = some 1 := by decide +kernel
def wqX12_endOrder : List Cond := .code yX12_endOrder cX12_endOrder 3 none :: WALL
theorem pd_X12_endOrder : yX12_endOrder.cls ≠ "java/lang/invoke/MethodHandle" ∧ yX12_endOrder.cls ≠ "java/lang/invoke/VarHandle" ∧ (parseMethodDescriptor yX12_endOrder.desc).map (fun d => d.parameters.length) = some 1 := by decide +kernel
def wqX12_sail : List Cond := .code yX12_sail cX12_sail 5 none :: WALL
theorem pd_X12_sail : yX12_sail.cls ≠ "java/lang/invoke/MethodHandle" ∧ yX12_sail.cls ≠ "java/lang/invoke/VarHandle" ∧ (parseMethodDescriptor yX12_sail.desc).map (fun d => d.parameters.length) = some 3 := by decide +kernel
def wqX12_mayGo : List Cond := .code yX12_mayGo cX12_mayGo 8 (some .boolean) :: WALL
theorem pd_X12_mayGo : yX12_mayGo.cls ≠ "java/lang/invoke/MethodHandle" ∧ yX12_mayGo.cls ≠ "java/lang/invoke/VarHandle" ∧ (parseMethodDescriptor yX12_mayGo.desc).map (fun d => d.parameters.length) = some 3 := by decide +kernel
def wqX12_lesser : List Cond := .code yX12_lesser cX12_lesser 2 (some .int) :: WALL
theorem pd_X12_lesser : yX12_lesser.cls ≠ "java/lang/invoke/MethodHandle" ∧ yX12_lesser.cls ≠ "java/lang/invoke/VarHandle" ∧ (parseMethodDescriptor yX12_lesser.desc).map (fun d => d.parameters.length) = some 2 := by decide +kernel
def wqX12_toLoad : List Cond := .code yX12_toLoad cX12_toLoad 4 (some .int) :: WALL
theorem pd_X12_toLoad : yX12_toLoad.cls ≠ "java/lang/invoke/MethodHandle" ∧ yX12_toLoad.cls ≠ "java/lang/invoke/VarHandle" ∧ (parseMethodDescriptor yX12_toLoad.desc).map (fun d => d.parameters.length) = some 1 := by decide +kernel
def wqX12_toLand : List Cond := .code yX12_toLand cX12_toLand 3 (some .int) :: WALL
theorem pd_X12_toLand : yX12_toLand.cls ≠ "java/lang/invoke/MethodHandle" ∧ yX12_toLand.cls ≠ "java/lang/invoke/VarHandle" ∧ (parseMethodDescriptor yX12_toLand.desc).map (fun d => d.parameters.length) = some 1 := by decide +kernel
def wqX12_load : List Cond := .code yX12_load cX12_load 3 none :: WALL
theorem pd_X12_load : yX12_load.cls ≠ "java/lang/invoke/MethodHandle" ∧ yX12_load.cls ≠ "java/lang/invoke/VarHandle" ∧ (parseMethodDescriptor yX12_load.desc).map (fun d => d.parameters.length) = some 2 := by decide +kernel
def wqX12_land : List Cond := .code yX12_land cX12_land 5 none :: WALL
theorem pd_X12_land : yX12_land.cls ≠ "java/lang/invoke/MethodHandle" ∧ yX12_land.cls ≠ "java/lang/invoke/VarHandle" ∧ (parseMethodDescriptor yX12_land.desc).map (fun d => d.parameters.length) = some 3 := by decide +kernel
def wqX12_endLanding : List Cond := .code yX12_endLanding cX12_endLanding 5 none :: WALL
theorem pd_X12_endLanding : yX12_endLanding.cls ≠ "java/lang/invoke/MethodHandle" ∧ yX12_endLanding.cls ≠ "java/lang/invoke/VarHandle" ∧ (parseMethodDescriptor yX12_endLanding.desc).map (fun d => d.parameters.length) = some 2 := by decide +kernel
def wqX12_doOrder : List Cond := .code yX12_doOrder cX12_doOrder 7 none :: WALL
theorem pd_X12_doOrder : yX12_doOrder.cls ≠ "java/lang/invoke/MethodHandle" ∧ yX12_doOrder.cls ≠ "java/lang/invoke/VarHandle" ∧ (parseMethodDescriptor yX12_doOrder.desc).map (fun d => d.parameters.length) = some 3 := by decide +kernel
def wqX12_goShip : List Cond := .code yX12_goShip cX12_goShip 7 none :: WALL
theorem pd_X12_goShip : yX12_goShip.cls ≠ "java/lang/invoke/MethodHandle" ∧ yX12_goShip.cls ≠ "java/lang/invoke/VarHandle" ∧ (parseMethodDescriptor yX12_goShip.desc).map (fun d => d.parameters.length) = some 2 := by decide +kernel
def wqX12_go : List Cond := .code yX12_go cX12_go 4 (some .int) :: WALL
theorem pd_X12_go : yX12_go.cls ≠ "java/lang/invoke/MethodHandle" ∧ yX12_go.cls ≠ "java/lang/invoke/VarHandle" ∧ (parseMethodDescriptor yX12_go.desc).map (fun d => d.parameters.length) = some 1 := by decide +kernel
def wqX12_of : List Cond := .code yX12_of cX12_of 4 (some .int) :: WALL
theorem pd_X12_of : yX12_of.cls ≠ "java/lang/invoke/MethodHandle" ∧ yX12_of.cls ≠ "java/lang/invoke/VarHandle" ∧ (parseMethodDescriptor yX12_of.desc).map (fun d => d.parameters.length) = some 2 := by decide +kernel
def wqX12_part : List Cond := .code yX12_part cX12_part 3 (some .int) :: WALL
theorem pd_X12_part : yX12_part.cls ≠ "java/lang/invoke/MethodHandle" ∧ yX12_part.cls ≠ "java/lang/invoke/VarHandle" ∧ (parseMethodDescriptor yX12_part.desc).map (fun d => d.parameters.length) = some 2 := by decide +kernel
def wqX12_book : List Cond := .code yX12_book cX12_book 3 (some .long) :: WALL
theorem pd_X12_book : yX12_book.cls ≠ "java/lang/invoke/MethodHandle" ∧ yX12_book.cls ≠ "java/lang/invoke/VarHandle" ∧ (parseMethodDescriptor yX12_book.desc).map (fun d => d.parameters.length) = some 2 := by decide +kernel
def wqX12_store : List Cond := .code yX12_store cX12_store 2 (some .int) :: WALL
theorem pd_X12_store : yX12_store.cls ≠ "java/lang/invoke/MethodHandle" ∧ yX12_store.cls ≠ "java/lang/invoke/VarHandle" ∧ (parseMethodDescriptor yX12_store.desc).map (fun d => d.parameters.length) = some 1 := by decide +kernel
def wqX12_isLanding : List Cond := .code yX12_isLanding cX12_isLanding 2 (some .boolean) :: WALL
theorem pd_X12_isLanding : yX12_isLanding.cls ≠ "java/lang/invoke/MethodHandle" ∧ yX12_isLanding.cls ≠ "java/lang/invoke/VarHandle" ∧ (parseMethodDescriptor yX12_isLanding.desc).map (fun d => d.parameters.length) = some 1 := by decide +kernel
def wqX12_landingAt : List Cond := .code yX12_landingAt cX12_landingAt 1 (some .int) :: WALL
theorem pd_X12_landingAt : yX12_landingAt.cls ≠ "java/lang/invoke/MethodHandle" ∧ yX12_landingAt.cls ≠ "java/lang/invoke/VarHandle" ∧ (parseMethodDescriptor yX12_landingAt.desc).map (fun d => d.parameters.length) = some 1 := by decide +kernel
def wqX12_heatOf : List Cond := .code yX12_heatOf cX12_heatOf 5 (some .int) :: WALL
theorem pd_X12_heatOf : yX12_heatOf.cls ≠ "java/lang/invoke/MethodHandle" ∧ yX12_heatOf.cls ≠ "java/lang/invoke/VarHandle" ∧ (parseMethodDescriptor yX12_heatOf.desc).map (fun d => d.parameters.length) = some 1 := by decide +kernel
def wqX12_landing : List Cond := .code yX12_landing cX12_landing 4 (some .int) :: WALL
theorem pd_X12_landing : yX12_landing.cls ≠ "java/lang/invoke/MethodHandle" ∧ yX12_landing.cls ≠ "java/lang/invoke/VarHandle" ∧ (parseMethodDescriptor yX12_landing.desc).map (fun d => d.parameters.length) = some 2 := by decide +kernel
def wqX12_led : List Cond := .code yX12_led cX12_led 3 (some .int) :: WALL
theorem pd_X12_led : yX12_led.cls ≠ "java/lang/invoke/MethodHandle" ∧ yX12_led.cls ≠ "java/lang/invoke/VarHandle" ∧ (parseMethodDescriptor yX12_led.desc).map (fun d => d.parameters.length) = some 2 := by decide +kernel
def wqX12_heat : List Cond := .code yX12_heat cX12_heat 4 (some .int) :: WALL
theorem pd_X12_heat : yX12_heat.cls ≠ "java/lang/invoke/MethodHandle" ∧ yX12_heat.cls ≠ "java/lang/invoke/VarHandle" ∧ (parseMethodDescriptor yX12_heat.desc).map (fun d => d.parameters.length) = some 2 := by decide +kernel
def wqX12_price : List Cond := .code yX12_price cX12_price 5 (some .int) :: WALL
theorem pd_X12_price : yX12_price.cls ≠ "java/lang/invoke/MethodHandle" ∧ yX12_price.cls ≠ "java/lang/invoke/VarHandle" ∧ (parseMethodDescriptor yX12_price.desc).map (fun d => d.parameters.length) = some 3 := by decide +kernel
def wqX12_priceOf : List Cond := .code yX12_priceOf cX12_priceOf 7 (some .int) :: WALL
theorem pd_X12_priceOf : yX12_priceOf.cls ≠ "java/lang/invoke/MethodHandle" ∧ yX12_priceOf.cls ≠ "java/lang/invoke/VarHandle" ∧ (parseMethodDescriptor yX12_priceOf.desc).map (fun d => d.parameters.length) = some 2 := by decide +kernel
def wqX12_force : List Cond := .code yX12_force cX12_force 5 (some .int) :: WALL
theorem pd_X12_force : yX12_force.cls ≠ "java/lang/invoke/MethodHandle" ∧ yX12_force.cls ≠ "java/lang/invoke/VarHandle" ∧ (parseMethodDescriptor yX12_force.desc).map (fun d => d.parameters.length) = some 3 := by decide +kernel
def wqX12_isForce : List Cond := .code yX12_isForce cX12_isForce 6 (some .boolean) :: WALL
theorem pd_X12_isForce : yX12_isForce.cls ≠ "java/lang/invoke/MethodHandle" ∧ yX12_isForce.cls ≠ "java/lang/invoke/VarHandle" ∧ (parseMethodDescriptor yX12_isForce.desc).map (fun d => d.parameters.length) = some 2 := by decide +kernel
def wqX12_bill : List Cond := .code yX12_bill cX12_bill 3 (some .int) :: WALL
theorem pd_X12_bill : yX12_bill.cls ≠ "java/lang/invoke/MethodHandle" ∧ yX12_bill.cls ≠ "java/lang/invoke/VarHandle" ∧ (parseMethodDescriptor yX12_bill.desc).map (fun d => d.parameters.length) = some 2 := by decide +kernel
def wqX12_billed : List Cond := .code yX12_billed cX12_billed 2 (some .int) :: WALL
theorem pd_X12_billed : yX12_billed.cls ≠ "java/lang/invoke/MethodHandle" ∧ yX12_billed.cls ≠ "java/lang/invoke/VarHandle" ∧ (parseMethodDescriptor yX12_billed.desc).map (fun d => d.parameters.length) = some 1 := by decide +kernel
def wqX12_four : List Cond := .code yX12_four cX12_four 3 none :: WALL
theorem pd_X12_four : yX12_four.cls ≠ "java/lang/invoke/MethodHandle" ∧ yX12_four.cls ≠ "java/lang/invoke/VarHandle" ∧ (parseMethodDescriptor yX12_four.desc).map (fun d => d.parameters.length) = some 1 := by decide +kernel
def wqX12_feed : List Cond := .code yX12_feed cX12_feed 6 (some .int) :: WALL
theorem pd_X12_feed : yX12_feed.cls ≠ "java/lang/invoke/MethodHandle" ∧ yX12_feed.cls ≠ "java/lang/invoke/VarHandle" ∧ (parseMethodDescriptor yX12_feed.desc).map (fun d => d.parameters.length) = some 5 := by decide +kernel
def wqX12_end : List Cond := .code yX12_end cX12_end 2 (some .int) :: WALL
theorem pd_X12_end : yX12_end.cls ≠ "java/lang/invoke/MethodHandle" ∧ yX12_end.cls ≠ "java/lang/invoke/VarHandle" ∧ (parseMethodDescriptor yX12_end.desc).map (fun d => d.parameters.length) = some 1 := by decide +kernel
def wqX12_isSmall : List Cond := .code yX12_isSmall cX12_isSmall 1 (some .boolean) :: WALL
theorem pd_X12_isSmall : yX12_isSmall.cls ≠ "java/lang/invoke/MethodHandle" ∧ yX12_isSmall.cls ≠ "java/lang/invoke/VarHandle" ∧ (parseMethodDescriptor yX12_isSmall.desc).map (fun d => d.parameters.length) = some 1 := by decide +kernel
def wqX12_isDigit : List Cond := .code yX12_isDigit cX12_isDigit 1 (some .boolean) :: WALL
theorem pd_X12_isDigit : yX12_isDigit.cls ≠ "java/lang/invoke/MethodHandle" ∧ yX12_isDigit.cls ≠ "java/lang/invoke/VarHandle" ∧ (parseMethodDescriptor yX12_isDigit.desc).map (fun d => d.parameters.length) = some 1 := by decide +kernel
def wqX12_next : List Cond := .code yX12_next cX12_next 1 none :: WALL
theorem pd_X12_next : yX12_next.cls ≠ "java/lang/invoke/MethodHandle" ∧ yX12_next.cls ≠ "java/lang/invoke/VarHandle" ∧ (parseMethodDescriptor yX12_next.desc).map (fun d => d.parameters.length) = some 0 := by decide +kernel
def wqX12_begin : List Cond := .code yX12_begin cX12_begin 1 none :: WALL
theorem pd_X12_begin : yX12_begin.cls ≠ "java/lang/invoke/MethodHandle" ∧ yX12_begin.cls ≠ "java/lang/invoke/VarHandle" ∧ (parseMethodDescriptor yX12_begin.desc).map (fun d => d.parameters.length) = some 0 := by decide +kernel
def wqX12_isWord : List Cond := .code yX12_isWord cX12_isWord 3 (some .boolean) :: WALL
theorem pd_X12_isWord : yX12_isWord.cls ≠ "java/lang/invoke/MethodHandle" ∧ yX12_isWord.cls ≠ "java/lang/invoke/VarHandle" ∧ (parseMethodDescriptor yX12_isWord.desc).map (fun d => d.parameters.length) = some 1 := by decide +kernel
def wqX12_isSign : List Cond := .code yX12_isSign cX12_isSign 2 (some .boolean) :: WALL
theorem pd_X12_isSign : yX12_isSign.cls ≠ "java/lang/invoke/MethodHandle" ∧ yX12_isSign.cls ≠ "java/lang/invoke/VarHandle" ∧ (parseMethodDescriptor yX12_isSign.desc).map (fun d => d.parameters.length) = some 1 := by decide +kernel
def wqX12_must : List Cond := .code yX12_must cX12_must 2 none :: WALL
theorem pd_X12_must : yX12_must.cls ≠ "java/lang/invoke/MethodHandle" ∧ yX12_must.cls ≠ "java/lang/invoke/VarHandle" ∧ (parseMethodDescriptor yX12_must.desc).map (fun d => d.parameters.length) = some 1 := by decide +kernel
def wqX12_number : List Cond := .code yX12_number cX12_number 6 (some .int) :: WALL
theorem pd_X12_number : yX12_number.cls ≠ "java/lang/invoke/MethodHandle" ∧ yX12_number.cls ≠ "java/lang/invoke/VarHandle" ∧ (parseMethodDescriptor yX12_number.desc).map (fun d => d.parameters.length) = some 2 := by decide +kernel
def wqX12_fault : List Cond := .code yX12_fault cX12_fault 1 (some .int) :: WALL
theorem pd_X12_fault : yX12_fault.cls ≠ "java/lang/invoke/MethodHandle" ∧ yX12_fault.cls ≠ "java/lang/invoke/VarHandle" ∧ (parseMethodDescriptor yX12_fault.desc).map (fun d => d.parameters.length) = some 0 := by decide +kernel
def wqX12_emit : List Cond := .code yX12_emit cX12_emit 3 none :: WALL
theorem pd_X12_emit : yX12_emit.cls ≠ "java/lang/invoke/MethodHandle" ∧ yX12_emit.cls ≠ "java/lang/invoke/VarHandle" ∧ (parseMethodDescriptor yX12_emit.desc).map (fun d => d.parameters.length) = some 2 := by decide +kernel
def wqX12_push : List Cond := .code yX12_push cX12_push 3 none :: WALL
theorem pd_X12_push : yX12_push.cls ≠ "java/lang/invoke/MethodHandle" ∧ yX12_push.cls ≠ "java/lang/invoke/VarHandle" ∧ (parseMethodDescriptor yX12_push.desc).map (fun d => d.parameters.length) = some 2 := by decide +kernel
def wqX12_binds : List Cond := .code yX12_binds cX12_binds 1 (some .int) :: WALL
theorem pd_X12_binds : yX12_binds.cls ≠ "java/lang/invoke/MethodHandle" ∧ yX12_binds.cls ≠ "java/lang/invoke/VarHandle" ∧ (parseMethodDescriptor yX12_binds.desc).map (fun d => d.parameters.length) = some 1 := by decide +kernel
def wqX12_settleDown : List Cond := .code yX12_settleDown cX12_settleDown 2 none :: WALL
theorem pd_X12_settleDown : yX12_settleDown.cls ≠ "java/lang/invoke/MethodHandle" ∧ yX12_settleDown.cls ≠ "java/lang/invoke/VarHandle" ∧ (parseMethodDescriptor yX12_settleDown.desc).map (fun d => d.parameters.length) = some 1 := by decide +kernel
def wqX12_inner : List Cond := .code yX12_inner cX12_inner 3 (some .int) :: WALL
theorem pd_X12_inner : yX12_inner.cls ≠ "java/lang/invoke/MethodHandle" ∧ yX12_inner.cls ≠ "java/lang/invoke/VarHandle" ∧ (parseMethodDescriptor yX12_inner.desc).map (fun d => d.parameters.length) = some 0 := by decide +kernel
def wqX12_isCompared : List Cond := .code yX12_isCompared cX12_isCompared 2 (some .boolean) :: WALL
theorem pd_X12_isCompared : yX12_isCompared.cls ≠ "java/lang/invoke/MethodHandle" ∧ yX12_isCompared.cls ≠ "java/lang/invoke/VarHandle" ∧ (parseMethodDescriptor yX12_isCompared.desc).map (fun d => d.parameters.length) = some 0 := by decide +kernel
def wqX12_partAt : List Cond := .code yX12_partAt cX12_partAt 1 (some .int) :: WALL
theorem pd_X12_partAt : yX12_partAt.cls ≠ "java/lang/invoke/MethodHandle" ∧ yX12_partAt.cls ≠ "java/lang/invoke/VarHandle" ∧ (parseMethodDescriptor yX12_partAt.desc).map (fun d => d.parameters.length) = some 0 := by decide +kernel
def wqX12_open : List Cond := .code yX12_open cX12_open 2 none :: WALL
theorem pd_X12_open : yX12_open.cls ≠ "java/lang/invoke/MethodHandle" ∧ yX12_open.cls ≠ "java/lang/invoke/VarHandle" ∧ (parseMethodDescriptor yX12_open.desc).map (fun d => d.parameters.length) = some 1 := by decide +kernel
def wqX12_readPart : List Cond := .code yX12_readPart cX12_readPart 4 (some .int) :: WALL
theorem pd_X12_readPart : yX12_readPart.cls ≠ "java/lang/invoke/MethodHandle" ∧ yX12_readPart.cls ≠ "java/lang/invoke/VarHandle" ∧ (parseMethodDescriptor yX12_readPart.desc).map (fun d => d.parameters.length) = some 0 := by decide +kernel
def wqX12_readPlain : List Cond := .code yX12_readPlain cX12_readPlain 1 (some .int) :: WALL
theorem pd_X12_readPlain : yX12_readPlain.cls ≠ "java/lang/invoke/MethodHandle" ∧ yX12_readPlain.cls ≠ "java/lang/invoke/VarHandle" ∧ (parseMethodDescriptor yX12_readPlain.desc).map (fun d => d.parameters.length) = some 0 := by decide +kernel
def wqX12_behindSum : List Cond := .code yX12_behindSum cX12_behindSum 4 (some .int) :: WALL
theorem pd_X12_behindSum : yX12_behindSum.cls ≠ "java/lang/invoke/MethodHandle" ∧ yX12_behindSum.cls ≠ "java/lang/invoke/VarHandle" ∧ (parseMethodDescriptor yX12_behindSum.desc).map (fun d => d.parameters.length) = some 1 := by decide +kernel
def wqX12_behindTest : List Cond := .code yX12_behindTest cX12_behindTest 2 (some .int) :: WALL
theorem pd_X12_behindTest : yX12_behindTest.cls ≠ "java/lang/invoke/MethodHandle" ∧ yX12_behindTest.cls ≠ "java/lang/invoke/VarHandle" ∧ (parseMethodDescriptor yX12_behindTest.desc).map (fun d => d.parameters.length) = some 0 := by decide +kernel
def wqX12_readExpression : List Cond := .code yX12_readExpression cX12_readExpression 3 none :: WALL
theorem pd_X12_readExpression : yX12_readExpression.cls ≠ "java/lang/invoke/MethodHandle" ∧ yX12_readExpression.cls ≠ "java/lang/invoke/VarHandle" ∧ (parseMethodDescriptor yX12_readExpression.desc).map (fun d => d.parameters.length) = some 1 := by decide +kernel
def wqX12_readClause : List Cond := .code yX12_readClause cX12_readClause 5 none :: WALL
theorem pd_X12_readClause : yX12_readClause.cls ≠ "java/lang/invoke/MethodHandle" ∧ yX12_readClause.cls ≠ "java/lang/invoke/VarHandle" ∧ (parseMethodDescriptor yX12_readClause.desc).map (fun d => d.parameters.length) = some 0 := by decide +kernel
def wqX12_contract : List Cond := .code yX12_contract cX12_contract 3 (some .int) :: WALL
theorem pd_X12_contract : yX12_contract.cls ≠ "java/lang/invoke/MethodHandle" ∧ yX12_contract.cls ≠ "java/lang/invoke/VarHandle" ∧ (parseMethodDescriptor yX12_contract.desc).map (fun d => d.parameters.length) = some 0 := by decide +kernel
def wqX12_isContract : List Cond := .code yX12_isContract cX12_isContract 2 (some .boolean) :: WALL
theorem pd_X12_isContract : yX12_isContract.cls ≠ "java/lang/invoke/MethodHandle" ∧ yX12_isContract.cls ≠ "java/lang/invoke/VarHandle" ∧ (parseMethodDescriptor yX12_isContract.desc).map (fun d => d.parameters.length) = some 1 := by decide +kernel
def wqX12_setFor : List Cond := .code yX12_setFor cX12_setFor 7 none :: WALL
theorem pd_X12_setFor : yX12_setFor.cls ≠ "java/lang/invoke/MethodHandle" ∧ yX12_setFor.cls ≠ "java/lang/invoke/VarHandle" ∧ (parseMethodDescriptor yX12_setFor.desc).map (fun d => d.parameters.length) = some 3 := by decide +kernel
def wqX12_size : List Cond := .code yX12_size cX12_size 2 (some .long) :: WALL
theorem pd_X12_size : yX12_size.cls ≠ "java/lang/invoke/MethodHandle" ∧ yX12_size.cls ≠ "java/lang/invoke/VarHandle" ∧ (parseMethodDescriptor yX12_size.desc).map (fun d => d.parameters.length) = some 1 := by decide +kernel
def wqX12_reckon : List Cond := .code yX12_reckon cX12_reckon 6 (some .long) :: WALL
theorem pd_X12_reckon : yX12_reckon.cls ≠ "java/lang/invoke/MethodHandle" ∧ yX12_reckon.cls ≠ "java/lang/invoke/VarHandle" ∧ (parseMethodDescriptor yX12_reckon.desc).map (fun d => d.parameters.length) = some 3 := by decide +kernel
def wqX12_run : List Cond := .code yX12_run cX12_run 8 none :: WALL
theorem pd_X12_run : yX12_run.cls ≠ "java/lang/invoke/MethodHandle" ∧ yX12_run.cls ≠ "java/lang/invoke/VarHandle" ∧ (parseMethodDescriptor yX12_run.desc).map (fun d => d.parameters.length) = some 3 := by decide +kernel
def wqX12_judgeLanding : List Cond := .code yX12_judgeLanding cX12_judgeLanding 6 none :: WALL
theorem pd_X12_judgeLanding : yX12_judgeLanding.cls ≠ "java/lang/invoke/MethodHandle" ∧ yX12_judgeLanding.cls ≠ "java/lang/invoke/VarHandle" ∧ (parseMethodDescriptor yX12_judgeLanding.desc).map (fun d => d.parameters.length) = some 2 := by decide +kernel
def wqX12_contractAt : List Cond := .code yX12_contractAt cX12_contractAt 1 (some .int) :: WALL
theorem pd_X12_contractAt : yX12_contractAt.cls ≠ "java/lang/invoke/MethodHandle" ∧ yX12_contractAt.cls ≠ "java/lang/invoke/VarHandle" ∧ (parseMethodDescriptor yX12_contractAt.desc).map (fun d => d.parameters.length) = some 1 := by decide +kernel
def wqX12_due : List Cond := .code yX12_due cX12_due 7 (some .long) :: WALL
theorem pd_X12_due : yX12_due.cls ≠ "java/lang/invoke/MethodHandle" ∧ yX12_due.cls ≠ "java/lang/invoke/VarHandle" ∧ (parseMethodDescriptor yX12_due.desc).map (fun d => d.parameters.length) = some 4 := by decide +kernel
def wqX12_settle : List Cond := .code yX12_settle cX12_settle 6 (some .int) :: WALL
theorem pd_X12_settle : yX12_settle.cls ≠ "java/lang/invoke/MethodHandle" ∧ yX12_settle.cls ≠ "java/lang/invoke/VarHandle" ∧ (parseMethodDescriptor yX12_settle.desc).map (fun d => d.parameters.length) = some 2 := by decide +kernel
def wqX12_settled : List Cond := .code yX12_settled cX12_settled 4 (some .long) :: WALL
theorem pd_X12_settled : yX12_settled.cls ≠ "java/lang/invoke/MethodHandle" ∧ yX12_settled.cls ≠ "java/lang/invoke/VarHandle" ∧ (parseMethodDescriptor yX12_settled.desc).map (fun d => d.parameters.length) = some 2 := by decide +kernel
def wqX12_table : List Cond := .code yX12_table cX12_table 6 (some .int) :: WALL
theorem pd_X12_table : yX12_table.cls ≠ "java/lang/invoke/MethodHandle" ∧ yX12_table.cls ≠ "java/lang/invoke/VarHandle" ∧ (parseMethodDescriptor yX12_table.desc).map (fun d => d.parameters.length) = some 4 := by decide +kernel
def wqX12_list : List Cond := .code yX12_list cX12_list 4 (some .int) :: WALL
theorem pd_X12_list : yX12_list.cls ≠ "java/lang/invoke/MethodHandle" ∧ yX12_list.cls ≠ "java/lang/invoke/VarHandle" ∧ (parseMethodDescriptor yX12_list.desc).map (fun d => d.parameters.length) = some 2 := by decide +kernel
def wqX12_reading : List Cond := .code yX12_reading cX12_reading 7 (some .int) :: WALL
theorem pd_X12_reading : yX12_reading.cls ≠ "java/lang/invoke/MethodHandle" ∧ yX12_reading.cls ≠ "java/lang/invoke/VarHandle" ∧ (parseMethodDescriptor yX12_reading.desc).map (fun d => d.parameters.length) = some 5 := by decide +kernel
def wqX12_hasTable : List Cond := .code yX12_hasTable cX12_hasTable 5 (some .boolean) :: WALL
theorem pd_X12_hasTable : yX12_hasTable.cls ≠ "java/lang/invoke/MethodHandle" ∧ yX12_hasTable.cls ≠ "java/lang/invoke/VarHandle" ∧ (parseMethodDescriptor yX12_hasTable.desc).map (fun d => d.parameters.length) = some 1 := by decide +kernel
def wqX12_tonsBy : List Cond := .code yX12_tonsBy cX12_tonsBy 7 (some .long) :: WALL
theorem pd_X12_tonsBy : yX12_tonsBy.cls ≠ "java/lang/invoke/MethodHandle" ∧ yX12_tonsBy.cls ≠ "java/lang/invoke/VarHandle" ∧ (parseMethodDescriptor yX12_tonsBy.desc).map (fun d => d.parameters.length) = some 2 := by decide +kernel
def wqX12_gaugedBy : List Cond := .code yX12_gaugedBy cX12_gaugedBy 9 (some .long) :: WALL
theorem pd_X12_gaugedBy : yX12_gaugedBy.cls ≠ "java/lang/invoke/MethodHandle" ∧ yX12_gaugedBy.cls ≠ "java/lang/invoke/VarHandle" ∧ (parseMethodDescriptor yX12_gaugedBy.desc).map (fun d => d.parameters.length) = some 3 := by decide +kernel
def wqX12_gauged : List Cond := .code yX12_gauged cX12_gauged 11 (some .long) :: WALL
theorem pd_X12_gauged : yX12_gauged.cls ≠ "java/lang/invoke/MethodHandle" ∧ yX12_gauged.cls ≠ "java/lang/invoke/VarHandle" ∧ (parseMethodDescriptor yX12_gauged.desc).map (fun d => d.parameters.length) = some 3 := by decide +kernel
def wqX12_cargo : List Cond := .code yX12_cargo cX12_cargo 10 (some .int) :: WALL
theorem pd_X12_cargo : yX12_cargo.cls ≠ "java/lang/invoke/MethodHandle" ∧ yX12_cargo.cls ≠ "java/lang/invoke/VarHandle" ∧ (parseMethodDescriptor yX12_cargo.desc).map (fun d => d.parameters.length) = some 8 := by decide +kernel
def wqX12_clear : List Cond := .code yX12_clear cX12_clear 2 (some .int) :: WALL
theorem pd_X12_clear : yX12_clear.cls ≠ "java/lang/invoke/MethodHandle" ∧ yX12_clear.cls ≠ "java/lang/invoke/VarHandle" ∧ (parseMethodDescriptor yX12_clear.desc).map (fun d => d.parameters.length) = some 0 := by decide +kernel
def wqX12_work : List Cond := .code yX12_work cX12_work 4 (some .boolean) :: WALL
theorem pd_X12_work : yX12_work.cls ≠ "java/lang/invoke/MethodHandle" ∧ yX12_work.cls ≠ "java/lang/invoke/VarHandle" ∧ (parseMethodDescriptor yX12_work.desc).map (fun d => d.parameters.length) = some 2 := by decide +kernel
def wqX12_goTo : List Cond := .code yX12_goTo cX12_goTo 6 (some .int) :: WALL
theorem pd_X12_goTo : yX12_goTo.cls ≠ "java/lang/invoke/MethodHandle" ∧ yX12_goTo.cls ≠ "java/lang/invoke/VarHandle" ∧ (parseMethodDescriptor yX12_goTo.desc).map (fun d => d.parameters.length) = some 4 := by decide +kernel
def wqX12_carry : List Cond := .code yX12_carry cX12_carry 12 (some .boolean) :: WALL
theorem pd_X12_carry : yX12_carry.cls ≠ "java/lang/invoke/MethodHandle" ∧ yX12_carry.cls ≠ "java/lang/invoke/VarHandle" ∧ (parseMethodDescriptor yX12_carry.desc).map (fun d => d.parameters.length) = some 2 := by decide +kernel
def wqX12_sailRow : List Cond := .code yX12_sailRow cX12_sailRow 7 (some .long) :: WALL
theorem pd_X12_sailRow : yX12_sailRow.cls ≠ "java/lang/invoke/MethodHandle" ∧ yX12_sailRow.cls ≠ "java/lang/invoke/VarHandle" ∧ (parseMethodDescriptor yX12_sailRow.desc).map (fun d => d.parameters.length) = some 3 := by decide +kernel
def wqX12_judge : List Cond := .code yX12_judge cX12_judge 9 (some .long) :: WALL
theorem pd_X12_judge : yX12_judge.cls ≠ "java/lang/invoke/MethodHandle" ∧ yX12_judge.cls ≠ "java/lang/invoke/VarHandle" ∧ (parseMethodDescriptor yX12_judge.desc).map (fun d => d.parameters.length) = some 5 := by decide +kernel
def wqX12_swapPlaces : List Cond := .code yX12_swapPlaces cX12_swapPlaces 4 none :: WALL
theorem pd_X12_swapPlaces : yX12_swapPlaces.cls ≠ "java/lang/invoke/MethodHandle" ∧ yX12_swapPlaces.cls ≠ "java/lang/invoke/VarHandle" ∧ (parseMethodDescriptor yX12_swapPlaces.desc).map (fun d => d.parameters.length) = some 2 := by decide +kernel
def wqX12_nextPlaces : List Cond := .code yX12_nextPlaces cX12_nextPlaces 6 (some .boolean) :: WALL
theorem pd_X12_nextPlaces : yX12_nextPlaces.cls ≠ "java/lang/invoke/MethodHandle" ∧ yX12_nextPlaces.cls ≠ "java/lang/invoke/VarHandle" ∧ (parseMethodDescriptor yX12_nextPlaces.desc).map (fun d => d.parameters.length) = some 1 := by decide +kernel
def wqX12_findSet : List Cond := .code yX12_findSet cX12_findSet 12 none :: WALL
theorem pd_X12_findSet : yX12_findSet.cls ≠ "java/lang/invoke/MethodHandle" ∧ yX12_findSet.cls ≠ "java/lang/invoke/VarHandle" ∧ (parseMethodDescriptor yX12_findSet.desc).map (fun d => d.parameters.length) = some 3 := by decide +kernel
def wqX12_share : List Cond := .code yX12_share cX12_share 7 (some .int) :: WALL
theorem pd_X12_share : yX12_share.cls ≠ "java/lang/invoke/MethodHandle" ∧ yX12_share.cls ≠ "java/lang/invoke/VarHandle" ∧ (parseMethodDescriptor yX12_share.desc).map (fun d => d.parameters.length) = some 3 := by decide +kernel
def wqX12_keepBest : List Cond := .code yX12_keepBest cX12_keepBest 9 none :: WALL
theorem pd_X12_keepBest : yX12_keepBest.cls ≠ "java/lang/invoke/MethodHandle" ∧ yX12_keepBest.cls ≠ "java/lang/invoke/VarHandle" ∧ (parseMethodDescriptor yX12_keepBest.desc).map (fun d => d.parameters.length) = some 3 := by decide +kernel
def wqX12_best : List Cond := .code yX12_best cX12_best 15 (some .long) :: WALL
theorem pd_X12_best : yX12_best.cls ≠ "java/lang/invoke/MethodHandle" ∧ yX12_best.cls ≠ "java/lang/invoke/VarHandle" ∧ (parseMethodDescriptor yX12_best.desc).map (fun d => d.parameters.length) = some 1 := by decide +kernel
def wqX12_voyage : List Cond := .code yX12_voyage cX12_voyage 3 (some .long) :: WALL
theorem pd_X12_voyage : yX12_voyage.cls ≠ "java/lang/invoke/MethodHandle" ∧ yX12_voyage.cls ≠ "java/lang/invoke/VarHandle" ∧ (parseMethodDescriptor yX12_voyage.desc).map (fun d => d.parameters.length) = some 2 := by decide +kernel
def wqX12_count : List Cond := .code yX12_count cX12_count 2 (some .int) :: WALL
theorem pd_X12_count : yX12_count.cls ≠ "java/lang/invoke/MethodHandle" ∧ yX12_count.cls ≠ "java/lang/invoke/VarHandle" ∧ (parseMethodDescriptor yX12_count.desc).map (fun d => d.parameters.length) = some 1 := by decide +kernel
def wqX12_status : List Cond := .code yX12_status cX12_status 1 (some .int) :: WALL
theorem pd_X12_status : yX12_status.cls ≠ "java/lang/invoke/MethodHandle" ∧ yX12_status.cls ≠ "java/lang/invoke/VarHandle" ∧ (parseMethodDescriptor yX12_status.desc).map (fun d => d.parameters.length) = some 0 := by decide +kernel
