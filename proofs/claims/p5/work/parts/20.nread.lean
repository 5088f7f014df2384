abbrev cX2_hasRoom : ByteArray := prog_4_method_2_code
def yX2_hasRoom : MethodName := ⟨RX2, "hasRoom", "()Z"⟩
abbrev cX2_addFour : ByteArray := prog_4_method_3_code
def yX2_addFour : MethodName := ⟨RX2, "addFour", "(I)V"⟩
abbrev cX2_emptyTape : ByteArray := prog_4_method_4_code
def yX2_emptyTape : MethodName := ⟨RX2, "emptyTape", "()V"⟩
abbrev cX2_leafHere : ByteArray := prog_4_method_18_code
def yX2_leafHere : MethodName := ⟨RX2, "leafHere", "()I"⟩
abbrev cX2_factHere : ByteArray := prog_4_method_19_code
def yX2_factHere : MethodName := ⟨RX2, "factHere", "()I"⟩
abbrev cX2_isNumber : ByteArray := prog_4_method_20_code
def yX2_isNumber : MethodName := ⟨RX2, "isNumber", "(II)Z"⟩
abbrev cX2_passWord : ByteArray := prog_4_method_21_code
def yX2_passWord : MethodName := ⟨RX2, "passWord", "(Ljava/lang/String;)Z"⟩
abbrev cX2_passSign : ByteArray := prog_4_method_22_code
def yX2_passSign : MethodName := ⟨RX2, "passSign", "(C)Z"⟩
abbrev cX2_isSign : ByteArray := prog_4_method_23_code
def yX2_isSign : MethodName := ⟨RX2, "isSign", "(C)Z"⟩
abbrev cX2_isWord : ByteArray := prog_4_method_24_code
def yX2_isWord : MethodName := ⟨RX2, "isWord", "(Ljava/lang/String;)Z"⟩
abbrev cX2_advance : ByteArray := prog_4_method_25_code
def yX2_advance : MethodName := ⟨RX2, "advance", "()V"⟩
abbrev cX2_isLetter : ByteArray := prog_4_method_26_code
def yX2_isLetter : MethodName := ⟨RX2, "isLetter", "(C)Z"⟩
abbrev cX2_isDigit : ByteArray := prog_4_method_27_code
def yX2_isDigit : MethodName := ⟨RX2, "isDigit", "(C)Z"⟩
abbrev cX2_emit : ByteArray := prog_4_method_28_code
def yX2_emit : MethodName := ⟨RX2, "emit", "(I)V"⟩
abbrev cX2_emitJump : ByteArray := prog_4_method_29_code
def yX2_emitJump : MethodName := ⟨RX2, "emitJump", "(I)I"⟩
abbrev cX2_land : ByteArray := prog_4_method_30_code
def yX2_land : MethodName := ⟨RX2, "land", "(I)V"⟩
def RJ0 : String := "java/lang/String"
abbrev cJ0_length_8abf5 : ByteArray := prog_18_method_54_code
def yJ0_length_8abf5 : MethodName := ⟨RJ0, "length", "()I"⟩
abbrev cJ0_charAt_5068e : ByteArray := prog_18_method_56_code
def yJ0_charAt_5068e : MethodName := ⟨RJ0, "charAt", "(I)C"⟩
abbrev cJ0_coder_7d493 : ByteArray := prog_18_method_152_code
def yJ0_coder_7d493 : MethodName := ⟨RJ0, "coder", "()B"⟩
abbrev cJ0_isLatin1_aae02 : ByteArray := prog_18_method_154_code
def yJ0_isLatin1_aae02 : MethodName := ⟨RJ0, "isLatin1", "()Z"⟩
abbrev cJ0_checkIndex_df160 : ByteArray := prog_18_method_155_code
def yJ0_checkIndex_df160 : MethodName := ⟨RJ0, "checkIndex", "(II)V"⟩
def RJ1 : String := "java/lang/StringLatin1"
abbrev cJ1_charAt_3b067 : ByteArray := prog_19_method_2_code
def yJ1_charAt_3b067 : MethodName := ⟨RJ1, "charAt", "([BI)C"⟩
def RJ2 : String := "java/lang/StringUTF16"
abbrev cJ2_getChar_3b067 : ByteArray := prog_20_method_5_code
def yJ2_getChar_3b067 : MethodName := ⟨RJ2, "getChar", "([BI)C"⟩
abbrev cJ2_length_9d52b : ByteArray := prog_20_method_6_code
def yJ2_length_9d52b : MethodName := ⟨RJ2, "length", "([B)I"⟩
abbrev cJ2_charAt_3b067 : ByteArray := prog_20_method_83_code
def yJ2_charAt_3b067 : MethodName := ⟨RJ2, "charAt", "([BI)C"⟩
abbrev cJ2_checkIndex_2214a : ByteArray := prog_20_method_91_code
def yJ2_checkIndex_2214a : MethodName := ⟨RJ2, "checkIndex", "(I[B)V"⟩
def RJ3 : String := "jdk/internal/util/Preconditions"
abbrev cJ3_checkIndex_8e157 : ByteArray := prog_23_method_11_code
def yJ3_checkIndex_8e157 : MethodName := ⟨RJ3, "checkIndex", "(IILjava/util/function/BiFunction;)I"⟩
def wsX2_hasRoom : List Cond := .code yX2_hasRoom cX2_hasRoom 1 (some .boolean) :: ([.fieldLink RX2 26 "ColdShips$Reader" "size" "I"] ++ wsX20)
def wsX2_addFour : List Cond := .code yX2_addFour cX2_addFour 3 none :: ([.fieldLink RX2 26 "ColdShips$Reader" "size" "I", .fieldLink RX2 11 "ColdShips$Reader" "tape" "[C"] ++ wsX20)
def wsX2_emptyTape : List Cond := .code yX2_emptyTape cX2_emptyTape 1 none :: ([.fieldLink RX2 26 "ColdShips$Reader" "size" "I"] ++ wsX20)
def wsX2_isLetter : List Cond := .code yX2_isLetter cX2_isLetter 1 (some .boolean) :: ([])
def wsX2_isDigit : List Cond := .code yX2_isDigit cX2_isDigit 1 (some .boolean) :: ([])
def wsX2_advance : List Cond := .code yX2_advance cX2_advance 1 none :: ([.fieldLink RX2 29 "ColdShips$Reader" "behind" "I", .fieldLink RX2 60 "ColdShips$Reader" "place" "I", .fieldLink RX2 26 "ColdShips$Reader" "size" "I", .fieldLink RX2 11 "ColdShips$Reader" "tape" "[C", .fieldLink RX2 77 "ColdShips$Reader" "kind" "I", .fieldLink RX2 99 "ColdShips$Reader" "value" "I", .constant RX2 205 (100001), .methodLink RX2 206 Lib.Math.min.name, .static Lib.Math.min.name, .initialized "java/lang/Math", .code Lib.Math.min.name Lib.Math.min.code 2 (some .int), .methodLink RX2 199 yX2_isLetter, .static yX2_isLetter, .initialized RX2, .code yX2_isLetter cX2_isLetter 1 (some .boolean), .methodLink RX2 202 yX2_isDigit, .static yX2_isDigit, .code yX2_isDigit cX2_isDigit 1 (some .boolean)] ++ wsX20)
def wsJ0_coder_7d493 : List Cond := .code yJ0_coder_7d493 cJ0_coder_7d493 1 (some .byte) :: ([.fieldLink RJ0 38 "java/lang/String" "COMPACT_STRINGS" "Z", .fieldLink RJ0 15 "java/lang/String" "coder" "B"])
def wsJ0_length_8abf5 : List Cond := .code yJ0_length_8abf5 cJ0_length_8abf5 1 (some .int) :: ([.fieldLink RJ0 9 "java/lang/String" "value" "[B", .methodLink RJ0 335 yJ0_coder_7d493, .instanceMethod yJ0_coder_7d493, .selects RJ0 yJ0_coder_7d493 yJ0_coder_7d493, .initialized RJ0, .code yJ0_coder_7d493 cJ0_coder_7d493 1 (some .byte), .fieldLink RJ0 38 "java/lang/String" "COMPACT_STRINGS" "Z", .fieldLink RJ0 15 "java/lang/String" "coder" "B"])
def wsJ0_isLatin1_aae02 : List Cond := .code yJ0_isLatin1_aae02 cJ0_isLatin1_aae02 1 (some .boolean) :: ([.fieldLink RJ0 38 "java/lang/String" "COMPACT_STRINGS" "Z", .fieldLink RJ0 15 "java/lang/String" "coder" "B"])
def wsJ3_checkIndex_8e157 : List Cond := .code yJ3_checkIndex_8e157 cJ3_checkIndex_8e157 3 (some .int) :: ([])
def wsJ0_checkIndex_df160 : List Cond := .code yJ0_checkIndex_df160 cJ0_checkIndex_df160 2 none :: ([.fieldLink RJ0 1053 "jdk/internal/util/Preconditions" "SIOOBE_FORMATTER" "Ljava/util/function/BiFunction;", .methodLink RJ0 1059 yJ3_checkIndex_8e157, .static yJ3_checkIndex_8e157, .initialized RJ3, .code yJ3_checkIndex_8e157 cJ3_checkIndex_8e157 3 (some .int)])
def wsJ1_charAt_3b067 : List Cond := .code yJ1_charAt_3b067 cJ1_charAt_3b067 2 (some .char) :: ([.methodLink RJ1 9 yJ0_checkIndex_df160, .static yJ0_checkIndex_df160, .initialized RJ0, .code yJ0_checkIndex_df160 cJ0_checkIndex_df160 2 none, .fieldLink RJ0 1053 "jdk/internal/util/Preconditions" "SIOOBE_FORMATTER" "Ljava/util/function/BiFunction;", .methodLink RJ0 1059 yJ3_checkIndex_8e157, .static yJ3_checkIndex_8e157, .initialized RJ3, .code yJ3_checkIndex_8e157 cJ3_checkIndex_8e157 3 (some .int)])
def wsJ0_charAt_5068e_r1 : List Cond := [Cond.fieldLink RJ0 9 "java/lang/String" "value" "[B", Cond.methodLink RJ0 492 yJ0_isLatin1_aae02, Cond.instanceMethod yJ0_isLatin1_aae02, Cond.selects RJ0 yJ0_isLatin1_aae02 yJ0_isLatin1_aae02, Cond.initialized RJ0, Cond.code yJ0_isLatin1_aae02 cJ0_isLatin1_aae02 1 (some .boolean), Cond.fieldLink RJ0 38 "java/lang/String" "COMPACT_STRINGS" "Z", Cond.fieldLink RJ0 15 "java/lang/String" "coder" "B", Cond.methodLink RJ0 495 yJ1_charAt_3b067, Cond.static yJ1_charAt_3b067, Cond.initialized RJ1, Cond.code yJ1_charAt_3b067 cJ1_charAt_3b067 2 (some .char), Cond.methodLink RJ1 9 yJ0_checkIndex_df160, Cond.static yJ0_checkIndex_df160, Cond.code yJ0_checkIndex_df160 cJ0_checkIndex_df160 2 none, Cond.fieldLink RJ0 1053 "jdk/internal/util/Preconditions" "SIOOBE_FORMATTER" "Ljava/util/function/BiFunction;", Cond.methodLink RJ0 1059 yJ3_checkIndex_8e157, Cond.static yJ3_checkIndex_8e157, Cond.initialized RJ3, Cond.code yJ3_checkIndex_8e157 cJ3_checkIndex_8e157 3 (some .int), Cond.methodLink RJ0 498 yJ2_charAt_3b067, Cond.static yJ2_charAt_3b067, Cond.initialized RJ2, Cond.code yJ2_charAt_3b067 cJ2_charAt_3b067 2 (some .char)]
def wsJ0_charAt_5068e_r2 : List Cond := [Cond.methodLink RJ2 67 yJ2_checkIndex_2214a, Cond.static yJ2_checkIndex_2214a, Cond.code yJ2_checkIndex_2214a cJ2_checkIndex_2214a 2 none, Cond.methodLink RJ2 48 yJ2_length_9d52b, Cond.static yJ2_length_9d52b, Cond.code yJ2_length_9d52b cJ2_length_9d52b 1 (some .int), Cond.methodLink RJ2 414 yJ0_checkIndex_df160, Cond.methodLink RJ2 71 yJ2_getChar_3b067, Cond.static yJ2_getChar_3b067, Cond.code yJ2_getChar_3b067 cJ2_getChar_3b067 2 (some .char), Cond.fieldLink RJ2 44 "java/lang/StringUTF16" "$assertionsDisabled" "Z", Cond.fieldLink RJ2 59 "java/lang/StringUTF16" "HI_BYTE_SHIFT" "I", Cond.fieldLink RJ2 63 "java/lang/StringUTF16" "LO_BYTE_SHIFT" "I"]
def wsJ0_charAt_5068e : List Cond := .code yJ0_charAt_5068e cJ0_charAt_5068e 2 (some .char) :: ((wsJ0_charAt_5068e_r1 ++ wsJ0_charAt_5068e_r2))
def wsX2_isWord_r1 : List Cond := [Cond.fieldLink RX2 77 "ColdShips$Reader" "kind" "I", Cond.fieldLink RX2 29 "ColdShips$Reader" "behind" "I", Cond.fieldLink RX2 60 "ColdShips$Reader" "place" "I", Cond.fieldLink RX2 11 "ColdShips$Reader" "tape" "[C", Cond.methodLink RX2 190 yJ0_length_8abf5, Cond.instanceMethod yJ0_length_8abf5, Cond.selects RJ0 yJ0_length_8abf5 yJ0_length_8abf5, Cond.initialized RJ0, Cond.code yJ0_length_8abf5 cJ0_length_8abf5 1 (some .int), Cond.fieldLink RJ0 9 "java/lang/String" "value" "[B", Cond.methodLink RJ0 335 yJ0_coder_7d493, Cond.instanceMethod yJ0_coder_7d493, Cond.selects RJ0 yJ0_coder_7d493 yJ0_coder_7d493, Cond.code yJ0_coder_7d493 cJ0_coder_7d493 1 (some .byte), Cond.fieldLink RJ0 38 "java/lang/String" "COMPACT_STRINGS" "Z", Cond.fieldLink RJ0 15 "java/lang/String" "coder" "B", Cond.methodLink RX2 195 yJ0_charAt_5068e, Cond.instanceMethod yJ0_charAt_5068e, Cond.selects RJ0 yJ0_charAt_5068e yJ0_charAt_5068e, Cond.code yJ0_charAt_5068e cJ0_charAt_5068e 2 (some .char), Cond.methodLink RJ0 492 yJ0_isLatin1_aae02, Cond.instanceMethod yJ0_isLatin1_aae02, Cond.selects RJ0 yJ0_isLatin1_aae02 yJ0_isLatin1_aae02, Cond.code yJ0_isLatin1_aae02 cJ0_isLatin1_aae02 1 (some .boolean)]
def wsX2_isWord_r2 : List Cond := [Cond.methodLink RJ0 495 yJ1_charAt_3b067, Cond.static yJ1_charAt_3b067, Cond.initialized RJ1, Cond.code yJ1_charAt_3b067 cJ1_charAt_3b067 2 (some .char), Cond.methodLink RJ1 9 yJ0_checkIndex_df160, Cond.static yJ0_checkIndex_df160, Cond.code yJ0_checkIndex_df160 cJ0_checkIndex_df160 2 none, Cond.fieldLink RJ0 1053 "jdk/internal/util/Preconditions" "SIOOBE_FORMATTER" "Ljava/util/function/BiFunction;", Cond.methodLink RJ0 1059 yJ3_checkIndex_8e157, Cond.static yJ3_checkIndex_8e157, Cond.initialized RJ3, Cond.code yJ3_checkIndex_8e157 cJ3_checkIndex_8e157 3 (some .int), Cond.methodLink RJ0 498 yJ2_charAt_3b067, Cond.static yJ2_charAt_3b067, Cond.initialized RJ2, Cond.code yJ2_charAt_3b067 cJ2_charAt_3b067 2 (some .char), Cond.methodLink RJ2 67 yJ2_checkIndex_2214a, Cond.static yJ2_checkIndex_2214a, Cond.code yJ2_checkIndex_2214a cJ2_checkIndex_2214a 2 none, Cond.methodLink RJ2 48 yJ2_length_9d52b, Cond.static yJ2_length_9d52b, Cond.code yJ2_length_9d52b cJ2_length_9d52b 1 (some .int), Cond.methodLink RJ2 414 yJ0_checkIndex_df160, Cond.methodLink RJ2 71 yJ2_getChar_3b067]
def wsX2_isWord_r3 : List Cond := [Cond.static yJ2_getChar_3b067, Cond.code yJ2_getChar_3b067 cJ2_getChar_3b067 2 (some .char), Cond.fieldLink RJ2 44 "java/lang/StringUTF16" "$assertionsDisabled" "Z", Cond.fieldLink RJ2 59 "java/lang/StringUTF16" "HI_BYTE_SHIFT" "I", Cond.fieldLink RJ2 63 "java/lang/StringUTF16" "LO_BYTE_SHIFT" "I"]
def wsX2_isWord : List Cond := .code yX2_isWord cX2_isWord 3 (some .boolean) :: ((wsX2_isWord_r1 ++ (wsX2_isWord_r2 ++ wsX2_isWord_r3)) ++ wsX20)
def wsX2_passWord_r1 : List Cond := [Cond.methodLink RX2 169 yX2_isWord, Cond.instanceMethod yX2_isWord, Cond.selects RX2 yX2_isWord yX2_isWord, Cond.initialized RX2, Cond.code yX2_isWord cX2_isWord 3 (some .boolean), Cond.fieldLink RX2 77 "ColdShips$Reader" "kind" "I", Cond.fieldLink RX2 29 "ColdShips$Reader" "behind" "I", Cond.fieldLink RX2 60 "ColdShips$Reader" "place" "I", Cond.fieldLink RX2 11 "ColdShips$Reader" "tape" "[C", Cond.methodLink RX2 190 yJ0_length_8abf5, Cond.instanceMethod yJ0_length_8abf5, Cond.selects RJ0 yJ0_length_8abf5 yJ0_length_8abf5, Cond.initialized RJ0, Cond.code yJ0_length_8abf5 cJ0_length_8abf5 1 (some .int), Cond.fieldLink RJ0 9 "java/lang/String" "value" "[B", Cond.methodLink RJ0 335 yJ0_coder_7d493, Cond.instanceMethod yJ0_coder_7d493, Cond.selects RJ0 yJ0_coder_7d493 yJ0_coder_7d493, Cond.code yJ0_coder_7d493 cJ0_coder_7d493 1 (some .byte), Cond.fieldLink RJ0 38 "java/lang/String" "COMPACT_STRINGS" "Z", Cond.fieldLink RJ0 15 "java/lang/String" "coder" "B", Cond.methodLink RX2 195 yJ0_charAt_5068e, Cond.instanceMethod yJ0_charAt_5068e, Cond.selects RJ0 yJ0_charAt_5068e yJ0_charAt_5068e]
def wsX2_passWord_r2 : List Cond := [Cond.code yJ0_charAt_5068e cJ0_charAt_5068e 2 (some .char), Cond.methodLink RJ0 492 yJ0_isLatin1_aae02, Cond.instanceMethod yJ0_isLatin1_aae02, Cond.selects RJ0 yJ0_isLatin1_aae02 yJ0_isLatin1_aae02, Cond.code yJ0_isLatin1_aae02 cJ0_isLatin1_aae02 1 (some .boolean), Cond.methodLink RJ0 495 yJ1_charAt_3b067, Cond.static yJ1_charAt_3b067, Cond.initialized RJ1, Cond.code yJ1_charAt_3b067 cJ1_charAt_3b067 2 (some .char), Cond.methodLink RJ1 9 yJ0_checkIndex_df160, Cond.static yJ0_checkIndex_df160, Cond.code yJ0_checkIndex_df160 cJ0_checkIndex_df160 2 none, Cond.fieldLink RJ0 1053 "jdk/internal/util/Preconditions" "SIOOBE_FORMATTER" "Ljava/util/function/BiFunction;", Cond.methodLink RJ0 1059 yJ3_checkIndex_8e157, Cond.static yJ3_checkIndex_8e157, Cond.initialized RJ3, Cond.code yJ3_checkIndex_8e157 cJ3_checkIndex_8e157 3 (some .int), Cond.methodLink RJ0 498 yJ2_charAt_3b067, Cond.static yJ2_charAt_3b067, Cond.initialized RJ2, Cond.code yJ2_charAt_3b067 cJ2_charAt_3b067 2 (some .char), Cond.methodLink RJ2 67 yJ2_checkIndex_2214a, Cond.static yJ2_checkIndex_2214a, Cond.code yJ2_checkIndex_2214a cJ2_checkIndex_2214a 2 none]
def wsX2_passWord_r3 : List Cond := [Cond.methodLink RJ2 48 yJ2_length_9d52b, Cond.static yJ2_length_9d52b, Cond.code yJ2_length_9d52b cJ2_length_9d52b 1 (some .int), Cond.methodLink RJ2 414 yJ0_checkIndex_df160, Cond.methodLink RJ2 71 yJ2_getChar_3b067, Cond.static yJ2_getChar_3b067, Cond.code yJ2_getChar_3b067 cJ2_getChar_3b067 2 (some .char), Cond.fieldLink RJ2 44 "java/lang/StringUTF16" "$assertionsDisabled" "Z", Cond.fieldLink RJ2 59 "java/lang/StringUTF16" "HI_BYTE_SHIFT" "I", Cond.fieldLink RJ2 63 "java/lang/StringUTF16" "LO_BYTE_SHIFT" "I", Cond.methodLink RX2 53 yX2_advance, Cond.instanceMethod yX2_advance, Cond.selects RX2 yX2_advance yX2_advance, Cond.code yX2_advance cX2_advance 1 none, Cond.fieldLink RX2 26 "ColdShips$Reader" "size" "I", Cond.fieldLink RX2 99 "ColdShips$Reader" "value" "I", Cond.constant RX2 205 (100001), Cond.methodLink RX2 206 Lib.Math.min.name, Cond.static Lib.Math.min.name, Cond.initialized "java/lang/Math", Cond.code Lib.Math.min.name Lib.Math.min.code 2 (some .int), Cond.methodLink RX2 199 yX2_isLetter, Cond.static yX2_isLetter, Cond.code yX2_isLetter cX2_isLetter 1 (some .boolean)]
def wsX2_passWord_r4 : List Cond := [Cond.methodLink RX2 202 yX2_isDigit, Cond.static yX2_isDigit, Cond.code yX2_isDigit cX2_isDigit 1 (some .boolean)]
def wsX2_passWord : List Cond := .code yX2_passWord cX2_passWord 3 (some .boolean) :: ((wsX2_passWord_r1 ++ (wsX2_passWord_r2 ++ (wsX2_passWord_r3 ++ wsX2_passWord_r4))) ++ wsX20)
def wsX2_isNumber : List Cond := .code yX2_isNumber cX2_isNumber 3 (some .boolean) :: ([.fieldLink RX2 77 "ColdShips$Reader" "kind" "I", .fieldLink RX2 99 "ColdShips$Reader" "value" "I", .static yX11_within, .initialized RX11, .code yX11_within cX11_within 3 (some .boolean)] ++ wsX20)
def wsX2_emit : List Cond := .code yX2_emit cX2_emit 2 none :: ([.fieldLink RX2 32 "ColdShips$Reader" "cells" "I", .fieldLink RX2 19 "ColdShips$Reader" "code" "[I"] ++ wsX20)
def wsX2_emitJump : List Cond := .code yX2_emitJump cX2_emitJump 2 (some .int) :: ([.fieldLink RX2 32 "ColdShips$Reader" "cells" "I", .methodLink RX2 120 yX2_emit, .instanceMethod yX2_emit, .selects RX2 yX2_emit yX2_emit, .initialized RX2, .code yX2_emit cX2_emit 2 none, .fieldLink RX2 19 "ColdShips$Reader" "code" "[I"] ++ wsX20)
def wsX2_land : List Cond := .code yX2_land cX2_land 2 none :: ([.fieldLink RX2 19 "ColdShips$Reader" "code" "[I", .fieldLink RX2 32 "ColdShips$Reader" "cells" "I"] ++ wsX20)
def wsX2_isSign : List Cond := .code yX2_isSign cX2_isSign 2 (some .boolean) :: ([.fieldLink RX2 77 "ColdShips$Reader" "kind" "I", .fieldLink RX2 11 "ColdShips$Reader" "tape" "[C", .fieldLink RX2 60 "ColdShips$Reader" "place" "I"] ++ wsX20)
def wsX2_passSign_r1 : List Cond := [Cond.methodLink RX2 143 yX2_isSign, Cond.instanceMethod yX2_isSign, Cond.selects RX2 yX2_isSign yX2_isSign, Cond.initialized RX2, Cond.code yX2_isSign cX2_isSign 2 (some .boolean), Cond.fieldLink RX2 77 "ColdShips$Reader" "kind" "I", Cond.fieldLink RX2 11 "ColdShips$Reader" "tape" "[C", Cond.fieldLink RX2 60 "ColdShips$Reader" "place" "I", Cond.methodLink RX2 53 yX2_advance, Cond.instanceMethod yX2_advance, Cond.selects RX2 yX2_advance yX2_advance, Cond.code yX2_advance cX2_advance 1 none, Cond.fieldLink RX2 29 "ColdShips$Reader" "behind" "I", Cond.fieldLink RX2 26 "ColdShips$Reader" "size" "I", Cond.fieldLink RX2 99 "ColdShips$Reader" "value" "I", Cond.constant RX2 205 (100001), Cond.methodLink RX2 206 Lib.Math.min.name, Cond.static Lib.Math.min.name, Cond.initialized "java/lang/Math", Cond.code Lib.Math.min.name Lib.Math.min.code 2 (some .int), Cond.methodLink RX2 199 yX2_isLetter, Cond.static yX2_isLetter, Cond.code yX2_isLetter cX2_isLetter 1 (some .boolean), Cond.methodLink RX2 202 yX2_isDigit]
def wsX2_passSign_r2 : List Cond := [Cond.static yX2_isDigit, Cond.code yX2_isDigit cX2_isDigit 1 (some .boolean)]
def wsX2_passSign : List Cond := .code yX2_passSign cX2_passSign 3 (some .boolean) :: ((wsX2_passSign_r1 ++ wsX2_passSign_r2) ++ wsX20)
def wsX2_factHere_r1 : List Cond := [Cond.methodLink RX2 169 yX2_isWord, Cond.instanceMethod yX2_isWord, Cond.selects RX2 yX2_isWord yX2_isWord, Cond.initialized RX2, Cond.code yX2_isWord cX2_isWord 3 (some .boolean), Cond.fieldLink RX2 77 "ColdShips$Reader" "kind" "I", Cond.fieldLink RX2 29 "ColdShips$Reader" "behind" "I", Cond.fieldLink RX2 60 "ColdShips$Reader" "place" "I", Cond.fieldLink RX2 11 "ColdShips$Reader" "tape" "[C", Cond.methodLink RX2 190 yJ0_length_8abf5, Cond.instanceMethod yJ0_length_8abf5, Cond.selects RJ0 yJ0_length_8abf5 yJ0_length_8abf5, Cond.initialized RJ0, Cond.code yJ0_length_8abf5 cJ0_length_8abf5 1 (some .int), Cond.fieldLink RJ0 9 "java/lang/String" "value" "[B", Cond.methodLink RJ0 335 yJ0_coder_7d493, Cond.instanceMethod yJ0_coder_7d493, Cond.selects RJ0 yJ0_coder_7d493 yJ0_coder_7d493, Cond.code yJ0_coder_7d493 cJ0_coder_7d493 1 (some .byte), Cond.fieldLink RJ0 38 "java/lang/String" "COMPACT_STRINGS" "Z", Cond.fieldLink RJ0 15 "java/lang/String" "coder" "B", Cond.methodLink RX2 195 yJ0_charAt_5068e, Cond.instanceMethod yJ0_charAt_5068e, Cond.selects RJ0 yJ0_charAt_5068e yJ0_charAt_5068e]
def wsX2_factHere_r2 : List Cond := [Cond.code yJ0_charAt_5068e cJ0_charAt_5068e 2 (some .char), Cond.methodLink RJ0 492 yJ0_isLatin1_aae02, Cond.instanceMethod yJ0_isLatin1_aae02, Cond.selects RJ0 yJ0_isLatin1_aae02 yJ0_isLatin1_aae02, Cond.code yJ0_isLatin1_aae02 cJ0_isLatin1_aae02 1 (some .boolean), Cond.methodLink RJ0 495 yJ1_charAt_3b067, Cond.static yJ1_charAt_3b067, Cond.initialized RJ1, Cond.code yJ1_charAt_3b067 cJ1_charAt_3b067 2 (some .char), Cond.methodLink RJ1 9 yJ0_checkIndex_df160, Cond.static yJ0_checkIndex_df160, Cond.code yJ0_checkIndex_df160 cJ0_checkIndex_df160 2 none, Cond.fieldLink RJ0 1053 "jdk/internal/util/Preconditions" "SIOOBE_FORMATTER" "Ljava/util/function/BiFunction;", Cond.methodLink RJ0 1059 yJ3_checkIndex_8e157, Cond.static yJ3_checkIndex_8e157, Cond.initialized RJ3, Cond.code yJ3_checkIndex_8e157 cJ3_checkIndex_8e157 3 (some .int), Cond.methodLink RJ0 498 yJ2_charAt_3b067, Cond.static yJ2_charAt_3b067, Cond.initialized RJ2, Cond.code yJ2_charAt_3b067 cJ2_charAt_3b067 2 (some .char), Cond.methodLink RJ2 67 yJ2_checkIndex_2214a, Cond.static yJ2_checkIndex_2214a, Cond.code yJ2_checkIndex_2214a cJ2_checkIndex_2214a 2 none]
def wsX2_factHere_r3 : List Cond := [Cond.methodLink RJ2 48 yJ2_length_9d52b, Cond.static yJ2_length_9d52b, Cond.code yJ2_length_9d52b cJ2_length_9d52b 1 (some .int), Cond.methodLink RJ2 414 yJ0_checkIndex_df160, Cond.methodLink RJ2 71 yJ2_getChar_3b067, Cond.static yJ2_getChar_3b067, Cond.code yJ2_getChar_3b067 cJ2_getChar_3b067 2 (some .char), Cond.fieldLink RJ2 44 "java/lang/StringUTF16" "$assertionsDisabled" "Z", Cond.fieldLink RJ2 59 "java/lang/StringUTF16" "HI_BYTE_SHIFT" "I", Cond.fieldLink RJ2 63 "java/lang/StringUTF16" "LO_BYTE_SHIFT" "I"]
def wsX2_factHere : List Cond := .code yX2_factHere cX2_factHere 1 (some .int) :: ((wsX2_factHere_r1 ++ (wsX2_factHere_r2 ++ wsX2_factHere_r3)) ++ wsX20)
def wsX2_leafHere_r1 : List Cond := [Cond.fieldLink RX2 77 "ColdShips$Reader" "kind" "I", Cond.fieldLink RX2 99 "ColdShips$Reader" "value" "I", Cond.constant RX2 163 (100000), Cond.methodLink RX2 164 yX2_factHere, Cond.instanceMethod yX2_factHere, Cond.selects RX2 yX2_factHere yX2_factHere, Cond.initialized RX2, Cond.code yX2_factHere cX2_factHere 1 (some .int), Cond.methodLink RX2 169 yX2_isWord, Cond.instanceMethod yX2_isWord, Cond.selects RX2 yX2_isWord yX2_isWord, Cond.code yX2_isWord cX2_isWord 3 (some .boolean), Cond.fieldLink RX2 29 "ColdShips$Reader" "behind" "I", Cond.fieldLink RX2 60 "ColdShips$Reader" "place" "I", Cond.fieldLink RX2 11 "ColdShips$Reader" "tape" "[C", Cond.methodLink RX2 190 yJ0_length_8abf5, Cond.instanceMethod yJ0_length_8abf5, Cond.selects RJ0 yJ0_length_8abf5 yJ0_length_8abf5, Cond.initialized RJ0, Cond.code yJ0_length_8abf5 cJ0_length_8abf5 1 (some .int), Cond.fieldLink RJ0 9 "java/lang/String" "value" "[B", Cond.methodLink RJ0 335 yJ0_coder_7d493, Cond.instanceMethod yJ0_coder_7d493, Cond.selects RJ0 yJ0_coder_7d493 yJ0_coder_7d493]
def wsX2_leafHere_r2 : List Cond := [Cond.code yJ0_coder_7d493 cJ0_coder_7d493 1 (some .byte), Cond.fieldLink RJ0 38 "java/lang/String" "COMPACT_STRINGS" "Z", Cond.fieldLink RJ0 15 "java/lang/String" "coder" "B", Cond.methodLink RX2 195 yJ0_charAt_5068e, Cond.instanceMethod yJ0_charAt_5068e, Cond.selects RJ0 yJ0_charAt_5068e yJ0_charAt_5068e, Cond.code yJ0_charAt_5068e cJ0_charAt_5068e 2 (some .char), Cond.methodLink RJ0 492 yJ0_isLatin1_aae02, Cond.instanceMethod yJ0_isLatin1_aae02, Cond.selects RJ0 yJ0_isLatin1_aae02 yJ0_isLatin1_aae02, Cond.code yJ0_isLatin1_aae02 cJ0_isLatin1_aae02 1 (some .boolean), Cond.methodLink RJ0 495 yJ1_charAt_3b067, Cond.static yJ1_charAt_3b067, Cond.initialized RJ1, Cond.code yJ1_charAt_3b067 cJ1_charAt_3b067 2 (some .char), Cond.methodLink RJ1 9 yJ0_checkIndex_df160, Cond.static yJ0_checkIndex_df160, Cond.code yJ0_checkIndex_df160 cJ0_checkIndex_df160 2 none, Cond.fieldLink RJ0 1053 "jdk/internal/util/Preconditions" "SIOOBE_FORMATTER" "Ljava/util/function/BiFunction;", Cond.methodLink RJ0 1059 yJ3_checkIndex_8e157, Cond.static yJ3_checkIndex_8e157, Cond.initialized RJ3, Cond.code yJ3_checkIndex_8e157 cJ3_checkIndex_8e157 3 (some .int), Cond.methodLink RJ0 498 yJ2_charAt_3b067]
def wsX2_leafHere_r3 : List Cond := [Cond.static yJ2_charAt_3b067, Cond.initialized RJ2, Cond.code yJ2_charAt_3b067 cJ2_charAt_3b067 2 (some .char), Cond.methodLink RJ2 67 yJ2_checkIndex_2214a, Cond.static yJ2_checkIndex_2214a, Cond.code yJ2_checkIndex_2214a cJ2_checkIndex_2214a 2 none, Cond.methodLink RJ2 48 yJ2_length_9d52b, Cond.static yJ2_length_9d52b, Cond.code yJ2_length_9d52b cJ2_length_9d52b 1 (some .int), Cond.methodLink RJ2 414 yJ0_checkIndex_df160, Cond.methodLink RJ2 71 yJ2_getChar_3b067, Cond.static yJ2_getChar_3b067, Cond.code yJ2_getChar_3b067 cJ2_getChar_3b067 2 (some .char), Cond.fieldLink RJ2 44 "java/lang/StringUTF16" "$assertionsDisabled" "Z", Cond.fieldLink RJ2 59 "java/lang/StringUTF16" "HI_BYTE_SHIFT" "I", Cond.fieldLink RJ2 63 "java/lang/StringUTF16" "LO_BYTE_SHIFT" "I"]
def wsX2_leafHere : List Cond := .code yX2_leafHere cX2_leafHere 2 (some .int) :: ((wsX2_leafHere_r1 ++ (wsX2_leafHere_r2 ++ wsX2_leafHere_r3)) ++ wsX20)
theorem dX2_hasRoom_0 : decode cX2_hasRoom 0 = .ok (.aload_n 0, 1) := by decide +kernel
theorem dX2_hasRoom_1 : decode cX2_hasRoom 1 = .ok (.getfield 26, 3) := by decide +kernel
theorem dX2_hasRoom_4 : decode cX2_hasRoom 4 = .ok (.bipush 20, 2) := by decide +kernel
theorem dX2_hasRoom_6 : decode cX2_hasRoom 6 = .ok (.iadd, 1) := by decide +kernel
theorem dX2_hasRoom_7 : decode cX2_hasRoom 7 = .ok (.sipush 400, 3) := by decide +kernel
theorem dX2_hasRoom_10 : decode cX2_hasRoom 10 = .ok (.if_icmp .gt 7, 3) := by decide +kernel
theorem dX2_hasRoom_13 : decode cX2_hasRoom 13 = .ok (.iconst 1, 1) := by decide +kernel
theorem dX2_hasRoom_14 : decode cX2_hasRoom 14 = .ok (.goto 4, 3) := by decide +kernel
theorem dX2_hasRoom_17 : decode cX2_hasRoom 17 = .ok (.iconst 0, 1) := by decide +kernel
theorem dX2_hasRoom_18 : decode cX2_hasRoom 18 = .ok (.ireturn, 1) := by decide +kernel
theorem dX2_addFour_0 : decode cX2_addFour 0 = .ok (.bipush 24, 2) := by decide +kernel
theorem dX2_addFour_2 : decode cX2_addFour 2 = .ok (.istore_n 2, 1) := by decide +kernel
theorem dX2_addFour_3 : decode cX2_addFour 3 = .ok (.iload_n 2, 1) := by decide +kernel
theorem dX2_addFour_4 : decode cX2_addFour 4 = .ok (.ifCond .lt 46, 3) := by decide +kernel
theorem dX2_addFour_7 : decode cX2_addFour 7 = .ok (.aload_n 0, 1) := by decide +kernel
theorem dX2_addFour_8 : decode cX2_addFour 8 = .ok (.getfield 26, 3) := by decide +kernel
theorem dX2_addFour_11 : decode cX2_addFour 11 = .ok (.sipush 400, 3) := by decide +kernel
theorem dX2_addFour_14 : decode cX2_addFour 14 = .ok (.if_icmp .ge 36, 3) := by decide +kernel
theorem dX2_addFour_17 : decode cX2_addFour 17 = .ok (.aload_n 0, 1) := by decide +kernel
theorem dX2_addFour_18 : decode cX2_addFour 18 = .ok (.getfield 11, 3) := by decide +kernel
theorem dX2_addFour_21 : decode cX2_addFour 21 = .ok (.aload_n 0, 1) := by decide +kernel
theorem dX2_addFour_22 : decode cX2_addFour 22 = .ok (.getfield 26, 3) := by decide +kernel
theorem dX2_addFour_25 : decode cX2_addFour 25 = .ok (.iload_n 1, 1) := by decide +kernel
theorem dX2_addFour_26 : decode cX2_addFour 26 = .ok (.iload_n 2, 1) := by decide +kernel
theorem dX2_addFour_27 : decode cX2_addFour 27 = .ok (.iushr, 1) := by decide +kernel
theorem dX2_addFour_28 : decode cX2_addFour 28 = .ok (.sipush 255, 3) := by decide +kernel
theorem dX2_addFour_31 : decode cX2_addFour 31 = .ok (.iand, 1) := by decide +kernel
theorem dX2_addFour_32 : decode cX2_addFour 32 = .ok (.i2c, 1) := by decide +kernel
theorem dX2_addFour_33 : decode cX2_addFour 33 = .ok (.castore, 1) := by decide +kernel
theorem dX2_addFour_34 : decode cX2_addFour 34 = .ok (.aload_n 0, 1) := by decide +kernel
theorem dX2_addFour_35 : decode cX2_addFour 35 = .ok (.dup, 1) := by decide +kernel
theorem dX2_addFour_36 : decode cX2_addFour 36 = .ok (.getfield 26, 3) := by decide +kernel
theorem dX2_addFour_39 : decode cX2_addFour 39 = .ok (.iconst 1, 1) := by decide +kernel
theorem dX2_addFour_40 : decode cX2_addFour 40 = .ok (.iadd, 1) := by decide +kernel
theorem dX2_addFour_41 : decode cX2_addFour 41 = .ok (.putfield 26, 3) := by decide +kernel
theorem dX2_addFour_44 : decode cX2_addFour 44 = .ok (.iinc 2 (-8), 3) := by decide +kernel
theorem dX2_addFour_47 : decode cX2_addFour 47 = .ok (.goto (-44), 3) := by decide +kernel
theorem dX2_addFour_50 : decode cX2_addFour 50 = .ok (.return_, 1) := by decide +kernel
theorem dX2_emptyTape_0 : decode cX2_emptyTape 0 = .ok (.aload_n 0, 1) := by decide +kernel
theorem dX2_emptyTape_1 : decode cX2_emptyTape 1 = .ok (.iconst 0, 1) := by decide +kernel
theorem dX2_emptyTape_2 : decode cX2_emptyTape 2 = .ok (.putfield 26, 3) := by decide +kernel
theorem dX2_emptyTape_5 : decode cX2_emptyTape 5 = .ok (.return_, 1) := by decide +kernel
set_option maxRecDepth 20000 in
theorem ggX2_leafHere_X2_factHere : GoodIn wsX2_leafHere wsX2_factHere := goodIn_r _ [8, 9, 10, 11, 7, 12, 1, 13, 14, 15, 16, 17, 18, 19, 20, 21, 22, 23, 24, 25, 26, 27, 28, 29, 30, 31, 32, 33, 34, 35, 36, 37, 38, 39, 40, 41, 42, 43, 44, 45, 46, 47, 48, 49, 50, 51, 52, 53, 54, 55, 56, 57, 58, 59, 60, 61, 62, 63, 64, 65, 66, 67, 68, 69, 70, 71, 72, 73, 74, 75, 76, 77, 78, 79, 80] (by decide +kernel) (by decide +kernel)
set_option maxRecDepth 20000 in
theorem gX2_leafHere_X2_factHere : GoodIn wsX2_leafHere (wsV RX2 164 RX2 yX2_factHere wsX2_factHere) := goodIn_app (goodIn_of _ (by decide +kernel)) ggX2_leafHere_X2_factHere
theorem dX2_leafHere_0 : decode cX2_leafHere 0 = .ok (.aload_n 0, 1) := by decide +kernel
theorem dX2_leafHere_1 : decode cX2_leafHere 1 = .ok (.getfield 77, 3) := by decide +kernel
theorem dX2_leafHere_4 : decode cX2_leafHere 4 = .ok (.iconst 2, 1) := by decide +kernel
theorem dX2_leafHere_5 : decode cX2_leafHere 5 = .ok (.if_icmp .ne 23, 3) := by decide +kernel
theorem dX2_leafHere_8 : decode cX2_leafHere 8 = .ok (.aload_n 0, 1) := by decide +kernel
theorem dX2_leafHere_9 : decode cX2_leafHere 9 = .ok (.getfield 99, 3) := by decide +kernel
theorem dX2_leafHere_12 : decode cX2_leafHere 12 = .ok (.ldc 163, 2) := by decide +kernel
theorem dX2_leafHere_14 : decode cX2_leafHere 14 = .ok (.if_icmp .gt 10, 3) := by decide +kernel
theorem dX2_leafHere_17 : decode cX2_leafHere 17 = .ok (.aload_n 0, 1) := by decide +kernel
theorem dX2_leafHere_18 : decode cX2_leafHere 18 = .ok (.getfield 99, 3) := by decide +kernel
theorem dX2_leafHere_21 : decode cX2_leafHere 21 = .ok (.goto 6, 3) := by decide +kernel
theorem dX2_leafHere_24 : decode cX2_leafHere 24 = .ok (.sipush (-1000), 3) := by decide +kernel
theorem dX2_leafHere_27 : decode cX2_leafHere 27 = .ok (.ireturn, 1) := by decide +kernel
theorem dX2_leafHere_28 : decode cX2_leafHere 28 = .ok (.aload_n 0, 1) := by decide +kernel
theorem dX2_leafHere_29 : decode cX2_leafHere 29 = .ok (.invokevirtual 164, 3) := by decide +kernel
theorem dX2_leafHere_32 : decode cX2_leafHere 32 = .ok (.istore_n 1, 1) := by decide +kernel
theorem dX2_leafHere_33 : decode cX2_leafHere 33 = .ok (.iload_n 1, 1) := by decide +kernel
theorem dX2_leafHere_34 : decode cX2_leafHere 34 = .ok (.iconst (-1), 1) := by decide +kernel
theorem dX2_leafHere_35 : decode cX2_leafHere 35 = .ok (.if_icmp .ne 9, 3) := by decide +kernel
theorem dX2_leafHere_38 : decode cX2_leafHere 38 = .ok (.sipush (-1000), 3) := by decide +kernel
theorem dX2_leafHere_41 : decode cX2_leafHere 41 = .ok (.goto 6, 3) := by decide +kernel
theorem dX2_leafHere_44 : decode cX2_leafHere 44 = .ok (.iconst (-1), 1) := by decide +kernel
theorem dX2_leafHere_45 : decode cX2_leafHere 45 = .ok (.iload_n 1, 1) := by decide +kernel
theorem dX2_leafHere_46 : decode cX2_leafHere 46 = .ok (.isub, 1) := by decide +kernel
theorem dX2_leafHere_47 : decode cX2_leafHere 47 = .ok (.ireturn, 1) := by decide +kernel
set_option maxRecDepth 20000 in
theorem ggX2_factHere_X2_isWord : GoodIn wsX2_factHere wsX2_isWord := goodIn_r _ [5, 6, 7, 8, 9, 10, 11, 12, 13, 14, 15, 16, 17, 18, 19, 20, 21, 22, 23, 24, 25, 26, 27, 28, 29, 30, 31, 32, 33, 34, 35, 36, 37, 38, 39, 40, 41, 42, 43, 44, 45, 46, 47, 48, 49, 50, 51, 52, 53, 54, 55, 56, 57, 58, 59, 60, 61, 62, 63, 64, 65, 66, 67, 68, 69, 70, 71, 72, 73, 74] (by decide +kernel) (by decide +kernel)
set_option maxRecDepth 20000 in
theorem gX2_factHere_X2_isWord : GoodIn wsX2_factHere (wsV RX2 169 RX2 yX2_isWord wsX2_isWord) := goodIn_app (goodIn_of _ (by decide +kernel)) ggX2_factHere_X2_isWord
theorem dX2_factHere_0 : decode cX2_factHere 0 = .ok (.aload_n 0, 1) := by decide +kernel
theorem dX2_factHere_1 : decode cX2_factHere 1 = .ok (.ldc 167, 2) := by decide +kernel
theorem dX2_factHere_3 : decode cX2_factHere 3 = .ok (.invokevirtual 169, 3) := by decide +kernel
theorem dX2_factHere_6 : decode cX2_factHere 6 = .ok (.ifCond .eq 5, 3) := by decide +kernel
theorem dX2_factHere_9 : decode cX2_factHere 9 = .ok (.iconst 0, 1) := by decide +kernel
theorem dX2_factHere_10 : decode cX2_factHere 10 = .ok (.ireturn, 1) := by decide +kernel
theorem dX2_factHere_11 : decode cX2_factHere 11 = .ok (.aload_n 0, 1) := by decide +kernel
theorem dX2_factHere_12 : decode cX2_factHere 12 = .ok (.ldc 172, 2) := by decide +kernel
theorem dX2_factHere_14 : decode cX2_factHere 14 = .ok (.invokevirtual 169, 3) := by decide +kernel
theorem dX2_factHere_17 : decode cX2_factHere 17 = .ok (.ifCond .eq 5, 3) := by decide +kernel
theorem dX2_factHere_20 : decode cX2_factHere 20 = .ok (.iconst 1, 1) := by decide +kernel
theorem dX2_factHere_21 : decode cX2_factHere 21 = .ok (.ireturn, 1) := by decide +kernel
theorem dX2_factHere_22 : decode cX2_factHere 22 = .ok (.aload_n 0, 1) := by decide +kernel
theorem dX2_factHere_23 : decode cX2_factHere 23 = .ok (.ldc 174, 2) := by decide +kernel
theorem dX2_factHere_25 : decode cX2_factHere 25 = .ok (.invokevirtual 169, 3) := by decide +kernel
theorem dX2_factHere_28 : decode cX2_factHere 28 = .ok (.ifCond .eq 5, 3) := by decide +kernel
theorem dX2_factHere_31 : decode cX2_factHere 31 = .ok (.iconst 2, 1) := by decide +kernel
theorem dX2_factHere_32 : decode cX2_factHere 32 = .ok (.ireturn, 1) := by decide +kernel
theorem dX2_factHere_33 : decode cX2_factHere 33 = .ok (.aload_n 0, 1) := by decide +kernel
theorem dX2_factHere_34 : decode cX2_factHere 34 = .ok (.ldc 176, 2) := by decide +kernel
theorem dX2_factHere_36 : decode cX2_factHere 36 = .ok (.invokevirtual 169, 3) := by decide +kernel
theorem dX2_factHere_39 : decode cX2_factHere 39 = .ok (.ifCond .eq 5, 3) := by decide +kernel
theorem dX2_factHere_42 : decode cX2_factHere 42 = .ok (.iconst 3, 1) := by decide +kernel
theorem dX2_factHere_43 : decode cX2_factHere 43 = .ok (.ireturn, 1) := by decide +kernel
theorem dX2_factHere_44 : decode cX2_factHere 44 = .ok (.aload_n 0, 1) := by decide +kernel
theorem dX2_factHere_45 : decode cX2_factHere 45 = .ok (.ldc 178, 2) := by decide +kernel
theorem dX2_factHere_47 : decode cX2_factHere 47 = .ok (.invokevirtual 169, 3) := by decide +kernel
theorem dX2_factHere_50 : decode cX2_factHere 50 = .ok (.ifCond .eq 5, 3) := by decide +kernel
theorem dX2_factHere_53 : decode cX2_factHere 53 = .ok (.iconst 4, 1) := by decide +kernel
theorem dX2_factHere_54 : decode cX2_factHere 54 = .ok (.ireturn, 1) := by decide +kernel
theorem dX2_factHere_55 : decode cX2_factHere 55 = .ok (.aload_n 0, 1) := by decide +kernel
theorem dX2_factHere_56 : decode cX2_factHere 56 = .ok (.ldc 180, 2) := by decide +kernel
theorem dX2_factHere_58 : decode cX2_factHere 58 = .ok (.invokevirtual 169, 3) := by decide +kernel
theorem dX2_factHere_61 : decode cX2_factHere 61 = .ok (.ifCond .eq 5, 3) := by decide +kernel
theorem dX2_factHere_64 : decode cX2_factHere 64 = .ok (.iconst 5, 1) := by decide +kernel
theorem dX2_factHere_65 : decode cX2_factHere 65 = .ok (.ireturn, 1) := by decide +kernel
theorem dX2_factHere_66 : decode cX2_factHere 66 = .ok (.aload_n 0, 1) := by decide +kernel
theorem dX2_factHere_67 : decode cX2_factHere 67 = .ok (.ldc 182, 2) := by decide +kernel
theorem dX2_factHere_69 : decode cX2_factHere 69 = .ok (.invokevirtual 169, 3) := by decide +kernel
theorem dX2_factHere_72 : decode cX2_factHere 72 = .ok (.ifCond .eq 6, 3) := by decide +kernel
theorem dX2_factHere_75 : decode cX2_factHere 75 = .ok (.bipush 6, 2) := by decide +kernel
theorem dX2_factHere_77 : decode cX2_factHere 77 = .ok (.ireturn, 1) := by decide +kernel
theorem dX2_factHere_78 : decode cX2_factHere 78 = .ok (.aload_n 0, 1) := by decide +kernel
theorem dX2_factHere_79 : decode cX2_factHere 79 = .ok (.ldc 184, 2) := by decide +kernel
theorem dX2_factHere_81 : decode cX2_factHere 81 = .ok (.invokevirtual 169, 3) := by decide +kernel
theorem dX2_factHere_84 : decode cX2_factHere 84 = .ok (.ifCond .eq 8, 3) := by decide +kernel
theorem dX2_factHere_87 : decode cX2_factHere 87 = .ok (.bipush 7, 2) := by decide +kernel
theorem dX2_factHere_89 : decode cX2_factHere 89 = .ok (.goto 4, 3) := by decide +kernel
theorem dX2_factHere_92 : decode cX2_factHere 92 = .ok (.iconst (-1), 1) := by decide +kernel
theorem dX2_factHere_93 : decode cX2_factHere 93 = .ok (.ireturn, 1) := by decide +kernel
set_option maxRecDepth 20000 in
theorem ggX2_isNumber_X11_within : GoodIn wsX2_isNumber wsX11_within := goodIn_r _ [5] (by decide +kernel) (by decide +kernel)
theorem dX2_isNumber_0 : decode cX2_isNumber 0 = .ok (.aload_n 0, 1) := by decide +kernel
theorem dX2_isNumber_1 : decode cX2_isNumber 1 = .ok (.getfield 77, 3) := by decide +kernel
theorem dX2_isNumber_4 : decode cX2_isNumber 4 = .ok (.iconst 2, 1) := by decide +kernel
theorem dX2_isNumber_5 : decode cX2_isNumber 5 = .ok (.if_icmp .ne 19, 3) := by decide +kernel
theorem dX2_isNumber_8 : decode cX2_isNumber 8 = .ok (.aload_n 0, 1) := by decide +kernel
theorem dX2_isNumber_9 : decode cX2_isNumber 9 = .ok (.getfield 99, 3) := by decide +kernel
theorem dX2_isNumber_12 : decode cX2_isNumber 12 = .ok (.iload_n 1, 1) := by decide +kernel
theorem dX2_isNumber_13 : decode cX2_isNumber 13 = .ok (.iload_n 2, 1) := by decide +kernel
theorem dX2_isNumber_14 : decode cX2_isNumber 14 = .ok (.invokestatic 186, 3) := by decide +kernel
theorem dX2_isNumber_17 : decode cX2_isNumber 17 = .ok (.ifCond .eq 7, 3) := by decide +kernel
theorem dX2_isNumber_20 : decode cX2_isNumber 20 = .ok (.iconst 1, 1) := by decide +kernel
theorem dX2_isNumber_21 : decode cX2_isNumber 21 = .ok (.goto 4, 3) := by decide +kernel
theorem dX2_isNumber_24 : decode cX2_isNumber 24 = .ok (.iconst 0, 1) := by decide +kernel
theorem dX2_isNumber_25 : decode cX2_isNumber 25 = .ok (.ireturn, 1) := by decide +kernel
set_option maxRecDepth 20000 in
theorem ggX2_passWord_X2_isWord : GoodIn wsX2_passWord wsX2_isWord := goodIn_r _ [5, 6, 7, 8, 9, 10, 11, 12, 13, 14, 15, 16, 17, 18, 19, 20, 21, 22, 23, 24, 25, 26, 27, 28, 29, 30, 31, 32, 33, 34, 35, 36, 37, 38, 39, 40, 41, 42, 43, 44, 45, 46, 47, 48, 49, 50, 51, 52, 53, 54, 55, 56, 57, 58, 76, 77, 78, 79, 80, 81, 82, 83, 84, 85, 86, 87, 88, 89, 90, 91] (by decide +kernel) (by decide +kernel)
set_option maxRecDepth 20000 in
theorem gX2_passWord_X2_isWord : GoodIn wsX2_passWord (wsV RX2 169 RX2 yX2_isWord wsX2_isWord) := goodIn_app (goodIn_of _ (by decide +kernel)) ggX2_passWord_X2_isWord
set_option maxRecDepth 20000 in
theorem ggX2_passWord_X2_advance : GoodIn wsX2_passWord wsX2_advance := goodIn_r _ [62, 7, 8, 63, 9, 6, 64, 65, 66, 67, 68, 69, 70, 71, 4, 72, 73, 74, 75, 76, 77, 78, 79, 80, 81, 82, 83, 84, 85, 86, 87, 88, 89, 90, 91] (by decide +kernel) (by decide +kernel)
set_option maxRecDepth 20000 in
theorem gX2_passWord_X2_advance : GoodIn wsX2_passWord (wsV RX2 53 RX2 yX2_advance wsX2_advance) := goodIn_app (goodIn_of _ (by decide +kernel)) ggX2_passWord_X2_advance
theorem dX2_passWord_0 : decode cX2_passWord 0 = .ok (.aload_n 0, 1) := by decide +kernel
theorem dX2_passWord_1 : decode cX2_passWord 1 = .ok (.aload_n 1, 1) := by decide +kernel
theorem dX2_passWord_2 : decode cX2_passWord 2 = .ok (.invokevirtual 169, 3) := by decide +kernel
theorem dX2_passWord_5 : decode cX2_passWord 5 = .ok (.istore_n 2, 1) := by decide +kernel
theorem dX2_passWord_6 : decode cX2_passWord 6 = .ok (.iload_n 2, 1) := by decide +kernel
theorem dX2_passWord_7 : decode cX2_passWord 7 = .ok (.ifCond .eq 7, 3) := by decide +kernel
theorem dX2_passWord_10 : decode cX2_passWord 10 = .ok (.aload_n 0, 1) := by decide +kernel
theorem dX2_passWord_11 : decode cX2_passWord 11 = .ok (.invokevirtual 53, 3) := by decide +kernel
theorem dX2_passWord_14 : decode cX2_passWord 14 = .ok (.iload_n 2, 1) := by decide +kernel
theorem dX2_passWord_15 : decode cX2_passWord 15 = .ok (.ireturn, 1) := by decide +kernel
set_option maxRecDepth 20000 in
theorem ggX2_passSign_X2_isSign : GoodIn wsX2_passSign wsX2_isSign := goodIn_r _ [5, 6, 7, 8, 27, 28, 29, 30, 31, 32, 33, 34, 35, 36, 37, 38, 39, 40, 41, 42] (by decide +kernel) (by decide +kernel)
set_option maxRecDepth 20000 in
theorem gX2_passSign_X2_isSign : GoodIn wsX2_passSign (wsV RX2 143 RX2 yX2_isSign wsX2_isSign) := goodIn_app (goodIn_of _ (by decide +kernel)) ggX2_passSign_X2_isSign
set_option maxRecDepth 20000 in
theorem ggX2_passSign_X2_advance : GoodIn wsX2_passSign wsX2_advance := goodIn_r _ [12, 13, 8, 14, 7, 6, 15, 16, 17, 18, 19, 20, 21, 22, 4, 23, 24, 25, 26, 27, 28, 29, 30, 31, 32, 33, 34, 35, 36, 37, 38, 39, 40, 41, 42] (by decide +kernel) (by decide +kernel)
set_option maxRecDepth 20000 in
theorem gX2_passSign_X2_advance : GoodIn wsX2_passSign (wsV RX2 53 RX2 yX2_advance wsX2_advance) := goodIn_app (goodIn_of _ (by decide +kernel)) ggX2_passSign_X2_advance
theorem dX2_passSign_0 : decode cX2_passSign 0 = .ok (.aload_n 0, 1) := by decide +kernel
theorem dX2_passSign_1 : decode cX2_passSign 1 = .ok (.iload_n 1, 1) := by decide +kernel
theorem dX2_passSign_2 : decode cX2_passSign 2 = .ok (.invokevirtual 143, 3) := by decide +kernel
theorem dX2_passSign_5 : decode cX2_passSign 5 = .ok (.istore_n 2, 1) := by decide +kernel
theorem dX2_passSign_6 : decode cX2_passSign 6 = .ok (.iload_n 2, 1) := by decide +kernel
theorem dX2_passSign_7 : decode cX2_passSign 7 = .ok (.ifCond .eq 7, 3) := by decide +kernel
theorem dX2_passSign_10 : decode cX2_passSign 10 = .ok (.aload_n 0, 1) := by decide +kernel
theorem dX2_passSign_11 : decode cX2_passSign 11 = .ok (.invokevirtual 53, 3) := by decide +kernel
theorem dX2_passSign_14 : decode cX2_passSign 14 = .ok (.iload_n 2, 1) := by decide +kernel
theorem dX2_passSign_15 : decode cX2_passSign 15 = .ok (.ireturn, 1) := by decide +kernel
theorem dX2_isSign_0 : decode cX2_isSign 0 = .ok (.aload_n 0, 1) := by decide +kernel
theorem dX2_isSign_1 : decode cX2_isSign 1 = .ok (.getfield 77, 3) := by decide +kernel
theorem dX2_isSign_4 : decode cX2_isSign 4 = .ok (.iconst 3, 1) := by decide +kernel
theorem dX2_isSign_5 : decode cX2_isSign 5 = .ok (.if_icmp .ne 20, 3) := by decide +kernel
theorem dX2_isSign_8 : decode cX2_isSign 8 = .ok (.aload_n 0, 1) := by decide +kernel
theorem dX2_isSign_9 : decode cX2_isSign 9 = .ok (.getfield 11, 3) := by decide +kernel
theorem dX2_isSign_12 : decode cX2_isSign 12 = .ok (.aload_n 0, 1) := by decide +kernel
theorem dX2_isSign_13 : decode cX2_isSign 13 = .ok (.getfield 60, 3) := by decide +kernel
theorem dX2_isSign_16 : decode cX2_isSign 16 = .ok (.caload, 1) := by decide +kernel
theorem dX2_isSign_17 : decode cX2_isSign 17 = .ok (.iload_n 1, 1) := by decide +kernel
theorem dX2_isSign_18 : decode cX2_isSign 18 = .ok (.if_icmp .ne 7, 3) := by decide +kernel
theorem dX2_isSign_21 : decode cX2_isSign 21 = .ok (.iconst 1, 1) := by decide +kernel
theorem dX2_isSign_22 : decode cX2_isSign 22 = .ok (.goto 4, 3) := by decide +kernel
theorem dX2_isSign_25 : decode cX2_isSign 25 = .ok (.iconst 0, 1) := by decide +kernel
theorem dX2_isSign_26 : decode cX2_isSign 26 = .ok (.ireturn, 1) := by decide +kernel
set_option maxRecDepth 20000 in
theorem ggX2_isWord_J0_length_8abf5 : GoodIn wsX2_isWord wsJ0_length_8abf5 := goodIn_r _ [9, 10, 11, 12, 13, 8, 14, 15, 16] (by decide +kernel) (by decide +kernel)
set_option maxRecDepth 20000 in
theorem gX2_isWord_J0_length_8abf5 : GoodIn wsX2_isWord (wsV RX2 190 RJ0 yJ0_length_8abf5 wsJ0_length_8abf5) := goodIn_app (goodIn_of _ (by decide +kernel)) ggX2_isWord_J0_length_8abf5
set_option maxRecDepth 20000 in
theorem ggX2_isWord_J0_charAt_5068e : GoodIn wsX2_isWord wsJ0_charAt_5068e := goodIn_r _ [20, 10, 21, 22, 23, 8, 24, 15, 16, 25, 26, 27, 28, 29, 30, 31, 32, 33, 34, 35, 36, 37, 38, 39, 40, 41, 42, 43, 44, 45, 46, 47, 48, 49, 50, 51, 52, 53] (by decide +kernel) (by decide +kernel)
set_option maxRecDepth 20000 in
theorem gX2_isWord_J0_charAt_5068e : GoodIn wsX2_isWord (wsV RX2 195 RJ0 yJ0_charAt_5068e wsJ0_charAt_5068e) := goodIn_app (goodIn_of _ (by decide +kernel)) ggX2_isWord_J0_charAt_5068e
theorem dX2_isWord_0 : decode cX2_isWord 0 = .ok (.aload_n 0, 1) := by decide +kernel
theorem dX2_isWord_1 : decode cX2_isWord 1 = .ok (.getfield 77, 3) := by decide +kernel
theorem dX2_isWord_4 : decode cX2_isWord 4 = .ok (.iconst 1, 1) := by decide +kernel
theorem dX2_isWord_5 : decode cX2_isWord 5 = .ok (.if_icmp .ne 19, 3) := by decide +kernel
theorem dX2_isWord_8 : decode cX2_isWord 8 = .ok (.aload_n 0, 1) := by decide +kernel
theorem dX2_isWord_9 : decode cX2_isWord 9 = .ok (.getfield 29, 3) := by decide +kernel
theorem dX2_isWord_12 : decode cX2_isWord 12 = .ok (.aload_n 0, 1) := by decide +kernel
theorem dX2_isWord_13 : decode cX2_isWord 13 = .ok (.getfield 60, 3) := by decide +kernel
theorem dX2_isWord_16 : decode cX2_isWord 16 = .ok (.isub, 1) := by decide +kernel
theorem dX2_isWord_17 : decode cX2_isWord 17 = .ok (.aload_n 1, 1) := by decide +kernel
theorem dX2_isWord_18 : decode cX2_isWord 18 = .ok (.invokevirtual 190, 3) := by decide +kernel
theorem dX2_isWord_21 : decode cX2_isWord 21 = .ok (.if_icmp .eq 5, 3) := by decide +kernel
theorem dX2_isWord_24 : decode cX2_isWord 24 = .ok (.iconst 0, 1) := by decide +kernel
theorem dX2_isWord_25 : decode cX2_isWord 25 = .ok (.ireturn, 1) := by decide +kernel
theorem dX2_isWord_26 : decode cX2_isWord 26 = .ok (.iconst 0, 1) := by decide +kernel
theorem dX2_isWord_27 : decode cX2_isWord 27 = .ok (.istore_n 2, 1) := by decide +kernel
theorem dX2_isWord_28 : decode cX2_isWord 28 = .ok (.iload_n 2, 1) := by decide +kernel
theorem dX2_isWord_29 : decode cX2_isWord 29 = .ok (.aload_n 1, 1) := by decide +kernel
theorem dX2_isWord_30 : decode cX2_isWord 30 = .ok (.invokevirtual 190, 3) := by decide +kernel
theorem dX2_isWord_33 : decode cX2_isWord 33 = .ok (.if_icmp .ge 30, 3) := by decide +kernel
theorem dX2_isWord_36 : decode cX2_isWord 36 = .ok (.aload_n 0, 1) := by decide +kernel
theorem dX2_isWord_37 : decode cX2_isWord 37 = .ok (.getfield 11, 3) := by decide +kernel
theorem dX2_isWord_40 : decode cX2_isWord 40 = .ok (.aload_n 0, 1) := by decide +kernel
theorem dX2_isWord_41 : decode cX2_isWord 41 = .ok (.getfield 60, 3) := by decide +kernel
theorem dX2_isWord_44 : decode cX2_isWord 44 = .ok (.iload_n 2, 1) := by decide +kernel
theorem dX2_isWord_45 : decode cX2_isWord 45 = .ok (.iadd, 1) := by decide +kernel
theorem dX2_isWord_46 : decode cX2_isWord 46 = .ok (.caload, 1) := by decide +kernel
theorem dX2_isWord_47 : decode cX2_isWord 47 = .ok (.aload_n 1, 1) := by decide +kernel
theorem dX2_isWord_48 : decode cX2_isWord 48 = .ok (.iload_n 2, 1) := by decide +kernel
theorem dX2_isWord_49 : decode cX2_isWord 49 = .ok (.invokevirtual 195, 3) := by decide +kernel
theorem dX2_isWord_52 : decode cX2_isWord 52 = .ok (.if_icmp .eq 5, 3) := by decide +kernel
theorem dX2_isWord_55 : decode cX2_isWord 55 = .ok (.iconst 0, 1) := by decide +kernel
theorem dX2_isWord_56 : decode cX2_isWord 56 = .ok (.ireturn, 1) := by decide +kernel
theorem dX2_isWord_57 : decode cX2_isWord 57 = .ok (.iinc 2 1, 3) := by decide +kernel
theorem dX2_isWord_60 : decode cX2_isWord 60 = .ok (.goto (-32), 3) := by decide +kernel
theorem dX2_isWord_63 : decode cX2_isWord 63 = .ok (.iconst 1, 1) := by decide +kernel
theorem dX2_isWord_64 : decode cX2_isWord 64 = .ok (.ireturn, 1) := by decide +kernel
set_option maxRecDepth 20000 in
theorem ggX2_advance_X2_isLetter : GoodIn wsX2_advance wsX2_isLetter := goodIn_r _ [15] (by decide +kernel) (by decide +kernel)
set_option maxRecDepth 20000 in
theorem gX2_advance_X2_isLetter : GoodIn wsX2_advance (va_wsS RX2 199 yX2_isLetter wsX2_isLetter) := goodIn_app (goodIn_of _ (by decide +kernel)) ggX2_advance_X2_isLetter
set_option maxRecDepth 20000 in
theorem ggX2_advance_X2_isDigit : GoodIn wsX2_advance wsX2_isDigit := goodIn_r _ [18] (by decide +kernel) (by decide +kernel)
set_option maxRecDepth 20000 in
theorem gX2_advance_X2_isDigit : GoodIn wsX2_advance (va_wsS RX2 202 yX2_isDigit wsX2_isDigit) := goodIn_app (goodIn_of _ (by decide +kernel)) ggX2_advance_X2_isDigit
theorem dX2_advance_0 : decode cX2_advance 0 = .ok (.aload_n 0, 1) := by decide +kernel
theorem dX2_advance_1 : decode cX2_advance 1 = .ok (.aload_n 0, 1) := by decide +kernel
theorem dX2_advance_2 : decode cX2_advance 2 = .ok (.getfield 29, 3) := by decide +kernel
theorem dX2_advance_5 : decode cX2_advance 5 = .ok (.putfield 60, 3) := by decide +kernel
theorem dX2_advance_8 : decode cX2_advance 8 = .ok (.aload_n 0, 1) := by decide +kernel
theorem dX2_advance_9 : decode cX2_advance 9 = .ok (.getfield 60, 3) := by decide +kernel
theorem dX2_advance_12 : decode cX2_advance 12 = .ok (.aload_n 0, 1) := by decide +kernel
theorem dX2_advance_13 : decode cX2_advance 13 = .ok (.getfield 26, 3) := by decide +kernel
theorem dX2_advance_16 : decode cX2_advance 16 = .ok (.if_icmp .ge 30, 3) := by decide +kernel
theorem dX2_advance_19 : decode cX2_advance 19 = .ok (.aload_n 0, 1) := by decide +kernel
theorem dX2_advance_20 : decode cX2_advance 20 = .ok (.getfield 11, 3) := by decide +kernel
theorem dX2_advance_23 : decode cX2_advance 23 = .ok (.aload_n 0, 1) := by decide +kernel
theorem dX2_advance_24 : decode cX2_advance 24 = .ok (.getfield 60, 3) := by decide +kernel
theorem dX2_advance_27 : decode cX2_advance 27 = .ok (.caload, 1) := by decide +kernel
theorem dX2_advance_28 : decode cX2_advance 28 = .ok (.bipush 32, 2) := by decide +kernel
theorem dX2_advance_30 : decode cX2_advance 30 = .ok (.if_icmp .ne 16, 3) := by decide +kernel
theorem dX2_advance_33 : decode cX2_advance 33 = .ok (.aload_n 0, 1) := by decide +kernel
theorem dX2_advance_34 : decode cX2_advance 34 = .ok (.dup, 1) := by decide +kernel
theorem dX2_advance_35 : decode cX2_advance 35 = .ok (.getfield 60, 3) := by decide +kernel
theorem dX2_advance_38 : decode cX2_advance 38 = .ok (.iconst 1, 1) := by decide +kernel
theorem dX2_advance_39 : decode cX2_advance 39 = .ok (.iadd, 1) := by decide +kernel
theorem dX2_advance_40 : decode cX2_advance 40 = .ok (.putfield 60, 3) := by decide +kernel
theorem dX2_advance_43 : decode cX2_advance 43 = .ok (.goto (-35), 3) := by decide +kernel
theorem dX2_advance_46 : decode cX2_advance 46 = .ok (.aload_n 0, 1) := by decide +kernel
theorem dX2_advance_47 : decode cX2_advance 47 = .ok (.aload_n 0, 1) := by decide +kernel
theorem dX2_advance_48 : decode cX2_advance 48 = .ok (.getfield 60, 3) := by decide +kernel
theorem dX2_advance_51 : decode cX2_advance 51 = .ok (.putfield 29, 3) := by decide +kernel
theorem dX2_advance_54 : decode cX2_advance 54 = .ok (.aload_n 0, 1) := by decide +kernel
theorem dX2_advance_55 : decode cX2_advance 55 = .ok (.getfield 60, 3) := by decide +kernel
theorem dX2_advance_58 : decode cX2_advance 58 = .ok (.aload_n 0, 1) := by decide +kernel
theorem dX2_advance_59 : decode cX2_advance 59 = .ok (.getfield 26, 3) := by decide +kernel
theorem dX2_advance_62 : decode cX2_advance 62 = .ok (.if_icmp .lt 11, 3) := by decide +kernel
theorem dX2_advance_65 : decode cX2_advance 65 = .ok (.aload_n 0, 1) := by decide +kernel
theorem dX2_advance_66 : decode cX2_advance 66 = .ok (.iconst 0, 1) := by decide +kernel
theorem dX2_advance_67 : decode cX2_advance 67 = .ok (.putfield 77, 3) := by decide +kernel
theorem dX2_advance_70 : decode cX2_advance 70 = .ok (.goto 170, 3) := by decide +kernel
theorem dX2_advance_73 : decode cX2_advance 73 = .ok (.aload_n 0, 1) := by decide +kernel
theorem dX2_advance_74 : decode cX2_advance 74 = .ok (.getfield 11, 3) := by decide +kernel
theorem dX2_advance_77 : decode cX2_advance 77 = .ok (.aload_n 0, 1) := by decide +kernel
theorem dX2_advance_78 : decode cX2_advance 78 = .ok (.getfield 60, 3) := by decide +kernel
theorem dX2_advance_81 : decode cX2_advance 81 = .ok (.caload, 1) := by decide +kernel
theorem dX2_advance_82 : decode cX2_advance 82 = .ok (.invokestatic 199, 3) := by decide +kernel
theorem dX2_advance_85 : decode cX2_advance 85 = .ok (.ifCond .eq 47, 3) := by decide +kernel
theorem dX2_advance_88 : decode cX2_advance 88 = .ok (.aload_n 0, 1) := by decide +kernel
theorem dX2_advance_89 : decode cX2_advance 89 = .ok (.iconst 1, 1) := by decide +kernel
theorem dX2_advance_90 : decode cX2_advance 90 = .ok (.putfield 77, 3) := by decide +kernel
theorem dX2_advance_93 : decode cX2_advance 93 = .ok (.aload_n 0, 1) := by decide +kernel
theorem dX2_advance_94 : decode cX2_advance 94 = .ok (.getfield 29, 3) := by decide +kernel
theorem dX2_advance_97 : decode cX2_advance 97 = .ok (.aload_n 0, 1) := by decide +kernel
theorem dX2_advance_98 : decode cX2_advance 98 = .ok (.getfield 26, 3) := by decide +kernel
theorem dX2_advance_101 : decode cX2_advance 101 = .ok (.if_icmp .ge 139, 3) := by decide +kernel
theorem dX2_advance_104 : decode cX2_advance 104 = .ok (.aload_n 0, 1) := by decide +kernel
theorem dX2_advance_105 : decode cX2_advance 105 = .ok (.getfield 11, 3) := by decide +kernel
theorem dX2_advance_108 : decode cX2_advance 108 = .ok (.aload_n 0, 1) := by decide +kernel
theorem dX2_advance_109 : decode cX2_advance 109 = .ok (.getfield 29, 3) := by decide +kernel
theorem dX2_advance_112 : decode cX2_advance 112 = .ok (.caload, 1) := by decide +kernel
theorem dX2_advance_113 : decode cX2_advance 113 = .ok (.invokestatic 199, 3) := by decide +kernel
theorem dX2_advance_116 : decode cX2_advance 116 = .ok (.ifCond .eq 124, 3) := by decide +kernel
theorem dX2_advance_119 : decode cX2_advance 119 = .ok (.aload_n 0, 1) := by decide +kernel
theorem dX2_advance_120 : decode cX2_advance 120 = .ok (.dup, 1) := by decide +kernel
theorem dX2_advance_121 : decode cX2_advance 121 = .ok (.getfield 29, 3) := by decide +kernel
theorem dX2_advance_124 : decode cX2_advance 124 = .ok (.iconst 1, 1) := by decide +kernel
theorem dX2_advance_125 : decode cX2_advance 125 = .ok (.iadd, 1) := by decide +kernel
theorem dX2_advance_126 : decode cX2_advance 126 = .ok (.putfield 29, 3) := by decide +kernel
theorem dX2_advance_129 : decode cX2_advance 129 = .ok (.goto (-36), 3) := by decide +kernel
theorem dX2_advance_132 : decode cX2_advance 132 = .ok (.aload_n 0, 1) := by decide +kernel
theorem dX2_advance_133 : decode cX2_advance 133 = .ok (.getfield 11, 3) := by decide +kernel
theorem dX2_advance_136 : decode cX2_advance 136 = .ok (.aload_n 0, 1) := by decide +kernel
theorem dX2_advance_137 : decode cX2_advance 137 = .ok (.getfield 60, 3) := by decide +kernel
theorem dX2_advance_140 : decode cX2_advance 140 = .ok (.caload, 1) := by decide +kernel
theorem dX2_advance_141 : decode cX2_advance 141 = .ok (.invokestatic 202, 3) := by decide +kernel
theorem dX2_advance_144 : decode cX2_advance 144 = .ok (.ifCond .eq 81, 3) := by decide +kernel
theorem dX2_advance_147 : decode cX2_advance 147 = .ok (.aload_n 0, 1) := by decide +kernel
theorem dX2_advance_148 : decode cX2_advance 148 = .ok (.iconst 2, 1) := by decide +kernel
theorem dX2_advance_149 : decode cX2_advance 149 = .ok (.putfield 77, 3) := by decide +kernel
theorem dX2_advance_152 : decode cX2_advance 152 = .ok (.aload_n 0, 1) := by decide +kernel
theorem dX2_advance_153 : decode cX2_advance 153 = .ok (.iconst 0, 1) := by decide +kernel
theorem dX2_advance_154 : decode cX2_advance 154 = .ok (.putfield 99, 3) := by decide +kernel
theorem dX2_advance_157 : decode cX2_advance 157 = .ok (.aload_n 0, 1) := by decide +kernel
theorem dX2_advance_158 : decode cX2_advance 158 = .ok (.getfield 29, 3) := by decide +kernel
theorem dX2_advance_161 : decode cX2_advance 161 = .ok (.aload_n 0, 1) := by decide +kernel
theorem dX2_advance_162 : decode cX2_advance 162 = .ok (.getfield 26, 3) := by decide +kernel
theorem dX2_advance_165 : decode cX2_advance 165 = .ok (.if_icmp .ge 75, 3) := by decide +kernel
theorem dX2_advance_168 : decode cX2_advance 168 = .ok (.aload_n 0, 1) := by decide +kernel
theorem dX2_advance_169 : decode cX2_advance 169 = .ok (.getfield 11, 3) := by decide +kernel
theorem dX2_advance_172 : decode cX2_advance 172 = .ok (.aload_n 0, 1) := by decide +kernel
theorem dX2_advance_173 : decode cX2_advance 173 = .ok (.getfield 29, 3) := by decide +kernel
theorem dX2_advance_176 : decode cX2_advance 176 = .ok (.caload, 1) := by decide +kernel
theorem dX2_advance_177 : decode cX2_advance 177 = .ok (.invokestatic 202, 3) := by decide +kernel
theorem dX2_advance_180 : decode cX2_advance 180 = .ok (.ifCond .eq 60, 3) := by decide +kernel
theorem dX2_advance_183 : decode cX2_advance 183 = .ok (.aload_n 0, 1) := by decide +kernel
theorem dX2_advance_184 : decode cX2_advance 184 = .ok (.ldc 205, 2) := by decide +kernel
theorem dX2_advance_186 : decode cX2_advance 186 = .ok (.aload_n 0, 1) := by decide +kernel
theorem dX2_advance_187 : decode cX2_advance 187 = .ok (.getfield 99, 3) := by decide +kernel
theorem dX2_advance_190 : decode cX2_advance 190 = .ok (.bipush 10, 2) := by decide +kernel
theorem dX2_advance_192 : decode cX2_advance 192 = .ok (.imul, 1) := by decide +kernel
theorem dX2_advance_193 : decode cX2_advance 193 = .ok (.aload_n 0, 1) := by decide +kernel
theorem dX2_advance_194 : decode cX2_advance 194 = .ok (.getfield 11, 3) := by decide +kernel
theorem dX2_advance_197 : decode cX2_advance 197 = .ok (.aload_n 0, 1) := by decide +kernel
theorem dX2_advance_198 : decode cX2_advance 198 = .ok (.getfield 29, 3) := by decide +kernel
theorem dX2_advance_201 : decode cX2_advance 201 = .ok (.caload, 1) := by decide +kernel
theorem dX2_advance_202 : decode cX2_advance 202 = .ok (.iadd, 1) := by decide +kernel
theorem dX2_advance_203 : decode cX2_advance 203 = .ok (.bipush 48, 2) := by decide +kernel
theorem dX2_advance_205 : decode cX2_advance 205 = .ok (.isub, 1) := by decide +kernel
theorem dX2_advance_206 : decode cX2_advance 206 = .ok (.invokestatic 206, 3) := by decide +kernel
theorem dX2_advance_209 : decode cX2_advance 209 = .ok (.putfield 99, 3) := by decide +kernel
theorem dX2_advance_212 : decode cX2_advance 212 = .ok (.aload_n 0, 1) := by decide +kernel
theorem dX2_advance_213 : decode cX2_advance 213 = .ok (.dup, 1) := by decide +kernel
theorem dX2_advance_214 : decode cX2_advance 214 = .ok (.getfield 29, 3) := by decide +kernel
theorem dX2_advance_217 : decode cX2_advance 217 = .ok (.iconst 1, 1) := by decide +kernel
theorem dX2_advance_218 : decode cX2_advance 218 = .ok (.iadd, 1) := by decide +kernel
theorem dX2_advance_219 : decode cX2_advance 219 = .ok (.putfield 29, 3) := by decide +kernel
theorem dX2_advance_222 : decode cX2_advance 222 = .ok (.goto (-65), 3) := by decide +kernel
theorem dX2_advance_225 : decode cX2_advance 225 = .ok (.aload_n 0, 1) := by decide +kernel
theorem dX2_advance_226 : decode cX2_advance 226 = .ok (.iconst 3, 1) := by decide +kernel
theorem dX2_advance_227 : decode cX2_advance 227 = .ok (.putfield 77, 3) := by decide +kernel
theorem dX2_advance_230 : decode cX2_advance 230 = .ok (.aload_n 0, 1) := by decide +kernel
theorem dX2_advance_231 : decode cX2_advance 231 = .ok (.dup, 1) := by decide +kernel
theorem dX2_advance_232 : decode cX2_advance 232 = .ok (.getfield 29, 3) := by decide +kernel
theorem dX2_advance_235 : decode cX2_advance 235 = .ok (.iconst 1, 1) := by decide +kernel
theorem dX2_advance_236 : decode cX2_advance 236 = .ok (.iadd, 1) := by decide +kernel
theorem dX2_advance_237 : decode cX2_advance 237 = .ok (.putfield 29, 3) := by decide +kernel
theorem dX2_advance_240 : decode cX2_advance 240 = .ok (.return_, 1) := by decide +kernel
theorem dX2_isLetter_0 : decode cX2_isLetter 0 = .ok (.iload_n 0, 1) := by decide +kernel
theorem dX2_isLetter_1 : decode cX2_isLetter 1 = .ok (.bipush 97, 2) := by decide +kernel
theorem dX2_isLetter_3 : decode cX2_isLetter 3 = .ok (.if_icmp .lt 13, 3) := by decide +kernel
theorem dX2_isLetter_6 : decode cX2_isLetter 6 = .ok (.iload_n 0, 1) := by decide +kernel
theorem dX2_isLetter_7 : decode cX2_isLetter 7 = .ok (.bipush 122, 2) := by decide +kernel
theorem dX2_isLetter_9 : decode cX2_isLetter 9 = .ok (.if_icmp .gt 7, 3) := by decide +kernel
theorem dX2_isLetter_12 : decode cX2_isLetter 12 = .ok (.iconst 1, 1) := by decide +kernel
theorem dX2_isLetter_13 : decode cX2_isLetter 13 = .ok (.goto 4, 3) := by decide +kernel
theorem dX2_isLetter_16 : decode cX2_isLetter 16 = .ok (.iconst 0, 1) := by decide +kernel
theorem dX2_isLetter_17 : decode cX2_isLetter 17 = .ok (.ireturn, 1) := by decide +kernel
theorem dX2_isDigit_0 : decode cX2_isDigit 0 = .ok (.iload_n 0, 1) := by decide +kernel
theorem dX2_isDigit_1 : decode cX2_isDigit 1 = .ok (.bipush 48, 2) := by decide +kernel
theorem dX2_isDigit_3 : decode cX2_isDigit 3 = .ok (.if_icmp .lt 13, 3) := by decide +kernel
theorem dX2_isDigit_6 : decode cX2_isDigit 6 = .ok (.iload_n 0, 1) := by decide +kernel
theorem dX2_isDigit_7 : decode cX2_isDigit 7 = .ok (.bipush 57, 2) := by decide +kernel
theorem dX2_isDigit_9 : decode cX2_isDigit 9 = .ok (.if_icmp .gt 7, 3) := by decide +kernel
theorem dX2_isDigit_12 : decode cX2_isDigit 12 = .ok (.iconst 1, 1) := by decide +kernel
theorem dX2_isDigit_13 : decode cX2_isDigit 13 = .ok (.goto 4, 3) := by decide +kernel
theorem dX2_isDigit_16 : decode cX2_isDigit 16 = .ok (.iconst 0, 1) := by decide +kernel
theorem dX2_isDigit_17 : decode cX2_isDigit 17 = .ok (.ireturn, 1) := by decide +kernel
theorem dX2_emit_0 : decode cX2_emit 0 = .ok (.aload_n 0, 1) := by decide +kernel
theorem dX2_emit_1 : decode cX2_emit 1 = .ok (.getfield 32, 3) := by decide +kernel
theorem dX2_emit_4 : decode cX2_emit 4 = .ok (.aload_n 0, 1) := by decide +kernel
theorem dX2_emit_5 : decode cX2_emit 5 = .ok (.getfield 19, 3) := by decide +kernel
theorem dX2_emit_8 : decode cX2_emit 8 = .ok (.arraylength, 1) := by decide +kernel
theorem dX2_emit_9 : decode cX2_emit 9 = .ok (.if_icmp .ge 23, 3) := by decide +kernel
theorem dX2_emit_12 : decode cX2_emit 12 = .ok (.aload_n 0, 1) := by decide +kernel
theorem dX2_emit_13 : decode cX2_emit 13 = .ok (.getfield 19, 3) := by decide +kernel
theorem dX2_emit_16 : decode cX2_emit 16 = .ok (.aload_n 0, 1) := by decide +kernel
theorem dX2_emit_17 : decode cX2_emit 17 = .ok (.getfield 32, 3) := by decide +kernel
theorem dX2_emit_20 : decode cX2_emit 20 = .ok (.iload_n 1, 1) := by decide +kernel
theorem dX2_emit_21 : decode cX2_emit 21 = .ok (.iastore, 1) := by decide +kernel
theorem dX2_emit_22 : decode cX2_emit 22 = .ok (.aload_n 0, 1) := by decide +kernel
theorem dX2_emit_23 : decode cX2_emit 23 = .ok (.dup, 1) := by decide +kernel
theorem dX2_emit_24 : decode cX2_emit 24 = .ok (.getfield 32, 3) := by decide +kernel
theorem dX2_emit_27 : decode cX2_emit 27 = .ok (.iconst 1, 1) := by decide +kernel
theorem dX2_emit_28 : decode cX2_emit 28 = .ok (.iadd, 1) := by decide +kernel
theorem dX2_emit_29 : decode cX2_emit 29 = .ok (.putfield 32, 3) := by decide +kernel
theorem dX2_emit_32 : decode cX2_emit 32 = .ok (.return_, 1) := by decide +kernel
set_option maxRecDepth 20000 in
theorem ggX2_emitJump_X2_emit : GoodIn wsX2_emitJump wsX2_emit := goodIn_r _ [6, 1, 7, 8, 9, 10, 11, 12, 13, 14, 15, 16, 17, 18, 19, 20, 21, 22, 23] (by decide +kernel) (by decide +kernel)
set_option maxRecDepth 20000 in
theorem gX2_emitJump_X2_emit : GoodIn wsX2_emitJump (wsV RX2 120 RX2 yX2_emit wsX2_emit) := goodIn_app (goodIn_of _ (by decide +kernel)) ggX2_emitJump_X2_emit
theorem dX2_emitJump_0 : decode cX2_emitJump 0 = .ok (.aload_n 0, 1) := by decide +kernel
theorem dX2_emitJump_1 : decode cX2_emitJump 1 = .ok (.iload_n 1, 1) := by decide +kernel
theorem dX2_emitJump_2 : decode cX2_emitJump 2 = .ok (.invokevirtual 120, 3) := by decide +kernel
theorem dX2_emitJump_5 : decode cX2_emitJump 5 = .ok (.aload_n 0, 1) := by decide +kernel
theorem dX2_emitJump_6 : decode cX2_emitJump 6 = .ok (.iconst 0, 1) := by decide +kernel
theorem dX2_emitJump_7 : decode cX2_emitJump 7 = .ok (.invokevirtual 120, 3) := by decide +kernel
theorem dX2_emitJump_10 : decode cX2_emitJump 10 = .ok (.aload_n 0, 1) := by decide +kernel
theorem dX2_emitJump_11 : decode cX2_emitJump 11 = .ok (.getfield 32, 3) := by decide +kernel
theorem dX2_emitJump_14 : decode cX2_emitJump 14 = .ok (.iconst 1, 1) := by decide +kernel
theorem dX2_emitJump_15 : decode cX2_emitJump 15 = .ok (.isub, 1) := by decide +kernel
theorem dX2_emitJump_16 : decode cX2_emitJump 16 = .ok (.ireturn, 1) := by decide +kernel
theorem dX2_land_0 : decode cX2_land 0 = .ok (.iload_n 1, 1) := by decide +kernel
theorem dX2_land_1 : decode cX2_land 1 = .ok (.ifCond .lt 22, 3) := by decide +kernel
theorem dX2_land_4 : decode cX2_land 4 = .ok (.iload_n 1, 1) := by decide +kernel
theorem dX2_land_5 : decode cX2_land 5 = .ok (.aload_n 0, 1) := by decide +kernel
theorem dX2_land_6 : decode cX2_land 6 = .ok (.getfield 19, 3) := by decide +kernel
theorem dX2_land_9 : decode cX2_land 9 = .ok (.arraylength, 1) := by decide +kernel
theorem dX2_land_10 : decode cX2_land 10 = .ok (.if_icmp .ge 13, 3) := by decide +kernel
theorem dX2_land_13 : decode cX2_land 13 = .ok (.aload_n 0, 1) := by decide +kernel
theorem dX2_land_14 : decode cX2_land 14 = .ok (.getfield 19, 3) := by decide +kernel
theorem dX2_land_17 : decode cX2_land 17 = .ok (.iload_n 1, 1) := by decide +kernel
theorem dX2_land_18 : decode cX2_land 18 = .ok (.aload_n 0, 1) := by decide +kernel
theorem dX2_land_19 : decode cX2_land 19 = .ok (.getfield 32, 3) := by decide +kernel
theorem dX2_land_22 : decode cX2_land 22 = .ok (.iastore, 1) := by decide +kernel
theorem dX2_land_23 : decode cX2_land 23 = .ok (.return_, 1) := by decide +kernel
set_option maxRecDepth 20000 in
theorem ggJ0_length_8abf5_J0_coder_7d493 : GoodIn wsJ0_length_8abf5 wsJ0_coder_7d493 := goodIn_r _ [6, 7, 8] (by decide +kernel) (by decide +kernel)
set_option maxRecDepth 20000 in
theorem gJ0_length_8abf5_J0_coder_7d493 : GoodIn wsJ0_length_8abf5 (wsV RJ0 335 RJ0 yJ0_coder_7d493 wsJ0_coder_7d493) := goodIn_app (goodIn_of _ (by decide +kernel)) ggJ0_length_8abf5_J0_coder_7d493
theorem dJ0_length_8abf5_0 : decode cJ0_length_8abf5 0 = .ok (.aload_n 0, 1) := by decide +kernel
theorem dJ0_length_8abf5_1 : decode cJ0_length_8abf5 1 = .ok (.getfield 9, 3) := by decide +kernel
theorem dJ0_length_8abf5_4 : decode cJ0_length_8abf5 4 = .ok (.arraylength, 1) := by decide +kernel
theorem dJ0_length_8abf5_5 : decode cJ0_length_8abf5 5 = .ok (.aload_n 0, 1) := by decide +kernel
theorem dJ0_length_8abf5_6 : decode cJ0_length_8abf5 6 = .ok (.invokevirtual 335, 3) := by decide +kernel
theorem dJ0_length_8abf5_9 : decode cJ0_length_8abf5 9 = .ok (.ishr, 1) := by decide +kernel
theorem dJ0_length_8abf5_10 : decode cJ0_length_8abf5 10 = .ok (.ireturn, 1) := by decide +kernel
set_option maxRecDepth 20000 in
theorem ggJ0_charAt_5068e_J0_isLatin1_aae02 : GoodIn wsJ0_charAt_5068e wsJ0_isLatin1_aae02 := goodIn_r _ [6, 7, 8] (by decide +kernel) (by decide +kernel)
set_option maxRecDepth 20000 in
theorem gJ0_charAt_5068e_J0_isLatin1_aae02 : GoodIn wsJ0_charAt_5068e (wsV RJ0 492 RJ0 yJ0_isLatin1_aae02 wsJ0_isLatin1_aae02) := goodIn_app (goodIn_of _ (by decide +kernel)) ggJ0_charAt_5068e_J0_isLatin1_aae02
set_option maxRecDepth 20000 in
theorem ggJ0_charAt_5068e_J1_charAt_3b067 : GoodIn wsJ0_charAt_5068e wsJ1_charAt_3b067 := goodIn_r _ [12, 13, 14, 5, 15, 16, 17, 18, 19, 20] (by decide +kernel) (by decide +kernel)
set_option maxRecDepth 20000 in
theorem gJ0_charAt_5068e_J1_charAt_3b067 : GoodIn wsJ0_charAt_5068e (va_wsS RJ0 495 yJ1_charAt_3b067 wsJ1_charAt_3b067) := goodIn_app (goodIn_of _ (by decide +kernel)) ggJ0_charAt_5068e_J1_charAt_3b067
theorem dJ0_charAt_5068e_0 : decode cJ0_charAt_5068e 0 = .ok (.aload_n 0, 1) := by decide +kernel
theorem dJ0_charAt_5068e_1 : decode cJ0_charAt_5068e 1 = .ok (.invokevirtual 492, 3) := by decide +kernel
theorem dJ0_charAt_5068e_4 : decode cJ0_charAt_5068e 4 = .ok (.ifCond .eq 12, 3) := by decide +kernel
theorem dJ0_charAt_5068e_7 : decode cJ0_charAt_5068e 7 = .ok (.aload_n 0, 1) := by decide +kernel
theorem dJ0_charAt_5068e_8 : decode cJ0_charAt_5068e 8 = .ok (.getfield 9, 3) := by decide +kernel
theorem dJ0_charAt_5068e_11 : decode cJ0_charAt_5068e 11 = .ok (.iload_n 1, 1) := by decide +kernel
theorem dJ0_charAt_5068e_12 : decode cJ0_charAt_5068e 12 = .ok (.invokestatic 495, 3) := by decide +kernel
theorem dJ0_charAt_5068e_15 : decode cJ0_charAt_5068e 15 = .ok (.ireturn, 1) := by decide +kernel
theorem dJ0_coder_7d493_0 : decode cJ0_coder_7d493 0 = .ok (.getstatic 38, 3) := by decide +kernel
theorem dJ0_coder_7d493_3 : decode cJ0_coder_7d493 3 = .ok (.ifCond .eq 10, 3) := by decide +kernel
theorem dJ0_coder_7d493_6 : decode cJ0_coder_7d493 6 = .ok (.aload_n 0, 1) := by decide +kernel
theorem dJ0_coder_7d493_7 : decode cJ0_coder_7d493 7 = .ok (.getfield 15, 3) := by decide +kernel
theorem dJ0_coder_7d493_10 : decode cJ0_coder_7d493 10 = .ok (.goto 4, 3) := by decide +kernel
theorem dJ0_coder_7d493_14 : decode cJ0_coder_7d493 14 = .ok (.ireturn, 1) := by decide +kernel
theorem dJ0_isLatin1_aae02_0 : decode cJ0_isLatin1_aae02 0 = .ok (.getstatic 38, 3) := by decide +kernel
theorem dJ0_isLatin1_aae02_3 : decode cJ0_isLatin1_aae02 3 = .ok (.ifCond .eq 14, 3) := by decide +kernel
theorem dJ0_isLatin1_aae02_6 : decode cJ0_isLatin1_aae02 6 = .ok (.aload_n 0, 1) := by decide +kernel
theorem dJ0_isLatin1_aae02_7 : decode cJ0_isLatin1_aae02 7 = .ok (.getfield 15, 3) := by decide +kernel
theorem dJ0_isLatin1_aae02_10 : decode cJ0_isLatin1_aae02 10 = .ok (.ifCond .ne 7, 3) := by decide +kernel
theorem dJ0_isLatin1_aae02_13 : decode cJ0_isLatin1_aae02 13 = .ok (.iconst 1, 1) := by decide +kernel
theorem dJ0_isLatin1_aae02_14 : decode cJ0_isLatin1_aae02 14 = .ok (.goto 4, 3) := by decide +kernel
theorem dJ0_isLatin1_aae02_18 : decode cJ0_isLatin1_aae02 18 = .ok (.ireturn, 1) := by decide +kernel
set_option maxRecDepth 20000 in
theorem ggJ0_checkIndex_df160_J3_checkIndex_8e157 : GoodIn wsJ0_checkIndex_df160 wsJ3_checkIndex_8e157 := goodIn_r _ [5] (by decide +kernel) (by decide +kernel)
set_option maxRecDepth 20000 in
theorem gJ0_checkIndex_df160_J3_checkIndex_8e157 : GoodIn wsJ0_checkIndex_df160 (va_wsS RJ0 1059 yJ3_checkIndex_8e157 wsJ3_checkIndex_8e157) := goodIn_app (goodIn_of _ (by decide +kernel)) ggJ0_checkIndex_df160_J3_checkIndex_8e157
theorem dJ0_checkIndex_df160_0 : decode cJ0_checkIndex_df160 0 = .ok (.iload_n 0, 1) := by decide +kernel
theorem dJ0_checkIndex_df160_1 : decode cJ0_checkIndex_df160 1 = .ok (.iload_n 1, 1) := by decide +kernel
theorem dJ0_checkIndex_df160_2 : decode cJ0_checkIndex_df160 2 = .ok (.getstatic 1053, 3) := by decide +kernel
theorem dJ0_checkIndex_df160_5 : decode cJ0_checkIndex_df160 5 = .ok (.invokestatic 1059, 3) := by decide +kernel
theorem dJ0_checkIndex_df160_8 : decode cJ0_checkIndex_df160 8 = .ok (.pop, 1) := by decide +kernel
theorem dJ0_checkIndex_df160_9 : decode cJ0_checkIndex_df160 9 = .ok (.return_, 1) := by decide +kernel
set_option maxRecDepth 20000 in
theorem ggJ1_charAt_3b067_J0_checkIndex_df160 : GoodIn wsJ1_charAt_3b067 wsJ0_checkIndex_df160 := goodIn_r _ [4, 5, 6, 7, 8, 9] (by decide +kernel) (by decide +kernel)
set_option maxRecDepth 20000 in
theorem gJ1_charAt_3b067_J0_checkIndex_df160 : GoodIn wsJ1_charAt_3b067 (va_wsS RJ1 9 yJ0_checkIndex_df160 wsJ0_checkIndex_df160) := goodIn_app (goodIn_of _ (by decide +kernel)) ggJ1_charAt_3b067_J0_checkIndex_df160
theorem dJ1_charAt_3b067_0 : decode cJ1_charAt_3b067 0 = .ok (.iload_n 1, 1) := by decide +kernel
theorem dJ1_charAt_3b067_1 : decode cJ1_charAt_3b067 1 = .ok (.aload_n 0, 1) := by decide +kernel
theorem dJ1_charAt_3b067_2 : decode cJ1_charAt_3b067 2 = .ok (.arraylength, 1) := by decide +kernel
theorem dJ1_charAt_3b067_3 : decode cJ1_charAt_3b067 3 = .ok (.invokestatic 9, 3) := by decide +kernel
theorem dJ1_charAt_3b067_6 : decode cJ1_charAt_3b067 6 = .ok (.aload_n 0, 1) := by decide +kernel
theorem dJ1_charAt_3b067_7 : decode cJ1_charAt_3b067 7 = .ok (.iload_n 1, 1) := by decide +kernel
theorem dJ1_charAt_3b067_8 : decode cJ1_charAt_3b067 8 = .ok (.baload, 1) := by decide +kernel
theorem dJ1_charAt_3b067_9 : decode cJ1_charAt_3b067 9 = .ok (.sipush 255, 3) := by decide +kernel
theorem dJ1_charAt_3b067_12 : decode cJ1_charAt_3b067 12 = .ok (.iand, 1) := by decide +kernel
theorem dJ1_charAt_3b067_13 : decode cJ1_charAt_3b067 13 = .ok (.i2c, 1) := by decide +kernel
theorem dJ1_charAt_3b067_14 : decode cJ1_charAt_3b067 14 = .ok (.ireturn, 1) := by decide +kernel
theorem dJ3_checkIndex_8e157_0 : decode cJ3_checkIndex_8e157 0 = .ok (.iload_n 0, 1) := by decide +kernel
theorem dJ3_checkIndex_8e157_1 : decode cJ3_checkIndex_8e157 1 = .ok (.ifCond .lt 8, 3) := by decide +kernel
theorem dJ3_checkIndex_8e157_4 : decode cJ3_checkIndex_8e157 4 = .ok (.iload_n 0, 1) := by decide +kernel
theorem dJ3_checkIndex_8e157_5 : decode cJ3_checkIndex_8e157 5 = .ok (.iload_n 1, 1) := by decide +kernel
theorem dJ3_checkIndex_8e157_6 : decode cJ3_checkIndex_8e157 6 = .ok (.if_icmp .lt 10, 3) := by decide +kernel
theorem dJ3_checkIndex_8e157_16 : decode cJ3_checkIndex_8e157 16 = .ok (.iload_n 0, 1) := by decide +kernel
theorem dJ3_checkIndex_8e157_17 : decode cJ3_checkIndex_8e157 17 = .ok (.ireturn, 1) := by decide +kernel
