abbrev cX10_settle : ByteArray := prog_12_method_17_code
def yX10_settle : MethodName := ⟨RX10, "settle", "()V"⟩
abbrev cX10_isNamed : ByteArray := prog_12_method_18_code
def yX10_isNamed : MethodName := ⟨RX10, "isNamed", "([JI)Z"⟩
abbrev cX10_readSign : ByteArray := prog_12_method_19_code
def yX10_readSign : MethodName := ⟨RX10, "readSign", "()Z"⟩
abbrev cX10_readWork : ByteArray := prog_12_method_20_code
def yX10_readWork : MethodName := ⟨RX10, "readWork", "()Z"⟩
def wsX10_settle : List Cond := .code yX10_settle cX10_settle 2 none :: ([.fieldLink RX10 17 "PaidBySignsModel" "num" "[I", .fieldLink RX10 28 "PaidBySignsModel" "brings" "[I", .fieldLink RX10 31 "PaidBySignsModel" "costs" "[I", .fieldLink RX10 34 "PaidBySignsModel" "chances" "[I", .fieldLink RX10 37 "PaidBySignsModel" "rates" "[I", .fieldLink RX10 40 "PaidBySignsModel" "marks" "[I", .fieldLink RX10 43 "PaidBySignsModel" "hand" "[I", .fieldLink RX10 85 "PaidBySignsModel" "presses" "[I", .fieldLink RX10 88 "PaidBySignsModel" "mixes" "[I", .fieldLink RX10 190 "PaidBySignsModel" "lowerPress" "I", .fieldLink RX10 193 "PaidBySignsModel" "seenMany" "I", .fieldLink RX10 196 "PaidBySignsModel" "rightMany" "I", .fieldLink RX10 199 "PaidBySignsModel" "lastTold" "I", .fieldLink RX10 202 "PaidBySignsModel" "hasFraction" "Z", .fieldLink RX10 206 "PaidBySignsModel" "hasWages" "Z"] ++ wsX100)
def wsX10_isNamed : List Cond := .code yX10_isNamed cX10_isNamed 4 (some .boolean) :: ([.fieldLink RX10 150 "PaidBySignsModel" "word" "J"] ++ wsX100)
def wsX10_readSign_r1 : List Cond := [Cond.fieldLink RX10 17 "PaidBySignsModel" "num" "[I", Cond.fieldLink RX10 143 "PaidBySignsModel" "sort" "I", Cond.fieldLink RX10 21 "PaidBySignsModel" "signName" "[J", Cond.fieldLink RX10 150 "PaidBySignsModel" "word" "J", Cond.fieldLink RX10 28 "PaidBySignsModel" "brings" "[I", Cond.fieldLink RX10 178 "PaidBySignsModel" "got" "I", Cond.methodLink RX10 171 yX10_fails, Cond.instanceMethod yX10_fails, Cond.selects RX10 yX10_fails yX10_fails, Cond.initialized RX10, Cond.code yX10_fails cX10_fails 2 (some .boolean), Cond.fieldLink RX10 168 "PaidBySignsModel" "faultKind" "I", Cond.fieldLink RX10 137 "PaidBySignsModel" "at" "I", Cond.fieldLink RX10 13 "PaidBySignsModel" "faultPlace" "I", Cond.methodLink RX10 181 yX10_scan, Cond.instanceMethod yX10_scan, Cond.selects RX10 yX10_scan yX10_scan, Cond.code yX10_scan cX10_scan 4 none, Cond.fieldLink RX10 134 "PaidBySignsModel" "end" "I", Cond.fieldLink RX10 140 "PaidBySignsModel" "key" "I", Cond.constantLong RX10 154 (32), Cond.constantLong RX10 156 (97), Cond.fieldLink RX10 165 "PaidBySignsModel" "number" "I", Cond.methodLink RX10 130 yX10_byteAt]
def wsX10_readSign_r2 : List Cond := [Cond.instanceMethod yX10_byteAt, Cond.selects RX10 yX10_byteAt yX10_byteAt, Cond.code yX10_byteAt cX10_byteAt 2 (some .int), Cond.fieldLink RX10 115 "PaidBySignsModel" "size" "I", Cond.fieldLink RX10 7 "PaidBySignsModel" "tape" "[B", Cond.methodLink RX10 146 yX10_isSmall, Cond.static yX10_isSmall, Cond.code yX10_isSmall cX10_isSmall 1 (some .boolean), Cond.methodLink RX10 158 yX10_keyAt, Cond.instanceMethod yX10_keyAt, Cond.selects RX10 yX10_keyAt yX10_keyAt, Cond.code yX10_keyAt cX10_keyAt 8 (some .int), Cond.methodLink RX10 120 yJ0_length_8abf5, Cond.instanceMethod yJ0_length_8abf5, Cond.selects RJ0 yJ0_length_8abf5 yJ0_length_8abf5, Cond.initialized RJ0, Cond.code yJ0_length_8abf5 cJ0_length_8abf5 1 (some .int), Cond.fieldLink RJ0 9 "java/lang/String" "value" "[B", Cond.methodLink RJ0 335 yJ0_coder_7d493, Cond.instanceMethod yJ0_coder_7d493, Cond.selects RJ0 yJ0_coder_7d493 yJ0_coder_7d493, Cond.code yJ0_coder_7d493 cJ0_coder_7d493 1 (some .byte), Cond.fieldLink RJ0 38 "java/lang/String" "COMPACT_STRINGS" "Z", Cond.fieldLink RJ0 15 "java/lang/String" "coder" "B"]
def wsX10_readSign_r3 : List Cond := [Cond.methodLink RX10 126 yJ0_charAt_5068e, Cond.instanceMethod yJ0_charAt_5068e, Cond.selects RJ0 yJ0_charAt_5068e yJ0_charAt_5068e, Cond.code yJ0_charAt_5068e cJ0_charAt_5068e 2 (some .char), Cond.methodLink RJ0 492 yJ0_isLatin1_aae02, Cond.instanceMethod yJ0_isLatin1_aae02, Cond.selects RJ0 yJ0_isLatin1_aae02 yJ0_isLatin1_aae02, Cond.code yJ0_isLatin1_aae02 cJ0_isLatin1_aae02 1 (some .boolean), Cond.methodLink RJ0 495 yJ1_charAt_3b067, Cond.static yJ1_charAt_3b067, Cond.initialized RJ1, Cond.code yJ1_charAt_3b067 cJ1_charAt_3b067 2 (some .char), Cond.methodLink RJ1 9 yJ0_checkIndex_df160, Cond.static yJ0_checkIndex_df160, Cond.code yJ0_checkIndex_df160 cJ0_checkIndex_df160 2 none, Cond.fieldLink RJ0 1053 "jdk/internal/util/Preconditions" "SIOOBE_FORMATTER" "Ljava/util/function/BiFunction;", Cond.methodLink RJ0 1059 yJ3_checkIndex_8e157, Cond.static yJ3_checkIndex_8e157, Cond.initialized RJ3, Cond.code yJ3_checkIndex_8e157 cJ3_checkIndex_8e157 3 (some .int), Cond.methodLink RJ0 498 yJ2_charAt_3b067, Cond.static yJ2_charAt_3b067, Cond.initialized RJ2, Cond.code yJ2_charAt_3b067 cJ2_charAt_3b067 2 (some .char)]
def wsX10_readSign_r4 : List Cond := [Cond.methodLink RJ2 67 yJ2_checkIndex_2214a, Cond.static yJ2_checkIndex_2214a, Cond.code yJ2_checkIndex_2214a cJ2_checkIndex_2214a 2 none, Cond.methodLink RJ2 48 yJ2_length_9d52b, Cond.static yJ2_length_9d52b, Cond.code yJ2_length_9d52b cJ2_length_9d52b 1 (some .int), Cond.methodLink RJ2 414 yJ0_checkIndex_df160, Cond.methodLink RJ2 71 yJ2_getChar_3b067, Cond.static yJ2_getChar_3b067, Cond.code yJ2_getChar_3b067 cJ2_getChar_3b067 2 (some .char), Cond.fieldLink RJ2 44 "java/lang/StringUTF16" "$assertionsDisabled" "Z", Cond.fieldLink RJ2 59 "java/lang/StringUTF16" "HI_BYTE_SHIFT" "I", Cond.fieldLink RJ2 63 "java/lang/StringUTF16" "LO_BYTE_SHIFT" "I", Cond.methodLink RX10 162 yX10_isDigit, Cond.static yX10_isDigit, Cond.code yX10_isDigit cX10_isDigit 1 (some .boolean), Cond.methodLink RX10 209 yX10_isNamed, Cond.instanceMethod yX10_isNamed, Cond.selects RX10 yX10_isNamed yX10_isNamed, Cond.code yX10_isNamed cX10_isNamed 4 (some .boolean), Cond.methodLink RX10 213 yX10_readWord, Cond.instanceMethod yX10_readWord, Cond.selects RX10 yX10_readWord yX10_readWord, Cond.code yX10_readWord cX10_readWord 2 (some .boolean)]
def wsX10_readSign_r5 : List Cond := [Cond.methodLink RX10 184 yX10_isKey, Cond.instanceMethod yX10_isKey, Cond.selects RX10 yX10_isKey yX10_isKey, Cond.code yX10_isKey cX10_isKey 2 (some .boolean), Cond.methodLink RX10 216 yX10_readNumber, Cond.instanceMethod yX10_readNumber, Cond.selects RX10 yX10_readNumber yX10_readNumber, Cond.code yX10_readNumber cX10_readNumber 3 (some .boolean), Cond.methodLink RX10 174 yX10_in, Cond.static yX10_in, Cond.code yX10_in cX10_in 6 (some .boolean), Cond.methodLink RX10 220 yX10_readSemi, Cond.instanceMethod yX10_readSemi, Cond.selects RX10 yX10_readSemi yX10_readSemi, Cond.code yX10_readSemi cX10_readSemi 1 (some .boolean)]
def wsX10_readSign : List Cond := .code yX10_readSign cX10_readSign 2 (some .boolean) :: ((wsX10_readSign_r1 ++ (wsX10_readSign_r2 ++ (wsX10_readSign_r3 ++ (wsX10_readSign_r4 ++ wsX10_readSign_r5)))) ++ wsX100)
def wsX10_readWork_r1 : List Cond := [Cond.fieldLink RX10 17 "PaidBySignsModel" "num" "[I", Cond.fieldLink RX10 143 "PaidBySignsModel" "sort" "I", Cond.fieldLink RX10 25 "PaidBySignsModel" "workName" "[J", Cond.fieldLink RX10 150 "PaidBySignsModel" "word" "J", Cond.fieldLink RX10 31 "PaidBySignsModel" "costs" "[I", Cond.fieldLink RX10 178 "PaidBySignsModel" "got" "I", Cond.fieldLink RX10 165 "PaidBySignsModel" "number" "I", Cond.fieldLink RX10 34 "PaidBySignsModel" "chances" "[I", Cond.methodLink RX10 171 yX10_fails, Cond.instanceMethod yX10_fails, Cond.selects RX10 yX10_fails yX10_fails, Cond.initialized RX10, Cond.code yX10_fails cX10_fails 2 (some .boolean), Cond.fieldLink RX10 168 "PaidBySignsModel" "faultKind" "I", Cond.fieldLink RX10 137 "PaidBySignsModel" "at" "I", Cond.fieldLink RX10 13 "PaidBySignsModel" "faultPlace" "I", Cond.methodLink RX10 181 yX10_scan, Cond.instanceMethod yX10_scan, Cond.selects RX10 yX10_scan yX10_scan, Cond.code yX10_scan cX10_scan 4 none, Cond.fieldLink RX10 134 "PaidBySignsModel" "end" "I", Cond.fieldLink RX10 140 "PaidBySignsModel" "key" "I", Cond.constantLong RX10 154 (32), Cond.constantLong RX10 156 (97)]
def wsX10_readWork_r2 : List Cond := [Cond.methodLink RX10 130 yX10_byteAt, Cond.instanceMethod yX10_byteAt, Cond.selects RX10 yX10_byteAt yX10_byteAt, Cond.code yX10_byteAt cX10_byteAt 2 (some .int), Cond.fieldLink RX10 115 "PaidBySignsModel" "size" "I", Cond.fieldLink RX10 7 "PaidBySignsModel" "tape" "[B", Cond.methodLink RX10 146 yX10_isSmall, Cond.static yX10_isSmall, Cond.code yX10_isSmall cX10_isSmall 1 (some .boolean), Cond.methodLink RX10 158 yX10_keyAt, Cond.instanceMethod yX10_keyAt, Cond.selects RX10 yX10_keyAt yX10_keyAt, Cond.code yX10_keyAt cX10_keyAt 8 (some .int), Cond.methodLink RX10 120 yJ0_length_8abf5, Cond.instanceMethod yJ0_length_8abf5, Cond.selects RJ0 yJ0_length_8abf5 yJ0_length_8abf5, Cond.initialized RJ0, Cond.code yJ0_length_8abf5 cJ0_length_8abf5 1 (some .int), Cond.fieldLink RJ0 9 "java/lang/String" "value" "[B", Cond.methodLink RJ0 335 yJ0_coder_7d493, Cond.instanceMethod yJ0_coder_7d493, Cond.selects RJ0 yJ0_coder_7d493 yJ0_coder_7d493, Cond.code yJ0_coder_7d493 cJ0_coder_7d493 1 (some .byte), Cond.fieldLink RJ0 38 "java/lang/String" "COMPACT_STRINGS" "Z"]
def wsX10_readWork_r3 : List Cond := [Cond.fieldLink RJ0 15 "java/lang/String" "coder" "B", Cond.methodLink RX10 126 yJ0_charAt_5068e, Cond.instanceMethod yJ0_charAt_5068e, Cond.selects RJ0 yJ0_charAt_5068e yJ0_charAt_5068e, Cond.code yJ0_charAt_5068e cJ0_charAt_5068e 2 (some .char), Cond.methodLink RJ0 492 yJ0_isLatin1_aae02, Cond.instanceMethod yJ0_isLatin1_aae02, Cond.selects RJ0 yJ0_isLatin1_aae02 yJ0_isLatin1_aae02, Cond.code yJ0_isLatin1_aae02 cJ0_isLatin1_aae02 1 (some .boolean), Cond.methodLink RJ0 495 yJ1_charAt_3b067, Cond.static yJ1_charAt_3b067, Cond.initialized RJ1, Cond.code yJ1_charAt_3b067 cJ1_charAt_3b067 2 (some .char), Cond.methodLink RJ1 9 yJ0_checkIndex_df160, Cond.static yJ0_checkIndex_df160, Cond.code yJ0_checkIndex_df160 cJ0_checkIndex_df160 2 none, Cond.fieldLink RJ0 1053 "jdk/internal/util/Preconditions" "SIOOBE_FORMATTER" "Ljava/util/function/BiFunction;", Cond.methodLink RJ0 1059 yJ3_checkIndex_8e157, Cond.static yJ3_checkIndex_8e157, Cond.initialized RJ3, Cond.code yJ3_checkIndex_8e157 cJ3_checkIndex_8e157 3 (some .int), Cond.methodLink RJ0 498 yJ2_charAt_3b067, Cond.static yJ2_charAt_3b067, Cond.initialized RJ2]
def wsX10_readWork_r4 : List Cond := [Cond.code yJ2_charAt_3b067 cJ2_charAt_3b067 2 (some .char), Cond.methodLink RJ2 67 yJ2_checkIndex_2214a, Cond.static yJ2_checkIndex_2214a, Cond.code yJ2_checkIndex_2214a cJ2_checkIndex_2214a 2 none, Cond.methodLink RJ2 48 yJ2_length_9d52b, Cond.static yJ2_length_9d52b, Cond.code yJ2_length_9d52b cJ2_length_9d52b 1 (some .int), Cond.methodLink RJ2 414 yJ0_checkIndex_df160, Cond.methodLink RJ2 71 yJ2_getChar_3b067, Cond.static yJ2_getChar_3b067, Cond.code yJ2_getChar_3b067 cJ2_getChar_3b067 2 (some .char), Cond.fieldLink RJ2 44 "java/lang/StringUTF16" "$assertionsDisabled" "Z", Cond.fieldLink RJ2 59 "java/lang/StringUTF16" "HI_BYTE_SHIFT" "I", Cond.fieldLink RJ2 63 "java/lang/StringUTF16" "LO_BYTE_SHIFT" "I", Cond.methodLink RX10 162 yX10_isDigit, Cond.static yX10_isDigit, Cond.code yX10_isDigit cX10_isDigit 1 (some .boolean), Cond.methodLink RX10 209 yX10_isNamed, Cond.instanceMethod yX10_isNamed, Cond.selects RX10 yX10_isNamed yX10_isNamed, Cond.code yX10_isNamed cX10_isNamed 4 (some .boolean), Cond.methodLink RX10 213 yX10_readWord, Cond.instanceMethod yX10_readWord, Cond.selects RX10 yX10_readWord yX10_readWord]
def wsX10_readWork_r5 : List Cond := [Cond.code yX10_readWord cX10_readWord 2 (some .boolean), Cond.methodLink RX10 184 yX10_isKey, Cond.instanceMethod yX10_isKey, Cond.selects RX10 yX10_isKey yX10_isKey, Cond.code yX10_isKey cX10_isKey 2 (some .boolean), Cond.methodLink RX10 216 yX10_readNumber, Cond.instanceMethod yX10_readNumber, Cond.selects RX10 yX10_readNumber yX10_readNumber, Cond.code yX10_readNumber cX10_readNumber 3 (some .boolean), Cond.methodLink RX10 174 yX10_in, Cond.static yX10_in, Cond.code yX10_in cX10_in 6 (some .boolean), Cond.methodLink RX10 220 yX10_readSemi, Cond.instanceMethod yX10_readSemi, Cond.selects RX10 yX10_readSemi yX10_readSemi, Cond.code yX10_readSemi cX10_readSemi 1 (some .boolean)]
def wsX10_readWork : List Cond := .code yX10_readWork cX10_readWork 5 (some .boolean) :: ((wsX10_readWork_r1 ++ (wsX10_readWork_r2 ++ (wsX10_readWork_r3 ++ (wsX10_readWork_r4 ++ wsX10_readWork_r5)))) ++ wsX100)
theorem dX10_settle_0 : decode cX10_settle 0 = .ok (.iconst 0, 1) := by decide +kernel
theorem dX10_settle_1 : decode cX10_settle 1 = .ok (.istore_n 1, 1) := by decide +kernel
theorem dX10_settle_2 : decode cX10_settle 2 = .ok (.iload_n 1, 1) := by decide +kernel
theorem dX10_settle_3 : decode cX10_settle 3 = .ok (.bipush 6, 2) := by decide +kernel
theorem dX10_settle_5 : decode cX10_settle 5 = .ok (.if_icmp .ge 24, 3) := by decide +kernel
theorem dX10_settle_8 : decode cX10_settle 8 = .ok (.aload_n 0, 1) := by decide +kernel
theorem dX10_settle_9 : decode cX10_settle 9 = .ok (.getfield 17, 3) := by decide +kernel
theorem dX10_settle_12 : decode cX10_settle 12 = .ok (.iload_n 1, 1) := by decide +kernel
theorem dX10_settle_13 : decode cX10_settle 13 = .ok (.aload_n 0, 1) := by decide +kernel
theorem dX10_settle_14 : decode cX10_settle 14 = .ok (.getfield 17, 3) := by decide +kernel
theorem dX10_settle_17 : decode cX10_settle 17 = .ok (.bipush 6, 2) := by decide +kernel
theorem dX10_settle_19 : decode cX10_settle 19 = .ok (.iload_n 1, 1) := by decide +kernel
theorem dX10_settle_20 : decode cX10_settle 20 = .ok (.iadd, 1) := by decide +kernel
theorem dX10_settle_21 : decode cX10_settle 21 = .ok (.iaload, 1) := by decide +kernel
theorem dX10_settle_22 : decode cX10_settle 22 = .ok (.iastore, 1) := by decide +kernel
theorem dX10_settle_23 : decode cX10_settle 23 = .ok (.iinc 1 1, 3) := by decide +kernel
theorem dX10_settle_26 : decode cX10_settle 26 = .ok (.goto (-24), 3) := by decide +kernel
theorem dX10_settle_29 : decode cX10_settle 29 = .ok (.iconst 0, 1) := by decide +kernel
theorem dX10_settle_30 : decode cX10_settle 30 = .ok (.istore_n 1, 1) := by decide +kernel
theorem dX10_settle_31 : decode cX10_settle 31 = .ok (.iload_n 1, 1) := by decide +kernel
theorem dX10_settle_32 : decode cX10_settle 32 = .ok (.iconst 4, 1) := by decide +kernel
theorem dX10_settle_33 : decode cX10_settle 33 = .ok (.if_icmp .ge 23, 3) := by decide +kernel
theorem dX10_settle_36 : decode cX10_settle 36 = .ok (.aload_n 0, 1) := by decide +kernel
theorem dX10_settle_37 : decode cX10_settle 37 = .ok (.getfield 28, 3) := by decide +kernel
theorem dX10_settle_40 : decode cX10_settle 40 = .ok (.iload_n 1, 1) := by decide +kernel
theorem dX10_settle_41 : decode cX10_settle 41 = .ok (.aload_n 0, 1) := by decide +kernel
theorem dX10_settle_42 : decode cX10_settle 42 = .ok (.getfield 28, 3) := by decide +kernel
theorem dX10_settle_45 : decode cX10_settle 45 = .ok (.iconst 4, 1) := by decide +kernel
theorem dX10_settle_46 : decode cX10_settle 46 = .ok (.iload_n 1, 1) := by decide +kernel
theorem dX10_settle_47 : decode cX10_settle 47 = .ok (.iadd, 1) := by decide +kernel
theorem dX10_settle_48 : decode cX10_settle 48 = .ok (.iaload, 1) := by decide +kernel
theorem dX10_settle_49 : decode cX10_settle 49 = .ok (.iastore, 1) := by decide +kernel
theorem dX10_settle_50 : decode cX10_settle 50 = .ok (.iinc 1 1, 3) := by decide +kernel
theorem dX10_settle_53 : decode cX10_settle 53 = .ok (.goto (-22), 3) := by decide +kernel
theorem dX10_settle_56 : decode cX10_settle 56 = .ok (.iconst 0, 1) := by decide +kernel
theorem dX10_settle_57 : decode cX10_settle 57 = .ok (.istore_n 1, 1) := by decide +kernel
theorem dX10_settle_58 : decode cX10_settle 58 = .ok (.iload_n 1, 1) := by decide +kernel
theorem dX10_settle_59 : decode cX10_settle 59 = .ok (.iconst 5, 1) := by decide +kernel
theorem dX10_settle_60 : decode cX10_settle 60 = .ok (.if_icmp .ge 23, 3) := by decide +kernel
theorem dX10_settle_63 : decode cX10_settle 63 = .ok (.aload_n 0, 1) := by decide +kernel
theorem dX10_settle_64 : decode cX10_settle 64 = .ok (.getfield 31, 3) := by decide +kernel
theorem dX10_settle_67 : decode cX10_settle 67 = .ok (.iload_n 1, 1) := by decide +kernel
theorem dX10_settle_68 : decode cX10_settle 68 = .ok (.aload_n 0, 1) := by decide +kernel
theorem dX10_settle_69 : decode cX10_settle 69 = .ok (.getfield 31, 3) := by decide +kernel
theorem dX10_settle_72 : decode cX10_settle 72 = .ok (.iconst 5, 1) := by decide +kernel
theorem dX10_settle_73 : decode cX10_settle 73 = .ok (.iload_n 1, 1) := by decide +kernel
theorem dX10_settle_74 : decode cX10_settle 74 = .ok (.iadd, 1) := by decide +kernel
theorem dX10_settle_75 : decode cX10_settle 75 = .ok (.iaload, 1) := by decide +kernel
theorem dX10_settle_76 : decode cX10_settle 76 = .ok (.iastore, 1) := by decide +kernel
theorem dX10_settle_77 : decode cX10_settle 77 = .ok (.iinc 1 1, 3) := by decide +kernel
theorem dX10_settle_80 : decode cX10_settle 80 = .ok (.goto (-22), 3) := by decide +kernel
theorem dX10_settle_83 : decode cX10_settle 83 = .ok (.iconst 0, 1) := by decide +kernel
theorem dX10_settle_84 : decode cX10_settle 84 = .ok (.istore_n 1, 1) := by decide +kernel
theorem dX10_settle_85 : decode cX10_settle 85 = .ok (.iload_n 1, 1) := by decide +kernel
theorem dX10_settle_86 : decode cX10_settle 86 = .ok (.bipush 20, 2) := by decide +kernel
theorem dX10_settle_88 : decode cX10_settle 88 = .ok (.if_icmp .ge 24, 3) := by decide +kernel
theorem dX10_settle_91 : decode cX10_settle 91 = .ok (.aload_n 0, 1) := by decide +kernel
theorem dX10_settle_92 : decode cX10_settle 92 = .ok (.getfield 34, 3) := by decide +kernel
theorem dX10_settle_95 : decode cX10_settle 95 = .ok (.iload_n 1, 1) := by decide +kernel
theorem dX10_settle_96 : decode cX10_settle 96 = .ok (.aload_n 0, 1) := by decide +kernel
theorem dX10_settle_97 : decode cX10_settle 97 = .ok (.getfield 34, 3) := by decide +kernel
theorem dX10_settle_100 : decode cX10_settle 100 = .ok (.bipush 20, 2) := by decide +kernel
theorem dX10_settle_102 : decode cX10_settle 102 = .ok (.iload_n 1, 1) := by decide +kernel
theorem dX10_settle_103 : decode cX10_settle 103 = .ok (.iadd, 1) := by decide +kernel
theorem dX10_settle_104 : decode cX10_settle 104 = .ok (.iaload, 1) := by decide +kernel
theorem dX10_settle_105 : decode cX10_settle 105 = .ok (.iastore, 1) := by decide +kernel
theorem dX10_settle_106 : decode cX10_settle 106 = .ok (.iinc 1 1, 3) := by decide +kernel
theorem dX10_settle_109 : decode cX10_settle 109 = .ok (.goto (-24), 3) := by decide +kernel
theorem dX10_settle_112 : decode cX10_settle 112 = .ok (.iconst 0, 1) := by decide +kernel
theorem dX10_settle_113 : decode cX10_settle 113 = .ok (.istore_n 1, 1) := by decide +kernel
theorem dX10_settle_114 : decode cX10_settle 114 = .ok (.iload_n 1, 1) := by decide +kernel
theorem dX10_settle_115 : decode cX10_settle 115 = .ok (.iconst 3, 1) := by decide +kernel
theorem dX10_settle_116 : decode cX10_settle 116 = .ok (.if_icmp .ge 23, 3) := by decide +kernel
theorem dX10_settle_119 : decode cX10_settle 119 = .ok (.aload_n 0, 1) := by decide +kernel
theorem dX10_settle_120 : decode cX10_settle 120 = .ok (.getfield 37, 3) := by decide +kernel
theorem dX10_settle_123 : decode cX10_settle 123 = .ok (.iload_n 1, 1) := by decide +kernel
theorem dX10_settle_124 : decode cX10_settle 124 = .ok (.aload_n 0, 1) := by decide +kernel
theorem dX10_settle_125 : decode cX10_settle 125 = .ok (.getfield 37, 3) := by decide +kernel
theorem dX10_settle_128 : decode cX10_settle 128 = .ok (.iconst 3, 1) := by decide +kernel
theorem dX10_settle_129 : decode cX10_settle 129 = .ok (.iload_n 1, 1) := by decide +kernel
theorem dX10_settle_130 : decode cX10_settle 130 = .ok (.iadd, 1) := by decide +kernel
theorem dX10_settle_131 : decode cX10_settle 131 = .ok (.iaload, 1) := by decide +kernel
theorem dX10_settle_132 : decode cX10_settle 132 = .ok (.iastore, 1) := by decide +kernel
theorem dX10_settle_133 : decode cX10_settle 133 = .ok (.iinc 1 1, 3) := by decide +kernel
theorem dX10_settle_136 : decode cX10_settle 136 = .ok (.goto (-22), 3) := by decide +kernel
theorem dX10_settle_139 : decode cX10_settle 139 = .ok (.iconst 0, 1) := by decide +kernel
theorem dX10_settle_140 : decode cX10_settle 140 = .ok (.istore_n 1, 1) := by decide +kernel
theorem dX10_settle_141 : decode cX10_settle 141 = .ok (.iload_n 1, 1) := by decide +kernel
theorem dX10_settle_142 : decode cX10_settle 142 = .ok (.iconst 2, 1) := by decide +kernel
theorem dX10_settle_143 : decode cX10_settle 143 = .ok (.if_icmp .ge 23, 3) := by decide +kernel
theorem dX10_settle_146 : decode cX10_settle 146 = .ok (.aload_n 0, 1) := by decide +kernel
theorem dX10_settle_147 : decode cX10_settle 147 = .ok (.getfield 40, 3) := by decide +kernel
theorem dX10_settle_150 : decode cX10_settle 150 = .ok (.iload_n 1, 1) := by decide +kernel
theorem dX10_settle_151 : decode cX10_settle 151 = .ok (.aload_n 0, 1) := by decide +kernel
theorem dX10_settle_152 : decode cX10_settle 152 = .ok (.getfield 40, 3) := by decide +kernel
theorem dX10_settle_155 : decode cX10_settle 155 = .ok (.iconst 2, 1) := by decide +kernel
theorem dX10_settle_156 : decode cX10_settle 156 = .ok (.iload_n 1, 1) := by decide +kernel
theorem dX10_settle_157 : decode cX10_settle 157 = .ok (.iadd, 1) := by decide +kernel
theorem dX10_settle_158 : decode cX10_settle 158 = .ok (.iaload, 1) := by decide +kernel
theorem dX10_settle_159 : decode cX10_settle 159 = .ok (.iastore, 1) := by decide +kernel
theorem dX10_settle_160 : decode cX10_settle 160 = .ok (.iinc 1 1, 3) := by decide +kernel
theorem dX10_settle_163 : decode cX10_settle 163 = .ok (.goto (-22), 3) := by decide +kernel
theorem dX10_settle_166 : decode cX10_settle 166 = .ok (.iconst 0, 1) := by decide +kernel
theorem dX10_settle_167 : decode cX10_settle 167 = .ok (.istore_n 1, 1) := by decide +kernel
theorem dX10_settle_168 : decode cX10_settle 168 = .ok (.iload_n 1, 1) := by decide +kernel
theorem dX10_settle_169 : decode cX10_settle 169 = .ok (.iconst 4, 1) := by decide +kernel
theorem dX10_settle_170 : decode cX10_settle 170 = .ok (.if_icmp .ge 21, 3) := by decide +kernel
theorem dX10_settle_173 : decode cX10_settle 173 = .ok (.aload_n 0, 1) := by decide +kernel
theorem dX10_settle_174 : decode cX10_settle 174 = .ok (.getfield 43, 3) := by decide +kernel
theorem dX10_settle_177 : decode cX10_settle 177 = .ok (.iload_n 1, 1) := by decide +kernel
theorem dX10_settle_178 : decode cX10_settle 178 = .ok (.aload_n 0, 1) := by decide +kernel
theorem dX10_settle_179 : decode cX10_settle 179 = .ok (.getfield 17, 3) := by decide +kernel
theorem dX10_settle_182 : decode cX10_settle 182 = .ok (.iconst 2, 1) := by decide +kernel
theorem dX10_settle_183 : decode cX10_settle 183 = .ok (.iaload, 1) := by decide +kernel
theorem dX10_settle_184 : decode cX10_settle 184 = .ok (.iastore, 1) := by decide +kernel
theorem dX10_settle_185 : decode cX10_settle 185 = .ok (.iinc 1 1, 3) := by decide +kernel
theorem dX10_settle_188 : decode cX10_settle 188 = .ok (.goto (-20), 3) := by decide +kernel
theorem dX10_settle_191 : decode cX10_settle 191 = .ok (.iconst 0, 1) := by decide +kernel
theorem dX10_settle_192 : decode cX10_settle 192 = .ok (.istore_n 1, 1) := by decide +kernel
theorem dX10_settle_193 : decode cX10_settle 193 = .ok (.iload_n 1, 1) := by decide +kernel
theorem dX10_settle_194 : decode cX10_settle 194 = .ok (.iconst 5, 1) := by decide +kernel
theorem dX10_settle_195 : decode cX10_settle 195 = .ok (.if_icmp .gt 16, 3) := by decide +kernel
theorem dX10_settle_198 : decode cX10_settle 198 = .ok (.aload_n 0, 1) := by decide +kernel
theorem dX10_settle_199 : decode cX10_settle 199 = .ok (.getfield 85, 3) := by decide +kernel
theorem dX10_settle_202 : decode cX10_settle 202 = .ok (.iload_n 1, 1) := by decide +kernel
theorem dX10_settle_203 : decode cX10_settle 203 = .ok (.iconst 0, 1) := by decide +kernel
theorem dX10_settle_204 : decode cX10_settle 204 = .ok (.iastore, 1) := by decide +kernel
theorem dX10_settle_205 : decode cX10_settle 205 = .ok (.iinc 1 1, 3) := by decide +kernel
theorem dX10_settle_208 : decode cX10_settle 208 = .ok (.goto (-15), 3) := by decide +kernel
theorem dX10_settle_211 : decode cX10_settle 211 = .ok (.iconst 0, 1) := by decide +kernel
theorem dX10_settle_212 : decode cX10_settle 212 = .ok (.istore_n 1, 1) := by decide +kernel
theorem dX10_settle_213 : decode cX10_settle 213 = .ok (.iload_n 1, 1) := by decide +kernel
theorem dX10_settle_214 : decode cX10_settle 214 = .ok (.iconst 5, 1) := by decide +kernel
theorem dX10_settle_215 : decode cX10_settle 215 = .ok (.if_icmp .ge 16, 3) := by decide +kernel
theorem dX10_settle_218 : decode cX10_settle 218 = .ok (.aload_n 0, 1) := by decide +kernel
theorem dX10_settle_219 : decode cX10_settle 219 = .ok (.getfield 88, 3) := by decide +kernel
theorem dX10_settle_222 : decode cX10_settle 222 = .ok (.iload_n 1, 1) := by decide +kernel
theorem dX10_settle_223 : decode cX10_settle 223 = .ok (.iconst 0, 1) := by decide +kernel
theorem dX10_settle_224 : decode cX10_settle 224 = .ok (.iastore, 1) := by decide +kernel
theorem dX10_settle_225 : decode cX10_settle 225 = .ok (.iinc 1 1, 3) := by decide +kernel
theorem dX10_settle_228 : decode cX10_settle 228 = .ok (.goto (-15), 3) := by decide +kernel
theorem dX10_settle_231 : decode cX10_settle 231 = .ok (.aload_n 0, 1) := by decide +kernel
theorem dX10_settle_232 : decode cX10_settle 232 = .ok (.iconst 1, 1) := by decide +kernel
theorem dX10_settle_233 : decode cX10_settle 233 = .ok (.putfield 190, 3) := by decide +kernel
theorem dX10_settle_236 : decode cX10_settle 236 = .ok (.aload_n 0, 1) := by decide +kernel
theorem dX10_settle_237 : decode cX10_settle 237 = .ok (.iconst 0, 1) := by decide +kernel
theorem dX10_settle_238 : decode cX10_settle 238 = .ok (.putfield 193, 3) := by decide +kernel
theorem dX10_settle_241 : decode cX10_settle 241 = .ok (.aload_n 0, 1) := by decide +kernel
theorem dX10_settle_242 : decode cX10_settle 242 = .ok (.iconst 0, 1) := by decide +kernel
theorem dX10_settle_243 : decode cX10_settle 243 = .ok (.putfield 196, 3) := by decide +kernel
theorem dX10_settle_246 : decode cX10_settle 246 = .ok (.aload_n 0, 1) := by decide +kernel
theorem dX10_settle_247 : decode cX10_settle 247 = .ok (.iconst 0, 1) := by decide +kernel
theorem dX10_settle_248 : decode cX10_settle 248 = .ok (.putfield 199, 3) := by decide +kernel
theorem dX10_settle_251 : decode cX10_settle 251 = .ok (.aload_n 0, 1) := by decide +kernel
theorem dX10_settle_252 : decode cX10_settle 252 = .ok (.iconst 0, 1) := by decide +kernel
theorem dX10_settle_253 : decode cX10_settle 253 = .ok (.putfield 202, 3) := by decide +kernel
theorem dX10_settle_256 : decode cX10_settle 256 = .ok (.aload_n 0, 1) := by decide +kernel
theorem dX10_settle_257 : decode cX10_settle 257 = .ok (.iconst 0, 1) := by decide +kernel
theorem dX10_settle_258 : decode cX10_settle 258 = .ok (.putfield 206, 3) := by decide +kernel
theorem dX10_settle_261 : decode cX10_settle 261 = .ok (.return_, 1) := by decide +kernel
theorem dX10_isNamed_0 : decode cX10_isNamed 0 = .ok (.iconst 0, 1) := by decide +kernel
theorem dX10_isNamed_1 : decode cX10_isNamed 1 = .ok (.istore_n 3, 1) := by decide +kernel
theorem dX10_isNamed_2 : decode cX10_isNamed 2 = .ok (.iload_n 3, 1) := by decide +kernel
theorem dX10_isNamed_3 : decode cX10_isNamed 3 = .ok (.iload_n 2, 1) := by decide +kernel
theorem dX10_isNamed_4 : decode cX10_isNamed 4 = .ok (.if_icmp .ge 22, 3) := by decide +kernel
theorem dX10_isNamed_7 : decode cX10_isNamed 7 = .ok (.aload_n 1, 1) := by decide +kernel
theorem dX10_isNamed_8 : decode cX10_isNamed 8 = .ok (.iload_n 3, 1) := by decide +kernel
theorem dX10_isNamed_9 : decode cX10_isNamed 9 = .ok (.laload, 1) := by decide +kernel
theorem dX10_isNamed_10 : decode cX10_isNamed 10 = .ok (.aload_n 0, 1) := by decide +kernel
theorem dX10_isNamed_11 : decode cX10_isNamed 11 = .ok (.getfield 150, 3) := by decide +kernel
theorem dX10_isNamed_14 : decode cX10_isNamed 14 = .ok (.lcmp, 1) := by decide +kernel
theorem dX10_isNamed_15 : decode cX10_isNamed 15 = .ok (.ifCond .ne 5, 3) := by decide +kernel
theorem dX10_isNamed_18 : decode cX10_isNamed 18 = .ok (.iconst 1, 1) := by decide +kernel
theorem dX10_isNamed_19 : decode cX10_isNamed 19 = .ok (.ireturn, 1) := by decide +kernel
theorem dX10_isNamed_20 : decode cX10_isNamed 20 = .ok (.iinc 3 1, 3) := by decide +kernel
theorem dX10_isNamed_23 : decode cX10_isNamed 23 = .ok (.goto (-21), 3) := by decide +kernel
theorem dX10_isNamed_26 : decode cX10_isNamed 26 = .ok (.iconst 0, 1) := by decide +kernel
theorem dX10_isNamed_27 : decode cX10_isNamed 27 = .ok (.ireturn, 1) := by decide +kernel
set_option maxRecDepth 20000 in
theorem ggX10_readSign_X10_fails : GoodIn wsX10_readSign wsX10_fails := goodIn_r _ [11, 12, 13, 14, 112, 113, 114, 115, 116, 117, 118, 119, 120, 121, 122, 123, 124, 125, 126, 127, 128, 129, 130, 131, 132, 133, 134, 135, 136, 137, 138, 139, 140, 141, 142, 143, 144, 145, 146, 147, 148, 149, 150, 151, 152, 153, 154, 155, 156, 157, 158, 159, 160, 161, 162, 163, 164, 165, 166, 167, 168, 169, 170, 171, 172, 173, 174, 175, 176] (by decide +kernel) (by decide +kernel)
set_option maxRecDepth 20000 in
theorem gX10_readSign_X10_fails : GoodIn wsX10_readSign (wsV RX10 171 RX10 yX10_fails wsX10_fails) := goodIn_app (goodIn_of _ (by decide +kernel)) ggX10_readSign_X10_fails
set_option maxRecDepth 20000 in
theorem ggX10_readSign_X10_scan : GoodIn wsX10_readSign wsX10_scan := goodIn_r _ [18, 19, 13, 20, 2, 4, 21, 22, 23, 24, 25, 26, 10, 27, 28, 29, 30, 31, 32, 33, 34, 35, 36, 37, 38, 39, 40, 41, 42, 43, 44, 45, 46, 47, 48, 49, 50, 51, 52, 53, 54, 55, 56, 57, 58, 59, 60, 61, 62, 63, 64, 65, 66, 67, 68, 69, 70, 71, 72, 73, 74, 75, 76, 77, 78, 79, 80, 81, 82, 83, 84, 85, 86, 87, 88, 112, 113, 114, 115, 116, 117, 118, 119, 120, 121, 122, 123, 124, 125, 126, 127, 128, 129, 130, 131, 132, 133, 134, 135, 136, 137, 138, 139, 140, 141, 142, 143, 144, 145, 146, 147, 148, 149, 150, 151, 152, 153, 154, 155, 156, 157, 158, 159, 160, 161, 162, 163, 164, 165, 166, 167, 168, 169, 170, 171, 172, 173, 174, 175, 176] (by decide +kernel) (by decide +kernel)
set_option maxRecDepth 20000 in
theorem gX10_readSign_X10_scan : GoodIn wsX10_readSign (wsV RX10 181 RX10 yX10_scan wsX10_scan) := goodIn_app (goodIn_of _ (by decide +kernel)) ggX10_readSign_X10_scan
set_option maxRecDepth 20000 in
theorem ggX10_readSign_X10_isNamed : GoodIn wsX10_readSign wsX10_isNamed := goodIn_r _ [92, 4, 112, 113, 114, 115, 116, 117, 118, 119, 120, 121, 122, 123, 124, 125, 126, 127, 128, 129, 130, 131, 132, 133, 134, 135, 136, 137, 138, 139, 140, 141, 142, 143, 144, 145, 146, 147, 148, 149, 150, 151, 152, 153, 154, 155, 156, 157, 158, 159, 160, 161, 162, 163, 164, 165, 166, 167, 168, 169, 170, 171, 172, 173, 174, 175, 176] (by decide +kernel) (by decide +kernel)
set_option maxRecDepth 20000 in
theorem gX10_readSign_X10_isNamed : GoodIn wsX10_readSign (wsV RX10 209 RX10 yX10_isNamed wsX10_isNamed) := goodIn_app (goodIn_of _ (by decide +kernel)) ggX10_readSign_X10_isNamed
set_option maxRecDepth 20000 in
theorem ggX10_readSign_X10_readWord : GoodIn wsX10_readSign wsX10_readWord := goodIn_r _ [96, 97, 98, 99, 10, 100, 2, 20, 7, 8, 9, 11, 12, 13, 14, 15, 16, 17, 18, 19, 4, 21, 22, 23, 24, 25, 26, 27, 28, 29, 30, 31, 32, 33, 34, 35, 36, 37, 38, 39, 40, 41, 42, 43, 44, 45, 46, 47, 48, 49, 50, 51, 52, 53, 54, 55, 56, 57, 58, 59, 60, 61, 62, 63, 64, 65, 66, 67, 68, 69, 70, 71, 72, 73, 74, 75, 76, 77, 78, 79, 80, 81, 82, 83, 84, 85, 86, 87, 88, 112, 113, 114, 115, 116, 117, 118, 119, 120, 121, 122, 123, 124, 125, 126, 127, 128, 129, 130, 131, 132, 133, 134, 135, 136, 137, 138, 139, 140, 141, 142, 143, 144, 145, 146, 147, 148, 149, 150, 151, 152, 153, 154, 155, 156, 157, 158, 159, 160, 161, 162, 163, 164, 165, 166, 167, 168, 169, 170, 171, 172, 173, 174, 175, 176] (by decide +kernel) (by decide +kernel)
set_option maxRecDepth 20000 in
theorem gX10_readSign_X10_readWord : GoodIn wsX10_readSign (wsV RX10 213 RX10 yX10_readWord wsX10_readWord) := goodIn_app (goodIn_of _ (by decide +kernel)) ggX10_readSign_X10_readWord
set_option maxRecDepth 20000 in
theorem ggX10_readSign_X10_readNumber : GoodIn wsX10_readSign wsX10_readNumber := goodIn_r _ [104, 2, 23, 6, 7, 8, 9, 10, 11, 12, 13, 14, 105, 106, 107, 15, 16, 17, 18, 19, 20, 4, 21, 22, 24, 25, 26, 27, 28, 29, 30, 31, 32, 33, 34, 35, 36, 37, 38, 39, 40, 41, 42, 43, 44, 45, 46, 47, 48, 49, 50, 51, 52, 53, 54, 55, 56, 57, 58, 59, 60, 61, 62, 63, 64, 65, 66, 67, 68, 69, 70, 71, 72, 73, 74, 75, 76, 77, 78, 79, 80, 81, 82, 83, 84, 85, 86, 87, 88, 112, 113, 114, 115, 116, 117, 118, 119, 120, 121, 122, 123, 124, 125, 126, 127, 128, 129, 130, 131, 132, 133, 134, 135, 136, 137, 138, 139, 140, 141, 142, 143, 144, 145, 146, 147, 148, 149, 150, 151, 152, 153, 154, 155, 156, 157, 158, 159, 160, 161, 162, 163, 164, 165, 166, 167, 168, 169, 170, 171, 172, 173, 174, 175, 176] (by decide +kernel) (by decide +kernel)
set_option maxRecDepth 20000 in
theorem gX10_readSign_X10_readNumber : GoodIn wsX10_readSign (wsV RX10 216 RX10 yX10_readNumber wsX10_readNumber) := goodIn_app (goodIn_of _ (by decide +kernel)) ggX10_readSign_X10_readNumber
set_option maxRecDepth 20000 in
theorem ggX10_readSign_X10_readSemi : GoodIn wsX10_readSign wsX10_readSemi := goodIn_r _ [111, 2, 7, 8, 9, 10, 11, 12, 13, 14, 15, 16, 17, 18, 19, 20, 4, 21, 22, 23, 24, 25, 26, 27, 28, 29, 30, 31, 32, 33, 34, 35, 36, 37, 38, 39, 40, 41, 42, 43, 44, 45, 46, 47, 48, 49, 50, 51, 52, 53, 54, 55, 56, 57, 58, 59, 60, 61, 62, 63, 64, 65, 66, 67, 68, 69, 70, 71, 72, 73, 74, 75, 76, 77, 78, 79, 80, 81, 82, 83, 84, 85, 86, 87, 88, 112, 113, 114, 115, 116, 117, 118, 119, 120, 121, 122, 123, 124, 125, 126, 127, 128, 129, 130, 131, 132, 133, 134, 135, 136, 137, 138, 139, 140, 141, 142, 143, 144, 145, 146, 147, 148, 149, 150, 151, 152, 153, 154, 155, 156, 157, 158, 159, 160, 161, 162, 163, 164, 165, 166, 167, 168, 169, 170, 171, 172, 173, 174, 175, 176] (by decide +kernel) (by decide +kernel)
set_option maxRecDepth 20000 in
theorem gX10_readSign_X10_readSemi : GoodIn wsX10_readSign (wsV RX10 220 RX10 yX10_readSemi wsX10_readSemi) := goodIn_app (goodIn_of _ (by decide +kernel)) ggX10_readSign_X10_readSemi
theorem dX10_readSign_0 : decode cX10_readSign 0 = .ok (.aload_n 0, 1) := by decide +kernel
theorem dX10_readSign_1 : decode cX10_readSign 1 = .ok (.getfield 17, 3) := by decide +kernel
theorem dX10_readSign_4 : decode cX10_readSign 4 = .ok (.bipush 9, 2) := by decide +kernel
theorem dX10_readSign_6 : decode cX10_readSign 6 = .ok (.iaload, 1) := by decide +kernel
theorem dX10_readSign_7 : decode cX10_readSign 7 = .ok (.istore_n 1, 1) := by decide +kernel
theorem dX10_readSign_8 : decode cX10_readSign 8 = .ok (.iload_n 1, 1) := by decide +kernel
theorem dX10_readSign_9 : decode cX10_readSign 9 = .ok (.iconst 4, 1) := by decide +kernel
theorem dX10_readSign_10 : decode cX10_readSign 10 = .ok (.if_icmp .ne 9, 3) := by decide +kernel
theorem dX10_readSign_13 : decode cX10_readSign 13 = .ok (.aload_n 0, 1) := by decide +kernel
theorem dX10_readSign_14 : decode cX10_readSign 14 = .ok (.iconst 4, 1) := by decide +kernel
theorem dX10_readSign_15 : decode cX10_readSign 15 = .ok (.invokevirtual 171, 3) := by decide +kernel
theorem dX10_readSign_18 : decode cX10_readSign 18 = .ok (.ireturn, 1) := by decide +kernel
theorem dX10_readSign_19 : decode cX10_readSign 19 = .ok (.aload_n 0, 1) := by decide +kernel
theorem dX10_readSign_20 : decode cX10_readSign 20 = .ok (.invokevirtual 181, 3) := by decide +kernel
theorem dX10_readSign_23 : decode cX10_readSign 23 = .ok (.aload_n 0, 1) := by decide +kernel
theorem dX10_readSign_24 : decode cX10_readSign 24 = .ok (.getfield 143, 3) := by decide +kernel
theorem dX10_readSign_27 : decode cX10_readSign 27 = .ok (.iconst 1, 1) := by decide +kernel
theorem dX10_readSign_28 : decode cX10_readSign 28 = .ok (.if_icmp .eq 9, 3) := by decide +kernel
theorem dX10_readSign_31 : decode cX10_readSign 31 = .ok (.aload_n 0, 1) := by decide +kernel
theorem dX10_readSign_32 : decode cX10_readSign 32 = .ok (.iconst 1, 1) := by decide +kernel
theorem dX10_readSign_33 : decode cX10_readSign 33 = .ok (.invokevirtual 171, 3) := by decide +kernel
theorem dX10_readSign_36 : decode cX10_readSign 36 = .ok (.ireturn, 1) := by decide +kernel
theorem dX10_readSign_37 : decode cX10_readSign 37 = .ok (.aload_n 0, 1) := by decide +kernel
theorem dX10_readSign_38 : decode cX10_readSign 38 = .ok (.aload_n 0, 1) := by decide +kernel
theorem dX10_readSign_39 : decode cX10_readSign 39 = .ok (.getfield 21, 3) := by decide +kernel
theorem dX10_readSign_42 : decode cX10_readSign 42 = .ok (.iload_n 1, 1) := by decide +kernel
theorem dX10_readSign_43 : decode cX10_readSign 43 = .ok (.invokevirtual 209, 3) := by decide +kernel
theorem dX10_readSign_46 : decode cX10_readSign 46 = .ok (.ifCond .eq 9, 3) := by decide +kernel
theorem dX10_readSign_49 : decode cX10_readSign 49 = .ok (.aload_n 0, 1) := by decide +kernel
theorem dX10_readSign_50 : decode cX10_readSign 50 = .ok (.iconst 3, 1) := by decide +kernel
theorem dX10_readSign_51 : decode cX10_readSign 51 = .ok (.invokevirtual 171, 3) := by decide +kernel
theorem dX10_readSign_54 : decode cX10_readSign 54 = .ok (.ireturn, 1) := by decide +kernel
theorem dX10_readSign_55 : decode cX10_readSign 55 = .ok (.aload_n 0, 1) := by decide +kernel
theorem dX10_readSign_56 : decode cX10_readSign 56 = .ok (.getfield 21, 3) := by decide +kernel
theorem dX10_readSign_59 : decode cX10_readSign 59 = .ok (.iload_n 1, 1) := by decide +kernel
theorem dX10_readSign_60 : decode cX10_readSign 60 = .ok (.aload_n 0, 1) := by decide +kernel
theorem dX10_readSign_61 : decode cX10_readSign 61 = .ok (.getfield 150, 3) := by decide +kernel
theorem dX10_readSign_64 : decode cX10_readSign 64 = .ok (.lastore, 1) := by decide +kernel
theorem dX10_readSign_65 : decode cX10_readSign 65 = .ok (.aload_n 0, 1) := by decide +kernel
theorem dX10_readSign_66 : decode cX10_readSign 66 = .ok (.invokevirtual 181, 3) := by decide +kernel
theorem dX10_readSign_69 : decode cX10_readSign 69 = .ok (.aload_n 0, 1) := by decide +kernel
theorem dX10_readSign_70 : decode cX10_readSign 70 = .ok (.iconst 2, 1) := by decide +kernel
theorem dX10_readSign_71 : decode cX10_readSign 71 = .ok (.invokevirtual 213, 3) := by decide +kernel
theorem dX10_readSign_74 : decode cX10_readSign 74 = .ok (.ifCond .eq 14, 3) := by decide +kernel
theorem dX10_readSign_77 : decode cX10_readSign 77 = .ok (.aload_n 0, 1) := by decide +kernel
theorem dX10_readSign_78 : decode cX10_readSign 78 = .ok (.iconst 0, 1) := by decide +kernel
theorem dX10_readSign_79 : decode cX10_readSign 79 = .ok (.sipush 999, 3) := by decide +kernel
theorem dX10_readSign_82 : decode cX10_readSign 82 = .ok (.invokevirtual 216, 3) := by decide +kernel
theorem dX10_readSign_85 : decode cX10_readSign 85 = .ok (.ifCond .ne 5, 3) := by decide +kernel
theorem dX10_readSign_88 : decode cX10_readSign 88 = .ok (.iconst 0, 1) := by decide +kernel
theorem dX10_readSign_89 : decode cX10_readSign 89 = .ok (.ireturn, 1) := by decide +kernel
theorem dX10_readSign_90 : decode cX10_readSign 90 = .ok (.aload_n 0, 1) := by decide +kernel
theorem dX10_readSign_91 : decode cX10_readSign 91 = .ok (.getfield 28, 3) := by decide +kernel
theorem dX10_readSign_94 : decode cX10_readSign 94 = .ok (.iconst 4, 1) := by decide +kernel
theorem dX10_readSign_95 : decode cX10_readSign 95 = .ok (.iload_n 1, 1) := by decide +kernel
theorem dX10_readSign_96 : decode cX10_readSign 96 = .ok (.iadd, 1) := by decide +kernel
theorem dX10_readSign_97 : decode cX10_readSign 97 = .ok (.aload_n 0, 1) := by decide +kernel
theorem dX10_readSign_98 : decode cX10_readSign 98 = .ok (.getfield 178, 3) := by decide +kernel
theorem dX10_readSign_101 : decode cX10_readSign 101 = .ok (.iastore, 1) := by decide +kernel
theorem dX10_readSign_102 : decode cX10_readSign 102 = .ok (.aload_n 0, 1) := by decide +kernel
theorem dX10_readSign_103 : decode cX10_readSign 103 = .ok (.getfield 17, 3) := by decide +kernel
theorem dX10_readSign_106 : decode cX10_readSign 106 = .ok (.bipush 9, 2) := by decide +kernel
theorem dX10_readSign_108 : decode cX10_readSign 108 = .ok (.dup2, 1) := by decide +kernel
theorem dX10_readSign_109 : decode cX10_readSign 109 = .ok (.iaload, 1) := by decide +kernel
theorem dX10_readSign_110 : decode cX10_readSign 110 = .ok (.iconst 1, 1) := by decide +kernel
theorem dX10_readSign_111 : decode cX10_readSign 111 = .ok (.iadd, 1) := by decide +kernel
theorem dX10_readSign_112 : decode cX10_readSign 112 = .ok (.iastore, 1) := by decide +kernel
theorem dX10_readSign_113 : decode cX10_readSign 113 = .ok (.aload_n 0, 1) := by decide +kernel
theorem dX10_readSign_114 : decode cX10_readSign 114 = .ok (.invokevirtual 220, 3) := by decide +kernel
theorem dX10_readSign_117 : decode cX10_readSign 117 = .ok (.ireturn, 1) := by decide +kernel
set_option maxRecDepth 20000 in
theorem ggX10_readWork_X10_fails : GoodIn wsX10_readWork wsX10_fails := goodIn_r _ [13, 14, 15, 16, 113, 114, 115, 116, 117, 118, 119, 120, 121, 122, 123, 124, 125, 126, 127, 128, 129, 130, 131, 132, 133, 134, 135, 136, 137, 138, 139, 140, 141, 142, 143, 144, 145, 146, 147, 148, 149, 150, 151, 152, 153, 154, 155, 156, 157, 158, 159, 160, 161, 162, 163, 164, 165, 166, 167, 168, 169, 170, 171, 172, 173, 174, 175, 176, 177] (by decide +kernel) (by decide +kernel)
set_option maxRecDepth 20000 in
theorem gX10_readWork_X10_fails : GoodIn wsX10_readWork (wsV RX10 171 RX10 yX10_fails wsX10_fails) := goodIn_app (goodIn_of _ (by decide +kernel)) ggX10_readWork_X10_fails
set_option maxRecDepth 20000 in
theorem ggX10_readWork_X10_scan : GoodIn wsX10_readWork wsX10_scan := goodIn_r _ [20, 21, 15, 22, 2, 4, 23, 24, 7, 25, 26, 27, 12, 28, 29, 30, 31, 32, 33, 34, 35, 36, 37, 38, 39, 40, 41, 42, 43, 44, 45, 46, 47, 48, 49, 50, 51, 52, 53, 54, 55, 56, 57, 58, 59, 60, 61, 62, 63, 64, 65, 66, 67, 68, 69, 70, 71, 72, 73, 74, 75, 76, 77, 78, 79, 80, 81, 82, 83, 84, 85, 86, 87, 88, 89, 113, 114, 115, 116, 117, 118, 119, 120, 121, 122, 123, 124, 125, 126, 127, 128, 129, 130, 131, 132, 133, 134, 135, 136, 137, 138, 139, 140, 141, 142, 143, 144, 145, 146, 147, 148, 149, 150, 151, 152, 153, 154, 155, 156, 157, 158, 159, 160, 161, 162, 163, 164, 165, 166, 167, 168, 169, 170, 171, 172, 173, 174, 175, 176, 177] (by decide +kernel) (by decide +kernel)
set_option maxRecDepth 20000 in
theorem gX10_readWork_X10_scan : GoodIn wsX10_readWork (wsV RX10 181 RX10 yX10_scan wsX10_scan) := goodIn_app (goodIn_of _ (by decide +kernel)) ggX10_readWork_X10_scan
set_option maxRecDepth 20000 in
theorem ggX10_readWork_X10_isNamed : GoodIn wsX10_readWork wsX10_isNamed := goodIn_r _ [93, 4, 113, 114, 115, 116, 117, 118, 119, 120, 121, 122, 123, 124, 125, 126, 127, 128, 129, 130, 131, 132, 133, 134, 135, 136, 137, 138, 139, 140, 141, 142, 143, 144, 145, 146, 147, 148, 149, 150, 151, 152, 153, 154, 155, 156, 157, 158, 159, 160, 161, 162, 163, 164, 165, 166, 167, 168, 169, 170, 171, 172, 173, 174, 175, 176, 177] (by decide +kernel) (by decide +kernel)
set_option maxRecDepth 20000 in
theorem gX10_readWork_X10_isNamed : GoodIn wsX10_readWork (wsV RX10 209 RX10 yX10_isNamed wsX10_isNamed) := goodIn_app (goodIn_of _ (by decide +kernel)) ggX10_readWork_X10_isNamed
set_option maxRecDepth 20000 in
theorem ggX10_readWork_X10_readWord : GoodIn wsX10_readWork wsX10_readWord := goodIn_r _ [97, 98, 99, 100, 12, 101, 2, 22, 9, 10, 11, 13, 14, 15, 16, 17, 18, 19, 20, 21, 4, 23, 24, 7, 25, 26, 27, 28, 29, 30, 31, 32, 33, 34, 35, 36, 37, 38, 39, 40, 41, 42, 43, 44, 45, 46, 47, 48, 49, 50, 51, 52, 53, 54, 55, 56, 57, 58, 59, 60, 61, 62, 63, 64, 65, 66, 67, 68, 69, 70, 71, 72, 73, 74, 75, 76, 77, 78, 79, 80, 81, 82, 83, 84, 85, 86, 87, 88, 89, 113, 114, 115, 116, 117, 118, 119, 120, 121, 122, 123, 124, 125, 126, 127, 128, 129, 130, 131, 132, 133, 134, 135, 136, 137, 138, 139, 140, 141, 142, 143, 144, 145, 146, 147, 148, 149, 150, 151, 152, 153, 154, 155, 156, 157, 158, 159, 160, 161, 162, 163, 164, 165, 166, 167, 168, 169, 170, 171, 172, 173, 174, 175, 176, 177] (by decide +kernel) (by decide +kernel)
set_option maxRecDepth 20000 in
theorem gX10_readWork_X10_readWord : GoodIn wsX10_readWork (wsV RX10 213 RX10 yX10_readWord wsX10_readWord) := goodIn_app (goodIn_of _ (by decide +kernel)) ggX10_readWork_X10_readWord
set_option maxRecDepth 20000 in
theorem ggX10_readWork_X10_readNumber : GoodIn wsX10_readWork wsX10_readNumber := goodIn_r _ [105, 2, 7, 6, 9, 10, 11, 12, 13, 14, 15, 16, 106, 107, 108, 17, 18, 19, 20, 21, 22, 4, 23, 24, 25, 26, 27, 28, 29, 30, 31, 32, 33, 34, 35, 36, 37, 38, 39, 40, 41, 42, 43, 44, 45, 46, 47, 48, 49, 50, 51, 52, 53, 54, 55, 56, 57, 58, 59, 60, 61, 62, 63, 64, 65, 66, 67, 68, 69, 70, 71, 72, 73, 74, 75, 76, 77, 78, 79, 80, 81, 82, 83, 84, 85, 86, 87, 88, 89, 113, 114, 115, 116, 117, 118, 119, 120, 121, 122, 123, 124, 125, 126, 127, 128, 129, 130, 131, 132, 133, 134, 135, 136, 137, 138, 139, 140, 141, 142, 143, 144, 145, 146, 147, 148, 149, 150, 151, 152, 153, 154, 155, 156, 157, 158, 159, 160, 161, 162, 163, 164, 165, 166, 167, 168, 169, 170, 171, 172, 173, 174, 175, 176, 177] (by decide +kernel) (by decide +kernel)
set_option maxRecDepth 20000 in
theorem gX10_readWork_X10_readNumber : GoodIn wsX10_readWork (wsV RX10 216 RX10 yX10_readNumber wsX10_readNumber) := goodIn_app (goodIn_of _ (by decide +kernel)) ggX10_readWork_X10_readNumber
set_option maxRecDepth 20000 in
theorem ggX10_readWork_X10_in : GoodIn wsX10_readWork wsX10_in := goodIn_r _ [108] (by decide +kernel) (by decide +kernel)
set_option maxRecDepth 20000 in
theorem gX10_readWork_X10_in : GoodIn wsX10_readWork (va_wsS RX10 174 yX10_in wsX10_in) := goodIn_app (goodIn_of _ (by decide +kernel)) ggX10_readWork_X10_in
set_option maxRecDepth 20000 in
theorem ggX10_readWork_X10_readSemi : GoodIn wsX10_readWork wsX10_readSemi := goodIn_r _ [112, 2, 9, 10, 11, 12, 13, 14, 15, 16, 17, 18, 19, 20, 21, 22, 4, 23, 24, 7, 25, 26, 27, 28, 29, 30, 31, 32, 33, 34, 35, 36, 37, 38, 39, 40, 41, 42, 43, 44, 45, 46, 47, 48, 49, 50, 51, 52, 53, 54, 55, 56, 57, 58, 59, 60, 61, 62, 63, 64, 65, 66, 67, 68, 69, 70, 71, 72, 73, 74, 75, 76, 77, 78, 79, 80, 81, 82, 83, 84, 85, 86, 87, 88, 89, 113, 114, 115, 116, 117, 118, 119, 120, 121, 122, 123, 124, 125, 126, 127, 128, 129, 130, 131, 132, 133, 134, 135, 136, 137, 138, 139, 140, 141, 142, 143, 144, 145, 146, 147, 148, 149, 150, 151, 152, 153, 154, 155, 156, 157, 158, 159, 160, 161, 162, 163, 164, 165, 166, 167, 168, 169, 170, 171, 172, 173, 174, 175, 176, 177] (by decide +kernel) (by decide +kernel)
set_option maxRecDepth 20000 in
theorem gX10_readWork_X10_readSemi : GoodIn wsX10_readWork (wsV RX10 220 RX10 yX10_readSemi wsX10_readSemi) := goodIn_app (goodIn_of _ (by decide +kernel)) ggX10_readWork_X10_readSemi
theorem dX10_readWork_0 : decode cX10_readWork 0 = .ok (.aload_n 0, 1) := by decide +kernel
theorem dX10_readWork_1 : decode cX10_readWork 1 = .ok (.getfield 17, 3) := by decide +kernel
theorem dX10_readWork_4 : decode cX10_readWork 4 = .ok (.bipush 10, 2) := by decide +kernel
theorem dX10_readWork_6 : decode cX10_readWork 6 = .ok (.iaload, 1) := by decide +kernel
theorem dX10_readWork_7 : decode cX10_readWork 7 = .ok (.istore_n 1, 1) := by decide +kernel
theorem dX10_readWork_8 : decode cX10_readWork 8 = .ok (.iload_n 1, 1) := by decide +kernel
theorem dX10_readWork_9 : decode cX10_readWork 9 = .ok (.iconst 5, 1) := by decide +kernel
theorem dX10_readWork_10 : decode cX10_readWork 10 = .ok (.if_icmp .ne 9, 3) := by decide +kernel
theorem dX10_readWork_13 : decode cX10_readWork 13 = .ok (.aload_n 0, 1) := by decide +kernel
theorem dX10_readWork_14 : decode cX10_readWork 14 = .ok (.iconst 4, 1) := by decide +kernel
theorem dX10_readWork_15 : decode cX10_readWork 15 = .ok (.invokevirtual 171, 3) := by decide +kernel
theorem dX10_readWork_18 : decode cX10_readWork 18 = .ok (.ireturn, 1) := by decide +kernel
theorem dX10_readWork_19 : decode cX10_readWork 19 = .ok (.aload_n 0, 1) := by decide +kernel
theorem dX10_readWork_20 : decode cX10_readWork 20 = .ok (.invokevirtual 181, 3) := by decide +kernel
theorem dX10_readWork_23 : decode cX10_readWork 23 = .ok (.aload_n 0, 1) := by decide +kernel
theorem dX10_readWork_24 : decode cX10_readWork 24 = .ok (.getfield 143, 3) := by decide +kernel
theorem dX10_readWork_27 : decode cX10_readWork 27 = .ok (.iconst 1, 1) := by decide +kernel
theorem dX10_readWork_28 : decode cX10_readWork 28 = .ok (.if_icmp .eq 9, 3) := by decide +kernel
theorem dX10_readWork_31 : decode cX10_readWork 31 = .ok (.aload_n 0, 1) := by decide +kernel
theorem dX10_readWork_32 : decode cX10_readWork 32 = .ok (.iconst 1, 1) := by decide +kernel
theorem dX10_readWork_33 : decode cX10_readWork 33 = .ok (.invokevirtual 171, 3) := by decide +kernel
theorem dX10_readWork_36 : decode cX10_readWork 36 = .ok (.ireturn, 1) := by decide +kernel
theorem dX10_readWork_37 : decode cX10_readWork 37 = .ok (.aload_n 0, 1) := by decide +kernel
theorem dX10_readWork_38 : decode cX10_readWork 38 = .ok (.aload_n 0, 1) := by decide +kernel
theorem dX10_readWork_39 : decode cX10_readWork 39 = .ok (.getfield 25, 3) := by decide +kernel
theorem dX10_readWork_42 : decode cX10_readWork 42 = .ok (.iload_n 1, 1) := by decide +kernel
theorem dX10_readWork_43 : decode cX10_readWork 43 = .ok (.invokevirtual 209, 3) := by decide +kernel
theorem dX10_readWork_46 : decode cX10_readWork 46 = .ok (.ifCond .eq 9, 3) := by decide +kernel
theorem dX10_readWork_49 : decode cX10_readWork 49 = .ok (.aload_n 0, 1) := by decide +kernel
theorem dX10_readWork_50 : decode cX10_readWork 50 = .ok (.iconst 3, 1) := by decide +kernel
theorem dX10_readWork_51 : decode cX10_readWork 51 = .ok (.invokevirtual 171, 3) := by decide +kernel
theorem dX10_readWork_54 : decode cX10_readWork 54 = .ok (.ireturn, 1) := by decide +kernel
theorem dX10_readWork_55 : decode cX10_readWork 55 = .ok (.aload_n 0, 1) := by decide +kernel
theorem dX10_readWork_56 : decode cX10_readWork 56 = .ok (.getfield 25, 3) := by decide +kernel
theorem dX10_readWork_59 : decode cX10_readWork 59 = .ok (.iload_n 1, 1) := by decide +kernel
theorem dX10_readWork_60 : decode cX10_readWork 60 = .ok (.aload_n 0, 1) := by decide +kernel
theorem dX10_readWork_61 : decode cX10_readWork 61 = .ok (.getfield 150, 3) := by decide +kernel
theorem dX10_readWork_64 : decode cX10_readWork 64 = .ok (.lastore, 1) := by decide +kernel
theorem dX10_readWork_65 : decode cX10_readWork 65 = .ok (.aload_n 0, 1) := by decide +kernel
theorem dX10_readWork_66 : decode cX10_readWork 66 = .ok (.invokevirtual 181, 3) := by decide +kernel
theorem dX10_readWork_69 : decode cX10_readWork 69 = .ok (.aload_n 0, 1) := by decide +kernel
theorem dX10_readWork_70 : decode cX10_readWork 70 = .ok (.iconst 4, 1) := by decide +kernel
theorem dX10_readWork_71 : decode cX10_readWork 71 = .ok (.invokevirtual 213, 3) := by decide +kernel
theorem dX10_readWork_74 : decode cX10_readWork 74 = .ok (.ifCond .eq 13, 3) := by decide +kernel
theorem dX10_readWork_77 : decode cX10_readWork 77 = .ok (.aload_n 0, 1) := by decide +kernel
theorem dX10_readWork_78 : decode cX10_readWork 78 = .ok (.iconst 0, 1) := by decide +kernel
theorem dX10_readWork_79 : decode cX10_readWork 79 = .ok (.bipush 99, 2) := by decide +kernel
theorem dX10_readWork_81 : decode cX10_readWork 81 = .ok (.invokevirtual 216, 3) := by decide +kernel
theorem dX10_readWork_84 : decode cX10_readWork 84 = .ok (.ifCond .ne 5, 3) := by decide +kernel
theorem dX10_readWork_87 : decode cX10_readWork 87 = .ok (.iconst 0, 1) := by decide +kernel
theorem dX10_readWork_88 : decode cX10_readWork 88 = .ok (.ireturn, 1) := by decide +kernel
theorem dX10_readWork_89 : decode cX10_readWork 89 = .ok (.aload_n 0, 1) := by decide +kernel
theorem dX10_readWork_90 : decode cX10_readWork 90 = .ok (.getfield 31, 3) := by decide +kernel
theorem dX10_readWork_93 : decode cX10_readWork 93 = .ok (.iconst 5, 1) := by decide +kernel
theorem dX10_readWork_94 : decode cX10_readWork 94 = .ok (.iload_n 1, 1) := by decide +kernel
theorem dX10_readWork_95 : decode cX10_readWork 95 = .ok (.iadd, 1) := by decide +kernel
theorem dX10_readWork_96 : decode cX10_readWork 96 = .ok (.aload_n 0, 1) := by decide +kernel
theorem dX10_readWork_97 : decode cX10_readWork 97 = .ok (.getfield 178, 3) := by decide +kernel
theorem dX10_readWork_100 : decode cX10_readWork 100 = .ok (.iastore, 1) := by decide +kernel
theorem dX10_readWork_101 : decode cX10_readWork 101 = .ok (.aload_n 0, 1) := by decide +kernel
theorem dX10_readWork_102 : decode cX10_readWork 102 = .ok (.iconst 5, 1) := by decide +kernel
theorem dX10_readWork_103 : decode cX10_readWork 103 = .ok (.invokevirtual 213, 3) := by decide +kernel
theorem dX10_readWork_106 : decode cX10_readWork 106 = .ok (.ifCond .ne 5, 3) := by decide +kernel
theorem dX10_readWork_109 : decode cX10_readWork 109 = .ok (.iconst 0, 1) := by decide +kernel
theorem dX10_readWork_110 : decode cX10_readWork 110 = .ok (.ireturn, 1) := by decide +kernel
theorem dX10_readWork_111 : decode cX10_readWork 111 = .ok (.aload_n 0, 1) := by decide +kernel
theorem dX10_readWork_112 : decode cX10_readWork 112 = .ok (.getfield 17, 3) := by decide +kernel
theorem dX10_readWork_115 : decode cX10_readWork 115 = .ok (.bipush 9, 2) := by decide +kernel
theorem dX10_readWork_117 : decode cX10_readWork 117 = .ok (.iaload, 1) := by decide +kernel
theorem dX10_readWork_118 : decode cX10_readWork 118 = .ok (.istore_n 2, 1) := by decide +kernel
theorem dX10_readWork_119 : decode cX10_readWork 119 = .ok (.iconst 0, 1) := by decide +kernel
theorem dX10_readWork_120 : decode cX10_readWork 120 = .ok (.istore_n 3, 1) := by decide +kernel
theorem dX10_readWork_121 : decode cX10_readWork 121 = .ok (.iconst 0, 1) := by decide +kernel
theorem dX10_readWork_122 : decode cX10_readWork 122 = .ok (.istore 4, 2) := by decide +kernel
theorem dX10_readWork_124 : decode cX10_readWork 124 = .ok (.iload 4, 2) := by decide +kernel
theorem dX10_readWork_126 : decode cX10_readWork 126 = .ok (.iload_n 2, 1) := by decide +kernel
theorem dX10_readWork_127 : decode cX10_readWork 127 = .ok (.if_icmp .ge 102, 3) := by decide +kernel
theorem dX10_readWork_130 : decode cX10_readWork 130 = .ok (.aload_n 0, 1) := by decide +kernel
theorem dX10_readWork_131 : decode cX10_readWork 131 = .ok (.getfield 143, 3) := by decide +kernel
theorem dX10_readWork_134 : decode cX10_readWork 134 = .ok (.iconst 2, 1) := by decide +kernel
theorem dX10_readWork_135 : decode cX10_readWork 135 = .ok (.if_icmp .eq 9, 3) := by decide +kernel
theorem dX10_readWork_138 : decode cX10_readWork 138 = .ok (.aload_n 0, 1) := by decide +kernel
theorem dX10_readWork_139 : decode cX10_readWork 139 = .ok (.iconst 1, 1) := by decide +kernel
theorem dX10_readWork_140 : decode cX10_readWork 140 = .ok (.invokevirtual 171, 3) := by decide +kernel
theorem dX10_readWork_143 : decode cX10_readWork 143 = .ok (.ireturn, 1) := by decide +kernel
theorem dX10_readWork_144 : decode cX10_readWork 144 = .ok (.aload_n 0, 1) := by decide +kernel
theorem dX10_readWork_145 : decode cX10_readWork 145 = .ok (.getfield 165, 3) := by decide +kernel
theorem dX10_readWork_148 : decode cX10_readWork 148 = .ok (.i2l, 1) := by decide +kernel
theorem dX10_readWork_149 : decode cX10_readWork 149 = .ok (.lconst 0, 1) := by decide +kernel
theorem dX10_readWork_150 : decode cX10_readWork 150 = .ok (.aload_n 0, 1) := by decide +kernel
theorem dX10_readWork_151 : decode cX10_readWork 151 = .ok (.getfield 17, 3) := by decide +kernel
theorem dX10_readWork_154 : decode cX10_readWork 154 = .ok (.bipush 6, 2) := by decide +kernel
theorem dX10_readWork_156 : decode cX10_readWork 156 = .ok (.iaload, 1) := by decide +kernel
theorem dX10_readWork_157 : decode cX10_readWork 157 = .ok (.i2l, 1) := by decide +kernel
theorem dX10_readWork_158 : decode cX10_readWork 158 = .ok (.invokestatic 174, 3) := by decide +kernel
theorem dX10_readWork_161 : decode cX10_readWork 161 = .ok (.ifCond .ne 9, 3) := by decide +kernel
theorem dX10_readWork_164 : decode cX10_readWork 164 = .ok (.aload_n 0, 1) := by decide +kernel
theorem dX10_readWork_165 : decode cX10_readWork 165 = .ok (.iconst 2, 1) := by decide +kernel
theorem dX10_readWork_166 : decode cX10_readWork 166 = .ok (.invokevirtual 171, 3) := by decide +kernel
theorem dX10_readWork_169 : decode cX10_readWork 169 = .ok (.ireturn, 1) := by decide +kernel
theorem dX10_readWork_170 : decode cX10_readWork 170 = .ok (.iload_n 3, 1) := by decide +kernel
theorem dX10_readWork_171 : decode cX10_readWork 171 = .ok (.aload_n 0, 1) := by decide +kernel
theorem dX10_readWork_172 : decode cX10_readWork 172 = .ok (.getfield 165, 3) := by decide +kernel
theorem dX10_readWork_175 : decode cX10_readWork 175 = .ok (.iadd, 1) := by decide +kernel
theorem dX10_readWork_176 : decode cX10_readWork 176 = .ok (.istore_n 3, 1) := by decide +kernel
theorem dX10_readWork_177 : decode cX10_readWork 177 = .ok (.iload 4, 2) := by decide +kernel
theorem dX10_readWork_179 : decode cX10_readWork 179 = .ok (.iload_n 2, 1) := by decide +kernel
theorem dX10_readWork_180 : decode cX10_readWork 180 = .ok (.iconst 1, 1) := by decide +kernel
theorem dX10_readWork_181 : decode cX10_readWork 181 = .ok (.isub, 1) := by decide +kernel
theorem dX10_readWork_182 : decode cX10_readWork 182 = .ok (.if_icmp .ne 20, 3) := by decide +kernel
theorem dX10_readWork_185 : decode cX10_readWork 185 = .ok (.iload_n 3, 1) := by decide +kernel
theorem dX10_readWork_186 : decode cX10_readWork 186 = .ok (.aload_n 0, 1) := by decide +kernel
theorem dX10_readWork_187 : decode cX10_readWork 187 = .ok (.getfield 17, 3) := by decide +kernel
theorem dX10_readWork_190 : decode cX10_readWork 190 = .ok (.bipush 6, 2) := by decide +kernel
theorem dX10_readWork_192 : decode cX10_readWork 192 = .ok (.iaload, 1) := by decide +kernel
theorem dX10_readWork_193 : decode cX10_readWork 193 = .ok (.if_icmp .eq 9, 3) := by decide +kernel
theorem dX10_readWork_196 : decode cX10_readWork 196 = .ok (.aload_n 0, 1) := by decide +kernel
theorem dX10_readWork_197 : decode cX10_readWork 197 = .ok (.iconst 5, 1) := by decide +kernel
theorem dX10_readWork_198 : decode cX10_readWork 198 = .ok (.invokevirtual 171, 3) := by decide +kernel
theorem dX10_readWork_201 : decode cX10_readWork 201 = .ok (.ireturn, 1) := by decide +kernel
theorem dX10_readWork_202 : decode cX10_readWork 202 = .ok (.aload_n 0, 1) := by decide +kernel
theorem dX10_readWork_203 : decode cX10_readWork 203 = .ok (.getfield 34, 3) := by decide +kernel
theorem dX10_readWork_206 : decode cX10_readWork 206 = .ok (.iconst 4, 1) := by decide +kernel
theorem dX10_readWork_207 : decode cX10_readWork 207 = .ok (.iconst 5, 1) := by decide +kernel
theorem dX10_readWork_208 : decode cX10_readWork 208 = .ok (.iload_n 1, 1) := by decide +kernel
theorem dX10_readWork_209 : decode cX10_readWork 209 = .ok (.iadd, 1) := by decide +kernel
theorem dX10_readWork_210 : decode cX10_readWork 210 = .ok (.imul, 1) := by decide +kernel
theorem dX10_readWork_211 : decode cX10_readWork 211 = .ok (.iload 4, 2) := by decide +kernel
theorem dX10_readWork_213 : decode cX10_readWork 213 = .ok (.iadd, 1) := by decide +kernel
theorem dX10_readWork_214 : decode cX10_readWork 214 = .ok (.aload_n 0, 1) := by decide +kernel
theorem dX10_readWork_215 : decode cX10_readWork 215 = .ok (.getfield 165, 3) := by decide +kernel
theorem dX10_readWork_218 : decode cX10_readWork 218 = .ok (.iastore, 1) := by decide +kernel
theorem dX10_readWork_219 : decode cX10_readWork 219 = .ok (.aload_n 0, 1) := by decide +kernel
theorem dX10_readWork_220 : decode cX10_readWork 220 = .ok (.invokevirtual 181, 3) := by decide +kernel
theorem dX10_readWork_223 : decode cX10_readWork 223 = .ok (.iinc 4 1, 3) := by decide +kernel
theorem dX10_readWork_226 : decode cX10_readWork 226 = .ok (.goto (-102), 3) := by decide +kernel
theorem dX10_readWork_229 : decode cX10_readWork 229 = .ok (.aload_n 0, 1) := by decide +kernel
theorem dX10_readWork_230 : decode cX10_readWork 230 = .ok (.getfield 17, 3) := by decide +kernel
theorem dX10_readWork_233 : decode cX10_readWork 233 = .ok (.bipush 10, 2) := by decide +kernel
theorem dX10_readWork_235 : decode cX10_readWork 235 = .ok (.dup2, 1) := by decide +kernel
theorem dX10_readWork_236 : decode cX10_readWork 236 = .ok (.iaload, 1) := by decide +kernel
theorem dX10_readWork_237 : decode cX10_readWork 237 = .ok (.iconst 1, 1) := by decide +kernel
theorem dX10_readWork_238 : decode cX10_readWork 238 = .ok (.iadd, 1) := by decide +kernel
theorem dX10_readWork_239 : decode cX10_readWork 239 = .ok (.iastore, 1) := by decide +kernel
theorem dX10_readWork_240 : decode cX10_readWork 240 = .ok (.aload_n 0, 1) := by decide +kernel
theorem dX10_readWork_241 : decode cX10_readWork 241 = .ok (.invokevirtual 220, 3) := by decide +kernel
theorem dX10_readWork_244 : decode cX10_readWork 244 = .ok (.ireturn, 1) := by decide +kernel
theorem kk_X10_settle_0 : Cond.fieldLink RX10 17 "PaidBySignsModel" "num" "[I" ∈ wsX10_settle := by decide +kernel
theorem kk_X10_settle_1 : Cond.fieldLink RX10 28 "PaidBySignsModel" "brings" "[I" ∈ wsX10_settle := by decide +kernel
theorem kk_X10_settle_2 : Cond.fieldLink RX10 31 "PaidBySignsModel" "costs" "[I" ∈ wsX10_settle := by decide +kernel
theorem kk_X10_settle_3 : Cond.fieldLink RX10 34 "PaidBySignsModel" "chances" "[I" ∈ wsX10_settle := by decide +kernel
theorem kk_X10_settle_4 : Cond.fieldLink RX10 37 "PaidBySignsModel" "rates" "[I" ∈ wsX10_settle := by decide +kernel
theorem kk_X10_settle_5 : Cond.fieldLink RX10 40 "PaidBySignsModel" "marks" "[I" ∈ wsX10_settle := by decide +kernel
theorem kk_X10_settle_6 : Cond.fieldLink RX10 43 "PaidBySignsModel" "hand" "[I" ∈ wsX10_settle := by decide +kernel
theorem kk_X10_settle_7 : Cond.fieldLink RX10 85 "PaidBySignsModel" "presses" "[I" ∈ wsX10_settle := by decide +kernel
theorem kk_X10_settle_8 : Cond.fieldLink RX10 88 "PaidBySignsModel" "mixes" "[I" ∈ wsX10_settle := by decide +kernel
theorem kk_X10_settle_9 : Cond.fieldLink RX10 190 "PaidBySignsModel" "lowerPress" "I" ∈ wsX10_settle := by decide +kernel
theorem kk_X10_settle_10 : Cond.fieldLink RX10 193 "PaidBySignsModel" "seenMany" "I" ∈ wsX10_settle := by decide +kernel
theorem kk_X10_settle_11 : Cond.fieldLink RX10 196 "PaidBySignsModel" "rightMany" "I" ∈ wsX10_settle := by decide +kernel
theorem kk_X10_settle_12 : Cond.fieldLink RX10 199 "PaidBySignsModel" "lastTold" "I" ∈ wsX10_settle := by decide +kernel
theorem kk_X10_settle_13 : Cond.fieldLink RX10 202 "PaidBySignsModel" "hasFraction" "Z" ∈ wsX10_settle := by decide +kernel
theorem kk_X10_settle_14 : Cond.fieldLink RX10 206 "PaidBySignsModel" "hasWages" "Z" ∈ wsX10_settle := by decide +kernel
theorem kk_X10_readSign_0 : Cond.fieldLink RX10 17 "PaidBySignsModel" "num" "[I" ∈ wsX10_readSign := by decide +kernel
theorem kk_X10_readSign_1 : Cond.fieldLink RX10 143 "PaidBySignsModel" "sort" "I" ∈ wsX10_readSign := by decide +kernel
theorem kk_X10_readSign_2 : Cond.fieldLink RX10 21 "PaidBySignsModel" "signName" "[J" ∈ wsX10_readSign := by decide +kernel
theorem kk_X10_isNamed_0 : Cond.fieldLink RX10 150 "PaidBySignsModel" "word" "J" ∈ wsX10_isNamed := by decide +kernel
theorem kk_X10_readSign_3 : Cond.fieldLink RX10 150 "PaidBySignsModel" "word" "J" ∈ wsX10_readSign := by decide +kernel
theorem kk_X10_readSign_4 : Cond.fieldLink RX10 28 "PaidBySignsModel" "brings" "[I" ∈ wsX10_readSign := by decide +kernel
theorem kk_X10_readSign_5 : Cond.fieldLink RX10 178 "PaidBySignsModel" "got" "I" ∈ wsX10_readSign := by decide +kernel
theorem kk_X10_readWork_0 : Cond.fieldLink RX10 17 "PaidBySignsModel" "num" "[I" ∈ wsX10_readWork := by decide +kernel
theorem kk_X10_readWork_1 : Cond.fieldLink RX10 143 "PaidBySignsModel" "sort" "I" ∈ wsX10_readWork := by decide +kernel
theorem kk_X10_readWork_2 : Cond.fieldLink RX10 25 "PaidBySignsModel" "workName" "[J" ∈ wsX10_readWork := by decide +kernel
theorem kk_X10_readWork_3 : Cond.fieldLink RX10 150 "PaidBySignsModel" "word" "J" ∈ wsX10_readWork := by decide +kernel
theorem kk_X10_readWork_4 : Cond.fieldLink RX10 31 "PaidBySignsModel" "costs" "[I" ∈ wsX10_readWork := by decide +kernel
theorem kk_X10_readWork_5 : Cond.fieldLink RX10 178 "PaidBySignsModel" "got" "I" ∈ wsX10_readWork := by decide +kernel
theorem kk_X10_readWork_6 : Cond.fieldLink RX10 165 "PaidBySignsModel" "number" "I" ∈ wsX10_readWork := by decide +kernel
theorem kk_X10_readWork_7 : Cond.fieldLink RX10 34 "PaidBySignsModel" "chances" "[I" ∈ wsX10_readWork := by decide +kernel
theorem iw_X10_settle_X10 : ∀ w ∈ wsX100, w ∈ wsX10_settle := by decide +kernel
theorem iw_X10_readSign_X10 : ∀ w ∈ wsX100, w ∈ wsX10_readSign := by decide +kernel
theorem iw_X10_isNamed_X10 : ∀ w ∈ wsX100, w ∈ wsX10_isNamed := by decide +kernel
theorem iw_X10_readWork_X10 : ∀ w ∈ wsX100, w ∈ wsX10_readWork := by decide +kernel
