abbrev cX10_readFeel : ByteArray := prog_12_method_21_code
def yX10_readFeel : MethodName := ⟨RX10, "readFeel", "()Z"⟩
abbrev cX10_readRest : ByteArray := prog_12_method_22_code
def yX10_readRest : MethodName := ⟨RX10, "readRest", "()Z"⟩
abbrev cX10_readHire : ByteArray := prog_12_method_23_code
def yX10_readHire : MethodName := ⟨RX10, "readHire", "()Z"⟩
abbrev cX10_hire : ByteArray := prog_12_method_24_code
def yX10_hire : MethodName := ⟨RX10, "hire", "()I"⟩
abbrev cX10_told : ByteArray := prog_12_method_25_code
def yX10_told : MethodName := ⟨RX10, "told", "(I)I"⟩
def wsX10_readFeel_r1 : List Cond := [Cond.fieldLink RX10 37 "PaidBySignsModel" "rates" "[I", Cond.fieldLink RX10 178 "PaidBySignsModel" "got" "I", Cond.fieldLink RX10 143 "PaidBySignsModel" "sort" "I", Cond.fieldLink RX10 165 "PaidBySignsModel" "number" "I", Cond.fieldLink RX10 40 "PaidBySignsModel" "marks" "[I", Cond.constantLong RX10 224 (99), Cond.fieldLink RX10 17 "PaidBySignsModel" "num" "[I", Cond.methodLink RX10 216 yX10_readNumber, Cond.instanceMethod yX10_readNumber, Cond.selects RX10 yX10_readNumber yX10_readNumber, Cond.initialized RX10, Cond.code yX10_readNumber cX10_readNumber 3 (some .boolean), Cond.methodLink RX10 171 yX10_fails, Cond.instanceMethod yX10_fails, Cond.selects RX10 yX10_fails yX10_fails, Cond.code yX10_fails cX10_fails 2 (some .boolean), Cond.fieldLink RX10 168 "PaidBySignsModel" "faultKind" "I", Cond.fieldLink RX10 137 "PaidBySignsModel" "at" "I", Cond.fieldLink RX10 13 "PaidBySignsModel" "faultPlace" "I", Cond.methodLink RX10 174 yX10_in, Cond.static yX10_in, Cond.code yX10_in cX10_in 6 (some .boolean), Cond.methodLink RX10 181 yX10_scan, Cond.instanceMethod yX10_scan]
def wsX10_readFeel_r2 : List Cond := [Cond.selects RX10 yX10_scan yX10_scan, Cond.code yX10_scan cX10_scan 4 none, Cond.fieldLink RX10 134 "PaidBySignsModel" "end" "I", Cond.fieldLink RX10 140 "PaidBySignsModel" "key" "I", Cond.fieldLink RX10 150 "PaidBySignsModel" "word" "J", Cond.constantLong RX10 154 (32), Cond.constantLong RX10 156 (97), Cond.methodLink RX10 130 yX10_byteAt, Cond.instanceMethod yX10_byteAt, Cond.selects RX10 yX10_byteAt yX10_byteAt, Cond.code yX10_byteAt cX10_byteAt 2 (some .int), Cond.fieldLink RX10 115 "PaidBySignsModel" "size" "I", Cond.fieldLink RX10 7 "PaidBySignsModel" "tape" "[B", Cond.methodLink RX10 146 yX10_isSmall, Cond.static yX10_isSmall, Cond.code yX10_isSmall cX10_isSmall 1 (some .boolean), Cond.methodLink RX10 158 yX10_keyAt, Cond.instanceMethod yX10_keyAt, Cond.selects RX10 yX10_keyAt yX10_keyAt, Cond.code yX10_keyAt cX10_keyAt 8 (some .int), Cond.methodLink RX10 120 yJ0_length_8abf5, Cond.instanceMethod yJ0_length_8abf5, Cond.selects RJ0 yJ0_length_8abf5 yJ0_length_8abf5, Cond.initialized RJ0]
def wsX10_readFeel_r3 : List Cond := [Cond.code yJ0_length_8abf5 cJ0_length_8abf5 1 (some .int), Cond.fieldLink RJ0 9 "java/lang/String" "value" "[B", Cond.methodLink RJ0 335 yJ0_coder_7d493, Cond.instanceMethod yJ0_coder_7d493, Cond.selects RJ0 yJ0_coder_7d493 yJ0_coder_7d493, Cond.code yJ0_coder_7d493 cJ0_coder_7d493 1 (some .byte), Cond.fieldLink RJ0 38 "java/lang/String" "COMPACT_STRINGS" "Z", Cond.fieldLink RJ0 15 "java/lang/String" "coder" "B", Cond.methodLink RX10 126 yJ0_charAt_5068e, Cond.instanceMethod yJ0_charAt_5068e, Cond.selects RJ0 yJ0_charAt_5068e yJ0_charAt_5068e, Cond.code yJ0_charAt_5068e cJ0_charAt_5068e 2 (some .char), Cond.methodLink RJ0 492 yJ0_isLatin1_aae02, Cond.instanceMethod yJ0_isLatin1_aae02, Cond.selects RJ0 yJ0_isLatin1_aae02 yJ0_isLatin1_aae02, Cond.code yJ0_isLatin1_aae02 cJ0_isLatin1_aae02 1 (some .boolean), Cond.methodLink RJ0 495 yJ1_charAt_3b067, Cond.static yJ1_charAt_3b067, Cond.initialized RJ1, Cond.code yJ1_charAt_3b067 cJ1_charAt_3b067 2 (some .char), Cond.methodLink RJ1 9 yJ0_checkIndex_df160, Cond.static yJ0_checkIndex_df160, Cond.code yJ0_checkIndex_df160 cJ0_checkIndex_df160 2 none, Cond.fieldLink RJ0 1053 "jdk/internal/util/Preconditions" "SIOOBE_FORMATTER" "Ljava/util/function/BiFunction;"]
def wsX10_readFeel_r4 : List Cond := [Cond.methodLink RJ0 1059 yJ3_checkIndex_8e157, Cond.static yJ3_checkIndex_8e157, Cond.initialized RJ3, Cond.code yJ3_checkIndex_8e157 cJ3_checkIndex_8e157 3 (some .int), Cond.methodLink RJ0 498 yJ2_charAt_3b067, Cond.static yJ2_charAt_3b067, Cond.initialized RJ2, Cond.code yJ2_charAt_3b067 cJ2_charAt_3b067 2 (some .char), Cond.methodLink RJ2 67 yJ2_checkIndex_2214a, Cond.static yJ2_checkIndex_2214a, Cond.code yJ2_checkIndex_2214a cJ2_checkIndex_2214a 2 none, Cond.methodLink RJ2 48 yJ2_length_9d52b, Cond.static yJ2_length_9d52b, Cond.code yJ2_length_9d52b cJ2_length_9d52b 1 (some .int), Cond.methodLink RJ2 414 yJ0_checkIndex_df160, Cond.methodLink RJ2 71 yJ2_getChar_3b067, Cond.static yJ2_getChar_3b067, Cond.code yJ2_getChar_3b067 cJ2_getChar_3b067 2 (some .char), Cond.fieldLink RJ2 44 "java/lang/StringUTF16" "$assertionsDisabled" "Z", Cond.fieldLink RJ2 59 "java/lang/StringUTF16" "HI_BYTE_SHIFT" "I", Cond.fieldLink RJ2 63 "java/lang/StringUTF16" "LO_BYTE_SHIFT" "I", Cond.methodLink RX10 162 yX10_isDigit, Cond.static yX10_isDigit, Cond.code yX10_isDigit cX10_isDigit 1 (some .boolean)]
def wsX10_readFeel : List Cond := .code yX10_readFeel cX10_readFeel 2 (some .boolean) :: ((wsX10_readFeel_r1 ++ (wsX10_readFeel_r2 ++ (wsX10_readFeel_r3 ++ wsX10_readFeel_r4))) ++ wsX100)
def wsX10_readRest_r1 : List Cond := [Cond.fieldLink RX10 143 "PaidBySignsModel" "sort" "I", Cond.fieldLink RX10 140 "PaidBySignsModel" "key" "I", Cond.constantLong RX10 226 (6), Cond.constantLong RX10 228 (8), Cond.fieldLink RX10 187 "PaidBySignsModel" "seen" "I", Cond.fieldLink RX10 17 "PaidBySignsModel" "num" "[I", Cond.fieldLink RX10 178 "PaidBySignsModel" "got" "I", Cond.methodLink RX10 174 yX10_in, Cond.static yX10_in, Cond.initialized RX10, Cond.code yX10_in cX10_in 6 (some .boolean), Cond.methodLink RX10 171 yX10_fails, Cond.instanceMethod yX10_fails, Cond.selects RX10 yX10_fails yX10_fails, Cond.code yX10_fails cX10_fails 2 (some .boolean), Cond.fieldLink RX10 168 "PaidBySignsModel" "faultKind" "I", Cond.fieldLink RX10 137 "PaidBySignsModel" "at" "I", Cond.fieldLink RX10 13 "PaidBySignsModel" "faultPlace" "I", Cond.methodLink RX10 181 yX10_scan, Cond.instanceMethod yX10_scan, Cond.selects RX10 yX10_scan yX10_scan, Cond.code yX10_scan cX10_scan 4 none, Cond.fieldLink RX10 134 "PaidBySignsModel" "end" "I", Cond.fieldLink RX10 150 "PaidBySignsModel" "word" "J"]
def wsX10_readRest_r2 : List Cond := [Cond.constantLong RX10 154 (32), Cond.constantLong RX10 156 (97), Cond.fieldLink RX10 165 "PaidBySignsModel" "number" "I", Cond.methodLink RX10 130 yX10_byteAt, Cond.instanceMethod yX10_byteAt, Cond.selects RX10 yX10_byteAt yX10_byteAt, Cond.code yX10_byteAt cX10_byteAt 2 (some .int), Cond.fieldLink RX10 115 "PaidBySignsModel" "size" "I", Cond.fieldLink RX10 7 "PaidBySignsModel" "tape" "[B", Cond.methodLink RX10 146 yX10_isSmall, Cond.static yX10_isSmall, Cond.code yX10_isSmall cX10_isSmall 1 (some .boolean), Cond.methodLink RX10 158 yX10_keyAt, Cond.instanceMethod yX10_keyAt, Cond.selects RX10 yX10_keyAt yX10_keyAt, Cond.code yX10_keyAt cX10_keyAt 8 (some .int), Cond.methodLink RX10 120 yJ0_length_8abf5, Cond.instanceMethod yJ0_length_8abf5, Cond.selects RJ0 yJ0_length_8abf5 yJ0_length_8abf5, Cond.initialized RJ0, Cond.code yJ0_length_8abf5 cJ0_length_8abf5 1 (some .int), Cond.fieldLink RJ0 9 "java/lang/String" "value" "[B", Cond.methodLink RJ0 335 yJ0_coder_7d493, Cond.instanceMethod yJ0_coder_7d493]
def wsX10_readRest_r3 : List Cond := [Cond.selects RJ0 yJ0_coder_7d493 yJ0_coder_7d493, Cond.code yJ0_coder_7d493 cJ0_coder_7d493 1 (some .byte), Cond.fieldLink RJ0 38 "java/lang/String" "COMPACT_STRINGS" "Z", Cond.fieldLink RJ0 15 "java/lang/String" "coder" "B", Cond.methodLink RX10 126 yJ0_charAt_5068e, Cond.instanceMethod yJ0_charAt_5068e, Cond.selects RJ0 yJ0_charAt_5068e yJ0_charAt_5068e, Cond.code yJ0_charAt_5068e cJ0_charAt_5068e 2 (some .char), Cond.methodLink RJ0 492 yJ0_isLatin1_aae02, Cond.instanceMethod yJ0_isLatin1_aae02, Cond.selects RJ0 yJ0_isLatin1_aae02 yJ0_isLatin1_aae02, Cond.code yJ0_isLatin1_aae02 cJ0_isLatin1_aae02 1 (some .boolean), Cond.methodLink RJ0 495 yJ1_charAt_3b067, Cond.static yJ1_charAt_3b067, Cond.initialized RJ1, Cond.code yJ1_charAt_3b067 cJ1_charAt_3b067 2 (some .char), Cond.methodLink RJ1 9 yJ0_checkIndex_df160, Cond.static yJ0_checkIndex_df160, Cond.code yJ0_checkIndex_df160 cJ0_checkIndex_df160 2 none, Cond.fieldLink RJ0 1053 "jdk/internal/util/Preconditions" "SIOOBE_FORMATTER" "Ljava/util/function/BiFunction;", Cond.methodLink RJ0 1059 yJ3_checkIndex_8e157, Cond.static yJ3_checkIndex_8e157, Cond.initialized RJ3, Cond.code yJ3_checkIndex_8e157 cJ3_checkIndex_8e157 3 (some .int)]
def wsX10_readRest_r4 : List Cond := [Cond.methodLink RJ0 498 yJ2_charAt_3b067, Cond.static yJ2_charAt_3b067, Cond.initialized RJ2, Cond.code yJ2_charAt_3b067 cJ2_charAt_3b067 2 (some .char), Cond.methodLink RJ2 67 yJ2_checkIndex_2214a, Cond.static yJ2_checkIndex_2214a, Cond.code yJ2_checkIndex_2214a cJ2_checkIndex_2214a 2 none, Cond.methodLink RJ2 48 yJ2_length_9d52b, Cond.static yJ2_length_9d52b, Cond.code yJ2_length_9d52b cJ2_length_9d52b 1 (some .int), Cond.methodLink RJ2 414 yJ0_checkIndex_df160, Cond.methodLink RJ2 71 yJ2_getChar_3b067, Cond.static yJ2_getChar_3b067, Cond.code yJ2_getChar_3b067 cJ2_getChar_3b067 2 (some .char), Cond.fieldLink RJ2 44 "java/lang/StringUTF16" "$assertionsDisabled" "Z", Cond.fieldLink RJ2 59 "java/lang/StringUTF16" "HI_BYTE_SHIFT" "I", Cond.fieldLink RJ2 63 "java/lang/StringUTF16" "LO_BYTE_SHIFT" "I", Cond.methodLink RX10 162 yX10_isDigit, Cond.static yX10_isDigit, Cond.code yX10_isDigit cX10_isDigit 1 (some .boolean), Cond.methodLink RX10 230 yX10_readFeel, Cond.instanceMethod yX10_readFeel, Cond.selects RX10 yX10_readFeel yX10_readFeel, Cond.code yX10_readFeel cX10_readFeel 2 (some .boolean)]
def wsX10_readRest_r5 : List Cond := [Cond.fieldLink RX10 37 "PaidBySignsModel" "rates" "[I", Cond.fieldLink RX10 40 "PaidBySignsModel" "marks" "[I", Cond.constantLong RX10 224 (99), Cond.methodLink RX10 216 yX10_readNumber, Cond.instanceMethod yX10_readNumber, Cond.selects RX10 yX10_readNumber yX10_readNumber, Cond.code yX10_readNumber cX10_readNumber 3 (some .boolean), Cond.methodLink RX10 220 yX10_readSemi, Cond.instanceMethod yX10_readSemi, Cond.selects RX10 yX10_readSemi yX10_readSemi, Cond.code yX10_readSemi cX10_readSemi 1 (some .boolean)]
def wsX10_readRest : List Cond := .code yX10_readRest cX10_readRest 2 (some .boolean) :: ((wsX10_readRest_r1 ++ (wsX10_readRest_r2 ++ (wsX10_readRest_r3 ++ (wsX10_readRest_r4 ++ wsX10_readRest_r5)))) ++ wsX100)
def wsX10_readHire_r1 : List Cond := [Cond.fieldLink RX10 17 "PaidBySignsModel" "num" "[I", Cond.fieldLink RX10 178 "PaidBySignsModel" "got" "I", Cond.fieldLink RX10 143 "PaidBySignsModel" "sort" "I", Cond.methodLink RX10 184 yX10_isKey, Cond.instanceMethod yX10_isKey, Cond.selects RX10 yX10_isKey yX10_isKey, Cond.initialized RX10, Cond.code yX10_isKey cX10_isKey 2 (some .boolean), Cond.fieldLink RX10 140 "PaidBySignsModel" "key" "I", Cond.methodLink RX10 181 yX10_scan, Cond.instanceMethod yX10_scan, Cond.selects RX10 yX10_scan yX10_scan, Cond.code yX10_scan cX10_scan 4 none, Cond.fieldLink RX10 134 "PaidBySignsModel" "end" "I", Cond.fieldLink RX10 137 "PaidBySignsModel" "at" "I", Cond.fieldLink RX10 150 "PaidBySignsModel" "word" "J", Cond.constantLong RX10 154 (32), Cond.constantLong RX10 156 (97), Cond.fieldLink RX10 165 "PaidBySignsModel" "number" "I", Cond.methodLink RX10 130 yX10_byteAt, Cond.instanceMethod yX10_byteAt, Cond.selects RX10 yX10_byteAt yX10_byteAt, Cond.code yX10_byteAt cX10_byteAt 2 (some .int), Cond.fieldLink RX10 115 "PaidBySignsModel" "size" "I"]
def wsX10_readHire_r2 : List Cond := [Cond.fieldLink RX10 7 "PaidBySignsModel" "tape" "[B", Cond.methodLink RX10 146 yX10_isSmall, Cond.static yX10_isSmall, Cond.code yX10_isSmall cX10_isSmall 1 (some .boolean), Cond.methodLink RX10 158 yX10_keyAt, Cond.instanceMethod yX10_keyAt, Cond.selects RX10 yX10_keyAt yX10_keyAt, Cond.code yX10_keyAt cX10_keyAt 8 (some .int), Cond.methodLink RX10 120 yJ0_length_8abf5, Cond.instanceMethod yJ0_length_8abf5, Cond.selects RJ0 yJ0_length_8abf5 yJ0_length_8abf5, Cond.initialized RJ0, Cond.code yJ0_length_8abf5 cJ0_length_8abf5 1 (some .int), Cond.fieldLink RJ0 9 "java/lang/String" "value" "[B", Cond.methodLink RJ0 335 yJ0_coder_7d493, Cond.instanceMethod yJ0_coder_7d493, Cond.selects RJ0 yJ0_coder_7d493 yJ0_coder_7d493, Cond.code yJ0_coder_7d493 cJ0_coder_7d493 1 (some .byte), Cond.fieldLink RJ0 38 "java/lang/String" "COMPACT_STRINGS" "Z", Cond.fieldLink RJ0 15 "java/lang/String" "coder" "B", Cond.methodLink RX10 126 yJ0_charAt_5068e, Cond.instanceMethod yJ0_charAt_5068e, Cond.selects RJ0 yJ0_charAt_5068e yJ0_charAt_5068e, Cond.code yJ0_charAt_5068e cJ0_charAt_5068e 2 (some .char)]
def wsX10_readHire_r3 : List Cond := [Cond.methodLink RJ0 492 yJ0_isLatin1_aae02, Cond.instanceMethod yJ0_isLatin1_aae02, Cond.selects RJ0 yJ0_isLatin1_aae02 yJ0_isLatin1_aae02, Cond.code yJ0_isLatin1_aae02 cJ0_isLatin1_aae02 1 (some .boolean), Cond.methodLink RJ0 495 yJ1_charAt_3b067, Cond.static yJ1_charAt_3b067, Cond.initialized RJ1, Cond.code yJ1_charAt_3b067 cJ1_charAt_3b067 2 (some .char), Cond.methodLink RJ1 9 yJ0_checkIndex_df160, Cond.static yJ0_checkIndex_df160, Cond.code yJ0_checkIndex_df160 cJ0_checkIndex_df160 2 none, Cond.fieldLink RJ0 1053 "jdk/internal/util/Preconditions" "SIOOBE_FORMATTER" "Ljava/util/function/BiFunction;", Cond.methodLink RJ0 1059 yJ3_checkIndex_8e157, Cond.static yJ3_checkIndex_8e157, Cond.initialized RJ3, Cond.code yJ3_checkIndex_8e157 cJ3_checkIndex_8e157 3 (some .int), Cond.methodLink RJ0 498 yJ2_charAt_3b067, Cond.static yJ2_charAt_3b067, Cond.initialized RJ2, Cond.code yJ2_charAt_3b067 cJ2_charAt_3b067 2 (some .char), Cond.methodLink RJ2 67 yJ2_checkIndex_2214a, Cond.static yJ2_checkIndex_2214a, Cond.code yJ2_checkIndex_2214a cJ2_checkIndex_2214a 2 none, Cond.methodLink RJ2 48 yJ2_length_9d52b]
def wsX10_readHire_r4 : List Cond := [Cond.static yJ2_length_9d52b, Cond.code yJ2_length_9d52b cJ2_length_9d52b 1 (some .int), Cond.methodLink RJ2 414 yJ0_checkIndex_df160, Cond.methodLink RJ2 71 yJ2_getChar_3b067, Cond.static yJ2_getChar_3b067, Cond.code yJ2_getChar_3b067 cJ2_getChar_3b067 2 (some .char), Cond.fieldLink RJ2 44 "java/lang/StringUTF16" "$assertionsDisabled" "Z", Cond.fieldLink RJ2 59 "java/lang/StringUTF16" "HI_BYTE_SHIFT" "I", Cond.fieldLink RJ2 63 "java/lang/StringUTF16" "LO_BYTE_SHIFT" "I", Cond.methodLink RX10 162 yX10_isDigit, Cond.static yX10_isDigit, Cond.code yX10_isDigit cX10_isDigit 1 (some .boolean), Cond.methodLink RX10 216 yX10_readNumber, Cond.instanceMethod yX10_readNumber, Cond.selects RX10 yX10_readNumber yX10_readNumber, Cond.code yX10_readNumber cX10_readNumber 3 (some .boolean), Cond.methodLink RX10 171 yX10_fails, Cond.instanceMethod yX10_fails, Cond.selects RX10 yX10_fails yX10_fails, Cond.code yX10_fails cX10_fails 2 (some .boolean), Cond.fieldLink RX10 168 "PaidBySignsModel" "faultKind" "I", Cond.fieldLink RX10 13 "PaidBySignsModel" "faultPlace" "I", Cond.methodLink RX10 174 yX10_in, Cond.static yX10_in]
def wsX10_readHire_r5 : List Cond := [Cond.code yX10_in cX10_in 6 (some .boolean), Cond.methodLink RX10 220 yX10_readSemi, Cond.instanceMethod yX10_readSemi, Cond.selects RX10 yX10_readSemi yX10_readSemi, Cond.code yX10_readSemi cX10_readSemi 1 (some .boolean), Cond.methodLink RX10 233 yX10_readSign, Cond.instanceMethod yX10_readSign, Cond.selects RX10 yX10_readSign yX10_readSign, Cond.code yX10_readSign cX10_readSign 2 (some .boolean), Cond.fieldLink RX10 21 "PaidBySignsModel" "signName" "[J", Cond.fieldLink RX10 28 "PaidBySignsModel" "brings" "[I", Cond.methodLink RX10 209 yX10_isNamed, Cond.instanceMethod yX10_isNamed, Cond.selects RX10 yX10_isNamed yX10_isNamed, Cond.code yX10_isNamed cX10_isNamed 4 (some .boolean), Cond.methodLink RX10 213 yX10_readWord, Cond.instanceMethod yX10_readWord, Cond.selects RX10 yX10_readWord yX10_readWord, Cond.code yX10_readWord cX10_readWord 2 (some .boolean), Cond.methodLink RX10 236 yX10_readWork, Cond.instanceMethod yX10_readWork, Cond.selects RX10 yX10_readWork yX10_readWork, Cond.code yX10_readWork cX10_readWork 5 (some .boolean), Cond.fieldLink RX10 25 "PaidBySignsModel" "workName" "[J"]
def wsX10_readHire_r6 : List Cond := [Cond.fieldLink RX10 31 "PaidBySignsModel" "costs" "[I", Cond.fieldLink RX10 34 "PaidBySignsModel" "chances" "[I", Cond.methodLink RX10 239 yX10_readRest, Cond.instanceMethod yX10_readRest, Cond.selects RX10 yX10_readRest yX10_readRest, Cond.code yX10_readRest cX10_readRest 2 (some .boolean), Cond.constantLong RX10 226 (6), Cond.constantLong RX10 228 (8), Cond.fieldLink RX10 187 "PaidBySignsModel" "seen" "I", Cond.methodLink RX10 230 yX10_readFeel, Cond.instanceMethod yX10_readFeel, Cond.selects RX10 yX10_readFeel yX10_readFeel, Cond.code yX10_readFeel cX10_readFeel 2 (some .boolean), Cond.fieldLink RX10 37 "PaidBySignsModel" "rates" "[I", Cond.fieldLink RX10 40 "PaidBySignsModel" "marks" "[I", Cond.constantLong RX10 224 (99)]
def wsX10_readHire : List Cond := .code yX10_readHire cX10_readHire 1 (some .boolean) :: ((wsX10_readHire_r1 ++ (wsX10_readHire_r2 ++ (wsX10_readHire_r3 ++ (wsX10_readHire_r4 ++ (wsX10_readHire_r5 ++ wsX10_readHire_r6))))) ++ wsX100)
def wsX10_hire_r1 : List Cond := [Cond.fieldLink RX10 112 "PaidBySignsModel" "taped" "I", Cond.fieldLink RX10 115 "PaidBySignsModel" "size" "I", Cond.fieldLink RX10 134 "PaidBySignsModel" "end" "I", Cond.fieldLink RX10 168 "PaidBySignsModel" "faultKind" "I", Cond.fieldLink RX10 13 "PaidBySignsModel" "faultPlace" "I", Cond.fieldLink RX10 17 "PaidBySignsModel" "num" "[I", Cond.methodLink RX10 181 yX10_scan, Cond.instanceMethod yX10_scan, Cond.selects RX10 yX10_scan yX10_scan, Cond.initialized RX10, Cond.code yX10_scan cX10_scan 4 none, Cond.fieldLink RX10 137 "PaidBySignsModel" "at" "I", Cond.fieldLink RX10 140 "PaidBySignsModel" "key" "I", Cond.fieldLink RX10 143 "PaidBySignsModel" "sort" "I", Cond.fieldLink RX10 150 "PaidBySignsModel" "word" "J", Cond.constantLong RX10 154 (32), Cond.constantLong RX10 156 (97), Cond.fieldLink RX10 165 "PaidBySignsModel" "number" "I", Cond.methodLink RX10 130 yX10_byteAt, Cond.instanceMethod yX10_byteAt, Cond.selects RX10 yX10_byteAt yX10_byteAt, Cond.code yX10_byteAt cX10_byteAt 2 (some .int), Cond.fieldLink RX10 7 "PaidBySignsModel" "tape" "[B", Cond.methodLink RX10 146 yX10_isSmall]
def wsX10_hire_r2 : List Cond := [Cond.static yX10_isSmall, Cond.code yX10_isSmall cX10_isSmall 1 (some .boolean), Cond.methodLink RX10 158 yX10_keyAt, Cond.instanceMethod yX10_keyAt, Cond.selects RX10 yX10_keyAt yX10_keyAt, Cond.code yX10_keyAt cX10_keyAt 8 (some .int), Cond.methodLink RX10 120 yJ0_length_8abf5, Cond.instanceMethod yJ0_length_8abf5, Cond.selects RJ0 yJ0_length_8abf5 yJ0_length_8abf5, Cond.initialized RJ0, Cond.code yJ0_length_8abf5 cJ0_length_8abf5 1 (some .int), Cond.fieldLink RJ0 9 "java/lang/String" "value" "[B", Cond.methodLink RJ0 335 yJ0_coder_7d493, Cond.instanceMethod yJ0_coder_7d493, Cond.selects RJ0 yJ0_coder_7d493 yJ0_coder_7d493, Cond.code yJ0_coder_7d493 cJ0_coder_7d493 1 (some .byte), Cond.fieldLink RJ0 38 "java/lang/String" "COMPACT_STRINGS" "Z", Cond.fieldLink RJ0 15 "java/lang/String" "coder" "B", Cond.methodLink RX10 126 yJ0_charAt_5068e, Cond.instanceMethod yJ0_charAt_5068e, Cond.selects RJ0 yJ0_charAt_5068e yJ0_charAt_5068e, Cond.code yJ0_charAt_5068e cJ0_charAt_5068e 2 (some .char), Cond.methodLink RJ0 492 yJ0_isLatin1_aae02, Cond.instanceMethod yJ0_isLatin1_aae02]
def wsX10_hire_r3 : List Cond := [Cond.selects RJ0 yJ0_isLatin1_aae02 yJ0_isLatin1_aae02, Cond.code yJ0_isLatin1_aae02 cJ0_isLatin1_aae02 1 (some .boolean), Cond.methodLink RJ0 495 yJ1_charAt_3b067, Cond.static yJ1_charAt_3b067, Cond.initialized RJ1, Cond.code yJ1_charAt_3b067 cJ1_charAt_3b067 2 (some .char), Cond.methodLink RJ1 9 yJ0_checkIndex_df160, Cond.static yJ0_checkIndex_df160, Cond.code yJ0_checkIndex_df160 cJ0_checkIndex_df160 2 none, Cond.fieldLink RJ0 1053 "jdk/internal/util/Preconditions" "SIOOBE_FORMATTER" "Ljava/util/function/BiFunction;", Cond.methodLink RJ0 1059 yJ3_checkIndex_8e157, Cond.static yJ3_checkIndex_8e157, Cond.initialized RJ3, Cond.code yJ3_checkIndex_8e157 cJ3_checkIndex_8e157 3 (some .int), Cond.methodLink RJ0 498 yJ2_charAt_3b067, Cond.static yJ2_charAt_3b067, Cond.initialized RJ2, Cond.code yJ2_charAt_3b067 cJ2_charAt_3b067 2 (some .char), Cond.methodLink RJ2 67 yJ2_checkIndex_2214a, Cond.static yJ2_checkIndex_2214a, Cond.code yJ2_checkIndex_2214a cJ2_checkIndex_2214a 2 none, Cond.methodLink RJ2 48 yJ2_length_9d52b, Cond.static yJ2_length_9d52b, Cond.code yJ2_length_9d52b cJ2_length_9d52b 1 (some .int)]
def wsX10_hire_r4 : List Cond := [Cond.methodLink RJ2 414 yJ0_checkIndex_df160, Cond.methodLink RJ2 71 yJ2_getChar_3b067, Cond.static yJ2_getChar_3b067, Cond.code yJ2_getChar_3b067 cJ2_getChar_3b067 2 (some .char), Cond.fieldLink RJ2 44 "java/lang/StringUTF16" "$assertionsDisabled" "Z", Cond.fieldLink RJ2 59 "java/lang/StringUTF16" "HI_BYTE_SHIFT" "I", Cond.fieldLink RJ2 63 "java/lang/StringUTF16" "LO_BYTE_SHIFT" "I", Cond.methodLink RX10 162 yX10_isDigit, Cond.static yX10_isDigit, Cond.code yX10_isDigit cX10_isDigit 1 (some .boolean), Cond.methodLink RX10 106 yX10_begin, Cond.instanceMethod yX10_begin, Cond.selects RX10 yX10_begin yX10_begin, Cond.code yX10_begin cX10_begin 1 none, Cond.fieldLink RX10 37 "PaidBySignsModel" "rates" "[I", Cond.fieldLink RX10 187 "PaidBySignsModel" "seen" "I", Cond.methodLink RX10 242 yX10_readHire, Cond.instanceMethod yX10_readHire, Cond.selects RX10 yX10_readHire yX10_readHire, Cond.code yX10_readHire cX10_readHire 1 (some .boolean), Cond.fieldLink RX10 178 "PaidBySignsModel" "got" "I", Cond.methodLink RX10 184 yX10_isKey, Cond.instanceMethod yX10_isKey, Cond.selects RX10 yX10_isKey yX10_isKey]
def wsX10_hire_r5 : List Cond := [Cond.code yX10_isKey cX10_isKey 2 (some .boolean), Cond.methodLink RX10 216 yX10_readNumber, Cond.instanceMethod yX10_readNumber, Cond.selects RX10 yX10_readNumber yX10_readNumber, Cond.code yX10_readNumber cX10_readNumber 3 (some .boolean), Cond.methodLink RX10 171 yX10_fails, Cond.instanceMethod yX10_fails, Cond.selects RX10 yX10_fails yX10_fails, Cond.code yX10_fails cX10_fails 2 (some .boolean), Cond.methodLink RX10 174 yX10_in, Cond.static yX10_in, Cond.code yX10_in cX10_in 6 (some .boolean), Cond.methodLink RX10 220 yX10_readSemi, Cond.instanceMethod yX10_readSemi, Cond.selects RX10 yX10_readSemi yX10_readSemi, Cond.code yX10_readSemi cX10_readSemi 1 (some .boolean), Cond.methodLink RX10 233 yX10_readSign, Cond.instanceMethod yX10_readSign, Cond.selects RX10 yX10_readSign yX10_readSign, Cond.code yX10_readSign cX10_readSign 2 (some .boolean), Cond.fieldLink RX10 21 "PaidBySignsModel" "signName" "[J", Cond.fieldLink RX10 28 "PaidBySignsModel" "brings" "[I", Cond.methodLink RX10 209 yX10_isNamed, Cond.instanceMethod yX10_isNamed]
def wsX10_hire_r6 : List Cond := [Cond.selects RX10 yX10_isNamed yX10_isNamed, Cond.code yX10_isNamed cX10_isNamed 4 (some .boolean), Cond.methodLink RX10 213 yX10_readWord, Cond.instanceMethod yX10_readWord, Cond.selects RX10 yX10_readWord yX10_readWord, Cond.code yX10_readWord cX10_readWord 2 (some .boolean), Cond.methodLink RX10 236 yX10_readWork, Cond.instanceMethod yX10_readWork, Cond.selects RX10 yX10_readWork yX10_readWork, Cond.code yX10_readWork cX10_readWork 5 (some .boolean), Cond.fieldLink RX10 25 "PaidBySignsModel" "workName" "[J", Cond.fieldLink RX10 31 "PaidBySignsModel" "costs" "[I", Cond.fieldLink RX10 34 "PaidBySignsModel" "chances" "[I", Cond.methodLink RX10 239 yX10_readRest, Cond.instanceMethod yX10_readRest, Cond.selects RX10 yX10_readRest yX10_readRest, Cond.code yX10_readRest cX10_readRest 2 (some .boolean), Cond.constantLong RX10 226 (6), Cond.constantLong RX10 228 (8), Cond.methodLink RX10 230 yX10_readFeel, Cond.instanceMethod yX10_readFeel, Cond.selects RX10 yX10_readFeel yX10_readFeel, Cond.code yX10_readFeel cX10_readFeel 2 (some .boolean), Cond.fieldLink RX10 40 "PaidBySignsModel" "marks" "[I"]
def wsX10_hire_r7 : List Cond := [Cond.constantLong RX10 224 (99), Cond.methodLink RX10 109 yX10_settle, Cond.instanceMethod yX10_settle, Cond.selects RX10 yX10_settle yX10_settle, Cond.code yX10_settle cX10_settle 2 none, Cond.fieldLink RX10 43 "PaidBySignsModel" "hand" "[I", Cond.fieldLink RX10 85 "PaidBySignsModel" "presses" "[I", Cond.fieldLink RX10 88 "PaidBySignsModel" "mixes" "[I", Cond.fieldLink RX10 190 "PaidBySignsModel" "lowerPress" "I", Cond.fieldLink RX10 193 "PaidBySignsModel" "seenMany" "I", Cond.fieldLink RX10 196 "PaidBySignsModel" "rightMany" "I", Cond.fieldLink RX10 199 "PaidBySignsModel" "lastTold" "I", Cond.fieldLink RX10 202 "PaidBySignsModel" "hasFraction" "Z", Cond.fieldLink RX10 206 "PaidBySignsModel" "hasWages" "Z"]
def wsX10_hire : List Cond := .code yX10_hire cX10_hire 1 (some .int) :: ((wsX10_hire_r1 ++ (wsX10_hire_r2 ++ (wsX10_hire_r3 ++ (wsX10_hire_r4 ++ (wsX10_hire_r5 ++ (wsX10_hire_r6 ++ wsX10_hire_r7)))))) ++ wsX100)
def wsX10_told : List Cond := .code yX10_told cX10_told 2 (some .int) :: ([.fieldLink RX10 17 "PaidBySignsModel" "num" "[I", .constantLong RX10 245 (10), .fieldLink RX10 28 "PaidBySignsModel" "brings" "[I", .constantLong RX10 247 (20), .fieldLink RX10 31 "PaidBySignsModel" "costs" "[I", .constantLong RX10 249 (30), .fieldLink RX10 37 "PaidBySignsModel" "rates" "[I", .constantLong RX10 251 (40), .fieldLink RX10 40 "PaidBySignsModel" "marks" "[I", .methodLink RX10 174 yX10_in, .static yX10_in, .initialized RX10, .code yX10_in cX10_in 6 (some .boolean)] ++ wsX100)
set_option maxRecDepth 20000 in
theorem ggX10_readFeel_X10_readNumber : GoodIn wsX10_readFeel wsX10_readNumber := goodIn_r _ [12, 3, 4, 2, 13, 14, 15, 11, 16, 17, 18, 19, 20, 21, 22, 23, 24, 25, 26, 27, 28, 29, 30, 31, 32, 33, 34, 35, 36, 37, 38, 39, 40, 41, 42, 43, 44, 45, 46, 47, 48, 49, 50, 51, 52, 53, 54, 55, 56, 57, 58, 59, 60, 61, 62, 63, 64, 65, 66, 67, 68, 69, 70, 71, 72, 73, 74, 75, 76, 77, 78, 79, 80, 81, 82, 83, 84, 85, 86, 87, 88, 89, 90, 91, 92, 93, 94, 95, 96, 97, 98, 99, 100, 101, 102, 103, 104, 105, 106, 107, 108, 109, 110, 111, 112, 113, 114, 115, 116, 117, 118, 119, 120, 121, 122, 123, 124, 125, 126, 127, 128, 129, 130, 131, 132, 133, 134, 135, 136, 137, 138, 139, 140, 141, 142, 143, 144, 145, 146, 147, 148, 149, 150, 151, 152, 153, 154, 155, 156, 157, 158, 159, 160, 161] (by decide +kernel) (by decide +kernel)
set_option maxRecDepth 20000 in
theorem gX10_readFeel_X10_readNumber : GoodIn wsX10_readFeel (wsV RX10 216 RX10 yX10_readNumber wsX10_readNumber) := goodIn_app (goodIn_of _ (by decide +kernel)) ggX10_readFeel_X10_readNumber
set_option maxRecDepth 20000 in
theorem ggX10_readFeel_X10_in : GoodIn wsX10_readFeel wsX10_in := goodIn_r _ [22] (by decide +kernel) (by decide +kernel)
set_option maxRecDepth 20000 in
theorem gX10_readFeel_X10_in : GoodIn wsX10_readFeel (va_wsS RX10 174 yX10_in wsX10_in) := goodIn_app (goodIn_of _ (by decide +kernel)) ggX10_readFeel_X10_in
set_option maxRecDepth 20000 in
theorem ggX10_readFeel_X10_fails : GoodIn wsX10_readFeel wsX10_fails := goodIn_r _ [16, 17, 18, 19, 97, 98, 99, 100, 101, 102, 103, 104, 105, 106, 107, 108, 109, 110, 111, 112, 113, 114, 115, 116, 117, 118, 119, 120, 121, 122, 123, 124, 125, 126, 127, 128, 129, 130, 131, 132, 133, 134, 135, 136, 137, 138, 139, 140, 141, 142, 143, 144, 145, 146, 147, 148, 149, 150, 151, 152, 153, 154, 155, 156, 157, 158, 159, 160, 161] (by decide +kernel) (by decide +kernel)
set_option maxRecDepth 20000 in
theorem gX10_readFeel_X10_fails : GoodIn wsX10_readFeel (wsV RX10 171 RX10 yX10_fails wsX10_fails) := goodIn_app (goodIn_of _ (by decide +kernel)) ggX10_readFeel_X10_fails
set_option maxRecDepth 20000 in
theorem ggX10_readFeel_X10_scan : GoodIn wsX10_readFeel wsX10_scan := goodIn_r _ [26, 27, 18, 28, 3, 29, 30, 31, 4, 32, 33, 34, 11, 35, 36, 37, 38, 39, 40, 41, 42, 43, 44, 45, 46, 47, 48, 49, 50, 51, 52, 53, 54, 55, 56, 57, 58, 59, 60, 61, 62, 63, 64, 65, 66, 67, 68, 69, 70, 71, 72, 73, 74, 75, 76, 77, 78, 79, 80, 81, 82, 83, 84, 85, 86, 87, 88, 89, 90, 91, 92, 93, 94, 95, 96, 97, 98, 99, 100, 101, 102, 103, 104, 105, 106, 107, 108, 109, 110, 111, 112, 113, 114, 115, 116, 117, 118, 119, 120, 121, 122, 123, 124, 125, 126, 127, 128, 129, 130, 131, 132, 133, 134, 135, 136, 137, 138, 139, 140, 141, 142, 143, 144, 145, 146, 147, 148, 149, 150, 151, 152, 153, 154, 155, 156, 157, 158, 159, 160, 161] (by decide +kernel) (by decide +kernel)
set_option maxRecDepth 20000 in
theorem gX10_readFeel_X10_scan : GoodIn wsX10_readFeel (wsV RX10 181 RX10 yX10_scan wsX10_scan) := goodIn_app (goodIn_of _ (by decide +kernel)) ggX10_readFeel_X10_scan
theorem dX10_readFeel_0 : decode cX10_readFeel 0 = .ok (.aload_n 0, 1) := by decide +kernel
theorem dX10_readFeel_1 : decode cX10_readFeel 1 = .ok (.iconst 1, 1) := by decide +kernel
theorem dX10_readFeel_2 : decode cX10_readFeel 2 = .ok (.iconst 5, 1) := by decide +kernel
theorem dX10_readFeel_3 : decode cX10_readFeel 3 = .ok (.invokevirtual 216, 3) := by decide +kernel
theorem dX10_readFeel_6 : decode cX10_readFeel 6 = .ok (.ifCond .ne 5, 3) := by decide +kernel
theorem dX10_readFeel_9 : decode cX10_readFeel 9 = .ok (.iconst 0, 1) := by decide +kernel
theorem dX10_readFeel_10 : decode cX10_readFeel 10 = .ok (.ireturn, 1) := by decide +kernel
theorem dX10_readFeel_11 : decode cX10_readFeel 11 = .ok (.aload_n 0, 1) := by decide +kernel
theorem dX10_readFeel_12 : decode cX10_readFeel 12 = .ok (.getfield 37, 3) := by decide +kernel
theorem dX10_readFeel_15 : decode cX10_readFeel 15 = .ok (.iconst 3, 1) := by decide +kernel
theorem dX10_readFeel_16 : decode cX10_readFeel 16 = .ok (.aload_n 0, 1) := by decide +kernel
theorem dX10_readFeel_17 : decode cX10_readFeel 17 = .ok (.getfield 178, 3) := by decide +kernel
theorem dX10_readFeel_20 : decode cX10_readFeel 20 = .ok (.iastore, 1) := by decide +kernel
theorem dX10_readFeel_21 : decode cX10_readFeel 21 = .ok (.iconst 1, 1) := by decide +kernel
theorem dX10_readFeel_22 : decode cX10_readFeel 22 = .ok (.istore_n 1, 1) := by decide +kernel
theorem dX10_readFeel_23 : decode cX10_readFeel 23 = .ok (.aload_n 0, 1) := by decide +kernel
theorem dX10_readFeel_24 : decode cX10_readFeel 24 = .ok (.getfield 143, 3) := by decide +kernel
theorem dX10_readFeel_27 : decode cX10_readFeel 27 = .ok (.iconst 2, 1) := by decide +kernel
theorem dX10_readFeel_28 : decode cX10_readFeel 28 = .ok (.if_icmp .ne 114, 3) := by decide +kernel
theorem dX10_readFeel_31 : decode cX10_readFeel 31 = .ok (.aload_n 0, 1) := by decide +kernel
theorem dX10_readFeel_32 : decode cX10_readFeel 32 = .ok (.getfield 165, 3) := by decide +kernel
theorem dX10_readFeel_35 : decode cX10_readFeel 35 = .ok (.i2l, 1) := by decide +kernel
theorem dX10_readFeel_36 : decode cX10_readFeel 36 = .ok (.iload_n 1, 1) := by decide +kernel
theorem dX10_readFeel_37 : decode cX10_readFeel 37 = .ok (.iconst 1, 1) := by decide +kernel
theorem dX10_readFeel_38 : decode cX10_readFeel 38 = .ok (.if_icmp .ne 7, 3) := by decide +kernel
theorem dX10_readFeel_41 : decode cX10_readFeel 41 = .ok (.lconst 1, 1) := by decide +kernel
theorem dX10_readFeel_42 : decode cX10_readFeel 42 = .ok (.goto 16, 3) := by decide +kernel
theorem dX10_readFeel_45 : decode cX10_readFeel 45 = .ok (.aload_n 0, 1) := by decide +kernel
theorem dX10_readFeel_46 : decode cX10_readFeel 46 = .ok (.getfield 40, 3) := by decide +kernel
theorem dX10_readFeel_49 : decode cX10_readFeel 49 = .ok (.iconst 2, 1) := by decide +kernel
theorem dX10_readFeel_50 : decode cX10_readFeel 50 = .ok (.iload_n 1, 1) := by decide +kernel
theorem dX10_readFeel_51 : decode cX10_readFeel 51 = .ok (.iadd, 1) := by decide +kernel
theorem dX10_readFeel_52 : decode cX10_readFeel 52 = .ok (.iconst 2, 1) := by decide +kernel
theorem dX10_readFeel_53 : decode cX10_readFeel 53 = .ok (.isub, 1) := by decide +kernel
theorem dX10_readFeel_54 : decode cX10_readFeel 54 = .ok (.iaload, 1) := by decide +kernel
theorem dX10_readFeel_55 : decode cX10_readFeel 55 = .ok (.iconst 1, 1) := by decide +kernel
theorem dX10_readFeel_56 : decode cX10_readFeel 56 = .ok (.iadd, 1) := by decide +kernel
theorem dX10_readFeel_57 : decode cX10_readFeel 57 = .ok (.i2l, 1) := by decide +kernel
theorem dX10_readFeel_58 : decode cX10_readFeel 58 = .ok (.ldc2_w 224, 3) := by decide +kernel
theorem dX10_readFeel_61 : decode cX10_readFeel 61 = .ok (.invokestatic 174, 3) := by decide +kernel
theorem dX10_readFeel_64 : decode cX10_readFeel 64 = .ok (.ifCond .ne 9, 3) := by decide +kernel
theorem dX10_readFeel_67 : decode cX10_readFeel 67 = .ok (.aload_n 0, 1) := by decide +kernel
theorem dX10_readFeel_68 : decode cX10_readFeel 68 = .ok (.iconst 2, 1) := by decide +kernel
theorem dX10_readFeel_69 : decode cX10_readFeel 69 = .ok (.invokevirtual 171, 3) := by decide +kernel
theorem dX10_readFeel_72 : decode cX10_readFeel 72 = .ok (.ireturn, 1) := by decide +kernel
theorem dX10_readFeel_73 : decode cX10_readFeel 73 = .ok (.iload_n 1, 1) := by decide +kernel
theorem dX10_readFeel_74 : decode cX10_readFeel 74 = .ok (.iconst 3, 1) := by decide +kernel
theorem dX10_readFeel_75 : decode cX10_readFeel 75 = .ok (.if_icmp .ne 9, 3) := by decide +kernel
theorem dX10_readFeel_78 : decode cX10_readFeel 78 = .ok (.aload_n 0, 1) := by decide +kernel
theorem dX10_readFeel_79 : decode cX10_readFeel 79 = .ok (.iconst 4, 1) := by decide +kernel
theorem dX10_readFeel_80 : decode cX10_readFeel 80 = .ok (.invokevirtual 171, 3) := by decide +kernel
theorem dX10_readFeel_83 : decode cX10_readFeel 83 = .ok (.ireturn, 1) := by decide +kernel
theorem dX10_readFeel_84 : decode cX10_readFeel 84 = .ok (.aload_n 0, 1) := by decide +kernel
theorem dX10_readFeel_85 : decode cX10_readFeel 85 = .ok (.getfield 40, 3) := by decide +kernel
theorem dX10_readFeel_88 : decode cX10_readFeel 88 = .ok (.iconst 2, 1) := by decide +kernel
theorem dX10_readFeel_89 : decode cX10_readFeel 89 = .ok (.iload_n 1, 1) := by decide +kernel
theorem dX10_readFeel_90 : decode cX10_readFeel 90 = .ok (.iadd, 1) := by decide +kernel
theorem dX10_readFeel_91 : decode cX10_readFeel 91 = .ok (.iconst 1, 1) := by decide +kernel
theorem dX10_readFeel_92 : decode cX10_readFeel 92 = .ok (.isub, 1) := by decide +kernel
theorem dX10_readFeel_93 : decode cX10_readFeel 93 = .ok (.aload_n 0, 1) := by decide +kernel
theorem dX10_readFeel_94 : decode cX10_readFeel 94 = .ok (.getfield 165, 3) := by decide +kernel
theorem dX10_readFeel_97 : decode cX10_readFeel 97 = .ok (.iastore, 1) := by decide +kernel
theorem dX10_readFeel_98 : decode cX10_readFeel 98 = .ok (.aload_n 0, 1) := by decide +kernel
theorem dX10_readFeel_99 : decode cX10_readFeel 99 = .ok (.invokevirtual 181, 3) := by decide +kernel
theorem dX10_readFeel_102 : decode cX10_readFeel 102 = .ok (.aload_n 0, 1) := by decide +kernel
theorem dX10_readFeel_103 : decode cX10_readFeel 103 = .ok (.iconst 1, 1) := by decide +kernel
theorem dX10_readFeel_104 : decode cX10_readFeel 104 = .ok (.aload_n 0, 1) := by decide +kernel
theorem dX10_readFeel_105 : decode cX10_readFeel 105 = .ok (.getfield 37, 3) := by decide +kernel
theorem dX10_readFeel_108 : decode cX10_readFeel 108 = .ok (.iconst 3, 1) := by decide +kernel
theorem dX10_readFeel_109 : decode cX10_readFeel 109 = .ok (.iload_n 1, 1) := by decide +kernel
theorem dX10_readFeel_110 : decode cX10_readFeel 110 = .ok (.iadd, 1) := by decide +kernel
theorem dX10_readFeel_111 : decode cX10_readFeel 111 = .ok (.iconst 1, 1) := by decide +kernel
theorem dX10_readFeel_112 : decode cX10_readFeel 112 = .ok (.isub, 1) := by decide +kernel
theorem dX10_readFeel_113 : decode cX10_readFeel 113 = .ok (.iaload, 1) := by decide +kernel
theorem dX10_readFeel_114 : decode cX10_readFeel 114 = .ok (.iconst 1, 1) := by decide +kernel
theorem dX10_readFeel_115 : decode cX10_readFeel 115 = .ok (.isub, 1) := by decide +kernel
theorem dX10_readFeel_116 : decode cX10_readFeel 116 = .ok (.invokevirtual 216, 3) := by decide +kernel
theorem dX10_readFeel_119 : decode cX10_readFeel 119 = .ok (.ifCond .ne 5, 3) := by decide +kernel
theorem dX10_readFeel_122 : decode cX10_readFeel 122 = .ok (.iconst 0, 1) := by decide +kernel
theorem dX10_readFeel_123 : decode cX10_readFeel 123 = .ok (.ireturn, 1) := by decide +kernel
theorem dX10_readFeel_124 : decode cX10_readFeel 124 = .ok (.aload_n 0, 1) := by decide +kernel
theorem dX10_readFeel_125 : decode cX10_readFeel 125 = .ok (.getfield 37, 3) := by decide +kernel
theorem dX10_readFeel_128 : decode cX10_readFeel 128 = .ok (.iconst 3, 1) := by decide +kernel
theorem dX10_readFeel_129 : decode cX10_readFeel 129 = .ok (.iload_n 1, 1) := by decide +kernel
theorem dX10_readFeel_130 : decode cX10_readFeel 130 = .ok (.iadd, 1) := by decide +kernel
theorem dX10_readFeel_131 : decode cX10_readFeel 131 = .ok (.aload_n 0, 1) := by decide +kernel
theorem dX10_readFeel_132 : decode cX10_readFeel 132 = .ok (.getfield 178, 3) := by decide +kernel
theorem dX10_readFeel_135 : decode cX10_readFeel 135 = .ok (.iastore, 1) := by decide +kernel
theorem dX10_readFeel_136 : decode cX10_readFeel 136 = .ok (.iinc 1 1, 3) := by decide +kernel
theorem dX10_readFeel_139 : decode cX10_readFeel 139 = .ok (.goto (-116), 3) := by decide +kernel
theorem dX10_readFeel_142 : decode cX10_readFeel 142 = .ok (.aload_n 0, 1) := by decide +kernel
theorem dX10_readFeel_143 : decode cX10_readFeel 143 = .ok (.getfield 17, 3) := by decide +kernel
theorem dX10_readFeel_146 : decode cX10_readFeel 146 = .ok (.bipush 11, 2) := by decide +kernel
theorem dX10_readFeel_148 : decode cX10_readFeel 148 = .ok (.iload_n 1, 1) := by decide +kernel
theorem dX10_readFeel_149 : decode cX10_readFeel 149 = .ok (.iastore, 1) := by decide +kernel
theorem dX10_readFeel_150 : decode cX10_readFeel 150 = .ok (.iconst 1, 1) := by decide +kernel
theorem dX10_readFeel_151 : decode cX10_readFeel 151 = .ok (.ireturn, 1) := by decide +kernel
set_option maxRecDepth 20000 in
theorem ggX10_readRest_X10_in : GoodIn wsX10_readRest wsX10_in := goodIn_r _ [11] (by decide +kernel) (by decide +kernel)
set_option maxRecDepth 20000 in
theorem gX10_readRest_X10_in : GoodIn wsX10_readRest (va_wsS RX10 174 yX10_in wsX10_in) := goodIn_app (goodIn_of _ (by decide +kernel)) ggX10_readRest_X10_in
set_option maxRecDepth 20000 in
theorem ggX10_readRest_X10_fails : GoodIn wsX10_readRest wsX10_fails := goodIn_r _ [15, 16, 17, 18, 108, 109, 110, 111, 112, 113, 114, 115, 116, 117, 118, 119, 120, 121, 122, 123, 124, 125, 126, 127, 128, 129, 130, 131, 132, 133, 134, 135, 136, 137, 138, 139, 140, 141, 142, 143, 144, 145, 146, 147, 148, 149, 150, 151, 152, 153, 154, 155, 156, 157, 158, 159, 160, 161, 162, 163, 164, 165, 166, 167, 168, 169, 170, 171, 172] (by decide +kernel) (by decide +kernel)
set_option maxRecDepth 20000 in
theorem gX10_readRest_X10_fails : GoodIn wsX10_readRest (wsV RX10 171 RX10 yX10_fails wsX10_fails) := goodIn_app (goodIn_of _ (by decide +kernel)) ggX10_readRest_X10_fails
set_option maxRecDepth 20000 in
theorem ggX10_readRest_X10_scan : GoodIn wsX10_readRest wsX10_scan := goodIn_r _ [22, 23, 17, 2, 1, 24, 25, 26, 27, 28, 29, 30, 10, 31, 32, 33, 34, 35, 36, 37, 38, 39, 40, 41, 42, 43, 44, 45, 46, 47, 48, 49, 50, 51, 52, 53, 54, 55, 56, 57, 58, 59, 60, 61, 62, 63, 64, 65, 66, 67, 68, 69, 70, 71, 72, 73, 74, 75, 76, 77, 78, 79, 80, 81, 82, 83, 84, 85, 86, 87, 88, 89, 90, 91, 92, 108, 109, 110, 111, 112, 113, 114, 115, 116, 117, 118, 119, 120, 121, 122, 123, 124, 125, 126, 127, 128, 129, 130, 131, 132, 133, 134, 135, 136, 137, 138, 139, 140, 141, 142, 143, 144, 145, 146, 147, 148, 149, 150, 151, 152, 153, 154, 155, 156, 157, 158, 159, 160, 161, 162, 163, 164, 165, 166, 167, 168, 169, 170, 171, 172] (by decide +kernel) (by decide +kernel)
set_option maxRecDepth 20000 in
theorem gX10_readRest_X10_scan : GoodIn wsX10_readRest (wsV RX10 181 RX10 yX10_scan wsX10_scan) := goodIn_app (goodIn_of _ (by decide +kernel)) ggX10_readRest_X10_scan
set_option maxRecDepth 20000 in
theorem ggX10_readRest_X10_readFeel : GoodIn wsX10_readRest wsX10_readFeel := goodIn_r _ [96, 97, 7, 1, 27, 98, 99, 6, 100, 101, 102, 10, 103, 12, 13, 14, 15, 16, 17, 18, 8, 9, 11, 19, 20, 21, 22, 23, 2, 24, 25, 26, 28, 29, 30, 31, 32, 33, 34, 35, 36, 37, 38, 39, 40, 41, 42, 43, 44, 45, 46, 47, 48, 49, 50, 51, 52, 53, 54, 55, 56, 57, 58, 59, 60, 61, 62, 63, 64, 65, 66, 67, 68, 69, 70, 71, 72, 73, 74, 75, 76, 77, 78, 79, 80, 81, 82, 83, 84, 85, 86, 87, 88, 89, 90, 91, 92, 108, 109, 110, 111, 112, 113, 114, 115, 116, 117, 118, 119, 120, 121, 122, 123, 124, 125, 126, 127, 128, 129, 130, 131, 132, 133, 134, 135, 136, 137, 138, 139, 140, 141, 142, 143, 144, 145, 146, 147, 148, 149, 150, 151, 152, 153, 154, 155, 156, 157, 158, 159, 160, 161, 162, 163, 164, 165, 166, 167, 168, 169, 170, 171, 172] (by decide +kernel) (by decide +kernel)
set_option maxRecDepth 20000 in
theorem gX10_readRest_X10_readFeel : GoodIn wsX10_readRest (wsV RX10 230 RX10 yX10_readFeel wsX10_readFeel) := goodIn_app (goodIn_of _ (by decide +kernel)) ggX10_readRest_X10_readFeel
set_option maxRecDepth 20000 in
theorem ggX10_readRest_X10_readNumber : GoodIn wsX10_readRest wsX10_readNumber := goodIn_r _ [103, 1, 27, 7, 12, 13, 14, 10, 15, 16, 17, 18, 8, 9, 11, 19, 20, 21, 22, 23, 2, 24, 25, 26, 28, 29, 30, 31, 32, 33, 34, 35, 36, 37, 38, 39, 40, 41, 42, 43, 44, 45, 46, 47, 48, 49, 50, 51, 52, 53, 54, 55, 56, 57, 58, 59, 60, 61, 62, 63, 64, 65, 66, 67, 68, 69, 70, 71, 72, 73, 74, 75, 76, 77, 78, 79, 80, 81, 82, 83, 84, 85, 86, 87, 88, 89, 90, 91, 92, 108, 109, 110, 111, 112, 113, 114, 115, 116, 117, 118, 119, 120, 121, 122, 123, 124, 125, 126, 127, 128, 129, 130, 131, 132, 133, 134, 135, 136, 137, 138, 139, 140, 141, 142, 143, 144, 145, 146, 147, 148, 149, 150, 151, 152, 153, 154, 155, 156, 157, 158, 159, 160, 161, 162, 163, 164, 165, 166, 167, 168, 169, 170, 171, 172] (by decide +kernel) (by decide +kernel)
set_option maxRecDepth 20000 in
theorem gX10_readRest_X10_readNumber : GoodIn wsX10_readRest (wsV RX10 216 RX10 yX10_readNumber wsX10_readNumber) := goodIn_app (goodIn_of _ (by decide +kernel)) ggX10_readRest_X10_readNumber
set_option maxRecDepth 20000 in
theorem ggX10_readRest_X10_readSemi : GoodIn wsX10_readRest wsX10_readSemi := goodIn_r _ [107, 1, 12, 13, 14, 10, 15, 16, 17, 18, 19, 20, 21, 22, 23, 2, 24, 25, 26, 27, 28, 29, 30, 31, 32, 33, 34, 35, 36, 37, 38, 39, 40, 41, 42, 43, 44, 45, 46, 47, 48, 49, 50, 51, 52, 53, 54, 55, 56, 57, 58, 59, 60, 61, 62, 63, 64, 65, 66, 67, 68, 69, 70, 71, 72, 73, 74, 75, 76, 77, 78, 79, 80, 81, 82, 83, 84, 85, 86, 87, 88, 89, 90, 91, 92, 108, 109, 110, 111, 112, 113, 114, 115, 116, 117, 118, 119, 120, 121, 122, 123, 124, 125, 126, 127, 128, 129, 130, 131, 132, 133, 134, 135, 136, 137, 138, 139, 140, 141, 142, 143, 144, 145, 146, 147, 148, 149, 150, 151, 152, 153, 154, 155, 156, 157, 158, 159, 160, 161, 162, 163, 164, 165, 166, 167, 168, 169, 170, 171, 172] (by decide +kernel) (by decide +kernel)
set_option maxRecDepth 20000 in
theorem gX10_readRest_X10_readSemi : GoodIn wsX10_readRest (wsV RX10 220 RX10 yX10_readSemi wsX10_readSemi) := goodIn_app (goodIn_of _ (by decide +kernel)) ggX10_readRest_X10_readSemi
theorem dX10_readRest_0 : decode cX10_readRest 0 = .ok (.aload_n 0, 1) := by decide +kernel
theorem dX10_readRest_1 : decode cX10_readRest 1 = .ok (.getfield 143, 3) := by decide +kernel
theorem dX10_readRest_4 : decode cX10_readRest 4 = .ok (.iconst 1, 1) := by decide +kernel
theorem dX10_readRest_5 : decode cX10_readRest 5 = .ok (.if_icmp .ne 10, 3) := by decide +kernel
theorem dX10_readRest_8 : decode cX10_readRest 8 = .ok (.aload_n 0, 1) := by decide +kernel
theorem dX10_readRest_9 : decode cX10_readRest 9 = .ok (.getfield 140, 3) := by decide +kernel
theorem dX10_readRest_12 : decode cX10_readRest 12 = .ok (.goto 4, 3) := by decide +kernel
theorem dX10_readRest_15 : decode cX10_readRest 15 = .ok (.iconst (-1), 1) := by decide +kernel
theorem dX10_readRest_16 : decode cX10_readRest 16 = .ok (.istore_n 1, 1) := by decide +kernel
theorem dX10_readRest_17 : decode cX10_readRest 17 = .ok (.iload_n 1, 1) := by decide +kernel
theorem dX10_readRest_18 : decode cX10_readRest 18 = .ok (.i2l, 1) := by decide +kernel
theorem dX10_readRest_19 : decode cX10_readRest 19 = .ok (.ldc2_w 226, 3) := by decide +kernel
theorem dX10_readRest_22 : decode cX10_readRest 22 = .ok (.ldc2_w 228, 3) := by decide +kernel
theorem dX10_readRest_25 : decode cX10_readRest 25 = .ok (.invokestatic 174, 3) := by decide +kernel
theorem dX10_readRest_28 : decode cX10_readRest 28 = .ok (.ifCond .ne 9, 3) := by decide +kernel
theorem dX10_readRest_31 : decode cX10_readRest 31 = .ok (.aload_n 0, 1) := by decide +kernel
theorem dX10_readRest_32 : decode cX10_readRest 32 = .ok (.iconst 1, 1) := by decide +kernel
theorem dX10_readRest_33 : decode cX10_readRest 33 = .ok (.invokevirtual 171, 3) := by decide +kernel
theorem dX10_readRest_36 : decode cX10_readRest 36 = .ok (.ireturn, 1) := by decide +kernel
theorem dX10_readRest_37 : decode cX10_readRest 37 = .ok (.aload_n 0, 1) := by decide +kernel
theorem dX10_readRest_38 : decode cX10_readRest 38 = .ok (.getfield 187, 3) := by decide +kernel
theorem dX10_readRest_41 : decode cX10_readRest 41 = .ok (.iload_n 1, 1) := by decide +kernel
theorem dX10_readRest_42 : decode cX10_readRest 42 = .ok (.ishr, 1) := by decide +kernel
theorem dX10_readRest_43 : decode cX10_readRest 43 = .ok (.iconst 1, 1) := by decide +kernel
theorem dX10_readRest_44 : decode cX10_readRest 44 = .ok (.iand, 1) := by decide +kernel
theorem dX10_readRest_45 : decode cX10_readRest 45 = .ok (.iconst 1, 1) := by decide +kernel
theorem dX10_readRest_46 : decode cX10_readRest 46 = .ok (.if_icmp .ne 9, 3) := by decide +kernel
theorem dX10_readRest_49 : decode cX10_readRest 49 = .ok (.aload_n 0, 1) := by decide +kernel
theorem dX10_readRest_50 : decode cX10_readRest 50 = .ok (.iconst 3, 1) := by decide +kernel
theorem dX10_readRest_51 : decode cX10_readRest 51 = .ok (.invokevirtual 171, 3) := by decide +kernel
theorem dX10_readRest_54 : decode cX10_readRest 54 = .ok (.ireturn, 1) := by decide +kernel
theorem dX10_readRest_55 : decode cX10_readRest 55 = .ok (.aload_n 0, 1) := by decide +kernel
theorem dX10_readRest_56 : decode cX10_readRest 56 = .ok (.dup, 1) := by decide +kernel
theorem dX10_readRest_57 : decode cX10_readRest 57 = .ok (.getfield 187, 3) := by decide +kernel
theorem dX10_readRest_60 : decode cX10_readRest 60 = .ok (.iconst 1, 1) := by decide +kernel
theorem dX10_readRest_61 : decode cX10_readRest 61 = .ok (.iload_n 1, 1) := by decide +kernel
theorem dX10_readRest_62 : decode cX10_readRest 62 = .ok (.ishl, 1) := by decide +kernel
theorem dX10_readRest_63 : decode cX10_readRest 63 = .ok (.ior, 1) := by decide +kernel
theorem dX10_readRest_64 : decode cX10_readRest 64 = .ok (.putfield 187, 3) := by decide +kernel
theorem dX10_readRest_67 : decode cX10_readRest 67 = .ok (.aload_n 0, 1) := by decide +kernel
theorem dX10_readRest_68 : decode cX10_readRest 68 = .ok (.invokevirtual 181, 3) := by decide +kernel
theorem dX10_readRest_71 : decode cX10_readRest 71 = .ok (.iload_n 1, 1) := by decide +kernel
theorem dX10_readRest_72 : decode cX10_readRest 72 = .ok (.bipush 8, 2) := by decide +kernel
theorem dX10_readRest_74 : decode cX10_readRest 74 = .ok (.if_icmp .ne 12, 3) := by decide +kernel
theorem dX10_readRest_77 : decode cX10_readRest 77 = .ok (.aload_n 0, 1) := by decide +kernel
theorem dX10_readRest_78 : decode cX10_readRest 78 = .ok (.invokevirtual 230, 3) := by decide +kernel
theorem dX10_readRest_81 : decode cX10_readRest 81 = .ok (.ifCond .ne 40, 3) := by decide +kernel
theorem dX10_readRest_84 : decode cX10_readRest 84 = .ok (.iconst 0, 1) := by decide +kernel
theorem dX10_readRest_85 : decode cX10_readRest 85 = .ok (.ireturn, 1) := by decide +kernel
theorem dX10_readRest_86 : decode cX10_readRest 86 = .ok (.aload_n 0, 1) := by decide +kernel
theorem dX10_readRest_87 : decode cX10_readRest 87 = .ok (.iconst 0, 1) := by decide +kernel
theorem dX10_readRest_88 : decode cX10_readRest 88 = .ok (.bipush 99, 2) := by decide +kernel
theorem dX10_readRest_90 : decode cX10_readRest 90 = .ok (.invokevirtual 216, 3) := by decide +kernel
theorem dX10_readRest_93 : decode cX10_readRest 93 = .ok (.ifCond .ne 5, 3) := by decide +kernel
theorem dX10_readRest_96 : decode cX10_readRest 96 = .ok (.iconst 0, 1) := by decide +kernel
theorem dX10_readRest_97 : decode cX10_readRest 97 = .ok (.ireturn, 1) := by decide +kernel
theorem dX10_readRest_98 : decode cX10_readRest 98 = .ok (.aload_n 0, 1) := by decide +kernel
theorem dX10_readRest_99 : decode cX10_readRest 99 = .ok (.getfield 17, 3) := by decide +kernel
theorem dX10_readRest_102 : decode cX10_readRest 102 = .ok (.bipush 6, 2) := by decide +kernel
theorem dX10_readRest_104 : decode cX10_readRest 104 = .ok (.iload_n 1, 1) := by decide +kernel
theorem dX10_readRest_105 : decode cX10_readRest 105 = .ok (.bipush 6, 2) := by decide +kernel
theorem dX10_readRest_107 : decode cX10_readRest 107 = .ok (.if_icmp .ne 7, 3) := by decide +kernel
theorem dX10_readRest_110 : decode cX10_readRest 110 = .ok (.iconst 1, 1) := by decide +kernel
theorem dX10_readRest_111 : decode cX10_readRest 111 = .ok (.goto 4, 3) := by decide +kernel
theorem dX10_readRest_114 : decode cX10_readRest 114 = .ok (.iconst 2, 1) := by decide +kernel
theorem dX10_readRest_115 : decode cX10_readRest 115 = .ok (.iadd, 1) := by decide +kernel
theorem dX10_readRest_116 : decode cX10_readRest 116 = .ok (.aload_n 0, 1) := by decide +kernel
theorem dX10_readRest_117 : decode cX10_readRest 117 = .ok (.getfield 178, 3) := by decide +kernel
theorem dX10_readRest_120 : decode cX10_readRest 120 = .ok (.iastore, 1) := by decide +kernel
theorem dX10_readRest_121 : decode cX10_readRest 121 = .ok (.aload_n 0, 1) := by decide +kernel
theorem dX10_readRest_122 : decode cX10_readRest 122 = .ok (.invokevirtual 220, 3) := by decide +kernel
theorem dX10_readRest_125 : decode cX10_readRest 125 = .ok (.ireturn, 1) := by decide +kernel
set_option maxRecDepth 20000 in
theorem ggX10_readHire_X10_isKey : GoodIn wsX10_readHire wsX10_isKey := goodIn_r _ [8, 3, 9, 137, 138, 139, 140, 141, 142, 143, 144, 145, 146, 147, 148, 149, 150, 151, 152, 153, 154, 155, 156, 157, 158, 159, 160, 161, 162, 163, 164, 165, 166, 167, 168, 169, 170, 171, 172, 173, 174, 175, 176, 177, 178, 179, 180, 181, 182, 183, 184, 185, 186, 187, 188, 189, 190, 191, 192, 193, 194, 195, 196, 197, 198, 199, 200, 201] (by decide +kernel) (by decide +kernel)
set_option maxRecDepth 20000 in
theorem gX10_readHire_X10_isKey : GoodIn wsX10_readHire (wsV RX10 184 RX10 yX10_isKey wsX10_isKey) := goodIn_app (goodIn_of _ (by decide +kernel)) ggX10_readHire_X10_isKey
set_option maxRecDepth 20000 in
theorem ggX10_readHire_X10_scan : GoodIn wsX10_readHire wsX10_scan := goodIn_r _ [13, 14, 15, 9, 3, 16, 17, 18, 19, 20, 21, 22, 7, 23, 24, 25, 26, 27, 28, 29, 30, 31, 32, 33, 34, 35, 36, 37, 38, 39, 40, 41, 42, 43, 44, 45, 46, 47, 48, 49, 50, 51, 52, 53, 54, 55, 56, 57, 58, 59, 60, 61, 62, 63, 64, 65, 66, 67, 68, 69, 70, 71, 72, 73, 74, 75, 76, 77, 78, 79, 80, 81, 82, 83, 84, 137, 138, 139, 140, 141, 142, 143, 144, 145, 146, 147, 148, 149, 150, 151, 152, 153, 154, 155, 156, 157, 158, 159, 160, 161, 162, 163, 164, 165, 166, 167, 168, 169, 170, 171, 172, 173, 174, 175, 176, 177, 178, 179, 180, 181, 182, 183, 184, 185, 186, 187, 188, 189, 190, 191, 192, 193, 194, 195, 196, 197, 198, 199, 200, 201] (by decide +kernel) (by decide +kernel)
set_option maxRecDepth 20000 in
theorem gX10_readHire_X10_scan : GoodIn wsX10_readHire (wsV RX10 181 RX10 yX10_scan wsX10_scan) := goodIn_app (goodIn_of _ (by decide +kernel)) ggX10_readHire_X10_scan
set_option maxRecDepth 20000 in
theorem ggX10_readHire_X10_readNumber : GoodIn wsX10_readHire wsX10_readNumber := goodIn_r _ [88, 3, 19, 2, 89, 90, 91, 7, 92, 93, 15, 94, 95, 96, 97, 10, 11, 12, 13, 14, 9, 16, 17, 18, 20, 21, 22, 23, 24, 25, 26, 27, 28, 29, 30, 31, 32, 33, 34, 35, 36, 37, 38, 39, 40, 41, 42, 43, 44, 45, 46, 47, 48, 49, 50, 51, 52, 53, 54, 55, 56, 57, 58, 59, 60, 61, 62, 63, 64, 65, 66, 67, 68, 69, 70, 71, 72, 73, 74, 75, 76, 77, 78, 79, 80, 81, 82, 83, 84, 137, 138, 139, 140, 141, 142, 143, 144, 145, 146, 147, 148, 149, 150, 151, 152, 153, 154, 155, 156, 157, 158, 159, 160, 161, 162, 163, 164, 165, 166, 167, 168, 169, 170, 171, 172, 173, 174, 175, 176, 177, 178, 179, 180, 181, 182, 183, 184, 185, 186, 187, 188, 189, 190, 191, 192, 193, 194, 195, 196, 197, 198, 199, 200, 201] (by decide +kernel) (by decide +kernel)
set_option maxRecDepth 20000 in
theorem gX10_readHire_X10_readNumber : GoodIn wsX10_readHire (wsV RX10 216 RX10 yX10_readNumber wsX10_readNumber) := goodIn_app (goodIn_of _ (by decide +kernel)) ggX10_readHire_X10_readNumber
set_option maxRecDepth 20000 in
theorem ggX10_readHire_X10_readSemi : GoodIn wsX10_readHire wsX10_readSemi := goodIn_r _ [101, 3, 89, 90, 91, 7, 92, 93, 15, 94, 10, 11, 12, 13, 14, 9, 16, 17, 18, 19, 20, 21, 22, 23, 24, 25, 26, 27, 28, 29, 30, 31, 32, 33, 34, 35, 36, 37, 38, 39, 40, 41, 42, 43, 44, 45, 46, 47, 48, 49, 50, 51, 52, 53, 54, 55, 56, 57, 58, 59, 60, 61, 62, 63, 64, 65, 66, 67, 68, 69, 70, 71, 72, 73, 74, 75, 76, 77, 78, 79, 80, 81, 82, 83, 84, 137, 138, 139, 140, 141, 142, 143, 144, 145, 146, 147, 148, 149, 150, 151, 152, 153, 154, 155, 156, 157, 158, 159, 160, 161, 162, 163, 164, 165, 166, 167, 168, 169, 170, 171, 172, 173, 174, 175, 176, 177, 178, 179, 180, 181, 182, 183, 184, 185, 186, 187, 188, 189, 190, 191, 192, 193, 194, 195, 196, 197, 198, 199, 200, 201] (by decide +kernel) (by decide +kernel)
set_option maxRecDepth 20000 in
theorem gX10_readHire_X10_readSemi : GoodIn wsX10_readHire (wsV RX10 220 RX10 yX10_readSemi wsX10_readSemi) := goodIn_app (goodIn_of _ (by decide +kernel)) ggX10_readHire_X10_readSemi
set_option maxRecDepth 20000 in
theorem ggX10_readHire_X10_fails : GoodIn wsX10_readHire wsX10_fails := goodIn_r _ [92, 93, 15, 94, 137, 138, 139, 140, 141, 142, 143, 144, 145, 146, 147, 148, 149, 150, 151, 152, 153, 154, 155, 156, 157, 158, 159, 160, 161, 162, 163, 164, 165, 166, 167, 168, 169, 170, 171, 172, 173, 174, 175, 176, 177, 178, 179, 180, 181, 182, 183, 184, 185, 186, 187, 188, 189, 190, 191, 192, 193, 194, 195, 196, 197, 198, 199, 200, 201] (by decide +kernel) (by decide +kernel)
set_option maxRecDepth 20000 in
theorem gX10_readHire_X10_fails : GoodIn wsX10_readHire (wsV RX10 171 RX10 yX10_fails wsX10_fails) := goodIn_app (goodIn_of _ (by decide +kernel)) ggX10_readHire_X10_fails
set_option maxRecDepth 20000 in
theorem ggX10_readHire_X10_readSign : GoodIn wsX10_readHire wsX10_readSign := goodIn_r _ [105, 1, 3, 106, 16, 107, 2, 89, 90, 91, 7, 92, 93, 15, 94, 10, 11, 12, 13, 14, 9, 17, 18, 19, 20, 21, 22, 23, 24, 25, 26, 27, 28, 29, 30, 31, 32, 33, 34, 35, 36, 37, 38, 39, 40, 41, 42, 43, 44, 45, 46, 47, 48, 49, 50, 51, 52, 53, 54, 55, 56, 57, 58, 59, 60, 61, 62, 63, 64, 65, 66, 67, 68, 69, 70, 71, 72, 73, 74, 75, 76, 77, 78, 79, 80, 81, 82, 83, 84, 108, 109, 110, 111, 112, 113, 114, 115, 4, 5, 6, 8, 85, 86, 87, 88, 95, 96, 97, 98, 99, 100, 101, 137, 138, 139, 140, 141, 142, 143, 144, 145, 146, 147, 148, 149, 150, 151, 152, 153, 154, 155, 156, 157, 158, 159, 160, 161, 162, 163, 164, 165, 166, 167, 168, 169, 170, 171, 172, 173, 174, 175, 176, 177, 178, 179, 180, 181, 182, 183, 184, 185, 186, 187, 188, 189, 190, 191, 192, 193, 194, 195, 196, 197, 198, 199, 200, 201] (by decide +kernel) (by decide +kernel)
set_option maxRecDepth 20000 in
theorem gX10_readHire_X10_readSign : GoodIn wsX10_readHire (wsV RX10 233 RX10 yX10_readSign wsX10_readSign) := goodIn_app (goodIn_of _ (by decide +kernel)) ggX10_readHire_X10_readSign
set_option maxRecDepth 20000 in
theorem ggX10_readHire_X10_readWork : GoodIn wsX10_readHire wsX10_readWork := goodIn_r _ [119, 1, 3, 120, 16, 121, 2, 19, 122, 89, 90, 91, 7, 92, 93, 15, 94, 10, 11, 12, 13, 14, 9, 17, 18, 20, 21, 22, 23, 24, 25, 26, 27, 28, 29, 30, 31, 32, 33, 34, 35, 36, 37, 38, 39, 40, 41, 42, 43, 44, 45, 46, 47, 48, 49, 50, 51, 52, 53, 54, 55, 56, 57, 58, 59, 60, 61, 62, 63, 64, 65, 66, 67, 68, 69, 70, 71, 72, 73, 74, 75, 76, 77, 78, 79, 80, 81, 82, 83, 84, 108, 109, 110, 111, 112, 113, 114, 115, 4, 5, 6, 8, 85, 86, 87, 88, 95, 96, 97, 98, 99, 100, 101, 137, 138, 139, 140, 141, 142, 143, 144, 145, 146, 147, 148, 149, 150, 151, 152, 153, 154, 155, 156, 157, 158, 159, 160, 161, 162, 163, 164, 165, 166, 167, 168, 169, 170, 171, 172, 173, 174, 175, 176, 177, 178, 179, 180, 181, 182, 183, 184, 185, 186, 187, 188, 189, 190, 191, 192, 193, 194, 195, 196, 197, 198, 199, 200, 201] (by decide +kernel) (by decide +kernel)
set_option maxRecDepth 20000 in
theorem gX10_readHire_X10_readWork : GoodIn wsX10_readHire (wsV RX10 236 RX10 yX10_readWork wsX10_readWork) := goodIn_app (goodIn_of _ (by decide +kernel)) ggX10_readHire_X10_readWork
set_option maxRecDepth 20000 in
theorem ggX10_readHire_X10_readRest : GoodIn wsX10_readHire wsX10_readRest := goodIn_r _ [126, 3, 9, 127, 128, 129, 1, 2, 95, 96, 7, 97, 89, 90, 91, 92, 93, 15, 94, 10, 11, 12, 13, 14, 16, 17, 18, 19, 20, 21, 22, 23, 24, 25, 26, 27, 28, 29, 30, 31, 32, 33, 34, 35, 36, 37, 38, 39, 40, 41, 42, 43, 44, 45, 46, 47, 48, 49, 50, 51, 52, 53, 54, 55, 56, 57, 58, 59, 60, 61, 62, 63, 64, 65, 66, 67, 68, 69, 70, 71, 72, 73, 74, 75, 76, 77, 78, 79, 80, 81, 82, 83, 84, 130, 131, 132, 133, 134, 135, 136, 85, 86, 87, 88, 98, 99, 100, 101, 137, 138, 139, 140, 141, 142, 143, 144, 145, 146, 147, 148, 149, 150, 151, 152, 153, 154, 155, 156, 157, 158, 159, 160, 161, 162, 163, 164, 165, 166, 167, 168, 169, 170, 171, 172, 173, 174, 175, 176, 177, 178, 179, 180, 181, 182, 183, 184, 185, 186, 187, 188, 189, 190, 191, 192, 193, 194, 195, 196, 197, 198, 199, 200, 201] (by decide +kernel) (by decide +kernel)
set_option maxRecDepth 20000 in
theorem gX10_readHire_X10_readRest : GoodIn wsX10_readHire (wsV RX10 239 RX10 yX10_readRest wsX10_readRest) := goodIn_app (goodIn_of _ (by decide +kernel)) ggX10_readHire_X10_readRest
theorem dX10_readHire_0 : decode cX10_readHire 0 = .ok (.aload_n 0, 1) := by decide +kernel
theorem dX10_readHire_1 : decode cX10_readHire 1 = .ok (.iconst 0, 1) := by decide +kernel
theorem dX10_readHire_2 : decode cX10_readHire 2 = .ok (.invokevirtual 184, 3) := by decide +kernel
theorem dX10_readHire_5 : decode cX10_readHire 5 = .ok (.ifCond .eq 39, 3) := by decide +kernel
theorem dX10_readHire_8 : decode cX10_readHire 8 = .ok (.aload_n 0, 1) := by decide +kernel
theorem dX10_readHire_9 : decode cX10_readHire 9 = .ok (.invokevirtual 181, 3) := by decide +kernel
theorem dX10_readHire_12 : decode cX10_readHire 12 = .ok (.aload_n 0, 1) := by decide +kernel
theorem dX10_readHire_13 : decode cX10_readHire 13 = .ok (.iconst 2, 1) := by decide +kernel
theorem dX10_readHire_14 : decode cX10_readHire 14 = .ok (.bipush 10, 2) := by decide +kernel
theorem dX10_readHire_16 : decode cX10_readHire 16 = .ok (.invokevirtual 216, 3) := by decide +kernel
theorem dX10_readHire_19 : decode cX10_readHire 19 = .ok (.ifCond .ne 5, 3) := by decide +kernel
theorem dX10_readHire_22 : decode cX10_readHire 22 = .ok (.iconst 0, 1) := by decide +kernel
theorem dX10_readHire_23 : decode cX10_readHire 23 = .ok (.ireturn, 1) := by decide +kernel
theorem dX10_readHire_24 : decode cX10_readHire 24 = .ok (.aload_n 0, 1) := by decide +kernel
theorem dX10_readHire_25 : decode cX10_readHire 25 = .ok (.getfield 17, 3) := by decide +kernel
theorem dX10_readHire_28 : decode cX10_readHire 28 = .ok (.bipush 6, 2) := by decide +kernel
theorem dX10_readHire_30 : decode cX10_readHire 30 = .ok (.aload_n 0, 1) := by decide +kernel
theorem dX10_readHire_31 : decode cX10_readHire 31 = .ok (.getfield 178, 3) := by decide +kernel
theorem dX10_readHire_34 : decode cX10_readHire 34 = .ok (.iastore, 1) := by decide +kernel
theorem dX10_readHire_35 : decode cX10_readHire 35 = .ok (.aload_n 0, 1) := by decide +kernel
theorem dX10_readHire_36 : decode cX10_readHire 36 = .ok (.invokevirtual 220, 3) := by decide +kernel
theorem dX10_readHire_39 : decode cX10_readHire 39 = .ok (.ifCond .ne 5, 3) := by decide +kernel
theorem dX10_readHire_42 : decode cX10_readHire 42 = .ok (.iconst 0, 1) := by decide +kernel
theorem dX10_readHire_43 : decode cX10_readHire 43 = .ok (.ireturn, 1) := by decide +kernel
theorem dX10_readHire_44 : decode cX10_readHire 44 = .ok (.aload_n 0, 1) := by decide +kernel
theorem dX10_readHire_45 : decode cX10_readHire 45 = .ok (.getfield 17, 3) := by decide +kernel
theorem dX10_readHire_48 : decode cX10_readHire 48 = .ok (.bipush 9, 2) := by decide +kernel
theorem dX10_readHire_50 : decode cX10_readHire 50 = .ok (.iaload, 1) := by decide +kernel
theorem dX10_readHire_51 : decode cX10_readHire 51 = .ok (.iconst 2, 1) := by decide +kernel
theorem dX10_readHire_52 : decode cX10_readHire 52 = .ok (.if_icmp .lt 11, 3) := by decide +kernel
theorem dX10_readHire_55 : decode cX10_readHire 55 = .ok (.aload_n 0, 1) := by decide +kernel
theorem dX10_readHire_56 : decode cX10_readHire 56 = .ok (.iconst 1, 1) := by decide +kernel
theorem dX10_readHire_57 : decode cX10_readHire 57 = .ok (.invokevirtual 184, 3) := by decide +kernel
theorem dX10_readHire_60 : decode cX10_readHire 60 = .ok (.ifCond .eq 26, 3) := by decide +kernel
theorem dX10_readHire_63 : decode cX10_readHire 63 = .ok (.aload_n 0, 1) := by decide +kernel
theorem dX10_readHire_64 : decode cX10_readHire 64 = .ok (.iconst 1, 1) := by decide +kernel
theorem dX10_readHire_65 : decode cX10_readHire 65 = .ok (.invokevirtual 184, 3) := by decide +kernel
theorem dX10_readHire_68 : decode cX10_readHire 68 = .ok (.ifCond .ne 9, 3) := by decide +kernel
theorem dX10_readHire_71 : decode cX10_readHire 71 = .ok (.aload_n 0, 1) := by decide +kernel
theorem dX10_readHire_72 : decode cX10_readHire 72 = .ok (.iconst 1, 1) := by decide +kernel
theorem dX10_readHire_73 : decode cX10_readHire 73 = .ok (.invokevirtual 171, 3) := by decide +kernel
theorem dX10_readHire_76 : decode cX10_readHire 76 = .ok (.ireturn, 1) := by decide +kernel
theorem dX10_readHire_77 : decode cX10_readHire 77 = .ok (.aload_n 0, 1) := by decide +kernel
theorem dX10_readHire_78 : decode cX10_readHire 78 = .ok (.invokevirtual 233, 3) := by decide +kernel
theorem dX10_readHire_81 : decode cX10_readHire 81 = .ok (.ifCond .ne (-37), 3) := by decide +kernel
theorem dX10_readHire_84 : decode cX10_readHire 84 = .ok (.iconst 0, 1) := by decide +kernel
theorem dX10_readHire_85 : decode cX10_readHire 85 = .ok (.ireturn, 1) := by decide +kernel
theorem dX10_readHire_86 : decode cX10_readHire 86 = .ok (.aload_n 0, 1) := by decide +kernel
theorem dX10_readHire_87 : decode cX10_readHire 87 = .ok (.getfield 17, 3) := by decide +kernel
theorem dX10_readHire_90 : decode cX10_readHire 90 = .ok (.bipush 10, 2) := by decide +kernel
theorem dX10_readHire_92 : decode cX10_readHire 92 = .ok (.iaload, 1) := by decide +kernel
theorem dX10_readHire_93 : decode cX10_readHire 93 = .ok (.iconst 2, 1) := by decide +kernel
theorem dX10_readHire_94 : decode cX10_readHire 94 = .ok (.if_icmp .lt 11, 3) := by decide +kernel
theorem dX10_readHire_97 : decode cX10_readHire 97 = .ok (.aload_n 0, 1) := by decide +kernel
theorem dX10_readHire_98 : decode cX10_readHire 98 = .ok (.iconst 3, 1) := by decide +kernel
theorem dX10_readHire_99 : decode cX10_readHire 99 = .ok (.invokevirtual 184, 3) := by decide +kernel
theorem dX10_readHire_102 : decode cX10_readHire 102 = .ok (.ifCond .eq 26, 3) := by decide +kernel
theorem dX10_readHire_105 : decode cX10_readHire 105 = .ok (.aload_n 0, 1) := by decide +kernel
theorem dX10_readHire_106 : decode cX10_readHire 106 = .ok (.iconst 3, 1) := by decide +kernel
theorem dX10_readHire_107 : decode cX10_readHire 107 = .ok (.invokevirtual 184, 3) := by decide +kernel
theorem dX10_readHire_110 : decode cX10_readHire 110 = .ok (.ifCond .ne 9, 3) := by decide +kernel
theorem dX10_readHire_113 : decode cX10_readHire 113 = .ok (.aload_n 0, 1) := by decide +kernel
theorem dX10_readHire_114 : decode cX10_readHire 114 = .ok (.iconst 1, 1) := by decide +kernel
theorem dX10_readHire_115 : decode cX10_readHire 115 = .ok (.invokevirtual 171, 3) := by decide +kernel
theorem dX10_readHire_118 : decode cX10_readHire 118 = .ok (.ireturn, 1) := by decide +kernel
theorem dX10_readHire_119 : decode cX10_readHire 119 = .ok (.aload_n 0, 1) := by decide +kernel
theorem dX10_readHire_120 : decode cX10_readHire 120 = .ok (.invokevirtual 236, 3) := by decide +kernel
theorem dX10_readHire_123 : decode cX10_readHire 123 = .ok (.ifCond .ne (-37), 3) := by decide +kernel
theorem dX10_readHire_126 : decode cX10_readHire 126 = .ok (.iconst 0, 1) := by decide +kernel
theorem dX10_readHire_127 : decode cX10_readHire 127 = .ok (.ireturn, 1) := by decide +kernel
theorem dX10_readHire_128 : decode cX10_readHire 128 = .ok (.aload_n 0, 1) := by decide +kernel
theorem dX10_readHire_129 : decode cX10_readHire 129 = .ok (.getfield 143, 3) := by decide +kernel
theorem dX10_readHire_132 : decode cX10_readHire 132 = .ok (.iconst 4, 1) := by decide +kernel
theorem dX10_readHire_133 : decode cX10_readHire 133 = .ok (.if_icmp .eq 12, 3) := by decide +kernel
theorem dX10_readHire_136 : decode cX10_readHire 136 = .ok (.aload_n 0, 1) := by decide +kernel
theorem dX10_readHire_137 : decode cX10_readHire 137 = .ok (.invokevirtual 239, 3) := by decide +kernel
theorem dX10_readHire_140 : decode cX10_readHire 140 = .ok (.ifCond .ne (-12), 3) := by decide +kernel
theorem dX10_readHire_143 : decode cX10_readHire 143 = .ok (.iconst 0, 1) := by decide +kernel
theorem dX10_readHire_144 : decode cX10_readHire 144 = .ok (.ireturn, 1) := by decide +kernel
theorem dX10_readHire_145 : decode cX10_readHire 145 = .ok (.iconst 1, 1) := by decide +kernel
theorem dX10_readHire_146 : decode cX10_readHire 146 = .ok (.ireturn, 1) := by decide +kernel
set_option maxRecDepth 20000 in
theorem ggX10_hire_X10_scan : GoodIn wsX10_hire wsX10_scan := goodIn_r _ [11, 3, 12, 13, 14, 15, 16, 17, 18, 19, 20, 21, 10, 22, 2, 23, 24, 25, 26, 27, 28, 29, 30, 31, 32, 33, 34, 35, 36, 37, 38, 39, 40, 41, 42, 43, 44, 45, 46, 47, 48, 49, 50, 51, 52, 53, 54, 55, 56, 57, 58, 59, 60, 61, 62, 63, 64, 65, 66, 67, 68, 69, 70, 71, 72, 73, 74, 75, 76, 77, 78, 79, 80, 81, 82, 159, 160, 161, 162, 163, 164, 165, 166, 167, 168, 169, 170, 171, 172, 173, 174, 175, 176, 177, 178, 179, 180, 181, 182, 183, 184, 185, 186, 187, 188, 189, 190, 191, 192, 193, 194, 195, 196, 197, 198, 199, 200, 201, 202, 203, 204, 205, 206, 207, 208, 209, 210, 211, 212, 213, 214, 215, 216, 217, 218, 219, 220, 221, 222, 223] (by decide +kernel) (by decide +kernel)
set_option maxRecDepth 20000 in
theorem gX10_hire_X10_scan : GoodIn wsX10_hire (wsV RX10 181 RX10 yX10_scan wsX10_scan) := goodIn_app (goodIn_of _ (by decide +kernel)) ggX10_hire_X10_scan
set_option maxRecDepth 20000 in
theorem ggX10_hire_X10_begin : GoodIn wsX10_hire wsX10_begin := goodIn_r _ [86, 6, 87, 88, 159, 160, 161, 162, 163, 164, 165, 166, 167, 168, 169, 170, 171, 172, 173, 174, 175, 176, 177, 178, 179, 180, 181, 182, 183, 184, 185, 186, 187, 188, 189, 190, 191, 192, 193, 194, 195, 196, 197, 198, 199, 200, 201, 202, 203, 204, 205, 206, 207, 208, 209, 210, 211, 212, 213, 214, 215, 216, 217, 218, 219, 220, 221, 222, 223] (by decide +kernel) (by decide +kernel)
set_option maxRecDepth 20000 in
theorem gX10_hire_X10_begin : GoodIn wsX10_hire (wsV RX10 106 RX10 yX10_begin wsX10_begin) := goodIn_app (goodIn_of _ (by decide +kernel)) ggX10_hire_X10_begin
set_option maxRecDepth 20000 in
theorem ggX10_hire_X10_readHire : GoodIn wsX10_hire wsX10_readHire := goodIn_r _ [92, 6, 93, 14, 94, 95, 96, 10, 97, 13, 7, 8, 9, 11, 3, 12, 15, 16, 17, 18, 19, 20, 21, 22, 2, 23, 24, 25, 26, 27, 28, 29, 30, 31, 32, 33, 34, 35, 36, 37, 38, 39, 40, 41, 42, 43, 44, 45, 46, 47, 48, 49, 50, 51, 52, 53, 54, 55, 56, 57, 58, 59, 60, 61, 62, 63, 64, 65, 66, 67, 68, 69, 70, 71, 72, 73, 74, 75, 76, 77, 78, 79, 80, 81, 82, 98, 99, 100, 101, 102, 103, 104, 105, 4, 5, 106, 107, 108, 109, 110, 111, 112, 113, 114, 115, 116, 117, 118, 119, 120, 121, 122, 123, 124, 125, 126, 127, 128, 129, 130, 131, 132, 133, 134, 135, 136, 137, 138, 139, 88, 140, 141, 142, 143, 87, 144, 145, 159, 160, 161, 162, 163, 164, 165, 166, 167, 168, 169, 170, 171, 172, 173, 174, 175, 176, 177, 178, 179, 180, 181, 182, 183, 184, 185, 186, 187, 188, 189, 190, 191, 192, 193, 194, 195, 196, 197, 198, 199, 200, 201, 202, 203, 204, 205, 206, 207, 208, 209, 210, 211, 212, 213, 214, 215, 216, 217, 218, 219, 220, 221, 222, 223] (by decide +kernel) (by decide +kernel)
set_option maxRecDepth 20000 in
theorem gX10_hire_X10_readHire : GoodIn wsX10_hire (wsV RX10 242 RX10 yX10_readHire wsX10_readHire) := goodIn_app (goodIn_of _ (by decide +kernel)) ggX10_hire_X10_readHire
set_option maxRecDepth 20000 in
theorem ggX10_hire_X10_settle : GoodIn wsX10_hire wsX10_settle := goodIn_r _ [149, 6, 118, 132, 133, 87, 144, 150, 151, 152, 153, 154, 155, 156, 157, 158, 159, 160, 161, 162, 163, 164, 165, 166, 167, 168, 169, 170, 171, 172, 173, 174, 175, 176, 177, 178, 179, 180, 181, 182, 183, 184, 185, 186, 187, 188, 189, 190, 191, 192, 193, 194, 195, 196, 197, 198, 199, 200, 201, 202, 203, 204, 205, 206, 207, 208, 209, 210, 211, 212, 213, 214, 215, 216, 217, 218, 219, 220, 221, 222, 223] (by decide +kernel) (by decide +kernel)
set_option maxRecDepth 20000 in
theorem gX10_hire_X10_settle : GoodIn wsX10_hire (wsV RX10 109 RX10 yX10_settle wsX10_settle) := goodIn_app (goodIn_of _ (by decide +kernel)) ggX10_hire_X10_settle
theorem dX10_hire_0 : decode cX10_hire 0 = .ok (.aload_n 0, 1) := by decide +kernel
theorem dX10_hire_1 : decode cX10_hire 1 = .ok (.aload_n 0, 1) := by decide +kernel
theorem dX10_hire_2 : decode cX10_hire 2 = .ok (.getfield 112, 3) := by decide +kernel
theorem dX10_hire_5 : decode cX10_hire 5 = .ok (.putfield 115, 3) := by decide +kernel
theorem dX10_hire_8 : decode cX10_hire 8 = .ok (.aload_n 0, 1) := by decide +kernel
theorem dX10_hire_9 : decode cX10_hire 9 = .ok (.iconst 0, 1) := by decide +kernel
theorem dX10_hire_10 : decode cX10_hire 10 = .ok (.putfield 112, 3) := by decide +kernel
theorem dX10_hire_13 : decode cX10_hire 13 = .ok (.aload_n 0, 1) := by decide +kernel
theorem dX10_hire_14 : decode cX10_hire 14 = .ok (.iconst 0, 1) := by decide +kernel
theorem dX10_hire_15 : decode cX10_hire 15 = .ok (.putfield 134, 3) := by decide +kernel
theorem dX10_hire_18 : decode cX10_hire 18 = .ok (.aload_n 0, 1) := by decide +kernel
theorem dX10_hire_19 : decode cX10_hire 19 = .ok (.invokevirtual 181, 3) := by decide +kernel
theorem dX10_hire_22 : decode cX10_hire 22 = .ok (.aload_n 0, 1) := by decide +kernel
theorem dX10_hire_23 : decode cX10_hire 23 = .ok (.iconst 0, 1) := by decide +kernel
theorem dX10_hire_24 : decode cX10_hire 24 = .ok (.putfield 168, 3) := by decide +kernel
theorem dX10_hire_27 : decode cX10_hire 27 = .ok (.aload_n 0, 1) := by decide +kernel
theorem dX10_hire_28 : decode cX10_hire 28 = .ok (.iconst (-1), 1) := by decide +kernel
theorem dX10_hire_29 : decode cX10_hire 29 = .ok (.putfield 13, 3) := by decide +kernel
theorem dX10_hire_32 : decode cX10_hire 32 = .ok (.aload_n 0, 1) := by decide +kernel
theorem dX10_hire_33 : decode cX10_hire 33 = .ok (.invokevirtual 106, 3) := by decide +kernel
theorem dX10_hire_36 : decode cX10_hire 36 = .ok (.aload_n 0, 1) := by decide +kernel
theorem dX10_hire_37 : decode cX10_hire 37 = .ok (.invokevirtual 242, 3) := by decide +kernel
theorem dX10_hire_40 : decode cX10_hire 40 = .ok (.ifCond .ne 5, 3) := by decide +kernel
theorem dX10_hire_43 : decode cX10_hire 43 = .ok (.iconst (-1), 1) := by decide +kernel
theorem dX10_hire_44 : decode cX10_hire 44 = .ok (.ireturn, 1) := by decide +kernel
theorem dX10_hire_45 : decode cX10_hire 45 = .ok (.aload_n 0, 1) := by decide +kernel
theorem dX10_hire_46 : decode cX10_hire 46 = .ok (.invokevirtual 109, 3) := by decide +kernel
theorem dX10_hire_49 : decode cX10_hire 49 = .ok (.aload_n 0, 1) := by decide +kernel
theorem dX10_hire_50 : decode cX10_hire 50 = .ok (.getfield 17, 3) := by decide +kernel
theorem dX10_hire_53 : decode cX10_hire 53 = .ok (.iconst 4, 1) := by decide +kernel
theorem dX10_hire_54 : decode cX10_hire 54 = .ok (.iaload, 1) := by decide +kernel
theorem dX10_hire_55 : decode cX10_hire 55 = .ok (.ireturn, 1) := by decide +kernel
set_option maxRecDepth 20000 in
theorem ggX10_told_X10_in : GoodIn wsX10_told wsX10_in := goodIn_r _ [13] (by decide +kernel) (by decide +kernel)
set_option maxRecDepth 20000 in
theorem gX10_told_X10_in : GoodIn wsX10_told (va_wsS RX10 174 yX10_in wsX10_in) := goodIn_app (goodIn_of _ (by decide +kernel)) ggX10_told_X10_in
theorem dX10_told_0 : decode cX10_told 0 = .ok (.iload_n 1, 1) := by decide +kernel
theorem dX10_told_1 : decode cX10_told 1 = .ok (.tableswitch 81 0 5 #[39, 46, 53, 60, 67, 74], 39) := by decide +kernel
theorem dX10_told_40 : decode cX10_told 40 = .ok (.aload_n 0, 1) := by decide +kernel
theorem dX10_told_41 : decode cX10_told 41 = .ok (.getfield 17, 3) := by decide +kernel
theorem dX10_told_44 : decode cX10_told 44 = .ok (.iconst 3, 1) := by decide +kernel
theorem dX10_told_45 : decode cX10_told 45 = .ok (.iaload, 1) := by decide +kernel
theorem dX10_told_46 : decode cX10_told 46 = .ok (.ireturn, 1) := by decide +kernel
theorem dX10_told_47 : decode cX10_told 47 = .ok (.aload_n 0, 1) := by decide +kernel
theorem dX10_told_48 : decode cX10_told 48 = .ok (.getfield 17, 3) := by decide +kernel
theorem dX10_told_51 : decode cX10_told 51 = .ok (.iconst 4, 1) := by decide +kernel
theorem dX10_told_52 : decode cX10_told 52 = .ok (.iaload, 1) := by decide +kernel
theorem dX10_told_53 : decode cX10_told 53 = .ok (.ireturn, 1) := by decide +kernel
theorem dX10_told_54 : decode cX10_told 54 = .ok (.aload_n 0, 1) := by decide +kernel
theorem dX10_told_55 : decode cX10_told 55 = .ok (.getfield 17, 3) := by decide +kernel
theorem dX10_told_58 : decode cX10_told 58 = .ok (.iconst 0, 1) := by decide +kernel
theorem dX10_told_59 : decode cX10_told 59 = .ok (.iaload, 1) := by decide +kernel
theorem dX10_told_60 : decode cX10_told 60 = .ok (.ireturn, 1) := by decide +kernel
theorem dX10_told_61 : decode cX10_told 61 = .ok (.aload_n 0, 1) := by decide +kernel
theorem dX10_told_62 : decode cX10_told 62 = .ok (.getfield 17, 3) := by decide +kernel
theorem dX10_told_65 : decode cX10_told 65 = .ok (.iconst 1, 1) := by decide +kernel
theorem dX10_told_66 : decode cX10_told 66 = .ok (.iaload, 1) := by decide +kernel
theorem dX10_told_67 : decode cX10_told 67 = .ok (.ireturn, 1) := by decide +kernel
theorem dX10_told_68 : decode cX10_told 68 = .ok (.aload_n 0, 1) := by decide +kernel
theorem dX10_told_69 : decode cX10_told 69 = .ok (.getfield 17, 3) := by decide +kernel
theorem dX10_told_72 : decode cX10_told 72 = .ok (.iconst 2, 1) := by decide +kernel
theorem dX10_told_73 : decode cX10_told 73 = .ok (.iaload, 1) := by decide +kernel
theorem dX10_told_74 : decode cX10_told 74 = .ok (.ireturn, 1) := by decide +kernel
theorem dX10_told_75 : decode cX10_told 75 = .ok (.aload_n 0, 1) := by decide +kernel
theorem dX10_told_76 : decode cX10_told 76 = .ok (.getfield 17, 3) := by decide +kernel
theorem dX10_told_79 : decode cX10_told 79 = .ok (.iconst 5, 1) := by decide +kernel
theorem dX10_told_80 : decode cX10_told 80 = .ok (.iaload, 1) := by decide +kernel
theorem dX10_told_81 : decode cX10_told 81 = .ok (.ireturn, 1) := by decide +kernel
theorem dX10_told_82 : decode cX10_told 82 = .ok (.iload_n 1, 1) := by decide +kernel
theorem dX10_told_83 : decode cX10_told 83 = .ok (.i2l, 1) := by decide +kernel
theorem dX10_told_84 : decode cX10_told 84 = .ok (.ldc2_w 245, 3) := by decide +kernel
theorem dX10_told_87 : decode cX10_told 87 = .ok (.bipush 9, 2) := by decide +kernel
theorem dX10_told_89 : decode cX10_told 89 = .ok (.aload_n 0, 1) := by decide +kernel
theorem dX10_told_90 : decode cX10_told 90 = .ok (.getfield 17, 3) := by decide +kernel
theorem dX10_told_93 : decode cX10_told 93 = .ok (.iconst 3, 1) := by decide +kernel
theorem dX10_told_94 : decode cX10_told 94 = .ok (.iaload, 1) := by decide +kernel
theorem dX10_told_95 : decode cX10_told 95 = .ok (.iadd, 1) := by decide +kernel
theorem dX10_told_96 : decode cX10_told 96 = .ok (.i2l, 1) := by decide +kernel
theorem dX10_told_97 : decode cX10_told 97 = .ok (.invokestatic 174, 3) := by decide +kernel
theorem dX10_told_100 : decode cX10_told 100 = .ok (.ifCond .eq 13, 3) := by decide +kernel
theorem dX10_told_103 : decode cX10_told 103 = .ok (.aload_n 0, 1) := by decide +kernel
theorem dX10_told_104 : decode cX10_told 104 = .ok (.getfield 28, 3) := by decide +kernel
theorem dX10_told_107 : decode cX10_told 107 = .ok (.iload_n 1, 1) := by decide +kernel
theorem dX10_told_108 : decode cX10_told 108 = .ok (.bipush 10, 2) := by decide +kernel
theorem dX10_told_110 : decode cX10_told 110 = .ok (.isub, 1) := by decide +kernel
theorem dX10_told_111 : decode cX10_told 111 = .ok (.iaload, 1) := by decide +kernel
theorem dX10_told_112 : decode cX10_told 112 = .ok (.ireturn, 1) := by decide +kernel
theorem dX10_told_113 : decode cX10_told 113 = .ok (.iload_n 1, 1) := by decide +kernel
theorem dX10_told_114 : decode cX10_told 114 = .ok (.i2l, 1) := by decide +kernel
theorem dX10_told_115 : decode cX10_told 115 = .ok (.ldc2_w 247, 3) := by decide +kernel
theorem dX10_told_118 : decode cX10_told 118 = .ok (.bipush 19, 2) := by decide +kernel
theorem dX10_told_120 : decode cX10_told 120 = .ok (.aload_n 0, 1) := by decide +kernel
theorem dX10_told_121 : decode cX10_told 121 = .ok (.getfield 17, 3) := by decide +kernel
theorem dX10_told_124 : decode cX10_told 124 = .ok (.iconst 4, 1) := by decide +kernel
theorem dX10_told_125 : decode cX10_told 125 = .ok (.iaload, 1) := by decide +kernel
theorem dX10_told_126 : decode cX10_told 126 = .ok (.iadd, 1) := by decide +kernel
theorem dX10_told_127 : decode cX10_told 127 = .ok (.i2l, 1) := by decide +kernel
theorem dX10_told_128 : decode cX10_told 128 = .ok (.invokestatic 174, 3) := by decide +kernel
theorem dX10_told_131 : decode cX10_told 131 = .ok (.ifCond .eq 13, 3) := by decide +kernel
theorem dX10_told_134 : decode cX10_told 134 = .ok (.aload_n 0, 1) := by decide +kernel
theorem dX10_told_135 : decode cX10_told 135 = .ok (.getfield 31, 3) := by decide +kernel
theorem dX10_told_138 : decode cX10_told 138 = .ok (.iload_n 1, 1) := by decide +kernel
theorem dX10_told_139 : decode cX10_told 139 = .ok (.bipush 20, 2) := by decide +kernel
theorem dX10_told_141 : decode cX10_told 141 = .ok (.isub, 1) := by decide +kernel
theorem dX10_told_142 : decode cX10_told 142 = .ok (.iaload, 1) := by decide +kernel
theorem dX10_told_143 : decode cX10_told 143 = .ok (.ireturn, 1) := by decide +kernel
theorem dX10_told_144 : decode cX10_told 144 = .ok (.iload_n 1, 1) := by decide +kernel
theorem dX10_told_145 : decode cX10_told 145 = .ok (.i2l, 1) := by decide +kernel
theorem dX10_told_146 : decode cX10_told 146 = .ok (.ldc2_w 249, 3) := by decide +kernel
theorem dX10_told_149 : decode cX10_told 149 = .ok (.bipush 29, 2) := by decide +kernel
theorem dX10_told_151 : decode cX10_told 151 = .ok (.aload_n 0, 1) := by decide +kernel
theorem dX10_told_152 : decode cX10_told 152 = .ok (.getfield 17, 3) := by decide +kernel
theorem dX10_told_155 : decode cX10_told 155 = .ok (.iconst 5, 1) := by decide +kernel
theorem dX10_told_156 : decode cX10_told 156 = .ok (.iaload, 1) := by decide +kernel
theorem dX10_told_157 : decode cX10_told 157 = .ok (.iadd, 1) := by decide +kernel
theorem dX10_told_158 : decode cX10_told 158 = .ok (.i2l, 1) := by decide +kernel
theorem dX10_told_159 : decode cX10_told 159 = .ok (.invokestatic 174, 3) := by decide +kernel
theorem dX10_told_162 : decode cX10_told 162 = .ok (.ifCond .eq 13, 3) := by decide +kernel
theorem dX10_told_165 : decode cX10_told 165 = .ok (.aload_n 0, 1) := by decide +kernel
theorem dX10_told_166 : decode cX10_told 166 = .ok (.getfield 37, 3) := by decide +kernel
theorem dX10_told_169 : decode cX10_told 169 = .ok (.iload_n 1, 1) := by decide +kernel
theorem dX10_told_170 : decode cX10_told 170 = .ok (.bipush 30, 2) := by decide +kernel
theorem dX10_told_172 : decode cX10_told 172 = .ok (.isub, 1) := by decide +kernel
theorem dX10_told_173 : decode cX10_told 173 = .ok (.iaload, 1) := by decide +kernel
theorem dX10_told_174 : decode cX10_told 174 = .ok (.ireturn, 1) := by decide +kernel
theorem dX10_told_175 : decode cX10_told 175 = .ok (.iload_n 1, 1) := by decide +kernel
theorem dX10_told_176 : decode cX10_told 176 = .ok (.i2l, 1) := by decide +kernel
theorem dX10_told_177 : decode cX10_told 177 = .ok (.ldc2_w 251, 3) := by decide +kernel
theorem dX10_told_180 : decode cX10_told 180 = .ok (.bipush 38, 2) := by decide +kernel
theorem dX10_told_182 : decode cX10_told 182 = .ok (.aload_n 0, 1) := by decide +kernel
theorem dX10_told_183 : decode cX10_told 183 = .ok (.getfield 17, 3) := by decide +kernel
theorem dX10_told_186 : decode cX10_told 186 = .ok (.iconst 5, 1) := by decide +kernel
theorem dX10_told_187 : decode cX10_told 187 = .ok (.iaload, 1) := by decide +kernel
theorem dX10_told_188 : decode cX10_told 188 = .ok (.iadd, 1) := by decide +kernel
theorem dX10_told_189 : decode cX10_told 189 = .ok (.i2l, 1) := by decide +kernel
theorem dX10_told_190 : decode cX10_told 190 = .ok (.invokestatic 174, 3) := by decide +kernel
theorem dX10_told_193 : decode cX10_told 193 = .ok (.ifCond .eq 15, 3) := by decide +kernel
theorem dX10_told_196 : decode cX10_told 196 = .ok (.aload_n 0, 1) := by decide +kernel
theorem dX10_told_197 : decode cX10_told 197 = .ok (.getfield 40, 3) := by decide +kernel
theorem dX10_told_200 : decode cX10_told 200 = .ok (.iload_n 1, 1) := by decide +kernel
theorem dX10_told_201 : decode cX10_told 201 = .ok (.bipush 40, 2) := by decide +kernel
theorem dX10_told_203 : decode cX10_told 203 = .ok (.isub, 1) := by decide +kernel
theorem dX10_told_204 : decode cX10_told 204 = .ok (.iaload, 1) := by decide +kernel
theorem dX10_told_205 : decode cX10_told 205 = .ok (.goto 4, 3) := by decide +kernel
theorem dX10_told_208 : decode cX10_told 208 = .ok (.iconst (-1), 1) := by decide +kernel
theorem dX10_told_209 : decode cX10_told 209 = .ok (.ireturn, 1) := by decide +kernel
theorem kk_X10_readFeel_0 : Cond.fieldLink RX10 37 "PaidBySignsModel" "rates" "[I" ∈ wsX10_readFeel := by decide +kernel
theorem kk_X10_readFeel_1 : Cond.fieldLink RX10 178 "PaidBySignsModel" "got" "I" ∈ wsX10_readFeel := by decide +kernel
theorem kk_X10_readFeel_2 : Cond.fieldLink RX10 143 "PaidBySignsModel" "sort" "I" ∈ wsX10_readFeel := by decide +kernel
theorem kk_X10_readFeel_3 : Cond.fieldLink RX10 17 "PaidBySignsModel" "num" "[I" ∈ wsX10_readFeel := by decide +kernel
theorem kk_X10_readFeel_4 : Cond.fieldLink RX10 165 "PaidBySignsModel" "number" "I" ∈ wsX10_readFeel := by decide +kernel
theorem kk_X10_readFeel_5 : Cond.constantLong RX10 224 (99) ∈ wsX10_readFeel := by decide +kernel
theorem kk_X10_readFeel_6 : Cond.fieldLink RX10 40 "PaidBySignsModel" "marks" "[I" ∈ wsX10_readFeel := by decide +kernel
theorem kk_X10_readRest_0 : Cond.fieldLink RX10 143 "PaidBySignsModel" "sort" "I" ∈ wsX10_readRest := by decide +kernel
theorem kk_X10_readRest_1 : Cond.constantLong RX10 226 (6) ∈ wsX10_readRest := by decide +kernel
theorem kk_X10_readRest_2 : Cond.constantLong RX10 228 (8) ∈ wsX10_readRest := by decide +kernel
theorem kk_X10_readRest_3 : Cond.fieldLink RX10 187 "PaidBySignsModel" "seen" "I" ∈ wsX10_readRest := by decide +kernel
theorem kk_X10_readRest_4 : Cond.fieldLink RX10 17 "PaidBySignsModel" "num" "[I" ∈ wsX10_readRest := by decide +kernel
theorem kk_X10_readRest_5 : Cond.fieldLink RX10 178 "PaidBySignsModel" "got" "I" ∈ wsX10_readRest := by decide +kernel
theorem kk_X10_readRest_6 : Cond.fieldLink RX10 140 "PaidBySignsModel" "key" "I" ∈ wsX10_readRest := by decide +kernel
theorem kk_X10_readHire_0 : Cond.fieldLink RX10 17 "PaidBySignsModel" "num" "[I" ∈ wsX10_readHire := by decide +kernel
theorem kk_X10_readHire_1 : Cond.fieldLink RX10 143 "PaidBySignsModel" "sort" "I" ∈ wsX10_readHire := by decide +kernel
theorem kk_X10_readHire_2 : Cond.fieldLink RX10 178 "PaidBySignsModel" "got" "I" ∈ wsX10_readHire := by decide +kernel
theorem kk_X10_hire_0 : Cond.fieldLink RX10 112 "PaidBySignsModel" "taped" "I" ∈ wsX10_hire := by decide +kernel
theorem kk_X10_hire_1 : Cond.fieldLink RX10 115 "PaidBySignsModel" "size" "I" ∈ wsX10_hire := by decide +kernel
theorem kk_X10_hire_2 : Cond.fieldLink RX10 134 "PaidBySignsModel" "end" "I" ∈ wsX10_hire := by decide +kernel
theorem kk_X10_hire_3 : Cond.fieldLink RX10 168 "PaidBySignsModel" "faultKind" "I" ∈ wsX10_hire := by decide +kernel
theorem kk_X10_hire_4 : Cond.fieldLink RX10 13 "PaidBySignsModel" "faultPlace" "I" ∈ wsX10_hire := by decide +kernel
theorem kk_X10_hire_5 : Cond.fieldLink RX10 17 "PaidBySignsModel" "num" "[I" ∈ wsX10_hire := by decide +kernel
theorem kk_X10_told_0 : Cond.fieldLink RX10 17 "PaidBySignsModel" "num" "[I" ∈ wsX10_told := by decide +kernel
theorem kk_X10_told_1 : Cond.constantLong RX10 245 (10) ∈ wsX10_told := by decide +kernel
theorem kk_X10_told_2 : Cond.constantLong RX10 247 (20) ∈ wsX10_told := by decide +kernel
theorem kk_X10_told_3 : Cond.constantLong RX10 249 (30) ∈ wsX10_told := by decide +kernel
theorem kk_X10_told_4 : Cond.constantLong RX10 251 (40) ∈ wsX10_told := by decide +kernel
theorem kk_X10_told_5 : Cond.fieldLink RX10 40 "PaidBySignsModel" "marks" "[I" ∈ wsX10_told := by decide +kernel
theorem kk_X10_told_6 : Cond.fieldLink RX10 37 "PaidBySignsModel" "rates" "[I" ∈ wsX10_told := by decide +kernel
theorem kk_X10_told_7 : Cond.fieldLink RX10 31 "PaidBySignsModel" "costs" "[I" ∈ wsX10_told := by decide +kernel
theorem kk_X10_told_8 : Cond.fieldLink RX10 28 "PaidBySignsModel" "brings" "[I" ∈ wsX10_told := by decide +kernel
theorem iw_X10_readFeel_X10 : ∀ w ∈ wsX100, w ∈ wsX10_readFeel := by decide +kernel
theorem iw_X10_readRest_X10 : ∀ w ∈ wsX100, w ∈ wsX10_readRest := by decide +kernel
theorem iw_X10_readHire_X10 : ∀ w ∈ wsX100, w ∈ wsX10_readHire := by decide +kernel
theorem iw_X10_hire_X10 : ∀ w ∈ wsX100, w ∈ wsX10_hire := by decide +kernel
theorem iw_X10_told_X10 : ∀ w ∈ wsX100, w ∈ wsX10_told := by decide +kernel
