abbrev cX7_readSigns : ByteArray := prog_9_method_6_code
def yX7_readSigns : MethodName := ⟨RX7, "readSigns", "()Z"⟩
abbrev cX7_readSign : ByteArray := prog_9_method_7_code
def yX7_readSign : MethodName := ⟨RX7, "readSign", "()Z"⟩
abbrev cX7_readChances : ByteArray := prog_9_method_10_code
def yX7_readChances : MethodName := ⟨RX7, "readChances", "([I)Z"⟩
abbrev cX7_passWord : ByteArray := prog_9_method_17_code
def yX7_passWord : MethodName := ⟨RX7, "passWord", "(Ljava/lang/String;)Z"⟩
abbrev cX7_passName : ByteArray := prog_9_method_18_code
def yX7_passName : MethodName := ⟨RX7, "passName", "(I)Z"⟩
def wsX7_passName_r1 : List Cond := [Cond.fieldLink RX7 35 "PaidBySigns$Reader" "token" "I", Cond.fieldLink RX7 44 "PaidBySigns$Reader" "nameStart" "[I", Cond.fieldLink RX7 48 "PaidBySigns$Reader" "nameEnd" "[I", Cond.fieldLink RX7 38 "PaidBySigns$Reader" "start" "I", Cond.fieldLink RX7 32 "PaidBySigns$Reader" "next" "I", Cond.methodLink RX7 100 yX7_fail, Cond.instanceMethod yX7_fail, Cond.selects RX7 yX7_fail yX7_fail, Cond.initialized RX7, Cond.code yX7_fail cX7_fail 2 (some .boolean), Cond.fieldLink RX7 15 "PaidBySigns$Reader" "faultKind" "I", Cond.fieldLink RX7 18 "PaidBySigns$Reader" "faultPlace" "I", Cond.methodLink RX7 168 yX7_isSameRun, Cond.instanceMethod yX7_isSameRun, Cond.selects RX7 yX7_isSameRun yX7_isSameRun, Cond.code yX7_isSameRun cX7_isSameRun 4 (some .boolean), Cond.fieldLink RX7 28 "PaidBySigns$Reader" "text" "[B", Cond.methodLink RX7 64 yX7_advance, Cond.instanceMethod yX7_advance, Cond.selects RX7 yX7_advance yX7_advance, Cond.code yX7_advance cX7_advance 1 none, Cond.fieldLink RX7 9 "PaidBySigns$Reader" "length" "I", Cond.methodLink RX7 180 yX7_kindOf, Cond.static yX7_kindOf]
def wsX7_passName_r2 : List Cond := [Cond.code yX7_kindOf cX7_kindOf 1 (some .int), Cond.methodLink RX7 184 yX7_takeRun, Cond.instanceMethod yX7_takeRun, Cond.selects RX7 yX7_takeRun yX7_takeRun, Cond.code yX7_takeRun cX7_takeRun 2 none]
def wsX7_passName : List Cond := .code yX7_passName cX7_passName 3 (some .boolean) :: ((wsX7_passName_r1 ++ wsX7_passName_r2) ++ wsX70)
def wsX7_passWord_r1 : List Cond := [Cond.methodLink RX7 82 yX7_isWord, Cond.instanceMethod yX7_isWord, Cond.selects RX7 yX7_isWord yX7_isWord, Cond.initialized RX7, Cond.code yX7_isWord cX7_isWord 3 (some .boolean), Cond.fieldLink RX7 35 "PaidBySigns$Reader" "token" "I", Cond.fieldLink RX7 32 "PaidBySigns$Reader" "next" "I", Cond.fieldLink RX7 38 "PaidBySigns$Reader" "start" "I", Cond.fieldLink RX7 28 "PaidBySigns$Reader" "text" "[B", Cond.methodLink RX7 171 yJ0_length_8abf5, Cond.instanceMethod yJ0_length_8abf5, Cond.selects RJ0 yJ0_length_8abf5 yJ0_length_8abf5, Cond.initialized RJ0, Cond.code yJ0_length_8abf5 cJ0_length_8abf5 1 (some .int), Cond.fieldLink RJ0 9 "java/lang/String" "value" "[B", Cond.methodLink RJ0 335 yJ0_coder_7d493, Cond.instanceMethod yJ0_coder_7d493, Cond.selects RJ0 yJ0_coder_7d493 yJ0_coder_7d493, Cond.code yJ0_coder_7d493 cJ0_coder_7d493 1 (some .byte), Cond.fieldLink RJ0 38 "java/lang/String" "COMPACT_STRINGS" "Z", Cond.fieldLink RJ0 15 "java/lang/String" "coder" "B", Cond.methodLink RX7 176 yJ0_charAt_5068e, Cond.instanceMethod yJ0_charAt_5068e, Cond.selects RJ0 yJ0_charAt_5068e yJ0_charAt_5068e]
def wsX7_passWord_r2 : List Cond := [Cond.code yJ0_charAt_5068e cJ0_charAt_5068e 2 (some .char), Cond.methodLink RJ0 492 yJ0_isLatin1_aae02, Cond.instanceMethod yJ0_isLatin1_aae02, Cond.selects RJ0 yJ0_isLatin1_aae02 yJ0_isLatin1_aae02, Cond.code yJ0_isLatin1_aae02 cJ0_isLatin1_aae02 1 (some .boolean), Cond.methodLink RJ0 495 yJ1_charAt_3b067, Cond.static yJ1_charAt_3b067, Cond.initialized RJ1, Cond.code yJ1_charAt_3b067 cJ1_charAt_3b067 2 (some .char), Cond.methodLink RJ1 9 yJ0_checkIndex_df160, Cond.static yJ0_checkIndex_df160, Cond.code yJ0_checkIndex_df160 cJ0_checkIndex_df160 2 none, Cond.fieldLink RJ0 1053 "jdk/internal/util/Preconditions" "SIOOBE_FORMATTER" "Ljava/util/function/BiFunction;", Cond.methodLink RJ0 1059 yJ3_checkIndex_8e157, Cond.static yJ3_checkIndex_8e157, Cond.initialized RJ3, Cond.code yJ3_checkIndex_8e157 cJ3_checkIndex_8e157 3 (some .int), Cond.methodLink RJ0 498 yJ2_charAt_3b067, Cond.static yJ2_charAt_3b067, Cond.initialized RJ2, Cond.code yJ2_charAt_3b067 cJ2_charAt_3b067 2 (some .char), Cond.methodLink RJ2 67 yJ2_checkIndex_2214a, Cond.static yJ2_checkIndex_2214a, Cond.code yJ2_checkIndex_2214a cJ2_checkIndex_2214a 2 none]
def wsX7_passWord_r3 : List Cond := [Cond.methodLink RJ2 48 yJ2_length_9d52b, Cond.static yJ2_length_9d52b, Cond.code yJ2_length_9d52b cJ2_length_9d52b 1 (some .int), Cond.methodLink RJ2 414 yJ0_checkIndex_df160, Cond.methodLink RJ2 71 yJ2_getChar_3b067, Cond.static yJ2_getChar_3b067, Cond.code yJ2_getChar_3b067 cJ2_getChar_3b067 2 (some .char), Cond.fieldLink RJ2 44 "java/lang/StringUTF16" "$assertionsDisabled" "Z", Cond.fieldLink RJ2 59 "java/lang/StringUTF16" "HI_BYTE_SHIFT" "I", Cond.fieldLink RJ2 63 "java/lang/StringUTF16" "LO_BYTE_SHIFT" "I", Cond.methodLink RX7 100 yX7_fail, Cond.instanceMethod yX7_fail, Cond.selects RX7 yX7_fail yX7_fail, Cond.code yX7_fail cX7_fail 2 (some .boolean), Cond.fieldLink RX7 15 "PaidBySigns$Reader" "faultKind" "I", Cond.fieldLink RX7 18 "PaidBySigns$Reader" "faultPlace" "I", Cond.methodLink RX7 64 yX7_advance, Cond.instanceMethod yX7_advance, Cond.selects RX7 yX7_advance yX7_advance, Cond.code yX7_advance cX7_advance 1 none, Cond.fieldLink RX7 9 "PaidBySigns$Reader" "length" "I", Cond.methodLink RX7 180 yX7_kindOf, Cond.static yX7_kindOf, Cond.code yX7_kindOf cX7_kindOf 1 (some .int)]
def wsX7_passWord_r4 : List Cond := [Cond.methodLink RX7 184 yX7_takeRun, Cond.instanceMethod yX7_takeRun, Cond.selects RX7 yX7_takeRun yX7_takeRun, Cond.code yX7_takeRun cX7_takeRun 2 none]
def wsX7_passWord : List Cond := .code yX7_passWord cX7_passWord 2 (some .boolean) :: ((wsX7_passWord_r1 ++ (wsX7_passWord_r2 ++ (wsX7_passWord_r3 ++ wsX7_passWord_r4))) ++ wsX70)
def wsX7_readSign_r1 : List Cond := [Cond.fieldLink RX7 24 "PaidBySigns$Reader" "into" "LPaidBySigns$Hire;", Cond.fieldLink RX7 95 "PaidBySigns$Hire" "signs" "I", Cond.fieldLink RX7 115 "PaidBySigns$Hire" "brings" "[I", Cond.fieldLink RX7 41 "PaidBySigns$Reader" "value" "I", Cond.methodLink RX7 64 yX7_advance, Cond.instanceMethod yX7_advance, Cond.selects RX7 yX7_advance yX7_advance, Cond.initialized RX7, Cond.code yX7_advance cX7_advance 1 none, Cond.fieldLink RX7 32 "PaidBySigns$Reader" "next" "I", Cond.fieldLink RX7 9 "PaidBySigns$Reader" "length" "I", Cond.fieldLink RX7 28 "PaidBySigns$Reader" "text" "[B", Cond.fieldLink RX7 38 "PaidBySigns$Reader" "start" "I", Cond.fieldLink RX7 35 "PaidBySigns$Reader" "token" "I", Cond.methodLink RX7 180 yX7_kindOf, Cond.static yX7_kindOf, Cond.code yX7_kindOf cX7_kindOf 1 (some .int), Cond.methodLink RX7 184 yX7_takeRun, Cond.instanceMethod yX7_takeRun, Cond.selects RX7 yX7_takeRun yX7_takeRun, Cond.code yX7_takeRun cX7_takeRun 2 none, Cond.methodLink RX7 107 yX7_passName, Cond.instanceMethod yX7_passName, Cond.selects RX7 yX7_passName yX7_passName]
def wsX7_readSign_r2 : List Cond := [Cond.code yX7_passName cX7_passName 3 (some .boolean), Cond.fieldLink RX7 44 "PaidBySigns$Reader" "nameStart" "[I", Cond.fieldLink RX7 48 "PaidBySigns$Reader" "nameEnd" "[I", Cond.methodLink RX7 100 yX7_fail, Cond.instanceMethod yX7_fail, Cond.selects RX7 yX7_fail yX7_fail, Cond.code yX7_fail cX7_fail 2 (some .boolean), Cond.fieldLink RX7 15 "PaidBySigns$Reader" "faultKind" "I", Cond.fieldLink RX7 18 "PaidBySigns$Reader" "faultPlace" "I", Cond.methodLink RX7 168 yX7_isSameRun, Cond.instanceMethod yX7_isSameRun, Cond.selects RX7 yX7_isSameRun yX7_isSameRun, Cond.code yX7_isSameRun cX7_isSameRun 4 (some .boolean), Cond.methodLink RX7 112 yX7_passWord, Cond.instanceMethod yX7_passWord, Cond.selects RX7 yX7_passWord yX7_passWord, Cond.code yX7_passWord cX7_passWord 2 (some .boolean), Cond.methodLink RX7 82 yX7_isWord, Cond.instanceMethod yX7_isWord, Cond.selects RX7 yX7_isWord yX7_isWord, Cond.code yX7_isWord cX7_isWord 3 (some .boolean), Cond.methodLink RX7 171 yJ0_length_8abf5, Cond.instanceMethod yJ0_length_8abf5, Cond.selects RJ0 yJ0_length_8abf5 yJ0_length_8abf5]
def wsX7_readSign_r3 : List Cond := [Cond.initialized RJ0, Cond.code yJ0_length_8abf5 cJ0_length_8abf5 1 (some .int), Cond.fieldLink RJ0 9 "java/lang/String" "value" "[B", Cond.methodLink RJ0 335 yJ0_coder_7d493, Cond.instanceMethod yJ0_coder_7d493, Cond.selects RJ0 yJ0_coder_7d493 yJ0_coder_7d493, Cond.code yJ0_coder_7d493 cJ0_coder_7d493 1 (some .byte), Cond.fieldLink RJ0 38 "java/lang/String" "COMPACT_STRINGS" "Z", Cond.fieldLink RJ0 15 "java/lang/String" "coder" "B", Cond.methodLink RX7 176 yJ0_charAt_5068e, Cond.instanceMethod yJ0_charAt_5068e, Cond.selects RJ0 yJ0_charAt_5068e yJ0_charAt_5068e, Cond.code yJ0_charAt_5068e cJ0_charAt_5068e 2 (some .char), Cond.methodLink RJ0 492 yJ0_isLatin1_aae02, Cond.instanceMethod yJ0_isLatin1_aae02, Cond.selects RJ0 yJ0_isLatin1_aae02 yJ0_isLatin1_aae02, Cond.code yJ0_isLatin1_aae02 cJ0_isLatin1_aae02 1 (some .boolean), Cond.methodLink RJ0 495 yJ1_charAt_3b067, Cond.static yJ1_charAt_3b067, Cond.initialized RJ1, Cond.code yJ1_charAt_3b067 cJ1_charAt_3b067 2 (some .char), Cond.methodLink RJ1 9 yJ0_checkIndex_df160, Cond.static yJ0_checkIndex_df160, Cond.code yJ0_checkIndex_df160 cJ0_checkIndex_df160 2 none]
def wsX7_readSign_r4 : List Cond := [Cond.fieldLink RJ0 1053 "jdk/internal/util/Preconditions" "SIOOBE_FORMATTER" "Ljava/util/function/BiFunction;", Cond.methodLink RJ0 1059 yJ3_checkIndex_8e157, Cond.static yJ3_checkIndex_8e157, Cond.initialized RJ3, Cond.code yJ3_checkIndex_8e157 cJ3_checkIndex_8e157 3 (some .int), Cond.methodLink RJ0 498 yJ2_charAt_3b067, Cond.static yJ2_charAt_3b067, Cond.initialized RJ2, Cond.code yJ2_charAt_3b067 cJ2_charAt_3b067 2 (some .char), Cond.methodLink RJ2 67 yJ2_checkIndex_2214a, Cond.static yJ2_checkIndex_2214a, Cond.code yJ2_checkIndex_2214a cJ2_checkIndex_2214a 2 none, Cond.methodLink RJ2 48 yJ2_length_9d52b, Cond.static yJ2_length_9d52b, Cond.code yJ2_length_9d52b cJ2_length_9d52b 1 (some .int), Cond.methodLink RJ2 414 yJ0_checkIndex_df160, Cond.methodLink RJ2 71 yJ2_getChar_3b067, Cond.static yJ2_getChar_3b067, Cond.code yJ2_getChar_3b067 cJ2_getChar_3b067 2 (some .char), Cond.fieldLink RJ2 44 "java/lang/StringUTF16" "$assertionsDisabled" "Z", Cond.fieldLink RJ2 59 "java/lang/StringUTF16" "HI_BYTE_SHIFT" "I", Cond.fieldLink RJ2 63 "java/lang/StringUTF16" "LO_BYTE_SHIFT" "I", Cond.methodLink RX7 86 yX7_isNumber, Cond.instanceMethod yX7_isNumber]
def wsX7_readSign_r5 : List Cond := [Cond.selects RX7 yX7_isNumber yX7_isNumber, Cond.code yX7_isNumber cX7_isNumber 4 (some .boolean), Cond.methodLink RX7 92 yX7_passSemicolon, Cond.instanceMethod yX7_passSemicolon, Cond.selects RX7 yX7_passSemicolon yX7_passSemicolon, Cond.code yX7_passSemicolon cX7_passSemicolon 1 (some .boolean)]
def wsX7_readSign : List Cond := .code yX7_readSign cX7_readSign 1 (some .boolean) :: ((wsX7_readSign_r1 ++ (wsX7_readSign_r2 ++ (wsX7_readSign_r3 ++ (wsX7_readSign_r4 ++ wsX7_readSign_r5)))) ++ wsX70 ++ wsX30)
def wsX7_readSigns_r1 : List Cond := [Cond.fieldLink RX7 24 "PaidBySigns$Reader" "into" "LPaidBySigns$Hire;", Cond.fieldLink RX7 95 "PaidBySigns$Hire" "signs" "I", Cond.methodLink RX7 82 yX7_isWord, Cond.instanceMethod yX7_isWord, Cond.selects RX7 yX7_isWord yX7_isWord, Cond.initialized RX7, Cond.code yX7_isWord cX7_isWord 3 (some .boolean), Cond.fieldLink RX7 35 "PaidBySigns$Reader" "token" "I", Cond.fieldLink RX7 32 "PaidBySigns$Reader" "next" "I", Cond.fieldLink RX7 38 "PaidBySigns$Reader" "start" "I", Cond.fieldLink RX7 28 "PaidBySigns$Reader" "text" "[B", Cond.methodLink RX7 171 yJ0_length_8abf5, Cond.instanceMethod yJ0_length_8abf5, Cond.selects RJ0 yJ0_length_8abf5 yJ0_length_8abf5, Cond.initialized RJ0, Cond.code yJ0_length_8abf5 cJ0_length_8abf5 1 (some .int), Cond.fieldLink RJ0 9 "java/lang/String" "value" "[B", Cond.methodLink RJ0 335 yJ0_coder_7d493, Cond.instanceMethod yJ0_coder_7d493, Cond.selects RJ0 yJ0_coder_7d493 yJ0_coder_7d493, Cond.code yJ0_coder_7d493 cJ0_coder_7d493 1 (some .byte), Cond.fieldLink RJ0 38 "java/lang/String" "COMPACT_STRINGS" "Z", Cond.fieldLink RJ0 15 "java/lang/String" "coder" "B", Cond.methodLink RX7 176 yJ0_charAt_5068e]
def wsX7_readSigns_r2 : List Cond := [Cond.instanceMethod yJ0_charAt_5068e, Cond.selects RJ0 yJ0_charAt_5068e yJ0_charAt_5068e, Cond.code yJ0_charAt_5068e cJ0_charAt_5068e 2 (some .char), Cond.methodLink RJ0 492 yJ0_isLatin1_aae02, Cond.instanceMethod yJ0_isLatin1_aae02, Cond.selects RJ0 yJ0_isLatin1_aae02 yJ0_isLatin1_aae02, Cond.code yJ0_isLatin1_aae02 cJ0_isLatin1_aae02 1 (some .boolean), Cond.methodLink RJ0 495 yJ1_charAt_3b067, Cond.static yJ1_charAt_3b067, Cond.initialized RJ1, Cond.code yJ1_charAt_3b067 cJ1_charAt_3b067 2 (some .char), Cond.methodLink RJ1 9 yJ0_checkIndex_df160, Cond.static yJ0_checkIndex_df160, Cond.code yJ0_checkIndex_df160 cJ0_checkIndex_df160 2 none, Cond.fieldLink RJ0 1053 "jdk/internal/util/Preconditions" "SIOOBE_FORMATTER" "Ljava/util/function/BiFunction;", Cond.methodLink RJ0 1059 yJ3_checkIndex_8e157, Cond.static yJ3_checkIndex_8e157, Cond.initialized RJ3, Cond.code yJ3_checkIndex_8e157 cJ3_checkIndex_8e157 3 (some .int), Cond.methodLink RJ0 498 yJ2_charAt_3b067, Cond.static yJ2_charAt_3b067, Cond.initialized RJ2, Cond.code yJ2_charAt_3b067 cJ2_charAt_3b067 2 (some .char), Cond.methodLink RJ2 67 yJ2_checkIndex_2214a]
def wsX7_readSigns_r3 : List Cond := [Cond.static yJ2_checkIndex_2214a, Cond.code yJ2_checkIndex_2214a cJ2_checkIndex_2214a 2 none, Cond.methodLink RJ2 48 yJ2_length_9d52b, Cond.static yJ2_length_9d52b, Cond.code yJ2_length_9d52b cJ2_length_9d52b 1 (some .int), Cond.methodLink RJ2 414 yJ0_checkIndex_df160, Cond.methodLink RJ2 71 yJ2_getChar_3b067, Cond.static yJ2_getChar_3b067, Cond.code yJ2_getChar_3b067 cJ2_getChar_3b067 2 (some .char), Cond.fieldLink RJ2 44 "java/lang/StringUTF16" "$assertionsDisabled" "Z", Cond.fieldLink RJ2 59 "java/lang/StringUTF16" "HI_BYTE_SHIFT" "I", Cond.fieldLink RJ2 63 "java/lang/StringUTF16" "LO_BYTE_SHIFT" "I", Cond.methodLink RX7 100 yX7_fail, Cond.instanceMethod yX7_fail, Cond.selects RX7 yX7_fail yX7_fail, Cond.code yX7_fail cX7_fail 2 (some .boolean), Cond.fieldLink RX7 15 "PaidBySigns$Reader" "faultKind" "I", Cond.fieldLink RX7 18 "PaidBySigns$Reader" "faultPlace" "I", Cond.methodLink RX7 104 yX7_readSign, Cond.instanceMethod yX7_readSign, Cond.selects RX7 yX7_readSign yX7_readSign, Cond.code yX7_readSign cX7_readSign 1 (some .boolean), Cond.fieldLink RX7 115 "PaidBySigns$Hire" "brings" "[I", Cond.fieldLink RX7 41 "PaidBySigns$Reader" "value" "I"]
def wsX7_readSigns_r4 : List Cond := [Cond.methodLink RX7 64 yX7_advance, Cond.instanceMethod yX7_advance, Cond.selects RX7 yX7_advance yX7_advance, Cond.code yX7_advance cX7_advance 1 none, Cond.fieldLink RX7 9 "PaidBySigns$Reader" "length" "I", Cond.methodLink RX7 180 yX7_kindOf, Cond.static yX7_kindOf, Cond.code yX7_kindOf cX7_kindOf 1 (some .int), Cond.methodLink RX7 184 yX7_takeRun, Cond.instanceMethod yX7_takeRun, Cond.selects RX7 yX7_takeRun yX7_takeRun, Cond.code yX7_takeRun cX7_takeRun 2 none, Cond.methodLink RX7 107 yX7_passName, Cond.instanceMethod yX7_passName, Cond.selects RX7 yX7_passName yX7_passName, Cond.code yX7_passName cX7_passName 3 (some .boolean), Cond.fieldLink RX7 44 "PaidBySigns$Reader" "nameStart" "[I", Cond.fieldLink RX7 48 "PaidBySigns$Reader" "nameEnd" "[I", Cond.methodLink RX7 168 yX7_isSameRun, Cond.instanceMethod yX7_isSameRun, Cond.selects RX7 yX7_isSameRun yX7_isSameRun, Cond.code yX7_isSameRun cX7_isSameRun 4 (some .boolean), Cond.methodLink RX7 112 yX7_passWord, Cond.instanceMethod yX7_passWord]
def wsX7_readSigns_r5 : List Cond := [Cond.selects RX7 yX7_passWord yX7_passWord, Cond.code yX7_passWord cX7_passWord 2 (some .boolean), Cond.methodLink RX7 86 yX7_isNumber, Cond.instanceMethod yX7_isNumber, Cond.selects RX7 yX7_isNumber yX7_isNumber, Cond.code yX7_isNumber cX7_isNumber 4 (some .boolean), Cond.methodLink RX7 92 yX7_passSemicolon, Cond.instanceMethod yX7_passSemicolon, Cond.selects RX7 yX7_passSemicolon yX7_passSemicolon, Cond.code yX7_passSemicolon cX7_passSemicolon 1 (some .boolean)]
def wsX7_readSigns : List Cond := .code yX7_readSigns cX7_readSigns 1 (some .boolean) :: ((wsX7_readSigns_r1 ++ (wsX7_readSigns_r2 ++ (wsX7_readSigns_r3 ++ (wsX7_readSigns_r4 ++ wsX7_readSigns_r5)))) ++ wsX70 ++ wsX30)
def wsX7_readChances_r1 : List Cond := [Cond.fieldLink RX7 24 "PaidBySigns$Reader" "into" "LPaidBySigns$Hire;", Cond.fieldLink RX7 95 "PaidBySigns$Hire" "signs" "I", Cond.fieldLink RX7 90 "PaidBySigns$Hire" "whole" "I", Cond.fieldLink RX7 41 "PaidBySigns$Reader" "value" "I", Cond.methodLink RX7 86 yX7_isNumber, Cond.instanceMethod yX7_isNumber, Cond.selects RX7 yX7_isNumber yX7_isNumber, Cond.initialized RX7, Cond.code yX7_isNumber cX7_isNumber 4 (some .boolean), Cond.fieldLink RX7 35 "PaidBySigns$Reader" "token" "I", Cond.fieldLink RX7 38 "PaidBySigns$Reader" "start" "I", Cond.fieldLink RX7 32 "PaidBySigns$Reader" "next" "I", Cond.fieldLink RX7 28 "PaidBySigns$Reader" "text" "[B", Cond.methodLink RX7 100 yX7_fail, Cond.instanceMethod yX7_fail, Cond.selects RX7 yX7_fail yX7_fail, Cond.code yX7_fail cX7_fail 2 (some .boolean), Cond.fieldLink RX7 15 "PaidBySigns$Reader" "faultKind" "I", Cond.fieldLink RX7 18 "PaidBySigns$Reader" "faultPlace" "I", Cond.methodLink RX7 64 yX7_advance, Cond.instanceMethod yX7_advance, Cond.selects RX7 yX7_advance yX7_advance, Cond.code yX7_advance cX7_advance 1 none, Cond.fieldLink RX7 9 "PaidBySigns$Reader" "length" "I"]
def wsX7_readChances_r2 : List Cond := [Cond.methodLink RX7 180 yX7_kindOf, Cond.static yX7_kindOf, Cond.code yX7_kindOf cX7_kindOf 1 (some .int), Cond.methodLink RX7 184 yX7_takeRun, Cond.instanceMethod yX7_takeRun, Cond.selects RX7 yX7_takeRun yX7_takeRun, Cond.code yX7_takeRun cX7_takeRun 2 none]
def wsX7_readChances : List Cond := .code yX7_readChances cX7_readChances 4 (some .boolean) :: ((wsX7_readChances_r1 ++ wsX7_readChances_r2) ++ wsX70 ++ wsX30)
set_option maxRecDepth 20000 in
theorem ggX7_readSigns_X7_isWord : GoodIn wsX7_readSigns wsX7_isWord := goodIn_r _ [7, 8, 9, 10, 11, 12, 13, 14, 15, 16, 17, 18, 19, 20, 21, 22, 23, 24, 25, 26, 27, 28, 29, 30, 31, 32, 33, 34, 35, 36, 37, 38, 39, 40, 41, 42, 43, 44, 45, 46, 47, 48, 49, 50, 51, 52, 53, 54, 55, 56, 57, 58, 59, 60, 107, 108, 109, 110, 111, 112, 113, 114, 115, 116, 117, 118, 119, 120] (by decide +kernel) (by decide +kernel)
set_option maxRecDepth 20000 in
theorem gX7_readSigns_X7_isWord : GoodIn wsX7_readSigns (wsV RX7 82 RX7 yX7_isWord wsX7_isWord) := goodIn_app (goodIn_of _ (by decide +kernel)) ggX7_readSigns_X7_isWord
set_option maxRecDepth 20000 in
theorem ggX7_readSigns_X7_fail : GoodIn wsX7_readSigns wsX7_fail := goodIn_r _ [64, 65, 10, 66, 107, 108, 109, 110, 111, 112, 113, 114, 115, 116, 117, 118, 119, 120] (by decide +kernel) (by decide +kernel)
set_option maxRecDepth 20000 in
theorem gX7_readSigns_X7_fail : GoodIn wsX7_readSigns (wsV RX7 100 RX7 yX7_fail wsX7_fail) := goodIn_app (goodIn_of _ (by decide +kernel)) ggX7_readSigns_X7_fail
set_option maxRecDepth 20000 in
theorem ggX7_readSigns_X7_readSign : GoodIn wsX7_readSigns wsX7_readSign := goodIn_r _ [70, 1, 2, 71, 72, 73, 74, 75, 6, 76, 9, 77, 11, 10, 8, 78, 79, 80, 81, 82, 83, 84, 85, 86, 87, 88, 89, 90, 61, 62, 63, 64, 65, 66, 91, 92, 93, 94, 95, 96, 97, 98, 3, 4, 5, 7, 12, 13, 14, 15, 16, 17, 18, 19, 20, 21, 22, 23, 24, 25, 26, 27, 28, 29, 30, 31, 32, 33, 34, 35, 36, 37, 38, 39, 40, 41, 42, 43, 44, 45, 46, 47, 48, 49, 50, 51, 52, 53, 54, 55, 56, 57, 58, 59, 60, 99, 100, 101, 102, 103, 104, 105, 106, 107, 108, 109, 110, 111, 112, 113, 114, 115, 116, 117, 118, 119, 120, 121, 122, 123, 124, 125, 126, 127, 128, 129, 130, 131] (by decide +kernel) (by decide +kernel)
set_option maxRecDepth 20000 in
theorem gX7_readSigns_X7_readSign : GoodIn wsX7_readSigns (wsV RX7 104 RX7 yX7_readSign wsX7_readSign) := goodIn_app (goodIn_of _ (by decide +kernel)) ggX7_readSigns_X7_readSign
theorem dX7_readSigns_0 : decode cX7_readSigns 0 = .ok (.aload_n 0, 1) := by decide +kernel
theorem dX7_readSigns_1 : decode cX7_readSigns 1 = .ok (.getfield 24, 3) := by decide +kernel
theorem dX7_readSigns_4 : decode cX7_readSigns 4 = .ok (.getfield 95, 3) := by decide +kernel
theorem dX7_readSigns_7 : decode cX7_readSigns 7 = .ok (.iconst 4, 1) := by decide +kernel
theorem dX7_readSigns_8 : decode cX7_readSigns 8 = .ok (.if_icmp .gt 54, 3) := by decide +kernel
theorem dX7_readSigns_11 : decode cX7_readSigns 11 = .ok (.aload_n 0, 1) := by decide +kernel
theorem dX7_readSigns_12 : decode cX7_readSigns 12 = .ok (.ldc 98, 2) := by decide +kernel
theorem dX7_readSigns_14 : decode cX7_readSigns 14 = .ok (.invokevirtual 82, 3) := by decide +kernel
theorem dX7_readSigns_17 : decode cX7_readSigns 17 = .ok (.ifCond .eq 45, 3) := by decide +kernel
theorem dX7_readSigns_20 : decode cX7_readSigns 20 = .ok (.aload_n 0, 1) := by decide +kernel
theorem dX7_readSigns_21 : decode cX7_readSigns 21 = .ok (.getfield 24, 3) := by decide +kernel
theorem dX7_readSigns_24 : decode cX7_readSigns 24 = .ok (.getfield 95, 3) := by decide +kernel
theorem dX7_readSigns_27 : decode cX7_readSigns 27 = .ok (.iconst 4, 1) := by decide +kernel
theorem dX7_readSigns_28 : decode cX7_readSigns 28 = .ok (.if_icmp .ne 9, 3) := by decide +kernel
theorem dX7_readSigns_31 : decode cX7_readSigns 31 = .ok (.aload_n 0, 1) := by decide +kernel
theorem dX7_readSigns_32 : decode cX7_readSigns 32 = .ok (.iconst 4, 1) := by decide +kernel
theorem dX7_readSigns_33 : decode cX7_readSigns 33 = .ok (.invokevirtual 100, 3) := by decide +kernel
theorem dX7_readSigns_36 : decode cX7_readSigns 36 = .ok (.ireturn, 1) := by decide +kernel
theorem dX7_readSigns_37 : decode cX7_readSigns 37 = .ok (.aload_n 0, 1) := by decide +kernel
theorem dX7_readSigns_38 : decode cX7_readSigns 38 = .ok (.invokevirtual 104, 3) := by decide +kernel
theorem dX7_readSigns_41 : decode cX7_readSigns 41 = .ok (.ifCond .ne 5, 3) := by decide +kernel
theorem dX7_readSigns_44 : decode cX7_readSigns 44 = .ok (.iconst 0, 1) := by decide +kernel
theorem dX7_readSigns_45 : decode cX7_readSigns 45 = .ok (.ireturn, 1) := by decide +kernel
theorem dX7_readSigns_46 : decode cX7_readSigns 46 = .ok (.aload_n 0, 1) := by decide +kernel
theorem dX7_readSigns_47 : decode cX7_readSigns 47 = .ok (.getfield 24, 3) := by decide +kernel
theorem dX7_readSigns_50 : decode cX7_readSigns 50 = .ok (.dup, 1) := by decide +kernel
theorem dX7_readSigns_51 : decode cX7_readSigns 51 = .ok (.getfield 95, 3) := by decide +kernel
theorem dX7_readSigns_54 : decode cX7_readSigns 54 = .ok (.iconst 1, 1) := by decide +kernel
theorem dX7_readSigns_55 : decode cX7_readSigns 55 = .ok (.iadd, 1) := by decide +kernel
theorem dX7_readSigns_56 : decode cX7_readSigns 56 = .ok (.putfield 95, 3) := by decide +kernel
theorem dX7_readSigns_59 : decode cX7_readSigns 59 = .ok (.goto (-59), 3) := by decide +kernel
theorem dX7_readSigns_62 : decode cX7_readSigns 62 = .ok (.aload_n 0, 1) := by decide +kernel
theorem dX7_readSigns_63 : decode cX7_readSigns 63 = .ok (.getfield 24, 3) := by decide +kernel
theorem dX7_readSigns_66 : decode cX7_readSigns 66 = .ok (.getfield 95, 3) := by decide +kernel
theorem dX7_readSigns_69 : decode cX7_readSigns 69 = .ok (.iconst 2, 1) := by decide +kernel
theorem dX7_readSigns_70 : decode cX7_readSigns 70 = .ok (.if_icmp .ge 11, 3) := by decide +kernel
theorem dX7_readSigns_73 : decode cX7_readSigns 73 = .ok (.aload_n 0, 1) := by decide +kernel
theorem dX7_readSigns_74 : decode cX7_readSigns 74 = .ok (.iconst 1, 1) := by decide +kernel
theorem dX7_readSigns_75 : decode cX7_readSigns 75 = .ok (.invokevirtual 100, 3) := by decide +kernel
theorem dX7_readSigns_78 : decode cX7_readSigns 78 = .ok (.ifCond .eq 7, 3) := by decide +kernel
theorem dX7_readSigns_81 : decode cX7_readSigns 81 = .ok (.iconst 1, 1) := by decide +kernel
theorem dX7_readSigns_82 : decode cX7_readSigns 82 = .ok (.goto 4, 3) := by decide +kernel
theorem dX7_readSigns_85 : decode cX7_readSigns 85 = .ok (.iconst 0, 1) := by decide +kernel
theorem dX7_readSigns_86 : decode cX7_readSigns 86 = .ok (.ireturn, 1) := by decide +kernel
set_option maxRecDepth 20000 in
theorem ggX7_readSign_X7_advance : GoodIn wsX7_readSign wsX7_advance := goodIn_r _ [9, 10, 11, 12, 13, 14, 15, 16, 8, 17, 18, 19, 20, 21, 103, 104, 105, 106, 107, 108, 109, 110, 111, 112, 113, 114, 115, 116] (by decide +kernel) (by decide +kernel)
set_option maxRecDepth 20000 in
theorem gX7_readSign_X7_advance : GoodIn wsX7_readSign (wsV RX7 64 RX7 yX7_advance wsX7_advance) := goodIn_app (goodIn_of _ (by decide +kernel)) ggX7_readSign_X7_advance
set_option maxRecDepth 20000 in
theorem ggX7_readSign_X7_passName : GoodIn wsX7_readSign wsX7_passName := goodIn_r _ [25, 14, 26, 27, 13, 10, 28, 29, 30, 8, 31, 32, 33, 34, 35, 36, 37, 12, 5, 6, 7, 9, 11, 15, 16, 17, 18, 19, 20, 21, 103, 104, 105, 106, 107, 108, 109, 110, 111, 112, 113, 114, 115, 116] (by decide +kernel) (by decide +kernel)
set_option maxRecDepth 20000 in
theorem gX7_readSign_X7_passName : GoodIn wsX7_readSign (wsV RX7 107 RX7 yX7_passName wsX7_passName) := goodIn_app (goodIn_of _ (by decide +kernel)) ggX7_readSign_X7_passName
set_option maxRecDepth 20000 in
theorem ggX7_readSign_X7_passWord : GoodIn wsX7_readSign wsX7_passWord := goodIn_r _ [41, 42, 43, 44, 8, 45, 14, 10, 13, 12, 46, 47, 48, 49, 50, 51, 52, 53, 54, 55, 56, 57, 58, 59, 60, 61, 62, 63, 64, 65, 66, 67, 68, 69, 70, 71, 72, 73, 74, 75, 76, 77, 78, 79, 80, 81, 82, 83, 84, 85, 86, 87, 88, 89, 90, 91, 92, 93, 94, 28, 29, 30, 31, 32, 33, 5, 6, 7, 9, 11, 15, 16, 17, 18, 19, 20, 21, 103, 104, 105, 106, 107, 108, 109, 110, 111, 112, 113, 114, 115, 116] (by decide +kernel) (by decide +kernel)
set_option maxRecDepth 20000 in
theorem gX7_readSign_X7_passWord : GoodIn wsX7_readSign (wsV RX7 112 RX7 yX7_passWord wsX7_passWord) := goodIn_app (goodIn_of _ (by decide +kernel)) ggX7_readSign_X7_passWord
set_option maxRecDepth 20000 in
theorem ggX7_readSign_X7_isNumber : GoodIn wsX7_readSign wsX7_isNumber := goodIn_r _ [98, 14, 4, 13, 10, 12, 28, 29, 30, 8, 31, 32, 33, 103, 104, 105, 106, 107, 108, 109, 110, 111, 112, 113, 114, 115, 116] (by decide +kernel) (by decide +kernel)
set_option maxRecDepth 20000 in
theorem gX7_readSign_X7_isNumber : GoodIn wsX7_readSign (wsV RX7 86 RX7 yX7_isNumber wsX7_isNumber) := goodIn_app (goodIn_of _ (by decide +kernel)) ggX7_readSign_X7_isNumber
set_option maxRecDepth 20000 in
theorem ggX7_readSign_X7_passSemicolon : GoodIn wsX7_readSign wsX7_passSemicolon := goodIn_r _ [102, 14, 28, 29, 30, 8, 31, 32, 13, 33, 5, 6, 7, 9, 10, 11, 12, 15, 16, 17, 18, 19, 20, 21, 103, 104, 105, 106, 107, 108, 109, 110, 111, 112, 113, 114, 115, 116] (by decide +kernel) (by decide +kernel)
set_option maxRecDepth 20000 in
theorem gX7_readSign_X7_passSemicolon : GoodIn wsX7_readSign (wsV RX7 92 RX7 yX7_passSemicolon wsX7_passSemicolon) := goodIn_app (goodIn_of _ (by decide +kernel)) ggX7_readSign_X7_passSemicolon
theorem dX7_readSign_0 : decode cX7_readSign 0 = .ok (.aload_n 0, 1) := by decide +kernel
theorem dX7_readSign_1 : decode cX7_readSign 1 = .ok (.invokevirtual 64, 3) := by decide +kernel
theorem dX7_readSign_4 : decode cX7_readSign 4 = .ok (.aload_n 0, 1) := by decide +kernel
theorem dX7_readSign_5 : decode cX7_readSign 5 = .ok (.aload_n 0, 1) := by decide +kernel
theorem dX7_readSign_6 : decode cX7_readSign 6 = .ok (.getfield 24, 3) := by decide +kernel
theorem dX7_readSign_9 : decode cX7_readSign 9 = .ok (.getfield 95, 3) := by decide +kernel
theorem dX7_readSign_12 : decode cX7_readSign 12 = .ok (.invokevirtual 107, 3) := by decide +kernel
theorem dX7_readSign_15 : decode cX7_readSign 15 = .ok (.ifCond .eq 23, 3) := by decide +kernel
theorem dX7_readSign_18 : decode cX7_readSign 18 = .ok (.aload_n 0, 1) := by decide +kernel
theorem dX7_readSign_19 : decode cX7_readSign 19 = .ok (.ldc 110, 2) := by decide +kernel
theorem dX7_readSign_21 : decode cX7_readSign 21 = .ok (.invokevirtual 112, 3) := by decide +kernel
theorem dX7_readSign_24 : decode cX7_readSign 24 = .ok (.ifCond .eq 14, 3) := by decide +kernel
theorem dX7_readSign_27 : decode cX7_readSign 27 = .ok (.aload_n 0, 1) := by decide +kernel
theorem dX7_readSign_28 : decode cX7_readSign 28 = .ok (.iconst 0, 1) := by decide +kernel
theorem dX7_readSign_29 : decode cX7_readSign 29 = .ok (.sipush 999, 3) := by decide +kernel
theorem dX7_readSign_32 : decode cX7_readSign 32 = .ok (.invokevirtual 86, 3) := by decide +kernel
theorem dX7_readSign_35 : decode cX7_readSign 35 = .ok (.ifCond .ne 5, 3) := by decide +kernel
theorem dX7_readSign_38 : decode cX7_readSign 38 = .ok (.iconst 0, 1) := by decide +kernel
theorem dX7_readSign_39 : decode cX7_readSign 39 = .ok (.ireturn, 1) := by decide +kernel
theorem dX7_readSign_40 : decode cX7_readSign 40 = .ok (.aload_n 0, 1) := by decide +kernel
theorem dX7_readSign_41 : decode cX7_readSign 41 = .ok (.getfield 24, 3) := by decide +kernel
theorem dX7_readSign_44 : decode cX7_readSign 44 = .ok (.getfield 115, 3) := by decide +kernel
theorem dX7_readSign_47 : decode cX7_readSign 47 = .ok (.aload_n 0, 1) := by decide +kernel
theorem dX7_readSign_48 : decode cX7_readSign 48 = .ok (.getfield 24, 3) := by decide +kernel
theorem dX7_readSign_51 : decode cX7_readSign 51 = .ok (.getfield 95, 3) := by decide +kernel
theorem dX7_readSign_54 : decode cX7_readSign 54 = .ok (.aload_n 0, 1) := by decide +kernel
theorem dX7_readSign_55 : decode cX7_readSign 55 = .ok (.getfield 41, 3) := by decide +kernel
theorem dX7_readSign_58 : decode cX7_readSign 58 = .ok (.iastore, 1) := by decide +kernel
theorem dX7_readSign_59 : decode cX7_readSign 59 = .ok (.aload_n 0, 1) := by decide +kernel
theorem dX7_readSign_60 : decode cX7_readSign 60 = .ok (.invokevirtual 64, 3) := by decide +kernel
theorem dX7_readSign_63 : decode cX7_readSign 63 = .ok (.aload_n 0, 1) := by decide +kernel
theorem dX7_readSign_64 : decode cX7_readSign 64 = .ok (.invokevirtual 92, 3) := by decide +kernel
theorem dX7_readSign_67 : decode cX7_readSign 67 = .ok (.ireturn, 1) := by decide +kernel
set_option maxRecDepth 20000 in
theorem ggX7_readChances_X7_isNumber : GoodIn wsX7_readChances wsX7_isNumber := goodIn_r _ [9, 10, 4, 11, 12, 13, 14, 15, 16, 8, 17, 18, 19, 32, 33, 34, 35, 36, 37, 38, 39, 40, 41, 42, 43, 44, 45] (by decide +kernel) (by decide +kernel)
set_option maxRecDepth 20000 in
theorem gX7_readChances_X7_isNumber : GoodIn wsX7_readChances (wsV RX7 86 RX7 yX7_isNumber wsX7_isNumber) := goodIn_app (goodIn_of _ (by decide +kernel)) ggX7_readChances_X7_isNumber
set_option maxRecDepth 20000 in
theorem ggX7_readChances_X7_fail : GoodIn wsX7_readChances wsX7_fail := goodIn_r _ [17, 18, 11, 19, 32, 33, 34, 35, 36, 37, 38, 39, 40, 41, 42, 43, 44, 45] (by decide +kernel) (by decide +kernel)
set_option maxRecDepth 20000 in
theorem gX7_readChances_X7_fail : GoodIn wsX7_readChances (wsV RX7 100 RX7 yX7_fail wsX7_fail) := goodIn_app (goodIn_of _ (by decide +kernel)) ggX7_readChances_X7_fail
set_option maxRecDepth 20000 in
theorem ggX7_readChances_X7_advance : GoodIn wsX7_readChances wsX7_advance := goodIn_r _ [23, 12, 24, 13, 11, 10, 25, 26, 8, 27, 28, 29, 30, 31, 32, 33, 34, 35, 36, 37, 38, 39, 40, 41, 42, 43, 44, 45] (by decide +kernel) (by decide +kernel)
set_option maxRecDepth 20000 in
theorem gX7_readChances_X7_advance : GoodIn wsX7_readChances (wsV RX7 64 RX7 yX7_advance wsX7_advance) := goodIn_app (goodIn_of _ (by decide +kernel)) ggX7_readChances_X7_advance
theorem dX7_readChances_0 : decode cX7_readChances 0 = .ok (.iconst 0, 1) := by decide +kernel
theorem dX7_readChances_1 : decode cX7_readChances 1 = .ok (.istore_n 2, 1) := by decide +kernel
theorem dX7_readChances_2 : decode cX7_readChances 2 = .ok (.iconst 0, 1) := by decide +kernel
theorem dX7_readChances_3 : decode cX7_readChances 3 = .ok (.istore_n 3, 1) := by decide +kernel
theorem dX7_readChances_4 : decode cX7_readChances 4 = .ok (.iload_n 3, 1) := by decide +kernel
theorem dX7_readChances_5 : decode cX7_readChances 5 = .ok (.aload_n 0, 1) := by decide +kernel
theorem dX7_readChances_6 : decode cX7_readChances 6 = .ok (.getfield 24, 3) := by decide +kernel
theorem dX7_readChances_9 : decode cX7_readChances 9 = .ok (.getfield 95, 3) := by decide +kernel
theorem dX7_readChances_12 : decode cX7_readChances 12 = .ok (.if_icmp .ge 74, 3) := by decide +kernel
theorem dX7_readChances_15 : decode cX7_readChances 15 = .ok (.aload_n 0, 1) := by decide +kernel
theorem dX7_readChances_16 : decode cX7_readChances 16 = .ok (.iconst 0, 1) := by decide +kernel
theorem dX7_readChances_17 : decode cX7_readChances 17 = .ok (.aload_n 0, 1) := by decide +kernel
theorem dX7_readChances_18 : decode cX7_readChances 18 = .ok (.getfield 24, 3) := by decide +kernel
theorem dX7_readChances_21 : decode cX7_readChances 21 = .ok (.getfield 90, 3) := by decide +kernel
theorem dX7_readChances_24 : decode cX7_readChances 24 = .ok (.invokevirtual 86, 3) := by decide +kernel
theorem dX7_readChances_27 : decode cX7_readChances 27 = .ok (.ifCond .ne 5, 3) := by decide +kernel
theorem dX7_readChances_30 : decode cX7_readChances 30 = .ok (.iconst 0, 1) := by decide +kernel
theorem dX7_readChances_31 : decode cX7_readChances 31 = .ok (.ireturn, 1) := by decide +kernel
theorem dX7_readChances_32 : decode cX7_readChances 32 = .ok (.aload_n 1, 1) := by decide +kernel
theorem dX7_readChances_33 : decode cX7_readChances 33 = .ok (.iload_n 3, 1) := by decide +kernel
theorem dX7_readChances_34 : decode cX7_readChances 34 = .ok (.aload_n 0, 1) := by decide +kernel
theorem dX7_readChances_35 : decode cX7_readChances 35 = .ok (.getfield 41, 3) := by decide +kernel
theorem dX7_readChances_38 : decode cX7_readChances 38 = .ok (.iastore, 1) := by decide +kernel
theorem dX7_readChances_39 : decode cX7_readChances 39 = .ok (.iload_n 2, 1) := by decide +kernel
theorem dX7_readChances_40 : decode cX7_readChances 40 = .ok (.aload_n 0, 1) := by decide +kernel
theorem dX7_readChances_41 : decode cX7_readChances 41 = .ok (.getfield 41, 3) := by decide +kernel
theorem dX7_readChances_44 : decode cX7_readChances 44 = .ok (.iadd, 1) := by decide +kernel
theorem dX7_readChances_45 : decode cX7_readChances 45 = .ok (.istore_n 2, 1) := by decide +kernel
theorem dX7_readChances_46 : decode cX7_readChances 46 = .ok (.iload_n 3, 1) := by decide +kernel
theorem dX7_readChances_47 : decode cX7_readChances 47 = .ok (.aload_n 0, 1) := by decide +kernel
theorem dX7_readChances_48 : decode cX7_readChances 48 = .ok (.getfield 24, 3) := by decide +kernel
theorem dX7_readChances_51 : decode cX7_readChances 51 = .ok (.getfield 95, 3) := by decide +kernel
theorem dX7_readChances_54 : decode cX7_readChances 54 = .ok (.iconst 1, 1) := by decide +kernel
theorem dX7_readChances_55 : decode cX7_readChances 55 = .ok (.isub, 1) := by decide +kernel
theorem dX7_readChances_56 : decode cX7_readChances 56 = .ok (.if_icmp .ne 20, 3) := by decide +kernel
theorem dX7_readChances_59 : decode cX7_readChances 59 = .ok (.iload_n 2, 1) := by decide +kernel
theorem dX7_readChances_60 : decode cX7_readChances 60 = .ok (.aload_n 0, 1) := by decide +kernel
theorem dX7_readChances_61 : decode cX7_readChances 61 = .ok (.getfield 24, 3) := by decide +kernel
theorem dX7_readChances_64 : decode cX7_readChances 64 = .ok (.getfield 90, 3) := by decide +kernel
theorem dX7_readChances_67 : decode cX7_readChances 67 = .ok (.if_icmp .eq 9, 3) := by decide +kernel
theorem dX7_readChances_70 : decode cX7_readChances 70 = .ok (.aload_n 0, 1) := by decide +kernel
theorem dX7_readChances_71 : decode cX7_readChances 71 = .ok (.iconst 5, 1) := by decide +kernel
theorem dX7_readChances_72 : decode cX7_readChances 72 = .ok (.invokevirtual 100, 3) := by decide +kernel
theorem dX7_readChances_75 : decode cX7_readChances 75 = .ok (.ireturn, 1) := by decide +kernel
theorem dX7_readChances_76 : decode cX7_readChances 76 = .ok (.aload_n 0, 1) := by decide +kernel
theorem dX7_readChances_77 : decode cX7_readChances 77 = .ok (.invokevirtual 64, 3) := by decide +kernel
theorem dX7_readChances_80 : decode cX7_readChances 80 = .ok (.iinc 3 1, 3) := by decide +kernel
theorem dX7_readChances_83 : decode cX7_readChances 83 = .ok (.goto (-79), 3) := by decide +kernel
theorem dX7_readChances_86 : decode cX7_readChances 86 = .ok (.iconst 1, 1) := by decide +kernel
theorem dX7_readChances_87 : decode cX7_readChances 87 = .ok (.ireturn, 1) := by decide +kernel
set_option maxRecDepth 20000 in
theorem ggX7_passWord_X7_isWord : GoodIn wsX7_passWord wsX7_isWord := goodIn_r _ [5, 6, 7, 8, 9, 10, 11, 12, 13, 14, 15, 16, 17, 18, 19, 20, 21, 22, 23, 24, 25, 26, 27, 28, 29, 30, 31, 32, 33, 34, 35, 36, 37, 38, 39, 40, 41, 42, 43, 44, 45, 46, 47, 48, 49, 50, 51, 52, 53, 54, 55, 56, 57, 58, 77, 78, 79, 80, 81, 82, 83, 84, 85, 86, 87, 88, 89, 90] (by decide +kernel) (by decide +kernel)
set_option maxRecDepth 20000 in
theorem gX7_passWord_X7_isWord : GoodIn wsX7_passWord (wsV RX7 82 RX7 yX7_isWord wsX7_isWord) := goodIn_app (goodIn_of _ (by decide +kernel)) ggX7_passWord_X7_isWord
set_option maxRecDepth 20000 in
theorem ggX7_passWord_X7_fail : GoodIn wsX7_passWord wsX7_fail := goodIn_r _ [62, 63, 8, 64, 77, 78, 79, 80, 81, 82, 83, 84, 85, 86, 87, 88, 89, 90] (by decide +kernel) (by decide +kernel)
set_option maxRecDepth 20000 in
theorem gX7_passWord_X7_fail : GoodIn wsX7_passWord (wsV RX7 100 RX7 yX7_fail wsX7_fail) := goodIn_app (goodIn_of _ (by decide +kernel)) ggX7_passWord_X7_fail
set_option maxRecDepth 20000 in
theorem ggX7_passWord_X7_advance : GoodIn wsX7_passWord wsX7_advance := goodIn_r _ [68, 7, 69, 9, 8, 6, 70, 71, 4, 72, 73, 74, 75, 76, 77, 78, 79, 80, 81, 82, 83, 84, 85, 86, 87, 88, 89, 90] (by decide +kernel) (by decide +kernel)
set_option maxRecDepth 20000 in
theorem gX7_passWord_X7_advance : GoodIn wsX7_passWord (wsV RX7 64 RX7 yX7_advance wsX7_advance) := goodIn_app (goodIn_of _ (by decide +kernel)) ggX7_passWord_X7_advance
theorem dX7_passWord_0 : decode cX7_passWord 0 = .ok (.aload_n 0, 1) := by decide +kernel
theorem dX7_passWord_1 : decode cX7_passWord 1 = .ok (.aload_n 1, 1) := by decide +kernel
theorem dX7_passWord_2 : decode cX7_passWord 2 = .ok (.invokevirtual 82, 3) := by decide +kernel
theorem dX7_passWord_5 : decode cX7_passWord 5 = .ok (.ifCond .ne 9, 3) := by decide +kernel
theorem dX7_passWord_8 : decode cX7_passWord 8 = .ok (.aload_n 0, 1) := by decide +kernel
theorem dX7_passWord_9 : decode cX7_passWord 9 = .ok (.iconst 1, 1) := by decide +kernel
theorem dX7_passWord_10 : decode cX7_passWord 10 = .ok (.invokevirtual 100, 3) := by decide +kernel
theorem dX7_passWord_13 : decode cX7_passWord 13 = .ok (.ireturn, 1) := by decide +kernel
theorem dX7_passWord_14 : decode cX7_passWord 14 = .ok (.aload_n 0, 1) := by decide +kernel
theorem dX7_passWord_15 : decode cX7_passWord 15 = .ok (.invokevirtual 64, 3) := by decide +kernel
theorem dX7_passWord_18 : decode cX7_passWord 18 = .ok (.iconst 1, 1) := by decide +kernel
theorem dX7_passWord_19 : decode cX7_passWord 19 = .ok (.ireturn, 1) := by decide +kernel
set_option maxRecDepth 20000 in
theorem ggX7_passName_X7_fail : GoodIn wsX7_passName wsX7_fail := goodIn_r _ [10, 11, 4, 12, 30, 31, 32, 33, 34, 35, 36, 37, 38, 39, 40, 41, 42, 43] (by decide +kernel) (by decide +kernel)
set_option maxRecDepth 20000 in
theorem gX7_passName_X7_fail : GoodIn wsX7_passName (wsV RX7 100 RX7 yX7_fail wsX7_fail) := goodIn_app (goodIn_of _ (by decide +kernel)) ggX7_passName_X7_fail
set_option maxRecDepth 20000 in
theorem ggX7_passName_X7_isSameRun : GoodIn wsX7_passName wsX7_isSameRun := goodIn_r _ [16, 5, 4, 17, 30, 31, 32, 33, 34, 35, 36, 37, 38, 39, 40, 41, 42, 43] (by decide +kernel) (by decide +kernel)
set_option maxRecDepth 20000 in
theorem gX7_passName_X7_isSameRun : GoodIn wsX7_passName (wsV RX7 168 RX7 yX7_isSameRun wsX7_isSameRun) := goodIn_app (goodIn_of _ (by decide +kernel)) ggX7_passName_X7_isSameRun
set_option maxRecDepth 20000 in
theorem ggX7_passName_X7_advance : GoodIn wsX7_passName wsX7_advance := goodIn_r _ [21, 5, 22, 17, 4, 1, 23, 24, 9, 25, 26, 27, 28, 29, 30, 31, 32, 33, 34, 35, 36, 37, 38, 39, 40, 41, 42, 43] (by decide +kernel) (by decide +kernel)
set_option maxRecDepth 20000 in
theorem gX7_passName_X7_advance : GoodIn wsX7_passName (wsV RX7 64 RX7 yX7_advance wsX7_advance) := goodIn_app (goodIn_of _ (by decide +kernel)) ggX7_passName_X7_advance
theorem dX7_passName_0 : decode cX7_passName 0 = .ok (.aload_n 0, 1) := by decide +kernel
theorem dX7_passName_1 : decode cX7_passName 1 = .ok (.getfield 35, 3) := by decide +kernel
theorem dX7_passName_4 : decode cX7_passName 4 = .ok (.iconst 1, 1) := by decide +kernel
theorem dX7_passName_5 : decode cX7_passName 5 = .ok (.if_icmp .eq 9, 3) := by decide +kernel
theorem dX7_passName_8 : decode cX7_passName 8 = .ok (.aload_n 0, 1) := by decide +kernel
theorem dX7_passName_9 : decode cX7_passName 9 = .ok (.iconst 1, 1) := by decide +kernel
theorem dX7_passName_10 : decode cX7_passName 10 = .ok (.invokevirtual 100, 3) := by decide +kernel
theorem dX7_passName_13 : decode cX7_passName 13 = .ok (.ireturn, 1) := by decide +kernel
theorem dX7_passName_14 : decode cX7_passName 14 = .ok (.iconst 0, 1) := by decide +kernel
theorem dX7_passName_15 : decode cX7_passName 15 = .ok (.istore_n 2, 1) := by decide +kernel
theorem dX7_passName_16 : decode cX7_passName 16 = .ok (.iload_n 2, 1) := by decide +kernel
theorem dX7_passName_17 : decode cX7_passName 17 = .ok (.iload_n 1, 1) := by decide +kernel
theorem dX7_passName_18 : decode cX7_passName 18 = .ok (.if_icmp .ge 34, 3) := by decide +kernel
theorem dX7_passName_21 : decode cX7_passName 21 = .ok (.aload_n 0, 1) := by decide +kernel
theorem dX7_passName_22 : decode cX7_passName 22 = .ok (.aload_n 0, 1) := by decide +kernel
theorem dX7_passName_23 : decode cX7_passName 23 = .ok (.getfield 44, 3) := by decide +kernel
theorem dX7_passName_26 : decode cX7_passName 26 = .ok (.iload_n 2, 1) := by decide +kernel
theorem dX7_passName_27 : decode cX7_passName 27 = .ok (.iaload, 1) := by decide +kernel
theorem dX7_passName_28 : decode cX7_passName 28 = .ok (.aload_n 0, 1) := by decide +kernel
theorem dX7_passName_29 : decode cX7_passName 29 = .ok (.getfield 48, 3) := by decide +kernel
theorem dX7_passName_32 : decode cX7_passName 32 = .ok (.iload_n 2, 1) := by decide +kernel
theorem dX7_passName_33 : decode cX7_passName 33 = .ok (.iaload, 1) := by decide +kernel
theorem dX7_passName_34 : decode cX7_passName 34 = .ok (.invokevirtual 168, 3) := by decide +kernel
theorem dX7_passName_37 : decode cX7_passName 37 = .ok (.ifCond .eq 9, 3) := by decide +kernel
theorem dX7_passName_40 : decode cX7_passName 40 = .ok (.aload_n 0, 1) := by decide +kernel
theorem dX7_passName_41 : decode cX7_passName 41 = .ok (.iconst 3, 1) := by decide +kernel
theorem dX7_passName_42 : decode cX7_passName 42 = .ok (.invokevirtual 100, 3) := by decide +kernel
theorem dX7_passName_45 : decode cX7_passName 45 = .ok (.ireturn, 1) := by decide +kernel
theorem dX7_passName_46 : decode cX7_passName 46 = .ok (.iinc 2 1, 3) := by decide +kernel
theorem dX7_passName_49 : decode cX7_passName 49 = .ok (.goto (-33), 3) := by decide +kernel
theorem dX7_passName_52 : decode cX7_passName 52 = .ok (.aload_n 0, 1) := by decide +kernel
theorem dX7_passName_53 : decode cX7_passName 53 = .ok (.getfield 44, 3) := by decide +kernel
theorem dX7_passName_56 : decode cX7_passName 56 = .ok (.iload_n 1, 1) := by decide +kernel
theorem dX7_passName_57 : decode cX7_passName 57 = .ok (.aload_n 0, 1) := by decide +kernel
theorem dX7_passName_58 : decode cX7_passName 58 = .ok (.getfield 38, 3) := by decide +kernel
theorem dX7_passName_61 : decode cX7_passName 61 = .ok (.iastore, 1) := by decide +kernel
theorem dX7_passName_62 : decode cX7_passName 62 = .ok (.aload_n 0, 1) := by decide +kernel
theorem dX7_passName_63 : decode cX7_passName 63 = .ok (.getfield 48, 3) := by decide +kernel
theorem dX7_passName_66 : decode cX7_passName 66 = .ok (.iload_n 1, 1) := by decide +kernel
theorem dX7_passName_67 : decode cX7_passName 67 = .ok (.aload_n 0, 1) := by decide +kernel
theorem dX7_passName_68 : decode cX7_passName 68 = .ok (.getfield 32, 3) := by decide +kernel
theorem dX7_passName_71 : decode cX7_passName 71 = .ok (.iastore, 1) := by decide +kernel
theorem dX7_passName_72 : decode cX7_passName 72 = .ok (.aload_n 0, 1) := by decide +kernel
theorem dX7_passName_73 : decode cX7_passName 73 = .ok (.invokevirtual 64, 3) := by decide +kernel
theorem dX7_passName_76 : decode cX7_passName 76 = .ok (.iconst 1, 1) := by decide +kernel
theorem dX7_passName_77 : decode cX7_passName 77 = .ok (.ireturn, 1) := by decide +kernel
theorem kk_X7_readSigns_0 : Cond.fieldLink RX7 24 "PaidBySigns$Reader" "into" "LPaidBySigns$Hire;" ∈ wsX7_readSigns := by decide +kernel
theorem kk_X7_readSigns_1 : Cond.fieldLink RX7 95 "PaidBySigns$Hire" "signs" "I" ∈ wsX7_readSigns := by decide +kernel
theorem kk_X7_readSign_0 : Cond.fieldLink RX7 24 "PaidBySigns$Reader" "into" "LPaidBySigns$Hire;" ∈ wsX7_readSign := by decide +kernel
theorem kk_X7_readSign_1 : Cond.fieldLink RX7 95 "PaidBySigns$Hire" "signs" "I" ∈ wsX7_readSign := by decide +kernel
theorem kk_X7_passName_0 : Cond.fieldLink RX7 35 "PaidBySigns$Reader" "token" "I" ∈ wsX7_passName := by decide +kernel
theorem kk_X7_passName_1 : Cond.fieldLink RX7 44 "PaidBySigns$Reader" "nameStart" "[I" ∈ wsX7_passName := by decide +kernel
theorem kk_X7_passName_2 : Cond.fieldLink RX7 38 "PaidBySigns$Reader" "start" "I" ∈ wsX7_passName := by decide +kernel
theorem kk_X7_passName_3 : Cond.fieldLink RX7 48 "PaidBySigns$Reader" "nameEnd" "[I" ∈ wsX7_passName := by decide +kernel
theorem kk_X7_passName_4 : Cond.fieldLink RX7 32 "PaidBySigns$Reader" "next" "I" ∈ wsX7_passName := by decide +kernel
theorem kk_X7_readSign_2 : Cond.fieldLink RX7 115 "PaidBySigns$Hire" "brings" "[I" ∈ wsX7_readSign := by decide +kernel
theorem kk_X7_readSign_3 : Cond.fieldLink RX7 41 "PaidBySigns$Reader" "value" "I" ∈ wsX7_readSign := by decide +kernel
theorem kk_X7_readChances_0 : Cond.fieldLink RX7 24 "PaidBySigns$Reader" "into" "LPaidBySigns$Hire;" ∈ wsX7_readChances := by decide +kernel
theorem kk_X7_readChances_1 : Cond.fieldLink RX7 95 "PaidBySigns$Hire" "signs" "I" ∈ wsX7_readChances := by decide +kernel
theorem kk_X7_readChances_2 : Cond.fieldLink RX7 90 "PaidBySigns$Hire" "whole" "I" ∈ wsX7_readChances := by decide +kernel
theorem kk_X7_readChances_3 : Cond.fieldLink RX7 41 "PaidBySigns$Reader" "value" "I" ∈ wsX7_readChances := by decide +kernel
theorem iw_X7_readSigns_X7 : ∀ w ∈ wsX70, w ∈ wsX7_readSigns := by decide +kernel
theorem iw_X7_readSigns_X3 : ∀ w ∈ wsX30, w ∈ wsX7_readSigns := by decide +kernel
theorem iw_X7_readSign_X7 : ∀ w ∈ wsX70, w ∈ wsX7_readSign := by decide +kernel
theorem iw_X7_readSign_X3 : ∀ w ∈ wsX30, w ∈ wsX7_readSign := by decide +kernel
theorem iw_X7_passName_X7 : ∀ w ∈ wsX70, w ∈ wsX7_passName := by decide +kernel
theorem iw_X7_readChances_X7 : ∀ w ∈ wsX70, w ∈ wsX7_readChances := by decide +kernel
theorem iw_X7_readChances_X3 : ∀ w ∈ wsX30, w ∈ wsX7_readChances := by decide +kernel
