abbrev cX7_readWorks : ByteArray := prog_9_method_8_code
def yX7_readWorks : MethodName := ⟨RX7, "readWorks", "()Z"⟩
abbrev cX7_readWork : ByteArray := prog_9_method_9_code
def yX7_readWork : MethodName := ⟨RX7, "readWork", "()Z"⟩
abbrev cX7_readNumberOnce : ByteArray := prog_9_method_12_code
def yX7_readNumberOnce : MethodName := ⟨RX7, "readNumberOnce", "(Z)Z"⟩
abbrev cX7_readFeel : ByteArray := prog_9_method_13_code
def yX7_readFeel : MethodName := ⟨RX7, "readFeel", "()Z"⟩
abbrev cX7_readStep : ByteArray := prog_9_method_14_code
def yX7_readStep : MethodName := ⟨RX7, "readStep", "(I)Z"⟩
def wsX7_readWork_r1 : List Cond := [Cond.fieldLink RX7 24 "PaidBySigns$Reader" "into" "LPaidBySigns$Hire;", Cond.fieldLink RX7 117 "PaidBySigns$Hire" "works" "I", Cond.fieldLink RX7 127 "PaidBySigns$Hire" "costs" "[I", Cond.fieldLink RX7 41 "PaidBySigns$Reader" "value" "I", Cond.fieldLink RX7 131 "PaidBySigns$Hire" "chances" "[[I", Cond.methodLink RX7 64 yX7_advance, Cond.instanceMethod yX7_advance, Cond.selects RX7 yX7_advance yX7_advance, Cond.initialized RX7, Cond.code yX7_advance cX7_advance 1 none, Cond.fieldLink RX7 32 "PaidBySigns$Reader" "next" "I", Cond.fieldLink RX7 9 "PaidBySigns$Reader" "length" "I", Cond.fieldLink RX7 28 "PaidBySigns$Reader" "text" "[B", Cond.fieldLink RX7 38 "PaidBySigns$Reader" "start" "I", Cond.fieldLink RX7 35 "PaidBySigns$Reader" "token" "I", Cond.methodLink RX7 180 yX7_kindOf, Cond.static yX7_kindOf, Cond.code yX7_kindOf cX7_kindOf 1 (some .int), Cond.methodLink RX7 184 yX7_takeRun, Cond.instanceMethod yX7_takeRun, Cond.selects RX7 yX7_takeRun yX7_takeRun, Cond.code yX7_takeRun cX7_takeRun 2 none, Cond.methodLink RX7 107 yX7_passName, Cond.instanceMethod yX7_passName]
def wsX7_readWork_r2 : List Cond := [Cond.selects RX7 yX7_passName yX7_passName, Cond.code yX7_passName cX7_passName 3 (some .boolean), Cond.fieldLink RX7 44 "PaidBySigns$Reader" "nameStart" "[I", Cond.fieldLink RX7 48 "PaidBySigns$Reader" "nameEnd" "[I", Cond.methodLink RX7 100 yX7_fail, Cond.instanceMethod yX7_fail, Cond.selects RX7 yX7_fail yX7_fail, Cond.code yX7_fail cX7_fail 2 (some .boolean), Cond.fieldLink RX7 15 "PaidBySigns$Reader" "faultKind" "I", Cond.fieldLink RX7 18 "PaidBySigns$Reader" "faultPlace" "I", Cond.methodLink RX7 168 yX7_isSameRun, Cond.instanceMethod yX7_isSameRun, Cond.selects RX7 yX7_isSameRun yX7_isSameRun, Cond.code yX7_isSameRun cX7_isSameRun 4 (some .boolean), Cond.methodLink RX7 112 yX7_passWord, Cond.instanceMethod yX7_passWord, Cond.selects RX7 yX7_passWord yX7_passWord, Cond.code yX7_passWord cX7_passWord 2 (some .boolean), Cond.methodLink RX7 82 yX7_isWord, Cond.instanceMethod yX7_isWord, Cond.selects RX7 yX7_isWord yX7_isWord, Cond.code yX7_isWord cX7_isWord 3 (some .boolean), Cond.methodLink RX7 171 yJ0_length_8abf5, Cond.instanceMethod yJ0_length_8abf5]
def wsX7_readWork_r3 : List Cond := [Cond.selects RJ0 yJ0_length_8abf5 yJ0_length_8abf5, Cond.initialized RJ0, Cond.code yJ0_length_8abf5 cJ0_length_8abf5 1 (some .int), Cond.fieldLink RJ0 9 "java/lang/String" "value" "[B", Cond.methodLink RJ0 335 yJ0_coder_7d493, Cond.instanceMethod yJ0_coder_7d493, Cond.selects RJ0 yJ0_coder_7d493 yJ0_coder_7d493, Cond.code yJ0_coder_7d493 cJ0_coder_7d493 1 (some .byte), Cond.fieldLink RJ0 38 "java/lang/String" "COMPACT_STRINGS" "Z", Cond.fieldLink RJ0 15 "java/lang/String" "coder" "B", Cond.methodLink RX7 176 yJ0_charAt_5068e, Cond.instanceMethod yJ0_charAt_5068e, Cond.selects RJ0 yJ0_charAt_5068e yJ0_charAt_5068e, Cond.code yJ0_charAt_5068e cJ0_charAt_5068e 2 (some .char), Cond.methodLink RJ0 492 yJ0_isLatin1_aae02, Cond.instanceMethod yJ0_isLatin1_aae02, Cond.selects RJ0 yJ0_isLatin1_aae02 yJ0_isLatin1_aae02, Cond.code yJ0_isLatin1_aae02 cJ0_isLatin1_aae02 1 (some .boolean), Cond.methodLink RJ0 495 yJ1_charAt_3b067, Cond.static yJ1_charAt_3b067, Cond.initialized RJ1, Cond.code yJ1_charAt_3b067 cJ1_charAt_3b067 2 (some .char), Cond.methodLink RJ1 9 yJ0_checkIndex_df160, Cond.static yJ0_checkIndex_df160]
def wsX7_readWork_r4 : List Cond := [Cond.code yJ0_checkIndex_df160 cJ0_checkIndex_df160 2 none, Cond.fieldLink RJ0 1053 "jdk/internal/util/Preconditions" "SIOOBE_FORMATTER" "Ljava/util/function/BiFunction;", Cond.methodLink RJ0 1059 yJ3_checkIndex_8e157, Cond.static yJ3_checkIndex_8e157, Cond.initialized RJ3, Cond.code yJ3_checkIndex_8e157 cJ3_checkIndex_8e157 3 (some .int), Cond.methodLink RJ0 498 yJ2_charAt_3b067, Cond.static yJ2_charAt_3b067, Cond.initialized RJ2, Cond.code yJ2_charAt_3b067 cJ2_charAt_3b067 2 (some .char), Cond.methodLink RJ2 67 yJ2_checkIndex_2214a, Cond.static yJ2_checkIndex_2214a, Cond.code yJ2_checkIndex_2214a cJ2_checkIndex_2214a 2 none, Cond.methodLink RJ2 48 yJ2_length_9d52b, Cond.static yJ2_length_9d52b, Cond.code yJ2_length_9d52b cJ2_length_9d52b 1 (some .int), Cond.methodLink RJ2 414 yJ0_checkIndex_df160, Cond.methodLink RJ2 71 yJ2_getChar_3b067, Cond.static yJ2_getChar_3b067, Cond.code yJ2_getChar_3b067 cJ2_getChar_3b067 2 (some .char), Cond.fieldLink RJ2 44 "java/lang/StringUTF16" "$assertionsDisabled" "Z", Cond.fieldLink RJ2 59 "java/lang/StringUTF16" "HI_BYTE_SHIFT" "I", Cond.fieldLink RJ2 63 "java/lang/StringUTF16" "LO_BYTE_SHIFT" "I", Cond.methodLink RX7 86 yX7_isNumber]
def wsX7_readWork_r5 : List Cond := [Cond.instanceMethod yX7_isNumber, Cond.selects RX7 yX7_isNumber yX7_isNumber, Cond.code yX7_isNumber cX7_isNumber 4 (some .boolean), Cond.methodLink RX7 134 yX7_readChances, Cond.instanceMethod yX7_readChances, Cond.selects RX7 yX7_readChances yX7_readChances, Cond.code yX7_readChances cX7_readChances 4 (some .boolean), Cond.fieldLink RX7 95 "PaidBySigns$Hire" "signs" "I", Cond.fieldLink RX7 90 "PaidBySigns$Hire" "whole" "I", Cond.methodLink RX7 92 yX7_passSemicolon, Cond.instanceMethod yX7_passSemicolon, Cond.selects RX7 yX7_passSemicolon yX7_passSemicolon, Cond.code yX7_passSemicolon cX7_passSemicolon 1 (some .boolean)]
def wsX7_readWork : List Cond := .code yX7_readWork cX7_readWork 1 (some .boolean) :: ((wsX7_readWork_r1 ++ (wsX7_readWork_r2 ++ (wsX7_readWork_r3 ++ (wsX7_readWork_r4 ++ wsX7_readWork_r5)))) ++ wsX70 ++ wsX30)
def wsX7_readWorks_r1 : List Cond := [Cond.fieldLink RX7 24 "PaidBySigns$Reader" "into" "LPaidBySigns$Hire;", Cond.fieldLink RX7 117 "PaidBySigns$Hire" "works" "I", Cond.methodLink RX7 82 yX7_isWord, Cond.instanceMethod yX7_isWord, Cond.selects RX7 yX7_isWord yX7_isWord, Cond.initialized RX7, Cond.code yX7_isWord cX7_isWord 3 (some .boolean), Cond.fieldLink RX7 35 "PaidBySigns$Reader" "token" "I", Cond.fieldLink RX7 32 "PaidBySigns$Reader" "next" "I", Cond.fieldLink RX7 38 "PaidBySigns$Reader" "start" "I", Cond.fieldLink RX7 28 "PaidBySigns$Reader" "text" "[B", Cond.methodLink RX7 171 yJ0_length_8abf5, Cond.instanceMethod yJ0_length_8abf5, Cond.selects RJ0 yJ0_length_8abf5 yJ0_length_8abf5, Cond.initialized RJ0, Cond.code yJ0_length_8abf5 cJ0_length_8abf5 1 (some .int), Cond.fieldLink RJ0 9 "java/lang/String" "value" "[B", Cond.methodLink RJ0 335 yJ0_coder_7d493, Cond.instanceMethod yJ0_coder_7d493, Cond.selects RJ0 yJ0_coder_7d493 yJ0_coder_7d493, Cond.code yJ0_coder_7d493 cJ0_coder_7d493 1 (some .byte), Cond.fieldLink RJ0 38 "java/lang/String" "COMPACT_STRINGS" "Z", Cond.fieldLink RJ0 15 "java/lang/String" "coder" "B", Cond.methodLink RX7 176 yJ0_charAt_5068e]
def wsX7_readWorks_r2 : List Cond := [Cond.instanceMethod yJ0_charAt_5068e, Cond.selects RJ0 yJ0_charAt_5068e yJ0_charAt_5068e, Cond.code yJ0_charAt_5068e cJ0_charAt_5068e 2 (some .char), Cond.methodLink RJ0 492 yJ0_isLatin1_aae02, Cond.instanceMethod yJ0_isLatin1_aae02, Cond.selects RJ0 yJ0_isLatin1_aae02 yJ0_isLatin1_aae02, Cond.code yJ0_isLatin1_aae02 cJ0_isLatin1_aae02 1 (some .boolean), Cond.methodLink RJ0 495 yJ1_charAt_3b067, Cond.static yJ1_charAt_3b067, Cond.initialized RJ1, Cond.code yJ1_charAt_3b067 cJ1_charAt_3b067 2 (some .char), Cond.methodLink RJ1 9 yJ0_checkIndex_df160, Cond.static yJ0_checkIndex_df160, Cond.code yJ0_checkIndex_df160 cJ0_checkIndex_df160 2 none, Cond.fieldLink RJ0 1053 "jdk/internal/util/Preconditions" "SIOOBE_FORMATTER" "Ljava/util/function/BiFunction;", Cond.methodLink RJ0 1059 yJ3_checkIndex_8e157, Cond.static yJ3_checkIndex_8e157, Cond.initialized RJ3, Cond.code yJ3_checkIndex_8e157 cJ3_checkIndex_8e157 3 (some .int), Cond.methodLink RJ0 498 yJ2_charAt_3b067, Cond.static yJ2_charAt_3b067, Cond.initialized RJ2, Cond.code yJ2_charAt_3b067 cJ2_charAt_3b067 2 (some .char), Cond.methodLink RJ2 67 yJ2_checkIndex_2214a]
def wsX7_readWorks_r3 : List Cond := [Cond.static yJ2_checkIndex_2214a, Cond.code yJ2_checkIndex_2214a cJ2_checkIndex_2214a 2 none, Cond.methodLink RJ2 48 yJ2_length_9d52b, Cond.static yJ2_length_9d52b, Cond.code yJ2_length_9d52b cJ2_length_9d52b 1 (some .int), Cond.methodLink RJ2 414 yJ0_checkIndex_df160, Cond.methodLink RJ2 71 yJ2_getChar_3b067, Cond.static yJ2_getChar_3b067, Cond.code yJ2_getChar_3b067 cJ2_getChar_3b067 2 (some .char), Cond.fieldLink RJ2 44 "java/lang/StringUTF16" "$assertionsDisabled" "Z", Cond.fieldLink RJ2 59 "java/lang/StringUTF16" "HI_BYTE_SHIFT" "I", Cond.fieldLink RJ2 63 "java/lang/StringUTF16" "LO_BYTE_SHIFT" "I", Cond.methodLink RX7 100 yX7_fail, Cond.instanceMethod yX7_fail, Cond.selects RX7 yX7_fail yX7_fail, Cond.code yX7_fail cX7_fail 2 (some .boolean), Cond.fieldLink RX7 15 "PaidBySigns$Reader" "faultKind" "I", Cond.fieldLink RX7 18 "PaidBySigns$Reader" "faultPlace" "I", Cond.methodLink RX7 122 yX7_readWork, Cond.instanceMethod yX7_readWork, Cond.selects RX7 yX7_readWork yX7_readWork, Cond.code yX7_readWork cX7_readWork 1 (some .boolean), Cond.fieldLink RX7 127 "PaidBySigns$Hire" "costs" "[I", Cond.fieldLink RX7 41 "PaidBySigns$Reader" "value" "I"]
def wsX7_readWorks_r4 : List Cond := [Cond.fieldLink RX7 131 "PaidBySigns$Hire" "chances" "[[I", Cond.methodLink RX7 64 yX7_advance, Cond.instanceMethod yX7_advance, Cond.selects RX7 yX7_advance yX7_advance, Cond.code yX7_advance cX7_advance 1 none, Cond.fieldLink RX7 9 "PaidBySigns$Reader" "length" "I", Cond.methodLink RX7 180 yX7_kindOf, Cond.static yX7_kindOf, Cond.code yX7_kindOf cX7_kindOf 1 (some .int), Cond.methodLink RX7 184 yX7_takeRun, Cond.instanceMethod yX7_takeRun, Cond.selects RX7 yX7_takeRun yX7_takeRun, Cond.code yX7_takeRun cX7_takeRun 2 none, Cond.methodLink RX7 107 yX7_passName, Cond.instanceMethod yX7_passName, Cond.selects RX7 yX7_passName yX7_passName, Cond.code yX7_passName cX7_passName 3 (some .boolean), Cond.fieldLink RX7 44 "PaidBySigns$Reader" "nameStart" "[I", Cond.fieldLink RX7 48 "PaidBySigns$Reader" "nameEnd" "[I", Cond.methodLink RX7 168 yX7_isSameRun, Cond.instanceMethod yX7_isSameRun, Cond.selects RX7 yX7_isSameRun yX7_isSameRun, Cond.code yX7_isSameRun cX7_isSameRun 4 (some .boolean), Cond.methodLink RX7 112 yX7_passWord]
def wsX7_readWorks_r5 : List Cond := [Cond.instanceMethod yX7_passWord, Cond.selects RX7 yX7_passWord yX7_passWord, Cond.code yX7_passWord cX7_passWord 2 (some .boolean), Cond.methodLink RX7 86 yX7_isNumber, Cond.instanceMethod yX7_isNumber, Cond.selects RX7 yX7_isNumber yX7_isNumber, Cond.code yX7_isNumber cX7_isNumber 4 (some .boolean), Cond.methodLink RX7 134 yX7_readChances, Cond.instanceMethod yX7_readChances, Cond.selects RX7 yX7_readChances yX7_readChances, Cond.code yX7_readChances cX7_readChances 4 (some .boolean), Cond.fieldLink RX7 95 "PaidBySigns$Hire" "signs" "I", Cond.fieldLink RX7 90 "PaidBySigns$Hire" "whole" "I", Cond.methodLink RX7 92 yX7_passSemicolon, Cond.instanceMethod yX7_passSemicolon, Cond.selects RX7 yX7_passSemicolon yX7_passSemicolon, Cond.code yX7_passSemicolon cX7_passSemicolon 1 (some .boolean)]
def wsX7_readWorks : List Cond := .code yX7_readWorks cX7_readWorks 1 (some .boolean) :: ((wsX7_readWorks_r1 ++ (wsX7_readWorks_r2 ++ (wsX7_readWorks_r3 ++ (wsX7_readWorks_r4 ++ wsX7_readWorks_r5)))) ++ wsX70 ++ wsX30)
def wsX7_readNumberOnce_r1 : List Cond := [Cond.methodLink RX7 100 yX7_fail, Cond.instanceMethod yX7_fail, Cond.selects RX7 yX7_fail yX7_fail, Cond.initialized RX7, Cond.code yX7_fail cX7_fail 2 (some .boolean), Cond.fieldLink RX7 15 "PaidBySigns$Reader" "faultKind" "I", Cond.fieldLink RX7 38 "PaidBySigns$Reader" "start" "I", Cond.fieldLink RX7 18 "PaidBySigns$Reader" "faultPlace" "I", Cond.methodLink RX7 64 yX7_advance, Cond.instanceMethod yX7_advance, Cond.selects RX7 yX7_advance yX7_advance, Cond.code yX7_advance cX7_advance 1 none, Cond.fieldLink RX7 32 "PaidBySigns$Reader" "next" "I", Cond.fieldLink RX7 9 "PaidBySigns$Reader" "length" "I", Cond.fieldLink RX7 28 "PaidBySigns$Reader" "text" "[B", Cond.fieldLink RX7 35 "PaidBySigns$Reader" "token" "I", Cond.methodLink RX7 180 yX7_kindOf, Cond.static yX7_kindOf, Cond.code yX7_kindOf cX7_kindOf 1 (some .int), Cond.methodLink RX7 184 yX7_takeRun, Cond.instanceMethod yX7_takeRun, Cond.selects RX7 yX7_takeRun yX7_takeRun, Cond.code yX7_takeRun cX7_takeRun 2 none, Cond.methodLink RX7 86 yX7_isNumber]
def wsX7_readNumberOnce_r2 : List Cond := [Cond.instanceMethod yX7_isNumber, Cond.selects RX7 yX7_isNumber yX7_isNumber, Cond.code yX7_isNumber cX7_isNumber 4 (some .boolean), Cond.fieldLink RX7 41 "PaidBySigns$Reader" "value" "I", Cond.methodLink RX7 92 yX7_passSemicolon, Cond.instanceMethod yX7_passSemicolon, Cond.selects RX7 yX7_passSemicolon yX7_passSemicolon, Cond.code yX7_passSemicolon cX7_passSemicolon 1 (some .boolean)]
def wsX7_readNumberOnce : List Cond := .code yX7_readNumberOnce cX7_readNumberOnce 2 (some .boolean) :: ((wsX7_readNumberOnce_r1 ++ wsX7_readNumberOnce_r2) ++ wsX70)
def wsX7_readStep_r1 : List Cond := [Cond.fieldLink RX7 24 "PaidBySigns$Reader" "into" "LPaidBySigns$Hire;", Cond.fieldLink RX7 165 "PaidBySigns$Hire" "mark" "[I", Cond.fieldLink RX7 41 "PaidBySigns$Reader" "value" "I", Cond.fieldLink RX7 156 "PaidBySigns$Hire" "rate" "[I", Cond.methodLink RX7 86 yX7_isNumber, Cond.instanceMethod yX7_isNumber, Cond.selects RX7 yX7_isNumber yX7_isNumber, Cond.initialized RX7, Cond.code yX7_isNumber cX7_isNumber 4 (some .boolean), Cond.fieldLink RX7 35 "PaidBySigns$Reader" "token" "I", Cond.fieldLink RX7 38 "PaidBySigns$Reader" "start" "I", Cond.fieldLink RX7 32 "PaidBySigns$Reader" "next" "I", Cond.fieldLink RX7 28 "PaidBySigns$Reader" "text" "[B", Cond.methodLink RX7 100 yX7_fail, Cond.instanceMethod yX7_fail, Cond.selects RX7 yX7_fail yX7_fail, Cond.code yX7_fail cX7_fail 2 (some .boolean), Cond.fieldLink RX7 15 "PaidBySigns$Reader" "faultKind" "I", Cond.fieldLink RX7 18 "PaidBySigns$Reader" "faultPlace" "I", Cond.methodLink RX7 64 yX7_advance, Cond.instanceMethod yX7_advance, Cond.selects RX7 yX7_advance yX7_advance, Cond.code yX7_advance cX7_advance 1 none, Cond.fieldLink RX7 9 "PaidBySigns$Reader" "length" "I"]
def wsX7_readStep_r2 : List Cond := [Cond.methodLink RX7 180 yX7_kindOf, Cond.static yX7_kindOf, Cond.code yX7_kindOf cX7_kindOf 1 (some .int), Cond.methodLink RX7 184 yX7_takeRun, Cond.instanceMethod yX7_takeRun, Cond.selects RX7 yX7_takeRun yX7_takeRun, Cond.code yX7_takeRun cX7_takeRun 2 none]
def wsX7_readStep : List Cond := .code yX7_readStep cX7_readStep 3 (some .boolean) :: ((wsX7_readStep_r1 ++ wsX7_readStep_r2) ++ wsX70 ++ wsX30)
def wsX7_readFeel_r1 : List Cond := [Cond.fieldLink RX7 58 "PaidBySigns$Reader" "hasFeel" "Z", Cond.fieldLink RX7 24 "PaidBySigns$Reader" "into" "LPaidBySigns$Hire;", Cond.fieldLink RX7 156 "PaidBySigns$Hire" "rate" "[I", Cond.fieldLink RX7 41 "PaidBySigns$Reader" "value" "I", Cond.fieldLink RX7 35 "PaidBySigns$Reader" "token" "I", Cond.fieldLink RX7 159 "PaidBySigns$Hire" "rates" "I", Cond.methodLink RX7 100 yX7_fail, Cond.instanceMethod yX7_fail, Cond.selects RX7 yX7_fail yX7_fail, Cond.initialized RX7, Cond.code yX7_fail cX7_fail 2 (some .boolean), Cond.fieldLink RX7 15 "PaidBySigns$Reader" "faultKind" "I", Cond.fieldLink RX7 38 "PaidBySigns$Reader" "start" "I", Cond.fieldLink RX7 18 "PaidBySigns$Reader" "faultPlace" "I", Cond.methodLink RX7 64 yX7_advance, Cond.instanceMethod yX7_advance, Cond.selects RX7 yX7_advance yX7_advance, Cond.code yX7_advance cX7_advance 1 none, Cond.fieldLink RX7 32 "PaidBySigns$Reader" "next" "I", Cond.fieldLink RX7 9 "PaidBySigns$Reader" "length" "I", Cond.fieldLink RX7 28 "PaidBySigns$Reader" "text" "[B", Cond.methodLink RX7 180 yX7_kindOf, Cond.static yX7_kindOf, Cond.code yX7_kindOf cX7_kindOf 1 (some .int)]
def wsX7_readFeel_r2 : List Cond := [Cond.methodLink RX7 184 yX7_takeRun, Cond.instanceMethod yX7_takeRun, Cond.selects RX7 yX7_takeRun yX7_takeRun, Cond.code yX7_takeRun cX7_takeRun 2 none, Cond.methodLink RX7 86 yX7_isNumber, Cond.instanceMethod yX7_isNumber, Cond.selects RX7 yX7_isNumber yX7_isNumber, Cond.code yX7_isNumber cX7_isNumber 4 (some .boolean), Cond.methodLink RX7 162 yX7_readStep, Cond.instanceMethod yX7_readStep, Cond.selects RX7 yX7_readStep yX7_readStep, Cond.code yX7_readStep cX7_readStep 3 (some .boolean), Cond.fieldLink RX7 165 "PaidBySigns$Hire" "mark" "[I", Cond.methodLink RX7 92 yX7_passSemicolon, Cond.instanceMethod yX7_passSemicolon, Cond.selects RX7 yX7_passSemicolon yX7_passSemicolon, Cond.code yX7_passSemicolon cX7_passSemicolon 1 (some .boolean)]
def wsX7_readFeel : List Cond := .code yX7_readFeel cX7_readFeel 1 (some .boolean) :: ((wsX7_readFeel_r1 ++ wsX7_readFeel_r2) ++ wsX70 ++ wsX30)
set_option maxRecDepth 20000 in
theorem ggX7_readWorks_X7_isWord : GoodIn wsX7_readWorks wsX7_isWord := goodIn_r _ [7, 8, 9, 10, 11, 12, 13, 14, 15, 16, 17, 18, 19, 20, 21, 22, 23, 24, 25, 26, 27, 28, 29, 30, 31, 32, 33, 34, 35, 36, 37, 38, 39, 40, 41, 42, 43, 44, 45, 46, 47, 48, 49, 50, 51, 52, 53, 54, 55, 56, 57, 58, 59, 60, 114, 115, 116, 117, 118, 119, 120, 121, 122, 123, 124, 125, 126, 127] (by decide +kernel) (by decide +kernel)
set_option maxRecDepth 20000 in
theorem gX7_readWorks_X7_isWord : GoodIn wsX7_readWorks (wsV RX7 82 RX7 yX7_isWord wsX7_isWord) := goodIn_app (goodIn_of _ (by decide +kernel)) ggX7_readWorks_X7_isWord
set_option maxRecDepth 20000 in
theorem ggX7_readWorks_X7_fail : GoodIn wsX7_readWorks wsX7_fail := goodIn_r _ [64, 65, 10, 66, 114, 115, 116, 117, 118, 119, 120, 121, 122, 123, 124, 125, 126, 127] (by decide +kernel) (by decide +kernel)
set_option maxRecDepth 20000 in
theorem gX7_readWorks_X7_fail : GoodIn wsX7_readWorks (wsV RX7 100 RX7 yX7_fail wsX7_fail) := goodIn_app (goodIn_of _ (by decide +kernel)) ggX7_readWorks_X7_fail
set_option maxRecDepth 20000 in
theorem ggX7_readWorks_X7_readWork : GoodIn wsX7_readWorks wsX7_readWork := goodIn_r _ [70, 1, 2, 71, 72, 73, 74, 75, 76, 6, 77, 9, 78, 11, 10, 8, 79, 80, 81, 82, 83, 84, 85, 86, 87, 88, 89, 90, 91, 61, 62, 63, 64, 65, 66, 92, 93, 94, 95, 96, 97, 98, 99, 3, 4, 5, 7, 12, 13, 14, 15, 16, 17, 18, 19, 20, 21, 22, 23, 24, 25, 26, 27, 28, 29, 30, 31, 32, 33, 34, 35, 36, 37, 38, 39, 40, 41, 42, 43, 44, 45, 46, 47, 48, 49, 50, 51, 52, 53, 54, 55, 56, 57, 58, 59, 60, 100, 101, 102, 103, 104, 105, 106, 107, 108, 109, 110, 111, 112, 113, 114, 115, 116, 117, 118, 119, 120, 121, 122, 123, 124, 125, 126, 127, 128, 129, 130, 131, 132, 133, 134, 135, 136, 137, 138] (by decide +kernel) (by decide +kernel)
set_option maxRecDepth 20000 in
theorem gX7_readWorks_X7_readWork : GoodIn wsX7_readWorks (wsV RX7 122 RX7 yX7_readWork wsX7_readWork) := goodIn_app (goodIn_of _ (by decide +kernel)) ggX7_readWorks_X7_readWork
theorem dX7_readWorks_0 : decode cX7_readWorks 0 = .ok (.aload_n 0, 1) := by decide +kernel
theorem dX7_readWorks_1 : decode cX7_readWorks 1 = .ok (.getfield 24, 3) := by decide +kernel
theorem dX7_readWorks_4 : decode cX7_readWorks 4 = .ok (.getfield 117, 3) := by decide +kernel
theorem dX7_readWorks_7 : decode cX7_readWorks 7 = .ok (.iconst 5, 1) := by decide +kernel
theorem dX7_readWorks_8 : decode cX7_readWorks 8 = .ok (.if_icmp .gt 54, 3) := by decide +kernel
theorem dX7_readWorks_11 : decode cX7_readWorks 11 = .ok (.aload_n 0, 1) := by decide +kernel
theorem dX7_readWorks_12 : decode cX7_readWorks 12 = .ok (.ldc 120, 2) := by decide +kernel
theorem dX7_readWorks_14 : decode cX7_readWorks 14 = .ok (.invokevirtual 82, 3) := by decide +kernel
theorem dX7_readWorks_17 : decode cX7_readWorks 17 = .ok (.ifCond .eq 45, 3) := by decide +kernel
theorem dX7_readWorks_20 : decode cX7_readWorks 20 = .ok (.aload_n 0, 1) := by decide +kernel
theorem dX7_readWorks_21 : decode cX7_readWorks 21 = .ok (.getfield 24, 3) := by decide +kernel
theorem dX7_readWorks_24 : decode cX7_readWorks 24 = .ok (.getfield 117, 3) := by decide +kernel
theorem dX7_readWorks_27 : decode cX7_readWorks 27 = .ok (.iconst 5, 1) := by decide +kernel
theorem dX7_readWorks_28 : decode cX7_readWorks 28 = .ok (.if_icmp .ne 9, 3) := by decide +kernel
theorem dX7_readWorks_31 : decode cX7_readWorks 31 = .ok (.aload_n 0, 1) := by decide +kernel
theorem dX7_readWorks_32 : decode cX7_readWorks 32 = .ok (.iconst 4, 1) := by decide +kernel
theorem dX7_readWorks_33 : decode cX7_readWorks 33 = .ok (.invokevirtual 100, 3) := by decide +kernel
theorem dX7_readWorks_36 : decode cX7_readWorks 36 = .ok (.ireturn, 1) := by decide +kernel
theorem dX7_readWorks_37 : decode cX7_readWorks 37 = .ok (.aload_n 0, 1) := by decide +kernel
theorem dX7_readWorks_38 : decode cX7_readWorks 38 = .ok (.invokevirtual 122, 3) := by decide +kernel
theorem dX7_readWorks_41 : decode cX7_readWorks 41 = .ok (.ifCond .ne 5, 3) := by decide +kernel
theorem dX7_readWorks_44 : decode cX7_readWorks 44 = .ok (.iconst 0, 1) := by decide +kernel
theorem dX7_readWorks_45 : decode cX7_readWorks 45 = .ok (.ireturn, 1) := by decide +kernel
theorem dX7_readWorks_46 : decode cX7_readWorks 46 = .ok (.aload_n 0, 1) := by decide +kernel
theorem dX7_readWorks_47 : decode cX7_readWorks 47 = .ok (.getfield 24, 3) := by decide +kernel
theorem dX7_readWorks_50 : decode cX7_readWorks 50 = .ok (.dup, 1) := by decide +kernel
theorem dX7_readWorks_51 : decode cX7_readWorks 51 = .ok (.getfield 117, 3) := by decide +kernel
theorem dX7_readWorks_54 : decode cX7_readWorks 54 = .ok (.iconst 1, 1) := by decide +kernel
theorem dX7_readWorks_55 : decode cX7_readWorks 55 = .ok (.iadd, 1) := by decide +kernel
theorem dX7_readWorks_56 : decode cX7_readWorks 56 = .ok (.putfield 117, 3) := by decide +kernel
theorem dX7_readWorks_59 : decode cX7_readWorks 59 = .ok (.goto (-59), 3) := by decide +kernel
theorem dX7_readWorks_62 : decode cX7_readWorks 62 = .ok (.aload_n 0, 1) := by decide +kernel
theorem dX7_readWorks_63 : decode cX7_readWorks 63 = .ok (.getfield 24, 3) := by decide +kernel
theorem dX7_readWorks_66 : decode cX7_readWorks 66 = .ok (.getfield 117, 3) := by decide +kernel
theorem dX7_readWorks_69 : decode cX7_readWorks 69 = .ok (.iconst 2, 1) := by decide +kernel
theorem dX7_readWorks_70 : decode cX7_readWorks 70 = .ok (.if_icmp .ge 11, 3) := by decide +kernel
theorem dX7_readWorks_73 : decode cX7_readWorks 73 = .ok (.aload_n 0, 1) := by decide +kernel
theorem dX7_readWorks_74 : decode cX7_readWorks 74 = .ok (.iconst 1, 1) := by decide +kernel
theorem dX7_readWorks_75 : decode cX7_readWorks 75 = .ok (.invokevirtual 100, 3) := by decide +kernel
theorem dX7_readWorks_78 : decode cX7_readWorks 78 = .ok (.ifCond .eq 7, 3) := by decide +kernel
theorem dX7_readWorks_81 : decode cX7_readWorks 81 = .ok (.iconst 1, 1) := by decide +kernel
theorem dX7_readWorks_82 : decode cX7_readWorks 82 = .ok (.goto 4, 3) := by decide +kernel
theorem dX7_readWorks_85 : decode cX7_readWorks 85 = .ok (.iconst 0, 1) := by decide +kernel
theorem dX7_readWorks_86 : decode cX7_readWorks 86 = .ok (.ireturn, 1) := by decide +kernel
set_option maxRecDepth 20000 in
theorem ggX7_readWork_X7_advance : GoodIn wsX7_readWork wsX7_advance := goodIn_r _ [10, 11, 12, 13, 14, 15, 16, 17, 9, 18, 19, 20, 21, 22, 110, 111, 112, 113, 114, 115, 116, 117, 118, 119, 120, 121, 122, 123] (by decide +kernel) (by decide +kernel)
set_option maxRecDepth 20000 in
theorem gX7_readWork_X7_advance : GoodIn wsX7_readWork (wsV RX7 64 RX7 yX7_advance wsX7_advance) := goodIn_app (goodIn_of _ (by decide +kernel)) ggX7_readWork_X7_advance
set_option maxRecDepth 20000 in
theorem ggX7_readWork_X7_passName : GoodIn wsX7_readWork wsX7_passName := goodIn_r _ [26, 15, 27, 28, 14, 11, 29, 30, 31, 9, 32, 33, 34, 35, 36, 37, 38, 13, 6, 7, 8, 10, 12, 16, 17, 18, 19, 20, 21, 22, 110, 111, 112, 113, 114, 115, 116, 117, 118, 119, 120, 121, 122, 123] (by decide +kernel) (by decide +kernel)
set_option maxRecDepth 20000 in
theorem gX7_readWork_X7_passName : GoodIn wsX7_readWork (wsV RX7 107 RX7 yX7_passName wsX7_passName) := goodIn_app (goodIn_of _ (by decide +kernel)) ggX7_readWork_X7_passName
set_option maxRecDepth 20000 in
theorem ggX7_readWork_X7_passWord : GoodIn wsX7_readWork wsX7_passWord := goodIn_r _ [42, 43, 44, 45, 9, 46, 15, 11, 14, 13, 47, 48, 49, 50, 51, 52, 53, 54, 55, 56, 57, 58, 59, 60, 61, 62, 63, 64, 65, 66, 67, 68, 69, 70, 71, 72, 73, 74, 75, 76, 77, 78, 79, 80, 81, 82, 83, 84, 85, 86, 87, 88, 89, 90, 91, 92, 93, 94, 95, 29, 30, 31, 32, 33, 34, 6, 7, 8, 10, 12, 16, 17, 18, 19, 20, 21, 22, 110, 111, 112, 113, 114, 115, 116, 117, 118, 119, 120, 121, 122, 123] (by decide +kernel) (by decide +kernel)
set_option maxRecDepth 20000 in
theorem gX7_readWork_X7_passWord : GoodIn wsX7_readWork (wsV RX7 112 RX7 yX7_passWord wsX7_passWord) := goodIn_app (goodIn_of _ (by decide +kernel)) ggX7_readWork_X7_passWord
set_option maxRecDepth 20000 in
theorem ggX7_readWork_X7_isNumber : GoodIn wsX7_readWork wsX7_isNumber := goodIn_r _ [99, 15, 4, 14, 11, 13, 29, 30, 31, 9, 32, 33, 34, 110, 111, 112, 113, 114, 115, 116, 117, 118, 119, 120, 121, 122, 123] (by decide +kernel) (by decide +kernel)
set_option maxRecDepth 20000 in
theorem gX7_readWork_X7_isNumber : GoodIn wsX7_readWork (wsV RX7 86 RX7 yX7_isNumber wsX7_isNumber) := goodIn_app (goodIn_of _ (by decide +kernel)) ggX7_readWork_X7_isNumber
set_option maxRecDepth 20000 in
theorem ggX7_readWork_X7_readChances : GoodIn wsX7_readWork wsX7_readChances := goodIn_r _ [103, 1, 104, 105, 4, 96, 97, 98, 9, 99, 15, 14, 11, 13, 29, 30, 31, 32, 33, 34, 6, 7, 8, 10, 12, 16, 17, 18, 19, 20, 21, 22, 110, 111, 112, 113, 114, 115, 116, 117, 118, 119, 120, 121, 122, 123, 124, 125, 126, 127, 128, 129, 130, 131, 132, 133, 134] (by decide +kernel) (by decide +kernel)
set_option maxRecDepth 20000 in
theorem gX7_readWork_X7_readChances : GoodIn wsX7_readWork (wsV RX7 134 RX7 yX7_readChances wsX7_readChances) := goodIn_app (goodIn_of _ (by decide +kernel)) ggX7_readWork_X7_readChances
set_option maxRecDepth 20000 in
theorem ggX7_readWork_X7_passSemicolon : GoodIn wsX7_readWork wsX7_passSemicolon := goodIn_r _ [109, 15, 29, 30, 31, 9, 32, 33, 14, 34, 6, 7, 8, 10, 11, 12, 13, 16, 17, 18, 19, 20, 21, 22, 110, 111, 112, 113, 114, 115, 116, 117, 118, 119, 120, 121, 122, 123] (by decide +kernel) (by decide +kernel)
set_option maxRecDepth 20000 in
theorem gX7_readWork_X7_passSemicolon : GoodIn wsX7_readWork (wsV RX7 92 RX7 yX7_passSemicolon wsX7_passSemicolon) := goodIn_app (goodIn_of _ (by decide +kernel)) ggX7_readWork_X7_passSemicolon
theorem dX7_readWork_0 : decode cX7_readWork 0 = .ok (.aload_n 0, 1) := by decide +kernel
theorem dX7_readWork_1 : decode cX7_readWork 1 = .ok (.invokevirtual 64, 3) := by decide +kernel
theorem dX7_readWork_4 : decode cX7_readWork 4 = .ok (.aload_n 0, 1) := by decide +kernel
theorem dX7_readWork_5 : decode cX7_readWork 5 = .ok (.aload_n 0, 1) := by decide +kernel
theorem dX7_readWork_6 : decode cX7_readWork 6 = .ok (.getfield 24, 3) := by decide +kernel
theorem dX7_readWork_9 : decode cX7_readWork 9 = .ok (.getfield 117, 3) := by decide +kernel
theorem dX7_readWork_12 : decode cX7_readWork 12 = .ok (.invokevirtual 107, 3) := by decide +kernel
theorem dX7_readWork_15 : decode cX7_readWork 15 = .ok (.ifCond .eq 22, 3) := by decide +kernel
theorem dX7_readWork_18 : decode cX7_readWork 18 = .ok (.aload_n 0, 1) := by decide +kernel
theorem dX7_readWork_19 : decode cX7_readWork 19 = .ok (.ldc 125, 2) := by decide +kernel
theorem dX7_readWork_21 : decode cX7_readWork 21 = .ok (.invokevirtual 112, 3) := by decide +kernel
theorem dX7_readWork_24 : decode cX7_readWork 24 = .ok (.ifCond .eq 13, 3) := by decide +kernel
theorem dX7_readWork_27 : decode cX7_readWork 27 = .ok (.aload_n 0, 1) := by decide +kernel
theorem dX7_readWork_28 : decode cX7_readWork 28 = .ok (.iconst 0, 1) := by decide +kernel
theorem dX7_readWork_29 : decode cX7_readWork 29 = .ok (.bipush 99, 2) := by decide +kernel
theorem dX7_readWork_31 : decode cX7_readWork 31 = .ok (.invokevirtual 86, 3) := by decide +kernel
theorem dX7_readWork_34 : decode cX7_readWork 34 = .ok (.ifCond .ne 5, 3) := by decide +kernel
theorem dX7_readWork_37 : decode cX7_readWork 37 = .ok (.iconst 0, 1) := by decide +kernel
theorem dX7_readWork_38 : decode cX7_readWork 38 = .ok (.ireturn, 1) := by decide +kernel
theorem dX7_readWork_39 : decode cX7_readWork 39 = .ok (.aload_n 0, 1) := by decide +kernel
theorem dX7_readWork_40 : decode cX7_readWork 40 = .ok (.getfield 24, 3) := by decide +kernel
theorem dX7_readWork_43 : decode cX7_readWork 43 = .ok (.getfield 127, 3) := by decide +kernel
theorem dX7_readWork_46 : decode cX7_readWork 46 = .ok (.aload_n 0, 1) := by decide +kernel
theorem dX7_readWork_47 : decode cX7_readWork 47 = .ok (.getfield 24, 3) := by decide +kernel
theorem dX7_readWork_50 : decode cX7_readWork 50 = .ok (.getfield 117, 3) := by decide +kernel
theorem dX7_readWork_53 : decode cX7_readWork 53 = .ok (.aload_n 0, 1) := by decide +kernel
theorem dX7_readWork_54 : decode cX7_readWork 54 = .ok (.getfield 41, 3) := by decide +kernel
theorem dX7_readWork_57 : decode cX7_readWork 57 = .ok (.iastore, 1) := by decide +kernel
theorem dX7_readWork_58 : decode cX7_readWork 58 = .ok (.aload_n 0, 1) := by decide +kernel
theorem dX7_readWork_59 : decode cX7_readWork 59 = .ok (.invokevirtual 64, 3) := by decide +kernel
theorem dX7_readWork_62 : decode cX7_readWork 62 = .ok (.aload_n 0, 1) := by decide +kernel
theorem dX7_readWork_63 : decode cX7_readWork 63 = .ok (.ldc 129, 2) := by decide +kernel
theorem dX7_readWork_65 : decode cX7_readWork 65 = .ok (.invokevirtual 112, 3) := by decide +kernel
theorem dX7_readWork_68 : decode cX7_readWork 68 = .ok (.ifCond .eq 36, 3) := by decide +kernel
theorem dX7_readWork_71 : decode cX7_readWork 71 = .ok (.aload_n 0, 1) := by decide +kernel
theorem dX7_readWork_72 : decode cX7_readWork 72 = .ok (.aload_n 0, 1) := by decide +kernel
theorem dX7_readWork_73 : decode cX7_readWork 73 = .ok (.getfield 24, 3) := by decide +kernel
theorem dX7_readWork_76 : decode cX7_readWork 76 = .ok (.getfield 131, 3) := by decide +kernel
theorem dX7_readWork_79 : decode cX7_readWork 79 = .ok (.aload_n 0, 1) := by decide +kernel
theorem dX7_readWork_80 : decode cX7_readWork 80 = .ok (.getfield 24, 3) := by decide +kernel
theorem dX7_readWork_83 : decode cX7_readWork 83 = .ok (.getfield 117, 3) := by decide +kernel
theorem dX7_readWork_86 : decode cX7_readWork 86 = .ok (.aaload, 1) := by decide +kernel
theorem dX7_readWork_87 : decode cX7_readWork 87 = .ok (.invokevirtual 134, 3) := by decide +kernel
theorem dX7_readWork_90 : decode cX7_readWork 90 = .ok (.ifCond .eq 14, 3) := by decide +kernel
theorem dX7_readWork_93 : decode cX7_readWork 93 = .ok (.aload_n 0, 1) := by decide +kernel
theorem dX7_readWork_94 : decode cX7_readWork 94 = .ok (.invokevirtual 92, 3) := by decide +kernel
theorem dX7_readWork_97 : decode cX7_readWork 97 = .ok (.ifCond .eq 7, 3) := by decide +kernel
theorem dX7_readWork_100 : decode cX7_readWork 100 = .ok (.iconst 1, 1) := by decide +kernel
theorem dX7_readWork_101 : decode cX7_readWork 101 = .ok (.goto 4, 3) := by decide +kernel
theorem dX7_readWork_104 : decode cX7_readWork 104 = .ok (.iconst 0, 1) := by decide +kernel
theorem dX7_readWork_105 : decode cX7_readWork 105 = .ok (.ireturn, 1) := by decide +kernel
set_option maxRecDepth 20000 in
theorem ggX7_readNumberOnce_X7_fail : GoodIn wsX7_readNumberOnce wsX7_fail := goodIn_r _ [5, 6, 7, 8, 33, 34, 35, 36, 37, 38, 39, 40, 41, 42, 43, 44, 45, 46] (by decide +kernel) (by decide +kernel)
set_option maxRecDepth 20000 in
theorem gX7_readNumberOnce_X7_fail : GoodIn wsX7_readNumberOnce (wsV RX7 100 RX7 yX7_fail wsX7_fail) := goodIn_app (goodIn_of _ (by decide +kernel)) ggX7_readNumberOnce_X7_fail
set_option maxRecDepth 20000 in
theorem ggX7_readNumberOnce_X7_advance : GoodIn wsX7_readNumberOnce wsX7_advance := goodIn_r _ [12, 13, 14, 15, 7, 16, 17, 18, 4, 19, 20, 21, 22, 23, 33, 34, 35, 36, 37, 38, 39, 40, 41, 42, 43, 44, 45, 46] (by decide +kernel) (by decide +kernel)
set_option maxRecDepth 20000 in
theorem gX7_readNumberOnce_X7_advance : GoodIn wsX7_readNumberOnce (wsV RX7 64 RX7 yX7_advance wsX7_advance) := goodIn_app (goodIn_of _ (by decide +kernel)) ggX7_readNumberOnce_X7_advance
set_option maxRecDepth 20000 in
theorem ggX7_readNumberOnce_X7_isNumber : GoodIn wsX7_readNumberOnce wsX7_isNumber := goodIn_r _ [27, 16, 28, 7, 13, 15, 1, 2, 3, 4, 5, 6, 8, 33, 34, 35, 36, 37, 38, 39, 40, 41, 42, 43, 44, 45, 46] (by decide +kernel) (by decide +kernel)
set_option maxRecDepth 20000 in
theorem gX7_readNumberOnce_X7_isNumber : GoodIn wsX7_readNumberOnce (wsV RX7 86 RX7 yX7_isNumber wsX7_isNumber) := goodIn_app (goodIn_of _ (by decide +kernel)) ggX7_readNumberOnce_X7_isNumber
set_option maxRecDepth 20000 in
theorem ggX7_readNumberOnce_X7_passSemicolon : GoodIn wsX7_readNumberOnce wsX7_passSemicolon := goodIn_r _ [32, 16, 1, 2, 3, 4, 5, 6, 7, 8, 9, 10, 11, 12, 13, 14, 15, 17, 18, 19, 20, 21, 22, 23, 33, 34, 35, 36, 37, 38, 39, 40, 41, 42, 43, 44, 45, 46] (by decide +kernel) (by decide +kernel)
set_option maxRecDepth 20000 in
theorem gX7_readNumberOnce_X7_passSemicolon : GoodIn wsX7_readNumberOnce (wsV RX7 92 RX7 yX7_passSemicolon wsX7_passSemicolon) := goodIn_app (goodIn_of _ (by decide +kernel)) ggX7_readNumberOnce_X7_passSemicolon
theorem dX7_readNumberOnce_0 : decode cX7_readNumberOnce 0 = .ok (.iload_n 1, 1) := by decide +kernel
theorem dX7_readNumberOnce_1 : decode cX7_readNumberOnce 1 = .ok (.ifCond .eq 9, 3) := by decide +kernel
theorem dX7_readNumberOnce_4 : decode cX7_readNumberOnce 4 = .ok (.aload_n 0, 1) := by decide +kernel
theorem dX7_readNumberOnce_5 : decode cX7_readNumberOnce 5 = .ok (.iconst 3, 1) := by decide +kernel
theorem dX7_readNumberOnce_6 : decode cX7_readNumberOnce 6 = .ok (.invokevirtual 100, 3) := by decide +kernel
theorem dX7_readNumberOnce_9 : decode cX7_readNumberOnce 9 = .ok (.ireturn, 1) := by decide +kernel
theorem dX7_readNumberOnce_10 : decode cX7_readNumberOnce 10 = .ok (.aload_n 0, 1) := by decide +kernel
theorem dX7_readNumberOnce_11 : decode cX7_readNumberOnce 11 = .ok (.invokevirtual 64, 3) := by decide +kernel
theorem dX7_readNumberOnce_14 : decode cX7_readNumberOnce 14 = .ok (.aload_n 0, 1) := by decide +kernel
theorem dX7_readNumberOnce_15 : decode cX7_readNumberOnce 15 = .ok (.iconst 0, 1) := by decide +kernel
theorem dX7_readNumberOnce_16 : decode cX7_readNumberOnce 16 = .ok (.bipush 99, 2) := by decide +kernel
theorem dX7_readNumberOnce_18 : decode cX7_readNumberOnce 18 = .ok (.invokevirtual 86, 3) := by decide +kernel
theorem dX7_readNumberOnce_21 : decode cX7_readNumberOnce 21 = .ok (.ifCond .ne 5, 3) := by decide +kernel
theorem dX7_readNumberOnce_24 : decode cX7_readNumberOnce 24 = .ok (.iconst 0, 1) := by decide +kernel
theorem dX7_readNumberOnce_25 : decode cX7_readNumberOnce 25 = .ok (.ireturn, 1) := by decide +kernel
theorem dX7_readNumberOnce_26 : decode cX7_readNumberOnce 26 = .ok (.aload_n 0, 1) := by decide +kernel
theorem dX7_readNumberOnce_27 : decode cX7_readNumberOnce 27 = .ok (.invokevirtual 64, 3) := by decide +kernel
theorem dX7_readNumberOnce_30 : decode cX7_readNumberOnce 30 = .ok (.aload_n 0, 1) := by decide +kernel
theorem dX7_readNumberOnce_31 : decode cX7_readNumberOnce 31 = .ok (.invokevirtual 92, 3) := by decide +kernel
theorem dX7_readNumberOnce_34 : decode cX7_readNumberOnce 34 = .ok (.ireturn, 1) := by decide +kernel
set_option maxRecDepth 20000 in
theorem ggX7_readFeel_X7_fail : GoodIn wsX7_readFeel wsX7_fail := goodIn_r _ [11, 12, 13, 14, 42, 43, 44, 45, 46, 47, 48, 49, 50, 51, 52, 53, 54, 55] (by decide +kernel) (by decide +kernel)
set_option maxRecDepth 20000 in
theorem gX7_readFeel_X7_fail : GoodIn wsX7_readFeel (wsV RX7 100 RX7 yX7_fail wsX7_fail) := goodIn_app (goodIn_of _ (by decide +kernel)) ggX7_readFeel_X7_fail
set_option maxRecDepth 20000 in
theorem ggX7_readFeel_X7_advance : GoodIn wsX7_readFeel wsX7_advance := goodIn_r _ [18, 19, 20, 21, 13, 5, 22, 23, 10, 24, 25, 26, 27, 28, 42, 43, 44, 45, 46, 47, 48, 49, 50, 51, 52, 53, 54, 55] (by decide +kernel) (by decide +kernel)
set_option maxRecDepth 20000 in
theorem gX7_readFeel_X7_advance : GoodIn wsX7_readFeel (wsV RX7 64 RX7 yX7_advance wsX7_advance) := goodIn_app (goodIn_of _ (by decide +kernel)) ggX7_readFeel_X7_advance
set_option maxRecDepth 20000 in
theorem ggX7_readFeel_X7_isNumber : GoodIn wsX7_readFeel wsX7_isNumber := goodIn_r _ [32, 5, 4, 13, 19, 21, 7, 8, 9, 10, 11, 12, 14, 42, 43, 44, 45, 46, 47, 48, 49, 50, 51, 52, 53, 54, 55] (by decide +kernel) (by decide +kernel)
set_option maxRecDepth 20000 in
theorem gX7_readFeel_X7_isNumber : GoodIn wsX7_readFeel (wsV RX7 86 RX7 yX7_isNumber wsX7_isNumber) := goodIn_app (goodIn_of _ (by decide +kernel)) ggX7_readFeel_X7_isNumber
set_option maxRecDepth 20000 in
theorem ggX7_readFeel_X7_readStep : GoodIn wsX7_readFeel wsX7_readStep := goodIn_r _ [36, 2, 37, 4, 3, 29, 30, 31, 10, 32, 5, 13, 19, 21, 7, 8, 9, 11, 12, 14, 15, 16, 17, 18, 20, 22, 23, 24, 25, 26, 27, 28, 42, 43, 44, 45, 46, 47, 48, 49, 50, 51, 52, 53, 54, 55, 56, 57, 58, 59, 60, 61, 62, 63, 64, 65, 66] (by decide +kernel) (by decide +kernel)
set_option maxRecDepth 20000 in
theorem gX7_readFeel_X7_readStep : GoodIn wsX7_readFeel (wsV RX7 162 RX7 yX7_readStep wsX7_readStep) := goodIn_app (goodIn_of _ (by decide +kernel)) ggX7_readFeel_X7_readStep
set_option maxRecDepth 20000 in
theorem ggX7_readFeel_X7_passSemicolon : GoodIn wsX7_readFeel wsX7_passSemicolon := goodIn_r _ [41, 5, 7, 8, 9, 10, 11, 12, 13, 14, 15, 16, 17, 18, 19, 20, 21, 22, 23, 24, 25, 26, 27, 28, 42, 43, 44, 45, 46, 47, 48, 49, 50, 51, 52, 53, 54, 55] (by decide +kernel) (by decide +kernel)
set_option maxRecDepth 20000 in
theorem gX7_readFeel_X7_passSemicolon : GoodIn wsX7_readFeel (wsV RX7 92 RX7 yX7_passSemicolon wsX7_passSemicolon) := goodIn_app (goodIn_of _ (by decide +kernel)) ggX7_readFeel_X7_passSemicolon
theorem dX7_readFeel_0 : decode cX7_readFeel 0 = .ok (.aload_n 0, 1) := by decide +kernel
theorem dX7_readFeel_1 : decode cX7_readFeel 1 = .ok (.getfield 58, 3) := by decide +kernel
theorem dX7_readFeel_4 : decode cX7_readFeel 4 = .ok (.ifCond .eq 9, 3) := by decide +kernel
theorem dX7_readFeel_7 : decode cX7_readFeel 7 = .ok (.aload_n 0, 1) := by decide +kernel
theorem dX7_readFeel_8 : decode cX7_readFeel 8 = .ok (.iconst 3, 1) := by decide +kernel
theorem dX7_readFeel_9 : decode cX7_readFeel 9 = .ok (.invokevirtual 100, 3) := by decide +kernel
theorem dX7_readFeel_12 : decode cX7_readFeel 12 = .ok (.ireturn, 1) := by decide +kernel
theorem dX7_readFeel_13 : decode cX7_readFeel 13 = .ok (.aload_n 0, 1) := by decide +kernel
theorem dX7_readFeel_14 : decode cX7_readFeel 14 = .ok (.iconst 1, 1) := by decide +kernel
theorem dX7_readFeel_15 : decode cX7_readFeel 15 = .ok (.putfield 58, 3) := by decide +kernel
theorem dX7_readFeel_18 : decode cX7_readFeel 18 = .ok (.aload_n 0, 1) := by decide +kernel
theorem dX7_readFeel_19 : decode cX7_readFeel 19 = .ok (.invokevirtual 64, 3) := by decide +kernel
theorem dX7_readFeel_22 : decode cX7_readFeel 22 = .ok (.aload_n 0, 1) := by decide +kernel
theorem dX7_readFeel_23 : decode cX7_readFeel 23 = .ok (.iconst 1, 1) := by decide +kernel
theorem dX7_readFeel_24 : decode cX7_readFeel 24 = .ok (.iconst 5, 1) := by decide +kernel
theorem dX7_readFeel_25 : decode cX7_readFeel 25 = .ok (.invokevirtual 86, 3) := by decide +kernel
theorem dX7_readFeel_28 : decode cX7_readFeel 28 = .ok (.ifCond .ne 5, 3) := by decide +kernel
theorem dX7_readFeel_31 : decode cX7_readFeel 31 = .ok (.iconst 0, 1) := by decide +kernel
theorem dX7_readFeel_32 : decode cX7_readFeel 32 = .ok (.ireturn, 1) := by decide +kernel
theorem dX7_readFeel_33 : decode cX7_readFeel 33 = .ok (.aload_n 0, 1) := by decide +kernel
theorem dX7_readFeel_34 : decode cX7_readFeel 34 = .ok (.getfield 24, 3) := by decide +kernel
theorem dX7_readFeel_37 : decode cX7_readFeel 37 = .ok (.getfield 156, 3) := by decide +kernel
theorem dX7_readFeel_40 : decode cX7_readFeel 40 = .ok (.iconst 0, 1) := by decide +kernel
theorem dX7_readFeel_41 : decode cX7_readFeel 41 = .ok (.aload_n 0, 1) := by decide +kernel
theorem dX7_readFeel_42 : decode cX7_readFeel 42 = .ok (.getfield 41, 3) := by decide +kernel
theorem dX7_readFeel_45 : decode cX7_readFeel 45 = .ok (.iastore, 1) := by decide +kernel
theorem dX7_readFeel_46 : decode cX7_readFeel 46 = .ok (.aload_n 0, 1) := by decide +kernel
theorem dX7_readFeel_47 : decode cX7_readFeel 47 = .ok (.invokevirtual 64, 3) := by decide +kernel
theorem dX7_readFeel_50 : decode cX7_readFeel 50 = .ok (.aload_n 0, 1) := by decide +kernel
theorem dX7_readFeel_51 : decode cX7_readFeel 51 = .ok (.getfield 35, 3) := by decide +kernel
theorem dX7_readFeel_54 : decode cX7_readFeel 54 = .ok (.iconst 2, 1) := by decide +kernel
theorem dX7_readFeel_55 : decode cX7_readFeel 55 = .ok (.if_icmp .ne 46, 3) := by decide +kernel
theorem dX7_readFeel_58 : decode cX7_readFeel 58 = .ok (.aload_n 0, 1) := by decide +kernel
theorem dX7_readFeel_59 : decode cX7_readFeel 59 = .ok (.getfield 24, 3) := by decide +kernel
theorem dX7_readFeel_62 : decode cX7_readFeel 62 = .ok (.getfield 159, 3) := by decide +kernel
theorem dX7_readFeel_65 : decode cX7_readFeel 65 = .ok (.iconst 3, 1) := by decide +kernel
theorem dX7_readFeel_66 : decode cX7_readFeel 66 = .ok (.if_icmp .gt 35, 3) := by decide +kernel
theorem dX7_readFeel_69 : decode cX7_readFeel 69 = .ok (.aload_n 0, 1) := by decide +kernel
theorem dX7_readFeel_70 : decode cX7_readFeel 70 = .ok (.aload_n 0, 1) := by decide +kernel
theorem dX7_readFeel_71 : decode cX7_readFeel 71 = .ok (.getfield 24, 3) := by decide +kernel
theorem dX7_readFeel_74 : decode cX7_readFeel 74 = .ok (.getfield 159, 3) := by decide +kernel
theorem dX7_readFeel_77 : decode cX7_readFeel 77 = .ok (.invokevirtual 162, 3) := by decide +kernel
theorem dX7_readFeel_80 : decode cX7_readFeel 80 = .ok (.ifCond .ne 5, 3) := by decide +kernel
theorem dX7_readFeel_83 : decode cX7_readFeel 83 = .ok (.iconst 0, 1) := by decide +kernel
theorem dX7_readFeel_84 : decode cX7_readFeel 84 = .ok (.ireturn, 1) := by decide +kernel
theorem dX7_readFeel_85 : decode cX7_readFeel 85 = .ok (.aload_n 0, 1) := by decide +kernel
theorem dX7_readFeel_86 : decode cX7_readFeel 86 = .ok (.getfield 24, 3) := by decide +kernel
theorem dX7_readFeel_89 : decode cX7_readFeel 89 = .ok (.dup, 1) := by decide +kernel
theorem dX7_readFeel_90 : decode cX7_readFeel 90 = .ok (.getfield 159, 3) := by decide +kernel
theorem dX7_readFeel_93 : decode cX7_readFeel 93 = .ok (.iconst 1, 1) := by decide +kernel
theorem dX7_readFeel_94 : decode cX7_readFeel 94 = .ok (.iadd, 1) := by decide +kernel
theorem dX7_readFeel_95 : decode cX7_readFeel 95 = .ok (.putfield 159, 3) := by decide +kernel
theorem dX7_readFeel_98 : decode cX7_readFeel 98 = .ok (.goto (-48), 3) := by decide +kernel
theorem dX7_readFeel_101 : decode cX7_readFeel 101 = .ok (.aload_n 0, 1) := by decide +kernel
theorem dX7_readFeel_102 : decode cX7_readFeel 102 = .ok (.invokevirtual 92, 3) := by decide +kernel
theorem dX7_readFeel_105 : decode cX7_readFeel 105 = .ok (.ireturn, 1) := by decide +kernel
set_option maxRecDepth 20000 in
theorem ggX7_readStep_X7_isNumber : GoodIn wsX7_readStep wsX7_isNumber := goodIn_r _ [9, 10, 3, 11, 12, 13, 14, 15, 16, 8, 17, 18, 19, 32, 33, 34, 35, 36, 37, 38, 39, 40, 41, 42, 43, 44, 45] (by decide +kernel) (by decide +kernel)
set_option maxRecDepth 20000 in
theorem gX7_readStep_X7_isNumber : GoodIn wsX7_readStep (wsV RX7 86 RX7 yX7_isNumber wsX7_isNumber) := goodIn_app (goodIn_of _ (by decide +kernel)) ggX7_readStep_X7_isNumber
set_option maxRecDepth 20000 in
theorem ggX7_readStep_X7_fail : GoodIn wsX7_readStep wsX7_fail := goodIn_r _ [17, 18, 11, 19, 32, 33, 34, 35, 36, 37, 38, 39, 40, 41, 42, 43, 44, 45] (by decide +kernel) (by decide +kernel)
set_option maxRecDepth 20000 in
theorem gX7_readStep_X7_fail : GoodIn wsX7_readStep (wsV RX7 100 RX7 yX7_fail wsX7_fail) := goodIn_app (goodIn_of _ (by decide +kernel)) ggX7_readStep_X7_fail
set_option maxRecDepth 20000 in
theorem ggX7_readStep_X7_advance : GoodIn wsX7_readStep wsX7_advance := goodIn_r _ [23, 12, 24, 13, 11, 10, 25, 26, 8, 27, 28, 29, 30, 31, 32, 33, 34, 35, 36, 37, 38, 39, 40, 41, 42, 43, 44, 45] (by decide +kernel) (by decide +kernel)
set_option maxRecDepth 20000 in
theorem gX7_readStep_X7_advance : GoodIn wsX7_readStep (wsV RX7 64 RX7 yX7_advance wsX7_advance) := goodIn_app (goodIn_of _ (by decide +kernel)) ggX7_readStep_X7_advance
theorem dX7_readStep_0 : decode cX7_readStep 0 = .ok (.iload_n 1, 1) := by decide +kernel
theorem dX7_readStep_1 : decode cX7_readStep 1 = .ok (.iconst 2, 1) := by decide +kernel
theorem dX7_readStep_2 : decode cX7_readStep 2 = .ok (.if_icmp .ge 7, 3) := by decide +kernel
theorem dX7_readStep_5 : decode cX7_readStep 5 = .ok (.iconst 1, 1) := by decide +kernel
theorem dX7_readStep_6 : decode cX7_readStep 6 = .ok (.goto 16, 3) := by decide +kernel
theorem dX7_readStep_9 : decode cX7_readStep 9 = .ok (.aload_n 0, 1) := by decide +kernel
theorem dX7_readStep_10 : decode cX7_readStep 10 = .ok (.getfield 24, 3) := by decide +kernel
theorem dX7_readStep_13 : decode cX7_readStep 13 = .ok (.getfield 165, 3) := by decide +kernel
theorem dX7_readStep_16 : decode cX7_readStep 16 = .ok (.iload_n 1, 1) := by decide +kernel
theorem dX7_readStep_17 : decode cX7_readStep 17 = .ok (.iconst 2, 1) := by decide +kernel
theorem dX7_readStep_18 : decode cX7_readStep 18 = .ok (.isub, 1) := by decide +kernel
theorem dX7_readStep_19 : decode cX7_readStep 19 = .ok (.iaload, 1) := by decide +kernel
theorem dX7_readStep_20 : decode cX7_readStep 20 = .ok (.iconst 1, 1) := by decide +kernel
theorem dX7_readStep_21 : decode cX7_readStep 21 = .ok (.iadd, 1) := by decide +kernel
theorem dX7_readStep_22 : decode cX7_readStep 22 = .ok (.istore_n 2, 1) := by decide +kernel
theorem dX7_readStep_23 : decode cX7_readStep 23 = .ok (.aload_n 0, 1) := by decide +kernel
theorem dX7_readStep_24 : decode cX7_readStep 24 = .ok (.iload_n 2, 1) := by decide +kernel
theorem dX7_readStep_25 : decode cX7_readStep 25 = .ok (.bipush 99, 2) := by decide +kernel
theorem dX7_readStep_27 : decode cX7_readStep 27 = .ok (.invokevirtual 86, 3) := by decide +kernel
theorem dX7_readStep_30 : decode cX7_readStep 30 = .ok (.ifCond .ne 5, 3) := by decide +kernel
theorem dX7_readStep_33 : decode cX7_readStep 33 = .ok (.iconst 0, 1) := by decide +kernel
theorem dX7_readStep_34 : decode cX7_readStep 34 = .ok (.ireturn, 1) := by decide +kernel
theorem dX7_readStep_35 : decode cX7_readStep 35 = .ok (.iload_n 1, 1) := by decide +kernel
theorem dX7_readStep_36 : decode cX7_readStep 36 = .ok (.iconst 3, 1) := by decide +kernel
theorem dX7_readStep_37 : decode cX7_readStep 37 = .ok (.if_icmp .lt 9, 3) := by decide +kernel
theorem dX7_readStep_40 : decode cX7_readStep 40 = .ok (.aload_n 0, 1) := by decide +kernel
theorem dX7_readStep_41 : decode cX7_readStep 41 = .ok (.iconst 4, 1) := by decide +kernel
theorem dX7_readStep_42 : decode cX7_readStep 42 = .ok (.invokevirtual 100, 3) := by decide +kernel
theorem dX7_readStep_45 : decode cX7_readStep 45 = .ok (.ireturn, 1) := by decide +kernel
theorem dX7_readStep_46 : decode cX7_readStep 46 = .ok (.aload_n 0, 1) := by decide +kernel
theorem dX7_readStep_47 : decode cX7_readStep 47 = .ok (.getfield 24, 3) := by decide +kernel
theorem dX7_readStep_50 : decode cX7_readStep 50 = .ok (.getfield 165, 3) := by decide +kernel
theorem dX7_readStep_53 : decode cX7_readStep 53 = .ok (.iload_n 1, 1) := by decide +kernel
theorem dX7_readStep_54 : decode cX7_readStep 54 = .ok (.iconst 1, 1) := by decide +kernel
theorem dX7_readStep_55 : decode cX7_readStep 55 = .ok (.isub, 1) := by decide +kernel
theorem dX7_readStep_56 : decode cX7_readStep 56 = .ok (.aload_n 0, 1) := by decide +kernel
theorem dX7_readStep_57 : decode cX7_readStep 57 = .ok (.getfield 41, 3) := by decide +kernel
theorem dX7_readStep_60 : decode cX7_readStep 60 = .ok (.iastore, 1) := by decide +kernel
theorem dX7_readStep_61 : decode cX7_readStep 61 = .ok (.aload_n 0, 1) := by decide +kernel
theorem dX7_readStep_62 : decode cX7_readStep 62 = .ok (.invokevirtual 64, 3) := by decide +kernel
theorem dX7_readStep_65 : decode cX7_readStep 65 = .ok (.aload_n 0, 1) := by decide +kernel
theorem dX7_readStep_66 : decode cX7_readStep 66 = .ok (.iconst 1, 1) := by decide +kernel
theorem dX7_readStep_67 : decode cX7_readStep 67 = .ok (.aload_n 0, 1) := by decide +kernel
theorem dX7_readStep_68 : decode cX7_readStep 68 = .ok (.getfield 24, 3) := by decide +kernel
theorem dX7_readStep_71 : decode cX7_readStep 71 = .ok (.getfield 156, 3) := by decide +kernel
theorem dX7_readStep_74 : decode cX7_readStep 74 = .ok (.iload_n 1, 1) := by decide +kernel
theorem dX7_readStep_75 : decode cX7_readStep 75 = .ok (.iconst 1, 1) := by decide +kernel
theorem dX7_readStep_76 : decode cX7_readStep 76 = .ok (.isub, 1) := by decide +kernel
theorem dX7_readStep_77 : decode cX7_readStep 77 = .ok (.iaload, 1) := by decide +kernel
theorem dX7_readStep_78 : decode cX7_readStep 78 = .ok (.iconst 1, 1) := by decide +kernel
theorem dX7_readStep_79 : decode cX7_readStep 79 = .ok (.isub, 1) := by decide +kernel
theorem dX7_readStep_80 : decode cX7_readStep 80 = .ok (.invokevirtual 86, 3) := by decide +kernel
theorem dX7_readStep_83 : decode cX7_readStep 83 = .ok (.ifCond .ne 5, 3) := by decide +kernel
theorem dX7_readStep_86 : decode cX7_readStep 86 = .ok (.iconst 0, 1) := by decide +kernel
theorem dX7_readStep_87 : decode cX7_readStep 87 = .ok (.ireturn, 1) := by decide +kernel
theorem dX7_readStep_88 : decode cX7_readStep 88 = .ok (.aload_n 0, 1) := by decide +kernel
theorem dX7_readStep_89 : decode cX7_readStep 89 = .ok (.getfield 24, 3) := by decide +kernel
theorem dX7_readStep_92 : decode cX7_readStep 92 = .ok (.getfield 156, 3) := by decide +kernel
theorem dX7_readStep_95 : decode cX7_readStep 95 = .ok (.iload_n 1, 1) := by decide +kernel
theorem dX7_readStep_96 : decode cX7_readStep 96 = .ok (.aload_n 0, 1) := by decide +kernel
theorem dX7_readStep_97 : decode cX7_readStep 97 = .ok (.getfield 41, 3) := by decide +kernel
theorem dX7_readStep_100 : decode cX7_readStep 100 = .ok (.iastore, 1) := by decide +kernel
theorem dX7_readStep_101 : decode cX7_readStep 101 = .ok (.aload_n 0, 1) := by decide +kernel
theorem dX7_readStep_102 : decode cX7_readStep 102 = .ok (.invokevirtual 64, 3) := by decide +kernel
theorem dX7_readStep_105 : decode cX7_readStep 105 = .ok (.iconst 1, 1) := by decide +kernel
theorem dX7_readStep_106 : decode cX7_readStep 106 = .ok (.ireturn, 1) := by decide +kernel
theorem kk_X7_readWorks_0 : Cond.fieldLink RX7 24 "PaidBySigns$Reader" "into" "LPaidBySigns$Hire;" ∈ wsX7_readWorks := by decide +kernel
theorem kk_X7_readWorks_1 : Cond.fieldLink RX7 117 "PaidBySigns$Hire" "works" "I" ∈ wsX7_readWorks := by decide +kernel
theorem kk_X7_readWork_0 : Cond.fieldLink RX7 24 "PaidBySigns$Reader" "into" "LPaidBySigns$Hire;" ∈ wsX7_readWork := by decide +kernel
theorem kk_X7_readWork_1 : Cond.fieldLink RX7 117 "PaidBySigns$Hire" "works" "I" ∈ wsX7_readWork := by decide +kernel
theorem kk_X7_readWork_2 : Cond.fieldLink RX7 127 "PaidBySigns$Hire" "costs" "[I" ∈ wsX7_readWork := by decide +kernel
theorem kk_X7_readWork_3 : Cond.fieldLink RX7 41 "PaidBySigns$Reader" "value" "I" ∈ wsX7_readWork := by decide +kernel
theorem kk_X7_readWork_4 : Cond.fieldLink RX7 131 "PaidBySigns$Hire" "chances" "[[I" ∈ wsX7_readWork := by decide +kernel
theorem kk_X7_readFeel_0 : Cond.fieldLink RX7 58 "PaidBySigns$Reader" "hasFeel" "Z" ∈ wsX7_readFeel := by decide +kernel
theorem kk_X7_readFeel_1 : Cond.fieldLink RX7 24 "PaidBySigns$Reader" "into" "LPaidBySigns$Hire;" ∈ wsX7_readFeel := by decide +kernel
theorem kk_X7_readFeel_2 : Cond.fieldLink RX7 156 "PaidBySigns$Hire" "rate" "[I" ∈ wsX7_readFeel := by decide +kernel
theorem kk_X7_readFeel_3 : Cond.fieldLink RX7 41 "PaidBySigns$Reader" "value" "I" ∈ wsX7_readFeel := by decide +kernel
theorem kk_X7_readFeel_4 : Cond.fieldLink RX7 35 "PaidBySigns$Reader" "token" "I" ∈ wsX7_readFeel := by decide +kernel
theorem kk_X7_readFeel_5 : Cond.fieldLink RX7 159 "PaidBySigns$Hire" "rates" "I" ∈ wsX7_readFeel := by decide +kernel
theorem kk_X7_readStep_0 : Cond.fieldLink RX7 24 "PaidBySigns$Reader" "into" "LPaidBySigns$Hire;" ∈ wsX7_readStep := by decide +kernel
theorem kk_X7_readStep_1 : Cond.fieldLink RX7 165 "PaidBySigns$Hire" "mark" "[I" ∈ wsX7_readStep := by decide +kernel
theorem kk_X7_readStep_2 : Cond.fieldLink RX7 41 "PaidBySigns$Reader" "value" "I" ∈ wsX7_readStep := by decide +kernel
theorem kk_X7_readStep_3 : Cond.fieldLink RX7 156 "PaidBySigns$Hire" "rate" "[I" ∈ wsX7_readStep := by decide +kernel
theorem iw_X7_readWorks_X7 : ∀ w ∈ wsX70, w ∈ wsX7_readWorks := by decide +kernel
theorem iw_X7_readWorks_X3 : ∀ w ∈ wsX30, w ∈ wsX7_readWorks := by decide +kernel
theorem iw_X7_readWork_X7 : ∀ w ∈ wsX70, w ∈ wsX7_readWork := by decide +kernel
theorem iw_X7_readWork_X3 : ∀ w ∈ wsX30, w ∈ wsX7_readWork := by decide +kernel
theorem iw_X7_readFeel_X7 : ∀ w ∈ wsX70, w ∈ wsX7_readFeel := by decide +kernel
theorem iw_X7_readFeel_X3 : ∀ w ∈ wsX30, w ∈ wsX7_readFeel := by decide +kernel
theorem iw_X7_readStep_X7 : ∀ w ∈ wsX70, w ∈ wsX7_readStep := by decide +kernel
theorem iw_X7_readStep_X3 : ∀ w ∈ wsX30, w ∈ wsX7_readStep := by decide +kernel
