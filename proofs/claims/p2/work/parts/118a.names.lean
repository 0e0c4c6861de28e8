abbrev cX7_readText : ByteArray := prog_9_method_3_code
def yX7_readText : MethodName := ⟨RX7, "readText", "()Z"⟩
abbrev cX7_readRests : ByteArray := prog_9_method_11_code
def yX7_readRests : MethodName := ⟨RX7, "readRests", "()Z"⟩
abbrev wsX90 : List Cond := u_ws RX9 TX9 14
abbrev cX9_feed : ByteArray := prog_1_method_2_code
def yX9_feed : MethodName := ⟨RX9, "feed", "(IIIII)I"⟩
abbrev cX9_end : ByteArray := prog_1_method_3_code
def yX9_end : MethodName := ⟨RX9, "end", "(I)I"⟩
def wsX7_readRests_r1 : List Cond := [Cond.fieldLink RX7 35 "PaidBySigns$Reader" "token" "I", Cond.fieldLink RX7 51 "PaidBySigns$Reader" "hasElse" "Z", Cond.fieldLink RX7 24 "PaidBySigns$Reader" "into" "LPaidBySigns$Hire;", Cond.fieldLink RX7 41 "PaidBySigns$Reader" "value" "I", Cond.fieldLink RX7 144 "PaidBySigns$Hire" "otherwise" "I", Cond.fieldLink RX7 55 "PaidBySigns$Reader" "hasLeast" "Z", Cond.fieldLink RX7 149 "PaidBySigns$Hire" "least" "I", Cond.methodLink RX7 82 yX7_isWord, Cond.instanceMethod yX7_isWord, Cond.selects RX7 yX7_isWord yX7_isWord, Cond.initialized RX7, Cond.code yX7_isWord cX7_isWord 3 (some .boolean), Cond.fieldLink RX7 32 "PaidBySigns$Reader" "next" "I", Cond.fieldLink RX7 38 "PaidBySigns$Reader" "start" "I", Cond.fieldLink RX7 28 "PaidBySigns$Reader" "text" "[B", Cond.methodLink RX7 171 yJ0_length_8abf5, Cond.instanceMethod yJ0_length_8abf5, Cond.selects RJ0 yJ0_length_8abf5 yJ0_length_8abf5, Cond.initialized RJ0, Cond.code yJ0_length_8abf5 cJ0_length_8abf5 1 (some .int), Cond.fieldLink RJ0 9 "java/lang/String" "value" "[B", Cond.methodLink RJ0 335 yJ0_coder_7d493, Cond.instanceMethod yJ0_coder_7d493, Cond.selects RJ0 yJ0_coder_7d493 yJ0_coder_7d493]
def wsX7_readRests_r2 : List Cond := [Cond.code yJ0_coder_7d493 cJ0_coder_7d493 1 (some .byte), Cond.fieldLink RJ0 38 "java/lang/String" "COMPACT_STRINGS" "Z", Cond.fieldLink RJ0 15 "java/lang/String" "coder" "B", Cond.methodLink RX7 176 yJ0_charAt_5068e, Cond.instanceMethod yJ0_charAt_5068e, Cond.selects RJ0 yJ0_charAt_5068e yJ0_charAt_5068e, Cond.code yJ0_charAt_5068e cJ0_charAt_5068e 2 (some .char), Cond.methodLink RJ0 492 yJ0_isLatin1_aae02, Cond.instanceMethod yJ0_isLatin1_aae02, Cond.selects RJ0 yJ0_isLatin1_aae02 yJ0_isLatin1_aae02, Cond.code yJ0_isLatin1_aae02 cJ0_isLatin1_aae02 1 (some .boolean), Cond.methodLink RJ0 495 yJ1_charAt_3b067, Cond.static yJ1_charAt_3b067, Cond.initialized RJ1, Cond.code yJ1_charAt_3b067 cJ1_charAt_3b067 2 (some .char), Cond.methodLink RJ1 9 yJ0_checkIndex_df160, Cond.static yJ0_checkIndex_df160, Cond.code yJ0_checkIndex_df160 cJ0_checkIndex_df160 2 none, Cond.fieldLink RJ0 1053 "jdk/internal/util/Preconditions" "SIOOBE_FORMATTER" "Ljava/util/function/BiFunction;", Cond.methodLink RJ0 1059 yJ3_checkIndex_8e157, Cond.static yJ3_checkIndex_8e157, Cond.initialized RJ3, Cond.code yJ3_checkIndex_8e157 cJ3_checkIndex_8e157 3 (some .int), Cond.methodLink RJ0 498 yJ2_charAt_3b067]
def wsX7_readRests_r3 : List Cond := [Cond.static yJ2_charAt_3b067, Cond.initialized RJ2, Cond.code yJ2_charAt_3b067 cJ2_charAt_3b067 2 (some .char), Cond.methodLink RJ2 67 yJ2_checkIndex_2214a, Cond.static yJ2_checkIndex_2214a, Cond.code yJ2_checkIndex_2214a cJ2_checkIndex_2214a 2 none, Cond.methodLink RJ2 48 yJ2_length_9d52b, Cond.static yJ2_length_9d52b, Cond.code yJ2_length_9d52b cJ2_length_9d52b 1 (some .int), Cond.methodLink RJ2 414 yJ0_checkIndex_df160, Cond.methodLink RJ2 71 yJ2_getChar_3b067, Cond.static yJ2_getChar_3b067, Cond.code yJ2_getChar_3b067 cJ2_getChar_3b067 2 (some .char), Cond.fieldLink RJ2 44 "java/lang/StringUTF16" "$assertionsDisabled" "Z", Cond.fieldLink RJ2 59 "java/lang/StringUTF16" "HI_BYTE_SHIFT" "I", Cond.fieldLink RJ2 63 "java/lang/StringUTF16" "LO_BYTE_SHIFT" "I", Cond.methodLink RX7 140 yX7_readNumberOnce, Cond.instanceMethod yX7_readNumberOnce, Cond.selects RX7 yX7_readNumberOnce yX7_readNumberOnce, Cond.code yX7_readNumberOnce cX7_readNumberOnce 2 (some .boolean), Cond.methodLink RX7 100 yX7_fail, Cond.instanceMethod yX7_fail, Cond.selects RX7 yX7_fail yX7_fail, Cond.code yX7_fail cX7_fail 2 (some .boolean)]
def wsX7_readRests_r4 : List Cond := [Cond.fieldLink RX7 15 "PaidBySigns$Reader" "faultKind" "I", Cond.fieldLink RX7 18 "PaidBySigns$Reader" "faultPlace" "I", Cond.methodLink RX7 64 yX7_advance, Cond.instanceMethod yX7_advance, Cond.selects RX7 yX7_advance yX7_advance, Cond.code yX7_advance cX7_advance 1 none, Cond.fieldLink RX7 9 "PaidBySigns$Reader" "length" "I", Cond.methodLink RX7 180 yX7_kindOf, Cond.static yX7_kindOf, Cond.code yX7_kindOf cX7_kindOf 1 (some .int), Cond.methodLink RX7 184 yX7_takeRun, Cond.instanceMethod yX7_takeRun, Cond.selects RX7 yX7_takeRun yX7_takeRun, Cond.code yX7_takeRun cX7_takeRun 2 none, Cond.methodLink RX7 86 yX7_isNumber, Cond.instanceMethod yX7_isNumber, Cond.selects RX7 yX7_isNumber yX7_isNumber, Cond.code yX7_isNumber cX7_isNumber 4 (some .boolean), Cond.methodLink RX7 92 yX7_passSemicolon, Cond.instanceMethod yX7_passSemicolon, Cond.selects RX7 yX7_passSemicolon yX7_passSemicolon, Cond.code yX7_passSemicolon cX7_passSemicolon 1 (some .boolean), Cond.methodLink RX7 153 yX7_readFeel, Cond.instanceMethod yX7_readFeel]
def wsX7_readRests_r5 : List Cond := [Cond.selects RX7 yX7_readFeel yX7_readFeel, Cond.code yX7_readFeel cX7_readFeel 1 (some .boolean), Cond.fieldLink RX7 58 "PaidBySigns$Reader" "hasFeel" "Z", Cond.fieldLink RX7 156 "PaidBySigns$Hire" "rate" "[I", Cond.fieldLink RX7 159 "PaidBySigns$Hire" "rates" "I", Cond.methodLink RX7 162 yX7_readStep, Cond.instanceMethod yX7_readStep, Cond.selects RX7 yX7_readStep yX7_readStep, Cond.code yX7_readStep cX7_readStep 3 (some .boolean), Cond.fieldLink RX7 165 "PaidBySigns$Hire" "mark" "[I"]
def wsX7_readRests : List Cond := .code yX7_readRests cX7_readRests 3 (some .boolean) :: ((wsX7_readRests_r1 ++ (wsX7_readRests_r2 ++ (wsX7_readRests_r3 ++ (wsX7_readRests_r4 ++ wsX7_readRests_r5)))) ++ wsX70 ++ wsX30)
def wsX7_readText_r1 : List Cond := [Cond.fieldLink RX7 32 "PaidBySigns$Reader" "next" "I", Cond.fieldLink RX7 24 "PaidBySigns$Reader" "into" "LPaidBySigns$Hire;", Cond.fieldLink RX7 51 "PaidBySigns$Reader" "hasElse" "Z", Cond.fieldLink RX7 55 "PaidBySigns$Reader" "hasLeast" "Z", Cond.fieldLink RX7 58 "PaidBySigns$Reader" "hasFeel" "Z", Cond.fieldLink RX7 15 "PaidBySigns$Reader" "faultKind" "I", Cond.fieldLink RX7 18 "PaidBySigns$Reader" "faultPlace" "I", Cond.methodLink RX7 61 yX3_clear, Cond.instanceMethod yX3_clear, Cond.selects RX3 yX3_clear yX3_clear, Cond.initialized RX3, Cond.code yX3_clear cX3_clear 1 none, Cond.fieldLink RX3 32 "PaidBySigns$Hire" "signs" "I", Cond.fieldLink RX3 36 "PaidBySigns$Hire" "works" "I", Cond.fieldLink RX3 39 "PaidBySigns$Hire" "whole" "I", Cond.fieldLink RX3 42 "PaidBySigns$Hire" "otherwise" "I", Cond.fieldLink RX3 45 "PaidBySigns$Hire" "least" "I", Cond.fieldLink RX3 48 "PaidBySigns$Hire" "rates" "I", Cond.fieldLink RX3 23 "PaidBySigns$Hire" "rate" "[I", Cond.methodLink RX7 64 yX7_advance, Cond.instanceMethod yX7_advance, Cond.selects RX7 yX7_advance yX7_advance, Cond.initialized RX7, Cond.code yX7_advance cX7_advance 1 none]
def wsX7_readText_r2 : List Cond := [Cond.fieldLink RX7 9 "PaidBySigns$Reader" "length" "I", Cond.fieldLink RX7 28 "PaidBySigns$Reader" "text" "[B", Cond.fieldLink RX7 38 "PaidBySigns$Reader" "start" "I", Cond.fieldLink RX7 35 "PaidBySigns$Reader" "token" "I", Cond.methodLink RX7 180 yX7_kindOf, Cond.static yX7_kindOf, Cond.code yX7_kindOf cX7_kindOf 1 (some .int), Cond.methodLink RX7 184 yX7_takeRun, Cond.instanceMethod yX7_takeRun, Cond.selects RX7 yX7_takeRun yX7_takeRun, Cond.code yX7_takeRun cX7_takeRun 2 none, Cond.methodLink RX7 67 yX7_readWhole, Cond.instanceMethod yX7_readWhole, Cond.selects RX7 yX7_readWhole yX7_readWhole, Cond.code yX7_readWhole cX7_readWhole 1 (some .boolean), Cond.fieldLink RX7 41 "PaidBySigns$Reader" "value" "I", Cond.fieldLink RX7 90 "PaidBySigns$Hire" "whole" "I", Cond.methodLink RX7 82 yX7_isWord, Cond.instanceMethod yX7_isWord, Cond.selects RX7 yX7_isWord yX7_isWord, Cond.code yX7_isWord cX7_isWord 3 (some .boolean), Cond.methodLink RX7 171 yJ0_length_8abf5, Cond.instanceMethod yJ0_length_8abf5, Cond.selects RJ0 yJ0_length_8abf5 yJ0_length_8abf5]
def wsX7_readText_r3 : List Cond := [Cond.initialized RJ0, Cond.code yJ0_length_8abf5 cJ0_length_8abf5 1 (some .int), Cond.fieldLink RJ0 9 "java/lang/String" "value" "[B", Cond.methodLink RJ0 335 yJ0_coder_7d493, Cond.instanceMethod yJ0_coder_7d493, Cond.selects RJ0 yJ0_coder_7d493 yJ0_coder_7d493, Cond.code yJ0_coder_7d493 cJ0_coder_7d493 1 (some .byte), Cond.fieldLink RJ0 38 "java/lang/String" "COMPACT_STRINGS" "Z", Cond.fieldLink RJ0 15 "java/lang/String" "coder" "B", Cond.methodLink RX7 176 yJ0_charAt_5068e, Cond.instanceMethod yJ0_charAt_5068e, Cond.selects RJ0 yJ0_charAt_5068e yJ0_charAt_5068e, Cond.code yJ0_charAt_5068e cJ0_charAt_5068e 2 (some .char), Cond.methodLink RJ0 492 yJ0_isLatin1_aae02, Cond.instanceMethod yJ0_isLatin1_aae02, Cond.selects RJ0 yJ0_isLatin1_aae02 yJ0_isLatin1_aae02, Cond.code yJ0_isLatin1_aae02 cJ0_isLatin1_aae02 1 (some .boolean), Cond.methodLink RJ0 495 yJ1_charAt_3b067, Cond.static yJ1_charAt_3b067, Cond.initialized RJ1, Cond.code yJ1_charAt_3b067 cJ1_charAt_3b067 2 (some .char), Cond.methodLink RJ1 9 yJ0_checkIndex_df160, Cond.static yJ0_checkIndex_df160, Cond.code yJ0_checkIndex_df160 cJ0_checkIndex_df160 2 none]
def wsX7_readText_r4 : List Cond := [Cond.fieldLink RJ0 1053 "jdk/internal/util/Preconditions" "SIOOBE_FORMATTER" "Ljava/util/function/BiFunction;", Cond.methodLink RJ0 1059 yJ3_checkIndex_8e157, Cond.static yJ3_checkIndex_8e157, Cond.initialized RJ3, Cond.code yJ3_checkIndex_8e157 cJ3_checkIndex_8e157 3 (some .int), Cond.methodLink RJ0 498 yJ2_charAt_3b067, Cond.static yJ2_charAt_3b067, Cond.initialized RJ2, Cond.code yJ2_charAt_3b067 cJ2_charAt_3b067 2 (some .char), Cond.methodLink RJ2 67 yJ2_checkIndex_2214a, Cond.static yJ2_checkIndex_2214a, Cond.code yJ2_checkIndex_2214a cJ2_checkIndex_2214a 2 none, Cond.methodLink RJ2 48 yJ2_length_9d52b, Cond.static yJ2_length_9d52b, Cond.code yJ2_length_9d52b cJ2_length_9d52b 1 (some .int), Cond.methodLink RJ2 414 yJ0_checkIndex_df160, Cond.methodLink RJ2 71 yJ2_getChar_3b067, Cond.static yJ2_getChar_3b067, Cond.code yJ2_getChar_3b067 cJ2_getChar_3b067 2 (some .char), Cond.fieldLink RJ2 44 "java/lang/StringUTF16" "$assertionsDisabled" "Z", Cond.fieldLink RJ2 59 "java/lang/StringUTF16" "HI_BYTE_SHIFT" "I", Cond.fieldLink RJ2 63 "java/lang/StringUTF16" "LO_BYTE_SHIFT" "I", Cond.methodLink RX7 86 yX7_isNumber, Cond.instanceMethod yX7_isNumber]
def wsX7_readText_r5 : List Cond := [Cond.selects RX7 yX7_isNumber yX7_isNumber, Cond.code yX7_isNumber cX7_isNumber 4 (some .boolean), Cond.methodLink RX7 100 yX7_fail, Cond.instanceMethod yX7_fail, Cond.selects RX7 yX7_fail yX7_fail, Cond.code yX7_fail cX7_fail 2 (some .boolean), Cond.methodLink RX7 92 yX7_passSemicolon, Cond.instanceMethod yX7_passSemicolon, Cond.selects RX7 yX7_passSemicolon yX7_passSemicolon, Cond.code yX7_passSemicolon cX7_passSemicolon 1 (some .boolean), Cond.methodLink RX7 71 yX7_readSigns, Cond.instanceMethod yX7_readSigns, Cond.selects RX7 yX7_readSigns yX7_readSigns, Cond.code yX7_readSigns cX7_readSigns 1 (some .boolean), Cond.fieldLink RX7 95 "PaidBySigns$Hire" "signs" "I", Cond.methodLink RX7 104 yX7_readSign, Cond.instanceMethod yX7_readSign, Cond.selects RX7 yX7_readSign yX7_readSign, Cond.code yX7_readSign cX7_readSign 1 (some .boolean), Cond.fieldLink RX7 115 "PaidBySigns$Hire" "brings" "[I", Cond.methodLink RX7 107 yX7_passName, Cond.instanceMethod yX7_passName, Cond.selects RX7 yX7_passName yX7_passName, Cond.code yX7_passName cX7_passName 3 (some .boolean)]
def wsX7_readText_r6 : List Cond := [Cond.fieldLink RX7 44 "PaidBySigns$Reader" "nameStart" "[I", Cond.fieldLink RX7 48 "PaidBySigns$Reader" "nameEnd" "[I", Cond.methodLink RX7 168 yX7_isSameRun, Cond.instanceMethod yX7_isSameRun, Cond.selects RX7 yX7_isSameRun yX7_isSameRun, Cond.code yX7_isSameRun cX7_isSameRun 4 (some .boolean), Cond.methodLink RX7 112 yX7_passWord, Cond.instanceMethod yX7_passWord, Cond.selects RX7 yX7_passWord yX7_passWord, Cond.code yX7_passWord cX7_passWord 2 (some .boolean), Cond.methodLink RX7 74 yX7_readWorks, Cond.instanceMethod yX7_readWorks, Cond.selects RX7 yX7_readWorks yX7_readWorks, Cond.code yX7_readWorks cX7_readWorks 1 (some .boolean), Cond.fieldLink RX7 117 "PaidBySigns$Hire" "works" "I", Cond.methodLink RX7 122 yX7_readWork, Cond.instanceMethod yX7_readWork, Cond.selects RX7 yX7_readWork yX7_readWork, Cond.code yX7_readWork cX7_readWork 1 (some .boolean), Cond.fieldLink RX7 127 "PaidBySigns$Hire" "costs" "[I", Cond.fieldLink RX7 131 "PaidBySigns$Hire" "chances" "[[I", Cond.methodLink RX7 134 yX7_readChances, Cond.instanceMethod yX7_readChances, Cond.selects RX7 yX7_readChances yX7_readChances]
def wsX7_readText_r7 : List Cond := [Cond.code yX7_readChances cX7_readChances 4 (some .boolean), Cond.methodLink RX7 77 yX7_readRests, Cond.instanceMethod yX7_readRests, Cond.selects RX7 yX7_readRests yX7_readRests, Cond.code yX7_readRests cX7_readRests 3 (some .boolean), Cond.fieldLink RX7 144 "PaidBySigns$Hire" "otherwise" "I", Cond.fieldLink RX7 149 "PaidBySigns$Hire" "least" "I", Cond.methodLink RX7 140 yX7_readNumberOnce, Cond.instanceMethod yX7_readNumberOnce, Cond.selects RX7 yX7_readNumberOnce yX7_readNumberOnce, Cond.code yX7_readNumberOnce cX7_readNumberOnce 2 (some .boolean), Cond.methodLink RX7 153 yX7_readFeel, Cond.instanceMethod yX7_readFeel, Cond.selects RX7 yX7_readFeel yX7_readFeel, Cond.code yX7_readFeel cX7_readFeel 1 (some .boolean), Cond.fieldLink RX7 156 "PaidBySigns$Hire" "rate" "[I", Cond.fieldLink RX7 159 "PaidBySigns$Hire" "rates" "I", Cond.methodLink RX7 162 yX7_readStep, Cond.instanceMethod yX7_readStep, Cond.selects RX7 yX7_readStep yX7_readStep, Cond.code yX7_readStep cX7_readStep 3 (some .boolean), Cond.fieldLink RX7 165 "PaidBySigns$Hire" "mark" "[I"]
def wsX7_readText : List Cond := .code yX7_readText cX7_readText 1 (some .boolean) :: ((wsX7_readText_r1 ++ (wsX7_readText_r2 ++ (wsX7_readText_r3 ++ (wsX7_readText_r4 ++ (wsX7_readText_r5 ++ (wsX7_readText_r6 ++ wsX7_readText_r7)))))) ++ wsX70 ++ wsX30)
def wsX9_feed : List Cond := .code yX9_feed cX9_feed 6 (some .int) :: ([.fieldLink RX9 10 "PaidBySigns" "reader" "LPaidBySigns$Reader;", .fieldLink RX9 86 "PaidBySigns$Reader" "length" "I", .methodLink RX9 90 yX7_append, .instanceMethod yX7_append, .selects RX7 yX7_append yX7_append, .initialized RX7, .code yX7_append cX7_append 3 none, .fieldLink RX7 9 "PaidBySigns$Reader" "length" "I", .fieldLink RX7 28 "PaidBySigns$Reader" "text" "[B"] ++ wsX90 ++ wsX70)
def wsX9_end : List Cond := .code yX9_end cX9_end 2 (some .int) :: ([.fieldLink RX9 10 "PaidBySigns" "reader" "LPaidBySigns$Reader;", .fieldLink RX9 86 "PaidBySigns$Reader" "length" "I"] ++ wsX90 ++ wsX70)
set_option maxRecDepth 20000 in
theorem ggX7_readText_X3_clear : GoodIn wsX7_readText wsX3_clear := goodIn_r _ [12, 13, 14, 15, 16, 17, 18, 19, 181, 182, 183, 184, 185, 186, 187, 188, 189, 190, 191] (by decide +kernel) (by decide +kernel)
set_option maxRecDepth 20000 in
theorem gX7_readText_X3_clear : GoodIn wsX7_readText (wsV RX7 61 RX3 yX3_clear wsX3_clear) := goodIn_app (goodIn_of _ (by decide +kernel)) ggX7_readText_X3_clear
set_option maxRecDepth 20000 in
theorem ggX7_readText_X7_advance : GoodIn wsX7_readText wsX7_advance := goodIn_r _ [24, 1, 25, 26, 27, 28, 29, 30, 23, 31, 32, 33, 34, 35, 167, 168, 169, 170, 171, 172, 173, 174, 175, 176, 177, 178, 179, 180] (by decide +kernel) (by decide +kernel)
set_option maxRecDepth 20000 in
theorem gX7_readText_X7_advance : GoodIn wsX7_readText (wsV RX7 64 RX7 yX7_advance wsX7_advance) := goodIn_app (goodIn_of _ (by decide +kernel)) ggX7_readText_X7_advance
set_option maxRecDepth 20000 in
theorem ggX7_readText_X7_readWhole : GoodIn wsX7_readText wsX7_readWhole := goodIn_r _ [39, 2, 40, 41, 42, 43, 44, 23, 45, 28, 1, 27, 26, 46, 47, 48, 49, 50, 51, 52, 53, 54, 55, 56, 57, 58, 59, 60, 61, 62, 63, 64, 65, 66, 67, 68, 69, 70, 71, 72, 73, 74, 75, 76, 77, 78, 79, 80, 81, 82, 83, 84, 85, 86, 87, 88, 89, 90, 91, 92, 93, 94, 20, 21, 22, 24, 25, 29, 30, 31, 32, 33, 34, 35, 95, 96, 97, 98, 99, 100, 101, 102, 6, 7, 103, 104, 105, 106, 167, 168, 169, 170, 171, 172, 173, 174, 175, 176, 177, 178, 179, 180, 181, 182, 183, 184, 185, 186, 187, 188, 189, 190, 191] (by decide +kernel) (by decide +kernel)
set_option maxRecDepth 20000 in
theorem gX7_readText_X7_readWhole : GoodIn wsX7_readText (wsV RX7 67 RX7 yX7_readWhole wsX7_readWhole) := goodIn_app (goodIn_of _ (by decide +kernel)) ggX7_readText_X7_readWhole
set_option maxRecDepth 20000 in
theorem ggX7_readText_X7_readSigns : GoodIn wsX7_readText wsX7_readSigns := goodIn_r _ [110, 2, 111, 42, 43, 44, 23, 45, 28, 1, 27, 26, 46, 47, 48, 49, 50, 51, 52, 53, 54, 55, 56, 57, 58, 59, 60, 61, 62, 63, 64, 65, 66, 67, 68, 69, 70, 71, 72, 73, 74, 75, 76, 77, 78, 79, 80, 81, 82, 83, 84, 85, 86, 87, 88, 89, 90, 91, 92, 93, 94, 99, 100, 101, 102, 6, 7, 112, 113, 114, 115, 116, 40, 20, 21, 22, 24, 25, 29, 30, 31, 32, 33, 34, 35, 117, 118, 119, 120, 121, 122, 123, 124, 125, 126, 127, 128, 129, 130, 95, 96, 97, 98, 103, 104, 105, 106, 167, 168, 169, 170, 171, 172, 173, 174, 175, 176, 177, 178, 179, 180, 181, 182, 183, 184, 185, 186, 187, 188, 189, 190, 191] (by decide +kernel) (by decide +kernel)
set_option maxRecDepth 20000 in
theorem gX7_readText_X7_readSigns : GoodIn wsX7_readText (wsV RX7 71 RX7 yX7_readSigns wsX7_readSigns) := goodIn_app (goodIn_of _ (by decide +kernel)) ggX7_readText_X7_readSigns
set_option maxRecDepth 20000 in
theorem ggX7_readText_X7_readWorks : GoodIn wsX7_readText wsX7_readWorks := goodIn_r _ [134, 2, 135, 42, 43, 44, 23, 45, 28, 1, 27, 26, 46, 47, 48, 49, 50, 51, 52, 53, 54, 55, 56, 57, 58, 59, 60, 61, 62, 63, 64, 65, 66, 67, 68, 69, 70, 71, 72, 73, 74, 75, 76, 77, 78, 79, 80, 81, 82, 83, 84, 85, 86, 87, 88, 89, 90, 91, 92, 93, 94, 99, 100, 101, 102, 6, 7, 136, 137, 138, 139, 140, 40, 141, 20, 21, 22, 24, 25, 29, 30, 31, 32, 33, 34, 35, 117, 118, 119, 120, 121, 122, 123, 124, 125, 126, 127, 128, 129, 130, 95, 96, 97, 98, 142, 143, 144, 145, 111, 41, 103, 104, 105, 106, 167, 168, 169, 170, 171, 172, 173, 174, 175, 176, 177, 178, 179, 180, 181, 182, 183, 184, 185, 186, 187, 188, 189, 190, 191] (by decide +kernel) (by decide +kernel)
set_option maxRecDepth 20000 in
theorem gX7_readText_X7_readWorks : GoodIn wsX7_readText (wsV RX7 74 RX7 yX7_readWorks wsX7_readWorks) := goodIn_app (goodIn_of _ (by decide +kernel)) ggX7_readText_X7_readWorks
set_option maxRecDepth 20000 in
theorem ggX7_readText_X7_readRests : GoodIn wsX7_readText wsX7_readRests := goodIn_r _ [149, 28, 3, 2, 40, 150, 4, 151, 42, 43, 44, 23, 45, 1, 27, 26, 46, 47, 48, 49, 50, 51, 52, 53, 54, 55, 56, 57, 58, 59, 60, 61, 62, 63, 64, 65, 66, 67, 68, 69, 70, 71, 72, 73, 74, 75, 76, 77, 78, 79, 80, 81, 82, 83, 84, 85, 86, 87, 88, 89, 90, 91, 92, 93, 94, 152, 153, 154, 155, 99, 100, 101, 102, 6, 7, 20, 21, 22, 24, 25, 29, 30, 31, 32, 33, 34, 35, 95, 96, 97, 98, 103, 104, 105, 106, 156, 157, 158, 159, 5, 160, 161, 162, 163, 164, 165, 166, 167, 168, 169, 170, 171, 172, 173, 174, 175, 176, 177, 178, 179, 180, 181, 182, 183, 184, 185, 186, 187, 188, 189, 190, 191] (by decide +kernel) (by decide +kernel)
set_option maxRecDepth 20000 in
theorem gX7_readText_X7_readRests : GoodIn wsX7_readText (wsV RX7 77 RX7 yX7_readRests wsX7_readRests) := goodIn_app (goodIn_of _ (by decide +kernel)) ggX7_readText_X7_readRests
theorem dX7_readText_0 : decode cX7_readText 0 = .ok (.aload_n 0, 1) := by decide +kernel
theorem dX7_readText_1 : decode cX7_readText 1 = .ok (.iconst 0, 1) := by decide +kernel
theorem dX7_readText_2 : decode cX7_readText 2 = .ok (.putfield 32, 3) := by decide +kernel
theorem dX7_readText_5 : decode cX7_readText 5 = .ok (.aload_n 0, 1) := by decide +kernel
theorem dX7_readText_6 : decode cX7_readText 6 = .ok (.getfield 24, 3) := by decide +kernel
theorem dX7_readText_9 : decode cX7_readText 9 = .ok (.invokevirtual 61, 3) := by decide +kernel
theorem dX7_readText_12 : decode cX7_readText 12 = .ok (.aload_n 0, 1) := by decide +kernel
theorem dX7_readText_13 : decode cX7_readText 13 = .ok (.iconst 0, 1) := by decide +kernel
theorem dX7_readText_14 : decode cX7_readText 14 = .ok (.putfield 51, 3) := by decide +kernel
theorem dX7_readText_17 : decode cX7_readText 17 = .ok (.aload_n 0, 1) := by decide +kernel
theorem dX7_readText_18 : decode cX7_readText 18 = .ok (.iconst 0, 1) := by decide +kernel
theorem dX7_readText_19 : decode cX7_readText 19 = .ok (.putfield 55, 3) := by decide +kernel
theorem dX7_readText_22 : decode cX7_readText 22 = .ok (.aload_n 0, 1) := by decide +kernel
theorem dX7_readText_23 : decode cX7_readText 23 = .ok (.iconst 0, 1) := by decide +kernel
theorem dX7_readText_24 : decode cX7_readText 24 = .ok (.putfield 58, 3) := by decide +kernel
theorem dX7_readText_27 : decode cX7_readText 27 = .ok (.aload_n 0, 1) := by decide +kernel
theorem dX7_readText_28 : decode cX7_readText 28 = .ok (.iconst 0, 1) := by decide +kernel
theorem dX7_readText_29 : decode cX7_readText 29 = .ok (.putfield 15, 3) := by decide +kernel
theorem dX7_readText_32 : decode cX7_readText 32 = .ok (.aload_n 0, 1) := by decide +kernel
theorem dX7_readText_33 : decode cX7_readText 33 = .ok (.iconst (-1), 1) := by decide +kernel
theorem dX7_readText_34 : decode cX7_readText 34 = .ok (.putfield 18, 3) := by decide +kernel
theorem dX7_readText_37 : decode cX7_readText 37 = .ok (.aload_n 0, 1) := by decide +kernel
theorem dX7_readText_38 : decode cX7_readText 38 = .ok (.invokevirtual 64, 3) := by decide +kernel
theorem dX7_readText_41 : decode cX7_readText 41 = .ok (.aload_n 0, 1) := by decide +kernel
theorem dX7_readText_42 : decode cX7_readText 42 = .ok (.invokevirtual 67, 3) := by decide +kernel
theorem dX7_readText_45 : decode cX7_readText 45 = .ok (.ifCond .eq 28, 3) := by decide +kernel
theorem dX7_readText_48 : decode cX7_readText 48 = .ok (.aload_n 0, 1) := by decide +kernel
theorem dX7_readText_49 : decode cX7_readText 49 = .ok (.invokevirtual 71, 3) := by decide +kernel
theorem dX7_readText_52 : decode cX7_readText 52 = .ok (.ifCond .eq 21, 3) := by decide +kernel
theorem dX7_readText_55 : decode cX7_readText 55 = .ok (.aload_n 0, 1) := by decide +kernel
theorem dX7_readText_56 : decode cX7_readText 56 = .ok (.invokevirtual 74, 3) := by decide +kernel
theorem dX7_readText_59 : decode cX7_readText 59 = .ok (.ifCond .eq 14, 3) := by decide +kernel
theorem dX7_readText_62 : decode cX7_readText 62 = .ok (.aload_n 0, 1) := by decide +kernel
theorem dX7_readText_63 : decode cX7_readText 63 = .ok (.invokevirtual 77, 3) := by decide +kernel
theorem dX7_readText_66 : decode cX7_readText 66 = .ok (.ifCond .eq 7, 3) := by decide +kernel
theorem dX7_readText_69 : decode cX7_readText 69 = .ok (.iconst 1, 1) := by decide +kernel
theorem dX7_readText_70 : decode cX7_readText 70 = .ok (.goto 4, 3) := by decide +kernel
theorem dX7_readText_73 : decode cX7_readText 73 = .ok (.iconst 0, 1) := by decide +kernel
theorem dX7_readText_74 : decode cX7_readText 74 = .ok (.ireturn, 1) := by decide +kernel
set_option maxRecDepth 20000 in
theorem ggX7_readRests_X7_isWord : GoodIn wsX7_readRests wsX7_isWord := goodIn_r _ [12, 1, 13, 14, 15, 16, 17, 18, 19, 20, 21, 22, 23, 24, 25, 26, 27, 28, 29, 30, 31, 32, 33, 34, 35, 36, 37, 38, 39, 40, 41, 42, 43, 44, 45, 46, 47, 48, 49, 50, 51, 52, 53, 54, 55, 56, 57, 58, 59, 60, 61, 62, 63, 64, 107, 108, 109, 110, 111, 112, 113, 114, 115, 116, 117, 118, 119, 120] (by decide +kernel) (by decide +kernel)
set_option maxRecDepth 20000 in
theorem gX7_readRests_X7_isWord : GoodIn wsX7_readRests (wsV RX7 82 RX7 yX7_isWord wsX7_isWord) := goodIn_app (goodIn_of _ (by decide +kernel)) ggX7_readRests_X7_isWord
set_option maxRecDepth 20000 in
theorem ggX7_readRests_X7_readNumberOnce : GoodIn wsX7_readRests wsX7_readNumberOnce := goodIn_r _ [68, 69, 70, 71, 11, 72, 73, 14, 74, 75, 76, 77, 78, 13, 79, 15, 1, 80, 81, 82, 83, 84, 85, 86, 87, 88, 89, 90, 4, 91, 92, 93, 94, 107, 108, 109, 110, 111, 112, 113, 114, 115, 116, 117, 118, 119, 120] (by decide +kernel) (by decide +kernel)
set_option maxRecDepth 20000 in
theorem gX7_readRests_X7_readNumberOnce : GoodIn wsX7_readRests (wsV RX7 140 RX7 yX7_readNumberOnce wsX7_readNumberOnce) := goodIn_app (goodIn_of _ (by decide +kernel)) ggX7_readRests_X7_readNumberOnce
set_option maxRecDepth 20000 in
theorem ggX7_readRests_X7_readFeel : GoodIn wsX7_readRests wsX7_readFeel := goodIn_r _ [98, 99, 3, 100, 4, 1, 101, 69, 70, 71, 11, 72, 73, 14, 74, 75, 76, 77, 78, 13, 79, 15, 80, 81, 82, 83, 84, 85, 86, 87, 88, 89, 90, 102, 103, 104, 105, 106, 91, 92, 93, 94, 107, 108, 109, 110, 111, 112, 113, 114, 115, 116, 117, 118, 119, 120, 121, 122, 123, 124, 125, 126, 127, 128, 129, 130, 131] (by decide +kernel) (by decide +kernel)
set_option maxRecDepth 20000 in
theorem gX7_readRests_X7_readFeel : GoodIn wsX7_readRests (wsV RX7 153 RX7 yX7_readFeel wsX7_readFeel) := goodIn_app (goodIn_of _ (by decide +kernel)) ggX7_readRests_X7_readFeel
set_option maxRecDepth 20000 in
theorem ggX7_readRests_X7_fail : GoodIn wsX7_readRests wsX7_fail := goodIn_r _ [72, 73, 14, 74, 107, 108, 109, 110, 111, 112, 113, 114, 115, 116, 117, 118, 119, 120] (by decide +kernel) (by decide +kernel)
set_option maxRecDepth 20000 in
theorem gX7_readRests_X7_fail : GoodIn wsX7_readRests (wsV RX7 100 RX7 yX7_fail wsX7_fail) := goodIn_app (goodIn_of _ (by decide +kernel)) ggX7_readRests_X7_fail
theorem dX7_readRests_0 : decode cX7_readRests 0 = .ok (.iconst 1, 1) := by decide +kernel
theorem dX7_readRests_1 : decode cX7_readRests 1 = .ok (.istore_n 1, 1) := by decide +kernel
theorem dX7_readRests_2 : decode cX7_readRests 2 = .ok (.iconst 0, 1) := by decide +kernel
theorem dX7_readRests_3 : decode cX7_readRests 3 = .ok (.istore_n 2, 1) := by decide +kernel
theorem dX7_readRests_4 : decode cX7_readRests 4 = .ok (.iload_n 2, 1) := by decide +kernel
theorem dX7_readRests_5 : decode cX7_readRests 5 = .ok (.iconst 4, 1) := by decide +kernel
theorem dX7_readRests_6 : decode cX7_readRests 6 = .ok (.if_icmp .ge 117, 3) := by decide +kernel
theorem dX7_readRests_9 : decode cX7_readRests 9 = .ok (.iload_n 1, 1) := by decide +kernel
theorem dX7_readRests_10 : decode cX7_readRests 10 = .ok (.ifCond .eq 113, 3) := by decide +kernel
theorem dX7_readRests_13 : decode cX7_readRests 13 = .ok (.aload_n 0, 1) := by decide +kernel
theorem dX7_readRests_14 : decode cX7_readRests 14 = .ok (.getfield 35, 3) := by decide +kernel
theorem dX7_readRests_17 : decode cX7_readRests 17 = .ok (.ifCond .eq 106, 3) := by decide +kernel
theorem dX7_readRests_20 : decode cX7_readRests 20 = .ok (.aload_n 0, 1) := by decide +kernel
theorem dX7_readRests_21 : decode cX7_readRests 21 = .ok (.ldc 138, 2) := by decide +kernel
theorem dX7_readRests_23 : decode cX7_readRests 23 = .ok (.invokevirtual 82, 3) := by decide +kernel
theorem dX7_readRests_26 : decode cX7_readRests 26 = .ok (.ifCond .eq 31, 3) := by decide +kernel
theorem dX7_readRests_29 : decode cX7_readRests 29 = .ok (.aload_n 0, 1) := by decide +kernel
theorem dX7_readRests_30 : decode cX7_readRests 30 = .ok (.aload_n 0, 1) := by decide +kernel
theorem dX7_readRests_31 : decode cX7_readRests 31 = .ok (.getfield 51, 3) := by decide +kernel
theorem dX7_readRests_34 : decode cX7_readRests 34 = .ok (.invokevirtual 140, 3) := by decide +kernel
theorem dX7_readRests_37 : decode cX7_readRests 37 = .ok (.istore_n 1, 1) := by decide +kernel
theorem dX7_readRests_38 : decode cX7_readRests 38 = .ok (.aload_n 0, 1) := by decide +kernel
theorem dX7_readRests_39 : decode cX7_readRests 39 = .ok (.iconst 1, 1) := by decide +kernel
theorem dX7_readRests_40 : decode cX7_readRests 40 = .ok (.putfield 51, 3) := by decide +kernel
theorem dX7_readRests_43 : decode cX7_readRests 43 = .ok (.aload_n 0, 1) := by decide +kernel
theorem dX7_readRests_44 : decode cX7_readRests 44 = .ok (.getfield 24, 3) := by decide +kernel
theorem dX7_readRests_47 : decode cX7_readRests 47 = .ok (.aload_n 0, 1) := by decide +kernel
theorem dX7_readRests_48 : decode cX7_readRests 48 = .ok (.getfield 41, 3) := by decide +kernel
theorem dX7_readRests_51 : decode cX7_readRests 51 = .ok (.putfield 144, 3) := by decide +kernel
theorem dX7_readRests_54 : decode cX7_readRests 54 = .ok (.goto 63, 3) := by decide +kernel
theorem dX7_readRests_57 : decode cX7_readRests 57 = .ok (.aload_n 0, 1) := by decide +kernel
theorem dX7_readRests_58 : decode cX7_readRests 58 = .ok (.ldc 147, 2) := by decide +kernel
theorem dX7_readRests_60 : decode cX7_readRests 60 = .ok (.invokevirtual 82, 3) := by decide +kernel
theorem dX7_readRests_63 : decode cX7_readRests 63 = .ok (.ifCond .eq 31, 3) := by decide +kernel
theorem dX7_readRests_66 : decode cX7_readRests 66 = .ok (.aload_n 0, 1) := by decide +kernel
theorem dX7_readRests_67 : decode cX7_readRests 67 = .ok (.aload_n 0, 1) := by decide +kernel
theorem dX7_readRests_68 : decode cX7_readRests 68 = .ok (.getfield 55, 3) := by decide +kernel
theorem dX7_readRests_71 : decode cX7_readRests 71 = .ok (.invokevirtual 140, 3) := by decide +kernel
theorem dX7_readRests_74 : decode cX7_readRests 74 = .ok (.istore_n 1, 1) := by decide +kernel
theorem dX7_readRests_75 : decode cX7_readRests 75 = .ok (.aload_n 0, 1) := by decide +kernel
theorem dX7_readRests_76 : decode cX7_readRests 76 = .ok (.iconst 1, 1) := by decide +kernel
theorem dX7_readRests_77 : decode cX7_readRests 77 = .ok (.putfield 55, 3) := by decide +kernel
theorem dX7_readRests_80 : decode cX7_readRests 80 = .ok (.aload_n 0, 1) := by decide +kernel
theorem dX7_readRests_81 : decode cX7_readRests 81 = .ok (.getfield 24, 3) := by decide +kernel
theorem dX7_readRests_84 : decode cX7_readRests 84 = .ok (.aload_n 0, 1) := by decide +kernel
theorem dX7_readRests_85 : decode cX7_readRests 85 = .ok (.getfield 41, 3) := by decide +kernel
theorem dX7_readRests_88 : decode cX7_readRests 88 = .ok (.putfield 149, 3) := by decide +kernel
theorem dX7_readRests_91 : decode cX7_readRests 91 = .ok (.goto 26, 3) := by decide +kernel
theorem dX7_readRests_94 : decode cX7_readRests 94 = .ok (.aload_n 0, 1) := by decide +kernel
theorem dX7_readRests_95 : decode cX7_readRests 95 = .ok (.ldc 151, 2) := by decide +kernel
theorem dX7_readRests_97 : decode cX7_readRests 97 = .ok (.invokevirtual 82, 3) := by decide +kernel
theorem dX7_readRests_100 : decode cX7_readRests 100 = .ok (.ifCond .eq 11, 3) := by decide +kernel
theorem dX7_readRests_103 : decode cX7_readRests 103 = .ok (.aload_n 0, 1) := by decide +kernel
theorem dX7_readRests_104 : decode cX7_readRests 104 = .ok (.invokevirtual 153, 3) := by decide +kernel
theorem dX7_readRests_107 : decode cX7_readRests 107 = .ok (.istore_n 1, 1) := by decide +kernel
theorem dX7_readRests_108 : decode cX7_readRests 108 = .ok (.goto 9, 3) := by decide +kernel
theorem dX7_readRests_111 : decode cX7_readRests 111 = .ok (.aload_n 0, 1) := by decide +kernel
theorem dX7_readRests_112 : decode cX7_readRests 112 = .ok (.iconst 1, 1) := by decide +kernel
theorem dX7_readRests_113 : decode cX7_readRests 113 = .ok (.invokevirtual 100, 3) := by decide +kernel
theorem dX7_readRests_116 : decode cX7_readRests 116 = .ok (.istore_n 1, 1) := by decide +kernel
theorem dX7_readRests_117 : decode cX7_readRests 117 = .ok (.iinc 2 1, 3) := by decide +kernel
theorem dX7_readRests_120 : decode cX7_readRests 120 = .ok (.goto (-116), 3) := by decide +kernel
theorem dX7_readRests_123 : decode cX7_readRests 123 = .ok (.iload_n 1, 1) := by decide +kernel
theorem dX7_readRests_124 : decode cX7_readRests 124 = .ok (.ireturn, 1) := by decide +kernel
set_option maxRecDepth 20000 in
theorem ggX9_feed_X7_append : GoodIn wsX9_feed wsX7_append := goodIn_r _ [7, 8, 9, 24, 25, 26, 27, 28, 29, 30, 31, 32, 33, 34, 35, 36, 37] (by decide +kernel) (by decide +kernel)
set_option maxRecDepth 20000 in
theorem gX9_feed_X7_append : GoodIn wsX9_feed (wsV RX9 90 RX7 yX7_append wsX7_append) := goodIn_app (goodIn_of _ (by decide +kernel)) ggX9_feed_X7_append
theorem dX9_feed_0 : decode cX9_feed 0 = .ok (.aload_n 0, 1) := by decide +kernel
theorem dX9_feed_1 : decode cX9_feed 1 = .ok (.getfield 10, 3) := by decide +kernel
theorem dX9_feed_4 : decode cX9_feed 4 = .ok (.getfield 86, 3) := by decide +kernel
theorem dX9_feed_7 : decode cX9_feed 7 = .ok (.bipush 20, 2) := by decide +kernel
theorem dX9_feed_9 : decode cX9_feed 9 = .ok (.iadd, 1) := by decide +kernel
theorem dX9_feed_10 : decode cX9_feed 10 = .ok (.sipush 900, 3) := by decide +kernel
theorem dX9_feed_13 : decode cX9_feed 13 = .ok (.if_icmp .le 6, 3) := by decide +kernel
theorem dX9_feed_16 : decode cX9_feed 16 = .ok (.bipush (-3), 2) := by decide +kernel
theorem dX9_feed_18 : decode cX9_feed 18 = .ok (.ireturn, 1) := by decide +kernel
theorem dX9_feed_19 : decode cX9_feed 19 = .ok (.aload_n 0, 1) := by decide +kernel
theorem dX9_feed_20 : decode cX9_feed 20 = .ok (.getfield 10, 3) := by decide +kernel
theorem dX9_feed_23 : decode cX9_feed 23 = .ok (.iload_n 1, 1) := by decide +kernel
theorem dX9_feed_24 : decode cX9_feed 24 = .ok (.invokevirtual 90, 3) := by decide +kernel
theorem dX9_feed_27 : decode cX9_feed 27 = .ok (.aload_n 0, 1) := by decide +kernel
theorem dX9_feed_28 : decode cX9_feed 28 = .ok (.getfield 10, 3) := by decide +kernel
theorem dX9_feed_31 : decode cX9_feed 31 = .ok (.iload_n 2, 1) := by decide +kernel
theorem dX9_feed_32 : decode cX9_feed 32 = .ok (.invokevirtual 90, 3) := by decide +kernel
theorem dX9_feed_35 : decode cX9_feed 35 = .ok (.aload_n 0, 1) := by decide +kernel
theorem dX9_feed_36 : decode cX9_feed 36 = .ok (.getfield 10, 3) := by decide +kernel
theorem dX9_feed_39 : decode cX9_feed 39 = .ok (.iload_n 3, 1) := by decide +kernel
theorem dX9_feed_40 : decode cX9_feed 40 = .ok (.invokevirtual 90, 3) := by decide +kernel
theorem dX9_feed_43 : decode cX9_feed 43 = .ok (.aload_n 0, 1) := by decide +kernel
theorem dX9_feed_44 : decode cX9_feed 44 = .ok (.getfield 10, 3) := by decide +kernel
theorem dX9_feed_47 : decode cX9_feed 47 = .ok (.iload 4, 2) := by decide +kernel
theorem dX9_feed_49 : decode cX9_feed 49 = .ok (.invokevirtual 90, 3) := by decide +kernel
theorem dX9_feed_52 : decode cX9_feed 52 = .ok (.aload_n 0, 1) := by decide +kernel
theorem dX9_feed_53 : decode cX9_feed 53 = .ok (.getfield 10, 3) := by decide +kernel
theorem dX9_feed_56 : decode cX9_feed 56 = .ok (.iload 5, 2) := by decide +kernel
theorem dX9_feed_58 : decode cX9_feed 58 = .ok (.invokevirtual 90, 3) := by decide +kernel
theorem dX9_feed_61 : decode cX9_feed 61 = .ok (.aload_n 0, 1) := by decide +kernel
theorem dX9_feed_62 : decode cX9_feed 62 = .ok (.getfield 10, 3) := by decide +kernel
theorem dX9_feed_65 : decode cX9_feed 65 = .ok (.getfield 86, 3) := by decide +kernel
theorem dX9_feed_68 : decode cX9_feed 68 = .ok (.ireturn, 1) := by decide +kernel
theorem dX9_end_0 : decode cX9_end 0 = .ok (.iload_n 1, 1) := by decide +kernel
theorem dX9_end_1 : decode cX9_end 1 = .ok (.ifCond .lt 14, 3) := by decide +kernel
theorem dX9_end_4 : decode cX9_end 4 = .ok (.iload_n 1, 1) := by decide +kernel
theorem dX9_end_5 : decode cX9_end 5 = .ok (.aload_n 0, 1) := by decide +kernel
theorem dX9_end_6 : decode cX9_end 6 = .ok (.getfield 10, 3) := by decide +kernel
theorem dX9_end_9 : decode cX9_end 9 = .ok (.getfield 86, 3) := by decide +kernel
theorem dX9_end_12 : decode cX9_end 12 = .ok (.if_icmp .le 5, 3) := by decide +kernel
theorem dX9_end_15 : decode cX9_end 15 = .ok (.iconst (-1), 1) := by decide +kernel
theorem dX9_end_16 : decode cX9_end 16 = .ok (.ireturn, 1) := by decide +kernel
theorem dX9_end_17 : decode cX9_end 17 = .ok (.aload_n 0, 1) := by decide +kernel
theorem dX9_end_18 : decode cX9_end 18 = .ok (.getfield 10, 3) := by decide +kernel
theorem dX9_end_21 : decode cX9_end 21 = .ok (.iload_n 1, 1) := by decide +kernel
theorem dX9_end_22 : decode cX9_end 22 = .ok (.putfield 86, 3) := by decide +kernel
theorem dX9_end_25 : decode cX9_end 25 = .ok (.iload_n 1, 1) := by decide +kernel
theorem dX9_end_26 : decode cX9_end 26 = .ok (.ireturn, 1) := by decide +kernel
theorem kk_X7_readText_0 : Cond.fieldLink RX7 32 "PaidBySigns$Reader" "next" "I" ∈ wsX7_readText := by decide +kernel
theorem kk_X7_readText_1 : Cond.fieldLink RX7 24 "PaidBySigns$Reader" "into" "LPaidBySigns$Hire;" ∈ wsX7_readText := by decide +kernel
theorem kk_X7_readText_2 : Cond.fieldLink RX7 51 "PaidBySigns$Reader" "hasElse" "Z" ∈ wsX7_readText := by decide +kernel
theorem kk_X7_readText_3 : Cond.fieldLink RX7 55 "PaidBySigns$Reader" "hasLeast" "Z" ∈ wsX7_readText := by decide +kernel
theorem kk_X7_readText_4 : Cond.fieldLink RX7 58 "PaidBySigns$Reader" "hasFeel" "Z" ∈ wsX7_readText := by decide +kernel
theorem kk_X7_readText_5 : Cond.fieldLink RX7 15 "PaidBySigns$Reader" "faultKind" "I" ∈ wsX7_readText := by decide +kernel
theorem kk_X7_readText_6 : Cond.fieldLink RX7 18 "PaidBySigns$Reader" "faultPlace" "I" ∈ wsX7_readText := by decide +kernel
theorem kk_X7_readRests_0 : Cond.fieldLink RX7 35 "PaidBySigns$Reader" "token" "I" ∈ wsX7_readRests := by decide +kernel
theorem kk_X7_readRests_1 : Cond.fieldLink RX7 55 "PaidBySigns$Reader" "hasLeast" "Z" ∈ wsX7_readRests := by decide +kernel
theorem kk_X7_readRests_2 : Cond.fieldLink RX7 24 "PaidBySigns$Reader" "into" "LPaidBySigns$Hire;" ∈ wsX7_readRests := by decide +kernel
theorem kk_X7_readRests_3 : Cond.fieldLink RX7 41 "PaidBySigns$Reader" "value" "I" ∈ wsX7_readRests := by decide +kernel
theorem kk_X7_readRests_4 : Cond.fieldLink RX7 149 "PaidBySigns$Hire" "least" "I" ∈ wsX7_readRests := by decide +kernel
theorem kk_X7_readRests_5 : Cond.fieldLink RX7 51 "PaidBySigns$Reader" "hasElse" "Z" ∈ wsX7_readRests := by decide +kernel
theorem kk_X7_readRests_6 : Cond.fieldLink RX7 144 "PaidBySigns$Hire" "otherwise" "I" ∈ wsX7_readRests := by decide +kernel
theorem kk_X9_feed_0 : Cond.fieldLink RX9 10 "PaidBySigns" "reader" "LPaidBySigns$Reader;" ∈ wsX9_feed := by decide +kernel
theorem kk_X9_feed_1 : Cond.fieldLink RX9 86 "PaidBySigns$Reader" "length" "I" ∈ wsX9_feed := by decide +kernel
theorem kk_X9_end_0 : Cond.fieldLink RX9 10 "PaidBySigns" "reader" "LPaidBySigns$Reader;" ∈ wsX9_end := by decide +kernel
theorem kk_X9_end_1 : Cond.fieldLink RX9 86 "PaidBySigns$Reader" "length" "I" ∈ wsX9_end := by decide +kernel
theorem iw_X7_readText_X7 : ∀ w ∈ wsX70, w ∈ wsX7_readText := by decide +kernel
theorem iw_X7_readRests_X7 : ∀ w ∈ wsX70, w ∈ wsX7_readRests := by decide +kernel
theorem iw_X7_readRests_X3 : ∀ w ∈ wsX30, w ∈ wsX7_readRests := by decide +kernel
theorem iw_X9_feed_X9 : ∀ w ∈ wsX90, w ∈ wsX9_feed := by decide +kernel
theorem iw_X9_feed_X7 : ∀ w ∈ wsX70, w ∈ wsX9_feed := by decide +kernel
theorem iw_X9_end_X9 : ∀ w ∈ wsX90, w ∈ wsX9_end := by decide +kernel
theorem iw_X9_end_X7 : ∀ w ∈ wsX70, w ∈ wsX9_end := by decide +kernel
