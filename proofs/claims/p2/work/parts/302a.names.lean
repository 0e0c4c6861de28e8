abbrev cX10_isKey : ByteArray := prog_12_method_12_code
def yX10_isKey : MethodName := ⟨RX10, "isKey", "(I)Z"⟩
abbrev cX10_readWord : ByteArray := prog_12_method_13_code
def yX10_readWord : MethodName := ⟨RX10, "readWord", "(I)Z"⟩
abbrev cX10_readSemi : ByteArray := prog_12_method_14_code
def yX10_readSemi : MethodName := ⟨RX10, "readSemi", "()Z"⟩
abbrev cX10_fault : ByteArray := prog_12_method_15_code
def yX10_fault : MethodName := ⟨RX10, "fault", "(I)I"⟩
abbrev cX10_begin : ByteArray := prog_12_method_16_code
def yX10_begin : MethodName := ⟨RX10, "begin", "()V"⟩
def wsX10_begin : List Cond := .code yX10_begin cX10_begin 1 none :: ([.fieldLink RX10 17 "PaidBySignsModel" "num" "[I", .fieldLink RX10 37 "PaidBySignsModel" "rates" "[I", .fieldLink RX10 187 "PaidBySignsModel" "seen" "I"] ++ wsX100)
def wsX10_isKey : List Cond := .code yX10_isKey cX10_isKey 2 (some .boolean) :: ([.fieldLink RX10 143 "PaidBySignsModel" "sort" "I", .fieldLink RX10 140 "PaidBySignsModel" "key" "I"] ++ wsX100)
def wsX10_readWord_r1 : List Cond := [Cond.methodLink RX10 184 yX10_isKey, Cond.instanceMethod yX10_isKey, Cond.selects RX10 yX10_isKey yX10_isKey, Cond.initialized RX10, Cond.code yX10_isKey cX10_isKey 2 (some .boolean), Cond.fieldLink RX10 143 "PaidBySignsModel" "sort" "I", Cond.fieldLink RX10 140 "PaidBySignsModel" "key" "I", Cond.methodLink RX10 171 yX10_fails, Cond.instanceMethod yX10_fails, Cond.selects RX10 yX10_fails yX10_fails, Cond.code yX10_fails cX10_fails 2 (some .boolean), Cond.fieldLink RX10 168 "PaidBySignsModel" "faultKind" "I", Cond.fieldLink RX10 137 "PaidBySignsModel" "at" "I", Cond.fieldLink RX10 13 "PaidBySignsModel" "faultPlace" "I", Cond.methodLink RX10 181 yX10_scan, Cond.instanceMethod yX10_scan, Cond.selects RX10 yX10_scan yX10_scan, Cond.code yX10_scan cX10_scan 4 none, Cond.fieldLink RX10 134 "PaidBySignsModel" "end" "I", Cond.fieldLink RX10 150 "PaidBySignsModel" "word" "J", Cond.constantLong RX10 154 (32), Cond.constantLong RX10 156 (97), Cond.fieldLink RX10 165 "PaidBySignsModel" "number" "I", Cond.methodLink RX10 130 yX10_byteAt]
def wsX10_readWord_r2 : List Cond := [Cond.instanceMethod yX10_byteAt, Cond.selects RX10 yX10_byteAt yX10_byteAt, Cond.code yX10_byteAt cX10_byteAt 2 (some .int), Cond.fieldLink RX10 115 "PaidBySignsModel" "size" "I", Cond.fieldLink RX10 7 "PaidBySignsModel" "tape" "[B", Cond.methodLink RX10 146 yX10_isSmall, Cond.static yX10_isSmall, Cond.code yX10_isSmall cX10_isSmall 1 (some .boolean), Cond.methodLink RX10 158 yX10_keyAt, Cond.instanceMethod yX10_keyAt, Cond.selects RX10 yX10_keyAt yX10_keyAt, Cond.code yX10_keyAt cX10_keyAt 8 (some .int), Cond.methodLink RX10 120 yJ0_length_8abf5, Cond.instanceMethod yJ0_length_8abf5, Cond.selects RJ0 yJ0_length_8abf5 yJ0_length_8abf5, Cond.initialized RJ0, Cond.code yJ0_length_8abf5 cJ0_length_8abf5 1 (some .int), Cond.fieldLink RJ0 9 "java/lang/String" "value" "[B", Cond.methodLink RJ0 335 yJ0_coder_7d493, Cond.instanceMethod yJ0_coder_7d493, Cond.selects RJ0 yJ0_coder_7d493 yJ0_coder_7d493, Cond.code yJ0_coder_7d493 cJ0_coder_7d493 1 (some .byte), Cond.fieldLink RJ0 38 "java/lang/String" "COMPACT_STRINGS" "Z", Cond.fieldLink RJ0 15 "java/lang/String" "coder" "B"]
def wsX10_readWord_r3 : List Cond := [Cond.methodLink RX10 126 yJ0_charAt_5068e, Cond.instanceMethod yJ0_charAt_5068e, Cond.selects RJ0 yJ0_charAt_5068e yJ0_charAt_5068e, Cond.code yJ0_charAt_5068e cJ0_charAt_5068e 2 (some .char), Cond.methodLink RJ0 492 yJ0_isLatin1_aae02, Cond.instanceMethod yJ0_isLatin1_aae02, Cond.selects RJ0 yJ0_isLatin1_aae02 yJ0_isLatin1_aae02, Cond.code yJ0_isLatin1_aae02 cJ0_isLatin1_aae02 1 (some .boolean), Cond.methodLink RJ0 495 yJ1_charAt_3b067, Cond.static yJ1_charAt_3b067, Cond.initialized RJ1, Cond.code yJ1_charAt_3b067 cJ1_charAt_3b067 2 (some .char), Cond.methodLink RJ1 9 yJ0_checkIndex_df160, Cond.static yJ0_checkIndex_df160, Cond.code yJ0_checkIndex_df160 cJ0_checkIndex_df160 2 none, Cond.fieldLink RJ0 1053 "jdk/internal/util/Preconditions" "SIOOBE_FORMATTER" "Ljava/util/function/BiFunction;", Cond.methodLink RJ0 1059 yJ3_checkIndex_8e157, Cond.static yJ3_checkIndex_8e157, Cond.initialized RJ3, Cond.code yJ3_checkIndex_8e157 cJ3_checkIndex_8e157 3 (some .int), Cond.methodLink RJ0 498 yJ2_charAt_3b067, Cond.static yJ2_charAt_3b067, Cond.initialized RJ2, Cond.code yJ2_charAt_3b067 cJ2_charAt_3b067 2 (some .char)]
def wsX10_readWord_r4 : List Cond := [Cond.methodLink RJ2 67 yJ2_checkIndex_2214a, Cond.static yJ2_checkIndex_2214a, Cond.code yJ2_checkIndex_2214a cJ2_checkIndex_2214a 2 none, Cond.methodLink RJ2 48 yJ2_length_9d52b, Cond.static yJ2_length_9d52b, Cond.code yJ2_length_9d52b cJ2_length_9d52b 1 (some .int), Cond.methodLink RJ2 414 yJ0_checkIndex_df160, Cond.methodLink RJ2 71 yJ2_getChar_3b067, Cond.static yJ2_getChar_3b067, Cond.code yJ2_getChar_3b067 cJ2_getChar_3b067 2 (some .char), Cond.fieldLink RJ2 44 "java/lang/StringUTF16" "$assertionsDisabled" "Z", Cond.fieldLink RJ2 59 "java/lang/StringUTF16" "HI_BYTE_SHIFT" "I", Cond.fieldLink RJ2 63 "java/lang/StringUTF16" "LO_BYTE_SHIFT" "I", Cond.methodLink RX10 162 yX10_isDigit, Cond.static yX10_isDigit, Cond.code yX10_isDigit cX10_isDigit 1 (some .boolean)]
def wsX10_readWord : List Cond := .code yX10_readWord cX10_readWord 2 (some .boolean) :: ((wsX10_readWord_r1 ++ (wsX10_readWord_r2 ++ (wsX10_readWord_r3 ++ wsX10_readWord_r4))) ++ wsX100)
def wsX10_readSemi_r1 : List Cond := [Cond.fieldLink RX10 143 "PaidBySignsModel" "sort" "I", Cond.methodLink RX10 171 yX10_fails, Cond.instanceMethod yX10_fails, Cond.selects RX10 yX10_fails yX10_fails, Cond.initialized RX10, Cond.code yX10_fails cX10_fails 2 (some .boolean), Cond.fieldLink RX10 168 "PaidBySignsModel" "faultKind" "I", Cond.fieldLink RX10 137 "PaidBySignsModel" "at" "I", Cond.fieldLink RX10 13 "PaidBySignsModel" "faultPlace" "I", Cond.methodLink RX10 181 yX10_scan, Cond.instanceMethod yX10_scan, Cond.selects RX10 yX10_scan yX10_scan, Cond.code yX10_scan cX10_scan 4 none, Cond.fieldLink RX10 134 "PaidBySignsModel" "end" "I", Cond.fieldLink RX10 140 "PaidBySignsModel" "key" "I", Cond.fieldLink RX10 150 "PaidBySignsModel" "word" "J", Cond.constantLong RX10 154 (32), Cond.constantLong RX10 156 (97), Cond.fieldLink RX10 165 "PaidBySignsModel" "number" "I", Cond.methodLink RX10 130 yX10_byteAt, Cond.instanceMethod yX10_byteAt, Cond.selects RX10 yX10_byteAt yX10_byteAt, Cond.code yX10_byteAt cX10_byteAt 2 (some .int), Cond.fieldLink RX10 115 "PaidBySignsModel" "size" "I"]
def wsX10_readSemi_r2 : List Cond := [Cond.fieldLink RX10 7 "PaidBySignsModel" "tape" "[B", Cond.methodLink RX10 146 yX10_isSmall, Cond.static yX10_isSmall, Cond.code yX10_isSmall cX10_isSmall 1 (some .boolean), Cond.methodLink RX10 158 yX10_keyAt, Cond.instanceMethod yX10_keyAt, Cond.selects RX10 yX10_keyAt yX10_keyAt, Cond.code yX10_keyAt cX10_keyAt 8 (some .int), Cond.methodLink RX10 120 yJ0_length_8abf5, Cond.instanceMethod yJ0_length_8abf5, Cond.selects RJ0 yJ0_length_8abf5 yJ0_length_8abf5, Cond.initialized RJ0, Cond.code yJ0_length_8abf5 cJ0_length_8abf5 1 (some .int), Cond.fieldLink RJ0 9 "java/lang/String" "value" "[B", Cond.methodLink RJ0 335 yJ0_coder_7d493, Cond.instanceMethod yJ0_coder_7d493, Cond.selects RJ0 yJ0_coder_7d493 yJ0_coder_7d493, Cond.code yJ0_coder_7d493 cJ0_coder_7d493 1 (some .byte), Cond.fieldLink RJ0 38 "java/lang/String" "COMPACT_STRINGS" "Z", Cond.fieldLink RJ0 15 "java/lang/String" "coder" "B", Cond.methodLink RX10 126 yJ0_charAt_5068e, Cond.instanceMethod yJ0_charAt_5068e, Cond.selects RJ0 yJ0_charAt_5068e yJ0_charAt_5068e, Cond.code yJ0_charAt_5068e cJ0_charAt_5068e 2 (some .char)]
def wsX10_readSemi_r3 : List Cond := [Cond.methodLink RJ0 492 yJ0_isLatin1_aae02, Cond.instanceMethod yJ0_isLatin1_aae02, Cond.selects RJ0 yJ0_isLatin1_aae02 yJ0_isLatin1_aae02, Cond.code yJ0_isLatin1_aae02 cJ0_isLatin1_aae02 1 (some .boolean), Cond.methodLink RJ0 495 yJ1_charAt_3b067, Cond.static yJ1_charAt_3b067, Cond.initialized RJ1, Cond.code yJ1_charAt_3b067 cJ1_charAt_3b067 2 (some .char), Cond.methodLink RJ1 9 yJ0_checkIndex_df160, Cond.static yJ0_checkIndex_df160, Cond.code yJ0_checkIndex_df160 cJ0_checkIndex_df160 2 none, Cond.fieldLink RJ0 1053 "jdk/internal/util/Preconditions" "SIOOBE_FORMATTER" "Ljava/util/function/BiFunction;", Cond.methodLink RJ0 1059 yJ3_checkIndex_8e157, Cond.static yJ3_checkIndex_8e157, Cond.initialized RJ3, Cond.code yJ3_checkIndex_8e157 cJ3_checkIndex_8e157 3 (some .int), Cond.methodLink RJ0 498 yJ2_charAt_3b067, Cond.static yJ2_charAt_3b067, Cond.initialized RJ2, Cond.code yJ2_charAt_3b067 cJ2_charAt_3b067 2 (some .char), Cond.methodLink RJ2 67 yJ2_checkIndex_2214a, Cond.static yJ2_checkIndex_2214a, Cond.code yJ2_checkIndex_2214a cJ2_checkIndex_2214a 2 none, Cond.methodLink RJ2 48 yJ2_length_9d52b]
def wsX10_readSemi_r4 : List Cond := [Cond.static yJ2_length_9d52b, Cond.code yJ2_length_9d52b cJ2_length_9d52b 1 (some .int), Cond.methodLink RJ2 414 yJ0_checkIndex_df160, Cond.methodLink RJ2 71 yJ2_getChar_3b067, Cond.static yJ2_getChar_3b067, Cond.code yJ2_getChar_3b067 cJ2_getChar_3b067 2 (some .char), Cond.fieldLink RJ2 44 "java/lang/StringUTF16" "$assertionsDisabled" "Z", Cond.fieldLink RJ2 59 "java/lang/StringUTF16" "HI_BYTE_SHIFT" "I", Cond.fieldLink RJ2 63 "java/lang/StringUTF16" "LO_BYTE_SHIFT" "I", Cond.methodLink RX10 162 yX10_isDigit, Cond.static yX10_isDigit, Cond.code yX10_isDigit cX10_isDigit 1 (some .boolean)]
def wsX10_readSemi : List Cond := .code yX10_readSemi cX10_readSemi 1 (some .boolean) :: ((wsX10_readSemi_r1 ++ (wsX10_readSemi_r2 ++ (wsX10_readSemi_r3 ++ wsX10_readSemi_r4))) ++ wsX100)
def wsX10_fault : List Cond := .code yX10_fault cX10_fault 2 (some .int) :: ([.fieldLink RX10 168 "PaidBySignsModel" "faultKind" "I", .fieldLink RX10 13 "PaidBySignsModel" "faultPlace" "I"] ++ wsX100)
theorem dX10_isKey_0 : decode cX10_isKey 0 = .ok (.aload_n 0, 1) := by decide +kernel
theorem dX10_isKey_1 : decode cX10_isKey 1 = .ok (.getfield 143, 3) := by decide +kernel
theorem dX10_isKey_4 : decode cX10_isKey 4 = .ok (.iconst 1, 1) := by decide +kernel
theorem dX10_isKey_5 : decode cX10_isKey 5 = .ok (.if_icmp .ne 15, 3) := by decide +kernel
theorem dX10_isKey_8 : decode cX10_isKey 8 = .ok (.aload_n 0, 1) := by decide +kernel
theorem dX10_isKey_9 : decode cX10_isKey 9 = .ok (.getfield 140, 3) := by decide +kernel
theorem dX10_isKey_12 : decode cX10_isKey 12 = .ok (.iload_n 1, 1) := by decide +kernel
theorem dX10_isKey_13 : decode cX10_isKey 13 = .ok (.if_icmp .ne 7, 3) := by decide +kernel
theorem dX10_isKey_16 : decode cX10_isKey 16 = .ok (.iconst 1, 1) := by decide +kernel
theorem dX10_isKey_17 : decode cX10_isKey 17 = .ok (.goto 4, 3) := by decide +kernel
theorem dX10_isKey_20 : decode cX10_isKey 20 = .ok (.iconst 0, 1) := by decide +kernel
theorem dX10_isKey_21 : decode cX10_isKey 21 = .ok (.ireturn, 1) := by decide +kernel
set_option maxRecDepth 20000 in
theorem ggX10_readWord_X10_isKey : GoodIn wsX10_readWord wsX10_isKey := goodIn_r _ [5, 6, 7, 89, 90, 91, 92, 93, 94, 95, 96, 97, 98, 99, 100, 101, 102, 103, 104, 105, 106, 107, 108, 109, 110, 111, 112, 113, 114, 115, 116, 117, 118, 119, 120, 121, 122, 123, 124, 125, 126, 127, 128, 129, 130, 131, 132, 133, 134, 135, 136, 137, 138, 139, 140, 141, 142, 143, 144, 145, 146, 147, 148, 149, 150, 151, 152, 153] (by decide +kernel) (by decide +kernel)
set_option maxRecDepth 20000 in
theorem gX10_readWord_X10_isKey : GoodIn wsX10_readWord (wsV RX10 184 RX10 yX10_isKey wsX10_isKey) := goodIn_app (goodIn_of _ (by decide +kernel)) ggX10_readWord_X10_isKey
set_option maxRecDepth 20000 in
theorem ggX10_readWord_X10_fails : GoodIn wsX10_readWord wsX10_fails := goodIn_r _ [11, 12, 13, 14, 89, 90, 91, 92, 93, 94, 95, 96, 97, 98, 99, 100, 101, 102, 103, 104, 105, 106, 107, 108, 109, 110, 111, 112, 113, 114, 115, 116, 117, 118, 119, 120, 121, 122, 123, 124, 125, 126, 127, 128, 129, 130, 131, 132, 133, 134, 135, 136, 137, 138, 139, 140, 141, 142, 143, 144, 145, 146, 147, 148, 149, 150, 151, 152, 153] (by decide +kernel) (by decide +kernel)
set_option maxRecDepth 20000 in
theorem gX10_readWord_X10_fails : GoodIn wsX10_readWord (wsV RX10 171 RX10 yX10_fails wsX10_fails) := goodIn_app (goodIn_of _ (by decide +kernel)) ggX10_readWord_X10_fails
set_option maxRecDepth 20000 in
theorem ggX10_readWord_X10_scan : GoodIn wsX10_readWord wsX10_scan := goodIn_r _ [18, 19, 13, 7, 6, 20, 21, 22, 23, 24, 25, 26, 4, 27, 28, 29, 30, 31, 32, 33, 34, 35, 36, 37, 38, 39, 40, 41, 42, 43, 44, 45, 46, 47, 48, 49, 50, 51, 52, 53, 54, 55, 56, 57, 58, 59, 60, 61, 62, 63, 64, 65, 66, 67, 68, 69, 70, 71, 72, 73, 74, 75, 76, 77, 78, 79, 80, 81, 82, 83, 84, 85, 86, 87, 88, 89, 90, 91, 92, 93, 94, 95, 96, 97, 98, 99, 100, 101, 102, 103, 104, 105, 106, 107, 108, 109, 110, 111, 112, 113, 114, 115, 116, 117, 118, 119, 120, 121, 122, 123, 124, 125, 126, 127, 128, 129, 130, 131, 132, 133, 134, 135, 136, 137, 138, 139, 140, 141, 142, 143, 144, 145, 146, 147, 148, 149, 150, 151, 152, 153] (by decide +kernel) (by decide +kernel)
set_option maxRecDepth 20000 in
theorem gX10_readWord_X10_scan : GoodIn wsX10_readWord (wsV RX10 181 RX10 yX10_scan wsX10_scan) := goodIn_app (goodIn_of _ (by decide +kernel)) ggX10_readWord_X10_scan
theorem dX10_readWord_0 : decode cX10_readWord 0 = .ok (.aload_n 0, 1) := by decide +kernel
theorem dX10_readWord_1 : decode cX10_readWord 1 = .ok (.iload_n 1, 1) := by decide +kernel
theorem dX10_readWord_2 : decode cX10_readWord 2 = .ok (.invokevirtual 184, 3) := by decide +kernel
theorem dX10_readWord_5 : decode cX10_readWord 5 = .ok (.ifCond .ne 9, 3) := by decide +kernel
theorem dX10_readWord_8 : decode cX10_readWord 8 = .ok (.aload_n 0, 1) := by decide +kernel
theorem dX10_readWord_9 : decode cX10_readWord 9 = .ok (.iconst 1, 1) := by decide +kernel
theorem dX10_readWord_10 : decode cX10_readWord 10 = .ok (.invokevirtual 171, 3) := by decide +kernel
theorem dX10_readWord_13 : decode cX10_readWord 13 = .ok (.ireturn, 1) := by decide +kernel
theorem dX10_readWord_14 : decode cX10_readWord 14 = .ok (.aload_n 0, 1) := by decide +kernel
theorem dX10_readWord_15 : decode cX10_readWord 15 = .ok (.invokevirtual 181, 3) := by decide +kernel
theorem dX10_readWord_18 : decode cX10_readWord 18 = .ok (.iconst 1, 1) := by decide +kernel
theorem dX10_readWord_19 : decode cX10_readWord 19 = .ok (.ireturn, 1) := by decide +kernel
set_option maxRecDepth 20000 in
theorem ggX10_readSemi_X10_fails : GoodIn wsX10_readSemi wsX10_fails := goodIn_r _ [6, 7, 8, 9, 85, 86, 87, 88, 89, 90, 91, 92, 93, 94, 95, 96, 97, 98, 99, 100, 101, 102, 103, 104, 105, 106, 107, 108, 109, 110, 111, 112, 113, 114, 115, 116, 117, 118, 119, 120, 121, 122, 123, 124, 125, 126, 127, 128, 129, 130, 131, 132, 133, 134, 135, 136, 137, 138, 139, 140, 141, 142, 143, 144, 145, 146, 147, 148, 149] (by decide +kernel) (by decide +kernel)
set_option maxRecDepth 20000 in
theorem gX10_readSemi_X10_fails : GoodIn wsX10_readSemi (wsV RX10 171 RX10 yX10_fails wsX10_fails) := goodIn_app (goodIn_of _ (by decide +kernel)) ggX10_readSemi_X10_fails
set_option maxRecDepth 20000 in
theorem ggX10_readSemi_X10_scan : GoodIn wsX10_readSemi wsX10_scan := goodIn_r _ [13, 14, 8, 15, 1, 16, 17, 18, 19, 20, 21, 22, 5, 23, 24, 25, 26, 27, 28, 29, 30, 31, 32, 33, 34, 35, 36, 37, 38, 39, 40, 41, 42, 43, 44, 45, 46, 47, 48, 49, 50, 51, 52, 53, 54, 55, 56, 57, 58, 59, 60, 61, 62, 63, 64, 65, 66, 67, 68, 69, 70, 71, 72, 73, 74, 75, 76, 77, 78, 79, 80, 81, 82, 83, 84, 85, 86, 87, 88, 89, 90, 91, 92, 93, 94, 95, 96, 97, 98, 99, 100, 101, 102, 103, 104, 105, 106, 107, 108, 109, 110, 111, 112, 113, 114, 115, 116, 117, 118, 119, 120, 121, 122, 123, 124, 125, 126, 127, 128, 129, 130, 131, 132, 133, 134, 135, 136, 137, 138, 139, 140, 141, 142, 143, 144, 145, 146, 147, 148, 149] (by decide +kernel) (by decide +kernel)
set_option maxRecDepth 20000 in
theorem gX10_readSemi_X10_scan : GoodIn wsX10_readSemi (wsV RX10 181 RX10 yX10_scan wsX10_scan) := goodIn_app (goodIn_of _ (by decide +kernel)) ggX10_readSemi_X10_scan
theorem dX10_readSemi_0 : decode cX10_readSemi 0 = .ok (.aload_n 0, 1) := by decide +kernel
theorem dX10_readSemi_1 : decode cX10_readSemi 1 = .ok (.getfield 143, 3) := by decide +kernel
theorem dX10_readSemi_4 : decode cX10_readSemi 4 = .ok (.iconst 3, 1) := by decide +kernel
theorem dX10_readSemi_5 : decode cX10_readSemi 5 = .ok (.if_icmp .eq 9, 3) := by decide +kernel
theorem dX10_readSemi_8 : decode cX10_readSemi 8 = .ok (.aload_n 0, 1) := by decide +kernel
theorem dX10_readSemi_9 : decode cX10_readSemi 9 = .ok (.iconst 1, 1) := by decide +kernel
theorem dX10_readSemi_10 : decode cX10_readSemi 10 = .ok (.invokevirtual 171, 3) := by decide +kernel
theorem dX10_readSemi_13 : decode cX10_readSemi 13 = .ok (.ireturn, 1) := by decide +kernel
theorem dX10_readSemi_14 : decode cX10_readSemi 14 = .ok (.aload_n 0, 1) := by decide +kernel
theorem dX10_readSemi_15 : decode cX10_readSemi 15 = .ok (.invokevirtual 181, 3) := by decide +kernel
theorem dX10_readSemi_18 : decode cX10_readSemi 18 = .ok (.iconst 1, 1) := by decide +kernel
theorem dX10_readSemi_19 : decode cX10_readSemi 19 = .ok (.ireturn, 1) := by decide +kernel
theorem dX10_fault_0 : decode cX10_fault 0 = .ok (.iload_n 1, 1) := by decide +kernel
theorem dX10_fault_1 : decode cX10_fault 1 = .ok (.ifCond .ne 10, 3) := by decide +kernel
theorem dX10_fault_4 : decode cX10_fault 4 = .ok (.aload_n 0, 1) := by decide +kernel
theorem dX10_fault_5 : decode cX10_fault 5 = .ok (.getfield 168, 3) := by decide +kernel
theorem dX10_fault_8 : decode cX10_fault 8 = .ok (.goto 16, 3) := by decide +kernel
theorem dX10_fault_11 : decode cX10_fault 11 = .ok (.iload_n 1, 1) := by decide +kernel
theorem dX10_fault_12 : decode cX10_fault 12 = .ok (.iconst 1, 1) := by decide +kernel
theorem dX10_fault_13 : decode cX10_fault 13 = .ok (.if_icmp .ne 10, 3) := by decide +kernel
theorem dX10_fault_16 : decode cX10_fault 16 = .ok (.aload_n 0, 1) := by decide +kernel
theorem dX10_fault_17 : decode cX10_fault 17 = .ok (.getfield 13, 3) := by decide +kernel
theorem dX10_fault_20 : decode cX10_fault 20 = .ok (.goto 4, 3) := by decide +kernel
theorem dX10_fault_23 : decode cX10_fault 23 = .ok (.iconst (-1), 1) := by decide +kernel
theorem dX10_fault_24 : decode cX10_fault 24 = .ok (.ireturn, 1) := by decide +kernel
theorem dX10_begin_0 : decode cX10_begin 0 = .ok (.aload_n 0, 1) := by decide +kernel
theorem dX10_begin_1 : decode cX10_begin 1 = .ok (.getfield 17, 3) := by decide +kernel
theorem dX10_begin_4 : decode cX10_begin 4 = .ok (.bipush 6, 2) := by decide +kernel
theorem dX10_begin_6 : decode cX10_begin 6 = .ok (.bipush 10, 2) := by decide +kernel
theorem dX10_begin_8 : decode cX10_begin 8 = .ok (.iastore, 1) := by decide +kernel
theorem dX10_begin_9 : decode cX10_begin 9 = .ok (.aload_n 0, 1) := by decide +kernel
theorem dX10_begin_10 : decode cX10_begin 10 = .ok (.getfield 17, 3) := by decide +kernel
theorem dX10_begin_13 : decode cX10_begin 13 = .ok (.bipush 7, 2) := by decide +kernel
theorem dX10_begin_15 : decode cX10_begin 15 = .ok (.iconst 0, 1) := by decide +kernel
theorem dX10_begin_16 : decode cX10_begin 16 = .ok (.iastore, 1) := by decide +kernel
theorem dX10_begin_17 : decode cX10_begin 17 = .ok (.aload_n 0, 1) := by decide +kernel
theorem dX10_begin_18 : decode cX10_begin 18 = .ok (.getfield 17, 3) := by decide +kernel
theorem dX10_begin_21 : decode cX10_begin 21 = .ok (.bipush 8, 2) := by decide +kernel
theorem dX10_begin_23 : decode cX10_begin 23 = .ok (.iconst 0, 1) := by decide +kernel
theorem dX10_begin_24 : decode cX10_begin 24 = .ok (.iastore, 1) := by decide +kernel
theorem dX10_begin_25 : decode cX10_begin 25 = .ok (.aload_n 0, 1) := by decide +kernel
theorem dX10_begin_26 : decode cX10_begin 26 = .ok (.getfield 17, 3) := by decide +kernel
theorem dX10_begin_29 : decode cX10_begin 29 = .ok (.bipush 9, 2) := by decide +kernel
theorem dX10_begin_31 : decode cX10_begin 31 = .ok (.iconst 0, 1) := by decide +kernel
theorem dX10_begin_32 : decode cX10_begin 32 = .ok (.iastore, 1) := by decide +kernel
theorem dX10_begin_33 : decode cX10_begin 33 = .ok (.aload_n 0, 1) := by decide +kernel
theorem dX10_begin_34 : decode cX10_begin 34 = .ok (.getfield 17, 3) := by decide +kernel
theorem dX10_begin_37 : decode cX10_begin 37 = .ok (.bipush 10, 2) := by decide +kernel
theorem dX10_begin_39 : decode cX10_begin 39 = .ok (.iconst 0, 1) := by decide +kernel
theorem dX10_begin_40 : decode cX10_begin 40 = .ok (.iastore, 1) := by decide +kernel
theorem dX10_begin_41 : decode cX10_begin 41 = .ok (.aload_n 0, 1) := by decide +kernel
theorem dX10_begin_42 : decode cX10_begin 42 = .ok (.getfield 17, 3) := by decide +kernel
theorem dX10_begin_45 : decode cX10_begin 45 = .ok (.bipush 11, 2) := by decide +kernel
theorem dX10_begin_47 : decode cX10_begin 47 = .ok (.iconst 1, 1) := by decide +kernel
theorem dX10_begin_48 : decode cX10_begin 48 = .ok (.iastore, 1) := by decide +kernel
theorem dX10_begin_49 : decode cX10_begin 49 = .ok (.aload_n 0, 1) := by decide +kernel
theorem dX10_begin_50 : decode cX10_begin 50 = .ok (.getfield 37, 3) := by decide +kernel
theorem dX10_begin_53 : decode cX10_begin 53 = .ok (.iconst 3, 1) := by decide +kernel
theorem dX10_begin_54 : decode cX10_begin 54 = .ok (.iconst 1, 1) := by decide +kernel
theorem dX10_begin_55 : decode cX10_begin 55 = .ok (.iastore, 1) := by decide +kernel
theorem dX10_begin_56 : decode cX10_begin 56 = .ok (.aload_n 0, 1) := by decide +kernel
theorem dX10_begin_57 : decode cX10_begin 57 = .ok (.iconst 0, 1) := by decide +kernel
theorem dX10_begin_58 : decode cX10_begin 58 = .ok (.putfield 187, 3) := by decide +kernel
theorem dX10_begin_61 : decode cX10_begin 61 = .ok (.return_, 1) := by decide +kernel
theorem kk_X10_isKey_0 : Cond.fieldLink RX10 143 "PaidBySignsModel" "sort" "I" ∈ wsX10_isKey := by decide +kernel
theorem kk_X10_isKey_1 : Cond.fieldLink RX10 140 "PaidBySignsModel" "key" "I" ∈ wsX10_isKey := by decide +kernel
theorem kk_X10_readSemi_0 : Cond.fieldLink RX10 143 "PaidBySignsModel" "sort" "I" ∈ wsX10_readSemi := by decide +kernel
theorem kk_X10_fault_0 : Cond.fieldLink RX10 13 "PaidBySignsModel" "faultPlace" "I" ∈ wsX10_fault := by decide +kernel
theorem kk_X10_fault_1 : Cond.fieldLink RX10 168 "PaidBySignsModel" "faultKind" "I" ∈ wsX10_fault := by decide +kernel
theorem kk_X10_begin_0 : Cond.fieldLink RX10 17 "PaidBySignsModel" "num" "[I" ∈ wsX10_begin := by decide +kernel
theorem kk_X10_begin_1 : Cond.fieldLink RX10 37 "PaidBySignsModel" "rates" "[I" ∈ wsX10_begin := by decide +kernel
theorem kk_X10_begin_2 : Cond.fieldLink RX10 187 "PaidBySignsModel" "seen" "I" ∈ wsX10_begin := by decide +kernel
theorem iw_X10_isKey_X10 : ∀ w ∈ wsX100, w ∈ wsX10_isKey := by decide +kernel
theorem iw_X10_readSemi_X10 : ∀ w ∈ wsX100, w ∈ wsX10_readSemi := by decide +kernel
theorem iw_X10_fault_X10 : ∀ w ∈ wsX100, w ∈ wsX10_fault := by decide +kernel
theorem iw_X10_begin_X10 : ∀ w ∈ wsX100, w ∈ wsX10_begin := by decide +kernel
