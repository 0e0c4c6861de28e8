abbrev cX10_isDigit : ByteArray := prog_12_method_7_code
def yX10_isDigit : MethodName := ⟨RX10, "isDigit", "(I)Z"⟩
abbrev cX10_keyAt : ByteArray := prog_12_method_8_code
def yX10_keyAt : MethodName := ⟨RX10, "keyAt", "(II)I"⟩
abbrev cX10_scan : ByteArray := prog_12_method_9_code
def yX10_scan : MethodName := ⟨RX10, "scan", "()V"⟩
abbrev cX10_fails : ByteArray := prog_12_method_10_code
def yX10_fails : MethodName := ⟨RX10, "fails", "(I)Z"⟩
abbrev cX10_readNumber : ByteArray := prog_12_method_11_code
def yX10_readNumber : MethodName := ⟨RX10, "readNumber", "(II)Z"⟩
def wsX10_isDigit : List Cond := .code yX10_isDigit cX10_isDigit 1 (some .boolean) :: ([])
def wsX10_keyAt_r1 : List Cond := [Cond.methodLink RX10 120 yJ0_length_8abf5, Cond.instanceMethod yJ0_length_8abf5, Cond.selects RJ0 yJ0_length_8abf5 yJ0_length_8abf5, Cond.initialized RJ0, Cond.code yJ0_length_8abf5 cJ0_length_8abf5 1 (some .int), Cond.fieldLink RJ0 9 "java/lang/String" "value" "[B", Cond.methodLink RJ0 335 yJ0_coder_7d493, Cond.instanceMethod yJ0_coder_7d493, Cond.selects RJ0 yJ0_coder_7d493 yJ0_coder_7d493, Cond.code yJ0_coder_7d493 cJ0_coder_7d493 1 (some .byte), Cond.fieldLink RJ0 38 "java/lang/String" "COMPACT_STRINGS" "Z", Cond.fieldLink RJ0 15 "java/lang/String" "coder" "B", Cond.methodLink RX10 126 yJ0_charAt_5068e, Cond.instanceMethod yJ0_charAt_5068e, Cond.selects RJ0 yJ0_charAt_5068e yJ0_charAt_5068e, Cond.code yJ0_charAt_5068e cJ0_charAt_5068e 2 (some .char), Cond.methodLink RJ0 492 yJ0_isLatin1_aae02, Cond.instanceMethod yJ0_isLatin1_aae02, Cond.selects RJ0 yJ0_isLatin1_aae02 yJ0_isLatin1_aae02, Cond.code yJ0_isLatin1_aae02 cJ0_isLatin1_aae02 1 (some .boolean), Cond.methodLink RJ0 495 yJ1_charAt_3b067, Cond.static yJ1_charAt_3b067, Cond.initialized RJ1, Cond.code yJ1_charAt_3b067 cJ1_charAt_3b067 2 (some .char)]
def wsX10_keyAt_r2 : List Cond := [Cond.methodLink RJ1 9 yJ0_checkIndex_df160, Cond.static yJ0_checkIndex_df160, Cond.code yJ0_checkIndex_df160 cJ0_checkIndex_df160 2 none, Cond.fieldLink RJ0 1053 "jdk/internal/util/Preconditions" "SIOOBE_FORMATTER" "Ljava/util/function/BiFunction;", Cond.methodLink RJ0 1059 yJ3_checkIndex_8e157, Cond.static yJ3_checkIndex_8e157, Cond.initialized RJ3, Cond.code yJ3_checkIndex_8e157 cJ3_checkIndex_8e157 3 (some .int), Cond.methodLink RJ0 498 yJ2_charAt_3b067, Cond.static yJ2_charAt_3b067, Cond.initialized RJ2, Cond.code yJ2_charAt_3b067 cJ2_charAt_3b067 2 (some .char), Cond.methodLink RJ2 67 yJ2_checkIndex_2214a, Cond.static yJ2_checkIndex_2214a, Cond.code yJ2_checkIndex_2214a cJ2_checkIndex_2214a 2 none, Cond.methodLink RJ2 48 yJ2_length_9d52b, Cond.static yJ2_length_9d52b, Cond.code yJ2_length_9d52b cJ2_length_9d52b 1 (some .int), Cond.methodLink RJ2 414 yJ0_checkIndex_df160, Cond.methodLink RJ2 71 yJ2_getChar_3b067, Cond.static yJ2_getChar_3b067, Cond.code yJ2_getChar_3b067 cJ2_getChar_3b067 2 (some .char), Cond.fieldLink RJ2 44 "java/lang/StringUTF16" "$assertionsDisabled" "Z", Cond.fieldLink RJ2 59 "java/lang/StringUTF16" "HI_BYTE_SHIFT" "I"]
def wsX10_keyAt_r3 : List Cond := [Cond.fieldLink RJ2 63 "java/lang/StringUTF16" "LO_BYTE_SHIFT" "I", Cond.methodLink RX10 130 yX10_byteAt, Cond.instanceMethod yX10_byteAt, Cond.selects RX10 yX10_byteAt yX10_byteAt, Cond.initialized RX10, Cond.code yX10_byteAt cX10_byteAt 2 (some .int), Cond.fieldLink RX10 115 "PaidBySignsModel" "size" "I", Cond.fieldLink RX10 7 "PaidBySignsModel" "tape" "[B"]
def wsX10_keyAt : List Cond := .code yX10_keyAt cX10_keyAt 8 (some .int) :: ((wsX10_keyAt_r1 ++ (wsX10_keyAt_r2 ++ wsX10_keyAt_r3)) ++ wsX100)
def wsX10_scan_r1 : List Cond := [Cond.fieldLink RX10 134 "PaidBySignsModel" "end" "I", Cond.fieldLink RX10 137 "PaidBySignsModel" "at" "I", Cond.fieldLink RX10 140 "PaidBySignsModel" "key" "I", Cond.fieldLink RX10 143 "PaidBySignsModel" "sort" "I", Cond.fieldLink RX10 150 "PaidBySignsModel" "word" "J", Cond.constantLong RX10 154 (32), Cond.constantLong RX10 156 (97), Cond.fieldLink RX10 165 "PaidBySignsModel" "number" "I", Cond.methodLink RX10 130 yX10_byteAt, Cond.instanceMethod yX10_byteAt, Cond.selects RX10 yX10_byteAt yX10_byteAt, Cond.initialized RX10, Cond.code yX10_byteAt cX10_byteAt 2 (some .int), Cond.fieldLink RX10 115 "PaidBySignsModel" "size" "I", Cond.fieldLink RX10 7 "PaidBySignsModel" "tape" "[B", Cond.methodLink RX10 146 yX10_isSmall, Cond.static yX10_isSmall, Cond.code yX10_isSmall cX10_isSmall 1 (some .boolean), Cond.methodLink RX10 158 yX10_keyAt, Cond.instanceMethod yX10_keyAt, Cond.selects RX10 yX10_keyAt yX10_keyAt, Cond.code yX10_keyAt cX10_keyAt 8 (some .int), Cond.methodLink RX10 120 yJ0_length_8abf5, Cond.instanceMethod yJ0_length_8abf5]
def wsX10_scan_r2 : List Cond := [Cond.selects RJ0 yJ0_length_8abf5 yJ0_length_8abf5, Cond.initialized RJ0, Cond.code yJ0_length_8abf5 cJ0_length_8abf5 1 (some .int), Cond.fieldLink RJ0 9 "java/lang/String" "value" "[B", Cond.methodLink RJ0 335 yJ0_coder_7d493, Cond.instanceMethod yJ0_coder_7d493, Cond.selects RJ0 yJ0_coder_7d493 yJ0_coder_7d493, Cond.code yJ0_coder_7d493 cJ0_coder_7d493 1 (some .byte), Cond.fieldLink RJ0 38 "java/lang/String" "COMPACT_STRINGS" "Z", Cond.fieldLink RJ0 15 "java/lang/String" "coder" "B", Cond.methodLink RX10 126 yJ0_charAt_5068e, Cond.instanceMethod yJ0_charAt_5068e, Cond.selects RJ0 yJ0_charAt_5068e yJ0_charAt_5068e, Cond.code yJ0_charAt_5068e cJ0_charAt_5068e 2 (some .char), Cond.methodLink RJ0 492 yJ0_isLatin1_aae02, Cond.instanceMethod yJ0_isLatin1_aae02, Cond.selects RJ0 yJ0_isLatin1_aae02 yJ0_isLatin1_aae02, Cond.code yJ0_isLatin1_aae02 cJ0_isLatin1_aae02 1 (some .boolean), Cond.methodLink RJ0 495 yJ1_charAt_3b067, Cond.static yJ1_charAt_3b067, Cond.initialized RJ1, Cond.code yJ1_charAt_3b067 cJ1_charAt_3b067 2 (some .char), Cond.methodLink RJ1 9 yJ0_checkIndex_df160, Cond.static yJ0_checkIndex_df160]
def wsX10_scan_r3 : List Cond := [Cond.code yJ0_checkIndex_df160 cJ0_checkIndex_df160 2 none, Cond.fieldLink RJ0 1053 "jdk/internal/util/Preconditions" "SIOOBE_FORMATTER" "Ljava/util/function/BiFunction;", Cond.methodLink RJ0 1059 yJ3_checkIndex_8e157, Cond.static yJ3_checkIndex_8e157, Cond.initialized RJ3, Cond.code yJ3_checkIndex_8e157 cJ3_checkIndex_8e157 3 (some .int), Cond.methodLink RJ0 498 yJ2_charAt_3b067, Cond.static yJ2_charAt_3b067, Cond.initialized RJ2, Cond.code yJ2_charAt_3b067 cJ2_charAt_3b067 2 (some .char), Cond.methodLink RJ2 67 yJ2_checkIndex_2214a, Cond.static yJ2_checkIndex_2214a, Cond.code yJ2_checkIndex_2214a cJ2_checkIndex_2214a 2 none, Cond.methodLink RJ2 48 yJ2_length_9d52b, Cond.static yJ2_length_9d52b, Cond.code yJ2_length_9d52b cJ2_length_9d52b 1 (some .int), Cond.methodLink RJ2 414 yJ0_checkIndex_df160, Cond.methodLink RJ2 71 yJ2_getChar_3b067, Cond.static yJ2_getChar_3b067, Cond.code yJ2_getChar_3b067 cJ2_getChar_3b067 2 (some .char), Cond.fieldLink RJ2 44 "java/lang/StringUTF16" "$assertionsDisabled" "Z", Cond.fieldLink RJ2 59 "java/lang/StringUTF16" "HI_BYTE_SHIFT" "I", Cond.fieldLink RJ2 63 "java/lang/StringUTF16" "LO_BYTE_SHIFT" "I", Cond.methodLink RX10 162 yX10_isDigit]
def wsX10_scan_r4 : List Cond := [Cond.static yX10_isDigit, Cond.code yX10_isDigit cX10_isDigit 1 (some .boolean)]
def wsX10_scan : List Cond := .code yX10_scan cX10_scan 4 none :: ((wsX10_scan_r1 ++ (wsX10_scan_r2 ++ (wsX10_scan_r3 ++ wsX10_scan_r4))) ++ wsX100)
def wsX10_fails : List Cond := .code yX10_fails cX10_fails 2 (some .boolean) :: ([.fieldLink RX10 168 "PaidBySignsModel" "faultKind" "I", .fieldLink RX10 137 "PaidBySignsModel" "at" "I", .fieldLink RX10 13 "PaidBySignsModel" "faultPlace" "I"] ++ wsX100)
def wsX10_readNumber_r1 : List Cond := [Cond.fieldLink RX10 143 "PaidBySignsModel" "sort" "I", Cond.fieldLink RX10 165 "PaidBySignsModel" "number" "I", Cond.fieldLink RX10 178 "PaidBySignsModel" "got" "I", Cond.methodLink RX10 171 yX10_fails, Cond.instanceMethod yX10_fails, Cond.selects RX10 yX10_fails yX10_fails, Cond.initialized RX10, Cond.code yX10_fails cX10_fails 2 (some .boolean), Cond.fieldLink RX10 168 "PaidBySignsModel" "faultKind" "I", Cond.fieldLink RX10 137 "PaidBySignsModel" "at" "I", Cond.fieldLink RX10 13 "PaidBySignsModel" "faultPlace" "I", Cond.methodLink RX10 174 yX10_in, Cond.static yX10_in, Cond.code yX10_in cX10_in 6 (some .boolean), Cond.methodLink RX10 181 yX10_scan, Cond.instanceMethod yX10_scan, Cond.selects RX10 yX10_scan yX10_scan, Cond.code yX10_scan cX10_scan 4 none, Cond.fieldLink RX10 134 "PaidBySignsModel" "end" "I", Cond.fieldLink RX10 140 "PaidBySignsModel" "key" "I", Cond.fieldLink RX10 150 "PaidBySignsModel" "word" "J", Cond.constantLong RX10 154 (32), Cond.constantLong RX10 156 (97), Cond.methodLink RX10 130 yX10_byteAt]
def wsX10_readNumber_r2 : List Cond := [Cond.instanceMethod yX10_byteAt, Cond.selects RX10 yX10_byteAt yX10_byteAt, Cond.code yX10_byteAt cX10_byteAt 2 (some .int), Cond.fieldLink RX10 115 "PaidBySignsModel" "size" "I", Cond.fieldLink RX10 7 "PaidBySignsModel" "tape" "[B", Cond.methodLink RX10 146 yX10_isSmall, Cond.static yX10_isSmall, Cond.code yX10_isSmall cX10_isSmall 1 (some .boolean), Cond.methodLink RX10 158 yX10_keyAt, Cond.instanceMethod yX10_keyAt, Cond.selects RX10 yX10_keyAt yX10_keyAt, Cond.code yX10_keyAt cX10_keyAt 8 (some .int), Cond.methodLink RX10 120 yJ0_length_8abf5, Cond.instanceMethod yJ0_length_8abf5, Cond.selects RJ0 yJ0_length_8abf5 yJ0_length_8abf5, Cond.initialized RJ0, Cond.code yJ0_length_8abf5 cJ0_length_8abf5 1 (some .int), Cond.fieldLink RJ0 9 "java/lang/String" "value" "[B", Cond.methodLink RJ0 335 yJ0_coder_7d493, Cond.instanceMethod yJ0_coder_7d493, Cond.selects RJ0 yJ0_coder_7d493 yJ0_coder_7d493, Cond.code yJ0_coder_7d493 cJ0_coder_7d493 1 (some .byte), Cond.fieldLink RJ0 38 "java/lang/String" "COMPACT_STRINGS" "Z", Cond.fieldLink RJ0 15 "java/lang/String" "coder" "B"]
def wsX10_readNumber_r3 : List Cond := [Cond.methodLink RX10 126 yJ0_charAt_5068e, Cond.instanceMethod yJ0_charAt_5068e, Cond.selects RJ0 yJ0_charAt_5068e yJ0_charAt_5068e, Cond.code yJ0_charAt_5068e cJ0_charAt_5068e 2 (some .char), Cond.methodLink RJ0 492 yJ0_isLatin1_aae02, Cond.instanceMethod yJ0_isLatin1_aae02, Cond.selects RJ0 yJ0_isLatin1_aae02 yJ0_isLatin1_aae02, Cond.code yJ0_isLatin1_aae02 cJ0_isLatin1_aae02 1 (some .boolean), Cond.methodLink RJ0 495 yJ1_charAt_3b067, Cond.static yJ1_charAt_3b067, Cond.initialized RJ1, Cond.code yJ1_charAt_3b067 cJ1_charAt_3b067 2 (some .char), Cond.methodLink RJ1 9 yJ0_checkIndex_df160, Cond.static yJ0_checkIndex_df160, Cond.code yJ0_checkIndex_df160 cJ0_checkIndex_df160 2 none, Cond.fieldLink RJ0 1053 "jdk/internal/util/Preconditions" "SIOOBE_FORMATTER" "Ljava/util/function/BiFunction;", Cond.methodLink RJ0 1059 yJ3_checkIndex_8e157, Cond.static yJ3_checkIndex_8e157, Cond.initialized RJ3, Cond.code yJ3_checkIndex_8e157 cJ3_checkIndex_8e157 3 (some .int), Cond.methodLink RJ0 498 yJ2_charAt_3b067, Cond.static yJ2_charAt_3b067, Cond.initialized RJ2, Cond.code yJ2_charAt_3b067 cJ2_charAt_3b067 2 (some .char)]
def wsX10_readNumber_r4 : List Cond := [Cond.methodLink RJ2 67 yJ2_checkIndex_2214a, Cond.static yJ2_checkIndex_2214a, Cond.code yJ2_checkIndex_2214a cJ2_checkIndex_2214a 2 none, Cond.methodLink RJ2 48 yJ2_length_9d52b, Cond.static yJ2_length_9d52b, Cond.code yJ2_length_9d52b cJ2_length_9d52b 1 (some .int), Cond.methodLink RJ2 414 yJ0_checkIndex_df160, Cond.methodLink RJ2 71 yJ2_getChar_3b067, Cond.static yJ2_getChar_3b067, Cond.code yJ2_getChar_3b067 cJ2_getChar_3b067 2 (some .char), Cond.fieldLink RJ2 44 "java/lang/StringUTF16" "$assertionsDisabled" "Z", Cond.fieldLink RJ2 59 "java/lang/StringUTF16" "HI_BYTE_SHIFT" "I", Cond.fieldLink RJ2 63 "java/lang/StringUTF16" "LO_BYTE_SHIFT" "I", Cond.methodLink RX10 162 yX10_isDigit, Cond.static yX10_isDigit, Cond.code yX10_isDigit cX10_isDigit 1 (some .boolean)]
def wsX10_readNumber : List Cond := .code yX10_readNumber cX10_readNumber 3 (some .boolean) :: ((wsX10_readNumber_r1 ++ (wsX10_readNumber_r2 ++ (wsX10_readNumber_r3 ++ wsX10_readNumber_r4))) ++ wsX100)
theorem dX10_isDigit_0 : decode cX10_isDigit 0 = .ok (.iload_n 0, 1) := by decide +kernel
theorem dX10_isDigit_1 : decode cX10_isDigit 1 = .ok (.bipush 48, 2) := by decide +kernel
theorem dX10_isDigit_3 : decode cX10_isDigit 3 = .ok (.if_icmp .lt 13, 3) := by decide +kernel
theorem dX10_isDigit_6 : decode cX10_isDigit 6 = .ok (.iload_n 0, 1) := by decide +kernel
theorem dX10_isDigit_7 : decode cX10_isDigit 7 = .ok (.bipush 57, 2) := by decide +kernel
theorem dX10_isDigit_9 : decode cX10_isDigit 9 = .ok (.if_icmp .gt 7, 3) := by decide +kernel
theorem dX10_isDigit_12 : decode cX10_isDigit 12 = .ok (.iconst 1, 1) := by decide +kernel
theorem dX10_isDigit_13 : decode cX10_isDigit 13 = .ok (.goto 4, 3) := by decide +kernel
theorem dX10_isDigit_16 : decode cX10_isDigit 16 = .ok (.iconst 0, 1) := by decide +kernel
theorem dX10_isDigit_17 : decode cX10_isDigit 17 = .ok (.ireturn, 1) := by decide +kernel
theorem pm_X10_keyAt_r1 : ∀ w ∈ wsX10_keyAt_r1, w ∈ wsX10_keyAt := fun _ h => List.mem_cons_of_mem _ (List.mem_append_left _ (List.mem_append_left _ h))
theorem pm_X10_keyAt_r2 : ∀ w ∈ wsX10_keyAt_r2, w ∈ wsX10_keyAt := fun _ h => List.mem_cons_of_mem _ (List.mem_append_left _ (List.mem_append_right _ (List.mem_append_left _ h)))
theorem pm_X10_keyAt_r3 : ∀ w ∈ wsX10_keyAt_r3, w ∈ wsX10_keyAt := fun _ h => List.mem_cons_of_mem _ (List.mem_append_left _ (List.mem_append_right _ (List.mem_append_right _ (h))))
theorem pw_X10_keyAt_X10 : ∀ w ∈ wsX100, w ∈ wsX10_keyAt := fun _ h => List.mem_cons_of_mem _ (List.mem_append_right _ h)
set_option maxRecDepth 20000 in
theorem ggX10_keyAt_J0_length_8abf5 : GoodIn wsX10_keyAt wsJ0_length_8abf5 := goodIn_sub (List.forall_mem_cons.mpr ⟨pm_X10_keyAt_r1 _ (List.mem_of_getElem? (i := 4) rfl), List.forall_mem_cons.mpr ⟨pm_X10_keyAt_r1 _ (List.mem_of_getElem? (i := 5) rfl), List.forall_mem_cons.mpr ⟨pm_X10_keyAt_r1 _ (List.mem_of_getElem? (i := 6) rfl), List.forall_mem_cons.mpr ⟨pm_X10_keyAt_r1 _ (List.mem_of_getElem? (i := 7) rfl), List.forall_mem_cons.mpr ⟨pm_X10_keyAt_r1 _ (List.mem_of_getElem? (i := 8) rfl), List.forall_mem_cons.mpr ⟨pm_X10_keyAt_r1 _ (List.mem_of_getElem? (i := 3) rfl), List.forall_mem_cons.mpr ⟨pm_X10_keyAt_r1 _ (List.mem_of_getElem? (i := 9) rfl), List.forall_mem_cons.mpr ⟨pm_X10_keyAt_r1 _ (List.mem_of_getElem? (i := 10) rfl), List.forall_mem_cons.mpr ⟨pm_X10_keyAt_r1 _ (List.mem_of_getElem? (i := 11) rfl), fun _ h => absurd h List.not_mem_nil⟩⟩⟩⟩⟩⟩⟩⟩⟩) (by decide +kernel)
set_option maxRecDepth 20000 in
theorem gX10_keyAt_J0_length_8abf5 : GoodIn wsX10_keyAt (wsV RX10 120 RJ0 yJ0_length_8abf5 wsJ0_length_8abf5) := goodIn_app (goodIn_of _ (by decide +kernel)) ggX10_keyAt_J0_length_8abf5
set_option maxRecDepth 20000 in
theorem pq_X10_keyAt_J0_charAt_5068e_r1 : ∀ w ∈ wsJ0_charAt_5068e_r1, w ∈ wsX10_keyAt := List.forall_mem_cons.mpr ⟨pm_X10_keyAt_r1 _ (List.mem_of_getElem? (i := 5) rfl), List.forall_mem_cons.mpr ⟨pm_X10_keyAt_r1 _ (List.mem_of_getElem? (i := 16) rfl), List.forall_mem_cons.mpr ⟨pm_X10_keyAt_r1 _ (List.mem_of_getElem? (i := 17) rfl), List.forall_mem_cons.mpr ⟨pm_X10_keyAt_r1 _ (List.mem_of_getElem? (i := 18) rfl), List.forall_mem_cons.mpr ⟨pm_X10_keyAt_r1 _ (List.mem_of_getElem? (i := 3) rfl), List.forall_mem_cons.mpr ⟨pm_X10_keyAt_r1 _ (List.mem_of_getElem? (i := 19) rfl), List.forall_mem_cons.mpr ⟨pm_X10_keyAt_r1 _ (List.mem_of_getElem? (i := 10) rfl), List.forall_mem_cons.mpr ⟨pm_X10_keyAt_r1 _ (List.mem_of_getElem? (i := 11) rfl), List.forall_mem_cons.mpr ⟨pm_X10_keyAt_r1 _ (List.mem_of_getElem? (i := 20) rfl), List.forall_mem_cons.mpr ⟨pm_X10_keyAt_r1 _ (List.mem_of_getElem? (i := 21) rfl), List.forall_mem_cons.mpr ⟨pm_X10_keyAt_r1 _ (List.mem_of_getElem? (i := 22) rfl), List.forall_mem_cons.mpr ⟨pm_X10_keyAt_r1 _ (List.mem_of_getElem? (i := 23) rfl), List.forall_mem_cons.mpr ⟨pm_X10_keyAt_r2 _ (List.mem_of_getElem? (i := 0) rfl), List.forall_mem_cons.mpr ⟨pm_X10_keyAt_r2 _ (List.mem_of_getElem? (i := 1) rfl), List.forall_mem_cons.mpr ⟨pm_X10_keyAt_r2 _ (List.mem_of_getElem? (i := 2) rfl), List.forall_mem_cons.mpr ⟨pm_X10_keyAt_r2 _ (List.mem_of_getElem? (i := 3) rfl), List.forall_mem_cons.mpr ⟨pm_X10_keyAt_r2 _ (List.mem_of_getElem? (i := 4) rfl), List.forall_mem_cons.mpr ⟨pm_X10_keyAt_r2 _ (List.mem_of_getElem? (i := 5) rfl), List.forall_mem_cons.mpr ⟨pm_X10_keyAt_r2 _ (List.mem_of_getElem? (i := 6) rfl), List.forall_mem_cons.mpr ⟨pm_X10_keyAt_r2 _ (List.mem_of_getElem? (i := 7) rfl), List.forall_mem_cons.mpr ⟨pm_X10_keyAt_r2 _ (List.mem_of_getElem? (i := 8) rfl), List.forall_mem_cons.mpr ⟨pm_X10_keyAt_r2 _ (List.mem_of_getElem? (i := 9) rfl), List.forall_mem_cons.mpr ⟨pm_X10_keyAt_r2 _ (List.mem_of_getElem? (i := 10) rfl), List.forall_mem_cons.mpr ⟨pm_X10_keyAt_r2 _ (List.mem_of_getElem? (i := 11) rfl), fun _ h => absurd h List.not_mem_nil⟩⟩⟩⟩⟩⟩⟩⟩⟩⟩⟩⟩⟩⟩⟩⟩⟩⟩⟩⟩⟩⟩⟩⟩
set_option maxRecDepth 20000 in
theorem pq_X10_keyAt_J0_charAt_5068e_r2 : ∀ w ∈ wsJ0_charAt_5068e_r2, w ∈ wsX10_keyAt := List.forall_mem_cons.mpr ⟨pm_X10_keyAt_r2 _ (List.mem_of_getElem? (i := 12) rfl), List.forall_mem_cons.mpr ⟨pm_X10_keyAt_r2 _ (List.mem_of_getElem? (i := 13) rfl), List.forall_mem_cons.mpr ⟨pm_X10_keyAt_r2 _ (List.mem_of_getElem? (i := 14) rfl), List.forall_mem_cons.mpr ⟨pm_X10_keyAt_r2 _ (List.mem_of_getElem? (i := 15) rfl), List.forall_mem_cons.mpr ⟨pm_X10_keyAt_r2 _ (List.mem_of_getElem? (i := 16) rfl), List.forall_mem_cons.mpr ⟨pm_X10_keyAt_r2 _ (List.mem_of_getElem? (i := 17) rfl), List.forall_mem_cons.mpr ⟨pm_X10_keyAt_r2 _ (List.mem_of_getElem? (i := 18) rfl), List.forall_mem_cons.mpr ⟨pm_X10_keyAt_r2 _ (List.mem_of_getElem? (i := 19) rfl), List.forall_mem_cons.mpr ⟨pm_X10_keyAt_r2 _ (List.mem_of_getElem? (i := 20) rfl), List.forall_mem_cons.mpr ⟨pm_X10_keyAt_r2 _ (List.mem_of_getElem? (i := 21) rfl), List.forall_mem_cons.mpr ⟨pm_X10_keyAt_r2 _ (List.mem_of_getElem? (i := 22) rfl), List.forall_mem_cons.mpr ⟨pm_X10_keyAt_r2 _ (List.mem_of_getElem? (i := 23) rfl), List.forall_mem_cons.mpr ⟨pm_X10_keyAt_r3 _ (List.mem_of_getElem? (i := 0) rfl), fun _ h => absurd h List.not_mem_nil⟩⟩⟩⟩⟩⟩⟩⟩⟩⟩⟩⟩⟩
set_option maxRecDepth 20000 in
theorem ggX10_keyAt_J0_charAt_5068e : GoodIn wsX10_keyAt wsJ0_charAt_5068e := goodIn_sub (List.forall_mem_cons.mpr ⟨pm_X10_keyAt_r1 _ (List.mem_of_getElem? (i := 15) rfl), List.forall_mem_append.mpr ⟨pq_X10_keyAt_J0_charAt_5068e_r1, pq_X10_keyAt_J0_charAt_5068e_r2⟩⟩) (by decide +kernel)
set_option maxRecDepth 20000 in
theorem gX10_keyAt_J0_charAt_5068e : GoodIn wsX10_keyAt (wsV RX10 126 RJ0 yJ0_charAt_5068e wsJ0_charAt_5068e) := goodIn_app (goodIn_of _ (by decide +kernel)) ggX10_keyAt_J0_charAt_5068e
set_option maxRecDepth 20000 in
theorem ggX10_keyAt_X10_byteAt : GoodIn wsX10_keyAt wsX10_byteAt := goodIn_sub (List.forall_mem_cons.mpr ⟨pm_X10_keyAt_r3 _ (List.mem_of_getElem? (i := 5) rfl), List.forall_mem_append.mpr ⟨List.forall_mem_cons.mpr ⟨pm_X10_keyAt_r3 _ (List.mem_of_getElem? (i := 6) rfl), List.forall_mem_cons.mpr ⟨pm_X10_keyAt_r3 _ (List.mem_of_getElem? (i := 7) rfl), fun _ h => absurd h List.not_mem_nil⟩⟩, pw_X10_keyAt_X10⟩⟩) (by decide +kernel)
set_option maxRecDepth 20000 in
theorem gX10_keyAt_X10_byteAt : GoodIn wsX10_keyAt (wsV RX10 130 RX10 yX10_byteAt wsX10_byteAt) := goodIn_app (goodIn_of _ (by decide +kernel)) ggX10_keyAt_X10_byteAt
theorem dX10_keyAt_0 : decode cX10_keyAt 0 = .ok (.iconst 0, 1) := by decide +kernel
theorem dX10_keyAt_1 : decode cX10_keyAt 1 = .ok (.istore_n 3, 1) := by decide +kernel
theorem dX10_keyAt_2 : decode cX10_keyAt 2 = .ok (.iconst 0, 1) := by decide +kernel
theorem dX10_keyAt_3 : decode cX10_keyAt 3 = .ok (.istore 4, 2) := by decide +kernel
theorem dX10_keyAt_5 : decode cX10_keyAt 5 = .ok (.iconst 0, 1) := by decide +kernel
theorem dX10_keyAt_6 : decode cX10_keyAt 6 = .ok (.istore 5, 2) := by decide +kernel
theorem dX10_keyAt_8 : decode cX10_keyAt 8 = .ok (.iload 5, 2) := by decide +kernel
theorem dX10_keyAt_10 : decode cX10_keyAt 10 = .ok (.ldc 118, 2) := by decide +kernel
theorem dX10_keyAt_12 : decode cX10_keyAt 12 = .ok (.invokevirtual 120, 3) := by decide +kernel
theorem dX10_keyAt_15 : decode cX10_keyAt 15 = .ok (.if_icmp .ge 104, 3) := by decide +kernel
theorem dX10_keyAt_18 : decode cX10_keyAt 18 = .ok (.ldc 118, 2) := by decide +kernel
theorem dX10_keyAt_20 : decode cX10_keyAt 20 = .ok (.iload 5, 2) := by decide +kernel
theorem dX10_keyAt_22 : decode cX10_keyAt 22 = .ok (.invokevirtual 126, 3) := by decide +kernel
theorem dX10_keyAt_25 : decode cX10_keyAt 25 = .ok (.bipush 32, 2) := by decide +kernel
theorem dX10_keyAt_27 : decode cX10_keyAt 27 = .ok (.if_icmp .eq 6, 3) := by decide +kernel
theorem dX10_keyAt_30 : decode cX10_keyAt 30 = .ok (.goto 83, 3) := by decide +kernel
theorem dX10_keyAt_33 : decode cX10_keyAt 33 = .ok (.iload 5, 2) := by decide +kernel
theorem dX10_keyAt_35 : decode cX10_keyAt 35 = .ok (.iload 4, 2) := by decide +kernel
theorem dX10_keyAt_37 : decode cX10_keyAt 37 = .ok (.isub, 1) := by decide +kernel
theorem dX10_keyAt_38 : decode cX10_keyAt 38 = .ok (.iload_n 2, 1) := by decide +kernel
theorem dX10_keyAt_39 : decode cX10_keyAt 39 = .ok (.if_icmp .ne 7, 3) := by decide +kernel
theorem dX10_keyAt_42 : decode cX10_keyAt 42 = .ok (.iconst 1, 1) := by decide +kernel
theorem dX10_keyAt_43 : decode cX10_keyAt 43 = .ok (.goto 4, 3) := by decide +kernel
theorem dX10_keyAt_46 : decode cX10_keyAt 46 = .ok (.iconst 0, 1) := by decide +kernel
theorem dX10_keyAt_47 : decode cX10_keyAt 47 = .ok (.istore 6, 2) := by decide +kernel
theorem dX10_keyAt_49 : decode cX10_keyAt 49 = .ok (.iconst 0, 1) := by decide +kernel
theorem dX10_keyAt_50 : decode cX10_keyAt 50 = .ok (.istore 7, 2) := by decide +kernel
theorem dX10_keyAt_52 : decode cX10_keyAt 52 = .ok (.iload 7, 2) := by decide +kernel
theorem dX10_keyAt_54 : decode cX10_keyAt 54 = .ok (.iload_n 2, 1) := by decide +kernel
theorem dX10_keyAt_55 : decode cX10_keyAt 55 = .ok (.if_icmp .ge 42, 3) := by decide +kernel
theorem dX10_keyAt_58 : decode cX10_keyAt 58 = .ok (.iload 6, 2) := by decide +kernel
theorem dX10_keyAt_60 : decode cX10_keyAt 60 = .ok (.ifCond .eq 37, 3) := by decide +kernel
theorem dX10_keyAt_63 : decode cX10_keyAt 63 = .ok (.ldc 118, 2) := by decide +kernel
theorem dX10_keyAt_65 : decode cX10_keyAt 65 = .ok (.iload 4, 2) := by decide +kernel
theorem dX10_keyAt_67 : decode cX10_keyAt 67 = .ok (.iload 7, 2) := by decide +kernel
theorem dX10_keyAt_69 : decode cX10_keyAt 69 = .ok (.iadd, 1) := by decide +kernel
theorem dX10_keyAt_70 : decode cX10_keyAt 70 = .ok (.invokevirtual 126, 3) := by decide +kernel
theorem dX10_keyAt_73 : decode cX10_keyAt 73 = .ok (.aload_n 0, 1) := by decide +kernel
theorem dX10_keyAt_74 : decode cX10_keyAt 74 = .ok (.iload_n 1, 1) := by decide +kernel
theorem dX10_keyAt_75 : decode cX10_keyAt 75 = .ok (.iload 7, 2) := by decide +kernel
theorem dX10_keyAt_77 : decode cX10_keyAt 77 = .ok (.iadd, 1) := by decide +kernel
theorem dX10_keyAt_78 : decode cX10_keyAt 78 = .ok (.invokevirtual 130, 3) := by decide +kernel
theorem dX10_keyAt_81 : decode cX10_keyAt 81 = .ok (.if_icmp .ne 7, 3) := by decide +kernel
theorem dX10_keyAt_84 : decode cX10_keyAt 84 = .ok (.iconst 1, 1) := by decide +kernel
theorem dX10_keyAt_85 : decode cX10_keyAt 85 = .ok (.goto 4, 3) := by decide +kernel
theorem dX10_keyAt_88 : decode cX10_keyAt 88 = .ok (.iconst 0, 1) := by decide +kernel
theorem dX10_keyAt_89 : decode cX10_keyAt 89 = .ok (.istore 6, 2) := by decide +kernel
theorem dX10_keyAt_91 : decode cX10_keyAt 91 = .ok (.iinc 7 1, 3) := by decide +kernel
theorem dX10_keyAt_94 : decode cX10_keyAt 94 = .ok (.goto (-42), 3) := by decide +kernel
theorem dX10_keyAt_97 : decode cX10_keyAt 97 = .ok (.iload 6, 2) := by decide +kernel
theorem dX10_keyAt_99 : decode cX10_keyAt 99 = .ok (.ifCond .eq 5, 3) := by decide +kernel
theorem dX10_keyAt_102 : decode cX10_keyAt 102 = .ok (.iload_n 3, 1) := by decide +kernel
theorem dX10_keyAt_103 : decode cX10_keyAt 103 = .ok (.ireturn, 1) := by decide +kernel
theorem dX10_keyAt_104 : decode cX10_keyAt 104 = .ok (.iinc 3 1, 3) := by decide +kernel
theorem dX10_keyAt_107 : decode cX10_keyAt 107 = .ok (.iload 5, 2) := by decide +kernel
theorem dX10_keyAt_109 : decode cX10_keyAt 109 = .ok (.iconst 1, 1) := by decide +kernel
theorem dX10_keyAt_110 : decode cX10_keyAt 110 = .ok (.iadd, 1) := by decide +kernel
theorem dX10_keyAt_111 : decode cX10_keyAt 111 = .ok (.istore 4, 2) := by decide +kernel
theorem dX10_keyAt_113 : decode cX10_keyAt 113 = .ok (.iinc 5 1, 3) := by decide +kernel
theorem dX10_keyAt_116 : decode cX10_keyAt 116 = .ok (.goto (-108), 3) := by decide +kernel
theorem dX10_keyAt_119 : decode cX10_keyAt 119 = .ok (.iconst (-1), 1) := by decide +kernel
theorem dX10_keyAt_120 : decode cX10_keyAt 120 = .ok (.ireturn, 1) := by decide +kernel
theorem pm_X10_scan_r1 : ∀ w ∈ wsX10_scan_r1, w ∈ wsX10_scan := fun _ h => List.mem_cons_of_mem _ (List.mem_append_left _ (List.mem_append_left _ h))
theorem pm_X10_scan_r2 : ∀ w ∈ wsX10_scan_r2, w ∈ wsX10_scan := fun _ h => List.mem_cons_of_mem _ (List.mem_append_left _ (List.mem_append_right _ (List.mem_append_left _ h)))
theorem pm_X10_scan_r3 : ∀ w ∈ wsX10_scan_r3, w ∈ wsX10_scan := fun _ h => List.mem_cons_of_mem _ (List.mem_append_left _ (List.mem_append_right _ (List.mem_append_right _ (List.mem_append_left _ h))))
theorem pm_X10_scan_r4 : ∀ w ∈ wsX10_scan_r4, w ∈ wsX10_scan := fun _ h => List.mem_cons_of_mem _ (List.mem_append_left _ (List.mem_append_right _ (List.mem_append_right _ (List.mem_append_right _ (h)))))
theorem pw_X10_scan_X10 : ∀ w ∈ wsX100, w ∈ wsX10_scan := fun _ h => List.mem_cons_of_mem _ (List.mem_append_right _ h)
set_option maxRecDepth 20000 in
theorem ggX10_scan_X10_byteAt : GoodIn wsX10_scan wsX10_byteAt := goodIn_sub (List.forall_mem_cons.mpr ⟨pm_X10_scan_r1 _ (List.mem_of_getElem? (i := 12) rfl), List.forall_mem_append.mpr ⟨List.forall_mem_cons.mpr ⟨pm_X10_scan_r1 _ (List.mem_of_getElem? (i := 13) rfl), List.forall_mem_cons.mpr ⟨pm_X10_scan_r1 _ (List.mem_of_getElem? (i := 14) rfl), fun _ h => absurd h List.not_mem_nil⟩⟩, pw_X10_scan_X10⟩⟩) (by decide +kernel)
set_option maxRecDepth 20000 in
theorem gX10_scan_X10_byteAt : GoodIn wsX10_scan (wsV RX10 130 RX10 yX10_byteAt wsX10_byteAt) := goodIn_app (goodIn_of _ (by decide +kernel)) ggX10_scan_X10_byteAt
set_option maxRecDepth 20000 in
theorem ggX10_scan_X10_isSmall : GoodIn wsX10_scan wsX10_isSmall := goodIn_sub (List.forall_mem_cons.mpr ⟨pm_X10_scan_r1 _ (List.mem_of_getElem? (i := 17) rfl), fun _ h => absurd h List.not_mem_nil⟩) (by decide +kernel)
set_option maxRecDepth 20000 in
theorem gX10_scan_X10_isSmall : GoodIn wsX10_scan (va_wsS RX10 146 yX10_isSmall wsX10_isSmall) := goodIn_app (goodIn_of _ (by decide +kernel)) ggX10_scan_X10_isSmall
set_option maxRecDepth 20000 in
theorem pq_X10_scan_X10_keyAt_r1 : ∀ w ∈ wsX10_keyAt_r1, w ∈ wsX10_scan := List.forall_mem_cons.mpr ⟨pm_X10_scan_r1 _ (List.mem_of_getElem? (i := 22) rfl), List.forall_mem_cons.mpr ⟨pm_X10_scan_r1 _ (List.mem_of_getElem? (i := 23) rfl), List.forall_mem_cons.mpr ⟨pm_X10_scan_r2 _ (List.mem_of_getElem? (i := 0) rfl), List.forall_mem_cons.mpr ⟨pm_X10_scan_r2 _ (List.mem_of_getElem? (i := 1) rfl), List.forall_mem_cons.mpr ⟨pm_X10_scan_r2 _ (List.mem_of_getElem? (i := 2) rfl), List.forall_mem_cons.mpr ⟨pm_X10_scan_r2 _ (List.mem_of_getElem? (i := 3) rfl), List.forall_mem_cons.mpr ⟨pm_X10_scan_r2 _ (List.mem_of_getElem? (i := 4) rfl), List.forall_mem_cons.mpr ⟨pm_X10_scan_r2 _ (List.mem_of_getElem? (i := 5) rfl), List.forall_mem_cons.mpr ⟨pm_X10_scan_r2 _ (List.mem_of_getElem? (i := 6) rfl), List.forall_mem_cons.mpr ⟨pm_X10_scan_r2 _ (List.mem_of_getElem? (i := 7) rfl), List.forall_mem_cons.mpr ⟨pm_X10_scan_r2 _ (List.mem_of_getElem? (i := 8) rfl), List.forall_mem_cons.mpr ⟨pm_X10_scan_r2 _ (List.mem_of_getElem? (i := 9) rfl), List.forall_mem_cons.mpr ⟨pm_X10_scan_r2 _ (List.mem_of_getElem? (i := 10) rfl), List.forall_mem_cons.mpr ⟨pm_X10_scan_r2 _ (List.mem_of_getElem? (i := 11) rfl), List.forall_mem_cons.mpr ⟨pm_X10_scan_r2 _ (List.mem_of_getElem? (i := 12) rfl), List.forall_mem_cons.mpr ⟨pm_X10_scan_r2 _ (List.mem_of_getElem? (i := 13) rfl), List.forall_mem_cons.mpr ⟨pm_X10_scan_r2 _ (List.mem_of_getElem? (i := 14) rfl), List.forall_mem_cons.mpr ⟨pm_X10_scan_r2 _ (List.mem_of_getElem? (i := 15) rfl), List.forall_mem_cons.mpr ⟨pm_X10_scan_r2 _ (List.mem_of_getElem? (i := 16) rfl), List.forall_mem_cons.mpr ⟨pm_X10_scan_r2 _ (List.mem_of_getElem? (i := 17) rfl), List.forall_mem_cons.mpr ⟨pm_X10_scan_r2 _ (List.mem_of_getElem? (i := 18) rfl), List.forall_mem_cons.mpr ⟨pm_X10_scan_r2 _ (List.mem_of_getElem? (i := 19) rfl), List.forall_mem_cons.mpr ⟨pm_X10_scan_r2 _ (List.mem_of_getElem? (i := 20) rfl), List.forall_mem_cons.mpr ⟨pm_X10_scan_r2 _ (List.mem_of_getElem? (i := 21) rfl), fun _ h => absurd h List.not_mem_nil⟩⟩⟩⟩⟩⟩⟩⟩⟩⟩⟩⟩⟩⟩⟩⟩⟩⟩⟩⟩⟩⟩⟩⟩
set_option maxRecDepth 20000 in
theorem pq_X10_scan_X10_keyAt_r2 : ∀ w ∈ wsX10_keyAt_r2, w ∈ wsX10_scan := List.forall_mem_cons.mpr ⟨pm_X10_scan_r2 _ (List.mem_of_getElem? (i := 22) rfl), List.forall_mem_cons.mpr ⟨pm_X10_scan_r2 _ (List.mem_of_getElem? (i := 23) rfl), List.forall_mem_cons.mpr ⟨pm_X10_scan_r3 _ (List.mem_of_getElem? (i := 0) rfl), List.forall_mem_cons.mpr ⟨pm_X10_scan_r3 _ (List.mem_of_getElem? (i := 1) rfl), List.forall_mem_cons.mpr ⟨pm_X10_scan_r3 _ (List.mem_of_getElem? (i := 2) rfl), List.forall_mem_cons.mpr ⟨pm_X10_scan_r3 _ (List.mem_of_getElem? (i := 3) rfl), List.forall_mem_cons.mpr ⟨pm_X10_scan_r3 _ (List.mem_of_getElem? (i := 4) rfl), List.forall_mem_cons.mpr ⟨pm_X10_scan_r3 _ (List.mem_of_getElem? (i := 5) rfl), List.forall_mem_cons.mpr ⟨pm_X10_scan_r3 _ (List.mem_of_getElem? (i := 6) rfl), List.forall_mem_cons.mpr ⟨pm_X10_scan_r3 _ (List.mem_of_getElem? (i := 7) rfl), List.forall_mem_cons.mpr ⟨pm_X10_scan_r3 _ (List.mem_of_getElem? (i := 8) rfl), List.forall_mem_cons.mpr ⟨pm_X10_scan_r3 _ (List.mem_of_getElem? (i := 9) rfl), List.forall_mem_cons.mpr ⟨pm_X10_scan_r3 _ (List.mem_of_getElem? (i := 10) rfl), List.forall_mem_cons.mpr ⟨pm_X10_scan_r3 _ (List.mem_of_getElem? (i := 11) rfl), List.forall_mem_cons.mpr ⟨pm_X10_scan_r3 _ (List.mem_of_getElem? (i := 12) rfl), List.forall_mem_cons.mpr ⟨pm_X10_scan_r3 _ (List.mem_of_getElem? (i := 13) rfl), List.forall_mem_cons.mpr ⟨pm_X10_scan_r3 _ (List.mem_of_getElem? (i := 14) rfl), List.forall_mem_cons.mpr ⟨pm_X10_scan_r3 _ (List.mem_of_getElem? (i := 15) rfl), List.forall_mem_cons.mpr ⟨pm_X10_scan_r3 _ (List.mem_of_getElem? (i := 16) rfl), List.forall_mem_cons.mpr ⟨pm_X10_scan_r3 _ (List.mem_of_getElem? (i := 17) rfl), List.forall_mem_cons.mpr ⟨pm_X10_scan_r3 _ (List.mem_of_getElem? (i := 18) rfl), List.forall_mem_cons.mpr ⟨pm_X10_scan_r3 _ (List.mem_of_getElem? (i := 19) rfl), List.forall_mem_cons.mpr ⟨pm_X10_scan_r3 _ (List.mem_of_getElem? (i := 20) rfl), List.forall_mem_cons.mpr ⟨pm_X10_scan_r3 _ (List.mem_of_getElem? (i := 21) rfl), fun _ h => absurd h List.not_mem_nil⟩⟩⟩⟩⟩⟩⟩⟩⟩⟩⟩⟩⟩⟩⟩⟩⟩⟩⟩⟩⟩⟩⟩⟩
set_option maxRecDepth 20000 in
theorem pq_X10_scan_X10_keyAt_r3 : ∀ w ∈ wsX10_keyAt_r3, w ∈ wsX10_scan := List.forall_mem_cons.mpr ⟨pm_X10_scan_r3 _ (List.mem_of_getElem? (i := 22) rfl), List.forall_mem_cons.mpr ⟨pm_X10_scan_r1 _ (List.mem_of_getElem? (i := 8) rfl), List.forall_mem_cons.mpr ⟨pm_X10_scan_r1 _ (List.mem_of_getElem? (i := 9) rfl), List.forall_mem_cons.mpr ⟨pm_X10_scan_r1 _ (List.mem_of_getElem? (i := 10) rfl), List.forall_mem_cons.mpr ⟨pm_X10_scan_r1 _ (List.mem_of_getElem? (i := 11) rfl), List.forall_mem_cons.mpr ⟨pm_X10_scan_r1 _ (List.mem_of_getElem? (i := 12) rfl), List.forall_mem_cons.mpr ⟨pm_X10_scan_r1 _ (List.mem_of_getElem? (i := 13) rfl), List.forall_mem_cons.mpr ⟨pm_X10_scan_r1 _ (List.mem_of_getElem? (i := 14) rfl), fun _ h => absurd h List.not_mem_nil⟩⟩⟩⟩⟩⟩⟩⟩
set_option maxRecDepth 20000 in
theorem ggX10_scan_X10_keyAt : GoodIn wsX10_scan wsX10_keyAt := goodIn_sub (List.forall_mem_cons.mpr ⟨pm_X10_scan_r1 _ (List.mem_of_getElem? (i := 21) rfl), List.forall_mem_append.mpr ⟨List.forall_mem_append.mpr ⟨pq_X10_scan_X10_keyAt_r1, List.forall_mem_append.mpr ⟨pq_X10_scan_X10_keyAt_r2, pq_X10_scan_X10_keyAt_r3⟩⟩, pw_X10_scan_X10⟩⟩) (by decide +kernel)
set_option maxRecDepth 20000 in
theorem gX10_scan_X10_keyAt : GoodIn wsX10_scan (wsV RX10 158 RX10 yX10_keyAt wsX10_keyAt) := goodIn_app (goodIn_of _ (by decide +kernel)) ggX10_scan_X10_keyAt
set_option maxRecDepth 20000 in
theorem ggX10_scan_X10_isDigit : GoodIn wsX10_scan wsX10_isDigit := goodIn_sub (List.forall_mem_cons.mpr ⟨pm_X10_scan_r4 _ (List.mem_of_getElem? (i := 1) rfl), fun _ h => absurd h List.not_mem_nil⟩) (by decide +kernel)
set_option maxRecDepth 20000 in
theorem gX10_scan_X10_isDigit : GoodIn wsX10_scan (va_wsS RX10 162 yX10_isDigit wsX10_isDigit) := goodIn_app (goodIn_of _ (by decide +kernel)) ggX10_scan_X10_isDigit
theorem dX10_scan_0 : decode cX10_scan 0 = .ok (.aload_n 0, 1) := by decide +kernel
theorem dX10_scan_1 : decode cX10_scan 1 = .ok (.getfield 134, 3) := by decide +kernel
theorem dX10_scan_4 : decode cX10_scan 4 = .ok (.istore_n 1, 1) := by decide +kernel
theorem dX10_scan_5 : decode cX10_scan 5 = .ok (.aload_n 0, 1) := by decide +kernel
theorem dX10_scan_6 : decode cX10_scan 6 = .ok (.iload_n 1, 1) := by decide +kernel
theorem dX10_scan_7 : decode cX10_scan 7 = .ok (.invokevirtual 130, 3) := by decide +kernel
theorem dX10_scan_10 : decode cX10_scan 10 = .ok (.bipush 32, 2) := by decide +kernel
theorem dX10_scan_12 : decode cX10_scan 12 = .ok (.if_icmp .eq 13, 3) := by decide +kernel
theorem dX10_scan_15 : decode cX10_scan 15 = .ok (.aload_n 0, 1) := by decide +kernel
theorem dX10_scan_16 : decode cX10_scan 16 = .ok (.iload_n 1, 1) := by decide +kernel
theorem dX10_scan_17 : decode cX10_scan 17 = .ok (.invokevirtual 130, 3) := by decide +kernel
theorem dX10_scan_20 : decode cX10_scan 20 = .ok (.bipush 10, 2) := by decide +kernel
theorem dX10_scan_22 : decode cX10_scan 22 = .ok (.if_icmp .ne 9, 3) := by decide +kernel
theorem dX10_scan_25 : decode cX10_scan 25 = .ok (.iinc 1 1, 3) := by decide +kernel
theorem dX10_scan_28 : decode cX10_scan 28 = .ok (.goto (-23), 3) := by decide +kernel
theorem dX10_scan_31 : decode cX10_scan 31 = .ok (.aload_n 0, 1) := by decide +kernel
theorem dX10_scan_32 : decode cX10_scan 32 = .ok (.iload_n 1, 1) := by decide +kernel
theorem dX10_scan_33 : decode cX10_scan 33 = .ok (.putfield 137, 3) := by decide +kernel
theorem dX10_scan_36 : decode cX10_scan 36 = .ok (.aload_n 0, 1) := by decide +kernel
theorem dX10_scan_37 : decode cX10_scan 37 = .ok (.iload_n 1, 1) := by decide +kernel
theorem dX10_scan_38 : decode cX10_scan 38 = .ok (.invokevirtual 130, 3) := by decide +kernel
theorem dX10_scan_41 : decode cX10_scan 41 = .ok (.istore_n 2, 1) := by decide +kernel
theorem dX10_scan_42 : decode cX10_scan 42 = .ok (.iload_n 1, 1) := by decide +kernel
theorem dX10_scan_43 : decode cX10_scan 43 = .ok (.iconst 1, 1) := by decide +kernel
theorem dX10_scan_44 : decode cX10_scan 44 = .ok (.iadd, 1) := by decide +kernel
theorem dX10_scan_45 : decode cX10_scan 45 = .ok (.istore_n 3, 1) := by decide +kernel
theorem dX10_scan_46 : decode cX10_scan 46 = .ok (.aload_n 0, 1) := by decide +kernel
theorem dX10_scan_47 : decode cX10_scan 47 = .ok (.iconst (-1), 1) := by decide +kernel
theorem dX10_scan_48 : decode cX10_scan 48 = .ok (.putfield 140, 3) := by decide +kernel
theorem dX10_scan_51 : decode cX10_scan 51 = .ok (.iload_n 2, 1) := by decide +kernel
theorem dX10_scan_52 : decode cX10_scan 52 = .ok (.iconst (-1), 1) := by decide +kernel
theorem dX10_scan_53 : decode cX10_scan 53 = .ok (.if_icmp .ne 13, 3) := by decide +kernel
theorem dX10_scan_56 : decode cX10_scan 56 = .ok (.aload_n 0, 1) := by decide +kernel
theorem dX10_scan_57 : decode cX10_scan 57 = .ok (.iconst 4, 1) := by decide +kernel
theorem dX10_scan_58 : decode cX10_scan 58 = .ok (.putfield 143, 3) := by decide +kernel
theorem dX10_scan_61 : decode cX10_scan 61 = .ok (.iload_n 1, 1) := by decide +kernel
theorem dX10_scan_62 : decode cX10_scan 62 = .ok (.istore_n 3, 1) := by decide +kernel
theorem dX10_scan_63 : decode cX10_scan 63 = .ok (.goto 207, 3) := by decide +kernel
theorem dX10_scan_66 : decode cX10_scan 66 = .ok (.iload_n 2, 1) := by decide +kernel
theorem dX10_scan_67 : decode cX10_scan 67 = .ok (.invokestatic 146, 3) := by decide +kernel
theorem dX10_scan_70 : decode cX10_scan 70 = .ok (.ifCond .eq 100, 3) := by decide +kernel
theorem dX10_scan_73 : decode cX10_scan 73 = .ok (.aload_n 0, 1) := by decide +kernel
theorem dX10_scan_74 : decode cX10_scan 74 = .ok (.lconst 0, 1) := by decide +kernel
theorem dX10_scan_75 : decode cX10_scan 75 = .ok (.putfield 150, 3) := by decide +kernel
theorem dX10_scan_78 : decode cX10_scan 78 = .ok (.iload_n 1, 1) := by decide +kernel
theorem dX10_scan_79 : decode cX10_scan 79 = .ok (.istore_n 3, 1) := by decide +kernel
theorem dX10_scan_80 : decode cX10_scan 80 = .ok (.aload_n 0, 1) := by decide +kernel
theorem dX10_scan_81 : decode cX10_scan 81 = .ok (.iload_n 3, 1) := by decide +kernel
theorem dX10_scan_82 : decode cX10_scan 82 = .ok (.invokevirtual 130, 3) := by decide +kernel
theorem dX10_scan_85 : decode cX10_scan 85 = .ok (.invokestatic 146, 3) := by decide +kernel
theorem dX10_scan_88 : decode cX10_scan 88 = .ok (.ifCond .eq 42, 3) := by decide +kernel
theorem dX10_scan_91 : decode cX10_scan 91 = .ok (.iload_n 3, 1) := by decide +kernel
theorem dX10_scan_92 : decode cX10_scan 92 = .ok (.iload_n 1, 1) := by decide +kernel
theorem dX10_scan_93 : decode cX10_scan 93 = .ok (.isub, 1) := by decide +kernel
theorem dX10_scan_94 : decode cX10_scan 94 = .ok (.bipush 8, 2) := by decide +kernel
theorem dX10_scan_96 : decode cX10_scan 96 = .ok (.if_icmp .ge 28, 3) := by decide +kernel
theorem dX10_scan_99 : decode cX10_scan 99 = .ok (.aload_n 0, 1) := by decide +kernel
theorem dX10_scan_100 : decode cX10_scan 100 = .ok (.ldc2_w 154, 3) := by decide +kernel
theorem dX10_scan_103 : decode cX10_scan 103 = .ok (.aload_n 0, 1) := by decide +kernel
theorem dX10_scan_104 : decode cX10_scan 104 = .ok (.getfield 150, 3) := by decide +kernel
theorem dX10_scan_107 : decode cX10_scan 107 = .ok (.lmul, 1) := by decide +kernel
theorem dX10_scan_108 : decode cX10_scan 108 = .ok (.aload_n 0, 1) := by decide +kernel
theorem dX10_scan_109 : decode cX10_scan 109 = .ok (.iload_n 3, 1) := by decide +kernel
theorem dX10_scan_110 : decode cX10_scan 110 = .ok (.invokevirtual 130, 3) := by decide +kernel
theorem dX10_scan_113 : decode cX10_scan 113 = .ok (.i2l, 1) := by decide +kernel
theorem dX10_scan_114 : decode cX10_scan 114 = .ok (.ladd, 1) := by decide +kernel
theorem dX10_scan_115 : decode cX10_scan 115 = .ok (.ldc2_w 156, 3) := by decide +kernel
theorem dX10_scan_118 : decode cX10_scan 118 = .ok (.lsub, 1) := by decide +kernel
theorem dX10_scan_119 : decode cX10_scan 119 = .ok (.lconst 1, 1) := by decide +kernel
theorem dX10_scan_120 : decode cX10_scan 120 = .ok (.ladd, 1) := by decide +kernel
theorem dX10_scan_121 : decode cX10_scan 121 = .ok (.putfield 150, 3) := by decide +kernel
theorem dX10_scan_124 : decode cX10_scan 124 = .ok (.iinc 3 1, 3) := by decide +kernel
theorem dX10_scan_127 : decode cX10_scan 127 = .ok (.goto (-47), 3) := by decide +kernel
theorem dX10_scan_130 : decode cX10_scan 130 = .ok (.aload_n 0, 1) := by decide +kernel
theorem dX10_scan_131 : decode cX10_scan 131 = .ok (.iload_n 3, 1) := by decide +kernel
theorem dX10_scan_132 : decode cX10_scan 132 = .ok (.iload_n 1, 1) := by decide +kernel
theorem dX10_scan_133 : decode cX10_scan 133 = .ok (.isub, 1) := by decide +kernel
theorem dX10_scan_134 : decode cX10_scan 134 = .ok (.bipush 8, 2) := by decide +kernel
theorem dX10_scan_136 : decode cX10_scan 136 = .ok (.if_icmp .le 7, 3) := by decide +kernel
theorem dX10_scan_139 : decode cX10_scan 139 = .ok (.iconst 0, 1) := by decide +kernel
theorem dX10_scan_140 : decode cX10_scan 140 = .ok (.goto 4, 3) := by decide +kernel
theorem dX10_scan_143 : decode cX10_scan 143 = .ok (.iconst 1, 1) := by decide +kernel
theorem dX10_scan_144 : decode cX10_scan 144 = .ok (.putfield 143, 3) := by decide +kernel
theorem dX10_scan_147 : decode cX10_scan 147 = .ok (.aload_n 0, 1) := by decide +kernel
theorem dX10_scan_148 : decode cX10_scan 148 = .ok (.getfield 143, 3) := by decide +kernel
theorem dX10_scan_151 : decode cX10_scan 151 = .ok (.iconst 1, 1) := by decide +kernel
theorem dX10_scan_152 : decode cX10_scan 152 = .ok (.if_icmp .ne 118, 3) := by decide +kernel
theorem dX10_scan_155 : decode cX10_scan 155 = .ok (.aload_n 0, 1) := by decide +kernel
theorem dX10_scan_156 : decode cX10_scan 156 = .ok (.aload_n 0, 1) := by decide +kernel
theorem dX10_scan_157 : decode cX10_scan 157 = .ok (.iload_n 1, 1) := by decide +kernel
theorem dX10_scan_158 : decode cX10_scan 158 = .ok (.iload_n 3, 1) := by decide +kernel
theorem dX10_scan_159 : decode cX10_scan 159 = .ok (.iload_n 1, 1) := by decide +kernel
theorem dX10_scan_160 : decode cX10_scan 160 = .ok (.isub, 1) := by decide +kernel
theorem dX10_scan_161 : decode cX10_scan 161 = .ok (.invokevirtual 158, 3) := by decide +kernel
theorem dX10_scan_164 : decode cX10_scan 164 = .ok (.putfield 140, 3) := by decide +kernel
theorem dX10_scan_167 : decode cX10_scan 167 = .ok (.goto 103, 3) := by decide +kernel
theorem dX10_scan_170 : decode cX10_scan 170 = .ok (.iload_n 2, 1) := by decide +kernel
theorem dX10_scan_171 : decode cX10_scan 171 = .ok (.invokestatic 162, 3) := by decide +kernel
theorem dX10_scan_174 : decode cX10_scan 174 = .ok (.ifCond .eq 81, 3) := by decide +kernel
theorem dX10_scan_177 : decode cX10_scan 177 = .ok (.aload_n 0, 1) := by decide +kernel
theorem dX10_scan_178 : decode cX10_scan 178 = .ok (.iload_n 2, 1) := by decide +kernel
theorem dX10_scan_179 : decode cX10_scan 179 = .ok (.bipush 48, 2) := by decide +kernel
theorem dX10_scan_181 : decode cX10_scan 181 = .ok (.isub, 1) := by decide +kernel
theorem dX10_scan_182 : decode cX10_scan 182 = .ok (.putfield 165, 3) := by decide +kernel
theorem dX10_scan_185 : decode cX10_scan 185 = .ok (.aload_n 0, 1) := by decide +kernel
theorem dX10_scan_186 : decode cX10_scan 186 = .ok (.iload_n 3, 1) := by decide +kernel
theorem dX10_scan_187 : decode cX10_scan 187 = .ok (.invokevirtual 130, 3) := by decide +kernel
theorem dX10_scan_190 : decode cX10_scan 190 = .ok (.invokestatic 162, 3) := by decide +kernel
theorem dX10_scan_193 : decode cX10_scan 193 = .ok (.ifCond .eq 43, 3) := by decide +kernel
theorem dX10_scan_196 : decode cX10_scan 196 = .ok (.aload_n 0, 1) := by decide +kernel
theorem dX10_scan_197 : decode cX10_scan 197 = .ok (.iload_n 3, 1) := by decide +kernel
theorem dX10_scan_198 : decode cX10_scan 198 = .ok (.iload_n 1, 1) := by decide +kernel
theorem dX10_scan_199 : decode cX10_scan 199 = .ok (.isub, 1) := by decide +kernel
theorem dX10_scan_200 : decode cX10_scan 200 = .ok (.iconst 4, 1) := by decide +kernel
theorem dX10_scan_201 : decode cX10_scan 201 = .ok (.if_icmp .ge 22, 3) := by decide +kernel
theorem dX10_scan_204 : decode cX10_scan 204 = .ok (.bipush 10, 2) := by decide +kernel
theorem dX10_scan_206 : decode cX10_scan 206 = .ok (.aload_n 0, 1) := by decide +kernel
theorem dX10_scan_207 : decode cX10_scan 207 = .ok (.getfield 165, 3) := by decide +kernel
theorem dX10_scan_210 : decode cX10_scan 210 = .ok (.imul, 1) := by decide +kernel
theorem dX10_scan_211 : decode cX10_scan 211 = .ok (.aload_n 0, 1) := by decide +kernel
theorem dX10_scan_212 : decode cX10_scan 212 = .ok (.iload_n 3, 1) := by decide +kernel
theorem dX10_scan_213 : decode cX10_scan 213 = .ok (.invokevirtual 130, 3) := by decide +kernel
theorem dX10_scan_216 : decode cX10_scan 216 = .ok (.iadd, 1) := by decide +kernel
theorem dX10_scan_217 : decode cX10_scan 217 = .ok (.bipush 48, 2) := by decide +kernel
theorem dX10_scan_219 : decode cX10_scan 219 = .ok (.isub, 1) := by decide +kernel
theorem dX10_scan_220 : decode cX10_scan 220 = .ok (.goto 7, 3) := by decide +kernel
theorem dX10_scan_223 : decode cX10_scan 223 = .ok (.aload_n 0, 1) := by decide +kernel
theorem dX10_scan_224 : decode cX10_scan 224 = .ok (.getfield 165, 3) := by decide +kernel
theorem dX10_scan_227 : decode cX10_scan 227 = .ok (.putfield 165, 3) := by decide +kernel
theorem dX10_scan_230 : decode cX10_scan 230 = .ok (.iinc 3 1, 3) := by decide +kernel
theorem dX10_scan_233 : decode cX10_scan 233 = .ok (.goto (-48), 3) := by decide +kernel
theorem dX10_scan_236 : decode cX10_scan 236 = .ok (.aload_n 0, 1) := by decide +kernel
theorem dX10_scan_237 : decode cX10_scan 237 = .ok (.iload_n 3, 1) := by decide +kernel
theorem dX10_scan_238 : decode cX10_scan 238 = .ok (.iload_n 1, 1) := by decide +kernel
theorem dX10_scan_239 : decode cX10_scan 239 = .ok (.isub, 1) := by decide +kernel
theorem dX10_scan_240 : decode cX10_scan 240 = .ok (.iconst 4, 1) := by decide +kernel
theorem dX10_scan_241 : decode cX10_scan 241 = .ok (.if_icmp .le 7, 3) := by decide +kernel
theorem dX10_scan_244 : decode cX10_scan 244 = .ok (.iconst 0, 1) := by decide +kernel
theorem dX10_scan_245 : decode cX10_scan 245 = .ok (.goto 4, 3) := by decide +kernel
theorem dX10_scan_248 : decode cX10_scan 248 = .ok (.iconst 2, 1) := by decide +kernel
theorem dX10_scan_249 : decode cX10_scan 249 = .ok (.putfield 143, 3) := by decide +kernel
theorem dX10_scan_252 : decode cX10_scan 252 = .ok (.goto 18, 3) := by decide +kernel
theorem dX10_scan_255 : decode cX10_scan 255 = .ok (.aload_n 0, 1) := by decide +kernel
theorem dX10_scan_256 : decode cX10_scan 256 = .ok (.iload_n 2, 1) := by decide +kernel
theorem dX10_scan_257 : decode cX10_scan 257 = .ok (.bipush 59, 2) := by decide +kernel
theorem dX10_scan_259 : decode cX10_scan 259 = .ok (.if_icmp .ne 7, 3) := by decide +kernel
theorem dX10_scan_262 : decode cX10_scan 262 = .ok (.iconst 3, 1) := by decide +kernel
theorem dX10_scan_263 : decode cX10_scan 263 = .ok (.goto 4, 3) := by decide +kernel
theorem dX10_scan_266 : decode cX10_scan 266 = .ok (.iconst 0, 1) := by decide +kernel
theorem dX10_scan_267 : decode cX10_scan 267 = .ok (.putfield 143, 3) := by decide +kernel
theorem dX10_scan_270 : decode cX10_scan 270 = .ok (.aload_n 0, 1) := by decide +kernel
theorem dX10_scan_271 : decode cX10_scan 271 = .ok (.iload_n 3, 1) := by decide +kernel
theorem dX10_scan_272 : decode cX10_scan 272 = .ok (.putfield 134, 3) := by decide +kernel
theorem dX10_scan_275 : decode cX10_scan 275 = .ok (.return_, 1) := by decide +kernel
theorem dX10_fails_0 : decode cX10_fails 0 = .ok (.aload_n 0, 1) := by decide +kernel
theorem dX10_fails_1 : decode cX10_fails 1 = .ok (.iload_n 1, 1) := by decide +kernel
theorem dX10_fails_2 : decode cX10_fails 2 = .ok (.putfield 168, 3) := by decide +kernel
theorem dX10_fails_5 : decode cX10_fails 5 = .ok (.aload_n 0, 1) := by decide +kernel
theorem dX10_fails_6 : decode cX10_fails 6 = .ok (.aload_n 0, 1) := by decide +kernel
theorem dX10_fails_7 : decode cX10_fails 7 = .ok (.getfield 137, 3) := by decide +kernel
theorem dX10_fails_10 : decode cX10_fails 10 = .ok (.putfield 13, 3) := by decide +kernel
theorem dX10_fails_13 : decode cX10_fails 13 = .ok (.iconst 0, 1) := by decide +kernel
theorem dX10_fails_14 : decode cX10_fails 14 = .ok (.ireturn, 1) := by decide +kernel
theorem pm_X10_readNumber_r1 : ∀ w ∈ wsX10_readNumber_r1, w ∈ wsX10_readNumber := fun _ h => List.mem_cons_of_mem _ (List.mem_append_left _ (List.mem_append_left _ h))
theorem pm_X10_readNumber_r2 : ∀ w ∈ wsX10_readNumber_r2, w ∈ wsX10_readNumber := fun _ h => List.mem_cons_of_mem _ (List.mem_append_left _ (List.mem_append_right _ (List.mem_append_left _ h)))
theorem pm_X10_readNumber_r3 : ∀ w ∈ wsX10_readNumber_r3, w ∈ wsX10_readNumber := fun _ h => List.mem_cons_of_mem _ (List.mem_append_left _ (List.mem_append_right _ (List.mem_append_right _ (List.mem_append_left _ h))))
theorem pm_X10_readNumber_r4 : ∀ w ∈ wsX10_readNumber_r4, w ∈ wsX10_readNumber := fun _ h => List.mem_cons_of_mem _ (List.mem_append_left _ (List.mem_append_right _ (List.mem_append_right _ (List.mem_append_right _ (h)))))
theorem pw_X10_readNumber_X10 : ∀ w ∈ wsX100, w ∈ wsX10_readNumber := fun _ h => List.mem_cons_of_mem _ (List.mem_append_right _ h)
set_option maxRecDepth 20000 in
theorem ggX10_readNumber_X10_fails : GoodIn wsX10_readNumber wsX10_fails := goodIn_sub (List.forall_mem_cons.mpr ⟨pm_X10_readNumber_r1 _ (List.mem_of_getElem? (i := 7) rfl), List.forall_mem_append.mpr ⟨List.forall_mem_cons.mpr ⟨pm_X10_readNumber_r1 _ (List.mem_of_getElem? (i := 8) rfl), List.forall_mem_cons.mpr ⟨pm_X10_readNumber_r1 _ (List.mem_of_getElem? (i := 9) rfl), List.forall_mem_cons.mpr ⟨pm_X10_readNumber_r1 _ (List.mem_of_getElem? (i := 10) rfl), fun _ h => absurd h List.not_mem_nil⟩⟩⟩, pw_X10_readNumber_X10⟩⟩) (by decide +kernel)
set_option maxRecDepth 20000 in
theorem gX10_readNumber_X10_fails : GoodIn wsX10_readNumber (wsV RX10 171 RX10 yX10_fails wsX10_fails) := goodIn_app (goodIn_of _ (by decide +kernel)) ggX10_readNumber_X10_fails
set_option maxRecDepth 20000 in
theorem ggX10_readNumber_X10_in : GoodIn wsX10_readNumber wsX10_in := goodIn_sub (List.forall_mem_cons.mpr ⟨pm_X10_readNumber_r1 _ (List.mem_of_getElem? (i := 13) rfl), fun _ h => absurd h List.not_mem_nil⟩) (by decide +kernel)
set_option maxRecDepth 20000 in
theorem gX10_readNumber_X10_in : GoodIn wsX10_readNumber (va_wsS RX10 174 yX10_in wsX10_in) := goodIn_app (goodIn_of _ (by decide +kernel)) ggX10_readNumber_X10_in
set_option maxRecDepth 20000 in
theorem pq_X10_readNumber_X10_scan_r1 : ∀ w ∈ wsX10_scan_r1, w ∈ wsX10_readNumber := List.forall_mem_cons.mpr ⟨pm_X10_readNumber_r1 _ (List.mem_of_getElem? (i := 18) rfl), List.forall_mem_cons.mpr ⟨pm_X10_readNumber_r1 _ (List.mem_of_getElem? (i := 9) rfl), List.forall_mem_cons.mpr ⟨pm_X10_readNumber_r1 _ (List.mem_of_getElem? (i := 19) rfl), List.forall_mem_cons.mpr ⟨pm_X10_readNumber_r1 _ (List.mem_of_getElem? (i := 0) rfl), List.forall_mem_cons.mpr ⟨pm_X10_readNumber_r1 _ (List.mem_of_getElem? (i := 20) rfl), List.forall_mem_cons.mpr ⟨pm_X10_readNumber_r1 _ (List.mem_of_getElem? (i := 21) rfl), List.forall_mem_cons.mpr ⟨pm_X10_readNumber_r1 _ (List.mem_of_getElem? (i := 22) rfl), List.forall_mem_cons.mpr ⟨pm_X10_readNumber_r1 _ (List.mem_of_getElem? (i := 1) rfl), List.forall_mem_cons.mpr ⟨pm_X10_readNumber_r1 _ (List.mem_of_getElem? (i := 23) rfl), List.forall_mem_cons.mpr ⟨pm_X10_readNumber_r2 _ (List.mem_of_getElem? (i := 0) rfl), List.forall_mem_cons.mpr ⟨pm_X10_readNumber_r2 _ (List.mem_of_getElem? (i := 1) rfl), List.forall_mem_cons.mpr ⟨pm_X10_readNumber_r1 _ (List.mem_of_getElem? (i := 6) rfl), List.forall_mem_cons.mpr ⟨pm_X10_readNumber_r2 _ (List.mem_of_getElem? (i := 2) rfl), List.forall_mem_cons.mpr ⟨pm_X10_readNumber_r2 _ (List.mem_of_getElem? (i := 3) rfl), List.forall_mem_cons.mpr ⟨pm_X10_readNumber_r2 _ (List.mem_of_getElem? (i := 4) rfl), List.forall_mem_cons.mpr ⟨pm_X10_readNumber_r2 _ (List.mem_of_getElem? (i := 5) rfl), List.forall_mem_cons.mpr ⟨pm_X10_readNumber_r2 _ (List.mem_of_getElem? (i := 6) rfl), List.forall_mem_cons.mpr ⟨pm_X10_readNumber_r2 _ (List.mem_of_getElem? (i := 7) rfl), List.forall_mem_cons.mpr ⟨pm_X10_readNumber_r2 _ (List.mem_of_getElem? (i := 8) rfl), List.forall_mem_cons.mpr ⟨pm_X10_readNumber_r2 _ (List.mem_of_getElem? (i := 9) rfl), List.forall_mem_cons.mpr ⟨pm_X10_readNumber_r2 _ (List.mem_of_getElem? (i := 10) rfl), List.forall_mem_cons.mpr ⟨pm_X10_readNumber_r2 _ (List.mem_of_getElem? (i := 11) rfl), List.forall_mem_cons.mpr ⟨pm_X10_readNumber_r2 _ (List.mem_of_getElem? (i := 12) rfl), List.forall_mem_cons.mpr ⟨pm_X10_readNumber_r2 _ (List.mem_of_getElem? (i := 13) rfl), fun _ h => absurd h List.not_mem_nil⟩⟩⟩⟩⟩⟩⟩⟩⟩⟩⟩⟩⟩⟩⟩⟩⟩⟩⟩⟩⟩⟩⟩⟩
set_option maxRecDepth 20000 in
theorem pq_X10_readNumber_X10_scan_r2 : ∀ w ∈ wsX10_scan_r2, w ∈ wsX10_readNumber := List.forall_mem_cons.mpr ⟨pm_X10_readNumber_r2 _ (List.mem_of_getElem? (i := 14) rfl), List.forall_mem_cons.mpr ⟨pm_X10_readNumber_r2 _ (List.mem_of_getElem? (i := 15) rfl), List.forall_mem_cons.mpr ⟨pm_X10_readNumber_r2 _ (List.mem_of_getElem? (i := 16) rfl), List.forall_mem_cons.mpr ⟨pm_X10_readNumber_r2 _ (List.mem_of_getElem? (i := 17) rfl), List.forall_mem_cons.mpr ⟨pm_X10_readNumber_r2 _ (List.mem_of_getElem? (i := 18) rfl), List.forall_mem_cons.mpr ⟨pm_X10_readNumber_r2 _ (List.mem_of_getElem? (i := 19) rfl), List.forall_mem_cons.mpr ⟨pm_X10_readNumber_r2 _ (List.mem_of_getElem? (i := 20) rfl), List.forall_mem_cons.mpr ⟨pm_X10_readNumber_r2 _ (List.mem_of_getElem? (i := 21) rfl), List.forall_mem_cons.mpr ⟨pm_X10_readNumber_r2 _ (List.mem_of_getElem? (i := 22) rfl), List.forall_mem_cons.mpr ⟨pm_X10_readNumber_r2 _ (List.mem_of_getElem? (i := 23) rfl), List.forall_mem_cons.mpr ⟨pm_X10_readNumber_r3 _ (List.mem_of_getElem? (i := 0) rfl), List.forall_mem_cons.mpr ⟨pm_X10_readNumber_r3 _ (List.mem_of_getElem? (i := 1) rfl), List.forall_mem_cons.mpr ⟨pm_X10_readNumber_r3 _ (List.mem_of_getElem? (i := 2) rfl), List.forall_mem_cons.mpr ⟨pm_X10_readNumber_r3 _ (List.mem_of_getElem? (i := 3) rfl), List.forall_mem_cons.mpr ⟨pm_X10_readNumber_r3 _ (List.mem_of_getElem? (i := 4) rfl), List.forall_mem_cons.mpr ⟨pm_X10_readNumber_r3 _ (List.mem_of_getElem? (i := 5) rfl), List.forall_mem_cons.mpr ⟨pm_X10_readNumber_r3 _ (List.mem_of_getElem? (i := 6) rfl), List.forall_mem_cons.mpr ⟨pm_X10_readNumber_r3 _ (List.mem_of_getElem? (i := 7) rfl), List.forall_mem_cons.mpr ⟨pm_X10_readNumber_r3 _ (List.mem_of_getElem? (i := 8) rfl), List.forall_mem_cons.mpr ⟨pm_X10_readNumber_r3 _ (List.mem_of_getElem? (i := 9) rfl), List.forall_mem_cons.mpr ⟨pm_X10_readNumber_r3 _ (List.mem_of_getElem? (i := 10) rfl), List.forall_mem_cons.mpr ⟨pm_X10_readNumber_r3 _ (List.mem_of_getElem? (i := 11) rfl), List.forall_mem_cons.mpr ⟨pm_X10_readNumber_r3 _ (List.mem_of_getElem? (i := 12) rfl), List.forall_mem_cons.mpr ⟨pm_X10_readNumber_r3 _ (List.mem_of_getElem? (i := 13) rfl), fun _ h => absurd h List.not_mem_nil⟩⟩⟩⟩⟩⟩⟩⟩⟩⟩⟩⟩⟩⟩⟩⟩⟩⟩⟩⟩⟩⟩⟩⟩
set_option maxRecDepth 20000 in
theorem pq_X10_readNumber_X10_scan_r3 : ∀ w ∈ wsX10_scan_r3, w ∈ wsX10_readNumber := List.forall_mem_cons.mpr ⟨pm_X10_readNumber_r3 _ (List.mem_of_getElem? (i := 14) rfl), List.forall_mem_cons.mpr ⟨pm_X10_readNumber_r3 _ (List.mem_of_getElem? (i := 15) rfl), List.forall_mem_cons.mpr ⟨pm_X10_readNumber_r3 _ (List.mem_of_getElem? (i := 16) rfl), List.forall_mem_cons.mpr ⟨pm_X10_readNumber_r3 _ (List.mem_of_getElem? (i := 17) rfl), List.forall_mem_cons.mpr ⟨pm_X10_readNumber_r3 _ (List.mem_of_getElem? (i := 18) rfl), List.forall_mem_cons.mpr ⟨pm_X10_readNumber_r3 _ (List.mem_of_getElem? (i := 19) rfl), List.forall_mem_cons.mpr ⟨pm_X10_readNumber_r3 _ (List.mem_of_getElem? (i := 20) rfl), List.forall_mem_cons.mpr ⟨pm_X10_readNumber_r3 _ (List.mem_of_getElem? (i := 21) rfl), List.forall_mem_cons.mpr ⟨pm_X10_readNumber_r3 _ (List.mem_of_getElem? (i := 22) rfl), List.forall_mem_cons.mpr ⟨pm_X10_readNumber_r3 _ (List.mem_of_getElem? (i := 23) rfl), List.forall_mem_cons.mpr ⟨pm_X10_readNumber_r4 _ (List.mem_of_getElem? (i := 0) rfl), List.forall_mem_cons.mpr ⟨pm_X10_readNumber_r4 _ (List.mem_of_getElem? (i := 1) rfl), List.forall_mem_cons.mpr ⟨pm_X10_readNumber_r4 _ (List.mem_of_getElem? (i := 2) rfl), List.forall_mem_cons.mpr ⟨pm_X10_readNumber_r4 _ (List.mem_of_getElem? (i := 3) rfl), List.forall_mem_cons.mpr ⟨pm_X10_readNumber_r4 _ (List.mem_of_getElem? (i := 4) rfl), List.forall_mem_cons.mpr ⟨pm_X10_readNumber_r4 _ (List.mem_of_getElem? (i := 5) rfl), List.forall_mem_cons.mpr ⟨pm_X10_readNumber_r4 _ (List.mem_of_getElem? (i := 6) rfl), List.forall_mem_cons.mpr ⟨pm_X10_readNumber_r4 _ (List.mem_of_getElem? (i := 7) rfl), List.forall_mem_cons.mpr ⟨pm_X10_readNumber_r4 _ (List.mem_of_getElem? (i := 8) rfl), List.forall_mem_cons.mpr ⟨pm_X10_readNumber_r4 _ (List.mem_of_getElem? (i := 9) rfl), List.forall_mem_cons.mpr ⟨pm_X10_readNumber_r4 _ (List.mem_of_getElem? (i := 10) rfl), List.forall_mem_cons.mpr ⟨pm_X10_readNumber_r4 _ (List.mem_of_getElem? (i := 11) rfl), List.forall_mem_cons.mpr ⟨pm_X10_readNumber_r4 _ (List.mem_of_getElem? (i := 12) rfl), List.forall_mem_cons.mpr ⟨pm_X10_readNumber_r4 _ (List.mem_of_getElem? (i := 13) rfl), fun _ h => absurd h List.not_mem_nil⟩⟩⟩⟩⟩⟩⟩⟩⟩⟩⟩⟩⟩⟩⟩⟩⟩⟩⟩⟩⟩⟩⟩⟩
set_option maxRecDepth 20000 in
theorem pq_X10_readNumber_X10_scan_r4 : ∀ w ∈ wsX10_scan_r4, w ∈ wsX10_readNumber := List.forall_mem_cons.mpr ⟨pm_X10_readNumber_r4 _ (List.mem_of_getElem? (i := 14) rfl), List.forall_mem_cons.mpr ⟨pm_X10_readNumber_r4 _ (List.mem_of_getElem? (i := 15) rfl), fun _ h => absurd h List.not_mem_nil⟩⟩
set_option maxRecDepth 20000 in
theorem ggX10_readNumber_X10_scan : GoodIn wsX10_readNumber wsX10_scan := goodIn_sub (List.forall_mem_cons.mpr ⟨pm_X10_readNumber_r1 _ (List.mem_of_getElem? (i := 17) rfl), List.forall_mem_append.mpr ⟨List.forall_mem_append.mpr ⟨pq_X10_readNumber_X10_scan_r1, List.forall_mem_append.mpr ⟨pq_X10_readNumber_X10_scan_r2, List.forall_mem_append.mpr ⟨pq_X10_readNumber_X10_scan_r3, pq_X10_readNumber_X10_scan_r4⟩⟩⟩, pw_X10_readNumber_X10⟩⟩) (by decide +kernel)
set_option maxRecDepth 20000 in
theorem gX10_readNumber_X10_scan : GoodIn wsX10_readNumber (wsV RX10 181 RX10 yX10_scan wsX10_scan) := goodIn_app (goodIn_of _ (by decide +kernel)) ggX10_readNumber_X10_scan
theorem dX10_readNumber_0 : decode cX10_readNumber 0 = .ok (.aload_n 0, 1) := by decide +kernel
theorem dX10_readNumber_1 : decode cX10_readNumber 1 = .ok (.getfield 143, 3) := by decide +kernel
theorem dX10_readNumber_4 : decode cX10_readNumber 4 = .ok (.iconst 2, 1) := by decide +kernel
theorem dX10_readNumber_5 : decode cX10_readNumber 5 = .ok (.if_icmp .eq 9, 3) := by decide +kernel
theorem dX10_readNumber_8 : decode cX10_readNumber 8 = .ok (.aload_n 0, 1) := by decide +kernel
theorem dX10_readNumber_9 : decode cX10_readNumber 9 = .ok (.iconst 1, 1) := by decide +kernel
theorem dX10_readNumber_10 : decode cX10_readNumber 10 = .ok (.invokevirtual 171, 3) := by decide +kernel
theorem dX10_readNumber_13 : decode cX10_readNumber 13 = .ok (.ireturn, 1) := by decide +kernel
theorem dX10_readNumber_14 : decode cX10_readNumber 14 = .ok (.aload_n 0, 1) := by decide +kernel
theorem dX10_readNumber_15 : decode cX10_readNumber 15 = .ok (.getfield 165, 3) := by decide +kernel
theorem dX10_readNumber_18 : decode cX10_readNumber 18 = .ok (.i2l, 1) := by decide +kernel
theorem dX10_readNumber_19 : decode cX10_readNumber 19 = .ok (.iload_n 1, 1) := by decide +kernel
theorem dX10_readNumber_20 : decode cX10_readNumber 20 = .ok (.i2l, 1) := by decide +kernel
theorem dX10_readNumber_21 : decode cX10_readNumber 21 = .ok (.iload_n 2, 1) := by decide +kernel
theorem dX10_readNumber_22 : decode cX10_readNumber 22 = .ok (.i2l, 1) := by decide +kernel
theorem dX10_readNumber_23 : decode cX10_readNumber 23 = .ok (.invokestatic 174, 3) := by decide +kernel
theorem dX10_readNumber_26 : decode cX10_readNumber 26 = .ok (.ifCond .ne 9, 3) := by decide +kernel
theorem dX10_readNumber_29 : decode cX10_readNumber 29 = .ok (.aload_n 0, 1) := by decide +kernel
theorem dX10_readNumber_30 : decode cX10_readNumber 30 = .ok (.iconst 2, 1) := by decide +kernel
theorem dX10_readNumber_31 : decode cX10_readNumber 31 = .ok (.invokevirtual 171, 3) := by decide +kernel
theorem dX10_readNumber_34 : decode cX10_readNumber 34 = .ok (.ireturn, 1) := by decide +kernel
theorem dX10_readNumber_35 : decode cX10_readNumber 35 = .ok (.aload_n 0, 1) := by decide +kernel
theorem dX10_readNumber_36 : decode cX10_readNumber 36 = .ok (.aload_n 0, 1) := by decide +kernel
theorem dX10_readNumber_37 : decode cX10_readNumber 37 = .ok (.getfield 165, 3) := by decide +kernel
theorem dX10_readNumber_40 : decode cX10_readNumber 40 = .ok (.putfield 178, 3) := by decide +kernel
theorem dX10_readNumber_43 : decode cX10_readNumber 43 = .ok (.aload_n 0, 1) := by decide +kernel
theorem dX10_readNumber_44 : decode cX10_readNumber 44 = .ok (.invokevirtual 181, 3) := by decide +kernel
theorem dX10_readNumber_47 : decode cX10_readNumber 47 = .ok (.iconst 1, 1) := by decide +kernel
theorem dX10_readNumber_48 : decode cX10_readNumber 48 = .ok (.ireturn, 1) := by decide +kernel
theorem kk_X10_scan_0 : Cond.fieldLink RX10 134 "PaidBySignsModel" "end" "I" ∈ wsX10_scan := pm_X10_scan_r1 _ (List.mem_of_getElem? (i := 0) rfl)
theorem kk_X10_scan_1 : Cond.fieldLink RX10 137 "PaidBySignsModel" "at" "I" ∈ wsX10_scan := pm_X10_scan_r1 _ (List.mem_of_getElem? (i := 1) rfl)
theorem kk_X10_scan_2 : Cond.fieldLink RX10 140 "PaidBySignsModel" "key" "I" ∈ wsX10_scan := pm_X10_scan_r1 _ (List.mem_of_getElem? (i := 2) rfl)
theorem kk_X10_scan_3 : Cond.fieldLink RX10 143 "PaidBySignsModel" "sort" "I" ∈ wsX10_scan := pm_X10_scan_r1 _ (List.mem_of_getElem? (i := 3) rfl)
theorem kk_X10_scan_4 : Cond.fieldLink RX10 165 "PaidBySignsModel" "number" "I" ∈ wsX10_scan := pm_X10_scan_r1 _ (List.mem_of_getElem? (i := 7) rfl)
theorem kk_X10_scan_5 : Cond.fieldLink RX10 150 "PaidBySignsModel" "word" "J" ∈ wsX10_scan := pm_X10_scan_r1 _ (List.mem_of_getElem? (i := 4) rfl)
theorem kk_X10_scan_6 : Cond.constantLong RX10 154 (32) ∈ wsX10_scan := pm_X10_scan_r1 _ (List.mem_of_getElem? (i := 5) rfl)
theorem kk_X10_scan_7 : Cond.constantLong RX10 156 (97) ∈ wsX10_scan := pm_X10_scan_r1 _ (List.mem_of_getElem? (i := 6) rfl)
theorem kk_X10_fails_0 : Cond.fieldLink RX10 168 "PaidBySignsModel" "faultKind" "I" ∈ wsX10_fails := by decide +kernel
theorem kk_X10_fails_1 : Cond.fieldLink RX10 137 "PaidBySignsModel" "at" "I" ∈ wsX10_fails := by decide +kernel
theorem kk_X10_fails_2 : Cond.fieldLink RX10 13 "PaidBySignsModel" "faultPlace" "I" ∈ wsX10_fails := by decide +kernel
theorem kk_X10_readNumber_0 : Cond.fieldLink RX10 143 "PaidBySignsModel" "sort" "I" ∈ wsX10_readNumber := pm_X10_readNumber_r1 _ (List.mem_of_getElem? (i := 0) rfl)
theorem kk_X10_readNumber_1 : Cond.fieldLink RX10 165 "PaidBySignsModel" "number" "I" ∈ wsX10_readNumber := pm_X10_readNumber_r1 _ (List.mem_of_getElem? (i := 1) rfl)
theorem kk_X10_readNumber_2 : Cond.fieldLink RX10 178 "PaidBySignsModel" "got" "I" ∈ wsX10_readNumber := pm_X10_readNumber_r1 _ (List.mem_of_getElem? (i := 2) rfl)
theorem iw_X10_scan_X10 : ∀ w ∈ wsX100, w ∈ wsX10_scan := pw_X10_scan_X10
theorem iw_X10_fails_X10 : ∀ w ∈ wsX100, w ∈ wsX10_fails := by decide +kernel
theorem iw_X10_readNumber_X10 : ∀ w ∈ wsX100, w ∈ wsX10_readNumber := pw_X10_readNumber_X10
