abbrev cX7_passSemicolon : ByteArray := prog_9_method_16_code
def yX7_passSemicolon : MethodName := ⟨RX7, "passSemicolon", "()Z"⟩
abbrev cX7_passWord : ByteArray := prog_9_method_17_code
def yX7_passWord : MethodName := ⟨RX7, "passWord", "(Ljava/lang/String;)Z"⟩
abbrev cX7_passName : ByteArray := prog_9_method_18_code
def yX7_passName : MethodName := ⟨RX7, "passName", "(I)Z"⟩
abbrev cX7_isSameRun : ByteArray := prog_9_method_19_code
def yX7_isSameRun : MethodName := ⟨RX7, "isSameRun", "(II)Z"⟩
abbrev cX7_isWord : ByteArray := prog_9_method_20_code
def yX7_isWord : MethodName := ⟨RX7, "isWord", "(Ljava/lang/String;)Z"⟩
def wsX7_isWord_r1 : List Cond := [Cond.fieldLink RX7 35 "PaidBySigns$Reader" "token" "I", Cond.fieldLink RX7 32 "PaidBySigns$Reader" "next" "I", Cond.fieldLink RX7 38 "PaidBySigns$Reader" "start" "I", Cond.fieldLink RX7 28 "PaidBySigns$Reader" "text" "[B", Cond.methodLink RX7 171 yJ0_length_8abf5, Cond.instanceMethod yJ0_length_8abf5, Cond.selects RJ0 yJ0_length_8abf5 yJ0_length_8abf5, Cond.initialized RJ0, Cond.code yJ0_length_8abf5 cJ0_length_8abf5 1 (some .int), Cond.fieldLink RJ0 9 "java/lang/String" "value" "[B", Cond.methodLink RJ0 335 yJ0_coder_7d493, Cond.instanceMethod yJ0_coder_7d493, Cond.selects RJ0 yJ0_coder_7d493 yJ0_coder_7d493, Cond.code yJ0_coder_7d493 cJ0_coder_7d493 1 (some .byte), Cond.fieldLink RJ0 38 "java/lang/String" "COMPACT_STRINGS" "Z", Cond.fieldLink RJ0 15 "java/lang/String" "coder" "B", Cond.methodLink RX7 176 yJ0_charAt_5068e, Cond.instanceMethod yJ0_charAt_5068e, Cond.selects RJ0 yJ0_charAt_5068e yJ0_charAt_5068e, Cond.code yJ0_charAt_5068e cJ0_charAt_5068e 2 (some .char), Cond.methodLink RJ0 492 yJ0_isLatin1_aae02, Cond.instanceMethod yJ0_isLatin1_aae02, Cond.selects RJ0 yJ0_isLatin1_aae02 yJ0_isLatin1_aae02, Cond.code yJ0_isLatin1_aae02 cJ0_isLatin1_aae02 1 (some .boolean)]
def wsX7_isWord_r2 : List Cond := [Cond.methodLink RJ0 495 yJ1_charAt_3b067, Cond.static yJ1_charAt_3b067, Cond.initialized RJ1, Cond.code yJ1_charAt_3b067 cJ1_charAt_3b067 2 (some .char), Cond.methodLink RJ1 9 yJ0_checkIndex_df160, Cond.static yJ0_checkIndex_df160, Cond.code yJ0_checkIndex_df160 cJ0_checkIndex_df160 2 none, Cond.fieldLink RJ0 1053 "jdk/internal/util/Preconditions" "SIOOBE_FORMATTER" "Ljava/util/function/BiFunction;", Cond.methodLink RJ0 1059 yJ3_checkIndex_8e157, Cond.static yJ3_checkIndex_8e157, Cond.initialized RJ3, Cond.code yJ3_checkIndex_8e157 cJ3_checkIndex_8e157 3 (some .int), Cond.methodLink RJ0 498 yJ2_charAt_3b067, Cond.static yJ2_charAt_3b067, Cond.initialized RJ2, Cond.code yJ2_charAt_3b067 cJ2_charAt_3b067 2 (some .char), Cond.methodLink RJ2 67 yJ2_checkIndex_2214a, Cond.static yJ2_checkIndex_2214a, Cond.code yJ2_checkIndex_2214a cJ2_checkIndex_2214a 2 none, Cond.methodLink RJ2 48 yJ2_length_9d52b, Cond.static yJ2_length_9d52b, Cond.code yJ2_length_9d52b cJ2_length_9d52b 1 (some .int), Cond.methodLink RJ2 414 yJ0_checkIndex_df160, Cond.methodLink RJ2 71 yJ2_getChar_3b067]
def wsX7_isWord_r3 : List Cond := [Cond.static yJ2_getChar_3b067, Cond.code yJ2_getChar_3b067 cJ2_getChar_3b067 2 (some .char), Cond.fieldLink RJ2 44 "java/lang/StringUTF16" "$assertionsDisabled" "Z", Cond.fieldLink RJ2 59 "java/lang/StringUTF16" "HI_BYTE_SHIFT" "I", Cond.fieldLink RJ2 63 "java/lang/StringUTF16" "LO_BYTE_SHIFT" "I"]
def wsX7_isWord : List Cond := .code yX7_isWord cX7_isWord 3 (some .boolean) :: ((wsX7_isWord_r1 ++ (wsX7_isWord_r2 ++ wsX7_isWord_r3)) ++ wsX70)
def wsX7_passSemicolon : List Cond := .code yX7_passSemicolon cX7_passSemicolon 1 (some .boolean) :: ([.fieldLink RX7 35 "PaidBySigns$Reader" "token" "I", .methodLink RX7 100 yX7_fail, .instanceMethod yX7_fail, .selects RX7 yX7_fail yX7_fail, .initialized RX7, .code yX7_fail cX7_fail 2 (some .boolean), .fieldLink RX7 15 "PaidBySigns$Reader" "faultKind" "I", .fieldLink RX7 38 "PaidBySigns$Reader" "start" "I", .fieldLink RX7 18 "PaidBySigns$Reader" "faultPlace" "I", .methodLink RX7 64 yX7_advance, .instanceMethod yX7_advance, .selects RX7 yX7_advance yX7_advance, .code yX7_advance cX7_advance 1 none, .fieldLink RX7 32 "PaidBySigns$Reader" "next" "I", .fieldLink RX7 9 "PaidBySigns$Reader" "length" "I", .fieldLink RX7 28 "PaidBySigns$Reader" "text" "[B", .methodLink RX7 180 yX7_kindOf, .static yX7_kindOf, .code yX7_kindOf cX7_kindOf 1 (some .int), .methodLink RX7 184 yX7_takeRun, .instanceMethod yX7_takeRun, .selects RX7 yX7_takeRun yX7_takeRun, .code yX7_takeRun cX7_takeRun 2 none] ++ wsX70)
def wsX7_isSameRun : List Cond := .code yX7_isSameRun cX7_isSameRun 4 (some .boolean) :: ([.fieldLink RX7 32 "PaidBySigns$Reader" "next" "I", .fieldLink RX7 38 "PaidBySigns$Reader" "start" "I", .fieldLink RX7 28 "PaidBySigns$Reader" "text" "[B"] ++ wsX70)
def wsX7_passName_r1 : List Cond := [Cond.fieldLink RX7 35 "PaidBySigns$Reader" "token" "I", Cond.fieldLink RX7 44 "PaidBySigns$Reader" "nameStart" "[I", Cond.fieldLink RX7 48 "PaidBySigns$Reader" "nameEnd" "[I", Cond.fieldLink RX7 38 "PaidBySigns$Reader" "start" "I", Cond.fieldLink RX7 32 "PaidBySigns$Reader" "next" "I", Cond.methodLink RX7 100 yX7_fail, Cond.instanceMethod yX7_fail, Cond.selects RX7 yX7_fail yX7_fail, Cond.initialized RX7, Cond.code yX7_fail cX7_fail 2 (some .boolean), Cond.fieldLink RX7 15 "PaidBySigns$Reader" "faultKind" "I", Cond.fieldLink RX7 18 "PaidBySigns$Reader" "faultPlace" "I", Cond.methodLink RX7 168 yX7_isSameRun, Cond.instanceMethod yX7_isSameRun, Cond.selects RX7 yX7_isSameRun yX7_isSameRun, Cond.code yX7_isSameRun cX7_isSameRun 4 (some .boolean), Cond.fieldLink RX7 28 "PaidBySigns$Reader" "text" "[B", Cond.methodLink RX7 64 yX7_advance, Cond.instanceMethod yX7_advance, Cond.selects RX7 yX7_advance yX7_advance, Cond.code yX7_advance cX7_advance 1 none, Cond.fieldLink RX7 9 "PaidBySigns$Reader" "length" "I", Cond.methodLink RX7 180 yX7_kindOf, Cond.static yX7_kindOf]
def wsX7_passName_r2 : List Cond := [Cond.code yX7_kindOf cX7_kindOf 1 (some .int), Cond.methodLink RX7 184 yX7_takeRun, Cond.instanceMethod yX7_takeRun, Cond.selects RX7 yX7_takeRun yX7_takeRun, Cond.code yX7_takeRun cX7_takeRun 2 none]
def wsX7_passName : List Cond := .code yX7_passName cX7_passName 3 (some .boolean) :: ((wsX7_passName_r1 ++ wsX7_passName_r2) ++ wsX70)
def wsX7_passWord_r1 : List Cond := [Cond.methodLink RX7 82 yX7_isWord, Cond.instanceMethod yX7_isWord, Cond.selects RX7 yX7_isWord yX7_isWord, Cond.initialized RX7, Cond.code yX7_isWord cX7_isWord 3 (some .boolean), Cond.fieldLink RX7 35 "PaidBySigns$Reader" "token" "I", Cond.fieldLink RX7 32 "PaidBySigns$Reader" "next" "I", Cond.fieldLink RX7 38 "PaidBySigns$Reader" "start" "I", Cond.fieldLink RX7 28 "PaidBySigns$Reader" "text" "[B", Cond.methodLink RX7 171 yJ0_length_8abf5, Cond.instanceMethod yJ0_length_8abf5, Cond.selects RJ0 yJ0_length_8abf5 yJ0_length_8abf5, Cond.initialized RJ0, Cond.code yJ0_length_8abf5 cJ0_length_8abf5 1 (some .int), Cond.fieldLink RJ0 9 "java/lang/String" "value" "[B", Cond.methodLink RJ0 335 yJ0_coder_7d493, Cond.instanceMethod yJ0_coder_7d493, Cond.selects RJ0 yJ0_coder_7d493 yJ0_coder_7d493, Cond.code yJ0_coder_7d493 cJ0_coder_7d493 1 (some .byte), Cond.fieldLink RJ0 38 "java/lang/String" "COMPACT_STRINGS" "Z", Cond.fieldLink RJ0 15 "java/lang/String" "coder" "B", Cond.methodLink RX7 176 yJ0_charAt_5068e, Cond.instanceMethod yJ0_charAt_5068e, Cond.selects RJ0 yJ0_charAt_5068e yJ0_charAt_5068e]
def wsX7_passWord_r2 : List Cond := [Cond.code yJ0_charAt_5068e cJ0_charAt_5068e 2 (some .char), Cond.methodLink RJ0 492 yJ0_isLatin1_aae02, Cond.instanceMethod yJ0_isLatin1_aae02, Cond.selects RJ0 yJ0_isLatin1_aae02 yJ0_isLatin1_aae02, Cond.code yJ0_isLatin1_aae02 cJ0_isLatin1_aae02 1 (some .boolean), Cond.methodLink RJ0 495 yJ1_charAt_3b067, Cond.static yJ1_charAt_3b067, Cond.initialized RJ1, Cond.code yJ1_charAt_3b067 cJ1_charAt_3b067 2 (some .char), Cond.methodLink RJ1 9 yJ0_checkIndex_df160, Cond.static yJ0_checkIndex_df160, Cond.code yJ0_checkIndex_df160 cJ0_checkIndex_df160 2 none, Cond.fieldLink RJ0 1053 "jdk/internal/util/Preconditions" "SIOOBE_FORMATTER" "Ljava/util/function/BiFunction;", Cond.methodLink RJ0 1059 yJ3_checkIndex_8e157, Cond.static yJ3_checkIndex_8e157, Cond.initialized RJ3, Cond.code yJ3_checkIndex_8e157 cJ3_checkIndex_8e157 3 (some .int), Cond.methodLink RJ0 498 yJ2_charAt_3b067, Cond.static yJ2_charAt_3b067, Cond.initialized RJ2, Cond.code yJ2_charAt_3b067 cJ2_charAt_3b067 2 (some .char), Cond.methodLink RJ2 67 yJ2_checkIndex_2214a, Cond.static yJ2_checkIndex_2214a, Cond.code yJ2_checkIndex_2214a cJ2_checkIndex_2214a 2 none]
def wsX7_passWord_r3 : List Cond := [Cond.methodLink RJ2 48 yJ2_length_9d52b, Cond.static yJ2_length_9d52b, Cond.code yJ2_length_9d52b cJ2_length_9d52b 1 (some .int), Cond.methodLink RJ2 414 yJ0_checkIndex_df160, Cond.methodLink RJ2 71 yJ2_getChar_3b067, Cond.static yJ2_getChar_3b067, Cond.code yJ2_getChar_3b067 cJ2_getChar_3b067 2 (some .char), Cond.fieldLink RJ2 44 "java/lang/StringUTF16" "$assertionsDisabled" "Z", Cond.fieldLink RJ2 59 "java/lang/StringUTF16" "HI_BYTE_SHIFT" "I", Cond.fieldLink RJ2 63 "java/lang/StringUTF16" "LO_BYTE_SHIFT" "I", Cond.methodLink RX7 100 yX7_fail, Cond.instanceMethod yX7_fail, Cond.selects RX7 yX7_fail yX7_fail, Cond.code yX7_fail cX7_fail 2 (some .boolean), Cond.fieldLink RX7 15 "PaidBySigns$Reader" "faultKind" "I", Cond.fieldLink RX7 18 "PaidBySigns$Reader" "faultPlace" "I", Cond.methodLink RX7 64 yX7_advance, Cond.instanceMethod yX7_advance, Cond.selects RX7 yX7_advance yX7_advance, Cond.code yX7_advance cX7_advance 1 none, Cond.fieldLink RX7 9 "PaidBySigns$Reader" "length" "I", Cond.methodLink RX7 180 yX7_kindOf, Cond.static yX7_kindOf, Cond.code yX7_kindOf cX7_kindOf 1 (some .int)]
def wsX7_passWord_r4 : List Cond := [Cond.methodLink RX7 184 yX7_takeRun, Cond.instanceMethod yX7_takeRun, Cond.selects RX7 yX7_takeRun yX7_takeRun, Cond.code yX7_takeRun cX7_takeRun 2 none]
def wsX7_passWord : List Cond := .code yX7_passWord cX7_passWord 2 (some .boolean) :: ((wsX7_passWord_r1 ++ (wsX7_passWord_r2 ++ (wsX7_passWord_r3 ++ wsX7_passWord_r4))) ++ wsX70)
set_option maxRecDepth 20000 in
theorem ggX7_passSemicolon_X7_fail : GoodIn wsX7_passSemicolon wsX7_fail := goodIn_r _ [6, 7, 8, 9, 24, 25, 26, 27, 28, 29, 30, 31, 32, 33, 34, 35, 36, 37] (by decide +kernel) (by decide +kernel)
set_option maxRecDepth 20000 in
theorem gX7_passSemicolon_X7_fail : GoodIn wsX7_passSemicolon (wsV RX7 100 RX7 yX7_fail wsX7_fail) := goodIn_app (goodIn_of _ (by decide +kernel)) ggX7_passSemicolon_X7_fail
set_option maxRecDepth 20000 in
theorem ggX7_passSemicolon_X7_advance : GoodIn wsX7_passSemicolon wsX7_advance := goodIn_r _ [13, 14, 15, 16, 8, 1, 17, 18, 5, 19, 20, 21, 22, 23, 24, 25, 26, 27, 28, 29, 30, 31, 32, 33, 34, 35, 36, 37] (by decide +kernel) (by decide +kernel)
set_option maxRecDepth 20000 in
theorem gX7_passSemicolon_X7_advance : GoodIn wsX7_passSemicolon (wsV RX7 64 RX7 yX7_advance wsX7_advance) := goodIn_app (goodIn_of _ (by decide +kernel)) ggX7_passSemicolon_X7_advance
theorem dX7_passSemicolon_0 : decode cX7_passSemicolon 0 = .ok (.aload_n 0, 1) := by decide +kernel
theorem dX7_passSemicolon_1 : decode cX7_passSemicolon 1 = .ok (.getfield 35, 3) := by decide +kernel
theorem dX7_passSemicolon_4 : decode cX7_passSemicolon 4 = .ok (.iconst 3, 1) := by decide +kernel
theorem dX7_passSemicolon_5 : decode cX7_passSemicolon 5 = .ok (.if_icmp .eq 9, 3) := by decide +kernel
theorem dX7_passSemicolon_8 : decode cX7_passSemicolon 8 = .ok (.aload_n 0, 1) := by decide +kernel
theorem dX7_passSemicolon_9 : decode cX7_passSemicolon 9 = .ok (.iconst 1, 1) := by decide +kernel
theorem dX7_passSemicolon_10 : decode cX7_passSemicolon 10 = .ok (.invokevirtual 100, 3) := by decide +kernel
theorem dX7_passSemicolon_13 : decode cX7_passSemicolon 13 = .ok (.ireturn, 1) := by decide +kernel
theorem dX7_passSemicolon_14 : decode cX7_passSemicolon 14 = .ok (.aload_n 0, 1) := by decide +kernel
theorem dX7_passSemicolon_15 : decode cX7_passSemicolon 15 = .ok (.invokevirtual 64, 3) := by decide +kernel
theorem dX7_passSemicolon_18 : decode cX7_passSemicolon 18 = .ok (.iconst 1, 1) := by decide +kernel
theorem dX7_passSemicolon_19 : decode cX7_passSemicolon 19 = .ok (.ireturn, 1) := by decide +kernel
theorem pm_X7_passWord_r1 : ∀ w ∈ wsX7_passWord_r1, w ∈ wsX7_passWord := fun _ h => List.mem_cons_of_mem _ (List.mem_append_left _ (List.mem_append_left _ h))
theorem pm_X7_passWord_r2 : ∀ w ∈ wsX7_passWord_r2, w ∈ wsX7_passWord := fun _ h => List.mem_cons_of_mem _ (List.mem_append_left _ (List.mem_append_right _ (List.mem_append_left _ h)))
theorem pm_X7_passWord_r3 : ∀ w ∈ wsX7_passWord_r3, w ∈ wsX7_passWord := fun _ h => List.mem_cons_of_mem _ (List.mem_append_left _ (List.mem_append_right _ (List.mem_append_right _ (List.mem_append_left _ h))))
theorem pm_X7_passWord_r4 : ∀ w ∈ wsX7_passWord_r4, w ∈ wsX7_passWord := fun _ h => List.mem_cons_of_mem _ (List.mem_append_left _ (List.mem_append_right _ (List.mem_append_right _ (List.mem_append_right _ (h)))))
theorem pw_X7_passWord_X7 : ∀ w ∈ wsX70, w ∈ wsX7_passWord := fun _ h => List.mem_cons_of_mem _ (List.mem_append_right _ h)
set_option maxRecDepth 20000 in
theorem pq_X7_passWord_X7_isWord_r1 : ∀ w ∈ wsX7_isWord_r1, w ∈ wsX7_passWord := List.forall_mem_cons.mpr ⟨pm_X7_passWord_r1 _ (List.mem_of_getElem? (i := 5) rfl), List.forall_mem_cons.mpr ⟨pm_X7_passWord_r1 _ (List.mem_of_getElem? (i := 6) rfl), List.forall_mem_cons.mpr ⟨pm_X7_passWord_r1 _ (List.mem_of_getElem? (i := 7) rfl), List.forall_mem_cons.mpr ⟨pm_X7_passWord_r1 _ (List.mem_of_getElem? (i := 8) rfl), List.forall_mem_cons.mpr ⟨pm_X7_passWord_r1 _ (List.mem_of_getElem? (i := 9) rfl), List.forall_mem_cons.mpr ⟨pm_X7_passWord_r1 _ (List.mem_of_getElem? (i := 10) rfl), List.forall_mem_cons.mpr ⟨pm_X7_passWord_r1 _ (List.mem_of_getElem? (i := 11) rfl), List.forall_mem_cons.mpr ⟨pm_X7_passWord_r1 _ (List.mem_of_getElem? (i := 12) rfl), List.forall_mem_cons.mpr ⟨pm_X7_passWord_r1 _ (List.mem_of_getElem? (i := 13) rfl), List.forall_mem_cons.mpr ⟨pm_X7_passWord_r1 _ (List.mem_of_getElem? (i := 14) rfl), List.forall_mem_cons.mpr ⟨pm_X7_passWord_r1 _ (List.mem_of_getElem? (i := 15) rfl), List.forall_mem_cons.mpr ⟨pm_X7_passWord_r1 _ (List.mem_of_getElem? (i := 16) rfl), List.forall_mem_cons.mpr ⟨pm_X7_passWord_r1 _ (List.mem_of_getElem? (i := 17) rfl), List.forall_mem_cons.mpr ⟨pm_X7_passWord_r1 _ (List.mem_of_getElem? (i := 18) rfl), List.forall_mem_cons.mpr ⟨pm_X7_passWord_r1 _ (List.mem_of_getElem? (i := 19) rfl), List.forall_mem_cons.mpr ⟨pm_X7_passWord_r1 _ (List.mem_of_getElem? (i := 20) rfl), List.forall_mem_cons.mpr ⟨pm_X7_passWord_r1 _ (List.mem_of_getElem? (i := 21) rfl), List.forall_mem_cons.mpr ⟨pm_X7_passWord_r1 _ (List.mem_of_getElem? (i := 22) rfl), List.forall_mem_cons.mpr ⟨pm_X7_passWord_r1 _ (List.mem_of_getElem? (i := 23) rfl), List.forall_mem_cons.mpr ⟨pm_X7_passWord_r2 _ (List.mem_of_getElem? (i := 0) rfl), List.forall_mem_cons.mpr ⟨pm_X7_passWord_r2 _ (List.mem_of_getElem? (i := 1) rfl), List.forall_mem_cons.mpr ⟨pm_X7_passWord_r2 _ (List.mem_of_getElem? (i := 2) rfl), List.forall_mem_cons.mpr ⟨pm_X7_passWord_r2 _ (List.mem_of_getElem? (i := 3) rfl), List.forall_mem_cons.mpr ⟨pm_X7_passWord_r2 _ (List.mem_of_getElem? (i := 4) rfl), fun _ h => absurd h List.not_mem_nil⟩⟩⟩⟩⟩⟩⟩⟩⟩⟩⟩⟩⟩⟩⟩⟩⟩⟩⟩⟩⟩⟩⟩⟩
set_option maxRecDepth 20000 in
theorem pq_X7_passWord_X7_isWord_r2 : ∀ w ∈ wsX7_isWord_r2, w ∈ wsX7_passWord := List.forall_mem_cons.mpr ⟨pm_X7_passWord_r2 _ (List.mem_of_getElem? (i := 5) rfl), List.forall_mem_cons.mpr ⟨pm_X7_passWord_r2 _ (List.mem_of_getElem? (i := 6) rfl), List.forall_mem_cons.mpr ⟨pm_X7_passWord_r2 _ (List.mem_of_getElem? (i := 7) rfl), List.forall_mem_cons.mpr ⟨pm_X7_passWord_r2 _ (List.mem_of_getElem? (i := 8) rfl), List.forall_mem_cons.mpr ⟨pm_X7_passWord_r2 _ (List.mem_of_getElem? (i := 9) rfl), List.forall_mem_cons.mpr ⟨pm_X7_passWord_r2 _ (List.mem_of_getElem? (i := 10) rfl), List.forall_mem_cons.mpr ⟨pm_X7_passWord_r2 _ (List.mem_of_getElem? (i := 11) rfl), List.forall_mem_cons.mpr ⟨pm_X7_passWord_r2 _ (List.mem_of_getElem? (i := 12) rfl), List.forall_mem_cons.mpr ⟨pm_X7_passWord_r2 _ (List.mem_of_getElem? (i := 13) rfl), List.forall_mem_cons.mpr ⟨pm_X7_passWord_r2 _ (List.mem_of_getElem? (i := 14) rfl), List.forall_mem_cons.mpr ⟨pm_X7_passWord_r2 _ (List.mem_of_getElem? (i := 15) rfl), List.forall_mem_cons.mpr ⟨pm_X7_passWord_r2 _ (List.mem_of_getElem? (i := 16) rfl), List.forall_mem_cons.mpr ⟨pm_X7_passWord_r2 _ (List.mem_of_getElem? (i := 17) rfl), List.forall_mem_cons.mpr ⟨pm_X7_passWord_r2 _ (List.mem_of_getElem? (i := 18) rfl), List.forall_mem_cons.mpr ⟨pm_X7_passWord_r2 _ (List.mem_of_getElem? (i := 19) rfl), List.forall_mem_cons.mpr ⟨pm_X7_passWord_r2 _ (List.mem_of_getElem? (i := 20) rfl), List.forall_mem_cons.mpr ⟨pm_X7_passWord_r2 _ (List.mem_of_getElem? (i := 21) rfl), List.forall_mem_cons.mpr ⟨pm_X7_passWord_r2 _ (List.mem_of_getElem? (i := 22) rfl), List.forall_mem_cons.mpr ⟨pm_X7_passWord_r2 _ (List.mem_of_getElem? (i := 23) rfl), List.forall_mem_cons.mpr ⟨pm_X7_passWord_r3 _ (List.mem_of_getElem? (i := 0) rfl), List.forall_mem_cons.mpr ⟨pm_X7_passWord_r3 _ (List.mem_of_getElem? (i := 1) rfl), List.forall_mem_cons.mpr ⟨pm_X7_passWord_r3 _ (List.mem_of_getElem? (i := 2) rfl), List.forall_mem_cons.mpr ⟨pm_X7_passWord_r3 _ (List.mem_of_getElem? (i := 3) rfl), List.forall_mem_cons.mpr ⟨pm_X7_passWord_r3 _ (List.mem_of_getElem? (i := 4) rfl), fun _ h => absurd h List.not_mem_nil⟩⟩⟩⟩⟩⟩⟩⟩⟩⟩⟩⟩⟩⟩⟩⟩⟩⟩⟩⟩⟩⟩⟩⟩
set_option maxRecDepth 20000 in
theorem pq_X7_passWord_X7_isWord_r3 : ∀ w ∈ wsX7_isWord_r3, w ∈ wsX7_passWord := List.forall_mem_cons.mpr ⟨pm_X7_passWord_r3 _ (List.mem_of_getElem? (i := 5) rfl), List.forall_mem_cons.mpr ⟨pm_X7_passWord_r3 _ (List.mem_of_getElem? (i := 6) rfl), List.forall_mem_cons.mpr ⟨pm_X7_passWord_r3 _ (List.mem_of_getElem? (i := 7) rfl), List.forall_mem_cons.mpr ⟨pm_X7_passWord_r3 _ (List.mem_of_getElem? (i := 8) rfl), List.forall_mem_cons.mpr ⟨pm_X7_passWord_r3 _ (List.mem_of_getElem? (i := 9) rfl), fun _ h => absurd h List.not_mem_nil⟩⟩⟩⟩⟩
set_option maxRecDepth 20000 in
theorem ggX7_passWord_X7_isWord : GoodIn wsX7_passWord wsX7_isWord := goodIn_sub (List.forall_mem_cons.mpr ⟨pm_X7_passWord_r1 _ (List.mem_of_getElem? (i := 4) rfl), List.forall_mem_append.mpr ⟨List.forall_mem_append.mpr ⟨pq_X7_passWord_X7_isWord_r1, List.forall_mem_append.mpr ⟨pq_X7_passWord_X7_isWord_r2, pq_X7_passWord_X7_isWord_r3⟩⟩, pw_X7_passWord_X7⟩⟩) (by decide +kernel)
set_option maxRecDepth 20000 in
theorem gX7_passWord_X7_isWord : GoodIn wsX7_passWord (wsV RX7 82 RX7 yX7_isWord wsX7_isWord) := goodIn_app (goodIn_of _ (by decide +kernel)) ggX7_passWord_X7_isWord
set_option maxRecDepth 20000 in
theorem ggX7_passWord_X7_fail : GoodIn wsX7_passWord wsX7_fail := goodIn_sub (List.forall_mem_cons.mpr ⟨pm_X7_passWord_r3 _ (List.mem_of_getElem? (i := 13) rfl), List.forall_mem_append.mpr ⟨List.forall_mem_cons.mpr ⟨pm_X7_passWord_r3 _ (List.mem_of_getElem? (i := 14) rfl), List.forall_mem_cons.mpr ⟨pm_X7_passWord_r1 _ (List.mem_of_getElem? (i := 7) rfl), List.forall_mem_cons.mpr ⟨pm_X7_passWord_r3 _ (List.mem_of_getElem? (i := 15) rfl), fun _ h => absurd h List.not_mem_nil⟩⟩⟩, pw_X7_passWord_X7⟩⟩) (by decide +kernel)
set_option maxRecDepth 20000 in
theorem gX7_passWord_X7_fail : GoodIn wsX7_passWord (wsV RX7 100 RX7 yX7_fail wsX7_fail) := goodIn_app (goodIn_of _ (by decide +kernel)) ggX7_passWord_X7_fail
set_option maxRecDepth 20000 in
theorem ggX7_passWord_X7_advance : GoodIn wsX7_passWord wsX7_advance := goodIn_sub (List.forall_mem_cons.mpr ⟨pm_X7_passWord_r3 _ (List.mem_of_getElem? (i := 19) rfl), List.forall_mem_append.mpr ⟨List.forall_mem_cons.mpr ⟨pm_X7_passWord_r1 _ (List.mem_of_getElem? (i := 6) rfl), List.forall_mem_cons.mpr ⟨pm_X7_passWord_r3 _ (List.mem_of_getElem? (i := 20) rfl), List.forall_mem_cons.mpr ⟨pm_X7_passWord_r1 _ (List.mem_of_getElem? (i := 8) rfl), List.forall_mem_cons.mpr ⟨pm_X7_passWord_r1 _ (List.mem_of_getElem? (i := 7) rfl), List.forall_mem_cons.mpr ⟨pm_X7_passWord_r1 _ (List.mem_of_getElem? (i := 5) rfl), List.forall_mem_cons.mpr ⟨pm_X7_passWord_r3 _ (List.mem_of_getElem? (i := 21) rfl), List.forall_mem_cons.mpr ⟨pm_X7_passWord_r3 _ (List.mem_of_getElem? (i := 22) rfl), List.forall_mem_cons.mpr ⟨pm_X7_passWord_r1 _ (List.mem_of_getElem? (i := 3) rfl), List.forall_mem_cons.mpr ⟨pm_X7_passWord_r3 _ (List.mem_of_getElem? (i := 23) rfl), List.forall_mem_cons.mpr ⟨pm_X7_passWord_r4 _ (List.mem_of_getElem? (i := 0) rfl), List.forall_mem_cons.mpr ⟨pm_X7_passWord_r4 _ (List.mem_of_getElem? (i := 1) rfl), List.forall_mem_cons.mpr ⟨pm_X7_passWord_r4 _ (List.mem_of_getElem? (i := 2) rfl), List.forall_mem_cons.mpr ⟨pm_X7_passWord_r4 _ (List.mem_of_getElem? (i := 3) rfl), fun _ h => absurd h List.not_mem_nil⟩⟩⟩⟩⟩⟩⟩⟩⟩⟩⟩⟩⟩, pw_X7_passWord_X7⟩⟩) (by decide +kernel)
set_option maxRecDepth 20000 in
theorem gX7_passWord_X7_advance : GoodIn wsX7_passWord (wsV RX7 64 RX7 yX7_advance wsX7_advance) := goodIn_app (goodIn_of _ (by decide +kernel)) ggX7_passWord_X7_advance
theorem dX7_passWord_0 : decode cX7_passWord 0 = .ok (.aload_n 0, 1) := by decide +kernel
theorem dX7_passWord_1 : decode cX7_passWord 1 = .ok (.aload_n 1, 1) := by decide +kernel
theorem dX7_passWord_2 : decode cX7_passWord 2 = .ok (.invokevirtual 82, 3) := by decide +kernel
theorem dX7_passWord_5 : decode cX7_passWord 5 = .ok (.ifCond .ne 9, 3) := by decide +kernel
theorem dX7_passWord_8 : decode cX7_passWord 8 = .ok (.aload_n 0, 1) := by decide +kernel
theorem dX7_passWord_9 : decode cX7_passWord 9 = .ok (.iconst 1, 1) := by decide +kernel
theorem dX7_passWord_10 : decode cX7_passWord 10 = .ok (.invokevirtual 100, 3) := by decide +kernel
theorem dX7_passWord_13 : decode cX7_passWord 13 = .ok (.ireturn, 1) := by decide +kernel
theorem dX7_passWord_14 : decode cX7_passWord 14 = .ok (.aload_n 0, 1) := by decide +kernel
theorem dX7_passWord_15 : decode cX7_passWord 15 = .ok (.invokevirtual 64, 3) := by decide +kernel
theorem dX7_passWord_18 : decode cX7_passWord 18 = .ok (.iconst 1, 1) := by decide +kernel
theorem dX7_passWord_19 : decode cX7_passWord 19 = .ok (.ireturn, 1) := by decide +kernel
theorem pm_X7_passName_r1 : ∀ w ∈ wsX7_passName_r1, w ∈ wsX7_passName := fun _ h => List.mem_cons_of_mem _ (List.mem_append_left _ (List.mem_append_left _ h))
theorem pm_X7_passName_r2 : ∀ w ∈ wsX7_passName_r2, w ∈ wsX7_passName := fun _ h => List.mem_cons_of_mem _ (List.mem_append_left _ (List.mem_append_right _ (h)))
theorem pw_X7_passName_X7 : ∀ w ∈ wsX70, w ∈ wsX7_passName := fun _ h => List.mem_cons_of_mem _ (List.mem_append_right _ h)
set_option maxRecDepth 20000 in
theorem ggX7_passName_X7_fail : GoodIn wsX7_passName wsX7_fail := goodIn_sub (List.forall_mem_cons.mpr ⟨pm_X7_passName_r1 _ (List.mem_of_getElem? (i := 9) rfl), List.forall_mem_append.mpr ⟨List.forall_mem_cons.mpr ⟨pm_X7_passName_r1 _ (List.mem_of_getElem? (i := 10) rfl), List.forall_mem_cons.mpr ⟨pm_X7_passName_r1 _ (List.mem_of_getElem? (i := 3) rfl), List.forall_mem_cons.mpr ⟨pm_X7_passName_r1 _ (List.mem_of_getElem? (i := 11) rfl), fun _ h => absurd h List.not_mem_nil⟩⟩⟩, pw_X7_passName_X7⟩⟩) (by decide +kernel)
set_option maxRecDepth 20000 in
theorem gX7_passName_X7_fail : GoodIn wsX7_passName (wsV RX7 100 RX7 yX7_fail wsX7_fail) := goodIn_app (goodIn_of _ (by decide +kernel)) ggX7_passName_X7_fail
set_option maxRecDepth 20000 in
theorem ggX7_passName_X7_isSameRun : GoodIn wsX7_passName wsX7_isSameRun := goodIn_sub (List.forall_mem_cons.mpr ⟨pm_X7_passName_r1 _ (List.mem_of_getElem? (i := 15) rfl), List.forall_mem_append.mpr ⟨List.forall_mem_cons.mpr ⟨pm_X7_passName_r1 _ (List.mem_of_getElem? (i := 4) rfl), List.forall_mem_cons.mpr ⟨pm_X7_passName_r1 _ (List.mem_of_getElem? (i := 3) rfl), List.forall_mem_cons.mpr ⟨pm_X7_passName_r1 _ (List.mem_of_getElem? (i := 16) rfl), fun _ h => absurd h List.not_mem_nil⟩⟩⟩, pw_X7_passName_X7⟩⟩) (by decide +kernel)
set_option maxRecDepth 20000 in
theorem gX7_passName_X7_isSameRun : GoodIn wsX7_passName (wsV RX7 168 RX7 yX7_isSameRun wsX7_isSameRun) := goodIn_app (goodIn_of _ (by decide +kernel)) ggX7_passName_X7_isSameRun
set_option maxRecDepth 20000 in
theorem ggX7_passName_X7_advance : GoodIn wsX7_passName wsX7_advance := goodIn_sub (List.forall_mem_cons.mpr ⟨pm_X7_passName_r1 _ (List.mem_of_getElem? (i := 20) rfl), List.forall_mem_append.mpr ⟨List.forall_mem_cons.mpr ⟨pm_X7_passName_r1 _ (List.mem_of_getElem? (i := 4) rfl), List.forall_mem_cons.mpr ⟨pm_X7_passName_r1 _ (List.mem_of_getElem? (i := 21) rfl), List.forall_mem_cons.mpr ⟨pm_X7_passName_r1 _ (List.mem_of_getElem? (i := 16) rfl), List.forall_mem_cons.mpr ⟨pm_X7_passName_r1 _ (List.mem_of_getElem? (i := 3) rfl), List.forall_mem_cons.mpr ⟨pm_X7_passName_r1 _ (List.mem_of_getElem? (i := 0) rfl), List.forall_mem_cons.mpr ⟨pm_X7_passName_r1 _ (List.mem_of_getElem? (i := 22) rfl), List.forall_mem_cons.mpr ⟨pm_X7_passName_r1 _ (List.mem_of_getElem? (i := 23) rfl), List.forall_mem_cons.mpr ⟨pm_X7_passName_r1 _ (List.mem_of_getElem? (i := 8) rfl), List.forall_mem_cons.mpr ⟨pm_X7_passName_r2 _ (List.mem_of_getElem? (i := 0) rfl), List.forall_mem_cons.mpr ⟨pm_X7_passName_r2 _ (List.mem_of_getElem? (i := 1) rfl), List.forall_mem_cons.mpr ⟨pm_X7_passName_r2 _ (List.mem_of_getElem? (i := 2) rfl), List.forall_mem_cons.mpr ⟨pm_X7_passName_r2 _ (List.mem_of_getElem? (i := 3) rfl), List.forall_mem_cons.mpr ⟨pm_X7_passName_r2 _ (List.mem_of_getElem? (i := 4) rfl), fun _ h => absurd h List.not_mem_nil⟩⟩⟩⟩⟩⟩⟩⟩⟩⟩⟩⟩⟩, pw_X7_passName_X7⟩⟩) (by decide +kernel)
set_option maxRecDepth 20000 in
theorem gX7_passName_X7_advance : GoodIn wsX7_passName (wsV RX7 64 RX7 yX7_advance wsX7_advance) := goodIn_app (goodIn_of _ (by decide +kernel)) ggX7_passName_X7_advance
theorem dX7_passName_0 : decode cX7_passName 0 = .ok (.aload_n 0, 1) := by decide +kernel
theorem dX7_passName_1 : decode cX7_passName 1 = .ok (.getfield 35, 3) := by decide +kernel
theorem dX7_passName_4 : decode cX7_passName 4 = .ok (.iconst 1, 1) := by decide +kernel
theorem dX7_passName_5 : decode cX7_passName 5 = .ok (.if_icmp .eq 9, 3) := by decide +kernel
theorem dX7_passName_8 : decode cX7_passName 8 = .ok (.aload_n 0, 1) := by decide +kernel
theorem dX7_passName_9 : decode cX7_passName 9 = .ok (.iconst 1, 1) := by decide +kernel
theorem dX7_passName_10 : decode cX7_passName 10 = .ok (.invokevirtual 100, 3) := by decide +kernel
theorem dX7_passName_13 : decode cX7_passName 13 = .ok (.ireturn, 1) := by decide +kernel
theorem dX7_passName_14 : decode cX7_passName 14 = .ok (.iconst 0, 1) := by decide +kernel
theorem dX7_passName_15 : decode cX7_passName 15 = .ok (.istore_n 2, 1) := by decide +kernel
theorem dX7_passName_16 : decode cX7_passName 16 = .ok (.iload_n 2, 1) := by decide +kernel
theorem dX7_passName_17 : decode cX7_passName 17 = .ok (.iload_n 1, 1) := by decide +kernel
theorem dX7_passName_18 : decode cX7_passName 18 = .ok (.if_icmp .ge 34, 3) := by decide +kernel
theorem dX7_passName_21 : decode cX7_passName 21 = .ok (.aload_n 0, 1) := by decide +kernel
theorem dX7_passName_22 : decode cX7_passName 22 = .ok (.aload_n 0, 1) := by decide +kernel
theorem dX7_passName_23 : decode cX7_passName 23 = .ok (.getfield 44, 3) := by decide +kernel
theorem dX7_passName_26 : decode cX7_passName 26 = .ok (.iload_n 2, 1) := by decide +kernel
theorem dX7_passName_27 : decode cX7_passName 27 = .ok (.iaload, 1) := by decide +kernel
theorem dX7_passName_28 : decode cX7_passName 28 = .ok (.aload_n 0, 1) := by decide +kernel
theorem dX7_passName_29 : decode cX7_passName 29 = .ok (.getfield 48, 3) := by decide +kernel
theorem dX7_passName_32 : decode cX7_passName 32 = .ok (.iload_n 2, 1) := by decide +kernel
theorem dX7_passName_33 : decode cX7_passName 33 = .ok (.iaload, 1) := by decide +kernel
theorem dX7_passName_34 : decode cX7_passName 34 = .ok (.invokevirtual 168, 3) := by decide +kernel
theorem dX7_passName_37 : decode cX7_passName 37 = .ok (.ifCond .eq 9, 3) := by decide +kernel
theorem dX7_passName_40 : decode cX7_passName 40 = .ok (.aload_n 0, 1) := by decide +kernel
theorem dX7_passName_41 : decode cX7_passName 41 = .ok (.iconst 3, 1) := by decide +kernel
theorem dX7_passName_42 : decode cX7_passName 42 = .ok (.invokevirtual 100, 3) := by decide +kernel
theorem dX7_passName_45 : decode cX7_passName 45 = .ok (.ireturn, 1) := by decide +kernel
theorem dX7_passName_46 : decode cX7_passName 46 = .ok (.iinc 2 1, 3) := by decide +kernel
theorem dX7_passName_49 : decode cX7_passName 49 = .ok (.goto (-33), 3) := by decide +kernel
theorem dX7_passName_52 : decode cX7_passName 52 = .ok (.aload_n 0, 1) := by decide +kernel
theorem dX7_passName_53 : decode cX7_passName 53 = .ok (.getfield 44, 3) := by decide +kernel
theorem dX7_passName_56 : decode cX7_passName 56 = .ok (.iload_n 1, 1) := by decide +kernel
theorem dX7_passName_57 : decode cX7_passName 57 = .ok (.aload_n 0, 1) := by decide +kernel
theorem dX7_passName_58 : decode cX7_passName 58 = .ok (.getfield 38, 3) := by decide +kernel
theorem dX7_passName_61 : decode cX7_passName 61 = .ok (.iastore, 1) := by decide +kernel
theorem dX7_passName_62 : decode cX7_passName 62 = .ok (.aload_n 0, 1) := by decide +kernel
theorem dX7_passName_63 : decode cX7_passName 63 = .ok (.getfield 48, 3) := by decide +kernel
theorem dX7_passName_66 : decode cX7_passName 66 = .ok (.iload_n 1, 1) := by decide +kernel
theorem dX7_passName_67 : decode cX7_passName 67 = .ok (.aload_n 0, 1) := by decide +kernel
theorem dX7_passName_68 : decode cX7_passName 68 = .ok (.getfield 32, 3) := by decide +kernel
theorem dX7_passName_71 : decode cX7_passName 71 = .ok (.iastore, 1) := by decide +kernel
theorem dX7_passName_72 : decode cX7_passName 72 = .ok (.aload_n 0, 1) := by decide +kernel
theorem dX7_passName_73 : decode cX7_passName 73 = .ok (.invokevirtual 64, 3) := by decide +kernel
theorem dX7_passName_76 : decode cX7_passName 76 = .ok (.iconst 1, 1) := by decide +kernel
theorem dX7_passName_77 : decode cX7_passName 77 = .ok (.ireturn, 1) := by decide +kernel
theorem dX7_isSameRun_0 : decode cX7_isSameRun 0 = .ok (.iload_n 2, 1) := by decide +kernel
theorem dX7_isSameRun_1 : decode cX7_isSameRun 1 = .ok (.iload_n 1, 1) := by decide +kernel
theorem dX7_isSameRun_2 : decode cX7_isSameRun 2 = .ok (.isub, 1) := by decide +kernel
theorem dX7_isSameRun_3 : decode cX7_isSameRun 3 = .ok (.aload_n 0, 1) := by decide +kernel
theorem dX7_isSameRun_4 : decode cX7_isSameRun 4 = .ok (.getfield 32, 3) := by decide +kernel
theorem dX7_isSameRun_7 : decode cX7_isSameRun 7 = .ok (.aload_n 0, 1) := by decide +kernel
theorem dX7_isSameRun_8 : decode cX7_isSameRun 8 = .ok (.getfield 38, 3) := by decide +kernel
theorem dX7_isSameRun_11 : decode cX7_isSameRun 11 = .ok (.isub, 1) := by decide +kernel
theorem dX7_isSameRun_12 : decode cX7_isSameRun 12 = .ok (.if_icmp .eq 5, 3) := by decide +kernel
theorem dX7_isSameRun_15 : decode cX7_isSameRun 15 = .ok (.iconst 0, 1) := by decide +kernel
theorem dX7_isSameRun_16 : decode cX7_isSameRun 16 = .ok (.ireturn, 1) := by decide +kernel
theorem dX7_isSameRun_17 : decode cX7_isSameRun 17 = .ok (.iconst 0, 1) := by decide +kernel
theorem dX7_isSameRun_18 : decode cX7_isSameRun 18 = .ok (.istore_n 3, 1) := by decide +kernel
theorem dX7_isSameRun_19 : decode cX7_isSameRun 19 = .ok (.iload_n 3, 1) := by decide +kernel
theorem dX7_isSameRun_20 : decode cX7_isSameRun 20 = .ok (.iload_n 2, 1) := by decide +kernel
theorem dX7_isSameRun_21 : decode cX7_isSameRun 21 = .ok (.iload_n 1, 1) := by decide +kernel
theorem dX7_isSameRun_22 : decode cX7_isSameRun 22 = .ok (.isub, 1) := by decide +kernel
theorem dX7_isSameRun_23 : decode cX7_isSameRun 23 = .ok (.if_icmp .ge 33, 3) := by decide +kernel
theorem dX7_isSameRun_26 : decode cX7_isSameRun 26 = .ok (.aload_n 0, 1) := by decide +kernel
theorem dX7_isSameRun_27 : decode cX7_isSameRun 27 = .ok (.getfield 28, 3) := by decide +kernel
theorem dX7_isSameRun_30 : decode cX7_isSameRun 30 = .ok (.iload_n 1, 1) := by decide +kernel
theorem dX7_isSameRun_31 : decode cX7_isSameRun 31 = .ok (.iload_n 3, 1) := by decide +kernel
theorem dX7_isSameRun_32 : decode cX7_isSameRun 32 = .ok (.iadd, 1) := by decide +kernel
theorem dX7_isSameRun_33 : decode cX7_isSameRun 33 = .ok (.baload, 1) := by decide +kernel
theorem dX7_isSameRun_34 : decode cX7_isSameRun 34 = .ok (.aload_n 0, 1) := by decide +kernel
theorem dX7_isSameRun_35 : decode cX7_isSameRun 35 = .ok (.getfield 28, 3) := by decide +kernel
theorem dX7_isSameRun_38 : decode cX7_isSameRun 38 = .ok (.aload_n 0, 1) := by decide +kernel
theorem dX7_isSameRun_39 : decode cX7_isSameRun 39 = .ok (.getfield 38, 3) := by decide +kernel
theorem dX7_isSameRun_42 : decode cX7_isSameRun 42 = .ok (.iload_n 3, 1) := by decide +kernel
theorem dX7_isSameRun_43 : decode cX7_isSameRun 43 = .ok (.iadd, 1) := by decide +kernel
theorem dX7_isSameRun_44 : decode cX7_isSameRun 44 = .ok (.baload, 1) := by decide +kernel
theorem dX7_isSameRun_45 : decode cX7_isSameRun 45 = .ok (.if_icmp .eq 5, 3) := by decide +kernel
theorem dX7_isSameRun_48 : decode cX7_isSameRun 48 = .ok (.iconst 0, 1) := by decide +kernel
theorem dX7_isSameRun_49 : decode cX7_isSameRun 49 = .ok (.ireturn, 1) := by decide +kernel
theorem dX7_isSameRun_50 : decode cX7_isSameRun 50 = .ok (.iinc 3 1, 3) := by decide +kernel
theorem dX7_isSameRun_53 : decode cX7_isSameRun 53 = .ok (.goto (-34), 3) := by decide +kernel
theorem dX7_isSameRun_56 : decode cX7_isSameRun 56 = .ok (.iconst 1, 1) := by decide +kernel
theorem dX7_isSameRun_57 : decode cX7_isSameRun 57 = .ok (.ireturn, 1) := by decide +kernel
theorem pm_X7_isWord_r1 : ∀ w ∈ wsX7_isWord_r1, w ∈ wsX7_isWord := fun _ h => List.mem_cons_of_mem _ (List.mem_append_left _ (List.mem_append_left _ h))
theorem pm_X7_isWord_r2 : ∀ w ∈ wsX7_isWord_r2, w ∈ wsX7_isWord := fun _ h => List.mem_cons_of_mem _ (List.mem_append_left _ (List.mem_append_right _ (List.mem_append_left _ h)))
theorem pm_X7_isWord_r3 : ∀ w ∈ wsX7_isWord_r3, w ∈ wsX7_isWord := fun _ h => List.mem_cons_of_mem _ (List.mem_append_left _ (List.mem_append_right _ (List.mem_append_right _ (h))))
theorem pw_X7_isWord_X7 : ∀ w ∈ wsX70, w ∈ wsX7_isWord := fun _ h => List.mem_cons_of_mem _ (List.mem_append_right _ h)
set_option maxRecDepth 20000 in
theorem ggX7_isWord_J0_length_8abf5 : GoodIn wsX7_isWord wsJ0_length_8abf5 := goodIn_sub (List.forall_mem_cons.mpr ⟨pm_X7_isWord_r1 _ (List.mem_of_getElem? (i := 8) rfl), List.forall_mem_cons.mpr ⟨pm_X7_isWord_r1 _ (List.mem_of_getElem? (i := 9) rfl), List.forall_mem_cons.mpr ⟨pm_X7_isWord_r1 _ (List.mem_of_getElem? (i := 10) rfl), List.forall_mem_cons.mpr ⟨pm_X7_isWord_r1 _ (List.mem_of_getElem? (i := 11) rfl), List.forall_mem_cons.mpr ⟨pm_X7_isWord_r1 _ (List.mem_of_getElem? (i := 12) rfl), List.forall_mem_cons.mpr ⟨pm_X7_isWord_r1 _ (List.mem_of_getElem? (i := 7) rfl), List.forall_mem_cons.mpr ⟨pm_X7_isWord_r1 _ (List.mem_of_getElem? (i := 13) rfl), List.forall_mem_cons.mpr ⟨pm_X7_isWord_r1 _ (List.mem_of_getElem? (i := 14) rfl), List.forall_mem_cons.mpr ⟨pm_X7_isWord_r1 _ (List.mem_of_getElem? (i := 15) rfl), fun _ h => absurd h List.not_mem_nil⟩⟩⟩⟩⟩⟩⟩⟩⟩) (by decide +kernel)
set_option maxRecDepth 20000 in
theorem gX7_isWord_J0_length_8abf5 : GoodIn wsX7_isWord (wsV RX7 171 RJ0 yJ0_length_8abf5 wsJ0_length_8abf5) := goodIn_app (goodIn_of _ (by decide +kernel)) ggX7_isWord_J0_length_8abf5
set_option maxRecDepth 20000 in
theorem pq_X7_isWord_J0_charAt_5068e_r1 : ∀ w ∈ wsJ0_charAt_5068e_r1, w ∈ wsX7_isWord := List.forall_mem_cons.mpr ⟨pm_X7_isWord_r1 _ (List.mem_of_getElem? (i := 9) rfl), List.forall_mem_cons.mpr ⟨pm_X7_isWord_r1 _ (List.mem_of_getElem? (i := 20) rfl), List.forall_mem_cons.mpr ⟨pm_X7_isWord_r1 _ (List.mem_of_getElem? (i := 21) rfl), List.forall_mem_cons.mpr ⟨pm_X7_isWord_r1 _ (List.mem_of_getElem? (i := 22) rfl), List.forall_mem_cons.mpr ⟨pm_X7_isWord_r1 _ (List.mem_of_getElem? (i := 7) rfl), List.forall_mem_cons.mpr ⟨pm_X7_isWord_r1 _ (List.mem_of_getElem? (i := 23) rfl), List.forall_mem_cons.mpr ⟨pm_X7_isWord_r1 _ (List.mem_of_getElem? (i := 14) rfl), List.forall_mem_cons.mpr ⟨pm_X7_isWord_r1 _ (List.mem_of_getElem? (i := 15) rfl), List.forall_mem_cons.mpr ⟨pm_X7_isWord_r2 _ (List.mem_of_getElem? (i := 0) rfl), List.forall_mem_cons.mpr ⟨pm_X7_isWord_r2 _ (List.mem_of_getElem? (i := 1) rfl), List.forall_mem_cons.mpr ⟨pm_X7_isWord_r2 _ (List.mem_of_getElem? (i := 2) rfl), List.forall_mem_cons.mpr ⟨pm_X7_isWord_r2 _ (List.mem_of_getElem? (i := 3) rfl), List.forall_mem_cons.mpr ⟨pm_X7_isWord_r2 _ (List.mem_of_getElem? (i := 4) rfl), List.forall_mem_cons.mpr ⟨pm_X7_isWord_r2 _ (List.mem_of_getElem? (i := 5) rfl), List.forall_mem_cons.mpr ⟨pm_X7_isWord_r2 _ (List.mem_of_getElem? (i := 6) rfl), List.forall_mem_cons.mpr ⟨pm_X7_isWord_r2 _ (List.mem_of_getElem? (i := 7) rfl), List.forall_mem_cons.mpr ⟨pm_X7_isWord_r2 _ (List.mem_of_getElem? (i := 8) rfl), List.forall_mem_cons.mpr ⟨pm_X7_isWord_r2 _ (List.mem_of_getElem? (i := 9) rfl), List.forall_mem_cons.mpr ⟨pm_X7_isWord_r2 _ (List.mem_of_getElem? (i := 10) rfl), List.forall_mem_cons.mpr ⟨pm_X7_isWord_r2 _ (List.mem_of_getElem? (i := 11) rfl), List.forall_mem_cons.mpr ⟨pm_X7_isWord_r2 _ (List.mem_of_getElem? (i := 12) rfl), List.forall_mem_cons.mpr ⟨pm_X7_isWord_r2 _ (List.mem_of_getElem? (i := 13) rfl), List.forall_mem_cons.mpr ⟨pm_X7_isWord_r2 _ (List.mem_of_getElem? (i := 14) rfl), List.forall_mem_cons.mpr ⟨pm_X7_isWord_r2 _ (List.mem_of_getElem? (i := 15) rfl), fun _ h => absurd h List.not_mem_nil⟩⟩⟩⟩⟩⟩⟩⟩⟩⟩⟩⟩⟩⟩⟩⟩⟩⟩⟩⟩⟩⟩⟩⟩
set_option maxRecDepth 20000 in
theorem pq_X7_isWord_J0_charAt_5068e_r2 : ∀ w ∈ wsJ0_charAt_5068e_r2, w ∈ wsX7_isWord := List.forall_mem_cons.mpr ⟨pm_X7_isWord_r2 _ (List.mem_of_getElem? (i := 16) rfl), List.forall_mem_cons.mpr ⟨pm_X7_isWord_r2 _ (List.mem_of_getElem? (i := 17) rfl), List.forall_mem_cons.mpr ⟨pm_X7_isWord_r2 _ (List.mem_of_getElem? (i := 18) rfl), List.forall_mem_cons.mpr ⟨pm_X7_isWord_r2 _ (List.mem_of_getElem? (i := 19) rfl), List.forall_mem_cons.mpr ⟨pm_X7_isWord_r2 _ (List.mem_of_getElem? (i := 20) rfl), List.forall_mem_cons.mpr ⟨pm_X7_isWord_r2 _ (List.mem_of_getElem? (i := 21) rfl), List.forall_mem_cons.mpr ⟨pm_X7_isWord_r2 _ (List.mem_of_getElem? (i := 22) rfl), List.forall_mem_cons.mpr ⟨pm_X7_isWord_r2 _ (List.mem_of_getElem? (i := 23) rfl), List.forall_mem_cons.mpr ⟨pm_X7_isWord_r3 _ (List.mem_of_getElem? (i := 0) rfl), List.forall_mem_cons.mpr ⟨pm_X7_isWord_r3 _ (List.mem_of_getElem? (i := 1) rfl), List.forall_mem_cons.mpr ⟨pm_X7_isWord_r3 _ (List.mem_of_getElem? (i := 2) rfl), List.forall_mem_cons.mpr ⟨pm_X7_isWord_r3 _ (List.mem_of_getElem? (i := 3) rfl), List.forall_mem_cons.mpr ⟨pm_X7_isWord_r3 _ (List.mem_of_getElem? (i := 4) rfl), fun _ h => absurd h List.not_mem_nil⟩⟩⟩⟩⟩⟩⟩⟩⟩⟩⟩⟩⟩
set_option maxRecDepth 20000 in
theorem ggX7_isWord_J0_charAt_5068e : GoodIn wsX7_isWord wsJ0_charAt_5068e := goodIn_sub (List.forall_mem_cons.mpr ⟨pm_X7_isWord_r1 _ (List.mem_of_getElem? (i := 19) rfl), List.forall_mem_append.mpr ⟨pq_X7_isWord_J0_charAt_5068e_r1, pq_X7_isWord_J0_charAt_5068e_r2⟩⟩) (by decide +kernel)
set_option maxRecDepth 20000 in
theorem gX7_isWord_J0_charAt_5068e : GoodIn wsX7_isWord (wsV RX7 176 RJ0 yJ0_charAt_5068e wsJ0_charAt_5068e) := goodIn_app (goodIn_of _ (by decide +kernel)) ggX7_isWord_J0_charAt_5068e
theorem dX7_isWord_0 : decode cX7_isWord 0 = .ok (.aload_n 0, 1) := by decide +kernel
theorem dX7_isWord_1 : decode cX7_isWord 1 = .ok (.getfield 35, 3) := by decide +kernel
theorem dX7_isWord_4 : decode cX7_isWord 4 = .ok (.iconst 1, 1) := by decide +kernel
theorem dX7_isWord_5 : decode cX7_isWord 5 = .ok (.if_icmp .ne 19, 3) := by decide +kernel
theorem dX7_isWord_8 : decode cX7_isWord 8 = .ok (.aload_n 1, 1) := by decide +kernel
theorem dX7_isWord_9 : decode cX7_isWord 9 = .ok (.invokevirtual 171, 3) := by decide +kernel
theorem dX7_isWord_12 : decode cX7_isWord 12 = .ok (.aload_n 0, 1) := by decide +kernel
theorem dX7_isWord_13 : decode cX7_isWord 13 = .ok (.getfield 32, 3) := by decide +kernel
theorem dX7_isWord_16 : decode cX7_isWord 16 = .ok (.aload_n 0, 1) := by decide +kernel
theorem dX7_isWord_17 : decode cX7_isWord 17 = .ok (.getfield 38, 3) := by decide +kernel
theorem dX7_isWord_20 : decode cX7_isWord 20 = .ok (.isub, 1) := by decide +kernel
theorem dX7_isWord_21 : decode cX7_isWord 21 = .ok (.if_icmp .eq 5, 3) := by decide +kernel
theorem dX7_isWord_24 : decode cX7_isWord 24 = .ok (.iconst 0, 1) := by decide +kernel
theorem dX7_isWord_25 : decode cX7_isWord 25 = .ok (.ireturn, 1) := by decide +kernel
theorem dX7_isWord_26 : decode cX7_isWord 26 = .ok (.iconst 0, 1) := by decide +kernel
theorem dX7_isWord_27 : decode cX7_isWord 27 = .ok (.istore_n 2, 1) := by decide +kernel
theorem dX7_isWord_28 : decode cX7_isWord 28 = .ok (.iload_n 2, 1) := by decide +kernel
theorem dX7_isWord_29 : decode cX7_isWord 29 = .ok (.aload_n 1, 1) := by decide +kernel
theorem dX7_isWord_30 : decode cX7_isWord 30 = .ok (.invokevirtual 171, 3) := by decide +kernel
theorem dX7_isWord_33 : decode cX7_isWord 33 = .ok (.if_icmp .ge 30, 3) := by decide +kernel
theorem dX7_isWord_36 : decode cX7_isWord 36 = .ok (.aload_n 0, 1) := by decide +kernel
theorem dX7_isWord_37 : decode cX7_isWord 37 = .ok (.getfield 28, 3) := by decide +kernel
theorem dX7_isWord_40 : decode cX7_isWord 40 = .ok (.aload_n 0, 1) := by decide +kernel
theorem dX7_isWord_41 : decode cX7_isWord 41 = .ok (.getfield 38, 3) := by decide +kernel
theorem dX7_isWord_44 : decode cX7_isWord 44 = .ok (.iload_n 2, 1) := by decide +kernel
theorem dX7_isWord_45 : decode cX7_isWord 45 = .ok (.iadd, 1) := by decide +kernel
theorem dX7_isWord_46 : decode cX7_isWord 46 = .ok (.baload, 1) := by decide +kernel
theorem dX7_isWord_47 : decode cX7_isWord 47 = .ok (.aload_n 1, 1) := by decide +kernel
theorem dX7_isWord_48 : decode cX7_isWord 48 = .ok (.iload_n 2, 1) := by decide +kernel
theorem dX7_isWord_49 : decode cX7_isWord 49 = .ok (.invokevirtual 176, 3) := by decide +kernel
theorem dX7_isWord_52 : decode cX7_isWord 52 = .ok (.if_icmp .eq 5, 3) := by decide +kernel
theorem dX7_isWord_55 : decode cX7_isWord 55 = .ok (.iconst 0, 1) := by decide +kernel
theorem dX7_isWord_56 : decode cX7_isWord 56 = .ok (.ireturn, 1) := by decide +kernel
theorem dX7_isWord_57 : decode cX7_isWord 57 = .ok (.iinc 2 1, 3) := by decide +kernel
theorem dX7_isWord_60 : decode cX7_isWord 60 = .ok (.goto (-32), 3) := by decide +kernel
theorem dX7_isWord_63 : decode cX7_isWord 63 = .ok (.iconst 1, 1) := by decide +kernel
theorem dX7_isWord_64 : decode cX7_isWord 64 = .ok (.ireturn, 1) := by decide +kernel
theorem kk_X7_passSemicolon_0 : Cond.fieldLink RX7 35 "PaidBySigns$Reader" "token" "I" ∈ wsX7_passSemicolon := by decide +kernel
theorem kk_X7_isWord_0 : Cond.fieldLink RX7 35 "PaidBySigns$Reader" "token" "I" ∈ wsX7_isWord := pm_X7_isWord_r1 _ (List.mem_of_getElem? (i := 0) rfl)
theorem kk_X7_isWord_1 : Cond.fieldLink RX7 32 "PaidBySigns$Reader" "next" "I" ∈ wsX7_isWord := pm_X7_isWord_r1 _ (List.mem_of_getElem? (i := 1) rfl)
theorem kk_X7_isWord_2 : Cond.fieldLink RX7 38 "PaidBySigns$Reader" "start" "I" ∈ wsX7_isWord := pm_X7_isWord_r1 _ (List.mem_of_getElem? (i := 2) rfl)
theorem kk_X7_isWord_3 : Cond.fieldLink RX7 28 "PaidBySigns$Reader" "text" "[B" ∈ wsX7_isWord := pm_X7_isWord_r1 _ (List.mem_of_getElem? (i := 3) rfl)
theorem kk_X7_isSameRun_0 : Cond.fieldLink RX7 32 "PaidBySigns$Reader" "next" "I" ∈ wsX7_isSameRun := by decide +kernel
theorem kk_X7_isSameRun_1 : Cond.fieldLink RX7 38 "PaidBySigns$Reader" "start" "I" ∈ wsX7_isSameRun := by decide +kernel
theorem kk_X7_isSameRun_2 : Cond.fieldLink RX7 28 "PaidBySigns$Reader" "text" "[B" ∈ wsX7_isSameRun := by decide +kernel
theorem kk_X7_passName_0 : Cond.fieldLink RX7 35 "PaidBySigns$Reader" "token" "I" ∈ wsX7_passName := pm_X7_passName_r1 _ (List.mem_of_getElem? (i := 0) rfl)
theorem kk_X7_passName_1 : Cond.fieldLink RX7 44 "PaidBySigns$Reader" "nameStart" "[I" ∈ wsX7_passName := pm_X7_passName_r1 _ (List.mem_of_getElem? (i := 1) rfl)
theorem kk_X7_passName_2 : Cond.fieldLink RX7 38 "PaidBySigns$Reader" "start" "I" ∈ wsX7_passName := pm_X7_passName_r1 _ (List.mem_of_getElem? (i := 3) rfl)
theorem kk_X7_passName_3 : Cond.fieldLink RX7 48 "PaidBySigns$Reader" "nameEnd" "[I" ∈ wsX7_passName := pm_X7_passName_r1 _ (List.mem_of_getElem? (i := 2) rfl)
theorem kk_X7_passName_4 : Cond.fieldLink RX7 32 "PaidBySigns$Reader" "next" "I" ∈ wsX7_passName := pm_X7_passName_r1 _ (List.mem_of_getElem? (i := 4) rfl)
theorem iw_X7_passSemicolon_X7 : ∀ w ∈ wsX70, w ∈ wsX7_passSemicolon := by decide +kernel
theorem iw_X7_isWord_X7 : ∀ w ∈ wsX70, w ∈ wsX7_isWord := pw_X7_isWord_X7
theorem iw_X7_isSameRun_X7 : ∀ w ∈ wsX70, w ∈ wsX7_isSameRun := by decide +kernel
theorem iw_X7_passName_X7 : ∀ w ∈ wsX70, w ∈ wsX7_passName := pw_X7_passName_X7
