abbrev cX7_fail : ByteArray := prog_9_method_4_code
def yX7_fail : MethodName := ⟨RX7, "fail", "(I)Z"⟩
abbrev cX7_readWhole : ByteArray := prog_9_method_5_code
def yX7_readWhole : MethodName := ⟨RX7, "readWhole", "()Z"⟩
abbrev cX7_isNumber : ByteArray := prog_9_method_15_code
def yX7_isNumber : MethodName := ⟨RX7, "isNumber", "(II)Z"⟩
abbrev cX7_passSemicolon : ByteArray := prog_9_method_16_code
def yX7_passSemicolon : MethodName := ⟨RX7, "passSemicolon", "()Z"⟩
abbrev cX7_isSameRun : ByteArray := prog_9_method_19_code
def yX7_isSameRun : MethodName := ⟨RX7, "isSameRun", "(II)Z"⟩
def wsX7_fail : List Cond := .code yX7_fail cX7_fail 2 (some .boolean) :: ([.fieldLink RX7 15 "PaidBySigns$Reader" "faultKind" "I", .fieldLink RX7 38 "PaidBySigns$Reader" "start" "I", .fieldLink RX7 18 "PaidBySigns$Reader" "faultPlace" "I"] ++ wsX70)
def wsX7_isNumber : List Cond := .code yX7_isNumber cX7_isNumber 4 (some .boolean) :: ([.fieldLink RX7 35 "PaidBySigns$Reader" "token" "I", .fieldLink RX7 41 "PaidBySigns$Reader" "value" "I", .fieldLink RX7 38 "PaidBySigns$Reader" "start" "I", .fieldLink RX7 32 "PaidBySigns$Reader" "next" "I", .fieldLink RX7 28 "PaidBySigns$Reader" "text" "[B", .methodLink RX7 100 yX7_fail, .instanceMethod yX7_fail, .selects RX7 yX7_fail yX7_fail, .initialized RX7, .code yX7_fail cX7_fail 2 (some .boolean), .fieldLink RX7 15 "PaidBySigns$Reader" "faultKind" "I", .fieldLink RX7 18 "PaidBySigns$Reader" "faultPlace" "I"] ++ wsX70)
def wsX7_passSemicolon : List Cond := .code yX7_passSemicolon cX7_passSemicolon 1 (some .boolean) :: ([.fieldLink RX7 35 "PaidBySigns$Reader" "token" "I", .methodLink RX7 100 yX7_fail, .instanceMethod yX7_fail, .selects RX7 yX7_fail yX7_fail, .initialized RX7, .code yX7_fail cX7_fail 2 (some .boolean), .fieldLink RX7 15 "PaidBySigns$Reader" "faultKind" "I", .fieldLink RX7 38 "PaidBySigns$Reader" "start" "I", .fieldLink RX7 18 "PaidBySigns$Reader" "faultPlace" "I", .methodLink RX7 64 yX7_advance, .instanceMethod yX7_advance, .selects RX7 yX7_advance yX7_advance, .code yX7_advance cX7_advance 1 none, .fieldLink RX7 32 "PaidBySigns$Reader" "next" "I", .fieldLink RX7 9 "PaidBySigns$Reader" "length" "I", .fieldLink RX7 28 "PaidBySigns$Reader" "text" "[B", .methodLink RX7 180 yX7_kindOf, .static yX7_kindOf, .code yX7_kindOf cX7_kindOf 1 (some .int), .methodLink RX7 184 yX7_takeRun, .instanceMethod yX7_takeRun, .selects RX7 yX7_takeRun yX7_takeRun, .code yX7_takeRun cX7_takeRun 2 none] ++ wsX70)
def wsX7_readWhole_r1 : List Cond := [Cond.fieldLink RX7 24 "PaidBySigns$Reader" "into" "LPaidBySigns$Hire;", Cond.fieldLink RX7 41 "PaidBySigns$Reader" "value" "I", Cond.fieldLink RX7 90 "PaidBySigns$Hire" "whole" "I", Cond.methodLink RX7 82 yX7_isWord, Cond.instanceMethod yX7_isWord, Cond.selects RX7 yX7_isWord yX7_isWord, Cond.initialized RX7, Cond.code yX7_isWord cX7_isWord 3 (some .boolean), Cond.fieldLink RX7 35 "PaidBySigns$Reader" "token" "I", Cond.fieldLink RX7 32 "PaidBySigns$Reader" "next" "I", Cond.fieldLink RX7 38 "PaidBySigns$Reader" "start" "I", Cond.fieldLink RX7 28 "PaidBySigns$Reader" "text" "[B", Cond.methodLink RX7 171 yJ0_length_8abf5, Cond.instanceMethod yJ0_length_8abf5, Cond.selects RJ0 yJ0_length_8abf5 yJ0_length_8abf5, Cond.initialized RJ0, Cond.code yJ0_length_8abf5 cJ0_length_8abf5 1 (some .int), Cond.fieldLink RJ0 9 "java/lang/String" "value" "[B", Cond.methodLink RJ0 335 yJ0_coder_7d493, Cond.instanceMethod yJ0_coder_7d493, Cond.selects RJ0 yJ0_coder_7d493 yJ0_coder_7d493, Cond.code yJ0_coder_7d493 cJ0_coder_7d493 1 (some .byte), Cond.fieldLink RJ0 38 "java/lang/String" "COMPACT_STRINGS" "Z", Cond.fieldLink RJ0 15 "java/lang/String" "coder" "B"]
def wsX7_readWhole_r2 : List Cond := [Cond.methodLink RX7 176 yJ0_charAt_5068e, Cond.instanceMethod yJ0_charAt_5068e, Cond.selects RJ0 yJ0_charAt_5068e yJ0_charAt_5068e, Cond.code yJ0_charAt_5068e cJ0_charAt_5068e 2 (some .char), Cond.methodLink RJ0 492 yJ0_isLatin1_aae02, Cond.instanceMethod yJ0_isLatin1_aae02, Cond.selects RJ0 yJ0_isLatin1_aae02 yJ0_isLatin1_aae02, Cond.code yJ0_isLatin1_aae02 cJ0_isLatin1_aae02 1 (some .boolean), Cond.methodLink RJ0 495 yJ1_charAt_3b067, Cond.static yJ1_charAt_3b067, Cond.initialized RJ1, Cond.code yJ1_charAt_3b067 cJ1_charAt_3b067 2 (some .char), Cond.methodLink RJ1 9 yJ0_checkIndex_df160, Cond.static yJ0_checkIndex_df160, Cond.code yJ0_checkIndex_df160 cJ0_checkIndex_df160 2 none, Cond.fieldLink RJ0 1053 "jdk/internal/util/Preconditions" "SIOOBE_FORMATTER" "Ljava/util/function/BiFunction;", Cond.methodLink RJ0 1059 yJ3_checkIndex_8e157, Cond.static yJ3_checkIndex_8e157, Cond.initialized RJ3, Cond.code yJ3_checkIndex_8e157 cJ3_checkIndex_8e157 3 (some .int), Cond.methodLink RJ0 498 yJ2_charAt_3b067, Cond.static yJ2_charAt_3b067, Cond.initialized RJ2, Cond.code yJ2_charAt_3b067 cJ2_charAt_3b067 2 (some .char)]
def wsX7_readWhole_r3 : List Cond := [Cond.methodLink RJ2 67 yJ2_checkIndex_2214a, Cond.static yJ2_checkIndex_2214a, Cond.code yJ2_checkIndex_2214a cJ2_checkIndex_2214a 2 none, Cond.methodLink RJ2 48 yJ2_length_9d52b, Cond.static yJ2_length_9d52b, Cond.code yJ2_length_9d52b cJ2_length_9d52b 1 (some .int), Cond.methodLink RJ2 414 yJ0_checkIndex_df160, Cond.methodLink RJ2 71 yJ2_getChar_3b067, Cond.static yJ2_getChar_3b067, Cond.code yJ2_getChar_3b067 cJ2_getChar_3b067 2 (some .char), Cond.fieldLink RJ2 44 "java/lang/StringUTF16" "$assertionsDisabled" "Z", Cond.fieldLink RJ2 59 "java/lang/StringUTF16" "HI_BYTE_SHIFT" "I", Cond.fieldLink RJ2 63 "java/lang/StringUTF16" "LO_BYTE_SHIFT" "I", Cond.methodLink RX7 64 yX7_advance, Cond.instanceMethod yX7_advance, Cond.selects RX7 yX7_advance yX7_advance, Cond.code yX7_advance cX7_advance 1 none, Cond.fieldLink RX7 9 "PaidBySigns$Reader" "length" "I", Cond.methodLink RX7 180 yX7_kindOf, Cond.static yX7_kindOf, Cond.code yX7_kindOf cX7_kindOf 1 (some .int), Cond.methodLink RX7 184 yX7_takeRun, Cond.instanceMethod yX7_takeRun, Cond.selects RX7 yX7_takeRun yX7_takeRun]
def wsX7_readWhole_r4 : List Cond := [Cond.code yX7_takeRun cX7_takeRun 2 none, Cond.methodLink RX7 86 yX7_isNumber, Cond.instanceMethod yX7_isNumber, Cond.selects RX7 yX7_isNumber yX7_isNumber, Cond.code yX7_isNumber cX7_isNumber 4 (some .boolean), Cond.methodLink RX7 100 yX7_fail, Cond.instanceMethod yX7_fail, Cond.selects RX7 yX7_fail yX7_fail, Cond.code yX7_fail cX7_fail 2 (some .boolean), Cond.fieldLink RX7 15 "PaidBySigns$Reader" "faultKind" "I", Cond.fieldLink RX7 18 "PaidBySigns$Reader" "faultPlace" "I", Cond.methodLink RX7 92 yX7_passSemicolon, Cond.instanceMethod yX7_passSemicolon, Cond.selects RX7 yX7_passSemicolon yX7_passSemicolon, Cond.code yX7_passSemicolon cX7_passSemicolon 1 (some .boolean)]
def wsX7_readWhole : List Cond := .code yX7_readWhole cX7_readWhole 1 (some .boolean) :: ((wsX7_readWhole_r1 ++ (wsX7_readWhole_r2 ++ (wsX7_readWhole_r3 ++ wsX7_readWhole_r4))) ++ wsX70 ++ wsX30)
def wsX7_isSameRun : List Cond := .code yX7_isSameRun cX7_isSameRun 4 (some .boolean) :: ([.fieldLink RX7 32 "PaidBySigns$Reader" "next" "I", .fieldLink RX7 38 "PaidBySigns$Reader" "start" "I", .fieldLink RX7 28 "PaidBySigns$Reader" "text" "[B"] ++ wsX70)
theorem dX7_fail_0 : decode cX7_fail 0 = .ok (.aload_n 0, 1) := by decide +kernel
theorem dX7_fail_1 : decode cX7_fail 1 = .ok (.iload_n 1, 1) := by decide +kernel
theorem dX7_fail_2 : decode cX7_fail 2 = .ok (.putfield 15, 3) := by decide +kernel
theorem dX7_fail_5 : decode cX7_fail 5 = .ok (.aload_n 0, 1) := by decide +kernel
theorem dX7_fail_6 : decode cX7_fail 6 = .ok (.aload_n 0, 1) := by decide +kernel
theorem dX7_fail_7 : decode cX7_fail 7 = .ok (.getfield 38, 3) := by decide +kernel
theorem dX7_fail_10 : decode cX7_fail 10 = .ok (.putfield 18, 3) := by decide +kernel
theorem dX7_fail_13 : decode cX7_fail 13 = .ok (.iconst 0, 1) := by decide +kernel
theorem dX7_fail_14 : decode cX7_fail 14 = .ok (.ireturn, 1) := by decide +kernel
theorem pm_X7_readWhole_r1 : ∀ w ∈ wsX7_readWhole_r1, w ∈ wsX7_readWhole := fun _ h => List.mem_cons_of_mem _ (List.mem_append_left _ (List.mem_append_left _ (List.mem_append_left _ h)))
theorem pm_X7_readWhole_r2 : ∀ w ∈ wsX7_readWhole_r2, w ∈ wsX7_readWhole := fun _ h => List.mem_cons_of_mem _ (List.mem_append_left _ (List.mem_append_left _ (List.mem_append_right _ (List.mem_append_left _ h))))
theorem pm_X7_readWhole_r3 : ∀ w ∈ wsX7_readWhole_r3, w ∈ wsX7_readWhole := fun _ h => List.mem_cons_of_mem _ (List.mem_append_left _ (List.mem_append_left _ (List.mem_append_right _ (List.mem_append_right _ (List.mem_append_left _ h)))))
theorem pm_X7_readWhole_r4 : ∀ w ∈ wsX7_readWhole_r4, w ∈ wsX7_readWhole := fun _ h => List.mem_cons_of_mem _ (List.mem_append_left _ (List.mem_append_left _ (List.mem_append_right _ (List.mem_append_right _ (List.mem_append_right _ (h))))))
theorem pw_X7_readWhole_X7 : ∀ w ∈ wsX70, w ∈ wsX7_readWhole := fun _ h => List.mem_cons_of_mem _ (List.mem_append_left _ (List.mem_append_right _ h))
theorem pw_X7_readWhole_X3 : ∀ w ∈ wsX30, w ∈ wsX7_readWhole := fun _ h => List.mem_cons_of_mem _ (List.mem_append_right _ h)
set_option maxRecDepth 20000 in
theorem pq_X7_readWhole_X7_isWord_r1 : ∀ w ∈ wsX7_isWord_r1, w ∈ wsX7_readWhole := List.forall_mem_cons.mpr ⟨pm_X7_readWhole_r1 _ (List.mem_of_getElem? (i := 8) rfl), List.forall_mem_cons.mpr ⟨pm_X7_readWhole_r1 _ (List.mem_of_getElem? (i := 9) rfl), List.forall_mem_cons.mpr ⟨pm_X7_readWhole_r1 _ (List.mem_of_getElem? (i := 10) rfl), List.forall_mem_cons.mpr ⟨pm_X7_readWhole_r1 _ (List.mem_of_getElem? (i := 11) rfl), List.forall_mem_cons.mpr ⟨pm_X7_readWhole_r1 _ (List.mem_of_getElem? (i := 12) rfl), List.forall_mem_cons.mpr ⟨pm_X7_readWhole_r1 _ (List.mem_of_getElem? (i := 13) rfl), List.forall_mem_cons.mpr ⟨pm_X7_readWhole_r1 _ (List.mem_of_getElem? (i := 14) rfl), List.forall_mem_cons.mpr ⟨pm_X7_readWhole_r1 _ (List.mem_of_getElem? (i := 15) rfl), List.forall_mem_cons.mpr ⟨pm_X7_readWhole_r1 _ (List.mem_of_getElem? (i := 16) rfl), List.forall_mem_cons.mpr ⟨pm_X7_readWhole_r1 _ (List.mem_of_getElem? (i := 17) rfl), List.forall_mem_cons.mpr ⟨pm_X7_readWhole_r1 _ (List.mem_of_getElem? (i := 18) rfl), List.forall_mem_cons.mpr ⟨pm_X7_readWhole_r1 _ (List.mem_of_getElem? (i := 19) rfl), List.forall_mem_cons.mpr ⟨pm_X7_readWhole_r1 _ (List.mem_of_getElem? (i := 20) rfl), List.forall_mem_cons.mpr ⟨pm_X7_readWhole_r1 _ (List.mem_of_getElem? (i := 21) rfl), List.forall_mem_cons.mpr ⟨pm_X7_readWhole_r1 _ (List.mem_of_getElem? (i := 22) rfl), List.forall_mem_cons.mpr ⟨pm_X7_readWhole_r1 _ (List.mem_of_getElem? (i := 23) rfl), List.forall_mem_cons.mpr ⟨pm_X7_readWhole_r2 _ (List.mem_of_getElem? (i := 0) rfl), List.forall_mem_cons.mpr ⟨pm_X7_readWhole_r2 _ (List.mem_of_getElem? (i := 1) rfl), List.forall_mem_cons.mpr ⟨pm_X7_readWhole_r2 _ (List.mem_of_getElem? (i := 2) rfl), List.forall_mem_cons.mpr ⟨pm_X7_readWhole_r2 _ (List.mem_of_getElem? (i := 3) rfl), List.forall_mem_cons.mpr ⟨pm_X7_readWhole_r2 _ (List.mem_of_getElem? (i := 4) rfl), List.forall_mem_cons.mpr ⟨pm_X7_readWhole_r2 _ (List.mem_of_getElem? (i := 5) rfl), List.forall_mem_cons.mpr ⟨pm_X7_readWhole_r2 _ (List.mem_of_getElem? (i := 6) rfl), List.forall_mem_cons.mpr ⟨pm_X7_readWhole_r2 _ (List.mem_of_getElem? (i := 7) rfl), fun _ h => absurd h List.not_mem_nil⟩⟩⟩⟩⟩⟩⟩⟩⟩⟩⟩⟩⟩⟩⟩⟩⟩⟩⟩⟩⟩⟩⟩⟩
set_option maxRecDepth 20000 in
theorem pq_X7_readWhole_X7_isWord_r2 : ∀ w ∈ wsX7_isWord_r2, w ∈ wsX7_readWhole := List.forall_mem_cons.mpr ⟨pm_X7_readWhole_r2 _ (List.mem_of_getElem? (i := 8) rfl), List.forall_mem_cons.mpr ⟨pm_X7_readWhole_r2 _ (List.mem_of_getElem? (i := 9) rfl), List.forall_mem_cons.mpr ⟨pm_X7_readWhole_r2 _ (List.mem_of_getElem? (i := 10) rfl), List.forall_mem_cons.mpr ⟨pm_X7_readWhole_r2 _ (List.mem_of_getElem? (i := 11) rfl), List.forall_mem_cons.mpr ⟨pm_X7_readWhole_r2 _ (List.mem_of_getElem? (i := 12) rfl), List.forall_mem_cons.mpr ⟨pm_X7_readWhole_r2 _ (List.mem_of_getElem? (i := 13) rfl), List.forall_mem_cons.mpr ⟨pm_X7_readWhole_r2 _ (List.mem_of_getElem? (i := 14) rfl), List.forall_mem_cons.mpr ⟨pm_X7_readWhole_r2 _ (List.mem_of_getElem? (i := 15) rfl), List.forall_mem_cons.mpr ⟨pm_X7_readWhole_r2 _ (List.mem_of_getElem? (i := 16) rfl), List.forall_mem_cons.mpr ⟨pm_X7_readWhole_r2 _ (List.mem_of_getElem? (i := 17) rfl), List.forall_mem_cons.mpr ⟨pm_X7_readWhole_r2 _ (List.mem_of_getElem? (i := 18) rfl), List.forall_mem_cons.mpr ⟨pm_X7_readWhole_r2 _ (List.mem_of_getElem? (i := 19) rfl), List.forall_mem_cons.mpr ⟨pm_X7_readWhole_r2 _ (List.mem_of_getElem? (i := 20) rfl), List.forall_mem_cons.mpr ⟨pm_X7_readWhole_r2 _ (List.mem_of_getElem? (i := 21) rfl), List.forall_mem_cons.mpr ⟨pm_X7_readWhole_r2 _ (List.mem_of_getElem? (i := 22) rfl), List.forall_mem_cons.mpr ⟨pm_X7_readWhole_r2 _ (List.mem_of_getElem? (i := 23) rfl), List.forall_mem_cons.mpr ⟨pm_X7_readWhole_r3 _ (List.mem_of_getElem? (i := 0) rfl), List.forall_mem_cons.mpr ⟨pm_X7_readWhole_r3 _ (List.mem_of_getElem? (i := 1) rfl), List.forall_mem_cons.mpr ⟨pm_X7_readWhole_r3 _ (List.mem_of_getElem? (i := 2) rfl), List.forall_mem_cons.mpr ⟨pm_X7_readWhole_r3 _ (List.mem_of_getElem? (i := 3) rfl), List.forall_mem_cons.mpr ⟨pm_X7_readWhole_r3 _ (List.mem_of_getElem? (i := 4) rfl), List.forall_mem_cons.mpr ⟨pm_X7_readWhole_r3 _ (List.mem_of_getElem? (i := 5) rfl), List.forall_mem_cons.mpr ⟨pm_X7_readWhole_r3 _ (List.mem_of_getElem? (i := 6) rfl), List.forall_mem_cons.mpr ⟨pm_X7_readWhole_r3 _ (List.mem_of_getElem? (i := 7) rfl), fun _ h => absurd h List.not_mem_nil⟩⟩⟩⟩⟩⟩⟩⟩⟩⟩⟩⟩⟩⟩⟩⟩⟩⟩⟩⟩⟩⟩⟩⟩
set_option maxRecDepth 20000 in
theorem pq_X7_readWhole_X7_isWord_r3 : ∀ w ∈ wsX7_isWord_r3, w ∈ wsX7_readWhole := List.forall_mem_cons.mpr ⟨pm_X7_readWhole_r3 _ (List.mem_of_getElem? (i := 8) rfl), List.forall_mem_cons.mpr ⟨pm_X7_readWhole_r3 _ (List.mem_of_getElem? (i := 9) rfl), List.forall_mem_cons.mpr ⟨pm_X7_readWhole_r3 _ (List.mem_of_getElem? (i := 10) rfl), List.forall_mem_cons.mpr ⟨pm_X7_readWhole_r3 _ (List.mem_of_getElem? (i := 11) rfl), List.forall_mem_cons.mpr ⟨pm_X7_readWhole_r3 _ (List.mem_of_getElem? (i := 12) rfl), fun _ h => absurd h List.not_mem_nil⟩⟩⟩⟩⟩
set_option maxRecDepth 20000 in
theorem ggX7_readWhole_X7_isWord : GoodIn wsX7_readWhole wsX7_isWord := goodIn_sub (List.forall_mem_cons.mpr ⟨pm_X7_readWhole_r1 _ (List.mem_of_getElem? (i := 7) rfl), List.forall_mem_append.mpr ⟨List.forall_mem_append.mpr ⟨pq_X7_readWhole_X7_isWord_r1, List.forall_mem_append.mpr ⟨pq_X7_readWhole_X7_isWord_r2, pq_X7_readWhole_X7_isWord_r3⟩⟩, pw_X7_readWhole_X7⟩⟩) (by decide +kernel)
set_option maxRecDepth 20000 in
theorem gX7_readWhole_X7_isWord : GoodIn wsX7_readWhole (wsV RX7 82 RX7 yX7_isWord wsX7_isWord) := goodIn_app (goodIn_of _ (by decide +kernel)) ggX7_readWhole_X7_isWord
set_option maxRecDepth 20000 in
theorem ggX7_readWhole_X7_advance : GoodIn wsX7_readWhole wsX7_advance := goodIn_sub (List.forall_mem_cons.mpr ⟨pm_X7_readWhole_r3 _ (List.mem_of_getElem? (i := 16) rfl), List.forall_mem_append.mpr ⟨List.forall_mem_cons.mpr ⟨pm_X7_readWhole_r1 _ (List.mem_of_getElem? (i := 9) rfl), List.forall_mem_cons.mpr ⟨pm_X7_readWhole_r3 _ (List.mem_of_getElem? (i := 17) rfl), List.forall_mem_cons.mpr ⟨pm_X7_readWhole_r1 _ (List.mem_of_getElem? (i := 11) rfl), List.forall_mem_cons.mpr ⟨pm_X7_readWhole_r1 _ (List.mem_of_getElem? (i := 10) rfl), List.forall_mem_cons.mpr ⟨pm_X7_readWhole_r1 _ (List.mem_of_getElem? (i := 8) rfl), List.forall_mem_cons.mpr ⟨pm_X7_readWhole_r3 _ (List.mem_of_getElem? (i := 18) rfl), List.forall_mem_cons.mpr ⟨pm_X7_readWhole_r3 _ (List.mem_of_getElem? (i := 19) rfl), List.forall_mem_cons.mpr ⟨pm_X7_readWhole_r1 _ (List.mem_of_getElem? (i := 6) rfl), List.forall_mem_cons.mpr ⟨pm_X7_readWhole_r3 _ (List.mem_of_getElem? (i := 20) rfl), List.forall_mem_cons.mpr ⟨pm_X7_readWhole_r3 _ (List.mem_of_getElem? (i := 21) rfl), List.forall_mem_cons.mpr ⟨pm_X7_readWhole_r3 _ (List.mem_of_getElem? (i := 22) rfl), List.forall_mem_cons.mpr ⟨pm_X7_readWhole_r3 _ (List.mem_of_getElem? (i := 23) rfl), List.forall_mem_cons.mpr ⟨pm_X7_readWhole_r4 _ (List.mem_of_getElem? (i := 0) rfl), fun _ h => absurd h List.not_mem_nil⟩⟩⟩⟩⟩⟩⟩⟩⟩⟩⟩⟩⟩, pw_X7_readWhole_X7⟩⟩) (by decide +kernel)
set_option maxRecDepth 20000 in
theorem gX7_readWhole_X7_advance : GoodIn wsX7_readWhole (wsV RX7 64 RX7 yX7_advance wsX7_advance) := goodIn_app (goodIn_of _ (by decide +kernel)) ggX7_readWhole_X7_advance
set_option maxRecDepth 20000 in
theorem ggX7_readWhole_X7_isNumber : GoodIn wsX7_readWhole wsX7_isNumber := goodIn_sub (List.forall_mem_cons.mpr ⟨pm_X7_readWhole_r4 _ (List.mem_of_getElem? (i := 4) rfl), List.forall_mem_append.mpr ⟨List.forall_mem_cons.mpr ⟨pm_X7_readWhole_r1 _ (List.mem_of_getElem? (i := 8) rfl), List.forall_mem_cons.mpr ⟨pm_X7_readWhole_r1 _ (List.mem_of_getElem? (i := 1) rfl), List.forall_mem_cons.mpr ⟨pm_X7_readWhole_r1 _ (List.mem_of_getElem? (i := 10) rfl), List.forall_mem_cons.mpr ⟨pm_X7_readWhole_r1 _ (List.mem_of_getElem? (i := 9) rfl), List.forall_mem_cons.mpr ⟨pm_X7_readWhole_r1 _ (List.mem_of_getElem? (i := 11) rfl), List.forall_mem_cons.mpr ⟨pm_X7_readWhole_r4 _ (List.mem_of_getElem? (i := 5) rfl), List.forall_mem_cons.mpr ⟨pm_X7_readWhole_r4 _ (List.mem_of_getElem? (i := 6) rfl), List.forall_mem_cons.mpr ⟨pm_X7_readWhole_r4 _ (List.mem_of_getElem? (i := 7) rfl), List.forall_mem_cons.mpr ⟨pm_X7_readWhole_r1 _ (List.mem_of_getElem? (i := 6) rfl), List.forall_mem_cons.mpr ⟨pm_X7_readWhole_r4 _ (List.mem_of_getElem? (i := 8) rfl), List.forall_mem_cons.mpr ⟨pm_X7_readWhole_r4 _ (List.mem_of_getElem? (i := 9) rfl), List.forall_mem_cons.mpr ⟨pm_X7_readWhole_r4 _ (List.mem_of_getElem? (i := 10) rfl), fun _ h => absurd h List.not_mem_nil⟩⟩⟩⟩⟩⟩⟩⟩⟩⟩⟩⟩, pw_X7_readWhole_X7⟩⟩) (by decide +kernel)
set_option maxRecDepth 20000 in
theorem gX7_readWhole_X7_isNumber : GoodIn wsX7_readWhole (wsV RX7 86 RX7 yX7_isNumber wsX7_isNumber) := goodIn_app (goodIn_of _ (by decide +kernel)) ggX7_readWhole_X7_isNumber
set_option maxRecDepth 20000 in
theorem ggX7_readWhole_X7_passSemicolon : GoodIn wsX7_readWhole wsX7_passSemicolon := goodIn_sub (List.forall_mem_cons.mpr ⟨pm_X7_readWhole_r4 _ (List.mem_of_getElem? (i := 14) rfl), List.forall_mem_append.mpr ⟨List.forall_mem_cons.mpr ⟨pm_X7_readWhole_r1 _ (List.mem_of_getElem? (i := 8) rfl), List.forall_mem_cons.mpr ⟨pm_X7_readWhole_r4 _ (List.mem_of_getElem? (i := 5) rfl), List.forall_mem_cons.mpr ⟨pm_X7_readWhole_r4 _ (List.mem_of_getElem? (i := 6) rfl), List.forall_mem_cons.mpr ⟨pm_X7_readWhole_r4 _ (List.mem_of_getElem? (i := 7) rfl), List.forall_mem_cons.mpr ⟨pm_X7_readWhole_r1 _ (List.mem_of_getElem? (i := 6) rfl), List.forall_mem_cons.mpr ⟨pm_X7_readWhole_r4 _ (List.mem_of_getElem? (i := 8) rfl), List.forall_mem_cons.mpr ⟨pm_X7_readWhole_r4 _ (List.mem_of_getElem? (i := 9) rfl), List.forall_mem_cons.mpr ⟨pm_X7_readWhole_r1 _ (List.mem_of_getElem? (i := 10) rfl), List.forall_mem_cons.mpr ⟨pm_X7_readWhole_r4 _ (List.mem_of_getElem? (i := 10) rfl), List.forall_mem_cons.mpr ⟨pm_X7_readWhole_r3 _ (List.mem_of_getElem? (i := 13) rfl), List.forall_mem_cons.mpr ⟨pm_X7_readWhole_r3 _ (List.mem_of_getElem? (i := 14) rfl), List.forall_mem_cons.mpr ⟨pm_X7_readWhole_r3 _ (List.mem_of_getElem? (i := 15) rfl), List.forall_mem_cons.mpr ⟨pm_X7_readWhole_r3 _ (List.mem_of_getElem? (i := 16) rfl), List.forall_mem_cons.mpr ⟨pm_X7_readWhole_r1 _ (List.mem_of_getElem? (i := 9) rfl), List.forall_mem_cons.mpr ⟨pm_X7_readWhole_r3 _ (List.mem_of_getElem? (i := 17) rfl), List.forall_mem_cons.mpr ⟨pm_X7_readWhole_r1 _ (List.mem_of_getElem? (i := 11) rfl), List.forall_mem_cons.mpr ⟨pm_X7_readWhole_r3 _ (List.mem_of_getElem? (i := 18) rfl), List.forall_mem_cons.mpr ⟨pm_X7_readWhole_r3 _ (List.mem_of_getElem? (i := 19) rfl), List.forall_mem_cons.mpr ⟨pm_X7_readWhole_r3 _ (List.mem_of_getElem? (i := 20) rfl), List.forall_mem_cons.mpr ⟨pm_X7_readWhole_r3 _ (List.mem_of_getElem? (i := 21) rfl), List.forall_mem_cons.mpr ⟨pm_X7_readWhole_r3 _ (List.mem_of_getElem? (i := 22) rfl), List.forall_mem_cons.mpr ⟨pm_X7_readWhole_r3 _ (List.mem_of_getElem? (i := 23) rfl), List.forall_mem_cons.mpr ⟨pm_X7_readWhole_r4 _ (List.mem_of_getElem? (i := 0) rfl), fun _ h => absurd h List.not_mem_nil⟩⟩⟩⟩⟩⟩⟩⟩⟩⟩⟩⟩⟩⟩⟩⟩⟩⟩⟩⟩⟩⟩⟩, pw_X7_readWhole_X7⟩⟩) (by decide +kernel)
set_option maxRecDepth 20000 in
theorem gX7_readWhole_X7_passSemicolon : GoodIn wsX7_readWhole (wsV RX7 92 RX7 yX7_passSemicolon wsX7_passSemicolon) := goodIn_app (goodIn_of _ (by decide +kernel)) ggX7_readWhole_X7_passSemicolon
theorem dX7_readWhole_0 : decode cX7_readWhole 0 = .ok (.aload_n 0, 1) := by decide +kernel
theorem dX7_readWhole_1 : decode cX7_readWhole 1 = .ok (.ldc 80, 2) := by decide +kernel
theorem dX7_readWhole_3 : decode cX7_readWhole 3 = .ok (.invokevirtual 82, 3) := by decide +kernel
theorem dX7_readWhole_6 : decode cX7_readWhole 6 = .ok (.ifCond .ne 5, 3) := by decide +kernel
theorem dX7_readWhole_9 : decode cX7_readWhole 9 = .ok (.iconst 1, 1) := by decide +kernel
theorem dX7_readWhole_10 : decode cX7_readWhole 10 = .ok (.ireturn, 1) := by decide +kernel
theorem dX7_readWhole_11 : decode cX7_readWhole 11 = .ok (.aload_n 0, 1) := by decide +kernel
theorem dX7_readWhole_12 : decode cX7_readWhole 12 = .ok (.invokevirtual 64, 3) := by decide +kernel
theorem dX7_readWhole_15 : decode cX7_readWhole 15 = .ok (.aload_n 0, 1) := by decide +kernel
theorem dX7_readWhole_16 : decode cX7_readWhole 16 = .ok (.iconst 2, 1) := by decide +kernel
theorem dX7_readWhole_17 : decode cX7_readWhole 17 = .ok (.bipush 10, 2) := by decide +kernel
theorem dX7_readWhole_19 : decode cX7_readWhole 19 = .ok (.invokevirtual 86, 3) := by decide +kernel
theorem dX7_readWhole_22 : decode cX7_readWhole 22 = .ok (.ifCond .ne 5, 3) := by decide +kernel
theorem dX7_readWhole_25 : decode cX7_readWhole 25 = .ok (.iconst 0, 1) := by decide +kernel
theorem dX7_readWhole_26 : decode cX7_readWhole 26 = .ok (.ireturn, 1) := by decide +kernel
theorem dX7_readWhole_27 : decode cX7_readWhole 27 = .ok (.aload_n 0, 1) := by decide +kernel
theorem dX7_readWhole_28 : decode cX7_readWhole 28 = .ok (.getfield 24, 3) := by decide +kernel
theorem dX7_readWhole_31 : decode cX7_readWhole 31 = .ok (.aload_n 0, 1) := by decide +kernel
theorem dX7_readWhole_32 : decode cX7_readWhole 32 = .ok (.getfield 41, 3) := by decide +kernel
theorem dX7_readWhole_35 : decode cX7_readWhole 35 = .ok (.putfield 90, 3) := by decide +kernel
theorem dX7_readWhole_38 : decode cX7_readWhole 38 = .ok (.aload_n 0, 1) := by decide +kernel
theorem dX7_readWhole_39 : decode cX7_readWhole 39 = .ok (.invokevirtual 64, 3) := by decide +kernel
theorem dX7_readWhole_42 : decode cX7_readWhole 42 = .ok (.aload_n 0, 1) := by decide +kernel
theorem dX7_readWhole_43 : decode cX7_readWhole 43 = .ok (.invokevirtual 92, 3) := by decide +kernel
theorem dX7_readWhole_46 : decode cX7_readWhole 46 = .ok (.ireturn, 1) := by decide +kernel
set_option maxRecDepth 20000 in
theorem ggX7_isNumber_X7_fail : GoodIn wsX7_isNumber wsX7_fail := goodIn_r _ [10, 11, 3, 12, 13, 14, 15, 16, 17, 18, 19, 20, 21, 22, 23, 24, 25, 26] (by decide +kernel) (by decide +kernel)
set_option maxRecDepth 20000 in
theorem gX7_isNumber_X7_fail : GoodIn wsX7_isNumber (wsV RX7 100 RX7 yX7_fail wsX7_fail) := goodIn_app (goodIn_of _ (by decide +kernel)) ggX7_isNumber_X7_fail
theorem dX7_isNumber_0 : decode cX7_isNumber 0 = .ok (.aload_n 0, 1) := by decide +kernel
theorem dX7_isNumber_1 : decode cX7_isNumber 1 = .ok (.getfield 35, 3) := by decide +kernel
theorem dX7_isNumber_4 : decode cX7_isNumber 4 = .ok (.iconst 2, 1) := by decide +kernel
theorem dX7_isNumber_5 : decode cX7_isNumber 5 = .ok (.if_icmp .eq 9, 3) := by decide +kernel
theorem dX7_isNumber_8 : decode cX7_isNumber 8 = .ok (.aload_n 0, 1) := by decide +kernel
theorem dX7_isNumber_9 : decode cX7_isNumber 9 = .ok (.iconst 1, 1) := by decide +kernel
theorem dX7_isNumber_10 : decode cX7_isNumber 10 = .ok (.invokevirtual 100, 3) := by decide +kernel
theorem dX7_isNumber_13 : decode cX7_isNumber 13 = .ok (.ireturn, 1) := by decide +kernel
theorem dX7_isNumber_14 : decode cX7_isNumber 14 = .ok (.aload_n 0, 1) := by decide +kernel
theorem dX7_isNumber_15 : decode cX7_isNumber 15 = .ok (.iconst 0, 1) := by decide +kernel
theorem dX7_isNumber_16 : decode cX7_isNumber 16 = .ok (.putfield 41, 3) := by decide +kernel
theorem dX7_isNumber_19 : decode cX7_isNumber 19 = .ok (.aload_n 0, 1) := by decide +kernel
theorem dX7_isNumber_20 : decode cX7_isNumber 20 = .ok (.getfield 38, 3) := by decide +kernel
theorem dX7_isNumber_23 : decode cX7_isNumber 23 = .ok (.istore_n 3, 1) := by decide +kernel
theorem dX7_isNumber_24 : decode cX7_isNumber 24 = .ok (.iload_n 3, 1) := by decide +kernel
theorem dX7_isNumber_25 : decode cX7_isNumber 25 = .ok (.aload_n 0, 1) := by decide +kernel
theorem dX7_isNumber_26 : decode cX7_isNumber 26 = .ok (.getfield 32, 3) := by decide +kernel
theorem dX7_isNumber_29 : decode cX7_isNumber 29 = .ok (.if_icmp .ge 30, 3) := by decide +kernel
theorem dX7_isNumber_32 : decode cX7_isNumber 32 = .ok (.aload_n 0, 1) := by decide +kernel
theorem dX7_isNumber_33 : decode cX7_isNumber 33 = .ok (.aload_n 0, 1) := by decide +kernel
theorem dX7_isNumber_34 : decode cX7_isNumber 34 = .ok (.getfield 41, 3) := by decide +kernel
theorem dX7_isNumber_37 : decode cX7_isNumber 37 = .ok (.bipush 10, 2) := by decide +kernel
theorem dX7_isNumber_39 : decode cX7_isNumber 39 = .ok (.imul, 1) := by decide +kernel
theorem dX7_isNumber_40 : decode cX7_isNumber 40 = .ok (.aload_n 0, 1) := by decide +kernel
theorem dX7_isNumber_41 : decode cX7_isNumber 41 = .ok (.getfield 28, 3) := by decide +kernel
theorem dX7_isNumber_44 : decode cX7_isNumber 44 = .ok (.iload_n 3, 1) := by decide +kernel
theorem dX7_isNumber_45 : decode cX7_isNumber 45 = .ok (.baload, 1) := by decide +kernel
theorem dX7_isNumber_46 : decode cX7_isNumber 46 = .ok (.iadd, 1) := by decide +kernel
theorem dX7_isNumber_47 : decode cX7_isNumber 47 = .ok (.bipush 48, 2) := by decide +kernel
theorem dX7_isNumber_49 : decode cX7_isNumber 49 = .ok (.isub, 1) := by decide +kernel
theorem dX7_isNumber_50 : decode cX7_isNumber 50 = .ok (.putfield 41, 3) := by decide +kernel
theorem dX7_isNumber_53 : decode cX7_isNumber 53 = .ok (.iinc 3 1, 3) := by decide +kernel
theorem dX7_isNumber_56 : decode cX7_isNumber 56 = .ok (.goto (-32), 3) := by decide +kernel
theorem dX7_isNumber_59 : decode cX7_isNumber 59 = .ok (.aload_n 0, 1) := by decide +kernel
theorem dX7_isNumber_60 : decode cX7_isNumber 60 = .ok (.getfield 41, 3) := by decide +kernel
theorem dX7_isNumber_63 : decode cX7_isNumber 63 = .ok (.iload_n 1, 1) := by decide +kernel
theorem dX7_isNumber_64 : decode cX7_isNumber 64 = .ok (.if_icmp .lt 11, 3) := by decide +kernel
theorem dX7_isNumber_67 : decode cX7_isNumber 67 = .ok (.aload_n 0, 1) := by decide +kernel
theorem dX7_isNumber_68 : decode cX7_isNumber 68 = .ok (.getfield 41, 3) := by decide +kernel
theorem dX7_isNumber_71 : decode cX7_isNumber 71 = .ok (.iload_n 2, 1) := by decide +kernel
theorem dX7_isNumber_72 : decode cX7_isNumber 72 = .ok (.if_icmp .le 11, 3) := by decide +kernel
theorem dX7_isNumber_75 : decode cX7_isNumber 75 = .ok (.aload_n 0, 1) := by decide +kernel
theorem dX7_isNumber_76 : decode cX7_isNumber 76 = .ok (.iconst 2, 1) := by decide +kernel
theorem dX7_isNumber_77 : decode cX7_isNumber 77 = .ok (.invokevirtual 100, 3) := by decide +kernel
theorem dX7_isNumber_80 : decode cX7_isNumber 80 = .ok (.ifCond .eq 7, 3) := by decide +kernel
theorem dX7_isNumber_83 : decode cX7_isNumber 83 = .ok (.iconst 1, 1) := by decide +kernel
theorem dX7_isNumber_84 : decode cX7_isNumber 84 = .ok (.goto 4, 3) := by decide +kernel
theorem dX7_isNumber_87 : decode cX7_isNumber 87 = .ok (.iconst 0, 1) := by decide +kernel
theorem dX7_isNumber_88 : decode cX7_isNumber 88 = .ok (.ireturn, 1) := by decide +kernel
set_option maxRecDepth 20000 in
theorem ggX7_passSemicolon_X7_fail : GoodIn wsX7_passSemicolon wsX7_fail := goodIn_r _ [6, 7, 8, 9, 24, 25, 26, 27, 28, 29, 30, 31, 32, 33, 34, 35, 36, 37] (by decide +kernel) (by decide +kernel)
set_option maxRecDepth 20000 in
theorem gX7_passSemicolon_X7_fail : GoodIn wsX7_passSemicolon (wsV RX7 100 RX7 yX7_fail wsX7_fail) := goodIn_app (goodIn_of _ (by decide +kernel)) ggX7_passSemicolon_X7_fail
set_option maxRecDepth 20000 in
theorem ggX7_passSemicolon_X7_advance : GoodIn wsX7_passSemicolon wsX7_advance := goodIn_r _ [13, 14, 15, 16, 8, 1, 17, 18, 5, 19, 20, 21, 22, 23, 24, 25, 26, 27, 28, 29, 30, 31, 32, 33, 34, 35, 36, 37] (by decide +kernel) (by decide +kernel)
set_option maxRecDepth 20000 in
theorem gX7_passSemicolon_X7_advance : GoodIn wsX7_passSemicolon (wsV RX7 64 RX7 yX7_advance wsX7_advance) := goodIn_app (goodIn_of _ (by decide +kernel)) ggX7_passSemicolon_X7_advance
theorem dX7_passSemicolon_0 : decode cX7_passSemicolon 0 = .ok (.aload_n 0, 1) := by decide +kernel
theorem dX7_passSemicolon_1 : decode cX7_passSemicolon 1 = .ok (.getfield 35, 3) := by decide +kernel
theorem dX7_passSemicolon_4 : decode cX7_passSemicolon 4 = .ok (.iconst 3, 1) := by decide +kernel
theorem dX7_passSemicolon_5 : decode cX7_passSemicolon 5 = .ok (.if_icmp .eq 9, 3) := by decide +kernel
theorem dX7_passSemicolon_8 : decode cX7_passSemicolon 8 = .ok (.aload_n 0, 1) := by decide +kernel
theorem dX7_passSemicolon_9 : decode cX7_passSemicolon 9 = .ok (.iconst 1, 1) := by decide +kernel
theorem dX7_passSemicolon_10 : decode cX7_passSemicolon 10 = .ok (.invokevirtual 100, 3) := by decide +kernel
theorem dX7_passSemicolon_13 : decode cX7_passSemicolon 13 = .ok (.ireturn, 1) := by decide +kernel
theorem dX7_passSemicolon_14 : decode cX7_passSemicolon 14 = .ok (.aload_n 0, 1) := by decide +kernel
theorem dX7_passSemicolon_15 : decode cX7_passSemicolon 15 = .ok (.invokevirtual 64, 3) := by decide +kernel
theorem dX7_passSemicolon_18 : decode cX7_passSemicolon 18 = .ok (.iconst 1, 1) := by decide +kernel
theorem dX7_passSemicolon_19 : decode cX7_passSemicolon 19 = .ok (.ireturn, 1) := by decide +kernel
theorem dX7_isSameRun_0 : decode cX7_isSameRun 0 = .ok (.iload_n 2, 1) := by decide +kernel
theorem dX7_isSameRun_1 : decode cX7_isSameRun 1 = .ok (.iload_n 1, 1) := by decide +kernel
theorem dX7_isSameRun_2 : decode cX7_isSameRun 2 = .ok (.isub, 1) := by decide +kernel
theorem dX7_isSameRun_3 : decode cX7_isSameRun 3 = .ok (.aload_n 0, 1) := by decide +kernel
theorem dX7_isSameRun_4 : decode cX7_isSameRun 4 = .ok (.getfield 32, 3) := by decide +kernel
theorem dX7_isSameRun_7 : decode cX7_isSameRun 7 = .ok (.aload_n 0, 1) := by decide +kernel
theorem dX7_isSameRun_8 : decode cX7_isSameRun 8 = .ok (.getfield 38, 3) := by decide +kernel
theorem dX7_isSameRun_11 : decode cX7_isSameRun 11 = .ok (.isub, 1) := by decide +kernel
theorem dX7_isSameRun_12 : decode cX7_isSameRun 12 = .ok (.if_icmp .eq 5, 3) := by decide +kernel
theorem dX7_isSameRun_15 : decode cX7_isSameRun 15 = .ok (.iconst 0, 1) := by decide +kernel
theorem dX7_isSameRun_16 : decode cX7_isSameRun 16 = .ok (.ireturn, 1) := by decide +kernel
theorem dX7_isSameRun_17 : decode cX7_isSameRun 17 = .ok (.iconst 0, 1) := by decide +kernel
theorem dX7_isSameRun_18 : decode cX7_isSameRun 18 = .ok (.istore_n 3, 1) := by decide +kernel
theorem dX7_isSameRun_19 : decode cX7_isSameRun 19 = .ok (.iload_n 3, 1) := by decide +kernel
theorem dX7_isSameRun_20 : decode cX7_isSameRun 20 = .ok (.iload_n 2, 1) := by decide +kernel
theorem dX7_isSameRun_21 : decode cX7_isSameRun 21 = .ok (.iload_n 1, 1) := by decide +kernel
theorem dX7_isSameRun_22 : decode cX7_isSameRun 22 = .ok (.isub, 1) := by decide +kernel
theorem dX7_isSameRun_23 : decode cX7_isSameRun 23 = .ok (.if_icmp .ge 33, 3) := by decide +kernel
theorem dX7_isSameRun_26 : decode cX7_isSameRun 26 = .ok (.aload_n 0, 1) := by decide +kernel
theorem dX7_isSameRun_27 : decode cX7_isSameRun 27 = .ok (.getfield 28, 3) := by decide +kernel
theorem dX7_isSameRun_30 : decode cX7_isSameRun 30 = .ok (.iload_n 1, 1) := by decide +kernel
theorem dX7_isSameRun_31 : decode cX7_isSameRun 31 = .ok (.iload_n 3, 1) := by decide +kernel
theorem dX7_isSameRun_32 : decode cX7_isSameRun 32 = .ok (.iadd, 1) := by decide +kernel
theorem dX7_isSameRun_33 : decode cX7_isSameRun 33 = .ok (.baload, 1) := by decide +kernel
theorem dX7_isSameRun_34 : decode cX7_isSameRun 34 = .ok (.aload_n 0, 1) := by decide +kernel
theorem dX7_isSameRun_35 : decode cX7_isSameRun 35 = .ok (.getfield 28, 3) := by decide +kernel
theorem dX7_isSameRun_38 : decode cX7_isSameRun 38 = .ok (.aload_n 0, 1) := by decide +kernel
theorem dX7_isSameRun_39 : decode cX7_isSameRun 39 = .ok (.getfield 38, 3) := by decide +kernel
theorem dX7_isSameRun_42 : decode cX7_isSameRun 42 = .ok (.iload_n 3, 1) := by decide +kernel
theorem dX7_isSameRun_43 : decode cX7_isSameRun 43 = .ok (.iadd, 1) := by decide +kernel
theorem dX7_isSameRun_44 : decode cX7_isSameRun 44 = .ok (.baload, 1) := by decide +kernel
theorem dX7_isSameRun_45 : decode cX7_isSameRun 45 = .ok (.if_icmp .eq 5, 3) := by decide +kernel
theorem dX7_isSameRun_48 : decode cX7_isSameRun 48 = .ok (.iconst 0, 1) := by decide +kernel
theorem dX7_isSameRun_49 : decode cX7_isSameRun 49 = .ok (.ireturn, 1) := by decide +kernel
theorem dX7_isSameRun_50 : decode cX7_isSameRun 50 = .ok (.iinc 3 1, 3) := by decide +kernel
theorem dX7_isSameRun_53 : decode cX7_isSameRun 53 = .ok (.goto (-34), 3) := by decide +kernel
theorem dX7_isSameRun_56 : decode cX7_isSameRun 56 = .ok (.iconst 1, 1) := by decide +kernel
theorem dX7_isSameRun_57 : decode cX7_isSameRun 57 = .ok (.ireturn, 1) := by decide +kernel
theorem kk_X7_isNumber_0 : Cond.fieldLink RX7 35 "PaidBySigns$Reader" "token" "I" ∈ wsX7_isNumber := by decide +kernel
theorem kk_X7_isNumber_1 : Cond.fieldLink RX7 41 "PaidBySigns$Reader" "value" "I" ∈ wsX7_isNumber := by decide +kernel
theorem kk_X7_isNumber_2 : Cond.fieldLink RX7 38 "PaidBySigns$Reader" "start" "I" ∈ wsX7_isNumber := by decide +kernel
theorem kk_X7_isNumber_3 : Cond.fieldLink RX7 32 "PaidBySigns$Reader" "next" "I" ∈ wsX7_isNumber := by decide +kernel
theorem kk_X7_fail_0 : Cond.fieldLink RX7 15 "PaidBySigns$Reader" "faultKind" "I" ∈ wsX7_fail := by decide +kernel
theorem kk_X7_fail_1 : Cond.fieldLink RX7 38 "PaidBySigns$Reader" "start" "I" ∈ wsX7_fail := by decide +kernel
theorem kk_X7_fail_2 : Cond.fieldLink RX7 18 "PaidBySigns$Reader" "faultPlace" "I" ∈ wsX7_fail := by decide +kernel
theorem kk_X7_isNumber_4 : Cond.fieldLink RX7 28 "PaidBySigns$Reader" "text" "[B" ∈ wsX7_isNumber := by decide +kernel
theorem kk_X7_readWhole_0 : Cond.fieldLink RX7 24 "PaidBySigns$Reader" "into" "LPaidBySigns$Hire;" ∈ wsX7_readWhole := pm_X7_readWhole_r1 _ (List.mem_of_getElem? (i := 0) rfl)
theorem kk_X7_readWhole_1 : Cond.fieldLink RX7 41 "PaidBySigns$Reader" "value" "I" ∈ wsX7_readWhole := pm_X7_readWhole_r1 _ (List.mem_of_getElem? (i := 1) rfl)
theorem kk_X7_readWhole_2 : Cond.fieldLink RX7 90 "PaidBySigns$Hire" "whole" "I" ∈ wsX7_readWhole := pm_X7_readWhole_r1 _ (List.mem_of_getElem? (i := 2) rfl)
theorem kk_X7_passSemicolon_0 : Cond.fieldLink RX7 35 "PaidBySigns$Reader" "token" "I" ∈ wsX7_passSemicolon := by decide +kernel
theorem kk_X7_isSameRun_0 : Cond.fieldLink RX7 32 "PaidBySigns$Reader" "next" "I" ∈ wsX7_isSameRun := by decide +kernel
theorem kk_X7_isSameRun_1 : Cond.fieldLink RX7 38 "PaidBySigns$Reader" "start" "I" ∈ wsX7_isSameRun := by decide +kernel
theorem kk_X7_isSameRun_2 : Cond.fieldLink RX7 28 "PaidBySigns$Reader" "text" "[B" ∈ wsX7_isSameRun := by decide +kernel
theorem iw_X7_isNumber_X7 : ∀ w ∈ wsX70, w ∈ wsX7_isNumber := by decide +kernel
theorem iw_X7_fail_X7 : ∀ w ∈ wsX70, w ∈ wsX7_fail := by decide +kernel
theorem iw_X7_readWhole_X7 : ∀ w ∈ wsX70, w ∈ wsX7_readWhole := pw_X7_readWhole_X7
theorem iw_X7_readWhole_X3 : ∀ w ∈ wsX30, w ∈ wsX7_readWhole := pw_X7_readWhole_X3
theorem iw_X7_passSemicolon_X7 : ∀ w ∈ wsX70, w ∈ wsX7_passSemicolon := by decide +kernel
theorem iw_X7_isSameRun_X7 : ∀ w ∈ wsX70, w ∈ wsX7_isSameRun := by decide +kernel
