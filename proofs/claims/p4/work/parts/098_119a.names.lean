def tyX9 : Nat → FieldType := fun k => match k with
  | 0 => .object "PaidBySigns$Reader"
  | 1 => .object "PaidBySigns$Hire"
  | 2 => .array .int
  | 3 => .object "PaidBySigns$Fraction"
  | 4 => .object "PaidBySigns$Fraction"
  | 5 => .object "PaidBySigns$Fraction"
  | 6 => .array .long
  | 7 => .array .long
  | 8 => .boolean
  | 9 => .object "PaidBySigns$LeastCost"
  | 10 => .object "PaidBySigns$OneSum"
  | 11 => .object "PaidBySigns$CoinSearch"
  | 12 => .object "PaidBySigns$Proofs"
  | _ => .object "PaidBySigns$Diary"
theorem nmX9 : ∀ a, a < 14 → ∀ b, b < 14 → a ≠ b → (TX9 a).2.1 ≠ (TX9 b).2.1 := by decide +kernel
theorem tyX9_ok : ∀ k, k < 14 → parseFieldDescriptor (TX9 k).2.2.1 = some (tyX9 k) := by decide +kernel
abbrev cX9_hire : ByteArray := prog_1_method_4_code
def yX9_hire : MethodName := ⟨RX9, "hire", "()I"⟩
abbrev cX9_fault : ByteArray := prog_1_method_5_code
def yX9_fault : MethodName := ⟨RX9, "fault", "(I)I"⟩
abbrev cX9_told : ByteArray := prog_1_method_6_code
def yX9_told : MethodName := ⟨RX9, "told", "(I)I"⟩
abbrev cX9_toldOfOne : ByteArray := prog_1_method_38_code
def yX9_toldOfOne : MethodName := ⟨RX9, "toldOfOne", "(I)I"⟩
abbrev cX9_isWork : ByteArray := prog_1_method_41_code
def yX9_isWork : MethodName := ⟨RX9, "isWork", "(I)Z"⟩
def wsX9_hire_r1 : List Cond := [Cond.fieldLink RX9 10 "PaidBySigns" "reader" "LPaidBySigns$Reader;", Cond.fieldLink RX9 86 "PaidBySigns$Reader" "length" "I", Cond.fieldLink RX9 19 "PaidBySigns" "hire" "LPaidBySigns$Hire;", Cond.fieldLink RX9 98 "PaidBySigns$Reader" "into" "LPaidBySigns$Hire;", Cond.fieldLink RX9 23 "PaidBySigns" "hand" "[I", Cond.fieldLink RX9 101 "PaidBySigns$Hire" "least" "I", Cond.fieldLink RX9 30 "PaidBySigns" "latest" "LPaidBySigns$Fraction;", Cond.fieldLink RX9 47 "PaidBySigns" "hasWages" "Z", Cond.fieldLink RX9 75 "PaidBySigns" "proofs" "LPaidBySigns$Proofs;", Cond.fieldLink RX9 82 "PaidBySigns" "diary" "LPaidBySigns$Diary;", Cond.fieldLink RX9 115 "PaidBySigns$Hire" "works" "I", Cond.methodLink RX9 94 yX7_readText, Cond.instanceMethod yX7_readText, Cond.selects RX7 yX7_readText yX7_readText, Cond.initialized RX7, Cond.code yX7_readText cX7_readText 1 (some .boolean), Cond.fieldLink RX7 32 "PaidBySigns$Reader" "next" "I", Cond.fieldLink RX7 24 "PaidBySigns$Reader" "into" "LPaidBySigns$Hire;", Cond.fieldLink RX7 51 "PaidBySigns$Reader" "hasElse" "Z", Cond.fieldLink RX7 55 "PaidBySigns$Reader" "hasLeast" "Z", Cond.fieldLink RX7 58 "PaidBySigns$Reader" "hasFeel" "Z", Cond.fieldLink RX7 15 "PaidBySigns$Reader" "faultKind" "I", Cond.fieldLink RX7 18 "PaidBySigns$Reader" "faultPlace" "I", Cond.methodLink RX7 61 yX3_clear]
def wsX9_hire_r2 : List Cond := [Cond.instanceMethod yX3_clear, Cond.selects RX3 yX3_clear yX3_clear, Cond.initialized RX3, Cond.code yX3_clear cX3_clear 1 none, Cond.fieldLink RX3 32 "PaidBySigns$Hire" "signs" "I", Cond.fieldLink RX3 36 "PaidBySigns$Hire" "works" "I", Cond.fieldLink RX3 39 "PaidBySigns$Hire" "whole" "I", Cond.fieldLink RX3 42 "PaidBySigns$Hire" "otherwise" "I", Cond.fieldLink RX3 45 "PaidBySigns$Hire" "least" "I", Cond.fieldLink RX3 48 "PaidBySigns$Hire" "rates" "I", Cond.fieldLink RX3 23 "PaidBySigns$Hire" "rate" "[I", Cond.methodLink RX7 64 yX7_advance, Cond.instanceMethod yX7_advance, Cond.selects RX7 yX7_advance yX7_advance, Cond.code yX7_advance cX7_advance 1 none, Cond.fieldLink RX7 9 "PaidBySigns$Reader" "length" "I", Cond.fieldLink RX7 28 "PaidBySigns$Reader" "text" "[B", Cond.fieldLink RX7 38 "PaidBySigns$Reader" "start" "I", Cond.fieldLink RX7 35 "PaidBySigns$Reader" "token" "I", Cond.methodLink RX7 180 yX7_kindOf, Cond.static yX7_kindOf, Cond.code yX7_kindOf cX7_kindOf 1 (some .int), Cond.methodLink RX7 184 yX7_takeRun, Cond.instanceMethod yX7_takeRun]
def wsX9_hire_r3 : List Cond := [Cond.selects RX7 yX7_takeRun yX7_takeRun, Cond.code yX7_takeRun cX7_takeRun 2 none, Cond.methodLink RX7 67 yX7_readWhole, Cond.instanceMethod yX7_readWhole, Cond.selects RX7 yX7_readWhole yX7_readWhole, Cond.code yX7_readWhole cX7_readWhole 1 (some .boolean), Cond.fieldLink RX7 41 "PaidBySigns$Reader" "value" "I", Cond.fieldLink RX7 90 "PaidBySigns$Hire" "whole" "I", Cond.methodLink RX7 82 yX7_isWord, Cond.instanceMethod yX7_isWord, Cond.selects RX7 yX7_isWord yX7_isWord, Cond.code yX7_isWord cX7_isWord 3 (some .boolean), Cond.methodLink RX7 171 yJ0_length_8abf5, Cond.instanceMethod yJ0_length_8abf5, Cond.selects RJ0 yJ0_length_8abf5 yJ0_length_8abf5, Cond.initialized RJ0, Cond.code yJ0_length_8abf5 cJ0_length_8abf5 1 (some .int), Cond.fieldLink RJ0 9 "java/lang/String" "value" "[B", Cond.methodLink RJ0 335 yJ0_coder_7d493, Cond.instanceMethod yJ0_coder_7d493, Cond.selects RJ0 yJ0_coder_7d493 yJ0_coder_7d493, Cond.code yJ0_coder_7d493 cJ0_coder_7d493 1 (some .byte), Cond.fieldLink RJ0 38 "java/lang/String" "COMPACT_STRINGS" "Z", Cond.fieldLink RJ0 15 "java/lang/String" "coder" "B"]
def wsX9_hire_r4 : List Cond := [Cond.methodLink RX7 176 yJ0_charAt_5068e, Cond.instanceMethod yJ0_charAt_5068e, Cond.selects RJ0 yJ0_charAt_5068e yJ0_charAt_5068e, Cond.code yJ0_charAt_5068e cJ0_charAt_5068e 2 (some .char), Cond.methodLink RJ0 492 yJ0_isLatin1_aae02, Cond.instanceMethod yJ0_isLatin1_aae02, Cond.selects RJ0 yJ0_isLatin1_aae02 yJ0_isLatin1_aae02, Cond.code yJ0_isLatin1_aae02 cJ0_isLatin1_aae02 1 (some .boolean), Cond.methodLink RJ0 495 yJ1_charAt_3b067, Cond.static yJ1_charAt_3b067, Cond.initialized RJ1, Cond.code yJ1_charAt_3b067 cJ1_charAt_3b067 2 (some .char), Cond.methodLink RJ1 9 yJ0_checkIndex_df160, Cond.static yJ0_checkIndex_df160, Cond.code yJ0_checkIndex_df160 cJ0_checkIndex_df160 2 none, Cond.fieldLink RJ0 1053 "jdk/internal/util/Preconditions" "SIOOBE_FORMATTER" "Ljava/util/function/BiFunction;", Cond.methodLink RJ0 1059 yJ3_checkIndex_8e157, Cond.static yJ3_checkIndex_8e157, Cond.initialized RJ3, Cond.code yJ3_checkIndex_8e157 cJ3_checkIndex_8e157 3 (some .int), Cond.methodLink RJ0 498 yJ2_charAt_3b067, Cond.static yJ2_charAt_3b067, Cond.initialized RJ2, Cond.code yJ2_charAt_3b067 cJ2_charAt_3b067 2 (some .char)]
def wsX9_hire_r5 : List Cond := [Cond.methodLink RJ2 67 yJ2_checkIndex_2214a, Cond.static yJ2_checkIndex_2214a, Cond.code yJ2_checkIndex_2214a cJ2_checkIndex_2214a 2 none, Cond.methodLink RJ2 48 yJ2_length_9d52b, Cond.static yJ2_length_9d52b, Cond.code yJ2_length_9d52b cJ2_length_9d52b 1 (some .int), Cond.methodLink RJ2 414 yJ0_checkIndex_df160, Cond.methodLink RJ2 71 yJ2_getChar_3b067, Cond.static yJ2_getChar_3b067, Cond.code yJ2_getChar_3b067 cJ2_getChar_3b067 2 (some .char), Cond.fieldLink RJ2 44 "java/lang/StringUTF16" "$assertionsDisabled" "Z", Cond.fieldLink RJ2 59 "java/lang/StringUTF16" "HI_BYTE_SHIFT" "I", Cond.fieldLink RJ2 63 "java/lang/StringUTF16" "LO_BYTE_SHIFT" "I", Cond.methodLink RX7 86 yX7_isNumber, Cond.instanceMethod yX7_isNumber, Cond.selects RX7 yX7_isNumber yX7_isNumber, Cond.code yX7_isNumber cX7_isNumber 4 (some .boolean), Cond.methodLink RX7 100 yX7_fail, Cond.instanceMethod yX7_fail, Cond.selects RX7 yX7_fail yX7_fail, Cond.code yX7_fail cX7_fail 2 (some .boolean), Cond.methodLink RX7 92 yX7_passSemicolon, Cond.instanceMethod yX7_passSemicolon, Cond.selects RX7 yX7_passSemicolon yX7_passSemicolon]
def wsX9_hire_r6 : List Cond := [Cond.code yX7_passSemicolon cX7_passSemicolon 1 (some .boolean), Cond.methodLink RX7 71 yX7_readSigns, Cond.instanceMethod yX7_readSigns, Cond.selects RX7 yX7_readSigns yX7_readSigns, Cond.code yX7_readSigns cX7_readSigns 1 (some .boolean), Cond.fieldLink RX7 95 "PaidBySigns$Hire" "signs" "I", Cond.methodLink RX7 104 yX7_readSign, Cond.instanceMethod yX7_readSign, Cond.selects RX7 yX7_readSign yX7_readSign, Cond.code yX7_readSign cX7_readSign 1 (some .boolean), Cond.fieldLink RX7 115 "PaidBySigns$Hire" "brings" "[I", Cond.methodLink RX7 107 yX7_passName, Cond.instanceMethod yX7_passName, Cond.selects RX7 yX7_passName yX7_passName, Cond.code yX7_passName cX7_passName 3 (some .boolean), Cond.fieldLink RX7 44 "PaidBySigns$Reader" "nameStart" "[I", Cond.fieldLink RX7 48 "PaidBySigns$Reader" "nameEnd" "[I", Cond.methodLink RX7 168 yX7_isSameRun, Cond.instanceMethod yX7_isSameRun, Cond.selects RX7 yX7_isSameRun yX7_isSameRun, Cond.code yX7_isSameRun cX7_isSameRun 4 (some .boolean), Cond.methodLink RX7 112 yX7_passWord, Cond.instanceMethod yX7_passWord, Cond.selects RX7 yX7_passWord yX7_passWord]
def wsX9_hire_r7 : List Cond := [Cond.code yX7_passWord cX7_passWord 2 (some .boolean), Cond.methodLink RX7 74 yX7_readWorks, Cond.instanceMethod yX7_readWorks, Cond.selects RX7 yX7_readWorks yX7_readWorks, Cond.code yX7_readWorks cX7_readWorks 1 (some .boolean), Cond.fieldLink RX7 117 "PaidBySigns$Hire" "works" "I", Cond.methodLink RX7 122 yX7_readWork, Cond.instanceMethod yX7_readWork, Cond.selects RX7 yX7_readWork yX7_readWork, Cond.code yX7_readWork cX7_readWork 1 (some .boolean), Cond.fieldLink RX7 127 "PaidBySigns$Hire" "costs" "[I", Cond.fieldLink RX7 131 "PaidBySigns$Hire" "chances" "[[I", Cond.methodLink RX7 134 yX7_readChances, Cond.instanceMethod yX7_readChances, Cond.selects RX7 yX7_readChances yX7_readChances, Cond.code yX7_readChances cX7_readChances 4 (some .boolean), Cond.methodLink RX7 77 yX7_readRests, Cond.instanceMethod yX7_readRests, Cond.selects RX7 yX7_readRests yX7_readRests, Cond.code yX7_readRests cX7_readRests 3 (some .boolean), Cond.fieldLink RX7 144 "PaidBySigns$Hire" "otherwise" "I", Cond.fieldLink RX7 149 "PaidBySigns$Hire" "least" "I", Cond.methodLink RX7 140 yX7_readNumberOnce, Cond.instanceMethod yX7_readNumberOnce]
def wsX9_hire_r8 : List Cond := [Cond.selects RX7 yX7_readNumberOnce yX7_readNumberOnce, Cond.code yX7_readNumberOnce cX7_readNumberOnce 2 (some .boolean), Cond.methodLink RX7 153 yX7_readFeel, Cond.instanceMethod yX7_readFeel, Cond.selects RX7 yX7_readFeel yX7_readFeel, Cond.code yX7_readFeel cX7_readFeel 1 (some .boolean), Cond.fieldLink RX7 156 "PaidBySigns$Hire" "rate" "[I", Cond.fieldLink RX7 159 "PaidBySigns$Hire" "rates" "I", Cond.methodLink RX7 162 yX7_readStep, Cond.instanceMethod yX7_readStep, Cond.selects RX7 yX7_readStep yX7_readStep, Cond.code yX7_readStep cX7_readStep 3 (some .boolean), Cond.fieldLink RX7 165 "PaidBySigns$Hire" "mark" "[I", Cond.methodLink RX9 104 yJ7_fill_53178, Cond.static yJ7_fill_53178, Cond.initialized RJ7, Cond.code yJ7_fill_53178 cJ7_fill_53178 4 none, Cond.methodLink RX9 110 yX2_forget, Cond.instanceMethod yX2_forget, Cond.selects RX2 yX2_forget yX2_forget, Cond.initialized RX2, Cond.code yX2_forget cX2_forget 1 none, Cond.constantLong RX2 9 (-2000000000), Cond.fieldLink RX2 11 "PaidBySigns$Fraction" "upper" "J"]
def wsX9_hire_r9 : List Cond := [Cond.fieldLink RX2 17 "PaidBySigns$Fraction" "lower" "J", Cond.methodLink RX9 113 yX6_forget, Cond.instanceMethod yX6_forget, Cond.selects RX6 yX6_forget yX6_forget, Cond.initialized RX6, Cond.code yX6_forget cX6_forget 1 none, Cond.fieldLink RX6 9 "PaidBySigns$Proofs" "lowerNumber" "I", Cond.fieldLink RX6 19 "PaidBySigns$Proofs" "pressOfElse" "I", Cond.fieldLink RX6 15 "PaidBySigns$Proofs" "press" "[I", Cond.fieldLink RX6 22 "PaidBySigns$Proofs" "mixed" "[I", Cond.methodLink RX6 25 yJ7_fill_53178, Cond.methodLink RX9 114 yX1_forget, Cond.instanceMethod yX1_forget, Cond.selects RX1 yX1_forget yX1_forget, Cond.initialized RX1, Cond.code yX1_forget cX1_forget 1 none, Cond.fieldLink RX1 9 "PaidBySigns$Diary" "seen" "I", Cond.fieldLink RX1 15 "PaidBySigns$Diary" "rights" "I", Cond.fieldLink RX1 18 "PaidBySigns$Diary" "latestStep" "I"]
def wsX9_hire : List Cond := .code yX9_hire cX9_hire 3 (some .int) :: ((wsX9_hire_r1 ++ (wsX9_hire_r2 ++ (wsX9_hire_r3 ++ (wsX9_hire_r4 ++ (wsX9_hire_r5 ++ (wsX9_hire_r6 ++ (wsX9_hire_r7 ++ (wsX9_hire_r8 ++ wsX9_hire_r9)))))))) ++ wsX90 ++ wsX70 ++ wsX30 ++ wsX20 ++ wsX60 ++ wsX10)
def wsX9_fault : List Cond := .code yX9_fault cX9_fault 2 (some .int) :: ([.fieldLink RX9 10 "PaidBySigns" "reader" "LPaidBySigns$Reader;", .fieldLink RX9 118 "PaidBySigns$Reader" "faultKind" "I", .fieldLink RX9 121 "PaidBySigns$Reader" "faultPlace" "I"] ++ wsX90 ++ wsX70)
def wsX9_toldOfOne : List Cond := .code yX9_toldOfOne cX9_toldOfOne 2 (some .int) :: ([.fieldLink RX9 19 "PaidBySigns" "hire" "LPaidBySigns$Hire;", .fieldLink RX9 124 "PaidBySigns$Hire" "signs" "I", .fieldLink RX9 269 "PaidBySigns$Hire" "brings" "[I", .fieldLink RX9 115 "PaidBySigns$Hire" "works" "I", .fieldLink RX9 187 "PaidBySigns$Hire" "costs" "[I", .fieldLink RX9 133 "PaidBySigns$Hire" "rates" "I", .fieldLink RX9 301 "PaidBySigns$Hire" "rate" "[I", .fieldLink RX9 304 "PaidBySigns$Hire" "mark" "[I"] ++ wsX90 ++ wsX30)
def wsX9_told : List Cond := .code yX9_told cX9_told 2 (some .int) :: ([.fieldLink RX9 19 "PaidBySigns" "hire" "LPaidBySigns$Hire;", .fieldLink RX9 124 "PaidBySigns$Hire" "signs" "I", .fieldLink RX9 115 "PaidBySigns$Hire" "works" "I", .fieldLink RX9 127 "PaidBySigns$Hire" "whole" "I", .fieldLink RX9 130 "PaidBySigns$Hire" "otherwise" "I", .fieldLink RX9 101 "PaidBySigns$Hire" "least" "I", .fieldLink RX9 133 "PaidBySigns$Hire" "rates" "I", .methodLink RX9 136 yX9_toldOfOne, .instanceMethod yX9_toldOfOne, .selects RX9 yX9_toldOfOne yX9_toldOfOne, .initialized RX9, .code yX9_toldOfOne cX9_toldOfOne 2 (some .int), .fieldLink RX9 269 "PaidBySigns$Hire" "brings" "[I", .fieldLink RX9 187 "PaidBySigns$Hire" "costs" "[I", .fieldLink RX9 301 "PaidBySigns$Hire" "rate" "[I", .fieldLink RX9 304 "PaidBySigns$Hire" "mark" "[I"] ++ wsX90 ++ wsX30)
def wsX9_isWork : List Cond := .code yX9_isWork cX9_isWork 2 (some .boolean) :: ([.fieldLink RX9 19 "PaidBySigns" "hire" "LPaidBySigns$Hire;", .fieldLink RX9 115 "PaidBySigns$Hire" "works" "I"] ++ wsX90 ++ wsX30)
theorem pm_X9_hire_r1 : ∀ w ∈ wsX9_hire_r1, w ∈ wsX9_hire := fun _ h => List.mem_cons_of_mem _ (List.mem_append_left _ (List.mem_append_left _ (List.mem_append_left _ (List.mem_append_left _ (List.mem_append_left _ (List.mem_append_left _ (List.mem_append_left _ h)))))))
theorem pm_X9_hire_r2 : ∀ w ∈ wsX9_hire_r2, w ∈ wsX9_hire := fun _ h => List.mem_cons_of_mem _ (List.mem_append_left _ (List.mem_append_left _ (List.mem_append_left _ (List.mem_append_left _ (List.mem_append_left _ (List.mem_append_left _ (List.mem_append_right _ (List.mem_append_left _ h))))))))
theorem pm_X9_hire_r3 : ∀ w ∈ wsX9_hire_r3, w ∈ wsX9_hire := fun _ h => List.mem_cons_of_mem _ (List.mem_append_left _ (List.mem_append_left _ (List.mem_append_left _ (List.mem_append_left _ (List.mem_append_left _ (List.mem_append_left _ (List.mem_append_right _ (List.mem_append_right _ (List.mem_append_left _ h)))))))))
theorem pm_X9_hire_r4 : ∀ w ∈ wsX9_hire_r4, w ∈ wsX9_hire := fun _ h => List.mem_cons_of_mem _ (List.mem_append_left _ (List.mem_append_left _ (List.mem_append_left _ (List.mem_append_left _ (List.mem_append_left _ (List.mem_append_left _ (List.mem_append_right _ (List.mem_append_right _ (List.mem_append_right _ (List.mem_append_left _ h))))))))))
theorem pm_X9_hire_r5 : ∀ w ∈ wsX9_hire_r5, w ∈ wsX9_hire := fun _ h => List.mem_cons_of_mem _ (List.mem_append_left _ (List.mem_append_left _ (List.mem_append_left _ (List.mem_append_left _ (List.mem_append_left _ (List.mem_append_left _ (List.mem_append_right _ (List.mem_append_right _ (List.mem_append_right _ (List.mem_append_right _ (List.mem_append_left _ h)))))))))))
theorem pm_X9_hire_r6 : ∀ w ∈ wsX9_hire_r6, w ∈ wsX9_hire := fun _ h => List.mem_cons_of_mem _ (List.mem_append_left _ (List.mem_append_left _ (List.mem_append_left _ (List.mem_append_left _ (List.mem_append_left _ (List.mem_append_left _ (List.mem_append_right _ (List.mem_append_right _ (List.mem_append_right _ (List.mem_append_right _ (List.mem_append_right _ (List.mem_append_left _ h))))))))))))
theorem pm_X9_hire_r7 : ∀ w ∈ wsX9_hire_r7, w ∈ wsX9_hire := fun _ h => List.mem_cons_of_mem _ (List.mem_append_left _ (List.mem_append_left _ (List.mem_append_left _ (List.mem_append_left _ (List.mem_append_left _ (List.mem_append_left _ (List.mem_append_right _ (List.mem_append_right _ (List.mem_append_right _ (List.mem_append_right _ (List.mem_append_right _ (List.mem_append_right _ (List.mem_append_left _ h)))))))))))))
theorem pm_X9_hire_r8 : ∀ w ∈ wsX9_hire_r8, w ∈ wsX9_hire := fun _ h => List.mem_cons_of_mem _ (List.mem_append_left _ (List.mem_append_left _ (List.mem_append_left _ (List.mem_append_left _ (List.mem_append_left _ (List.mem_append_left _ (List.mem_append_right _ (List.mem_append_right _ (List.mem_append_right _ (List.mem_append_right _ (List.mem_append_right _ (List.mem_append_right _ (List.mem_append_right _ (List.mem_append_left _ h))))))))))))))
theorem pm_X9_hire_r9 : ∀ w ∈ wsX9_hire_r9, w ∈ wsX9_hire := fun _ h => List.mem_cons_of_mem _ (List.mem_append_left _ (List.mem_append_left _ (List.mem_append_left _ (List.mem_append_left _ (List.mem_append_left _ (List.mem_append_left _ (List.mem_append_right _ (List.mem_append_right _ (List.mem_append_right _ (List.mem_append_right _ (List.mem_append_right _ (List.mem_append_right _ (List.mem_append_right _ (List.mem_append_right _ (h)))))))))))))))
theorem pw_X9_hire_X9 : ∀ w ∈ wsX90, w ∈ wsX9_hire := fun _ h => List.mem_cons_of_mem _ (List.mem_append_left _ (List.mem_append_left _ (List.mem_append_left _ (List.mem_append_left _ (List.mem_append_left _ (List.mem_append_right _ h))))))
theorem pw_X9_hire_X7 : ∀ w ∈ wsX70, w ∈ wsX9_hire := fun _ h => List.mem_cons_of_mem _ (List.mem_append_left _ (List.mem_append_left _ (List.mem_append_left _ (List.mem_append_left _ (List.mem_append_right _ h)))))
theorem pw_X9_hire_X3 : ∀ w ∈ wsX30, w ∈ wsX9_hire := fun _ h => List.mem_cons_of_mem _ (List.mem_append_left _ (List.mem_append_left _ (List.mem_append_left _ (List.mem_append_right _ h))))
theorem pw_X9_hire_X2 : ∀ w ∈ wsX20, w ∈ wsX9_hire := fun _ h => List.mem_cons_of_mem _ (List.mem_append_left _ (List.mem_append_left _ (List.mem_append_right _ h)))
theorem pw_X9_hire_X6 : ∀ w ∈ wsX60, w ∈ wsX9_hire := fun _ h => List.mem_cons_of_mem _ (List.mem_append_left _ (List.mem_append_right _ h))
theorem pw_X9_hire_X1 : ∀ w ∈ wsX10, w ∈ wsX9_hire := fun _ h => List.mem_cons_of_mem _ (List.mem_append_right _ h)
set_option maxRecDepth 20000 in
theorem pq_X9_hire_X7_readText_r1 : ∀ w ∈ wsX7_readText_r1, w ∈ wsX9_hire := List.forall_mem_cons.mpr ⟨pm_X9_hire_r1 _ (List.mem_of_getElem? (i := 16) rfl), List.forall_mem_cons.mpr ⟨pm_X9_hire_r1 _ (List.mem_of_getElem? (i := 17) rfl), List.forall_mem_cons.mpr ⟨pm_X9_hire_r1 _ (List.mem_of_getElem? (i := 18) rfl), List.forall_mem_cons.mpr ⟨pm_X9_hire_r1 _ (List.mem_of_getElem? (i := 19) rfl), List.forall_mem_cons.mpr ⟨pm_X9_hire_r1 _ (List.mem_of_getElem? (i := 20) rfl), List.forall_mem_cons.mpr ⟨pm_X9_hire_r1 _ (List.mem_of_getElem? (i := 21) rfl), List.forall_mem_cons.mpr ⟨pm_X9_hire_r1 _ (List.mem_of_getElem? (i := 22) rfl), List.forall_mem_cons.mpr ⟨pm_X9_hire_r1 _ (List.mem_of_getElem? (i := 23) rfl), List.forall_mem_cons.mpr ⟨pm_X9_hire_r2 _ (List.mem_of_getElem? (i := 0) rfl), List.forall_mem_cons.mpr ⟨pm_X9_hire_r2 _ (List.mem_of_getElem? (i := 1) rfl), List.forall_mem_cons.mpr ⟨pm_X9_hire_r2 _ (List.mem_of_getElem? (i := 2) rfl), List.forall_mem_cons.mpr ⟨pm_X9_hire_r2 _ (List.mem_of_getElem? (i := 3) rfl), List.forall_mem_cons.mpr ⟨pm_X9_hire_r2 _ (List.mem_of_getElem? (i := 4) rfl), List.forall_mem_cons.mpr ⟨pm_X9_hire_r2 _ (List.mem_of_getElem? (i := 5) rfl), List.forall_mem_cons.mpr ⟨pm_X9_hire_r2 _ (List.mem_of_getElem? (i := 6) rfl), List.forall_mem_cons.mpr ⟨pm_X9_hire_r2 _ (List.mem_of_getElem? (i := 7) rfl), List.forall_mem_cons.mpr ⟨pm_X9_hire_r2 _ (List.mem_of_getElem? (i := 8) rfl), List.forall_mem_cons.mpr ⟨pm_X9_hire_r2 _ (List.mem_of_getElem? (i := 9) rfl), List.forall_mem_cons.mpr ⟨pm_X9_hire_r2 _ (List.mem_of_getElem? (i := 10) rfl), List.forall_mem_cons.mpr ⟨pm_X9_hire_r2 _ (List.mem_of_getElem? (i := 11) rfl), List.forall_mem_cons.mpr ⟨pm_X9_hire_r2 _ (List.mem_of_getElem? (i := 12) rfl), List.forall_mem_cons.mpr ⟨pm_X9_hire_r2 _ (List.mem_of_getElem? (i := 13) rfl), List.forall_mem_cons.mpr ⟨pm_X9_hire_r1 _ (List.mem_of_getElem? (i := 14) rfl), List.forall_mem_cons.mpr ⟨pm_X9_hire_r2 _ (List.mem_of_getElem? (i := 14) rfl), fun _ h => absurd h List.not_mem_nil⟩⟩⟩⟩⟩⟩⟩⟩⟩⟩⟩⟩⟩⟩⟩⟩⟩⟩⟩⟩⟩⟩⟩⟩
set_option maxRecDepth 20000 in
theorem pq_X9_hire_X7_readText_r2 : ∀ w ∈ wsX7_readText_r2, w ∈ wsX9_hire := List.forall_mem_cons.mpr ⟨pm_X9_hire_r2 _ (List.mem_of_getElem? (i := 15) rfl), List.forall_mem_cons.mpr ⟨pm_X9_hire_r2 _ (List.mem_of_getElem? (i := 16) rfl), List.forall_mem_cons.mpr ⟨pm_X9_hire_r2 _ (List.mem_of_getElem? (i := 17) rfl), List.forall_mem_cons.mpr ⟨pm_X9_hire_r2 _ (List.mem_of_getElem? (i := 18) rfl), List.forall_mem_cons.mpr ⟨pm_X9_hire_r2 _ (List.mem_of_getElem? (i := 19) rfl), List.forall_mem_cons.mpr ⟨pm_X9_hire_r2 _ (List.mem_of_getElem? (i := 20) rfl), List.forall_mem_cons.mpr ⟨pm_X9_hire_r2 _ (List.mem_of_getElem? (i := 21) rfl), List.forall_mem_cons.mpr ⟨pm_X9_hire_r2 _ (List.mem_of_getElem? (i := 22) rfl), List.forall_mem_cons.mpr ⟨pm_X9_hire_r2 _ (List.mem_of_getElem? (i := 23) rfl), List.forall_mem_cons.mpr ⟨pm_X9_hire_r3 _ (List.mem_of_getElem? (i := 0) rfl), List.forall_mem_cons.mpr ⟨pm_X9_hire_r3 _ (List.mem_of_getElem? (i := 1) rfl), List.forall_mem_cons.mpr ⟨pm_X9_hire_r3 _ (List.mem_of_getElem? (i := 2) rfl), List.forall_mem_cons.mpr ⟨pm_X9_hire_r3 _ (List.mem_of_getElem? (i := 3) rfl), List.forall_mem_cons.mpr ⟨pm_X9_hire_r3 _ (List.mem_of_getElem? (i := 4) rfl), List.forall_mem_cons.mpr ⟨pm_X9_hire_r3 _ (List.mem_of_getElem? (i := 5) rfl), List.forall_mem_cons.mpr ⟨pm_X9_hire_r3 _ (List.mem_of_getElem? (i := 6) rfl), List.forall_mem_cons.mpr ⟨pm_X9_hire_r3 _ (List.mem_of_getElem? (i := 7) rfl), List.forall_mem_cons.mpr ⟨pm_X9_hire_r3 _ (List.mem_of_getElem? (i := 8) rfl), List.forall_mem_cons.mpr ⟨pm_X9_hire_r3 _ (List.mem_of_getElem? (i := 9) rfl), List.forall_mem_cons.mpr ⟨pm_X9_hire_r3 _ (List.mem_of_getElem? (i := 10) rfl), List.forall_mem_cons.mpr ⟨pm_X9_hire_r3 _ (List.mem_of_getElem? (i := 11) rfl), List.forall_mem_cons.mpr ⟨pm_X9_hire_r3 _ (List.mem_of_getElem? (i := 12) rfl), List.forall_mem_cons.mpr ⟨pm_X9_hire_r3 _ (List.mem_of_getElem? (i := 13) rfl), List.forall_mem_cons.mpr ⟨pm_X9_hire_r3 _ (List.mem_of_getElem? (i := 14) rfl), fun _ h => absurd h List.not_mem_nil⟩⟩⟩⟩⟩⟩⟩⟩⟩⟩⟩⟩⟩⟩⟩⟩⟩⟩⟩⟩⟩⟩⟩⟩
set_option maxRecDepth 20000 in
theorem pq_X9_hire_X7_readText_r3 : ∀ w ∈ wsX7_readText_r3, w ∈ wsX9_hire := List.forall_mem_cons.mpr ⟨pm_X9_hire_r3 _ (List.mem_of_getElem? (i := 15) rfl), List.forall_mem_cons.mpr ⟨pm_X9_hire_r3 _ (List.mem_of_getElem? (i := 16) rfl), List.forall_mem_cons.mpr ⟨pm_X9_hire_r3 _ (List.mem_of_getElem? (i := 17) rfl), List.forall_mem_cons.mpr ⟨pm_X9_hire_r3 _ (List.mem_of_getElem? (i := 18) rfl), List.forall_mem_cons.mpr ⟨pm_X9_hire_r3 _ (List.mem_of_getElem? (i := 19) rfl), List.forall_mem_cons.mpr ⟨pm_X9_hire_r3 _ (List.mem_of_getElem? (i := 20) rfl), List.forall_mem_cons.mpr ⟨pm_X9_hire_r3 _ (List.mem_of_getElem? (i := 21) rfl), List.forall_mem_cons.mpr ⟨pm_X9_hire_r3 _ (List.mem_of_getElem? (i := 22) rfl), List.forall_mem_cons.mpr ⟨pm_X9_hire_r3 _ (List.mem_of_getElem? (i := 23) rfl), List.forall_mem_cons.mpr ⟨pm_X9_hire_r4 _ (List.mem_of_getElem? (i := 0) rfl), List.forall_mem_cons.mpr ⟨pm_X9_hire_r4 _ (List.mem_of_getElem? (i := 1) rfl), List.forall_mem_cons.mpr ⟨pm_X9_hire_r4 _ (List.mem_of_getElem? (i := 2) rfl), List.forall_mem_cons.mpr ⟨pm_X9_hire_r4 _ (List.mem_of_getElem? (i := 3) rfl), List.forall_mem_cons.mpr ⟨pm_X9_hire_r4 _ (List.mem_of_getElem? (i := 4) rfl), List.forall_mem_cons.mpr ⟨pm_X9_hire_r4 _ (List.mem_of_getElem? (i := 5) rfl), List.forall_mem_cons.mpr ⟨pm_X9_hire_r4 _ (List.mem_of_getElem? (i := 6) rfl), List.forall_mem_cons.mpr ⟨pm_X9_hire_r4 _ (List.mem_of_getElem? (i := 7) rfl), List.forall_mem_cons.mpr ⟨pm_X9_hire_r4 _ (List.mem_of_getElem? (i := 8) rfl), List.forall_mem_cons.mpr ⟨pm_X9_hire_r4 _ (List.mem_of_getElem? (i := 9) rfl), List.forall_mem_cons.mpr ⟨pm_X9_hire_r4 _ (List.mem_of_getElem? (i := 10) rfl), List.forall_mem_cons.mpr ⟨pm_X9_hire_r4 _ (List.mem_of_getElem? (i := 11) rfl), List.forall_mem_cons.mpr ⟨pm_X9_hire_r4 _ (List.mem_of_getElem? (i := 12) rfl), List.forall_mem_cons.mpr ⟨pm_X9_hire_r4 _ (List.mem_of_getElem? (i := 13) rfl), List.forall_mem_cons.mpr ⟨pm_X9_hire_r4 _ (List.mem_of_getElem? (i := 14) rfl), fun _ h => absurd h List.not_mem_nil⟩⟩⟩⟩⟩⟩⟩⟩⟩⟩⟩⟩⟩⟩⟩⟩⟩⟩⟩⟩⟩⟩⟩⟩
set_option maxRecDepth 20000 in
theorem pq_X9_hire_X7_readText_r4 : ∀ w ∈ wsX7_readText_r4, w ∈ wsX9_hire := List.forall_mem_cons.mpr ⟨pm_X9_hire_r4 _ (List.mem_of_getElem? (i := 15) rfl), List.forall_mem_cons.mpr ⟨pm_X9_hire_r4 _ (List.mem_of_getElem? (i := 16) rfl), List.forall_mem_cons.mpr ⟨pm_X9_hire_r4 _ (List.mem_of_getElem? (i := 17) rfl), List.forall_mem_cons.mpr ⟨pm_X9_hire_r4 _ (List.mem_of_getElem? (i := 18) rfl), List.forall_mem_cons.mpr ⟨pm_X9_hire_r4 _ (List.mem_of_getElem? (i := 19) rfl), List.forall_mem_cons.mpr ⟨pm_X9_hire_r4 _ (List.mem_of_getElem? (i := 20) rfl), List.forall_mem_cons.mpr ⟨pm_X9_hire_r4 _ (List.mem_of_getElem? (i := 21) rfl), List.forall_mem_cons.mpr ⟨pm_X9_hire_r4 _ (List.mem_of_getElem? (i := 22) rfl), List.forall_mem_cons.mpr ⟨pm_X9_hire_r4 _ (List.mem_of_getElem? (i := 23) rfl), List.forall_mem_cons.mpr ⟨pm_X9_hire_r5 _ (List.mem_of_getElem? (i := 0) rfl), List.forall_mem_cons.mpr ⟨pm_X9_hire_r5 _ (List.mem_of_getElem? (i := 1) rfl), List.forall_mem_cons.mpr ⟨pm_X9_hire_r5 _ (List.mem_of_getElem? (i := 2) rfl), List.forall_mem_cons.mpr ⟨pm_X9_hire_r5 _ (List.mem_of_getElem? (i := 3) rfl), List.forall_mem_cons.mpr ⟨pm_X9_hire_r5 _ (List.mem_of_getElem? (i := 4) rfl), List.forall_mem_cons.mpr ⟨pm_X9_hire_r5 _ (List.mem_of_getElem? (i := 5) rfl), List.forall_mem_cons.mpr ⟨pm_X9_hire_r5 _ (List.mem_of_getElem? (i := 6) rfl), List.forall_mem_cons.mpr ⟨pm_X9_hire_r5 _ (List.mem_of_getElem? (i := 7) rfl), List.forall_mem_cons.mpr ⟨pm_X9_hire_r5 _ (List.mem_of_getElem? (i := 8) rfl), List.forall_mem_cons.mpr ⟨pm_X9_hire_r5 _ (List.mem_of_getElem? (i := 9) rfl), List.forall_mem_cons.mpr ⟨pm_X9_hire_r5 _ (List.mem_of_getElem? (i := 10) rfl), List.forall_mem_cons.mpr ⟨pm_X9_hire_r5 _ (List.mem_of_getElem? (i := 11) rfl), List.forall_mem_cons.mpr ⟨pm_X9_hire_r5 _ (List.mem_of_getElem? (i := 12) rfl), List.forall_mem_cons.mpr ⟨pm_X9_hire_r5 _ (List.mem_of_getElem? (i := 13) rfl), List.forall_mem_cons.mpr ⟨pm_X9_hire_r5 _ (List.mem_of_getElem? (i := 14) rfl), fun _ h => absurd h List.not_mem_nil⟩⟩⟩⟩⟩⟩⟩⟩⟩⟩⟩⟩⟩⟩⟩⟩⟩⟩⟩⟩⟩⟩⟩⟩
set_option maxRecDepth 20000 in
theorem pq_X9_hire_X7_readText_r5 : ∀ w ∈ wsX7_readText_r5, w ∈ wsX9_hire := List.forall_mem_cons.mpr ⟨pm_X9_hire_r5 _ (List.mem_of_getElem? (i := 15) rfl), List.forall_mem_cons.mpr ⟨pm_X9_hire_r5 _ (List.mem_of_getElem? (i := 16) rfl), List.forall_mem_cons.mpr ⟨pm_X9_hire_r5 _ (List.mem_of_getElem? (i := 17) rfl), List.forall_mem_cons.mpr ⟨pm_X9_hire_r5 _ (List.mem_of_getElem? (i := 18) rfl), List.forall_mem_cons.mpr ⟨pm_X9_hire_r5 _ (List.mem_of_getElem? (i := 19) rfl), List.forall_mem_cons.mpr ⟨pm_X9_hire_r5 _ (List.mem_of_getElem? (i := 20) rfl), List.forall_mem_cons.mpr ⟨pm_X9_hire_r5 _ (List.mem_of_getElem? (i := 21) rfl), List.forall_mem_cons.mpr ⟨pm_X9_hire_r5 _ (List.mem_of_getElem? (i := 22) rfl), List.forall_mem_cons.mpr ⟨pm_X9_hire_r5 _ (List.mem_of_getElem? (i := 23) rfl), List.forall_mem_cons.mpr ⟨pm_X9_hire_r6 _ (List.mem_of_getElem? (i := 0) rfl), List.forall_mem_cons.mpr ⟨pm_X9_hire_r6 _ (List.mem_of_getElem? (i := 1) rfl), List.forall_mem_cons.mpr ⟨pm_X9_hire_r6 _ (List.mem_of_getElem? (i := 2) rfl), List.forall_mem_cons.mpr ⟨pm_X9_hire_r6 _ (List.mem_of_getElem? (i := 3) rfl), List.forall_mem_cons.mpr ⟨pm_X9_hire_r6 _ (List.mem_of_getElem? (i := 4) rfl), List.forall_mem_cons.mpr ⟨pm_X9_hire_r6 _ (List.mem_of_getElem? (i := 5) rfl), List.forall_mem_cons.mpr ⟨pm_X9_hire_r6 _ (List.mem_of_getElem? (i := 6) rfl), List.forall_mem_cons.mpr ⟨pm_X9_hire_r6 _ (List.mem_of_getElem? (i := 7) rfl), List.forall_mem_cons.mpr ⟨pm_X9_hire_r6 _ (List.mem_of_getElem? (i := 8) rfl), List.forall_mem_cons.mpr ⟨pm_X9_hire_r6 _ (List.mem_of_getElem? (i := 9) rfl), List.forall_mem_cons.mpr ⟨pm_X9_hire_r6 _ (List.mem_of_getElem? (i := 10) rfl), List.forall_mem_cons.mpr ⟨pm_X9_hire_r6 _ (List.mem_of_getElem? (i := 11) rfl), List.forall_mem_cons.mpr ⟨pm_X9_hire_r6 _ (List.mem_of_getElem? (i := 12) rfl), List.forall_mem_cons.mpr ⟨pm_X9_hire_r6 _ (List.mem_of_getElem? (i := 13) rfl), List.forall_mem_cons.mpr ⟨pm_X9_hire_r6 _ (List.mem_of_getElem? (i := 14) rfl), fun _ h => absurd h List.not_mem_nil⟩⟩⟩⟩⟩⟩⟩⟩⟩⟩⟩⟩⟩⟩⟩⟩⟩⟩⟩⟩⟩⟩⟩⟩
set_option maxRecDepth 20000 in
theorem pq_X9_hire_X7_readText_r6 : ∀ w ∈ wsX7_readText_r6, w ∈ wsX9_hire := List.forall_mem_cons.mpr ⟨pm_X9_hire_r6 _ (List.mem_of_getElem? (i := 15) rfl), List.forall_mem_cons.mpr ⟨pm_X9_hire_r6 _ (List.mem_of_getElem? (i := 16) rfl), List.forall_mem_cons.mpr ⟨pm_X9_hire_r6 _ (List.mem_of_getElem? (i := 17) rfl), List.forall_mem_cons.mpr ⟨pm_X9_hire_r6 _ (List.mem_of_getElem? (i := 18) rfl), List.forall_mem_cons.mpr ⟨pm_X9_hire_r6 _ (List.mem_of_getElem? (i := 19) rfl), List.forall_mem_cons.mpr ⟨pm_X9_hire_r6 _ (List.mem_of_getElem? (i := 20) rfl), List.forall_mem_cons.mpr ⟨pm_X9_hire_r6 _ (List.mem_of_getElem? (i := 21) rfl), List.forall_mem_cons.mpr ⟨pm_X9_hire_r6 _ (List.mem_of_getElem? (i := 22) rfl), List.forall_mem_cons.mpr ⟨pm_X9_hire_r6 _ (List.mem_of_getElem? (i := 23) rfl), List.forall_mem_cons.mpr ⟨pm_X9_hire_r7 _ (List.mem_of_getElem? (i := 0) rfl), List.forall_mem_cons.mpr ⟨pm_X9_hire_r7 _ (List.mem_of_getElem? (i := 1) rfl), List.forall_mem_cons.mpr ⟨pm_X9_hire_r7 _ (List.mem_of_getElem? (i := 2) rfl), List.forall_mem_cons.mpr ⟨pm_X9_hire_r7 _ (List.mem_of_getElem? (i := 3) rfl), List.forall_mem_cons.mpr ⟨pm_X9_hire_r7 _ (List.mem_of_getElem? (i := 4) rfl), List.forall_mem_cons.mpr ⟨pm_X9_hire_r7 _ (List.mem_of_getElem? (i := 5) rfl), List.forall_mem_cons.mpr ⟨pm_X9_hire_r7 _ (List.mem_of_getElem? (i := 6) rfl), List.forall_mem_cons.mpr ⟨pm_X9_hire_r7 _ (List.mem_of_getElem? (i := 7) rfl), List.forall_mem_cons.mpr ⟨pm_X9_hire_r7 _ (List.mem_of_getElem? (i := 8) rfl), List.forall_mem_cons.mpr ⟨pm_X9_hire_r7 _ (List.mem_of_getElem? (i := 9) rfl), List.forall_mem_cons.mpr ⟨pm_X9_hire_r7 _ (List.mem_of_getElem? (i := 10) rfl), List.forall_mem_cons.mpr ⟨pm_X9_hire_r7 _ (List.mem_of_getElem? (i := 11) rfl), List.forall_mem_cons.mpr ⟨pm_X9_hire_r7 _ (List.mem_of_getElem? (i := 12) rfl), List.forall_mem_cons.mpr ⟨pm_X9_hire_r7 _ (List.mem_of_getElem? (i := 13) rfl), List.forall_mem_cons.mpr ⟨pm_X9_hire_r7 _ (List.mem_of_getElem? (i := 14) rfl), fun _ h => absurd h List.not_mem_nil⟩⟩⟩⟩⟩⟩⟩⟩⟩⟩⟩⟩⟩⟩⟩⟩⟩⟩⟩⟩⟩⟩⟩⟩
set_option maxRecDepth 20000 in
theorem pq_X9_hire_X7_readText_r7 : ∀ w ∈ wsX7_readText_r7, w ∈ wsX9_hire := List.forall_mem_cons.mpr ⟨pm_X9_hire_r7 _ (List.mem_of_getElem? (i := 15) rfl), List.forall_mem_cons.mpr ⟨pm_X9_hire_r7 _ (List.mem_of_getElem? (i := 16) rfl), List.forall_mem_cons.mpr ⟨pm_X9_hire_r7 _ (List.mem_of_getElem? (i := 17) rfl), List.forall_mem_cons.mpr ⟨pm_X9_hire_r7 _ (List.mem_of_getElem? (i := 18) rfl), List.forall_mem_cons.mpr ⟨pm_X9_hire_r7 _ (List.mem_of_getElem? (i := 19) rfl), List.forall_mem_cons.mpr ⟨pm_X9_hire_r7 _ (List.mem_of_getElem? (i := 20) rfl), List.forall_mem_cons.mpr ⟨pm_X9_hire_r7 _ (List.mem_of_getElem? (i := 21) rfl), List.forall_mem_cons.mpr ⟨pm_X9_hire_r7 _ (List.mem_of_getElem? (i := 22) rfl), List.forall_mem_cons.mpr ⟨pm_X9_hire_r7 _ (List.mem_of_getElem? (i := 23) rfl), List.forall_mem_cons.mpr ⟨pm_X9_hire_r8 _ (List.mem_of_getElem? (i := 0) rfl), List.forall_mem_cons.mpr ⟨pm_X9_hire_r8 _ (List.mem_of_getElem? (i := 1) rfl), List.forall_mem_cons.mpr ⟨pm_X9_hire_r8 _ (List.mem_of_getElem? (i := 2) rfl), List.forall_mem_cons.mpr ⟨pm_X9_hire_r8 _ (List.mem_of_getElem? (i := 3) rfl), List.forall_mem_cons.mpr ⟨pm_X9_hire_r8 _ (List.mem_of_getElem? (i := 4) rfl), List.forall_mem_cons.mpr ⟨pm_X9_hire_r8 _ (List.mem_of_getElem? (i := 5) rfl), List.forall_mem_cons.mpr ⟨pm_X9_hire_r8 _ (List.mem_of_getElem? (i := 6) rfl), List.forall_mem_cons.mpr ⟨pm_X9_hire_r8 _ (List.mem_of_getElem? (i := 7) rfl), List.forall_mem_cons.mpr ⟨pm_X9_hire_r8 _ (List.mem_of_getElem? (i := 8) rfl), List.forall_mem_cons.mpr ⟨pm_X9_hire_r8 _ (List.mem_of_getElem? (i := 9) rfl), List.forall_mem_cons.mpr ⟨pm_X9_hire_r8 _ (List.mem_of_getElem? (i := 10) rfl), List.forall_mem_cons.mpr ⟨pm_X9_hire_r8 _ (List.mem_of_getElem? (i := 11) rfl), List.forall_mem_cons.mpr ⟨pm_X9_hire_r8 _ (List.mem_of_getElem? (i := 12) rfl), fun _ h => absurd h List.not_mem_nil⟩⟩⟩⟩⟩⟩⟩⟩⟩⟩⟩⟩⟩⟩⟩⟩⟩⟩⟩⟩⟩⟩
set_option maxRecDepth 20000 in
theorem ggX9_hire_X7_readText : GoodIn wsX9_hire wsX7_readText := goodIn_sub (List.forall_mem_cons.mpr ⟨pm_X9_hire_r1 _ (List.mem_of_getElem? (i := 15) rfl), List.forall_mem_append.mpr ⟨List.forall_mem_append.mpr ⟨List.forall_mem_append.mpr ⟨pq_X9_hire_X7_readText_r1, List.forall_mem_append.mpr ⟨pq_X9_hire_X7_readText_r2, List.forall_mem_append.mpr ⟨pq_X9_hire_X7_readText_r3, List.forall_mem_append.mpr ⟨pq_X9_hire_X7_readText_r4, List.forall_mem_append.mpr ⟨pq_X9_hire_X7_readText_r5, List.forall_mem_append.mpr ⟨pq_X9_hire_X7_readText_r6, pq_X9_hire_X7_readText_r7⟩⟩⟩⟩⟩⟩, pw_X9_hire_X7⟩, pw_X9_hire_X3⟩⟩) (by decide +kernel)
set_option maxRecDepth 20000 in
theorem gX9_hire_X7_readText : GoodIn wsX9_hire (wsV RX9 94 RX7 yX7_readText wsX7_readText) := goodIn_app (goodIn_of _ (by decide +kernel)) ggX9_hire_X7_readText
set_option maxRecDepth 20000 in
theorem ggX9_hire_J7_fill_53178 : GoodIn wsX9_hire wsJ7_fill_53178 := goodIn_sub (List.forall_mem_cons.mpr ⟨pm_X9_hire_r8 _ (List.mem_of_getElem? (i := 16) rfl), fun _ h => absurd h List.not_mem_nil⟩) (by decide +kernel)
set_option maxRecDepth 20000 in
theorem gX9_hire_J7_fill_53178 : GoodIn wsX9_hire (va_wsS RX9 104 yJ7_fill_53178 wsJ7_fill_53178) := goodIn_app (goodIn_of _ (by decide +kernel)) ggX9_hire_J7_fill_53178
set_option maxRecDepth 20000 in
theorem ggX9_hire_X2_forget : GoodIn wsX9_hire wsX2_forget := goodIn_sub (List.forall_mem_cons.mpr ⟨pm_X9_hire_r8 _ (List.mem_of_getElem? (i := 21) rfl), List.forall_mem_append.mpr ⟨List.forall_mem_cons.mpr ⟨pm_X9_hire_r8 _ (List.mem_of_getElem? (i := 22) rfl), List.forall_mem_cons.mpr ⟨pm_X9_hire_r8 _ (List.mem_of_getElem? (i := 23) rfl), List.forall_mem_cons.mpr ⟨pm_X9_hire_r9 _ (List.mem_of_getElem? (i := 0) rfl), fun _ h => absurd h List.not_mem_nil⟩⟩⟩, pw_X9_hire_X2⟩⟩) (by decide +kernel)
set_option maxRecDepth 20000 in
theorem gX9_hire_X2_forget : GoodIn wsX9_hire (wsV RX9 110 RX2 yX2_forget wsX2_forget) := goodIn_app (goodIn_of _ (by decide +kernel)) ggX9_hire_X2_forget
set_option maxRecDepth 20000 in
theorem ggX9_hire_X6_forget : GoodIn wsX9_hire wsX6_forget := goodIn_sub (List.forall_mem_cons.mpr ⟨pm_X9_hire_r9 _ (List.mem_of_getElem? (i := 5) rfl), List.forall_mem_append.mpr ⟨List.forall_mem_cons.mpr ⟨pm_X9_hire_r9 _ (List.mem_of_getElem? (i := 6) rfl), List.forall_mem_cons.mpr ⟨pm_X9_hire_r9 _ (List.mem_of_getElem? (i := 7) rfl), List.forall_mem_cons.mpr ⟨pm_X9_hire_r9 _ (List.mem_of_getElem? (i := 8) rfl), List.forall_mem_cons.mpr ⟨pm_X9_hire_r9 _ (List.mem_of_getElem? (i := 9) rfl), List.forall_mem_cons.mpr ⟨pm_X9_hire_r9 _ (List.mem_of_getElem? (i := 10) rfl), List.forall_mem_cons.mpr ⟨pm_X9_hire_r8 _ (List.mem_of_getElem? (i := 14) rfl), List.forall_mem_cons.mpr ⟨pm_X9_hire_r8 _ (List.mem_of_getElem? (i := 15) rfl), List.forall_mem_cons.mpr ⟨pm_X9_hire_r8 _ (List.mem_of_getElem? (i := 16) rfl), fun _ h => absurd h List.not_mem_nil⟩⟩⟩⟩⟩⟩⟩⟩, pw_X9_hire_X6⟩⟩) (by decide +kernel)
set_option maxRecDepth 20000 in
theorem gX9_hire_X6_forget : GoodIn wsX9_hire (wsV RX9 113 RX6 yX6_forget wsX6_forget) := goodIn_app (goodIn_of _ (by decide +kernel)) ggX9_hire_X6_forget
set_option maxRecDepth 20000 in
theorem ggX9_hire_X1_forget : GoodIn wsX9_hire wsX1_forget := goodIn_sub (List.forall_mem_cons.mpr ⟨pm_X9_hire_r9 _ (List.mem_of_getElem? (i := 15) rfl), List.forall_mem_append.mpr ⟨List.forall_mem_cons.mpr ⟨pm_X9_hire_r9 _ (List.mem_of_getElem? (i := 16) rfl), List.forall_mem_cons.mpr ⟨pm_X9_hire_r9 _ (List.mem_of_getElem? (i := 17) rfl), List.forall_mem_cons.mpr ⟨pm_X9_hire_r9 _ (List.mem_of_getElem? (i := 18) rfl), fun _ h => absurd h List.not_mem_nil⟩⟩⟩, pw_X9_hire_X1⟩⟩) (by decide +kernel)
set_option maxRecDepth 20000 in
theorem gX9_hire_X1_forget : GoodIn wsX9_hire (wsV RX9 114 RX1 yX1_forget wsX1_forget) := goodIn_app (goodIn_of _ (by decide +kernel)) ggX9_hire_X1_forget
theorem dX9_hire_0 : decode cX9_hire 0 = .ok (.aload_n 0, 1) := by decide +kernel
theorem dX9_hire_1 : decode cX9_hire 1 = .ok (.getfield 10, 3) := by decide +kernel
theorem dX9_hire_4 : decode cX9_hire 4 = .ok (.invokevirtual 94, 3) := by decide +kernel
theorem dX9_hire_7 : decode cX9_hire 7 = .ok (.istore_n 1, 1) := by decide +kernel
theorem dX9_hire_8 : decode cX9_hire 8 = .ok (.aload_n 0, 1) := by decide +kernel
theorem dX9_hire_9 : decode cX9_hire 9 = .ok (.getfield 10, 3) := by decide +kernel
theorem dX9_hire_12 : decode cX9_hire 12 = .ok (.iconst 0, 1) := by decide +kernel
theorem dX9_hire_13 : decode cX9_hire 13 = .ok (.putfield 86, 3) := by decide +kernel
theorem dX9_hire_16 : decode cX9_hire 16 = .ok (.iload_n 1, 1) := by decide +kernel
theorem dX9_hire_17 : decode cX9_hire 17 = .ok (.ifCond .ne 5, 3) := by decide +kernel
theorem dX9_hire_20 : decode cX9_hire 20 = .ok (.iconst (-1), 1) := by decide +kernel
theorem dX9_hire_21 : decode cX9_hire 21 = .ok (.ireturn, 1) := by decide +kernel
theorem dX9_hire_22 : decode cX9_hire 22 = .ok (.aload_n 0, 1) := by decide +kernel
theorem dX9_hire_23 : decode cX9_hire 23 = .ok (.getfield 19, 3) := by decide +kernel
theorem dX9_hire_26 : decode cX9_hire 26 = .ok (.astore_n 2, 1) := by decide +kernel
theorem dX9_hire_27 : decode cX9_hire 27 = .ok (.aload_n 0, 1) := by decide +kernel
theorem dX9_hire_28 : decode cX9_hire 28 = .ok (.aload_n 0, 1) := by decide +kernel
theorem dX9_hire_29 : decode cX9_hire 29 = .ok (.getfield 10, 3) := by decide +kernel
theorem dX9_hire_32 : decode cX9_hire 32 = .ok (.getfield 98, 3) := by decide +kernel
theorem dX9_hire_35 : decode cX9_hire 35 = .ok (.putfield 19, 3) := by decide +kernel
theorem dX9_hire_38 : decode cX9_hire 38 = .ok (.aload_n 0, 1) := by decide +kernel
theorem dX9_hire_39 : decode cX9_hire 39 = .ok (.getfield 10, 3) := by decide +kernel
theorem dX9_hire_42 : decode cX9_hire 42 = .ok (.aload_n 2, 1) := by decide +kernel
theorem dX9_hire_43 : decode cX9_hire 43 = .ok (.putfield 98, 3) := by decide +kernel
theorem dX9_hire_46 : decode cX9_hire 46 = .ok (.aload_n 0, 1) := by decide +kernel
theorem dX9_hire_47 : decode cX9_hire 47 = .ok (.getfield 23, 3) := by decide +kernel
theorem dX9_hire_50 : decode cX9_hire 50 = .ok (.aload_n 0, 1) := by decide +kernel
theorem dX9_hire_51 : decode cX9_hire 51 = .ok (.getfield 19, 3) := by decide +kernel
theorem dX9_hire_54 : decode cX9_hire 54 = .ok (.getfield 101, 3) := by decide +kernel
theorem dX9_hire_57 : decode cX9_hire 57 = .ok (.invokestatic 104, 3) := by decide +kernel
theorem dX9_hire_60 : decode cX9_hire 60 = .ok (.aload_n 0, 1) := by decide +kernel
theorem dX9_hire_61 : decode cX9_hire 61 = .ok (.getfield 30, 3) := by decide +kernel
theorem dX9_hire_64 : decode cX9_hire 64 = .ok (.invokevirtual 110, 3) := by decide +kernel
theorem dX9_hire_67 : decode cX9_hire 67 = .ok (.aload_n 0, 1) := by decide +kernel
theorem dX9_hire_68 : decode cX9_hire 68 = .ok (.iconst 0, 1) := by decide +kernel
theorem dX9_hire_69 : decode cX9_hire 69 = .ok (.putfield 47, 3) := by decide +kernel
theorem dX9_hire_72 : decode cX9_hire 72 = .ok (.aload_n 0, 1) := by decide +kernel
theorem dX9_hire_73 : decode cX9_hire 73 = .ok (.getfield 75, 3) := by decide +kernel
theorem dX9_hire_76 : decode cX9_hire 76 = .ok (.invokevirtual 113, 3) := by decide +kernel
theorem dX9_hire_79 : decode cX9_hire 79 = .ok (.aload_n 0, 1) := by decide +kernel
theorem dX9_hire_80 : decode cX9_hire 80 = .ok (.getfield 82, 3) := by decide +kernel
theorem dX9_hire_83 : decode cX9_hire 83 = .ok (.invokevirtual 114, 3) := by decide +kernel
theorem dX9_hire_86 : decode cX9_hire 86 = .ok (.aload_n 0, 1) := by decide +kernel
theorem dX9_hire_87 : decode cX9_hire 87 = .ok (.getfield 19, 3) := by decide +kernel
theorem dX9_hire_90 : decode cX9_hire 90 = .ok (.getfield 115, 3) := by decide +kernel
theorem dX9_hire_93 : decode cX9_hire 93 = .ok (.ireturn, 1) := by decide +kernel
theorem dX9_fault_0 : decode cX9_fault 0 = .ok (.iload_n 1, 1) := by decide +kernel
theorem dX9_fault_1 : decode cX9_fault 1 = .ok (.ifCond .ne 11, 3) := by decide +kernel
theorem dX9_fault_4 : decode cX9_fault 4 = .ok (.aload_n 0, 1) := by decide +kernel
theorem dX9_fault_5 : decode cX9_fault 5 = .ok (.getfield 10, 3) := by decide +kernel
theorem dX9_fault_8 : decode cX9_fault 8 = .ok (.getfield 118, 3) := by decide +kernel
theorem dX9_fault_11 : decode cX9_fault 11 = .ok (.ireturn, 1) := by decide +kernel
theorem dX9_fault_12 : decode cX9_fault 12 = .ok (.iload_n 1, 1) := by decide +kernel
theorem dX9_fault_13 : decode cX9_fault 13 = .ok (.iconst 1, 1) := by decide +kernel
theorem dX9_fault_14 : decode cX9_fault 14 = .ok (.if_icmp .ne 13, 3) := by decide +kernel
theorem dX9_fault_17 : decode cX9_fault 17 = .ok (.aload_n 0, 1) := by decide +kernel
theorem dX9_fault_18 : decode cX9_fault 18 = .ok (.getfield 10, 3) := by decide +kernel
theorem dX9_fault_21 : decode cX9_fault 21 = .ok (.getfield 121, 3) := by decide +kernel
theorem dX9_fault_24 : decode cX9_fault 24 = .ok (.goto 4, 3) := by decide +kernel
theorem dX9_fault_27 : decode cX9_fault 27 = .ok (.iconst (-1), 1) := by decide +kernel
theorem dX9_fault_28 : decode cX9_fault 28 = .ok (.ireturn, 1) := by decide +kernel
set_option maxRecDepth 20000 in
theorem ggX9_told_X9_toldOfOne : GoodIn wsX9_told wsX9_toldOfOne := goodIn_r _ [12, 1, 2, 13, 3, 14, 7, 15, 16, 17, 18, 19, 20, 21, 22, 23, 24, 25, 26, 27, 28, 29, 30, 31, 32, 33, 34, 35, 36, 37, 38, 39, 40, 41] (by decide +kernel) (by decide +kernel)
set_option maxRecDepth 20000 in
theorem gX9_told_X9_toldOfOne : GoodIn wsX9_told (wsV RX9 136 RX9 yX9_toldOfOne wsX9_toldOfOne) := goodIn_app (goodIn_of _ (by decide +kernel)) ggX9_told_X9_toldOfOne
theorem dX9_told_0 : decode cX9_told 0 = .ok (.iload_n 1, 1) := by decide +kernel
theorem dX9_told_1 : decode cX9_told 1 = .ok (.tableswitch 87 0 5 #[39, 47, 55, 63, 71, 79], 39) := by decide +kernel
theorem dX9_told_40 : decode cX9_told 40 = .ok (.aload_n 0, 1) := by decide +kernel
theorem dX9_told_41 : decode cX9_told 41 = .ok (.getfield 19, 3) := by decide +kernel
theorem dX9_told_44 : decode cX9_told 44 = .ok (.getfield 124, 3) := by decide +kernel
theorem dX9_told_47 : decode cX9_told 47 = .ok (.ireturn, 1) := by decide +kernel
theorem dX9_told_48 : decode cX9_told 48 = .ok (.aload_n 0, 1) := by decide +kernel
theorem dX9_told_49 : decode cX9_told 49 = .ok (.getfield 19, 3) := by decide +kernel
theorem dX9_told_52 : decode cX9_told 52 = .ok (.getfield 115, 3) := by decide +kernel
theorem dX9_told_55 : decode cX9_told 55 = .ok (.ireturn, 1) := by decide +kernel
theorem dX9_told_56 : decode cX9_told 56 = .ok (.aload_n 0, 1) := by decide +kernel
theorem dX9_told_57 : decode cX9_told 57 = .ok (.getfield 19, 3) := by decide +kernel
theorem dX9_told_60 : decode cX9_told 60 = .ok (.getfield 127, 3) := by decide +kernel
theorem dX9_told_63 : decode cX9_told 63 = .ok (.ireturn, 1) := by decide +kernel
theorem dX9_told_64 : decode cX9_told 64 = .ok (.aload_n 0, 1) := by decide +kernel
theorem dX9_told_65 : decode cX9_told 65 = .ok (.getfield 19, 3) := by decide +kernel
theorem dX9_told_68 : decode cX9_told 68 = .ok (.getfield 130, 3) := by decide +kernel
theorem dX9_told_71 : decode cX9_told 71 = .ok (.ireturn, 1) := by decide +kernel
theorem dX9_told_72 : decode cX9_told 72 = .ok (.aload_n 0, 1) := by decide +kernel
theorem dX9_told_73 : decode cX9_told 73 = .ok (.getfield 19, 3) := by decide +kernel
theorem dX9_told_76 : decode cX9_told 76 = .ok (.getfield 101, 3) := by decide +kernel
theorem dX9_told_79 : decode cX9_told 79 = .ok (.ireturn, 1) := by decide +kernel
theorem dX9_told_80 : decode cX9_told 80 = .ok (.aload_n 0, 1) := by decide +kernel
theorem dX9_told_81 : decode cX9_told 81 = .ok (.getfield 19, 3) := by decide +kernel
theorem dX9_told_84 : decode cX9_told 84 = .ok (.getfield 133, 3) := by decide +kernel
theorem dX9_told_87 : decode cX9_told 87 = .ok (.ireturn, 1) := by decide +kernel
theorem dX9_told_88 : decode cX9_told 88 = .ok (.aload_n 0, 1) := by decide +kernel
theorem dX9_told_89 : decode cX9_told 89 = .ok (.iload_n 1, 1) := by decide +kernel
theorem dX9_told_90 : decode cX9_told 90 = .ok (.invokevirtual 136, 3) := by decide +kernel
theorem dX9_told_93 : decode cX9_told 93 = .ok (.ireturn, 1) := by decide +kernel
theorem dX9_toldOfOne_0 : decode cX9_toldOfOne 0 = .ok (.iload_n 1, 1) := by decide +kernel
theorem dX9_toldOfOne_1 : decode cX9_toldOfOne 1 = .ok (.bipush 10, 2) := by decide +kernel
theorem dX9_toldOfOne_3 : decode cX9_toldOfOne 3 = .ok (.if_icmp .lt 30, 3) := by decide +kernel
theorem dX9_toldOfOne_6 : decode cX9_toldOfOne 6 = .ok (.iload_n 1, 1) := by decide +kernel
theorem dX9_toldOfOne_7 : decode cX9_toldOfOne 7 = .ok (.bipush 10, 2) := by decide +kernel
theorem dX9_toldOfOne_9 : decode cX9_toldOfOne 9 = .ok (.aload_n 0, 1) := by decide +kernel
theorem dX9_toldOfOne_10 : decode cX9_toldOfOne 10 = .ok (.getfield 19, 3) := by decide +kernel
theorem dX9_toldOfOne_13 : decode cX9_toldOfOne 13 = .ok (.getfield 124, 3) := by decide +kernel
theorem dX9_toldOfOne_16 : decode cX9_toldOfOne 16 = .ok (.iadd, 1) := by decide +kernel
theorem dX9_toldOfOne_17 : decode cX9_toldOfOne 17 = .ok (.if_icmp .ge 16, 3) := by decide +kernel
theorem dX9_toldOfOne_20 : decode cX9_toldOfOne 20 = .ok (.aload_n 0, 1) := by decide +kernel
theorem dX9_toldOfOne_21 : decode cX9_toldOfOne 21 = .ok (.getfield 19, 3) := by decide +kernel
theorem dX9_toldOfOne_24 : decode cX9_toldOfOne 24 = .ok (.getfield 269, 3) := by decide +kernel
theorem dX9_toldOfOne_27 : decode cX9_toldOfOne 27 = .ok (.iload_n 1, 1) := by decide +kernel
theorem dX9_toldOfOne_28 : decode cX9_toldOfOne 28 = .ok (.bipush 10, 2) := by decide +kernel
theorem dX9_toldOfOne_30 : decode cX9_toldOfOne 30 = .ok (.isub, 1) := by decide +kernel
theorem dX9_toldOfOne_31 : decode cX9_toldOfOne 31 = .ok (.iaload, 1) := by decide +kernel
theorem dX9_toldOfOne_32 : decode cX9_toldOfOne 32 = .ok (.ireturn, 1) := by decide +kernel
theorem dX9_toldOfOne_33 : decode cX9_toldOfOne 33 = .ok (.iload_n 1, 1) := by decide +kernel
theorem dX9_toldOfOne_34 : decode cX9_toldOfOne 34 = .ok (.bipush 20, 2) := by decide +kernel
theorem dX9_toldOfOne_36 : decode cX9_toldOfOne 36 = .ok (.if_icmp .lt 30, 3) := by decide +kernel
theorem dX9_toldOfOne_39 : decode cX9_toldOfOne 39 = .ok (.iload_n 1, 1) := by decide +kernel
theorem dX9_toldOfOne_40 : decode cX9_toldOfOne 40 = .ok (.bipush 20, 2) := by decide +kernel
theorem dX9_toldOfOne_42 : decode cX9_toldOfOne 42 = .ok (.aload_n 0, 1) := by decide +kernel
theorem dX9_toldOfOne_43 : decode cX9_toldOfOne 43 = .ok (.getfield 19, 3) := by decide +kernel
theorem dX9_toldOfOne_46 : decode cX9_toldOfOne 46 = .ok (.getfield 115, 3) := by decide +kernel
theorem dX9_toldOfOne_49 : decode cX9_toldOfOne 49 = .ok (.iadd, 1) := by decide +kernel
theorem dX9_toldOfOne_50 : decode cX9_toldOfOne 50 = .ok (.if_icmp .ge 16, 3) := by decide +kernel
theorem dX9_toldOfOne_53 : decode cX9_toldOfOne 53 = .ok (.aload_n 0, 1) := by decide +kernel
theorem dX9_toldOfOne_54 : decode cX9_toldOfOne 54 = .ok (.getfield 19, 3) := by decide +kernel
theorem dX9_toldOfOne_57 : decode cX9_toldOfOne 57 = .ok (.getfield 187, 3) := by decide +kernel
theorem dX9_toldOfOne_60 : decode cX9_toldOfOne 60 = .ok (.iload_n 1, 1) := by decide +kernel
theorem dX9_toldOfOne_61 : decode cX9_toldOfOne 61 = .ok (.bipush 20, 2) := by decide +kernel
theorem dX9_toldOfOne_63 : decode cX9_toldOfOne 63 = .ok (.isub, 1) := by decide +kernel
theorem dX9_toldOfOne_64 : decode cX9_toldOfOne 64 = .ok (.iaload, 1) := by decide +kernel
theorem dX9_toldOfOne_65 : decode cX9_toldOfOne 65 = .ok (.ireturn, 1) := by decide +kernel
theorem dX9_toldOfOne_66 : decode cX9_toldOfOne 66 = .ok (.iload_n 1, 1) := by decide +kernel
theorem dX9_toldOfOne_67 : decode cX9_toldOfOne 67 = .ok (.bipush 30, 2) := by decide +kernel
theorem dX9_toldOfOne_69 : decode cX9_toldOfOne 69 = .ok (.if_icmp .lt 30, 3) := by decide +kernel
theorem dX9_toldOfOne_72 : decode cX9_toldOfOne 72 = .ok (.iload_n 1, 1) := by decide +kernel
theorem dX9_toldOfOne_73 : decode cX9_toldOfOne 73 = .ok (.bipush 30, 2) := by decide +kernel
theorem dX9_toldOfOne_75 : decode cX9_toldOfOne 75 = .ok (.aload_n 0, 1) := by decide +kernel
theorem dX9_toldOfOne_76 : decode cX9_toldOfOne 76 = .ok (.getfield 19, 3) := by decide +kernel
theorem dX9_toldOfOne_79 : decode cX9_toldOfOne 79 = .ok (.getfield 133, 3) := by decide +kernel
theorem dX9_toldOfOne_82 : decode cX9_toldOfOne 82 = .ok (.iadd, 1) := by decide +kernel
theorem dX9_toldOfOne_83 : decode cX9_toldOfOne 83 = .ok (.if_icmp .ge 16, 3) := by decide +kernel
theorem dX9_toldOfOne_86 : decode cX9_toldOfOne 86 = .ok (.aload_n 0, 1) := by decide +kernel
theorem dX9_toldOfOne_87 : decode cX9_toldOfOne 87 = .ok (.getfield 19, 3) := by decide +kernel
theorem dX9_toldOfOne_90 : decode cX9_toldOfOne 90 = .ok (.getfield 301, 3) := by decide +kernel
theorem dX9_toldOfOne_93 : decode cX9_toldOfOne 93 = .ok (.iload_n 1, 1) := by decide +kernel
theorem dX9_toldOfOne_94 : decode cX9_toldOfOne 94 = .ok (.bipush 30, 2) := by decide +kernel
theorem dX9_toldOfOne_96 : decode cX9_toldOfOne 96 = .ok (.isub, 1) := by decide +kernel
theorem dX9_toldOfOne_97 : decode cX9_toldOfOne 97 = .ok (.iaload, 1) := by decide +kernel
theorem dX9_toldOfOne_98 : decode cX9_toldOfOne 98 = .ok (.ireturn, 1) := by decide +kernel
theorem dX9_toldOfOne_99 : decode cX9_toldOfOne 99 = .ok (.iload_n 1, 1) := by decide +kernel
theorem dX9_toldOfOne_100 : decode cX9_toldOfOne 100 = .ok (.bipush 40, 2) := by decide +kernel
theorem dX9_toldOfOne_102 : decode cX9_toldOfOne 102 = .ok (.if_icmp .lt 34, 3) := by decide +kernel
theorem dX9_toldOfOne_105 : decode cX9_toldOfOne 105 = .ok (.iload_n 1, 1) := by decide +kernel
theorem dX9_toldOfOne_106 : decode cX9_toldOfOne 106 = .ok (.bipush 40, 2) := by decide +kernel
theorem dX9_toldOfOne_108 : decode cX9_toldOfOne 108 = .ok (.aload_n 0, 1) := by decide +kernel
theorem dX9_toldOfOne_109 : decode cX9_toldOfOne 109 = .ok (.getfield 19, 3) := by decide +kernel
theorem dX9_toldOfOne_112 : decode cX9_toldOfOne 112 = .ok (.getfield 133, 3) := by decide +kernel
theorem dX9_toldOfOne_115 : decode cX9_toldOfOne 115 = .ok (.iadd, 1) := by decide +kernel
theorem dX9_toldOfOne_116 : decode cX9_toldOfOne 116 = .ok (.iconst 1, 1) := by decide +kernel
theorem dX9_toldOfOne_117 : decode cX9_toldOfOne 117 = .ok (.isub, 1) := by decide +kernel
theorem dX9_toldOfOne_118 : decode cX9_toldOfOne 118 = .ok (.if_icmp .ge 18, 3) := by decide +kernel
theorem dX9_toldOfOne_121 : decode cX9_toldOfOne 121 = .ok (.aload_n 0, 1) := by decide +kernel
theorem dX9_toldOfOne_122 : decode cX9_toldOfOne 122 = .ok (.getfield 19, 3) := by decide +kernel
theorem dX9_toldOfOne_125 : decode cX9_toldOfOne 125 = .ok (.getfield 304, 3) := by decide +kernel
theorem dX9_toldOfOne_128 : decode cX9_toldOfOne 128 = .ok (.iload_n 1, 1) := by decide +kernel
theorem dX9_toldOfOne_129 : decode cX9_toldOfOne 129 = .ok (.bipush 40, 2) := by decide +kernel
theorem dX9_toldOfOne_131 : decode cX9_toldOfOne 131 = .ok (.isub, 1) := by decide +kernel
theorem dX9_toldOfOne_132 : decode cX9_toldOfOne 132 = .ok (.iaload, 1) := by decide +kernel
theorem dX9_toldOfOne_133 : decode cX9_toldOfOne 133 = .ok (.goto 4, 3) := by decide +kernel
theorem dX9_toldOfOne_136 : decode cX9_toldOfOne 136 = .ok (.iconst (-1), 1) := by decide +kernel
theorem dX9_toldOfOne_137 : decode cX9_toldOfOne 137 = .ok (.ireturn, 1) := by decide +kernel
theorem dX9_isWork_0 : decode cX9_isWork 0 = .ok (.iload_n 1, 1) := by decide +kernel
theorem dX9_isWork_1 : decode cX9_isWork 1 = .ok (.ifCond .lt 18, 3) := by decide +kernel
theorem dX9_isWork_4 : decode cX9_isWork 4 = .ok (.iload_n 1, 1) := by decide +kernel
theorem dX9_isWork_5 : decode cX9_isWork 5 = .ok (.aload_n 0, 1) := by decide +kernel
theorem dX9_isWork_6 : decode cX9_isWork 6 = .ok (.getfield 19, 3) := by decide +kernel
theorem dX9_isWork_9 : decode cX9_isWork 9 = .ok (.getfield 115, 3) := by decide +kernel
theorem dX9_isWork_12 : decode cX9_isWork 12 = .ok (.if_icmp .ge 7, 3) := by decide +kernel
theorem dX9_isWork_15 : decode cX9_isWork 15 = .ok (.iconst 1, 1) := by decide +kernel
theorem dX9_isWork_16 : decode cX9_isWork 16 = .ok (.goto 4, 3) := by decide +kernel
theorem dX9_isWork_19 : decode cX9_isWork 19 = .ok (.iconst 0, 1) := by decide +kernel
theorem dX9_isWork_20 : decode cX9_isWork 20 = .ok (.ireturn, 1) := by decide +kernel
theorem kk_X9_hire_0 : Cond.fieldLink RX9 10 "PaidBySigns" "reader" "LPaidBySigns$Reader;" ∈ wsX9_hire := pm_X9_hire_r1 _ (List.mem_of_getElem? (i := 0) rfl)
theorem kk_X9_hire_1 : Cond.fieldLink RX9 86 "PaidBySigns$Reader" "length" "I" ∈ wsX9_hire := pm_X9_hire_r1 _ (List.mem_of_getElem? (i := 1) rfl)
theorem kk_X9_hire_2 : Cond.fieldLink RX9 19 "PaidBySigns" "hire" "LPaidBySigns$Hire;" ∈ wsX9_hire := pm_X9_hire_r1 _ (List.mem_of_getElem? (i := 2) rfl)
theorem kk_X9_hire_3 : Cond.fieldLink RX9 98 "PaidBySigns$Reader" "into" "LPaidBySigns$Hire;" ∈ wsX9_hire := pm_X9_hire_r1 _ (List.mem_of_getElem? (i := 3) rfl)
theorem kk_X9_hire_4 : Cond.fieldLink RX9 23 "PaidBySigns" "hand" "[I" ∈ wsX9_hire := pm_X9_hire_r1 _ (List.mem_of_getElem? (i := 4) rfl)
theorem kk_X9_hire_5 : Cond.fieldLink RX9 101 "PaidBySigns$Hire" "least" "I" ∈ wsX9_hire := pm_X9_hire_r1 _ (List.mem_of_getElem? (i := 5) rfl)
theorem kk_X9_hire_6 : Cond.fieldLink RX9 30 "PaidBySigns" "latest" "LPaidBySigns$Fraction;" ∈ wsX9_hire := pm_X9_hire_r1 _ (List.mem_of_getElem? (i := 6) rfl)
theorem kk_X9_hire_7 : Cond.fieldLink RX9 47 "PaidBySigns" "hasWages" "Z" ∈ wsX9_hire := pm_X9_hire_r1 _ (List.mem_of_getElem? (i := 7) rfl)
theorem kk_X9_hire_8 : Cond.fieldLink RX9 75 "PaidBySigns" "proofs" "LPaidBySigns$Proofs;" ∈ wsX9_hire := pm_X9_hire_r1 _ (List.mem_of_getElem? (i := 8) rfl)
theorem kk_X9_hire_9 : Cond.fieldLink RX9 82 "PaidBySigns" "diary" "LPaidBySigns$Diary;" ∈ wsX9_hire := pm_X9_hire_r1 _ (List.mem_of_getElem? (i := 9) rfl)
theorem kk_X9_hire_10 : Cond.fieldLink RX9 115 "PaidBySigns$Hire" "works" "I" ∈ wsX9_hire := pm_X9_hire_r1 _ (List.mem_of_getElem? (i := 10) rfl)
theorem kk_X9_fault_0 : Cond.fieldLink RX9 10 "PaidBySigns" "reader" "LPaidBySigns$Reader;" ∈ wsX9_fault := by decide +kernel
theorem kk_X9_fault_1 : Cond.fieldLink RX9 121 "PaidBySigns$Reader" "faultPlace" "I" ∈ wsX9_fault := by decide +kernel
theorem kk_X9_fault_2 : Cond.fieldLink RX9 118 "PaidBySigns$Reader" "faultKind" "I" ∈ wsX9_fault := by decide +kernel
theorem kk_X9_told_0 : Cond.fieldLink RX9 19 "PaidBySigns" "hire" "LPaidBySigns$Hire;" ∈ wsX9_told := by decide +kernel
theorem kk_X9_told_1 : Cond.fieldLink RX9 124 "PaidBySigns$Hire" "signs" "I" ∈ wsX9_told := by decide +kernel
theorem kk_X9_told_2 : Cond.fieldLink RX9 115 "PaidBySigns$Hire" "works" "I" ∈ wsX9_told := by decide +kernel
theorem kk_X9_told_3 : Cond.fieldLink RX9 127 "PaidBySigns$Hire" "whole" "I" ∈ wsX9_told := by decide +kernel
theorem kk_X9_told_4 : Cond.fieldLink RX9 130 "PaidBySigns$Hire" "otherwise" "I" ∈ wsX9_told := by decide +kernel
theorem kk_X9_told_5 : Cond.fieldLink RX9 101 "PaidBySigns$Hire" "least" "I" ∈ wsX9_told := by decide +kernel
theorem kk_X9_told_6 : Cond.fieldLink RX9 133 "PaidBySigns$Hire" "rates" "I" ∈ wsX9_told := by decide +kernel
theorem kk_X9_toldOfOne_0 : Cond.fieldLink RX9 19 "PaidBySigns" "hire" "LPaidBySigns$Hire;" ∈ wsX9_toldOfOne := by decide +kernel
theorem kk_X9_toldOfOne_1 : Cond.fieldLink RX9 124 "PaidBySigns$Hire" "signs" "I" ∈ wsX9_toldOfOne := by decide +kernel
theorem kk_X9_toldOfOne_2 : Cond.fieldLink RX9 115 "PaidBySigns$Hire" "works" "I" ∈ wsX9_toldOfOne := by decide +kernel
theorem kk_X9_toldOfOne_3 : Cond.fieldLink RX9 133 "PaidBySigns$Hire" "rates" "I" ∈ wsX9_toldOfOne := by decide +kernel
theorem kk_X9_toldOfOne_4 : Cond.fieldLink RX9 304 "PaidBySigns$Hire" "mark" "[I" ∈ wsX9_toldOfOne := by decide +kernel
theorem kk_X9_toldOfOne_5 : Cond.fieldLink RX9 301 "PaidBySigns$Hire" "rate" "[I" ∈ wsX9_toldOfOne := by decide +kernel
theorem kk_X9_toldOfOne_6 : Cond.fieldLink RX9 187 "PaidBySigns$Hire" "costs" "[I" ∈ wsX9_toldOfOne := by decide +kernel
theorem kk_X9_toldOfOne_7 : Cond.fieldLink RX9 269 "PaidBySigns$Hire" "brings" "[I" ∈ wsX9_toldOfOne := by decide +kernel
theorem kk_X9_isWork_0 : Cond.fieldLink RX9 19 "PaidBySigns" "hire" "LPaidBySigns$Hire;" ∈ wsX9_isWork := by decide +kernel
theorem kk_X9_isWork_1 : Cond.fieldLink RX9 115 "PaidBySigns$Hire" "works" "I" ∈ wsX9_isWork := by decide +kernel
theorem iw_X9_hire_X9 : ∀ w ∈ wsX90, w ∈ wsX9_hire := pw_X9_hire_X9
theorem iw_X9_hire_X7 : ∀ w ∈ wsX70, w ∈ wsX9_hire := pw_X9_hire_X7
theorem iw_X9_hire_X3 : ∀ w ∈ wsX30, w ∈ wsX9_hire := pw_X9_hire_X3
theorem iw_X9_fault_X9 : ∀ w ∈ wsX90, w ∈ wsX9_fault := by decide +kernel
theorem iw_X9_fault_X7 : ∀ w ∈ wsX70, w ∈ wsX9_fault := by decide +kernel
theorem iw_X9_told_X9 : ∀ w ∈ wsX90, w ∈ wsX9_told := by decide +kernel
theorem iw_X9_told_X3 : ∀ w ∈ wsX30, w ∈ wsX9_told := by decide +kernel
theorem iw_X9_toldOfOne_X9 : ∀ w ∈ wsX90, w ∈ wsX9_toldOfOne := by decide +kernel
theorem iw_X9_toldOfOne_X3 : ∀ w ∈ wsX30, w ∈ wsX9_toldOfOne := by decide +kernel
theorem iw_X9_isWork_X9 : ∀ w ∈ wsX90, w ∈ wsX9_isWork := by decide +kernel
theorem iw_X9_isWork_X3 : ∀ w ∈ wsX30, w ∈ wsX9_isWork := by decide +kernel
