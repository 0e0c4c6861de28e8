def tyX10 : Nat → FieldType := fun k => match k with
  | 0 => .array .byte
  | 1 => .int
  | 2 => .int
  | 3 => .int
  | 4 => .int
  | 5 => .int
  | 6 => .int
  | 7 => .int
  | 8 => .int
  | 9 => .int
  | 10 => .long
  | 11 => .int
  | 12 => .array .int
  | 13 => .array .long
  | 14 => .array .long
  | 15 => .array .int
  | 16 => .array .int
  | 17 => .array .int
  | 18 => .array .int
  | 19 => .array .int
  | 20 => .int
  | 21 => .array .int
  | 22 => .boolean
  | 23 => .long
  | 24 => .long
  | 25 => .int
  | 26 => .int
  | 27 => .array .int
  | 28 => .array .long
  | 29 => .array .long
  | 30 => .int
  | 31 => .array .int
  | 32 => .array .long
  | 33 => .array .long
  | 34 => .long
  | 35 => .array .long
  | 36 => .array .long
  | 37 => .boolean
  | 38 => .long
  | 39 => .long
  | 40 => .array .long
  | 41 => .array .long
  | 42 => .boolean
  | 43 => .int
  | 44 => .array .long
  | 45 => .array .long
  | 46 => .long
  | 47 => .long
  | 48 => .array .int
  | 49 => .long
  | 50 => .long
  | 51 => .long
  | 52 => .long
  | 53 => .boolean
  | 54 => .array .int
  | 55 => .array .int
  | 56 => .int
  | 57 => .int
  | 58 => .int
  | 59 => .int
  | 60 => .array .int
  | 61 => .array .int
  | 62 => .array .int
  | 63 => .array .int
  | _ => .array .int
abbrev wsX100 : List Cond := u_ws RX10 TX10 65
theorem nmX10 : ∀ a, a < 65 → ∀ b, b < 65 → a ≠ b → (TX10 a).2.1 ≠ (TX10 b).2.1 := by decide +kernel
theorem tyX10_ok : ∀ k, k < 65 → parseFieldDescriptor (TX10 k).2.2.1 = some (tyX10 k) := by decide +kernel
abbrev cX10_in : ByteArray := prog_12_method_2_code
def yX10_in : MethodName := ⟨RX10, "in", "(JJJ)Z"⟩
abbrev cX10_feed : ByteArray := prog_12_method_3_code
def yX10_feed : MethodName := ⟨RX10, "feed", "(IIIII)I"⟩
abbrev cX10_end : ByteArray := prog_12_method_4_code
def yX10_end : MethodName := ⟨RX10, "end", "(I)I"⟩
abbrev cX10_byteAt : ByteArray := prog_12_method_5_code
def yX10_byteAt : MethodName := ⟨RX10, "byteAt", "(I)I"⟩
abbrev cX10_isSmall : ByteArray := prog_12_method_6_code
def yX10_isSmall : MethodName := ⟨RX10, "isSmall", "(I)Z"⟩
def wsX10_in : List Cond := .code yX10_in cX10_in 6 (some .boolean) :: ([])
def wsX10_feed : List Cond := .code yX10_feed cX10_feed 9 (some .int) :: ([.fieldLink RX10 112 "PaidBySignsModel" "taped" "I", .fieldLink RX10 7 "PaidBySignsModel" "tape" "[B"] ++ wsX100)
def wsX10_end : List Cond := .code yX10_end cX10_end 2 (some .int) :: ([.fieldLink RX10 112 "PaidBySignsModel" "taped" "I"] ++ wsX100)
def wsX10_byteAt : List Cond := .code yX10_byteAt cX10_byteAt 2 (some .int) :: ([.fieldLink RX10 115 "PaidBySignsModel" "size" "I", .fieldLink RX10 7 "PaidBySignsModel" "tape" "[B"] ++ wsX100)
def wsX10_isSmall : List Cond := .code yX10_isSmall cX10_isSmall 1 (some .boolean) :: ([])
theorem dX10_in_0 : decode cX10_in 0 = .ok (.lload_n 0, 1) := by decide +kernel
theorem dX10_in_1 : decode cX10_in 1 = .ok (.lload_n 2, 1) := by decide +kernel
theorem dX10_in_2 : decode cX10_in 2 = .ok (.lcmp, 1) := by decide +kernel
theorem dX10_in_3 : decode cX10_in 3 = .ok (.ifCond .lt 14, 3) := by decide +kernel
theorem dX10_in_6 : decode cX10_in 6 = .ok (.lload_n 0, 1) := by decide +kernel
theorem dX10_in_7 : decode cX10_in 7 = .ok (.lload 4, 2) := by decide +kernel
theorem dX10_in_9 : decode cX10_in 9 = .ok (.lcmp, 1) := by decide +kernel
theorem dX10_in_10 : decode cX10_in 10 = .ok (.ifCond .gt 7, 3) := by decide +kernel
theorem dX10_in_13 : decode cX10_in 13 = .ok (.iconst 1, 1) := by decide +kernel
theorem dX10_in_14 : decode cX10_in 14 = .ok (.goto 4, 3) := by decide +kernel
theorem dX10_in_17 : decode cX10_in 17 = .ok (.iconst 0, 1) := by decide +kernel
theorem dX10_in_18 : decode cX10_in 18 = .ok (.ireturn, 1) := by decide +kernel
theorem dX10_feed_0 : decode cX10_feed 0 = .ok (.aload_n 0, 1) := by decide +kernel
theorem dX10_feed_1 : decode cX10_feed 1 = .ok (.getfield 112, 3) := by decide +kernel
theorem dX10_feed_4 : decode cX10_feed 4 = .ok (.bipush 20, 2) := by decide +kernel
theorem dX10_feed_6 : decode cX10_feed 6 = .ok (.iadd, 1) := by decide +kernel
theorem dX10_feed_7 : decode cX10_feed 7 = .ok (.sipush 900, 3) := by decide +kernel
theorem dX10_feed_10 : decode cX10_feed 10 = .ok (.if_icmp .le 6, 3) := by decide +kernel
theorem dX10_feed_13 : decode cX10_feed 13 = .ok (.bipush (-3), 2) := by decide +kernel
theorem dX10_feed_15 : decode cX10_feed 15 = .ok (.ireturn, 1) := by decide +kernel
theorem dX10_feed_16 : decode cX10_feed 16 = .ok (.iconst 0, 1) := by decide +kernel
theorem dX10_feed_17 : decode cX10_feed 17 = .ok (.istore 6, 2) := by decide +kernel
theorem dX10_feed_19 : decode cX10_feed 19 = .ok (.iload 6, 2) := by decide +kernel
theorem dX10_feed_21 : decode cX10_feed 21 = .ok (.iconst 5, 1) := by decide +kernel
theorem dX10_feed_22 : decode cX10_feed 22 = .ok (.if_icmp .ge 93, 3) := by decide +kernel
theorem dX10_feed_25 : decode cX10_feed 25 = .ok (.iload 6, 2) := by decide +kernel
theorem dX10_feed_27 : decode cX10_feed 27 = .ok (.ifCond .ne 7, 3) := by decide +kernel
theorem dX10_feed_30 : decode cX10_feed 30 = .ok (.iload_n 1, 1) := by decide +kernel
theorem dX10_feed_31 : decode cX10_feed 31 = .ok (.goto 36, 3) := by decide +kernel
theorem dX10_feed_34 : decode cX10_feed 34 = .ok (.iload 6, 2) := by decide +kernel
theorem dX10_feed_36 : decode cX10_feed 36 = .ok (.iconst 1, 1) := by decide +kernel
theorem dX10_feed_37 : decode cX10_feed 37 = .ok (.if_icmp .ne 7, 3) := by decide +kernel
theorem dX10_feed_40 : decode cX10_feed 40 = .ok (.iload_n 2, 1) := by decide +kernel
theorem dX10_feed_41 : decode cX10_feed 41 = .ok (.goto 26, 3) := by decide +kernel
theorem dX10_feed_44 : decode cX10_feed 44 = .ok (.iload 6, 2) := by decide +kernel
theorem dX10_feed_46 : decode cX10_feed 46 = .ok (.iconst 2, 1) := by decide +kernel
theorem dX10_feed_47 : decode cX10_feed 47 = .ok (.if_icmp .ne 7, 3) := by decide +kernel
theorem dX10_feed_50 : decode cX10_feed 50 = .ok (.iload_n 3, 1) := by decide +kernel
theorem dX10_feed_51 : decode cX10_feed 51 = .ok (.goto 16, 3) := by decide +kernel
theorem dX10_feed_54 : decode cX10_feed 54 = .ok (.iload 6, 2) := by decide +kernel
theorem dX10_feed_56 : decode cX10_feed 56 = .ok (.iconst 3, 1) := by decide +kernel
theorem dX10_feed_57 : decode cX10_feed 57 = .ok (.if_icmp .ne 8, 3) := by decide +kernel
theorem dX10_feed_60 : decode cX10_feed 60 = .ok (.iload 4, 2) := by decide +kernel
theorem dX10_feed_62 : decode cX10_feed 62 = .ok (.goto 5, 3) := by decide +kernel
theorem dX10_feed_65 : decode cX10_feed 65 = .ok (.iload 5, 2) := by decide +kernel
theorem dX10_feed_67 : decode cX10_feed 67 = .ok (.istore 7, 2) := by decide +kernel
theorem dX10_feed_69 : decode cX10_feed 69 = .ok (.bipush 24, 2) := by decide +kernel
theorem dX10_feed_71 : decode cX10_feed 71 = .ok (.istore 8, 2) := by decide +kernel
theorem dX10_feed_73 : decode cX10_feed 73 = .ok (.iload 8, 2) := by decide +kernel
theorem dX10_feed_75 : decode cX10_feed 75 = .ok (.ifCond .lt 34, 3) := by decide +kernel
theorem dX10_feed_78 : decode cX10_feed 78 = .ok (.aload_n 0, 1) := by decide +kernel
theorem dX10_feed_79 : decode cX10_feed 79 = .ok (.getfield 7, 3) := by decide +kernel
theorem dX10_feed_82 : decode cX10_feed 82 = .ok (.aload_n 0, 1) := by decide +kernel
theorem dX10_feed_83 : decode cX10_feed 83 = .ok (.getfield 112, 3) := by decide +kernel
theorem dX10_feed_86 : decode cX10_feed 86 = .ok (.iload 7, 2) := by decide +kernel
theorem dX10_feed_88 : decode cX10_feed 88 = .ok (.iload 8, 2) := by decide +kernel
theorem dX10_feed_90 : decode cX10_feed 90 = .ok (.ishr, 1) := by decide +kernel
theorem dX10_feed_91 : decode cX10_feed 91 = .ok (.i2b, 1) := by decide +kernel
theorem dX10_feed_92 : decode cX10_feed 92 = .ok (.bastore, 1) := by decide +kernel
theorem dX10_feed_93 : decode cX10_feed 93 = .ok (.aload_n 0, 1) := by decide +kernel
theorem dX10_feed_94 : decode cX10_feed 94 = .ok (.dup, 1) := by decide +kernel
theorem dX10_feed_95 : decode cX10_feed 95 = .ok (.getfield 112, 3) := by decide +kernel
theorem dX10_feed_98 : decode cX10_feed 98 = .ok (.iconst 1, 1) := by decide +kernel
theorem dX10_feed_99 : decode cX10_feed 99 = .ok (.iadd, 1) := by decide +kernel
theorem dX10_feed_100 : decode cX10_feed 100 = .ok (.putfield 112, 3) := by decide +kernel
theorem dX10_feed_103 : decode cX10_feed 103 = .ok (.iinc 8 (-8), 3) := by decide +kernel
theorem dX10_feed_106 : decode cX10_feed 106 = .ok (.goto (-33), 3) := by decide +kernel
theorem dX10_feed_109 : decode cX10_feed 109 = .ok (.iinc 6 1, 3) := by decide +kernel
theorem dX10_feed_112 : decode cX10_feed 112 = .ok (.goto (-93), 3) := by decide +kernel
theorem dX10_feed_115 : decode cX10_feed 115 = .ok (.aload_n 0, 1) := by decide +kernel
theorem dX10_feed_116 : decode cX10_feed 116 = .ok (.getfield 112, 3) := by decide +kernel
theorem dX10_feed_119 : decode cX10_feed 119 = .ok (.ireturn, 1) := by decide +kernel
theorem dX10_end_0 : decode cX10_end 0 = .ok (.iload_n 1, 1) := by decide +kernel
theorem dX10_end_1 : decode cX10_end 1 = .ok (.ifCond .lt 11, 3) := by decide +kernel
theorem dX10_end_4 : decode cX10_end 4 = .ok (.iload_n 1, 1) := by decide +kernel
theorem dX10_end_5 : decode cX10_end 5 = .ok (.aload_n 0, 1) := by decide +kernel
theorem dX10_end_6 : decode cX10_end 6 = .ok (.getfield 112, 3) := by decide +kernel
theorem dX10_end_9 : decode cX10_end 9 = .ok (.if_icmp .le 5, 3) := by decide +kernel
theorem dX10_end_12 : decode cX10_end 12 = .ok (.iconst (-1), 1) := by decide +kernel
theorem dX10_end_13 : decode cX10_end 13 = .ok (.ireturn, 1) := by decide +kernel
theorem dX10_end_14 : decode cX10_end 14 = .ok (.aload_n 0, 1) := by decide +kernel
theorem dX10_end_15 : decode cX10_end 15 = .ok (.iload_n 1, 1) := by decide +kernel
theorem dX10_end_16 : decode cX10_end 16 = .ok (.putfield 112, 3) := by decide +kernel
theorem dX10_end_19 : decode cX10_end 19 = .ok (.iload_n 1, 1) := by decide +kernel
theorem dX10_end_20 : decode cX10_end 20 = .ok (.ireturn, 1) := by decide +kernel
theorem dX10_byteAt_0 : decode cX10_byteAt 0 = .ok (.iload_n 1, 1) := by decide +kernel
theorem dX10_byteAt_1 : decode cX10_byteAt 1 = .ok (.aload_n 0, 1) := by decide +kernel
theorem dX10_byteAt_2 : decode cX10_byteAt 2 = .ok (.getfield 115, 3) := by decide +kernel
theorem dX10_byteAt_5 : decode cX10_byteAt 5 = .ok (.if_icmp .ge 16, 3) := by decide +kernel
theorem dX10_byteAt_8 : decode cX10_byteAt 8 = .ok (.aload_n 0, 1) := by decide +kernel
theorem dX10_byteAt_9 : decode cX10_byteAt 9 = .ok (.getfield 7, 3) := by decide +kernel
theorem dX10_byteAt_12 : decode cX10_byteAt 12 = .ok (.iload_n 1, 1) := by decide +kernel
theorem dX10_byteAt_13 : decode cX10_byteAt 13 = .ok (.baload, 1) := by decide +kernel
theorem dX10_byteAt_14 : decode cX10_byteAt 14 = .ok (.sipush 255, 3) := by decide +kernel
theorem dX10_byteAt_17 : decode cX10_byteAt 17 = .ok (.iand, 1) := by decide +kernel
theorem dX10_byteAt_18 : decode cX10_byteAt 18 = .ok (.goto 4, 3) := by decide +kernel
theorem dX10_byteAt_21 : decode cX10_byteAt 21 = .ok (.iconst (-1), 1) := by decide +kernel
theorem dX10_byteAt_22 : decode cX10_byteAt 22 = .ok (.ireturn, 1) := by decide +kernel
theorem dX10_isSmall_0 : decode cX10_isSmall 0 = .ok (.iload_n 0, 1) := by decide +kernel
theorem dX10_isSmall_1 : decode cX10_isSmall 1 = .ok (.bipush 97, 2) := by decide +kernel
theorem dX10_isSmall_3 : decode cX10_isSmall 3 = .ok (.if_icmp .lt 13, 3) := by decide +kernel
theorem dX10_isSmall_6 : decode cX10_isSmall 6 = .ok (.iload_n 0, 1) := by decide +kernel
theorem dX10_isSmall_7 : decode cX10_isSmall 7 = .ok (.bipush 122, 2) := by decide +kernel
theorem dX10_isSmall_9 : decode cX10_isSmall 9 = .ok (.if_icmp .gt 7, 3) := by decide +kernel
theorem dX10_isSmall_12 : decode cX10_isSmall 12 = .ok (.iconst 1, 1) := by decide +kernel
theorem dX10_isSmall_13 : decode cX10_isSmall 13 = .ok (.goto 4, 3) := by decide +kernel
theorem dX10_isSmall_16 : decode cX10_isSmall 16 = .ok (.iconst 0, 1) := by decide +kernel
theorem dX10_isSmall_17 : decode cX10_isSmall 17 = .ok (.ireturn, 1) := by decide +kernel
theorem kk_X10_feed_0 : Cond.fieldLink RX10 112 "PaidBySignsModel" "taped" "I" ∈ wsX10_feed := by decide +kernel
theorem kk_X10_feed_1 : Cond.fieldLink RX10 7 "PaidBySignsModel" "tape" "[B" ∈ wsX10_feed := by decide +kernel
theorem kk_X10_end_0 : Cond.fieldLink RX10 112 "PaidBySignsModel" "taped" "I" ∈ wsX10_end := by decide +kernel
theorem kk_X10_byteAt_0 : Cond.fieldLink RX10 115 "PaidBySignsModel" "size" "I" ∈ wsX10_byteAt := by decide +kernel
theorem kk_X10_byteAt_1 : Cond.fieldLink RX10 7 "PaidBySignsModel" "tape" "[B" ∈ wsX10_byteAt := by decide +kernel
theorem iw_X10_feed_X10 : ∀ w ∈ wsX100, w ∈ wsX10_feed := by decide +kernel
theorem iw_X10_end_X10 : ∀ w ∈ wsX100, w ∈ wsX10_end := by decide +kernel
theorem iw_X10_byteAt_X10 : ∀ w ∈ wsX100, w ∈ wsX10_byteAt := by decide +kernel

abbrev cX10_isDigit : ByteArray := prog_12_method_7_code
def yX10_isDigit : MethodName := ⟨RX10, "isDigit", "(I)Z"⟩
abbrev cX10_keyAt : ByteArray := prog_12_method_8_code
def yX10_keyAt : MethodName := ⟨RX10, "keyAt", "(II)I"⟩
abbrev cX10_scan : ByteArray := prog_12_method_9_code
def yX10_scan : MethodName := ⟨RX10, "scan", "()V"⟩
abbrev cX10_fails : ByteArray := prog_12_method_10_code
def yX10_fails : MethodName := ⟨RX10, "fails", "(I)Z"⟩
abbrev cX10_readNumber : ByteArray := prog_12_method_11_code
def yX10_readNumber : MethodName := ⟨RX10, "readNumber", "(II)Z"⟩
def wsX10_isDigit : List Cond := .code yX10_isDigit cX10_isDigit 1 (some .boolean) :: ([])
def wsX10_keyAt_r1 : List Cond := [Cond.methodLink RX10 120 yJ0_length_8abf5, Cond.instanceMethod yJ0_length_8abf5, Cond.selects RJ0 yJ0_length_8abf5 yJ0_length_8abf5, Cond.initialized RJ0, Cond.code yJ0_length_8abf5 cJ0_length_8abf5 1 (some .int), Cond.fieldLink RJ0 9 "java/lang/String" "value" "[B", Cond.methodLink RJ0 335 yJ0_coder_7d493, Cond.instanceMethod yJ0_coder_7d493, Cond.selects RJ0 yJ0_coder_7d493 yJ0_coder_7d493, Cond.code yJ0_coder_7d493 cJ0_coder_7d493 1 (some .byte), Cond.fieldLink RJ0 38 "java/lang/String" "COMPACT_STRINGS" "Z", Cond.fieldLink RJ0 15 "java/lang/String" "coder" "B", Cond.methodLink RX10 126 yJ0_charAt_5068e, Cond.instanceMethod yJ0_charAt_5068e, Cond.selects RJ0 yJ0_charAt_5068e yJ0_charAt_5068e, Cond.code yJ0_charAt_5068e cJ0_charAt_5068e 2 (some .char), Cond.methodLink RJ0 492 yJ0_isLatin1_aae02, Cond.instanceMethod yJ0_isLatin1_aae02, Cond.selects RJ0 yJ0_isLatin1_aae02 yJ0_isLatin1_aae02, Cond.code yJ0_isLatin1_aae02 cJ0_isLatin1_aae02 1 (some .boolean), Cond.methodLink RJ0 495 yJ1_charAt_3b067, Cond.static yJ1_charAt_3b067, Cond.initialized RJ1, Cond.code yJ1_charAt_3b067 cJ1_charAt_3b067 2 (some .char)]
def wsX10_keyAt_r2 : List Cond := [Cond.methodLink RJ1 9 yJ0_checkIndex_df160, Cond.static yJ0_checkIndex_df160, Cond.code yJ0_checkIndex_df160 cJ0_checkIndex_df160 2 none, Cond.fieldLink RJ0 1053 "jdk/internal/util/Preconditions" "SIOOBE_FORMATTER" "Ljava/util/function/BiFunction;", Cond.methodLink RJ0 1059 yJ3_checkIndex_8e157, Cond.static yJ3_checkIndex_8e157, Cond.initialized RJ3, Cond.code yJ3_checkIndex_8e157 cJ3_checkIndex_8e157 3 (some .int), Cond.methodLink RJ0 498 yJ2_charAt_3b067, Cond.static yJ2_charAt_3b067, Cond.initialized RJ2, Cond.code yJ2_charAt_3b067 cJ2_charAt_3b067 2 (some .char), Cond.methodLink RJ2 67 yJ2_checkIndex_2214a, Cond.static yJ2_checkIndex_2214a, Cond.code yJ2_checkIndex_2214a cJ2_checkIndex_2214a 2 none, Cond.methodLink RJ2 48 yJ2_length_9d52b, Cond.static yJ2_length_9d52b, Cond.code yJ2_length_9d52b cJ2_length_9d52b 1 (some .int), Cond.methodLink RJ2 414 yJ0_checkIndex_df160, Cond.methodLink RJ2 71 yJ2_getChar_3b067, Cond.static yJ2_getChar_3b067, Cond.code yJ2_getChar_3b067 cJ2_getChar_3b067 2 (some .char), Cond.fieldLink RJ2 44 "java/lang/StringUTF16" "$assertionsDisabled" "Z", Cond.fieldLink RJ2 59 "java/lang/StringUTF16" "HI_BYTE_SHIFT" "I"]
def wsX10_keyAt_r3 : List Cond := [Cond.fieldLink RJ2 63 "java/lang/StringUTF16" "LO_BYTE_SHIFT" "I", Cond.methodLink RX10 130 yX10_byteAt, Cond.instanceMethod yX10_byteAt, Cond.selects RX10 yX10_byteAt yX10_byteAt, Cond.initialized RX10, Cond.code yX10_byteAt cX10_byteAt 2 (some .int), Cond.fieldLink RX10 115 "PaidBySignsModel" "size" "I", Cond.fieldLink RX10 7 "PaidBySignsModel" "tape" "[B"]
def wsX10_keyAt : List Cond := .code yX10_keyAt cX10_keyAt 8 (some .int) :: ((wsX10_keyAt_r1 ++ (wsX10_keyAt_r2 ++ wsX10_keyAt_r3)) ++ wsX100)
def wsX10_scan_r1 : List Cond := [Cond.fieldLink RX10 134 "PaidBySignsModel" "end" "I", Cond.fieldLink RX10 137 "PaidBySignsModel" "at" "I", Cond.fieldLink RX10 140 "PaidBySignsModel" "key" "I", Cond.fieldLink RX10 143 "PaidBySignsModel" "sort" "I", Cond.fieldLink RX10 150 "PaidBySignsModel" "word" "J", Cond.constantLong RX10 154 (32), Cond.constantLong RX10 156 (97), Cond.fieldLink RX10 165 "PaidBySignsModel" "number" "I", Cond.methodLink RX10 130 yX10_byteAt, Cond.instanceMethod yX10_byteAt, Cond.selects RX10 yX10_byteAt yX10_byteAt, Cond.initialized RX10, Cond.code yX10_byteAt cX10_byteAt 2 (some .int), Cond.fieldLink RX10 115 "PaidBySignsModel" "size" "I", Cond.fieldLink RX10 7 "PaidBySignsModel" "tape" "[B", Cond.methodLink RX10 146 yX10_isSmall, Cond.static yX10_isSmall, Cond.code yX10_isSmall cX10_isSmall 1 (some .boolean), Cond.methodLink RX10 158 yX10_keyAt, Cond.instanceMethod yX10_keyAt, Cond.selects RX10 yX10_keyAt yX10_keyAt, Cond.code yX10_keyAt cX10_keyAt 8 (some .int), Cond.methodLink RX10 120 yJ0_length_8abf5, Cond.instanceMethod yJ0_length_8abf5]
def wsX10_scan_r2 : List Cond := [Cond.selects RJ0 yJ0_length_8abf5 yJ0_length_8abf5, Cond.initialized RJ0, Cond.code yJ0_length_8abf5 cJ0_length_8abf5 1 (some .int), Cond.fieldLink RJ0 9 "java/lang/String" "value" "[B", Cond.methodLink RJ0 335 yJ0_coder_7d493, Cond.instanceMethod yJ0_coder_7d493, Cond.selects RJ0 yJ0_coder_7d493 yJ0_coder_7d493, Cond.code yJ0_coder_7d493 cJ0_coder_7d493 1 (some .byte), Cond.fieldLink RJ0 38 "java/lang/String" "COMPACT_STRINGS" "Z", Cond.fieldLink RJ0 15 "java/lang/String" "coder" "B", Cond.methodLink RX10 126 yJ0_charAt_5068e, Cond.instanceMethod yJ0_charAt_5068e, Cond.selects RJ0 yJ0_charAt_5068e yJ0_charAt_5068e, Cond.code yJ0_charAt_5068e cJ0_charAt_5068e 2 (some .char), Cond.methodLink RJ0 492 yJ0_isLatin1_aae02, Cond.instanceMethod yJ0_isLatin1_aae02, Cond.selects RJ0 yJ0_isLatin1_aae02 yJ0_isLatin1_aae02, Cond.code yJ0_isLatin1_aae02 cJ0_isLatin1_aae02 1 (some .boolean), Cond.methodLink RJ0 495 yJ1_charAt_3b067, Cond.static yJ1_charAt_3b067, Cond.initialized RJ1, Cond.code yJ1_charAt_3b067 cJ1_charAt_3b067 2 (some .char), Cond.methodLink RJ1 9 yJ0_checkIndex_df160, Cond.static yJ0_checkIndex_df160]
def wsX10_scan_r3 : List Cond := [Cond.code yJ0_checkIndex_df160 cJ0_checkIndex_df160 2 none, Cond.fieldLink RJ0 1053 "jdk/internal/util/Preconditions" "SIOOBE_FORMATTER" "Ljava/util/function/BiFunction;", Cond.methodLink RJ0 1059 yJ3_checkIndex_8e157, Cond.static yJ3_checkIndex_8e157, Cond.initialized RJ3, Cond.code yJ3_checkIndex_8e157 cJ3_checkIndex_8e157 3 (some .int), Cond.methodLink RJ0 498 yJ2_charAt_3b067, Cond.static yJ2_charAt_3b067, Cond.initialized RJ2, Cond.code yJ2_charAt_3b067 cJ2_charAt_3b067 2 (some .char), Cond.methodLink RJ2 67 yJ2_checkIndex_2214a, Cond.static yJ2_checkIndex_2214a, Cond.code yJ2_checkIndex_2214a cJ2_checkIndex_2214a 2 none, Cond.methodLink RJ2 48 yJ2_length_9d52b, Cond.static yJ2_length_9d52b, Cond.code yJ2_length_9d52b cJ2_length_9d52b 1 (some .int), Cond.methodLink RJ2 414 yJ0_checkIndex_df160, Cond.methodLink RJ2 71 yJ2_getChar_3b067, Cond.static yJ2_getChar_3b067, Cond.code yJ2_getChar_3b067 cJ2_getChar_3b067 2 (some .char), Cond.fieldLink RJ2 44 "java/lang/StringUTF16" "$assertionsDisabled" "Z", Cond.fieldLink RJ2 59 "java/lang/StringUTF16" "HI_BYTE_SHIFT" "I", Cond.fieldLink RJ2 63 "java/lang/StringUTF16" "LO_BYTE_SHIFT" "I", Cond.methodLink RX10 162 yX10_isDigit]
def wsX10_scan_r4 : List Cond := [Cond.static yX10_isDigit, Cond.code yX10_isDigit cX10_isDigit 1 (some .boolean)]
def wsX10_scan : List Cond := .code yX10_scan cX10_scan 4 none :: ((wsX10_scan_r1 ++ (wsX10_scan_r2 ++ (wsX10_scan_r3 ++ wsX10_scan_r4))) ++ wsX100)
def wsX10_fails : List Cond := .code yX10_fails cX10_fails 2 (some .boolean) :: ([.fieldLink RX10 168 "PaidBySignsModel" "faultKind" "I", .fieldLink RX10 137 "PaidBySignsModel" "at" "I", .fieldLink RX10 13 "PaidBySignsModel" "faultPlace" "I"] ++ wsX100)
def wsX10_readNumber_r1 : List Cond := [Cond.fieldLink RX10 143 "PaidBySignsModel" "sort" "I", Cond.fieldLink RX10 165 "PaidBySignsModel" "number" "I", Cond.fieldLink RX10 178 "PaidBySignsModel" "got" "I", Cond.methodLink RX10 171 yX10_fails, Cond.instanceMethod yX10_fails, Cond.selects RX10 yX10_fails yX10_fails, Cond.initialized RX10, Cond.code yX10_fails cX10_fails 2 (some .boolean), Cond.fieldLink RX10 168 "PaidBySignsModel" "faultKind" "I", Cond.fieldLink RX10 137 "PaidBySignsModel" "at" "I", Cond.fieldLink RX10 13 "PaidBySignsModel" "faultPlace" "I", Cond.methodLink RX10 174 yX10_in, Cond.static yX10_in, Cond.code yX10_in cX10_in 6 (some .boolean), Cond.methodLink RX10 181 yX10_scan, Cond.instanceMethod yX10_scan, Cond.selects RX10 yX10_scan yX10_scan, Cond.code yX10_scan cX10_scan 4 none, Cond.fieldLink RX10 134 "PaidBySignsModel" "end" "I", Cond.fieldLink RX10 140 "PaidBySignsModel" "key" "I", Cond.fieldLink RX10 150 "PaidBySignsModel" "word" "J", Cond.constantLong RX10 154 (32), Cond.constantLong RX10 156 (97), Cond.methodLink RX10 130 yX10_byteAt]
def wsX10_readNumber_r2 : List Cond := [Cond.instanceMethod yX10_byteAt, Cond.selects RX10 yX10_byteAt yX10_byteAt, Cond.code yX10_byteAt cX10_byteAt 2 (some .int), Cond.fieldLink RX10 115 "PaidBySignsModel" "size" "I", Cond.fieldLink RX10 7 "PaidBySignsModel" "tape" "[B", Cond.methodLink RX10 146 yX10_isSmall, Cond.static yX10_isSmall, Cond.code yX10_isSmall cX10_isSmall 1 (some .boolean), Cond.methodLink RX10 158 yX10_keyAt, Cond.instanceMethod yX10_keyAt, Cond.selects RX10 yX10_keyAt yX10_keyAt, Cond.code yX10_keyAt cX10_keyAt 8 (some .int), Cond.methodLink RX10 120 yJ0_length_8abf5, Cond.instanceMethod yJ0_length_8abf5, Cond.selects RJ0 yJ0_length_8abf5 yJ0_length_8abf5, Cond.initialized RJ0, Cond.code yJ0_length_8abf5 cJ0_length_8abf5 1 (some .int), Cond.fieldLink RJ0 9 "java/lang/String" "value" "[B", Cond.methodLink RJ0 335 yJ0_coder_7d493, Cond.instanceMethod yJ0_coder_7d493, Cond.selects RJ0 yJ0_coder_7d493 yJ0_coder_7d493, Cond.code yJ0_coder_7d493 cJ0_coder_7d493 1 (some .byte), Cond.fieldLink RJ0 38 "java/lang/String" "COMPACT_STRINGS" "Z", Cond.fieldLink RJ0 15 "java/lang/String" "coder" "B"]
def wsX10_readNumber_r3 : List Cond := [Cond.methodLink RX10 126 yJ0_charAt_5068e, Cond.instanceMethod yJ0_charAt_5068e, Cond.selects RJ0 yJ0_charAt_5068e yJ0_charAt_5068e, Cond.code yJ0_charAt_5068e cJ0_charAt_5068e 2 (some .char), Cond.methodLink RJ0 492 yJ0_isLatin1_aae02, Cond.instanceMethod yJ0_isLatin1_aae02, Cond.selects RJ0 yJ0_isLatin1_aae02 yJ0_isLatin1_aae02, Cond.code yJ0_isLatin1_aae02 cJ0_isLatin1_aae02 1 (some .boolean), Cond.methodLink RJ0 495 yJ1_charAt_3b067, Cond.static yJ1_charAt_3b067, Cond.initialized RJ1, Cond.code yJ1_charAt_3b067 cJ1_charAt_3b067 2 (some .char), Cond.methodLink RJ1 9 yJ0_checkIndex_df160, Cond.static yJ0_checkIndex_df160, Cond.code yJ0_checkIndex_df160 cJ0_checkIndex_df160 2 none, Cond.fieldLink RJ0 1053 "jdk/internal/util/Preconditions" "SIOOBE_FORMATTER" "Ljava/util/function/BiFunction;", Cond.methodLink RJ0 1059 yJ3_checkIndex_8e157, Cond.static yJ3_checkIndex_8e157, Cond.initialized RJ3, Cond.code yJ3_checkIndex_8e157 cJ3_checkIndex_8e157 3 (some .int), Cond.methodLink RJ0 498 yJ2_charAt_3b067, Cond.static yJ2_charAt_3b067, Cond.initialized RJ2, Cond.code yJ2_charAt_3b067 cJ2_charAt_3b067 2 (some .char)]
def wsX10_readNumber_r4 : List Cond := [Cond.methodLink RJ2 67 yJ2_checkIndex_2214a, Cond.static yJ2_checkIndex_2214a, Cond.code yJ2_checkIndex_2214a cJ2_checkIndex_2214a 2 none, Cond.methodLink RJ2 48 yJ2_length_9d52b, Cond.static yJ2_length_9d52b, Cond.code yJ2_length_9d52b cJ2_length_9d52b 1 (some .int), Cond.methodLink RJ2 414 yJ0_checkIndex_df160, Cond.methodLink RJ2 71 yJ2_getChar_3b067, Cond.static yJ2_getChar_3b067, Cond.code yJ2_getChar_3b067 cJ2_getChar_3b067 2 (some .char), Cond.fieldLink RJ2 44 "java/lang/StringUTF16" "$assertionsDisabled" "Z", Cond.fieldLink RJ2 59 "java/lang/StringUTF16" "HI_BYTE_SHIFT" "I", Cond.fieldLink RJ2 63 "java/lang/StringUTF16" "LO_BYTE_SHIFT" "I", Cond.methodLink RX10 162 yX10_isDigit, Cond.static yX10_isDigit, Cond.code yX10_isDigit cX10_isDigit 1 (some .boolean)]
def wsX10_readNumber : List Cond := .code yX10_readNumber cX10_readNumber 3 (some .boolean) :: ((wsX10_readNumber_r1 ++ (wsX10_readNumber_r2 ++ (wsX10_readNumber_r3 ++ wsX10_readNumber_r4))) ++ wsX100)
theorem dX10_isDigit_0 : decode cX10_isDigit 0 = .ok (.iload_n 0, 1) := by decide +kernel
theorem dX10_isDigit_1 : decode cX10_isDigit 1 = .ok (.bipush 48, 2) := by decide +kernel
theorem dX10_isDigit_3 : decode cX10_isDigit 3 = .ok (.if_icmp .lt 13, 3) := by decide +kernel
theorem dX10_isDigit_6 : decode cX10_isDigit 6 = .ok (.iload_n 0, 1) := by decide +kernel
theorem dX10_isDigit_7 : decode cX10_isDigit 7 = .ok (.bipush 57, 2) := by decide +kernel
theorem dX10_isDigit_9 : decode cX10_isDigit 9 = .ok (.if_icmp .gt 7, 3) := by decide +kernel
theorem dX10_isDigit_12 : decode cX10_isDigit 12 = .ok (.iconst 1, 1) := by decide +kernel
theorem dX10_isDigit_13 : decode cX10_isDigit 13 = .ok (.goto 4, 3) := by decide +kernel
theorem dX10_isDigit_16 : decode cX10_isDigit 16 = .ok (.iconst 0, 1) := by decide +kernel
theorem dX10_isDigit_17 : decode cX10_isDigit 17 = .ok (.ireturn, 1) := by decide +kernel
theorem pm_X10_keyAt_r1 : ∀ w ∈ wsX10_keyAt_r1, w ∈ wsX10_keyAt := fun _ h => List.mem_cons_of_mem _ (List.mem_append_left _ (List.mem_append_left _ h))
theorem pm_X10_keyAt_r2 : ∀ w ∈ wsX10_keyAt_r2, w ∈ wsX10_keyAt := fun _ h => List.mem_cons_of_mem _ (List.mem_append_left _ (List.mem_append_right _ (List.mem_append_left _ h)))
theorem pm_X10_keyAt_r3 : ∀ w ∈ wsX10_keyAt_r3, w ∈ wsX10_keyAt := fun _ h => List.mem_cons_of_mem _ (List.mem_append_left _ (List.mem_append_right _ (List.mem_append_right _ (h))))
theorem pw_X10_keyAt_X10 : ∀ w ∈ wsX100, w ∈ wsX10_keyAt := fun _ h => List.mem_cons_of_mem _ (List.mem_append_right _ h)
set_option maxRecDepth 20000 in
theorem ggX10_keyAt_J0_length_8abf5 : GoodIn wsX10_keyAt wsJ0_length_8abf5 := goodIn_sub (List.forall_mem_cons.mpr ⟨pm_X10_keyAt_r1 _ (List.mem_of_getElem? (i := 4) rfl), List.forall_mem_cons.mpr ⟨pm_X10_keyAt_r1 _ (List.mem_of_getElem? (i := 5) rfl), List.forall_mem_cons.mpr ⟨pm_X10_keyAt_r1 _ (List.mem_of_getElem? (i := 6) rfl), List.forall_mem_cons.mpr ⟨pm_X10_keyAt_r1 _ (List.mem_of_getElem? (i := 7) rfl), List.forall_mem_cons.mpr ⟨pm_X10_keyAt_r1 _ (List.mem_of_getElem? (i := 8) rfl), List.forall_mem_cons.mpr ⟨pm_X10_keyAt_r1 _ (List.mem_of_getElem? (i := 3) rfl), List.forall_mem_cons.mpr ⟨pm_X10_keyAt_r1 _ (List.mem_of_getElem? (i := 9) rfl), List.forall_mem_cons.mpr ⟨pm_X10_keyAt_r1 _ (List.mem_of_getElem? (i := 10) rfl), List.forall_mem_cons.mpr ⟨pm_X10_keyAt_r1 _ (List.mem_of_getElem? (i := 11) rfl), fun _ h => absurd h List.not_mem_nil⟩⟩⟩⟩⟩⟩⟩⟩⟩) (by decide +kernel)
set_option maxRecDepth 20000 in
theorem gX10_keyAt_J0_length_8abf5 : GoodIn wsX10_keyAt (wsV RX10 120 RJ0 yJ0_length_8abf5 wsJ0_length_8abf5) := goodIn_app (goodIn_of _ (by decide +kernel)) ggX10_keyAt_J0_length_8abf5
set_option maxRecDepth 20000 in
theorem pq_X10_keyAt_J0_charAt_5068e_r1 : ∀ w ∈ wsJ0_charAt_5068e_r1, w ∈ wsX10_keyAt := List.forall_mem_cons.mpr ⟨pm_X10_keyAt_r1 _ (List.mem_of_getElem? (i := 5) rfl), List.forall_mem_cons.mpr ⟨pm_X10_keyAt_r1 _ (List.mem_of_getElem? (i := 16) rfl), List.forall_mem_cons.mpr ⟨pm_X10_keyAt_r1 _ (List.mem_of_getElem? (i := 17) rfl), List.forall_mem_cons.mpr ⟨pm_X10_keyAt_r1 _ (List.mem_of_getElem? (i := 18) rfl), List.forall_mem_cons.mpr ⟨pm_X10_keyAt_r1 _ (List.mem_of_getElem? (i := 3) rfl), List.forall_mem_cons.mpr ⟨pm_X10_keyAt_r1 _ (List.mem_of_getElem? (i := 19) rfl), List.forall_mem_cons.mpr ⟨pm_X10_keyAt_r1 _ (List.mem_of_getElem? (i := 10) rfl), List.forall_mem_cons.mpr ⟨pm_X10_keyAt_r1 _ (List.mem_of_getElem? (i := 11) rfl), List.forall_mem_cons.mpr ⟨pm_X10_keyAt_r1 _ (List.mem_of_getElem? (i := 20) rfl), List.forall_mem_cons.mpr ⟨pm_X10_keyAt_r1 _ (List.mem_of_getElem? (i := 21) rfl), List.forall_mem_cons.mpr ⟨pm_X10_keyAt_r1 _ (List.mem_of_getElem? (i := 22) rfl), List.forall_mem_cons.mpr ⟨pm_X10_keyAt_r1 _ (List.mem_of_getElem? (i := 23) rfl), List.forall_mem_cons.mpr ⟨pm_X10_keyAt_r2 _ (List.mem_of_getElem? (i := 0) rfl), List.forall_mem_cons.mpr ⟨pm_X10_keyAt_r2 _ (List.mem_of_getElem? (i := 1) rfl), List.forall_mem_cons.mpr ⟨pm_X10_keyAt_r2 _ (List.mem_of_getElem? (i := 2) rfl), List.forall_mem_cons.mpr ⟨pm_X10_keyAt_r2 _ (List.mem_of_getElem? (i := 3) rfl), List.forall_mem_cons.mpr ⟨pm_X10_keyAt_r2 _ (List.mem_of_getElem? (i := 4) rfl), List.forall_mem_cons.mpr ⟨pm_X10_keyAt_r2 _ (List.mem_of_getElem? (i := 5) rfl), List.forall_mem_cons.mpr ⟨pm_X10_keyAt_r2 _ (List.mem_of_getElem? (i := 6) rfl), List.forall_mem_cons.mpr ⟨pm_X10_keyAt_r2 _ (List.mem_of_getElem? (i := 7) rfl), List.forall_mem_cons.mpr ⟨pm_X10_keyAt_r2 _ (List.mem_of_getElem? (i := 8) rfl), List.forall_mem_cons.mpr ⟨pm_X10_keyAt_r2 _ (List.mem_of_getElem? (i := 9) rfl), List.forall_mem_cons.mpr ⟨pm_X10_keyAt_r2 _ (List.mem_of_getElem? (i := 10) rfl), List.forall_mem_cons.mpr ⟨pm_X10_keyAt_r2 _ (List.mem_of_getElem? (i := 11) rfl), fun _ h => absurd h List.not_mem_nil⟩⟩⟩⟩⟩⟩⟩⟩⟩⟩⟩⟩⟩⟩⟩⟩⟩⟩⟩⟩⟩⟩⟩⟩
set_option maxRecDepth 20000 in
theorem pq_X10_keyAt_J0_charAt_5068e_r2 : ∀ w ∈ wsJ0_charAt_5068e_r2, w ∈ wsX10_keyAt := List.forall_mem_cons.mpr ⟨pm_X10_keyAt_r2 _ (List.mem_of_getElem? (i := 12) rfl), List.forall_mem_cons.mpr ⟨pm_X10_keyAt_r2 _ (List.mem_of_getElem? (i := 13) rfl), List.forall_mem_cons.mpr ⟨pm_X10_keyAt_r2 _ (List.mem_of_getElem? (i := 14) rfl), List.forall_mem_cons.mpr ⟨pm_X10_keyAt_r2 _ (List.mem_of_getElem? (i := 15) rfl), List.forall_mem_cons.mpr ⟨pm_X10_keyAt_r2 _ (List.mem_of_getElem? (i := 16) rfl), List.forall_mem_cons.mpr ⟨pm_X10_keyAt_r2 _ (List.mem_of_getElem? (i := 17) rfl), List.forall_mem_cons.mpr ⟨pm_X10_keyAt_r2 _ (List.mem_of_getElem? (i := 18) rfl), List.forall_mem_cons.mpr ⟨pm_X10_keyAt_r2 _ (List.mem_of_getElem? (i := 19) rfl), List.forall_mem_cons.mpr ⟨pm_X10_keyAt_r2 _ (List.mem_of_getElem? (i := 20) rfl), List.forall_mem_cons.mpr ⟨pm_X10_keyAt_r2 _ (List.mem_of_getElem? (i := 21) rfl), List.forall_mem_cons.mpr ⟨pm_X10_keyAt_r2 _ (List.mem_of_getElem? (i := 22) rfl), List.forall_mem_cons.mpr ⟨pm_X10_keyAt_r2 _ (List.mem_of_getElem? (i := 23) rfl), List.forall_mem_cons.mpr ⟨pm_X10_keyAt_r3 _ (List.mem_of_getElem? (i := 0) rfl), fun _ h => absurd h List.not_mem_nil⟩⟩⟩⟩⟩⟩⟩⟩⟩⟩⟩⟩⟩
set_option maxRecDepth 20000 in
theorem ggX10_keyAt_J0_charAt_5068e : GoodIn wsX10_keyAt wsJ0_charAt_5068e := goodIn_sub (List.forall_mem_cons.mpr ⟨pm_X10_keyAt_r1 _ (List.mem_of_getElem? (i := 15) rfl), List.forall_mem_append.mpr ⟨pq_X10_keyAt_J0_charAt_5068e_r1, pq_X10_keyAt_J0_charAt_5068e_r2⟩⟩) (by decide +kernel)
set_option maxRecDepth 20000 in
theorem gX10_keyAt_J0_charAt_5068e : GoodIn wsX10_keyAt (wsV RX10 126 RJ0 yJ0_charAt_5068e wsJ0_charAt_5068e) := goodIn_app (goodIn_of _ (by decide +kernel)) ggX10_keyAt_J0_charAt_5068e
set_option maxRecDepth 20000 in
theorem ggX10_keyAt_X10_byteAt : GoodIn wsX10_keyAt wsX10_byteAt := goodIn_sub (List.forall_mem_cons.mpr ⟨pm_X10_keyAt_r3 _ (List.mem_of_getElem? (i := 5) rfl), List.forall_mem_append.mpr ⟨List.forall_mem_cons.mpr ⟨pm_X10_keyAt_r3 _ (List.mem_of_getElem? (i := 6) rfl), List.forall_mem_cons.mpr ⟨pm_X10_keyAt_r3 _ (List.mem_of_getElem? (i := 7) rfl), fun _ h => absurd h List.not_mem_nil⟩⟩, pw_X10_keyAt_X10⟩⟩) (by decide +kernel)
set_option maxRecDepth 20000 in
theorem gX10_keyAt_X10_byteAt : GoodIn wsX10_keyAt (wsV RX10 130 RX10 yX10_byteAt wsX10_byteAt) := goodIn_app (goodIn_of _ (by decide +kernel)) ggX10_keyAt_X10_byteAt
theorem dX10_keyAt_0 : decode cX10_keyAt 0 = .ok (.iconst 0, 1) := by decide +kernel
theorem dX10_keyAt_1 : decode cX10_keyAt 1 = .ok (.istore_n 3, 1) := by decide +kernel
theorem dX10_keyAt_2 : decode cX10_keyAt 2 = .ok (.iconst 0, 1) := by decide +kernel
theorem dX10_keyAt_3 : decode cX10_keyAt 3 = .ok (.istore 4, 2) := by decide +kernel
theorem dX10_keyAt_5 : decode cX10_keyAt 5 = .ok (.iconst 0, 1) := by decide +kernel
theorem dX10_keyAt_6 : decode cX10_keyAt 6 = .ok (.istore 5, 2) := by decide +kernel
theorem dX10_keyAt_8 : decode cX10_keyAt 8 = .ok (.iload 5, 2) := by decide +kernel
theorem dX10_keyAt_10 : decode cX10_keyAt 10 = .ok (.ldc 118, 2) := by decide +kernel
theorem dX10_keyAt_12 : decode cX10_keyAt 12 = .ok (.invokevirtual 120, 3) := by decide +kernel
theorem dX10_keyAt_15 : decode cX10_keyAt 15 = .ok (.if_icmp .ge 104, 3) := by decide +kernel
theorem dX10_keyAt_18 : decode cX10_keyAt 18 = .ok (.ldc 118, 2) := by decide +kernel
theorem dX10_keyAt_20 : decode cX10_keyAt 20 = .ok (.iload 5, 2) := by decide +kernel
theorem dX10_keyAt_22 : decode cX10_keyAt 22 = .ok (.invokevirtual 126, 3) := by decide +kernel
theorem dX10_keyAt_25 : decode cX10_keyAt 25 = .ok (.bipush 32, 2) := by decide +kernel
theorem dX10_keyAt_27 : decode cX10_keyAt 27 = .ok (.if_icmp .eq 6, 3) := by decide +kernel
theorem dX10_keyAt_30 : decode cX10_keyAt 30 = .ok (.goto 83, 3) := by decide +kernel
theorem dX10_keyAt_33 : decode cX10_keyAt 33 = .ok (.iload 5, 2) := by decide +kernel
theorem dX10_keyAt_35 : decode cX10_keyAt 35 = .ok (.iload 4, 2) := by decide +kernel
theorem dX10_keyAt_37 : decode cX10_keyAt 37 = .ok (.isub, 1) := by decide +kernel
theorem dX10_keyAt_38 : decode cX10_keyAt 38 = .ok (.iload_n 2, 1) := by decide +kernel
theorem dX10_keyAt_39 : decode cX10_keyAt 39 = .ok (.if_icmp .ne 7, 3) := by decide +kernel
theorem dX10_keyAt_42 : decode cX10_keyAt 42 = .ok (.iconst 1, 1) := by decide +kernel
theorem dX10_keyAt_43 : decode cX10_keyAt 43 = .ok (.goto 4, 3) := by decide +kernel
theorem dX10_keyAt_46 : decode cX10_keyAt 46 = .ok (.iconst 0, 1) := by decide +kernel
theorem dX10_keyAt_47 : decode cX10_keyAt 47 = .ok (.istore 6, 2) := by decide +kernel
theorem dX10_keyAt_49 : decode cX10_keyAt 49 = .ok (.iconst 0, 1) := by decide +kernel
theorem dX10_keyAt_50 : decode cX10_keyAt 50 = .ok (.istore 7, 2) := by decide +kernel
theorem dX10_keyAt_52 : decode cX10_keyAt 52 = .ok (.iload 7, 2) := by decide +kernel
theorem dX10_keyAt_54 : decode cX10_keyAt 54 = .ok (.iload_n 2, 1) := by decide +kernel
theorem dX10_keyAt_55 : decode cX10_keyAt 55 = .ok (.if_icmp .ge 42, 3) := by decide +kernel
theorem dX10_keyAt_58 : decode cX10_keyAt 58 = .ok (.iload 6, 2) := by decide +kernel
theorem dX10_keyAt_60 : decode cX10_keyAt 60 = .ok (.ifCond .eq 37, 3) := by decide +kernel
theorem dX10_keyAt_63 : decode cX10_keyAt 63 = .ok (.ldc 118, 2) := by decide +kernel
theorem dX10_keyAt_65 : decode cX10_keyAt 65 = .ok (.iload 4, 2) := by decide +kernel
theorem dX10_keyAt_67 : decode cX10_keyAt 67 = .ok (.iload 7, 2) := by decide +kernel
theorem dX10_keyAt_69 : decode cX10_keyAt 69 = .ok (.iadd, 1) := by decide +kernel
theorem dX10_keyAt_70 : decode cX10_keyAt 70 = .ok (.invokevirtual 126, 3) := by decide +kernel
theorem dX10_keyAt_73 : decode cX10_keyAt 73 = .ok (.aload_n 0, 1) := by decide +kernel
theorem dX10_keyAt_74 : decode cX10_keyAt 74 = .ok (.iload_n 1, 1) := by decide +kernel
theorem dX10_keyAt_75 : decode cX10_keyAt 75 = .ok (.iload 7, 2) := by decide +kernel
theorem dX10_keyAt_77 : decode cX10_keyAt 77 = .ok (.iadd, 1) := by decide +kernel
theorem dX10_keyAt_78 : decode cX10_keyAt 78 = .ok (.invokevirtual 130, 3) := by decide +kernel
theorem dX10_keyAt_81 : decode cX10_keyAt 81 = .ok (.if_icmp .ne 7, 3) := by decide +kernel
theorem dX10_keyAt_84 : decode cX10_keyAt 84 = .ok (.iconst 1, 1) := by decide +kernel
theorem dX10_keyAt_85 : decode cX10_keyAt 85 = .ok (.goto 4, 3) := by decide +kernel
theorem dX10_keyAt_88 : decode cX10_keyAt 88 = .ok (.iconst 0, 1) := by decide +kernel
theorem dX10_keyAt_89 : decode cX10_keyAt 89 = .ok (.istore 6, 2) := by decide +kernel
theorem dX10_keyAt_91 : decode cX10_keyAt 91 = .ok (.iinc 7 1, 3) := by decide +kernel
theorem dX10_keyAt_94 : decode cX10_keyAt 94 = .ok (.goto (-42), 3) := by decide +kernel
theorem dX10_keyAt_97 : decode cX10_keyAt 97 = .ok (.iload 6, 2) := by decide +kernel
theorem dX10_keyAt_99 : decode cX10_keyAt 99 = .ok (.ifCond .eq 5, 3) := by decide +kernel
theorem dX10_keyAt_102 : decode cX10_keyAt 102 = .ok (.iload_n 3, 1) := by decide +kernel
theorem dX10_keyAt_103 : decode cX10_keyAt 103 = .ok (.ireturn, 1) := by decide +kernel
theorem dX10_keyAt_104 : decode cX10_keyAt 104 = .ok (.iinc 3 1, 3) := by decide +kernel
theorem dX10_keyAt_107 : decode cX10_keyAt 107 = .ok (.iload 5, 2) := by decide +kernel
theorem dX10_keyAt_109 : decode cX10_keyAt 109 = .ok (.iconst 1, 1) := by decide +kernel
theorem dX10_keyAt_110 : decode cX10_keyAt 110 = .ok (.iadd, 1) := by decide +kernel
theorem dX10_keyAt_111 : decode cX10_keyAt 111 = .ok (.istore 4, 2) := by decide +kernel
theorem dX10_keyAt_113 : decode cX10_keyAt 113 = .ok (.iinc 5 1, 3) := by decide +kernel
theorem dX10_keyAt_116 : decode cX10_keyAt 116 = .ok (.goto (-108), 3) := by decide +kernel
theorem dX10_keyAt_119 : decode cX10_keyAt 119 = .ok (.iconst (-1), 1) := by decide +kernel
theorem dX10_keyAt_120 : decode cX10_keyAt 120 = .ok (.ireturn, 1) := by decide +kernel
theorem pm_X10_scan_r1 : ∀ w ∈ wsX10_scan_r1, w ∈ wsX10_scan := fun _ h => List.mem_cons_of_mem _ (List.mem_append_left _ (List.mem_append_left _ h))
theorem pm_X10_scan_r2 : ∀ w ∈ wsX10_scan_r2, w ∈ wsX10_scan := fun _ h => List.mem_cons_of_mem _ (List.mem_append_left _ (List.mem_append_right _ (List.mem_append_left _ h)))
theorem pm_X10_scan_r3 : ∀ w ∈ wsX10_scan_r3, w ∈ wsX10_scan := fun _ h => List.mem_cons_of_mem _ (List.mem_append_left _ (List.mem_append_right _ (List.mem_append_right _ (List.mem_append_left _ h))))
theorem pm_X10_scan_r4 : ∀ w ∈ wsX10_scan_r4, w ∈ wsX10_scan := fun _ h => List.mem_cons_of_mem _ (List.mem_append_left _ (List.mem_append_right _ (List.mem_append_right _ (List.mem_append_right _ (h)))))
theorem pw_X10_scan_X10 : ∀ w ∈ wsX100, w ∈ wsX10_scan := fun _ h => List.mem_cons_of_mem _ (List.mem_append_right _ h)
set_option maxRecDepth 20000 in
theorem ggX10_scan_X10_byteAt : GoodIn wsX10_scan wsX10_byteAt := goodIn_sub (List.forall_mem_cons.mpr ⟨pm_X10_scan_r1 _ (List.mem_of_getElem? (i := 12) rfl), List.forall_mem_append.mpr ⟨List.forall_mem_cons.mpr ⟨pm_X10_scan_r1 _ (List.mem_of_getElem? (i := 13) rfl), List.forall_mem_cons.mpr ⟨pm_X10_scan_r1 _ (List.mem_of_getElem? (i := 14) rfl), fun _ h => absurd h List.not_mem_nil⟩⟩, pw_X10_scan_X10⟩⟩) (by decide +kernel)
set_option maxRecDepth 20000 in
theorem gX10_scan_X10_byteAt : GoodIn wsX10_scan (wsV RX10 130 RX10 yX10_byteAt wsX10_byteAt) := goodIn_app (goodIn_of _ (by decide +kernel)) ggX10_scan_X10_byteAt
set_option maxRecDepth 20000 in
theorem ggX10_scan_X10_isSmall : GoodIn wsX10_scan wsX10_isSmall := goodIn_sub (List.forall_mem_cons.mpr ⟨pm_X10_scan_r1 _ (List.mem_of_getElem? (i := 17) rfl), fun _ h => absurd h List.not_mem_nil⟩) (by decide +kernel)
set_option maxRecDepth 20000 in
theorem gX10_scan_X10_isSmall : GoodIn wsX10_scan (va_wsS RX10 146 yX10_isSmall wsX10_isSmall) := goodIn_app (goodIn_of _ (by decide +kernel)) ggX10_scan_X10_isSmall
set_option maxRecDepth 20000 in
theorem pq_X10_scan_X10_keyAt_r1 : ∀ w ∈ wsX10_keyAt_r1, w ∈ wsX10_scan := List.forall_mem_cons.mpr ⟨pm_X10_scan_r1 _ (List.mem_of_getElem? (i := 22) rfl), List.forall_mem_cons.mpr ⟨pm_X10_scan_r1 _ (List.mem_of_getElem? (i := 23) rfl), List.forall_mem_cons.mpr ⟨pm_X10_scan_r2 _ (List.mem_of_getElem? (i := 0) rfl), List.forall_mem_cons.mpr ⟨pm_X10_scan_r2 _ (List.mem_of_getElem? (i := 1) rfl), List.forall_mem_cons.mpr ⟨pm_X10_scan_r2 _ (List.mem_of_getElem? (i := 2) rfl), List.forall_mem_cons.mpr ⟨pm_X10_scan_r2 _ (List.mem_of_getElem? (i := 3) rfl), List.forall_mem_cons.mpr ⟨pm_X10_scan_r2 _ (List.mem_of_getElem? (i := 4) rfl), List.forall_mem_cons.mpr ⟨pm_X10_scan_r2 _ (List.mem_of_getElem? (i := 5) rfl), List.forall_mem_cons.mpr ⟨pm_X10_scan_r2 _ (List.mem_of_getElem? (i := 6) rfl), List.forall_mem_cons.mpr ⟨pm_X10_scan_r2 _ (List.mem_of_getElem? (i := 7) rfl), List.forall_mem_cons.mpr ⟨pm_X10_scan_r2 _ (List.mem_of_getElem? (i := 8) rfl), List.forall_mem_cons.mpr ⟨pm_X10_scan_r2 _ (List.mem_of_getElem? (i := 9) rfl), List.forall_mem_cons.mpr ⟨pm_X10_scan_r2 _ (List.mem_of_getElem? (i := 10) rfl), List.forall_mem_cons.mpr ⟨pm_X10_scan_r2 _ (List.mem_of_getElem? (i := 11) rfl), List.forall_mem_cons.mpr ⟨pm_X10_scan_r2 _ (List.mem_of_getElem? (i := 12) rfl), List.forall_mem_cons.mpr ⟨pm_X10_scan_r2 _ (List.mem_of_getElem? (i := 13) rfl), List.forall_mem_cons.mpr ⟨pm_X10_scan_r2 _ (List.mem_of_getElem? (i := 14) rfl), List.forall_mem_cons.mpr ⟨pm_X10_scan_r2 _ (List.mem_of_getElem? (i := 15) rfl), List.forall_mem_cons.mpr ⟨pm_X10_scan_r2 _ (List.mem_of_getElem? (i := 16) rfl), List.forall_mem_cons.mpr ⟨pm_X10_scan_r2 _ (List.mem_of_getElem? (i := 17) rfl), List.forall_mem_cons.mpr ⟨pm_X10_scan_r2 _ (List.mem_of_getElem? (i := 18) rfl), List.forall_mem_cons.mpr ⟨pm_X10_scan_r2 _ (List.mem_of_getElem? (i := 19) rfl), List.forall_mem_cons.mpr ⟨pm_X10_scan_r2 _ (List.mem_of_getElem? (i := 20) rfl), List.forall_mem_cons.mpr ⟨pm_X10_scan_r2 _ (List.mem_of_getElem? (i := 21) rfl), fun _ h => absurd h List.not_mem_nil⟩⟩⟩⟩⟩⟩⟩⟩⟩⟩⟩⟩⟩⟩⟩⟩⟩⟩⟩⟩⟩⟩⟩⟩
set_option maxRecDepth 20000 in
theorem pq_X10_scan_X10_keyAt_r2 : ∀ w ∈ wsX10_keyAt_r2, w ∈ wsX10_scan := List.forall_mem_cons.mpr ⟨pm_X10_scan_r2 _ (List.mem_of_getElem? (i := 22) rfl), List.forall_mem_cons.mpr ⟨pm_X10_scan_r2 _ (List.mem_of_getElem? (i := 23) rfl), List.forall_mem_cons.mpr ⟨pm_X10_scan_r3 _ (List.mem_of_getElem? (i := 0) rfl), List.forall_mem_cons.mpr ⟨pm_X10_scan_r3 _ (List.mem_of_getElem? (i := 1) rfl), List.forall_mem_cons.mpr ⟨pm_X10_scan_r3 _ (List.mem_of_getElem? (i := 2) rfl), List.forall_mem_cons.mpr ⟨pm_X10_scan_r3 _ (List.mem_of_getElem? (i := 3) rfl), List.forall_mem_cons.mpr ⟨pm_X10_scan_r3 _ (List.mem_of_getElem? (i := 4) rfl), List.forall_mem_cons.mpr ⟨pm_X10_scan_r3 _ (List.mem_of_getElem? (i := 5) rfl), List.forall_mem_cons.mpr ⟨pm_X10_scan_r3 _ (List.mem_of_getElem? (i := 6) rfl), List.forall_mem_cons.mpr ⟨pm_X10_scan_r3 _ (List.mem_of_getElem? (i := 7) rfl), List.forall_mem_cons.mpr ⟨pm_X10_scan_r3 _ (List.mem_of_getElem? (i := 8) rfl), List.forall_mem_cons.mpr ⟨pm_X10_scan_r3 _ (List.mem_of_getElem? (i := 9) rfl), List.forall_mem_cons.mpr ⟨pm_X10_scan_r3 _ (List.mem_of_getElem? (i := 10) rfl), List.forall_mem_cons.mpr ⟨pm_X10_scan_r3 _ (List.mem_of_getElem? (i := 11) rfl), List.forall_mem_cons.mpr ⟨pm_X10_scan_r3 _ (List.mem_of_getElem? (i := 12) rfl), List.forall_mem_cons.mpr ⟨pm_X10_scan_r3 _ (List.mem_of_getElem? (i := 13) rfl), List.forall_mem_cons.mpr ⟨pm_X10_scan_r3 _ (List.mem_of_getElem? (i := 14) rfl), List.forall_mem_cons.mpr ⟨pm_X10_scan_r3 _ (List.mem_of_getElem? (i := 15) rfl), List.forall_mem_cons.mpr ⟨pm_X10_scan_r3 _ (List.mem_of_getElem? (i := 16) rfl), List.forall_mem_cons.mpr ⟨pm_X10_scan_r3 _ (List.mem_of_getElem? (i := 17) rfl), List.forall_mem_cons.mpr ⟨pm_X10_scan_r3 _ (List.mem_of_getElem? (i := 18) rfl), List.forall_mem_cons.mpr ⟨pm_X10_scan_r3 _ (List.mem_of_getElem? (i := 19) rfl), List.forall_mem_cons.mpr ⟨pm_X10_scan_r3 _ (List.mem_of_getElem? (i := 20) rfl), List.forall_mem_cons.mpr ⟨pm_X10_scan_r3 _ (List.mem_of_getElem? (i := 21) rfl), fun _ h => absurd h List.not_mem_nil⟩⟩⟩⟩⟩⟩⟩⟩⟩⟩⟩⟩⟩⟩⟩⟩⟩⟩⟩⟩⟩⟩⟩⟩
set_option maxRecDepth 20000 in
theorem pq_X10_scan_X10_keyAt_r3 : ∀ w ∈ wsX10_keyAt_r3, w ∈ wsX10_scan := List.forall_mem_cons.mpr ⟨pm_X10_scan_r3 _ (List.mem_of_getElem? (i := 22) rfl), List.forall_mem_cons.mpr ⟨pm_X10_scan_r1 _ (List.mem_of_getElem? (i := 8) rfl), List.forall_mem_cons.mpr ⟨pm_X10_scan_r1 _ (List.mem_of_getElem? (i := 9) rfl), List.forall_mem_cons.mpr ⟨pm_X10_scan_r1 _ (List.mem_of_getElem? (i := 10) rfl), List.forall_mem_cons.mpr ⟨pm_X10_scan_r1 _ (List.mem_of_getElem? (i := 11) rfl), List.forall_mem_cons.mpr ⟨pm_X10_scan_r1 _ (List.mem_of_getElem? (i := 12) rfl), List.forall_mem_cons.mpr ⟨pm_X10_scan_r1 _ (List.mem_of_getElem? (i := 13) rfl), List.forall_mem_cons.mpr ⟨pm_X10_scan_r1 _ (List.mem_of_getElem? (i := 14) rfl), fun _ h => absurd h List.not_mem_nil⟩⟩⟩⟩⟩⟩⟩⟩
set_option maxRecDepth 20000 in
theorem ggX10_scan_X10_keyAt : GoodIn wsX10_scan wsX10_keyAt := goodIn_sub (List.forall_mem_cons.mpr ⟨pm_X10_scan_r1 _ (List.mem_of_getElem? (i := 21) rfl), List.forall_mem_append.mpr ⟨List.forall_mem_append.mpr ⟨pq_X10_scan_X10_keyAt_r1, List.forall_mem_append.mpr ⟨pq_X10_scan_X10_keyAt_r2, pq_X10_scan_X10_keyAt_r3⟩⟩, pw_X10_scan_X10⟩⟩) (by decide +kernel)
set_option maxRecDepth 20000 in
theorem gX10_scan_X10_keyAt : GoodIn wsX10_scan (wsV RX10 158 RX10 yX10_keyAt wsX10_keyAt) := goodIn_app (goodIn_of _ (by decide +kernel)) ggX10_scan_X10_keyAt
set_option maxRecDepth 20000 in
theorem ggX10_scan_X10_isDigit : GoodIn wsX10_scan wsX10_isDigit := goodIn_sub (List.forall_mem_cons.mpr ⟨pm_X10_scan_r4 _ (List.mem_of_getElem? (i := 1) rfl), fun _ h => absurd h List.not_mem_nil⟩) (by decide +kernel)
set_option maxRecDepth 20000 in
theorem gX10_scan_X10_isDigit : GoodIn wsX10_scan (va_wsS RX10 162 yX10_isDigit wsX10_isDigit) := goodIn_app (goodIn_of _ (by decide +kernel)) ggX10_scan_X10_isDigit
theorem dX10_scan_0 : decode cX10_scan 0 = .ok (.aload_n 0, 1) := by decide +kernel
theorem dX10_scan_1 : decode cX10_scan 1 = .ok (.getfield 134, 3) := by decide +kernel
theorem dX10_scan_4 : decode cX10_scan 4 = .ok (.istore_n 1, 1) := by decide +kernel
theorem dX10_scan_5 : decode cX10_scan 5 = .ok (.aload_n 0, 1) := by decide +kernel
theorem dX10_scan_6 : decode cX10_scan 6 = .ok (.iload_n 1, 1) := by decide +kernel
theorem dX10_scan_7 : decode cX10_scan 7 = .ok (.invokevirtual 130, 3) := by decide +kernel
theorem dX10_scan_10 : decode cX10_scan 10 = .ok (.bipush 32, 2) := by decide +kernel
theorem dX10_scan_12 : decode cX10_scan 12 = .ok (.if_icmp .eq 13, 3) := by decide +kernel
theorem dX10_scan_15 : decode cX10_scan 15 = .ok (.aload_n 0, 1) := by decide +kernel
theorem dX10_scan_16 : decode cX10_scan 16 = .ok (.iload_n 1, 1) := by decide +kernel
theorem dX10_scan_17 : decode cX10_scan 17 = .ok (.invokevirtual 130, 3) := by decide +kernel
theorem dX10_scan_20 : decode cX10_scan 20 = .ok (.bipush 10, 2) := by decide +kernel
theorem dX10_scan_22 : decode cX10_scan 22 = .ok (.if_icmp .ne 9, 3) := by decide +kernel
theorem dX10_scan_25 : decode cX10_scan 25 = .ok (.iinc 1 1, 3) := by decide +kernel
theorem dX10_scan_28 : decode cX10_scan 28 = .ok (.goto (-23), 3) := by decide +kernel
theorem dX10_scan_31 : decode cX10_scan 31 = .ok (.aload_n 0, 1) := by decide +kernel
theorem dX10_scan_32 : decode cX10_scan 32 = .ok (.iload_n 1, 1) := by decide +kernel
theorem dX10_scan_33 : decode cX10_scan 33 = .ok (.putfield 137, 3) := by decide +kernel
theorem dX10_scan_36 : decode cX10_scan 36 = .ok (.aload_n 0, 1) := by decide +kernel
theorem dX10_scan_37 : decode cX10_scan 37 = .ok (.iload_n 1, 1) := by decide +kernel
theorem dX10_scan_38 : decode cX10_scan 38 = .ok (.invokevirtual 130, 3) := by decide +kernel
theorem dX10_scan_41 : decode cX10_scan 41 = .ok (.istore_n 2, 1) := by decide +kernel
theorem dX10_scan_42 : decode cX10_scan 42 = .ok (.iload_n 1, 1) := by decide +kernel
theorem dX10_scan_43 : decode cX10_scan 43 = .ok (.iconst 1, 1) := by decide +kernel
theorem dX10_scan_44 : decode cX10_scan 44 = .ok (.iadd, 1) := by decide +kernel
theorem dX10_scan_45 : decode cX10_scan 45 = .ok (.istore_n 3, 1) := by decide +kernel
theorem dX10_scan_46 : decode cX10_scan 46 = .ok (.aload_n 0, 1) := by decide +kernel
theorem dX10_scan_47 : decode cX10_scan 47 = .ok (.iconst (-1), 1) := by decide +kernel
theorem dX10_scan_48 : decode cX10_scan 48 = .ok (.putfield 140, 3) := by decide +kernel
theorem dX10_scan_51 : decode cX10_scan 51 = .ok (.iload_n 2, 1) := by decide +kernel
theorem dX10_scan_52 : decode cX10_scan 52 = .ok (.iconst (-1), 1) := by decide +kernel
theorem dX10_scan_53 : decode cX10_scan 53 = .ok (.if_icmp .ne 13, 3) := by decide +kernel
theorem dX10_scan_56 : decode cX10_scan 56 = .ok (.aload_n 0, 1) := by decide +kernel
theorem dX10_scan_57 : decode cX10_scan 57 = .ok (.iconst 4, 1) := by decide +kernel
theorem dX10_scan_58 : decode cX10_scan 58 = .ok (.putfield 143, 3) := by decide +kernel
theorem dX10_scan_61 : decode cX10_scan 61 = .ok (.iload_n 1, 1) := by decide +kernel
theorem dX10_scan_62 : decode cX10_scan 62 = .ok (.istore_n 3, 1) := by decide +kernel
theorem dX10_scan_63 : decode cX10_scan 63 = .ok (.goto 207, 3) := by decide +kernel
theorem dX10_scan_66 : decode cX10_scan 66 = .ok (.iload_n 2, 1) := by decide +kernel
theorem dX10_scan_67 : decode cX10_scan 67 = .ok (.invokestatic 146, 3) := by decide +kernel
theorem dX10_scan_70 : decode cX10_scan 70 = .ok (.ifCond .eq 100, 3) := by decide +kernel
theorem dX10_scan_73 : decode cX10_scan 73 = .ok (.aload_n 0, 1) := by decide +kernel
theorem dX10_scan_74 : decode cX10_scan 74 = .ok (.lconst 0, 1) := by decide +kernel
theorem dX10_scan_75 : decode cX10_scan 75 = .ok (.putfield 150, 3) := by decide +kernel
theorem dX10_scan_78 : decode cX10_scan 78 = .ok (.iload_n 1, 1) := by decide +kernel
theorem dX10_scan_79 : decode cX10_scan 79 = .ok (.istore_n 3, 1) := by decide +kernel
theorem dX10_scan_80 : decode cX10_scan 80 = .ok (.aload_n 0, 1) := by decide +kernel
theorem dX10_scan_81 : decode cX10_scan 81 = .ok (.iload_n 3, 1) := by decide +kernel
theorem dX10_scan_82 : decode cX10_scan 82 = .ok (.invokevirtual 130, 3) := by decide +kernel
theorem dX10_scan_85 : decode cX10_scan 85 = .ok (.invokestatic 146, 3) := by decide +kernel
theorem dX10_scan_88 : decode cX10_scan 88 = .ok (.ifCond .eq 42, 3) := by decide +kernel
theorem dX10_scan_91 : decode cX10_scan 91 = .ok (.iload_n 3, 1) := by decide +kernel
theorem dX10_scan_92 : decode cX10_scan 92 = .ok (.iload_n 1, 1) := by decide +kernel
theorem dX10_scan_93 : decode cX10_scan 93 = .ok (.isub, 1) := by decide +kernel
theorem dX10_scan_94 : decode cX10_scan 94 = .ok (.bipush 8, 2) := by decide +kernel
theorem dX10_scan_96 : decode cX10_scan 96 = .ok (.if_icmp .ge 28, 3) := by decide +kernel
theorem dX10_scan_99 : decode cX10_scan 99 = .ok (.aload_n 0, 1) := by decide +kernel
theorem dX10_scan_100 : decode cX10_scan 100 = .ok (.ldc2_w 154, 3) := by decide +kernel
theorem dX10_scan_103 : decode cX10_scan 103 = .ok (.aload_n 0, 1) := by decide +kernel
theorem dX10_scan_104 : decode cX10_scan 104 = .ok (.getfield 150, 3) := by decide +kernel
theorem dX10_scan_107 : decode cX10_scan 107 = .ok (.lmul, 1) := by decide +kernel
theorem dX10_scan_108 : decode cX10_scan 108 = .ok (.aload_n 0, 1) := by decide +kernel
theorem dX10_scan_109 : decode cX10_scan 109 = .ok (.iload_n 3, 1) := by decide +kernel
theorem dX10_scan_110 : decode cX10_scan 110 = .ok (.invokevirtual 130, 3) := by decide +kernel
theorem dX10_scan_113 : decode cX10_scan 113 = .ok (.i2l, 1) := by decide +kernel
theorem dX10_scan_114 : decode cX10_scan 114 = .ok (.ladd, 1) := by decide +kernel
theorem dX10_scan_115 : decode cX10_scan 115 = .ok (.ldc2_w 156, 3) := by decide +kernel
theorem dX10_scan_118 : decode cX10_scan 118 = .ok (.lsub, 1) := by decide +kernel
theorem dX10_scan_119 : decode cX10_scan 119 = .ok (.lconst 1, 1) := by decide +kernel
theorem dX10_scan_120 : decode cX10_scan 120 = .ok (.ladd, 1) := by decide +kernel
theorem dX10_scan_121 : decode cX10_scan 121 = .ok (.putfield 150, 3) := by decide +kernel
theorem dX10_scan_124 : decode cX10_scan 124 = .ok (.iinc 3 1, 3) := by decide +kernel
theorem dX10_scan_127 : decode cX10_scan 127 = .ok (.goto (-47), 3) := by decide +kernel
theorem dX10_scan_130 : decode cX10_scan 130 = .ok (.aload_n 0, 1) := by decide +kernel
theorem dX10_scan_131 : decode cX10_scan 131 = .ok (.iload_n 3, 1) := by decide +kernel
theorem dX10_scan_132 : decode cX10_scan 132 = .ok (.iload_n 1, 1) := by decide +kernel
theorem dX10_scan_133 : decode cX10_scan 133 = .ok (.isub, 1) := by decide +kernel
theorem dX10_scan_134 : decode cX10_scan 134 = .ok (.bipush 8, 2) := by decide +kernel
theorem dX10_scan_136 : decode cX10_scan 136 = .ok (.if_icmp .le 7, 3) := by decide +kernel
theorem dX10_scan_139 : decode cX10_scan 139 = .ok (.iconst 0, 1) := by decide +kernel
theorem dX10_scan_140 : decode cX10_scan 140 = .ok (.goto 4, 3) := by decide +kernel
theorem dX10_scan_143 : decode cX10_scan 143 = .ok (.iconst 1, 1) := by decide +kernel
theorem dX10_scan_144 : decode cX10_scan 144 = .ok (.putfield 143, 3) := by decide +kernel
theorem dX10_scan_147 : decode cX10_scan 147 = .ok (.aload_n 0, 1) := by decide +kernel
theorem dX10_scan_148 : decode cX10_scan 148 = .ok (.getfield 143, 3) := by decide +kernel
theorem dX10_scan_151 : decode cX10_scan 151 = .ok (.iconst 1, 1) := by decide +kernel
theorem dX10_scan_152 : decode cX10_scan 152 = .ok (.if_icmp .ne 118, 3) := by decide +kernel
theorem dX10_scan_155 : decode cX10_scan 155 = .ok (.aload_n 0, 1) := by decide +kernel
theorem dX10_scan_156 : decode cX10_scan 156 = .ok (.aload_n 0, 1) := by decide +kernel
theorem dX10_scan_157 : decode cX10_scan 157 = .ok (.iload_n 1, 1) := by decide +kernel
theorem dX10_scan_158 : decode cX10_scan 158 = .ok (.iload_n 3, 1) := by decide +kernel
theorem dX10_scan_159 : decode cX10_scan 159 = .ok (.iload_n 1, 1) := by decide +kernel
theorem dX10_scan_160 : decode cX10_scan 160 = .ok (.isub, 1) := by decide +kernel
theorem dX10_scan_161 : decode cX10_scan 161 = .ok (.invokevirtual 158, 3) := by decide +kernel
theorem dX10_scan_164 : decode cX10_scan 164 = .ok (.putfield 140, 3) := by decide +kernel
theorem dX10_scan_167 : decode cX10_scan 167 = .ok (.goto 103, 3) := by decide +kernel
theorem dX10_scan_170 : decode cX10_scan 170 = .ok (.iload_n 2, 1) := by decide +kernel
theorem dX10_scan_171 : decode cX10_scan 171 = .ok (.invokestatic 162, 3) := by decide +kernel
theorem dX10_scan_174 : decode cX10_scan 174 = .ok (.ifCond .eq 81, 3) := by decide +kernel
theorem dX10_scan_177 : decode cX10_scan 177 = .ok (.aload_n 0, 1) := by decide +kernel
theorem dX10_scan_178 : decode cX10_scan 178 = .ok (.iload_n 2, 1) := by decide +kernel
theorem dX10_scan_179 : decode cX10_scan 179 = .ok (.bipush 48, 2) := by decide +kernel
theorem dX10_scan_181 : decode cX10_scan 181 = .ok (.isub, 1) := by decide +kernel
theorem dX10_scan_182 : decode cX10_scan 182 = .ok (.putfield 165, 3) := by decide +kernel
theorem dX10_scan_185 : decode cX10_scan 185 = .ok (.aload_n 0, 1) := by decide +kernel
theorem dX10_scan_186 : decode cX10_scan 186 = .ok (.iload_n 3, 1) := by decide +kernel
theorem dX10_scan_187 : decode cX10_scan 187 = .ok (.invokevirtual 130, 3) := by decide +kernel
theorem dX10_scan_190 : decode cX10_scan 190 = .ok (.invokestatic 162, 3) := by decide +kernel
theorem dX10_scan_193 : decode cX10_scan 193 = .ok (.ifCond .eq 43, 3) := by decide +kernel
theorem dX10_scan_196 : decode cX10_scan 196 = .ok (.aload_n 0, 1) := by decide +kernel
theorem dX10_scan_197 : decode cX10_scan 197 = .ok (.iload_n 3, 1) := by decide +kernel
theorem dX10_scan_198 : decode cX10_scan 198 = .ok (.iload_n 1, 1) := by decide +kernel
theorem dX10_scan_199 : decode cX10_scan 199 = .ok (.isub, 1) := by decide +kernel
theorem dX10_scan_200 : decode cX10_scan 200 = .ok (.iconst 4, 1) := by decide +kernel
theorem dX10_scan_201 : decode cX10_scan 201 = .ok (.if_icmp .ge 22, 3) := by decide +kernel
theorem dX10_scan_204 : decode cX10_scan 204 = .ok (.bipush 10, 2) := by decide +kernel
theorem dX10_scan_206 : decode cX10_scan 206 = .ok (.aload_n 0, 1) := by decide +kernel
theorem dX10_scan_207 : decode cX10_scan 207 = .ok (.getfield 165, 3) := by decide +kernel
theorem dX10_scan_210 : decode cX10_scan 210 = .ok (.imul, 1) := by decide +kernel
theorem dX10_scan_211 : decode cX10_scan 211 = .ok (.aload_n 0, 1) := by decide +kernel
theorem dX10_scan_212 : decode cX10_scan 212 = .ok (.iload_n 3, 1) := by decide +kernel
theorem dX10_scan_213 : decode cX10_scan 213 = .ok (.invokevirtual 130, 3) := by decide +kernel
theorem dX10_scan_216 : decode cX10_scan 216 = .ok (.iadd, 1) := by decide +kernel
theorem dX10_scan_217 : decode cX10_scan 217 = .ok (.bipush 48, 2) := by decide +kernel
theorem dX10_scan_219 : decode cX10_scan 219 = .ok (.isub, 1) := by decide +kernel
theorem dX10_scan_220 : decode cX10_scan 220 = .ok (.goto 7, 3) := by decide +kernel
theorem dX10_scan_223 : decode cX10_scan 223 = .ok (.aload_n 0, 1) := by decide +kernel
theorem dX10_scan_224 : decode cX10_scan 224 = .ok (.getfield 165, 3) := by decide +kernel
theorem dX10_scan_227 : decode cX10_scan 227 = .ok (.putfield 165, 3) := by decide +kernel
theorem dX10_scan_230 : decode cX10_scan 230 = .ok (.iinc 3 1, 3) := by decide +kernel
theorem dX10_scan_233 : decode cX10_scan 233 = .ok (.goto (-48), 3) := by decide +kernel
theorem dX10_scan_236 : decode cX10_scan 236 = .ok (.aload_n 0, 1) := by decide +kernel
theorem dX10_scan_237 : decode cX10_scan 237 = .ok (.iload_n 3, 1) := by decide +kernel
theorem dX10_scan_238 : decode cX10_scan 238 = .ok (.iload_n 1, 1) := by decide +kernel
theorem dX10_scan_239 : decode cX10_scan 239 = .ok (.isub, 1) := by decide +kernel
theorem dX10_scan_240 : decode cX10_scan 240 = .ok (.iconst 4, 1) := by decide +kernel
theorem dX10_scan_241 : decode cX10_scan 241 = .ok (.if_icmp .le 7, 3) := by decide +kernel
theorem dX10_scan_244 : decode cX10_scan 244 = .ok (.iconst 0, 1) := by decide +kernel
theorem dX10_scan_245 : decode cX10_scan 245 = .ok (.goto 4, 3) := by decide +kernel
theorem dX10_scan_248 : decode cX10_scan 248 = .ok (.iconst 2, 1) := by decide +kernel
theorem dX10_scan_249 : decode cX10_scan 249 = .ok (.putfield 143, 3) := by decide +kernel
theorem dX10_scan_252 : decode cX10_scan 252 = .ok (.goto 18, 3) := by decide +kernel
theorem dX10_scan_255 : decode cX10_scan 255 = .ok (.aload_n 0, 1) := by decide +kernel
theorem dX10_scan_256 : decode cX10_scan 256 = .ok (.iload_n 2, 1) := by decide +kernel
theorem dX10_scan_257 : decode cX10_scan 257 = .ok (.bipush 59, 2) := by decide +kernel
theorem dX10_scan_259 : decode cX10_scan 259 = .ok (.if_icmp .ne 7, 3) := by decide +kernel
theorem dX10_scan_262 : decode cX10_scan 262 = .ok (.iconst 3, 1) := by decide +kernel
theorem dX10_scan_263 : decode cX10_scan 263 = .ok (.goto 4, 3) := by decide +kernel
theorem dX10_scan_266 : decode cX10_scan 266 = .ok (.iconst 0, 1) := by decide +kernel
theorem dX10_scan_267 : decode cX10_scan 267 = .ok (.putfield 143, 3) := by decide +kernel
theorem dX10_scan_270 : decode cX10_scan 270 = .ok (.aload_n 0, 1) := by decide +kernel
theorem dX10_scan_271 : decode cX10_scan 271 = .ok (.iload_n 3, 1) := by decide +kernel
theorem dX10_scan_272 : decode cX10_scan 272 = .ok (.putfield 134, 3) := by decide +kernel
theorem dX10_scan_275 : decode cX10_scan 275 = .ok (.return_, 1) := by decide +kernel
theorem dX10_fails_0 : decode cX10_fails 0 = .ok (.aload_n 0, 1) := by decide +kernel
theorem dX10_fails_1 : decode cX10_fails 1 = .ok (.iload_n 1, 1) := by decide +kernel
theorem dX10_fails_2 : decode cX10_fails 2 = .ok (.putfield 168, 3) := by decide +kernel
theorem dX10_fails_5 : decode cX10_fails 5 = .ok (.aload_n 0, 1) := by decide +kernel
theorem dX10_fails_6 : decode cX10_fails 6 = .ok (.aload_n 0, 1) := by decide +kernel
theorem dX10_fails_7 : decode cX10_fails 7 = .ok (.getfield 137, 3) := by decide +kernel
theorem dX10_fails_10 : decode cX10_fails 10 = .ok (.putfield 13, 3) := by decide +kernel
theorem dX10_fails_13 : decode cX10_fails 13 = .ok (.iconst 0, 1) := by decide +kernel
theorem dX10_fails_14 : decode cX10_fails 14 = .ok (.ireturn, 1) := by decide +kernel
theorem pm_X10_readNumber_r1 : ∀ w ∈ wsX10_readNumber_r1, w ∈ wsX10_readNumber := fun _ h => List.mem_cons_of_mem _ (List.mem_append_left _ (List.mem_append_left _ h))
theorem pm_X10_readNumber_r2 : ∀ w ∈ wsX10_readNumber_r2, w ∈ wsX10_readNumber := fun _ h => List.mem_cons_of_mem _ (List.mem_append_left _ (List.mem_append_right _ (List.mem_append_left _ h)))
theorem pm_X10_readNumber_r3 : ∀ w ∈ wsX10_readNumber_r3, w ∈ wsX10_readNumber := fun _ h => List.mem_cons_of_mem _ (List.mem_append_left _ (List.mem_append_right _ (List.mem_append_right _ (List.mem_append_left _ h))))
theorem pm_X10_readNumber_r4 : ∀ w ∈ wsX10_readNumber_r4, w ∈ wsX10_readNumber := fun _ h => List.mem_cons_of_mem _ (List.mem_append_left _ (List.mem_append_right _ (List.mem_append_right _ (List.mem_append_right _ (h)))))
theorem pw_X10_readNumber_X10 : ∀ w ∈ wsX100, w ∈ wsX10_readNumber := fun _ h => List.mem_cons_of_mem _ (List.mem_append_right _ h)
set_option maxRecDepth 20000 in
theorem ggX10_readNumber_X10_fails : GoodIn wsX10_readNumber wsX10_fails := goodIn_sub (List.forall_mem_cons.mpr ⟨pm_X10_readNumber_r1 _ (List.mem_of_getElem? (i := 7) rfl), List.forall_mem_append.mpr ⟨List.forall_mem_cons.mpr ⟨pm_X10_readNumber_r1 _ (List.mem_of_getElem? (i := 8) rfl), List.forall_mem_cons.mpr ⟨pm_X10_readNumber_r1 _ (List.mem_of_getElem? (i := 9) rfl), List.forall_mem_cons.mpr ⟨pm_X10_readNumber_r1 _ (List.mem_of_getElem? (i := 10) rfl), fun _ h => absurd h List.not_mem_nil⟩⟩⟩, pw_X10_readNumber_X10⟩⟩) (by decide +kernel)
set_option maxRecDepth 20000 in
theorem gX10_readNumber_X10_fails : GoodIn wsX10_readNumber (wsV RX10 171 RX10 yX10_fails wsX10_fails) := goodIn_app (goodIn_of _ (by decide +kernel)) ggX10_readNumber_X10_fails
set_option maxRecDepth 20000 in
theorem ggX10_readNumber_X10_in : GoodIn wsX10_readNumber wsX10_in := goodIn_sub (List.forall_mem_cons.mpr ⟨pm_X10_readNumber_r1 _ (List.mem_of_getElem? (i := 13) rfl), fun _ h => absurd h List.not_mem_nil⟩) (by decide +kernel)
set_option maxRecDepth 20000 in
theorem gX10_readNumber_X10_in : GoodIn wsX10_readNumber (va_wsS RX10 174 yX10_in wsX10_in) := goodIn_app (goodIn_of _ (by decide +kernel)) ggX10_readNumber_X10_in
set_option maxRecDepth 20000 in
theorem pq_X10_readNumber_X10_scan_r1 : ∀ w ∈ wsX10_scan_r1, w ∈ wsX10_readNumber := List.forall_mem_cons.mpr ⟨pm_X10_readNumber_r1 _ (List.mem_of_getElem? (i := 18) rfl), List.forall_mem_cons.mpr ⟨pm_X10_readNumber_r1 _ (List.mem_of_getElem? (i := 9) rfl), List.forall_mem_cons.mpr ⟨pm_X10_readNumber_r1 _ (List.mem_of_getElem? (i := 19) rfl), List.forall_mem_cons.mpr ⟨pm_X10_readNumber_r1 _ (List.mem_of_getElem? (i := 0) rfl), List.forall_mem_cons.mpr ⟨pm_X10_readNumber_r1 _ (List.mem_of_getElem? (i := 20) rfl), List.forall_mem_cons.mpr ⟨pm_X10_readNumber_r1 _ (List.mem_of_getElem? (i := 21) rfl), List.forall_mem_cons.mpr ⟨pm_X10_readNumber_r1 _ (List.mem_of_getElem? (i := 22) rfl), List.forall_mem_cons.mpr ⟨pm_X10_readNumber_r1 _ (List.mem_of_getElem? (i := 1) rfl), List.forall_mem_cons.mpr ⟨pm_X10_readNumber_r1 _ (List.mem_of_getElem? (i := 23) rfl), List.forall_mem_cons.mpr ⟨pm_X10_readNumber_r2 _ (List.mem_of_getElem? (i := 0) rfl), List.forall_mem_cons.mpr ⟨pm_X10_readNumber_r2 _ (List.mem_of_getElem? (i := 1) rfl), List.forall_mem_cons.mpr ⟨pm_X10_readNumber_r1 _ (List.mem_of_getElem? (i := 6) rfl), List.forall_mem_cons.mpr ⟨pm_X10_readNumber_r2 _ (List.mem_of_getElem? (i := 2) rfl), List.forall_mem_cons.mpr ⟨pm_X10_readNumber_r2 _ (List.mem_of_getElem? (i := 3) rfl), List.forall_mem_cons.mpr ⟨pm_X10_readNumber_r2 _ (List.mem_of_getElem? (i := 4) rfl), List.forall_mem_cons.mpr ⟨pm_X10_readNumber_r2 _ (List.mem_of_getElem? (i := 5) rfl), List.forall_mem_cons.mpr ⟨pm_X10_readNumber_r2 _ (List.mem_of_getElem? (i := 6) rfl), List.forall_mem_cons.mpr ⟨pm_X10_readNumber_r2 _ (List.mem_of_getElem? (i := 7) rfl), List.forall_mem_cons.mpr ⟨pm_X10_readNumber_r2 _ (List.mem_of_getElem? (i := 8) rfl), List.forall_mem_cons.mpr ⟨pm_X10_readNumber_r2 _ (List.mem_of_getElem? (i := 9) rfl), List.forall_mem_cons.mpr ⟨pm_X10_readNumber_r2 _ (List.mem_of_getElem? (i := 10) rfl), List.forall_mem_cons.mpr ⟨pm_X10_readNumber_r2 _ (List.mem_of_getElem? (i := 11) rfl), List.forall_mem_cons.mpr ⟨pm_X10_readNumber_r2 _ (List.mem_of_getElem? (i := 12) rfl), List.forall_mem_cons.mpr ⟨pm_X10_readNumber_r2 _ (List.mem_of_getElem? (i := 13) rfl), fun _ h => absurd h List.not_mem_nil⟩⟩⟩⟩⟩⟩⟩⟩⟩⟩⟩⟩⟩⟩⟩⟩⟩⟩⟩⟩⟩⟩⟩⟩
set_option maxRecDepth 20000 in
theorem pq_X10_readNumber_X10_scan_r2 : ∀ w ∈ wsX10_scan_r2, w ∈ wsX10_readNumber := List.forall_mem_cons.mpr ⟨pm_X10_readNumber_r2 _ (List.mem_of_getElem? (i := 14) rfl), List.forall_mem_cons.mpr ⟨pm_X10_readNumber_r2 _ (List.mem_of_getElem? (i := 15) rfl), List.forall_mem_cons.mpr ⟨pm_X10_readNumber_r2 _ (List.mem_of_getElem? (i := 16) rfl), List.forall_mem_cons.mpr ⟨pm_X10_readNumber_r2 _ (List.mem_of_getElem? (i := 17) rfl), List.forall_mem_cons.mpr ⟨pm_X10_readNumber_r2 _ (List.mem_of_getElem? (i := 18) rfl), List.forall_mem_cons.mpr ⟨pm_X10_readNumber_r2 _ (List.mem_of_getElem? (i := 19) rfl), List.forall_mem_cons.mpr ⟨pm_X10_readNumber_r2 _ (List.mem_of_getElem? (i := 20) rfl), List.forall_mem_cons.mpr ⟨pm_X10_readNumber_r2 _ (List.mem_of_getElem? (i := 21) rfl), List.forall_mem_cons.mpr ⟨pm_X10_readNumber_r2 _ (List.mem_of_getElem? (i := 22) rfl), List.forall_mem_cons.mpr ⟨pm_X10_readNumber_r2 _ (List.mem_of_getElem? (i := 23) rfl), List.forall_mem_cons.mpr ⟨pm_X10_readNumber_r3 _ (List.mem_of_getElem? (i := 0) rfl), List.forall_mem_cons.mpr ⟨pm_X10_readNumber_r3 _ (List.mem_of_getElem? (i := 1) rfl), List.forall_mem_cons.mpr ⟨pm_X10_readNumber_r3 _ (List.mem_of_getElem? (i := 2) rfl), List.forall_mem_cons.mpr ⟨pm_X10_readNumber_r3 _ (List.mem_of_getElem? (i := 3) rfl), List.forall_mem_cons.mpr ⟨pm_X10_readNumber_r3 _ (List.mem_of_getElem? (i := 4) rfl), List.forall_mem_cons.mpr ⟨pm_X10_readNumber_r3 _ (List.mem_of_getElem? (i := 5) rfl), List.forall_mem_cons.mpr ⟨pm_X10_readNumber_r3 _ (List.mem_of_getElem? (i := 6) rfl), List.forall_mem_cons.mpr ⟨pm_X10_readNumber_r3 _ (List.mem_of_getElem? (i := 7) rfl), List.forall_mem_cons.mpr ⟨pm_X10_readNumber_r3 _ (List.mem_of_getElem? (i := 8) rfl), List.forall_mem_cons.mpr ⟨pm_X10_readNumber_r3 _ (List.mem_of_getElem? (i := 9) rfl), List.forall_mem_cons.mpr ⟨pm_X10_readNumber_r3 _ (List.mem_of_getElem? (i := 10) rfl), List.forall_mem_cons.mpr ⟨pm_X10_readNumber_r3 _ (List.mem_of_getElem? (i := 11) rfl), List.forall_mem_cons.mpr ⟨pm_X10_readNumber_r3 _ (List.mem_of_getElem? (i := 12) rfl), List.forall_mem_cons.mpr ⟨pm_X10_readNumber_r3 _ (List.mem_of_getElem? (i := 13) rfl), fun _ h => absurd h List.not_mem_nil⟩⟩⟩⟩⟩⟩⟩⟩⟩⟩⟩⟩⟩⟩⟩⟩⟩⟩⟩⟩⟩⟩⟩⟩
set_option maxRecDepth 20000 in
theorem pq_X10_readNumber_X10_scan_r3 : ∀ w ∈ wsX10_scan_r3, w ∈ wsX10_readNumber := List.forall_mem_cons.mpr ⟨pm_X10_readNumber_r3 _ (List.mem_of_getElem? (i := 14) rfl), List.forall_mem_cons.mpr ⟨pm_X10_readNumber_r3 _ (List.mem_of_getElem? (i := 15) rfl), List.forall_mem_cons.mpr ⟨pm_X10_readNumber_r3 _ (List.mem_of_getElem? (i := 16) rfl), List.forall_mem_cons.mpr ⟨pm_X10_readNumber_r3 _ (List.mem_of_getElem? (i := 17) rfl), List.forall_mem_cons.mpr ⟨pm_X10_readNumber_r3 _ (List.mem_of_getElem? (i := 18) rfl), List.forall_mem_cons.mpr ⟨pm_X10_readNumber_r3 _ (List.mem_of_getElem? (i := 19) rfl), List.forall_mem_cons.mpr ⟨pm_X10_readNumber_r3 _ (List.mem_of_getElem? (i := 20) rfl), List.forall_mem_cons.mpr ⟨pm_X10_readNumber_r3 _ (List.mem_of_getElem? (i := 21) rfl), List.forall_mem_cons.mpr ⟨pm_X10_readNumber_r3 _ (List.mem_of_getElem? (i := 22) rfl), List.forall_mem_cons.mpr ⟨pm_X10_readNumber_r3 _ (List.mem_of_getElem? (i := 23) rfl), List.forall_mem_cons.mpr ⟨pm_X10_readNumber_r4 _ (List.mem_of_getElem? (i := 0) rfl), List.forall_mem_cons.mpr ⟨pm_X10_readNumber_r4 _ (List.mem_of_getElem? (i := 1) rfl), List.forall_mem_cons.mpr ⟨pm_X10_readNumber_r4 _ (List.mem_of_getElem? (i := 2) rfl), List.forall_mem_cons.mpr ⟨pm_X10_readNumber_r4 _ (List.mem_of_getElem? (i := 3) rfl), List.forall_mem_cons.mpr ⟨pm_X10_readNumber_r4 _ (List.mem_of_getElem? (i := 4) rfl), List.forall_mem_cons.mpr ⟨pm_X10_readNumber_r4 _ (List.mem_of_getElem? (i := 5) rfl), List.forall_mem_cons.mpr ⟨pm_X10_readNumber_r4 _ (List.mem_of_getElem? (i := 6) rfl), List.forall_mem_cons.mpr ⟨pm_X10_readNumber_r4 _ (List.mem_of_getElem? (i := 7) rfl), List.forall_mem_cons.mpr ⟨pm_X10_readNumber_r4 _ (List.mem_of_getElem? (i := 8) rfl), List.forall_mem_cons.mpr ⟨pm_X10_readNumber_r4 _ (List.mem_of_getElem? (i := 9) rfl), List.forall_mem_cons.mpr ⟨pm_X10_readNumber_r4 _ (List.mem_of_getElem? (i := 10) rfl), List.forall_mem_cons.mpr ⟨pm_X10_readNumber_r4 _ (List.mem_of_getElem? (i := 11) rfl), List.forall_mem_cons.mpr ⟨pm_X10_readNumber_r4 _ (List.mem_of_getElem? (i := 12) rfl), List.forall_mem_cons.mpr ⟨pm_X10_readNumber_r4 _ (List.mem_of_getElem? (i := 13) rfl), fun _ h => absurd h List.not_mem_nil⟩⟩⟩⟩⟩⟩⟩⟩⟩⟩⟩⟩⟩⟩⟩⟩⟩⟩⟩⟩⟩⟩⟩⟩
set_option maxRecDepth 20000 in
theorem pq_X10_readNumber_X10_scan_r4 : ∀ w ∈ wsX10_scan_r4, w ∈ wsX10_readNumber := List.forall_mem_cons.mpr ⟨pm_X10_readNumber_r4 _ (List.mem_of_getElem? (i := 14) rfl), List.forall_mem_cons.mpr ⟨pm_X10_readNumber_r4 _ (List.mem_of_getElem? (i := 15) rfl), fun _ h => absurd h List.not_mem_nil⟩⟩
set_option maxRecDepth 20000 in
theorem ggX10_readNumber_X10_scan : GoodIn wsX10_readNumber wsX10_scan := goodIn_sub (List.forall_mem_cons.mpr ⟨pm_X10_readNumber_r1 _ (List.mem_of_getElem? (i := 17) rfl), List.forall_mem_append.mpr ⟨List.forall_mem_append.mpr ⟨pq_X10_readNumber_X10_scan_r1, List.forall_mem_append.mpr ⟨pq_X10_readNumber_X10_scan_r2, List.forall_mem_append.mpr ⟨pq_X10_readNumber_X10_scan_r3, pq_X10_readNumber_X10_scan_r4⟩⟩⟩, pw_X10_readNumber_X10⟩⟩) (by decide +kernel)
set_option maxRecDepth 20000 in
theorem gX10_readNumber_X10_scan : GoodIn wsX10_readNumber (wsV RX10 181 RX10 yX10_scan wsX10_scan) := goodIn_app (goodIn_of _ (by decide +kernel)) ggX10_readNumber_X10_scan
theorem dX10_readNumber_0 : decode cX10_readNumber 0 = .ok (.aload_n 0, 1) := by decide +kernel
theorem dX10_readNumber_1 : decode cX10_readNumber 1 = .ok (.getfield 143, 3) := by decide +kernel
theorem dX10_readNumber_4 : decode cX10_readNumber 4 = .ok (.iconst 2, 1) := by decide +kernel
theorem dX10_readNumber_5 : decode cX10_readNumber 5 = .ok (.if_icmp .eq 9, 3) := by decide +kernel
theorem dX10_readNumber_8 : decode cX10_readNumber 8 = .ok (.aload_n 0, 1) := by decide +kernel
theorem dX10_readNumber_9 : decode cX10_readNumber 9 = .ok (.iconst 1, 1) := by decide +kernel
theorem dX10_readNumber_10 : decode cX10_readNumber 10 = .ok (.invokevirtual 171, 3) := by decide +kernel
theorem dX10_readNumber_13 : decode cX10_readNumber 13 = .ok (.ireturn, 1) := by decide +kernel
theorem dX10_readNumber_14 : decode cX10_readNumber 14 = .ok (.aload_n 0, 1) := by decide +kernel
theorem dX10_readNumber_15 : decode cX10_readNumber 15 = .ok (.getfield 165, 3) := by decide +kernel
theorem dX10_readNumber_18 : decode cX10_readNumber 18 = .ok (.i2l, 1) := by decide +kernel
theorem dX10_readNumber_19 : decode cX10_readNumber 19 = .ok (.iload_n 1, 1) := by decide +kernel
theorem dX10_readNumber_20 : decode cX10_readNumber 20 = .ok (.i2l, 1) := by decide +kernel
theorem dX10_readNumber_21 : decode cX10_readNumber 21 = .ok (.iload_n 2, 1) := by decide +kernel
theorem dX10_readNumber_22 : decode cX10_readNumber 22 = .ok (.i2l, 1) := by decide +kernel
theorem dX10_readNumber_23 : decode cX10_readNumber 23 = .ok (.invokestatic 174, 3) := by decide +kernel
theorem dX10_readNumber_26 : decode cX10_readNumber 26 = .ok (.ifCond .ne 9, 3) := by decide +kernel
theorem dX10_readNumber_29 : decode cX10_readNumber 29 = .ok (.aload_n 0, 1) := by decide +kernel
theorem dX10_readNumber_30 : decode cX10_readNumber 30 = .ok (.iconst 2, 1) := by decide +kernel
theorem dX10_readNumber_31 : decode cX10_readNumber 31 = .ok (.invokevirtual 171, 3) := by decide +kernel
theorem dX10_readNumber_34 : decode cX10_readNumber 34 = .ok (.ireturn, 1) := by decide +kernel
theorem dX10_readNumber_35 : decode cX10_readNumber 35 = .ok (.aload_n 0, 1) := by decide +kernel
theorem dX10_readNumber_36 : decode cX10_readNumber 36 = .ok (.aload_n 0, 1) := by decide +kernel
theorem dX10_readNumber_37 : decode cX10_readNumber 37 = .ok (.getfield 165, 3) := by decide +kernel
theorem dX10_readNumber_40 : decode cX10_readNumber 40 = .ok (.putfield 178, 3) := by decide +kernel
theorem dX10_readNumber_43 : decode cX10_readNumber 43 = .ok (.aload_n 0, 1) := by decide +kernel
theorem dX10_readNumber_44 : decode cX10_readNumber 44 = .ok (.invokevirtual 181, 3) := by decide +kernel
theorem dX10_readNumber_47 : decode cX10_readNumber 47 = .ok (.iconst 1, 1) := by decide +kernel
theorem dX10_readNumber_48 : decode cX10_readNumber 48 = .ok (.ireturn, 1) := by decide +kernel
theorem kk_X10_scan_0 : Cond.fieldLink RX10 134 "PaidBySignsModel" "end" "I" ∈ wsX10_scan := pm_X10_scan_r1 _ (List.mem_of_getElem? (i := 0) rfl)
theorem kk_X10_scan_1 : Cond.fieldLink RX10 137 "PaidBySignsModel" "at" "I" ∈ wsX10_scan := pm_X10_scan_r1 _ (List.mem_of_getElem? (i := 1) rfl)
theorem kk_X10_scan_2 : Cond.fieldLink RX10 140 "PaidBySignsModel" "key" "I" ∈ wsX10_scan := pm_X10_scan_r1 _ (List.mem_of_getElem? (i := 2) rfl)
theorem kk_X10_scan_3 : Cond.fieldLink RX10 143 "PaidBySignsModel" "sort" "I" ∈ wsX10_scan := pm_X10_scan_r1 _ (List.mem_of_getElem? (i := 3) rfl)
theorem kk_X10_scan_4 : Cond.fieldLink RX10 165 "PaidBySignsModel" "number" "I" ∈ wsX10_scan := pm_X10_scan_r1 _ (List.mem_of_getElem? (i := 7) rfl)
theorem kk_X10_scan_5 : Cond.fieldLink RX10 150 "PaidBySignsModel" "word" "J" ∈ wsX10_scan := pm_X10_scan_r1 _ (List.mem_of_getElem? (i := 4) rfl)
theorem kk_X10_scan_6 : Cond.constantLong RX10 154 (32) ∈ wsX10_scan := pm_X10_scan_r1 _ (List.mem_of_getElem? (i := 5) rfl)
theorem kk_X10_scan_7 : Cond.constantLong RX10 156 (97) ∈ wsX10_scan := pm_X10_scan_r1 _ (List.mem_of_getElem? (i := 6) rfl)
theorem kk_X10_fails_0 : Cond.fieldLink RX10 168 "PaidBySignsModel" "faultKind" "I" ∈ wsX10_fails := by decide +kernel
theorem kk_X10_fails_1 : Cond.fieldLink RX10 137 "PaidBySignsModel" "at" "I" ∈ wsX10_fails := by decide +kernel
theorem kk_X10_fails_2 : Cond.fieldLink RX10 13 "PaidBySignsModel" "faultPlace" "I" ∈ wsX10_fails := by decide +kernel
theorem kk_X10_readNumber_0 : Cond.fieldLink RX10 143 "PaidBySignsModel" "sort" "I" ∈ wsX10_readNumber := pm_X10_readNumber_r1 _ (List.mem_of_getElem? (i := 0) rfl)
theorem kk_X10_readNumber_1 : Cond.fieldLink RX10 165 "PaidBySignsModel" "number" "I" ∈ wsX10_readNumber := pm_X10_readNumber_r1 _ (List.mem_of_getElem? (i := 1) rfl)
theorem kk_X10_readNumber_2 : Cond.fieldLink RX10 178 "PaidBySignsModel" "got" "I" ∈ wsX10_readNumber := pm_X10_readNumber_r1 _ (List.mem_of_getElem? (i := 2) rfl)
theorem iw_X10_scan_X10 : ∀ w ∈ wsX100, w ∈ wsX10_scan := pw_X10_scan_X10
theorem iw_X10_fails_X10 : ∀ w ∈ wsX100, w ∈ wsX10_fails := by decide +kernel
theorem iw_X10_readNumber_X10 : ∀ w ∈ wsX100, w ∈ wsX10_readNumber := pw_X10_readNumber_X10

abbrev cX10_isKey : ByteArray := prog_12_method_12_code
def yX10_isKey : MethodName := ⟨RX10, "isKey", "(I)Z"⟩
abbrev cX10_readWord : ByteArray := prog_12_method_13_code
def yX10_readWord : MethodName := ⟨RX10, "readWord", "(I)Z"⟩
abbrev cX10_readSemi : ByteArray := prog_12_method_14_code
def yX10_readSemi : MethodName := ⟨RX10, "readSemi", "()Z"⟩
abbrev cX10_fault : ByteArray := prog_12_method_15_code
def yX10_fault : MethodName := ⟨RX10, "fault", "(I)I"⟩
abbrev cX10_begin : ByteArray := prog_12_method_16_code
def yX10_begin : MethodName := ⟨RX10, "begin", "()V"⟩
def wsX10_begin : List Cond := .code yX10_begin cX10_begin 1 none :: ([.fieldLink RX10 17 "PaidBySignsModel" "num" "[I", .fieldLink RX10 37 "PaidBySignsModel" "rates" "[I", .fieldLink RX10 187 "PaidBySignsModel" "seen" "I"] ++ wsX100)
def wsX10_isKey : List Cond := .code yX10_isKey cX10_isKey 2 (some .boolean) :: ([.fieldLink RX10 143 "PaidBySignsModel" "sort" "I", .fieldLink RX10 140 "PaidBySignsModel" "key" "I"] ++ wsX100)
def wsX10_readWord_r1 : List Cond := [Cond.methodLink RX10 184 yX10_isKey, Cond.instanceMethod yX10_isKey, Cond.selects RX10 yX10_isKey yX10_isKey, Cond.initialized RX10, Cond.code yX10_isKey cX10_isKey 2 (some .boolean), Cond.fieldLink RX10 143 "PaidBySignsModel" "sort" "I", Cond.fieldLink RX10 140 "PaidBySignsModel" "key" "I", Cond.methodLink RX10 171 yX10_fails, Cond.instanceMethod yX10_fails, Cond.selects RX10 yX10_fails yX10_fails, Cond.code yX10_fails cX10_fails 2 (some .boolean), Cond.fieldLink RX10 168 "PaidBySignsModel" "faultKind" "I", Cond.fieldLink RX10 137 "PaidBySignsModel" "at" "I", Cond.fieldLink RX10 13 "PaidBySignsModel" "faultPlace" "I", Cond.methodLink RX10 181 yX10_scan, Cond.instanceMethod yX10_scan, Cond.selects RX10 yX10_scan yX10_scan, Cond.code yX10_scan cX10_scan 4 none, Cond.fieldLink RX10 134 "PaidBySignsModel" "end" "I", Cond.fieldLink RX10 150 "PaidBySignsModel" "word" "J", Cond.constantLong RX10 154 (32), Cond.constantLong RX10 156 (97), Cond.fieldLink RX10 165 "PaidBySignsModel" "number" "I", Cond.methodLink RX10 130 yX10_byteAt]
def wsX10_readWord_r2 : List Cond := [Cond.instanceMethod yX10_byteAt, Cond.selects RX10 yX10_byteAt yX10_byteAt, Cond.code yX10_byteAt cX10_byteAt 2 (some .int), Cond.fieldLink RX10 115 "PaidBySignsModel" "size" "I", Cond.fieldLink RX10 7 "PaidBySignsModel" "tape" "[B", Cond.methodLink RX10 146 yX10_isSmall, Cond.static yX10_isSmall, Cond.code yX10_isSmall cX10_isSmall 1 (some .boolean), Cond.methodLink RX10 158 yX10_keyAt, Cond.instanceMethod yX10_keyAt, Cond.selects RX10 yX10_keyAt yX10_keyAt, Cond.code yX10_keyAt cX10_keyAt 8 (some .int), Cond.methodLink RX10 120 yJ0_length_8abf5, Cond.instanceMethod yJ0_length_8abf5, Cond.selects RJ0 yJ0_length_8abf5 yJ0_length_8abf5, Cond.initialized RJ0, Cond.code yJ0_length_8abf5 cJ0_length_8abf5 1 (some .int), Cond.fieldLink RJ0 9 "java/lang/String" "value" "[B", Cond.methodLink RJ0 335 yJ0_coder_7d493, Cond.instanceMethod yJ0_coder_7d493, Cond.selects RJ0 yJ0_coder_7d493 yJ0_coder_7d493, Cond.code yJ0_coder_7d493 cJ0_coder_7d493 1 (some .byte), Cond.fieldLink RJ0 38 "java/lang/String" "COMPACT_STRINGS" "Z", Cond.fieldLink RJ0 15 "java/lang/String" "coder" "B"]
def wsX10_readWord_r3 : List Cond := [Cond.methodLink RX10 126 yJ0_charAt_5068e, Cond.instanceMethod yJ0_charAt_5068e, Cond.selects RJ0 yJ0_charAt_5068e yJ0_charAt_5068e, Cond.code yJ0_charAt_5068e cJ0_charAt_5068e 2 (some .char), Cond.methodLink RJ0 492 yJ0_isLatin1_aae02, Cond.instanceMethod yJ0_isLatin1_aae02, Cond.selects RJ0 yJ0_isLatin1_aae02 yJ0_isLatin1_aae02, Cond.code yJ0_isLatin1_aae02 cJ0_isLatin1_aae02 1 (some .boolean), Cond.methodLink RJ0 495 yJ1_charAt_3b067, Cond.static yJ1_charAt_3b067, Cond.initialized RJ1, Cond.code yJ1_charAt_3b067 cJ1_charAt_3b067 2 (some .char), Cond.methodLink RJ1 9 yJ0_checkIndex_df160, Cond.static yJ0_checkIndex_df160, Cond.code yJ0_checkIndex_df160 cJ0_checkIndex_df160 2 none, Cond.fieldLink RJ0 1053 "jdk/internal/util/Preconditions" "SIOOBE_FORMATTER" "Ljava/util/function/BiFunction;", Cond.methodLink RJ0 1059 yJ3_checkIndex_8e157, Cond.static yJ3_checkIndex_8e157, Cond.initialized RJ3, Cond.code yJ3_checkIndex_8e157 cJ3_checkIndex_8e157 3 (some .int), Cond.methodLink RJ0 498 yJ2_charAt_3b067, Cond.static yJ2_charAt_3b067, Cond.initialized RJ2, Cond.code yJ2_charAt_3b067 cJ2_charAt_3b067 2 (some .char)]
def wsX10_readWord_r4 : List Cond := [Cond.methodLink RJ2 67 yJ2_checkIndex_2214a, Cond.static yJ2_checkIndex_2214a, Cond.code yJ2_checkIndex_2214a cJ2_checkIndex_2214a 2 none, Cond.methodLink RJ2 48 yJ2_length_9d52b, Cond.static yJ2_length_9d52b, Cond.code yJ2_length_9d52b cJ2_length_9d52b 1 (some .int), Cond.methodLink RJ2 414 yJ0_checkIndex_df160, Cond.methodLink RJ2 71 yJ2_getChar_3b067, Cond.static yJ2_getChar_3b067, Cond.code yJ2_getChar_3b067 cJ2_getChar_3b067 2 (some .char), Cond.fieldLink RJ2 44 "java/lang/StringUTF16" "$assertionsDisabled" "Z", Cond.fieldLink RJ2 59 "java/lang/StringUTF16" "HI_BYTE_SHIFT" "I", Cond.fieldLink RJ2 63 "java/lang/StringUTF16" "LO_BYTE_SHIFT" "I", Cond.methodLink RX10 162 yX10_isDigit, Cond.static yX10_isDigit, Cond.code yX10_isDigit cX10_isDigit 1 (some .boolean)]
def wsX10_readWord : List Cond := .code yX10_readWord cX10_readWord 2 (some .boolean) :: ((wsX10_readWord_r1 ++ (wsX10_readWord_r2 ++ (wsX10_readWord_r3 ++ wsX10_readWord_r4))) ++ wsX100)
def wsX10_readSemi_r1 : List Cond := [Cond.fieldLink RX10 143 "PaidBySignsModel" "sort" "I", Cond.methodLink RX10 171 yX10_fails, Cond.instanceMethod yX10_fails, Cond.selects RX10 yX10_fails yX10_fails, Cond.initialized RX10, Cond.code yX10_fails cX10_fails 2 (some .boolean), Cond.fieldLink RX10 168 "PaidBySignsModel" "faultKind" "I", Cond.fieldLink RX10 137 "PaidBySignsModel" "at" "I", Cond.fieldLink RX10 13 "PaidBySignsModel" "faultPlace" "I", Cond.methodLink RX10 181 yX10_scan, Cond.instanceMethod yX10_scan, Cond.selects RX10 yX10_scan yX10_scan, Cond.code yX10_scan cX10_scan 4 none, Cond.fieldLink RX10 134 "PaidBySignsModel" "end" "I", Cond.fieldLink RX10 140 "PaidBySignsModel" "key" "I", Cond.fieldLink RX10 150 "PaidBySignsModel" "word" "J", Cond.constantLong RX10 154 (32), Cond.constantLong RX10 156 (97), Cond.fieldLink RX10 165 "PaidBySignsModel" "number" "I", Cond.methodLink RX10 130 yX10_byteAt, Cond.instanceMethod yX10_byteAt, Cond.selects RX10 yX10_byteAt yX10_byteAt, Cond.code yX10_byteAt cX10_byteAt 2 (some .int), Cond.fieldLink RX10 115 "PaidBySignsModel" "size" "I"]
def wsX10_readSemi_r2 : List Cond := [Cond.fieldLink RX10 7 "PaidBySignsModel" "tape" "[B", Cond.methodLink RX10 146 yX10_isSmall, Cond.static yX10_isSmall, Cond.code yX10_isSmall cX10_isSmall 1 (some .boolean), Cond.methodLink RX10 158 yX10_keyAt, Cond.instanceMethod yX10_keyAt, Cond.selects RX10 yX10_keyAt yX10_keyAt, Cond.code yX10_keyAt cX10_keyAt 8 (some .int), Cond.methodLink RX10 120 yJ0_length_8abf5, Cond.instanceMethod yJ0_length_8abf5, Cond.selects RJ0 yJ0_length_8abf5 yJ0_length_8abf5, Cond.initialized RJ0, Cond.code yJ0_length_8abf5 cJ0_length_8abf5 1 (some .int), Cond.fieldLink RJ0 9 "java/lang/String" "value" "[B", Cond.methodLink RJ0 335 yJ0_coder_7d493, Cond.instanceMethod yJ0_coder_7d493, Cond.selects RJ0 yJ0_coder_7d493 yJ0_coder_7d493, Cond.code yJ0_coder_7d493 cJ0_coder_7d493 1 (some .byte), Cond.fieldLink RJ0 38 "java/lang/String" "COMPACT_STRINGS" "Z", Cond.fieldLink RJ0 15 "java/lang/String" "coder" "B", Cond.methodLink RX10 126 yJ0_charAt_5068e, Cond.instanceMethod yJ0_charAt_5068e, Cond.selects RJ0 yJ0_charAt_5068e yJ0_charAt_5068e, Cond.code yJ0_charAt_5068e cJ0_charAt_5068e 2 (some .char)]
def wsX10_readSemi_r3 : List Cond := [Cond.methodLink RJ0 492 yJ0_isLatin1_aae02, Cond.instanceMethod yJ0_isLatin1_aae02, Cond.selects RJ0 yJ0_isLatin1_aae02 yJ0_isLatin1_aae02, Cond.code yJ0_isLatin1_aae02 cJ0_isLatin1_aae02 1 (some .boolean), Cond.methodLink RJ0 495 yJ1_charAt_3b067, Cond.static yJ1_charAt_3b067, Cond.initialized RJ1, Cond.code yJ1_charAt_3b067 cJ1_charAt_3b067 2 (some .char), Cond.methodLink RJ1 9 yJ0_checkIndex_df160, Cond.static yJ0_checkIndex_df160, Cond.code yJ0_checkIndex_df160 cJ0_checkIndex_df160 2 none, Cond.fieldLink RJ0 1053 "jdk/internal/util/Preconditions" "SIOOBE_FORMATTER" "Ljava/util/function/BiFunction;", Cond.methodLink RJ0 1059 yJ3_checkIndex_8e157, Cond.static yJ3_checkIndex_8e157, Cond.initialized RJ3, Cond.code yJ3_checkIndex_8e157 cJ3_checkIndex_8e157 3 (some .int), Cond.methodLink RJ0 498 yJ2_charAt_3b067, Cond.static yJ2_charAt_3b067, Cond.initialized RJ2, Cond.code yJ2_charAt_3b067 cJ2_charAt_3b067 2 (some .char), Cond.methodLink RJ2 67 yJ2_checkIndex_2214a, Cond.static yJ2_checkIndex_2214a, Cond.code yJ2_checkIndex_2214a cJ2_checkIndex_2214a 2 none, Cond.methodLink RJ2 48 yJ2_length_9d52b]
def wsX10_readSemi_r4 : List Cond := [Cond.static yJ2_length_9d52b, Cond.code yJ2_length_9d52b cJ2_length_9d52b 1 (some .int), Cond.methodLink RJ2 414 yJ0_checkIndex_df160, Cond.methodLink RJ2 71 yJ2_getChar_3b067, Cond.static yJ2_getChar_3b067, Cond.code yJ2_getChar_3b067 cJ2_getChar_3b067 2 (some .char), Cond.fieldLink RJ2 44 "java/lang/StringUTF16" "$assertionsDisabled" "Z", Cond.fieldLink RJ2 59 "java/lang/StringUTF16" "HI_BYTE_SHIFT" "I", Cond.fieldLink RJ2 63 "java/lang/StringUTF16" "LO_BYTE_SHIFT" "I", Cond.methodLink RX10 162 yX10_isDigit, Cond.static yX10_isDigit, Cond.code yX10_isDigit cX10_isDigit 1 (some .boolean)]
def wsX10_readSemi : List Cond := .code yX10_readSemi cX10_readSemi 1 (some .boolean) :: ((wsX10_readSemi_r1 ++ (wsX10_readSemi_r2 ++ (wsX10_readSemi_r3 ++ wsX10_readSemi_r4))) ++ wsX100)
def wsX10_fault : List Cond := .code yX10_fault cX10_fault 2 (some .int) :: ([.fieldLink RX10 168 "PaidBySignsModel" "faultKind" "I", .fieldLink RX10 13 "PaidBySignsModel" "faultPlace" "I"] ++ wsX100)
theorem dX10_isKey_0 : decode cX10_isKey 0 = .ok (.aload_n 0, 1) := by decide +kernel
theorem dX10_isKey_1 : decode cX10_isKey 1 = .ok (.getfield 143, 3) := by decide +kernel
theorem dX10_isKey_4 : decode cX10_isKey 4 = .ok (.iconst 1, 1) := by decide +kernel
theorem dX10_isKey_5 : decode cX10_isKey 5 = .ok (.if_icmp .ne 15, 3) := by decide +kernel
theorem dX10_isKey_8 : decode cX10_isKey 8 = .ok (.aload_n 0, 1) := by decide +kernel
theorem dX10_isKey_9 : decode cX10_isKey 9 = .ok (.getfield 140, 3) := by decide +kernel
theorem dX10_isKey_12 : decode cX10_isKey 12 = .ok (.iload_n 1, 1) := by decide +kernel
theorem dX10_isKey_13 : decode cX10_isKey 13 = .ok (.if_icmp .ne 7, 3) := by decide +kernel
theorem dX10_isKey_16 : decode cX10_isKey 16 = .ok (.iconst 1, 1) := by decide +kernel
theorem dX10_isKey_17 : decode cX10_isKey 17 = .ok (.goto 4, 3) := by decide +kernel
theorem dX10_isKey_20 : decode cX10_isKey 20 = .ok (.iconst 0, 1) := by decide +kernel
theorem dX10_isKey_21 : decode cX10_isKey 21 = .ok (.ireturn, 1) := by decide +kernel
theorem pm_X10_readWord_r1 : ∀ w ∈ wsX10_readWord_r1, w ∈ wsX10_readWord := fun _ h => List.mem_cons_of_mem _ (List.mem_append_left _ (List.mem_append_left _ h))
theorem pm_X10_readWord_r2 : ∀ w ∈ wsX10_readWord_r2, w ∈ wsX10_readWord := fun _ h => List.mem_cons_of_mem _ (List.mem_append_left _ (List.mem_append_right _ (List.mem_append_left _ h)))
theorem pm_X10_readWord_r3 : ∀ w ∈ wsX10_readWord_r3, w ∈ wsX10_readWord := fun _ h => List.mem_cons_of_mem _ (List.mem_append_left _ (List.mem_append_right _ (List.mem_append_right _ (List.mem_append_left _ h))))
theorem pm_X10_readWord_r4 : ∀ w ∈ wsX10_readWord_r4, w ∈ wsX10_readWord := fun _ h => List.mem_cons_of_mem _ (List.mem_append_left _ (List.mem_append_right _ (List.mem_append_right _ (List.mem_append_right _ (h)))))
theorem pw_X10_readWord_X10 : ∀ w ∈ wsX100, w ∈ wsX10_readWord := fun _ h => List.mem_cons_of_mem _ (List.mem_append_right _ h)
set_option maxRecDepth 20000 in
theorem ggX10_readWord_X10_isKey : GoodIn wsX10_readWord wsX10_isKey := goodIn_sub (List.forall_mem_cons.mpr ⟨pm_X10_readWord_r1 _ (List.mem_of_getElem? (i := 4) rfl), List.forall_mem_append.mpr ⟨List.forall_mem_cons.mpr ⟨pm_X10_readWord_r1 _ (List.mem_of_getElem? (i := 5) rfl), List.forall_mem_cons.mpr ⟨pm_X10_readWord_r1 _ (List.mem_of_getElem? (i := 6) rfl), fun _ h => absurd h List.not_mem_nil⟩⟩, pw_X10_readWord_X10⟩⟩) (by decide +kernel)
set_option maxRecDepth 20000 in
theorem gX10_readWord_X10_isKey : GoodIn wsX10_readWord (wsV RX10 184 RX10 yX10_isKey wsX10_isKey) := goodIn_app (goodIn_of _ (by decide +kernel)) ggX10_readWord_X10_isKey
set_option maxRecDepth 20000 in
theorem ggX10_readWord_X10_fails : GoodIn wsX10_readWord wsX10_fails := goodIn_sub (List.forall_mem_cons.mpr ⟨pm_X10_readWord_r1 _ (List.mem_of_getElem? (i := 10) rfl), List.forall_mem_append.mpr ⟨List.forall_mem_cons.mpr ⟨pm_X10_readWord_r1 _ (List.mem_of_getElem? (i := 11) rfl), List.forall_mem_cons.mpr ⟨pm_X10_readWord_r1 _ (List.mem_of_getElem? (i := 12) rfl), List.forall_mem_cons.mpr ⟨pm_X10_readWord_r1 _ (List.mem_of_getElem? (i := 13) rfl), fun _ h => absurd h List.not_mem_nil⟩⟩⟩, pw_X10_readWord_X10⟩⟩) (by decide +kernel)
set_option maxRecDepth 20000 in
theorem gX10_readWord_X10_fails : GoodIn wsX10_readWord (wsV RX10 171 RX10 yX10_fails wsX10_fails) := goodIn_app (goodIn_of _ (by decide +kernel)) ggX10_readWord_X10_fails
set_option maxRecDepth 20000 in
theorem pq_X10_readWord_X10_scan_r1 : ∀ w ∈ wsX10_scan_r1, w ∈ wsX10_readWord := List.forall_mem_cons.mpr ⟨pm_X10_readWord_r1 _ (List.mem_of_getElem? (i := 18) rfl), List.forall_mem_cons.mpr ⟨pm_X10_readWord_r1 _ (List.mem_of_getElem? (i := 12) rfl), List.forall_mem_cons.mpr ⟨pm_X10_readWord_r1 _ (List.mem_of_getElem? (i := 6) rfl), List.forall_mem_cons.mpr ⟨pm_X10_readWord_r1 _ (List.mem_of_getElem? (i := 5) rfl), List.forall_mem_cons.mpr ⟨pm_X10_readWord_r1 _ (List.mem_of_getElem? (i := 19) rfl), List.forall_mem_cons.mpr ⟨pm_X10_readWord_r1 _ (List.mem_of_getElem? (i := 20) rfl), List.forall_mem_cons.mpr ⟨pm_X10_readWord_r1 _ (List.mem_of_getElem? (i := 21) rfl), List.forall_mem_cons.mpr ⟨pm_X10_readWord_r1 _ (List.mem_of_getElem? (i := 22) rfl), List.forall_mem_cons.mpr ⟨pm_X10_readWord_r1 _ (List.mem_of_getElem? (i := 23) rfl), List.forall_mem_cons.mpr ⟨pm_X10_readWord_r2 _ (List.mem_of_getElem? (i := 0) rfl), List.forall_mem_cons.mpr ⟨pm_X10_readWord_r2 _ (List.mem_of_getElem? (i := 1) rfl), List.forall_mem_cons.mpr ⟨pm_X10_readWord_r1 _ (List.mem_of_getElem? (i := 3) rfl), List.forall_mem_cons.mpr ⟨pm_X10_readWord_r2 _ (List.mem_of_getElem? (i := 2) rfl), List.forall_mem_cons.mpr ⟨pm_X10_readWord_r2 _ (List.mem_of_getElem? (i := 3) rfl), List.forall_mem_cons.mpr ⟨pm_X10_readWord_r2 _ (List.mem_of_getElem? (i := 4) rfl), List.forall_mem_cons.mpr ⟨pm_X10_readWord_r2 _ (List.mem_of_getElem? (i := 5) rfl), List.forall_mem_cons.mpr ⟨pm_X10_readWord_r2 _ (List.mem_of_getElem? (i := 6) rfl), List.forall_mem_cons.mpr ⟨pm_X10_readWord_r2 _ (List.mem_of_getElem? (i := 7) rfl), List.forall_mem_cons.mpr ⟨pm_X10_readWord_r2 _ (List.mem_of_getElem? (i := 8) rfl), List.forall_mem_cons.mpr ⟨pm_X10_readWord_r2 _ (List.mem_of_getElem? (i := 9) rfl), List.forall_mem_cons.mpr ⟨pm_X10_readWord_r2 _ (List.mem_of_getElem? (i := 10) rfl), List.forall_mem_cons.mpr ⟨pm_X10_readWord_r2 _ (List.mem_of_getElem? (i := 11) rfl), List.forall_mem_cons.mpr ⟨pm_X10_readWord_r2 _ (List.mem_of_getElem? (i := 12) rfl), List.forall_mem_cons.mpr ⟨pm_X10_readWord_r2 _ (List.mem_of_getElem? (i := 13) rfl), fun _ h => absurd h List.not_mem_nil⟩⟩⟩⟩⟩⟩⟩⟩⟩⟩⟩⟩⟩⟩⟩⟩⟩⟩⟩⟩⟩⟩⟩⟩
set_option maxRecDepth 20000 in
theorem pq_X10_readWord_X10_scan_r2 : ∀ w ∈ wsX10_scan_r2, w ∈ wsX10_readWord := List.forall_mem_cons.mpr ⟨pm_X10_readWord_r2 _ (List.mem_of_getElem? (i := 14) rfl), List.forall_mem_cons.mpr ⟨pm_X10_readWord_r2 _ (List.mem_of_getElem? (i := 15) rfl), List.forall_mem_cons.mpr ⟨pm_X10_readWord_r2 _ (List.mem_of_getElem? (i := 16) rfl), List.forall_mem_cons.mpr ⟨pm_X10_readWord_r2 _ (List.mem_of_getElem? (i := 17) rfl), List.forall_mem_cons.mpr ⟨pm_X10_readWord_r2 _ (List.mem_of_getElem? (i := 18) rfl), List.forall_mem_cons.mpr ⟨pm_X10_readWord_r2 _ (List.mem_of_getElem? (i := 19) rfl), List.forall_mem_cons.mpr ⟨pm_X10_readWord_r2 _ (List.mem_of_getElem? (i := 20) rfl), List.forall_mem_cons.mpr ⟨pm_X10_readWord_r2 _ (List.mem_of_getElem? (i := 21) rfl), List.forall_mem_cons.mpr ⟨pm_X10_readWord_r2 _ (List.mem_of_getElem? (i := 22) rfl), List.forall_mem_cons.mpr ⟨pm_X10_readWord_r2 _ (List.mem_of_getElem? (i := 23) rfl), List.forall_mem_cons.mpr ⟨pm_X10_readWord_r3 _ (List.mem_of_getElem? (i := 0) rfl), List.forall_mem_cons.mpr ⟨pm_X10_readWord_r3 _ (List.mem_of_getElem? (i := 1) rfl), List.forall_mem_cons.mpr ⟨pm_X10_readWord_r3 _ (List.mem_of_getElem? (i := 2) rfl), List.forall_mem_cons.mpr ⟨pm_X10_readWord_r3 _ (List.mem_of_getElem? (i := 3) rfl), List.forall_mem_cons.mpr ⟨pm_X10_readWord_r3 _ (List.mem_of_getElem? (i := 4) rfl), List.forall_mem_cons.mpr ⟨pm_X10_readWord_r3 _ (List.mem_of_getElem? (i := 5) rfl), List.forall_mem_cons.mpr ⟨pm_X10_readWord_r3 _ (List.mem_of_getElem? (i := 6) rfl), List.forall_mem_cons.mpr ⟨pm_X10_readWord_r3 _ (List.mem_of_getElem? (i := 7) rfl), List.forall_mem_cons.mpr ⟨pm_X10_readWord_r3 _ (List.mem_of_getElem? (i := 8) rfl), List.forall_mem_cons.mpr ⟨pm_X10_readWord_r3 _ (List.mem_of_getElem? (i := 9) rfl), List.forall_mem_cons.mpr ⟨pm_X10_readWord_r3 _ (List.mem_of_getElem? (i := 10) rfl), List.forall_mem_cons.mpr ⟨pm_X10_readWord_r3 _ (List.mem_of_getElem? (i := 11) rfl), List.forall_mem_cons.mpr ⟨pm_X10_readWord_r3 _ (List.mem_of_getElem? (i := 12) rfl), List.forall_mem_cons.mpr ⟨pm_X10_readWord_r3 _ (List.mem_of_getElem? (i := 13) rfl), fun _ h => absurd h List.not_mem_nil⟩⟩⟩⟩⟩⟩⟩⟩⟩⟩⟩⟩⟩⟩⟩⟩⟩⟩⟩⟩⟩⟩⟩⟩
set_option maxRecDepth 20000 in
theorem pq_X10_readWord_X10_scan_r3 : ∀ w ∈ wsX10_scan_r3, w ∈ wsX10_readWord := List.forall_mem_cons.mpr ⟨pm_X10_readWord_r3 _ (List.mem_of_getElem? (i := 14) rfl), List.forall_mem_cons.mpr ⟨pm_X10_readWord_r3 _ (List.mem_of_getElem? (i := 15) rfl), List.forall_mem_cons.mpr ⟨pm_X10_readWord_r3 _ (List.mem_of_getElem? (i := 16) rfl), List.forall_mem_cons.mpr ⟨pm_X10_readWord_r3 _ (List.mem_of_getElem? (i := 17) rfl), List.forall_mem_cons.mpr ⟨pm_X10_readWord_r3 _ (List.mem_of_getElem? (i := 18) rfl), List.forall_mem_cons.mpr ⟨pm_X10_readWord_r3 _ (List.mem_of_getElem? (i := 19) rfl), List.forall_mem_cons.mpr ⟨pm_X10_readWord_r3 _ (List.mem_of_getElem? (i := 20) rfl), List.forall_mem_cons.mpr ⟨pm_X10_readWord_r3 _ (List.mem_of_getElem? (i := 21) rfl), List.forall_mem_cons.mpr ⟨pm_X10_readWord_r3 _ (List.mem_of_getElem? (i := 22) rfl), List.forall_mem_cons.mpr ⟨pm_X10_readWord_r3 _ (List.mem_of_getElem? (i := 23) rfl), List.forall_mem_cons.mpr ⟨pm_X10_readWord_r4 _ (List.mem_of_getElem? (i := 0) rfl), List.forall_mem_cons.mpr ⟨pm_X10_readWord_r4 _ (List.mem_of_getElem? (i := 1) rfl), List.forall_mem_cons.mpr ⟨pm_X10_readWord_r4 _ (List.mem_of_getElem? (i := 2) rfl), List.forall_mem_cons.mpr ⟨pm_X10_readWord_r4 _ (List.mem_of_getElem? (i := 3) rfl), List.forall_mem_cons.mpr ⟨pm_X10_readWord_r4 _ (List.mem_of_getElem? (i := 4) rfl), List.forall_mem_cons.mpr ⟨pm_X10_readWord_r4 _ (List.mem_of_getElem? (i := 5) rfl), List.forall_mem_cons.mpr ⟨pm_X10_readWord_r4 _ (List.mem_of_getElem? (i := 6) rfl), List.forall_mem_cons.mpr ⟨pm_X10_readWord_r4 _ (List.mem_of_getElem? (i := 7) rfl), List.forall_mem_cons.mpr ⟨pm_X10_readWord_r4 _ (List.mem_of_getElem? (i := 8) rfl), List.forall_mem_cons.mpr ⟨pm_X10_readWord_r4 _ (List.mem_of_getElem? (i := 9) rfl), List.forall_mem_cons.mpr ⟨pm_X10_readWord_r4 _ (List.mem_of_getElem? (i := 10) rfl), List.forall_mem_cons.mpr ⟨pm_X10_readWord_r4 _ (List.mem_of_getElem? (i := 11) rfl), List.forall_mem_cons.mpr ⟨pm_X10_readWord_r4 _ (List.mem_of_getElem? (i := 12) rfl), List.forall_mem_cons.mpr ⟨pm_X10_readWord_r4 _ (List.mem_of_getElem? (i := 13) rfl), fun _ h => absurd h List.not_mem_nil⟩⟩⟩⟩⟩⟩⟩⟩⟩⟩⟩⟩⟩⟩⟩⟩⟩⟩⟩⟩⟩⟩⟩⟩
set_option maxRecDepth 20000 in
theorem pq_X10_readWord_X10_scan_r4 : ∀ w ∈ wsX10_scan_r4, w ∈ wsX10_readWord := List.forall_mem_cons.mpr ⟨pm_X10_readWord_r4 _ (List.mem_of_getElem? (i := 14) rfl), List.forall_mem_cons.mpr ⟨pm_X10_readWord_r4 _ (List.mem_of_getElem? (i := 15) rfl), fun _ h => absurd h List.not_mem_nil⟩⟩
set_option maxRecDepth 20000 in
theorem ggX10_readWord_X10_scan : GoodIn wsX10_readWord wsX10_scan := goodIn_sub (List.forall_mem_cons.mpr ⟨pm_X10_readWord_r1 _ (List.mem_of_getElem? (i := 17) rfl), List.forall_mem_append.mpr ⟨List.forall_mem_append.mpr ⟨pq_X10_readWord_X10_scan_r1, List.forall_mem_append.mpr ⟨pq_X10_readWord_X10_scan_r2, List.forall_mem_append.mpr ⟨pq_X10_readWord_X10_scan_r3, pq_X10_readWord_X10_scan_r4⟩⟩⟩, pw_X10_readWord_X10⟩⟩) (by decide +kernel)
set_option maxRecDepth 20000 in
theorem gX10_readWord_X10_scan : GoodIn wsX10_readWord (wsV RX10 181 RX10 yX10_scan wsX10_scan) := goodIn_app (goodIn_of _ (by decide +kernel)) ggX10_readWord_X10_scan
theorem dX10_readWord_0 : decode cX10_readWord 0 = .ok (.aload_n 0, 1) := by decide +kernel
theorem dX10_readWord_1 : decode cX10_readWord 1 = .ok (.iload_n 1, 1) := by decide +kernel
theorem dX10_readWord_2 : decode cX10_readWord 2 = .ok (.invokevirtual 184, 3) := by decide +kernel
theorem dX10_readWord_5 : decode cX10_readWord 5 = .ok (.ifCond .ne 9, 3) := by decide +kernel
theorem dX10_readWord_8 : decode cX10_readWord 8 = .ok (.aload_n 0, 1) := by decide +kernel
theorem dX10_readWord_9 : decode cX10_readWord 9 = .ok (.iconst 1, 1) := by decide +kernel
theorem dX10_readWord_10 : decode cX10_readWord 10 = .ok (.invokevirtual 171, 3) := by decide +kernel
theorem dX10_readWord_13 : decode cX10_readWord 13 = .ok (.ireturn, 1) := by decide +kernel
theorem dX10_readWord_14 : decode cX10_readWord 14 = .ok (.aload_n 0, 1) := by decide +kernel
theorem dX10_readWord_15 : decode cX10_readWord 15 = .ok (.invokevirtual 181, 3) := by decide +kernel
theorem dX10_readWord_18 : decode cX10_readWord 18 = .ok (.iconst 1, 1) := by decide +kernel
theorem dX10_readWord_19 : decode cX10_readWord 19 = .ok (.ireturn, 1) := by decide +kernel
theorem pm_X10_readSemi_r1 : ∀ w ∈ wsX10_readSemi_r1, w ∈ wsX10_readSemi := fun _ h => List.mem_cons_of_mem _ (List.mem_append_left _ (List.mem_append_left _ h))
theorem pm_X10_readSemi_r2 : ∀ w ∈ wsX10_readSemi_r2, w ∈ wsX10_readSemi := fun _ h => List.mem_cons_of_mem _ (List.mem_append_left _ (List.mem_append_right _ (List.mem_append_left _ h)))
theorem pm_X10_readSemi_r3 : ∀ w ∈ wsX10_readSemi_r3, w ∈ wsX10_readSemi := fun _ h => List.mem_cons_of_mem _ (List.mem_append_left _ (List.mem_append_right _ (List.mem_append_right _ (List.mem_append_left _ h))))
theorem pm_X10_readSemi_r4 : ∀ w ∈ wsX10_readSemi_r4, w ∈ wsX10_readSemi := fun _ h => List.mem_cons_of_mem _ (List.mem_append_left _ (List.mem_append_right _ (List.mem_append_right _ (List.mem_append_right _ (h)))))
theorem pw_X10_readSemi_X10 : ∀ w ∈ wsX100, w ∈ wsX10_readSemi := fun _ h => List.mem_cons_of_mem _ (List.mem_append_right _ h)
set_option maxRecDepth 20000 in
theorem ggX10_readSemi_X10_fails : GoodIn wsX10_readSemi wsX10_fails := goodIn_sub (List.forall_mem_cons.mpr ⟨pm_X10_readSemi_r1 _ (List.mem_of_getElem? (i := 5) rfl), List.forall_mem_append.mpr ⟨List.forall_mem_cons.mpr ⟨pm_X10_readSemi_r1 _ (List.mem_of_getElem? (i := 6) rfl), List.forall_mem_cons.mpr ⟨pm_X10_readSemi_r1 _ (List.mem_of_getElem? (i := 7) rfl), List.forall_mem_cons.mpr ⟨pm_X10_readSemi_r1 _ (List.mem_of_getElem? (i := 8) rfl), fun _ h => absurd h List.not_mem_nil⟩⟩⟩, pw_X10_readSemi_X10⟩⟩) (by decide +kernel)
set_option maxRecDepth 20000 in
theorem gX10_readSemi_X10_fails : GoodIn wsX10_readSemi (wsV RX10 171 RX10 yX10_fails wsX10_fails) := goodIn_app (goodIn_of _ (by decide +kernel)) ggX10_readSemi_X10_fails
set_option maxRecDepth 20000 in
theorem pq_X10_readSemi_X10_scan_r1 : ∀ w ∈ wsX10_scan_r1, w ∈ wsX10_readSemi := List.forall_mem_cons.mpr ⟨pm_X10_readSemi_r1 _ (List.mem_of_getElem? (i := 13) rfl), List.forall_mem_cons.mpr ⟨pm_X10_readSemi_r1 _ (List.mem_of_getElem? (i := 7) rfl), List.forall_mem_cons.mpr ⟨pm_X10_readSemi_r1 _ (List.mem_of_getElem? (i := 14) rfl), List.forall_mem_cons.mpr ⟨pm_X10_readSemi_r1 _ (List.mem_of_getElem? (i := 0) rfl), List.forall_mem_cons.mpr ⟨pm_X10_readSemi_r1 _ (List.mem_of_getElem? (i := 15) rfl), List.forall_mem_cons.mpr ⟨pm_X10_readSemi_r1 _ (List.mem_of_getElem? (i := 16) rfl), List.forall_mem_cons.mpr ⟨pm_X10_readSemi_r1 _ (List.mem_of_getElem? (i := 17) rfl), List.forall_mem_cons.mpr ⟨pm_X10_readSemi_r1 _ (List.mem_of_getElem? (i := 18) rfl), List.forall_mem_cons.mpr ⟨pm_X10_readSemi_r1 _ (List.mem_of_getElem? (i := 19) rfl), List.forall_mem_cons.mpr ⟨pm_X10_readSemi_r1 _ (List.mem_of_getElem? (i := 20) rfl), List.forall_mem_cons.mpr ⟨pm_X10_readSemi_r1 _ (List.mem_of_getElem? (i := 21) rfl), List.forall_mem_cons.mpr ⟨pm_X10_readSemi_r1 _ (List.mem_of_getElem? (i := 4) rfl), List.forall_mem_cons.mpr ⟨pm_X10_readSemi_r1 _ (List.mem_of_getElem? (i := 22) rfl), List.forall_mem_cons.mpr ⟨pm_X10_readSemi_r1 _ (List.mem_of_getElem? (i := 23) rfl), List.forall_mem_cons.mpr ⟨pm_X10_readSemi_r2 _ (List.mem_of_getElem? (i := 0) rfl), List.forall_mem_cons.mpr ⟨pm_X10_readSemi_r2 _ (List.mem_of_getElem? (i := 1) rfl), List.forall_mem_cons.mpr ⟨pm_X10_readSemi_r2 _ (List.mem_of_getElem? (i := 2) rfl), List.forall_mem_cons.mpr ⟨pm_X10_readSemi_r2 _ (List.mem_of_getElem? (i := 3) rfl), List.forall_mem_cons.mpr ⟨pm_X10_readSemi_r2 _ (List.mem_of_getElem? (i := 4) rfl), List.forall_mem_cons.mpr ⟨pm_X10_readSemi_r2 _ (List.mem_of_getElem? (i := 5) rfl), List.forall_mem_cons.mpr ⟨pm_X10_readSemi_r2 _ (List.mem_of_getElem? (i := 6) rfl), List.forall_mem_cons.mpr ⟨pm_X10_readSemi_r2 _ (List.mem_of_getElem? (i := 7) rfl), List.forall_mem_cons.mpr ⟨pm_X10_readSemi_r2 _ (List.mem_of_getElem? (i := 8) rfl), List.forall_mem_cons.mpr ⟨pm_X10_readSemi_r2 _ (List.mem_of_getElem? (i := 9) rfl), fun _ h => absurd h List.not_mem_nil⟩⟩⟩⟩⟩⟩⟩⟩⟩⟩⟩⟩⟩⟩⟩⟩⟩⟩⟩⟩⟩⟩⟩⟩
set_option maxRecDepth 20000 in
theorem pq_X10_readSemi_X10_scan_r2 : ∀ w ∈ wsX10_scan_r2, w ∈ wsX10_readSemi := List.forall_mem_cons.mpr ⟨pm_X10_readSemi_r2 _ (List.mem_of_getElem? (i := 10) rfl), List.forall_mem_cons.mpr ⟨pm_X10_readSemi_r2 _ (List.mem_of_getElem? (i := 11) rfl), List.forall_mem_cons.mpr ⟨pm_X10_readSemi_r2 _ (List.mem_of_getElem? (i := 12) rfl), List.forall_mem_cons.mpr ⟨pm_X10_readSemi_r2 _ (List.mem_of_getElem? (i := 13) rfl), List.forall_mem_cons.mpr ⟨pm_X10_readSemi_r2 _ (List.mem_of_getElem? (i := 14) rfl), List.forall_mem_cons.mpr ⟨pm_X10_readSemi_r2 _ (List.mem_of_getElem? (i := 15) rfl), List.forall_mem_cons.mpr ⟨pm_X10_readSemi_r2 _ (List.mem_of_getElem? (i := 16) rfl), List.forall_mem_cons.mpr ⟨pm_X10_readSemi_r2 _ (List.mem_of_getElem? (i := 17) rfl), List.forall_mem_cons.mpr ⟨pm_X10_readSemi_r2 _ (List.mem_of_getElem? (i := 18) rfl), List.forall_mem_cons.mpr ⟨pm_X10_readSemi_r2 _ (List.mem_of_getElem? (i := 19) rfl), List.forall_mem_cons.mpr ⟨pm_X10_readSemi_r2 _ (List.mem_of_getElem? (i := 20) rfl), List.forall_mem_cons.mpr ⟨pm_X10_readSemi_r2 _ (List.mem_of_getElem? (i := 21) rfl), List.forall_mem_cons.mpr ⟨pm_X10_readSemi_r2 _ (List.mem_of_getElem? (i := 22) rfl), List.forall_mem_cons.mpr ⟨pm_X10_readSemi_r2 _ (List.mem_of_getElem? (i := 23) rfl), List.forall_mem_cons.mpr ⟨pm_X10_readSemi_r3 _ (List.mem_of_getElem? (i := 0) rfl), List.forall_mem_cons.mpr ⟨pm_X10_readSemi_r3 _ (List.mem_of_getElem? (i := 1) rfl), List.forall_mem_cons.mpr ⟨pm_X10_readSemi_r3 _ (List.mem_of_getElem? (i := 2) rfl), List.forall_mem_cons.mpr ⟨pm_X10_readSemi_r3 _ (List.mem_of_getElem? (i := 3) rfl), List.forall_mem_cons.mpr ⟨pm_X10_readSemi_r3 _ (List.mem_of_getElem? (i := 4) rfl), List.forall_mem_cons.mpr ⟨pm_X10_readSemi_r3 _ (List.mem_of_getElem? (i := 5) rfl), List.forall_mem_cons.mpr ⟨pm_X10_readSemi_r3 _ (List.mem_of_getElem? (i := 6) rfl), List.forall_mem_cons.mpr ⟨pm_X10_readSemi_r3 _ (List.mem_of_getElem? (i := 7) rfl), List.forall_mem_cons.mpr ⟨pm_X10_readSemi_r3 _ (List.mem_of_getElem? (i := 8) rfl), List.forall_mem_cons.mpr ⟨pm_X10_readSemi_r3 _ (List.mem_of_getElem? (i := 9) rfl), fun _ h => absurd h List.not_mem_nil⟩⟩⟩⟩⟩⟩⟩⟩⟩⟩⟩⟩⟩⟩⟩⟩⟩⟩⟩⟩⟩⟩⟩⟩
set_option maxRecDepth 20000 in
theorem pq_X10_readSemi_X10_scan_r3 : ∀ w ∈ wsX10_scan_r3, w ∈ wsX10_readSemi := List.forall_mem_cons.mpr ⟨pm_X10_readSemi_r3 _ (List.mem_of_getElem? (i := 10) rfl), List.forall_mem_cons.mpr ⟨pm_X10_readSemi_r3 _ (List.mem_of_getElem? (i := 11) rfl), List.forall_mem_cons.mpr ⟨pm_X10_readSemi_r3 _ (List.mem_of_getElem? (i := 12) rfl), List.forall_mem_cons.mpr ⟨pm_X10_readSemi_r3 _ (List.mem_of_getElem? (i := 13) rfl), List.forall_mem_cons.mpr ⟨pm_X10_readSemi_r3 _ (List.mem_of_getElem? (i := 14) rfl), List.forall_mem_cons.mpr ⟨pm_X10_readSemi_r3 _ (List.mem_of_getElem? (i := 15) rfl), List.forall_mem_cons.mpr ⟨pm_X10_readSemi_r3 _ (List.mem_of_getElem? (i := 16) rfl), List.forall_mem_cons.mpr ⟨pm_X10_readSemi_r3 _ (List.mem_of_getElem? (i := 17) rfl), List.forall_mem_cons.mpr ⟨pm_X10_readSemi_r3 _ (List.mem_of_getElem? (i := 18) rfl), List.forall_mem_cons.mpr ⟨pm_X10_readSemi_r3 _ (List.mem_of_getElem? (i := 19) rfl), List.forall_mem_cons.mpr ⟨pm_X10_readSemi_r3 _ (List.mem_of_getElem? (i := 20) rfl), List.forall_mem_cons.mpr ⟨pm_X10_readSemi_r3 _ (List.mem_of_getElem? (i := 21) rfl), List.forall_mem_cons.mpr ⟨pm_X10_readSemi_r3 _ (List.mem_of_getElem? (i := 22) rfl), List.forall_mem_cons.mpr ⟨pm_X10_readSemi_r3 _ (List.mem_of_getElem? (i := 23) rfl), List.forall_mem_cons.mpr ⟨pm_X10_readSemi_r4 _ (List.mem_of_getElem? (i := 0) rfl), List.forall_mem_cons.mpr ⟨pm_X10_readSemi_r4 _ (List.mem_of_getElem? (i := 1) rfl), List.forall_mem_cons.mpr ⟨pm_X10_readSemi_r4 _ (List.mem_of_getElem? (i := 2) rfl), List.forall_mem_cons.mpr ⟨pm_X10_readSemi_r4 _ (List.mem_of_getElem? (i := 3) rfl), List.forall_mem_cons.mpr ⟨pm_X10_readSemi_r4 _ (List.mem_of_getElem? (i := 4) rfl), List.forall_mem_cons.mpr ⟨pm_X10_readSemi_r4 _ (List.mem_of_getElem? (i := 5) rfl), List.forall_mem_cons.mpr ⟨pm_X10_readSemi_r4 _ (List.mem_of_getElem? (i := 6) rfl), List.forall_mem_cons.mpr ⟨pm_X10_readSemi_r4 _ (List.mem_of_getElem? (i := 7) rfl), List.forall_mem_cons.mpr ⟨pm_X10_readSemi_r4 _ (List.mem_of_getElem? (i := 8) rfl), List.forall_mem_cons.mpr ⟨pm_X10_readSemi_r4 _ (List.mem_of_getElem? (i := 9) rfl), fun _ h => absurd h List.not_mem_nil⟩⟩⟩⟩⟩⟩⟩⟩⟩⟩⟩⟩⟩⟩⟩⟩⟩⟩⟩⟩⟩⟩⟩⟩
set_option maxRecDepth 20000 in
theorem pq_X10_readSemi_X10_scan_r4 : ∀ w ∈ wsX10_scan_r4, w ∈ wsX10_readSemi := List.forall_mem_cons.mpr ⟨pm_X10_readSemi_r4 _ (List.mem_of_getElem? (i := 10) rfl), List.forall_mem_cons.mpr ⟨pm_X10_readSemi_r4 _ (List.mem_of_getElem? (i := 11) rfl), fun _ h => absurd h List.not_mem_nil⟩⟩
set_option maxRecDepth 20000 in
theorem ggX10_readSemi_X10_scan : GoodIn wsX10_readSemi wsX10_scan := goodIn_sub (List.forall_mem_cons.mpr ⟨pm_X10_readSemi_r1 _ (List.mem_of_getElem? (i := 12) rfl), List.forall_mem_append.mpr ⟨List.forall_mem_append.mpr ⟨pq_X10_readSemi_X10_scan_r1, List.forall_mem_append.mpr ⟨pq_X10_readSemi_X10_scan_r2, List.forall_mem_append.mpr ⟨pq_X10_readSemi_X10_scan_r3, pq_X10_readSemi_X10_scan_r4⟩⟩⟩, pw_X10_readSemi_X10⟩⟩) (by decide +kernel)
set_option maxRecDepth 20000 in
theorem gX10_readSemi_X10_scan : GoodIn wsX10_readSemi (wsV RX10 181 RX10 yX10_scan wsX10_scan) := goodIn_app (goodIn_of _ (by decide +kernel)) ggX10_readSemi_X10_scan
theorem dX10_readSemi_0 : decode cX10_readSemi 0 = .ok (.aload_n 0, 1) := by decide +kernel
theorem dX10_readSemi_1 : decode cX10_readSemi 1 = .ok (.getfield 143, 3) := by decide +kernel
theorem dX10_readSemi_4 : decode cX10_readSemi 4 = .ok (.iconst 3, 1) := by decide +kernel
theorem dX10_readSemi_5 : decode cX10_readSemi 5 = .ok (.if_icmp .eq 9, 3) := by decide +kernel
theorem dX10_readSemi_8 : decode cX10_readSemi 8 = .ok (.aload_n 0, 1) := by decide +kernel
theorem dX10_readSemi_9 : decode cX10_readSemi 9 = .ok (.iconst 1, 1) := by decide +kernel
theorem dX10_readSemi_10 : decode cX10_readSemi 10 = .ok (.invokevirtual 171, 3) := by decide +kernel
theorem dX10_readSemi_13 : decode cX10_readSemi 13 = .ok (.ireturn, 1) := by decide +kernel
theorem dX10_readSemi_14 : decode cX10_readSemi 14 = .ok (.aload_n 0, 1) := by decide +kernel
theorem dX10_readSemi_15 : decode cX10_readSemi 15 = .ok (.invokevirtual 181, 3) := by decide +kernel
theorem dX10_readSemi_18 : decode cX10_readSemi 18 = .ok (.iconst 1, 1) := by decide +kernel
theorem dX10_readSemi_19 : decode cX10_readSemi 19 = .ok (.ireturn, 1) := by decide +kernel
theorem dX10_fault_0 : decode cX10_fault 0 = .ok (.iload_n 1, 1) := by decide +kernel
theorem dX10_fault_1 : decode cX10_fault 1 = .ok (.ifCond .ne 10, 3) := by decide +kernel
theorem dX10_fault_4 : decode cX10_fault 4 = .ok (.aload_n 0, 1) := by decide +kernel
theorem dX10_fault_5 : decode cX10_fault 5 = .ok (.getfield 168, 3) := by decide +kernel
theorem dX10_fault_8 : decode cX10_fault 8 = .ok (.goto 16, 3) := by decide +kernel
theorem dX10_fault_11 : decode cX10_fault 11 = .ok (.iload_n 1, 1) := by decide +kernel
theorem dX10_fault_12 : decode cX10_fault 12 = .ok (.iconst 1, 1) := by decide +kernel
theorem dX10_fault_13 : decode cX10_fault 13 = .ok (.if_icmp .ne 10, 3) := by decide +kernel
theorem dX10_fault_16 : decode cX10_fault 16 = .ok (.aload_n 0, 1) := by decide +kernel
theorem dX10_fault_17 : decode cX10_fault 17 = .ok (.getfield 13, 3) := by decide +kernel
theorem dX10_fault_20 : decode cX10_fault 20 = .ok (.goto 4, 3) := by decide +kernel
theorem dX10_fault_23 : decode cX10_fault 23 = .ok (.iconst (-1), 1) := by decide +kernel
theorem dX10_fault_24 : decode cX10_fault 24 = .ok (.ireturn, 1) := by decide +kernel
theorem dX10_begin_0 : decode cX10_begin 0 = .ok (.aload_n 0, 1) := by decide +kernel
theorem dX10_begin_1 : decode cX10_begin 1 = .ok (.getfield 17, 3) := by decide +kernel
theorem dX10_begin_4 : decode cX10_begin 4 = .ok (.bipush 6, 2) := by decide +kernel
theorem dX10_begin_6 : decode cX10_begin 6 = .ok (.bipush 10, 2) := by decide +kernel
theorem dX10_begin_8 : decode cX10_begin 8 = .ok (.iastore, 1) := by decide +kernel
theorem dX10_begin_9 : decode cX10_begin 9 = .ok (.aload_n 0, 1) := by decide +kernel
theorem dX10_begin_10 : decode cX10_begin 10 = .ok (.getfield 17, 3) := by decide +kernel
theorem dX10_begin_13 : decode cX10_begin 13 = .ok (.bipush 7, 2) := by decide +kernel
theorem dX10_begin_15 : decode cX10_begin 15 = .ok (.iconst 0, 1) := by decide +kernel
theorem dX10_begin_16 : decode cX10_begin 16 = .ok (.iastore, 1) := by decide +kernel
theorem dX10_begin_17 : decode cX10_begin 17 = .ok (.aload_n 0, 1) := by decide +kernel
theorem dX10_begin_18 : decode cX10_begin 18 = .ok (.getfield 17, 3) := by decide +kernel
theorem dX10_begin_21 : decode cX10_begin 21 = .ok (.bipush 8, 2) := by decide +kernel
theorem dX10_begin_23 : decode cX10_begin 23 = .ok (.iconst 0, 1) := by decide +kernel
theorem dX10_begin_24 : decode cX10_begin 24 = .ok (.iastore, 1) := by decide +kernel
theorem dX10_begin_25 : decode cX10_begin 25 = .ok (.aload_n 0, 1) := by decide +kernel
theorem dX10_begin_26 : decode cX10_begin 26 = .ok (.getfield 17, 3) := by decide +kernel
theorem dX10_begin_29 : decode cX10_begin 29 = .ok (.bipush 9, 2) := by decide +kernel
theorem dX10_begin_31 : decode cX10_begin 31 = .ok (.iconst 0, 1) := by decide +kernel
theorem dX10_begin_32 : decode cX10_begin 32 = .ok (.iastore, 1) := by decide +kernel
theorem dX10_begin_33 : decode cX10_begin 33 = .ok (.aload_n 0, 1) := by decide +kernel
theorem dX10_begin_34 : decode cX10_begin 34 = .ok (.getfield 17, 3) := by decide +kernel
theorem dX10_begin_37 : decode cX10_begin 37 = .ok (.bipush 10, 2) := by decide +kernel
theorem dX10_begin_39 : decode cX10_begin 39 = .ok (.iconst 0, 1) := by decide +kernel
theorem dX10_begin_40 : decode cX10_begin 40 = .ok (.iastore, 1) := by decide +kernel
theorem dX10_begin_41 : decode cX10_begin 41 = .ok (.aload_n 0, 1) := by decide +kernel
theorem dX10_begin_42 : decode cX10_begin 42 = .ok (.getfield 17, 3) := by decide +kernel
theorem dX10_begin_45 : decode cX10_begin 45 = .ok (.bipush 11, 2) := by decide +kernel
theorem dX10_begin_47 : decode cX10_begin 47 = .ok (.iconst 1, 1) := by decide +kernel
theorem dX10_begin_48 : decode cX10_begin 48 = .ok (.iastore, 1) := by decide +kernel
theorem dX10_begin_49 : decode cX10_begin 49 = .ok (.aload_n 0, 1) := by decide +kernel
theorem dX10_begin_50 : decode cX10_begin 50 = .ok (.getfield 37, 3) := by decide +kernel
theorem dX10_begin_53 : decode cX10_begin 53 = .ok (.iconst 3, 1) := by decide +kernel
theorem dX10_begin_54 : decode cX10_begin 54 = .ok (.iconst 1, 1) := by decide +kernel
theorem dX10_begin_55 : decode cX10_begin 55 = .ok (.iastore, 1) := by decide +kernel
theorem dX10_begin_56 : decode cX10_begin 56 = .ok (.aload_n 0, 1) := by decide +kernel
theorem dX10_begin_57 : decode cX10_begin 57 = .ok (.iconst 0, 1) := by decide +kernel
theorem dX10_begin_58 : decode cX10_begin 58 = .ok (.putfield 187, 3) := by decide +kernel
theorem dX10_begin_61 : decode cX10_begin 61 = .ok (.return_, 1) := by decide +kernel
theorem kk_X10_isKey_0 : Cond.fieldLink RX10 143 "PaidBySignsModel" "sort" "I" ∈ wsX10_isKey := by decide +kernel
theorem kk_X10_isKey_1 : Cond.fieldLink RX10 140 "PaidBySignsModel" "key" "I" ∈ wsX10_isKey := by decide +kernel
theorem kk_X10_readSemi_0 : Cond.fieldLink RX10 143 "PaidBySignsModel" "sort" "I" ∈ wsX10_readSemi := pm_X10_readSemi_r1 _ (List.mem_of_getElem? (i := 0) rfl)
theorem kk_X10_fault_0 : Cond.fieldLink RX10 13 "PaidBySignsModel" "faultPlace" "I" ∈ wsX10_fault := by decide +kernel
theorem kk_X10_fault_1 : Cond.fieldLink RX10 168 "PaidBySignsModel" "faultKind" "I" ∈ wsX10_fault := by decide +kernel
theorem kk_X10_begin_0 : Cond.fieldLink RX10 17 "PaidBySignsModel" "num" "[I" ∈ wsX10_begin := by decide +kernel
theorem kk_X10_begin_1 : Cond.fieldLink RX10 37 "PaidBySignsModel" "rates" "[I" ∈ wsX10_begin := by decide +kernel
theorem kk_X10_begin_2 : Cond.fieldLink RX10 187 "PaidBySignsModel" "seen" "I" ∈ wsX10_begin := by decide +kernel
theorem iw_X10_isKey_X10 : ∀ w ∈ wsX100, w ∈ wsX10_isKey := by decide +kernel
theorem iw_X10_readSemi_X10 : ∀ w ∈ wsX100, w ∈ wsX10_readSemi := pw_X10_readSemi_X10
theorem iw_X10_fault_X10 : ∀ w ∈ wsX100, w ∈ wsX10_fault := by decide +kernel
theorem iw_X10_begin_X10 : ∀ w ∈ wsX100, w ∈ wsX10_begin := by decide +kernel

abbrev cX10_settle : ByteArray := prog_12_method_17_code
def yX10_settle : MethodName := ⟨RX10, "settle", "()V"⟩
abbrev cX10_isNamed : ByteArray := prog_12_method_18_code
def yX10_isNamed : MethodName := ⟨RX10, "isNamed", "([JI)Z"⟩
abbrev cX10_readSign : ByteArray := prog_12_method_19_code
def yX10_readSign : MethodName := ⟨RX10, "readSign", "()Z"⟩
abbrev cX10_readWork : ByteArray := prog_12_method_20_code
def yX10_readWork : MethodName := ⟨RX10, "readWork", "()Z"⟩
def wsX10_settle : List Cond := .code yX10_settle cX10_settle 2 none :: ([.fieldLink RX10 17 "PaidBySignsModel" "num" "[I", .fieldLink RX10 28 "PaidBySignsModel" "brings" "[I", .fieldLink RX10 31 "PaidBySignsModel" "costs" "[I", .fieldLink RX10 34 "PaidBySignsModel" "chances" "[I", .fieldLink RX10 37 "PaidBySignsModel" "rates" "[I", .fieldLink RX10 40 "PaidBySignsModel" "marks" "[I", .fieldLink RX10 43 "PaidBySignsModel" "hand" "[I", .fieldLink RX10 85 "PaidBySignsModel" "presses" "[I", .fieldLink RX10 88 "PaidBySignsModel" "mixes" "[I", .fieldLink RX10 190 "PaidBySignsModel" "lowerPress" "I", .fieldLink RX10 193 "PaidBySignsModel" "seenMany" "I", .fieldLink RX10 196 "PaidBySignsModel" "rightMany" "I", .fieldLink RX10 199 "PaidBySignsModel" "lastTold" "I", .fieldLink RX10 202 "PaidBySignsModel" "hasFraction" "Z", .fieldLink RX10 206 "PaidBySignsModel" "hasWages" "Z"] ++ wsX100)
def wsX10_isNamed : List Cond := .code yX10_isNamed cX10_isNamed 4 (some .boolean) :: ([.fieldLink RX10 150 "PaidBySignsModel" "word" "J"] ++ wsX100)
def wsX10_readSign_r1 : List Cond := [Cond.fieldLink RX10 17 "PaidBySignsModel" "num" "[I", Cond.fieldLink RX10 143 "PaidBySignsModel" "sort" "I", Cond.fieldLink RX10 21 "PaidBySignsModel" "signName" "[J", Cond.fieldLink RX10 150 "PaidBySignsModel" "word" "J", Cond.fieldLink RX10 28 "PaidBySignsModel" "brings" "[I", Cond.fieldLink RX10 178 "PaidBySignsModel" "got" "I", Cond.methodLink RX10 171 yX10_fails, Cond.instanceMethod yX10_fails, Cond.selects RX10 yX10_fails yX10_fails, Cond.initialized RX10, Cond.code yX10_fails cX10_fails 2 (some .boolean), Cond.fieldLink RX10 168 "PaidBySignsModel" "faultKind" "I", Cond.fieldLink RX10 137 "PaidBySignsModel" "at" "I", Cond.fieldLink RX10 13 "PaidBySignsModel" "faultPlace" "I", Cond.methodLink RX10 181 yX10_scan, Cond.instanceMethod yX10_scan, Cond.selects RX10 yX10_scan yX10_scan, Cond.code yX10_scan cX10_scan 4 none, Cond.fieldLink RX10 134 "PaidBySignsModel" "end" "I", Cond.fieldLink RX10 140 "PaidBySignsModel" "key" "I", Cond.constantLong RX10 154 (32), Cond.constantLong RX10 156 (97), Cond.fieldLink RX10 165 "PaidBySignsModel" "number" "I", Cond.methodLink RX10 130 yX10_byteAt]
def wsX10_readSign_r2 : List Cond := [Cond.instanceMethod yX10_byteAt, Cond.selects RX10 yX10_byteAt yX10_byteAt, Cond.code yX10_byteAt cX10_byteAt 2 (some .int), Cond.fieldLink RX10 115 "PaidBySignsModel" "size" "I", Cond.fieldLink RX10 7 "PaidBySignsModel" "tape" "[B", Cond.methodLink RX10 146 yX10_isSmall, Cond.static yX10_isSmall, Cond.code yX10_isSmall cX10_isSmall 1 (some .boolean), Cond.methodLink RX10 158 yX10_keyAt, Cond.instanceMethod yX10_keyAt, Cond.selects RX10 yX10_keyAt yX10_keyAt, Cond.code yX10_keyAt cX10_keyAt 8 (some .int), Cond.methodLink RX10 120 yJ0_length_8abf5, Cond.instanceMethod yJ0_length_8abf5, Cond.selects RJ0 yJ0_length_8abf5 yJ0_length_8abf5, Cond.initialized RJ0, Cond.code yJ0_length_8abf5 cJ0_length_8abf5 1 (some .int), Cond.fieldLink RJ0 9 "java/lang/String" "value" "[B", Cond.methodLink RJ0 335 yJ0_coder_7d493, Cond.instanceMethod yJ0_coder_7d493, Cond.selects RJ0 yJ0_coder_7d493 yJ0_coder_7d493, Cond.code yJ0_coder_7d493 cJ0_coder_7d493 1 (some .byte), Cond.fieldLink RJ0 38 "java/lang/String" "COMPACT_STRINGS" "Z", Cond.fieldLink RJ0 15 "java/lang/String" "coder" "B"]
def wsX10_readSign_r3 : List Cond := [Cond.methodLink RX10 126 yJ0_charAt_5068e, Cond.instanceMethod yJ0_charAt_5068e, Cond.selects RJ0 yJ0_charAt_5068e yJ0_charAt_5068e, Cond.code yJ0_charAt_5068e cJ0_charAt_5068e 2 (some .char), Cond.methodLink RJ0 492 yJ0_isLatin1_aae02, Cond.instanceMethod yJ0_isLatin1_aae02, Cond.selects RJ0 yJ0_isLatin1_aae02 yJ0_isLatin1_aae02, Cond.code yJ0_isLatin1_aae02 cJ0_isLatin1_aae02 1 (some .boolean), Cond.methodLink RJ0 495 yJ1_charAt_3b067, Cond.static yJ1_charAt_3b067, Cond.initialized RJ1, Cond.code yJ1_charAt_3b067 cJ1_charAt_3b067 2 (some .char), Cond.methodLink RJ1 9 yJ0_checkIndex_df160, Cond.static yJ0_checkIndex_df160, Cond.code yJ0_checkIndex_df160 cJ0_checkIndex_df160 2 none, Cond.fieldLink RJ0 1053 "jdk/internal/util/Preconditions" "SIOOBE_FORMATTER" "Ljava/util/function/BiFunction;", Cond.methodLink RJ0 1059 yJ3_checkIndex_8e157, Cond.static yJ3_checkIndex_8e157, Cond.initialized RJ3, Cond.code yJ3_checkIndex_8e157 cJ3_checkIndex_8e157 3 (some .int), Cond.methodLink RJ0 498 yJ2_charAt_3b067, Cond.static yJ2_charAt_3b067, Cond.initialized RJ2, Cond.code yJ2_charAt_3b067 cJ2_charAt_3b067 2 (some .char)]
def wsX10_readSign_r4 : List Cond := [Cond.methodLink RJ2 67 yJ2_checkIndex_2214a, Cond.static yJ2_checkIndex_2214a, Cond.code yJ2_checkIndex_2214a cJ2_checkIndex_2214a 2 none, Cond.methodLink RJ2 48 yJ2_length_9d52b, Cond.static yJ2_length_9d52b, Cond.code yJ2_length_9d52b cJ2_length_9d52b 1 (some .int), Cond.methodLink RJ2 414 yJ0_checkIndex_df160, Cond.methodLink RJ2 71 yJ2_getChar_3b067, Cond.static yJ2_getChar_3b067, Cond.code yJ2_getChar_3b067 cJ2_getChar_3b067 2 (some .char), Cond.fieldLink RJ2 44 "java/lang/StringUTF16" "$assertionsDisabled" "Z", Cond.fieldLink RJ2 59 "java/lang/StringUTF16" "HI_BYTE_SHIFT" "I", Cond.fieldLink RJ2 63 "java/lang/StringUTF16" "LO_BYTE_SHIFT" "I", Cond.methodLink RX10 162 yX10_isDigit, Cond.static yX10_isDigit, Cond.code yX10_isDigit cX10_isDigit 1 (some .boolean), Cond.methodLink RX10 209 yX10_isNamed, Cond.instanceMethod yX10_isNamed, Cond.selects RX10 yX10_isNamed yX10_isNamed, Cond.code yX10_isNamed cX10_isNamed 4 (some .boolean), Cond.methodLink RX10 213 yX10_readWord, Cond.instanceMethod yX10_readWord, Cond.selects RX10 yX10_readWord yX10_readWord, Cond.code yX10_readWord cX10_readWord 2 (some .boolean)]
def wsX10_readSign_r5 : List Cond := [Cond.methodLink RX10 184 yX10_isKey, Cond.instanceMethod yX10_isKey, Cond.selects RX10 yX10_isKey yX10_isKey, Cond.code yX10_isKey cX10_isKey 2 (some .boolean), Cond.methodLink RX10 216 yX10_readNumber, Cond.instanceMethod yX10_readNumber, Cond.selects RX10 yX10_readNumber yX10_readNumber, Cond.code yX10_readNumber cX10_readNumber 3 (some .boolean), Cond.methodLink RX10 174 yX10_in, Cond.static yX10_in, Cond.code yX10_in cX10_in 6 (some .boolean), Cond.methodLink RX10 220 yX10_readSemi, Cond.instanceMethod yX10_readSemi, Cond.selects RX10 yX10_readSemi yX10_readSemi, Cond.code yX10_readSemi cX10_readSemi 1 (some .boolean)]
def wsX10_readSign : List Cond := .code yX10_readSign cX10_readSign 2 (some .boolean) :: ((wsX10_readSign_r1 ++ (wsX10_readSign_r2 ++ (wsX10_readSign_r3 ++ (wsX10_readSign_r4 ++ wsX10_readSign_r5)))) ++ wsX100)
def wsX10_readWork_r1 : List Cond := [Cond.fieldLink RX10 17 "PaidBySignsModel" "num" "[I", Cond.fieldLink RX10 143 "PaidBySignsModel" "sort" "I", Cond.fieldLink RX10 25 "PaidBySignsModel" "workName" "[J", Cond.fieldLink RX10 150 "PaidBySignsModel" "word" "J", Cond.fieldLink RX10 31 "PaidBySignsModel" "costs" "[I", Cond.fieldLink RX10 178 "PaidBySignsModel" "got" "I", Cond.fieldLink RX10 165 "PaidBySignsModel" "number" "I", Cond.fieldLink RX10 34 "PaidBySignsModel" "chances" "[I", Cond.methodLink RX10 171 yX10_fails, Cond.instanceMethod yX10_fails, Cond.selects RX10 yX10_fails yX10_fails, Cond.initialized RX10, Cond.code yX10_fails cX10_fails 2 (some .boolean), Cond.fieldLink RX10 168 "PaidBySignsModel" "faultKind" "I", Cond.fieldLink RX10 137 "PaidBySignsModel" "at" "I", Cond.fieldLink RX10 13 "PaidBySignsModel" "faultPlace" "I", Cond.methodLink RX10 181 yX10_scan, Cond.instanceMethod yX10_scan, Cond.selects RX10 yX10_scan yX10_scan, Cond.code yX10_scan cX10_scan 4 none, Cond.fieldLink RX10 134 "PaidBySignsModel" "end" "I", Cond.fieldLink RX10 140 "PaidBySignsModel" "key" "I", Cond.constantLong RX10 154 (32), Cond.constantLong RX10 156 (97)]
def wsX10_readWork_r2 : List Cond := [Cond.methodLink RX10 130 yX10_byteAt, Cond.instanceMethod yX10_byteAt, Cond.selects RX10 yX10_byteAt yX10_byteAt, Cond.code yX10_byteAt cX10_byteAt 2 (some .int), Cond.fieldLink RX10 115 "PaidBySignsModel" "size" "I", Cond.fieldLink RX10 7 "PaidBySignsModel" "tape" "[B", Cond.methodLink RX10 146 yX10_isSmall, Cond.static yX10_isSmall, Cond.code yX10_isSmall cX10_isSmall 1 (some .boolean), Cond.methodLink RX10 158 yX10_keyAt, Cond.instanceMethod yX10_keyAt, Cond.selects RX10 yX10_keyAt yX10_keyAt, Cond.code yX10_keyAt cX10_keyAt 8 (some .int), Cond.methodLink RX10 120 yJ0_length_8abf5, Cond.instanceMethod yJ0_length_8abf5, Cond.selects RJ0 yJ0_length_8abf5 yJ0_length_8abf5, Cond.initialized RJ0, Cond.code yJ0_length_8abf5 cJ0_length_8abf5 1 (some .int), Cond.fieldLink RJ0 9 "java/lang/String" "value" "[B", Cond.methodLink RJ0 335 yJ0_coder_7d493, Cond.instanceMethod yJ0_coder_7d493, Cond.selects RJ0 yJ0_coder_7d493 yJ0_coder_7d493, Cond.code yJ0_coder_7d493 cJ0_coder_7d493 1 (some .byte), Cond.fieldLink RJ0 38 "java/lang/String" "COMPACT_STRINGS" "Z"]
def wsX10_readWork_r3 : List Cond := [Cond.fieldLink RJ0 15 "java/lang/String" "coder" "B", Cond.methodLink RX10 126 yJ0_charAt_5068e, Cond.instanceMethod yJ0_charAt_5068e, Cond.selects RJ0 yJ0_charAt_5068e yJ0_charAt_5068e, Cond.code yJ0_charAt_5068e cJ0_charAt_5068e 2 (some .char), Cond.methodLink RJ0 492 yJ0_isLatin1_aae02, Cond.instanceMethod yJ0_isLatin1_aae02, Cond.selects RJ0 yJ0_isLatin1_aae02 yJ0_isLatin1_aae02, Cond.code yJ0_isLatin1_aae02 cJ0_isLatin1_aae02 1 (some .boolean), Cond.methodLink RJ0 495 yJ1_charAt_3b067, Cond.static yJ1_charAt_3b067, Cond.initialized RJ1, Cond.code yJ1_charAt_3b067 cJ1_charAt_3b067 2 (some .char), Cond.methodLink RJ1 9 yJ0_checkIndex_df160, Cond.static yJ0_checkIndex_df160, Cond.code yJ0_checkIndex_df160 cJ0_checkIndex_df160 2 none, Cond.fieldLink RJ0 1053 "jdk/internal/util/Preconditions" "SIOOBE_FORMATTER" "Ljava/util/function/BiFunction;", Cond.methodLink RJ0 1059 yJ3_checkIndex_8e157, Cond.static yJ3_checkIndex_8e157, Cond.initialized RJ3, Cond.code yJ3_checkIndex_8e157 cJ3_checkIndex_8e157 3 (some .int), Cond.methodLink RJ0 498 yJ2_charAt_3b067, Cond.static yJ2_charAt_3b067, Cond.initialized RJ2]
def wsX10_readWork_r4 : List Cond := [Cond.code yJ2_charAt_3b067 cJ2_charAt_3b067 2 (some .char), Cond.methodLink RJ2 67 yJ2_checkIndex_2214a, Cond.static yJ2_checkIndex_2214a, Cond.code yJ2_checkIndex_2214a cJ2_checkIndex_2214a 2 none, Cond.methodLink RJ2 48 yJ2_length_9d52b, Cond.static yJ2_length_9d52b, Cond.code yJ2_length_9d52b cJ2_length_9d52b 1 (some .int), Cond.methodLink RJ2 414 yJ0_checkIndex_df160, Cond.methodLink RJ2 71 yJ2_getChar_3b067, Cond.static yJ2_getChar_3b067, Cond.code yJ2_getChar_3b067 cJ2_getChar_3b067 2 (some .char), Cond.fieldLink RJ2 44 "java/lang/StringUTF16" "$assertionsDisabled" "Z", Cond.fieldLink RJ2 59 "java/lang/StringUTF16" "HI_BYTE_SHIFT" "I", Cond.fieldLink RJ2 63 "java/lang/StringUTF16" "LO_BYTE_SHIFT" "I", Cond.methodLink RX10 162 yX10_isDigit, Cond.static yX10_isDigit, Cond.code yX10_isDigit cX10_isDigit 1 (some .boolean), Cond.methodLink RX10 209 yX10_isNamed, Cond.instanceMethod yX10_isNamed, Cond.selects RX10 yX10_isNamed yX10_isNamed, Cond.code yX10_isNamed cX10_isNamed 4 (some .boolean), Cond.methodLink RX10 213 yX10_readWord, Cond.instanceMethod yX10_readWord, Cond.selects RX10 yX10_readWord yX10_readWord]
def wsX10_readWork_r5 : List Cond := [Cond.code yX10_readWord cX10_readWord 2 (some .boolean), Cond.methodLink RX10 184 yX10_isKey, Cond.instanceMethod yX10_isKey, Cond.selects RX10 yX10_isKey yX10_isKey, Cond.code yX10_isKey cX10_isKey 2 (some .boolean), Cond.methodLink RX10 216 yX10_readNumber, Cond.instanceMethod yX10_readNumber, Cond.selects RX10 yX10_readNumber yX10_readNumber, Cond.code yX10_readNumber cX10_readNumber 3 (some .boolean), Cond.methodLink RX10 174 yX10_in, Cond.static yX10_in, Cond.code yX10_in cX10_in 6 (some .boolean), Cond.methodLink RX10 220 yX10_readSemi, Cond.instanceMethod yX10_readSemi, Cond.selects RX10 yX10_readSemi yX10_readSemi, Cond.code yX10_readSemi cX10_readSemi 1 (some .boolean)]
def wsX10_readWork : List Cond := .code yX10_readWork cX10_readWork 5 (some .boolean) :: ((wsX10_readWork_r1 ++ (wsX10_readWork_r2 ++ (wsX10_readWork_r3 ++ (wsX10_readWork_r4 ++ wsX10_readWork_r5)))) ++ wsX100)
theorem dX10_settle_0 : decode cX10_settle 0 = .ok (.iconst 0, 1) := by decide +kernel
theorem dX10_settle_1 : decode cX10_settle 1 = .ok (.istore_n 1, 1) := by decide +kernel
theorem dX10_settle_2 : decode cX10_settle 2 = .ok (.iload_n 1, 1) := by decide +kernel
theorem dX10_settle_3 : decode cX10_settle 3 = .ok (.bipush 6, 2) := by decide +kernel
theorem dX10_settle_5 : decode cX10_settle 5 = .ok (.if_icmp .ge 24, 3) := by decide +kernel
theorem dX10_settle_8 : decode cX10_settle 8 = .ok (.aload_n 0, 1) := by decide +kernel
theorem dX10_settle_9 : decode cX10_settle 9 = .ok (.getfield 17, 3) := by decide +kernel
theorem dX10_settle_12 : decode cX10_settle 12 = .ok (.iload_n 1, 1) := by decide +kernel
theorem dX10_settle_13 : decode cX10_settle 13 = .ok (.aload_n 0, 1) := by decide +kernel
theorem dX10_settle_14 : decode cX10_settle 14 = .ok (.getfield 17, 3) := by decide +kernel
theorem dX10_settle_17 : decode cX10_settle 17 = .ok (.bipush 6, 2) := by decide +kernel
theorem dX10_settle_19 : decode cX10_settle 19 = .ok (.iload_n 1, 1) := by decide +kernel
theorem dX10_settle_20 : decode cX10_settle 20 = .ok (.iadd, 1) := by decide +kernel
theorem dX10_settle_21 : decode cX10_settle 21 = .ok (.iaload, 1) := by decide +kernel
theorem dX10_settle_22 : decode cX10_settle 22 = .ok (.iastore, 1) := by decide +kernel
theorem dX10_settle_23 : decode cX10_settle 23 = .ok (.iinc 1 1, 3) := by decide +kernel
theorem dX10_settle_26 : decode cX10_settle 26 = .ok (.goto (-24), 3) := by decide +kernel
theorem dX10_settle_29 : decode cX10_settle 29 = .ok (.iconst 0, 1) := by decide +kernel
theorem dX10_settle_30 : decode cX10_settle 30 = .ok (.istore_n 1, 1) := by decide +kernel
theorem dX10_settle_31 : decode cX10_settle 31 = .ok (.iload_n 1, 1) := by decide +kernel
theorem dX10_settle_32 : decode cX10_settle 32 = .ok (.iconst 4, 1) := by decide +kernel
theorem dX10_settle_33 : decode cX10_settle 33 = .ok (.if_icmp .ge 23, 3) := by decide +kernel
theorem dX10_settle_36 : decode cX10_settle 36 = .ok (.aload_n 0, 1) := by decide +kernel
theorem dX10_settle_37 : decode cX10_settle 37 = .ok (.getfield 28, 3) := by decide +kernel
theorem dX10_settle_40 : decode cX10_settle 40 = .ok (.iload_n 1, 1) := by decide +kernel
theorem dX10_settle_41 : decode cX10_settle 41 = .ok (.aload_n 0, 1) := by decide +kernel
theorem dX10_settle_42 : decode cX10_settle 42 = .ok (.getfield 28, 3) := by decide +kernel
theorem dX10_settle_45 : decode cX10_settle 45 = .ok (.iconst 4, 1) := by decide +kernel
theorem dX10_settle_46 : decode cX10_settle 46 = .ok (.iload_n 1, 1) := by decide +kernel
theorem dX10_settle_47 : decode cX10_settle 47 = .ok (.iadd, 1) := by decide +kernel
theorem dX10_settle_48 : decode cX10_settle 48 = .ok (.iaload, 1) := by decide +kernel
theorem dX10_settle_49 : decode cX10_settle 49 = .ok (.iastore, 1) := by decide +kernel
theorem dX10_settle_50 : decode cX10_settle 50 = .ok (.iinc 1 1, 3) := by decide +kernel
theorem dX10_settle_53 : decode cX10_settle 53 = .ok (.goto (-22), 3) := by decide +kernel
theorem dX10_settle_56 : decode cX10_settle 56 = .ok (.iconst 0, 1) := by decide +kernel
theorem dX10_settle_57 : decode cX10_settle 57 = .ok (.istore_n 1, 1) := by decide +kernel
theorem dX10_settle_58 : decode cX10_settle 58 = .ok (.iload_n 1, 1) := by decide +kernel
theorem dX10_settle_59 : decode cX10_settle 59 = .ok (.iconst 5, 1) := by decide +kernel
theorem dX10_settle_60 : decode cX10_settle 60 = .ok (.if_icmp .ge 23, 3) := by decide +kernel
theorem dX10_settle_63 : decode cX10_settle 63 = .ok (.aload_n 0, 1) := by decide +kernel
theorem dX10_settle_64 : decode cX10_settle 64 = .ok (.getfield 31, 3) := by decide +kernel
theorem dX10_settle_67 : decode cX10_settle 67 = .ok (.iload_n 1, 1) := by decide +kernel
theorem dX10_settle_68 : decode cX10_settle 68 = .ok (.aload_n 0, 1) := by decide +kernel
theorem dX10_settle_69 : decode cX10_settle 69 = .ok (.getfield 31, 3) := by decide +kernel
theorem dX10_settle_72 : decode cX10_settle 72 = .ok (.iconst 5, 1) := by decide +kernel
theorem dX10_settle_73 : decode cX10_settle 73 = .ok (.iload_n 1, 1) := by decide +kernel
theorem dX10_settle_74 : decode cX10_settle 74 = .ok (.iadd, 1) := by decide +kernel
theorem dX10_settle_75 : decode cX10_settle 75 = .ok (.iaload, 1) := by decide +kernel
theorem dX10_settle_76 : decode cX10_settle 76 = .ok (.iastore, 1) := by decide +kernel
theorem dX10_settle_77 : decode cX10_settle 77 = .ok (.iinc 1 1, 3) := by decide +kernel
theorem dX10_settle_80 : decode cX10_settle 80 = .ok (.goto (-22), 3) := by decide +kernel
theorem dX10_settle_83 : decode cX10_settle 83 = .ok (.iconst 0, 1) := by decide +kernel
theorem dX10_settle_84 : decode cX10_settle 84 = .ok (.istore_n 1, 1) := by decide +kernel
theorem dX10_settle_85 : decode cX10_settle 85 = .ok (.iload_n 1, 1) := by decide +kernel
theorem dX10_settle_86 : decode cX10_settle 86 = .ok (.bipush 20, 2) := by decide +kernel
theorem dX10_settle_88 : decode cX10_settle 88 = .ok (.if_icmp .ge 24, 3) := by decide +kernel
theorem dX10_settle_91 : decode cX10_settle 91 = .ok (.aload_n 0, 1) := by decide +kernel
theorem dX10_settle_92 : decode cX10_settle 92 = .ok (.getfield 34, 3) := by decide +kernel
theorem dX10_settle_95 : decode cX10_settle 95 = .ok (.iload_n 1, 1) := by decide +kernel
theorem dX10_settle_96 : decode cX10_settle 96 = .ok (.aload_n 0, 1) := by decide +kernel
theorem dX10_settle_97 : decode cX10_settle 97 = .ok (.getfield 34, 3) := by decide +kernel
theorem dX10_settle_100 : decode cX10_settle 100 = .ok (.bipush 20, 2) := by decide +kernel
theorem dX10_settle_102 : decode cX10_settle 102 = .ok (.iload_n 1, 1) := by decide +kernel
theorem dX10_settle_103 : decode cX10_settle 103 = .ok (.iadd, 1) := by decide +kernel
theorem dX10_settle_104 : decode cX10_settle 104 = .ok (.iaload, 1) := by decide +kernel
theorem dX10_settle_105 : decode cX10_settle 105 = .ok (.iastore, 1) := by decide +kernel
theorem dX10_settle_106 : decode cX10_settle 106 = .ok (.iinc 1 1, 3) := by decide +kernel
theorem dX10_settle_109 : decode cX10_settle 109 = .ok (.goto (-24), 3) := by decide +kernel
theorem dX10_settle_112 : decode cX10_settle 112 = .ok (.iconst 0, 1) := by decide +kernel
theorem dX10_settle_113 : decode cX10_settle 113 = .ok (.istore_n 1, 1) := by decide +kernel
theorem dX10_settle_114 : decode cX10_settle 114 = .ok (.iload_n 1, 1) := by decide +kernel
theorem dX10_settle_115 : decode cX10_settle 115 = .ok (.iconst 3, 1) := by decide +kernel
theorem dX10_settle_116 : decode cX10_settle 116 = .ok (.if_icmp .ge 23, 3) := by decide +kernel
theorem dX10_settle_119 : decode cX10_settle 119 = .ok (.aload_n 0, 1) := by decide +kernel
theorem dX10_settle_120 : decode cX10_settle 120 = .ok (.getfield 37, 3) := by decide +kernel
theorem dX10_settle_123 : decode cX10_settle 123 = .ok (.iload_n 1, 1) := by decide +kernel
theorem dX10_settle_124 : decode cX10_settle 124 = .ok (.aload_n 0, 1) := by decide +kernel
theorem dX10_settle_125 : decode cX10_settle 125 = .ok (.getfield 37, 3) := by decide +kernel
theorem dX10_settle_128 : decode cX10_settle 128 = .ok (.iconst 3, 1) := by decide +kernel
theorem dX10_settle_129 : decode cX10_settle 129 = .ok (.iload_n 1, 1) := by decide +kernel
theorem dX10_settle_130 : decode cX10_settle 130 = .ok (.iadd, 1) := by decide +kernel
theorem dX10_settle_131 : decode cX10_settle 131 = .ok (.iaload, 1) := by decide +kernel
theorem dX10_settle_132 : decode cX10_settle 132 = .ok (.iastore, 1) := by decide +kernel
theorem dX10_settle_133 : decode cX10_settle 133 = .ok (.iinc 1 1, 3) := by decide +kernel
theorem dX10_settle_136 : decode cX10_settle 136 = .ok (.goto (-22), 3) := by decide +kernel
theorem dX10_settle_139 : decode cX10_settle 139 = .ok (.iconst 0, 1) := by decide +kernel
theorem dX10_settle_140 : decode cX10_settle 140 = .ok (.istore_n 1, 1) := by decide +kernel
theorem dX10_settle_141 : decode cX10_settle 141 = .ok (.iload_n 1, 1) := by decide +kernel
theorem dX10_settle_142 : decode cX10_settle 142 = .ok (.iconst 2, 1) := by decide +kernel
theorem dX10_settle_143 : decode cX10_settle 143 = .ok (.if_icmp .ge 23, 3) := by decide +kernel
theorem dX10_settle_146 : decode cX10_settle 146 = .ok (.aload_n 0, 1) := by decide +kernel
theorem dX10_settle_147 : decode cX10_settle 147 = .ok (.getfield 40, 3) := by decide +kernel
theorem dX10_settle_150 : decode cX10_settle 150 = .ok (.iload_n 1, 1) := by decide +kernel
theorem dX10_settle_151 : decode cX10_settle 151 = .ok (.aload_n 0, 1) := by decide +kernel
theorem dX10_settle_152 : decode cX10_settle 152 = .ok (.getfield 40, 3) := by decide +kernel
theorem dX10_settle_155 : decode cX10_settle 155 = .ok (.iconst 2, 1) := by decide +kernel
theorem dX10_settle_156 : decode cX10_settle 156 = .ok (.iload_n 1, 1) := by decide +kernel
theorem dX10_settle_157 : decode cX10_settle 157 = .ok (.iadd, 1) := by decide +kernel
theorem dX10_settle_158 : decode cX10_settle 158 = .ok (.iaload, 1) := by decide +kernel
theorem dX10_settle_159 : decode cX10_settle 159 = .ok (.iastore, 1) := by decide +kernel
theorem dX10_settle_160 : decode cX10_settle 160 = .ok (.iinc 1 1, 3) := by decide +kernel
theorem dX10_settle_163 : decode cX10_settle 163 = .ok (.goto (-22), 3) := by decide +kernel
theorem dX10_settle_166 : decode cX10_settle 166 = .ok (.iconst 0, 1) := by decide +kernel
theorem dX10_settle_167 : decode cX10_settle 167 = .ok (.istore_n 1, 1) := by decide +kernel
theorem dX10_settle_168 : decode cX10_settle 168 = .ok (.iload_n 1, 1) := by decide +kernel
theorem dX10_settle_169 : decode cX10_settle 169 = .ok (.iconst 4, 1) := by decide +kernel
theorem dX10_settle_170 : decode cX10_settle 170 = .ok (.if_icmp .ge 21, 3) := by decide +kernel
theorem dX10_settle_173 : decode cX10_settle 173 = .ok (.aload_n 0, 1) := by decide +kernel
theorem dX10_settle_174 : decode cX10_settle 174 = .ok (.getfield 43, 3) := by decide +kernel
theorem dX10_settle_177 : decode cX10_settle 177 = .ok (.iload_n 1, 1) := by decide +kernel
theorem dX10_settle_178 : decode cX10_settle 178 = .ok (.aload_n 0, 1) := by decide +kernel
theorem dX10_settle_179 : decode cX10_settle 179 = .ok (.getfield 17, 3) := by decide +kernel
theorem dX10_settle_182 : decode cX10_settle 182 = .ok (.iconst 2, 1) := by decide +kernel
theorem dX10_settle_183 : decode cX10_settle 183 = .ok (.iaload, 1) := by decide +kernel
theorem dX10_settle_184 : decode cX10_settle 184 = .ok (.iastore, 1) := by decide +kernel
theorem dX10_settle_185 : decode cX10_settle 185 = .ok (.iinc 1 1, 3) := by decide +kernel
theorem dX10_settle_188 : decode cX10_settle 188 = .ok (.goto (-20), 3) := by decide +kernel
theorem dX10_settle_191 : decode cX10_settle 191 = .ok (.iconst 0, 1) := by decide +kernel
theorem dX10_settle_192 : decode cX10_settle 192 = .ok (.istore_n 1, 1) := by decide +kernel
theorem dX10_settle_193 : decode cX10_settle 193 = .ok (.iload_n 1, 1) := by decide +kernel
theorem dX10_settle_194 : decode cX10_settle 194 = .ok (.iconst 5, 1) := by decide +kernel
theorem dX10_settle_195 : decode cX10_settle 195 = .ok (.if_icmp .gt 16, 3) := by decide +kernel
theorem dX10_settle_198 : decode cX10_settle 198 = .ok (.aload_n 0, 1) := by decide +kernel
theorem dX10_settle_199 : decode cX10_settle 199 = .ok (.getfield 85, 3) := by decide +kernel
theorem dX10_settle_202 : decode cX10_settle 202 = .ok (.iload_n 1, 1) := by decide +kernel
theorem dX10_settle_203 : decode cX10_settle 203 = .ok (.iconst 0, 1) := by decide +kernel
theorem dX10_settle_204 : decode cX10_settle 204 = .ok (.iastore, 1) := by decide +kernel
theorem dX10_settle_205 : decode cX10_settle 205 = .ok (.iinc 1 1, 3) := by decide +kernel
theorem dX10_settle_208 : decode cX10_settle 208 = .ok (.goto (-15), 3) := by decide +kernel
theorem dX10_settle_211 : decode cX10_settle 211 = .ok (.iconst 0, 1) := by decide +kernel
theorem dX10_settle_212 : decode cX10_settle 212 = .ok (.istore_n 1, 1) := by decide +kernel
theorem dX10_settle_213 : decode cX10_settle 213 = .ok (.iload_n 1, 1) := by decide +kernel
theorem dX10_settle_214 : decode cX10_settle 214 = .ok (.iconst 5, 1) := by decide +kernel
theorem dX10_settle_215 : decode cX10_settle 215 = .ok (.if_icmp .ge 16, 3) := by decide +kernel
theorem dX10_settle_218 : decode cX10_settle 218 = .ok (.aload_n 0, 1) := by decide +kernel
theorem dX10_settle_219 : decode cX10_settle 219 = .ok (.getfield 88, 3) := by decide +kernel
theorem dX10_settle_222 : decode cX10_settle 222 = .ok (.iload_n 1, 1) := by decide +kernel
theorem dX10_settle_223 : decode cX10_settle 223 = .ok (.iconst 0, 1) := by decide +kernel
theorem dX10_settle_224 : decode cX10_settle 224 = .ok (.iastore, 1) := by decide +kernel
theorem dX10_settle_225 : decode cX10_settle 225 = .ok (.iinc 1 1, 3) := by decide +kernel
theorem dX10_settle_228 : decode cX10_settle 228 = .ok (.goto (-15), 3) := by decide +kernel
theorem dX10_settle_231 : decode cX10_settle 231 = .ok (.aload_n 0, 1) := by decide +kernel
theorem dX10_settle_232 : decode cX10_settle 232 = .ok (.iconst 1, 1) := by decide +kernel
theorem dX10_settle_233 : decode cX10_settle 233 = .ok (.putfield 190, 3) := by decide +kernel
theorem dX10_settle_236 : decode cX10_settle 236 = .ok (.aload_n 0, 1) := by decide +kernel
theorem dX10_settle_237 : decode cX10_settle 237 = .ok (.iconst 0, 1) := by decide +kernel
theorem dX10_settle_238 : decode cX10_settle 238 = .ok (.putfield 193, 3) := by decide +kernel
theorem dX10_settle_241 : decode cX10_settle 241 = .ok (.aload_n 0, 1) := by decide +kernel
theorem dX10_settle_242 : decode cX10_settle 242 = .ok (.iconst 0, 1) := by decide +kernel
theorem dX10_settle_243 : decode cX10_settle 243 = .ok (.putfield 196, 3) := by decide +kernel
theorem dX10_settle_246 : decode cX10_settle 246 = .ok (.aload_n 0, 1) := by decide +kernel
theorem dX10_settle_247 : decode cX10_settle 247 = .ok (.iconst 0, 1) := by decide +kernel
theorem dX10_settle_248 : decode cX10_settle 248 = .ok (.putfield 199, 3) := by decide +kernel
theorem dX10_settle_251 : decode cX10_settle 251 = .ok (.aload_n 0, 1) := by decide +kernel
theorem dX10_settle_252 : decode cX10_settle 252 = .ok (.iconst 0, 1) := by decide +kernel
theorem dX10_settle_253 : decode cX10_settle 253 = .ok (.putfield 202, 3) := by decide +kernel
theorem dX10_settle_256 : decode cX10_settle 256 = .ok (.aload_n 0, 1) := by decide +kernel
theorem dX10_settle_257 : decode cX10_settle 257 = .ok (.iconst 0, 1) := by decide +kernel
theorem dX10_settle_258 : decode cX10_settle 258 = .ok (.putfield 206, 3) := by decide +kernel
theorem dX10_settle_261 : decode cX10_settle 261 = .ok (.return_, 1) := by decide +kernel
theorem dX10_isNamed_0 : decode cX10_isNamed 0 = .ok (.iconst 0, 1) := by decide +kernel
theorem dX10_isNamed_1 : decode cX10_isNamed 1 = .ok (.istore_n 3, 1) := by decide +kernel
theorem dX10_isNamed_2 : decode cX10_isNamed 2 = .ok (.iload_n 3, 1) := by decide +kernel
theorem dX10_isNamed_3 : decode cX10_isNamed 3 = .ok (.iload_n 2, 1) := by decide +kernel
theorem dX10_isNamed_4 : decode cX10_isNamed 4 = .ok (.if_icmp .ge 22, 3) := by decide +kernel
theorem dX10_isNamed_7 : decode cX10_isNamed 7 = .ok (.aload_n 1, 1) := by decide +kernel
theorem dX10_isNamed_8 : decode cX10_isNamed 8 = .ok (.iload_n 3, 1) := by decide +kernel
theorem dX10_isNamed_9 : decode cX10_isNamed 9 = .ok (.laload, 1) := by decide +kernel
theorem dX10_isNamed_10 : decode cX10_isNamed 10 = .ok (.aload_n 0, 1) := by decide +kernel
theorem dX10_isNamed_11 : decode cX10_isNamed 11 = .ok (.getfield 150, 3) := by decide +kernel
theorem dX10_isNamed_14 : decode cX10_isNamed 14 = .ok (.lcmp, 1) := by decide +kernel
theorem dX10_isNamed_15 : decode cX10_isNamed 15 = .ok (.ifCond .ne 5, 3) := by decide +kernel
theorem dX10_isNamed_18 : decode cX10_isNamed 18 = .ok (.iconst 1, 1) := by decide +kernel
theorem dX10_isNamed_19 : decode cX10_isNamed 19 = .ok (.ireturn, 1) := by decide +kernel
theorem dX10_isNamed_20 : decode cX10_isNamed 20 = .ok (.iinc 3 1, 3) := by decide +kernel
theorem dX10_isNamed_23 : decode cX10_isNamed 23 = .ok (.goto (-21), 3) := by decide +kernel
theorem dX10_isNamed_26 : decode cX10_isNamed 26 = .ok (.iconst 0, 1) := by decide +kernel
theorem dX10_isNamed_27 : decode cX10_isNamed 27 = .ok (.ireturn, 1) := by decide +kernel
theorem pm_X10_readSign_r1 : ∀ w ∈ wsX10_readSign_r1, w ∈ wsX10_readSign := fun _ h => List.mem_cons_of_mem _ (List.mem_append_left _ (List.mem_append_left _ h))
theorem pm_X10_readSign_r2 : ∀ w ∈ wsX10_readSign_r2, w ∈ wsX10_readSign := fun _ h => List.mem_cons_of_mem _ (List.mem_append_left _ (List.mem_append_right _ (List.mem_append_left _ h)))
theorem pm_X10_readSign_r3 : ∀ w ∈ wsX10_readSign_r3, w ∈ wsX10_readSign := fun _ h => List.mem_cons_of_mem _ (List.mem_append_left _ (List.mem_append_right _ (List.mem_append_right _ (List.mem_append_left _ h))))
theorem pm_X10_readSign_r4 : ∀ w ∈ wsX10_readSign_r4, w ∈ wsX10_readSign := fun _ h => List.mem_cons_of_mem _ (List.mem_append_left _ (List.mem_append_right _ (List.mem_append_right _ (List.mem_append_right _ (List.mem_append_left _ h)))))
theorem pm_X10_readSign_r5 : ∀ w ∈ wsX10_readSign_r5, w ∈ wsX10_readSign := fun _ h => List.mem_cons_of_mem _ (List.mem_append_left _ (List.mem_append_right _ (List.mem_append_right _ (List.mem_append_right _ (List.mem_append_right _ (h))))))
theorem pw_X10_readSign_X10 : ∀ w ∈ wsX100, w ∈ wsX10_readSign := fun _ h => List.mem_cons_of_mem _ (List.mem_append_right _ h)
set_option maxRecDepth 20000 in
theorem ggX10_readSign_X10_fails : GoodIn wsX10_readSign wsX10_fails := goodIn_sub (List.forall_mem_cons.mpr ⟨pm_X10_readSign_r1 _ (List.mem_of_getElem? (i := 10) rfl), List.forall_mem_append.mpr ⟨List.forall_mem_cons.mpr ⟨pm_X10_readSign_r1 _ (List.mem_of_getElem? (i := 11) rfl), List.forall_mem_cons.mpr ⟨pm_X10_readSign_r1 _ (List.mem_of_getElem? (i := 12) rfl), List.forall_mem_cons.mpr ⟨pm_X10_readSign_r1 _ (List.mem_of_getElem? (i := 13) rfl), fun _ h => absurd h List.not_mem_nil⟩⟩⟩, pw_X10_readSign_X10⟩⟩) (by decide +kernel)
set_option maxRecDepth 20000 in
theorem gX10_readSign_X10_fails : GoodIn wsX10_readSign (wsV RX10 171 RX10 yX10_fails wsX10_fails) := goodIn_app (goodIn_of _ (by decide +kernel)) ggX10_readSign_X10_fails
set_option maxRecDepth 20000 in
theorem pq_X10_readSign_X10_scan_r1 : ∀ w ∈ wsX10_scan_r1, w ∈ wsX10_readSign := List.forall_mem_cons.mpr ⟨pm_X10_readSign_r1 _ (List.mem_of_getElem? (i := 18) rfl), List.forall_mem_cons.mpr ⟨pm_X10_readSign_r1 _ (List.mem_of_getElem? (i := 12) rfl), List.forall_mem_cons.mpr ⟨pm_X10_readSign_r1 _ (List.mem_of_getElem? (i := 19) rfl), List.forall_mem_cons.mpr ⟨pm_X10_readSign_r1 _ (List.mem_of_getElem? (i := 1) rfl), List.forall_mem_cons.mpr ⟨pm_X10_readSign_r1 _ (List.mem_of_getElem? (i := 3) rfl), List.forall_mem_cons.mpr ⟨pm_X10_readSign_r1 _ (List.mem_of_getElem? (i := 20) rfl), List.forall_mem_cons.mpr ⟨pm_X10_readSign_r1 _ (List.mem_of_getElem? (i := 21) rfl), List.forall_mem_cons.mpr ⟨pm_X10_readSign_r1 _ (List.mem_of_getElem? (i := 22) rfl), List.forall_mem_cons.mpr ⟨pm_X10_readSign_r1 _ (List.mem_of_getElem? (i := 23) rfl), List.forall_mem_cons.mpr ⟨pm_X10_readSign_r2 _ (List.mem_of_getElem? (i := 0) rfl), List.forall_mem_cons.mpr ⟨pm_X10_readSign_r2 _ (List.mem_of_getElem? (i := 1) rfl), List.forall_mem_cons.mpr ⟨pm_X10_readSign_r1 _ (List.mem_of_getElem? (i := 9) rfl), List.forall_mem_cons.mpr ⟨pm_X10_readSign_r2 _ (List.mem_of_getElem? (i := 2) rfl), List.forall_mem_cons.mpr ⟨pm_X10_readSign_r2 _ (List.mem_of_getElem? (i := 3) rfl), List.forall_mem_cons.mpr ⟨pm_X10_readSign_r2 _ (List.mem_of_getElem? (i := 4) rfl), List.forall_mem_cons.mpr ⟨pm_X10_readSign_r2 _ (List.mem_of_getElem? (i := 5) rfl), List.forall_mem_cons.mpr ⟨pm_X10_readSign_r2 _ (List.mem_of_getElem? (i := 6) rfl), List.forall_mem_cons.mpr ⟨pm_X10_readSign_r2 _ (List.mem_of_getElem? (i := 7) rfl), List.forall_mem_cons.mpr ⟨pm_X10_readSign_r2 _ (List.mem_of_getElem? (i := 8) rfl), List.forall_mem_cons.mpr ⟨pm_X10_readSign_r2 _ (List.mem_of_getElem? (i := 9) rfl), List.forall_mem_cons.mpr ⟨pm_X10_readSign_r2 _ (List.mem_of_getElem? (i := 10) rfl), List.forall_mem_cons.mpr ⟨pm_X10_readSign_r2 _ (List.mem_of_getElem? (i := 11) rfl), List.forall_mem_cons.mpr ⟨pm_X10_readSign_r2 _ (List.mem_of_getElem? (i := 12) rfl), List.forall_mem_cons.mpr ⟨pm_X10_readSign_r2 _ (List.mem_of_getElem? (i := 13) rfl), fun _ h => absurd h List.not_mem_nil⟩⟩⟩⟩⟩⟩⟩⟩⟩⟩⟩⟩⟩⟩⟩⟩⟩⟩⟩⟩⟩⟩⟩⟩
set_option maxRecDepth 20000 in
theorem pq_X10_readSign_X10_scan_r2 : ∀ w ∈ wsX10_scan_r2, w ∈ wsX10_readSign := List.forall_mem_cons.mpr ⟨pm_X10_readSign_r2 _ (List.mem_of_getElem? (i := 14) rfl), List.forall_mem_cons.mpr ⟨pm_X10_readSign_r2 _ (List.mem_of_getElem? (i := 15) rfl), List.forall_mem_cons.mpr ⟨pm_X10_readSign_r2 _ (List.mem_of_getElem? (i := 16) rfl), List.forall_mem_cons.mpr ⟨pm_X10_readSign_r2 _ (List.mem_of_getElem? (i := 17) rfl), List.forall_mem_cons.mpr ⟨pm_X10_readSign_r2 _ (List.mem_of_getElem? (i := 18) rfl), List.forall_mem_cons.mpr ⟨pm_X10_readSign_r2 _ (List.mem_of_getElem? (i := 19) rfl), List.forall_mem_cons.mpr ⟨pm_X10_readSign_r2 _ (List.mem_of_getElem? (i := 20) rfl), List.forall_mem_cons.mpr ⟨pm_X10_readSign_r2 _ (List.mem_of_getElem? (i := 21) rfl), List.forall_mem_cons.mpr ⟨pm_X10_readSign_r2 _ (List.mem_of_getElem? (i := 22) rfl), List.forall_mem_cons.mpr ⟨pm_X10_readSign_r2 _ (List.mem_of_getElem? (i := 23) rfl), List.forall_mem_cons.mpr ⟨pm_X10_readSign_r3 _ (List.mem_of_getElem? (i := 0) rfl), List.forall_mem_cons.mpr ⟨pm_X10_readSign_r3 _ (List.mem_of_getElem? (i := 1) rfl), List.forall_mem_cons.mpr ⟨pm_X10_readSign_r3 _ (List.mem_of_getElem? (i := 2) rfl), List.forall_mem_cons.mpr ⟨pm_X10_readSign_r3 _ (List.mem_of_getElem? (i := 3) rfl), List.forall_mem_cons.mpr ⟨pm_X10_readSign_r3 _ (List.mem_of_getElem? (i := 4) rfl), List.forall_mem_cons.mpr ⟨pm_X10_readSign_r3 _ (List.mem_of_getElem? (i := 5) rfl), List.forall_mem_cons.mpr ⟨pm_X10_readSign_r3 _ (List.mem_of_getElem? (i := 6) rfl), List.forall_mem_cons.mpr ⟨pm_X10_readSign_r3 _ (List.mem_of_getElem? (i := 7) rfl), List.forall_mem_cons.mpr ⟨pm_X10_readSign_r3 _ (List.mem_of_getElem? (i := 8) rfl), List.forall_mem_cons.mpr ⟨pm_X10_readSign_r3 _ (List.mem_of_getElem? (i := 9) rfl), List.forall_mem_cons.mpr ⟨pm_X10_readSign_r3 _ (List.mem_of_getElem? (i := 10) rfl), List.forall_mem_cons.mpr ⟨pm_X10_readSign_r3 _ (List.mem_of_getElem? (i := 11) rfl), List.forall_mem_cons.mpr ⟨pm_X10_readSign_r3 _ (List.mem_of_getElem? (i := 12) rfl), List.forall_mem_cons.mpr ⟨pm_X10_readSign_r3 _ (List.mem_of_getElem? (i := 13) rfl), fun _ h => absurd h List.not_mem_nil⟩⟩⟩⟩⟩⟩⟩⟩⟩⟩⟩⟩⟩⟩⟩⟩⟩⟩⟩⟩⟩⟩⟩⟩
set_option maxRecDepth 20000 in
theorem pq_X10_readSign_X10_scan_r3 : ∀ w ∈ wsX10_scan_r3, w ∈ wsX10_readSign := List.forall_mem_cons.mpr ⟨pm_X10_readSign_r3 _ (List.mem_of_getElem? (i := 14) rfl), List.forall_mem_cons.mpr ⟨pm_X10_readSign_r3 _ (List.mem_of_getElem? (i := 15) rfl), List.forall_mem_cons.mpr ⟨pm_X10_readSign_r3 _ (List.mem_of_getElem? (i := 16) rfl), List.forall_mem_cons.mpr ⟨pm_X10_readSign_r3 _ (List.mem_of_getElem? (i := 17) rfl), List.forall_mem_cons.mpr ⟨pm_X10_readSign_r3 _ (List.mem_of_getElem? (i := 18) rfl), List.forall_mem_cons.mpr ⟨pm_X10_readSign_r3 _ (List.mem_of_getElem? (i := 19) rfl), List.forall_mem_cons.mpr ⟨pm_X10_readSign_r3 _ (List.mem_of_getElem? (i := 20) rfl), List.forall_mem_cons.mpr ⟨pm_X10_readSign_r3 _ (List.mem_of_getElem? (i := 21) rfl), List.forall_mem_cons.mpr ⟨pm_X10_readSign_r3 _ (List.mem_of_getElem? (i := 22) rfl), List.forall_mem_cons.mpr ⟨pm_X10_readSign_r3 _ (List.mem_of_getElem? (i := 23) rfl), List.forall_mem_cons.mpr ⟨pm_X10_readSign_r4 _ (List.mem_of_getElem? (i := 0) rfl), List.forall_mem_cons.mpr ⟨pm_X10_readSign_r4 _ (List.mem_of_getElem? (i := 1) rfl), List.forall_mem_cons.mpr ⟨pm_X10_readSign_r4 _ (List.mem_of_getElem? (i := 2) rfl), List.forall_mem_cons.mpr ⟨pm_X10_readSign_r4 _ (List.mem_of_getElem? (i := 3) rfl), List.forall_mem_cons.mpr ⟨pm_X10_readSign_r4 _ (List.mem_of_getElem? (i := 4) rfl), List.forall_mem_cons.mpr ⟨pm_X10_readSign_r4 _ (List.mem_of_getElem? (i := 5) rfl), List.forall_mem_cons.mpr ⟨pm_X10_readSign_r4 _ (List.mem_of_getElem? (i := 6) rfl), List.forall_mem_cons.mpr ⟨pm_X10_readSign_r4 _ (List.mem_of_getElem? (i := 7) rfl), List.forall_mem_cons.mpr ⟨pm_X10_readSign_r4 _ (List.mem_of_getElem? (i := 8) rfl), List.forall_mem_cons.mpr ⟨pm_X10_readSign_r4 _ (List.mem_of_getElem? (i := 9) rfl), List.forall_mem_cons.mpr ⟨pm_X10_readSign_r4 _ (List.mem_of_getElem? (i := 10) rfl), List.forall_mem_cons.mpr ⟨pm_X10_readSign_r4 _ (List.mem_of_getElem? (i := 11) rfl), List.forall_mem_cons.mpr ⟨pm_X10_readSign_r4 _ (List.mem_of_getElem? (i := 12) rfl), List.forall_mem_cons.mpr ⟨pm_X10_readSign_r4 _ (List.mem_of_getElem? (i := 13) rfl), fun _ h => absurd h List.not_mem_nil⟩⟩⟩⟩⟩⟩⟩⟩⟩⟩⟩⟩⟩⟩⟩⟩⟩⟩⟩⟩⟩⟩⟩⟩
set_option maxRecDepth 20000 in
theorem pq_X10_readSign_X10_scan_r4 : ∀ w ∈ wsX10_scan_r4, w ∈ wsX10_readSign := List.forall_mem_cons.mpr ⟨pm_X10_readSign_r4 _ (List.mem_of_getElem? (i := 14) rfl), List.forall_mem_cons.mpr ⟨pm_X10_readSign_r4 _ (List.mem_of_getElem? (i := 15) rfl), fun _ h => absurd h List.not_mem_nil⟩⟩
set_option maxRecDepth 20000 in
theorem ggX10_readSign_X10_scan : GoodIn wsX10_readSign wsX10_scan := goodIn_sub (List.forall_mem_cons.mpr ⟨pm_X10_readSign_r1 _ (List.mem_of_getElem? (i := 17) rfl), List.forall_mem_append.mpr ⟨List.forall_mem_append.mpr ⟨pq_X10_readSign_X10_scan_r1, List.forall_mem_append.mpr ⟨pq_X10_readSign_X10_scan_r2, List.forall_mem_append.mpr ⟨pq_X10_readSign_X10_scan_r3, pq_X10_readSign_X10_scan_r4⟩⟩⟩, pw_X10_readSign_X10⟩⟩) (by decide +kernel)
set_option maxRecDepth 20000 in
theorem gX10_readSign_X10_scan : GoodIn wsX10_readSign (wsV RX10 181 RX10 yX10_scan wsX10_scan) := goodIn_app (goodIn_of _ (by decide +kernel)) ggX10_readSign_X10_scan
set_option maxRecDepth 20000 in
theorem ggX10_readSign_X10_isNamed : GoodIn wsX10_readSign wsX10_isNamed := goodIn_sub (List.forall_mem_cons.mpr ⟨pm_X10_readSign_r4 _ (List.mem_of_getElem? (i := 19) rfl), List.forall_mem_append.mpr ⟨List.forall_mem_cons.mpr ⟨pm_X10_readSign_r1 _ (List.mem_of_getElem? (i := 3) rfl), fun _ h => absurd h List.not_mem_nil⟩, pw_X10_readSign_X10⟩⟩) (by decide +kernel)
set_option maxRecDepth 20000 in
theorem gX10_readSign_X10_isNamed : GoodIn wsX10_readSign (wsV RX10 209 RX10 yX10_isNamed wsX10_isNamed) := goodIn_app (goodIn_of _ (by decide +kernel)) ggX10_readSign_X10_isNamed
set_option maxRecDepth 20000 in
theorem pq_X10_readSign_X10_readWord_r1 : ∀ w ∈ wsX10_readWord_r1, w ∈ wsX10_readSign := List.forall_mem_cons.mpr ⟨pm_X10_readSign_r5 _ (List.mem_of_getElem? (i := 0) rfl), List.forall_mem_cons.mpr ⟨pm_X10_readSign_r5 _ (List.mem_of_getElem? (i := 1) rfl), List.forall_mem_cons.mpr ⟨pm_X10_readSign_r5 _ (List.mem_of_getElem? (i := 2) rfl), List.forall_mem_cons.mpr ⟨pm_X10_readSign_r1 _ (List.mem_of_getElem? (i := 9) rfl), List.forall_mem_cons.mpr ⟨pm_X10_readSign_r5 _ (List.mem_of_getElem? (i := 3) rfl), List.forall_mem_cons.mpr ⟨pm_X10_readSign_r1 _ (List.mem_of_getElem? (i := 1) rfl), List.forall_mem_cons.mpr ⟨pm_X10_readSign_r1 _ (List.mem_of_getElem? (i := 19) rfl), List.forall_mem_cons.mpr ⟨pm_X10_readSign_r1 _ (List.mem_of_getElem? (i := 6) rfl), List.forall_mem_cons.mpr ⟨pm_X10_readSign_r1 _ (List.mem_of_getElem? (i := 7) rfl), List.forall_mem_cons.mpr ⟨pm_X10_readSign_r1 _ (List.mem_of_getElem? (i := 8) rfl), List.forall_mem_cons.mpr ⟨pm_X10_readSign_r1 _ (List.mem_of_getElem? (i := 10) rfl), List.forall_mem_cons.mpr ⟨pm_X10_readSign_r1 _ (List.mem_of_getElem? (i := 11) rfl), List.forall_mem_cons.mpr ⟨pm_X10_readSign_r1 _ (List.mem_of_getElem? (i := 12) rfl), List.forall_mem_cons.mpr ⟨pm_X10_readSign_r1 _ (List.mem_of_getElem? (i := 13) rfl), List.forall_mem_cons.mpr ⟨pm_X10_readSign_r1 _ (List.mem_of_getElem? (i := 14) rfl), List.forall_mem_cons.mpr ⟨pm_X10_readSign_r1 _ (List.mem_of_getElem? (i := 15) rfl), List.forall_mem_cons.mpr ⟨pm_X10_readSign_r1 _ (List.mem_of_getElem? (i := 16) rfl), List.forall_mem_cons.mpr ⟨pm_X10_readSign_r1 _ (List.mem_of_getElem? (i := 17) rfl), List.forall_mem_cons.mpr ⟨pm_X10_readSign_r1 _ (List.mem_of_getElem? (i := 18) rfl), List.forall_mem_cons.mpr ⟨pm_X10_readSign_r1 _ (List.mem_of_getElem? (i := 3) rfl), List.forall_mem_cons.mpr ⟨pm_X10_readSign_r1 _ (List.mem_of_getElem? (i := 20) rfl), List.forall_mem_cons.mpr ⟨pm_X10_readSign_r1 _ (List.mem_of_getElem? (i := 21) rfl), List.forall_mem_cons.mpr ⟨pm_X10_readSign_r1 _ (List.mem_of_getElem? (i := 22) rfl), List.forall_mem_cons.mpr ⟨pm_X10_readSign_r1 _ (List.mem_of_getElem? (i := 23) rfl), fun _ h => absurd h List.not_mem_nil⟩⟩⟩⟩⟩⟩⟩⟩⟩⟩⟩⟩⟩⟩⟩⟩⟩⟩⟩⟩⟩⟩⟩⟩
set_option maxRecDepth 20000 in
theorem pq_X10_readSign_X10_readWord_r2 : ∀ w ∈ wsX10_readWord_r2, w ∈ wsX10_readSign := List.forall_mem_cons.mpr ⟨pm_X10_readSign_r2 _ (List.mem_of_getElem? (i := 0) rfl), List.forall_mem_cons.mpr ⟨pm_X10_readSign_r2 _ (List.mem_of_getElem? (i := 1) rfl), List.forall_mem_cons.mpr ⟨pm_X10_readSign_r2 _ (List.mem_of_getElem? (i := 2) rfl), List.forall_mem_cons.mpr ⟨pm_X10_readSign_r2 _ (List.mem_of_getElem? (i := 3) rfl), List.forall_mem_cons.mpr ⟨pm_X10_readSign_r2 _ (List.mem_of_getElem? (i := 4) rfl), List.forall_mem_cons.mpr ⟨pm_X10_readSign_r2 _ (List.mem_of_getElem? (i := 5) rfl), List.forall_mem_cons.mpr ⟨pm_X10_readSign_r2 _ (List.mem_of_getElem? (i := 6) rfl), List.forall_mem_cons.mpr ⟨pm_X10_readSign_r2 _ (List.mem_of_getElem? (i := 7) rfl), List.forall_mem_cons.mpr ⟨pm_X10_readSign_r2 _ (List.mem_of_getElem? (i := 8) rfl), List.forall_mem_cons.mpr ⟨pm_X10_readSign_r2 _ (List.mem_of_getElem? (i := 9) rfl), List.forall_mem_cons.mpr ⟨pm_X10_readSign_r2 _ (List.mem_of_getElem? (i := 10) rfl), List.forall_mem_cons.mpr ⟨pm_X10_readSign_r2 _ (List.mem_of_getElem? (i := 11) rfl), List.forall_mem_cons.mpr ⟨pm_X10_readSign_r2 _ (List.mem_of_getElem? (i := 12) rfl), List.forall_mem_cons.mpr ⟨pm_X10_readSign_r2 _ (List.mem_of_getElem? (i := 13) rfl), List.forall_mem_cons.mpr ⟨pm_X10_readSign_r2 _ (List.mem_of_getElem? (i := 14) rfl), List.forall_mem_cons.mpr ⟨pm_X10_readSign_r2 _ (List.mem_of_getElem? (i := 15) rfl), List.forall_mem_cons.mpr ⟨pm_X10_readSign_r2 _ (List.mem_of_getElem? (i := 16) rfl), List.forall_mem_cons.mpr ⟨pm_X10_readSign_r2 _ (List.mem_of_getElem? (i := 17) rfl), List.forall_mem_cons.mpr ⟨pm_X10_readSign_r2 _ (List.mem_of_getElem? (i := 18) rfl), List.forall_mem_cons.mpr ⟨pm_X10_readSign_r2 _ (List.mem_of_getElem? (i := 19) rfl), List.forall_mem_cons.mpr ⟨pm_X10_readSign_r2 _ (List.mem_of_getElem? (i := 20) rfl), List.forall_mem_cons.mpr ⟨pm_X10_readSign_r2 _ (List.mem_of_getElem? (i := 21) rfl), List.forall_mem_cons.mpr ⟨pm_X10_readSign_r2 _ (List.mem_of_getElem? (i := 22) rfl), List.forall_mem_cons.mpr ⟨pm_X10_readSign_r2 _ (List.mem_of_getElem? (i := 23) rfl), fun _ h => absurd h List.not_mem_nil⟩⟩⟩⟩⟩⟩⟩⟩⟩⟩⟩⟩⟩⟩⟩⟩⟩⟩⟩⟩⟩⟩⟩⟩
set_option maxRecDepth 20000 in
theorem pq_X10_readSign_X10_readWord_r3 : ∀ w ∈ wsX10_readWord_r3, w ∈ wsX10_readSign := List.forall_mem_cons.mpr ⟨pm_X10_readSign_r3 _ (List.mem_of_getElem? (i := 0) rfl), List.forall_mem_cons.mpr ⟨pm_X10_readSign_r3 _ (List.mem_of_getElem? (i := 1) rfl), List.forall_mem_cons.mpr ⟨pm_X10_readSign_r3 _ (List.mem_of_getElem? (i := 2) rfl), List.forall_mem_cons.mpr ⟨pm_X10_readSign_r3 _ (List.mem_of_getElem? (i := 3) rfl), List.forall_mem_cons.mpr ⟨pm_X10_readSign_r3 _ (List.mem_of_getElem? (i := 4) rfl), List.forall_mem_cons.mpr ⟨pm_X10_readSign_r3 _ (List.mem_of_getElem? (i := 5) rfl), List.forall_mem_cons.mpr ⟨pm_X10_readSign_r3 _ (List.mem_of_getElem? (i := 6) rfl), List.forall_mem_cons.mpr ⟨pm_X10_readSign_r3 _ (List.mem_of_getElem? (i := 7) rfl), List.forall_mem_cons.mpr ⟨pm_X10_readSign_r3 _ (List.mem_of_getElem? (i := 8) rfl), List.forall_mem_cons.mpr ⟨pm_X10_readSign_r3 _ (List.mem_of_getElem? (i := 9) rfl), List.forall_mem_cons.mpr ⟨pm_X10_readSign_r3 _ (List.mem_of_getElem? (i := 10) rfl), List.forall_mem_cons.mpr ⟨pm_X10_readSign_r3 _ (List.mem_of_getElem? (i := 11) rfl), List.forall_mem_cons.mpr ⟨pm_X10_readSign_r3 _ (List.mem_of_getElem? (i := 12) rfl), List.forall_mem_cons.mpr ⟨pm_X10_readSign_r3 _ (List.mem_of_getElem? (i := 13) rfl), List.forall_mem_cons.mpr ⟨pm_X10_readSign_r3 _ (List.mem_of_getElem? (i := 14) rfl), List.forall_mem_cons.mpr ⟨pm_X10_readSign_r3 _ (List.mem_of_getElem? (i := 15) rfl), List.forall_mem_cons.mpr ⟨pm_X10_readSign_r3 _ (List.mem_of_getElem? (i := 16) rfl), List.forall_mem_cons.mpr ⟨pm_X10_readSign_r3 _ (List.mem_of_getElem? (i := 17) rfl), List.forall_mem_cons.mpr ⟨pm_X10_readSign_r3 _ (List.mem_of_getElem? (i := 18) rfl), List.forall_mem_cons.mpr ⟨pm_X10_readSign_r3 _ (List.mem_of_getElem? (i := 19) rfl), List.forall_mem_cons.mpr ⟨pm_X10_readSign_r3 _ (List.mem_of_getElem? (i := 20) rfl), List.forall_mem_cons.mpr ⟨pm_X10_readSign_r3 _ (List.mem_of_getElem? (i := 21) rfl), List.forall_mem_cons.mpr ⟨pm_X10_readSign_r3 _ (List.mem_of_getElem? (i := 22) rfl), List.forall_mem_cons.mpr ⟨pm_X10_readSign_r3 _ (List.mem_of_getElem? (i := 23) rfl), fun _ h => absurd h List.not_mem_nil⟩⟩⟩⟩⟩⟩⟩⟩⟩⟩⟩⟩⟩⟩⟩⟩⟩⟩⟩⟩⟩⟩⟩⟩
set_option maxRecDepth 20000 in
theorem pq_X10_readSign_X10_readWord_r4 : ∀ w ∈ wsX10_readWord_r4, w ∈ wsX10_readSign := List.forall_mem_cons.mpr ⟨pm_X10_readSign_r4 _ (List.mem_of_getElem? (i := 0) rfl), List.forall_mem_cons.mpr ⟨pm_X10_readSign_r4 _ (List.mem_of_getElem? (i := 1) rfl), List.forall_mem_cons.mpr ⟨pm_X10_readSign_r4 _ (List.mem_of_getElem? (i := 2) rfl), List.forall_mem_cons.mpr ⟨pm_X10_readSign_r4 _ (List.mem_of_getElem? (i := 3) rfl), List.forall_mem_cons.mpr ⟨pm_X10_readSign_r4 _ (List.mem_of_getElem? (i := 4) rfl), List.forall_mem_cons.mpr ⟨pm_X10_readSign_r4 _ (List.mem_of_getElem? (i := 5) rfl), List.forall_mem_cons.mpr ⟨pm_X10_readSign_r4 _ (List.mem_of_getElem? (i := 6) rfl), List.forall_mem_cons.mpr ⟨pm_X10_readSign_r4 _ (List.mem_of_getElem? (i := 7) rfl), List.forall_mem_cons.mpr ⟨pm_X10_readSign_r4 _ (List.mem_of_getElem? (i := 8) rfl), List.forall_mem_cons.mpr ⟨pm_X10_readSign_r4 _ (List.mem_of_getElem? (i := 9) rfl), List.forall_mem_cons.mpr ⟨pm_X10_readSign_r4 _ (List.mem_of_getElem? (i := 10) rfl), List.forall_mem_cons.mpr ⟨pm_X10_readSign_r4 _ (List.mem_of_getElem? (i := 11) rfl), List.forall_mem_cons.mpr ⟨pm_X10_readSign_r4 _ (List.mem_of_getElem? (i := 12) rfl), List.forall_mem_cons.mpr ⟨pm_X10_readSign_r4 _ (List.mem_of_getElem? (i := 13) rfl), List.forall_mem_cons.mpr ⟨pm_X10_readSign_r4 _ (List.mem_of_getElem? (i := 14) rfl), List.forall_mem_cons.mpr ⟨pm_X10_readSign_r4 _ (List.mem_of_getElem? (i := 15) rfl), fun _ h => absurd h List.not_mem_nil⟩⟩⟩⟩⟩⟩⟩⟩⟩⟩⟩⟩⟩⟩⟩⟩
set_option maxRecDepth 20000 in
theorem ggX10_readSign_X10_readWord : GoodIn wsX10_readSign wsX10_readWord := goodIn_sub (List.forall_mem_cons.mpr ⟨pm_X10_readSign_r4 _ (List.mem_of_getElem? (i := 23) rfl), List.forall_mem_append.mpr ⟨List.forall_mem_append.mpr ⟨pq_X10_readSign_X10_readWord_r1, List.forall_mem_append.mpr ⟨pq_X10_readSign_X10_readWord_r2, List.forall_mem_append.mpr ⟨pq_X10_readSign_X10_readWord_r3, pq_X10_readSign_X10_readWord_r4⟩⟩⟩, pw_X10_readSign_X10⟩⟩) (by decide +kernel)
set_option maxRecDepth 20000 in
theorem gX10_readSign_X10_readWord : GoodIn wsX10_readSign (wsV RX10 213 RX10 yX10_readWord wsX10_readWord) := goodIn_app (goodIn_of _ (by decide +kernel)) ggX10_readSign_X10_readWord
set_option maxRecDepth 20000 in
theorem pq_X10_readSign_X10_readNumber_r1 : ∀ w ∈ wsX10_readNumber_r1, w ∈ wsX10_readSign := List.forall_mem_cons.mpr ⟨pm_X10_readSign_r1 _ (List.mem_of_getElem? (i := 1) rfl), List.forall_mem_cons.mpr ⟨pm_X10_readSign_r1 _ (List.mem_of_getElem? (i := 22) rfl), List.forall_mem_cons.mpr ⟨pm_X10_readSign_r1 _ (List.mem_of_getElem? (i := 5) rfl), List.forall_mem_cons.mpr ⟨pm_X10_readSign_r1 _ (List.mem_of_getElem? (i := 6) rfl), List.forall_mem_cons.mpr ⟨pm_X10_readSign_r1 _ (List.mem_of_getElem? (i := 7) rfl), List.forall_mem_cons.mpr ⟨pm_X10_readSign_r1 _ (List.mem_of_getElem? (i := 8) rfl), List.forall_mem_cons.mpr ⟨pm_X10_readSign_r1 _ (List.mem_of_getElem? (i := 9) rfl), List.forall_mem_cons.mpr ⟨pm_X10_readSign_r1 _ (List.mem_of_getElem? (i := 10) rfl), List.forall_mem_cons.mpr ⟨pm_X10_readSign_r1 _ (List.mem_of_getElem? (i := 11) rfl), List.forall_mem_cons.mpr ⟨pm_X10_readSign_r1 _ (List.mem_of_getElem? (i := 12) rfl), List.forall_mem_cons.mpr ⟨pm_X10_readSign_r1 _ (List.mem_of_getElem? (i := 13) rfl), List.forall_mem_cons.mpr ⟨pm_X10_readSign_r5 _ (List.mem_of_getElem? (i := 8) rfl), List.forall_mem_cons.mpr ⟨pm_X10_readSign_r5 _ (List.mem_of_getElem? (i := 9) rfl), List.forall_mem_cons.mpr ⟨pm_X10_readSign_r5 _ (List.mem_of_getElem? (i := 10) rfl), List.forall_mem_cons.mpr ⟨pm_X10_readSign_r1 _ (List.mem_of_getElem? (i := 14) rfl), List.forall_mem_cons.mpr ⟨pm_X10_readSign_r1 _ (List.mem_of_getElem? (i := 15) rfl), List.forall_mem_cons.mpr ⟨pm_X10_readSign_r1 _ (List.mem_of_getElem? (i := 16) rfl), List.forall_mem_cons.mpr ⟨pm_X10_readSign_r1 _ (List.mem_of_getElem? (i := 17) rfl), List.forall_mem_cons.mpr ⟨pm_X10_readSign_r1 _ (List.mem_of_getElem? (i := 18) rfl), List.forall_mem_cons.mpr ⟨pm_X10_readSign_r1 _ (List.mem_of_getElem? (i := 19) rfl), List.forall_mem_cons.mpr ⟨pm_X10_readSign_r1 _ (List.mem_of_getElem? (i := 3) rfl), List.forall_mem_cons.mpr ⟨pm_X10_readSign_r1 _ (List.mem_of_getElem? (i := 20) rfl), List.forall_mem_cons.mpr ⟨pm_X10_readSign_r1 _ (List.mem_of_getElem? (i := 21) rfl), List.forall_mem_cons.mpr ⟨pm_X10_readSign_r1 _ (List.mem_of_getElem? (i := 23) rfl), fun _ h => absurd h List.not_mem_nil⟩⟩⟩⟩⟩⟩⟩⟩⟩⟩⟩⟩⟩⟩⟩⟩⟩⟩⟩⟩⟩⟩⟩⟩
set_option maxRecDepth 20000 in
theorem pq_X10_readSign_X10_readNumber_r2 : ∀ w ∈ wsX10_readNumber_r2, w ∈ wsX10_readSign := List.forall_mem_cons.mpr ⟨pm_X10_readSign_r2 _ (List.mem_of_getElem? (i := 0) rfl), List.forall_mem_cons.mpr ⟨pm_X10_readSign_r2 _ (List.mem_of_getElem? (i := 1) rfl), List.forall_mem_cons.mpr ⟨pm_X10_readSign_r2 _ (List.mem_of_getElem? (i := 2) rfl), List.forall_mem_cons.mpr ⟨pm_X10_readSign_r2 _ (List.mem_of_getElem? (i := 3) rfl), List.forall_mem_cons.mpr ⟨pm_X10_readSign_r2 _ (List.mem_of_getElem? (i := 4) rfl), List.forall_mem_cons.mpr ⟨pm_X10_readSign_r2 _ (List.mem_of_getElem? (i := 5) rfl), List.forall_mem_cons.mpr ⟨pm_X10_readSign_r2 _ (List.mem_of_getElem? (i := 6) rfl), List.forall_mem_cons.mpr ⟨pm_X10_readSign_r2 _ (List.mem_of_getElem? (i := 7) rfl), List.forall_mem_cons.mpr ⟨pm_X10_readSign_r2 _ (List.mem_of_getElem? (i := 8) rfl), List.forall_mem_cons.mpr ⟨pm_X10_readSign_r2 _ (List.mem_of_getElem? (i := 9) rfl), List.forall_mem_cons.mpr ⟨pm_X10_readSign_r2 _ (List.mem_of_getElem? (i := 10) rfl), List.forall_mem_cons.mpr ⟨pm_X10_readSign_r2 _ (List.mem_of_getElem? (i := 11) rfl), List.forall_mem_cons.mpr ⟨pm_X10_readSign_r2 _ (List.mem_of_getElem? (i := 12) rfl), List.forall_mem_cons.mpr ⟨pm_X10_readSign_r2 _ (List.mem_of_getElem? (i := 13) rfl), List.forall_mem_cons.mpr ⟨pm_X10_readSign_r2 _ (List.mem_of_getElem? (i := 14) rfl), List.forall_mem_cons.mpr ⟨pm_X10_readSign_r2 _ (List.mem_of_getElem? (i := 15) rfl), List.forall_mem_cons.mpr ⟨pm_X10_readSign_r2 _ (List.mem_of_getElem? (i := 16) rfl), List.forall_mem_cons.mpr ⟨pm_X10_readSign_r2 _ (List.mem_of_getElem? (i := 17) rfl), List.forall_mem_cons.mpr ⟨pm_X10_readSign_r2 _ (List.mem_of_getElem? (i := 18) rfl), List.forall_mem_cons.mpr ⟨pm_X10_readSign_r2 _ (List.mem_of_getElem? (i := 19) rfl), List.forall_mem_cons.mpr ⟨pm_X10_readSign_r2 _ (List.mem_of_getElem? (i := 20) rfl), List.forall_mem_cons.mpr ⟨pm_X10_readSign_r2 _ (List.mem_of_getElem? (i := 21) rfl), List.forall_mem_cons.mpr ⟨pm_X10_readSign_r2 _ (List.mem_of_getElem? (i := 22) rfl), List.forall_mem_cons.mpr ⟨pm_X10_readSign_r2 _ (List.mem_of_getElem? (i := 23) rfl), fun _ h => absurd h List.not_mem_nil⟩⟩⟩⟩⟩⟩⟩⟩⟩⟩⟩⟩⟩⟩⟩⟩⟩⟩⟩⟩⟩⟩⟩⟩
set_option maxRecDepth 20000 in
theorem pq_X10_readSign_X10_readNumber_r3 : ∀ w ∈ wsX10_readNumber_r3, w ∈ wsX10_readSign := List.forall_mem_cons.mpr ⟨pm_X10_readSign_r3 _ (List.mem_of_getElem? (i := 0) rfl), List.forall_mem_cons.mpr ⟨pm_X10_readSign_r3 _ (List.mem_of_getElem? (i := 1) rfl), List.forall_mem_cons.mpr ⟨pm_X10_readSign_r3 _ (List.mem_of_getElem? (i := 2) rfl), List.forall_mem_cons.mpr ⟨pm_X10_readSign_r3 _ (List.mem_of_getElem? (i := 3) rfl), List.forall_mem_cons.mpr ⟨pm_X10_readSign_r3 _ (List.mem_of_getElem? (i := 4) rfl), List.forall_mem_cons.mpr ⟨pm_X10_readSign_r3 _ (List.mem_of_getElem? (i := 5) rfl), List.forall_mem_cons.mpr ⟨pm_X10_readSign_r3 _ (List.mem_of_getElem? (i := 6) rfl), List.forall_mem_cons.mpr ⟨pm_X10_readSign_r3 _ (List.mem_of_getElem? (i := 7) rfl), List.forall_mem_cons.mpr ⟨pm_X10_readSign_r3 _ (List.mem_of_getElem? (i := 8) rfl), List.forall_mem_cons.mpr ⟨pm_X10_readSign_r3 _ (List.mem_of_getElem? (i := 9) rfl), List.forall_mem_cons.mpr ⟨pm_X10_readSign_r3 _ (List.mem_of_getElem? (i := 10) rfl), List.forall_mem_cons.mpr ⟨pm_X10_readSign_r3 _ (List.mem_of_getElem? (i := 11) rfl), List.forall_mem_cons.mpr ⟨pm_X10_readSign_r3 _ (List.mem_of_getElem? (i := 12) rfl), List.forall_mem_cons.mpr ⟨pm_X10_readSign_r3 _ (List.mem_of_getElem? (i := 13) rfl), List.forall_mem_cons.mpr ⟨pm_X10_readSign_r3 _ (List.mem_of_getElem? (i := 14) rfl), List.forall_mem_cons.mpr ⟨pm_X10_readSign_r3 _ (List.mem_of_getElem? (i := 15) rfl), List.forall_mem_cons.mpr ⟨pm_X10_readSign_r3 _ (List.mem_of_getElem? (i := 16) rfl), List.forall_mem_cons.mpr ⟨pm_X10_readSign_r3 _ (List.mem_of_getElem? (i := 17) rfl), List.forall_mem_cons.mpr ⟨pm_X10_readSign_r3 _ (List.mem_of_getElem? (i := 18) rfl), List.forall_mem_cons.mpr ⟨pm_X10_readSign_r3 _ (List.mem_of_getElem? (i := 19) rfl), List.forall_mem_cons.mpr ⟨pm_X10_readSign_r3 _ (List.mem_of_getElem? (i := 20) rfl), List.forall_mem_cons.mpr ⟨pm_X10_readSign_r3 _ (List.mem_of_getElem? (i := 21) rfl), List.forall_mem_cons.mpr ⟨pm_X10_readSign_r3 _ (List.mem_of_getElem? (i := 22) rfl), List.forall_mem_cons.mpr ⟨pm_X10_readSign_r3 _ (List.mem_of_getElem? (i := 23) rfl), fun _ h => absurd h List.not_mem_nil⟩⟩⟩⟩⟩⟩⟩⟩⟩⟩⟩⟩⟩⟩⟩⟩⟩⟩⟩⟩⟩⟩⟩⟩
set_option maxRecDepth 20000 in
theorem pq_X10_readSign_X10_readNumber_r4 : ∀ w ∈ wsX10_readNumber_r4, w ∈ wsX10_readSign := List.forall_mem_cons.mpr ⟨pm_X10_readSign_r4 _ (List.mem_of_getElem? (i := 0) rfl), List.forall_mem_cons.mpr ⟨pm_X10_readSign_r4 _ (List.mem_of_getElem? (i := 1) rfl), List.forall_mem_cons.mpr ⟨pm_X10_readSign_r4 _ (List.mem_of_getElem? (i := 2) rfl), List.forall_mem_cons.mpr ⟨pm_X10_readSign_r4 _ (List.mem_of_getElem? (i := 3) rfl), List.forall_mem_cons.mpr ⟨pm_X10_readSign_r4 _ (List.mem_of_getElem? (i := 4) rfl), List.forall_mem_cons.mpr ⟨pm_X10_readSign_r4 _ (List.mem_of_getElem? (i := 5) rfl), List.forall_mem_cons.mpr ⟨pm_X10_readSign_r4 _ (List.mem_of_getElem? (i := 6) rfl), List.forall_mem_cons.mpr ⟨pm_X10_readSign_r4 _ (List.mem_of_getElem? (i := 7) rfl), List.forall_mem_cons.mpr ⟨pm_X10_readSign_r4 _ (List.mem_of_getElem? (i := 8) rfl), List.forall_mem_cons.mpr ⟨pm_X10_readSign_r4 _ (List.mem_of_getElem? (i := 9) rfl), List.forall_mem_cons.mpr ⟨pm_X10_readSign_r4 _ (List.mem_of_getElem? (i := 10) rfl), List.forall_mem_cons.mpr ⟨pm_X10_readSign_r4 _ (List.mem_of_getElem? (i := 11) rfl), List.forall_mem_cons.mpr ⟨pm_X10_readSign_r4 _ (List.mem_of_getElem? (i := 12) rfl), List.forall_mem_cons.mpr ⟨pm_X10_readSign_r4 _ (List.mem_of_getElem? (i := 13) rfl), List.forall_mem_cons.mpr ⟨pm_X10_readSign_r4 _ (List.mem_of_getElem? (i := 14) rfl), List.forall_mem_cons.mpr ⟨pm_X10_readSign_r4 _ (List.mem_of_getElem? (i := 15) rfl), fun _ h => absurd h List.not_mem_nil⟩⟩⟩⟩⟩⟩⟩⟩⟩⟩⟩⟩⟩⟩⟩⟩
set_option maxRecDepth 20000 in
theorem ggX10_readSign_X10_readNumber : GoodIn wsX10_readSign wsX10_readNumber := goodIn_sub (List.forall_mem_cons.mpr ⟨pm_X10_readSign_r5 _ (List.mem_of_getElem? (i := 7) rfl), List.forall_mem_append.mpr ⟨List.forall_mem_append.mpr ⟨pq_X10_readSign_X10_readNumber_r1, List.forall_mem_append.mpr ⟨pq_X10_readSign_X10_readNumber_r2, List.forall_mem_append.mpr ⟨pq_X10_readSign_X10_readNumber_r3, pq_X10_readSign_X10_readNumber_r4⟩⟩⟩, pw_X10_readSign_X10⟩⟩) (by decide +kernel)
set_option maxRecDepth 20000 in
theorem gX10_readSign_X10_readNumber : GoodIn wsX10_readSign (wsV RX10 216 RX10 yX10_readNumber wsX10_readNumber) := goodIn_app (goodIn_of _ (by decide +kernel)) ggX10_readSign_X10_readNumber
set_option maxRecDepth 20000 in
theorem pq_X10_readSign_X10_readSemi_r1 : ∀ w ∈ wsX10_readSemi_r1, w ∈ wsX10_readSign := List.forall_mem_cons.mpr ⟨pm_X10_readSign_r1 _ (List.mem_of_getElem? (i := 1) rfl), List.forall_mem_cons.mpr ⟨pm_X10_readSign_r1 _ (List.mem_of_getElem? (i := 6) rfl), List.forall_mem_cons.mpr ⟨pm_X10_readSign_r1 _ (List.mem_of_getElem? (i := 7) rfl), List.forall_mem_cons.mpr ⟨pm_X10_readSign_r1 _ (List.mem_of_getElem? (i := 8) rfl), List.forall_mem_cons.mpr ⟨pm_X10_readSign_r1 _ (List.mem_of_getElem? (i := 9) rfl), List.forall_mem_cons.mpr ⟨pm_X10_readSign_r1 _ (List.mem_of_getElem? (i := 10) rfl), List.forall_mem_cons.mpr ⟨pm_X10_readSign_r1 _ (List.mem_of_getElem? (i := 11) rfl), List.forall_mem_cons.mpr ⟨pm_X10_readSign_r1 _ (List.mem_of_getElem? (i := 12) rfl), List.forall_mem_cons.mpr ⟨pm_X10_readSign_r1 _ (List.mem_of_getElem? (i := 13) rfl), List.forall_mem_cons.mpr ⟨pm_X10_readSign_r1 _ (List.mem_of_getElem? (i := 14) rfl), List.forall_mem_cons.mpr ⟨pm_X10_readSign_r1 _ (List.mem_of_getElem? (i := 15) rfl), List.forall_mem_cons.mpr ⟨pm_X10_readSign_r1 _ (List.mem_of_getElem? (i := 16) rfl), List.forall_mem_cons.mpr ⟨pm_X10_readSign_r1 _ (List.mem_of_getElem? (i := 17) rfl), List.forall_mem_cons.mpr ⟨pm_X10_readSign_r1 _ (List.mem_of_getElem? (i := 18) rfl), List.forall_mem_cons.mpr ⟨pm_X10_readSign_r1 _ (List.mem_of_getElem? (i := 19) rfl), List.forall_mem_cons.mpr ⟨pm_X10_readSign_r1 _ (List.mem_of_getElem? (i := 3) rfl), List.forall_mem_cons.mpr ⟨pm_X10_readSign_r1 _ (List.mem_of_getElem? (i := 20) rfl), List.forall_mem_cons.mpr ⟨pm_X10_readSign_r1 _ (List.mem_of_getElem? (i := 21) rfl), List.forall_mem_cons.mpr ⟨pm_X10_readSign_r1 _ (List.mem_of_getElem? (i := 22) rfl), List.forall_mem_cons.mpr ⟨pm_X10_readSign_r1 _ (List.mem_of_getElem? (i := 23) rfl), List.forall_mem_cons.mpr ⟨pm_X10_readSign_r2 _ (List.mem_of_getElem? (i := 0) rfl), List.forall_mem_cons.mpr ⟨pm_X10_readSign_r2 _ (List.mem_of_getElem? (i := 1) rfl), List.forall_mem_cons.mpr ⟨pm_X10_readSign_r2 _ (List.mem_of_getElem? (i := 2) rfl), List.forall_mem_cons.mpr ⟨pm_X10_readSign_r2 _ (List.mem_of_getElem? (i := 3) rfl), fun _ h => absurd h List.not_mem_nil⟩⟩⟩⟩⟩⟩⟩⟩⟩⟩⟩⟩⟩⟩⟩⟩⟩⟩⟩⟩⟩⟩⟩⟩
set_option maxRecDepth 20000 in
theorem pq_X10_readSign_X10_readSemi_r2 : ∀ w ∈ wsX10_readSemi_r2, w ∈ wsX10_readSign := List.forall_mem_cons.mpr ⟨pm_X10_readSign_r2 _ (List.mem_of_getElem? (i := 4) rfl), List.forall_mem_cons.mpr ⟨pm_X10_readSign_r2 _ (List.mem_of_getElem? (i := 5) rfl), List.forall_mem_cons.mpr ⟨pm_X10_readSign_r2 _ (List.mem_of_getElem? (i := 6) rfl), List.forall_mem_cons.mpr ⟨pm_X10_readSign_r2 _ (List.mem_of_getElem? (i := 7) rfl), List.forall_mem_cons.mpr ⟨pm_X10_readSign_r2 _ (List.mem_of_getElem? (i := 8) rfl), List.forall_mem_cons.mpr ⟨pm_X10_readSign_r2 _ (List.mem_of_getElem? (i := 9) rfl), List.forall_mem_cons.mpr ⟨pm_X10_readSign_r2 _ (List.mem_of_getElem? (i := 10) rfl), List.forall_mem_cons.mpr ⟨pm_X10_readSign_r2 _ (List.mem_of_getElem? (i := 11) rfl), List.forall_mem_cons.mpr ⟨pm_X10_readSign_r2 _ (List.mem_of_getElem? (i := 12) rfl), List.forall_mem_cons.mpr ⟨pm_X10_readSign_r2 _ (List.mem_of_getElem? (i := 13) rfl), List.forall_mem_cons.mpr ⟨pm_X10_readSign_r2 _ (List.mem_of_getElem? (i := 14) rfl), List.forall_mem_cons.mpr ⟨pm_X10_readSign_r2 _ (List.mem_of_getElem? (i := 15) rfl), List.forall_mem_cons.mpr ⟨pm_X10_readSign_r2 _ (List.mem_of_getElem? (i := 16) rfl), List.forall_mem_cons.mpr ⟨pm_X10_readSign_r2 _ (List.mem_of_getElem? (i := 17) rfl), List.forall_mem_cons.mpr ⟨pm_X10_readSign_r2 _ (List.mem_of_getElem? (i := 18) rfl), List.forall_mem_cons.mpr ⟨pm_X10_readSign_r2 _ (List.mem_of_getElem? (i := 19) rfl), List.forall_mem_cons.mpr ⟨pm_X10_readSign_r2 _ (List.mem_of_getElem? (i := 20) rfl), List.forall_mem_cons.mpr ⟨pm_X10_readSign_r2 _ (List.mem_of_getElem? (i := 21) rfl), List.forall_mem_cons.mpr ⟨pm_X10_readSign_r2 _ (List.mem_of_getElem? (i := 22) rfl), List.forall_mem_cons.mpr ⟨pm_X10_readSign_r2 _ (List.mem_of_getElem? (i := 23) rfl), List.forall_mem_cons.mpr ⟨pm_X10_readSign_r3 _ (List.mem_of_getElem? (i := 0) rfl), List.forall_mem_cons.mpr ⟨pm_X10_readSign_r3 _ (List.mem_of_getElem? (i := 1) rfl), List.forall_mem_cons.mpr ⟨pm_X10_readSign_r3 _ (List.mem_of_getElem? (i := 2) rfl), List.forall_mem_cons.mpr ⟨pm_X10_readSign_r3 _ (List.mem_of_getElem? (i := 3) rfl), fun _ h => absurd h List.not_mem_nil⟩⟩⟩⟩⟩⟩⟩⟩⟩⟩⟩⟩⟩⟩⟩⟩⟩⟩⟩⟩⟩⟩⟩⟩
set_option maxRecDepth 20000 in
theorem pq_X10_readSign_X10_readSemi_r3 : ∀ w ∈ wsX10_readSemi_r3, w ∈ wsX10_readSign := List.forall_mem_cons.mpr ⟨pm_X10_readSign_r3 _ (List.mem_of_getElem? (i := 4) rfl), List.forall_mem_cons.mpr ⟨pm_X10_readSign_r3 _ (List.mem_of_getElem? (i := 5) rfl), List.forall_mem_cons.mpr ⟨pm_X10_readSign_r3 _ (List.mem_of_getElem? (i := 6) rfl), List.forall_mem_cons.mpr ⟨pm_X10_readSign_r3 _ (List.mem_of_getElem? (i := 7) rfl), List.forall_mem_cons.mpr ⟨pm_X10_readSign_r3 _ (List.mem_of_getElem? (i := 8) rfl), List.forall_mem_cons.mpr ⟨pm_X10_readSign_r3 _ (List.mem_of_getElem? (i := 9) rfl), List.forall_mem_cons.mpr ⟨pm_X10_readSign_r3 _ (List.mem_of_getElem? (i := 10) rfl), List.forall_mem_cons.mpr ⟨pm_X10_readSign_r3 _ (List.mem_of_getElem? (i := 11) rfl), List.forall_mem_cons.mpr ⟨pm_X10_readSign_r3 _ (List.mem_of_getElem? (i := 12) rfl), List.forall_mem_cons.mpr ⟨pm_X10_readSign_r3 _ (List.mem_of_getElem? (i := 13) rfl), List.forall_mem_cons.mpr ⟨pm_X10_readSign_r3 _ (List.mem_of_getElem? (i := 14) rfl), List.forall_mem_cons.mpr ⟨pm_X10_readSign_r3 _ (List.mem_of_getElem? (i := 15) rfl), List.forall_mem_cons.mpr ⟨pm_X10_readSign_r3 _ (List.mem_of_getElem? (i := 16) rfl), List.forall_mem_cons.mpr ⟨pm_X10_readSign_r3 _ (List.mem_of_getElem? (i := 17) rfl), List.forall_mem_cons.mpr ⟨pm_X10_readSign_r3 _ (List.mem_of_getElem? (i := 18) rfl), List.forall_mem_cons.mpr ⟨pm_X10_readSign_r3 _ (List.mem_of_getElem? (i := 19) rfl), List.forall_mem_cons.mpr ⟨pm_X10_readSign_r3 _ (List.mem_of_getElem? (i := 20) rfl), List.forall_mem_cons.mpr ⟨pm_X10_readSign_r3 _ (List.mem_of_getElem? (i := 21) rfl), List.forall_mem_cons.mpr ⟨pm_X10_readSign_r3 _ (List.mem_of_getElem? (i := 22) rfl), List.forall_mem_cons.mpr ⟨pm_X10_readSign_r3 _ (List.mem_of_getElem? (i := 23) rfl), List.forall_mem_cons.mpr ⟨pm_X10_readSign_r4 _ (List.mem_of_getElem? (i := 0) rfl), List.forall_mem_cons.mpr ⟨pm_X10_readSign_r4 _ (List.mem_of_getElem? (i := 1) rfl), List.forall_mem_cons.mpr ⟨pm_X10_readSign_r4 _ (List.mem_of_getElem? (i := 2) rfl), List.forall_mem_cons.mpr ⟨pm_X10_readSign_r4 _ (List.mem_of_getElem? (i := 3) rfl), fun _ h => absurd h List.not_mem_nil⟩⟩⟩⟩⟩⟩⟩⟩⟩⟩⟩⟩⟩⟩⟩⟩⟩⟩⟩⟩⟩⟩⟩⟩
set_option maxRecDepth 20000 in
theorem pq_X10_readSign_X10_readSemi_r4 : ∀ w ∈ wsX10_readSemi_r4, w ∈ wsX10_readSign := List.forall_mem_cons.mpr ⟨pm_X10_readSign_r4 _ (List.mem_of_getElem? (i := 4) rfl), List.forall_mem_cons.mpr ⟨pm_X10_readSign_r4 _ (List.mem_of_getElem? (i := 5) rfl), List.forall_mem_cons.mpr ⟨pm_X10_readSign_r4 _ (List.mem_of_getElem? (i := 6) rfl), List.forall_mem_cons.mpr ⟨pm_X10_readSign_r4 _ (List.mem_of_getElem? (i := 7) rfl), List.forall_mem_cons.mpr ⟨pm_X10_readSign_r4 _ (List.mem_of_getElem? (i := 8) rfl), List.forall_mem_cons.mpr ⟨pm_X10_readSign_r4 _ (List.mem_of_getElem? (i := 9) rfl), List.forall_mem_cons.mpr ⟨pm_X10_readSign_r4 _ (List.mem_of_getElem? (i := 10) rfl), List.forall_mem_cons.mpr ⟨pm_X10_readSign_r4 _ (List.mem_of_getElem? (i := 11) rfl), List.forall_mem_cons.mpr ⟨pm_X10_readSign_r4 _ (List.mem_of_getElem? (i := 12) rfl), List.forall_mem_cons.mpr ⟨pm_X10_readSign_r4 _ (List.mem_of_getElem? (i := 13) rfl), List.forall_mem_cons.mpr ⟨pm_X10_readSign_r4 _ (List.mem_of_getElem? (i := 14) rfl), List.forall_mem_cons.mpr ⟨pm_X10_readSign_r4 _ (List.mem_of_getElem? (i := 15) rfl), fun _ h => absurd h List.not_mem_nil⟩⟩⟩⟩⟩⟩⟩⟩⟩⟩⟩⟩
set_option maxRecDepth 20000 in
theorem ggX10_readSign_X10_readSemi : GoodIn wsX10_readSign wsX10_readSemi := goodIn_sub (List.forall_mem_cons.mpr ⟨pm_X10_readSign_r5 _ (List.mem_of_getElem? (i := 14) rfl), List.forall_mem_append.mpr ⟨List.forall_mem_append.mpr ⟨pq_X10_readSign_X10_readSemi_r1, List.forall_mem_append.mpr ⟨pq_X10_readSign_X10_readSemi_r2, List.forall_mem_append.mpr ⟨pq_X10_readSign_X10_readSemi_r3, pq_X10_readSign_X10_readSemi_r4⟩⟩⟩, pw_X10_readSign_X10⟩⟩) (by decide +kernel)
set_option maxRecDepth 20000 in
theorem gX10_readSign_X10_readSemi : GoodIn wsX10_readSign (wsV RX10 220 RX10 yX10_readSemi wsX10_readSemi) := goodIn_app (goodIn_of _ (by decide +kernel)) ggX10_readSign_X10_readSemi
theorem dX10_readSign_0 : decode cX10_readSign 0 = .ok (.aload_n 0, 1) := by decide +kernel
theorem dX10_readSign_1 : decode cX10_readSign 1 = .ok (.getfield 17, 3) := by decide +kernel
theorem dX10_readSign_4 : decode cX10_readSign 4 = .ok (.bipush 9, 2) := by decide +kernel
theorem dX10_readSign_6 : decode cX10_readSign 6 = .ok (.iaload, 1) := by decide +kernel
theorem dX10_readSign_7 : decode cX10_readSign 7 = .ok (.istore_n 1, 1) := by decide +kernel
theorem dX10_readSign_8 : decode cX10_readSign 8 = .ok (.iload_n 1, 1) := by decide +kernel
theorem dX10_readSign_9 : decode cX10_readSign 9 = .ok (.iconst 4, 1) := by decide +kernel
theorem dX10_readSign_10 : decode cX10_readSign 10 = .ok (.if_icmp .ne 9, 3) := by decide +kernel
theorem dX10_readSign_13 : decode cX10_readSign 13 = .ok (.aload_n 0, 1) := by decide +kernel
theorem dX10_readSign_14 : decode cX10_readSign 14 = .ok (.iconst 4, 1) := by decide +kernel
theorem dX10_readSign_15 : decode cX10_readSign 15 = .ok (.invokevirtual 171, 3) := by decide +kernel
theorem dX10_readSign_18 : decode cX10_readSign 18 = .ok (.ireturn, 1) := by decide +kernel
theorem dX10_readSign_19 : decode cX10_readSign 19 = .ok (.aload_n 0, 1) := by decide +kernel
theorem dX10_readSign_20 : decode cX10_readSign 20 = .ok (.invokevirtual 181, 3) := by decide +kernel
theorem dX10_readSign_23 : decode cX10_readSign 23 = .ok (.aload_n 0, 1) := by decide +kernel
theorem dX10_readSign_24 : decode cX10_readSign 24 = .ok (.getfield 143, 3) := by decide +kernel
theorem dX10_readSign_27 : decode cX10_readSign 27 = .ok (.iconst 1, 1) := by decide +kernel
theorem dX10_readSign_28 : decode cX10_readSign 28 = .ok (.if_icmp .eq 9, 3) := by decide +kernel
theorem dX10_readSign_31 : decode cX10_readSign 31 = .ok (.aload_n 0, 1) := by decide +kernel
theorem dX10_readSign_32 : decode cX10_readSign 32 = .ok (.iconst 1, 1) := by decide +kernel
theorem dX10_readSign_33 : decode cX10_readSign 33 = .ok (.invokevirtual 171, 3) := by decide +kernel
theorem dX10_readSign_36 : decode cX10_readSign 36 = .ok (.ireturn, 1) := by decide +kernel
theorem dX10_readSign_37 : decode cX10_readSign 37 = .ok (.aload_n 0, 1) := by decide +kernel
theorem dX10_readSign_38 : decode cX10_readSign 38 = .ok (.aload_n 0, 1) := by decide +kernel
theorem dX10_readSign_39 : decode cX10_readSign 39 = .ok (.getfield 21, 3) := by decide +kernel
theorem dX10_readSign_42 : decode cX10_readSign 42 = .ok (.iload_n 1, 1) := by decide +kernel
theorem dX10_readSign_43 : decode cX10_readSign 43 = .ok (.invokevirtual 209, 3) := by decide +kernel
theorem dX10_readSign_46 : decode cX10_readSign 46 = .ok (.ifCond .eq 9, 3) := by decide +kernel
theorem dX10_readSign_49 : decode cX10_readSign 49 = .ok (.aload_n 0, 1) := by decide +kernel
theorem dX10_readSign_50 : decode cX10_readSign 50 = .ok (.iconst 3, 1) := by decide +kernel
theorem dX10_readSign_51 : decode cX10_readSign 51 = .ok (.invokevirtual 171, 3) := by decide +kernel
theorem dX10_readSign_54 : decode cX10_readSign 54 = .ok (.ireturn, 1) := by decide +kernel
theorem dX10_readSign_55 : decode cX10_readSign 55 = .ok (.aload_n 0, 1) := by decide +kernel
theorem dX10_readSign_56 : decode cX10_readSign 56 = .ok (.getfield 21, 3) := by decide +kernel
theorem dX10_readSign_59 : decode cX10_readSign 59 = .ok (.iload_n 1, 1) := by decide +kernel
theorem dX10_readSign_60 : decode cX10_readSign 60 = .ok (.aload_n 0, 1) := by decide +kernel
theorem dX10_readSign_61 : decode cX10_readSign 61 = .ok (.getfield 150, 3) := by decide +kernel
theorem dX10_readSign_64 : decode cX10_readSign 64 = .ok (.lastore, 1) := by decide +kernel
theorem dX10_readSign_65 : decode cX10_readSign 65 = .ok (.aload_n 0, 1) := by decide +kernel
theorem dX10_readSign_66 : decode cX10_readSign 66 = .ok (.invokevirtual 181, 3) := by decide +kernel
theorem dX10_readSign_69 : decode cX10_readSign 69 = .ok (.aload_n 0, 1) := by decide +kernel
theorem dX10_readSign_70 : decode cX10_readSign 70 = .ok (.iconst 2, 1) := by decide +kernel
theorem dX10_readSign_71 : decode cX10_readSign 71 = .ok (.invokevirtual 213, 3) := by decide +kernel
theorem dX10_readSign_74 : decode cX10_readSign 74 = .ok (.ifCond .eq 14, 3) := by decide +kernel
theorem dX10_readSign_77 : decode cX10_readSign 77 = .ok (.aload_n 0, 1) := by decide +kernel
theorem dX10_readSign_78 : decode cX10_readSign 78 = .ok (.iconst 0, 1) := by decide +kernel
theorem dX10_readSign_79 : decode cX10_readSign 79 = .ok (.sipush 999, 3) := by decide +kernel
theorem dX10_readSign_82 : decode cX10_readSign 82 = .ok (.invokevirtual 216, 3) := by decide +kernel
theorem dX10_readSign_85 : decode cX10_readSign 85 = .ok (.ifCond .ne 5, 3) := by decide +kernel
theorem dX10_readSign_88 : decode cX10_readSign 88 = .ok (.iconst 0, 1) := by decide +kernel
theorem dX10_readSign_89 : decode cX10_readSign 89 = .ok (.ireturn, 1) := by decide +kernel
theorem dX10_readSign_90 : decode cX10_readSign 90 = .ok (.aload_n 0, 1) := by decide +kernel
theorem dX10_readSign_91 : decode cX10_readSign 91 = .ok (.getfield 28, 3) := by decide +kernel
theorem dX10_readSign_94 : decode cX10_readSign 94 = .ok (.iconst 4, 1) := by decide +kernel
theorem dX10_readSign_95 : decode cX10_readSign 95 = .ok (.iload_n 1, 1) := by decide +kernel
theorem dX10_readSign_96 : decode cX10_readSign 96 = .ok (.iadd, 1) := by decide +kernel
theorem dX10_readSign_97 : decode cX10_readSign 97 = .ok (.aload_n 0, 1) := by decide +kernel
theorem dX10_readSign_98 : decode cX10_readSign 98 = .ok (.getfield 178, 3) := by decide +kernel
theorem dX10_readSign_101 : decode cX10_readSign 101 = .ok (.iastore, 1) := by decide +kernel
theorem dX10_readSign_102 : decode cX10_readSign 102 = .ok (.aload_n 0, 1) := by decide +kernel
theorem dX10_readSign_103 : decode cX10_readSign 103 = .ok (.getfield 17, 3) := by decide +kernel
theorem dX10_readSign_106 : decode cX10_readSign 106 = .ok (.bipush 9, 2) := by decide +kernel
theorem dX10_readSign_108 : decode cX10_readSign 108 = .ok (.dup2, 1) := by decide +kernel
theorem dX10_readSign_109 : decode cX10_readSign 109 = .ok (.iaload, 1) := by decide +kernel
theorem dX10_readSign_110 : decode cX10_readSign 110 = .ok (.iconst 1, 1) := by decide +kernel
theorem dX10_readSign_111 : decode cX10_readSign 111 = .ok (.iadd, 1) := by decide +kernel
theorem dX10_readSign_112 : decode cX10_readSign 112 = .ok (.iastore, 1) := by decide +kernel
theorem dX10_readSign_113 : decode cX10_readSign 113 = .ok (.aload_n 0, 1) := by decide +kernel
theorem dX10_readSign_114 : decode cX10_readSign 114 = .ok (.invokevirtual 220, 3) := by decide +kernel
theorem dX10_readSign_117 : decode cX10_readSign 117 = .ok (.ireturn, 1) := by decide +kernel
theorem pm_X10_readWork_r1 : ∀ w ∈ wsX10_readWork_r1, w ∈ wsX10_readWork := fun _ h => List.mem_cons_of_mem _ (List.mem_append_left _ (List.mem_append_left _ h))
theorem pm_X10_readWork_r2 : ∀ w ∈ wsX10_readWork_r2, w ∈ wsX10_readWork := fun _ h => List.mem_cons_of_mem _ (List.mem_append_left _ (List.mem_append_right _ (List.mem_append_left _ h)))
theorem pm_X10_readWork_r3 : ∀ w ∈ wsX10_readWork_r3, w ∈ wsX10_readWork := fun _ h => List.mem_cons_of_mem _ (List.mem_append_left _ (List.mem_append_right _ (List.mem_append_right _ (List.mem_append_left _ h))))
theorem pm_X10_readWork_r4 : ∀ w ∈ wsX10_readWork_r4, w ∈ wsX10_readWork := fun _ h => List.mem_cons_of_mem _ (List.mem_append_left _ (List.mem_append_right _ (List.mem_append_right _ (List.mem_append_right _ (List.mem_append_left _ h)))))
theorem pm_X10_readWork_r5 : ∀ w ∈ wsX10_readWork_r5, w ∈ wsX10_readWork := fun _ h => List.mem_cons_of_mem _ (List.mem_append_left _ (List.mem_append_right _ (List.mem_append_right _ (List.mem_append_right _ (List.mem_append_right _ (h))))))
theorem pw_X10_readWork_X10 : ∀ w ∈ wsX100, w ∈ wsX10_readWork := fun _ h => List.mem_cons_of_mem _ (List.mem_append_right _ h)
set_option maxRecDepth 20000 in
theorem ggX10_readWork_X10_fails : GoodIn wsX10_readWork wsX10_fails := goodIn_sub (List.forall_mem_cons.mpr ⟨pm_X10_readWork_r1 _ (List.mem_of_getElem? (i := 12) rfl), List.forall_mem_append.mpr ⟨List.forall_mem_cons.mpr ⟨pm_X10_readWork_r1 _ (List.mem_of_getElem? (i := 13) rfl), List.forall_mem_cons.mpr ⟨pm_X10_readWork_r1 _ (List.mem_of_getElem? (i := 14) rfl), List.forall_mem_cons.mpr ⟨pm_X10_readWork_r1 _ (List.mem_of_getElem? (i := 15) rfl), fun _ h => absurd h List.not_mem_nil⟩⟩⟩, pw_X10_readWork_X10⟩⟩) (by decide +kernel)
set_option maxRecDepth 20000 in
theorem gX10_readWork_X10_fails : GoodIn wsX10_readWork (wsV RX10 171 RX10 yX10_fails wsX10_fails) := goodIn_app (goodIn_of _ (by decide +kernel)) ggX10_readWork_X10_fails
set_option maxRecDepth 20000 in
theorem pq_X10_readWork_X10_scan_r1 : ∀ w ∈ wsX10_scan_r1, w ∈ wsX10_readWork := List.forall_mem_cons.mpr ⟨pm_X10_readWork_r1 _ (List.mem_of_getElem? (i := 20) rfl), List.forall_mem_cons.mpr ⟨pm_X10_readWork_r1 _ (List.mem_of_getElem? (i := 14) rfl), List.forall_mem_cons.mpr ⟨pm_X10_readWork_r1 _ (List.mem_of_getElem? (i := 21) rfl), List.forall_mem_cons.mpr ⟨pm_X10_readWork_r1 _ (List.mem_of_getElem? (i := 1) rfl), List.forall_mem_cons.mpr ⟨pm_X10_readWork_r1 _ (List.mem_of_getElem? (i := 3) rfl), List.forall_mem_cons.mpr ⟨pm_X10_readWork_r1 _ (List.mem_of_getElem? (i := 22) rfl), List.forall_mem_cons.mpr ⟨pm_X10_readWork_r1 _ (List.mem_of_getElem? (i := 23) rfl), List.forall_mem_cons.mpr ⟨pm_X10_readWork_r1 _ (List.mem_of_getElem? (i := 6) rfl), List.forall_mem_cons.mpr ⟨pm_X10_readWork_r2 _ (List.mem_of_getElem? (i := 0) rfl), List.forall_mem_cons.mpr ⟨pm_X10_readWork_r2 _ (List.mem_of_getElem? (i := 1) rfl), List.forall_mem_cons.mpr ⟨pm_X10_readWork_r2 _ (List.mem_of_getElem? (i := 2) rfl), List.forall_mem_cons.mpr ⟨pm_X10_readWork_r1 _ (List.mem_of_getElem? (i := 11) rfl), List.forall_mem_cons.mpr ⟨pm_X10_readWork_r2 _ (List.mem_of_getElem? (i := 3) rfl), List.forall_mem_cons.mpr ⟨pm_X10_readWork_r2 _ (List.mem_of_getElem? (i := 4) rfl), List.forall_mem_cons.mpr ⟨pm_X10_readWork_r2 _ (List.mem_of_getElem? (i := 5) rfl), List.forall_mem_cons.mpr ⟨pm_X10_readWork_r2 _ (List.mem_of_getElem? (i := 6) rfl), List.forall_mem_cons.mpr ⟨pm_X10_readWork_r2 _ (List.mem_of_getElem? (i := 7) rfl), List.forall_mem_cons.mpr ⟨pm_X10_readWork_r2 _ (List.mem_of_getElem? (i := 8) rfl), List.forall_mem_cons.mpr ⟨pm_X10_readWork_r2 _ (List.mem_of_getElem? (i := 9) rfl), List.forall_mem_cons.mpr ⟨pm_X10_readWork_r2 _ (List.mem_of_getElem? (i := 10) rfl), List.forall_mem_cons.mpr ⟨pm_X10_readWork_r2 _ (List.mem_of_getElem? (i := 11) rfl), List.forall_mem_cons.mpr ⟨pm_X10_readWork_r2 _ (List.mem_of_getElem? (i := 12) rfl), List.forall_mem_cons.mpr ⟨pm_X10_readWork_r2 _ (List.mem_of_getElem? (i := 13) rfl), List.forall_mem_cons.mpr ⟨pm_X10_readWork_r2 _ (List.mem_of_getElem? (i := 14) rfl), fun _ h => absurd h List.not_mem_nil⟩⟩⟩⟩⟩⟩⟩⟩⟩⟩⟩⟩⟩⟩⟩⟩⟩⟩⟩⟩⟩⟩⟩⟩
set_option maxRecDepth 20000 in
theorem pq_X10_readWork_X10_scan_r2 : ∀ w ∈ wsX10_scan_r2, w ∈ wsX10_readWork := List.forall_mem_cons.mpr ⟨pm_X10_readWork_r2 _ (List.mem_of_getElem? (i := 15) rfl), List.forall_mem_cons.mpr ⟨pm_X10_readWork_r2 _ (List.mem_of_getElem? (i := 16) rfl), List.forall_mem_cons.mpr ⟨pm_X10_readWork_r2 _ (List.mem_of_getElem? (i := 17) rfl), List.forall_mem_cons.mpr ⟨pm_X10_readWork_r2 _ (List.mem_of_getElem? (i := 18) rfl), List.forall_mem_cons.mpr ⟨pm_X10_readWork_r2 _ (List.mem_of_getElem? (i := 19) rfl), List.forall_mem_cons.mpr ⟨pm_X10_readWork_r2 _ (List.mem_of_getElem? (i := 20) rfl), List.forall_mem_cons.mpr ⟨pm_X10_readWork_r2 _ (List.mem_of_getElem? (i := 21) rfl), List.forall_mem_cons.mpr ⟨pm_X10_readWork_r2 _ (List.mem_of_getElem? (i := 22) rfl), List.forall_mem_cons.mpr ⟨pm_X10_readWork_r2 _ (List.mem_of_getElem? (i := 23) rfl), List.forall_mem_cons.mpr ⟨pm_X10_readWork_r3 _ (List.mem_of_getElem? (i := 0) rfl), List.forall_mem_cons.mpr ⟨pm_X10_readWork_r3 _ (List.mem_of_getElem? (i := 1) rfl), List.forall_mem_cons.mpr ⟨pm_X10_readWork_r3 _ (List.mem_of_getElem? (i := 2) rfl), List.forall_mem_cons.mpr ⟨pm_X10_readWork_r3 _ (List.mem_of_getElem? (i := 3) rfl), List.forall_mem_cons.mpr ⟨pm_X10_readWork_r3 _ (List.mem_of_getElem? (i := 4) rfl), List.forall_mem_cons.mpr ⟨pm_X10_readWork_r3 _ (List.mem_of_getElem? (i := 5) rfl), List.forall_mem_cons.mpr ⟨pm_X10_readWork_r3 _ (List.mem_of_getElem? (i := 6) rfl), List.forall_mem_cons.mpr ⟨pm_X10_readWork_r3 _ (List.mem_of_getElem? (i := 7) rfl), List.forall_mem_cons.mpr ⟨pm_X10_readWork_r3 _ (List.mem_of_getElem? (i := 8) rfl), List.forall_mem_cons.mpr ⟨pm_X10_readWork_r3 _ (List.mem_of_getElem? (i := 9) rfl), List.forall_mem_cons.mpr ⟨pm_X10_readWork_r3 _ (List.mem_of_getElem? (i := 10) rfl), List.forall_mem_cons.mpr ⟨pm_X10_readWork_r3 _ (List.mem_of_getElem? (i := 11) rfl), List.forall_mem_cons.mpr ⟨pm_X10_readWork_r3 _ (List.mem_of_getElem? (i := 12) rfl), List.forall_mem_cons.mpr ⟨pm_X10_readWork_r3 _ (List.mem_of_getElem? (i := 13) rfl), List.forall_mem_cons.mpr ⟨pm_X10_readWork_r3 _ (List.mem_of_getElem? (i := 14) rfl), fun _ h => absurd h List.not_mem_nil⟩⟩⟩⟩⟩⟩⟩⟩⟩⟩⟩⟩⟩⟩⟩⟩⟩⟩⟩⟩⟩⟩⟩⟩
set_option maxRecDepth 20000 in
theorem pq_X10_readWork_X10_scan_r3 : ∀ w ∈ wsX10_scan_r3, w ∈ wsX10_readWork := List.forall_mem_cons.mpr ⟨pm_X10_readWork_r3 _ (List.mem_of_getElem? (i := 15) rfl), List.forall_mem_cons.mpr ⟨pm_X10_readWork_r3 _ (List.mem_of_getElem? (i := 16) rfl), List.forall_mem_cons.mpr ⟨pm_X10_readWork_r3 _ (List.mem_of_getElem? (i := 17) rfl), List.forall_mem_cons.mpr ⟨pm_X10_readWork_r3 _ (List.mem_of_getElem? (i := 18) rfl), List.forall_mem_cons.mpr ⟨pm_X10_readWork_r3 _ (List.mem_of_getElem? (i := 19) rfl), List.forall_mem_cons.mpr ⟨pm_X10_readWork_r3 _ (List.mem_of_getElem? (i := 20) rfl), List.forall_mem_cons.mpr ⟨pm_X10_readWork_r3 _ (List.mem_of_getElem? (i := 21) rfl), List.forall_mem_cons.mpr ⟨pm_X10_readWork_r3 _ (List.mem_of_getElem? (i := 22) rfl), List.forall_mem_cons.mpr ⟨pm_X10_readWork_r3 _ (List.mem_of_getElem? (i := 23) rfl), List.forall_mem_cons.mpr ⟨pm_X10_readWork_r4 _ (List.mem_of_getElem? (i := 0) rfl), List.forall_mem_cons.mpr ⟨pm_X10_readWork_r4 _ (List.mem_of_getElem? (i := 1) rfl), List.forall_mem_cons.mpr ⟨pm_X10_readWork_r4 _ (List.mem_of_getElem? (i := 2) rfl), List.forall_mem_cons.mpr ⟨pm_X10_readWork_r4 _ (List.mem_of_getElem? (i := 3) rfl), List.forall_mem_cons.mpr ⟨pm_X10_readWork_r4 _ (List.mem_of_getElem? (i := 4) rfl), List.forall_mem_cons.mpr ⟨pm_X10_readWork_r4 _ (List.mem_of_getElem? (i := 5) rfl), List.forall_mem_cons.mpr ⟨pm_X10_readWork_r4 _ (List.mem_of_getElem? (i := 6) rfl), List.forall_mem_cons.mpr ⟨pm_X10_readWork_r4 _ (List.mem_of_getElem? (i := 7) rfl), List.forall_mem_cons.mpr ⟨pm_X10_readWork_r4 _ (List.mem_of_getElem? (i := 8) rfl), List.forall_mem_cons.mpr ⟨pm_X10_readWork_r4 _ (List.mem_of_getElem? (i := 9) rfl), List.forall_mem_cons.mpr ⟨pm_X10_readWork_r4 _ (List.mem_of_getElem? (i := 10) rfl), List.forall_mem_cons.mpr ⟨pm_X10_readWork_r4 _ (List.mem_of_getElem? (i := 11) rfl), List.forall_mem_cons.mpr ⟨pm_X10_readWork_r4 _ (List.mem_of_getElem? (i := 12) rfl), List.forall_mem_cons.mpr ⟨pm_X10_readWork_r4 _ (List.mem_of_getElem? (i := 13) rfl), List.forall_mem_cons.mpr ⟨pm_X10_readWork_r4 _ (List.mem_of_getElem? (i := 14) rfl), fun _ h => absurd h List.not_mem_nil⟩⟩⟩⟩⟩⟩⟩⟩⟩⟩⟩⟩⟩⟩⟩⟩⟩⟩⟩⟩⟩⟩⟩⟩
set_option maxRecDepth 20000 in
theorem pq_X10_readWork_X10_scan_r4 : ∀ w ∈ wsX10_scan_r4, w ∈ wsX10_readWork := List.forall_mem_cons.mpr ⟨pm_X10_readWork_r4 _ (List.mem_of_getElem? (i := 15) rfl), List.forall_mem_cons.mpr ⟨pm_X10_readWork_r4 _ (List.mem_of_getElem? (i := 16) rfl), fun _ h => absurd h List.not_mem_nil⟩⟩
set_option maxRecDepth 20000 in
theorem ggX10_readWork_X10_scan : GoodIn wsX10_readWork wsX10_scan := goodIn_sub (List.forall_mem_cons.mpr ⟨pm_X10_readWork_r1 _ (List.mem_of_getElem? (i := 19) rfl), List.forall_mem_append.mpr ⟨List.forall_mem_append.mpr ⟨pq_X10_readWork_X10_scan_r1, List.forall_mem_append.mpr ⟨pq_X10_readWork_X10_scan_r2, List.forall_mem_append.mpr ⟨pq_X10_readWork_X10_scan_r3, pq_X10_readWork_X10_scan_r4⟩⟩⟩, pw_X10_readWork_X10⟩⟩) (by decide +kernel)
set_option maxRecDepth 20000 in
theorem gX10_readWork_X10_scan : GoodIn wsX10_readWork (wsV RX10 181 RX10 yX10_scan wsX10_scan) := goodIn_app (goodIn_of _ (by decide +kernel)) ggX10_readWork_X10_scan
set_option maxRecDepth 20000 in
theorem ggX10_readWork_X10_isNamed : GoodIn wsX10_readWork wsX10_isNamed := goodIn_sub (List.forall_mem_cons.mpr ⟨pm_X10_readWork_r4 _ (List.mem_of_getElem? (i := 20) rfl), List.forall_mem_append.mpr ⟨List.forall_mem_cons.mpr ⟨pm_X10_readWork_r1 _ (List.mem_of_getElem? (i := 3) rfl), fun _ h => absurd h List.not_mem_nil⟩, pw_X10_readWork_X10⟩⟩) (by decide +kernel)
set_option maxRecDepth 20000 in
theorem gX10_readWork_X10_isNamed : GoodIn wsX10_readWork (wsV RX10 209 RX10 yX10_isNamed wsX10_isNamed) := goodIn_app (goodIn_of _ (by decide +kernel)) ggX10_readWork_X10_isNamed
set_option maxRecDepth 20000 in
theorem pq_X10_readWork_X10_readWord_r1 : ∀ w ∈ wsX10_readWord_r1, w ∈ wsX10_readWork := List.forall_mem_cons.mpr ⟨pm_X10_readWork_r5 _ (List.mem_of_getElem? (i := 1) rfl), List.forall_mem_cons.mpr ⟨pm_X10_readWork_r5 _ (List.mem_of_getElem? (i := 2) rfl), List.forall_mem_cons.mpr ⟨pm_X10_readWork_r5 _ (List.mem_of_getElem? (i := 3) rfl), List.forall_mem_cons.mpr ⟨pm_X10_readWork_r1 _ (List.mem_of_getElem? (i := 11) rfl), List.forall_mem_cons.mpr ⟨pm_X10_readWork_r5 _ (List.mem_of_getElem? (i := 4) rfl), List.forall_mem_cons.mpr ⟨pm_X10_readWork_r1 _ (List.mem_of_getElem? (i := 1) rfl), List.forall_mem_cons.mpr ⟨pm_X10_readWork_r1 _ (List.mem_of_getElem? (i := 21) rfl), List.forall_mem_cons.mpr ⟨pm_X10_readWork_r1 _ (List.mem_of_getElem? (i := 8) rfl), List.forall_mem_cons.mpr ⟨pm_X10_readWork_r1 _ (List.mem_of_getElem? (i := 9) rfl), List.forall_mem_cons.mpr ⟨pm_X10_readWork_r1 _ (List.mem_of_getElem? (i := 10) rfl), List.forall_mem_cons.mpr ⟨pm_X10_readWork_r1 _ (List.mem_of_getElem? (i := 12) rfl), List.forall_mem_cons.mpr ⟨pm_X10_readWork_r1 _ (List.mem_of_getElem? (i := 13) rfl), List.forall_mem_cons.mpr ⟨pm_X10_readWork_r1 _ (List.mem_of_getElem? (i := 14) rfl), List.forall_mem_cons.mpr ⟨pm_X10_readWork_r1 _ (List.mem_of_getElem? (i := 15) rfl), List.forall_mem_cons.mpr ⟨pm_X10_readWork_r1 _ (List.mem_of_getElem? (i := 16) rfl), List.forall_mem_cons.mpr ⟨pm_X10_readWork_r1 _ (List.mem_of_getElem? (i := 17) rfl), List.forall_mem_cons.mpr ⟨pm_X10_readWork_r1 _ (List.mem_of_getElem? (i := 18) rfl), List.forall_mem_cons.mpr ⟨pm_X10_readWork_r1 _ (List.mem_of_getElem? (i := 19) rfl), List.forall_mem_cons.mpr ⟨pm_X10_readWork_r1 _ (List.mem_of_getElem? (i := 20) rfl), List.forall_mem_cons.mpr ⟨pm_X10_readWork_r1 _ (List.mem_of_getElem? (i := 3) rfl), List.forall_mem_cons.mpr ⟨pm_X10_readWork_r1 _ (List.mem_of_getElem? (i := 22) rfl), List.forall_mem_cons.mpr ⟨pm_X10_readWork_r1 _ (List.mem_of_getElem? (i := 23) rfl), List.forall_mem_cons.mpr ⟨pm_X10_readWork_r1 _ (List.mem_of_getElem? (i := 6) rfl), List.forall_mem_cons.mpr ⟨pm_X10_readWork_r2 _ (List.mem_of_getElem? (i := 0) rfl), fun _ h => absurd h List.not_mem_nil⟩⟩⟩⟩⟩⟩⟩⟩⟩⟩⟩⟩⟩⟩⟩⟩⟩⟩⟩⟩⟩⟩⟩⟩
set_option maxRecDepth 20000 in
theorem pq_X10_readWork_X10_readWord_r2 : ∀ w ∈ wsX10_readWord_r2, w ∈ wsX10_readWork := List.forall_mem_cons.mpr ⟨pm_X10_readWork_r2 _ (List.mem_of_getElem? (i := 1) rfl), List.forall_mem_cons.mpr ⟨pm_X10_readWork_r2 _ (List.mem_of_getElem? (i := 2) rfl), List.forall_mem_cons.mpr ⟨pm_X10_readWork_r2 _ (List.mem_of_getElem? (i := 3) rfl), List.forall_mem_cons.mpr ⟨pm_X10_readWork_r2 _ (List.mem_of_getElem? (i := 4) rfl), List.forall_mem_cons.mpr ⟨pm_X10_readWork_r2 _ (List.mem_of_getElem? (i := 5) rfl), List.forall_mem_cons.mpr ⟨pm_X10_readWork_r2 _ (List.mem_of_getElem? (i := 6) rfl), List.forall_mem_cons.mpr ⟨pm_X10_readWork_r2 _ (List.mem_of_getElem? (i := 7) rfl), List.forall_mem_cons.mpr ⟨pm_X10_readWork_r2 _ (List.mem_of_getElem? (i := 8) rfl), List.forall_mem_cons.mpr ⟨pm_X10_readWork_r2 _ (List.mem_of_getElem? (i := 9) rfl), List.forall_mem_cons.mpr ⟨pm_X10_readWork_r2 _ (List.mem_of_getElem? (i := 10) rfl), List.forall_mem_cons.mpr ⟨pm_X10_readWork_r2 _ (List.mem_of_getElem? (i := 11) rfl), List.forall_mem_cons.mpr ⟨pm_X10_readWork_r2 _ (List.mem_of_getElem? (i := 12) rfl), List.forall_mem_cons.mpr ⟨pm_X10_readWork_r2 _ (List.mem_of_getElem? (i := 13) rfl), List.forall_mem_cons.mpr ⟨pm_X10_readWork_r2 _ (List.mem_of_getElem? (i := 14) rfl), List.forall_mem_cons.mpr ⟨pm_X10_readWork_r2 _ (List.mem_of_getElem? (i := 15) rfl), List.forall_mem_cons.mpr ⟨pm_X10_readWork_r2 _ (List.mem_of_getElem? (i := 16) rfl), List.forall_mem_cons.mpr ⟨pm_X10_readWork_r2 _ (List.mem_of_getElem? (i := 17) rfl), List.forall_mem_cons.mpr ⟨pm_X10_readWork_r2 _ (List.mem_of_getElem? (i := 18) rfl), List.forall_mem_cons.mpr ⟨pm_X10_readWork_r2 _ (List.mem_of_getElem? (i := 19) rfl), List.forall_mem_cons.mpr ⟨pm_X10_readWork_r2 _ (List.mem_of_getElem? (i := 20) rfl), List.forall_mem_cons.mpr ⟨pm_X10_readWork_r2 _ (List.mem_of_getElem? (i := 21) rfl), List.forall_mem_cons.mpr ⟨pm_X10_readWork_r2 _ (List.mem_of_getElem? (i := 22) rfl), List.forall_mem_cons.mpr ⟨pm_X10_readWork_r2 _ (List.mem_of_getElem? (i := 23) rfl), List.forall_mem_cons.mpr ⟨pm_X10_readWork_r3 _ (List.mem_of_getElem? (i := 0) rfl), fun _ h => absurd h List.not_mem_nil⟩⟩⟩⟩⟩⟩⟩⟩⟩⟩⟩⟩⟩⟩⟩⟩⟩⟩⟩⟩⟩⟩⟩⟩
set_option maxRecDepth 20000 in
theorem pq_X10_readWork_X10_readWord_r3 : ∀ w ∈ wsX10_readWord_r3, w ∈ wsX10_readWork := List.forall_mem_cons.mpr ⟨pm_X10_readWork_r3 _ (List.mem_of_getElem? (i := 1) rfl), List.forall_mem_cons.mpr ⟨pm_X10_readWork_r3 _ (List.mem_of_getElem? (i := 2) rfl), List.forall_mem_cons.mpr ⟨pm_X10_readWork_r3 _ (List.mem_of_getElem? (i := 3) rfl), List.forall_mem_cons.mpr ⟨pm_X10_readWork_r3 _ (List.mem_of_getElem? (i := 4) rfl), List.forall_mem_cons.mpr ⟨pm_X10_readWork_r3 _ (List.mem_of_getElem? (i := 5) rfl), List.forall_mem_cons.mpr ⟨pm_X10_readWork_r3 _ (List.mem_of_getElem? (i := 6) rfl), List.forall_mem_cons.mpr ⟨pm_X10_readWork_r3 _ (List.mem_of_getElem? (i := 7) rfl), List.forall_mem_cons.mpr ⟨pm_X10_readWork_r3 _ (List.mem_of_getElem? (i := 8) rfl), List.forall_mem_cons.mpr ⟨pm_X10_readWork_r3 _ (List.mem_of_getElem? (i := 9) rfl), List.forall_mem_cons.mpr ⟨pm_X10_readWork_r3 _ (List.mem_of_getElem? (i := 10) rfl), List.forall_mem_cons.mpr ⟨pm_X10_readWork_r3 _ (List.mem_of_getElem? (i := 11) rfl), List.forall_mem_cons.mpr ⟨pm_X10_readWork_r3 _ (List.mem_of_getElem? (i := 12) rfl), List.forall_mem_cons.mpr ⟨pm_X10_readWork_r3 _ (List.mem_of_getElem? (i := 13) rfl), List.forall_mem_cons.mpr ⟨pm_X10_readWork_r3 _ (List.mem_of_getElem? (i := 14) rfl), List.forall_mem_cons.mpr ⟨pm_X10_readWork_r3 _ (List.mem_of_getElem? (i := 15) rfl), List.forall_mem_cons.mpr ⟨pm_X10_readWork_r3 _ (List.mem_of_getElem? (i := 16) rfl), List.forall_mem_cons.mpr ⟨pm_X10_readWork_r3 _ (List.mem_of_getElem? (i := 17) rfl), List.forall_mem_cons.mpr ⟨pm_X10_readWork_r3 _ (List.mem_of_getElem? (i := 18) rfl), List.forall_mem_cons.mpr ⟨pm_X10_readWork_r3 _ (List.mem_of_getElem? (i := 19) rfl), List.forall_mem_cons.mpr ⟨pm_X10_readWork_r3 _ (List.mem_of_getElem? (i := 20) rfl), List.forall_mem_cons.mpr ⟨pm_X10_readWork_r3 _ (List.mem_of_getElem? (i := 21) rfl), List.forall_mem_cons.mpr ⟨pm_X10_readWork_r3 _ (List.mem_of_getElem? (i := 22) rfl), List.forall_mem_cons.mpr ⟨pm_X10_readWork_r3 _ (List.mem_of_getElem? (i := 23) rfl), List.forall_mem_cons.mpr ⟨pm_X10_readWork_r4 _ (List.mem_of_getElem? (i := 0) rfl), fun _ h => absurd h List.not_mem_nil⟩⟩⟩⟩⟩⟩⟩⟩⟩⟩⟩⟩⟩⟩⟩⟩⟩⟩⟩⟩⟩⟩⟩⟩
set_option maxRecDepth 20000 in
theorem pq_X10_readWork_X10_readWord_r4 : ∀ w ∈ wsX10_readWord_r4, w ∈ wsX10_readWork := List.forall_mem_cons.mpr ⟨pm_X10_readWork_r4 _ (List.mem_of_getElem? (i := 1) rfl), List.forall_mem_cons.mpr ⟨pm_X10_readWork_r4 _ (List.mem_of_getElem? (i := 2) rfl), List.forall_mem_cons.mpr ⟨pm_X10_readWork_r4 _ (List.mem_of_getElem? (i := 3) rfl), List.forall_mem_cons.mpr ⟨pm_X10_readWork_r4 _ (List.mem_of_getElem? (i := 4) rfl), List.forall_mem_cons.mpr ⟨pm_X10_readWork_r4 _ (List.mem_of_getElem? (i := 5) rfl), List.forall_mem_cons.mpr ⟨pm_X10_readWork_r4 _ (List.mem_of_getElem? (i := 6) rfl), List.forall_mem_cons.mpr ⟨pm_X10_readWork_r4 _ (List.mem_of_getElem? (i := 7) rfl), List.forall_mem_cons.mpr ⟨pm_X10_readWork_r4 _ (List.mem_of_getElem? (i := 8) rfl), List.forall_mem_cons.mpr ⟨pm_X10_readWork_r4 _ (List.mem_of_getElem? (i := 9) rfl), List.forall_mem_cons.mpr ⟨pm_X10_readWork_r4 _ (List.mem_of_getElem? (i := 10) rfl), List.forall_mem_cons.mpr ⟨pm_X10_readWork_r4 _ (List.mem_of_getElem? (i := 11) rfl), List.forall_mem_cons.mpr ⟨pm_X10_readWork_r4 _ (List.mem_of_getElem? (i := 12) rfl), List.forall_mem_cons.mpr ⟨pm_X10_readWork_r4 _ (List.mem_of_getElem? (i := 13) rfl), List.forall_mem_cons.mpr ⟨pm_X10_readWork_r4 _ (List.mem_of_getElem? (i := 14) rfl), List.forall_mem_cons.mpr ⟨pm_X10_readWork_r4 _ (List.mem_of_getElem? (i := 15) rfl), List.forall_mem_cons.mpr ⟨pm_X10_readWork_r4 _ (List.mem_of_getElem? (i := 16) rfl), fun _ h => absurd h List.not_mem_nil⟩⟩⟩⟩⟩⟩⟩⟩⟩⟩⟩⟩⟩⟩⟩⟩
set_option maxRecDepth 20000 in
theorem ggX10_readWork_X10_readWord : GoodIn wsX10_readWork wsX10_readWord := goodIn_sub (List.forall_mem_cons.mpr ⟨pm_X10_readWork_r5 _ (List.mem_of_getElem? (i := 0) rfl), List.forall_mem_append.mpr ⟨List.forall_mem_append.mpr ⟨pq_X10_readWork_X10_readWord_r1, List.forall_mem_append.mpr ⟨pq_X10_readWork_X10_readWord_r2, List.forall_mem_append.mpr ⟨pq_X10_readWork_X10_readWord_r3, pq_X10_readWork_X10_readWord_r4⟩⟩⟩, pw_X10_readWork_X10⟩⟩) (by decide +kernel)
set_option maxRecDepth 20000 in
theorem gX10_readWork_X10_readWord : GoodIn wsX10_readWork (wsV RX10 213 RX10 yX10_readWord wsX10_readWord) := goodIn_app (goodIn_of _ (by decide +kernel)) ggX10_readWork_X10_readWord
set_option maxRecDepth 20000 in
theorem pq_X10_readWork_X10_readNumber_r1 : ∀ w ∈ wsX10_readNumber_r1, w ∈ wsX10_readWork := List.forall_mem_cons.mpr ⟨pm_X10_readWork_r1 _ (List.mem_of_getElem? (i := 1) rfl), List.forall_mem_cons.mpr ⟨pm_X10_readWork_r1 _ (List.mem_of_getElem? (i := 6) rfl), List.forall_mem_cons.mpr ⟨pm_X10_readWork_r1 _ (List.mem_of_getElem? (i := 5) rfl), List.forall_mem_cons.mpr ⟨pm_X10_readWork_r1 _ (List.mem_of_getElem? (i := 8) rfl), List.forall_mem_cons.mpr ⟨pm_X10_readWork_r1 _ (List.mem_of_getElem? (i := 9) rfl), List.forall_mem_cons.mpr ⟨pm_X10_readWork_r1 _ (List.mem_of_getElem? (i := 10) rfl), List.forall_mem_cons.mpr ⟨pm_X10_readWork_r1 _ (List.mem_of_getElem? (i := 11) rfl), List.forall_mem_cons.mpr ⟨pm_X10_readWork_r1 _ (List.mem_of_getElem? (i := 12) rfl), List.forall_mem_cons.mpr ⟨pm_X10_readWork_r1 _ (List.mem_of_getElem? (i := 13) rfl), List.forall_mem_cons.mpr ⟨pm_X10_readWork_r1 _ (List.mem_of_getElem? (i := 14) rfl), List.forall_mem_cons.mpr ⟨pm_X10_readWork_r1 _ (List.mem_of_getElem? (i := 15) rfl), List.forall_mem_cons.mpr ⟨pm_X10_readWork_r5 _ (List.mem_of_getElem? (i := 9) rfl), List.forall_mem_cons.mpr ⟨pm_X10_readWork_r5 _ (List.mem_of_getElem? (i := 10) rfl), List.forall_mem_cons.mpr ⟨pm_X10_readWork_r5 _ (List.mem_of_getElem? (i := 11) rfl), List.forall_mem_cons.mpr ⟨pm_X10_readWork_r1 _ (List.mem_of_getElem? (i := 16) rfl), List.forall_mem_cons.mpr ⟨pm_X10_readWork_r1 _ (List.mem_of_getElem? (i := 17) rfl), List.forall_mem_cons.mpr ⟨pm_X10_readWork_r1 _ (List.mem_of_getElem? (i := 18) rfl), List.forall_mem_cons.mpr ⟨pm_X10_readWork_r1 _ (List.mem_of_getElem? (i := 19) rfl), List.forall_mem_cons.mpr ⟨pm_X10_readWork_r1 _ (List.mem_of_getElem? (i := 20) rfl), List.forall_mem_cons.mpr ⟨pm_X10_readWork_r1 _ (List.mem_of_getElem? (i := 21) rfl), List.forall_mem_cons.mpr ⟨pm_X10_readWork_r1 _ (List.mem_of_getElem? (i := 3) rfl), List.forall_mem_cons.mpr ⟨pm_X10_readWork_r1 _ (List.mem_of_getElem? (i := 22) rfl), List.forall_mem_cons.mpr ⟨pm_X10_readWork_r1 _ (List.mem_of_getElem? (i := 23) rfl), List.forall_mem_cons.mpr ⟨pm_X10_readWork_r2 _ (List.mem_of_getElem? (i := 0) rfl), fun _ h => absurd h List.not_mem_nil⟩⟩⟩⟩⟩⟩⟩⟩⟩⟩⟩⟩⟩⟩⟩⟩⟩⟩⟩⟩⟩⟩⟩⟩
set_option maxRecDepth 20000 in
theorem pq_X10_readWork_X10_readNumber_r2 : ∀ w ∈ wsX10_readNumber_r2, w ∈ wsX10_readWork := List.forall_mem_cons.mpr ⟨pm_X10_readWork_r2 _ (List.mem_of_getElem? (i := 1) rfl), List.forall_mem_cons.mpr ⟨pm_X10_readWork_r2 _ (List.mem_of_getElem? (i := 2) rfl), List.forall_mem_cons.mpr ⟨pm_X10_readWork_r2 _ (List.mem_of_getElem? (i := 3) rfl), List.forall_mem_cons.mpr ⟨pm_X10_readWork_r2 _ (List.mem_of_getElem? (i := 4) rfl), List.forall_mem_cons.mpr ⟨pm_X10_readWork_r2 _ (List.mem_of_getElem? (i := 5) rfl), List.forall_mem_cons.mpr ⟨pm_X10_readWork_r2 _ (List.mem_of_getElem? (i := 6) rfl), List.forall_mem_cons.mpr ⟨pm_X10_readWork_r2 _ (List.mem_of_getElem? (i := 7) rfl), List.forall_mem_cons.mpr ⟨pm_X10_readWork_r2 _ (List.mem_of_getElem? (i := 8) rfl), List.forall_mem_cons.mpr ⟨pm_X10_readWork_r2 _ (List.mem_of_getElem? (i := 9) rfl), List.forall_mem_cons.mpr ⟨pm_X10_readWork_r2 _ (List.mem_of_getElem? (i := 10) rfl), List.forall_mem_cons.mpr ⟨pm_X10_readWork_r2 _ (List.mem_of_getElem? (i := 11) rfl), List.forall_mem_cons.mpr ⟨pm_X10_readWork_r2 _ (List.mem_of_getElem? (i := 12) rfl), List.forall_mem_cons.mpr ⟨pm_X10_readWork_r2 _ (List.mem_of_getElem? (i := 13) rfl), List.forall_mem_cons.mpr ⟨pm_X10_readWork_r2 _ (List.mem_of_getElem? (i := 14) rfl), List.forall_mem_cons.mpr ⟨pm_X10_readWork_r2 _ (List.mem_of_getElem? (i := 15) rfl), List.forall_mem_cons.mpr ⟨pm_X10_readWork_r2 _ (List.mem_of_getElem? (i := 16) rfl), List.forall_mem_cons.mpr ⟨pm_X10_readWork_r2 _ (List.mem_of_getElem? (i := 17) rfl), List.forall_mem_cons.mpr ⟨pm_X10_readWork_r2 _ (List.mem_of_getElem? (i := 18) rfl), List.forall_mem_cons.mpr ⟨pm_X10_readWork_r2 _ (List.mem_of_getElem? (i := 19) rfl), List.forall_mem_cons.mpr ⟨pm_X10_readWork_r2 _ (List.mem_of_getElem? (i := 20) rfl), List.forall_mem_cons.mpr ⟨pm_X10_readWork_r2 _ (List.mem_of_getElem? (i := 21) rfl), List.forall_mem_cons.mpr ⟨pm_X10_readWork_r2 _ (List.mem_of_getElem? (i := 22) rfl), List.forall_mem_cons.mpr ⟨pm_X10_readWork_r2 _ (List.mem_of_getElem? (i := 23) rfl), List.forall_mem_cons.mpr ⟨pm_X10_readWork_r3 _ (List.mem_of_getElem? (i := 0) rfl), fun _ h => absurd h List.not_mem_nil⟩⟩⟩⟩⟩⟩⟩⟩⟩⟩⟩⟩⟩⟩⟩⟩⟩⟩⟩⟩⟩⟩⟩⟩
set_option maxRecDepth 20000 in
theorem pq_X10_readWork_X10_readNumber_r3 : ∀ w ∈ wsX10_readNumber_r3, w ∈ wsX10_readWork := List.forall_mem_cons.mpr ⟨pm_X10_readWork_r3 _ (List.mem_of_getElem? (i := 1) rfl), List.forall_mem_cons.mpr ⟨pm_X10_readWork_r3 _ (List.mem_of_getElem? (i := 2) rfl), List.forall_mem_cons.mpr ⟨pm_X10_readWork_r3 _ (List.mem_of_getElem? (i := 3) rfl), List.forall_mem_cons.mpr ⟨pm_X10_readWork_r3 _ (List.mem_of_getElem? (i := 4) rfl), List.forall_mem_cons.mpr ⟨pm_X10_readWork_r3 _ (List.mem_of_getElem? (i := 5) rfl), List.forall_mem_cons.mpr ⟨pm_X10_readWork_r3 _ (List.mem_of_getElem? (i := 6) rfl), List.forall_mem_cons.mpr ⟨pm_X10_readWork_r3 _ (List.mem_of_getElem? (i := 7) rfl), List.forall_mem_cons.mpr ⟨pm_X10_readWork_r3 _ (List.mem_of_getElem? (i := 8) rfl), List.forall_mem_cons.mpr ⟨pm_X10_readWork_r3 _ (List.mem_of_getElem? (i := 9) rfl), List.forall_mem_cons.mpr ⟨pm_X10_readWork_r3 _ (List.mem_of_getElem? (i := 10) rfl), List.forall_mem_cons.mpr ⟨pm_X10_readWork_r3 _ (List.mem_of_getElem? (i := 11) rfl), List.forall_mem_cons.mpr ⟨pm_X10_readWork_r3 _ (List.mem_of_getElem? (i := 12) rfl), List.forall_mem_cons.mpr ⟨pm_X10_readWork_r3 _ (List.mem_of_getElem? (i := 13) rfl), List.forall_mem_cons.mpr ⟨pm_X10_readWork_r3 _ (List.mem_of_getElem? (i := 14) rfl), List.forall_mem_cons.mpr ⟨pm_X10_readWork_r3 _ (List.mem_of_getElem? (i := 15) rfl), List.forall_mem_cons.mpr ⟨pm_X10_readWork_r3 _ (List.mem_of_getElem? (i := 16) rfl), List.forall_mem_cons.mpr ⟨pm_X10_readWork_r3 _ (List.mem_of_getElem? (i := 17) rfl), List.forall_mem_cons.mpr ⟨pm_X10_readWork_r3 _ (List.mem_of_getElem? (i := 18) rfl), List.forall_mem_cons.mpr ⟨pm_X10_readWork_r3 _ (List.mem_of_getElem? (i := 19) rfl), List.forall_mem_cons.mpr ⟨pm_X10_readWork_r3 _ (List.mem_of_getElem? (i := 20) rfl), List.forall_mem_cons.mpr ⟨pm_X10_readWork_r3 _ (List.mem_of_getElem? (i := 21) rfl), List.forall_mem_cons.mpr ⟨pm_X10_readWork_r3 _ (List.mem_of_getElem? (i := 22) rfl), List.forall_mem_cons.mpr ⟨pm_X10_readWork_r3 _ (List.mem_of_getElem? (i := 23) rfl), List.forall_mem_cons.mpr ⟨pm_X10_readWork_r4 _ (List.mem_of_getElem? (i := 0) rfl), fun _ h => absurd h List.not_mem_nil⟩⟩⟩⟩⟩⟩⟩⟩⟩⟩⟩⟩⟩⟩⟩⟩⟩⟩⟩⟩⟩⟩⟩⟩
set_option maxRecDepth 20000 in
theorem pq_X10_readWork_X10_readNumber_r4 : ∀ w ∈ wsX10_readNumber_r4, w ∈ wsX10_readWork := List.forall_mem_cons.mpr ⟨pm_X10_readWork_r4 _ (List.mem_of_getElem? (i := 1) rfl), List.forall_mem_cons.mpr ⟨pm_X10_readWork_r4 _ (List.mem_of_getElem? (i := 2) rfl), List.forall_mem_cons.mpr ⟨pm_X10_readWork_r4 _ (List.mem_of_getElem? (i := 3) rfl), List.forall_mem_cons.mpr ⟨pm_X10_readWork_r4 _ (List.mem_of_getElem? (i := 4) rfl), List.forall_mem_cons.mpr ⟨pm_X10_readWork_r4 _ (List.mem_of_getElem? (i := 5) rfl), List.forall_mem_cons.mpr ⟨pm_X10_readWork_r4 _ (List.mem_of_getElem? (i := 6) rfl), List.forall_mem_cons.mpr ⟨pm_X10_readWork_r4 _ (List.mem_of_getElem? (i := 7) rfl), List.forall_mem_cons.mpr ⟨pm_X10_readWork_r4 _ (List.mem_of_getElem? (i := 8) rfl), List.forall_mem_cons.mpr ⟨pm_X10_readWork_r4 _ (List.mem_of_getElem? (i := 9) rfl), List.forall_mem_cons.mpr ⟨pm_X10_readWork_r4 _ (List.mem_of_getElem? (i := 10) rfl), List.forall_mem_cons.mpr ⟨pm_X10_readWork_r4 _ (List.mem_of_getElem? (i := 11) rfl), List.forall_mem_cons.mpr ⟨pm_X10_readWork_r4 _ (List.mem_of_getElem? (i := 12) rfl), List.forall_mem_cons.mpr ⟨pm_X10_readWork_r4 _ (List.mem_of_getElem? (i := 13) rfl), List.forall_mem_cons.mpr ⟨pm_X10_readWork_r4 _ (List.mem_of_getElem? (i := 14) rfl), List.forall_mem_cons.mpr ⟨pm_X10_readWork_r4 _ (List.mem_of_getElem? (i := 15) rfl), List.forall_mem_cons.mpr ⟨pm_X10_readWork_r4 _ (List.mem_of_getElem? (i := 16) rfl), fun _ h => absurd h List.not_mem_nil⟩⟩⟩⟩⟩⟩⟩⟩⟩⟩⟩⟩⟩⟩⟩⟩
set_option maxRecDepth 20000 in
theorem ggX10_readWork_X10_readNumber : GoodIn wsX10_readWork wsX10_readNumber := goodIn_sub (List.forall_mem_cons.mpr ⟨pm_X10_readWork_r5 _ (List.mem_of_getElem? (i := 8) rfl), List.forall_mem_append.mpr ⟨List.forall_mem_append.mpr ⟨pq_X10_readWork_X10_readNumber_r1, List.forall_mem_append.mpr ⟨pq_X10_readWork_X10_readNumber_r2, List.forall_mem_append.mpr ⟨pq_X10_readWork_X10_readNumber_r3, pq_X10_readWork_X10_readNumber_r4⟩⟩⟩, pw_X10_readWork_X10⟩⟩) (by decide +kernel)
set_option maxRecDepth 20000 in
theorem gX10_readWork_X10_readNumber : GoodIn wsX10_readWork (wsV RX10 216 RX10 yX10_readNumber wsX10_readNumber) := goodIn_app (goodIn_of _ (by decide +kernel)) ggX10_readWork_X10_readNumber
set_option maxRecDepth 20000 in
theorem ggX10_readWork_X10_in : GoodIn wsX10_readWork wsX10_in := goodIn_sub (List.forall_mem_cons.mpr ⟨pm_X10_readWork_r5 _ (List.mem_of_getElem? (i := 11) rfl), fun _ h => absurd h List.not_mem_nil⟩) (by decide +kernel)
set_option maxRecDepth 20000 in
theorem gX10_readWork_X10_in : GoodIn wsX10_readWork (va_wsS RX10 174 yX10_in wsX10_in) := goodIn_app (goodIn_of _ (by decide +kernel)) ggX10_readWork_X10_in
set_option maxRecDepth 20000 in
theorem pq_X10_readWork_X10_readSemi_r1 : ∀ w ∈ wsX10_readSemi_r1, w ∈ wsX10_readWork := List.forall_mem_cons.mpr ⟨pm_X10_readWork_r1 _ (List.mem_of_getElem? (i := 1) rfl), List.forall_mem_cons.mpr ⟨pm_X10_readWork_r1 _ (List.mem_of_getElem? (i := 8) rfl), List.forall_mem_cons.mpr ⟨pm_X10_readWork_r1 _ (List.mem_of_getElem? (i := 9) rfl), List.forall_mem_cons.mpr ⟨pm_X10_readWork_r1 _ (List.mem_of_getElem? (i := 10) rfl), List.forall_mem_cons.mpr ⟨pm_X10_readWork_r1 _ (List.mem_of_getElem? (i := 11) rfl), List.forall_mem_cons.mpr ⟨pm_X10_readWork_r1 _ (List.mem_of_getElem? (i := 12) rfl), List.forall_mem_cons.mpr ⟨pm_X10_readWork_r1 _ (List.mem_of_getElem? (i := 13) rfl), List.forall_mem_cons.mpr ⟨pm_X10_readWork_r1 _ (List.mem_of_getElem? (i := 14) rfl), List.forall_mem_cons.mpr ⟨pm_X10_readWork_r1 _ (List.mem_of_getElem? (i := 15) rfl), List.forall_mem_cons.mpr ⟨pm_X10_readWork_r1 _ (List.mem_of_getElem? (i := 16) rfl), List.forall_mem_cons.mpr ⟨pm_X10_readWork_r1 _ (List.mem_of_getElem? (i := 17) rfl), List.forall_mem_cons.mpr ⟨pm_X10_readWork_r1 _ (List.mem_of_getElem? (i := 18) rfl), List.forall_mem_cons.mpr ⟨pm_X10_readWork_r1 _ (List.mem_of_getElem? (i := 19) rfl), List.forall_mem_cons.mpr ⟨pm_X10_readWork_r1 _ (List.mem_of_getElem? (i := 20) rfl), List.forall_mem_cons.mpr ⟨pm_X10_readWork_r1 _ (List.mem_of_getElem? (i := 21) rfl), List.forall_mem_cons.mpr ⟨pm_X10_readWork_r1 _ (List.mem_of_getElem? (i := 3) rfl), List.forall_mem_cons.mpr ⟨pm_X10_readWork_r1 _ (List.mem_of_getElem? (i := 22) rfl), List.forall_mem_cons.mpr ⟨pm_X10_readWork_r1 _ (List.mem_of_getElem? (i := 23) rfl), List.forall_mem_cons.mpr ⟨pm_X10_readWork_r1 _ (List.mem_of_getElem? (i := 6) rfl), List.forall_mem_cons.mpr ⟨pm_X10_readWork_r2 _ (List.mem_of_getElem? (i := 0) rfl), List.forall_mem_cons.mpr ⟨pm_X10_readWork_r2 _ (List.mem_of_getElem? (i := 1) rfl), List.forall_mem_cons.mpr ⟨pm_X10_readWork_r2 _ (List.mem_of_getElem? (i := 2) rfl), List.forall_mem_cons.mpr ⟨pm_X10_readWork_r2 _ (List.mem_of_getElem? (i := 3) rfl), List.forall_mem_cons.mpr ⟨pm_X10_readWork_r2 _ (List.mem_of_getElem? (i := 4) rfl), fun _ h => absurd h List.not_mem_nil⟩⟩⟩⟩⟩⟩⟩⟩⟩⟩⟩⟩⟩⟩⟩⟩⟩⟩⟩⟩⟩⟩⟩⟩
set_option maxRecDepth 20000 in
theorem pq_X10_readWork_X10_readSemi_r2 : ∀ w ∈ wsX10_readSemi_r2, w ∈ wsX10_readWork := List.forall_mem_cons.mpr ⟨pm_X10_readWork_r2 _ (List.mem_of_getElem? (i := 5) rfl), List.forall_mem_cons.mpr ⟨pm_X10_readWork_r2 _ (List.mem_of_getElem? (i := 6) rfl), List.forall_mem_cons.mpr ⟨pm_X10_readWork_r2 _ (List.mem_of_getElem? (i := 7) rfl), List.forall_mem_cons.mpr ⟨pm_X10_readWork_r2 _ (List.mem_of_getElem? (i := 8) rfl), List.forall_mem_cons.mpr ⟨pm_X10_readWork_r2 _ (List.mem_of_getElem? (i := 9) rfl), List.forall_mem_cons.mpr ⟨pm_X10_readWork_r2 _ (List.mem_of_getElem? (i := 10) rfl), List.forall_mem_cons.mpr ⟨pm_X10_readWork_r2 _ (List.mem_of_getElem? (i := 11) rfl), List.forall_mem_cons.mpr ⟨pm_X10_readWork_r2 _ (List.mem_of_getElem? (i := 12) rfl), List.forall_mem_cons.mpr ⟨pm_X10_readWork_r2 _ (List.mem_of_getElem? (i := 13) rfl), List.forall_mem_cons.mpr ⟨pm_X10_readWork_r2 _ (List.mem_of_getElem? (i := 14) rfl), List.forall_mem_cons.mpr ⟨pm_X10_readWork_r2 _ (List.mem_of_getElem? (i := 15) rfl), List.forall_mem_cons.mpr ⟨pm_X10_readWork_r2 _ (List.mem_of_getElem? (i := 16) rfl), List.forall_mem_cons.mpr ⟨pm_X10_readWork_r2 _ (List.mem_of_getElem? (i := 17) rfl), List.forall_mem_cons.mpr ⟨pm_X10_readWork_r2 _ (List.mem_of_getElem? (i := 18) rfl), List.forall_mem_cons.mpr ⟨pm_X10_readWork_r2 _ (List.mem_of_getElem? (i := 19) rfl), List.forall_mem_cons.mpr ⟨pm_X10_readWork_r2 _ (List.mem_of_getElem? (i := 20) rfl), List.forall_mem_cons.mpr ⟨pm_X10_readWork_r2 _ (List.mem_of_getElem? (i := 21) rfl), List.forall_mem_cons.mpr ⟨pm_X10_readWork_r2 _ (List.mem_of_getElem? (i := 22) rfl), List.forall_mem_cons.mpr ⟨pm_X10_readWork_r2 _ (List.mem_of_getElem? (i := 23) rfl), List.forall_mem_cons.mpr ⟨pm_X10_readWork_r3 _ (List.mem_of_getElem? (i := 0) rfl), List.forall_mem_cons.mpr ⟨pm_X10_readWork_r3 _ (List.mem_of_getElem? (i := 1) rfl), List.forall_mem_cons.mpr ⟨pm_X10_readWork_r3 _ (List.mem_of_getElem? (i := 2) rfl), List.forall_mem_cons.mpr ⟨pm_X10_readWork_r3 _ (List.mem_of_getElem? (i := 3) rfl), List.forall_mem_cons.mpr ⟨pm_X10_readWork_r3 _ (List.mem_of_getElem? (i := 4) rfl), fun _ h => absurd h List.not_mem_nil⟩⟩⟩⟩⟩⟩⟩⟩⟩⟩⟩⟩⟩⟩⟩⟩⟩⟩⟩⟩⟩⟩⟩⟩
set_option maxRecDepth 20000 in
theorem pq_X10_readWork_X10_readSemi_r3 : ∀ w ∈ wsX10_readSemi_r3, w ∈ wsX10_readWork := List.forall_mem_cons.mpr ⟨pm_X10_readWork_r3 _ (List.mem_of_getElem? (i := 5) rfl), List.forall_mem_cons.mpr ⟨pm_X10_readWork_r3 _ (List.mem_of_getElem? (i := 6) rfl), List.forall_mem_cons.mpr ⟨pm_X10_readWork_r3 _ (List.mem_of_getElem? (i := 7) rfl), List.forall_mem_cons.mpr ⟨pm_X10_readWork_r3 _ (List.mem_of_getElem? (i := 8) rfl), List.forall_mem_cons.mpr ⟨pm_X10_readWork_r3 _ (List.mem_of_getElem? (i := 9) rfl), List.forall_mem_cons.mpr ⟨pm_X10_readWork_r3 _ (List.mem_of_getElem? (i := 10) rfl), List.forall_mem_cons.mpr ⟨pm_X10_readWork_r3 _ (List.mem_of_getElem? (i := 11) rfl), List.forall_mem_cons.mpr ⟨pm_X10_readWork_r3 _ (List.mem_of_getElem? (i := 12) rfl), List.forall_mem_cons.mpr ⟨pm_X10_readWork_r3 _ (List.mem_of_getElem? (i := 13) rfl), List.forall_mem_cons.mpr ⟨pm_X10_readWork_r3 _ (List.mem_of_getElem? (i := 14) rfl), List.forall_mem_cons.mpr ⟨pm_X10_readWork_r3 _ (List.mem_of_getElem? (i := 15) rfl), List.forall_mem_cons.mpr ⟨pm_X10_readWork_r3 _ (List.mem_of_getElem? (i := 16) rfl), List.forall_mem_cons.mpr ⟨pm_X10_readWork_r3 _ (List.mem_of_getElem? (i := 17) rfl), List.forall_mem_cons.mpr ⟨pm_X10_readWork_r3 _ (List.mem_of_getElem? (i := 18) rfl), List.forall_mem_cons.mpr ⟨pm_X10_readWork_r3 _ (List.mem_of_getElem? (i := 19) rfl), List.forall_mem_cons.mpr ⟨pm_X10_readWork_r3 _ (List.mem_of_getElem? (i := 20) rfl), List.forall_mem_cons.mpr ⟨pm_X10_readWork_r3 _ (List.mem_of_getElem? (i := 21) rfl), List.forall_mem_cons.mpr ⟨pm_X10_readWork_r3 _ (List.mem_of_getElem? (i := 22) rfl), List.forall_mem_cons.mpr ⟨pm_X10_readWork_r3 _ (List.mem_of_getElem? (i := 23) rfl), List.forall_mem_cons.mpr ⟨pm_X10_readWork_r4 _ (List.mem_of_getElem? (i := 0) rfl), List.forall_mem_cons.mpr ⟨pm_X10_readWork_r4 _ (List.mem_of_getElem? (i := 1) rfl), List.forall_mem_cons.mpr ⟨pm_X10_readWork_r4 _ (List.mem_of_getElem? (i := 2) rfl), List.forall_mem_cons.mpr ⟨pm_X10_readWork_r4 _ (List.mem_of_getElem? (i := 3) rfl), List.forall_mem_cons.mpr ⟨pm_X10_readWork_r4 _ (List.mem_of_getElem? (i := 4) rfl), fun _ h => absurd h List.not_mem_nil⟩⟩⟩⟩⟩⟩⟩⟩⟩⟩⟩⟩⟩⟩⟩⟩⟩⟩⟩⟩⟩⟩⟩⟩
set_option maxRecDepth 20000 in
theorem pq_X10_readWork_X10_readSemi_r4 : ∀ w ∈ wsX10_readSemi_r4, w ∈ wsX10_readWork := List.forall_mem_cons.mpr ⟨pm_X10_readWork_r4 _ (List.mem_of_getElem? (i := 5) rfl), List.forall_mem_cons.mpr ⟨pm_X10_readWork_r4 _ (List.mem_of_getElem? (i := 6) rfl), List.forall_mem_cons.mpr ⟨pm_X10_readWork_r4 _ (List.mem_of_getElem? (i := 7) rfl), List.forall_mem_cons.mpr ⟨pm_X10_readWork_r4 _ (List.mem_of_getElem? (i := 8) rfl), List.forall_mem_cons.mpr ⟨pm_X10_readWork_r4 _ (List.mem_of_getElem? (i := 9) rfl), List.forall_mem_cons.mpr ⟨pm_X10_readWork_r4 _ (List.mem_of_getElem? (i := 10) rfl), List.forall_mem_cons.mpr ⟨pm_X10_readWork_r4 _ (List.mem_of_getElem? (i := 11) rfl), List.forall_mem_cons.mpr ⟨pm_X10_readWork_r4 _ (List.mem_of_getElem? (i := 12) rfl), List.forall_mem_cons.mpr ⟨pm_X10_readWork_r4 _ (List.mem_of_getElem? (i := 13) rfl), List.forall_mem_cons.mpr ⟨pm_X10_readWork_r4 _ (List.mem_of_getElem? (i := 14) rfl), List.forall_mem_cons.mpr ⟨pm_X10_readWork_r4 _ (List.mem_of_getElem? (i := 15) rfl), List.forall_mem_cons.mpr ⟨pm_X10_readWork_r4 _ (List.mem_of_getElem? (i := 16) rfl), fun _ h => absurd h List.not_mem_nil⟩⟩⟩⟩⟩⟩⟩⟩⟩⟩⟩⟩
set_option maxRecDepth 20000 in
theorem ggX10_readWork_X10_readSemi : GoodIn wsX10_readWork wsX10_readSemi := goodIn_sub (List.forall_mem_cons.mpr ⟨pm_X10_readWork_r5 _ (List.mem_of_getElem? (i := 15) rfl), List.forall_mem_append.mpr ⟨List.forall_mem_append.mpr ⟨pq_X10_readWork_X10_readSemi_r1, List.forall_mem_append.mpr ⟨pq_X10_readWork_X10_readSemi_r2, List.forall_mem_append.mpr ⟨pq_X10_readWork_X10_readSemi_r3, pq_X10_readWork_X10_readSemi_r4⟩⟩⟩, pw_X10_readWork_X10⟩⟩) (by decide +kernel)
set_option maxRecDepth 20000 in
theorem gX10_readWork_X10_readSemi : GoodIn wsX10_readWork (wsV RX10 220 RX10 yX10_readSemi wsX10_readSemi) := goodIn_app (goodIn_of _ (by decide +kernel)) ggX10_readWork_X10_readSemi
theorem dX10_readWork_0 : decode cX10_readWork 0 = .ok (.aload_n 0, 1) := by decide +kernel
theorem dX10_readWork_1 : decode cX10_readWork 1 = .ok (.getfield 17, 3) := by decide +kernel
theorem dX10_readWork_4 : decode cX10_readWork 4 = .ok (.bipush 10, 2) := by decide +kernel
theorem dX10_readWork_6 : decode cX10_readWork 6 = .ok (.iaload, 1) := by decide +kernel
theorem dX10_readWork_7 : decode cX10_readWork 7 = .ok (.istore_n 1, 1) := by decide +kernel
theorem dX10_readWork_8 : decode cX10_readWork 8 = .ok (.iload_n 1, 1) := by decide +kernel
theorem dX10_readWork_9 : decode cX10_readWork 9 = .ok (.iconst 5, 1) := by decide +kernel
theorem dX10_readWork_10 : decode cX10_readWork 10 = .ok (.if_icmp .ne 9, 3) := by decide +kernel
theorem dX10_readWork_13 : decode cX10_readWork 13 = .ok (.aload_n 0, 1) := by decide +kernel
theorem dX10_readWork_14 : decode cX10_readWork 14 = .ok (.iconst 4, 1) := by decide +kernel
theorem dX10_readWork_15 : decode cX10_readWork 15 = .ok (.invokevirtual 171, 3) := by decide +kernel
theorem dX10_readWork_18 : decode cX10_readWork 18 = .ok (.ireturn, 1) := by decide +kernel
theorem dX10_readWork_19 : decode cX10_readWork 19 = .ok (.aload_n 0, 1) := by decide +kernel
theorem dX10_readWork_20 : decode cX10_readWork 20 = .ok (.invokevirtual 181, 3) := by decide +kernel
theorem dX10_readWork_23 : decode cX10_readWork 23 = .ok (.aload_n 0, 1) := by decide +kernel
theorem dX10_readWork_24 : decode cX10_readWork 24 = .ok (.getfield 143, 3) := by decide +kernel
theorem dX10_readWork_27 : decode cX10_readWork 27 = .ok (.iconst 1, 1) := by decide +kernel
theorem dX10_readWork_28 : decode cX10_readWork 28 = .ok (.if_icmp .eq 9, 3) := by decide +kernel
theorem dX10_readWork_31 : decode cX10_readWork 31 = .ok (.aload_n 0, 1) := by decide +kernel
theorem dX10_readWork_32 : decode cX10_readWork 32 = .ok (.iconst 1, 1) := by decide +kernel
theorem dX10_readWork_33 : decode cX10_readWork 33 = .ok (.invokevirtual 171, 3) := by decide +kernel
theorem dX10_readWork_36 : decode cX10_readWork 36 = .ok (.ireturn, 1) := by decide +kernel
theorem dX10_readWork_37 : decode cX10_readWork 37 = .ok (.aload_n 0, 1) := by decide +kernel
theorem dX10_readWork_38 : decode cX10_readWork 38 = .ok (.aload_n 0, 1) := by decide +kernel
theorem dX10_readWork_39 : decode cX10_readWork 39 = .ok (.getfield 25, 3) := by decide +kernel
theorem dX10_readWork_42 : decode cX10_readWork 42 = .ok (.iload_n 1, 1) := by decide +kernel
theorem dX10_readWork_43 : decode cX10_readWork 43 = .ok (.invokevirtual 209, 3) := by decide +kernel
theorem dX10_readWork_46 : decode cX10_readWork 46 = .ok (.ifCond .eq 9, 3) := by decide +kernel
theorem dX10_readWork_49 : decode cX10_readWork 49 = .ok (.aload_n 0, 1) := by decide +kernel
theorem dX10_readWork_50 : decode cX10_readWork 50 = .ok (.iconst 3, 1) := by decide +kernel
theorem dX10_readWork_51 : decode cX10_readWork 51 = .ok (.invokevirtual 171, 3) := by decide +kernel
theorem dX10_readWork_54 : decode cX10_readWork 54 = .ok (.ireturn, 1) := by decide +kernel
theorem dX10_readWork_55 : decode cX10_readWork 55 = .ok (.aload_n 0, 1) := by decide +kernel
theorem dX10_readWork_56 : decode cX10_readWork 56 = .ok (.getfield 25, 3) := by decide +kernel
theorem dX10_readWork_59 : decode cX10_readWork 59 = .ok (.iload_n 1, 1) := by decide +kernel
theorem dX10_readWork_60 : decode cX10_readWork 60 = .ok (.aload_n 0, 1) := by decide +kernel
theorem dX10_readWork_61 : decode cX10_readWork 61 = .ok (.getfield 150, 3) := by decide +kernel
theorem dX10_readWork_64 : decode cX10_readWork 64 = .ok (.lastore, 1) := by decide +kernel
theorem dX10_readWork_65 : decode cX10_readWork 65 = .ok (.aload_n 0, 1) := by decide +kernel
theorem dX10_readWork_66 : decode cX10_readWork 66 = .ok (.invokevirtual 181, 3) := by decide +kernel
theorem dX10_readWork_69 : decode cX10_readWork 69 = .ok (.aload_n 0, 1) := by decide +kernel
theorem dX10_readWork_70 : decode cX10_readWork 70 = .ok (.iconst 4, 1) := by decide +kernel
theorem dX10_readWork_71 : decode cX10_readWork 71 = .ok (.invokevirtual 213, 3) := by decide +kernel
theorem dX10_readWork_74 : decode cX10_readWork 74 = .ok (.ifCond .eq 13, 3) := by decide +kernel
theorem dX10_readWork_77 : decode cX10_readWork 77 = .ok (.aload_n 0, 1) := by decide +kernel
theorem dX10_readWork_78 : decode cX10_readWork 78 = .ok (.iconst 0, 1) := by decide +kernel
theorem dX10_readWork_79 : decode cX10_readWork 79 = .ok (.bipush 99, 2) := by decide +kernel
theorem dX10_readWork_81 : decode cX10_readWork 81 = .ok (.invokevirtual 216, 3) := by decide +kernel
theorem dX10_readWork_84 : decode cX10_readWork 84 = .ok (.ifCond .ne 5, 3) := by decide +kernel
theorem dX10_readWork_87 : decode cX10_readWork 87 = .ok (.iconst 0, 1) := by decide +kernel
theorem dX10_readWork_88 : decode cX10_readWork 88 = .ok (.ireturn, 1) := by decide +kernel
theorem dX10_readWork_89 : decode cX10_readWork 89 = .ok (.aload_n 0, 1) := by decide +kernel
theorem dX10_readWork_90 : decode cX10_readWork 90 = .ok (.getfield 31, 3) := by decide +kernel
theorem dX10_readWork_93 : decode cX10_readWork 93 = .ok (.iconst 5, 1) := by decide +kernel
theorem dX10_readWork_94 : decode cX10_readWork 94 = .ok (.iload_n 1, 1) := by decide +kernel
theorem dX10_readWork_95 : decode cX10_readWork 95 = .ok (.iadd, 1) := by decide +kernel
theorem dX10_readWork_96 : decode cX10_readWork 96 = .ok (.aload_n 0, 1) := by decide +kernel
theorem dX10_readWork_97 : decode cX10_readWork 97 = .ok (.getfield 178, 3) := by decide +kernel
theorem dX10_readWork_100 : decode cX10_readWork 100 = .ok (.iastore, 1) := by decide +kernel
theorem dX10_readWork_101 : decode cX10_readWork 101 = .ok (.aload_n 0, 1) := by decide +kernel
theorem dX10_readWork_102 : decode cX10_readWork 102 = .ok (.iconst 5, 1) := by decide +kernel
theorem dX10_readWork_103 : decode cX10_readWork 103 = .ok (.invokevirtual 213, 3) := by decide +kernel
theorem dX10_readWork_106 : decode cX10_readWork 106 = .ok (.ifCond .ne 5, 3) := by decide +kernel
theorem dX10_readWork_109 : decode cX10_readWork 109 = .ok (.iconst 0, 1) := by decide +kernel
theorem dX10_readWork_110 : decode cX10_readWork 110 = .ok (.ireturn, 1) := by decide +kernel
theorem dX10_readWork_111 : decode cX10_readWork 111 = .ok (.aload_n 0, 1) := by decide +kernel
theorem dX10_readWork_112 : decode cX10_readWork 112 = .ok (.getfield 17, 3) := by decide +kernel
theorem dX10_readWork_115 : decode cX10_readWork 115 = .ok (.bipush 9, 2) := by decide +kernel
theorem dX10_readWork_117 : decode cX10_readWork 117 = .ok (.iaload, 1) := by decide +kernel
theorem dX10_readWork_118 : decode cX10_readWork 118 = .ok (.istore_n 2, 1) := by decide +kernel
theorem dX10_readWork_119 : decode cX10_readWork 119 = .ok (.iconst 0, 1) := by decide +kernel
theorem dX10_readWork_120 : decode cX10_readWork 120 = .ok (.istore_n 3, 1) := by decide +kernel
theorem dX10_readWork_121 : decode cX10_readWork 121 = .ok (.iconst 0, 1) := by decide +kernel
theorem dX10_readWork_122 : decode cX10_readWork 122 = .ok (.istore 4, 2) := by decide +kernel
theorem dX10_readWork_124 : decode cX10_readWork 124 = .ok (.iload 4, 2) := by decide +kernel
theorem dX10_readWork_126 : decode cX10_readWork 126 = .ok (.iload_n 2, 1) := by decide +kernel
theorem dX10_readWork_127 : decode cX10_readWork 127 = .ok (.if_icmp .ge 102, 3) := by decide +kernel
theorem dX10_readWork_130 : decode cX10_readWork 130 = .ok (.aload_n 0, 1) := by decide +kernel
theorem dX10_readWork_131 : decode cX10_readWork 131 = .ok (.getfield 143, 3) := by decide +kernel
theorem dX10_readWork_134 : decode cX10_readWork 134 = .ok (.iconst 2, 1) := by decide +kernel
theorem dX10_readWork_135 : decode cX10_readWork 135 = .ok (.if_icmp .eq 9, 3) := by decide +kernel
theorem dX10_readWork_138 : decode cX10_readWork 138 = .ok (.aload_n 0, 1) := by decide +kernel
theorem dX10_readWork_139 : decode cX10_readWork 139 = .ok (.iconst 1, 1) := by decide +kernel
theorem dX10_readWork_140 : decode cX10_readWork 140 = .ok (.invokevirtual 171, 3) := by decide +kernel
theorem dX10_readWork_143 : decode cX10_readWork 143 = .ok (.ireturn, 1) := by decide +kernel
theorem dX10_readWork_144 : decode cX10_readWork 144 = .ok (.aload_n 0, 1) := by decide +kernel
theorem dX10_readWork_145 : decode cX10_readWork 145 = .ok (.getfield 165, 3) := by decide +kernel
theorem dX10_readWork_148 : decode cX10_readWork 148 = .ok (.i2l, 1) := by decide +kernel
theorem dX10_readWork_149 : decode cX10_readWork 149 = .ok (.lconst 0, 1) := by decide +kernel
theorem dX10_readWork_150 : decode cX10_readWork 150 = .ok (.aload_n 0, 1) := by decide +kernel
theorem dX10_readWork_151 : decode cX10_readWork 151 = .ok (.getfield 17, 3) := by decide +kernel
theorem dX10_readWork_154 : decode cX10_readWork 154 = .ok (.bipush 6, 2) := by decide +kernel
theorem dX10_readWork_156 : decode cX10_readWork 156 = .ok (.iaload, 1) := by decide +kernel
theorem dX10_readWork_157 : decode cX10_readWork 157 = .ok (.i2l, 1) := by decide +kernel
theorem dX10_readWork_158 : decode cX10_readWork 158 = .ok (.invokestatic 174, 3) := by decide +kernel
theorem dX10_readWork_161 : decode cX10_readWork 161 = .ok (.ifCond .ne 9, 3) := by decide +kernel
theorem dX10_readWork_164 : decode cX10_readWork 164 = .ok (.aload_n 0, 1) := by decide +kernel
theorem dX10_readWork_165 : decode cX10_readWork 165 = .ok (.iconst 2, 1) := by decide +kernel
theorem dX10_readWork_166 : decode cX10_readWork 166 = .ok (.invokevirtual 171, 3) := by decide +kernel
theorem dX10_readWork_169 : decode cX10_readWork 169 = .ok (.ireturn, 1) := by decide +kernel
theorem dX10_readWork_170 : decode cX10_readWork 170 = .ok (.iload_n 3, 1) := by decide +kernel
theorem dX10_readWork_171 : decode cX10_readWork 171 = .ok (.aload_n 0, 1) := by decide +kernel
theorem dX10_readWork_172 : decode cX10_readWork 172 = .ok (.getfield 165, 3) := by decide +kernel
theorem dX10_readWork_175 : decode cX10_readWork 175 = .ok (.iadd, 1) := by decide +kernel
theorem dX10_readWork_176 : decode cX10_readWork 176 = .ok (.istore_n 3, 1) := by decide +kernel
theorem dX10_readWork_177 : decode cX10_readWork 177 = .ok (.iload 4, 2) := by decide +kernel
theorem dX10_readWork_179 : decode cX10_readWork 179 = .ok (.iload_n 2, 1) := by decide +kernel
theorem dX10_readWork_180 : decode cX10_readWork 180 = .ok (.iconst 1, 1) := by decide +kernel
theorem dX10_readWork_181 : decode cX10_readWork 181 = .ok (.isub, 1) := by decide +kernel
theorem dX10_readWork_182 : decode cX10_readWork 182 = .ok (.if_icmp .ne 20, 3) := by decide +kernel
theorem dX10_readWork_185 : decode cX10_readWork 185 = .ok (.iload_n 3, 1) := by decide +kernel
theorem dX10_readWork_186 : decode cX10_readWork 186 = .ok (.aload_n 0, 1) := by decide +kernel
theorem dX10_readWork_187 : decode cX10_readWork 187 = .ok (.getfield 17, 3) := by decide +kernel
theorem dX10_readWork_190 : decode cX10_readWork 190 = .ok (.bipush 6, 2) := by decide +kernel
theorem dX10_readWork_192 : decode cX10_readWork 192 = .ok (.iaload, 1) := by decide +kernel
theorem dX10_readWork_193 : decode cX10_readWork 193 = .ok (.if_icmp .eq 9, 3) := by decide +kernel
theorem dX10_readWork_196 : decode cX10_readWork 196 = .ok (.aload_n 0, 1) := by decide +kernel
theorem dX10_readWork_197 : decode cX10_readWork 197 = .ok (.iconst 5, 1) := by decide +kernel
theorem dX10_readWork_198 : decode cX10_readWork 198 = .ok (.invokevirtual 171, 3) := by decide +kernel
theorem dX10_readWork_201 : decode cX10_readWork 201 = .ok (.ireturn, 1) := by decide +kernel
theorem dX10_readWork_202 : decode cX10_readWork 202 = .ok (.aload_n 0, 1) := by decide +kernel
theorem dX10_readWork_203 : decode cX10_readWork 203 = .ok (.getfield 34, 3) := by decide +kernel
theorem dX10_readWork_206 : decode cX10_readWork 206 = .ok (.iconst 4, 1) := by decide +kernel
theorem dX10_readWork_207 : decode cX10_readWork 207 = .ok (.iconst 5, 1) := by decide +kernel
theorem dX10_readWork_208 : decode cX10_readWork 208 = .ok (.iload_n 1, 1) := by decide +kernel
theorem dX10_readWork_209 : decode cX10_readWork 209 = .ok (.iadd, 1) := by decide +kernel
theorem dX10_readWork_210 : decode cX10_readWork 210 = .ok (.imul, 1) := by decide +kernel
theorem dX10_readWork_211 : decode cX10_readWork 211 = .ok (.iload 4, 2) := by decide +kernel
theorem dX10_readWork_213 : decode cX10_readWork 213 = .ok (.iadd, 1) := by decide +kernel
theorem dX10_readWork_214 : decode cX10_readWork 214 = .ok (.aload_n 0, 1) := by decide +kernel
theorem dX10_readWork_215 : decode cX10_readWork 215 = .ok (.getfield 165, 3) := by decide +kernel
theorem dX10_readWork_218 : decode cX10_readWork 218 = .ok (.iastore, 1) := by decide +kernel
theorem dX10_readWork_219 : decode cX10_readWork 219 = .ok (.aload_n 0, 1) := by decide +kernel
theorem dX10_readWork_220 : decode cX10_readWork 220 = .ok (.invokevirtual 181, 3) := by decide +kernel
theorem dX10_readWork_223 : decode cX10_readWork 223 = .ok (.iinc 4 1, 3) := by decide +kernel
theorem dX10_readWork_226 : decode cX10_readWork 226 = .ok (.goto (-102), 3) := by decide +kernel
theorem dX10_readWork_229 : decode cX10_readWork 229 = .ok (.aload_n 0, 1) := by decide +kernel
theorem dX10_readWork_230 : decode cX10_readWork 230 = .ok (.getfield 17, 3) := by decide +kernel
theorem dX10_readWork_233 : decode cX10_readWork 233 = .ok (.bipush 10, 2) := by decide +kernel
theorem dX10_readWork_235 : decode cX10_readWork 235 = .ok (.dup2, 1) := by decide +kernel
theorem dX10_readWork_236 : decode cX10_readWork 236 = .ok (.iaload, 1) := by decide +kernel
theorem dX10_readWork_237 : decode cX10_readWork 237 = .ok (.iconst 1, 1) := by decide +kernel
theorem dX10_readWork_238 : decode cX10_readWork 238 = .ok (.iadd, 1) := by decide +kernel
theorem dX10_readWork_239 : decode cX10_readWork 239 = .ok (.iastore, 1) := by decide +kernel
theorem dX10_readWork_240 : decode cX10_readWork 240 = .ok (.aload_n 0, 1) := by decide +kernel
theorem dX10_readWork_241 : decode cX10_readWork 241 = .ok (.invokevirtual 220, 3) := by decide +kernel
theorem dX10_readWork_244 : decode cX10_readWork 244 = .ok (.ireturn, 1) := by decide +kernel
theorem kk_X10_settle_0 : Cond.fieldLink RX10 17 "PaidBySignsModel" "num" "[I" ∈ wsX10_settle := by decide +kernel
theorem kk_X10_settle_1 : Cond.fieldLink RX10 28 "PaidBySignsModel" "brings" "[I" ∈ wsX10_settle := by decide +kernel
theorem kk_X10_settle_2 : Cond.fieldLink RX10 31 "PaidBySignsModel" "costs" "[I" ∈ wsX10_settle := by decide +kernel
theorem kk_X10_settle_3 : Cond.fieldLink RX10 34 "PaidBySignsModel" "chances" "[I" ∈ wsX10_settle := by decide +kernel
theorem kk_X10_settle_4 : Cond.fieldLink RX10 37 "PaidBySignsModel" "rates" "[I" ∈ wsX10_settle := by decide +kernel
theorem kk_X10_settle_5 : Cond.fieldLink RX10 40 "PaidBySignsModel" "marks" "[I" ∈ wsX10_settle := by decide +kernel
theorem kk_X10_settle_6 : Cond.fieldLink RX10 43 "PaidBySignsModel" "hand" "[I" ∈ wsX10_settle := by decide +kernel
theorem kk_X10_settle_7 : Cond.fieldLink RX10 85 "PaidBySignsModel" "presses" "[I" ∈ wsX10_settle := by decide +kernel
theorem kk_X10_settle_8 : Cond.fieldLink RX10 88 "PaidBySignsModel" "mixes" "[I" ∈ wsX10_settle := by decide +kernel
theorem kk_X10_settle_9 : Cond.fieldLink RX10 190 "PaidBySignsModel" "lowerPress" "I" ∈ wsX10_settle := by decide +kernel
theorem kk_X10_settle_10 : Cond.fieldLink RX10 193 "PaidBySignsModel" "seenMany" "I" ∈ wsX10_settle := by decide +kernel
theorem kk_X10_settle_11 : Cond.fieldLink RX10 196 "PaidBySignsModel" "rightMany" "I" ∈ wsX10_settle := by decide +kernel
theorem kk_X10_settle_12 : Cond.fieldLink RX10 199 "PaidBySignsModel" "lastTold" "I" ∈ wsX10_settle := by decide +kernel
theorem kk_X10_settle_13 : Cond.fieldLink RX10 202 "PaidBySignsModel" "hasFraction" "Z" ∈ wsX10_settle := by decide +kernel
theorem kk_X10_settle_14 : Cond.fieldLink RX10 206 "PaidBySignsModel" "hasWages" "Z" ∈ wsX10_settle := by decide +kernel
theorem kk_X10_readSign_0 : Cond.fieldLink RX10 17 "PaidBySignsModel" "num" "[I" ∈ wsX10_readSign := pm_X10_readSign_r1 _ (List.mem_of_getElem? (i := 0) rfl)
theorem kk_X10_readSign_1 : Cond.fieldLink RX10 143 "PaidBySignsModel" "sort" "I" ∈ wsX10_readSign := pm_X10_readSign_r1 _ (List.mem_of_getElem? (i := 1) rfl)
theorem kk_X10_readSign_2 : Cond.fieldLink RX10 21 "PaidBySignsModel" "signName" "[J" ∈ wsX10_readSign := pm_X10_readSign_r1 _ (List.mem_of_getElem? (i := 2) rfl)
theorem kk_X10_isNamed_0 : Cond.fieldLink RX10 150 "PaidBySignsModel" "word" "J" ∈ wsX10_isNamed := by decide +kernel
theorem kk_X10_readSign_3 : Cond.fieldLink RX10 150 "PaidBySignsModel" "word" "J" ∈ wsX10_readSign := pm_X10_readSign_r1 _ (List.mem_of_getElem? (i := 3) rfl)
theorem kk_X10_readSign_4 : Cond.fieldLink RX10 28 "PaidBySignsModel" "brings" "[I" ∈ wsX10_readSign := pm_X10_readSign_r1 _ (List.mem_of_getElem? (i := 4) rfl)
theorem kk_X10_readSign_5 : Cond.fieldLink RX10 178 "PaidBySignsModel" "got" "I" ∈ wsX10_readSign := pm_X10_readSign_r1 _ (List.mem_of_getElem? (i := 5) rfl)
theorem kk_X10_readWork_0 : Cond.fieldLink RX10 17 "PaidBySignsModel" "num" "[I" ∈ wsX10_readWork := pm_X10_readWork_r1 _ (List.mem_of_getElem? (i := 0) rfl)
theorem kk_X10_readWork_1 : Cond.fieldLink RX10 143 "PaidBySignsModel" "sort" "I" ∈ wsX10_readWork := pm_X10_readWork_r1 _ (List.mem_of_getElem? (i := 1) rfl)
theorem kk_X10_readWork_2 : Cond.fieldLink RX10 25 "PaidBySignsModel" "workName" "[J" ∈ wsX10_readWork := pm_X10_readWork_r1 _ (List.mem_of_getElem? (i := 2) rfl)
theorem kk_X10_readWork_3 : Cond.fieldLink RX10 150 "PaidBySignsModel" "word" "J" ∈ wsX10_readWork := pm_X10_readWork_r1 _ (List.mem_of_getElem? (i := 3) rfl)
theorem kk_X10_readWork_4 : Cond.fieldLink RX10 31 "PaidBySignsModel" "costs" "[I" ∈ wsX10_readWork := pm_X10_readWork_r1 _ (List.mem_of_getElem? (i := 4) rfl)
theorem kk_X10_readWork_5 : Cond.fieldLink RX10 178 "PaidBySignsModel" "got" "I" ∈ wsX10_readWork := pm_X10_readWork_r1 _ (List.mem_of_getElem? (i := 5) rfl)
theorem kk_X10_readWork_6 : Cond.fieldLink RX10 165 "PaidBySignsModel" "number" "I" ∈ wsX10_readWork := pm_X10_readWork_r1 _ (List.mem_of_getElem? (i := 6) rfl)
theorem kk_X10_readWork_7 : Cond.fieldLink RX10 34 "PaidBySignsModel" "chances" "[I" ∈ wsX10_readWork := pm_X10_readWork_r1 _ (List.mem_of_getElem? (i := 7) rfl)
theorem iw_X10_settle_X10 : ∀ w ∈ wsX100, w ∈ wsX10_settle := by decide +kernel
theorem iw_X10_readSign_X10 : ∀ w ∈ wsX100, w ∈ wsX10_readSign := pw_X10_readSign_X10
theorem iw_X10_isNamed_X10 : ∀ w ∈ wsX100, w ∈ wsX10_isNamed := by decide +kernel
theorem iw_X10_readWork_X10 : ∀ w ∈ wsX100, w ∈ wsX10_readWork := pw_X10_readWork_X10
