abbrev cX10_tell : ByteArray := prog_12_method_41_code
def yX10_tell : MethodName := ⟨RX10, "tell", "(JJ)V"⟩
abbrev cX10_upper : ByteArray := prog_12_method_42_code
def yX10_upper : MethodName := ⟨RX10, "upper", "()J"⟩
abbrev cX10_lower : ByteArray := prog_12_method_43_code
def yX10_lower : MethodName := ⟨RX10, "lower", "()J"⟩
abbrev cX10_addBound : ByteArray := prog_12_method_44_code
def yX10_addBound : MethodName := ⟨RX10, "addBound", "(J)I"⟩
abbrev cX10_makeBounds : ByteArray := prog_12_method_45_code
def yX10_makeBounds : MethodName := ⟨RX10, "makeBounds", "(I)V"⟩
def wsX10_tell : List Cond := .code yX10_tell cX10_tell 7 none :: ([.fieldLink RX10 281 "PaidBySignsModel" "upper" "J", .fieldLink RX10 284 "PaidBySignsModel" "lower" "J", .fieldLink RX10 202 "PaidBySignsModel" "hasFraction" "Z", .methodLink RX10 277 yX10_common, .static yX10_common, .initialized RX10, .code yX10_common cX10_common 10 (some .long)] ++ wsX100)
def wsX10_upper : List Cond := .code yX10_upper cX10_upper 1 (some .long) :: ([.fieldLink RX10 202 "PaidBySignsModel" "hasFraction" "Z", .fieldLink RX10 281 "PaidBySignsModel" "upper" "J", .constantLong RX10 287 (-2000000000)] ++ wsX100)
def wsX10_lower : List Cond := .code yX10_lower cX10_lower 1 (some .long) :: ([.fieldLink RX10 202 "PaidBySignsModel" "hasFraction" "Z", .fieldLink RX10 284 "PaidBySignsModel" "lower" "J"] ++ wsX100)
def wsX10_addBound : List Cond := .code yX10_addBound cX10_addBound 4 (some .int) :: ([.fieldLink RX10 289 "PaidBySignsModel" "groups" "I", .fieldLink RX10 49 "PaidBySignsModel" "row" "[J", .fieldLink RX10 292 "PaidBySignsModel" "bounds" "I", .fieldLink RX10 52 "PaidBySignsModel" "least" "[J"] ++ wsX100)
def wsX10_makeBounds : List Cond := .code yX10_makeBounds cX10_makeBounds 5 none :: ([.fieldLink RX10 292 "PaidBySignsModel" "bounds" "I", .fieldLink RX10 17 "PaidBySignsModel" "num" "[I", .fieldLink RX10 31 "PaidBySignsModel" "costs" "[I", .fieldLink RX10 49 "PaidBySignsModel" "row" "[J", .fieldLink RX10 46 "PaidBySignsModel" "groupOf" "[I", .fieldLink RX10 289 "PaidBySignsModel" "groups" "I", .fieldLink RX10 299 "PaidBySignsModel" "asked" "I", .fieldLink RX10 40 "PaidBySignsModel" "marks" "[I", .methodLink RX10 295 yX10_addBound, .instanceMethod yX10_addBound, .selects RX10 yX10_addBound yX10_addBound, .initialized RX10, .code yX10_addBound cX10_addBound 4 (some .int), .fieldLink RX10 52 "PaidBySignsModel" "least" "[J", .methodLink RX10 259 yX10_chanceOf, .instanceMethod yX10_chanceOf, .selects RX10 yX10_chanceOf yX10_chanceOf, .code yX10_chanceOf cX10_chanceOf 3 (some .int), .fieldLink RX10 34 "PaidBySignsModel" "chances" "[I", .methodLink RX10 264 yX10_feel, .instanceMethod yX10_feel, .selects RX10 yX10_feel yX10_feel, .code yX10_feel cX10_feel 6 (some .int), .fieldLink RX10 37 "PaidBySignsModel" "rates" "[I"] ++ wsX100)
set_option maxRecDepth 20000 in
theorem ggX10_tell_X10_common : GoodIn wsX10_tell wsX10_common := goodIn_r _ [7] (by decide +kernel) (by decide +kernel)
set_option maxRecDepth 20000 in
theorem gX10_tell_X10_common : GoodIn wsX10_tell (va_wsS RX10 277 yX10_common wsX10_common) := goodIn_app (goodIn_of _ (by decide +kernel)) ggX10_tell_X10_common
theorem dX10_tell_0 : decode cX10_tell 0 = .ok (.lload_n 1, 1) := by decide +kernel
theorem dX10_tell_1 : decode cX10_tell 1 = .ok (.lload_n 3, 1) := by decide +kernel
theorem dX10_tell_2 : decode cX10_tell 2 = .ok (.invokestatic 277, 3) := by decide +kernel
theorem dX10_tell_5 : decode cX10_tell 5 = .ok (.lstore 5, 2) := by decide +kernel
theorem dX10_tell_7 : decode cX10_tell 7 = .ok (.aload_n 0, 1) := by decide +kernel
theorem dX10_tell_8 : decode cX10_tell 8 = .ok (.lload_n 1, 1) := by decide +kernel
theorem dX10_tell_9 : decode cX10_tell 9 = .ok (.lload 5, 2) := by decide +kernel
theorem dX10_tell_11 : decode cX10_tell 11 = .ok (.ldiv, 1) := by decide +kernel
theorem dX10_tell_12 : decode cX10_tell 12 = .ok (.putfield 281, 3) := by decide +kernel
theorem dX10_tell_15 : decode cX10_tell 15 = .ok (.aload_n 0, 1) := by decide +kernel
theorem dX10_tell_16 : decode cX10_tell 16 = .ok (.lload_n 3, 1) := by decide +kernel
theorem dX10_tell_17 : decode cX10_tell 17 = .ok (.lload 5, 2) := by decide +kernel
theorem dX10_tell_19 : decode cX10_tell 19 = .ok (.ldiv, 1) := by decide +kernel
theorem dX10_tell_20 : decode cX10_tell 20 = .ok (.putfield 284, 3) := by decide +kernel
theorem dX10_tell_23 : decode cX10_tell 23 = .ok (.aload_n 0, 1) := by decide +kernel
theorem dX10_tell_24 : decode cX10_tell 24 = .ok (.iconst 1, 1) := by decide +kernel
theorem dX10_tell_25 : decode cX10_tell 25 = .ok (.putfield 202, 3) := by decide +kernel
theorem dX10_tell_28 : decode cX10_tell 28 = .ok (.return_, 1) := by decide +kernel
theorem dX10_upper_0 : decode cX10_upper 0 = .ok (.aload_n 0, 1) := by decide +kernel
theorem dX10_upper_1 : decode cX10_upper 1 = .ok (.getfield 202, 3) := by decide +kernel
theorem dX10_upper_4 : decode cX10_upper 4 = .ok (.ifCond .eq 10, 3) := by decide +kernel
theorem dX10_upper_7 : decode cX10_upper 7 = .ok (.aload_n 0, 1) := by decide +kernel
theorem dX10_upper_8 : decode cX10_upper 8 = .ok (.getfield 281, 3) := by decide +kernel
theorem dX10_upper_11 : decode cX10_upper 11 = .ok (.goto 6, 3) := by decide +kernel
theorem dX10_upper_14 : decode cX10_upper 14 = .ok (.ldc2_w 287, 3) := by decide +kernel
theorem dX10_upper_17 : decode cX10_upper 17 = .ok (.lreturn, 1) := by decide +kernel
theorem dX10_lower_0 : decode cX10_lower 0 = .ok (.aload_n 0, 1) := by decide +kernel
theorem dX10_lower_1 : decode cX10_lower 1 = .ok (.getfield 202, 3) := by decide +kernel
theorem dX10_lower_4 : decode cX10_lower 4 = .ok (.ifCond .eq 10, 3) := by decide +kernel
theorem dX10_lower_7 : decode cX10_lower 7 = .ok (.aload_n 0, 1) := by decide +kernel
theorem dX10_lower_8 : decode cX10_lower 8 = .ok (.getfield 284, 3) := by decide +kernel
theorem dX10_lower_11 : decode cX10_lower 11 = .ok (.goto 4, 3) := by decide +kernel
theorem dX10_lower_14 : decode cX10_lower 14 = .ok (.lconst 0, 1) := by decide +kernel
theorem dX10_lower_15 : decode cX10_lower 15 = .ok (.lreturn, 1) := by decide +kernel
theorem dX10_addBound_0 : decode cX10_addBound 0 = .ok (.iconst 0, 1) := by decide +kernel
theorem dX10_addBound_1 : decode cX10_addBound 1 = .ok (.istore_n 3, 1) := by decide +kernel
theorem dX10_addBound_2 : decode cX10_addBound 2 = .ok (.iload_n 3, 1) := by decide +kernel
theorem dX10_addBound_3 : decode cX10_addBound 3 = .ok (.aload_n 0, 1) := by decide +kernel
theorem dX10_addBound_4 : decode cX10_addBound 4 = .ok (.getfield 289, 3) := by decide +kernel
theorem dX10_addBound_7 : decode cX10_addBound 7 = .ok (.if_icmp .ge 23, 3) := by decide +kernel
theorem dX10_addBound_10 : decode cX10_addBound 10 = .ok (.aload_n 0, 1) := by decide +kernel
theorem dX10_addBound_11 : decode cX10_addBound 11 = .ok (.getfield 49, 3) := by decide +kernel
theorem dX10_addBound_14 : decode cX10_addBound 14 = .ok (.iconst 4, 1) := by decide +kernel
theorem dX10_addBound_15 : decode cX10_addBound 15 = .ok (.aload_n 0, 1) := by decide +kernel
theorem dX10_addBound_16 : decode cX10_addBound 16 = .ok (.getfield 292, 3) := by decide +kernel
theorem dX10_addBound_19 : decode cX10_addBound 19 = .ok (.imul, 1) := by decide +kernel
theorem dX10_addBound_20 : decode cX10_addBound 20 = .ok (.iload_n 3, 1) := by decide +kernel
theorem dX10_addBound_21 : decode cX10_addBound 21 = .ok (.iadd, 1) := by decide +kernel
theorem dX10_addBound_22 : decode cX10_addBound 22 = .ok (.lconst 0, 1) := by decide +kernel
theorem dX10_addBound_23 : decode cX10_addBound 23 = .ok (.lastore, 1) := by decide +kernel
theorem dX10_addBound_24 : decode cX10_addBound 24 = .ok (.iinc 3 1, 3) := by decide +kernel
theorem dX10_addBound_27 : decode cX10_addBound 27 = .ok (.goto (-25), 3) := by decide +kernel
theorem dX10_addBound_30 : decode cX10_addBound 30 = .ok (.aload_n 0, 1) := by decide +kernel
theorem dX10_addBound_31 : decode cX10_addBound 31 = .ok (.getfield 52, 3) := by decide +kernel
theorem dX10_addBound_34 : decode cX10_addBound 34 = .ok (.aload_n 0, 1) := by decide +kernel
theorem dX10_addBound_35 : decode cX10_addBound 35 = .ok (.getfield 292, 3) := by decide +kernel
theorem dX10_addBound_38 : decode cX10_addBound 38 = .ok (.lload_n 1, 1) := by decide +kernel
theorem dX10_addBound_39 : decode cX10_addBound 39 = .ok (.lastore, 1) := by decide +kernel
theorem dX10_addBound_40 : decode cX10_addBound 40 = .ok (.aload_n 0, 1) := by decide +kernel
theorem dX10_addBound_41 : decode cX10_addBound 41 = .ok (.dup, 1) := by decide +kernel
theorem dX10_addBound_42 : decode cX10_addBound 42 = .ok (.getfield 292, 3) := by decide +kernel
theorem dX10_addBound_45 : decode cX10_addBound 45 = .ok (.iconst 1, 1) := by decide +kernel
theorem dX10_addBound_46 : decode cX10_addBound 46 = .ok (.iadd, 1) := by decide +kernel
theorem dX10_addBound_47 : decode cX10_addBound 47 = .ok (.putfield 292, 3) := by decide +kernel
theorem dX10_addBound_50 : decode cX10_addBound 50 = .ok (.aload_n 0, 1) := by decide +kernel
theorem dX10_addBound_51 : decode cX10_addBound 51 = .ok (.getfield 292, 3) := by decide +kernel
theorem dX10_addBound_54 : decode cX10_addBound 54 = .ok (.iconst 1, 1) := by decide +kernel
theorem dX10_addBound_55 : decode cX10_addBound 55 = .ok (.isub, 1) := by decide +kernel
theorem dX10_addBound_56 : decode cX10_addBound 56 = .ok (.ireturn, 1) := by decide +kernel
set_option maxRecDepth 20000 in
theorem ggX10_makeBounds_X10_addBound : GoodIn wsX10_makeBounds wsX10_addBound := goodIn_r _ [13, 6, 4, 1, 14, 25, 26, 27, 28, 29, 30, 31, 32, 33, 34, 35, 36, 37, 38, 39, 40, 41, 42, 43, 44, 45, 46, 47, 48, 49, 50, 51, 52, 53, 54, 55, 56, 57, 58, 59, 60, 61, 62, 63, 64, 65, 66, 67, 68, 69, 70, 71, 72, 73, 74, 75, 76, 77, 78, 79, 80, 81, 82, 83, 84, 85, 86, 87, 88, 89] (by decide +kernel) (by decide +kernel)
set_option maxRecDepth 20000 in
theorem gX10_makeBounds_X10_addBound : GoodIn wsX10_makeBounds (wsV RX10 295 RX10 yX10_addBound wsX10_addBound) := goodIn_app (goodIn_of _ (by decide +kernel)) ggX10_makeBounds_X10_addBound
set_option maxRecDepth 20000 in
theorem ggX10_makeBounds_X10_chanceOf : GoodIn wsX10_makeBounds wsX10_chanceOf := goodIn_r _ [18, 19, 25, 26, 27, 28, 29, 30, 31, 32, 33, 34, 35, 36, 37, 38, 39, 40, 41, 42, 43, 44, 45, 46, 47, 48, 49, 50, 51, 52, 53, 54, 55, 56, 57, 58, 59, 60, 61, 62, 63, 64, 65, 66, 67, 68, 69, 70, 71, 72, 73, 74, 75, 76, 77, 78, 79, 80, 81, 82, 83, 84, 85, 86, 87, 88, 89] (by decide +kernel) (by decide +kernel)
set_option maxRecDepth 20000 in
theorem gX10_makeBounds_X10_chanceOf : GoodIn wsX10_makeBounds (wsV RX10 259 RX10 yX10_chanceOf wsX10_chanceOf) := goodIn_app (goodIn_of _ (by decide +kernel)) ggX10_makeBounds_X10_chanceOf
set_option maxRecDepth 20000 in
theorem ggX10_makeBounds_X10_feel : GoodIn wsX10_makeBounds wsX10_feel := goodIn_r _ [23, 2, 8, 24, 25, 26, 27, 28, 29, 30, 31, 32, 33, 34, 35, 36, 37, 38, 39, 40, 41, 42, 43, 44, 45, 46, 47, 48, 49, 50, 51, 52, 53, 54, 55, 56, 57, 58, 59, 60, 61, 62, 63, 64, 65, 66, 67, 68, 69, 70, 71, 72, 73, 74, 75, 76, 77, 78, 79, 80, 81, 82, 83, 84, 85, 86, 87, 88, 89] (by decide +kernel) (by decide +kernel)
set_option maxRecDepth 20000 in
theorem gX10_makeBounds_X10_feel : GoodIn wsX10_makeBounds (wsV RX10 264 RX10 yX10_feel wsX10_feel) := goodIn_app (goodIn_of _ (by decide +kernel)) ggX10_makeBounds_X10_feel
theorem dX10_makeBounds_0 : decode cX10_makeBounds 0 = .ok (.aload_n 0, 1) := by decide +kernel
theorem dX10_makeBounds_1 : decode cX10_makeBounds 1 = .ok (.iconst 0, 1) := by decide +kernel
theorem dX10_makeBounds_2 : decode cX10_makeBounds 2 = .ok (.putfield 292, 3) := by decide +kernel
theorem dX10_makeBounds_5 : decode cX10_makeBounds 5 = .ok (.iconst 0, 1) := by decide +kernel
theorem dX10_makeBounds_6 : decode cX10_makeBounds 6 = .ok (.istore_n 2, 1) := by decide +kernel
theorem dX10_makeBounds_7 : decode cX10_makeBounds 7 = .ok (.iload_n 2, 1) := by decide +kernel
theorem dX10_makeBounds_8 : decode cX10_makeBounds 8 = .ok (.aload_n 0, 1) := by decide +kernel
theorem dX10_makeBounds_9 : decode cX10_makeBounds 9 = .ok (.getfield 17, 3) := by decide +kernel
theorem dX10_makeBounds_12 : decode cX10_makeBounds 12 = .ok (.iconst 4, 1) := by decide +kernel
theorem dX10_makeBounds_13 : decode cX10_makeBounds 13 = .ok (.iaload, 1) := by decide +kernel
theorem dX10_makeBounds_14 : decode cX10_makeBounds 14 = .ok (.if_icmp .ge 99, 3) := by decide +kernel
theorem dX10_makeBounds_17 : decode cX10_makeBounds 17 = .ok (.iload_n 2, 1) := by decide +kernel
theorem dX10_makeBounds_18 : decode cX10_makeBounds 18 = .ok (.iload_n 1, 1) := by decide +kernel
theorem dX10_makeBounds_19 : decode cX10_makeBounds 19 = .ok (.if_icmp .ne 6, 3) := by decide +kernel
theorem dX10_makeBounds_22 : decode cX10_makeBounds 22 = .ok (.goto 85, 3) := by decide +kernel
theorem dX10_makeBounds_25 : decode cX10_makeBounds 25 = .ok (.aload_n 0, 1) := by decide +kernel
theorem dX10_makeBounds_26 : decode cX10_makeBounds 26 = .ok (.aload_n 0, 1) := by decide +kernel
theorem dX10_makeBounds_27 : decode cX10_makeBounds 27 = .ok (.getfield 17, 3) := by decide +kernel
theorem dX10_makeBounds_30 : decode cX10_makeBounds 30 = .ok (.iconst 0, 1) := by decide +kernel
theorem dX10_makeBounds_31 : decode cX10_makeBounds 31 = .ok (.iaload, 1) := by decide +kernel
theorem dX10_makeBounds_32 : decode cX10_makeBounds 32 = .ok (.i2l, 1) := by decide +kernel
theorem dX10_makeBounds_33 : decode cX10_makeBounds 33 = .ok (.aload_n 0, 1) := by decide +kernel
theorem dX10_makeBounds_34 : decode cX10_makeBounds 34 = .ok (.getfield 31, 3) := by decide +kernel
theorem dX10_makeBounds_37 : decode cX10_makeBounds 37 = .ok (.iload_n 1, 1) := by decide +kernel
theorem dX10_makeBounds_38 : decode cX10_makeBounds 38 = .ok (.iaload, 1) := by decide +kernel
theorem dX10_makeBounds_39 : decode cX10_makeBounds 39 = .ok (.aload_n 0, 1) := by decide +kernel
theorem dX10_makeBounds_40 : decode cX10_makeBounds 40 = .ok (.getfield 31, 3) := by decide +kernel
theorem dX10_makeBounds_43 : decode cX10_makeBounds 43 = .ok (.iload_n 2, 1) := by decide +kernel
theorem dX10_makeBounds_44 : decode cX10_makeBounds 44 = .ok (.iaload, 1) := by decide +kernel
theorem dX10_makeBounds_45 : decode cX10_makeBounds 45 = .ok (.isub, 1) := by decide +kernel
theorem dX10_makeBounds_46 : decode cX10_makeBounds 46 = .ok (.i2l, 1) := by decide +kernel
theorem dX10_makeBounds_47 : decode cX10_makeBounds 47 = .ok (.lmul, 1) := by decide +kernel
theorem dX10_makeBounds_48 : decode cX10_makeBounds 48 = .ok (.invokevirtual 295, 3) := by decide +kernel
theorem dX10_makeBounds_51 : decode cX10_makeBounds 51 = .ok (.istore_n 3, 1) := by decide +kernel
theorem dX10_makeBounds_52 : decode cX10_makeBounds 52 = .ok (.iconst 0, 1) := by decide +kernel
theorem dX10_makeBounds_53 : decode cX10_makeBounds 53 = .ok (.istore 4, 2) := by decide +kernel
theorem dX10_makeBounds_55 : decode cX10_makeBounds 55 = .ok (.iload 4, 2) := by decide +kernel
theorem dX10_makeBounds_57 : decode cX10_makeBounds 57 = .ok (.aload_n 0, 1) := by decide +kernel
theorem dX10_makeBounds_58 : decode cX10_makeBounds 58 = .ok (.getfield 17, 3) := by decide +kernel
theorem dX10_makeBounds_61 : decode cX10_makeBounds 61 = .ok (.iconst 3, 1) := by decide +kernel
theorem dX10_makeBounds_62 : decode cX10_makeBounds 62 = .ok (.iaload, 1) := by decide +kernel
theorem dX10_makeBounds_63 : decode cX10_makeBounds 63 = .ok (.if_icmp .ge 44, 3) := by decide +kernel
theorem dX10_makeBounds_66 : decode cX10_makeBounds 66 = .ok (.aload_n 0, 1) := by decide +kernel
theorem dX10_makeBounds_67 : decode cX10_makeBounds 67 = .ok (.getfield 49, 3) := by decide +kernel
theorem dX10_makeBounds_70 : decode cX10_makeBounds 70 = .ok (.iconst 4, 1) := by decide +kernel
theorem dX10_makeBounds_71 : decode cX10_makeBounds 71 = .ok (.iload_n 3, 1) := by decide +kernel
theorem dX10_makeBounds_72 : decode cX10_makeBounds 72 = .ok (.imul, 1) := by decide +kernel
theorem dX10_makeBounds_73 : decode cX10_makeBounds 73 = .ok (.aload_n 0, 1) := by decide +kernel
theorem dX10_makeBounds_74 : decode cX10_makeBounds 74 = .ok (.getfield 46, 3) := by decide +kernel
theorem dX10_makeBounds_77 : decode cX10_makeBounds 77 = .ok (.iload 4, 2) := by decide +kernel
theorem dX10_makeBounds_79 : decode cX10_makeBounds 79 = .ok (.iaload, 1) := by decide +kernel
theorem dX10_makeBounds_80 : decode cX10_makeBounds 80 = .ok (.iadd, 1) := by decide +kernel
theorem dX10_makeBounds_81 : decode cX10_makeBounds 81 = .ok (.dup2, 1) := by decide +kernel
theorem dX10_makeBounds_82 : decode cX10_makeBounds 82 = .ok (.laload, 1) := by decide +kernel
theorem dX10_makeBounds_83 : decode cX10_makeBounds 83 = .ok (.aload_n 0, 1) := by decide +kernel
theorem dX10_makeBounds_84 : decode cX10_makeBounds 84 = .ok (.iload_n 1, 1) := by decide +kernel
theorem dX10_makeBounds_85 : decode cX10_makeBounds 85 = .ok (.iload 4, 2) := by decide +kernel
theorem dX10_makeBounds_87 : decode cX10_makeBounds 87 = .ok (.invokevirtual 259, 3) := by decide +kernel
theorem dX10_makeBounds_90 : decode cX10_makeBounds 90 = .ok (.aload_n 0, 1) := by decide +kernel
theorem dX10_makeBounds_91 : decode cX10_makeBounds 91 = .ok (.iload_n 2, 1) := by decide +kernel
theorem dX10_makeBounds_92 : decode cX10_makeBounds 92 = .ok (.iload 4, 2) := by decide +kernel
theorem dX10_makeBounds_94 : decode cX10_makeBounds 94 = .ok (.invokevirtual 259, 3) := by decide +kernel
theorem dX10_makeBounds_97 : decode cX10_makeBounds 97 = .ok (.isub, 1) := by decide +kernel
theorem dX10_makeBounds_98 : decode cX10_makeBounds 98 = .ok (.i2l, 1) := by decide +kernel
theorem dX10_makeBounds_99 : decode cX10_makeBounds 99 = .ok (.ladd, 1) := by decide +kernel
theorem dX10_makeBounds_100 : decode cX10_makeBounds 100 = .ok (.lastore, 1) := by decide +kernel
theorem dX10_makeBounds_101 : decode cX10_makeBounds 101 = .ok (.iinc 4 1, 3) := by decide +kernel
theorem dX10_makeBounds_104 : decode cX10_makeBounds 104 = .ok (.goto (-49), 3) := by decide +kernel
theorem dX10_makeBounds_107 : decode cX10_makeBounds 107 = .ok (.iinc 2 1, 3) := by decide +kernel
theorem dX10_makeBounds_110 : decode cX10_makeBounds 110 = .ok (.goto (-103), 3) := by decide +kernel
theorem dX10_makeBounds_113 : decode cX10_makeBounds 113 = .ok (.aload_n 0, 1) := by decide +kernel
theorem dX10_makeBounds_114 : decode cX10_makeBounds 114 = .ok (.aload_n 0, 1) := by decide +kernel
theorem dX10_makeBounds_115 : decode cX10_makeBounds 115 = .ok (.getfield 17, 3) := by decide +kernel
theorem dX10_makeBounds_118 : decode cX10_makeBounds 118 = .ok (.iconst 0, 1) := by decide +kernel
theorem dX10_makeBounds_119 : decode cX10_makeBounds 119 = .ok (.iaload, 1) := by decide +kernel
theorem dX10_makeBounds_120 : decode cX10_makeBounds 120 = .ok (.i2l, 1) := by decide +kernel
theorem dX10_makeBounds_121 : decode cX10_makeBounds 121 = .ok (.aload_n 0, 1) := by decide +kernel
theorem dX10_makeBounds_122 : decode cX10_makeBounds 122 = .ok (.getfield 31, 3) := by decide +kernel
theorem dX10_makeBounds_125 : decode cX10_makeBounds 125 = .ok (.iload_n 1, 1) := by decide +kernel
theorem dX10_makeBounds_126 : decode cX10_makeBounds 126 = .ok (.iaload, 1) := by decide +kernel
theorem dX10_makeBounds_127 : decode cX10_makeBounds 127 = .ok (.aload_n 0, 1) := by decide +kernel
theorem dX10_makeBounds_128 : decode cX10_makeBounds 128 = .ok (.getfield 17, 3) := by decide +kernel
theorem dX10_makeBounds_131 : decode cX10_makeBounds 131 = .ok (.iconst 1, 1) := by decide +kernel
theorem dX10_makeBounds_132 : decode cX10_makeBounds 132 = .ok (.iaload, 1) := by decide +kernel
theorem dX10_makeBounds_133 : decode cX10_makeBounds 133 = .ok (.iadd, 1) := by decide +kernel
theorem dX10_makeBounds_134 : decode cX10_makeBounds 134 = .ok (.i2l, 1) := by decide +kernel
theorem dX10_makeBounds_135 : decode cX10_makeBounds 135 = .ok (.lmul, 1) := by decide +kernel
theorem dX10_makeBounds_136 : decode cX10_makeBounds 136 = .ok (.invokevirtual 295, 3) := by decide +kernel
theorem dX10_makeBounds_139 : decode cX10_makeBounds 139 = .ok (.istore_n 2, 1) := by decide +kernel
theorem dX10_makeBounds_140 : decode cX10_makeBounds 140 = .ok (.iconst 0, 1) := by decide +kernel
theorem dX10_makeBounds_141 : decode cX10_makeBounds 141 = .ok (.istore_n 3, 1) := by decide +kernel
theorem dX10_makeBounds_142 : decode cX10_makeBounds 142 = .ok (.iload_n 3, 1) := by decide +kernel
theorem dX10_makeBounds_143 : decode cX10_makeBounds 143 = .ok (.aload_n 0, 1) := by decide +kernel
theorem dX10_makeBounds_144 : decode cX10_makeBounds 144 = .ok (.getfield 17, 3) := by decide +kernel
theorem dX10_makeBounds_147 : decode cX10_makeBounds 147 = .ok (.iconst 3, 1) := by decide +kernel
theorem dX10_makeBounds_148 : decode cX10_makeBounds 148 = .ok (.iaload, 1) := by decide +kernel
theorem dX10_makeBounds_149 : decode cX10_makeBounds 149 = .ok (.if_icmp .ge 34, 3) := by decide +kernel
theorem dX10_makeBounds_152 : decode cX10_makeBounds 152 = .ok (.aload_n 0, 1) := by decide +kernel
theorem dX10_makeBounds_153 : decode cX10_makeBounds 153 = .ok (.getfield 49, 3) := by decide +kernel
theorem dX10_makeBounds_156 : decode cX10_makeBounds 156 = .ok (.iconst 4, 1) := by decide +kernel
theorem dX10_makeBounds_157 : decode cX10_makeBounds 157 = .ok (.iload_n 2, 1) := by decide +kernel
theorem dX10_makeBounds_158 : decode cX10_makeBounds 158 = .ok (.imul, 1) := by decide +kernel
theorem dX10_makeBounds_159 : decode cX10_makeBounds 159 = .ok (.aload_n 0, 1) := by decide +kernel
theorem dX10_makeBounds_160 : decode cX10_makeBounds 160 = .ok (.getfield 46, 3) := by decide +kernel
theorem dX10_makeBounds_163 : decode cX10_makeBounds 163 = .ok (.iload_n 3, 1) := by decide +kernel
theorem dX10_makeBounds_164 : decode cX10_makeBounds 164 = .ok (.iaload, 1) := by decide +kernel
theorem dX10_makeBounds_165 : decode cX10_makeBounds 165 = .ok (.iadd, 1) := by decide +kernel
theorem dX10_makeBounds_166 : decode cX10_makeBounds 166 = .ok (.dup2, 1) := by decide +kernel
theorem dX10_makeBounds_167 : decode cX10_makeBounds 167 = .ok (.laload, 1) := by decide +kernel
theorem dX10_makeBounds_168 : decode cX10_makeBounds 168 = .ok (.aload_n 0, 1) := by decide +kernel
theorem dX10_makeBounds_169 : decode cX10_makeBounds 169 = .ok (.iload_n 1, 1) := by decide +kernel
theorem dX10_makeBounds_170 : decode cX10_makeBounds 170 = .ok (.iload_n 3, 1) := by decide +kernel
theorem dX10_makeBounds_171 : decode cX10_makeBounds 171 = .ok (.invokevirtual 259, 3) := by decide +kernel
theorem dX10_makeBounds_174 : decode cX10_makeBounds 174 = .ok (.i2l, 1) := by decide +kernel
theorem dX10_makeBounds_175 : decode cX10_makeBounds 175 = .ok (.ladd, 1) := by decide +kernel
theorem dX10_makeBounds_176 : decode cX10_makeBounds 176 = .ok (.lastore, 1) := by decide +kernel
theorem dX10_makeBounds_177 : decode cX10_makeBounds 177 = .ok (.iinc 3 1, 3) := by decide +kernel
theorem dX10_makeBounds_180 : decode cX10_makeBounds 180 = .ok (.goto (-38), 3) := by decide +kernel
theorem dX10_makeBounds_183 : decode cX10_makeBounds 183 = .ok (.iconst 0, 1) := by decide +kernel
theorem dX10_makeBounds_184 : decode cX10_makeBounds 184 = .ok (.istore_n 3, 1) := by decide +kernel
theorem dX10_makeBounds_185 : decode cX10_makeBounds 185 = .ok (.iload_n 3, 1) := by decide +kernel
theorem dX10_makeBounds_186 : decode cX10_makeBounds 186 = .ok (.aload_n 0, 1) := by decide +kernel
theorem dX10_makeBounds_187 : decode cX10_makeBounds 187 = .ok (.getfield 289, 3) := by decide +kernel
theorem dX10_makeBounds_190 : decode cX10_makeBounds 190 = .ok (.if_icmp .ge 34, 3) := by decide +kernel
theorem dX10_makeBounds_193 : decode cX10_makeBounds 193 = .ok (.aload_n 0, 1) := by decide +kernel
theorem dX10_makeBounds_194 : decode cX10_makeBounds 194 = .ok (.getfield 49, 3) := by decide +kernel
theorem dX10_makeBounds_197 : decode cX10_makeBounds 197 = .ok (.iconst 4, 1) := by decide +kernel
theorem dX10_makeBounds_198 : decode cX10_makeBounds 198 = .ok (.aload_n 0, 1) := by decide +kernel
theorem dX10_makeBounds_199 : decode cX10_makeBounds 199 = .ok (.aload_n 0, 1) := by decide +kernel
theorem dX10_makeBounds_200 : decode cX10_makeBounds 200 = .ok (.aload_n 0, 1) := by decide +kernel
theorem dX10_makeBounds_201 : decode cX10_makeBounds 201 = .ok (.getfield 17, 3) := by decide +kernel
theorem dX10_makeBounds_204 : decode cX10_makeBounds 204 = .ok (.iconst 2, 1) := by decide +kernel
theorem dX10_makeBounds_205 : decode cX10_makeBounds 205 = .ok (.iaload, 1) := by decide +kernel
theorem dX10_makeBounds_206 : decode cX10_makeBounds 206 = .ok (.invokevirtual 264, 3) := by decide +kernel
theorem dX10_makeBounds_209 : decode cX10_makeBounds 209 = .ok (.i2l, 1) := by decide +kernel
theorem dX10_makeBounds_210 : decode cX10_makeBounds 210 = .ok (.invokevirtual 295, 3) := by decide +kernel
theorem dX10_makeBounds_213 : decode cX10_makeBounds 213 = .ok (.imul, 1) := by decide +kernel
theorem dX10_makeBounds_214 : decode cX10_makeBounds 214 = .ok (.iload_n 3, 1) := by decide +kernel
theorem dX10_makeBounds_215 : decode cX10_makeBounds 215 = .ok (.iadd, 1) := by decide +kernel
theorem dX10_makeBounds_216 : decode cX10_makeBounds 216 = .ok (.lconst 1, 1) := by decide +kernel
theorem dX10_makeBounds_217 : decode cX10_makeBounds 217 = .ok (.lastore, 1) := by decide +kernel
theorem dX10_makeBounds_218 : decode cX10_makeBounds 218 = .ok (.iinc 3 1, 3) := by decide +kernel
theorem dX10_makeBounds_221 : decode cX10_makeBounds 221 = .ok (.goto (-36), 3) := by decide +kernel
theorem dX10_makeBounds_224 : decode cX10_makeBounds 224 = .ok (.aload_n 0, 1) := by decide +kernel
theorem dX10_makeBounds_225 : decode cX10_makeBounds 225 = .ok (.aload_n 0, 1) := by decide +kernel
theorem dX10_makeBounds_226 : decode cX10_makeBounds 226 = .ok (.getfield 292, 3) := by decide +kernel
theorem dX10_makeBounds_229 : decode cX10_makeBounds 229 = .ok (.putfield 299, 3) := by decide +kernel
theorem dX10_makeBounds_232 : decode cX10_makeBounds 232 = .ok (.iconst 0, 1) := by decide +kernel
theorem dX10_makeBounds_233 : decode cX10_makeBounds 233 = .ok (.istore_n 3, 1) := by decide +kernel
theorem dX10_makeBounds_234 : decode cX10_makeBounds 234 = .ok (.iload_n 3, 1) := by decide +kernel
theorem dX10_makeBounds_235 : decode cX10_makeBounds 235 = .ok (.aload_n 0, 1) := by decide +kernel
theorem dX10_makeBounds_236 : decode cX10_makeBounds 236 = .ok (.getfield 289, 3) := by decide +kernel
theorem dX10_makeBounds_239 : decode cX10_makeBounds 239 = .ok (.if_icmp .ge 57, 3) := by decide +kernel
theorem dX10_makeBounds_242 : decode cX10_makeBounds 242 = .ok (.iconst 0, 1) := by decide +kernel
theorem dX10_makeBounds_243 : decode cX10_makeBounds 243 = .ok (.istore 4, 2) := by decide +kernel
theorem dX10_makeBounds_245 : decode cX10_makeBounds 245 = .ok (.iload 4, 2) := by decide +kernel
theorem dX10_makeBounds_247 : decode cX10_makeBounds 247 = .ok (.iconst 1, 1) := by decide +kernel
theorem dX10_makeBounds_248 : decode cX10_makeBounds 248 = .ok (.iadd, 1) := by decide +kernel
theorem dX10_makeBounds_249 : decode cX10_makeBounds 249 = .ok (.aload_n 0, 1) := by decide +kernel
theorem dX10_makeBounds_250 : decode cX10_makeBounds 250 = .ok (.getfield 17, 3) := by decide +kernel
theorem dX10_makeBounds_253 : decode cX10_makeBounds 253 = .ok (.iconst 5, 1) := by decide +kernel
theorem dX10_makeBounds_254 : decode cX10_makeBounds 254 = .ok (.iaload, 1) := by decide +kernel
theorem dX10_makeBounds_255 : decode cX10_makeBounds 255 = .ok (.if_icmp .ge 35, 3) := by decide +kernel
theorem dX10_makeBounds_258 : decode cX10_makeBounds 258 = .ok (.aload_n 0, 1) := by decide +kernel
theorem dX10_makeBounds_259 : decode cX10_makeBounds 259 = .ok (.getfield 49, 3) := by decide +kernel
theorem dX10_makeBounds_262 : decode cX10_makeBounds 262 = .ok (.iconst 4, 1) := by decide +kernel
theorem dX10_makeBounds_263 : decode cX10_makeBounds 263 = .ok (.aload_n 0, 1) := by decide +kernel
theorem dX10_makeBounds_264 : decode cX10_makeBounds 264 = .ok (.aload_n 0, 1) := by decide +kernel
theorem dX10_makeBounds_265 : decode cX10_makeBounds 265 = .ok (.aload_n 0, 1) := by decide +kernel
theorem dX10_makeBounds_266 : decode cX10_makeBounds 266 = .ok (.getfield 40, 3) := by decide +kernel
theorem dX10_makeBounds_269 : decode cX10_makeBounds 269 = .ok (.iload 4, 2) := by decide +kernel
theorem dX10_makeBounds_271 : decode cX10_makeBounds 271 = .ok (.iaload, 1) := by decide +kernel
theorem dX10_makeBounds_272 : decode cX10_makeBounds 272 = .ok (.invokevirtual 264, 3) := by decide +kernel
theorem dX10_makeBounds_275 : decode cX10_makeBounds 275 = .ok (.i2l, 1) := by decide +kernel
theorem dX10_makeBounds_276 : decode cX10_makeBounds 276 = .ok (.invokevirtual 295, 3) := by decide +kernel
theorem dX10_makeBounds_279 : decode cX10_makeBounds 279 = .ok (.imul, 1) := by decide +kernel
theorem dX10_makeBounds_280 : decode cX10_makeBounds 280 = .ok (.iload_n 3, 1) := by decide +kernel
theorem dX10_makeBounds_281 : decode cX10_makeBounds 281 = .ok (.iadd, 1) := by decide +kernel
theorem dX10_makeBounds_282 : decode cX10_makeBounds 282 = .ok (.lconst 1, 1) := by decide +kernel
theorem dX10_makeBounds_283 : decode cX10_makeBounds 283 = .ok (.lastore, 1) := by decide +kernel
theorem dX10_makeBounds_284 : decode cX10_makeBounds 284 = .ok (.iinc 4 1, 3) := by decide +kernel
theorem dX10_makeBounds_287 : decode cX10_makeBounds 287 = .ok (.goto (-42), 3) := by decide +kernel
theorem dX10_makeBounds_290 : decode cX10_makeBounds 290 = .ok (.iinc 3 1, 3) := by decide +kernel
theorem dX10_makeBounds_293 : decode cX10_makeBounds 293 = .ok (.goto (-59), 3) := by decide +kernel
theorem dX10_makeBounds_296 : decode cX10_makeBounds 296 = .ok (.return_, 1) := by decide +kernel
theorem kk_X10_tell_0 : Cond.fieldLink RX10 281 "PaidBySignsModel" "upper" "J" ∈ wsX10_tell := by decide +kernel
theorem kk_X10_tell_1 : Cond.fieldLink RX10 284 "PaidBySignsModel" "lower" "J" ∈ wsX10_tell := by decide +kernel
theorem kk_X10_tell_2 : Cond.fieldLink RX10 202 "PaidBySignsModel" "hasFraction" "Z" ∈ wsX10_tell := by decide +kernel
theorem kk_X10_upper_0 : Cond.fieldLink RX10 202 "PaidBySignsModel" "hasFraction" "Z" ∈ wsX10_upper := by decide +kernel
theorem kk_X10_upper_1 : Cond.constantLong RX10 287 (-2000000000) ∈ wsX10_upper := by decide +kernel
theorem kk_X10_upper_2 : Cond.fieldLink RX10 281 "PaidBySignsModel" "upper" "J" ∈ wsX10_upper := by decide +kernel
theorem kk_X10_lower_0 : Cond.fieldLink RX10 202 "PaidBySignsModel" "hasFraction" "Z" ∈ wsX10_lower := by decide +kernel
theorem kk_X10_lower_1 : Cond.fieldLink RX10 284 "PaidBySignsModel" "lower" "J" ∈ wsX10_lower := by decide +kernel
theorem kk_X10_addBound_0 : Cond.fieldLink RX10 289 "PaidBySignsModel" "groups" "I" ∈ wsX10_addBound := by decide +kernel
theorem kk_X10_addBound_1 : Cond.fieldLink RX10 52 "PaidBySignsModel" "least" "[J" ∈ wsX10_addBound := by decide +kernel
theorem kk_X10_addBound_2 : Cond.fieldLink RX10 292 "PaidBySignsModel" "bounds" "I" ∈ wsX10_addBound := by decide +kernel
theorem kk_X10_addBound_3 : Cond.fieldLink RX10 49 "PaidBySignsModel" "row" "[J" ∈ wsX10_addBound := by decide +kernel
theorem kk_X10_makeBounds_0 : Cond.fieldLink RX10 292 "PaidBySignsModel" "bounds" "I" ∈ wsX10_makeBounds := by decide +kernel
theorem kk_X10_makeBounds_1 : Cond.fieldLink RX10 17 "PaidBySignsModel" "num" "[I" ∈ wsX10_makeBounds := by decide +kernel
theorem kk_X10_makeBounds_2 : Cond.fieldLink RX10 31 "PaidBySignsModel" "costs" "[I" ∈ wsX10_makeBounds := by decide +kernel
theorem kk_X10_makeBounds_3 : Cond.fieldLink RX10 289 "PaidBySignsModel" "groups" "I" ∈ wsX10_makeBounds := by decide +kernel
theorem kk_X10_makeBounds_4 : Cond.fieldLink RX10 299 "PaidBySignsModel" "asked" "I" ∈ wsX10_makeBounds := by decide +kernel
theorem kk_X10_makeBounds_5 : Cond.fieldLink RX10 49 "PaidBySignsModel" "row" "[J" ∈ wsX10_makeBounds := by decide +kernel
theorem kk_X10_makeBounds_6 : Cond.fieldLink RX10 40 "PaidBySignsModel" "marks" "[I" ∈ wsX10_makeBounds := by decide +kernel
theorem kk_X10_makeBounds_7 : Cond.fieldLink RX10 46 "PaidBySignsModel" "groupOf" "[I" ∈ wsX10_makeBounds := by decide +kernel
theorem iw_X10_tell_X10 : ∀ w ∈ wsX100, w ∈ wsX10_tell := by decide +kernel
theorem iw_X10_upper_X10 : ∀ w ∈ wsX100, w ∈ wsX10_upper := by decide +kernel
theorem iw_X10_lower_X10 : ∀ w ∈ wsX100, w ∈ wsX10_lower := by decide +kernel
theorem iw_X10_addBound_X10 : ∀ w ∈ wsX100, w ∈ wsX10_addBound := by decide +kernel
theorem iw_X10_makeBounds_X10 : ∀ w ∈ wsX100, w ∈ wsX10_makeBounds := by decide +kernel
