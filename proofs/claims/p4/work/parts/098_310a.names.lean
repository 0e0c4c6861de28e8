abbrev cX10_determinant : ByteArray := prog_12_method_46_code
def yX10_determinant : MethodName := ⟨RX10, "determinant", "(I)J"⟩
abbrev cX10_wageOf : ByteArray := prog_12_method_48_code
def yX10_wageOf : MethodName := ⟨RX10, "wageOf", "(JJI)V"⟩
abbrev cX10_isCorner : ByteArray := prog_12_method_49_code
def yX10_isCorner : MethodName := ⟨RX10, "isCorner", "()Z"⟩
abbrev cX10_apart : ByteArray := prog_12_method_50_code
def yX10_apart : MethodName := ⟨RX10, "apart", "(JJJJ)J"⟩
abbrev cX10_look : ByteArray := prog_12_method_51_code
def yX10_look : MethodName := ⟨RX10, "look", "(I)V"⟩
def wsX10_determinant : List Cond := .code yX10_determinant cX10_determinant 4 (some .long) :: ([.fieldLink RX10 289 "PaidBySignsModel" "groups" "I", .fieldLink RX10 58 "PaidBySignsModel" "matrix" "[J", .fieldLink RX10 52 "PaidBySignsModel" "least" "[J", .fieldLink RX10 55 "PaidBySignsModel" "chosen" "[I", .fieldLink RX10 49 "PaidBySignsModel" "row" "[J", .methodLink RX10 302 yX10_minor, .instanceMethod yX10_minor, .selects RX10 yX10_minor yX10_minor, .initialized RX10, .code yX10_minor cX10_minor 7 (some .long)] ++ wsX100)
def wsX10_wageOf : List Cond := .code yX10_wageOf cX10_wageOf 13 none :: ([.fieldLink RX10 17 "PaidBySignsModel" "num" "[I", .fieldLink RX10 40 "PaidBySignsModel" "marks" "[I", .fieldLink RX10 64 "PaidBySignsModel" "wageUp" "[J", .fieldLink RX10 37 "PaidBySignsModel" "rates" "[I", .fieldLink RX10 67 "PaidBySignsModel" "wageLow" "[J", .methodLink RX10 264 yX10_feel, .instanceMethod yX10_feel, .selects RX10 yX10_feel yX10_feel, .initialized RX10, .code yX10_feel cX10_feel 6 (some .int), .methodLink RX10 277 yX10_common, .static yX10_common, .code yX10_common cX10_common 10 (some .long)] ++ wsX100)
def wsX10_isCorner : List Cond := .code yX10_isCorner cX10_isCorner 7 (some .boolean) :: ([.fieldLink RX10 310 "PaidBySignsModel" "det" "J", .constantLong RX10 313 (-1), .fieldLink RX10 289 "PaidBySignsModel" "groups" "I", .fieldLink RX10 61 "PaidBySignsModel" "x" "[J", .fieldLink RX10 299 "PaidBySignsModel" "asked" "I", .fieldLink RX10 49 "PaidBySignsModel" "row" "[J", .fieldLink RX10 52 "PaidBySignsModel" "least" "[J", .methodLink RX10 306 yX10_determinant, .instanceMethod yX10_determinant, .selects RX10 yX10_determinant yX10_determinant, .initialized RX10, .code yX10_determinant cX10_determinant 4 (some .long), .fieldLink RX10 58 "PaidBySignsModel" "matrix" "[J", .fieldLink RX10 55 "PaidBySignsModel" "chosen" "[I", .methodLink RX10 302 yX10_minor, .instanceMethod yX10_minor, .selects RX10 yX10_minor yX10_minor, .code yX10_minor cX10_minor 7 (some .long)] ++ wsX100)
def wsX10_apart : List Cond := .code yX10_apart cX10_apart 8 (some .long) :: ([])
def wsX10_look_r1 : List Cond := [Cond.fieldLink RX10 289 "PaidBySignsModel" "groups" "I", Cond.fieldLink RX10 61 "PaidBySignsModel" "x" "[J", Cond.fieldLink RX10 310 "PaidBySignsModel" "det" "J", Cond.fieldLink RX10 17 "PaidBySignsModel" "num" "[I", Cond.fieldLink RX10 46 "PaidBySignsModel" "groupOf" "[I", Cond.fieldLink RX10 67 "PaidBySignsModel" "wageLow" "[J", Cond.fieldLink RX10 64 "PaidBySignsModel" "wageUp" "[J", Cond.fieldLink RX10 322 "PaidBySignsModel" "isFound" "Z", Cond.fieldLink RX10 325 "PaidBySignsModel" "costUp" "J", Cond.fieldLink RX10 328 "PaidBySignsModel" "costLow" "J", Cond.constantLong RX10 313 (-1), Cond.fieldLink RX10 70 "PaidBySignsModel" "bestUp" "[J", Cond.fieldLink RX10 73 "PaidBySignsModel" "bestLow" "[J", Cond.methodLink RX10 315 yX10_isCorner, Cond.instanceMethod yX10_isCorner, Cond.selects RX10 yX10_isCorner yX10_isCorner, Cond.initialized RX10, Cond.code yX10_isCorner cX10_isCorner 7 (some .boolean), Cond.fieldLink RX10 299 "PaidBySignsModel" "asked" "I", Cond.fieldLink RX10 49 "PaidBySignsModel" "row" "[J", Cond.fieldLink RX10 52 "PaidBySignsModel" "least" "[J", Cond.methodLink RX10 306 yX10_determinant, Cond.instanceMethod yX10_determinant, Cond.selects RX10 yX10_determinant yX10_determinant]
def wsX10_look_r2 : List Cond := [Cond.code yX10_determinant cX10_determinant 4 (some .long), Cond.fieldLink RX10 58 "PaidBySignsModel" "matrix" "[J", Cond.fieldLink RX10 55 "PaidBySignsModel" "chosen" "[I", Cond.methodLink RX10 302 yX10_minor, Cond.instanceMethod yX10_minor, Cond.selects RX10 yX10_minor yX10_minor, Cond.code yX10_minor cX10_minor 7 (some .long), Cond.methodLink RX10 318 yX10_wageOf, Cond.instanceMethod yX10_wageOf, Cond.selects RX10 yX10_wageOf yX10_wageOf, Cond.code yX10_wageOf cX10_wageOf 13 none, Cond.fieldLink RX10 40 "PaidBySignsModel" "marks" "[I", Cond.fieldLink RX10 37 "PaidBySignsModel" "rates" "[I", Cond.methodLink RX10 264 yX10_feel, Cond.instanceMethod yX10_feel, Cond.selects RX10 yX10_feel yX10_feel, Cond.code yX10_feel cX10_feel 6 (some .int), Cond.methodLink RX10 277 yX10_common, Cond.static yX10_common, Cond.code yX10_common cX10_common 10 (some .long), Cond.methodLink RX10 259 yX10_chanceOf, Cond.instanceMethod yX10_chanceOf, Cond.selects RX10 yX10_chanceOf yX10_chanceOf, Cond.code yX10_chanceOf cX10_chanceOf 3 (some .int)]
def wsX10_look_r3 : List Cond := [Cond.fieldLink RX10 34 "PaidBySignsModel" "chances" "[I", Cond.methodLink RX10 331 yX10_apart, Cond.static yX10_apart, Cond.code yX10_apart cX10_apart 8 (some .long)]
def wsX10_look : List Cond := .code yX10_look cX10_look 10 none :: ((wsX10_look_r1 ++ (wsX10_look_r2 ++ wsX10_look_r3)) ++ wsX100)
set_option maxRecDepth 20000 in
theorem ggX10_determinant_X10_minor : GoodIn wsX10_determinant wsX10_minor := goodIn_r _ [10, 1, 2, 6, 7, 8, 9, 11, 12, 13, 14, 15, 16, 17, 18, 19, 20, 21, 22, 23, 24, 25, 26, 27, 28, 29, 30, 31, 32, 33, 34, 35, 36, 37, 38, 39, 40, 41, 42, 43, 44, 45, 46, 47, 48, 49, 50, 51, 52, 53, 54, 55, 56, 57, 58, 59, 60, 61, 62, 63, 64, 65, 66, 67, 68, 69, 70, 71, 72, 73, 74, 75] (by decide +kernel) (by decide +kernel)
set_option maxRecDepth 20000 in
theorem gX10_determinant_X10_minor : GoodIn wsX10_determinant (wsV RX10 302 RX10 yX10_minor wsX10_minor) := goodIn_app (goodIn_of _ (by decide +kernel)) ggX10_determinant_X10_minor
theorem dX10_determinant_0 : decode cX10_determinant 0 = .ok (.iconst 0, 1) := by decide +kernel
theorem dX10_determinant_1 : decode cX10_determinant 1 = .ok (.istore_n 2, 1) := by decide +kernel
theorem dX10_determinant_2 : decode cX10_determinant 2 = .ok (.iload_n 2, 1) := by decide +kernel
theorem dX10_determinant_3 : decode cX10_determinant 3 = .ok (.aload_n 0, 1) := by decide +kernel
theorem dX10_determinant_4 : decode cX10_determinant 4 = .ok (.getfield 289, 3) := by decide +kernel
theorem dX10_determinant_7 : decode cX10_determinant 7 = .ok (.if_icmp .ge 69, 3) := by decide +kernel
theorem dX10_determinant_10 : decode cX10_determinant 10 = .ok (.iconst 0, 1) := by decide +kernel
theorem dX10_determinant_11 : decode cX10_determinant 11 = .ok (.istore_n 3, 1) := by decide +kernel
theorem dX10_determinant_12 : decode cX10_determinant 12 = .ok (.iload_n 3, 1) := by decide +kernel
theorem dX10_determinant_13 : decode cX10_determinant 13 = .ok (.aload_n 0, 1) := by decide +kernel
theorem dX10_determinant_14 : decode cX10_determinant 14 = .ok (.getfield 289, 3) := by decide +kernel
theorem dX10_determinant_17 : decode cX10_determinant 17 = .ok (.if_icmp .ge 53, 3) := by decide +kernel
theorem dX10_determinant_20 : decode cX10_determinant 20 = .ok (.aload_n 0, 1) := by decide +kernel
theorem dX10_determinant_21 : decode cX10_determinant 21 = .ok (.getfield 58, 3) := by decide +kernel
theorem dX10_determinant_24 : decode cX10_determinant 24 = .ok (.iconst 4, 1) := by decide +kernel
theorem dX10_determinant_25 : decode cX10_determinant 25 = .ok (.iload_n 2, 1) := by decide +kernel
theorem dX10_determinant_26 : decode cX10_determinant 26 = .ok (.imul, 1) := by decide +kernel
theorem dX10_determinant_27 : decode cX10_determinant 27 = .ok (.iload_n 3, 1) := by decide +kernel
theorem dX10_determinant_28 : decode cX10_determinant 28 = .ok (.iadd, 1) := by decide +kernel
theorem dX10_determinant_29 : decode cX10_determinant 29 = .ok (.iload_n 3, 1) := by decide +kernel
theorem dX10_determinant_30 : decode cX10_determinant 30 = .ok (.iload_n 1, 1) := by decide +kernel
theorem dX10_determinant_31 : decode cX10_determinant 31 = .ok (.if_icmp .ne 17, 3) := by decide +kernel
theorem dX10_determinant_34 : decode cX10_determinant 34 = .ok (.aload_n 0, 1) := by decide +kernel
theorem dX10_determinant_35 : decode cX10_determinant 35 = .ok (.getfield 52, 3) := by decide +kernel
theorem dX10_determinant_38 : decode cX10_determinant 38 = .ok (.aload_n 0, 1) := by decide +kernel
theorem dX10_determinant_39 : decode cX10_determinant 39 = .ok (.getfield 55, 3) := by decide +kernel
theorem dX10_determinant_42 : decode cX10_determinant 42 = .ok (.iload_n 2, 1) := by decide +kernel
theorem dX10_determinant_43 : decode cX10_determinant 43 = .ok (.iaload, 1) := by decide +kernel
theorem dX10_determinant_44 : decode cX10_determinant 44 = .ok (.laload, 1) := by decide +kernel
theorem dX10_determinant_45 : decode cX10_determinant 45 = .ok (.goto 18, 3) := by decide +kernel
theorem dX10_determinant_48 : decode cX10_determinant 48 = .ok (.aload_n 0, 1) := by decide +kernel
theorem dX10_determinant_49 : decode cX10_determinant 49 = .ok (.getfield 49, 3) := by decide +kernel
theorem dX10_determinant_52 : decode cX10_determinant 52 = .ok (.iconst 4, 1) := by decide +kernel
theorem dX10_determinant_53 : decode cX10_determinant 53 = .ok (.aload_n 0, 1) := by decide +kernel
theorem dX10_determinant_54 : decode cX10_determinant 54 = .ok (.getfield 55, 3) := by decide +kernel
theorem dX10_determinant_57 : decode cX10_determinant 57 = .ok (.iload_n 2, 1) := by decide +kernel
theorem dX10_determinant_58 : decode cX10_determinant 58 = .ok (.iaload, 1) := by decide +kernel
theorem dX10_determinant_59 : decode cX10_determinant 59 = .ok (.imul, 1) := by decide +kernel
theorem dX10_determinant_60 : decode cX10_determinant 60 = .ok (.iload_n 3, 1) := by decide +kernel
theorem dX10_determinant_61 : decode cX10_determinant 61 = .ok (.iadd, 1) := by decide +kernel
theorem dX10_determinant_62 : decode cX10_determinant 62 = .ok (.laload, 1) := by decide +kernel
theorem dX10_determinant_63 : decode cX10_determinant 63 = .ok (.lastore, 1) := by decide +kernel
theorem dX10_determinant_64 : decode cX10_determinant 64 = .ok (.iinc 3 1, 3) := by decide +kernel
theorem dX10_determinant_67 : decode cX10_determinant 67 = .ok (.goto (-55), 3) := by decide +kernel
theorem dX10_determinant_70 : decode cX10_determinant 70 = .ok (.iinc 2 1, 3) := by decide +kernel
theorem dX10_determinant_73 : decode cX10_determinant 73 = .ok (.goto (-71), 3) := by decide +kernel
theorem dX10_determinant_76 : decode cX10_determinant 76 = .ok (.aload_n 0, 1) := by decide +kernel
theorem dX10_determinant_77 : decode cX10_determinant 77 = .ok (.iconst 0, 1) := by decide +kernel
theorem dX10_determinant_78 : decode cX10_determinant 78 = .ok (.iconst 1, 1) := by decide +kernel
theorem dX10_determinant_79 : decode cX10_determinant 79 = .ok (.aload_n 0, 1) := by decide +kernel
theorem dX10_determinant_80 : decode cX10_determinant 80 = .ok (.getfield 289, 3) := by decide +kernel
theorem dX10_determinant_83 : decode cX10_determinant 83 = .ok (.ishl, 1) := by decide +kernel
theorem dX10_determinant_84 : decode cX10_determinant 84 = .ok (.iconst 1, 1) := by decide +kernel
theorem dX10_determinant_85 : decode cX10_determinant 85 = .ok (.isub, 1) := by decide +kernel
theorem dX10_determinant_86 : decode cX10_determinant 86 = .ok (.invokevirtual 302, 3) := by decide +kernel
theorem dX10_determinant_89 : decode cX10_determinant 89 = .ok (.lreturn, 1) := by decide +kernel
set_option maxRecDepth 20000 in
theorem ggX10_wageOf_X10_feel : GoodIn wsX10_wageOf wsX10_feel := goodIn_r _ [10, 1, 2, 4, 14, 15, 16, 17, 18, 19, 20, 21, 22, 23, 24, 25, 26, 27, 28, 29, 30, 31, 32, 33, 34, 35, 36, 37, 38, 39, 40, 41, 42, 43, 44, 45, 46, 47, 48, 49, 50, 51, 52, 53, 54, 55, 56, 57, 58, 59, 60, 61, 62, 63, 64, 65, 66, 67, 68, 69, 70, 71, 72, 73, 74, 75, 76, 77, 78] (by decide +kernel) (by decide +kernel)
set_option maxRecDepth 20000 in
theorem gX10_wageOf_X10_feel : GoodIn wsX10_wageOf (wsV RX10 264 RX10 yX10_feel wsX10_feel) := goodIn_app (goodIn_of _ (by decide +kernel)) ggX10_wageOf_X10_feel
set_option maxRecDepth 20000 in
theorem ggX10_wageOf_X10_common : GoodIn wsX10_wageOf wsX10_common := goodIn_r _ [13] (by decide +kernel) (by decide +kernel)
set_option maxRecDepth 20000 in
theorem gX10_wageOf_X10_common : GoodIn wsX10_wageOf (va_wsS RX10 277 yX10_common wsX10_common) := goodIn_app (goodIn_of _ (by decide +kernel)) ggX10_wageOf_X10_common
theorem dX10_wageOf_0 : decode cX10_wageOf 0 = .ok (.iconst 0, 1) := by decide +kernel
theorem dX10_wageOf_1 : decode cX10_wageOf 1 = .ok (.istore 6, 2) := by decide +kernel
theorem dX10_wageOf_3 : decode cX10_wageOf 3 = .ok (.iload 6, 2) := by decide +kernel
theorem dX10_wageOf_5 : decode cX10_wageOf 5 = .ok (.iconst 1, 1) := by decide +kernel
theorem dX10_wageOf_6 : decode cX10_wageOf 6 = .ok (.iadd, 1) := by decide +kernel
theorem dX10_wageOf_7 : decode cX10_wageOf 7 = .ok (.aload_n 0, 1) := by decide +kernel
theorem dX10_wageOf_8 : decode cX10_wageOf 8 = .ok (.getfield 17, 3) := by decide +kernel
theorem dX10_wageOf_11 : decode cX10_wageOf 11 = .ok (.iconst 5, 1) := by decide +kernel
theorem dX10_wageOf_12 : decode cX10_wageOf 12 = .ok (.iaload, 1) := by decide +kernel
theorem dX10_wageOf_13 : decode cX10_wageOf 13 = .ok (.if_icmp .ge 28, 3) := by decide +kernel
theorem dX10_wageOf_16 : decode cX10_wageOf 16 = .ok (.lload_n 1, 1) := by decide +kernel
theorem dX10_wageOf_17 : decode cX10_wageOf 17 = .ok (.lload_n 3, 1) := by decide +kernel
theorem dX10_wageOf_18 : decode cX10_wageOf 18 = .ok (.aload_n 0, 1) := by decide +kernel
theorem dX10_wageOf_19 : decode cX10_wageOf 19 = .ok (.aload_n 0, 1) := by decide +kernel
theorem dX10_wageOf_20 : decode cX10_wageOf 20 = .ok (.getfield 40, 3) := by decide +kernel
theorem dX10_wageOf_23 : decode cX10_wageOf 23 = .ok (.iload 6, 2) := by decide +kernel
theorem dX10_wageOf_25 : decode cX10_wageOf 25 = .ok (.iaload, 1) := by decide +kernel
theorem dX10_wageOf_26 : decode cX10_wageOf 26 = .ok (.invokevirtual 264, 3) := by decide +kernel
theorem dX10_wageOf_29 : decode cX10_wageOf 29 = .ok (.i2l, 1) := by decide +kernel
theorem dX10_wageOf_30 : decode cX10_wageOf 30 = .ok (.lmul, 1) := by decide +kernel
theorem dX10_wageOf_31 : decode cX10_wageOf 31 = .ok (.lcmp, 1) := by decide +kernel
theorem dX10_wageOf_32 : decode cX10_wageOf 32 = .ok (.ifCond .le 9, 3) := by decide +kernel
theorem dX10_wageOf_35 : decode cX10_wageOf 35 = .ok (.iinc 6 1, 3) := by decide +kernel
theorem dX10_wageOf_38 : decode cX10_wageOf 38 = .ok (.goto (-35), 3) := by decide +kernel
theorem dX10_wageOf_41 : decode cX10_wageOf 41 = .ok (.iload 6, 2) := by decide +kernel
theorem dX10_wageOf_43 : decode cX10_wageOf 43 = .ok (.ifCond .ne 7, 3) := by decide +kernel
theorem dX10_wageOf_46 : decode cX10_wageOf 46 = .ok (.lconst 0, 1) := by decide +kernel
theorem dX10_wageOf_47 : decode cX10_wageOf 47 = .ok (.goto 13, 3) := by decide +kernel
theorem dX10_wageOf_50 : decode cX10_wageOf 50 = .ok (.aload_n 0, 1) := by decide +kernel
theorem dX10_wageOf_51 : decode cX10_wageOf 51 = .ok (.getfield 40, 3) := by decide +kernel
theorem dX10_wageOf_54 : decode cX10_wageOf 54 = .ok (.iload 6, 2) := by decide +kernel
theorem dX10_wageOf_56 : decode cX10_wageOf 56 = .ok (.iconst 1, 1) := by decide +kernel
theorem dX10_wageOf_57 : decode cX10_wageOf 57 = .ok (.isub, 1) := by decide +kernel
theorem dX10_wageOf_58 : decode cX10_wageOf 58 = .ok (.iaload, 1) := by decide +kernel
theorem dX10_wageOf_59 : decode cX10_wageOf 59 = .ok (.i2l, 1) := by decide +kernel
theorem dX10_wageOf_60 : decode cX10_wageOf 60 = .ok (.lstore 7, 2) := by decide +kernel
theorem dX10_wageOf_62 : decode cX10_wageOf 62 = .ok (.iload 6, 2) := by decide +kernel
theorem dX10_wageOf_64 : decode cX10_wageOf 64 = .ok (.ifCond .ne 7, 3) := by decide +kernel
theorem dX10_wageOf_67 : decode cX10_wageOf 67 = .ok (.lconst 0, 1) := by decide +kernel
theorem dX10_wageOf_68 : decode cX10_wageOf 68 = .ok (.goto 17, 3) := by decide +kernel
theorem dX10_wageOf_71 : decode cX10_wageOf 71 = .ok (.aload_n 0, 1) := by decide +kernel
theorem dX10_wageOf_72 : decode cX10_wageOf 72 = .ok (.aload_n 0, 1) := by decide +kernel
theorem dX10_wageOf_73 : decode cX10_wageOf 73 = .ok (.getfield 40, 3) := by decide +kernel
theorem dX10_wageOf_76 : decode cX10_wageOf 76 = .ok (.iload 6, 2) := by decide +kernel
theorem dX10_wageOf_78 : decode cX10_wageOf 78 = .ok (.iconst 1, 1) := by decide +kernel
theorem dX10_wageOf_79 : decode cX10_wageOf 79 = .ok (.isub, 1) := by decide +kernel
theorem dX10_wageOf_80 : decode cX10_wageOf 80 = .ok (.iaload, 1) := by decide +kernel
theorem dX10_wageOf_81 : decode cX10_wageOf 81 = .ok (.invokevirtual 264, 3) := by decide +kernel
theorem dX10_wageOf_84 : decode cX10_wageOf 84 = .ok (.i2l, 1) := by decide +kernel
theorem dX10_wageOf_85 : decode cX10_wageOf 85 = .ok (.lstore 9, 2) := by decide +kernel
theorem dX10_wageOf_87 : decode cX10_wageOf 87 = .ok (.aload_n 0, 1) := by decide +kernel
theorem dX10_wageOf_88 : decode cX10_wageOf 88 = .ok (.getfield 64, 3) := by decide +kernel
theorem dX10_wageOf_91 : decode cX10_wageOf 91 = .ok (.iload 5, 2) := by decide +kernel
theorem dX10_wageOf_93 : decode cX10_wageOf 93 = .ok (.lload 7, 2) := by decide +kernel
theorem dX10_wageOf_95 : decode cX10_wageOf 95 = .ok (.lload_n 3, 1) := by decide +kernel
theorem dX10_wageOf_96 : decode cX10_wageOf 96 = .ok (.lmul, 1) := by decide +kernel
theorem dX10_wageOf_97 : decode cX10_wageOf 97 = .ok (.aload_n 0, 1) := by decide +kernel
theorem dX10_wageOf_98 : decode cX10_wageOf 98 = .ok (.getfield 37, 3) := by decide +kernel
theorem dX10_wageOf_101 : decode cX10_wageOf 101 = .ok (.iload 6, 2) := by decide +kernel
theorem dX10_wageOf_103 : decode cX10_wageOf 103 = .ok (.iaload, 1) := by decide +kernel
theorem dX10_wageOf_104 : decode cX10_wageOf 104 = .ok (.i2l, 1) := by decide +kernel
theorem dX10_wageOf_105 : decode cX10_wageOf 105 = .ok (.lmul, 1) := by decide +kernel
theorem dX10_wageOf_106 : decode cX10_wageOf 106 = .ok (.lload_n 1, 1) := by decide +kernel
theorem dX10_wageOf_107 : decode cX10_wageOf 107 = .ok (.ladd, 1) := by decide +kernel
theorem dX10_wageOf_108 : decode cX10_wageOf 108 = .ok (.lload 9, 2) := by decide +kernel
theorem dX10_wageOf_110 : decode cX10_wageOf 110 = .ok (.lload_n 3, 1) := by decide +kernel
theorem dX10_wageOf_111 : decode cX10_wageOf 111 = .ok (.lmul, 1) := by decide +kernel
theorem dX10_wageOf_112 : decode cX10_wageOf 112 = .ok (.lsub, 1) := by decide +kernel
theorem dX10_wageOf_113 : decode cX10_wageOf 113 = .ok (.lastore, 1) := by decide +kernel
theorem dX10_wageOf_114 : decode cX10_wageOf 114 = .ok (.aload_n 0, 1) := by decide +kernel
theorem dX10_wageOf_115 : decode cX10_wageOf 115 = .ok (.getfield 67, 3) := by decide +kernel
theorem dX10_wageOf_118 : decode cX10_wageOf 118 = .ok (.iload 5, 2) := by decide +kernel
theorem dX10_wageOf_120 : decode cX10_wageOf 120 = .ok (.lload_n 3, 1) := by decide +kernel
theorem dX10_wageOf_121 : decode cX10_wageOf 121 = .ok (.aload_n 0, 1) := by decide +kernel
theorem dX10_wageOf_122 : decode cX10_wageOf 122 = .ok (.getfield 37, 3) := by decide +kernel
theorem dX10_wageOf_125 : decode cX10_wageOf 125 = .ok (.iload 6, 2) := by decide +kernel
theorem dX10_wageOf_127 : decode cX10_wageOf 127 = .ok (.iaload, 1) := by decide +kernel
theorem dX10_wageOf_128 : decode cX10_wageOf 128 = .ok (.i2l, 1) := by decide +kernel
theorem dX10_wageOf_129 : decode cX10_wageOf 129 = .ok (.lmul, 1) := by decide +kernel
theorem dX10_wageOf_130 : decode cX10_wageOf 130 = .ok (.lastore, 1) := by decide +kernel
theorem dX10_wageOf_131 : decode cX10_wageOf 131 = .ok (.aload_n 0, 1) := by decide +kernel
theorem dX10_wageOf_132 : decode cX10_wageOf 132 = .ok (.getfield 64, 3) := by decide +kernel
theorem dX10_wageOf_135 : decode cX10_wageOf 135 = .ok (.iload 5, 2) := by decide +kernel
theorem dX10_wageOf_137 : decode cX10_wageOf 137 = .ok (.laload, 1) := by decide +kernel
theorem dX10_wageOf_138 : decode cX10_wageOf 138 = .ok (.aload_n 0, 1) := by decide +kernel
theorem dX10_wageOf_139 : decode cX10_wageOf 139 = .ok (.getfield 67, 3) := by decide +kernel
theorem dX10_wageOf_142 : decode cX10_wageOf 142 = .ok (.iload 5, 2) := by decide +kernel
theorem dX10_wageOf_144 : decode cX10_wageOf 144 = .ok (.laload, 1) := by decide +kernel
theorem dX10_wageOf_145 : decode cX10_wageOf 145 = .ok (.invokestatic 277, 3) := by decide +kernel
theorem dX10_wageOf_148 : decode cX10_wageOf 148 = .ok (.lstore 11, 2) := by decide +kernel
theorem dX10_wageOf_150 : decode cX10_wageOf 150 = .ok (.aload_n 0, 1) := by decide +kernel
theorem dX10_wageOf_151 : decode cX10_wageOf 151 = .ok (.getfield 64, 3) := by decide +kernel
theorem dX10_wageOf_154 : decode cX10_wageOf 154 = .ok (.iload 5, 2) := by decide +kernel
theorem dX10_wageOf_156 : decode cX10_wageOf 156 = .ok (.aload_n 0, 1) := by decide +kernel
theorem dX10_wageOf_157 : decode cX10_wageOf 157 = .ok (.getfield 64, 3) := by decide +kernel
theorem dX10_wageOf_160 : decode cX10_wageOf 160 = .ok (.iload 5, 2) := by decide +kernel
theorem dX10_wageOf_162 : decode cX10_wageOf 162 = .ok (.laload, 1) := by decide +kernel
theorem dX10_wageOf_163 : decode cX10_wageOf 163 = .ok (.lload 11, 2) := by decide +kernel
theorem dX10_wageOf_165 : decode cX10_wageOf 165 = .ok (.ldiv, 1) := by decide +kernel
theorem dX10_wageOf_166 : decode cX10_wageOf 166 = .ok (.lastore, 1) := by decide +kernel
theorem dX10_wageOf_167 : decode cX10_wageOf 167 = .ok (.aload_n 0, 1) := by decide +kernel
theorem dX10_wageOf_168 : decode cX10_wageOf 168 = .ok (.getfield 67, 3) := by decide +kernel
theorem dX10_wageOf_171 : decode cX10_wageOf 171 = .ok (.iload 5, 2) := by decide +kernel
theorem dX10_wageOf_173 : decode cX10_wageOf 173 = .ok (.aload_n 0, 1) := by decide +kernel
theorem dX10_wageOf_174 : decode cX10_wageOf 174 = .ok (.getfield 67, 3) := by decide +kernel
theorem dX10_wageOf_177 : decode cX10_wageOf 177 = .ok (.iload 5, 2) := by decide +kernel
theorem dX10_wageOf_179 : decode cX10_wageOf 179 = .ok (.laload, 1) := by decide +kernel
theorem dX10_wageOf_180 : decode cX10_wageOf 180 = .ok (.lload 11, 2) := by decide +kernel
theorem dX10_wageOf_182 : decode cX10_wageOf 182 = .ok (.ldiv, 1) := by decide +kernel
theorem dX10_wageOf_183 : decode cX10_wageOf 183 = .ok (.lastore, 1) := by decide +kernel
theorem dX10_wageOf_184 : decode cX10_wageOf 184 = .ok (.return_, 1) := by decide +kernel
set_option maxRecDepth 20000 in
theorem ggX10_isCorner_X10_determinant : GoodIn wsX10_isCorner wsX10_determinant := goodIn_r _ [12, 3, 13, 7, 14, 6, 15, 16, 17, 11, 18, 19, 20, 21, 22, 23, 24, 25, 26, 27, 28, 29, 30, 31, 32, 33, 34, 35, 36, 37, 38, 39, 40, 41, 42, 43, 44, 45, 46, 47, 48, 49, 50, 51, 52, 53, 54, 55, 56, 57, 58, 59, 60, 61, 62, 63, 64, 65, 66, 67, 68, 69, 70, 71, 72, 73, 74, 75, 76, 77, 78, 79, 80, 81, 82, 83] (by decide +kernel) (by decide +kernel)
set_option maxRecDepth 20000 in
theorem gX10_isCorner_X10_determinant : GoodIn wsX10_isCorner (wsV RX10 306 RX10 yX10_determinant wsX10_determinant) := goodIn_app (goodIn_of _ (by decide +kernel)) ggX10_isCorner_X10_determinant
theorem dX10_isCorner_0 : decode cX10_isCorner 0 = .ok (.aload_n 0, 1) := by decide +kernel
theorem dX10_isCorner_1 : decode cX10_isCorner 1 = .ok (.aload_n 0, 1) := by decide +kernel
theorem dX10_isCorner_2 : decode cX10_isCorner 2 = .ok (.iconst (-1), 1) := by decide +kernel
theorem dX10_isCorner_3 : decode cX10_isCorner 3 = .ok (.invokevirtual 306, 3) := by decide +kernel
theorem dX10_isCorner_6 : decode cX10_isCorner 6 = .ok (.putfield 310, 3) := by decide +kernel
theorem dX10_isCorner_9 : decode cX10_isCorner 9 = .ok (.aload_n 0, 1) := by decide +kernel
theorem dX10_isCorner_10 : decode cX10_isCorner 10 = .ok (.getfield 310, 3) := by decide +kernel
theorem dX10_isCorner_13 : decode cX10_isCorner 13 = .ok (.lconst 0, 1) := by decide +kernel
theorem dX10_isCorner_14 : decode cX10_isCorner 14 = .ok (.lcmp, 1) := by decide +kernel
theorem dX10_isCorner_15 : decode cX10_isCorner 15 = .ok (.ifCond .ne 5, 3) := by decide +kernel
theorem dX10_isCorner_18 : decode cX10_isCorner 18 = .ok (.iconst 0, 1) := by decide +kernel
theorem dX10_isCorner_19 : decode cX10_isCorner 19 = .ok (.ireturn, 1) := by decide +kernel
theorem dX10_isCorner_20 : decode cX10_isCorner 20 = .ok (.aload_n 0, 1) := by decide +kernel
theorem dX10_isCorner_21 : decode cX10_isCorner 21 = .ok (.getfield 310, 3) := by decide +kernel
theorem dX10_isCorner_24 : decode cX10_isCorner 24 = .ok (.lconst 0, 1) := by decide +kernel
theorem dX10_isCorner_25 : decode cX10_isCorner 25 = .ok (.lcmp, 1) := by decide +kernel
theorem dX10_isCorner_26 : decode cX10_isCorner 26 = .ok (.ifCond .ge 9, 3) := by decide +kernel
theorem dX10_isCorner_29 : decode cX10_isCorner 29 = .ok (.ldc2_w 313, 3) := by decide +kernel
theorem dX10_isCorner_32 : decode cX10_isCorner 32 = .ok (.goto 4, 3) := by decide +kernel
theorem dX10_isCorner_35 : decode cX10_isCorner 35 = .ok (.lconst 1, 1) := by decide +kernel
theorem dX10_isCorner_36 : decode cX10_isCorner 36 = .ok (.lstore_n 1, 1) := by decide +kernel
theorem dX10_isCorner_37 : decode cX10_isCorner 37 = .ok (.iconst 0, 1) := by decide +kernel
theorem dX10_isCorner_38 : decode cX10_isCorner 38 = .ok (.istore_n 3, 1) := by decide +kernel
theorem dX10_isCorner_39 : decode cX10_isCorner 39 = .ok (.iload_n 3, 1) := by decide +kernel
theorem dX10_isCorner_40 : decode cX10_isCorner 40 = .ok (.aload_n 0, 1) := by decide +kernel
theorem dX10_isCorner_41 : decode cX10_isCorner 41 = .ok (.getfield 289, 3) := by decide +kernel
theorem dX10_isCorner_44 : decode cX10_isCorner 44 = .ok (.if_icmp .ge 22, 3) := by decide +kernel
theorem dX10_isCorner_47 : decode cX10_isCorner 47 = .ok (.aload_n 0, 1) := by decide +kernel
theorem dX10_isCorner_48 : decode cX10_isCorner 48 = .ok (.getfield 61, 3) := by decide +kernel
theorem dX10_isCorner_51 : decode cX10_isCorner 51 = .ok (.iload_n 3, 1) := by decide +kernel
theorem dX10_isCorner_52 : decode cX10_isCorner 52 = .ok (.lload_n 1, 1) := by decide +kernel
theorem dX10_isCorner_53 : decode cX10_isCorner 53 = .ok (.aload_n 0, 1) := by decide +kernel
theorem dX10_isCorner_54 : decode cX10_isCorner 54 = .ok (.iload_n 3, 1) := by decide +kernel
theorem dX10_isCorner_55 : decode cX10_isCorner 55 = .ok (.invokevirtual 306, 3) := by decide +kernel
theorem dX10_isCorner_58 : decode cX10_isCorner 58 = .ok (.lmul, 1) := by decide +kernel
theorem dX10_isCorner_59 : decode cX10_isCorner 59 = .ok (.lastore, 1) := by decide +kernel
theorem dX10_isCorner_60 : decode cX10_isCorner 60 = .ok (.iinc 3 1, 3) := by decide +kernel
theorem dX10_isCorner_63 : decode cX10_isCorner 63 = .ok (.goto (-24), 3) := by decide +kernel
theorem dX10_isCorner_66 : decode cX10_isCorner 66 = .ok (.aload_n 0, 1) := by decide +kernel
theorem dX10_isCorner_67 : decode cX10_isCorner 67 = .ok (.lload_n 1, 1) := by decide +kernel
theorem dX10_isCorner_68 : decode cX10_isCorner 68 = .ok (.aload_n 0, 1) := by decide +kernel
theorem dX10_isCorner_69 : decode cX10_isCorner 69 = .ok (.getfield 310, 3) := by decide +kernel
theorem dX10_isCorner_72 : decode cX10_isCorner 72 = .ok (.lmul, 1) := by decide +kernel
theorem dX10_isCorner_73 : decode cX10_isCorner 73 = .ok (.putfield 310, 3) := by decide +kernel
theorem dX10_isCorner_76 : decode cX10_isCorner 76 = .ok (.iconst 0, 1) := by decide +kernel
theorem dX10_isCorner_77 : decode cX10_isCorner 77 = .ok (.istore_n 3, 1) := by decide +kernel
theorem dX10_isCorner_78 : decode cX10_isCorner 78 = .ok (.iload_n 3, 1) := by decide +kernel
theorem dX10_isCorner_79 : decode cX10_isCorner 79 = .ok (.aload_n 0, 1) := by decide +kernel
theorem dX10_isCorner_80 : decode cX10_isCorner 80 = .ok (.getfield 299, 3) := by decide +kernel
theorem dX10_isCorner_83 : decode cX10_isCorner 83 = .ok (.if_icmp .ge 73, 3) := by decide +kernel
theorem dX10_isCorner_86 : decode cX10_isCorner 86 = .ok (.lconst 0, 1) := by decide +kernel
theorem dX10_isCorner_87 : decode cX10_isCorner 87 = .ok (.lstore 4, 2) := by decide +kernel
theorem dX10_isCorner_89 : decode cX10_isCorner 89 = .ok (.iconst 0, 1) := by decide +kernel
theorem dX10_isCorner_90 : decode cX10_isCorner 90 = .ok (.istore 6, 2) := by decide +kernel
theorem dX10_isCorner_92 : decode cX10_isCorner 92 = .ok (.iload 6, 2) := by decide +kernel
theorem dX10_isCorner_94 : decode cX10_isCorner 94 = .ok (.aload_n 0, 1) := by decide +kernel
theorem dX10_isCorner_95 : decode cX10_isCorner 95 = .ok (.getfield 289, 3) := by decide +kernel
theorem dX10_isCorner_98 : decode cX10_isCorner 98 = .ok (.if_icmp .ge 33, 3) := by decide +kernel
theorem dX10_isCorner_101 : decode cX10_isCorner 101 = .ok (.lload 4, 2) := by decide +kernel
theorem dX10_isCorner_103 : decode cX10_isCorner 103 = .ok (.aload_n 0, 1) := by decide +kernel
theorem dX10_isCorner_104 : decode cX10_isCorner 104 = .ok (.getfield 49, 3) := by decide +kernel
theorem dX10_isCorner_107 : decode cX10_isCorner 107 = .ok (.iconst 4, 1) := by decide +kernel
theorem dX10_isCorner_108 : decode cX10_isCorner 108 = .ok (.iload_n 3, 1) := by decide +kernel
theorem dX10_isCorner_109 : decode cX10_isCorner 109 = .ok (.imul, 1) := by decide +kernel
theorem dX10_isCorner_110 : decode cX10_isCorner 110 = .ok (.iload 6, 2) := by decide +kernel
theorem dX10_isCorner_112 : decode cX10_isCorner 112 = .ok (.iadd, 1) := by decide +kernel
theorem dX10_isCorner_113 : decode cX10_isCorner 113 = .ok (.laload, 1) := by decide +kernel
theorem dX10_isCorner_114 : decode cX10_isCorner 114 = .ok (.aload_n 0, 1) := by decide +kernel
theorem dX10_isCorner_115 : decode cX10_isCorner 115 = .ok (.getfield 61, 3) := by decide +kernel
theorem dX10_isCorner_118 : decode cX10_isCorner 118 = .ok (.iload 6, 2) := by decide +kernel
theorem dX10_isCorner_120 : decode cX10_isCorner 120 = .ok (.laload, 1) := by decide +kernel
theorem dX10_isCorner_121 : decode cX10_isCorner 121 = .ok (.lmul, 1) := by decide +kernel
theorem dX10_isCorner_122 : decode cX10_isCorner 122 = .ok (.ladd, 1) := by decide +kernel
theorem dX10_isCorner_123 : decode cX10_isCorner 123 = .ok (.lstore 4, 2) := by decide +kernel
theorem dX10_isCorner_125 : decode cX10_isCorner 125 = .ok (.iinc 6 1, 3) := by decide +kernel
theorem dX10_isCorner_128 : decode cX10_isCorner 128 = .ok (.goto (-36), 3) := by decide +kernel
theorem dX10_isCorner_131 : decode cX10_isCorner 131 = .ok (.lload 4, 2) := by decide +kernel
theorem dX10_isCorner_133 : decode cX10_isCorner 133 = .ok (.aload_n 0, 1) := by decide +kernel
theorem dX10_isCorner_134 : decode cX10_isCorner 134 = .ok (.getfield 52, 3) := by decide +kernel
theorem dX10_isCorner_137 : decode cX10_isCorner 137 = .ok (.iload_n 3, 1) := by decide +kernel
theorem dX10_isCorner_138 : decode cX10_isCorner 138 = .ok (.laload, 1) := by decide +kernel
theorem dX10_isCorner_139 : decode cX10_isCorner 139 = .ok (.aload_n 0, 1) := by decide +kernel
theorem dX10_isCorner_140 : decode cX10_isCorner 140 = .ok (.getfield 310, 3) := by decide +kernel
theorem dX10_isCorner_143 : decode cX10_isCorner 143 = .ok (.lmul, 1) := by decide +kernel
theorem dX10_isCorner_144 : decode cX10_isCorner 144 = .ok (.lcmp, 1) := by decide +kernel
theorem dX10_isCorner_145 : decode cX10_isCorner 145 = .ok (.ifCond .ge 5, 3) := by decide +kernel
theorem dX10_isCorner_148 : decode cX10_isCorner 148 = .ok (.iconst 0, 1) := by decide +kernel
theorem dX10_isCorner_149 : decode cX10_isCorner 149 = .ok (.ireturn, 1) := by decide +kernel
theorem dX10_isCorner_150 : decode cX10_isCorner 150 = .ok (.iinc 3 1, 3) := by decide +kernel
theorem dX10_isCorner_153 : decode cX10_isCorner 153 = .ok (.goto (-75), 3) := by decide +kernel
theorem dX10_isCorner_156 : decode cX10_isCorner 156 = .ok (.iconst 1, 1) := by decide +kernel
theorem dX10_isCorner_157 : decode cX10_isCorner 157 = .ok (.ireturn, 1) := by decide +kernel
theorem dX10_apart_0 : decode cX10_apart 0 = .ok (.lload_n 0, 1) := by decide +kernel
theorem dX10_apart_1 : decode cX10_apart 1 = .ok (.lload 6, 2) := by decide +kernel
theorem dX10_apart_3 : decode cX10_apart 3 = .ok (.lmul, 1) := by decide +kernel
theorem dX10_apart_4 : decode cX10_apart 4 = .ok (.lload 4, 2) := by decide +kernel
theorem dX10_apart_6 : decode cX10_apart 6 = .ok (.lload_n 2, 1) := by decide +kernel
theorem dX10_apart_7 : decode cX10_apart 7 = .ok (.lmul, 1) := by decide +kernel
theorem dX10_apart_8 : decode cX10_apart 8 = .ok (.lsub, 1) := by decide +kernel
theorem dX10_apart_9 : decode cX10_apart 9 = .ok (.lreturn, 1) := by decide +kernel
theorem pm_X10_look_r1 : ∀ w ∈ wsX10_look_r1, w ∈ wsX10_look := fun _ h => List.mem_cons_of_mem _ (List.mem_append_left _ (List.mem_append_left _ h))
theorem pm_X10_look_r2 : ∀ w ∈ wsX10_look_r2, w ∈ wsX10_look := fun _ h => List.mem_cons_of_mem _ (List.mem_append_left _ (List.mem_append_right _ (List.mem_append_left _ h)))
theorem pm_X10_look_r3 : ∀ w ∈ wsX10_look_r3, w ∈ wsX10_look := fun _ h => List.mem_cons_of_mem _ (List.mem_append_left _ (List.mem_append_right _ (List.mem_append_right _ (h))))
theorem pw_X10_look_X10 : ∀ w ∈ wsX100, w ∈ wsX10_look := fun _ h => List.mem_cons_of_mem _ (List.mem_append_right _ h)
set_option maxRecDepth 20000 in
theorem ggX10_look_X10_isCorner : GoodIn wsX10_look wsX10_isCorner := goodIn_sub (List.forall_mem_cons.mpr ⟨pm_X10_look_r1 _ (List.mem_of_getElem? (i := 17) rfl), List.forall_mem_append.mpr ⟨List.forall_mem_cons.mpr ⟨pm_X10_look_r1 _ (List.mem_of_getElem? (i := 2) rfl), List.forall_mem_cons.mpr ⟨pm_X10_look_r1 _ (List.mem_of_getElem? (i := 10) rfl), List.forall_mem_cons.mpr ⟨pm_X10_look_r1 _ (List.mem_of_getElem? (i := 0) rfl), List.forall_mem_cons.mpr ⟨pm_X10_look_r1 _ (List.mem_of_getElem? (i := 1) rfl), List.forall_mem_cons.mpr ⟨pm_X10_look_r1 _ (List.mem_of_getElem? (i := 18) rfl), List.forall_mem_cons.mpr ⟨pm_X10_look_r1 _ (List.mem_of_getElem? (i := 19) rfl), List.forall_mem_cons.mpr ⟨pm_X10_look_r1 _ (List.mem_of_getElem? (i := 20) rfl), List.forall_mem_cons.mpr ⟨pm_X10_look_r1 _ (List.mem_of_getElem? (i := 21) rfl), List.forall_mem_cons.mpr ⟨pm_X10_look_r1 _ (List.mem_of_getElem? (i := 22) rfl), List.forall_mem_cons.mpr ⟨pm_X10_look_r1 _ (List.mem_of_getElem? (i := 23) rfl), List.forall_mem_cons.mpr ⟨pm_X10_look_r1 _ (List.mem_of_getElem? (i := 16) rfl), List.forall_mem_cons.mpr ⟨pm_X10_look_r2 _ (List.mem_of_getElem? (i := 0) rfl), List.forall_mem_cons.mpr ⟨pm_X10_look_r2 _ (List.mem_of_getElem? (i := 1) rfl), List.forall_mem_cons.mpr ⟨pm_X10_look_r2 _ (List.mem_of_getElem? (i := 2) rfl), List.forall_mem_cons.mpr ⟨pm_X10_look_r2 _ (List.mem_of_getElem? (i := 3) rfl), List.forall_mem_cons.mpr ⟨pm_X10_look_r2 _ (List.mem_of_getElem? (i := 4) rfl), List.forall_mem_cons.mpr ⟨pm_X10_look_r2 _ (List.mem_of_getElem? (i := 5) rfl), List.forall_mem_cons.mpr ⟨pm_X10_look_r2 _ (List.mem_of_getElem? (i := 6) rfl), fun _ h => absurd h List.not_mem_nil⟩⟩⟩⟩⟩⟩⟩⟩⟩⟩⟩⟩⟩⟩⟩⟩⟩⟩, pw_X10_look_X10⟩⟩) (by decide +kernel)
set_option maxRecDepth 20000 in
theorem gX10_look_X10_isCorner : GoodIn wsX10_look (wsV RX10 315 RX10 yX10_isCorner wsX10_isCorner) := goodIn_app (goodIn_of _ (by decide +kernel)) ggX10_look_X10_isCorner
set_option maxRecDepth 20000 in
theorem ggX10_look_X10_wageOf : GoodIn wsX10_look wsX10_wageOf := goodIn_sub (List.forall_mem_cons.mpr ⟨pm_X10_look_r2 _ (List.mem_of_getElem? (i := 10) rfl), List.forall_mem_append.mpr ⟨List.forall_mem_cons.mpr ⟨pm_X10_look_r1 _ (List.mem_of_getElem? (i := 3) rfl), List.forall_mem_cons.mpr ⟨pm_X10_look_r2 _ (List.mem_of_getElem? (i := 11) rfl), List.forall_mem_cons.mpr ⟨pm_X10_look_r1 _ (List.mem_of_getElem? (i := 6) rfl), List.forall_mem_cons.mpr ⟨pm_X10_look_r2 _ (List.mem_of_getElem? (i := 12) rfl), List.forall_mem_cons.mpr ⟨pm_X10_look_r1 _ (List.mem_of_getElem? (i := 5) rfl), List.forall_mem_cons.mpr ⟨pm_X10_look_r2 _ (List.mem_of_getElem? (i := 13) rfl), List.forall_mem_cons.mpr ⟨pm_X10_look_r2 _ (List.mem_of_getElem? (i := 14) rfl), List.forall_mem_cons.mpr ⟨pm_X10_look_r2 _ (List.mem_of_getElem? (i := 15) rfl), List.forall_mem_cons.mpr ⟨pm_X10_look_r1 _ (List.mem_of_getElem? (i := 16) rfl), List.forall_mem_cons.mpr ⟨pm_X10_look_r2 _ (List.mem_of_getElem? (i := 16) rfl), List.forall_mem_cons.mpr ⟨pm_X10_look_r2 _ (List.mem_of_getElem? (i := 17) rfl), List.forall_mem_cons.mpr ⟨pm_X10_look_r2 _ (List.mem_of_getElem? (i := 18) rfl), List.forall_mem_cons.mpr ⟨pm_X10_look_r2 _ (List.mem_of_getElem? (i := 19) rfl), fun _ h => absurd h List.not_mem_nil⟩⟩⟩⟩⟩⟩⟩⟩⟩⟩⟩⟩⟩, pw_X10_look_X10⟩⟩) (by decide +kernel)
set_option maxRecDepth 20000 in
theorem gX10_look_X10_wageOf : GoodIn wsX10_look (wsV RX10 318 RX10 yX10_wageOf wsX10_wageOf) := goodIn_app (goodIn_of _ (by decide +kernel)) ggX10_look_X10_wageOf
set_option maxRecDepth 20000 in
theorem ggX10_look_X10_chanceOf : GoodIn wsX10_look wsX10_chanceOf := goodIn_sub (List.forall_mem_cons.mpr ⟨pm_X10_look_r2 _ (List.mem_of_getElem? (i := 23) rfl), List.forall_mem_append.mpr ⟨List.forall_mem_cons.mpr ⟨pm_X10_look_r3 _ (List.mem_of_getElem? (i := 0) rfl), fun _ h => absurd h List.not_mem_nil⟩, pw_X10_look_X10⟩⟩) (by decide +kernel)
set_option maxRecDepth 20000 in
theorem gX10_look_X10_chanceOf : GoodIn wsX10_look (wsV RX10 259 RX10 yX10_chanceOf wsX10_chanceOf) := goodIn_app (goodIn_of _ (by decide +kernel)) ggX10_look_X10_chanceOf
set_option maxRecDepth 20000 in
theorem ggX10_look_X10_common : GoodIn wsX10_look wsX10_common := goodIn_sub (List.forall_mem_cons.mpr ⟨pm_X10_look_r2 _ (List.mem_of_getElem? (i := 19) rfl), fun _ h => absurd h List.not_mem_nil⟩) (by decide +kernel)
set_option maxRecDepth 20000 in
theorem gX10_look_X10_common : GoodIn wsX10_look (va_wsS RX10 277 yX10_common wsX10_common) := goodIn_app (goodIn_of _ (by decide +kernel)) ggX10_look_X10_common
set_option maxRecDepth 20000 in
theorem ggX10_look_X10_apart : GoodIn wsX10_look wsX10_apart := goodIn_sub (List.forall_mem_cons.mpr ⟨pm_X10_look_r3 _ (List.mem_of_getElem? (i := 3) rfl), fun _ h => absurd h List.not_mem_nil⟩) (by decide +kernel)
set_option maxRecDepth 20000 in
theorem gX10_look_X10_apart : GoodIn wsX10_look (va_wsS RX10 331 yX10_apart wsX10_apart) := goodIn_app (goodIn_of _ (by decide +kernel)) ggX10_look_X10_apart
theorem dX10_look_0 : decode cX10_look 0 = .ok (.aload_n 0, 1) := by decide +kernel
theorem dX10_look_1 : decode cX10_look 1 = .ok (.invokevirtual 315, 3) := by decide +kernel
theorem dX10_look_4 : decode cX10_look 4 = .ok (.ifCond .ne 4, 3) := by decide +kernel
theorem dX10_look_7 : decode cX10_look 7 = .ok (.return_, 1) := by decide +kernel
theorem dX10_look_8 : decode cX10_look 8 = .ok (.lconst 0, 1) := by decide +kernel
theorem dX10_look_9 : decode cX10_look 9 = .ok (.lstore_n 2, 1) := by decide +kernel
theorem dX10_look_10 : decode cX10_look 10 = .ok (.lconst 1, 1) := by decide +kernel
theorem dX10_look_11 : decode cX10_look 11 = .ok (.lstore 4, 2) := by decide +kernel
theorem dX10_look_13 : decode cX10_look 13 = .ok (.iconst 0, 1) := by decide +kernel
theorem dX10_look_14 : decode cX10_look 14 = .ok (.istore 6, 2) := by decide +kernel
theorem dX10_look_16 : decode cX10_look 16 = .ok (.iload 6, 2) := by decide +kernel
theorem dX10_look_18 : decode cX10_look 18 = .ok (.aload_n 0, 1) := by decide +kernel
theorem dX10_look_19 : decode cX10_look 19 = .ok (.getfield 289, 3) := by decide +kernel
theorem dX10_look_22 : decode cX10_look 22 = .ok (.if_icmp .ge 26, 3) := by decide +kernel
theorem dX10_look_25 : decode cX10_look 25 = .ok (.aload_n 0, 1) := by decide +kernel
theorem dX10_look_26 : decode cX10_look 26 = .ok (.aload_n 0, 1) := by decide +kernel
theorem dX10_look_27 : decode cX10_look 27 = .ok (.getfield 61, 3) := by decide +kernel
theorem dX10_look_30 : decode cX10_look 30 = .ok (.iload 6, 2) := by decide +kernel
theorem dX10_look_32 : decode cX10_look 32 = .ok (.laload, 1) := by decide +kernel
theorem dX10_look_33 : decode cX10_look 33 = .ok (.aload_n 0, 1) := by decide +kernel
theorem dX10_look_34 : decode cX10_look 34 = .ok (.getfield 310, 3) := by decide +kernel
theorem dX10_look_37 : decode cX10_look 37 = .ok (.iload 6, 2) := by decide +kernel
theorem dX10_look_39 : decode cX10_look 39 = .ok (.invokevirtual 318, 3) := by decide +kernel
theorem dX10_look_42 : decode cX10_look 42 = .ok (.iinc 6 1, 3) := by decide +kernel
theorem dX10_look_45 : decode cX10_look 45 = .ok (.goto (-29), 3) := by decide +kernel
theorem dX10_look_48 : decode cX10_look 48 = .ok (.iconst 0, 1) := by decide +kernel
theorem dX10_look_49 : decode cX10_look 49 = .ok (.istore 6, 2) := by decide +kernel
theorem dX10_look_51 : decode cX10_look 51 = .ok (.iload 6, 2) := by decide +kernel
theorem dX10_look_53 : decode cX10_look 53 = .ok (.aload_n 0, 1) := by decide +kernel
theorem dX10_look_54 : decode cX10_look 54 = .ok (.getfield 17, 3) := by decide +kernel
theorem dX10_look_57 : decode cX10_look 57 = .ok (.iconst 3, 1) := by decide +kernel
theorem dX10_look_58 : decode cX10_look 58 = .ok (.iaload, 1) := by decide +kernel
theorem dX10_look_59 : decode cX10_look 59 = .ok (.if_icmp .ge 80, 3) := by decide +kernel
theorem dX10_look_62 : decode cX10_look 62 = .ok (.aload_n 0, 1) := by decide +kernel
theorem dX10_look_63 : decode cX10_look 63 = .ok (.getfield 46, 3) := by decide +kernel
theorem dX10_look_66 : decode cX10_look 66 = .ok (.iload 6, 2) := by decide +kernel
theorem dX10_look_68 : decode cX10_look 68 = .ok (.iaload, 1) := by decide +kernel
theorem dX10_look_69 : decode cX10_look 69 = .ok (.istore 7, 2) := by decide +kernel
theorem dX10_look_71 : decode cX10_look 71 = .ok (.lload_n 2, 1) := by decide +kernel
theorem dX10_look_72 : decode cX10_look 72 = .ok (.aload_n 0, 1) := by decide +kernel
theorem dX10_look_73 : decode cX10_look 73 = .ok (.getfield 67, 3) := by decide +kernel
theorem dX10_look_76 : decode cX10_look 76 = .ok (.iload 7, 2) := by decide +kernel
theorem dX10_look_78 : decode cX10_look 78 = .ok (.laload, 1) := by decide +kernel
theorem dX10_look_79 : decode cX10_look 79 = .ok (.lmul, 1) := by decide +kernel
theorem dX10_look_80 : decode cX10_look 80 = .ok (.aload_n 0, 1) := by decide +kernel
theorem dX10_look_81 : decode cX10_look 81 = .ok (.iload_n 1, 1) := by decide +kernel
theorem dX10_look_82 : decode cX10_look 82 = .ok (.iload 6, 2) := by decide +kernel
theorem dX10_look_84 : decode cX10_look 84 = .ok (.invokevirtual 259, 3) := by decide +kernel
theorem dX10_look_87 : decode cX10_look 87 = .ok (.i2l, 1) := by decide +kernel
theorem dX10_look_88 : decode cX10_look 88 = .ok (.aload_n 0, 1) := by decide +kernel
theorem dX10_look_89 : decode cX10_look 89 = .ok (.getfield 64, 3) := by decide +kernel
theorem dX10_look_92 : decode cX10_look 92 = .ok (.iload 7, 2) := by decide +kernel
theorem dX10_look_94 : decode cX10_look 94 = .ok (.laload, 1) := by decide +kernel
theorem dX10_look_95 : decode cX10_look 95 = .ok (.lmul, 1) := by decide +kernel
theorem dX10_look_96 : decode cX10_look 96 = .ok (.lload 4, 2) := by decide +kernel
theorem dX10_look_98 : decode cX10_look 98 = .ok (.lmul, 1) := by decide +kernel
theorem dX10_look_99 : decode cX10_look 99 = .ok (.ladd, 1) := by decide +kernel
theorem dX10_look_100 : decode cX10_look 100 = .ok (.lstore_n 2, 1) := by decide +kernel
theorem dX10_look_101 : decode cX10_look 101 = .ok (.lload 4, 2) := by decide +kernel
theorem dX10_look_103 : decode cX10_look 103 = .ok (.aload_n 0, 1) := by decide +kernel
theorem dX10_look_104 : decode cX10_look 104 = .ok (.getfield 67, 3) := by decide +kernel
theorem dX10_look_107 : decode cX10_look 107 = .ok (.iload 7, 2) := by decide +kernel
theorem dX10_look_109 : decode cX10_look 109 = .ok (.laload, 1) := by decide +kernel
theorem dX10_look_110 : decode cX10_look 110 = .ok (.lmul, 1) := by decide +kernel
theorem dX10_look_111 : decode cX10_look 111 = .ok (.lstore 4, 2) := by decide +kernel
theorem dX10_look_113 : decode cX10_look 113 = .ok (.lload_n 2, 1) := by decide +kernel
theorem dX10_look_114 : decode cX10_look 114 = .ok (.lload 4, 2) := by decide +kernel
theorem dX10_look_116 : decode cX10_look 116 = .ok (.invokestatic 277, 3) := by decide +kernel
theorem dX10_look_119 : decode cX10_look 119 = .ok (.lstore 8, 2) := by decide +kernel
theorem dX10_look_121 : decode cX10_look 121 = .ok (.lload_n 2, 1) := by decide +kernel
theorem dX10_look_122 : decode cX10_look 122 = .ok (.lload 8, 2) := by decide +kernel
theorem dX10_look_124 : decode cX10_look 124 = .ok (.ldiv, 1) := by decide +kernel
theorem dX10_look_125 : decode cX10_look 125 = .ok (.lstore_n 2, 1) := by decide +kernel
theorem dX10_look_126 : decode cX10_look 126 = .ok (.lload 4, 2) := by decide +kernel
theorem dX10_look_128 : decode cX10_look 128 = .ok (.lload 8, 2) := by decide +kernel
theorem dX10_look_130 : decode cX10_look 130 = .ok (.ldiv, 1) := by decide +kernel
theorem dX10_look_131 : decode cX10_look 131 = .ok (.lstore 4, 2) := by decide +kernel
theorem dX10_look_133 : decode cX10_look 133 = .ok (.iinc 6 1, 3) := by decide +kernel
theorem dX10_look_136 : decode cX10_look 136 = .ok (.goto (-85), 3) := by decide +kernel
theorem dX10_look_139 : decode cX10_look 139 = .ok (.lload 4, 2) := by decide +kernel
theorem dX10_look_141 : decode cX10_look 141 = .ok (.aload_n 0, 1) := by decide +kernel
theorem dX10_look_142 : decode cX10_look 142 = .ok (.getfield 17, 3) := by decide +kernel
theorem dX10_look_145 : decode cX10_look 145 = .ok (.iconst 0, 1) := by decide +kernel
theorem dX10_look_146 : decode cX10_look 146 = .ok (.iaload, 1) := by decide +kernel
theorem dX10_look_147 : decode cX10_look 147 = .ok (.i2l, 1) := by decide +kernel
theorem dX10_look_148 : decode cX10_look 148 = .ok (.lmul, 1) := by decide +kernel
theorem dX10_look_149 : decode cX10_look 149 = .ok (.lstore 4, 2) := by decide +kernel
theorem dX10_look_151 : decode cX10_look 151 = .ok (.aload_n 0, 1) := by decide +kernel
theorem dX10_look_152 : decode cX10_look 152 = .ok (.getfield 322, 3) := by decide +kernel
theorem dX10_look_155 : decode cX10_look 155 = .ok (.ifCond .eq 20, 3) := by decide +kernel
theorem dX10_look_158 : decode cX10_look 158 = .ok (.lload_n 2, 1) := by decide +kernel
theorem dX10_look_159 : decode cX10_look 159 = .ok (.lload 4, 2) := by decide +kernel
theorem dX10_look_161 : decode cX10_look 161 = .ok (.aload_n 0, 1) := by decide +kernel
theorem dX10_look_162 : decode cX10_look 162 = .ok (.getfield 325, 3) := by decide +kernel
theorem dX10_look_165 : decode cX10_look 165 = .ok (.aload_n 0, 1) := by decide +kernel
theorem dX10_look_166 : decode cX10_look 166 = .ok (.getfield 328, 3) := by decide +kernel
theorem dX10_look_169 : decode cX10_look 169 = .ok (.invokestatic 331, 3) := by decide +kernel
theorem dX10_look_172 : decode cX10_look 172 = .ok (.goto 6, 3) := by decide +kernel
theorem dX10_look_175 : decode cX10_look 175 = .ok (.ldc2_w 313, 3) := by decide +kernel
theorem dX10_look_178 : decode cX10_look 178 = .ok (.lstore 6, 2) := by decide +kernel
theorem dX10_look_180 : decode cX10_look 180 = .ok (.iconst 0, 1) := by decide +kernel
theorem dX10_look_181 : decode cX10_look 181 = .ok (.istore 8, 2) := by decide +kernel
theorem dX10_look_183 : decode cX10_look 183 = .ok (.iload 8, 2) := by decide +kernel
theorem dX10_look_185 : decode cX10_look 185 = .ok (.aload_n 0, 1) := by decide +kernel
theorem dX10_look_186 : decode cX10_look 186 = .ok (.getfield 289, 3) := by decide +kernel
theorem dX10_look_189 : decode cX10_look 189 = .ok (.if_icmp .ge 49, 3) := by decide +kernel
theorem dX10_look_192 : decode cX10_look 192 = .ok (.lload 6, 2) := by decide +kernel
theorem dX10_look_194 : decode cX10_look 194 = .ok (.lconst 0, 1) := by decide +kernel
theorem dX10_look_195 : decode cX10_look 195 = .ok (.lcmp, 1) := by decide +kernel
theorem dX10_look_196 : decode cX10_look 196 = .ok (.ifCond .ne 42, 3) := by decide +kernel
theorem dX10_look_199 : decode cX10_look 199 = .ok (.aload_n 0, 1) := by decide +kernel
theorem dX10_look_200 : decode cX10_look 200 = .ok (.getfield 64, 3) := by decide +kernel
theorem dX10_look_203 : decode cX10_look 203 = .ok (.iload 8, 2) := by decide +kernel
theorem dX10_look_205 : decode cX10_look 205 = .ok (.laload, 1) := by decide +kernel
theorem dX10_look_206 : decode cX10_look 206 = .ok (.aload_n 0, 1) := by decide +kernel
theorem dX10_look_207 : decode cX10_look 207 = .ok (.getfield 67, 3) := by decide +kernel
theorem dX10_look_210 : decode cX10_look 210 = .ok (.iload 8, 2) := by decide +kernel
theorem dX10_look_212 : decode cX10_look 212 = .ok (.laload, 1) := by decide +kernel
theorem dX10_look_213 : decode cX10_look 213 = .ok (.aload_n 0, 1) := by decide +kernel
theorem dX10_look_214 : decode cX10_look 214 = .ok (.getfield 70, 3) := by decide +kernel
theorem dX10_look_217 : decode cX10_look 217 = .ok (.iload 8, 2) := by decide +kernel
theorem dX10_look_219 : decode cX10_look 219 = .ok (.laload, 1) := by decide +kernel
theorem dX10_look_220 : decode cX10_look 220 = .ok (.aload_n 0, 1) := by decide +kernel
theorem dX10_look_221 : decode cX10_look 221 = .ok (.getfield 73, 3) := by decide +kernel
theorem dX10_look_224 : decode cX10_look 224 = .ok (.iload 8, 2) := by decide +kernel
theorem dX10_look_226 : decode cX10_look 226 = .ok (.laload, 1) := by decide +kernel
theorem dX10_look_227 : decode cX10_look 227 = .ok (.invokestatic 331, 3) := by decide +kernel
theorem dX10_look_230 : decode cX10_look 230 = .ok (.lstore 6, 2) := by decide +kernel
theorem dX10_look_232 : decode cX10_look 232 = .ok (.iinc 8 1, 3) := by decide +kernel
theorem dX10_look_235 : decode cX10_look 235 = .ok (.goto (-52), 3) := by decide +kernel
theorem dX10_look_238 : decode cX10_look 238 = .ok (.lload 6, 2) := by decide +kernel
theorem dX10_look_240 : decode cX10_look 240 = .ok (.lconst 0, 1) := by decide +kernel
theorem dX10_look_241 : decode cX10_look 241 = .ok (.lcmp, 1) := by decide +kernel
theorem dX10_look_242 : decode cX10_look 242 = .ok (.ifCond .lt 4, 3) := by decide +kernel
theorem dX10_look_245 : decode cX10_look 245 = .ok (.return_, 1) := by decide +kernel
theorem dX10_look_246 : decode cX10_look 246 = .ok (.aload_n 0, 1) := by decide +kernel
theorem dX10_look_247 : decode cX10_look 247 = .ok (.iconst 1, 1) := by decide +kernel
theorem dX10_look_248 : decode cX10_look 248 = .ok (.putfield 322, 3) := by decide +kernel
theorem dX10_look_251 : decode cX10_look 251 = .ok (.aload_n 0, 1) := by decide +kernel
theorem dX10_look_252 : decode cX10_look 252 = .ok (.lload_n 2, 1) := by decide +kernel
theorem dX10_look_253 : decode cX10_look 253 = .ok (.putfield 325, 3) := by decide +kernel
theorem dX10_look_256 : decode cX10_look 256 = .ok (.aload_n 0, 1) := by decide +kernel
theorem dX10_look_257 : decode cX10_look 257 = .ok (.lload 4, 2) := by decide +kernel
theorem dX10_look_259 : decode cX10_look 259 = .ok (.putfield 328, 3) := by decide +kernel
theorem dX10_look_262 : decode cX10_look 262 = .ok (.iconst 0, 1) := by decide +kernel
theorem dX10_look_263 : decode cX10_look 263 = .ok (.istore 8, 2) := by decide +kernel
theorem dX10_look_265 : decode cX10_look 265 = .ok (.iload 8, 2) := by decide +kernel
theorem dX10_look_267 : decode cX10_look 267 = .ok (.aload_n 0, 1) := by decide +kernel
theorem dX10_look_268 : decode cX10_look 268 = .ok (.getfield 289, 3) := by decide +kernel
theorem dX10_look_271 : decode cX10_look 271 = .ok (.if_icmp .ge 37, 3) := by decide +kernel
theorem dX10_look_274 : decode cX10_look 274 = .ok (.aload_n 0, 1) := by decide +kernel
theorem dX10_look_275 : decode cX10_look 275 = .ok (.getfield 70, 3) := by decide +kernel
theorem dX10_look_278 : decode cX10_look 278 = .ok (.iload 8, 2) := by decide +kernel
theorem dX10_look_280 : decode cX10_look 280 = .ok (.aload_n 0, 1) := by decide +kernel
theorem dX10_look_281 : decode cX10_look 281 = .ok (.getfield 64, 3) := by decide +kernel
theorem dX10_look_284 : decode cX10_look 284 = .ok (.iload 8, 2) := by decide +kernel
theorem dX10_look_286 : decode cX10_look 286 = .ok (.laload, 1) := by decide +kernel
theorem dX10_look_287 : decode cX10_look 287 = .ok (.lastore, 1) := by decide +kernel
theorem dX10_look_288 : decode cX10_look 288 = .ok (.aload_n 0, 1) := by decide +kernel
theorem dX10_look_289 : decode cX10_look 289 = .ok (.getfield 73, 3) := by decide +kernel
theorem dX10_look_292 : decode cX10_look 292 = .ok (.iload 8, 2) := by decide +kernel
theorem dX10_look_294 : decode cX10_look 294 = .ok (.aload_n 0, 1) := by decide +kernel
theorem dX10_look_295 : decode cX10_look 295 = .ok (.getfield 67, 3) := by decide +kernel
theorem dX10_look_298 : decode cX10_look 298 = .ok (.iload 8, 2) := by decide +kernel
theorem dX10_look_300 : decode cX10_look 300 = .ok (.laload, 1) := by decide +kernel
theorem dX10_look_301 : decode cX10_look 301 = .ok (.lastore, 1) := by decide +kernel
theorem dX10_look_302 : decode cX10_look 302 = .ok (.iinc 8 1, 3) := by decide +kernel
theorem dX10_look_305 : decode cX10_look 305 = .ok (.goto (-40), 3) := by decide +kernel
theorem dX10_look_308 : decode cX10_look 308 = .ok (.return_, 1) := by decide +kernel
theorem kk_X10_determinant_0 : Cond.fieldLink RX10 289 "PaidBySignsModel" "groups" "I" ∈ wsX10_determinant := by decide +kernel
theorem kk_X10_determinant_1 : Cond.fieldLink RX10 58 "PaidBySignsModel" "matrix" "[J" ∈ wsX10_determinant := by decide +kernel
theorem kk_X10_determinant_2 : Cond.fieldLink RX10 49 "PaidBySignsModel" "row" "[J" ∈ wsX10_determinant := by decide +kernel
theorem kk_X10_determinant_3 : Cond.fieldLink RX10 55 "PaidBySignsModel" "chosen" "[I" ∈ wsX10_determinant := by decide +kernel
theorem kk_X10_determinant_4 : Cond.fieldLink RX10 52 "PaidBySignsModel" "least" "[J" ∈ wsX10_determinant := by decide +kernel
theorem kk_X10_wageOf_0 : Cond.fieldLink RX10 17 "PaidBySignsModel" "num" "[I" ∈ wsX10_wageOf := by decide +kernel
theorem kk_X10_wageOf_1 : Cond.fieldLink RX10 64 "PaidBySignsModel" "wageUp" "[J" ∈ wsX10_wageOf := by decide +kernel
theorem kk_X10_wageOf_2 : Cond.fieldLink RX10 37 "PaidBySignsModel" "rates" "[I" ∈ wsX10_wageOf := by decide +kernel
theorem kk_X10_wageOf_3 : Cond.fieldLink RX10 67 "PaidBySignsModel" "wageLow" "[J" ∈ wsX10_wageOf := by decide +kernel
theorem kk_X10_wageOf_4 : Cond.fieldLink RX10 40 "PaidBySignsModel" "marks" "[I" ∈ wsX10_wageOf := by decide +kernel
theorem kk_X10_isCorner_0 : Cond.fieldLink RX10 310 "PaidBySignsModel" "det" "J" ∈ wsX10_isCorner := by decide +kernel
theorem kk_X10_isCorner_1 : Cond.fieldLink RX10 289 "PaidBySignsModel" "groups" "I" ∈ wsX10_isCorner := by decide +kernel
theorem kk_X10_isCorner_2 : Cond.fieldLink RX10 299 "PaidBySignsModel" "asked" "I" ∈ wsX10_isCorner := by decide +kernel
theorem kk_X10_isCorner_3 : Cond.fieldLink RX10 52 "PaidBySignsModel" "least" "[J" ∈ wsX10_isCorner := by decide +kernel
theorem kk_X10_isCorner_4 : Cond.fieldLink RX10 61 "PaidBySignsModel" "x" "[J" ∈ wsX10_isCorner := by decide +kernel
theorem kk_X10_isCorner_5 : Cond.fieldLink RX10 49 "PaidBySignsModel" "row" "[J" ∈ wsX10_isCorner := by decide +kernel
theorem kk_X10_isCorner_6 : Cond.constantLong RX10 313 (-1) ∈ wsX10_isCorner := by decide +kernel
theorem kk_X10_look_0 : Cond.fieldLink RX10 289 "PaidBySignsModel" "groups" "I" ∈ wsX10_look := pm_X10_look_r1 _ (List.mem_of_getElem? (i := 0) rfl)
theorem kk_X10_look_1 : Cond.fieldLink RX10 17 "PaidBySignsModel" "num" "[I" ∈ wsX10_look := pm_X10_look_r1 _ (List.mem_of_getElem? (i := 3) rfl)
theorem kk_X10_look_2 : Cond.fieldLink RX10 322 "PaidBySignsModel" "isFound" "Z" ∈ wsX10_look := pm_X10_look_r1 _ (List.mem_of_getElem? (i := 7) rfl)
theorem kk_X10_look_3 : Cond.constantLong RX10 313 (-1) ∈ wsX10_look := pm_X10_look_r1 _ (List.mem_of_getElem? (i := 10) rfl)
theorem kk_X10_look_4 : Cond.fieldLink RX10 325 "PaidBySignsModel" "costUp" "J" ∈ wsX10_look := pm_X10_look_r1 _ (List.mem_of_getElem? (i := 8) rfl)
theorem kk_X10_look_5 : Cond.fieldLink RX10 328 "PaidBySignsModel" "costLow" "J" ∈ wsX10_look := pm_X10_look_r1 _ (List.mem_of_getElem? (i := 9) rfl)
theorem kk_X10_look_6 : Cond.fieldLink RX10 46 "PaidBySignsModel" "groupOf" "[I" ∈ wsX10_look := pm_X10_look_r1 _ (List.mem_of_getElem? (i := 4) rfl)
theorem kk_X10_look_7 : Cond.fieldLink RX10 67 "PaidBySignsModel" "wageLow" "[J" ∈ wsX10_look := pm_X10_look_r1 _ (List.mem_of_getElem? (i := 5) rfl)
theorem kk_X10_look_8 : Cond.fieldLink RX10 64 "PaidBySignsModel" "wageUp" "[J" ∈ wsX10_look := pm_X10_look_r1 _ (List.mem_of_getElem? (i := 6) rfl)
theorem kk_X10_look_9 : Cond.fieldLink RX10 61 "PaidBySignsModel" "x" "[J" ∈ wsX10_look := pm_X10_look_r1 _ (List.mem_of_getElem? (i := 1) rfl)
theorem kk_X10_look_10 : Cond.fieldLink RX10 310 "PaidBySignsModel" "det" "J" ∈ wsX10_look := pm_X10_look_r1 _ (List.mem_of_getElem? (i := 2) rfl)
theorem kk_X10_look_11 : Cond.fieldLink RX10 70 "PaidBySignsModel" "bestUp" "[J" ∈ wsX10_look := pm_X10_look_r1 _ (List.mem_of_getElem? (i := 11) rfl)
theorem kk_X10_look_12 : Cond.fieldLink RX10 73 "PaidBySignsModel" "bestLow" "[J" ∈ wsX10_look := pm_X10_look_r1 _ (List.mem_of_getElem? (i := 12) rfl)
theorem iw_X10_determinant_X10 : ∀ w ∈ wsX100, w ∈ wsX10_determinant := by decide +kernel
theorem iw_X10_wageOf_X10 : ∀ w ∈ wsX100, w ∈ wsX10_wageOf := by decide +kernel
theorem iw_X10_isCorner_X10 : ∀ w ∈ wsX100, w ∈ wsX10_isCorner := by decide +kernel
theorem iw_X10_look_X10 : ∀ w ∈ wsX100, w ∈ wsX10_look := pw_X10_look_X10
