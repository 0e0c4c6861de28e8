abbrev cX2_add : ByteArray := prog_4_method_5_code
def yX2_add : MethodName := ⟨RX2, "add", "(JJ)V"⟩
abbrev cX2_isBelow : ByteArray := prog_4_method_6_code
def yX2_isBelow : MethodName := ⟨RX2, "isBelow", "(LPaidBySigns$Fraction;LPaidBySigns$Fraction;)Z"⟩
def tyX3 : Nat → FieldType := fun k => match k with
  | 0 => .int
  | 1 => .int
  | 2 => .int
  | 3 => .int
  | 4 => .int
  | 5 => .int
  | 6 => .array .int
  | 7 => .array .int
  | 8 => .array (.array .int)
  | 9 => .array .int
  | _ => .array .int
theorem nmX3 : ∀ a, a < 11 → ∀ b, b < 11 → a ≠ b → (TX3 a).2.1 ≠ (TX3 b).2.1 := by decide +kernel
theorem tyX3_ok : ∀ k, k < 11 → parseFieldDescriptor (TX3 k).2.2.1 = some (tyX3 k) := by decide +kernel
abbrev cX3_clear : ByteArray := prog_5_method_2_code
def yX3_clear : MethodName := ⟨RX3, "clear", "()V"⟩
abbrev cX3_wageOf : ByteArray := prog_5_method_4_code
def yX3_wageOf : MethodName := ⟨RX3, "wageOf", "(JJLPaidBySigns$Fraction;)V"⟩
abbrev cX3_broughtBy : ByteArray := prog_5_method_9_code
def yX3_broughtBy : MethodName := ⟨RX3, "broughtBy", "(I)I"⟩
def wsX2_add : List Cond := .code yX2_add cX2_add 5 none :: ([.fieldLink RX2 11 "PaidBySigns$Fraction" "upper" "J", .fieldLink RX2 17 "PaidBySigns$Fraction" "lower" "J", .methodLink RX2 33 yX2_become, .instanceMethod yX2_become, .selects RX2 yX2_become yX2_become, .initialized RX2, .code yX2_become cX2_become 7 none, .methodLink RX2 20 Lib.MathLoose.abs_long.x, .static Lib.MathLoose.abs_long.x, .initialized "java/lang/Math", .code Lib.MathLoose.abs_long.x Lib.MathLoose.abs_long.code 2 (some .long), .methodLink RX2 26 yX2_commonPart, .static yX2_commonPart, .code yX2_commonPart cX2_commonPart 11 (some .long), .methodLink RX2 30 yX2_forget, .instanceMethod yX2_forget, .selects RX2 yX2_forget yX2_forget, .code yX2_forget cX2_forget 1 none, .constantLong RX2 9 (-2000000000)] ++ wsX20)
def wsX2_isBelow : List Cond := .code yX2_isBelow cX2_isBelow 2 (some .boolean) :: ([.fieldLink RX2 11 "PaidBySigns$Fraction" "upper" "J", .fieldLink RX2 17 "PaidBySigns$Fraction" "lower" "J"] ++ wsX20)
def wsX3_clear : List Cond := .code yX3_clear cX3_clear 1 none :: ([.fieldLink RX3 32 "PaidBySigns$Hire" "signs" "I", .fieldLink RX3 36 "PaidBySigns$Hire" "works" "I", .fieldLink RX3 39 "PaidBySigns$Hire" "whole" "I", .fieldLink RX3 42 "PaidBySigns$Hire" "otherwise" "I", .fieldLink RX3 45 "PaidBySigns$Hire" "least" "I", .fieldLink RX3 48 "PaidBySigns$Hire" "rates" "I", .fieldLink RX3 23 "PaidBySigns$Hire" "rate" "[I"] ++ wsX30)
def wsX3_wageOf : List Cond := .code yX3_wageOf cX3_wageOf 13 none :: ([.fieldLink RX3 48 "PaidBySigns$Hire" "rates" "I", .fieldLink RX3 23 "PaidBySigns$Hire" "rate" "[I", .fieldLink RX3 26 "PaidBySigns$Hire" "mark" "[I", .methodLink RX3 57 yX2_become, .instanceMethod yX2_become, .selects RX2 yX2_become yX2_become, .initialized RX2, .code yX2_become cX2_become 7 none, .methodLink RX2 20 Lib.MathLoose.abs_long.x, .static Lib.MathLoose.abs_long.x, .initialized "java/lang/Math", .code Lib.MathLoose.abs_long.x Lib.MathLoose.abs_long.code 2 (some .long), .fieldLink RX2 11 "PaidBySigns$Fraction" "upper" "J", .fieldLink RX2 17 "PaidBySigns$Fraction" "lower" "J", .methodLink RX2 26 yX2_commonPart, .static yX2_commonPart, .code yX2_commonPart cX2_commonPart 11 (some .long), .methodLink RX2 30 yX2_forget, .instanceMethod yX2_forget, .selects RX2 yX2_forget yX2_forget, .code yX2_forget cX2_forget 1 none, .constantLong RX2 9 (-2000000000)] ++ wsX30 ++ wsX20)
def wsX3_broughtBy : List Cond := .code yX3_broughtBy cX3_broughtBy 4 (some .int) :: ([.fieldLink RX3 32 "PaidBySigns$Hire" "signs" "I", .fieldLink RX3 20 "PaidBySigns$Hire" "chances" "[[I", .fieldLink RX3 9 "PaidBySigns$Hire" "brings" "[I"] ++ wsX30)
set_option maxRecDepth 20000 in
theorem ggX2_add_X2_become : GoodIn wsX2_add wsX2_become := goodIn_r _ [7, 8, 9, 10, 11, 1, 2, 12, 13, 6, 14, 15, 16, 17, 18, 19, 20, 21] (by decide +kernel) (by decide +kernel)
set_option maxRecDepth 20000 in
theorem gX2_add_X2_become : GoodIn wsX2_add (wsV RX2 33 RX2 yX2_become wsX2_become) := goodIn_app (goodIn_of _ (by decide +kernel)) ggX2_add_X2_become
theorem dX2_add_0 : decode cX2_add 0 = .ok (.aload_n 0, 1) := by decide +kernel
theorem dX2_add_1 : decode cX2_add 1 = .ok (.aload_n 0, 1) := by decide +kernel
theorem dX2_add_2 : decode cX2_add 2 = .ok (.getfield 11, 3) := by decide +kernel
theorem dX2_add_5 : decode cX2_add 5 = .ok (.lload_n 3, 1) := by decide +kernel
theorem dX2_add_6 : decode cX2_add 6 = .ok (.lmul, 1) := by decide +kernel
theorem dX2_add_7 : decode cX2_add 7 = .ok (.lload_n 1, 1) := by decide +kernel
theorem dX2_add_8 : decode cX2_add 8 = .ok (.aload_n 0, 1) := by decide +kernel
theorem dX2_add_9 : decode cX2_add 9 = .ok (.getfield 17, 3) := by decide +kernel
theorem dX2_add_12 : decode cX2_add 12 = .ok (.lmul, 1) := by decide +kernel
theorem dX2_add_13 : decode cX2_add 13 = .ok (.ladd, 1) := by decide +kernel
theorem dX2_add_14 : decode cX2_add 14 = .ok (.aload_n 0, 1) := by decide +kernel
theorem dX2_add_15 : decode cX2_add 15 = .ok (.getfield 17, 3) := by decide +kernel
theorem dX2_add_18 : decode cX2_add 18 = .ok (.lload_n 3, 1) := by decide +kernel
theorem dX2_add_19 : decode cX2_add 19 = .ok (.lmul, 1) := by decide +kernel
theorem dX2_add_20 : decode cX2_add 20 = .ok (.invokevirtual 33, 3) := by decide +kernel
theorem dX2_add_23 : decode cX2_add 23 = .ok (.return_, 1) := by decide +kernel
theorem dX2_isBelow_0 : decode cX2_isBelow 0 = .ok (.aload_n 0, 1) := by decide +kernel
theorem dX2_isBelow_1 : decode cX2_isBelow 1 = .ok (.getfield 11, 3) := by decide +kernel
theorem dX2_isBelow_4 : decode cX2_isBelow 4 = .ok (.aload_n 1, 1) := by decide +kernel
theorem dX2_isBelow_5 : decode cX2_isBelow 5 = .ok (.getfield 17, 3) := by decide +kernel
theorem dX2_isBelow_8 : decode cX2_isBelow 8 = .ok (.lmul, 1) := by decide +kernel
theorem dX2_isBelow_9 : decode cX2_isBelow 9 = .ok (.aload_n 1, 1) := by decide +kernel
theorem dX2_isBelow_10 : decode cX2_isBelow 10 = .ok (.getfield 11, 3) := by decide +kernel
theorem dX2_isBelow_13 : decode cX2_isBelow 13 = .ok (.aload_n 0, 1) := by decide +kernel
theorem dX2_isBelow_14 : decode cX2_isBelow 14 = .ok (.getfield 17, 3) := by decide +kernel
theorem dX2_isBelow_17 : decode cX2_isBelow 17 = .ok (.lmul, 1) := by decide +kernel
theorem dX2_isBelow_18 : decode cX2_isBelow 18 = .ok (.lcmp, 1) := by decide +kernel
theorem dX2_isBelow_19 : decode cX2_isBelow 19 = .ok (.ifCond .ge 7, 3) := by decide +kernel
theorem dX2_isBelow_22 : decode cX2_isBelow 22 = .ok (.iconst 1, 1) := by decide +kernel
theorem dX2_isBelow_23 : decode cX2_isBelow 23 = .ok (.goto 4, 3) := by decide +kernel
theorem dX2_isBelow_26 : decode cX2_isBelow 26 = .ok (.iconst 0, 1) := by decide +kernel
theorem dX2_isBelow_27 : decode cX2_isBelow 27 = .ok (.ireturn, 1) := by decide +kernel
theorem dX3_clear_0 : decode cX3_clear 0 = .ok (.aload_n 0, 1) := by decide +kernel
theorem dX3_clear_1 : decode cX3_clear 1 = .ok (.iconst 0, 1) := by decide +kernel
theorem dX3_clear_2 : decode cX3_clear 2 = .ok (.putfield 32, 3) := by decide +kernel
theorem dX3_clear_5 : decode cX3_clear 5 = .ok (.aload_n 0, 1) := by decide +kernel
theorem dX3_clear_6 : decode cX3_clear 6 = .ok (.iconst 0, 1) := by decide +kernel
theorem dX3_clear_7 : decode cX3_clear 7 = .ok (.putfield 36, 3) := by decide +kernel
theorem dX3_clear_10 : decode cX3_clear 10 = .ok (.aload_n 0, 1) := by decide +kernel
theorem dX3_clear_11 : decode cX3_clear 11 = .ok (.bipush 10, 2) := by decide +kernel
theorem dX3_clear_13 : decode cX3_clear 13 = .ok (.putfield 39, 3) := by decide +kernel
theorem dX3_clear_16 : decode cX3_clear 16 = .ok (.aload_n 0, 1) := by decide +kernel
theorem dX3_clear_17 : decode cX3_clear 17 = .ok (.iconst 0, 1) := by decide +kernel
theorem dX3_clear_18 : decode cX3_clear 18 = .ok (.putfield 42, 3) := by decide +kernel
theorem dX3_clear_21 : decode cX3_clear 21 = .ok (.aload_n 0, 1) := by decide +kernel
theorem dX3_clear_22 : decode cX3_clear 22 = .ok (.iconst 0, 1) := by decide +kernel
theorem dX3_clear_23 : decode cX3_clear 23 = .ok (.putfield 45, 3) := by decide +kernel
theorem dX3_clear_26 : decode cX3_clear 26 = .ok (.aload_n 0, 1) := by decide +kernel
theorem dX3_clear_27 : decode cX3_clear 27 = .ok (.iconst 1, 1) := by decide +kernel
theorem dX3_clear_28 : decode cX3_clear 28 = .ok (.putfield 48, 3) := by decide +kernel
theorem dX3_clear_31 : decode cX3_clear 31 = .ok (.aload_n 0, 1) := by decide +kernel
theorem dX3_clear_32 : decode cX3_clear 32 = .ok (.getfield 23, 3) := by decide +kernel
theorem dX3_clear_35 : decode cX3_clear 35 = .ok (.iconst 0, 1) := by decide +kernel
theorem dX3_clear_36 : decode cX3_clear 36 = .ok (.iconst 1, 1) := by decide +kernel
theorem dX3_clear_37 : decode cX3_clear 37 = .ok (.iastore, 1) := by decide +kernel
theorem dX3_clear_38 : decode cX3_clear 38 = .ok (.return_, 1) := by decide +kernel
set_option maxRecDepth 20000 in
theorem ggX3_wageOf_X2_become : GoodIn wsX3_wageOf wsX2_become := goodIn_r _ [8, 9, 10, 11, 12, 13, 14, 15, 16, 7, 17, 18, 19, 20, 21, 22, 34, 35] (by decide +kernel) (by decide +kernel)
set_option maxRecDepth 20000 in
theorem gX3_wageOf_X2_become : GoodIn wsX3_wageOf (wsV RX3 57 RX2 yX2_become wsX2_become) := goodIn_app (goodIn_of _ (by decide +kernel)) ggX3_wageOf_X2_become
theorem dX3_wageOf_0 : decode cX3_wageOf 0 = .ok (.lconst 0, 1) := by decide +kernel
theorem dX3_wageOf_1 : decode cX3_wageOf 1 = .ok (.lstore 6, 2) := by decide +kernel
theorem dX3_wageOf_3 : decode cX3_wageOf 3 = .ok (.lconst 0, 1) := by decide +kernel
theorem dX3_wageOf_4 : decode cX3_wageOf 4 = .ok (.lstore 8, 2) := by decide +kernel
theorem dX3_wageOf_6 : decode cX3_wageOf 6 = .ok (.iconst 0, 1) := by decide +kernel
theorem dX3_wageOf_7 : decode cX3_wageOf 7 = .ok (.istore 10, 2) := by decide +kernel
theorem dX3_wageOf_9 : decode cX3_wageOf 9 = .ok (.iload 10, 2) := by decide +kernel
theorem dX3_wageOf_11 : decode cX3_wageOf 11 = .ok (.aload_n 0, 1) := by decide +kernel
theorem dX3_wageOf_12 : decode cX3_wageOf 12 = .ok (.getfield 48, 3) := by decide +kernel
theorem dX3_wageOf_15 : decode cX3_wageOf 15 = .ok (.iconst 1, 1) := by decide +kernel
theorem dX3_wageOf_16 : decode cX3_wageOf 16 = .ok (.isub, 1) := by decide +kernel
theorem dX3_wageOf_17 : decode cX3_wageOf 17 = .ok (.if_icmp .ge 60, 3) := by decide +kernel
theorem dX3_wageOf_20 : decode cX3_wageOf 20 = .ok (.lload 8, 2) := by decide +kernel
theorem dX3_wageOf_22 : decode cX3_wageOf 22 = .ok (.aload_n 0, 1) := by decide +kernel
theorem dX3_wageOf_23 : decode cX3_wageOf 23 = .ok (.getfield 23, 3) := by decide +kernel
theorem dX3_wageOf_26 : decode cX3_wageOf 26 = .ok (.iload 10, 2) := by decide +kernel
theorem dX3_wageOf_28 : decode cX3_wageOf 28 = .ok (.iaload, 1) := by decide +kernel
theorem dX3_wageOf_29 : decode cX3_wageOf 29 = .ok (.i2l, 1) := by decide +kernel
theorem dX3_wageOf_30 : decode cX3_wageOf 30 = .ok (.aload_n 0, 1) := by decide +kernel
theorem dX3_wageOf_31 : decode cX3_wageOf 31 = .ok (.getfield 26, 3) := by decide +kernel
theorem dX3_wageOf_34 : decode cX3_wageOf 34 = .ok (.iload 10, 2) := by decide +kernel
theorem dX3_wageOf_36 : decode cX3_wageOf 36 = .ok (.iaload, 1) := by decide +kernel
theorem dX3_wageOf_37 : decode cX3_wageOf 37 = .ok (.i2l, 1) := by decide +kernel
theorem dX3_wageOf_38 : decode cX3_wageOf 38 = .ok (.lload 6, 2) := by decide +kernel
theorem dX3_wageOf_40 : decode cX3_wageOf 40 = .ok (.lsub, 1) := by decide +kernel
theorem dX3_wageOf_41 : decode cX3_wageOf 41 = .ok (.lmul, 1) := by decide +kernel
theorem dX3_wageOf_42 : decode cX3_wageOf 42 = .ok (.ladd, 1) := by decide +kernel
theorem dX3_wageOf_43 : decode cX3_wageOf 43 = .ok (.lstore 11, 2) := by decide +kernel
theorem dX3_wageOf_45 : decode cX3_wageOf 45 = .ok (.lload_n 1, 1) := by decide +kernel
theorem dX3_wageOf_46 : decode cX3_wageOf 46 = .ok (.lload 11, 2) := by decide +kernel
theorem dX3_wageOf_48 : decode cX3_wageOf 48 = .ok (.lload_n 3, 1) := by decide +kernel
theorem dX3_wageOf_49 : decode cX3_wageOf 49 = .ok (.lmul, 1) := by decide +kernel
theorem dX3_wageOf_50 : decode cX3_wageOf 50 = .ok (.lcmp, 1) := by decide +kernel
theorem dX3_wageOf_51 : decode cX3_wageOf 51 = .ok (.ifCond .gt 6, 3) := by decide +kernel
theorem dX3_wageOf_54 : decode cX3_wageOf 54 = .ok (.goto 23, 3) := by decide +kernel
theorem dX3_wageOf_57 : decode cX3_wageOf 57 = .ok (.lload 11, 2) := by decide +kernel
theorem dX3_wageOf_59 : decode cX3_wageOf 59 = .ok (.lstore 8, 2) := by decide +kernel
theorem dX3_wageOf_61 : decode cX3_wageOf 61 = .ok (.aload_n 0, 1) := by decide +kernel
theorem dX3_wageOf_62 : decode cX3_wageOf 62 = .ok (.getfield 26, 3) := by decide +kernel
theorem dX3_wageOf_65 : decode cX3_wageOf 65 = .ok (.iload 10, 2) := by decide +kernel
theorem dX3_wageOf_67 : decode cX3_wageOf 67 = .ok (.iaload, 1) := by decide +kernel
theorem dX3_wageOf_68 : decode cX3_wageOf 68 = .ok (.i2l, 1) := by decide +kernel
theorem dX3_wageOf_69 : decode cX3_wageOf 69 = .ok (.lstore 6, 2) := by decide +kernel
theorem dX3_wageOf_71 : decode cX3_wageOf 71 = .ok (.iinc 10 1, 3) := by decide +kernel
theorem dX3_wageOf_74 : decode cX3_wageOf 74 = .ok (.goto (-65), 3) := by decide +kernel
theorem dX3_wageOf_77 : decode cX3_wageOf 77 = .ok (.aload 5, 2) := by decide +kernel
theorem dX3_wageOf_79 : decode cX3_wageOf 79 = .ok (.lload_n 1, 1) := by decide +kernel
theorem dX3_wageOf_80 : decode cX3_wageOf 80 = .ok (.lload 8, 2) := by decide +kernel
theorem dX3_wageOf_82 : decode cX3_wageOf 82 = .ok (.lload_n 3, 1) := by decide +kernel
theorem dX3_wageOf_83 : decode cX3_wageOf 83 = .ok (.lmul, 1) := by decide +kernel
theorem dX3_wageOf_84 : decode cX3_wageOf 84 = .ok (.lsub, 1) := by decide +kernel
theorem dX3_wageOf_85 : decode cX3_wageOf 85 = .ok (.lload 6, 2) := by decide +kernel
theorem dX3_wageOf_87 : decode cX3_wageOf 87 = .ok (.aload_n 0, 1) := by decide +kernel
theorem dX3_wageOf_88 : decode cX3_wageOf 88 = .ok (.getfield 23, 3) := by decide +kernel
theorem dX3_wageOf_91 : decode cX3_wageOf 91 = .ok (.iload 10, 2) := by decide +kernel
theorem dX3_wageOf_93 : decode cX3_wageOf 93 = .ok (.iaload, 1) := by decide +kernel
theorem dX3_wageOf_94 : decode cX3_wageOf 94 = .ok (.i2l, 1) := by decide +kernel
theorem dX3_wageOf_95 : decode cX3_wageOf 95 = .ok (.lmul, 1) := by decide +kernel
theorem dX3_wageOf_96 : decode cX3_wageOf 96 = .ok (.lload_n 3, 1) := by decide +kernel
theorem dX3_wageOf_97 : decode cX3_wageOf 97 = .ok (.lmul, 1) := by decide +kernel
theorem dX3_wageOf_98 : decode cX3_wageOf 98 = .ok (.ladd, 1) := by decide +kernel
theorem dX3_wageOf_99 : decode cX3_wageOf 99 = .ok (.aload_n 0, 1) := by decide +kernel
theorem dX3_wageOf_100 : decode cX3_wageOf 100 = .ok (.getfield 23, 3) := by decide +kernel
theorem dX3_wageOf_103 : decode cX3_wageOf 103 = .ok (.iload 10, 2) := by decide +kernel
theorem dX3_wageOf_105 : decode cX3_wageOf 105 = .ok (.iaload, 1) := by decide +kernel
theorem dX3_wageOf_106 : decode cX3_wageOf 106 = .ok (.i2l, 1) := by decide +kernel
theorem dX3_wageOf_107 : decode cX3_wageOf 107 = .ok (.lload_n 3, 1) := by decide +kernel
theorem dX3_wageOf_108 : decode cX3_wageOf 108 = .ok (.lmul, 1) := by decide +kernel
theorem dX3_wageOf_109 : decode cX3_wageOf 109 = .ok (.invokevirtual 57, 3) := by decide +kernel
theorem dX3_wageOf_112 : decode cX3_wageOf 112 = .ok (.return_, 1) := by decide +kernel
theorem dX3_broughtBy_0 : decode cX3_broughtBy 0 = .ok (.iconst 0, 1) := by decide +kernel
theorem dX3_broughtBy_1 : decode cX3_broughtBy 1 = .ok (.istore_n 2, 1) := by decide +kernel
theorem dX3_broughtBy_2 : decode cX3_broughtBy 2 = .ok (.iconst 0, 1) := by decide +kernel
theorem dX3_broughtBy_3 : decode cX3_broughtBy 3 = .ok (.istore_n 3, 1) := by decide +kernel
theorem dX3_broughtBy_4 : decode cX3_broughtBy 4 = .ok (.iload_n 3, 1) := by decide +kernel
theorem dX3_broughtBy_5 : decode cX3_broughtBy 5 = .ok (.aload_n 0, 1) := by decide +kernel
theorem dX3_broughtBy_6 : decode cX3_broughtBy 6 = .ok (.getfield 32, 3) := by decide +kernel
theorem dX3_broughtBy_9 : decode cX3_broughtBy 9 = .ok (.if_icmp .ge 27, 3) := by decide +kernel
theorem dX3_broughtBy_12 : decode cX3_broughtBy 12 = .ok (.iload_n 2, 1) := by decide +kernel
theorem dX3_broughtBy_13 : decode cX3_broughtBy 13 = .ok (.aload_n 0, 1) := by decide +kernel
theorem dX3_broughtBy_14 : decode cX3_broughtBy 14 = .ok (.getfield 20, 3) := by decide +kernel
theorem dX3_broughtBy_17 : decode cX3_broughtBy 17 = .ok (.iload_n 1, 1) := by decide +kernel
theorem dX3_broughtBy_18 : decode cX3_broughtBy 18 = .ok (.aaload, 1) := by decide +kernel
theorem dX3_broughtBy_19 : decode cX3_broughtBy 19 = .ok (.iload_n 3, 1) := by decide +kernel
theorem dX3_broughtBy_20 : decode cX3_broughtBy 20 = .ok (.iaload, 1) := by decide +kernel
theorem dX3_broughtBy_21 : decode cX3_broughtBy 21 = .ok (.aload_n 0, 1) := by decide +kernel
theorem dX3_broughtBy_22 : decode cX3_broughtBy 22 = .ok (.getfield 9, 3) := by decide +kernel
theorem dX3_broughtBy_25 : decode cX3_broughtBy 25 = .ok (.iload_n 3, 1) := by decide +kernel
theorem dX3_broughtBy_26 : decode cX3_broughtBy 26 = .ok (.iaload, 1) := by decide +kernel
theorem dX3_broughtBy_27 : decode cX3_broughtBy 27 = .ok (.imul, 1) := by decide +kernel
theorem dX3_broughtBy_28 : decode cX3_broughtBy 28 = .ok (.iadd, 1) := by decide +kernel
theorem dX3_broughtBy_29 : decode cX3_broughtBy 29 = .ok (.istore_n 2, 1) := by decide +kernel
theorem dX3_broughtBy_30 : decode cX3_broughtBy 30 = .ok (.iinc 3 1, 3) := by decide +kernel
theorem dX3_broughtBy_33 : decode cX3_broughtBy 33 = .ok (.goto (-29), 3) := by decide +kernel
theorem dX3_broughtBy_36 : decode cX3_broughtBy 36 = .ok (.iload_n 2, 1) := by decide +kernel
theorem dX3_broughtBy_37 : decode cX3_broughtBy 37 = .ok (.ireturn, 1) := by decide +kernel
theorem kk_X2_add_0 : Cond.fieldLink RX2 11 "PaidBySigns$Fraction" "upper" "J" ∈ wsX2_add := by decide +kernel
theorem kk_X2_add_1 : Cond.fieldLink RX2 17 "PaidBySigns$Fraction" "lower" "J" ∈ wsX2_add := by decide +kernel
theorem kk_X2_isBelow_0 : Cond.fieldLink RX2 11 "PaidBySigns$Fraction" "upper" "J" ∈ wsX2_isBelow := by decide +kernel
theorem kk_X2_isBelow_1 : Cond.fieldLink RX2 17 "PaidBySigns$Fraction" "lower" "J" ∈ wsX2_isBelow := by decide +kernel
theorem kk_X3_clear_0 : Cond.fieldLink RX3 32 "PaidBySigns$Hire" "signs" "I" ∈ wsX3_clear := by decide +kernel
theorem kk_X3_clear_1 : Cond.fieldLink RX3 36 "PaidBySigns$Hire" "works" "I" ∈ wsX3_clear := by decide +kernel
theorem kk_X3_clear_2 : Cond.fieldLink RX3 39 "PaidBySigns$Hire" "whole" "I" ∈ wsX3_clear := by decide +kernel
theorem kk_X3_clear_3 : Cond.fieldLink RX3 42 "PaidBySigns$Hire" "otherwise" "I" ∈ wsX3_clear := by decide +kernel
theorem kk_X3_clear_4 : Cond.fieldLink RX3 45 "PaidBySigns$Hire" "least" "I" ∈ wsX3_clear := by decide +kernel
theorem kk_X3_clear_5 : Cond.fieldLink RX3 48 "PaidBySigns$Hire" "rates" "I" ∈ wsX3_clear := by decide +kernel
theorem kk_X3_clear_6 : Cond.fieldLink RX3 23 "PaidBySigns$Hire" "rate" "[I" ∈ wsX3_clear := by decide +kernel
theorem kk_X3_wageOf_0 : Cond.fieldLink RX3 48 "PaidBySigns$Hire" "rates" "I" ∈ wsX3_wageOf := by decide +kernel
theorem kk_X3_wageOf_1 : Cond.fieldLink RX3 23 "PaidBySigns$Hire" "rate" "[I" ∈ wsX3_wageOf := by decide +kernel
theorem kk_X3_wageOf_2 : Cond.fieldLink RX3 26 "PaidBySigns$Hire" "mark" "[I" ∈ wsX3_wageOf := by decide +kernel
theorem kk_X3_broughtBy_0 : Cond.fieldLink RX3 32 "PaidBySigns$Hire" "signs" "I" ∈ wsX3_broughtBy := by decide +kernel
theorem kk_X3_broughtBy_1 : Cond.fieldLink RX3 20 "PaidBySigns$Hire" "chances" "[[I" ∈ wsX3_broughtBy := by decide +kernel
theorem kk_X3_broughtBy_2 : Cond.fieldLink RX3 9 "PaidBySigns$Hire" "brings" "[I" ∈ wsX3_broughtBy := by decide +kernel
theorem iw_X2_add_X2 : ∀ w ∈ wsX20, w ∈ wsX2_add := by decide +kernel
theorem iw_X2_isBelow_X2 : ∀ w ∈ wsX20, w ∈ wsX2_isBelow := by decide +kernel
theorem iw_X3_clear_X3 : ∀ w ∈ wsX30, w ∈ wsX3_clear := by decide +kernel
theorem iw_X3_wageOf_X3 : ∀ w ∈ wsX30, w ∈ wsX3_wageOf := by decide +kernel
theorem iw_X3_broughtBy_X3 : ∀ w ∈ wsX30, w ∈ wsX3_broughtBy := by decide +kernel
