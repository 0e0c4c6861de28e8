abbrev cX1_productOf : ByteArray := prog_3_method_7_code
def yX1_productOf : MethodName := ⟨RX1, "productOf", "(LPaidBySigns$Hire;II)J"⟩
def tyX2 : Nat → FieldType := fun k => match k with
  | 0 => .long
  | _ => .long
abbrev wsX20 : List Cond := u_ws RX2 TX2 2
theorem nmX2 : ∀ a, a < 2 → ∀ b, b < 2 → a ≠ b → (TX2 a).2.1 ≠ (TX2 b).2.1 := by decide +kernel
theorem tyX2_ok : ∀ k, k < 2 → parseFieldDescriptor (TX2 k).2.2.1 = some (tyX2 k) := by decide +kernel
abbrev cX2_forget : ByteArray := prog_4_method_2_code
def yX2_forget : MethodName := ⟨RX2, "forget", "()V"⟩
abbrev cX2_copy : ByteArray := prog_4_method_3_code
def yX2_copy : MethodName := ⟨RX2, "copy", "(LPaidBySigns$Fraction;)V"⟩
abbrev cX2_become : ByteArray := prog_4_method_4_code
def yX2_become : MethodName := ⟨RX2, "become", "(JJ)V"⟩
abbrev cX2_commonPart : ByteArray := prog_4_method_7_code
def yX2_commonPart : MethodName := ⟨RX2, "commonPart", "(JJ)J"⟩
def wsX1_productOf : List Cond := .code yX1_productOf cX1_productOf 7 (some .long) :: ([.fieldLink RX1 9 "PaidBySigns$Diary" "seen" "I", .fieldLink RX1 21 "PaidBySigns$Diary" "seenStep" "[I", .fieldLink RX1 40 "PaidBySigns$Hire" "chances" "[[I", .methodLink RX1 46 yX1_signKnown, .instanceMethod yX1_signKnown, .selects RX1 yX1_signKnown yX1_signKnown, .initialized RX1, .code yX1_signKnown cX1_signKnown 5 (some .int), .fieldLink RX1 25 "PaidBySigns$Diary" "seenSign" "[I", .fieldLink RX1 15 "PaidBySigns$Diary" "rights" "I", .fieldLink RX1 34 "PaidBySigns$Diary" "rightOf" "[I", .fieldLink RX1 31 "PaidBySigns$Diary" "rightStep" "[I", .fieldLink RX1 37 "PaidBySigns$Diary" "rightSign" "[I"] ++ wsX10 ++ wsX30)
def wsX2_forget : List Cond := .code yX2_forget cX2_forget 1 none :: ([.constantLong RX2 9 (-2000000000), .fieldLink RX2 11 "PaidBySigns$Fraction" "upper" "J", .fieldLink RX2 17 "PaidBySigns$Fraction" "lower" "J"] ++ wsX20)
def wsX2_copy : List Cond := .code yX2_copy cX2_copy 2 none :: ([.fieldLink RX2 11 "PaidBySigns$Fraction" "upper" "J", .fieldLink RX2 17 "PaidBySigns$Fraction" "lower" "J"] ++ wsX20)
def wsX2_commonPart : List Cond := .code yX2_commonPart cX2_commonPart 11 (some .long) :: ([])
def wsX2_become : List Cond := .code yX2_become cX2_become 7 none :: ([.methodLink RX2 20 Lib.MathLoose.abs_long.x, .static Lib.MathLoose.abs_long.x, .initialized "java/lang/Math", .code Lib.MathLoose.abs_long.x Lib.MathLoose.abs_long.code 2 (some .long), .fieldLink RX2 11 "PaidBySigns$Fraction" "upper" "J", .fieldLink RX2 17 "PaidBySigns$Fraction" "lower" "J", .methodLink RX2 26 yX2_commonPart, .static yX2_commonPart, .initialized RX2, .code yX2_commonPart cX2_commonPart 11 (some .long), .methodLink RX2 30 yX2_forget, .instanceMethod yX2_forget, .selects RX2 yX2_forget yX2_forget, .code yX2_forget cX2_forget 1 none, .constantLong RX2 9 (-2000000000)] ++ wsX20)
set_option maxRecDepth 20000 in
theorem ggX1_productOf_X1_signKnown : GoodIn wsX1_productOf wsX1_signKnown := goodIn_r _ [8, 9, 10, 11, 12, 13, 14, 15, 16, 17, 18, 19, 20, 21, 22] (by decide +kernel) (by decide +kernel)
set_option maxRecDepth 20000 in
theorem gX1_productOf_X1_signKnown : GoodIn wsX1_productOf (wsV RX1 46 RX1 yX1_signKnown wsX1_signKnown) := goodIn_app (goodIn_of _ (by decide +kernel)) ggX1_productOf_X1_signKnown
theorem dX1_productOf_0 : decode cX1_productOf 0 = .ok (.lconst 1, 1) := by decide +kernel
theorem dX1_productOf_1 : decode cX1_productOf 1 = .ok (.lstore 4, 2) := by decide +kernel
theorem dX1_productOf_3 : decode cX1_productOf 3 = .ok (.iconst 0, 1) := by decide +kernel
theorem dX1_productOf_4 : decode cX1_productOf 4 = .ok (.istore 6, 2) := by decide +kernel
theorem dX1_productOf_6 : decode cX1_productOf 6 = .ok (.iload 6, 2) := by decide +kernel
theorem dX1_productOf_8 : decode cX1_productOf 8 = .ok (.aload_n 0, 1) := by decide +kernel
theorem dX1_productOf_9 : decode cX1_productOf 9 = .ok (.getfield 9, 3) := by decide +kernel
theorem dX1_productOf_12 : decode cX1_productOf 12 = .ok (.if_icmp .ge 40, 3) := by decide +kernel
theorem dX1_productOf_15 : decode cX1_productOf 15 = .ok (.aload_n 0, 1) := by decide +kernel
theorem dX1_productOf_16 : decode cX1_productOf 16 = .ok (.getfield 21, 3) := by decide +kernel
theorem dX1_productOf_19 : decode cX1_productOf 19 = .ok (.iload 6, 2) := by decide +kernel
theorem dX1_productOf_21 : decode cX1_productOf 21 = .ok (.iaload, 1) := by decide +kernel
theorem dX1_productOf_22 : decode cX1_productOf 22 = .ok (.iload_n 3, 1) := by decide +kernel
theorem dX1_productOf_23 : decode cX1_productOf 23 = .ok (.if_icmp .gt 23, 3) := by decide +kernel
theorem dX1_productOf_26 : decode cX1_productOf 26 = .ok (.lload 4, 2) := by decide +kernel
theorem dX1_productOf_28 : decode cX1_productOf 28 = .ok (.aload_n 1, 1) := by decide +kernel
theorem dX1_productOf_29 : decode cX1_productOf 29 = .ok (.getfield 40, 3) := by decide +kernel
theorem dX1_productOf_32 : decode cX1_productOf 32 = .ok (.iload_n 2, 1) := by decide +kernel
theorem dX1_productOf_33 : decode cX1_productOf 33 = .ok (.aaload, 1) := by decide +kernel
theorem dX1_productOf_34 : decode cX1_productOf 34 = .ok (.aload_n 0, 1) := by decide +kernel
theorem dX1_productOf_35 : decode cX1_productOf 35 = .ok (.iload 6, 2) := by decide +kernel
theorem dX1_productOf_37 : decode cX1_productOf 37 = .ok (.iload_n 3, 1) := by decide +kernel
theorem dX1_productOf_38 : decode cX1_productOf 38 = .ok (.invokevirtual 46, 3) := by decide +kernel
theorem dX1_productOf_41 : decode cX1_productOf 41 = .ok (.iaload, 1) := by decide +kernel
theorem dX1_productOf_42 : decode cX1_productOf 42 = .ok (.i2l, 1) := by decide +kernel
theorem dX1_productOf_43 : decode cX1_productOf 43 = .ok (.lmul, 1) := by decide +kernel
theorem dX1_productOf_44 : decode cX1_productOf 44 = .ok (.lstore 4, 2) := by decide +kernel
theorem dX1_productOf_46 : decode cX1_productOf 46 = .ok (.iinc 6 1, 3) := by decide +kernel
theorem dX1_productOf_49 : decode cX1_productOf 49 = .ok (.goto (-43), 3) := by decide +kernel
theorem dX1_productOf_52 : decode cX1_productOf 52 = .ok (.lload 4, 2) := by decide +kernel
theorem dX1_productOf_54 : decode cX1_productOf 54 = .ok (.lreturn, 1) := by decide +kernel
theorem dX2_forget_0 : decode cX2_forget 0 = .ok (.aload_n 0, 1) := by decide +kernel
theorem dX2_forget_1 : decode cX2_forget 1 = .ok (.ldc2_w 9, 3) := by decide +kernel
theorem dX2_forget_4 : decode cX2_forget 4 = .ok (.putfield 11, 3) := by decide +kernel
theorem dX2_forget_7 : decode cX2_forget 7 = .ok (.aload_n 0, 1) := by decide +kernel
theorem dX2_forget_8 : decode cX2_forget 8 = .ok (.lconst 0, 1) := by decide +kernel
theorem dX2_forget_9 : decode cX2_forget 9 = .ok (.putfield 17, 3) := by decide +kernel
theorem dX2_forget_12 : decode cX2_forget 12 = .ok (.return_, 1) := by decide +kernel
theorem dX2_copy_0 : decode cX2_copy 0 = .ok (.aload_n 0, 1) := by decide +kernel
theorem dX2_copy_1 : decode cX2_copy 1 = .ok (.aload_n 1, 1) := by decide +kernel
theorem dX2_copy_2 : decode cX2_copy 2 = .ok (.getfield 11, 3) := by decide +kernel
theorem dX2_copy_5 : decode cX2_copy 5 = .ok (.putfield 11, 3) := by decide +kernel
theorem dX2_copy_8 : decode cX2_copy 8 = .ok (.aload_n 0, 1) := by decide +kernel
theorem dX2_copy_9 : decode cX2_copy 9 = .ok (.aload_n 1, 1) := by decide +kernel
theorem dX2_copy_10 : decode cX2_copy 10 = .ok (.getfield 17, 3) := by decide +kernel
theorem dX2_copy_13 : decode cX2_copy 13 = .ok (.putfield 17, 3) := by decide +kernel
theorem dX2_copy_16 : decode cX2_copy 16 = .ok (.return_, 1) := by decide +kernel
set_option maxRecDepth 20000 in
theorem ggX2_become_X2_commonPart : GoodIn wsX2_become wsX2_commonPart := goodIn_r _ [10] (by decide +kernel) (by decide +kernel)
set_option maxRecDepth 20000 in
theorem gX2_become_X2_commonPart : GoodIn wsX2_become (va_wsS RX2 26 yX2_commonPart wsX2_commonPart) := goodIn_app (goodIn_of _ (by decide +kernel)) ggX2_become_X2_commonPart
set_option maxRecDepth 20000 in
theorem ggX2_become_X2_forget : GoodIn wsX2_become wsX2_forget := goodIn_r _ [14, 15, 5, 6, 16, 17] (by decide +kernel) (by decide +kernel)
set_option maxRecDepth 20000 in
theorem gX2_become_X2_forget : GoodIn wsX2_become (wsV RX2 30 RX2 yX2_forget wsX2_forget) := goodIn_app (goodIn_of _ (by decide +kernel)) ggX2_become_X2_forget
theorem dX2_become_0 : decode cX2_become 0 = .ok (.lload_n 1, 1) := by decide +kernel
theorem dX2_become_1 : decode cX2_become 1 = .ok (.invokestatic 20, 3) := by decide +kernel
theorem dX2_become_4 : decode cX2_become 4 = .ok (.lload_n 3, 1) := by decide +kernel
theorem dX2_become_5 : decode cX2_become 5 = .ok (.invokestatic 26, 3) := by decide +kernel
theorem dX2_become_8 : decode cX2_become 8 = .ok (.lstore 5, 2) := by decide +kernel
theorem dX2_become_10 : decode cX2_become 10 = .ok (.lload_n 3, 1) := by decide +kernel
theorem dX2_become_11 : decode cX2_become 11 = .ok (.lconst 1, 1) := by decide +kernel
theorem dX2_become_12 : decode cX2_become 12 = .ok (.lcmp, 1) := by decide +kernel
theorem dX2_become_13 : decode cX2_become 13 = .ok (.ifCond .lt 10, 3) := by decide +kernel
theorem dX2_become_16 : decode cX2_become 16 = .ok (.lload 5, 2) := by decide +kernel
theorem dX2_become_18 : decode cX2_become 18 = .ok (.lconst 1, 1) := by decide +kernel
theorem dX2_become_19 : decode cX2_become 19 = .ok (.lcmp, 1) := by decide +kernel
theorem dX2_become_20 : decode cX2_become 20 = .ok (.ifCond .ge 8, 3) := by decide +kernel
theorem dX2_become_23 : decode cX2_become 23 = .ok (.aload_n 0, 1) := by decide +kernel
theorem dX2_become_24 : decode cX2_become 24 = .ok (.invokevirtual 30, 3) := by decide +kernel
theorem dX2_become_27 : decode cX2_become 27 = .ok (.return_, 1) := by decide +kernel
theorem dX2_become_28 : decode cX2_become 28 = .ok (.aload_n 0, 1) := by decide +kernel
theorem dX2_become_29 : decode cX2_become 29 = .ok (.lload_n 1, 1) := by decide +kernel
theorem dX2_become_30 : decode cX2_become 30 = .ok (.lload 5, 2) := by decide +kernel
theorem dX2_become_32 : decode cX2_become 32 = .ok (.ldiv, 1) := by decide +kernel
theorem dX2_become_33 : decode cX2_become 33 = .ok (.putfield 11, 3) := by decide +kernel
theorem dX2_become_36 : decode cX2_become 36 = .ok (.aload_n 0, 1) := by decide +kernel
theorem dX2_become_37 : decode cX2_become 37 = .ok (.lload_n 3, 1) := by decide +kernel
theorem dX2_become_38 : decode cX2_become 38 = .ok (.lload 5, 2) := by decide +kernel
theorem dX2_become_40 : decode cX2_become 40 = .ok (.ldiv, 1) := by decide +kernel
theorem dX2_become_41 : decode cX2_become 41 = .ok (.putfield 17, 3) := by decide +kernel
theorem dX2_become_44 : decode cX2_become 44 = .ok (.return_, 1) := by decide +kernel
theorem dX2_commonPart_0 : decode cX2_commonPart 0 = .ok (.lload_n 0, 1) := by decide +kernel
theorem dX2_commonPart_1 : decode cX2_commonPart 1 = .ok (.lstore 4, 2) := by decide +kernel
theorem dX2_commonPart_3 : decode cX2_commonPart 3 = .ok (.lload_n 2, 1) := by decide +kernel
theorem dX2_commonPart_4 : decode cX2_commonPart 4 = .ok (.lstore 6, 2) := by decide +kernel
theorem dX2_commonPart_6 : decode cX2_commonPart 6 = .ok (.iconst 0, 1) := by decide +kernel
theorem dX2_commonPart_7 : decode cX2_commonPart 7 = .ok (.istore 8, 2) := by decide +kernel
theorem dX2_commonPart_9 : decode cX2_commonPart 9 = .ok (.iload 8, 2) := by decide +kernel
theorem dX2_commonPart_11 : decode cX2_commonPart 11 = .ok (.sipush 200, 3) := by decide +kernel
theorem dX2_commonPart_14 : decode cX2_commonPart 14 = .ok (.if_icmp .ge 31, 3) := by decide +kernel
theorem dX2_commonPart_17 : decode cX2_commonPart 17 = .ok (.lload 6, 2) := by decide +kernel
theorem dX2_commonPart_19 : decode cX2_commonPart 19 = .ok (.lconst 0, 1) := by decide +kernel
theorem dX2_commonPart_20 : decode cX2_commonPart 20 = .ok (.lcmp, 1) := by decide +kernel
theorem dX2_commonPart_21 : decode cX2_commonPart 21 = .ok (.ifCond .eq 24, 3) := by decide +kernel
theorem dX2_commonPart_24 : decode cX2_commonPart 24 = .ok (.lload 4, 2) := by decide +kernel
theorem dX2_commonPart_26 : decode cX2_commonPart 26 = .ok (.lload 6, 2) := by decide +kernel
theorem dX2_commonPart_28 : decode cX2_commonPart 28 = .ok (.lrem, 1) := by decide +kernel
theorem dX2_commonPart_29 : decode cX2_commonPart 29 = .ok (.lstore 9, 2) := by decide +kernel
theorem dX2_commonPart_31 : decode cX2_commonPart 31 = .ok (.lload 6, 2) := by decide +kernel
theorem dX2_commonPart_33 : decode cX2_commonPart 33 = .ok (.lstore 4, 2) := by decide +kernel
theorem dX2_commonPart_35 : decode cX2_commonPart 35 = .ok (.lload 9, 2) := by decide +kernel
theorem dX2_commonPart_37 : decode cX2_commonPart 37 = .ok (.lstore 6, 2) := by decide +kernel
theorem dX2_commonPart_39 : decode cX2_commonPart 39 = .ok (.iinc 8 1, 3) := by decide +kernel
theorem dX2_commonPart_42 : decode cX2_commonPart 42 = .ok (.goto (-33), 3) := by decide +kernel
theorem dX2_commonPart_45 : decode cX2_commonPart 45 = .ok (.lload 4, 2) := by decide +kernel
theorem dX2_commonPart_47 : decode cX2_commonPart 47 = .ok (.lreturn, 1) := by decide +kernel
theorem kk_X1_productOf_0 : Cond.fieldLink RX1 9 "PaidBySigns$Diary" "seen" "I" ∈ wsX1_productOf := by decide +kernel
theorem kk_X1_productOf_1 : Cond.fieldLink RX1 21 "PaidBySigns$Diary" "seenStep" "[I" ∈ wsX1_productOf := by decide +kernel
theorem kk_X1_productOf_2 : Cond.fieldLink RX1 40 "PaidBySigns$Hire" "chances" "[[I" ∈ wsX1_productOf := by decide +kernel
theorem kk_X2_forget_0 : Cond.constantLong RX2 9 (-2000000000) ∈ wsX2_forget := by decide +kernel
theorem kk_X2_forget_1 : Cond.fieldLink RX2 11 "PaidBySigns$Fraction" "upper" "J" ∈ wsX2_forget := by decide +kernel
theorem kk_X2_forget_2 : Cond.fieldLink RX2 17 "PaidBySigns$Fraction" "lower" "J" ∈ wsX2_forget := by decide +kernel
theorem kk_X2_copy_0 : Cond.fieldLink RX2 11 "PaidBySigns$Fraction" "upper" "J" ∈ wsX2_copy := by decide +kernel
theorem kk_X2_copy_1 : Cond.fieldLink RX2 17 "PaidBySigns$Fraction" "lower" "J" ∈ wsX2_copy := by decide +kernel
theorem kk_X2_become_0 : Cond.methodLink RX2 20 Lib.MathLoose.abs_long.x ∈ wsX2_become := by decide +kernel
theorem kk_X2_become_1 : Cond.static Lib.MathLoose.abs_long.x ∈ wsX2_become := by decide +kernel
theorem kk_X2_become_2 : Cond.initialized "java/lang/Math" ∈ wsX2_become := by decide +kernel
theorem kk_X2_become_3 : Cond.code Lib.MathLoose.abs_long.x Lib.MathLoose.abs_long.code 2 (some .long) ∈ wsX2_become := by decide +kernel
theorem kk_X2_become_4 : Cond.fieldLink RX2 11 "PaidBySigns$Fraction" "upper" "J" ∈ wsX2_become := by decide +kernel
theorem kk_X2_become_5 : Cond.fieldLink RX2 17 "PaidBySigns$Fraction" "lower" "J" ∈ wsX2_become := by decide +kernel
theorem iw_X1_productOf_X1 : ∀ w ∈ wsX10, w ∈ wsX1_productOf := by decide +kernel
theorem iw_X1_productOf_X3 : ∀ w ∈ wsX30, w ∈ wsX1_productOf := by decide +kernel
theorem iw_X2_forget_X2 : ∀ w ∈ wsX20, w ∈ wsX2_forget := by decide +kernel
theorem iw_X2_copy_X2 : ∀ w ∈ wsX20, w ∈ wsX2_copy := by decide +kernel
theorem iw_X2_become_X2 : ∀ w ∈ wsX20, w ∈ wsX2_become := by decide +kernel

abbrev cX2_add : ByteArray := prog_4_method_5_code
def yX2_add : MethodName := ⟨RX2, "add", "(JJ)V"⟩
abbrev cX2_isBelow : ByteArray := prog_4_method_6_code
def yX2_isBelow : MethodName := ⟨RX2, "isBelow", "(LPaidBySigns$Fraction;LPaidBySigns$Fraction;)Z"⟩
def tyX3 : Nat → FieldType := fun k => match k with
  | 0 => .int
  | 1 => .int
  | 2 => .int
  | 3 => .int
  | 4 => .int
  | 5 => .int
  | 6 => .array .int
  | 7 => .array .int
  | 8 => .array (.array .int)
  | 9 => .array .int
  | _ => .array .int
theorem nmX3 : ∀ a, a < 11 → ∀ b, b < 11 → a ≠ b → (TX3 a).2.1 ≠ (TX3 b).2.1 := by decide +kernel
theorem tyX3_ok : ∀ k, k < 11 → parseFieldDescriptor (TX3 k).2.2.1 = some (tyX3 k) := by decide +kernel
abbrev cX3_clear : ByteArray := prog_5_method_2_code
def yX3_clear : MethodName := ⟨RX3, "clear", "()V"⟩
abbrev cX3_wageOf : ByteArray := prog_5_method_4_code
def yX3_wageOf : MethodName := ⟨RX3, "wageOf", "(JJLPaidBySigns$Fraction;)V"⟩
abbrev cX3_broughtBy : ByteArray := prog_5_method_9_code
def yX3_broughtBy : MethodName := ⟨RX3, "broughtBy", "(I)I"⟩
def wsX2_add : List Cond := .code yX2_add cX2_add 5 none :: ([.fieldLink RX2 11 "PaidBySigns$Fraction" "upper" "J", .fieldLink RX2 17 "PaidBySigns$Fraction" "lower" "J", .methodLink RX2 33 yX2_become, .instanceMethod yX2_become, .selects RX2 yX2_become yX2_become, .initialized RX2, .code yX2_become cX2_become 7 none, .methodLink RX2 20 Lib.MathLoose.abs_long.x, .static Lib.MathLoose.abs_long.x, .initialized "java/lang/Math", .code Lib.MathLoose.abs_long.x Lib.MathLoose.abs_long.code 2 (some .long), .methodLink RX2 26 yX2_commonPart, .static yX2_commonPart, .code yX2_commonPart cX2_commonPart 11 (some .long), .methodLink RX2 30 yX2_forget, .instanceMethod yX2_forget, .selects RX2 yX2_forget yX2_forget, .code yX2_forget cX2_forget 1 none, .constantLong RX2 9 (-2000000000)] ++ wsX20)
def wsX2_isBelow : List Cond := .code yX2_isBelow cX2_isBelow 2 (some .boolean) :: ([.fieldLink RX2 11 "PaidBySigns$Fraction" "upper" "J", .fieldLink RX2 17 "PaidBySigns$Fraction" "lower" "J"] ++ wsX20)
def wsX3_clear : List Cond := .code yX3_clear cX3_clear 1 none :: ([.fieldLink RX3 32 "PaidBySigns$Hire" "signs" "I", .fieldLink RX3 36 "PaidBySigns$Hire" "works" "I", .fieldLink RX3 39 "PaidBySigns$Hire" "whole" "I", .fieldLink RX3 42 "PaidBySigns$Hire" "otherwise" "I", .fieldLink RX3 45 "PaidBySigns$Hire" "least" "I", .fieldLink RX3 48 "PaidBySigns$Hire" "rates" "I", .fieldLink RX3 23 "PaidBySigns$Hire" "rate" "[I"] ++ wsX30)
def wsX3_wageOf : List Cond := .code yX3_wageOf cX3_wageOf 13 none :: ([.fieldLink RX3 48 "PaidBySigns$Hire" "rates" "I", .fieldLink RX3 23 "PaidBySigns$Hire" "rate" "[I", .fieldLink RX3 26 "PaidBySigns$Hire" "mark" "[I", .methodLink RX3 57 yX2_become, .instanceMethod yX2_become, .selects RX2 yX2_become yX2_become, .initialized RX2, .code yX2_become cX2_become 7 none, .methodLink RX2 20 Lib.MathLoose.abs_long.x, .static Lib.MathLoose.abs_long.x, .initialized "java/lang/Math", .code Lib.MathLoose.abs_long.x Lib.MathLoose.abs_long.code 2 (some .long), .fieldLink RX2 11 "PaidBySigns$Fraction" "upper" "J", .fieldLink RX2 17 "PaidBySigns$Fraction" "lower" "J", .methodLink RX2 26 yX2_commonPart, .static yX2_commonPart, .code yX2_commonPart cX2_commonPart 11 (some .long), .methodLink RX2 30 yX2_forget, .instanceMethod yX2_forget, .selects RX2 yX2_forget yX2_forget, .code yX2_forget cX2_forget 1 none, .constantLong RX2 9 (-2000000000)] ++ wsX30 ++ wsX20)
def wsX3_broughtBy : List Cond := .code yX3_broughtBy cX3_broughtBy 4 (some .int) :: ([.fieldLink RX3 32 "PaidBySigns$Hire" "signs" "I", .fieldLink RX3 20 "PaidBySigns$Hire" "chances" "[[I", .fieldLink RX3 9 "PaidBySigns$Hire" "brings" "[I"] ++ wsX30)
set_option maxRecDepth 20000 in
theorem ggX2_add_X2_become : GoodIn wsX2_add wsX2_become := goodIn_r _ [7, 8, 9, 10, 11, 1, 2, 12, 13, 6, 14, 15, 16, 17, 18, 19, 20, 21] (by decide +kernel) (by decide +kernel)
set_option maxRecDepth 20000 in
theorem gX2_add_X2_become : GoodIn wsX2_add (wsV RX2 33 RX2 yX2_become wsX2_become) := goodIn_app (goodIn_of _ (by decide +kernel)) ggX2_add_X2_become
theorem dX2_add_0 : decode cX2_add 0 = .ok (.aload_n 0, 1) := by decide +kernel
theorem dX2_add_1 : decode cX2_add 1 = .ok (.aload_n 0, 1) := by decide +kernel
theorem dX2_add_2 : decode cX2_add 2 = .ok (.getfield 11, 3) := by decide +kernel
theorem dX2_add_5 : decode cX2_add 5 = .ok (.lload_n 3, 1) := by decide +kernel
theorem dX2_add_6 : decode cX2_add 6 = .ok (.lmul, 1) := by decide +kernel
theorem dX2_add_7 : decode cX2_add 7 = .ok (.lload_n 1, 1) := by decide +kernel
theorem dX2_add_8 : decode cX2_add 8 = .ok (.aload_n 0, 1) := by decide +kernel
theorem dX2_add_9 : decode cX2_add 9 = .ok (.getfield 17, 3) := by decide +kernel
theorem dX2_add_12 : decode cX2_add 12 = .ok (.lmul, 1) := by decide +kernel
theorem dX2_add_13 : decode cX2_add 13 = .ok (.ladd, 1) := by decide +kernel
theorem dX2_add_14 : decode cX2_add 14 = .ok (.aload_n 0, 1) := by decide +kernel
theorem dX2_add_15 : decode cX2_add 15 = .ok (.getfield 17, 3) := by decide +kernel
theorem dX2_add_18 : decode cX2_add 18 = .ok (.lload_n 3, 1) := by decide +kernel
theorem dX2_add_19 : decode cX2_add 19 = .ok (.lmul, 1) := by decide +kernel
theorem dX2_add_20 : decode cX2_add 20 = .ok (.invokevirtual 33, 3) := by decide +kernel
theorem dX2_add_23 : decode cX2_add 23 = .ok (.return_, 1) := by decide +kernel
theorem dX2_isBelow_0 : decode cX2_isBelow 0 = .ok (.aload_n 0, 1) := by decide +kernel
theorem dX2_isBelow_1 : decode cX2_isBelow 1 = .ok (.getfield 11, 3) := by decide +kernel
theorem dX2_isBelow_4 : decode cX2_isBelow 4 = .ok (.aload_n 1, 1) := by decide +kernel
theorem dX2_isBelow_5 : decode cX2_isBelow 5 = .ok (.getfield 17, 3) := by decide +kernel
theorem dX2_isBelow_8 : decode cX2_isBelow 8 = .ok (.lmul, 1) := by decide +kernel
theorem dX2_isBelow_9 : decode cX2_isBelow 9 = .ok (.aload_n 1, 1) := by decide +kernel
theorem dX2_isBelow_10 : decode cX2_isBelow 10 = .ok (.getfield 11, 3) := by decide +kernel
theorem dX2_isBelow_13 : decode cX2_isBelow 13 = .ok (.aload_n 0, 1) := by decide +kernel
theorem dX2_isBelow_14 : decode cX2_isBelow 14 = .ok (.getfield 17, 3) := by decide +kernel
theorem dX2_isBelow_17 : decode cX2_isBelow 17 = .ok (.lmul, 1) := by decide +kernel
theorem dX2_isBelow_18 : decode cX2_isBelow 18 = .ok (.lcmp, 1) := by decide +kernel
theorem dX2_isBelow_19 : decode cX2_isBelow 19 = .ok (.ifCond .ge 7, 3) := by decide +kernel
theorem dX2_isBelow_22 : decode cX2_isBelow 22 = .ok (.iconst 1, 1) := by decide +kernel
theorem dX2_isBelow_23 : decode cX2_isBelow 23 = .ok (.goto 4, 3) := by decide +kernel
theorem dX2_isBelow_26 : decode cX2_isBelow 26 = .ok (.iconst 0, 1) := by decide +kernel
theorem dX2_isBelow_27 : decode cX2_isBelow 27 = .ok (.ireturn, 1) := by decide +kernel
theorem dX3_clear_0 : decode cX3_clear 0 = .ok (.aload_n 0, 1) := by decide +kernel
theorem dX3_clear_1 : decode cX3_clear 1 = .ok (.iconst 0, 1) := by decide +kernel
theorem dX3_clear_2 : decode cX3_clear 2 = .ok (.putfield 32, 3) := by decide +kernel
theorem dX3_clear_5 : decode cX3_clear 5 = .ok (.aload_n 0, 1) := by decide +kernel
theorem dX3_clear_6 : decode cX3_clear 6 = .ok (.iconst 0, 1) := by decide +kernel
theorem dX3_clear_7 : decode cX3_clear 7 = .ok (.putfield 36, 3) := by decide +kernel
theorem dX3_clear_10 : decode cX3_clear 10 = .ok (.aload_n 0, 1) := by decide +kernel
theorem dX3_clear_11 : decode cX3_clear 11 = .ok (.bipush 10, 2) := by decide +kernel
theorem dX3_clear_13 : decode cX3_clear 13 = .ok (.putfield 39, 3) := by decide +kernel
theorem dX3_clear_16 : decode cX3_clear 16 = .ok (.aload_n 0, 1) := by decide +kernel
theorem dX3_clear_17 : decode cX3_clear 17 = .ok (.iconst 0, 1) := by decide +kernel
theorem dX3_clear_18 : decode cX3_clear 18 = .ok (.putfield 42, 3) := by decide +kernel
theorem dX3_clear_21 : decode cX3_clear 21 = .ok (.aload_n 0, 1) := by decide +kernel
theorem dX3_clear_22 : decode cX3_clear 22 = .ok (.iconst 0, 1) := by decide +kernel
theorem dX3_clear_23 : decode cX3_clear 23 = .ok (.putfield 45, 3) := by decide +kernel
theorem dX3_clear_26 : decode cX3_clear 26 = .ok (.aload_n 0, 1) := by decide +kernel
theorem dX3_clear_27 : decode cX3_clear 27 = .ok (.iconst 1, 1) := by decide +kernel
theorem dX3_clear_28 : decode cX3_clear 28 = .ok (.putfield 48, 3) := by decide +kernel
theorem dX3_clear_31 : decode cX3_clear 31 = .ok (.aload_n 0, 1) := by decide +kernel
theorem dX3_clear_32 : decode cX3_clear 32 = .ok (.getfield 23, 3) := by decide +kernel
theorem dX3_clear_35 : decode cX3_clear 35 = .ok (.iconst 0, 1) := by decide +kernel
theorem dX3_clear_36 : decode cX3_clear 36 = .ok (.iconst 1, 1) := by decide +kernel
theorem dX3_clear_37 : decode cX3_clear 37 = .ok (.iastore, 1) := by decide +kernel
theorem dX3_clear_38 : decode cX3_clear 38 = .ok (.return_, 1) := by decide +kernel
set_option maxRecDepth 20000 in
theorem ggX3_wageOf_X2_become : GoodIn wsX3_wageOf wsX2_become := goodIn_r _ [8, 9, 10, 11, 12, 13, 14, 15, 16, 7, 17, 18, 19, 20, 21, 22, 34, 35] (by decide +kernel) (by decide +kernel)
set_option maxRecDepth 20000 in
theorem gX3_wageOf_X2_become : GoodIn wsX3_wageOf (wsV RX3 57 RX2 yX2_become wsX2_become) := goodIn_app (goodIn_of _ (by decide +kernel)) ggX3_wageOf_X2_become
theorem dX3_wageOf_0 : decode cX3_wageOf 0 = .ok (.lconst 0, 1) := by decide +kernel
theorem dX3_wageOf_1 : decode cX3_wageOf 1 = .ok (.lstore 6, 2) := by decide +kernel
theorem dX3_wageOf_3 : decode cX3_wageOf 3 = .ok (.lconst 0, 1) := by decide +kernel
theorem dX3_wageOf_4 : decode cX3_wageOf 4 = .ok (.lstore 8, 2) := by decide +kernel
theorem dX3_wageOf_6 : decode cX3_wageOf 6 = .ok (.iconst 0, 1) := by decide +kernel
theorem dX3_wageOf_7 : decode cX3_wageOf 7 = .ok (.istore 10, 2) := by decide +kernel
theorem dX3_wageOf_9 : decode cX3_wageOf 9 = .ok (.iload 10, 2) := by decide +kernel
theorem dX3_wageOf_11 : decode cX3_wageOf 11 = .ok (.aload_n 0, 1) := by decide +kernel
theorem dX3_wageOf_12 : decode cX3_wageOf 12 = .ok (.getfield 48, 3) := by decide +kernel
theorem dX3_wageOf_15 : decode cX3_wageOf 15 = .ok (.iconst 1, 1) := by decide +kernel
theorem dX3_wageOf_16 : decode cX3_wageOf 16 = .ok (.isub, 1) := by decide +kernel
theorem dX3_wageOf_17 : decode cX3_wageOf 17 = .ok (.if_icmp .ge 60, 3) := by decide +kernel
theorem dX3_wageOf_20 : decode cX3_wageOf 20 = .ok (.lload 8, 2) := by decide +kernel
theorem dX3_wageOf_22 : decode cX3_wageOf 22 = .ok (.aload_n 0, 1) := by decide +kernel
theorem dX3_wageOf_23 : decode cX3_wageOf 23 = .ok (.getfield 23, 3) := by decide +kernel
theorem dX3_wageOf_26 : decode cX3_wageOf 26 = .ok (.iload 10, 2) := by decide +kernel
theorem dX3_wageOf_28 : decode cX3_wageOf 28 = .ok (.iaload, 1) := by decide +kernel
theorem dX3_wageOf_29 : decode cX3_wageOf 29 = .ok (.i2l, 1) := by decide +kernel
theorem dX3_wageOf_30 : decode cX3_wageOf 30 = .ok (.aload_n 0, 1) := by decide +kernel
theorem dX3_wageOf_31 : decode cX3_wageOf 31 = .ok (.getfield 26, 3) := by decide +kernel
theorem dX3_wageOf_34 : decode cX3_wageOf 34 = .ok (.iload 10, 2) := by decide +kernel
theorem dX3_wageOf_36 : decode cX3_wageOf 36 = .ok (.iaload, 1) := by decide +kernel
theorem dX3_wageOf_37 : decode cX3_wageOf 37 = .ok (.i2l, 1) := by decide +kernel
theorem dX3_wageOf_38 : decode cX3_wageOf 38 = .ok (.lload 6, 2) := by decide +kernel
theorem dX3_wageOf_40 : decode cX3_wageOf 40 = .ok (.lsub, 1) := by decide +kernel
theorem dX3_wageOf_41 : decode cX3_wageOf 41 = .ok (.lmul, 1) := by decide +kernel
theorem dX3_wageOf_42 : decode cX3_wageOf 42 = .ok (.ladd, 1) := by decide +kernel
theorem dX3_wageOf_43 : decode cX3_wageOf 43 = .ok (.lstore 11, 2) := by decide +kernel
theorem dX3_wageOf_45 : decode cX3_wageOf 45 = .ok (.lload_n 1, 1) := by decide +kernel
theorem dX3_wageOf_46 : decode cX3_wageOf 46 = .ok (.lload 11, 2) := by decide +kernel
theorem dX3_wageOf_48 : decode cX3_wageOf 48 = .ok (.lload_n 3, 1) := by decide +kernel
theorem dX3_wageOf_49 : decode cX3_wageOf 49 = .ok (.lmul, 1) := by decide +kernel
theorem dX3_wageOf_50 : decode cX3_wageOf 50 = .ok (.lcmp, 1) := by decide +kernel
theorem dX3_wageOf_51 : decode cX3_wageOf 51 = .ok (.ifCond .gt 6, 3) := by decide +kernel
theorem dX3_wageOf_54 : decode cX3_wageOf 54 = .ok (.goto 23, 3) := by decide +kernel
theorem dX3_wageOf_57 : decode cX3_wageOf 57 = .ok (.lload 11, 2) := by decide +kernel
theorem dX3_wageOf_59 : decode cX3_wageOf 59 = .ok (.lstore 8, 2) := by decide +kernel
theorem dX3_wageOf_61 : decode cX3_wageOf 61 = .ok (.aload_n 0, 1) := by decide +kernel
theorem dX3_wageOf_62 : decode cX3_wageOf 62 = .ok (.getfield 26, 3) := by decide +kernel
theorem dX3_wageOf_65 : decode cX3_wageOf 65 = .ok (.iload 10, 2) := by decide +kernel
theorem dX3_wageOf_67 : decode cX3_wageOf 67 = .ok (.iaload, 1) := by decide +kernel
theorem dX3_wageOf_68 : decode cX3_wageOf 68 = .ok (.i2l, 1) := by decide +kernel
theorem dX3_wageOf_69 : decode cX3_wageOf 69 = .ok (.lstore 6, 2) := by decide +kernel
theorem dX3_wageOf_71 : decode cX3_wageOf 71 = .ok (.iinc 10 1, 3) := by decide +kernel
theorem dX3_wageOf_74 : decode cX3_wageOf 74 = .ok (.goto (-65), 3) := by decide +kernel
theorem dX3_wageOf_77 : decode cX3_wageOf 77 = .ok (.aload 5, 2) := by decide +kernel
theorem dX3_wageOf_79 : decode cX3_wageOf 79 = .ok (.lload_n 1, 1) := by decide +kernel
theorem dX3_wageOf_80 : decode cX3_wageOf 80 = .ok (.lload 8, 2) := by decide +kernel
theorem dX3_wageOf_82 : decode cX3_wageOf 82 = .ok (.lload_n 3, 1) := by decide +kernel
theorem dX3_wageOf_83 : decode cX3_wageOf 83 = .ok (.lmul, 1) := by decide +kernel
theorem dX3_wageOf_84 : decode cX3_wageOf 84 = .ok (.lsub, 1) := by decide +kernel
theorem dX3_wageOf_85 : decode cX3_wageOf 85 = .ok (.lload 6, 2) := by decide +kernel
theorem dX3_wageOf_87 : decode cX3_wageOf 87 = .ok (.aload_n 0, 1) := by decide +kernel
theorem dX3_wageOf_88 : decode cX3_wageOf 88 = .ok (.getfield 23, 3) := by decide +kernel
theorem dX3_wageOf_91 : decode cX3_wageOf 91 = .ok (.iload 10, 2) := by decide +kernel
theorem dX3_wageOf_93 : decode cX3_wageOf 93 = .ok (.iaload, 1) := by decide +kernel
theorem dX3_wageOf_94 : decode cX3_wageOf 94 = .ok (.i2l, 1) := by decide +kernel
theorem dX3_wageOf_95 : decode cX3_wageOf 95 = .ok (.lmul, 1) := by decide +kernel
theorem dX3_wageOf_96 : decode cX3_wageOf 96 = .ok (.lload_n 3, 1) := by decide +kernel
theorem dX3_wageOf_97 : decode cX3_wageOf 97 = .ok (.lmul, 1) := by decide +kernel
theorem dX3_wageOf_98 : decode cX3_wageOf 98 = .ok (.ladd, 1) := by decide +kernel
theorem dX3_wageOf_99 : decode cX3_wageOf 99 = .ok (.aload_n 0, 1) := by decide +kernel
theorem dX3_wageOf_100 : decode cX3_wageOf 100 = .ok (.getfield 23, 3) := by decide +kernel
theorem dX3_wageOf_103 : decode cX3_wageOf 103 = .ok (.iload 10, 2) := by decide +kernel
theorem dX3_wageOf_105 : decode cX3_wageOf 105 = .ok (.iaload, 1) := by decide +kernel
theorem dX3_wageOf_106 : decode cX3_wageOf 106 = .ok (.i2l, 1) := by decide +kernel
theorem dX3_wageOf_107 : decode cX3_wageOf 107 = .ok (.lload_n 3, 1) := by decide +kernel
theorem dX3_wageOf_108 : decode cX3_wageOf 108 = .ok (.lmul, 1) := by decide +kernel
theorem dX3_wageOf_109 : decode cX3_wageOf 109 = .ok (.invokevirtual 57, 3) := by decide +kernel
theorem dX3_wageOf_112 : decode cX3_wageOf 112 = .ok (.return_, 1) := by decide +kernel
theorem dX3_broughtBy_0 : decode cX3_broughtBy 0 = .ok (.iconst 0, 1) := by decide +kernel
theorem dX3_broughtBy_1 : decode cX3_broughtBy 1 = .ok (.istore_n 2, 1) := by decide +kernel
theorem dX3_broughtBy_2 : decode cX3_broughtBy 2 = .ok (.iconst 0, 1) := by decide +kernel
theorem dX3_broughtBy_3 : decode cX3_broughtBy 3 = .ok (.istore_n 3, 1) := by decide +kernel
theorem dX3_broughtBy_4 : decode cX3_broughtBy 4 = .ok (.iload_n 3, 1) := by decide +kernel
theorem dX3_broughtBy_5 : decode cX3_broughtBy 5 = .ok (.aload_n 0, 1) := by decide +kernel
theorem dX3_broughtBy_6 : decode cX3_broughtBy 6 = .ok (.getfield 32, 3) := by decide +kernel
theorem dX3_broughtBy_9 : decode cX3_broughtBy 9 = .ok (.if_icmp .ge 27, 3) := by decide +kernel
theorem dX3_broughtBy_12 : decode cX3_broughtBy 12 = .ok (.iload_n 2, 1) := by decide +kernel
theorem dX3_broughtBy_13 : decode cX3_broughtBy 13 = .ok (.aload_n 0, 1) := by decide +kernel
theorem dX3_broughtBy_14 : decode cX3_broughtBy 14 = .ok (.getfield 20, 3) := by decide +kernel
theorem dX3_broughtBy_17 : decode cX3_broughtBy 17 = .ok (.iload_n 1, 1) := by decide +kernel
theorem dX3_broughtBy_18 : decode cX3_broughtBy 18 = .ok (.aaload, 1) := by decide +kernel
theorem dX3_broughtBy_19 : decode cX3_broughtBy 19 = .ok (.iload_n 3, 1) := by decide +kernel
theorem dX3_broughtBy_20 : decode cX3_broughtBy 20 = .ok (.iaload, 1) := by decide +kernel
theorem dX3_broughtBy_21 : decode cX3_broughtBy 21 = .ok (.aload_n 0, 1) := by decide +kernel
theorem dX3_broughtBy_22 : decode cX3_broughtBy 22 = .ok (.getfield 9, 3) := by decide +kernel
theorem dX3_broughtBy_25 : decode cX3_broughtBy 25 = .ok (.iload_n 3, 1) := by decide +kernel
theorem dX3_broughtBy_26 : decode cX3_broughtBy 26 = .ok (.iaload, 1) := by decide +kernel
theorem dX3_broughtBy_27 : decode cX3_broughtBy 27 = .ok (.imul, 1) := by decide +kernel
theorem dX3_broughtBy_28 : decode cX3_broughtBy 28 = .ok (.iadd, 1) := by decide +kernel
theorem dX3_broughtBy_29 : decode cX3_broughtBy 29 = .ok (.istore_n 2, 1) := by decide +kernel
theorem dX3_broughtBy_30 : decode cX3_broughtBy 30 = .ok (.iinc 3 1, 3) := by decide +kernel
theorem dX3_broughtBy_33 : decode cX3_broughtBy 33 = .ok (.goto (-29), 3) := by decide +kernel
theorem dX3_broughtBy_36 : decode cX3_broughtBy 36 = .ok (.iload_n 2, 1) := by decide +kernel
theorem dX3_broughtBy_37 : decode cX3_broughtBy 37 = .ok (.ireturn, 1) := by decide +kernel
theorem kk_X2_add_0 : Cond.fieldLink RX2 11 "PaidBySigns$Fraction" "upper" "J" ∈ wsX2_add := by decide +kernel
theorem kk_X2_add_1 : Cond.fieldLink RX2 17 "PaidBySigns$Fraction" "lower" "J" ∈ wsX2_add := by decide +kernel
theorem kk_X2_isBelow_0 : Cond.fieldLink RX2 11 "PaidBySigns$Fraction" "upper" "J" ∈ wsX2_isBelow := by decide +kernel
theorem kk_X2_isBelow_1 : Cond.fieldLink RX2 17 "PaidBySigns$Fraction" "lower" "J" ∈ wsX2_isBelow := by decide +kernel
theorem kk_X3_clear_0 : Cond.fieldLink RX3 32 "PaidBySigns$Hire" "signs" "I" ∈ wsX3_clear := by decide +kernel
theorem kk_X3_clear_1 : Cond.fieldLink RX3 36 "PaidBySigns$Hire" "works" "I" ∈ wsX3_clear := by decide +kernel
theorem kk_X3_clear_2 : Cond.fieldLink RX3 39 "PaidBySigns$Hire" "whole" "I" ∈ wsX3_clear := by decide +kernel
theorem kk_X3_clear_3 : Cond.fieldLink RX3 42 "PaidBySigns$Hire" "otherwise" "I" ∈ wsX3_clear := by decide +kernel
theorem kk_X3_clear_4 : Cond.fieldLink RX3 45 "PaidBySigns$Hire" "least" "I" ∈ wsX3_clear := by decide +kernel
theorem kk_X3_clear_5 : Cond.fieldLink RX3 48 "PaidBySigns$Hire" "rates" "I" ∈ wsX3_clear := by decide +kernel
theorem kk_X3_clear_6 : Cond.fieldLink RX3 23 "PaidBySigns$Hire" "rate" "[I" ∈ wsX3_clear := by decide +kernel
theorem kk_X3_wageOf_0 : Cond.fieldLink RX3 48 "PaidBySigns$Hire" "rates" "I" ∈ wsX3_wageOf := by decide +kernel
theorem kk_X3_wageOf_1 : Cond.fieldLink RX3 23 "PaidBySigns$Hire" "rate" "[I" ∈ wsX3_wageOf := by decide +kernel
theorem kk_X3_wageOf_2 : Cond.fieldLink RX3 26 "PaidBySigns$Hire" "mark" "[I" ∈ wsX3_wageOf := by decide +kernel
theorem kk_X3_broughtBy_0 : Cond.fieldLink RX3 32 "PaidBySigns$Hire" "signs" "I" ∈ wsX3_broughtBy := by decide +kernel
theorem kk_X3_broughtBy_1 : Cond.fieldLink RX3 20 "PaidBySigns$Hire" "chances" "[[I" ∈ wsX3_broughtBy := by decide +kernel
theorem kk_X3_broughtBy_2 : Cond.fieldLink RX3 9 "PaidBySigns$Hire" "brings" "[I" ∈ wsX3_broughtBy := by decide +kernel
theorem iw_X2_add_X2 : ∀ w ∈ wsX20, w ∈ wsX2_add := by decide +kernel
theorem iw_X2_isBelow_X2 : ∀ w ∈ wsX20, w ∈ wsX2_isBelow := by decide +kernel
theorem iw_X3_clear_X3 : ∀ w ∈ wsX30, w ∈ wsX3_clear := by decide +kernel
theorem iw_X3_wageOf_X3 : ∀ w ∈ wsX30, w ∈ wsX3_wageOf := by decide +kernel
theorem iw_X3_broughtBy_X3 : ∀ w ∈ wsX30, w ∈ wsX3_broughtBy := by decide +kernel

abbrev cX3_chanceFrom : ByteArray := prog_5_method_10_code
def yX3_chanceFrom : MethodName := ⟨RX3, "chanceFrom", "(II)I"⟩
def tyX4 : Nat → FieldType := fun k => match k with
  | 0 => .array .long
  | 1 => .long
  | 2 => .object "PaidBySigns$Table"
  | 3 => .array .int
  | 4 => .array .int
  | 5 => .array .int
  | 6 => .int
  | 7 => .int
  | 8 => .object "PaidBySigns$Hire"
  | 9 => .int
  | 10 => .int
  | _ => .int
abbrev wsX40 : List Cond := u_ws RX4 TX4 12
theorem nmX4 : ∀ a, a < 12 → ∀ b, b < 12 → a ≠ b → (TX4 a).2.1 ≠ (TX4 b).2.1 := by decide +kernel
theorem tyX4_ok : ∀ k, k < 12 → parseFieldDescriptor (TX4 k).2.2.1 = some (tyX4 k) := by decide +kernel
abbrev cX4_chanceOf : ByteArray := prog_6_method_8_code
def yX4_chanceOf : MethodName := ⟨RX4, "chanceOf", "(II)I"⟩
abbrev cX4_listColumns : ByteArray := prog_6_method_9_code
def yX4_listColumns : MethodName := ⟨RX4, "listColumns", "()V"⟩
abbrev cX4_listSteps : ByteArray := prog_6_method_10_code
def yX4_listSteps : MethodName := ⟨RX4, "listSteps", "(I)V"⟩
abbrev cJ7_fill_d0a16 : ByteArray := prog_19_method_101_code
def yJ7_fill_d0a16 : MethodName := ⟨RJ7, "fill", "([JJ)V"⟩
def wsX3_chanceFrom : List Cond := .code yX3_chanceFrom cX3_chanceFrom 5 (some .int) :: ([.fieldLink RX3 32 "PaidBySigns$Hire" "signs" "I", .fieldLink RX3 9 "PaidBySigns$Hire" "brings" "[I", .fieldLink RX3 20 "PaidBySigns$Hire" "chances" "[[I"] ++ wsX30)
def wsX4_chanceOf : List Cond := .code yX4_chanceOf cX4_chanceOf 3 (some .int) :: ([.fieldLink RX4 56 "PaidBySigns$LeastCost" "joinedSign" "I", .fieldLink RX4 53 "PaidBySigns$LeastCost" "keptSign" "I", .fieldLink RX4 46 "PaidBySigns$LeastCost" "hire" "LPaidBySigns$Hire;", .fieldLink RX4 112 "PaidBySigns$Hire" "chances" "[[I"] ++ wsX40 ++ wsX30)
def wsX4_listSteps : List Cond := .code yX4_listSteps cX4_listSteps 5 none :: ([.fieldLink RX4 46 "PaidBySigns$LeastCost" "hire" "LPaidBySigns$Hire;", .fieldLink RX4 79 "PaidBySigns$Hire" "least" "I", .fieldLink RX4 119 "PaidBySigns$Hire" "rates" "I", .fieldLink RX4 36 "PaidBySigns$LeastCost" "columns" "I", .fieldLink RX4 122 "PaidBySigns$Hire" "mark" "[I", .fieldLink RX4 26 "PaidBySigns$LeastCost" "columnSign" "[I", .fieldLink RX4 30 "PaidBySigns$LeastCost" "columnRate" "[I", .fieldLink RX4 125 "PaidBySigns$Hire" "rate" "[I", .fieldLink RX4 33 "PaidBySigns$LeastCost" "columnRoom" "[I", .fieldLink RX4 40 "PaidBySigns$LeastCost" "rooms" "I"] ++ wsX40 ++ wsX30)
def wsX4_listColumns : List Cond := .code yX4_listColumns cX4_listColumns 2 none :: ([.fieldLink RX4 36 "PaidBySigns$LeastCost" "columns" "I", .fieldLink RX4 40 "PaidBySigns$LeastCost" "rooms" "I", .fieldLink RX4 46 "PaidBySigns$LeastCost" "hire" "LPaidBySigns$Hire;", .fieldLink RX4 63 "PaidBySigns$Hire" "signs" "I", .fieldLink RX4 50 "PaidBySigns$LeastCost" "work" "I", .methodLink RX4 66 yX4_chanceOf, .instanceMethod yX4_chanceOf, .selects RX4 yX4_chanceOf yX4_chanceOf, .initialized RX4, .code yX4_chanceOf cX4_chanceOf 3 (some .int), .fieldLink RX4 56 "PaidBySigns$LeastCost" "joinedSign" "I", .fieldLink RX4 53 "PaidBySigns$LeastCost" "keptSign" "I", .fieldLink RX4 112 "PaidBySigns$Hire" "chances" "[[I", .methodLink RX4 116 yX4_listSteps, .instanceMethod yX4_listSteps, .selects RX4 yX4_listSteps yX4_listSteps, .code yX4_listSteps cX4_listSteps 5 none, .fieldLink RX4 79 "PaidBySigns$Hire" "least" "I", .fieldLink RX4 119 "PaidBySigns$Hire" "rates" "I", .fieldLink RX4 122 "PaidBySigns$Hire" "mark" "[I", .fieldLink RX4 26 "PaidBySigns$LeastCost" "columnSign" "[I", .fieldLink RX4 30 "PaidBySigns$LeastCost" "columnRate" "[I", .fieldLink RX4 125 "PaidBySigns$Hire" "rate" "[I", .fieldLink RX4 33 "PaidBySigns$LeastCost" "columnRoom" "[I"] ++ wsX40 ++ wsX30)
def wsJ7_fill_d0a16 : List Cond := .code yJ7_fill_d0a16 cJ7_fill_d0a16 5 none :: ([])
theorem dX3_chanceFrom_0 : decode cX3_chanceFrom 0 = .ok (.iconst 0, 1) := by decide +kernel
theorem dX3_chanceFrom_1 : decode cX3_chanceFrom 1 = .ok (.istore_n 3, 1) := by decide +kernel
theorem dX3_chanceFrom_2 : decode cX3_chanceFrom 2 = .ok (.iconst 0, 1) := by decide +kernel
theorem dX3_chanceFrom_3 : decode cX3_chanceFrom 3 = .ok (.istore 4, 2) := by decide +kernel
theorem dX3_chanceFrom_5 : decode cX3_chanceFrom 5 = .ok (.iload 4, 2) := by decide +kernel
theorem dX3_chanceFrom_7 : decode cX3_chanceFrom 7 = .ok (.aload_n 0, 1) := by decide +kernel
theorem dX3_chanceFrom_8 : decode cX3_chanceFrom 8 = .ok (.getfield 32, 3) := by decide +kernel
theorem dX3_chanceFrom_11 : decode cX3_chanceFrom 11 = .ok (.if_icmp .ge 37, 3) := by decide +kernel
theorem dX3_chanceFrom_14 : decode cX3_chanceFrom 14 = .ok (.aload_n 0, 1) := by decide +kernel
theorem dX3_chanceFrom_15 : decode cX3_chanceFrom 15 = .ok (.getfield 9, 3) := by decide +kernel
theorem dX3_chanceFrom_18 : decode cX3_chanceFrom 18 = .ok (.iload 4, 2) := by decide +kernel
theorem dX3_chanceFrom_20 : decode cX3_chanceFrom 20 = .ok (.iaload, 1) := by decide +kernel
theorem dX3_chanceFrom_21 : decode cX3_chanceFrom 21 = .ok (.aload_n 0, 1) := by decide +kernel
theorem dX3_chanceFrom_22 : decode cX3_chanceFrom 22 = .ok (.getfield 9, 3) := by decide +kernel
theorem dX3_chanceFrom_25 : decode cX3_chanceFrom 25 = .ok (.iload_n 2, 1) := by decide +kernel
theorem dX3_chanceFrom_26 : decode cX3_chanceFrom 26 = .ok (.iaload, 1) := by decide +kernel
theorem dX3_chanceFrom_27 : decode cX3_chanceFrom 27 = .ok (.if_icmp .lt 15, 3) := by decide +kernel
theorem dX3_chanceFrom_30 : decode cX3_chanceFrom 30 = .ok (.iload_n 3, 1) := by decide +kernel
theorem dX3_chanceFrom_31 : decode cX3_chanceFrom 31 = .ok (.aload_n 0, 1) := by decide +kernel
theorem dX3_chanceFrom_32 : decode cX3_chanceFrom 32 = .ok (.getfield 20, 3) := by decide +kernel
theorem dX3_chanceFrom_35 : decode cX3_chanceFrom 35 = .ok (.iload_n 1, 1) := by decide +kernel
theorem dX3_chanceFrom_36 : decode cX3_chanceFrom 36 = .ok (.aaload, 1) := by decide +kernel
theorem dX3_chanceFrom_37 : decode cX3_chanceFrom 37 = .ok (.iload 4, 2) := by decide +kernel
theorem dX3_chanceFrom_39 : decode cX3_chanceFrom 39 = .ok (.iaload, 1) := by decide +kernel
theorem dX3_chanceFrom_40 : decode cX3_chanceFrom 40 = .ok (.iadd, 1) := by decide +kernel
theorem dX3_chanceFrom_41 : decode cX3_chanceFrom 41 = .ok (.istore_n 3, 1) := by decide +kernel
theorem dX3_chanceFrom_42 : decode cX3_chanceFrom 42 = .ok (.iinc 4 1, 3) := by decide +kernel
theorem dX3_chanceFrom_45 : decode cX3_chanceFrom 45 = .ok (.goto (-40), 3) := by decide +kernel
theorem dX3_chanceFrom_48 : decode cX3_chanceFrom 48 = .ok (.iload_n 3, 1) := by decide +kernel
theorem dX3_chanceFrom_49 : decode cX3_chanceFrom 49 = .ok (.ireturn, 1) := by decide +kernel
theorem dX4_chanceOf_0 : decode cX4_chanceOf 0 = .ok (.iload_n 2, 1) := by decide +kernel
theorem dX4_chanceOf_1 : decode cX4_chanceOf 1 = .ok (.aload_n 0, 1) := by decide +kernel
theorem dX4_chanceOf_2 : decode cX4_chanceOf 2 = .ok (.getfield 56, 3) := by decide +kernel
theorem dX4_chanceOf_5 : decode cX4_chanceOf 5 = .ok (.if_icmp .ne 5, 3) := by decide +kernel
theorem dX4_chanceOf_8 : decode cX4_chanceOf 8 = .ok (.iconst 0, 1) := by decide +kernel
theorem dX4_chanceOf_9 : decode cX4_chanceOf 9 = .ok (.ireturn, 1) := by decide +kernel
theorem dX4_chanceOf_10 : decode cX4_chanceOf 10 = .ok (.iload_n 2, 1) := by decide +kernel
theorem dX4_chanceOf_11 : decode cX4_chanceOf 11 = .ok (.aload_n 0, 1) := by decide +kernel
theorem dX4_chanceOf_12 : decode cX4_chanceOf 12 = .ok (.getfield 53, 3) := by decide +kernel
theorem dX4_chanceOf_15 : decode cX4_chanceOf 15 = .ok (.if_icmp .ne 32, 3) := by decide +kernel
theorem dX4_chanceOf_18 : decode cX4_chanceOf 18 = .ok (.aload_n 0, 1) := by decide +kernel
theorem dX4_chanceOf_19 : decode cX4_chanceOf 19 = .ok (.getfield 46, 3) := by decide +kernel
theorem dX4_chanceOf_22 : decode cX4_chanceOf 22 = .ok (.getfield 112, 3) := by decide +kernel
theorem dX4_chanceOf_25 : decode cX4_chanceOf 25 = .ok (.iload_n 1, 1) := by decide +kernel
theorem dX4_chanceOf_26 : decode cX4_chanceOf 26 = .ok (.aaload, 1) := by decide +kernel
theorem dX4_chanceOf_27 : decode cX4_chanceOf 27 = .ok (.iload_n 2, 1) := by decide +kernel
theorem dX4_chanceOf_28 : decode cX4_chanceOf 28 = .ok (.iaload, 1) := by decide +kernel
theorem dX4_chanceOf_29 : decode cX4_chanceOf 29 = .ok (.aload_n 0, 1) := by decide +kernel
theorem dX4_chanceOf_30 : decode cX4_chanceOf 30 = .ok (.getfield 46, 3) := by decide +kernel
theorem dX4_chanceOf_33 : decode cX4_chanceOf 33 = .ok (.getfield 112, 3) := by decide +kernel
theorem dX4_chanceOf_36 : decode cX4_chanceOf 36 = .ok (.iload_n 1, 1) := by decide +kernel
theorem dX4_chanceOf_37 : decode cX4_chanceOf 37 = .ok (.aaload, 1) := by decide +kernel
theorem dX4_chanceOf_38 : decode cX4_chanceOf 38 = .ok (.aload_n 0, 1) := by decide +kernel
theorem dX4_chanceOf_39 : decode cX4_chanceOf 39 = .ok (.getfield 56, 3) := by decide +kernel
theorem dX4_chanceOf_42 : decode cX4_chanceOf 42 = .ok (.iaload, 1) := by decide +kernel
theorem dX4_chanceOf_43 : decode cX4_chanceOf 43 = .ok (.iadd, 1) := by decide +kernel
theorem dX4_chanceOf_44 : decode cX4_chanceOf 44 = .ok (.goto 14, 3) := by decide +kernel
theorem dX4_chanceOf_47 : decode cX4_chanceOf 47 = .ok (.aload_n 0, 1) := by decide +kernel
theorem dX4_chanceOf_48 : decode cX4_chanceOf 48 = .ok (.getfield 46, 3) := by decide +kernel
theorem dX4_chanceOf_51 : decode cX4_chanceOf 51 = .ok (.getfield 112, 3) := by decide +kernel
theorem dX4_chanceOf_54 : decode cX4_chanceOf 54 = .ok (.iload_n 1, 1) := by decide +kernel
theorem dX4_chanceOf_55 : decode cX4_chanceOf 55 = .ok (.aaload, 1) := by decide +kernel
theorem dX4_chanceOf_56 : decode cX4_chanceOf 56 = .ok (.iload_n 2, 1) := by decide +kernel
theorem dX4_chanceOf_57 : decode cX4_chanceOf 57 = .ok (.iaload, 1) := by decide +kernel
theorem dX4_chanceOf_58 : decode cX4_chanceOf 58 = .ok (.ireturn, 1) := by decide +kernel
set_option maxRecDepth 20000 in
theorem ggX4_listColumns_X4_chanceOf : GoodIn wsX4_listColumns wsX4_chanceOf := goodIn_r _ [10, 11, 12, 3, 13, 25, 26, 27, 28, 29, 30, 31, 32, 33, 34, 35, 36, 37, 38, 39, 40, 41, 42, 43, 44, 45, 46, 47] (by decide +kernel) (by decide +kernel)
set_option maxRecDepth 20000 in
theorem gX4_listColumns_X4_chanceOf : GoodIn wsX4_listColumns (wsV RX4 66 RX4 yX4_chanceOf wsX4_chanceOf) := goodIn_app (goodIn_of _ (by decide +kernel)) ggX4_listColumns_X4_chanceOf
set_option maxRecDepth 20000 in
theorem ggX4_listColumns_X4_listSteps : GoodIn wsX4_listColumns wsX4_listSteps := goodIn_r _ [17, 3, 18, 19, 1, 20, 21, 22, 23, 24, 2, 25, 26, 27, 28, 29, 30, 31, 32, 33, 34, 35, 36, 37, 38, 39, 40, 41, 42, 43, 44, 45, 46, 47] (by decide +kernel) (by decide +kernel)
set_option maxRecDepth 20000 in
theorem gX4_listColumns_X4_listSteps : GoodIn wsX4_listColumns (wsV RX4 116 RX4 yX4_listSteps wsX4_listSteps) := goodIn_app (goodIn_of _ (by decide +kernel)) ggX4_listColumns_X4_listSteps
theorem dX4_listColumns_0 : decode cX4_listColumns 0 = .ok (.aload_n 0, 1) := by decide +kernel
theorem dX4_listColumns_1 : decode cX4_listColumns 1 = .ok (.iconst 0, 1) := by decide +kernel
theorem dX4_listColumns_2 : decode cX4_listColumns 2 = .ok (.putfield 36, 3) := by decide +kernel
theorem dX4_listColumns_5 : decode cX4_listColumns 5 = .ok (.aload_n 0, 1) := by decide +kernel
theorem dX4_listColumns_6 : decode cX4_listColumns 6 = .ok (.iconst 0, 1) := by decide +kernel
theorem dX4_listColumns_7 : decode cX4_listColumns 7 = .ok (.putfield 40, 3) := by decide +kernel
theorem dX4_listColumns_10 : decode cX4_listColumns 10 = .ok (.iconst 0, 1) := by decide +kernel
theorem dX4_listColumns_11 : decode cX4_listColumns 11 = .ok (.istore_n 1, 1) := by decide +kernel
theorem dX4_listColumns_12 : decode cX4_listColumns 12 = .ok (.iload_n 1, 1) := by decide +kernel
theorem dX4_listColumns_13 : decode cX4_listColumns 13 = .ok (.aload_n 0, 1) := by decide +kernel
theorem dX4_listColumns_14 : decode cX4_listColumns 14 = .ok (.getfield 46, 3) := by decide +kernel
theorem dX4_listColumns_17 : decode cX4_listColumns 17 = .ok (.getfield 63, 3) := by decide +kernel
theorem dX4_listColumns_20 : decode cX4_listColumns 20 = .ok (.if_icmp .ge 26, 3) := by decide +kernel
theorem dX4_listColumns_23 : decode cX4_listColumns 23 = .ok (.aload_n 0, 1) := by decide +kernel
theorem dX4_listColumns_24 : decode cX4_listColumns 24 = .ok (.aload_n 0, 1) := by decide +kernel
theorem dX4_listColumns_25 : decode cX4_listColumns 25 = .ok (.getfield 50, 3) := by decide +kernel
theorem dX4_listColumns_28 : decode cX4_listColumns 28 = .ok (.iload_n 1, 1) := by decide +kernel
theorem dX4_listColumns_29 : decode cX4_listColumns 29 = .ok (.invokevirtual 66, 3) := by decide +kernel
theorem dX4_listColumns_32 : decode cX4_listColumns 32 = .ok (.ifCond .le 8, 3) := by decide +kernel
theorem dX4_listColumns_35 : decode cX4_listColumns 35 = .ok (.aload_n 0, 1) := by decide +kernel
theorem dX4_listColumns_36 : decode cX4_listColumns 36 = .ok (.iload_n 1, 1) := by decide +kernel
theorem dX4_listColumns_37 : decode cX4_listColumns 37 = .ok (.invokevirtual 116, 3) := by decide +kernel
theorem dX4_listColumns_40 : decode cX4_listColumns 40 = .ok (.iinc 1 1, 3) := by decide +kernel
theorem dX4_listColumns_43 : decode cX4_listColumns 43 = .ok (.goto (-31), 3) := by decide +kernel
theorem dX4_listColumns_46 : decode cX4_listColumns 46 = .ok (.return_, 1) := by decide +kernel
theorem dX4_listSteps_0 : decode cX4_listSteps 0 = .ok (.aload_n 0, 1) := by decide +kernel
theorem dX4_listSteps_1 : decode cX4_listSteps 1 = .ok (.getfield 46, 3) := by decide +kernel
theorem dX4_listSteps_4 : decode cX4_listSteps 4 = .ok (.getfield 79, 3) := by decide +kernel
theorem dX4_listSteps_7 : decode cX4_listSteps 7 = .ok (.istore_n 2, 1) := by decide +kernel
theorem dX4_listSteps_8 : decode cX4_listSteps 8 = .ok (.iconst 0, 1) := by decide +kernel
theorem dX4_listSteps_9 : decode cX4_listSteps 9 = .ok (.istore_n 3, 1) := by decide +kernel
theorem dX4_listSteps_10 : decode cX4_listSteps 10 = .ok (.iload_n 3, 1) := by decide +kernel
theorem dX4_listSteps_11 : decode cX4_listSteps 11 = .ok (.aload_n 0, 1) := by decide +kernel
theorem dX4_listSteps_12 : decode cX4_listSteps 12 = .ok (.getfield 46, 3) := by decide +kernel
theorem dX4_listSteps_15 : decode cX4_listSteps 15 = .ok (.getfield 119, 3) := by decide +kernel
theorem dX4_listSteps_18 : decode cX4_listSteps 18 = .ok (.if_icmp .ge 161, 3) := by decide +kernel
theorem dX4_listSteps_21 : decode cX4_listSteps 21 = .ok (.aload_n 0, 1) := by decide +kernel
theorem dX4_listSteps_22 : decode cX4_listSteps 22 = .ok (.getfield 36, 3) := by decide +kernel
theorem dX4_listSteps_25 : decode cX4_listSteps 25 = .ok (.bipush 12, 2) := by decide +kernel
theorem dX4_listSteps_27 : decode cX4_listSteps 27 = .ok (.if_icmp .ge 152, 3) := by decide +kernel
theorem dX4_listSteps_30 : decode cX4_listSteps 30 = .ok (.iload_n 3, 1) := by decide +kernel
theorem dX4_listSteps_31 : decode cX4_listSteps 31 = .ok (.aload_n 0, 1) := by decide +kernel
theorem dX4_listSteps_32 : decode cX4_listSteps 32 = .ok (.getfield 46, 3) := by decide +kernel
theorem dX4_listSteps_35 : decode cX4_listSteps 35 = .ok (.getfield 119, 3) := by decide +kernel
theorem dX4_listSteps_38 : decode cX4_listSteps 38 = .ok (.iconst 1, 1) := by decide +kernel
theorem dX4_listSteps_39 : decode cX4_listSteps 39 = .ok (.isub, 1) := by decide +kernel
theorem dX4_listSteps_40 : decode cX4_listSteps 40 = .ok (.if_icmp .ne 7, 3) := by decide +kernel
theorem dX4_listSteps_43 : decode cX4_listSteps 43 = .ok (.iconst 1, 1) := by decide +kernel
theorem dX4_listSteps_44 : decode cX4_listSteps 44 = .ok (.goto 4, 3) := by decide +kernel
theorem dX4_listSteps_47 : decode cX4_listSteps 47 = .ok (.iconst 0, 1) := by decide +kernel
theorem dX4_listSteps_48 : decode cX4_listSteps 48 = .ok (.istore 4, 2) := by decide +kernel
theorem dX4_listSteps_50 : decode cX4_listSteps 50 = .ok (.iload 4, 2) := by decide +kernel
theorem dX4_listSteps_52 : decode cX4_listSteps 52 = .ok (.ifCond .ne 19, 3) := by decide +kernel
theorem dX4_listSteps_55 : decode cX4_listSteps 55 = .ok (.aload_n 0, 1) := by decide +kernel
theorem dX4_listSteps_56 : decode cX4_listSteps 56 = .ok (.getfield 46, 3) := by decide +kernel
theorem dX4_listSteps_59 : decode cX4_listSteps 59 = .ok (.getfield 122, 3) := by decide +kernel
theorem dX4_listSteps_62 : decode cX4_listSteps 62 = .ok (.iload_n 3, 1) := by decide +kernel
theorem dX4_listSteps_63 : decode cX4_listSteps 63 = .ok (.iaload, 1) := by decide +kernel
theorem dX4_listSteps_64 : decode cX4_listSteps 64 = .ok (.iload_n 2, 1) := by decide +kernel
theorem dX4_listSteps_65 : decode cX4_listSteps 65 = .ok (.if_icmp .gt 6, 3) := by decide +kernel
theorem dX4_listSteps_68 : decode cX4_listSteps 68 = .ok (.goto 105, 3) := by decide +kernel
theorem dX4_listSteps_71 : decode cX4_listSteps 71 = .ok (.aload_n 0, 1) := by decide +kernel
theorem dX4_listSteps_72 : decode cX4_listSteps 72 = .ok (.getfield 26, 3) := by decide +kernel
theorem dX4_listSteps_75 : decode cX4_listSteps 75 = .ok (.aload_n 0, 1) := by decide +kernel
theorem dX4_listSteps_76 : decode cX4_listSteps 76 = .ok (.getfield 36, 3) := by decide +kernel
theorem dX4_listSteps_79 : decode cX4_listSteps 79 = .ok (.iload_n 1, 1) := by decide +kernel
theorem dX4_listSteps_80 : decode cX4_listSteps 80 = .ok (.iastore, 1) := by decide +kernel
theorem dX4_listSteps_81 : decode cX4_listSteps 81 = .ok (.aload_n 0, 1) := by decide +kernel
theorem dX4_listSteps_82 : decode cX4_listSteps 82 = .ok (.getfield 30, 3) := by decide +kernel
theorem dX4_listSteps_85 : decode cX4_listSteps 85 = .ok (.aload_n 0, 1) := by decide +kernel
theorem dX4_listSteps_86 : decode cX4_listSteps 86 = .ok (.getfield 36, 3) := by decide +kernel
theorem dX4_listSteps_89 : decode cX4_listSteps 89 = .ok (.aload_n 0, 1) := by decide +kernel
theorem dX4_listSteps_90 : decode cX4_listSteps 90 = .ok (.getfield 46, 3) := by decide +kernel
theorem dX4_listSteps_93 : decode cX4_listSteps 93 = .ok (.getfield 125, 3) := by decide +kernel
theorem dX4_listSteps_96 : decode cX4_listSteps 96 = .ok (.iload_n 3, 1) := by decide +kernel
theorem dX4_listSteps_97 : decode cX4_listSteps 97 = .ok (.iaload, 1) := by decide +kernel
theorem dX4_listSteps_98 : decode cX4_listSteps 98 = .ok (.iastore, 1) := by decide +kernel
theorem dX4_listSteps_99 : decode cX4_listSteps 99 = .ok (.aload_n 0, 1) := by decide +kernel
theorem dX4_listSteps_100 : decode cX4_listSteps 100 = .ok (.getfield 33, 3) := by decide +kernel
theorem dX4_listSteps_103 : decode cX4_listSteps 103 = .ok (.aload_n 0, 1) := by decide +kernel
theorem dX4_listSteps_104 : decode cX4_listSteps 104 = .ok (.getfield 36, 3) := by decide +kernel
theorem dX4_listSteps_107 : decode cX4_listSteps 107 = .ok (.iload 4, 2) := by decide +kernel
theorem dX4_listSteps_109 : decode cX4_listSteps 109 = .ok (.ifCond .eq 7, 3) := by decide +kernel
theorem dX4_listSteps_112 : decode cX4_listSteps 112 = .ok (.iconst (-1), 1) := by decide +kernel
theorem dX4_listSteps_113 : decode cX4_listSteps 113 = .ok (.goto 24, 3) := by decide +kernel
theorem dX4_listSteps_116 : decode cX4_listSteps 116 = .ok (.aload_n 0, 1) := by decide +kernel
theorem dX4_listSteps_117 : decode cX4_listSteps 117 = .ok (.getfield 46, 3) := by decide +kernel
theorem dX4_listSteps_120 : decode cX4_listSteps 120 = .ok (.getfield 122, 3) := by decide +kernel
theorem dX4_listSteps_123 : decode cX4_listSteps 123 = .ok (.iload_n 3, 1) := by decide +kernel
theorem dX4_listSteps_124 : decode cX4_listSteps 124 = .ok (.iaload, 1) := by decide +kernel
theorem dX4_listSteps_125 : decode cX4_listSteps 125 = .ok (.iload_n 2, 1) := by decide +kernel
theorem dX4_listSteps_126 : decode cX4_listSteps 126 = .ok (.isub, 1) := by decide +kernel
theorem dX4_listSteps_127 : decode cX4_listSteps 127 = .ok (.aload_n 0, 1) := by decide +kernel
theorem dX4_listSteps_128 : decode cX4_listSteps 128 = .ok (.getfield 46, 3) := by decide +kernel
theorem dX4_listSteps_131 : decode cX4_listSteps 131 = .ok (.getfield 125, 3) := by decide +kernel
theorem dX4_listSteps_134 : decode cX4_listSteps 134 = .ok (.iload_n 3, 1) := by decide +kernel
theorem dX4_listSteps_135 : decode cX4_listSteps 135 = .ok (.iaload, 1) := by decide +kernel
theorem dX4_listSteps_136 : decode cX4_listSteps 136 = .ok (.imul, 1) := by decide +kernel
theorem dX4_listSteps_137 : decode cX4_listSteps 137 = .ok (.iastore, 1) := by decide +kernel
theorem dX4_listSteps_138 : decode cX4_listSteps 138 = .ok (.aload_n 0, 1) := by decide +kernel
theorem dX4_listSteps_139 : decode cX4_listSteps 139 = .ok (.dup, 1) := by decide +kernel
theorem dX4_listSteps_140 : decode cX4_listSteps 140 = .ok (.getfield 36, 3) := by decide +kernel
theorem dX4_listSteps_143 : decode cX4_listSteps 143 = .ok (.iconst 1, 1) := by decide +kernel
theorem dX4_listSteps_144 : decode cX4_listSteps 144 = .ok (.iadd, 1) := by decide +kernel
theorem dX4_listSteps_145 : decode cX4_listSteps 145 = .ok (.putfield 36, 3) := by decide +kernel
theorem dX4_listSteps_148 : decode cX4_listSteps 148 = .ok (.iload 4, 2) := by decide +kernel
theorem dX4_listSteps_150 : decode cX4_listSteps 150 = .ok (.ifCond .ne 23, 3) := by decide +kernel
theorem dX4_listSteps_153 : decode cX4_listSteps 153 = .ok (.aload_n 0, 1) := by decide +kernel
theorem dX4_listSteps_154 : decode cX4_listSteps 154 = .ok (.getfield 46, 3) := by decide +kernel
theorem dX4_listSteps_157 : decode cX4_listSteps 157 = .ok (.getfield 122, 3) := by decide +kernel
theorem dX4_listSteps_160 : decode cX4_listSteps 160 = .ok (.iload_n 3, 1) := by decide +kernel
theorem dX4_listSteps_161 : decode cX4_listSteps 161 = .ok (.iaload, 1) := by decide +kernel
theorem dX4_listSteps_162 : decode cX4_listSteps 162 = .ok (.istore_n 2, 1) := by decide +kernel
theorem dX4_listSteps_163 : decode cX4_listSteps 163 = .ok (.aload_n 0, 1) := by decide +kernel
theorem dX4_listSteps_164 : decode cX4_listSteps 164 = .ok (.dup, 1) := by decide +kernel
theorem dX4_listSteps_165 : decode cX4_listSteps 165 = .ok (.getfield 40, 3) := by decide +kernel
theorem dX4_listSteps_168 : decode cX4_listSteps 168 = .ok (.iconst 1, 1) := by decide +kernel
theorem dX4_listSteps_169 : decode cX4_listSteps 169 = .ok (.iadd, 1) := by decide +kernel
theorem dX4_listSteps_170 : decode cX4_listSteps 170 = .ok (.putfield 40, 3) := by decide +kernel
theorem dX4_listSteps_173 : decode cX4_listSteps 173 = .ok (.iinc 3 1, 3) := by decide +kernel
theorem dX4_listSteps_176 : decode cX4_listSteps 176 = .ok (.goto (-166), 3) := by decide +kernel
theorem dX4_listSteps_179 : decode cX4_listSteps 179 = .ok (.return_, 1) := by decide +kernel
theorem dJ7_fill_d0a16_0 : decode cJ7_fill_d0a16 0 = .ok (.iconst 0, 1) := by decide +kernel
theorem dJ7_fill_d0a16_1 : decode cJ7_fill_d0a16 1 = .ok (.istore_n 3, 1) := by decide +kernel
theorem dJ7_fill_d0a16_2 : decode cJ7_fill_d0a16 2 = .ok (.aload_n 0, 1) := by decide +kernel
theorem dJ7_fill_d0a16_3 : decode cJ7_fill_d0a16 3 = .ok (.arraylength, 1) := by decide +kernel
theorem dJ7_fill_d0a16_4 : decode cJ7_fill_d0a16 4 = .ok (.istore 4, 2) := by decide +kernel
theorem dJ7_fill_d0a16_6 : decode cJ7_fill_d0a16 6 = .ok (.iload_n 3, 1) := by decide +kernel
theorem dJ7_fill_d0a16_7 : decode cJ7_fill_d0a16 7 = .ok (.iload 4, 2) := by decide +kernel
theorem dJ7_fill_d0a16_9 : decode cJ7_fill_d0a16 9 = .ok (.if_icmp .ge 13, 3) := by decide +kernel
theorem dJ7_fill_d0a16_12 : decode cJ7_fill_d0a16 12 = .ok (.aload_n 0, 1) := by decide +kernel
theorem dJ7_fill_d0a16_13 : decode cJ7_fill_d0a16 13 = .ok (.iload_n 3, 1) := by decide +kernel
theorem dJ7_fill_d0a16_14 : decode cJ7_fill_d0a16 14 = .ok (.lload_n 1, 1) := by decide +kernel
theorem dJ7_fill_d0a16_15 : decode cJ7_fill_d0a16 15 = .ok (.lastore, 1) := by decide +kernel
theorem dJ7_fill_d0a16_16 : decode cJ7_fill_d0a16 16 = .ok (.iinc 3 1, 3) := by decide +kernel
theorem dJ7_fill_d0a16_19 : decode cJ7_fill_d0a16 19 = .ok (.goto (-13), 3) := by decide +kernel
theorem dJ7_fill_d0a16_22 : decode cJ7_fill_d0a16 22 = .ok (.return_, 1) := by decide +kernel
theorem kk_X3_chanceFrom_0 : Cond.fieldLink RX3 32 "PaidBySigns$Hire" "signs" "I" ∈ wsX3_chanceFrom := by decide +kernel
theorem kk_X3_chanceFrom_1 : Cond.fieldLink RX3 9 "PaidBySigns$Hire" "brings" "[I" ∈ wsX3_chanceFrom := by decide +kernel
theorem kk_X3_chanceFrom_2 : Cond.fieldLink RX3 20 "PaidBySigns$Hire" "chances" "[[I" ∈ wsX3_chanceFrom := by decide +kernel
theorem kk_X4_listColumns_0 : Cond.fieldLink RX4 36 "PaidBySigns$LeastCost" "columns" "I" ∈ wsX4_listColumns := by decide +kernel
theorem kk_X4_listColumns_1 : Cond.fieldLink RX4 40 "PaidBySigns$LeastCost" "rooms" "I" ∈ wsX4_listColumns := by decide +kernel
theorem kk_X4_listColumns_2 : Cond.fieldLink RX4 46 "PaidBySigns$LeastCost" "hire" "LPaidBySigns$Hire;" ∈ wsX4_listColumns := by decide +kernel
theorem kk_X4_listColumns_3 : Cond.fieldLink RX4 63 "PaidBySigns$Hire" "signs" "I" ∈ wsX4_listColumns := by decide +kernel
theorem kk_X4_listColumns_4 : Cond.fieldLink RX4 50 "PaidBySigns$LeastCost" "work" "I" ∈ wsX4_listColumns := by decide +kernel
theorem kk_X4_chanceOf_0 : Cond.fieldLink RX4 56 "PaidBySigns$LeastCost" "joinedSign" "I" ∈ wsX4_chanceOf := by decide +kernel
theorem kk_X4_chanceOf_1 : Cond.fieldLink RX4 53 "PaidBySigns$LeastCost" "keptSign" "I" ∈ wsX4_chanceOf := by decide +kernel
theorem kk_X4_chanceOf_2 : Cond.fieldLink RX4 46 "PaidBySigns$LeastCost" "hire" "LPaidBySigns$Hire;" ∈ wsX4_chanceOf := by decide +kernel
theorem kk_X4_chanceOf_3 : Cond.fieldLink RX4 112 "PaidBySigns$Hire" "chances" "[[I" ∈ wsX4_chanceOf := by decide +kernel
theorem kk_X4_listSteps_0 : Cond.fieldLink RX4 46 "PaidBySigns$LeastCost" "hire" "LPaidBySigns$Hire;" ∈ wsX4_listSteps := by decide +kernel
theorem kk_X4_listSteps_1 : Cond.fieldLink RX4 79 "PaidBySigns$Hire" "least" "I" ∈ wsX4_listSteps := by decide +kernel
theorem kk_X4_listSteps_2 : Cond.fieldLink RX4 119 "PaidBySigns$Hire" "rates" "I" ∈ wsX4_listSteps := by decide +kernel
theorem kk_X4_listSteps_3 : Cond.fieldLink RX4 36 "PaidBySigns$LeastCost" "columns" "I" ∈ wsX4_listSteps := by decide +kernel
theorem kk_X4_listSteps_4 : Cond.fieldLink RX4 122 "PaidBySigns$Hire" "mark" "[I" ∈ wsX4_listSteps := by decide +kernel
theorem kk_X4_listSteps_5 : Cond.fieldLink RX4 26 "PaidBySigns$LeastCost" "columnSign" "[I" ∈ wsX4_listSteps := by decide +kernel
theorem kk_X4_listSteps_6 : Cond.fieldLink RX4 30 "PaidBySigns$LeastCost" "columnRate" "[I" ∈ wsX4_listSteps := by decide +kernel
theorem kk_X4_listSteps_7 : Cond.fieldLink RX4 125 "PaidBySigns$Hire" "rate" "[I" ∈ wsX4_listSteps := by decide +kernel
theorem kk_X4_listSteps_8 : Cond.fieldLink RX4 33 "PaidBySigns$LeastCost" "columnRoom" "[I" ∈ wsX4_listSteps := by decide +kernel
theorem kk_X4_listSteps_9 : Cond.fieldLink RX4 40 "PaidBySigns$LeastCost" "rooms" "I" ∈ wsX4_listSteps := by decide +kernel
theorem iw_X3_chanceFrom_X3 : ∀ w ∈ wsX30, w ∈ wsX3_chanceFrom := by decide +kernel
theorem iw_X4_listColumns_X4 : ∀ w ∈ wsX40, w ∈ wsX4_listColumns := by decide +kernel
theorem iw_X4_listColumns_X3 : ∀ w ∈ wsX30, w ∈ wsX4_listColumns := by decide +kernel
theorem iw_X4_chanceOf_X4 : ∀ w ∈ wsX40, w ∈ wsX4_chanceOf := by decide +kernel
theorem iw_X4_chanceOf_X3 : ∀ w ∈ wsX30, w ∈ wsX4_chanceOf := by decide +kernel
theorem iw_X4_listSteps_X4 : ∀ w ∈ wsX40, w ∈ wsX4_listSteps := by decide +kernel
theorem iw_X4_listSteps_X3 : ∀ w ∈ wsX30, w ∈ wsX4_listSteps := by decide +kernel

abbrev cX4_fillGoals : ByteArray := prog_6_method_11_code
def yX4_fillGoals : MethodName := ⟨RX4, "fillGoals", "(I)V"⟩
abbrev cX4_partsOf : ByteArray := prog_6_method_12_code
def yX4_partsOf : MethodName := ⟨RX4, "partsOf", "(I)I"⟩
abbrev cX4_fillLines : ByteArray := prog_6_method_13_code
def yX4_fillLines : MethodName := ⟨RX4, "fillLines", "(I)V"⟩
abbrev cX4_fillRooms : ByteArray := prog_6_method_14_code
def yX4_fillRooms : MethodName := ⟨RX4, "fillRooms", "(I)V"⟩
def tyX8 : Nat → FieldType := fun k => match k with
  | 0 => .array (.array .long)
  | 1 => .array .int
  | 2 => .array .int
  | 3 => .int
  | 4 => .int
  | 5 => .int
  | _ => .long
abbrev wsX80 : List Cond := u_ws RX8 TX8 7
theorem nmX8 : ∀ a, a < 7 → ∀ b, b < 7 → a ≠ b → (TX8 a).2.1 ≠ (TX8 b).2.1 := by decide +kernel
theorem tyX8_ok : ∀ k, k < 7 → parseFieldDescriptor (TX8 k).2.2.1 = some (tyX8 k) := by decide +kernel
abbrev cX8_start : ByteArray := prog_10_method_2_code
def yX8_start : MethodName := ⟨RX8, "start", "(III)V"⟩
def wsX8_start : List Cond := .code yX8_start cX8_start 5 none :: ([.methodLink RX8 23 Lib.Math.min.name, .static Lib.Math.min.name, .initialized "java/lang/Math", .code Lib.Math.min.name Lib.Math.min.code 2 (some .int), .fieldLink RX8 29 "PaidBySigns$Table" "goals" "I", .fieldLink RX8 33 "PaidBySigns$Table" "lines" "I", .fieldLink RX8 36 "PaidBySigns$Table" "columns" "I", .fieldLink RX8 39 "PaidBySigns$Table" "base" "J", .fieldLink RX8 13 "PaidBySigns$Table" "entry" "[[J", .fieldLink RX8 16 "PaidBySigns$Table" "lineName" "[I", .fieldLink RX8 20 "PaidBySigns$Table" "columnName" "[I", .methodLink RX8 43 yJ7_fill_d0a16, .static yJ7_fill_d0a16, .initialized RJ7, .code yJ7_fill_d0a16 cJ7_fill_d0a16 5 none] ++ wsX80)
def wsX4_partsOf : List Cond := .code yX4_partsOf cX4_partsOf 2 (some .int) :: ([.fieldLink RX4 30 "PaidBySigns$LeastCost" "columnRate" "[I"] ++ wsX40)
def wsX4_fillGoals : List Cond := .code yX4_fillGoals cX4_fillGoals 5 none :: ([.fieldLink RX4 36 "PaidBySigns$LeastCost" "columns" "I", .fieldLink RX4 26 "PaidBySigns$LeastCost" "columnSign" "[I", .fieldLink RX4 22 "PaidBySigns$LeastCost" "table" "LPaidBySigns$Table;", .fieldLink RX4 132 "PaidBySigns$Table" "entry" "[[J", .fieldLink RX4 50 "PaidBySigns$LeastCost" "work" "I", .methodLink RX4 128 yX4_partsOf, .instanceMethod yX4_partsOf, .selects RX4 yX4_partsOf yX4_partsOf, .initialized RX4, .code yX4_partsOf cX4_partsOf 2 (some .int), .fieldLink RX4 30 "PaidBySigns$LeastCost" "columnRate" "[I", .methodLink RX4 66 yX4_chanceOf, .instanceMethod yX4_chanceOf, .selects RX4 yX4_chanceOf yX4_chanceOf, .code yX4_chanceOf cX4_chanceOf 3 (some .int), .fieldLink RX4 56 "PaidBySigns$LeastCost" "joinedSign" "I", .fieldLink RX4 53 "PaidBySigns$LeastCost" "keptSign" "I", .fieldLink RX4 46 "PaidBySigns$LeastCost" "hire" "LPaidBySigns$Hire;", .fieldLink RX4 112 "PaidBySigns$Hire" "chances" "[[I"] ++ wsX40 ++ wsX80 ++ wsX30)
def wsX4_fillLines_r1 : List Cond := [Cond.fieldLink RX4 46 "PaidBySigns$LeastCost" "hire" "LPaidBySigns$Hire;", Cond.fieldLink RX4 88 "PaidBySigns$Hire" "works" "I", Cond.fieldLink RX4 22 "PaidBySigns$LeastCost" "table" "LPaidBySigns$Table;", Cond.fieldLink RX4 132 "PaidBySigns$Table" "entry" "[[J", Cond.fieldLink RX4 70 "PaidBySigns$Hire" "whole" "I", Cond.fieldLink RX4 50 "PaidBySigns$LeastCost" "work" "I", Cond.fieldLink RX4 36 "PaidBySigns$LeastCost" "columns" "I", Cond.fieldLink RX4 26 "PaidBySigns$LeastCost" "columnSign" "[I", Cond.methodLink RX4 136 yX3_lackOf, Cond.instanceMethod yX3_lackOf, Cond.selects RX3 yX3_lackOf yX3_lackOf, Cond.initialized RX3, Cond.code yX3_lackOf cX3_lackOf 3 (some .int), Cond.fieldLink RX3 15 "PaidBySigns$Hire" "costs" "[I", Cond.fieldLink RX3 42 "PaidBySigns$Hire" "otherwise" "I", Cond.fieldLink RX3 45 "PaidBySigns$Hire" "least" "I", Cond.methodLink RX3 63 yX3_feltOf, Cond.instanceMethod yX3_feltOf, Cond.selects RX3 yX3_feltOf yX3_feltOf, Cond.code yX3_feltOf cX3_feltOf 6 (some .int), Cond.fieldLink RX3 48 "PaidBySigns$Hire" "rates" "I", Cond.fieldLink RX3 26 "PaidBySigns$Hire" "mark" "[I", Cond.methodLink RX3 51 Lib.Math.min.name, Cond.static Lib.Math.min.name]
def wsX4_fillLines_r2 : List Cond := [Cond.initialized "java/lang/Math", Cond.code Lib.Math.min.name Lib.Math.min.code 2 (some .int), Cond.fieldLink RX3 23 "PaidBySigns$Hire" "rate" "[I", Cond.methodLink RX4 66 yX4_chanceOf, Cond.instanceMethod yX4_chanceOf, Cond.selects RX4 yX4_chanceOf yX4_chanceOf, Cond.initialized RX4, Cond.code yX4_chanceOf cX4_chanceOf 3 (some .int), Cond.fieldLink RX4 56 "PaidBySigns$LeastCost" "joinedSign" "I", Cond.fieldLink RX4 53 "PaidBySigns$LeastCost" "keptSign" "I", Cond.fieldLink RX4 112 "PaidBySigns$Hire" "chances" "[[I"]
def wsX4_fillLines : List Cond := .code yX4_fillLines cX4_fillLines 6 none :: ((wsX4_fillLines_r1 ++ wsX4_fillLines_r2) ++ wsX40 ++ wsX30 ++ wsX80)
def wsX4_fillRooms : List Cond := .code yX4_fillRooms cX4_fillRooms 4 none :: ([.fieldLink RX4 36 "PaidBySigns$LeastCost" "columns" "I", .fieldLink RX4 33 "PaidBySigns$LeastCost" "columnRoom" "[I", .fieldLink RX4 22 "PaidBySigns$LeastCost" "table" "LPaidBySigns$Table;", .fieldLink RX4 132 "PaidBySigns$Table" "entry" "[[J"] ++ wsX40 ++ wsX80)
set_option maxRecDepth 20000 in
theorem ggX4_fillGoals_X4_partsOf : GoodIn wsX4_fillGoals wsX4_partsOf := goodIn_r _ [10, 11, 20, 21, 22, 23, 24, 25, 26, 27, 28, 29, 30, 31] (by decide +kernel) (by decide +kernel)
set_option maxRecDepth 20000 in
theorem gX4_fillGoals_X4_partsOf : GoodIn wsX4_fillGoals (wsV RX4 128 RX4 yX4_partsOf wsX4_partsOf) := goodIn_app (goodIn_of _ (by decide +kernel)) ggX4_fillGoals_X4_partsOf
set_option maxRecDepth 20000 in
theorem ggX4_fillGoals_X4_chanceOf : GoodIn wsX4_fillGoals wsX4_chanceOf := goodIn_r _ [15, 16, 17, 18, 19, 20, 21, 22, 23, 24, 25, 26, 27, 28, 29, 30, 31, 39, 40, 41, 42, 43, 44, 45, 46, 47, 48, 49] (by decide +kernel) (by decide +kernel)
set_option maxRecDepth 20000 in
theorem gX4_fillGoals_X4_chanceOf : GoodIn wsX4_fillGoals (wsV RX4 66 RX4 yX4_chanceOf wsX4_chanceOf) := goodIn_app (goodIn_of _ (by decide +kernel)) ggX4_fillGoals_X4_chanceOf
theorem dX4_fillGoals_0 : decode cX4_fillGoals 0 = .ok (.iconst 0, 1) := by decide +kernel
theorem dX4_fillGoals_1 : decode cX4_fillGoals 1 = .ok (.istore_n 2, 1) := by decide +kernel
theorem dX4_fillGoals_2 : decode cX4_fillGoals 2 = .ok (.iload_n 2, 1) := by decide +kernel
theorem dX4_fillGoals_3 : decode cX4_fillGoals 3 = .ok (.aload_n 0, 1) := by decide +kernel
theorem dX4_fillGoals_4 : decode cX4_fillGoals 4 = .ok (.getfield 36, 3) := by decide +kernel
theorem dX4_fillGoals_7 : decode cX4_fillGoals 7 = .ok (.if_icmp .ge 77, 3) := by decide +kernel
theorem dX4_fillGoals_10 : decode cX4_fillGoals 10 = .ok (.aload_n 0, 1) := by decide +kernel
theorem dX4_fillGoals_11 : decode cX4_fillGoals 11 = .ok (.getfield 26, 3) := by decide +kernel
theorem dX4_fillGoals_14 : decode cX4_fillGoals 14 = .ok (.iload_n 2, 1) := by decide +kernel
theorem dX4_fillGoals_15 : decode cX4_fillGoals 15 = .ok (.iaload, 1) := by decide +kernel
theorem dX4_fillGoals_16 : decode cX4_fillGoals 16 = .ok (.istore_n 3, 1) := by decide +kernel
theorem dX4_fillGoals_17 : decode cX4_fillGoals 17 = .ok (.aload_n 0, 1) := by decide +kernel
theorem dX4_fillGoals_18 : decode cX4_fillGoals 18 = .ok (.iload_n 2, 1) := by decide +kernel
theorem dX4_fillGoals_19 : decode cX4_fillGoals 19 = .ok (.invokevirtual 128, 3) := by decide +kernel
theorem dX4_fillGoals_22 : decode cX4_fillGoals 22 = .ok (.istore 4, 2) := by decide +kernel
theorem dX4_fillGoals_24 : decode cX4_fillGoals 24 = .ok (.aload_n 0, 1) := by decide +kernel
theorem dX4_fillGoals_25 : decode cX4_fillGoals 25 = .ok (.getfield 22, 3) := by decide +kernel
theorem dX4_fillGoals_28 : decode cX4_fillGoals 28 = .ok (.getfield 132, 3) := by decide +kernel
theorem dX4_fillGoals_31 : decode cX4_fillGoals 31 = .ok (.iconst 0, 1) := by decide +kernel
theorem dX4_fillGoals_32 : decode cX4_fillGoals 32 = .ok (.aaload, 1) := by decide +kernel
theorem dX4_fillGoals_33 : decode cX4_fillGoals 33 = .ok (.iload_n 2, 1) := by decide +kernel
theorem dX4_fillGoals_34 : decode cX4_fillGoals 34 = .ok (.iconst 1, 1) := by decide +kernel
theorem dX4_fillGoals_35 : decode cX4_fillGoals 35 = .ok (.iadd, 1) := by decide +kernel
theorem dX4_fillGoals_36 : decode cX4_fillGoals 36 = .ok (.iload 4, 2) := by decide +kernel
theorem dX4_fillGoals_38 : decode cX4_fillGoals 38 = .ok (.i2l, 1) := by decide +kernel
theorem dX4_fillGoals_39 : decode cX4_fillGoals 39 = .ok (.lneg, 1) := by decide +kernel
theorem dX4_fillGoals_40 : decode cX4_fillGoals 40 = .ok (.aload_n 0, 1) := by decide +kernel
theorem dX4_fillGoals_41 : decode cX4_fillGoals 41 = .ok (.aload_n 0, 1) := by decide +kernel
theorem dX4_fillGoals_42 : decode cX4_fillGoals 42 = .ok (.getfield 50, 3) := by decide +kernel
theorem dX4_fillGoals_45 : decode cX4_fillGoals 45 = .ok (.iload_n 3, 1) := by decide +kernel
theorem dX4_fillGoals_46 : decode cX4_fillGoals 46 = .ok (.invokevirtual 66, 3) := by decide +kernel
theorem dX4_fillGoals_49 : decode cX4_fillGoals 49 = .ok (.i2l, 1) := by decide +kernel
theorem dX4_fillGoals_50 : decode cX4_fillGoals 50 = .ok (.lmul, 1) := by decide +kernel
theorem dX4_fillGoals_51 : decode cX4_fillGoals 51 = .ok (.lastore, 1) := by decide +kernel
theorem dX4_fillGoals_52 : decode cX4_fillGoals 52 = .ok (.iconst 1, 1) := by decide +kernel
theorem dX4_fillGoals_53 : decode cX4_fillGoals 53 = .ok (.iload_n 3, 1) := by decide +kernel
theorem dX4_fillGoals_54 : decode cX4_fillGoals 54 = .ok (.iadd, 1) := by decide +kernel
theorem dX4_fillGoals_55 : decode cX4_fillGoals 55 = .ok (.iload_n 1, 1) := by decide +kernel
theorem dX4_fillGoals_56 : decode cX4_fillGoals 56 = .ok (.if_icmp .ge 22, 3) := by decide +kernel
theorem dX4_fillGoals_59 : decode cX4_fillGoals 59 = .ok (.aload_n 0, 1) := by decide +kernel
theorem dX4_fillGoals_60 : decode cX4_fillGoals 60 = .ok (.getfield 22, 3) := by decide +kernel
theorem dX4_fillGoals_63 : decode cX4_fillGoals 63 = .ok (.getfield 132, 3) := by decide +kernel
theorem dX4_fillGoals_66 : decode cX4_fillGoals 66 = .ok (.iconst 1, 1) := by decide +kernel
theorem dX4_fillGoals_67 : decode cX4_fillGoals 67 = .ok (.iload_n 3, 1) := by decide +kernel
theorem dX4_fillGoals_68 : decode cX4_fillGoals 68 = .ok (.iadd, 1) := by decide +kernel
theorem dX4_fillGoals_69 : decode cX4_fillGoals 69 = .ok (.aaload, 1) := by decide +kernel
theorem dX4_fillGoals_70 : decode cX4_fillGoals 70 = .ok (.iload_n 2, 1) := by decide +kernel
theorem dX4_fillGoals_71 : decode cX4_fillGoals 71 = .ok (.iconst 1, 1) := by decide +kernel
theorem dX4_fillGoals_72 : decode cX4_fillGoals 72 = .ok (.iadd, 1) := by decide +kernel
theorem dX4_fillGoals_73 : decode cX4_fillGoals 73 = .ok (.iload 4, 2) := by decide +kernel
theorem dX4_fillGoals_75 : decode cX4_fillGoals 75 = .ok (.ineg, 1) := by decide +kernel
theorem dX4_fillGoals_76 : decode cX4_fillGoals 76 = .ok (.i2l, 1) := by decide +kernel
theorem dX4_fillGoals_77 : decode cX4_fillGoals 77 = .ok (.lastore, 1) := by decide +kernel
theorem dX4_fillGoals_78 : decode cX4_fillGoals 78 = .ok (.iinc 2 1, 3) := by decide +kernel
theorem dX4_fillGoals_81 : decode cX4_fillGoals 81 = .ok (.goto (-79), 3) := by decide +kernel
theorem dX4_fillGoals_84 : decode cX4_fillGoals 84 = .ok (.return_, 1) := by decide +kernel
theorem dX4_partsOf_0 : decode cX4_partsOf 0 = .ok (.aload_n 0, 1) := by decide +kernel
theorem dX4_partsOf_1 : decode cX4_partsOf 1 = .ok (.getfield 30, 3) := by decide +kernel
theorem dX4_partsOf_4 : decode cX4_partsOf 4 = .ok (.iload_n 1, 1) := by decide +kernel
theorem dX4_partsOf_5 : decode cX4_partsOf 5 = .ok (.iaload, 1) := by decide +kernel
theorem dX4_partsOf_6 : decode cX4_partsOf 6 = .ok (.iconst 1, 1) := by decide +kernel
theorem dX4_partsOf_7 : decode cX4_partsOf 7 = .ok (.if_icmp .ge 7, 3) := by decide +kernel
theorem dX4_partsOf_10 : decode cX4_partsOf 10 = .ok (.iconst 0, 1) := by decide +kernel
theorem dX4_partsOf_11 : decode cX4_partsOf 11 = .ok (.goto 12, 3) := by decide +kernel
theorem dX4_partsOf_14 : decode cX4_partsOf 14 = .ok (.bipush 60, 2) := by decide +kernel
theorem dX4_partsOf_16 : decode cX4_partsOf 16 = .ok (.aload_n 0, 1) := by decide +kernel
theorem dX4_partsOf_17 : decode cX4_partsOf 17 = .ok (.getfield 30, 3) := by decide +kernel
theorem dX4_partsOf_20 : decode cX4_partsOf 20 = .ok (.iload_n 1, 1) := by decide +kernel
theorem dX4_partsOf_21 : decode cX4_partsOf 21 = .ok (.iaload, 1) := by decide +kernel
theorem dX4_partsOf_22 : decode cX4_partsOf 22 = .ok (.idiv, 1) := by decide +kernel
theorem dX4_partsOf_23 : decode cX4_partsOf 23 = .ok (.ireturn, 1) := by decide +kernel
theorem pm_X4_fillLines_r1 : ∀ w ∈ wsX4_fillLines_r1, w ∈ wsX4_fillLines := fun _ h => List.mem_cons_of_mem _ (List.mem_append_left _ (List.mem_append_left _ (List.mem_append_left _ (List.mem_append_left _ h))))
theorem pm_X4_fillLines_r2 : ∀ w ∈ wsX4_fillLines_r2, w ∈ wsX4_fillLines := fun _ h => List.mem_cons_of_mem _ (List.mem_append_left _ (List.mem_append_left _ (List.mem_append_left _ (List.mem_append_right _ (h)))))
theorem pw_X4_fillLines_X4 : ∀ w ∈ wsX40, w ∈ wsX4_fillLines := fun _ h => List.mem_cons_of_mem _ (List.mem_append_left _ (List.mem_append_left _ (List.mem_append_right _ h)))
theorem pw_X4_fillLines_X3 : ∀ w ∈ wsX30, w ∈ wsX4_fillLines := fun _ h => List.mem_cons_of_mem _ (List.mem_append_left _ (List.mem_append_right _ h))
theorem pw_X4_fillLines_X8 : ∀ w ∈ wsX80, w ∈ wsX4_fillLines := fun _ h => List.mem_cons_of_mem _ (List.mem_append_right _ h)
set_option maxRecDepth 20000 in
theorem ggX4_fillLines_X3_lackOf : GoodIn wsX4_fillLines wsX3_lackOf := goodIn_sub (List.forall_mem_cons.mpr ⟨pm_X4_fillLines_r1 _ (List.mem_of_getElem? (i := 12) rfl), List.forall_mem_append.mpr ⟨List.forall_mem_cons.mpr ⟨pm_X4_fillLines_r1 _ (List.mem_of_getElem? (i := 13) rfl), List.forall_mem_cons.mpr ⟨pm_X4_fillLines_r1 _ (List.mem_of_getElem? (i := 14) rfl), List.forall_mem_cons.mpr ⟨pm_X4_fillLines_r1 _ (List.mem_of_getElem? (i := 15) rfl), List.forall_mem_cons.mpr ⟨pm_X4_fillLines_r1 _ (List.mem_of_getElem? (i := 16) rfl), List.forall_mem_cons.mpr ⟨pm_X4_fillLines_r1 _ (List.mem_of_getElem? (i := 17) rfl), List.forall_mem_cons.mpr ⟨pm_X4_fillLines_r1 _ (List.mem_of_getElem? (i := 18) rfl), List.forall_mem_cons.mpr ⟨pm_X4_fillLines_r1 _ (List.mem_of_getElem? (i := 11) rfl), List.forall_mem_cons.mpr ⟨pm_X4_fillLines_r1 _ (List.mem_of_getElem? (i := 19) rfl), List.forall_mem_cons.mpr ⟨pm_X4_fillLines_r1 _ (List.mem_of_getElem? (i := 20) rfl), List.forall_mem_cons.mpr ⟨pm_X4_fillLines_r1 _ (List.mem_of_getElem? (i := 21) rfl), List.forall_mem_cons.mpr ⟨pm_X4_fillLines_r1 _ (List.mem_of_getElem? (i := 22) rfl), List.forall_mem_cons.mpr ⟨pm_X4_fillLines_r1 _ (List.mem_of_getElem? (i := 23) rfl), List.forall_mem_cons.mpr ⟨pm_X4_fillLines_r2 _ (List.mem_of_getElem? (i := 0) rfl), List.forall_mem_cons.mpr ⟨pm_X4_fillLines_r2 _ (List.mem_of_getElem? (i := 1) rfl), List.forall_mem_cons.mpr ⟨pm_X4_fillLines_r2 _ (List.mem_of_getElem? (i := 2) rfl), fun _ h => absurd h List.not_mem_nil⟩⟩⟩⟩⟩⟩⟩⟩⟩⟩⟩⟩⟩⟩⟩, pw_X4_fillLines_X3⟩⟩) (by decide +kernel)
set_option maxRecDepth 20000 in
theorem gX4_fillLines_X3_lackOf : GoodIn wsX4_fillLines (wsV RX4 136 RX3 yX3_lackOf wsX3_lackOf) := goodIn_app (goodIn_of _ (by decide +kernel)) ggX4_fillLines_X3_lackOf
set_option maxRecDepth 20000 in
theorem ggX4_fillLines_X4_chanceOf : GoodIn wsX4_fillLines wsX4_chanceOf := goodIn_sub (List.forall_mem_cons.mpr ⟨pm_X4_fillLines_r2 _ (List.mem_of_getElem? (i := 7) rfl), List.forall_mem_append.mpr ⟨List.forall_mem_append.mpr ⟨List.forall_mem_cons.mpr ⟨pm_X4_fillLines_r2 _ (List.mem_of_getElem? (i := 8) rfl), List.forall_mem_cons.mpr ⟨pm_X4_fillLines_r2 _ (List.mem_of_getElem? (i := 9) rfl), List.forall_mem_cons.mpr ⟨pm_X4_fillLines_r1 _ (List.mem_of_getElem? (i := 0) rfl), List.forall_mem_cons.mpr ⟨pm_X4_fillLines_r2 _ (List.mem_of_getElem? (i := 10) rfl), fun _ h => absurd h List.not_mem_nil⟩⟩⟩⟩, pw_X4_fillLines_X4⟩, pw_X4_fillLines_X3⟩⟩) (by decide +kernel)
set_option maxRecDepth 20000 in
theorem gX4_fillLines_X4_chanceOf : GoodIn wsX4_fillLines (wsV RX4 66 RX4 yX4_chanceOf wsX4_chanceOf) := goodIn_app (goodIn_of _ (by decide +kernel)) ggX4_fillLines_X4_chanceOf
theorem dX4_fillLines_0 : decode cX4_fillLines 0 = .ok (.iconst 0, 1) := by decide +kernel
theorem dX4_fillLines_1 : decode cX4_fillLines 1 = .ok (.istore_n 2, 1) := by decide +kernel
theorem dX4_fillLines_2 : decode cX4_fillLines 2 = .ok (.iload_n 2, 1) := by decide +kernel
theorem dX4_fillLines_3 : decode cX4_fillLines 3 = .ok (.aload_n 0, 1) := by decide +kernel
theorem dX4_fillLines_4 : decode cX4_fillLines 4 = .ok (.getfield 46, 3) := by decide +kernel
theorem dX4_fillLines_7 : decode cX4_fillLines 7 = .ok (.getfield 88, 3) := by decide +kernel
theorem dX4_fillLines_10 : decode cX4_fillLines 10 = .ok (.if_icmp .ge 111, 3) := by decide +kernel
theorem dX4_fillLines_13 : decode cX4_fillLines 13 = .ok (.aload_n 0, 1) := by decide +kernel
theorem dX4_fillLines_14 : decode cX4_fillLines 14 = .ok (.getfield 22, 3) := by decide +kernel
theorem dX4_fillLines_17 : decode cX4_fillLines 17 = .ok (.getfield 132, 3) := by decide +kernel
theorem dX4_fillLines_20 : decode cX4_fillLines 20 = .ok (.iload_n 1, 1) := by decide +kernel
theorem dX4_fillLines_21 : decode cX4_fillLines 21 = .ok (.iload_n 2, 1) := by decide +kernel
theorem dX4_fillLines_22 : decode cX4_fillLines 22 = .ok (.iadd, 1) := by decide +kernel
theorem dX4_fillLines_23 : decode cX4_fillLines 23 = .ok (.aaload, 1) := by decide +kernel
theorem dX4_fillLines_24 : decode cX4_fillLines 24 = .ok (.astore_n 3, 1) := by decide +kernel
theorem dX4_fillLines_25 : decode cX4_fillLines 25 = .ok (.aload_n 3, 1) := by decide +kernel
theorem dX4_fillLines_26 : decode cX4_fillLines 26 = .ok (.iconst 0, 1) := by decide +kernel
theorem dX4_fillLines_27 : decode cX4_fillLines 27 = .ok (.aload_n 0, 1) := by decide +kernel
theorem dX4_fillLines_28 : decode cX4_fillLines 28 = .ok (.getfield 46, 3) := by decide +kernel
theorem dX4_fillLines_31 : decode cX4_fillLines 31 = .ok (.getfield 70, 3) := by decide +kernel
theorem dX4_fillLines_34 : decode cX4_fillLines 34 = .ok (.i2l, 1) := by decide +kernel
theorem dX4_fillLines_35 : decode cX4_fillLines 35 = .ok (.lneg, 1) := by decide +kernel
theorem dX4_fillLines_36 : decode cX4_fillLines 36 = .ok (.aload_n 0, 1) := by decide +kernel
theorem dX4_fillLines_37 : decode cX4_fillLines 37 = .ok (.getfield 46, 3) := by decide +kernel
theorem dX4_fillLines_40 : decode cX4_fillLines 40 = .ok (.aload_n 0, 1) := by decide +kernel
theorem dX4_fillLines_41 : decode cX4_fillLines 41 = .ok (.getfield 50, 3) := by decide +kernel
theorem dX4_fillLines_44 : decode cX4_fillLines 44 = .ok (.iload_n 2, 1) := by decide +kernel
theorem dX4_fillLines_45 : decode cX4_fillLines 45 = .ok (.invokevirtual 136, 3) := by decide +kernel
theorem dX4_fillLines_48 : decode cX4_fillLines 48 = .ok (.i2l, 1) := by decide +kernel
theorem dX4_fillLines_49 : decode cX4_fillLines 49 = .ok (.lmul, 1) := by decide +kernel
theorem dX4_fillLines_50 : decode cX4_fillLines 50 = .ok (.lastore, 1) := by decide +kernel
theorem dX4_fillLines_51 : decode cX4_fillLines 51 = .ok (.iconst 0, 1) := by decide +kernel
theorem dX4_fillLines_52 : decode cX4_fillLines 52 = .ok (.istore 4, 2) := by decide +kernel
theorem dX4_fillLines_54 : decode cX4_fillLines 54 = .ok (.iload 4, 2) := by decide +kernel
theorem dX4_fillLines_56 : decode cX4_fillLines 56 = .ok (.aload_n 0, 1) := by decide +kernel
theorem dX4_fillLines_57 : decode cX4_fillLines 57 = .ok (.getfield 36, 3) := by decide +kernel
theorem dX4_fillLines_60 : decode cX4_fillLines 60 = .ok (.if_icmp .ge 55, 3) := by decide +kernel
theorem dX4_fillLines_63 : decode cX4_fillLines 63 = .ok (.aload_n 0, 1) := by decide +kernel
theorem dX4_fillLines_64 : decode cX4_fillLines 64 = .ok (.getfield 26, 3) := by decide +kernel
theorem dX4_fillLines_67 : decode cX4_fillLines 67 = .ok (.iload 4, 2) := by decide +kernel
theorem dX4_fillLines_69 : decode cX4_fillLines 69 = .ok (.iaload, 1) := by decide +kernel
theorem dX4_fillLines_70 : decode cX4_fillLines 70 = .ok (.istore 5, 2) := by decide +kernel
theorem dX4_fillLines_72 : decode cX4_fillLines 72 = .ok (.aload_n 3, 1) := by decide +kernel
theorem dX4_fillLines_73 : decode cX4_fillLines 73 = .ok (.iload 4, 2) := by decide +kernel
theorem dX4_fillLines_75 : decode cX4_fillLines 75 = .ok (.iconst 1, 1) := by decide +kernel
theorem dX4_fillLines_76 : decode cX4_fillLines 76 = .ok (.iadd, 1) := by decide +kernel
theorem dX4_fillLines_77 : decode cX4_fillLines 77 = .ok (.iload_n 2, 1) := by decide +kernel
theorem dX4_fillLines_78 : decode cX4_fillLines 78 = .ok (.aload_n 0, 1) := by decide +kernel
theorem dX4_fillLines_79 : decode cX4_fillLines 79 = .ok (.getfield 50, 3) := by decide +kernel
theorem dX4_fillLines_82 : decode cX4_fillLines 82 = .ok (.if_icmp .ne 7, 3) := by decide +kernel
theorem dX4_fillLines_85 : decode cX4_fillLines 85 = .ok (.iconst 0, 1) := by decide +kernel
theorem dX4_fillLines_86 : decode cX4_fillLines 86 = .ok (.goto 10, 3) := by decide +kernel
theorem dX4_fillLines_89 : decode cX4_fillLines 89 = .ok (.aload_n 0, 1) := by decide +kernel
theorem dX4_fillLines_90 : decode cX4_fillLines 90 = .ok (.iload_n 2, 1) := by decide +kernel
theorem dX4_fillLines_91 : decode cX4_fillLines 91 = .ok (.iload 5, 2) := by decide +kernel
theorem dX4_fillLines_93 : decode cX4_fillLines 93 = .ok (.invokevirtual 66, 3) := by decide +kernel
theorem dX4_fillLines_96 : decode cX4_fillLines 96 = .ok (.aload_n 0, 1) := by decide +kernel
theorem dX4_fillLines_97 : decode cX4_fillLines 97 = .ok (.aload_n 0, 1) := by decide +kernel
theorem dX4_fillLines_98 : decode cX4_fillLines 98 = .ok (.getfield 50, 3) := by decide +kernel
theorem dX4_fillLines_101 : decode cX4_fillLines 101 = .ok (.iload 5, 2) := by decide +kernel
theorem dX4_fillLines_103 : decode cX4_fillLines 103 = .ok (.invokevirtual 66, 3) := by decide +kernel
theorem dX4_fillLines_106 : decode cX4_fillLines 106 = .ok (.isub, 1) := by decide +kernel
theorem dX4_fillLines_107 : decode cX4_fillLines 107 = .ok (.i2l, 1) := by decide +kernel
theorem dX4_fillLines_108 : decode cX4_fillLines 108 = .ok (.lastore, 1) := by decide +kernel
theorem dX4_fillLines_109 : decode cX4_fillLines 109 = .ok (.iinc 4 1, 3) := by decide +kernel
theorem dX4_fillLines_112 : decode cX4_fillLines 112 = .ok (.goto (-58), 3) := by decide +kernel
theorem dX4_fillLines_115 : decode cX4_fillLines 115 = .ok (.iinc 2 1, 3) := by decide +kernel
theorem dX4_fillLines_118 : decode cX4_fillLines 118 = .ok (.goto (-116), 3) := by decide +kernel
theorem dX4_fillLines_121 : decode cX4_fillLines 121 = .ok (.return_, 1) := by decide +kernel
theorem dX4_fillRooms_0 : decode cX4_fillRooms 0 = .ok (.iload_n 1, 1) := by decide +kernel
theorem dX4_fillRooms_1 : decode cX4_fillRooms 1 = .ok (.istore_n 2, 1) := by decide +kernel
theorem dX4_fillRooms_2 : decode cX4_fillRooms 2 = .ok (.iconst 0, 1) := by decide +kernel
theorem dX4_fillRooms_3 : decode cX4_fillRooms 3 = .ok (.istore_n 3, 1) := by decide +kernel
theorem dX4_fillRooms_4 : decode cX4_fillRooms 4 = .ok (.iload_n 3, 1) := by decide +kernel
theorem dX4_fillRooms_5 : decode cX4_fillRooms 5 = .ok (.aload_n 0, 1) := by decide +kernel
theorem dX4_fillRooms_6 : decode cX4_fillRooms 6 = .ok (.getfield 36, 3) := by decide +kernel
theorem dX4_fillRooms_9 : decode cX4_fillRooms 9 = .ok (.if_icmp .ge 60, 3) := by decide +kernel
theorem dX4_fillRooms_12 : decode cX4_fillRooms 12 = .ok (.iload_n 2, 1) := by decide +kernel
theorem dX4_fillRooms_13 : decode cX4_fillRooms 13 = .ok (.bipush 18, 2) := by decide +kernel
theorem dX4_fillRooms_15 : decode cX4_fillRooms 15 = .ok (.if_icmp .ge 54, 3) := by decide +kernel
theorem dX4_fillRooms_18 : decode cX4_fillRooms 18 = .ok (.aload_n 0, 1) := by decide +kernel
theorem dX4_fillRooms_19 : decode cX4_fillRooms 19 = .ok (.getfield 33, 3) := by decide +kernel
theorem dX4_fillRooms_22 : decode cX4_fillRooms 22 = .ok (.iload_n 3, 1) := by decide +kernel
theorem dX4_fillRooms_23 : decode cX4_fillRooms 23 = .ok (.iaload, 1) := by decide +kernel
theorem dX4_fillRooms_24 : decode cX4_fillRooms 24 = .ok (.iconst (-1), 1) := by decide +kernel
theorem dX4_fillRooms_25 : decode cX4_fillRooms 25 = .ok (.if_icmp .eq 38, 3) := by decide +kernel
theorem dX4_fillRooms_28 : decode cX4_fillRooms 28 = .ok (.aload_n 0, 1) := by decide +kernel
theorem dX4_fillRooms_29 : decode cX4_fillRooms 29 = .ok (.getfield 22, 3) := by decide +kernel
theorem dX4_fillRooms_32 : decode cX4_fillRooms 32 = .ok (.getfield 132, 3) := by decide +kernel
theorem dX4_fillRooms_35 : decode cX4_fillRooms 35 = .ok (.iload_n 2, 1) := by decide +kernel
theorem dX4_fillRooms_36 : decode cX4_fillRooms 36 = .ok (.aaload, 1) := by decide +kernel
theorem dX4_fillRooms_37 : decode cX4_fillRooms 37 = .ok (.iconst 0, 1) := by decide +kernel
theorem dX4_fillRooms_38 : decode cX4_fillRooms 38 = .ok (.aload_n 0, 1) := by decide +kernel
theorem dX4_fillRooms_39 : decode cX4_fillRooms 39 = .ok (.getfield 33, 3) := by decide +kernel
theorem dX4_fillRooms_42 : decode cX4_fillRooms 42 = .ok (.iload_n 3, 1) := by decide +kernel
theorem dX4_fillRooms_43 : decode cX4_fillRooms 43 = .ok (.iaload, 1) := by decide +kernel
theorem dX4_fillRooms_44 : decode cX4_fillRooms 44 = .ok (.i2l, 1) := by decide +kernel
theorem dX4_fillRooms_45 : decode cX4_fillRooms 45 = .ok (.lastore, 1) := by decide +kernel
theorem dX4_fillRooms_46 : decode cX4_fillRooms 46 = .ok (.aload_n 0, 1) := by decide +kernel
theorem dX4_fillRooms_47 : decode cX4_fillRooms 47 = .ok (.getfield 22, 3) := by decide +kernel
theorem dX4_fillRooms_50 : decode cX4_fillRooms 50 = .ok (.getfield 132, 3) := by decide +kernel
theorem dX4_fillRooms_53 : decode cX4_fillRooms 53 = .ok (.iload_n 2, 1) := by decide +kernel
theorem dX4_fillRooms_54 : decode cX4_fillRooms 54 = .ok (.aaload, 1) := by decide +kernel
theorem dX4_fillRooms_55 : decode cX4_fillRooms 55 = .ok (.iload_n 3, 1) := by decide +kernel
theorem dX4_fillRooms_56 : decode cX4_fillRooms 56 = .ok (.iconst 1, 1) := by decide +kernel
theorem dX4_fillRooms_57 : decode cX4_fillRooms 57 = .ok (.iadd, 1) := by decide +kernel
theorem dX4_fillRooms_58 : decode cX4_fillRooms 58 = .ok (.lconst 1, 1) := by decide +kernel
theorem dX4_fillRooms_59 : decode cX4_fillRooms 59 = .ok (.lastore, 1) := by decide +kernel
theorem dX4_fillRooms_60 : decode cX4_fillRooms 60 = .ok (.iinc 2 1, 3) := by decide +kernel
theorem dX4_fillRooms_63 : decode cX4_fillRooms 63 = .ok (.iinc 3 1, 3) := by decide +kernel
theorem dX4_fillRooms_66 : decode cX4_fillRooms 66 = .ok (.goto (-62), 3) := by decide +kernel
theorem dX4_fillRooms_69 : decode cX4_fillRooms 69 = .ok (.return_, 1) := by decide +kernel
set_option maxRecDepth 20000 in
theorem ggX8_start_J7_fill_d0a16 : GoodIn wsX8_start wsJ7_fill_d0a16 := goodIn_r _ [15] (by decide +kernel) (by decide +kernel)
set_option maxRecDepth 20000 in
theorem gX8_start_J7_fill_d0a16 : GoodIn wsX8_start (va_wsS RX8 43 yJ7_fill_d0a16 wsJ7_fill_d0a16) := goodIn_app (goodIn_of _ (by decide +kernel)) ggX8_start_J7_fill_d0a16
theorem dX8_start_0 : decode cX8_start 0 = .ok (.aload_n 0, 1) := by decide +kernel
theorem dX8_start_1 : decode cX8_start 1 = .ok (.iload_n 1, 1) := by decide +kernel
theorem dX8_start_2 : decode cX8_start 2 = .ok (.bipush 18, 2) := by decide +kernel
theorem dX8_start_4 : decode cX8_start 4 = .ok (.invokestatic 23, 3) := by decide +kernel
theorem dX8_start_7 : decode cX8_start 7 = .ok (.putfield 29, 3) := by decide +kernel
theorem dX8_start_10 : decode cX8_start 10 = .ok (.aload_n 0, 1) := by decide +kernel
theorem dX8_start_11 : decode cX8_start 11 = .ok (.iload_n 2, 1) := by decide +kernel
theorem dX8_start_12 : decode cX8_start 12 = .ok (.bipush 18, 2) := by decide +kernel
theorem dX8_start_14 : decode cX8_start 14 = .ok (.invokestatic 23, 3) := by decide +kernel
theorem dX8_start_17 : decode cX8_start 17 = .ok (.putfield 33, 3) := by decide +kernel
theorem dX8_start_20 : decode cX8_start 20 = .ok (.aload_n 0, 1) := by decide +kernel
theorem dX8_start_21 : decode cX8_start 21 = .ok (.iload_n 3, 1) := by decide +kernel
theorem dX8_start_22 : decode cX8_start 22 = .ok (.bipush 12, 2) := by decide +kernel
theorem dX8_start_24 : decode cX8_start 24 = .ok (.invokestatic 23, 3) := by decide +kernel
theorem dX8_start_27 : decode cX8_start 27 = .ok (.putfield 36, 3) := by decide +kernel
theorem dX8_start_30 : decode cX8_start 30 = .ok (.aload_n 0, 1) := by decide +kernel
theorem dX8_start_31 : decode cX8_start 31 = .ok (.lconst 1, 1) := by decide +kernel
theorem dX8_start_32 : decode cX8_start 32 = .ok (.putfield 39, 3) := by decide +kernel
theorem dX8_start_35 : decode cX8_start 35 = .ok (.iconst 0, 1) := by decide +kernel
theorem dX8_start_36 : decode cX8_start 36 = .ok (.istore 4, 2) := by decide +kernel
theorem dX8_start_38 : decode cX8_start 38 = .ok (.iload 4, 2) := by decide +kernel
theorem dX8_start_40 : decode cX8_start 40 = .ok (.aload_n 0, 1) := by decide +kernel
theorem dX8_start_41 : decode cX8_start 41 = .ok (.getfield 33, 3) := by decide +kernel
theorem dX8_start_44 : decode cX8_start 44 = .ok (.if_icmp .ge 34, 3) := by decide +kernel
theorem dX8_start_47 : decode cX8_start 47 = .ok (.aload_n 0, 1) := by decide +kernel
theorem dX8_start_48 : decode cX8_start 48 = .ok (.getfield 13, 3) := by decide +kernel
theorem dX8_start_51 : decode cX8_start 51 = .ok (.iload 4, 2) := by decide +kernel
theorem dX8_start_53 : decode cX8_start 53 = .ok (.aaload, 1) := by decide +kernel
theorem dX8_start_54 : decode cX8_start 54 = .ok (.lconst 0, 1) := by decide +kernel
theorem dX8_start_55 : decode cX8_start 55 = .ok (.invokestatic 43, 3) := by decide +kernel
theorem dX8_start_58 : decode cX8_start 58 = .ok (.aload_n 0, 1) := by decide +kernel
theorem dX8_start_59 : decode cX8_start 59 = .ok (.getfield 16, 3) := by decide +kernel
theorem dX8_start_62 : decode cX8_start 62 = .ok (.iload 4, 2) := by decide +kernel
theorem dX8_start_64 : decode cX8_start 64 = .ok (.aload_n 0, 1) := by decide +kernel
theorem dX8_start_65 : decode cX8_start 65 = .ok (.getfield 36, 3) := by decide +kernel
theorem dX8_start_68 : decode cX8_start 68 = .ok (.iload 4, 2) := by decide +kernel
theorem dX8_start_70 : decode cX8_start 70 = .ok (.iadd, 1) := by decide +kernel
theorem dX8_start_71 : decode cX8_start 71 = .ok (.iastore, 1) := by decide +kernel
theorem dX8_start_72 : decode cX8_start 72 = .ok (.iinc 4 1, 3) := by decide +kernel
theorem dX8_start_75 : decode cX8_start 75 = .ok (.goto (-37), 3) := by decide +kernel
theorem dX8_start_78 : decode cX8_start 78 = .ok (.iconst 1, 1) := by decide +kernel
theorem dX8_start_79 : decode cX8_start 79 = .ok (.istore 4, 2) := by decide +kernel
theorem dX8_start_81 : decode cX8_start 81 = .ok (.iload 4, 2) := by decide +kernel
theorem dX8_start_83 : decode cX8_start 83 = .ok (.aload_n 0, 1) := by decide +kernel
theorem dX8_start_84 : decode cX8_start 84 = .ok (.getfield 36, 3) := by decide +kernel
theorem dX8_start_87 : decode cX8_start 87 = .ok (.if_icmp .gt 20, 3) := by decide +kernel
theorem dX8_start_90 : decode cX8_start 90 = .ok (.aload_n 0, 1) := by decide +kernel
theorem dX8_start_91 : decode cX8_start 91 = .ok (.getfield 20, 3) := by decide +kernel
theorem dX8_start_94 : decode cX8_start 94 = .ok (.iload 4, 2) := by decide +kernel
theorem dX8_start_96 : decode cX8_start 96 = .ok (.iload 4, 2) := by decide +kernel
theorem dX8_start_98 : decode cX8_start 98 = .ok (.iconst 1, 1) := by decide +kernel
theorem dX8_start_99 : decode cX8_start 99 = .ok (.isub, 1) := by decide +kernel
theorem dX8_start_100 : decode cX8_start 100 = .ok (.iastore, 1) := by decide +kernel
theorem dX8_start_101 : decode cX8_start 101 = .ok (.iinc 4 1, 3) := by decide +kernel
theorem dX8_start_104 : decode cX8_start 104 = .ok (.goto (-23), 3) := by decide +kernel
theorem dX8_start_107 : decode cX8_start 107 = .ok (.return_, 1) := by decide +kernel
theorem kk_X8_start_0 : Cond.methodLink RX8 23 Lib.Math.min.name ∈ wsX8_start := by decide +kernel
theorem kk_X8_start_1 : Cond.static Lib.Math.min.name ∈ wsX8_start := by decide +kernel
theorem kk_X8_start_2 : Cond.initialized "java/lang/Math" ∈ wsX8_start := by decide +kernel
theorem kk_X8_start_3 : Cond.code Lib.Math.min.name Lib.Math.min.code 2 (some .int) ∈ wsX8_start := by decide +kernel
theorem kk_X8_start_4 : Cond.fieldLink RX8 29 "PaidBySigns$Table" "goals" "I" ∈ wsX8_start := by decide +kernel
theorem kk_X8_start_5 : Cond.fieldLink RX8 33 "PaidBySigns$Table" "lines" "I" ∈ wsX8_start := by decide +kernel
theorem kk_X8_start_6 : Cond.fieldLink RX8 36 "PaidBySigns$Table" "columns" "I" ∈ wsX8_start := by decide +kernel
theorem kk_X8_start_7 : Cond.fieldLink RX8 39 "PaidBySigns$Table" "base" "J" ∈ wsX8_start := by decide +kernel
theorem kk_X8_start_8 : Cond.fieldLink RX8 20 "PaidBySigns$Table" "columnName" "[I" ∈ wsX8_start := by decide +kernel
theorem kk_X8_start_9 : Cond.fieldLink RX8 13 "PaidBySigns$Table" "entry" "[[J" ∈ wsX8_start := by decide +kernel
theorem kk_X8_start_10 : Cond.fieldLink RX8 16 "PaidBySigns$Table" "lineName" "[I" ∈ wsX8_start := by decide +kernel
theorem kk_X4_fillGoals_0 : Cond.fieldLink RX4 36 "PaidBySigns$LeastCost" "columns" "I" ∈ wsX4_fillGoals := by decide +kernel
theorem kk_X4_fillGoals_1 : Cond.fieldLink RX4 26 "PaidBySigns$LeastCost" "columnSign" "[I" ∈ wsX4_fillGoals := by decide +kernel
theorem kk_X4_partsOf_0 : Cond.fieldLink RX4 30 "PaidBySigns$LeastCost" "columnRate" "[I" ∈ wsX4_partsOf := by decide +kernel
theorem kk_X4_fillGoals_2 : Cond.fieldLink RX4 22 "PaidBySigns$LeastCost" "table" "LPaidBySigns$Table;" ∈ wsX4_fillGoals := by decide +kernel
theorem kk_X4_fillGoals_3 : Cond.fieldLink RX4 132 "PaidBySigns$Table" "entry" "[[J" ∈ wsX4_fillGoals := by decide +kernel
theorem kk_X4_fillGoals_4 : Cond.fieldLink RX4 50 "PaidBySigns$LeastCost" "work" "I" ∈ wsX4_fillGoals := by decide +kernel
theorem kk_X4_fillLines_0 : Cond.fieldLink RX4 46 "PaidBySigns$LeastCost" "hire" "LPaidBySigns$Hire;" ∈ wsX4_fillLines := pm_X4_fillLines_r1 _ (List.mem_of_getElem? (i := 0) rfl)
theorem kk_X4_fillLines_1 : Cond.fieldLink RX4 88 "PaidBySigns$Hire" "works" "I" ∈ wsX4_fillLines := pm_X4_fillLines_r1 _ (List.mem_of_getElem? (i := 1) rfl)
theorem kk_X4_fillLines_2 : Cond.fieldLink RX4 22 "PaidBySigns$LeastCost" "table" "LPaidBySigns$Table;" ∈ wsX4_fillLines := pm_X4_fillLines_r1 _ (List.mem_of_getElem? (i := 2) rfl)
theorem kk_X4_fillLines_3 : Cond.fieldLink RX4 132 "PaidBySigns$Table" "entry" "[[J" ∈ wsX4_fillLines := pm_X4_fillLines_r1 _ (List.mem_of_getElem? (i := 3) rfl)
theorem kk_X4_fillLines_4 : Cond.fieldLink RX4 70 "PaidBySigns$Hire" "whole" "I" ∈ wsX4_fillLines := pm_X4_fillLines_r1 _ (List.mem_of_getElem? (i := 4) rfl)
theorem kk_X4_fillLines_5 : Cond.fieldLink RX4 50 "PaidBySigns$LeastCost" "work" "I" ∈ wsX4_fillLines := pm_X4_fillLines_r1 _ (List.mem_of_getElem? (i := 5) rfl)
theorem kk_X4_fillLines_6 : Cond.fieldLink RX4 36 "PaidBySigns$LeastCost" "columns" "I" ∈ wsX4_fillLines := pm_X4_fillLines_r1 _ (List.mem_of_getElem? (i := 6) rfl)
theorem kk_X4_fillLines_7 : Cond.fieldLink RX4 26 "PaidBySigns$LeastCost" "columnSign" "[I" ∈ wsX4_fillLines := pm_X4_fillLines_r1 _ (List.mem_of_getElem? (i := 7) rfl)
theorem kk_X4_fillRooms_0 : Cond.fieldLink RX4 36 "PaidBySigns$LeastCost" "columns" "I" ∈ wsX4_fillRooms := by decide +kernel
theorem kk_X4_fillRooms_1 : Cond.fieldLink RX4 33 "PaidBySigns$LeastCost" "columnRoom" "[I" ∈ wsX4_fillRooms := by decide +kernel
theorem kk_X4_fillRooms_2 : Cond.fieldLink RX4 22 "PaidBySigns$LeastCost" "table" "LPaidBySigns$Table;" ∈ wsX4_fillRooms := by decide +kernel
theorem kk_X4_fillRooms_3 : Cond.fieldLink RX4 132 "PaidBySigns$Table" "entry" "[[J" ∈ wsX4_fillRooms := by decide +kernel
theorem iw_X8_start_X8 : ∀ w ∈ wsX80, w ∈ wsX8_start := by decide +kernel
theorem iw_X4_fillGoals_X4 : ∀ w ∈ wsX40, w ∈ wsX4_fillGoals := by decide +kernel
theorem iw_X4_partsOf_X4 : ∀ w ∈ wsX40, w ∈ wsX4_partsOf := by decide +kernel
theorem iw_X4_fillGoals_X8 : ∀ w ∈ wsX80, w ∈ wsX4_fillGoals := by decide +kernel
theorem iw_X4_fillLines_X4 : ∀ w ∈ wsX40, w ∈ wsX4_fillLines := pw_X4_fillLines_X4
theorem iw_X4_fillLines_X3 : ∀ w ∈ wsX30, w ∈ wsX4_fillLines := pw_X4_fillLines_X3
theorem iw_X4_fillLines_X8 : ∀ w ∈ wsX80, w ∈ wsX4_fillLines := pw_X4_fillLines_X8
theorem iw_X4_fillRooms_X4 : ∀ w ∈ wsX40, w ∈ wsX4_fillRooms := by decide +kernel
theorem iw_X4_fillRooms_X8 : ∀ w ∈ wsX80, w ∈ wsX4_fillRooms := by decide +kernel
