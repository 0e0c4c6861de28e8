abbrev cX1_productOf : ByteArray := prog_3_method_7_code
def yX1_productOf : MethodName := ⟨RX1, "productOf", "(LPaidBySigns$Hire;II)J"⟩
def tyX2 : Nat → FieldType := fun k => match k with
  | 0 => .long
  | _ => .long
abbrev wsX20 : List Cond := u_ws RX2 TX2 2
theorem nmX2 : ∀ a, a < 2 → ∀ b, b < 2 → a ≠ b → (TX2 a).2.1 ≠ (TX2 b).2.1 := by decide +kernel
theorem tyX2_ok : ∀ k, k < 2 → parseFieldDescriptor (TX2 k).2.2.1 = some (tyX2 k) := by decide +kernel
abbrev cX2_forget : ByteArray := prog_4_method_2_code
def yX2_forget : MethodName := ⟨RX2, "forget", "()V"⟩
abbrev cX2_copy : ByteArray := prog_4_method_3_code
def yX2_copy : MethodName := ⟨RX2, "copy", "(LPaidBySigns$Fraction;)V"⟩
abbrev cX2_become : ByteArray := prog_4_method_4_code
def yX2_become : MethodName := ⟨RX2, "become", "(JJ)V"⟩
abbrev cX2_commonPart : ByteArray := prog_4_method_7_code
def yX2_commonPart : MethodName := ⟨RX2, "commonPart", "(JJ)J"⟩
def wsX1_productOf : List Cond := .code yX1_productOf cX1_productOf 7 (some .long) :: ([.fieldLink RX1 9 "PaidBySigns$Diary" "seen" "I", .fieldLink RX1 21 "PaidBySigns$Diary" "seenStep" "[I", .fieldLink RX1 40 "PaidBySigns$Hire" "chances" "[[I", .methodLink RX1 46 yX1_signKnown, .instanceMethod yX1_signKnown, .selects RX1 yX1_signKnown yX1_signKnown, .initialized RX1, .code yX1_signKnown cX1_signKnown 5 (some .int), .fieldLink RX1 25 "PaidBySigns$Diary" "seenSign" "[I", .fieldLink RX1 15 "PaidBySigns$Diary" "rights" "I", .fieldLink RX1 34 "PaidBySigns$Diary" "rightOf" "[I", .fieldLink RX1 31 "PaidBySigns$Diary" "rightStep" "[I", .fieldLink RX1 37 "PaidBySigns$Diary" "rightSign" "[I"] ++ wsX10 ++ wsX30)
def wsX2_forget : List Cond := .code yX2_forget cX2_forget 1 none :: ([.constantLong RX2 9 (-2000000000), .fieldLink RX2 11 "PaidBySigns$Fraction" "upper" "J", .fieldLink RX2 17 "PaidBySigns$Fraction" "lower" "J"] ++ wsX20)
def wsX2_copy : List Cond := .code yX2_copy cX2_copy 2 none :: ([.fieldLink RX2 11 "PaidBySigns$Fraction" "upper" "J", .fieldLink RX2 17 "PaidBySigns$Fraction" "lower" "J"] ++ wsX20)
def wsX2_commonPart : List Cond := .code yX2_commonPart cX2_commonPart 11 (some .long) :: ([])
def wsX2_become : List Cond := .code yX2_become cX2_become 7 none :: ([.methodLink RX2 20 Lib.MathLoose.abs_long.x, .static Lib.MathLoose.abs_long.x, .initialized "java/lang/Math", .code Lib.MathLoose.abs_long.x Lib.MathLoose.abs_long.code 2 (some .long), .fieldLink RX2 11 "PaidBySigns$Fraction" "upper" "J", .fieldLink RX2 17 "PaidBySigns$Fraction" "lower" "J", .methodLink RX2 26 yX2_commonPart, .static yX2_commonPart, .initialized RX2, .code yX2_commonPart cX2_commonPart 11 (some .long), .methodLink RX2 30 yX2_forget, .instanceMethod yX2_forget, .selects RX2 yX2_forget yX2_forget, .code yX2_forget cX2_forget 1 none, .constantLong RX2 9 (-2000000000)] ++ wsX20)
set_option maxRecDepth 20000 in
theorem ggX1_productOf_X1_signKnown : GoodIn wsX1_productOf wsX1_signKnown := goodIn_r _ [8, 9, 10, 11, 12, 13, 14, 15, 16, 17, 18, 19, 20, 21, 22] (by decide +kernel) (by decide +kernel)
set_option maxRecDepth 20000 in
theorem gX1_productOf_X1_signKnown : GoodIn wsX1_productOf (wsV RX1 46 RX1 yX1_signKnown wsX1_signKnown) := goodIn_app (goodIn_of _ (by decide +kernel)) ggX1_productOf_X1_signKnown
theorem dX1_productOf_0 : decode cX1_productOf 0 = .ok (.lconst 1, 1) := by decide +kernel
theorem dX1_productOf_1 : decode cX1_productOf 1 = .ok (.lstore 4, 2) := by decide +kernel
theorem dX1_productOf_3 : decode cX1_productOf 3 = .ok (.iconst 0, 1) := by decide +kernel
theorem dX1_productOf_4 : decode cX1_productOf 4 = .ok (.istore 6, 2) := by decide +kernel
theorem dX1_productOf_6 : decode cX1_productOf 6 = .ok (.iload 6, 2) := by decide +kernel
theorem dX1_productOf_8 : decode cX1_productOf 8 = .ok (.aload_n 0, 1) := by decide +kernel
theorem dX1_productOf_9 : decode cX1_productOf 9 = .ok (.getfield 9, 3) := by decide +kernel
theorem dX1_productOf_12 : decode cX1_productOf 12 = .ok (.if_icmp .ge 40, 3) := by decide +kernel
theorem dX1_productOf_15 : decode cX1_productOf 15 = .ok (.aload_n 0, 1) := by decide +kernel
theorem dX1_productOf_16 : decode cX1_productOf 16 = .ok (.getfield 21, 3) := by decide +kernel
theorem dX1_productOf_19 : decode cX1_productOf 19 = .ok (.iload 6, 2) := by decide +kernel
theorem dX1_productOf_21 : decode cX1_productOf 21 = .ok (.iaload, 1) := by decide +kernel
theorem dX1_productOf_22 : decode cX1_productOf 22 = .ok (.iload_n 3, 1) := by decide +kernel
theorem dX1_productOf_23 : decode cX1_productOf 23 = .ok (.if_icmp .gt 23, 3) := by decide +kernel
theorem dX1_productOf_26 : decode cX1_productOf 26 = .ok (.lload 4, 2) := by decide +kernel
theorem dX1_productOf_28 : decode cX1_productOf 28 = .ok (.aload_n 1, 1) := by decide +kernel
theorem dX1_productOf_29 : decode cX1_productOf 29 = .ok (.getfield 40, 3) := by decide +kernel
theorem dX1_productOf_32 : decode cX1_productOf 32 = .ok (.iload_n 2, 1) := by decide +kernel
theorem dX1_productOf_33 : decode cX1_productOf 33 = .ok (.aaload, 1) := by decide +kernel
theorem dX1_productOf_34 : decode cX1_productOf 34 = .ok (.aload_n 0, 1) := by decide +kernel
theorem dX1_productOf_35 : decode cX1_productOf 35 = .ok (.iload 6, 2) := by decide +kernel
theorem dX1_productOf_37 : decode cX1_productOf 37 = .ok (.iload_n 3, 1) := by decide +kernel
theorem dX1_productOf_38 : decode cX1_productOf 38 = .ok (.invokevirtual 46, 3) := by decide +kernel
theorem dX1_productOf_41 : decode cX1_productOf 41 = .ok (.iaload, 1) := by decide +kernel
theorem dX1_productOf_42 : decode cX1_productOf 42 = .ok (.i2l, 1) := by decide +kernel
theorem dX1_productOf_43 : decode cX1_productOf 43 = .ok (.lmul, 1) := by decide +kernel
theorem dX1_productOf_44 : decode cX1_productOf 44 = .ok (.lstore 4, 2) := by decide +kernel
theorem dX1_productOf_46 : decode cX1_productOf 46 = .ok (.iinc 6 1, 3) := by decide +kernel
theorem dX1_productOf_49 : decode cX1_productOf 49 = .ok (.goto (-43), 3) := by decide +kernel
theorem dX1_productOf_52 : decode cX1_productOf 52 = .ok (.lload 4, 2) := by decide +kernel
theorem dX1_productOf_54 : decode cX1_productOf 54 = .ok (.lreturn, 1) := by decide +kernel
theorem dX2_forget_0 : decode cX2_forget 0 = .ok (.aload_n 0, 1) := by decide +kernel
theorem dX2_forget_1 : decode cX2_forget 1 = .ok (.ldc2_w 9, 3) := by decide +kernel
theorem dX2_forget_4 : decode cX2_forget 4 = .ok (.putfield 11, 3) := by decide +kernel
theorem dX2_forget_7 : decode cX2_forget 7 = .ok (.aload_n 0, 1) := by decide +kernel
theorem dX2_forget_8 : decode cX2_forget 8 = .ok (.lconst 0, 1) := by decide +kernel
theorem dX2_forget_9 : decode cX2_forget 9 = .ok (.putfield 17, 3) := by decide +kernel
theorem dX2_forget_12 : decode cX2_forget 12 = .ok (.return_, 1) := by decide +kernel
theorem dX2_copy_0 : decode cX2_copy 0 = .ok (.aload_n 0, 1) := by decide +kernel
theorem dX2_copy_1 : decode cX2_copy 1 = .ok (.aload_n 1, 1) := by decide +kernel
theorem dX2_copy_2 : decode cX2_copy 2 = .ok (.getfield 11, 3) := by decide +kernel
theorem dX2_copy_5 : decode cX2_copy 5 = .ok (.putfield 11, 3) := by decide +kernel
theorem dX2_copy_8 : decode cX2_copy 8 = .ok (.aload_n 0, 1) := by decide +kernel
theorem dX2_copy_9 : decode cX2_copy 9 = .ok (.aload_n 1, 1) := by decide +kernel
theorem dX2_copy_10 : decode cX2_copy 10 = .ok (.getfield 17, 3) := by decide +kernel
theorem dX2_copy_13 : decode cX2_copy 13 = .ok (.putfield 17, 3) := by decide +kernel
theorem dX2_copy_16 : decode cX2_copy 16 = .ok (.return_, 1) := by decide +kernel
set_option maxRecDepth 20000 in
theorem ggX2_become_X2_commonPart : GoodIn wsX2_become wsX2_commonPart := goodIn_r _ [10] (by decide +kernel) (by decide +kernel)
set_option maxRecDepth 20000 in
theorem gX2_become_X2_commonPart : GoodIn wsX2_become (va_wsS RX2 26 yX2_commonPart wsX2_commonPart) := goodIn_app (goodIn_of _ (by decide +kernel)) ggX2_become_X2_commonPart
set_option maxRecDepth 20000 in
theorem ggX2_become_X2_forget : GoodIn wsX2_become wsX2_forget := goodIn_r _ [14, 15, 5, 6, 16, 17] (by decide +kernel) (by decide +kernel)
set_option maxRecDepth 20000 in
theorem gX2_become_X2_forget : GoodIn wsX2_become (wsV RX2 30 RX2 yX2_forget wsX2_forget) := goodIn_app (goodIn_of _ (by decide +kernel)) ggX2_become_X2_forget
theorem dX2_become_0 : decode cX2_become 0 = .ok (.lload_n 1, 1) := by decide +kernel
theorem dX2_become_1 : decode cX2_become 1 = .ok (.invokestatic 20, 3) := by decide +kernel
theorem dX2_become_4 : decode cX2_become 4 = .ok (.lload_n 3, 1) := by decide +kernel
theorem dX2_become_5 : decode cX2_become 5 = .ok (.invokestatic 26, 3) := by decide +kernel
theorem dX2_become_8 : decode cX2_become 8 = .ok (.lstore 5, 2) := by decide +kernel
theorem dX2_become_10 : decode cX2_become 10 = .ok (.lload_n 3, 1) := by decide +kernel
theorem dX2_become_11 : decode cX2_become 11 = .ok (.lconst 1, 1) := by decide +kernel
theorem dX2_become_12 : decode cX2_become 12 = .ok (.lcmp, 1) := by decide +kernel
theorem dX2_become_13 : decode cX2_become 13 = .ok (.ifCond .lt 10, 3) := by decide +kernel
theorem dX2_become_16 : decode cX2_become 16 = .ok (.lload 5, 2) := by decide +kernel
theorem dX2_become_18 : decode cX2_become 18 = .ok (.lconst 1, 1) := by decide +kernel
theorem dX2_become_19 : decode cX2_become 19 = .ok (.lcmp, 1) := by decide +kernel
theorem dX2_become_20 : decode cX2_become 20 = .ok (.ifCond .ge 8, 3) := by decide +kernel
theorem dX2_become_23 : decode cX2_become 23 = .ok (.aload_n 0, 1) := by decide +kernel
theorem dX2_become_24 : decode cX2_become 24 = .ok (.invokevirtual 30, 3) := by decide +kernel
theorem dX2_become_27 : decode cX2_become 27 = .ok (.return_, 1) := by decide +kernel
theorem dX2_become_28 : decode cX2_become 28 = .ok (.aload_n 0, 1) := by decide +kernel
theorem dX2_become_29 : decode cX2_become 29 = .ok (.lload_n 1, 1) := by decide +kernel
theorem dX2_become_30 : decode cX2_become 30 = .ok (.lload 5, 2) := by decide +kernel
theorem dX2_become_32 : decode cX2_become 32 = .ok (.ldiv, 1) := by decide +kernel
theorem dX2_become_33 : decode cX2_become 33 = .ok (.putfield 11, 3) := by decide +kernel
theorem dX2_become_36 : decode cX2_become 36 = .ok (.aload_n 0, 1) := by decide +kernel
theorem dX2_become_37 : decode cX2_become 37 = .ok (.lload_n 3, 1) := by decide +kernel
theorem dX2_become_38 : decode cX2_become 38 = .ok (.lload 5, 2) := by decide +kernel
theorem dX2_become_40 : decode cX2_become 40 = .ok (.ldiv, 1) := by decide +kernel
theorem dX2_become_41 : decode cX2_become 41 = .ok (.putfield 17, 3) := by decide +kernel
theorem dX2_become_44 : decode cX2_become 44 = .ok (.return_, 1) := by decide +kernel
theorem dX2_commonPart_0 : decode cX2_commonPart 0 = .ok (.lload_n 0, 1) := by decide +kernel
theorem dX2_commonPart_1 : decode cX2_commonPart 1 = .ok (.lstore 4, 2) := by decide +kernel
theorem dX2_commonPart_3 : decode cX2_commonPart 3 = .ok (.lload_n 2, 1) := by decide +kernel
theorem dX2_commonPart_4 : decode cX2_commonPart 4 = .ok (.lstore 6, 2) := by decide +kernel
theorem dX2_commonPart_6 : decode cX2_commonPart 6 = .ok (.iconst 0, 1) := by decide +kernel
theorem dX2_commonPart_7 : decode cX2_commonPart 7 = .ok (.istore 8, 2) := by decide +kernel
theorem dX2_commonPart_9 : decode cX2_commonPart 9 = .ok (.iload 8, 2) := by decide +kernel
theorem dX2_commonPart_11 : decode cX2_commonPart 11 = .ok (.sipush 200, 3) := by decide +kernel
theorem dX2_commonPart_14 : decode cX2_commonPart 14 = .ok (.if_icmp .ge 31, 3) := by decide +kernel
theorem dX2_commonPart_17 : decode cX2_commonPart 17 = .ok (.lload 6, 2) := by decide +kernel
theorem dX2_commonPart_19 : decode cX2_commonPart 19 = .ok (.lconst 0, 1) := by decide +kernel
theorem dX2_commonPart_20 : decode cX2_commonPart 20 = .ok (.lcmp, 1) := by decide +kernel
theorem dX2_commonPart_21 : decode cX2_commonPart 21 = .ok (.ifCond .eq 24, 3) := by decide +kernel
theorem dX2_commonPart_24 : decode cX2_commonPart 24 = .ok (.lload 4, 2) := by decide +kernel
theorem dX2_commonPart_26 : decode cX2_commonPart 26 = .ok (.lload 6, 2) := by decide +kernel
theorem dX2_commonPart_28 : decode cX2_commonPart 28 = .ok (.lrem, 1) := by decide +kernel
theorem dX2_commonPart_29 : decode cX2_commonPart 29 = .ok (.lstore 9, 2) := by decide +kernel
theorem dX2_commonPart_31 : decode cX2_commonPart 31 = .ok (.lload 6, 2) := by decide +kernel
theorem dX2_commonPart_33 : decode cX2_commonPart 33 = .ok (.lstore 4, 2) := by decide +kernel
theorem dX2_commonPart_35 : decode cX2_commonPart 35 = .ok (.lload 9, 2) := by decide +kernel
theorem dX2_commonPart_37 : decode cX2_commonPart 37 = .ok (.lstore 6, 2) := by decide +kernel
theorem dX2_commonPart_39 : decode cX2_commonPart 39 = .ok (.iinc 8 1, 3) := by decide +kernel
theorem dX2_commonPart_42 : decode cX2_commonPart 42 = .ok (.goto (-33), 3) := by decide +kernel
theorem dX2_commonPart_45 : decode cX2_commonPart 45 = .ok (.lload 4, 2) := by decide +kernel
theorem dX2_commonPart_47 : decode cX2_commonPart 47 = .ok (.lreturn, 1) := by decide +kernel
theorem kk_X1_productOf_0 : Cond.fieldLink RX1 9 "PaidBySigns$Diary" "seen" "I" ∈ wsX1_productOf := by decide +kernel
theorem kk_X1_productOf_1 : Cond.fieldLink RX1 21 "PaidBySigns$Diary" "seenStep" "[I" ∈ wsX1_productOf := by decide +kernel
theorem kk_X1_productOf_2 : Cond.fieldLink RX1 40 "PaidBySigns$Hire" "chances" "[[I" ∈ wsX1_productOf := by decide +kernel
theorem kk_X2_forget_0 : Cond.constantLong RX2 9 (-2000000000) ∈ wsX2_forget := by decide +kernel
theorem kk_X2_forget_1 : Cond.fieldLink RX2 11 "PaidBySigns$Fraction" "upper" "J" ∈ wsX2_forget := by decide +kernel
theorem kk_X2_forget_2 : Cond.fieldLink RX2 17 "PaidBySigns$Fraction" "lower" "J" ∈ wsX2_forget := by decide +kernel
theorem kk_X2_copy_0 : Cond.fieldLink RX2 11 "PaidBySigns$Fraction" "upper" "J" ∈ wsX2_copy := by decide +kernel
theorem kk_X2_copy_1 : Cond.fieldLink RX2 17 "PaidBySigns$Fraction" "lower" "J" ∈ wsX2_copy := by decide +kernel
theorem kk_X2_become_0 : Cond.methodLink RX2 20 Lib.MathLoose.abs_long.x ∈ wsX2_become := by decide +kernel
theorem kk_X2_become_1 : Cond.static Lib.MathLoose.abs_long.x ∈ wsX2_become := by decide +kernel
theorem kk_X2_become_2 : Cond.initialized "java/lang/Math" ∈ wsX2_become := by decide +kernel
theorem kk_X2_become_3 : Cond.code Lib.MathLoose.abs_long.x Lib.MathLoose.abs_long.code 2 (some .long) ∈ wsX2_become := by decide +kernel
theorem kk_X2_become_4 : Cond.fieldLink RX2 11 "PaidBySigns$Fraction" "upper" "J" ∈ wsX2_become := by decide +kernel
theorem kk_X2_become_5 : Cond.fieldLink RX2 17 "PaidBySigns$Fraction" "lower" "J" ∈ wsX2_become := by decide +kernel
theorem iw_X1_productOf_X1 : ∀ w ∈ wsX10, w ∈ wsX1_productOf := by decide +kernel
theorem iw_X1_productOf_X3 : ∀ w ∈ wsX30, w ∈ wsX1_productOf := by decide +kernel
theorem iw_X2_forget_X2 : ∀ w ∈ wsX20, w ∈ wsX2_forget := by decide +kernel
theorem iw_X2_copy_X2 : ∀ w ∈ wsX20, w ∈ wsX2_copy := by decide +kernel
theorem iw_X2_become_X2 : ∀ w ∈ wsX20, w ∈ wsX2_become := by decide +kernel
