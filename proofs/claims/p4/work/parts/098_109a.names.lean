abbrev cX2_copy : ByteArray := prog_4_method_3_code
def yX2_copy : MethodName := ⟨RX2, "copy", "(LPaidBySigns$Fraction;)V"⟩
abbrev cX2_become : ByteArray := prog_4_method_4_code
def yX2_become : MethodName := ⟨RX2, "become", "(JJ)V"⟩
abbrev cX2_add : ByteArray := prog_4_method_5_code
def yX2_add : MethodName := ⟨RX2, "add", "(JJ)V"⟩
abbrev cX2_isBelow : ByteArray := prog_4_method_6_code
def yX2_isBelow : MethodName := ⟨RX2, "isBelow", "(LPaidBySigns$Fraction;LPaidBySigns$Fraction;)Z"⟩
abbrev cX2_commonPart : ByteArray := prog_4_method_7_code
def yX2_commonPart : MethodName := ⟨RX2, "commonPart", "(JJ)J"⟩
def wsX2_copy : List Cond := .code yX2_copy cX2_copy 2 none :: ([.fieldLink RX2 11 "PaidBySigns$Fraction" "upper" "J", .fieldLink RX2 17 "PaidBySigns$Fraction" "lower" "J"] ++ wsX20)
def wsX2_commonPart : List Cond := .code yX2_commonPart cX2_commonPart 11 (some .long) :: ([])
def wsX2_become : List Cond := .code yX2_become cX2_become 7 none :: ([.methodLink RX2 20 Lib.MathLoose.abs_long.x, .static Lib.MathLoose.abs_long.x, .initialized "java/lang/Math", .code Lib.MathLoose.abs_long.x Lib.MathLoose.abs_long.code 2 (some .long), .fieldLink RX2 11 "PaidBySigns$Fraction" "upper" "J", .fieldLink RX2 17 "PaidBySigns$Fraction" "lower" "J", .methodLink RX2 26 yX2_commonPart, .static yX2_commonPart, .initialized RX2, .code yX2_commonPart cX2_commonPart 11 (some .long), .methodLink RX2 30 yX2_forget, .instanceMethod yX2_forget, .selects RX2 yX2_forget yX2_forget, .code yX2_forget cX2_forget 1 none, .constantLong RX2 9 (-2000000000)] ++ wsX20)
def wsX2_add : List Cond := .code yX2_add cX2_add 5 none :: ([.fieldLink RX2 11 "PaidBySigns$Fraction" "upper" "J", .fieldLink RX2 17 "PaidBySigns$Fraction" "lower" "J", .methodLink RX2 33 yX2_become, .instanceMethod yX2_become, .selects RX2 yX2_become yX2_become, .initialized RX2, .code yX2_become cX2_become 7 none, .methodLink RX2 20 Lib.MathLoose.abs_long.x, .static Lib.MathLoose.abs_long.x, .initialized "java/lang/Math", .code Lib.MathLoose.abs_long.x Lib.MathLoose.abs_long.code 2 (some .long), .methodLink RX2 26 yX2_commonPart, .static yX2_commonPart, .code yX2_commonPart cX2_commonPart 11 (some .long), .methodLink RX2 30 yX2_forget, .instanceMethod yX2_forget, .selects RX2 yX2_forget yX2_forget, .code yX2_forget cX2_forget 1 none, .constantLong RX2 9 (-2000000000)] ++ wsX20)
def wsX2_isBelow : List Cond := .code yX2_isBelow cX2_isBelow 2 (some .boolean) :: ([.fieldLink RX2 11 "PaidBySigns$Fraction" "upper" "J", .fieldLink RX2 17 "PaidBySigns$Fraction" "lower" "J"] ++ wsX20)
theorem dX2_copy_0 : decode cX2_copy 0 = .ok (.aload_n 0, 1) := by decide +kernel
theorem dX2_copy_1 : decode cX2_copy 1 = .ok (.aload_n 1, 1) := by decide +kernel
theorem dX2_copy_2 : decode cX2_copy 2 = .ok (.getfield 11, 3) := by decide +kernel
theorem dX2_copy_5 : decode cX2_copy 5 = .ok (.putfield 11, 3) := by decide +kernel
theorem dX2_copy_8 : decode cX2_copy 8 = .ok (.aload_n 0, 1) := by decide +kernel
theorem dX2_copy_9 : decode cX2_copy 9 = .ok (.aload_n 1, 1) := by decide +kernel
theorem dX2_copy_10 : decode cX2_copy 10 = .ok (.getfield 17, 3) := by decide +kernel
theorem dX2_copy_13 : decode cX2_copy 13 = .ok (.putfield 17, 3) := by decide +kernel
theorem dX2_copy_16 : decode cX2_copy 16 = .ok (.return_, 1) := by decide +kernel
set_option maxRecDepth 20000 in
theorem ggX2_become_X2_commonPart : GoodIn wsX2_become wsX2_commonPart := goodIn_r _ [10] (by decide +kernel) (by decide +kernel)
set_option maxRecDepth 20000 in
theorem gX2_become_X2_commonPart : GoodIn wsX2_become (va_wsS RX2 26 yX2_commonPart wsX2_commonPart) := goodIn_app (goodIn_of _ (by decide +kernel)) ggX2_become_X2_commonPart
set_option maxRecDepth 20000 in
theorem ggX2_become_X2_forget : GoodIn wsX2_become wsX2_forget := goodIn_r _ [14, 15, 5, 6, 16, 17] (by decide +kernel) (by decide +kernel)
set_option maxRecDepth 20000 in
theorem gX2_become_X2_forget : GoodIn wsX2_become (wsV RX2 30 RX2 yX2_forget wsX2_forget) := goodIn_app (goodIn_of _ (by decide +kernel)) ggX2_become_X2_forget
theorem dX2_become_0 : decode cX2_become 0 = .ok (.lload_n 1, 1) := by decide +kernel
theorem dX2_become_1 : decode cX2_become 1 = .ok (.invokestatic 20, 3) := by decide +kernel
theorem dX2_become_4 : decode cX2_become 4 = .ok (.lload_n 3, 1) := by decide +kernel
theorem dX2_become_5 : decode cX2_become 5 = .ok (.invokestatic 26, 3) := by decide +kernel
theorem dX2_become_8 : decode cX2_become 8 = .ok (.lstore 5, 2) := by decide +kernel
theorem dX2_become_10 : decode cX2_become 10 = .ok (.lload_n 3, 1) := by decide +kernel
theorem dX2_become_11 : decode cX2_become 11 = .ok (.lconst 1, 1) := by decide +kernel
theorem dX2_become_12 : decode cX2_become 12 = .ok (.lcmp, 1) := by decide +kernel
theorem dX2_become_13 : decode cX2_become 13 = .ok (.ifCond .lt 10, 3) := by decide +kernel
theorem dX2_become_16 : decode cX2_become 16 = .ok (.lload 5, 2) := by decide +kernel
theorem dX2_become_18 : decode cX2_become 18 = .ok (.lconst 1, 1) := by decide +kernel
theorem dX2_become_19 : decode cX2_become 19 = .ok (.lcmp, 1) := by decide +kernel
theorem dX2_become_20 : decode cX2_become 20 = .ok (.ifCond .ge 8, 3) := by decide +kernel
theorem dX2_become_23 : decode cX2_become 23 = .ok (.aload_n 0, 1) := by decide +kernel
theorem dX2_become_24 : decode cX2_become 24 = .ok (.invokevirtual 30, 3) := by decide +kernel
theorem dX2_become_27 : decode cX2_become 27 = .ok (.return_, 1) := by decide +kernel
theorem dX2_become_28 : decode cX2_become 28 = .ok (.aload_n 0, 1) := by decide +kernel
theorem dX2_become_29 : decode cX2_become 29 = .ok (.lload_n 1, 1) := by decide +kernel
theorem dX2_become_30 : decode cX2_become 30 = .ok (.lload 5, 2) := by decide +kernel
theorem dX2_become_32 : decode cX2_become 32 = .ok (.ldiv, 1) := by decide +kernel
theorem dX2_become_33 : decode cX2_become 33 = .ok (.putfield 11, 3) := by decide +kernel
theorem dX2_become_36 : decode cX2_become 36 = .ok (.aload_n 0, 1) := by decide +kernel
theorem dX2_become_37 : decode cX2_become 37 = .ok (.lload_n 3, 1) := by decide +kernel
theorem dX2_become_38 : decode cX2_become 38 = .ok (.lload 5, 2) := by decide +kernel
theorem dX2_become_40 : decode cX2_become 40 = .ok (.ldiv, 1) := by decide +kernel
theorem dX2_become_41 : decode cX2_become 41 = .ok (.putfield 17, 3) := by decide +kernel
theorem dX2_become_44 : decode cX2_become 44 = .ok (.return_, 1) := by decide +kernel
set_option maxRecDepth 20000 in
theorem ggX2_add_X2_become : GoodIn wsX2_add wsX2_become := goodIn_r _ [7, 8, 9, 10, 11, 1, 2, 12, 13, 6, 14, 15, 16, 17, 18, 19, 20, 21] (by decide +kernel) (by decide +kernel)
set_option maxRecDepth 20000 in
theorem gX2_add_X2_become : GoodIn wsX2_add (wsV RX2 33 RX2 yX2_become wsX2_become) := goodIn_app (goodIn_of _ (by decide +kernel)) ggX2_add_X2_become
theorem dX2_add_0 : decode cX2_add 0 = .ok (.aload_n 0, 1) := by decide +kernel
theorem dX2_add_1 : decode cX2_add 1 = .ok (.aload_n 0, 1) := by decide +kernel
theorem dX2_add_2 : decode cX2_add 2 = .ok (.getfield 11, 3) := by decide +kernel
theorem dX2_add_5 : decode cX2_add 5 = .ok (.lload_n 3, 1) := by decide +kernel
theorem dX2_add_6 : decode cX2_add 6 = .ok (.lmul, 1) := by decide +kernel
theorem dX2_add_7 : decode cX2_add 7 = .ok (.lload_n 1, 1) := by decide +kernel
theorem dX2_add_8 : decode cX2_add 8 = .ok (.aload_n 0, 1) := by decide +kernel
theorem dX2_add_9 : decode cX2_add 9 = .ok (.getfield 17, 3) := by decide +kernel
theorem dX2_add_12 : decode cX2_add 12 = .ok (.lmul, 1) := by decide +kernel
theorem dX2_add_13 : decode cX2_add 13 = .ok (.ladd, 1) := by decide +kernel
theorem dX2_add_14 : decode cX2_add 14 = .ok (.aload_n 0, 1) := by decide +kernel
theorem dX2_add_15 : decode cX2_add 15 = .ok (.getfield 17, 3) := by decide +kernel
theorem dX2_add_18 : decode cX2_add 18 = .ok (.lload_n 3, 1) := by decide +kernel
theorem dX2_add_19 : decode cX2_add 19 = .ok (.lmul, 1) := by decide +kernel
theorem dX2_add_20 : decode cX2_add 20 = .ok (.invokevirtual 33, 3) := by decide +kernel
theorem dX2_add_23 : decode cX2_add 23 = .ok (.return_, 1) := by decide +kernel
theorem dX2_isBelow_0 : decode cX2_isBelow 0 = .ok (.aload_n 0, 1) := by decide +kernel
theorem dX2_isBelow_1 : decode cX2_isBelow 1 = .ok (.getfield 11, 3) := by decide +kernel
theorem dX2_isBelow_4 : decode cX2_isBelow 4 = .ok (.aload_n 1, 1) := by decide +kernel
theorem dX2_isBelow_5 : decode cX2_isBelow 5 = .ok (.getfield 17, 3) := by decide +kernel
theorem dX2_isBelow_8 : decode cX2_isBelow 8 = .ok (.lmul, 1) := by decide +kernel
theorem dX2_isBelow_9 : decode cX2_isBelow 9 = .ok (.aload_n 1, 1) := by decide +kernel
theorem dX2_isBelow_10 : decode cX2_isBelow 10 = .ok (.getfield 11, 3) := by decide +kernel
theorem dX2_isBelow_13 : decode cX2_isBelow 13 = .ok (.aload_n 0, 1) := by decide +kernel
theorem dX2_isBelow_14 : decode cX2_isBelow 14 = .ok (.getfield 17, 3) := by decide +kernel
theorem dX2_isBelow_17 : decode cX2_isBelow 17 = .ok (.lmul, 1) := by decide +kernel
theorem dX2_isBelow_18 : decode cX2_isBelow 18 = .ok (.lcmp, 1) := by decide +kernel
theorem dX2_isBelow_19 : decode cX2_isBelow 19 = .ok (.ifCond .ge 7, 3) := by decide +kernel
theorem dX2_isBelow_22 : decode cX2_isBelow 22 = .ok (.iconst 1, 1) := by decide +kernel
theorem dX2_isBelow_23 : decode cX2_isBelow 23 = .ok (.goto 4, 3) := by decide +kernel
theorem dX2_isBelow_26 : decode cX2_isBelow 26 = .ok (.iconst 0, 1) := by decide +kernel
theorem dX2_isBelow_27 : decode cX2_isBelow 27 = .ok (.ireturn, 1) := by decide +kernel
theorem dX2_commonPart_0 : decode cX2_commonPart 0 = .ok (.lload_n 0, 1) := by decide +kernel
theorem dX2_commonPart_1 : decode cX2_commonPart 1 = .ok (.lstore 4, 2) := by decide +kernel
theorem dX2_commonPart_3 : decode cX2_commonPart 3 = .ok (.lload_n 2, 1) := by decide +kernel
theorem dX2_commonPart_4 : decode cX2_commonPart 4 = .ok (.lstore 6, 2) := by decide +kernel
theorem dX2_commonPart_6 : decode cX2_commonPart 6 = .ok (.iconst 0, 1) := by decide +kernel
theorem dX2_commonPart_7 : decode cX2_commonPart 7 = .ok (.istore 8, 2) := by decide +kernel
theorem dX2_commonPart_9 : decode cX2_commonPart 9 = .ok (.iload 8, 2) := by decide +kernel
theorem dX2_commonPart_11 : decode cX2_commonPart 11 = .ok (.sipush 200, 3) := by decide +kernel
theorem dX2_commonPart_14 : decode cX2_commonPart 14 = .ok (.if_icmp .ge 31, 3) := by decide +kernel
theorem dX2_commonPart_17 : decode cX2_commonPart 17 = .ok (.lload 6, 2) := by decide +kernel
theorem dX2_commonPart_19 : decode cX2_commonPart 19 = .ok (.lconst 0, 1) := by decide +kernel
theorem dX2_commonPart_20 : decode cX2_commonPart 20 = .ok (.lcmp, 1) := by decide +kernel
theorem dX2_commonPart_21 : decode cX2_commonPart 21 = .ok (.ifCond .eq 24, 3) := by decide +kernel
theorem dX2_commonPart_24 : decode cX2_commonPart 24 = .ok (.lload 4, 2) := by decide +kernel
theorem dX2_commonPart_26 : decode cX2_commonPart 26 = .ok (.lload 6, 2) := by decide +kernel
theorem dX2_commonPart_28 : decode cX2_commonPart 28 = .ok (.lrem, 1) := by decide +kernel
theorem dX2_commonPart_29 : decode cX2_commonPart 29 = .ok (.lstore 9, 2) := by decide +kernel
theorem dX2_commonPart_31 : decode cX2_commonPart 31 = .ok (.lload 6, 2) := by decide +kernel
theorem dX2_commonPart_33 : decode cX2_commonPart 33 = .ok (.lstore 4, 2) := by decide +kernel
theorem dX2_commonPart_35 : decode cX2_commonPart 35 = .ok (.lload 9, 2) := by decide +kernel
theorem dX2_commonPart_37 : decode cX2_commonPart 37 = .ok (.lstore 6, 2) := by decide +kernel
theorem dX2_commonPart_39 : decode cX2_commonPart 39 = .ok (.iinc 8 1, 3) := by decide +kernel
theorem dX2_commonPart_42 : decode cX2_commonPart 42 = .ok (.goto (-33), 3) := by decide +kernel
theorem dX2_commonPart_45 : decode cX2_commonPart 45 = .ok (.lload 4, 2) := by decide +kernel
theorem dX2_commonPart_47 : decode cX2_commonPart 47 = .ok (.lreturn, 1) := by decide +kernel
theorem kk_X2_copy_0 : Cond.fieldLink RX2 11 "PaidBySigns$Fraction" "upper" "J" ∈ wsX2_copy := by decide +kernel
theorem kk_X2_copy_1 : Cond.fieldLink RX2 17 "PaidBySigns$Fraction" "lower" "J" ∈ wsX2_copy := by decide +kernel
theorem kk_X2_become_0 : Cond.methodLink RX2 20 Lib.MathLoose.abs_long.x ∈ wsX2_become := by decide +kernel
theorem kk_X2_become_1 : Cond.static Lib.MathLoose.abs_long.x ∈ wsX2_become := by decide +kernel
theorem kk_X2_become_2 : Cond.initialized "java/lang/Math" ∈ wsX2_become := by decide +kernel
theorem kk_X2_become_3 : Cond.code Lib.MathLoose.abs_long.x Lib.MathLoose.abs_long.code 2 (some .long) ∈ wsX2_become := by decide +kernel
theorem kk_X2_become_4 : Cond.fieldLink RX2 11 "PaidBySigns$Fraction" "upper" "J" ∈ wsX2_become := by decide +kernel
theorem kk_X2_become_5 : Cond.fieldLink RX2 17 "PaidBySigns$Fraction" "lower" "J" ∈ wsX2_become := by decide +kernel
theorem kk_X2_add_0 : Cond.fieldLink RX2 11 "PaidBySigns$Fraction" "upper" "J" ∈ wsX2_add := by decide +kernel
theorem kk_X2_add_1 : Cond.fieldLink RX2 17 "PaidBySigns$Fraction" "lower" "J" ∈ wsX2_add := by decide +kernel
theorem kk_X2_isBelow_0 : Cond.fieldLink RX2 11 "PaidBySigns$Fraction" "upper" "J" ∈ wsX2_isBelow := by decide +kernel
theorem kk_X2_isBelow_1 : Cond.fieldLink RX2 17 "PaidBySigns$Fraction" "lower" "J" ∈ wsX2_isBelow := by decide +kernel
theorem iw_X2_copy_X2 : ∀ w ∈ wsX20, w ∈ wsX2_copy := by decide +kernel
theorem iw_X2_become_X2 : ∀ w ∈ wsX20, w ∈ wsX2_become := by decide +kernel
theorem iw_X2_add_X2 : ∀ w ∈ wsX20, w ∈ wsX2_add := by decide +kernel
theorem iw_X2_isBelow_X2 : ∀ w ∈ wsX20, w ∈ wsX2_isBelow := by decide +kernel
