abbrev cX1_write : ByteArray := prog_3_method_5_code
def yX1_write : MethodName := ⟨RX1, "write", "(II)I"⟩
abbrev cX1_correct : ByteArray := prog_3_method_6_code
def yX1_correct : MethodName := ⟨RX1, "correct", "(III)I"⟩
abbrev cX1_productOf : ByteArray := prog_3_method_7_code
def yX1_productOf : MethodName := ⟨RX1, "productOf", "(LPaidBySigns$Hire;II)J"⟩
abbrev cX1_signKnown : ByteArray := prog_3_method_8_code
def yX1_signKnown : MethodName := ⟨RX1, "signKnown", "(II)I"⟩
def tyX2 : Nat → FieldType := fun k => match k with
  | 0 => .long
  | _ => .long
abbrev wsX20 : List Cond := u_ws RX2 TX2 2
theorem nmX2 : ∀ a, a < 2 → ∀ b, b < 2 → a ≠ b → (TX2 a).2.1 ≠ (TX2 b).2.1 := by decide +kernel
theorem tyX2_ok : ∀ k, k < 2 → parseFieldDescriptor (TX2 k).2.2.1 = some (tyX2 k) := by decide +kernel
abbrev cX2_forget : ByteArray := prog_4_method_2_code
def yX2_forget : MethodName := ⟨RX2, "forget", "()V"⟩
def wsX1_write : List Cond := .code yX1_write cX1_write 3 (some .int) :: ([.fieldLink RX1 9 "PaidBySigns$Diary" "seen" "I", .fieldLink RX1 18 "PaidBySigns$Diary" "latestStep" "I", .fieldLink RX1 21 "PaidBySigns$Diary" "seenStep" "[I", .fieldLink RX1 25 "PaidBySigns$Diary" "seenSign" "[I", .fieldLink RX1 28 "PaidBySigns$Diary" "timesRight" "[I"] ++ wsX10)
def wsX1_correct : List Cond := .code yX1_correct cX1_correct 4 (some .int) :: ([.fieldLink RX1 15 "PaidBySigns$Diary" "rights" "I", .fieldLink RX1 18 "PaidBySigns$Diary" "latestStep" "I", .fieldLink RX1 31 "PaidBySigns$Diary" "rightStep" "[I", .fieldLink RX1 34 "PaidBySigns$Diary" "rightOf" "[I", .fieldLink RX1 37 "PaidBySigns$Diary" "rightSign" "[I", .fieldLink RX1 28 "PaidBySigns$Diary" "timesRight" "[I"] ++ wsX10)
def wsX1_signKnown : List Cond := .code yX1_signKnown cX1_signKnown 5 (some .int) :: ([.fieldLink RX1 25 "PaidBySigns$Diary" "seenSign" "[I", .fieldLink RX1 15 "PaidBySigns$Diary" "rights" "I", .fieldLink RX1 34 "PaidBySigns$Diary" "rightOf" "[I", .fieldLink RX1 31 "PaidBySigns$Diary" "rightStep" "[I", .fieldLink RX1 37 "PaidBySigns$Diary" "rightSign" "[I"] ++ wsX10)
def wsX1_productOf : List Cond := .code yX1_productOf cX1_productOf 7 (some .long) :: ([.fieldLink RX1 9 "PaidBySigns$Diary" "seen" "I", .fieldLink RX1 21 "PaidBySigns$Diary" "seenStep" "[I", .fieldLink RX1 40 "PaidBySigns$Hire" "chances" "[[I", .methodLink RX1 46 yX1_signKnown, .instanceMethod yX1_signKnown, .selects RX1 yX1_signKnown yX1_signKnown, .initialized RX1, .code yX1_signKnown cX1_signKnown 5 (some .int), .fieldLink RX1 25 "PaidBySigns$Diary" "seenSign" "[I", .fieldLink RX1 15 "PaidBySigns$Diary" "rights" "I", .fieldLink RX1 34 "PaidBySigns$Diary" "rightOf" "[I", .fieldLink RX1 31 "PaidBySigns$Diary" "rightStep" "[I", .fieldLink RX1 37 "PaidBySigns$Diary" "rightSign" "[I"] ++ wsX10 ++ wsX30)
def wsX2_forget : List Cond := .code yX2_forget cX2_forget 1 none :: ([.constantLong RX2 9 (-2000000000), .fieldLink RX2 11 "PaidBySigns$Fraction" "upper" "J", .fieldLink RX2 17 "PaidBySigns$Fraction" "lower" "J"] ++ wsX20)
theorem dX1_write_0 : decode cX1_write 0 = .ok (.aload_n 0, 1) := by decide +kernel
theorem dX1_write_1 : decode cX1_write 1 = .ok (.getfield 9, 3) := by decide +kernel
theorem dX1_write_4 : decode cX1_write 4 = .ok (.bipush 8, 2) := by decide +kernel
theorem dX1_write_6 : decode cX1_write 6 = .ok (.if_icmp .lt 6, 3) := by decide +kernel
theorem dX1_write_9 : decode cX1_write 9 = .ok (.bipush (-3), 2) := by decide +kernel
theorem dX1_write_11 : decode cX1_write 11 = .ok (.ireturn, 1) := by decide +kernel
theorem dX1_write_12 : decode cX1_write 12 = .ok (.aload_n 0, 1) := by decide +kernel
theorem dX1_write_13 : decode cX1_write 13 = .ok (.iload_n 1, 1) := by decide +kernel
theorem dX1_write_14 : decode cX1_write 14 = .ok (.putfield 18, 3) := by decide +kernel
theorem dX1_write_17 : decode cX1_write 17 = .ok (.aload_n 0, 1) := by decide +kernel
theorem dX1_write_18 : decode cX1_write 18 = .ok (.getfield 21, 3) := by decide +kernel
theorem dX1_write_21 : decode cX1_write 21 = .ok (.aload_n 0, 1) := by decide +kernel
theorem dX1_write_22 : decode cX1_write 22 = .ok (.getfield 9, 3) := by decide +kernel
theorem dX1_write_25 : decode cX1_write 25 = .ok (.iload_n 1, 1) := by decide +kernel
theorem dX1_write_26 : decode cX1_write 26 = .ok (.iastore, 1) := by decide +kernel
theorem dX1_write_27 : decode cX1_write 27 = .ok (.aload_n 0, 1) := by decide +kernel
theorem dX1_write_28 : decode cX1_write 28 = .ok (.getfield 25, 3) := by decide +kernel
theorem dX1_write_31 : decode cX1_write 31 = .ok (.aload_n 0, 1) := by decide +kernel
theorem dX1_write_32 : decode cX1_write 32 = .ok (.getfield 9, 3) := by decide +kernel
theorem dX1_write_35 : decode cX1_write 35 = .ok (.iload_n 2, 1) := by decide +kernel
theorem dX1_write_36 : decode cX1_write 36 = .ok (.iastore, 1) := by decide +kernel
theorem dX1_write_37 : decode cX1_write 37 = .ok (.aload_n 0, 1) := by decide +kernel
theorem dX1_write_38 : decode cX1_write 38 = .ok (.getfield 28, 3) := by decide +kernel
theorem dX1_write_41 : decode cX1_write 41 = .ok (.aload_n 0, 1) := by decide +kernel
theorem dX1_write_42 : decode cX1_write 42 = .ok (.getfield 9, 3) := by decide +kernel
theorem dX1_write_45 : decode cX1_write 45 = .ok (.iconst 0, 1) := by decide +kernel
theorem dX1_write_46 : decode cX1_write 46 = .ok (.iastore, 1) := by decide +kernel
theorem dX1_write_47 : decode cX1_write 47 = .ok (.aload_n 0, 1) := by decide +kernel
theorem dX1_write_48 : decode cX1_write 48 = .ok (.dup, 1) := by decide +kernel
theorem dX1_write_49 : decode cX1_write 49 = .ok (.getfield 9, 3) := by decide +kernel
theorem dX1_write_52 : decode cX1_write 52 = .ok (.iconst 1, 1) := by decide +kernel
theorem dX1_write_53 : decode cX1_write 53 = .ok (.iadd, 1) := by decide +kernel
theorem dX1_write_54 : decode cX1_write 54 = .ok (.putfield 9, 3) := by decide +kernel
theorem dX1_write_57 : decode cX1_write 57 = .ok (.aload_n 0, 1) := by decide +kernel
theorem dX1_write_58 : decode cX1_write 58 = .ok (.getfield 9, 3) := by decide +kernel
theorem dX1_write_61 : decode cX1_write 61 = .ok (.iconst 1, 1) := by decide +kernel
theorem dX1_write_62 : decode cX1_write 62 = .ok (.isub, 1) := by decide +kernel
theorem dX1_write_63 : decode cX1_write 63 = .ok (.ireturn, 1) := by decide +kernel
theorem dX1_correct_0 : decode cX1_correct 0 = .ok (.aload_n 0, 1) := by decide +kernel
theorem dX1_correct_1 : decode cX1_correct 1 = .ok (.getfield 15, 3) := by decide +kernel
theorem dX1_correct_4 : decode cX1_correct 4 = .ok (.bipush 20, 2) := by decide +kernel
theorem dX1_correct_6 : decode cX1_correct 6 = .ok (.if_icmp .lt 6, 3) := by decide +kernel
theorem dX1_correct_9 : decode cX1_correct 9 = .ok (.bipush (-3), 2) := by decide +kernel
theorem dX1_correct_11 : decode cX1_correct 11 = .ok (.ireturn, 1) := by decide +kernel
theorem dX1_correct_12 : decode cX1_correct 12 = .ok (.aload_n 0, 1) := by decide +kernel
theorem dX1_correct_13 : decode cX1_correct 13 = .ok (.iload_n 1, 1) := by decide +kernel
theorem dX1_correct_14 : decode cX1_correct 14 = .ok (.putfield 18, 3) := by decide +kernel
theorem dX1_correct_17 : decode cX1_correct 17 = .ok (.aload_n 0, 1) := by decide +kernel
theorem dX1_correct_18 : decode cX1_correct 18 = .ok (.getfield 31, 3) := by decide +kernel
theorem dX1_correct_21 : decode cX1_correct 21 = .ok (.aload_n 0, 1) := by decide +kernel
theorem dX1_correct_22 : decode cX1_correct 22 = .ok (.getfield 15, 3) := by decide +kernel
theorem dX1_correct_25 : decode cX1_correct 25 = .ok (.iload_n 1, 1) := by decide +kernel
theorem dX1_correct_26 : decode cX1_correct 26 = .ok (.iastore, 1) := by decide +kernel
theorem dX1_correct_27 : decode cX1_correct 27 = .ok (.aload_n 0, 1) := by decide +kernel
theorem dX1_correct_28 : decode cX1_correct 28 = .ok (.getfield 34, 3) := by decide +kernel
theorem dX1_correct_31 : decode cX1_correct 31 = .ok (.aload_n 0, 1) := by decide +kernel
theorem dX1_correct_32 : decode cX1_correct 32 = .ok (.getfield 15, 3) := by decide +kernel
theorem dX1_correct_35 : decode cX1_correct 35 = .ok (.iload_n 2, 1) := by decide +kernel
theorem dX1_correct_36 : decode cX1_correct 36 = .ok (.iastore, 1) := by decide +kernel
theorem dX1_correct_37 : decode cX1_correct 37 = .ok (.aload_n 0, 1) := by decide +kernel
theorem dX1_correct_38 : decode cX1_correct 38 = .ok (.getfield 37, 3) := by decide +kernel
theorem dX1_correct_41 : decode cX1_correct 41 = .ok (.aload_n 0, 1) := by decide +kernel
theorem dX1_correct_42 : decode cX1_correct 42 = .ok (.getfield 15, 3) := by decide +kernel
theorem dX1_correct_45 : decode cX1_correct 45 = .ok (.iload_n 3, 1) := by decide +kernel
theorem dX1_correct_46 : decode cX1_correct 46 = .ok (.iastore, 1) := by decide +kernel
theorem dX1_correct_47 : decode cX1_correct 47 = .ok (.aload_n 0, 1) := by decide +kernel
theorem dX1_correct_48 : decode cX1_correct 48 = .ok (.dup, 1) := by decide +kernel
theorem dX1_correct_49 : decode cX1_correct 49 = .ok (.getfield 15, 3) := by decide +kernel
theorem dX1_correct_52 : decode cX1_correct 52 = .ok (.iconst 1, 1) := by decide +kernel
theorem dX1_correct_53 : decode cX1_correct 53 = .ok (.iadd, 1) := by decide +kernel
theorem dX1_correct_54 : decode cX1_correct 54 = .ok (.putfield 15, 3) := by decide +kernel
theorem dX1_correct_57 : decode cX1_correct 57 = .ok (.aload_n 0, 1) := by decide +kernel
theorem dX1_correct_58 : decode cX1_correct 58 = .ok (.getfield 28, 3) := by decide +kernel
theorem dX1_correct_61 : decode cX1_correct 61 = .ok (.iload_n 2, 1) := by decide +kernel
theorem dX1_correct_62 : decode cX1_correct 62 = .ok (.dup2, 1) := by decide +kernel
theorem dX1_correct_63 : decode cX1_correct 63 = .ok (.iaload, 1) := by decide +kernel
theorem dX1_correct_64 : decode cX1_correct 64 = .ok (.iconst 1, 1) := by decide +kernel
theorem dX1_correct_65 : decode cX1_correct 65 = .ok (.iadd, 1) := by decide +kernel
theorem dX1_correct_66 : decode cX1_correct 66 = .ok (.iastore, 1) := by decide +kernel
theorem dX1_correct_67 : decode cX1_correct 67 = .ok (.aload_n 0, 1) := by decide +kernel
theorem dX1_correct_68 : decode cX1_correct 68 = .ok (.getfield 28, 3) := by decide +kernel
theorem dX1_correct_71 : decode cX1_correct 71 = .ok (.iload_n 2, 1) := by decide +kernel
theorem dX1_correct_72 : decode cX1_correct 72 = .ok (.iaload, 1) := by decide +kernel
theorem dX1_correct_73 : decode cX1_correct 73 = .ok (.ireturn, 1) := by decide +kernel
set_option maxRecDepth 20000 in
theorem ggX1_productOf_X1_signKnown : GoodIn wsX1_productOf wsX1_signKnown := goodIn_r _ [8, 9, 10, 11, 12, 13, 14, 15, 16, 17, 18, 19, 20, 21, 22] (by decide +kernel) (by decide +kernel)
set_option maxRecDepth 20000 in
theorem gX1_productOf_X1_signKnown : GoodIn wsX1_productOf (wsV RX1 46 RX1 yX1_signKnown wsX1_signKnown) := goodIn_app (goodIn_of _ (by decide +kernel)) ggX1_productOf_X1_signKnown
theorem dX1_productOf_0 : decode cX1_productOf 0 = .ok (.lconst 1, 1) := by decide +kernel
theorem dX1_productOf_1 : decode cX1_productOf 1 = .ok (.lstore 4, 2) := by decide +kernel
theorem dX1_productOf_3 : decode cX1_productOf 3 = .ok (.iconst 0, 1) := by decide +kernel
theorem dX1_productOf_4 : decode cX1_productOf 4 = .ok (.istore 6, 2) := by decide +kernel
theorem dX1_productOf_6 : decode cX1_productOf 6 = .ok (.iload 6, 2) := by decide +kernel
theorem dX1_productOf_8 : decode cX1_productOf 8 = .ok (.aload_n 0, 1) := by decide +kernel
theorem dX1_productOf_9 : decode cX1_productOf 9 = .ok (.getfield 9, 3) := by decide +kernel
theorem dX1_productOf_12 : decode cX1_productOf 12 = .ok (.if_icmp .ge 40, 3) := by decide +kernel
theorem dX1_productOf_15 : decode cX1_productOf 15 = .ok (.aload_n 0, 1) := by decide +kernel
theorem dX1_productOf_16 : decode cX1_productOf 16 = .ok (.getfield 21, 3) := by decide +kernel
theorem dX1_productOf_19 : decode cX1_productOf 19 = .ok (.iload 6, 2) := by decide +kernel
theorem dX1_productOf_21 : decode cX1_productOf 21 = .ok (.iaload, 1) := by decide +kernel
theorem dX1_productOf_22 : decode cX1_productOf 22 = .ok (.iload_n 3, 1) := by decide +kernel
theorem dX1_productOf_23 : decode cX1_productOf 23 = .ok (.if_icmp .gt 23, 3) := by decide +kernel
theorem dX1_productOf_26 : decode cX1_productOf 26 = .ok (.lload 4, 2) := by decide +kernel
theorem dX1_productOf_28 : decode cX1_productOf 28 = .ok (.aload_n 1, 1) := by decide +kernel
theorem dX1_productOf_29 : decode cX1_productOf 29 = .ok (.getfield 40, 3) := by decide +kernel
theorem dX1_productOf_32 : decode cX1_productOf 32 = .ok (.iload_n 2, 1) := by decide +kernel
theorem dX1_productOf_33 : decode cX1_productOf 33 = .ok (.aaload, 1) := by decide +kernel
theorem dX1_productOf_34 : decode cX1_productOf 34 = .ok (.aload_n 0, 1) := by decide +kernel
theorem dX1_productOf_35 : decode cX1_productOf 35 = .ok (.iload 6, 2) := by decide +kernel
theorem dX1_productOf_37 : decode cX1_productOf 37 = .ok (.iload_n 3, 1) := by decide +kernel
theorem dX1_productOf_38 : decode cX1_productOf 38 = .ok (.invokevirtual 46, 3) := by decide +kernel
theorem dX1_productOf_41 : decode cX1_productOf 41 = .ok (.iaload, 1) := by decide +kernel
theorem dX1_productOf_42 : decode cX1_productOf 42 = .ok (.i2l, 1) := by decide +kernel
theorem dX1_productOf_43 : decode cX1_productOf 43 = .ok (.lmul, 1) := by decide +kernel
theorem dX1_productOf_44 : decode cX1_productOf 44 = .ok (.lstore 4, 2) := by decide +kernel
theorem dX1_productOf_46 : decode cX1_productOf 46 = .ok (.iinc 6 1, 3) := by decide +kernel
theorem dX1_productOf_49 : decode cX1_productOf 49 = .ok (.goto (-43), 3) := by decide +kernel
theorem dX1_productOf_52 : decode cX1_productOf 52 = .ok (.lload 4, 2) := by decide +kernel
theorem dX1_productOf_54 : decode cX1_productOf 54 = .ok (.lreturn, 1) := by decide +kernel
theorem dX1_signKnown_0 : decode cX1_signKnown 0 = .ok (.aload_n 0, 1) := by decide +kernel
theorem dX1_signKnown_1 : decode cX1_signKnown 1 = .ok (.getfield 25, 3) := by decide +kernel
theorem dX1_signKnown_4 : decode cX1_signKnown 4 = .ok (.iload_n 1, 1) := by decide +kernel
theorem dX1_signKnown_5 : decode cX1_signKnown 5 = .ok (.iaload, 1) := by decide +kernel
theorem dX1_signKnown_6 : decode cX1_signKnown 6 = .ok (.istore_n 3, 1) := by decide +kernel
theorem dX1_signKnown_7 : decode cX1_signKnown 7 = .ok (.iconst 0, 1) := by decide +kernel
theorem dX1_signKnown_8 : decode cX1_signKnown 8 = .ok (.istore 4, 2) := by decide +kernel
theorem dX1_signKnown_10 : decode cX1_signKnown 10 = .ok (.iload 4, 2) := by decide +kernel
theorem dX1_signKnown_12 : decode cX1_signKnown 12 = .ok (.aload_n 0, 1) := by decide +kernel
theorem dX1_signKnown_13 : decode cX1_signKnown 13 = .ok (.getfield 15, 3) := by decide +kernel
theorem dX1_signKnown_16 : decode cX1_signKnown 16 = .ok (.if_icmp .ge 39, 3) := by decide +kernel
theorem dX1_signKnown_19 : decode cX1_signKnown 19 = .ok (.aload_n 0, 1) := by decide +kernel
theorem dX1_signKnown_20 : decode cX1_signKnown 20 = .ok (.getfield 34, 3) := by decide +kernel
theorem dX1_signKnown_23 : decode cX1_signKnown 23 = .ok (.iload 4, 2) := by decide +kernel
theorem dX1_signKnown_25 : decode cX1_signKnown 25 = .ok (.iaload, 1) := by decide +kernel
theorem dX1_signKnown_26 : decode cX1_signKnown 26 = .ok (.iload_n 1, 1) := by decide +kernel
theorem dX1_signKnown_27 : decode cX1_signKnown 27 = .ok (.if_icmp .ne 22, 3) := by decide +kernel
theorem dX1_signKnown_30 : decode cX1_signKnown 30 = .ok (.aload_n 0, 1) := by decide +kernel
theorem dX1_signKnown_31 : decode cX1_signKnown 31 = .ok (.getfield 31, 3) := by decide +kernel
theorem dX1_signKnown_34 : decode cX1_signKnown 34 = .ok (.iload 4, 2) := by decide +kernel
theorem dX1_signKnown_36 : decode cX1_signKnown 36 = .ok (.iaload, 1) := by decide +kernel
theorem dX1_signKnown_37 : decode cX1_signKnown 37 = .ok (.iload_n 2, 1) := by decide +kernel
theorem dX1_signKnown_38 : decode cX1_signKnown 38 = .ok (.if_icmp .gt 11, 3) := by decide +kernel
theorem dX1_signKnown_41 : decode cX1_signKnown 41 = .ok (.aload_n 0, 1) := by decide +kernel
theorem dX1_signKnown_42 : decode cX1_signKnown 42 = .ok (.getfield 37, 3) := by decide +kernel
theorem dX1_signKnown_45 : decode cX1_signKnown 45 = .ok (.iload 4, 2) := by decide +kernel
theorem dX1_signKnown_47 : decode cX1_signKnown 47 = .ok (.iaload, 1) := by decide +kernel
theorem dX1_signKnown_48 : decode cX1_signKnown 48 = .ok (.istore_n 3, 1) := by decide +kernel
theorem dX1_signKnown_49 : decode cX1_signKnown 49 = .ok (.iinc 4 1, 3) := by decide +kernel
theorem dX1_signKnown_52 : decode cX1_signKnown 52 = .ok (.goto (-42), 3) := by decide +kernel
theorem dX1_signKnown_55 : decode cX1_signKnown 55 = .ok (.iload_n 3, 1) := by decide +kernel
theorem dX1_signKnown_56 : decode cX1_signKnown 56 = .ok (.ireturn, 1) := by decide +kernel
theorem dX2_forget_0 : decode cX2_forget 0 = .ok (.aload_n 0, 1) := by decide +kernel
theorem dX2_forget_1 : decode cX2_forget 1 = .ok (.ldc2_w 9, 3) := by decide +kernel
theorem dX2_forget_4 : decode cX2_forget 4 = .ok (.putfield 11, 3) := by decide +kernel
theorem dX2_forget_7 : decode cX2_forget 7 = .ok (.aload_n 0, 1) := by decide +kernel
theorem dX2_forget_8 : decode cX2_forget 8 = .ok (.lconst 0, 1) := by decide +kernel
theorem dX2_forget_9 : decode cX2_forget 9 = .ok (.putfield 17, 3) := by decide +kernel
theorem dX2_forget_12 : decode cX2_forget 12 = .ok (.return_, 1) := by decide +kernel
theorem kk_X1_write_0 : Cond.fieldLink RX1 9 "PaidBySigns$Diary" "seen" "I" ∈ wsX1_write := by decide +kernel
theorem kk_X1_write_1 : Cond.fieldLink RX1 18 "PaidBySigns$Diary" "latestStep" "I" ∈ wsX1_write := by decide +kernel
theorem kk_X1_write_2 : Cond.fieldLink RX1 21 "PaidBySigns$Diary" "seenStep" "[I" ∈ wsX1_write := by decide +kernel
theorem kk_X1_write_3 : Cond.fieldLink RX1 25 "PaidBySigns$Diary" "seenSign" "[I" ∈ wsX1_write := by decide +kernel
theorem kk_X1_write_4 : Cond.fieldLink RX1 28 "PaidBySigns$Diary" "timesRight" "[I" ∈ wsX1_write := by decide +kernel
theorem kk_X1_correct_0 : Cond.fieldLink RX1 15 "PaidBySigns$Diary" "rights" "I" ∈ wsX1_correct := by decide +kernel
theorem kk_X1_correct_1 : Cond.fieldLink RX1 18 "PaidBySigns$Diary" "latestStep" "I" ∈ wsX1_correct := by decide +kernel
theorem kk_X1_correct_2 : Cond.fieldLink RX1 31 "PaidBySigns$Diary" "rightStep" "[I" ∈ wsX1_correct := by decide +kernel
theorem kk_X1_correct_3 : Cond.fieldLink RX1 34 "PaidBySigns$Diary" "rightOf" "[I" ∈ wsX1_correct := by decide +kernel
theorem kk_X1_correct_4 : Cond.fieldLink RX1 37 "PaidBySigns$Diary" "rightSign" "[I" ∈ wsX1_correct := by decide +kernel
theorem kk_X1_correct_5 : Cond.fieldLink RX1 28 "PaidBySigns$Diary" "timesRight" "[I" ∈ wsX1_correct := by decide +kernel
theorem kk_X1_productOf_0 : Cond.fieldLink RX1 9 "PaidBySigns$Diary" "seen" "I" ∈ wsX1_productOf := by decide +kernel
theorem kk_X1_productOf_1 : Cond.fieldLink RX1 21 "PaidBySigns$Diary" "seenStep" "[I" ∈ wsX1_productOf := by decide +kernel
theorem kk_X1_productOf_2 : Cond.fieldLink RX1 40 "PaidBySigns$Hire" "chances" "[[I" ∈ wsX1_productOf := by decide +kernel
theorem kk_X1_signKnown_0 : Cond.fieldLink RX1 25 "PaidBySigns$Diary" "seenSign" "[I" ∈ wsX1_signKnown := by decide +kernel
theorem kk_X1_signKnown_1 : Cond.fieldLink RX1 15 "PaidBySigns$Diary" "rights" "I" ∈ wsX1_signKnown := by decide +kernel
theorem kk_X1_signKnown_2 : Cond.fieldLink RX1 34 "PaidBySigns$Diary" "rightOf" "[I" ∈ wsX1_signKnown := by decide +kernel
theorem kk_X1_signKnown_3 : Cond.fieldLink RX1 31 "PaidBySigns$Diary" "rightStep" "[I" ∈ wsX1_signKnown := by decide +kernel
theorem kk_X1_signKnown_4 : Cond.fieldLink RX1 37 "PaidBySigns$Diary" "rightSign" "[I" ∈ wsX1_signKnown := by decide +kernel
theorem kk_X2_forget_0 : Cond.constantLong RX2 9 (-2000000000) ∈ wsX2_forget := by decide +kernel
theorem kk_X2_forget_1 : Cond.fieldLink RX2 11 "PaidBySigns$Fraction" "upper" "J" ∈ wsX2_forget := by decide +kernel
theorem kk_X2_forget_2 : Cond.fieldLink RX2 17 "PaidBySigns$Fraction" "lower" "J" ∈ wsX2_forget := by decide +kernel
theorem iw_X1_write_X1 : ∀ w ∈ wsX10, w ∈ wsX1_write := by decide +kernel
theorem iw_X1_correct_X1 : ∀ w ∈ wsX10, w ∈ wsX1_correct := by decide +kernel
theorem iw_X1_productOf_X1 : ∀ w ∈ wsX10, w ∈ wsX1_productOf := by decide +kernel
theorem iw_X1_productOf_X3 : ∀ w ∈ wsX30, w ∈ wsX1_productOf := by decide +kernel
theorem iw_X1_signKnown_X1 : ∀ w ∈ wsX10, w ∈ wsX1_signKnown := by decide +kernel
theorem iw_X2_forget_X2 : ∀ w ∈ wsX20, w ∈ wsX2_forget := by decide +kernel
