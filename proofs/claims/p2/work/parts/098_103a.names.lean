abbrev cX1_canTell : ByteArray := prog_3_method_3_code
def yX1_canTell : MethodName := ⟨RX1, "canTell", "(I)Z"⟩
abbrev cX1_canCorrect : ByteArray := prog_3_method_4_code
def yX1_canCorrect : MethodName := ⟨RX1, "canCorrect", "(II)Z"⟩
abbrev cX1_write : ByteArray := prog_3_method_5_code
def yX1_write : MethodName := ⟨RX1, "write", "(II)I"⟩
abbrev cX1_correct : ByteArray := prog_3_method_6_code
def yX1_correct : MethodName := ⟨RX1, "correct", "(III)I"⟩
abbrev cX1_signKnown : ByteArray := prog_3_method_8_code
def yX1_signKnown : MethodName := ⟨RX1, "signKnown", "(II)I"⟩
def wsX1_canTell : List Cond := .code yX1_canTell cX1_canTell 2 (some .boolean) :: ([.fieldLink RX1 18 "PaidBySigns$Diary" "latestStep" "I"] ++ wsX10)
def wsX1_canCorrect : List Cond := .code yX1_canCorrect cX1_canCorrect 3 (some .boolean) :: ([.fieldLink RX1 9 "PaidBySigns$Diary" "seen" "I", .fieldLink RX1 21 "PaidBySigns$Diary" "seenStep" "[I"] ++ wsX10)
def wsX1_write : List Cond := .code yX1_write cX1_write 3 (some .int) :: ([.fieldLink RX1 9 "PaidBySigns$Diary" "seen" "I", .fieldLink RX1 18 "PaidBySigns$Diary" "latestStep" "I", .fieldLink RX1 21 "PaidBySigns$Diary" "seenStep" "[I", .fieldLink RX1 25 "PaidBySigns$Diary" "seenSign" "[I", .fieldLink RX1 28 "PaidBySigns$Diary" "timesRight" "[I"] ++ wsX10)
def wsX1_correct : List Cond := .code yX1_correct cX1_correct 4 (some .int) :: ([.fieldLink RX1 15 "PaidBySigns$Diary" "rights" "I", .fieldLink RX1 18 "PaidBySigns$Diary" "latestStep" "I", .fieldLink RX1 31 "PaidBySigns$Diary" "rightStep" "[I", .fieldLink RX1 34 "PaidBySigns$Diary" "rightOf" "[I", .fieldLink RX1 37 "PaidBySigns$Diary" "rightSign" "[I", .fieldLink RX1 28 "PaidBySigns$Diary" "timesRight" "[I"] ++ wsX10)
def wsX1_signKnown : List Cond := .code yX1_signKnown cX1_signKnown 5 (some .int) :: ([.fieldLink RX1 25 "PaidBySigns$Diary" "seenSign" "[I", .fieldLink RX1 15 "PaidBySigns$Diary" "rights" "I", .fieldLink RX1 34 "PaidBySigns$Diary" "rightOf" "[I", .fieldLink RX1 31 "PaidBySigns$Diary" "rightStep" "[I", .fieldLink RX1 37 "PaidBySigns$Diary" "rightSign" "[I"] ++ wsX10)
theorem dX1_canTell_0 : decode cX1_canTell 0 = .ok (.iload_n 1, 1) := by decide +kernel
theorem dX1_canTell_1 : decode cX1_canTell 1 = .ok (.aload_n 0, 1) := by decide +kernel
theorem dX1_canTell_2 : decode cX1_canTell 2 = .ok (.getfield 18, 3) := by decide +kernel
theorem dX1_canTell_5 : decode cX1_canTell 5 = .ok (.if_icmp .lt 14, 3) := by decide +kernel
theorem dX1_canTell_8 : decode cX1_canTell 8 = .ok (.iload_n 1, 1) := by decide +kernel
theorem dX1_canTell_9 : decode cX1_canTell 9 = .ok (.sipush 999, 3) := by decide +kernel
theorem dX1_canTell_12 : decode cX1_canTell 12 = .ok (.if_icmp .gt 7, 3) := by decide +kernel
theorem dX1_canTell_15 : decode cX1_canTell 15 = .ok (.iconst 1, 1) := by decide +kernel
theorem dX1_canTell_16 : decode cX1_canTell 16 = .ok (.goto 4, 3) := by decide +kernel
theorem dX1_canTell_19 : decode cX1_canTell 19 = .ok (.iconst 0, 1) := by decide +kernel
theorem dX1_canTell_20 : decode cX1_canTell 20 = .ok (.ireturn, 1) := by decide +kernel
theorem dX1_canCorrect_0 : decode cX1_canCorrect 0 = .ok (.iload_n 2, 1) := by decide +kernel
theorem dX1_canCorrect_1 : decode cX1_canCorrect 1 = .ok (.ifCond .lt 25, 3) := by decide +kernel
theorem dX1_canCorrect_4 : decode cX1_canCorrect 4 = .ok (.iload_n 2, 1) := by decide +kernel
theorem dX1_canCorrect_5 : decode cX1_canCorrect 5 = .ok (.aload_n 0, 1) := by decide +kernel
theorem dX1_canCorrect_6 : decode cX1_canCorrect 6 = .ok (.getfield 9, 3) := by decide +kernel
theorem dX1_canCorrect_9 : decode cX1_canCorrect 9 = .ok (.if_icmp .ge 17, 3) := by decide +kernel
theorem dX1_canCorrect_12 : decode cX1_canCorrect 12 = .ok (.iload_n 1, 1) := by decide +kernel
theorem dX1_canCorrect_13 : decode cX1_canCorrect 13 = .ok (.aload_n 0, 1) := by decide +kernel
theorem dX1_canCorrect_14 : decode cX1_canCorrect 14 = .ok (.getfield 21, 3) := by decide +kernel
theorem dX1_canCorrect_17 : decode cX1_canCorrect 17 = .ok (.iload_n 2, 1) := by decide +kernel
theorem dX1_canCorrect_18 : decode cX1_canCorrect 18 = .ok (.iaload, 1) := by decide +kernel
theorem dX1_canCorrect_19 : decode cX1_canCorrect 19 = .ok (.if_icmp .le 7, 3) := by decide +kernel
theorem dX1_canCorrect_22 : decode cX1_canCorrect 22 = .ok (.iconst 1, 1) := by decide +kernel
theorem dX1_canCorrect_23 : decode cX1_canCorrect 23 = .ok (.goto 4, 3) := by decide +kernel
theorem dX1_canCorrect_26 : decode cX1_canCorrect 26 = .ok (.iconst 0, 1) := by decide +kernel
theorem dX1_canCorrect_27 : decode cX1_canCorrect 27 = .ok (.ireturn, 1) := by decide +kernel
theorem dX1_write_0 : decode cX1_write 0 = .ok (.aload_n 0, 1) := by decide +kernel
theorem dX1_write_1 : decode cX1_write 1 = .ok (.getfield 9, 3) := by decide +kernel
theorem dX1_write_4 : decode cX1_write 4 = .ok (.bipush 8, 2) := by decide +kernel
theorem dX1_write_6 : decode cX1_write 6 = .ok (.if_icmp .lt 6, 3) := by decide +kernel
theorem dX1_write_9 : decode cX1_write 9 = .ok (.bipush (-3), 2) := by decide +kernel
theorem dX1_write_11 : decode cX1_write 11 = .ok (.ireturn, 1) := by decide +kernel
theorem dX1_write_12 : decode cX1_write 12 = .ok (.aload_n 0, 1) := by decide +kernel
theorem dX1_write_13 : decode cX1_write 13 = .ok (.iload_n 1, 1) := by decide +kernel
theorem dX1_write_14 : decode cX1_write 14 = .ok (.putfield 18, 3) := by decide +kernel
theorem dX1_write_17 : decode cX1_write 17 = .ok (.aload_n 0, 1) := by decide +kernel
theorem dX1_write_18 : decode cX1_write 18 = .ok (.getfield 21, 3) := by decide +kernel
theorem dX1_write_21 : decode cX1_write 21 = .ok (.aload_n 0, 1) := by decide +kernel
theorem dX1_write_22 : decode cX1_write 22 = .ok (.getfield 9, 3) := by decide +kernel
theorem dX1_write_25 : decode cX1_write 25 = .ok (.iload_n 1, 1) := by decide +kernel
theorem dX1_write_26 : decode cX1_write 26 = .ok (.iastore, 1) := by decide +kernel
theorem dX1_write_27 : decode cX1_write 27 = .ok (.aload_n 0, 1) := by decide +kernel
theorem dX1_write_28 : decode cX1_write 28 = .ok (.getfield 25, 3) := by decide +kernel
theorem dX1_write_31 : decode cX1_write 31 = .ok (.aload_n 0, 1) := by decide +kernel
theorem dX1_write_32 : decode cX1_write 32 = .ok (.getfield 9, 3) := by decide +kernel
theorem dX1_write_35 : decode cX1_write 35 = .ok (.iload_n 2, 1) := by decide +kernel
theorem dX1_write_36 : decode cX1_write 36 = .ok (.iastore, 1) := by decide +kernel
theorem dX1_write_37 : decode cX1_write 37 = .ok (.aload_n 0, 1) := by decide +kernel
theorem dX1_write_38 : decode cX1_write 38 = .ok (.getfield 28, 3) := by decide +kernel
theorem dX1_write_41 : decode cX1_write 41 = .ok (.aload_n 0, 1) := by decide +kernel
theorem dX1_write_42 : decode cX1_write 42 = .ok (.getfield 9, 3) := by decide +kernel
theorem dX1_write_45 : decode cX1_write 45 = .ok (.iconst 0, 1) := by decide +kernel
theorem dX1_write_46 : decode cX1_write 46 = .ok (.iastore, 1) := by decide +kernel
theorem dX1_write_47 : decode cX1_write 47 = .ok (.aload_n 0, 1) := by decide +kernel
theorem dX1_write_48 : decode cX1_write 48 = .ok (.dup, 1) := by decide +kernel
theorem dX1_write_49 : decode cX1_write 49 = .ok (.getfield 9, 3) := by decide +kernel
theorem dX1_write_52 : decode cX1_write 52 = .ok (.iconst 1, 1) := by decide +kernel
theorem dX1_write_53 : decode cX1_write 53 = .ok (.iadd, 1) := by decide +kernel
theorem dX1_write_54 : decode cX1_write 54 = .ok (.putfield 9, 3) := by decide +kernel
theorem dX1_write_57 : decode cX1_write 57 = .ok (.aload_n 0, 1) := by decide +kernel
theorem dX1_write_58 : decode cX1_write 58 = .ok (.getfield 9, 3) := by decide +kernel
theorem dX1_write_61 : decode cX1_write 61 = .ok (.iconst 1, 1) := by decide +kernel
theorem dX1_write_62 : decode cX1_write 62 = .ok (.isub, 1) := by decide +kernel
theorem dX1_write_63 : decode cX1_write 63 = .ok (.ireturn, 1) := by decide +kernel
theorem dX1_correct_0 : decode cX1_correct 0 = .ok (.aload_n 0, 1) := by decide +kernel
theorem dX1_correct_1 : decode cX1_correct 1 = .ok (.getfield 15, 3) := by decide +kernel
theorem dX1_correct_4 : decode cX1_correct 4 = .ok (.bipush 20, 2) := by decide +kernel
theorem dX1_correct_6 : decode cX1_correct 6 = .ok (.if_icmp .lt 6, 3) := by decide +kernel
theorem dX1_correct_9 : decode cX1_correct 9 = .ok (.bipush (-3), 2) := by decide +kernel
theorem dX1_correct_11 : decode cX1_correct 11 = .ok (.ireturn, 1) := by decide +kernel
theorem dX1_correct_12 : decode cX1_correct 12 = .ok (.aload_n 0, 1) := by decide +kernel
theorem dX1_correct_13 : decode cX1_correct 13 = .ok (.iload_n 1, 1) := by decide +kernel
theorem dX1_correct_14 : decode cX1_correct 14 = .ok (.putfield 18, 3) := by decide +kernel
theorem dX1_correct_17 : decode cX1_correct 17 = .ok (.aload_n 0, 1) := by decide +kernel
theorem dX1_correct_18 : decode cX1_correct 18 = .ok (.getfield 31, 3) := by decide +kernel
theorem dX1_correct_21 : decode cX1_correct 21 = .ok (.aload_n 0, 1) := by decide +kernel
theorem dX1_correct_22 : decode cX1_correct 22 = .ok (.getfield 15, 3) := by decide +kernel
theorem dX1_correct_25 : decode cX1_correct 25 = .ok (.iload_n 1, 1) := by decide +kernel
theorem dX1_correct_26 : decode cX1_correct 26 = .ok (.iastore, 1) := by decide +kernel
theorem dX1_correct_27 : decode cX1_correct 27 = .ok (.aload_n 0, 1) := by decide +kernel
theorem dX1_correct_28 : decode cX1_correct 28 = .ok (.getfield 34, 3) := by decide +kernel
theorem dX1_correct_31 : decode cX1_correct 31 = .ok (.aload_n 0, 1) := by decide +kernel
theorem dX1_correct_32 : decode cX1_correct 32 = .ok (.getfield 15, 3) := by decide +kernel
theorem dX1_correct_35 : decode cX1_correct 35 = .ok (.iload_n 2, 1) := by decide +kernel
theorem dX1_correct_36 : decode cX1_correct 36 = .ok (.iastore, 1) := by decide +kernel
theorem dX1_correct_37 : decode cX1_correct 37 = .ok (.aload_n 0, 1) := by decide +kernel
theorem dX1_correct_38 : decode cX1_correct 38 = .ok (.getfield 37, 3) := by decide +kernel
theorem dX1_correct_41 : decode cX1_correct 41 = .ok (.aload_n 0, 1) := by decide +kernel
theorem dX1_correct_42 : decode cX1_correct 42 = .ok (.getfield 15, 3) := by decide +kernel
theorem dX1_correct_45 : decode cX1_correct 45 = .ok (.iload_n 3, 1) := by decide +kernel
theorem dX1_correct_46 : decode cX1_correct 46 = .ok (.iastore, 1) := by decide +kernel
theorem dX1_correct_47 : decode cX1_correct 47 = .ok (.aload_n 0, 1) := by decide +kernel
theorem dX1_correct_48 : decode cX1_correct 48 = .ok (.dup, 1) := by decide +kernel
theorem dX1_correct_49 : decode cX1_correct 49 = .ok (.getfield 15, 3) := by decide +kernel
theorem dX1_correct_52 : decode cX1_correct 52 = .ok (.iconst 1, 1) := by decide +kernel
theorem dX1_correct_53 : decode cX1_correct 53 = .ok (.iadd, 1) := by decide +kernel
theorem dX1_correct_54 : decode cX1_correct 54 = .ok (.putfield 15, 3) := by decide +kernel
theorem dX1_correct_57 : decode cX1_correct 57 = .ok (.aload_n 0, 1) := by decide +kernel
theorem dX1_correct_58 : decode cX1_correct 58 = .ok (.getfield 28, 3) := by decide +kernel
theorem dX1_correct_61 : decode cX1_correct 61 = .ok (.iload_n 2, 1) := by decide +kernel
theorem dX1_correct_62 : decode cX1_correct 62 = .ok (.dup2, 1) := by decide +kernel
theorem dX1_correct_63 : decode cX1_correct 63 = .ok (.iaload, 1) := by decide +kernel
theorem dX1_correct_64 : decode cX1_correct 64 = .ok (.iconst 1, 1) := by decide +kernel
theorem dX1_correct_65 : decode cX1_correct 65 = .ok (.iadd, 1) := by decide +kernel
theorem dX1_correct_66 : decode cX1_correct 66 = .ok (.iastore, 1) := by decide +kernel
theorem dX1_correct_67 : decode cX1_correct 67 = .ok (.aload_n 0, 1) := by decide +kernel
theorem dX1_correct_68 : decode cX1_correct 68 = .ok (.getfield 28, 3) := by decide +kernel
theorem dX1_correct_71 : decode cX1_correct 71 = .ok (.iload_n 2, 1) := by decide +kernel
theorem dX1_correct_72 : decode cX1_correct 72 = .ok (.iaload, 1) := by decide +kernel
theorem dX1_correct_73 : decode cX1_correct 73 = .ok (.ireturn, 1) := by decide +kernel
theorem dX1_signKnown_0 : decode cX1_signKnown 0 = .ok (.aload_n 0, 1) := by decide +kernel
theorem dX1_signKnown_1 : decode cX1_signKnown 1 = .ok (.getfield 25, 3) := by decide +kernel
theorem dX1_signKnown_4 : decode cX1_signKnown 4 = .ok (.iload_n 1, 1) := by decide +kernel
theorem dX1_signKnown_5 : decode cX1_signKnown 5 = .ok (.iaload, 1) := by decide +kernel
theorem dX1_signKnown_6 : decode cX1_signKnown 6 = .ok (.istore_n 3, 1) := by decide +kernel
theorem dX1_signKnown_7 : decode cX1_signKnown 7 = .ok (.iconst 0, 1) := by decide +kernel
theorem dX1_signKnown_8 : decode cX1_signKnown 8 = .ok (.istore 4, 2) := by decide +kernel
theorem dX1_signKnown_10 : decode cX1_signKnown 10 = .ok (.iload 4, 2) := by decide +kernel
theorem dX1_signKnown_12 : decode cX1_signKnown 12 = .ok (.aload_n 0, 1) := by decide +kernel
theorem dX1_signKnown_13 : decode cX1_signKnown 13 = .ok (.getfield 15, 3) := by decide +kernel
theorem dX1_signKnown_16 : decode cX1_signKnown 16 = .ok (.if_icmp .ge 39, 3) := by decide +kernel
theorem dX1_signKnown_19 : decode cX1_signKnown 19 = .ok (.aload_n 0, 1) := by decide +kernel
theorem dX1_signKnown_20 : decode cX1_signKnown 20 = .ok (.getfield 34, 3) := by decide +kernel
theorem dX1_signKnown_23 : decode cX1_signKnown 23 = .ok (.iload 4, 2) := by decide +kernel
theorem dX1_signKnown_25 : decode cX1_signKnown 25 = .ok (.iaload, 1) := by decide +kernel
theorem dX1_signKnown_26 : decode cX1_signKnown 26 = .ok (.iload_n 1, 1) := by decide +kernel
theorem dX1_signKnown_27 : decode cX1_signKnown 27 = .ok (.if_icmp .ne 22, 3) := by decide +kernel
theorem dX1_signKnown_30 : decode cX1_signKnown 30 = .ok (.aload_n 0, 1) := by decide +kernel
theorem dX1_signKnown_31 : decode cX1_signKnown 31 = .ok (.getfield 31, 3) := by decide +kernel
theorem dX1_signKnown_34 : decode cX1_signKnown 34 = .ok (.iload 4, 2) := by decide +kernel
theorem dX1_signKnown_36 : decode cX1_signKnown 36 = .ok (.iaload, 1) := by decide +kernel
theorem dX1_signKnown_37 : decode cX1_signKnown 37 = .ok (.iload_n 2, 1) := by decide +kernel
theorem dX1_signKnown_38 : decode cX1_signKnown 38 = .ok (.if_icmp .gt 11, 3) := by decide +kernel
theorem dX1_signKnown_41 : decode cX1_signKnown 41 = .ok (.aload_n 0, 1) := by decide +kernel
theorem dX1_signKnown_42 : decode cX1_signKnown 42 = .ok (.getfield 37, 3) := by decide +kernel
theorem dX1_signKnown_45 : decode cX1_signKnown 45 = .ok (.iload 4, 2) := by decide +kernel
theorem dX1_signKnown_47 : decode cX1_signKnown 47 = .ok (.iaload, 1) := by decide +kernel
theorem dX1_signKnown_48 : decode cX1_signKnown 48 = .ok (.istore_n 3, 1) := by decide +kernel
theorem dX1_signKnown_49 : decode cX1_signKnown 49 = .ok (.iinc 4 1, 3) := by decide +kernel
theorem dX1_signKnown_52 : decode cX1_signKnown 52 = .ok (.goto (-42), 3) := by decide +kernel
theorem dX1_signKnown_55 : decode cX1_signKnown 55 = .ok (.iload_n 3, 1) := by decide +kernel
theorem dX1_signKnown_56 : decode cX1_signKnown 56 = .ok (.ireturn, 1) := by decide +kernel
theorem kk_X1_canTell_0 : Cond.fieldLink RX1 18 "PaidBySigns$Diary" "latestStep" "I" ∈ wsX1_canTell := by decide +kernel
theorem kk_X1_canCorrect_0 : Cond.fieldLink RX1 9 "PaidBySigns$Diary" "seen" "I" ∈ wsX1_canCorrect := by decide +kernel
theorem kk_X1_canCorrect_1 : Cond.fieldLink RX1 21 "PaidBySigns$Diary" "seenStep" "[I" ∈ wsX1_canCorrect := by decide +kernel
theorem kk_X1_write_0 : Cond.fieldLink RX1 9 "PaidBySigns$Diary" "seen" "I" ∈ wsX1_write := by decide +kernel
theorem kk_X1_write_1 : Cond.fieldLink RX1 18 "PaidBySigns$Diary" "latestStep" "I" ∈ wsX1_write := by decide +kernel
theorem kk_X1_write_2 : Cond.fieldLink RX1 21 "PaidBySigns$Diary" "seenStep" "[I" ∈ wsX1_write := by decide +kernel
theorem kk_X1_write_3 : Cond.fieldLink RX1 25 "PaidBySigns$Diary" "seenSign" "[I" ∈ wsX1_write := by decide +kernel
theorem kk_X1_write_4 : Cond.fieldLink RX1 28 "PaidBySigns$Diary" "timesRight" "[I" ∈ wsX1_write := by decide +kernel
theorem kk_X1_correct_0 : Cond.fieldLink RX1 15 "PaidBySigns$Diary" "rights" "I" ∈ wsX1_correct := by decide +kernel
theorem kk_X1_correct_1 : Cond.fieldLink RX1 18 "PaidBySigns$Diary" "latestStep" "I" ∈ wsX1_correct := by decide +kernel
theorem kk_X1_correct_2 : Cond.fieldLink RX1 31 "PaidBySigns$Diary" "rightStep" "[I" ∈ wsX1_correct := by decide +kernel
theorem kk_X1_correct_3 : Cond.fieldLink RX1 34 "PaidBySigns$Diary" "rightOf" "[I" ∈ wsX1_correct := by decide +kernel
theorem kk_X1_correct_4 : Cond.fieldLink RX1 37 "PaidBySigns$Diary" "rightSign" "[I" ∈ wsX1_correct := by decide +kernel
theorem kk_X1_correct_5 : Cond.fieldLink RX1 28 "PaidBySigns$Diary" "timesRight" "[I" ∈ wsX1_correct := by decide +kernel
theorem kk_X1_signKnown_0 : Cond.fieldLink RX1 25 "PaidBySigns$Diary" "seenSign" "[I" ∈ wsX1_signKnown := by decide +kernel
theorem kk_X1_signKnown_1 : Cond.fieldLink RX1 15 "PaidBySigns$Diary" "rights" "I" ∈ wsX1_signKnown := by decide +kernel
theorem kk_X1_signKnown_2 : Cond.fieldLink RX1 34 "PaidBySigns$Diary" "rightOf" "[I" ∈ wsX1_signKnown := by decide +kernel
theorem kk_X1_signKnown_3 : Cond.fieldLink RX1 31 "PaidBySigns$Diary" "rightStep" "[I" ∈ wsX1_signKnown := by decide +kernel
theorem kk_X1_signKnown_4 : Cond.fieldLink RX1 37 "PaidBySigns$Diary" "rightSign" "[I" ∈ wsX1_signKnown := by decide +kernel
theorem iw_X1_canTell_X1 : ∀ w ∈ wsX10, w ∈ wsX1_canTell := by decide +kernel
theorem iw_X1_canCorrect_X1 : ∀ w ∈ wsX10, w ∈ wsX1_canCorrect := by decide +kernel
theorem iw_X1_write_X1 : ∀ w ∈ wsX10, w ∈ wsX1_write := by decide +kernel
theorem iw_X1_correct_X1 : ∀ w ∈ wsX10, w ∈ wsX1_correct := by decide +kernel
theorem iw_X1_signKnown_X1 : ∀ w ∈ wsX10, w ∈ wsX1_signKnown := by decide +kernel
