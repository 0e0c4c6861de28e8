abbrev cX8_lineBelowZero : ByteArray := prog_10_method_4_code
def yX8_lineBelowZero : MethodName := ⟨RX8, "lineBelowZero", "()I"⟩
abbrev cX8_columnFor : ByteArray := prog_10_method_5_code
def yX8_columnFor : MethodName := ⟨RX8, "columnFor", "(I)I"⟩
abbrev cX8_compareRatios : ByteArray := prog_10_method_6_code
def yX8_compareRatios : MethodName := ⟨RX8, "compareRatios", "(III)I"⟩
abbrev cX8_pivot : ByteArray := prog_10_method_7_code
def yX8_pivot : MethodName := ⟨RX8, "pivot", "(II)V"⟩
abbrev cX8_changeLine : ByteArray := prog_10_method_8_code
def yX8_changeLine : MethodName := ⟨RX8, "changeLine", "([J[JIJ)V"⟩
def wsX8_lineBelowZero : List Cond := .code yX8_lineBelowZero cX8_lineBelowZero 3 (some .int) :: ([.fieldLink RX8 29 "PaidBySigns$Table" "goals" "I", .fieldLink RX8 33 "PaidBySigns$Table" "lines" "I", .fieldLink RX8 13 "PaidBySigns$Table" "entry" "[[J", .fieldLink RX8 16 "PaidBySigns$Table" "lineName" "[I"] ++ wsX80)
def wsX8_compareRatios : List Cond := .code yX8_compareRatios cX8_compareRatios 13 (some .int) :: ([.fieldLink RX8 13 "PaidBySigns$Table" "entry" "[[J", .fieldLink RX8 29 "PaidBySigns$Table" "goals" "I"] ++ wsX80)
def wsX8_columnFor : List Cond := .code yX8_columnFor cX8_columnFor 5 (some .int) :: ([.fieldLink RX8 36 "PaidBySigns$Table" "columns" "I", .fieldLink RX8 13 "PaidBySigns$Table" "entry" "[[J", .fieldLink RX8 20 "PaidBySigns$Table" "columnName" "[I", .methodLink RX8 62 yX8_compareRatios, .instanceMethod yX8_compareRatios, .selects RX8 yX8_compareRatios yX8_compareRatios, .initialized RX8, .code yX8_compareRatios cX8_compareRatios 13 (some .int), .fieldLink RX8 29 "PaidBySigns$Table" "goals" "I"] ++ wsX80)
def wsX8_changeLine : List Cond := .code yX8_changeLine cX8_changeLine 9 none :: ([.fieldLink RX8 36 "PaidBySigns$Table" "columns" "I", .fieldLink RX8 39 "PaidBySigns$Table" "base" "J"] ++ wsX80)
def wsX8_pivot : List Cond := .code yX8_pivot cX8_pivot 7 none :: ([.fieldLink RX8 13 "PaidBySigns$Table" "entry" "[[J", .fieldLink RX8 39 "PaidBySigns$Table" "base" "J", .fieldLink RX8 33 "PaidBySigns$Table" "lines" "I", .fieldLink RX8 36 "PaidBySigns$Table" "columns" "I", .fieldLink RX8 16 "PaidBySigns$Table" "lineName" "[I", .fieldLink RX8 20 "PaidBySigns$Table" "columnName" "[I", .methodLink RX8 66 yX8_changeLine, .instanceMethod yX8_changeLine, .selects RX8 yX8_changeLine yX8_changeLine, .initialized RX8, .code yX8_changeLine cX8_changeLine 9 none] ++ wsX80)
theorem dX8_lineBelowZero_0 : decode cX8_lineBelowZero 0 = .ok (.iconst (-1), 1) := by decide +kernel
theorem dX8_lineBelowZero_1 : decode cX8_lineBelowZero 1 = .ok (.istore_n 1, 1) := by decide +kernel
theorem dX8_lineBelowZero_2 : decode cX8_lineBelowZero 2 = .ok (.aload_n 0, 1) := by decide +kernel
theorem dX8_lineBelowZero_3 : decode cX8_lineBelowZero 3 = .ok (.getfield 29, 3) := by decide +kernel
theorem dX8_lineBelowZero_6 : decode cX8_lineBelowZero 6 = .ok (.istore_n 2, 1) := by decide +kernel
theorem dX8_lineBelowZero_7 : decode cX8_lineBelowZero 7 = .ok (.iload_n 2, 1) := by decide +kernel
theorem dX8_lineBelowZero_8 : decode cX8_lineBelowZero 8 = .ok (.aload_n 0, 1) := by decide +kernel
theorem dX8_lineBelowZero_9 : decode cX8_lineBelowZero 9 = .ok (.getfield 33, 3) := by decide +kernel
theorem dX8_lineBelowZero_12 : decode cX8_lineBelowZero 12 = .ok (.if_icmp .ge 43, 3) := by decide +kernel
theorem dX8_lineBelowZero_15 : decode cX8_lineBelowZero 15 = .ok (.aload_n 0, 1) := by decide +kernel
theorem dX8_lineBelowZero_16 : decode cX8_lineBelowZero 16 = .ok (.getfield 13, 3) := by decide +kernel
theorem dX8_lineBelowZero_19 : decode cX8_lineBelowZero 19 = .ok (.iload_n 2, 1) := by decide +kernel
theorem dX8_lineBelowZero_20 : decode cX8_lineBelowZero 20 = .ok (.aaload, 1) := by decide +kernel
theorem dX8_lineBelowZero_21 : decode cX8_lineBelowZero 21 = .ok (.iconst 0, 1) := by decide +kernel
theorem dX8_lineBelowZero_22 : decode cX8_lineBelowZero 22 = .ok (.laload, 1) := by decide +kernel
theorem dX8_lineBelowZero_23 : decode cX8_lineBelowZero 23 = .ok (.lconst 0, 1) := by decide +kernel
theorem dX8_lineBelowZero_24 : decode cX8_lineBelowZero 24 = .ok (.lcmp, 1) := by decide +kernel
theorem dX8_lineBelowZero_25 : decode cX8_lineBelowZero 25 = .ok (.ifCond .ge 24, 3) := by decide +kernel
theorem dX8_lineBelowZero_28 : decode cX8_lineBelowZero 28 = .ok (.iload_n 1, 1) := by decide +kernel
theorem dX8_lineBelowZero_29 : decode cX8_lineBelowZero 29 = .ok (.ifCond .lt 18, 3) := by decide +kernel
theorem dX8_lineBelowZero_32 : decode cX8_lineBelowZero 32 = .ok (.aload_n 0, 1) := by decide +kernel
theorem dX8_lineBelowZero_33 : decode cX8_lineBelowZero 33 = .ok (.getfield 16, 3) := by decide +kernel
theorem dX8_lineBelowZero_36 : decode cX8_lineBelowZero 36 = .ok (.iload_n 2, 1) := by decide +kernel
theorem dX8_lineBelowZero_37 : decode cX8_lineBelowZero 37 = .ok (.iaload, 1) := by decide +kernel
theorem dX8_lineBelowZero_38 : decode cX8_lineBelowZero 38 = .ok (.aload_n 0, 1) := by decide +kernel
theorem dX8_lineBelowZero_39 : decode cX8_lineBelowZero 39 = .ok (.getfield 16, 3) := by decide +kernel
theorem dX8_lineBelowZero_42 : decode cX8_lineBelowZero 42 = .ok (.iload_n 1, 1) := by decide +kernel
theorem dX8_lineBelowZero_43 : decode cX8_lineBelowZero 43 = .ok (.iaload, 1) := by decide +kernel
theorem dX8_lineBelowZero_44 : decode cX8_lineBelowZero 44 = .ok (.if_icmp .ge 5, 3) := by decide +kernel
theorem dX8_lineBelowZero_47 : decode cX8_lineBelowZero 47 = .ok (.iload_n 2, 1) := by decide +kernel
theorem dX8_lineBelowZero_48 : decode cX8_lineBelowZero 48 = .ok (.istore_n 1, 1) := by decide +kernel
theorem dX8_lineBelowZero_49 : decode cX8_lineBelowZero 49 = .ok (.iinc 2 1, 3) := by decide +kernel
theorem dX8_lineBelowZero_52 : decode cX8_lineBelowZero 52 = .ok (.goto (-45), 3) := by decide +kernel
theorem dX8_lineBelowZero_55 : decode cX8_lineBelowZero 55 = .ok (.iload_n 1, 1) := by decide +kernel
theorem dX8_lineBelowZero_56 : decode cX8_lineBelowZero 56 = .ok (.ireturn, 1) := by decide +kernel
set_option maxRecDepth 20000 in
theorem ggX8_columnFor_X8_compareRatios : GoodIn wsX8_columnFor wsX8_compareRatios := goodIn_r _ [8, 2, 9, 10, 11, 12, 13, 14, 15, 16] (by decide +kernel) (by decide +kernel)
set_option maxRecDepth 20000 in
theorem gX8_columnFor_X8_compareRatios : GoodIn wsX8_columnFor (wsV RX8 62 RX8 yX8_compareRatios wsX8_compareRatios) := goodIn_app (goodIn_of _ (by decide +kernel)) ggX8_columnFor_X8_compareRatios
theorem dX8_columnFor_0 : decode cX8_columnFor 0 = .ok (.iconst (-1), 1) := by decide +kernel
theorem dX8_columnFor_1 : decode cX8_columnFor 1 = .ok (.istore_n 2, 1) := by decide +kernel
theorem dX8_columnFor_2 : decode cX8_columnFor 2 = .ok (.iconst 1, 1) := by decide +kernel
theorem dX8_columnFor_3 : decode cX8_columnFor 3 = .ok (.istore_n 3, 1) := by decide +kernel
theorem dX8_columnFor_4 : decode cX8_columnFor 4 = .ok (.iload_n 3, 1) := by decide +kernel
theorem dX8_columnFor_5 : decode cX8_columnFor 5 = .ok (.aload_n 0, 1) := by decide +kernel
theorem dX8_columnFor_6 : decode cX8_columnFor 6 = .ok (.getfield 36, 3) := by decide +kernel
theorem dX8_columnFor_9 : decode cX8_columnFor 9 = .ok (.if_icmp .gt 69, 3) := by decide +kernel
theorem dX8_columnFor_12 : decode cX8_columnFor 12 = .ok (.aload_n 0, 1) := by decide +kernel
theorem dX8_columnFor_13 : decode cX8_columnFor 13 = .ok (.getfield 13, 3) := by decide +kernel
theorem dX8_columnFor_16 : decode cX8_columnFor 16 = .ok (.iload_n 1, 1) := by decide +kernel
theorem dX8_columnFor_17 : decode cX8_columnFor 17 = .ok (.aaload, 1) := by decide +kernel
theorem dX8_columnFor_18 : decode cX8_columnFor 18 = .ok (.iload_n 3, 1) := by decide +kernel
theorem dX8_columnFor_19 : decode cX8_columnFor 19 = .ok (.laload, 1) := by decide +kernel
theorem dX8_columnFor_20 : decode cX8_columnFor 20 = .ok (.lconst 0, 1) := by decide +kernel
theorem dX8_columnFor_21 : decode cX8_columnFor 21 = .ok (.lcmp, 1) := by decide +kernel
theorem dX8_columnFor_22 : decode cX8_columnFor 22 = .ok (.ifCond .lt 6, 3) := by decide +kernel
theorem dX8_columnFor_25 : decode cX8_columnFor 25 = .ok (.goto 47, 3) := by decide +kernel
theorem dX8_columnFor_28 : decode cX8_columnFor 28 = .ok (.iload_n 2, 1) := by decide +kernel
theorem dX8_columnFor_29 : decode cX8_columnFor 29 = .ok (.ifCond .ge 7, 3) := by decide +kernel
theorem dX8_columnFor_32 : decode cX8_columnFor 32 = .ok (.iconst (-1), 1) := by decide +kernel
theorem dX8_columnFor_33 : decode cX8_columnFor 33 = .ok (.goto 10, 3) := by decide +kernel
theorem dX8_columnFor_36 : decode cX8_columnFor 36 = .ok (.aload_n 0, 1) := by decide +kernel
theorem dX8_columnFor_37 : decode cX8_columnFor 37 = .ok (.iload_n 1, 1) := by decide +kernel
theorem dX8_columnFor_38 : decode cX8_columnFor 38 = .ok (.iload_n 3, 1) := by decide +kernel
theorem dX8_columnFor_39 : decode cX8_columnFor 39 = .ok (.iload_n 2, 1) := by decide +kernel
theorem dX8_columnFor_40 : decode cX8_columnFor 40 = .ok (.invokevirtual 62, 3) := by decide +kernel
theorem dX8_columnFor_43 : decode cX8_columnFor 43 = .ok (.istore 4, 2) := by decide +kernel
theorem dX8_columnFor_45 : decode cX8_columnFor 45 = .ok (.iload 4, 2) := by decide +kernel
theorem dX8_columnFor_47 : decode cX8_columnFor 47 = .ok (.ifCond .lt 23, 3) := by decide +kernel
theorem dX8_columnFor_50 : decode cX8_columnFor 50 = .ok (.iload 4, 2) := by decide +kernel
theorem dX8_columnFor_52 : decode cX8_columnFor 52 = .ok (.ifCond .ne 20, 3) := by decide +kernel
theorem dX8_columnFor_55 : decode cX8_columnFor 55 = .ok (.aload_n 0, 1) := by decide +kernel
theorem dX8_columnFor_56 : decode cX8_columnFor 56 = .ok (.getfield 20, 3) := by decide +kernel
theorem dX8_columnFor_59 : decode cX8_columnFor 59 = .ok (.iload_n 3, 1) := by decide +kernel
theorem dX8_columnFor_60 : decode cX8_columnFor 60 = .ok (.iaload, 1) := by decide +kernel
theorem dX8_columnFor_61 : decode cX8_columnFor 61 = .ok (.aload_n 0, 1) := by decide +kernel
theorem dX8_columnFor_62 : decode cX8_columnFor 62 = .ok (.getfield 20, 3) := by decide +kernel
theorem dX8_columnFor_65 : decode cX8_columnFor 65 = .ok (.iload_n 2, 1) := by decide +kernel
theorem dX8_columnFor_66 : decode cX8_columnFor 66 = .ok (.iaload, 1) := by decide +kernel
theorem dX8_columnFor_67 : decode cX8_columnFor 67 = .ok (.if_icmp .ge 5, 3) := by decide +kernel
theorem dX8_columnFor_70 : decode cX8_columnFor 70 = .ok (.iload_n 3, 1) := by decide +kernel
theorem dX8_columnFor_71 : decode cX8_columnFor 71 = .ok (.istore_n 2, 1) := by decide +kernel
theorem dX8_columnFor_72 : decode cX8_columnFor 72 = .ok (.iinc 3 1, 3) := by decide +kernel
theorem dX8_columnFor_75 : decode cX8_columnFor 75 = .ok (.goto (-71), 3) := by decide +kernel
theorem dX8_columnFor_78 : decode cX8_columnFor 78 = .ok (.iload_n 2, 1) := by decide +kernel
theorem dX8_columnFor_79 : decode cX8_columnFor 79 = .ok (.ireturn, 1) := by decide +kernel
theorem dX8_compareRatios_0 : decode cX8_compareRatios 0 = .ok (.aload_n 0, 1) := by decide +kernel
theorem dX8_compareRatios_1 : decode cX8_compareRatios 1 = .ok (.getfield 13, 3) := by decide +kernel
theorem dX8_compareRatios_4 : decode cX8_compareRatios 4 = .ok (.iload_n 1, 1) := by decide +kernel
theorem dX8_compareRatios_5 : decode cX8_compareRatios 5 = .ok (.aaload, 1) := by decide +kernel
theorem dX8_compareRatios_6 : decode cX8_compareRatios 6 = .ok (.iload_n 2, 1) := by decide +kernel
theorem dX8_compareRatios_7 : decode cX8_compareRatios 7 = .ok (.laload, 1) := by decide +kernel
theorem dX8_compareRatios_8 : decode cX8_compareRatios 8 = .ok (.lstore 4, 2) := by decide +kernel
theorem dX8_compareRatios_10 : decode cX8_compareRatios 10 = .ok (.aload_n 0, 1) := by decide +kernel
theorem dX8_compareRatios_11 : decode cX8_compareRatios 11 = .ok (.getfield 13, 3) := by decide +kernel
theorem dX8_compareRatios_14 : decode cX8_compareRatios 14 = .ok (.iload_n 1, 1) := by decide +kernel
theorem dX8_compareRatios_15 : decode cX8_compareRatios 15 = .ok (.aaload, 1) := by decide +kernel
theorem dX8_compareRatios_16 : decode cX8_compareRatios 16 = .ok (.iload_n 3, 1) := by decide +kernel
theorem dX8_compareRatios_17 : decode cX8_compareRatios 17 = .ok (.laload, 1) := by decide +kernel
theorem dX8_compareRatios_18 : decode cX8_compareRatios 18 = .ok (.lstore 6, 2) := by decide +kernel
theorem dX8_compareRatios_20 : decode cX8_compareRatios 20 = .ok (.iconst 0, 1) := by decide +kernel
theorem dX8_compareRatios_21 : decode cX8_compareRatios 21 = .ok (.istore 8, 2) := by decide +kernel
theorem dX8_compareRatios_23 : decode cX8_compareRatios 23 = .ok (.iload 8, 2) := by decide +kernel
theorem dX8_compareRatios_25 : decode cX8_compareRatios 25 = .ok (.aload_n 0, 1) := by decide +kernel
theorem dX8_compareRatios_26 : decode cX8_compareRatios 26 = .ok (.getfield 29, 3) := by decide +kernel
theorem dX8_compareRatios_29 : decode cX8_compareRatios 29 = .ok (.if_icmp .ge 59, 3) := by decide +kernel
theorem dX8_compareRatios_32 : decode cX8_compareRatios 32 = .ok (.aload_n 0, 1) := by decide +kernel
theorem dX8_compareRatios_33 : decode cX8_compareRatios 33 = .ok (.getfield 13, 3) := by decide +kernel
theorem dX8_compareRatios_36 : decode cX8_compareRatios 36 = .ok (.iload 8, 2) := by decide +kernel
theorem dX8_compareRatios_38 : decode cX8_compareRatios 38 = .ok (.aaload, 1) := by decide +kernel
theorem dX8_compareRatios_39 : decode cX8_compareRatios 39 = .ok (.iload_n 2, 1) := by decide +kernel
theorem dX8_compareRatios_40 : decode cX8_compareRatios 40 = .ok (.laload, 1) := by decide +kernel
theorem dX8_compareRatios_41 : decode cX8_compareRatios 41 = .ok (.lload 6, 2) := by decide +kernel
theorem dX8_compareRatios_43 : decode cX8_compareRatios 43 = .ok (.lmul, 1) := by decide +kernel
theorem dX8_compareRatios_44 : decode cX8_compareRatios 44 = .ok (.lstore 9, 2) := by decide +kernel
theorem dX8_compareRatios_46 : decode cX8_compareRatios 46 = .ok (.aload_n 0, 1) := by decide +kernel
theorem dX8_compareRatios_47 : decode cX8_compareRatios 47 = .ok (.getfield 13, 3) := by decide +kernel
theorem dX8_compareRatios_50 : decode cX8_compareRatios 50 = .ok (.iload 8, 2) := by decide +kernel
theorem dX8_compareRatios_52 : decode cX8_compareRatios 52 = .ok (.aaload, 1) := by decide +kernel
theorem dX8_compareRatios_53 : decode cX8_compareRatios 53 = .ok (.iload_n 3, 1) := by decide +kernel
theorem dX8_compareRatios_54 : decode cX8_compareRatios 54 = .ok (.laload, 1) := by decide +kernel
theorem dX8_compareRatios_55 : decode cX8_compareRatios 55 = .ok (.lload 4, 2) := by decide +kernel
theorem dX8_compareRatios_57 : decode cX8_compareRatios 57 = .ok (.lmul, 1) := by decide +kernel
theorem dX8_compareRatios_58 : decode cX8_compareRatios 58 = .ok (.lstore 11, 2) := by decide +kernel
theorem dX8_compareRatios_60 : decode cX8_compareRatios 60 = .ok (.lload 9, 2) := by decide +kernel
theorem dX8_compareRatios_62 : decode cX8_compareRatios 62 = .ok (.lload 11, 2) := by decide +kernel
theorem dX8_compareRatios_64 : decode cX8_compareRatios 64 = .ok (.lcmp, 1) := by decide +kernel
theorem dX8_compareRatios_65 : decode cX8_compareRatios 65 = .ok (.ifCond .eq 17, 3) := by decide +kernel
theorem dX8_compareRatios_68 : decode cX8_compareRatios 68 = .ok (.lload 9, 2) := by decide +kernel
theorem dX8_compareRatios_70 : decode cX8_compareRatios 70 = .ok (.lload 11, 2) := by decide +kernel
theorem dX8_compareRatios_72 : decode cX8_compareRatios 72 = .ok (.lcmp, 1) := by decide +kernel
theorem dX8_compareRatios_73 : decode cX8_compareRatios 73 = .ok (.ifCond .ge 7, 3) := by decide +kernel
theorem dX8_compareRatios_76 : decode cX8_compareRatios 76 = .ok (.iconst (-1), 1) := by decide +kernel
theorem dX8_compareRatios_77 : decode cX8_compareRatios 77 = .ok (.goto 4, 3) := by decide +kernel
theorem dX8_compareRatios_80 : decode cX8_compareRatios 80 = .ok (.iconst 1, 1) := by decide +kernel
theorem dX8_compareRatios_81 : decode cX8_compareRatios 81 = .ok (.ireturn, 1) := by decide +kernel
theorem dX8_compareRatios_82 : decode cX8_compareRatios 82 = .ok (.iinc 8 1, 3) := by decide +kernel
theorem dX8_compareRatios_85 : decode cX8_compareRatios 85 = .ok (.goto (-62), 3) := by decide +kernel
theorem dX8_compareRatios_88 : decode cX8_compareRatios 88 = .ok (.iconst 0, 1) := by decide +kernel
theorem dX8_compareRatios_89 : decode cX8_compareRatios 89 = .ok (.ireturn, 1) := by decide +kernel
set_option maxRecDepth 20000 in
theorem ggX8_pivot_X8_changeLine : GoodIn wsX8_pivot wsX8_changeLine := goodIn_r _ [11, 4, 2, 12, 13, 14, 15, 16, 17, 18] (by decide +kernel) (by decide +kernel)
set_option maxRecDepth 20000 in
theorem gX8_pivot_X8_changeLine : GoodIn wsX8_pivot (wsV RX8 66 RX8 yX8_changeLine wsX8_changeLine) := goodIn_app (goodIn_of _ (by decide +kernel)) ggX8_pivot_X8_changeLine
theorem dX8_pivot_0 : decode cX8_pivot 0 = .ok (.aload_n 0, 1) := by decide +kernel
theorem dX8_pivot_1 : decode cX8_pivot 1 = .ok (.getfield 13, 3) := by decide +kernel
theorem dX8_pivot_4 : decode cX8_pivot 4 = .ok (.iload_n 1, 1) := by decide +kernel
theorem dX8_pivot_5 : decode cX8_pivot 5 = .ok (.aaload, 1) := by decide +kernel
theorem dX8_pivot_6 : decode cX8_pivot 6 = .ok (.astore_n 3, 1) := by decide +kernel
theorem dX8_pivot_7 : decode cX8_pivot 7 = .ok (.aload_n 3, 1) := by decide +kernel
theorem dX8_pivot_8 : decode cX8_pivot 8 = .ok (.iload_n 2, 1) := by decide +kernel
theorem dX8_pivot_9 : decode cX8_pivot 9 = .ok (.laload, 1) := by decide +kernel
theorem dX8_pivot_10 : decode cX8_pivot 10 = .ok (.lneg, 1) := by decide +kernel
theorem dX8_pivot_11 : decode cX8_pivot 11 = .ok (.lstore 4, 2) := by decide +kernel
theorem dX8_pivot_13 : decode cX8_pivot 13 = .ok (.lload 4, 2) := by decide +kernel
theorem dX8_pivot_15 : decode cX8_pivot 15 = .ok (.lconst 1, 1) := by decide +kernel
theorem dX8_pivot_16 : decode cX8_pivot 16 = .ok (.lcmp, 1) := by decide +kernel
theorem dX8_pivot_17 : decode cX8_pivot 17 = .ok (.ifCond .lt 12, 3) := by decide +kernel
theorem dX8_pivot_20 : decode cX8_pivot 20 = .ok (.aload_n 0, 1) := by decide +kernel
theorem dX8_pivot_21 : decode cX8_pivot 21 = .ok (.getfield 39, 3) := by decide +kernel
theorem dX8_pivot_24 : decode cX8_pivot 24 = .ok (.lconst 1, 1) := by decide +kernel
theorem dX8_pivot_25 : decode cX8_pivot 25 = .ok (.lcmp, 1) := by decide +kernel
theorem dX8_pivot_26 : decode cX8_pivot 26 = .ok (.ifCond .ge 4, 3) := by decide +kernel
theorem dX8_pivot_29 : decode cX8_pivot 29 = .ok (.return_, 1) := by decide +kernel
theorem dX8_pivot_30 : decode cX8_pivot 30 = .ok (.iconst 0, 1) := by decide +kernel
theorem dX8_pivot_31 : decode cX8_pivot 31 = .ok (.istore 6, 2) := by decide +kernel
theorem dX8_pivot_33 : decode cX8_pivot 33 = .ok (.iload 6, 2) := by decide +kernel
theorem dX8_pivot_35 : decode cX8_pivot 35 = .ok (.aload_n 0, 1) := by decide +kernel
theorem dX8_pivot_36 : decode cX8_pivot 36 = .ok (.getfield 33, 3) := by decide +kernel
theorem dX8_pivot_39 : decode cX8_pivot 39 = .ok (.if_icmp .ge 30, 3) := by decide +kernel
theorem dX8_pivot_42 : decode cX8_pivot 42 = .ok (.iload 6, 2) := by decide +kernel
theorem dX8_pivot_44 : decode cX8_pivot 44 = .ok (.iload_n 1, 1) := by decide +kernel
theorem dX8_pivot_45 : decode cX8_pivot 45 = .ok (.if_icmp .eq 18, 3) := by decide +kernel
theorem dX8_pivot_48 : decode cX8_pivot 48 = .ok (.aload_n 0, 1) := by decide +kernel
theorem dX8_pivot_49 : decode cX8_pivot 49 = .ok (.aload_n 0, 1) := by decide +kernel
theorem dX8_pivot_50 : decode cX8_pivot 50 = .ok (.getfield 13, 3) := by decide +kernel
theorem dX8_pivot_53 : decode cX8_pivot 53 = .ok (.iload 6, 2) := by decide +kernel
theorem dX8_pivot_55 : decode cX8_pivot 55 = .ok (.aaload, 1) := by decide +kernel
theorem dX8_pivot_56 : decode cX8_pivot 56 = .ok (.aload_n 3, 1) := by decide +kernel
theorem dX8_pivot_57 : decode cX8_pivot 57 = .ok (.iload_n 2, 1) := by decide +kernel
theorem dX8_pivot_58 : decode cX8_pivot 58 = .ok (.lload 4, 2) := by decide +kernel
theorem dX8_pivot_60 : decode cX8_pivot 60 = .ok (.invokevirtual 66, 3) := by decide +kernel
theorem dX8_pivot_63 : decode cX8_pivot 63 = .ok (.iinc 6 1, 3) := by decide +kernel
theorem dX8_pivot_66 : decode cX8_pivot 66 = .ok (.goto (-33), 3) := by decide +kernel
theorem dX8_pivot_69 : decode cX8_pivot 69 = .ok (.iconst 0, 1) := by decide +kernel
theorem dX8_pivot_70 : decode cX8_pivot 70 = .ok (.istore 6, 2) := by decide +kernel
theorem dX8_pivot_72 : decode cX8_pivot 72 = .ok (.iload 6, 2) := by decide +kernel
theorem dX8_pivot_74 : decode cX8_pivot 74 = .ok (.aload_n 0, 1) := by decide +kernel
theorem dX8_pivot_75 : decode cX8_pivot 75 = .ok (.getfield 36, 3) := by decide +kernel
theorem dX8_pivot_78 : decode cX8_pivot 78 = .ok (.if_icmp .gt 18, 3) := by decide +kernel
theorem dX8_pivot_81 : decode cX8_pivot 81 = .ok (.aload_n 3, 1) := by decide +kernel
theorem dX8_pivot_82 : decode cX8_pivot 82 = .ok (.iload 6, 2) := by decide +kernel
theorem dX8_pivot_84 : decode cX8_pivot 84 = .ok (.aload_n 3, 1) := by decide +kernel
theorem dX8_pivot_85 : decode cX8_pivot 85 = .ok (.iload 6, 2) := by decide +kernel
theorem dX8_pivot_87 : decode cX8_pivot 87 = .ok (.laload, 1) := by decide +kernel
theorem dX8_pivot_88 : decode cX8_pivot 88 = .ok (.lneg, 1) := by decide +kernel
theorem dX8_pivot_89 : decode cX8_pivot 89 = .ok (.lastore, 1) := by decide +kernel
theorem dX8_pivot_90 : decode cX8_pivot 90 = .ok (.iinc 6 1, 3) := by decide +kernel
theorem dX8_pivot_93 : decode cX8_pivot 93 = .ok (.goto (-21), 3) := by decide +kernel
theorem dX8_pivot_96 : decode cX8_pivot 96 = .ok (.aload_n 3, 1) := by decide +kernel
theorem dX8_pivot_97 : decode cX8_pivot 97 = .ok (.iload_n 2, 1) := by decide +kernel
theorem dX8_pivot_98 : decode cX8_pivot 98 = .ok (.aload_n 0, 1) := by decide +kernel
theorem dX8_pivot_99 : decode cX8_pivot 99 = .ok (.getfield 39, 3) := by decide +kernel
theorem dX8_pivot_102 : decode cX8_pivot 102 = .ok (.lneg, 1) := by decide +kernel
theorem dX8_pivot_103 : decode cX8_pivot 103 = .ok (.lastore, 1) := by decide +kernel
theorem dX8_pivot_104 : decode cX8_pivot 104 = .ok (.aload_n 0, 1) := by decide +kernel
theorem dX8_pivot_105 : decode cX8_pivot 105 = .ok (.lload 4, 2) := by decide +kernel
theorem dX8_pivot_107 : decode cX8_pivot 107 = .ok (.putfield 39, 3) := by decide +kernel
theorem dX8_pivot_110 : decode cX8_pivot 110 = .ok (.aload_n 0, 1) := by decide +kernel
theorem dX8_pivot_111 : decode cX8_pivot 111 = .ok (.getfield 16, 3) := by decide +kernel
theorem dX8_pivot_114 : decode cX8_pivot 114 = .ok (.iload_n 1, 1) := by decide +kernel
theorem dX8_pivot_115 : decode cX8_pivot 115 = .ok (.iaload, 1) := by decide +kernel
theorem dX8_pivot_116 : decode cX8_pivot 116 = .ok (.istore 6, 2) := by decide +kernel
theorem dX8_pivot_118 : decode cX8_pivot 118 = .ok (.aload_n 0, 1) := by decide +kernel
theorem dX8_pivot_119 : decode cX8_pivot 119 = .ok (.getfield 16, 3) := by decide +kernel
theorem dX8_pivot_122 : decode cX8_pivot 122 = .ok (.iload_n 1, 1) := by decide +kernel
theorem dX8_pivot_123 : decode cX8_pivot 123 = .ok (.aload_n 0, 1) := by decide +kernel
theorem dX8_pivot_124 : decode cX8_pivot 124 = .ok (.getfield 20, 3) := by decide +kernel
theorem dX8_pivot_127 : decode cX8_pivot 127 = .ok (.iload_n 2, 1) := by decide +kernel
theorem dX8_pivot_128 : decode cX8_pivot 128 = .ok (.iaload, 1) := by decide +kernel
theorem dX8_pivot_129 : decode cX8_pivot 129 = .ok (.iastore, 1) := by decide +kernel
theorem dX8_pivot_130 : decode cX8_pivot 130 = .ok (.aload_n 0, 1) := by decide +kernel
theorem dX8_pivot_131 : decode cX8_pivot 131 = .ok (.getfield 20, 3) := by decide +kernel
theorem dX8_pivot_134 : decode cX8_pivot 134 = .ok (.iload_n 2, 1) := by decide +kernel
theorem dX8_pivot_135 : decode cX8_pivot 135 = .ok (.iload 6, 2) := by decide +kernel
theorem dX8_pivot_137 : decode cX8_pivot 137 = .ok (.iastore, 1) := by decide +kernel
theorem dX8_pivot_138 : decode cX8_pivot 138 = .ok (.return_, 1) := by decide +kernel
theorem dX8_changeLine_0 : decode cX8_changeLine 0 = .ok (.aload_n 1, 1) := by decide +kernel
theorem dX8_changeLine_1 : decode cX8_changeLine 1 = .ok (.iload_n 3, 1) := by decide +kernel
theorem dX8_changeLine_2 : decode cX8_changeLine 2 = .ok (.laload, 1) := by decide +kernel
theorem dX8_changeLine_3 : decode cX8_changeLine 3 = .ok (.lstore 6, 2) := by decide +kernel
theorem dX8_changeLine_5 : decode cX8_changeLine 5 = .ok (.iconst 0, 1) := by decide +kernel
theorem dX8_changeLine_6 : decode cX8_changeLine 6 = .ok (.istore 8, 2) := by decide +kernel
theorem dX8_changeLine_8 : decode cX8_changeLine 8 = .ok (.iload 8, 2) := by decide +kernel
theorem dX8_changeLine_10 : decode cX8_changeLine 10 = .ok (.aload_n 0, 1) := by decide +kernel
theorem dX8_changeLine_11 : decode cX8_changeLine 11 = .ok (.getfield 36, 3) := by decide +kernel
theorem dX8_changeLine_14 : decode cX8_changeLine 14 = .ok (.if_icmp .gt 48, 3) := by decide +kernel
theorem dX8_changeLine_17 : decode cX8_changeLine 17 = .ok (.iload 8, 2) := by decide +kernel
theorem dX8_changeLine_19 : decode cX8_changeLine 19 = .ok (.iload_n 3, 1) := by decide +kernel
theorem dX8_changeLine_20 : decode cX8_changeLine 20 = .ok (.if_icmp .eq 36, 3) := by decide +kernel
theorem dX8_changeLine_23 : decode cX8_changeLine 23 = .ok (.aload_n 0, 1) := by decide +kernel
theorem dX8_changeLine_24 : decode cX8_changeLine 24 = .ok (.getfield 39, 3) := by decide +kernel
theorem dX8_changeLine_27 : decode cX8_changeLine 27 = .ok (.lconst 0, 1) := by decide +kernel
theorem dX8_changeLine_28 : decode cX8_changeLine 28 = .ok (.lcmp, 1) := by decide +kernel
theorem dX8_changeLine_29 : decode cX8_changeLine 29 = .ok (.ifCond .eq 27, 3) := by decide +kernel
theorem dX8_changeLine_32 : decode cX8_changeLine 32 = .ok (.aload_n 1, 1) := by decide +kernel
theorem dX8_changeLine_33 : decode cX8_changeLine 33 = .ok (.iload 8, 2) := by decide +kernel
theorem dX8_changeLine_35 : decode cX8_changeLine 35 = .ok (.lload 4, 2) := by decide +kernel
theorem dX8_changeLine_37 : decode cX8_changeLine 37 = .ok (.aload_n 1, 1) := by decide +kernel
theorem dX8_changeLine_38 : decode cX8_changeLine 38 = .ok (.iload 8, 2) := by decide +kernel
theorem dX8_changeLine_40 : decode cX8_changeLine 40 = .ok (.laload, 1) := by decide +kernel
theorem dX8_changeLine_41 : decode cX8_changeLine 41 = .ok (.lmul, 1) := by decide +kernel
theorem dX8_changeLine_42 : decode cX8_changeLine 42 = .ok (.lload 6, 2) := by decide +kernel
theorem dX8_changeLine_44 : decode cX8_changeLine 44 = .ok (.aload_n 2, 1) := by decide +kernel
theorem dX8_changeLine_45 : decode cX8_changeLine 45 = .ok (.iload 8, 2) := by decide +kernel
theorem dX8_changeLine_47 : decode cX8_changeLine 47 = .ok (.laload, 1) := by decide +kernel
theorem dX8_changeLine_48 : decode cX8_changeLine 48 = .ok (.lmul, 1) := by decide +kernel
theorem dX8_changeLine_49 : decode cX8_changeLine 49 = .ok (.ladd, 1) := by decide +kernel
theorem dX8_changeLine_50 : decode cX8_changeLine 50 = .ok (.aload_n 0, 1) := by decide +kernel
theorem dX8_changeLine_51 : decode cX8_changeLine 51 = .ok (.getfield 39, 3) := by decide +kernel
theorem dX8_changeLine_54 : decode cX8_changeLine 54 = .ok (.ldiv, 1) := by decide +kernel
theorem dX8_changeLine_55 : decode cX8_changeLine 55 = .ok (.lastore, 1) := by decide +kernel
theorem dX8_changeLine_56 : decode cX8_changeLine 56 = .ok (.iinc 8 1, 3) := by decide +kernel
theorem dX8_changeLine_59 : decode cX8_changeLine 59 = .ok (.goto (-51), 3) := by decide +kernel
theorem dX8_changeLine_62 : decode cX8_changeLine 62 = .ok (.return_, 1) := by decide +kernel
theorem kk_X8_lineBelowZero_0 : Cond.fieldLink RX8 29 "PaidBySigns$Table" "goals" "I" ∈ wsX8_lineBelowZero := by decide +kernel
theorem kk_X8_lineBelowZero_1 : Cond.fieldLink RX8 33 "PaidBySigns$Table" "lines" "I" ∈ wsX8_lineBelowZero := by decide +kernel
theorem kk_X8_lineBelowZero_2 : Cond.fieldLink RX8 13 "PaidBySigns$Table" "entry" "[[J" ∈ wsX8_lineBelowZero := by decide +kernel
theorem kk_X8_lineBelowZero_3 : Cond.fieldLink RX8 16 "PaidBySigns$Table" "lineName" "[I" ∈ wsX8_lineBelowZero := by decide +kernel
theorem kk_X8_columnFor_0 : Cond.fieldLink RX8 36 "PaidBySigns$Table" "columns" "I" ∈ wsX8_columnFor := by decide +kernel
theorem kk_X8_columnFor_1 : Cond.fieldLink RX8 13 "PaidBySigns$Table" "entry" "[[J" ∈ wsX8_columnFor := by decide +kernel
theorem kk_X8_compareRatios_0 : Cond.fieldLink RX8 13 "PaidBySigns$Table" "entry" "[[J" ∈ wsX8_compareRatios := by decide +kernel
theorem kk_X8_compareRatios_1 : Cond.fieldLink RX8 29 "PaidBySigns$Table" "goals" "I" ∈ wsX8_compareRatios := by decide +kernel
theorem kk_X8_columnFor_2 : Cond.fieldLink RX8 20 "PaidBySigns$Table" "columnName" "[I" ∈ wsX8_columnFor := by decide +kernel
theorem kk_X8_pivot_0 : Cond.fieldLink RX8 13 "PaidBySigns$Table" "entry" "[[J" ∈ wsX8_pivot := by decide +kernel
theorem kk_X8_pivot_1 : Cond.fieldLink RX8 39 "PaidBySigns$Table" "base" "J" ∈ wsX8_pivot := by decide +kernel
theorem kk_X8_pivot_2 : Cond.fieldLink RX8 33 "PaidBySigns$Table" "lines" "I" ∈ wsX8_pivot := by decide +kernel
theorem kk_X8_pivot_3 : Cond.fieldLink RX8 36 "PaidBySigns$Table" "columns" "I" ∈ wsX8_pivot := by decide +kernel
theorem kk_X8_pivot_4 : Cond.fieldLink RX8 16 "PaidBySigns$Table" "lineName" "[I" ∈ wsX8_pivot := by decide +kernel
theorem kk_X8_pivot_5 : Cond.fieldLink RX8 20 "PaidBySigns$Table" "columnName" "[I" ∈ wsX8_pivot := by decide +kernel
theorem kk_X8_changeLine_0 : Cond.fieldLink RX8 36 "PaidBySigns$Table" "columns" "I" ∈ wsX8_changeLine := by decide +kernel
theorem kk_X8_changeLine_1 : Cond.fieldLink RX8 39 "PaidBySigns$Table" "base" "J" ∈ wsX8_changeLine := by decide +kernel
theorem iw_X8_lineBelowZero_X8 : ∀ w ∈ wsX80, w ∈ wsX8_lineBelowZero := by decide +kernel
theorem iw_X8_columnFor_X8 : ∀ w ∈ wsX80, w ∈ wsX8_columnFor := by decide +kernel
theorem iw_X8_compareRatios_X8 : ∀ w ∈ wsX80, w ∈ wsX8_compareRatios := by decide +kernel
theorem iw_X8_pivot_X8 : ∀ w ∈ wsX80, w ∈ wsX8_pivot := by decide +kernel
theorem iw_X8_changeLine_X8 : ∀ w ∈ wsX80, w ∈ wsX8_changeLine := by decide +kernel
