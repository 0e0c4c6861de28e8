abbrev cX8_lineBelowZero : ByteArray := prog_10_method_4_code
def yX8_lineBelowZero : MethodName := ⟨RX8, "lineBelowZero", "()I"⟩
abbrev cX8_columnFor : ByteArray := prog_10_method_5_code
def yX8_columnFor : MethodName := ⟨RX8, "columnFor", "(I)I"⟩
abbrev cX8_compareRatios : ByteArray := prog_10_method_6_code
def yX8_compareRatios : MethodName := ⟨RX8, "compareRatios", "(III)I"⟩
abbrev cX8_pivot : ByteArray := prog_10_method_7_code
def yX8_pivot : MethodName := ⟨RX8, "pivot", "(II)V"⟩
abbrev cX8_changeLine : ByteArray := prog_10_method_8_code
def yX8_changeLine : MethodName := ⟨RX8, "changeLine", "([J[JIJ)V"⟩
def wsX8_lineBelowZero : List Cond := .code yX8_lineBelowZero cX8_lineBelowZero 3 (some .int) :: ([.fieldLink RX8 29 "PaidBySigns$Table" "goals" "I", .fieldLink RX8 33 "PaidBySigns$Table" "lines" "I", .fieldLink RX8 13 "PaidBySigns$Table" "entry" "[[J", .fieldLink RX8 16 "PaidBySigns$Table" "lineName" "[I"] ++ wsX80)
def wsX8_compareRatios : List Cond := .code yX8_compareRatios cX8_compareRatios 13 (some .int) :: ([.fieldLink RX8 13 "PaidBySigns$Table" "entry" "[[J", .fieldLink RX8 29 "PaidBySigns$Table" "goals" "I"] ++ wsX80)
def wsX8_columnFor : List Cond := .code yX8_columnFor cX8_columnFor 5 (some .int) :: ([.fieldLink RX8 36 "PaidBySigns$Table" "columns" "I", .fieldLink RX8 13 "PaidBySigns$Table" "entry" "[[J", .fieldLink RX8 20 "PaidBySigns$Table" "columnName" "[I", .methodLink RX8 62 yX8_compareRatios, .instanceMethod yX8_compareRatios, .selects RX8 yX8_compareRatios yX8_compareRatios, .initialized RX8, .code yX8_compareRatios cX8_compareRatios 13 (some .int), .fieldLink RX8 29 "PaidBySigns$Table" "goals" "I"] ++ wsX80)
def wsX8_changeLine : List Cond := .code yX8_changeLine cX8_changeLine 9 none :: ([.fieldLink RX8 36 "PaidBySigns$Table" "columns" "I", .fieldLink RX8 39 "PaidBySigns$Table" "base" "J"] ++ wsX80)
def wsX8_pivot : List Cond := .code yX8_pivot cX8_pivot 7 none :: ([.fieldLink RX8 13 "PaidBySigns$Table" "entry" "[[J", .fieldLink RX8 39 "PaidBySigns$Table" "base" "J", .fieldLink RX8 33 "PaidBySigns$Table" "lines" "I", .fieldLink RX8 36 "PaidBySigns$Table" "columns" "I", .fieldLink RX8 16 "PaidBySigns$Table" "lineName" "[I", .fieldLink RX8 20 "PaidBySigns$Table" "columnName" "[I", .methodLink RX8 66 yX8_changeLine, .instanceMethod yX8_changeLine, .selects RX8 yX8_changeLine yX8_changeLine, .initialized RX8, .code yX8_changeLine cX8_changeLine 9 none] ++ wsX80)
theorem dX8_lineBelowZero_0 : decode cX8_lineBelowZero 0 = .ok (.iconst (-1), 1) := by decide +kernel
theorem dX8_lineBelowZero_1 : decode cX8_lineBelowZero 1 = .ok (.istore_n 1, 1) := by decide +kernel
theorem dX8_lineBelowZero_2 : decode cX8_lineBelowZero 2 = .ok (.aload_n 0, 1) := by decide +kernel
theorem dX8_lineBelowZero_3 : decode cX8_lineBelowZero 3 = .ok (.getfield 29, 3) := by decide +kernel
theorem dX8_lineBelowZero_6 : decode cX8_lineBelowZero 6 = .ok (.istore_n 2, 1) := by decide +kernel
theorem dX8_lineBelowZero_7 : decode cX8_lineBelowZero 7 = .ok (.iload_n 2, 1) := by decide +kernel
theorem dX8_lineBelowZero_8 : decode cX8_lineBelowZero 8 = .ok (.aload_n 0, 1) := by decide +kernel
theorem dX8_lineBelowZero_9 : decode cX8_lineBelowZero 9 = .ok (.getfield 33, 3) := by decide +kernel
theorem dX8_lineBelowZero_12 : decode cX8_lineBelowZero 12 = .ok (.if_icmp .ge 43, 3) := by decide +kernel
theorem dX8_lineBelowZero_15 : decode cX8_lineBelowZero 15 = .ok (.aload_n 0, 1) := by decide +kernel
theorem dX8_lineBelowZero_16 : decode cX8_lineBelowZero 16 = .ok (.getfield 13, 3) := by decide +kernel
theorem dX8_lineBelowZero_19 : decode cX8_lineBelowZero 19 = .ok (.iload_n 2, 1) := by decide +kernel
theorem dX8_lineBelowZero_20 : decode cX8_lineBelowZero 20 = .ok (.aaload, 1) := by decide +kernel
theorem dX8_lineBelowZero_21 : decode cX8_lineBelowZero 21 = .ok (.iconst 0, 1) := by decide +kernel
theorem dX8_lineBelowZero_22 : decode cX8_lineBelowZero 22 = .ok (.laload, 1) := by decide +kernel
theorem dX8_lineBelowZero_23 : decode cX8_lineBelowZero 23 = .ok (.lconst 0, 1) := by decide +kernel
theorem dX8_lineBelowZero_24 : decode cX8_lineBelowZero 24 = .ok (.lcmp, 1) := by decide +kernel
theorem dX8_lineBelowZero_25 : decode cX8_lineBelowZero 25 = .ok (.ifCond .ge 24, 3) := by decide +kernel
theorem dX8_lineBelowZero_28 : decode cX8_lineBelowZero 28 = .ok (.iload_n 1, 1) := by decide +kernel
theorem dX8_lineBelowZero_29 : decode cX8_lineBelowZero 29 = .ok (.ifCond .lt 18, 3) := by decide +kernel
theorem dX8_lineBelowZero_32 : decode cX8_lineBelowZero 32 = .ok (.aload_n 0, 1) := by decide +kernel
theorem dX8_lineBelowZero_33 : decode cX8_lineBelowZero 33 = .ok (.getfield 16, 3) := by decide +kernel
theorem dX8_lineBelowZero_36 : decode cX8_lineBelowZero 36 = .ok (.iload_n 2, 1) := by decide +kernel
theorem dX8_lineBelowZero_37 : decode cX8_lineBelowZero 37 = .ok (.iaload, 1) := by decide +kernel
theorem dX8_lineBelowZero_38 : decode cX8_lineBelowZero 38 = .ok (.aload_n 0, 1) := by decide +kernel
theorem dX8_lineBelowZero_39 : decode cX8_lineBelowZero 39 = .ok (.getfield 16, 3) := by decide +kernel
theorem dX8_lineBelowZero_42 : decode cX8_lineBelowZero 42 = .ok (.iload_n 1, 1) := by decide +kernel
theorem dX8_lineBelowZero_43 : decode cX8_lineBelowZero 43 = .ok (.iaload, 1) := by decide +kernel
theorem dX8_lineBelowZero_44 : decode cX8_lineBelowZero 44 = .ok (.if_icmp .ge 5, 3) := by decide +kernel
theorem dX8_lineBelowZero_47 : decode cX8_lineBelowZero 47 = .ok (.iload_n 2, 1) := by decide +kernel
theorem dX8_lineBelowZero_48 : decode cX8_lineBelowZero 48 = .ok (.istore_n 1, 1) := by decide +kernel
theorem dX8_lineBelowZero_49 : decode cX8_lineBelowZero 49 = .ok (.iinc 2 1, 3) := by decide +kernel
theorem dX8_lineBelowZero_52 : decode cX8_lineBelowZero 52 = .ok (.goto (-45), 3) := by decide +kernel
theorem dX8_lineBelowZero_55 : decode cX8_lineBelowZero 55 = .ok (.iload_n 1, 1) := by decide +kernel
theorem dX8_lineBelowZero_56 : decode cX8_lineBelowZero 56 = .ok (.ireturn, 1) := by decide +kernel
set_option maxRecDepth 20000 in
theorem ggX8_columnFor_X8_compareRatios : GoodIn wsX8_columnFor wsX8_compareRatios := goodIn_r _ [8, 2, 9, 10, 11, 12, 13, 14, 15, 16] (by decide +kernel) (by decide +kernel)
set_option maxRecDepth 20000 in
theorem gX8_columnFor_X8_compareRatios : GoodIn wsX8_columnFor (wsV RX8 62 RX8 yX8_compareRatios wsX8_compareRatios) := goodIn_app (goodIn_of _ (by decide +kernel)) ggX8_columnFor_X8_compareRatios
theorem dX8_columnFor_0 : decode cX8_columnFor 0 = .ok (.iconst (-1), 1) := by decide +kernel
theorem dX8_columnFor_1 : decode cX8_columnFor 1 = .ok (.istore_n 2, 1) := by decide +kernel
theorem dX8_columnFor_2 : decode cX8_columnFor 2 = .ok (.iconst 1, 1) := by decide +kernel
theorem dX8_columnFor_3 : decode cX8_columnFor 3 = .ok (.istore_n 3, 1) := by decide +kernel
theorem dX8_columnFor_4 : decode cX8_columnFor 4 = .ok (.iload_n 3, 1) := by decide +kernel
theorem dX8_columnFor_5 : decode cX8_columnFor 5 = .ok (.aload_n 0, 1) := by decide +kernel
theorem dX8_columnFor_6 : decode cX8_columnFor 6 = .ok (.getfield 36, 3) := by decide +kernel
theorem dX8_columnFor_9 : decode cX8_columnFor 9 = .ok (.if_icmp .gt 69, 3) := by decide +kernel
theorem dX8_columnFor_12 : decode cX8_columnFor 12 = .ok (.aload_n 0, 1) := by decide +kernel
theorem dX8_columnFor_13 : decode cX8_columnFor 13 = .ok (.getfield 13, 3) := by decide +kernel
theorem dX8_columnFor_16 : decode cX8_columnFor 16 = .ok (.iload_n 1, 1) := by decide +kernel
theorem dX8_columnFor_17 : decode cX8_columnFor 17 = .ok (.aaload, 1) := by decide +kernel
theorem dX8_columnFor_18 : decode cX8_columnFor 18 = .ok (.iload_n 3, 1) := by decide +kernel
theorem dX8_columnFor_19 : decode cX8_columnFor 19 = .ok (.laload, 1) := by decide +kernel
theorem dX8_columnFor_20 : decode cX8_columnFor 20 = .ok (.lconst 0, 1) := by decide +kernel
theorem dX8_columnFor_21 : decode cX8_columnFor 21 = .ok (.lcmp, 1) := by decide +kernel
theorem dX8_columnFor_22 : decode cX8_columnFor 22 = .ok (.ifCond .lt 6, 3) := by decide +kernel
theorem dX8_columnFor_25 : decode cX8_columnFor 25 = .ok (.goto 47, 3) := by decide +kernel
theorem dX8_columnFor_28 : decode cX8_columnFor 28 = .ok (.iload_n 2, 1) := by decide +kernel
theorem dX8_columnFor_29 : decode cX8_columnFor 29 = .ok (.ifCond .ge 7, 3) := by decide +kernel
theorem dX8_columnFor_32 : decode cX8_columnFor 32 = .ok (.iconst (-1), 1) := by decide +kernel
theorem dX8_columnFor_33 : decode cX8_columnFor 33 = .ok (.goto 10, 3) := by decide +kernel
theorem dX8_columnFor_36 : decode cX8_columnFor 36 = .ok (.aload_n 0, 1) := by decide +kernel
theorem dX8_columnFor_37 : decode cX8_columnFor 37 = .ok (.iload_n 1, 1) := by decide +kernel
theorem dX8_columnFor_38 : decode cX8_columnFor 38 = .ok (.iload_n 3, 1) := by decide +kernel
theorem dX8_columnFor_39 : decode cX8_columnFor 39 = .ok (.iload_n 2, 1) := by decide +kernel
theorem dX8_columnFor_40 : decode cX8_columnFor 40 = .ok (.invokevirtual 62, 3) := by decide +kernel
theorem dX8_columnFor_43 : decode cX8_columnFor 43 = .ok (.istore 4, 2) := by decide +kernel
theorem dX8_columnFor_45 : decode cX8_columnFor 45 = .ok (.iload 4, 2) := by decide +kernel
theorem dX8_columnFor_47 : decode cX8_columnFor 47 = .ok (.ifCond .lt 23, 3) := by decide +kernel
theorem dX8_columnFor_50 : decode cX8_columnFor 50 = .ok (.iload 4, 2) := by decide +kernel
theorem dX8_columnFor_52 : decode cX8_columnFor 52 = .ok (.ifCond .ne 20, 3) := by decide +kernel
theorem dX8_columnFor_55 : decode cX8_columnFor 55 = .ok (.aload_n 0, 1) := by decide +kernel
theorem dX8_columnFor_56 : decode cX8_columnFor 56 = .ok (.getfield 20, 3) := by decide +kernel
theorem dX8_columnFor_59 : decode cX8_columnFor 59 = .ok (.iload_n 3, 1) := by decide +kernel
theorem dX8_columnFor_60 : decode cX8_columnFor 60 = .ok (.iaload, 1) := by decide +kernel
theorem dX8_columnFor_61 : decode cX8_columnFor 61 = .ok (.aload_n 0, 1) := by decide +kernel
theorem dX8_columnFor_62 : decode cX8_columnFor 62 = .ok (.getfield 20, 3) := by decide +kernel
theorem dX8_columnFor_65 : decode cX8_columnFor 65 = .ok (.iload_n 2, 1) := by decide +kernel
theorem dX8_columnFor_66 : decode cX8_columnFor 66 = .ok (.iaload, 1) := by decide +kernel
theorem dX8_columnFor_67 : decode cX8_columnFor 67 = .ok (.if_icmp .ge 5, 3) := by decide +kernel
theorem dX8_columnFor_70 : decode cX8_columnFor 70 = .ok (.iload_n 3, 1) := by decide +kernel
theorem dX8_columnFor_71 : decode cX8_columnFor 71 = .ok (.istore_n 2, 1) := by decide +kernel
theorem dX8_columnFor_72 : decode cX8_columnFor 72 = .ok (.iinc 3 1, 3) := by decide +kernel
theorem dX8_columnFor_75 : decode cX8_columnFor 75 = .ok (.goto (-71), 3) := by decide +kernel
theorem dX8_columnFor_78 : decode cX8_columnFor 78 = .ok (.iload_n 2, 1) := by decide +kernel
theorem dX8_columnFor_79 : decode cX8_columnFor 79 = .ok (.ireturn, 1) := by decide +kernel
theorem dX8_compareRatios_0 : decode cX8_compareRatios 0 = .ok (.aload_n 0, 1) := by decide +kernel
theorem dX8_compareRatios_1 : decode cX8_compareRatios 1 = .ok (.getfield 13, 3) := by decide +kernel
theorem dX8_compareRatios_4 : decode cX8_compareRatios 4 = .ok (.iload_n 1, 1) := by decide +kernel
theorem dX8_compareRatios_5 : decode cX8_compareRatios 5 = .ok (.aaload, 1) := by decide +kernel
theorem dX8_compareRatios_6 : decode cX8_compareRatios 6 = .ok (.iload_n 2, 1) := by decide +kernel
theorem dX8_compareRatios_7 : decode cX8_compareRatios 7 = .ok (.laload, 1) := by decide +kernel
theorem dX8_compareRatios_8 : decode cX8_compareRatios 8 = .ok (.lstore 4, 2) := by decide +kernel
theorem dX8_compareRatios_10 : decode cX8_compareRatios 10 = .ok (.aload_n 0, 1) := by decide +kernel
theorem dX8_compareRatios_11 : decode cX8_compareRatios 11 = .ok (.getfield 13, 3) := by decide +kernel
theorem dX8_compareRatios_14 : decode cX8_compareRatios 14 = .ok (.iload_n 1, 1) := by decide +kernel
theorem dX8_compareRatios_15 : decode cX8_compareRatios 15 = .ok (.aaload, 1) := by decide +kernel
theorem dX8_compareRatios_16 : decode cX8_compareRatios 16 = .ok (.iload_n 3, 1) := by decide +kernel
theorem dX8_compareRatios_17 : decode cX8_compareRatios 17 = .ok (.laload, 1) := by decide +kernel
theorem dX8_compareRatios_18 : decode cX8_compareRatios 18 = .ok (.lstore 6, 2) := by decide +kernel
theorem dX8_compareRatios_20 : decode cX8_compareRatios 20 = .ok (.iconst 0, 1) := by decide +kernel
theorem dX8_compareRatios_21 : decode cX8_compareRatios 21 = .ok (.istore 8, 2) := by decide +kernel
theorem dX8_compareRatios_23 : decode cX8_compareRatios 23 = .ok (.iload 8, 2) := by decide +kernel
theorem dX8_compareRatios_25 : decode cX8_compareRatios 25 = .ok (.aload_n 0, 1) := by decide +kernel
theorem dX8_compareRatios_26 : decode cX8_compareRatios 26 = .ok (.getfield 29, 3) := by decide +kernel
theorem dX8_compareRatios_29 : decode cX8_compareRatios 29 = .ok (.if_icmp .ge 59, 3) := by decide +kernel
theorem dX8_compareRatios_32 : decode cX8_compareRatios 32 = .ok (.aload_n 0, 1) := by decide +kernel
theorem dX8_compareRatios_33 : decode cX8_compareRatios 33 = .ok (.getfield 13, 3) := by decide +kernel
theorem dX8_compareRatios_36 : decode cX8_compareRatios 36 = .ok (.iload 8, 2) := by decide +kernel
theorem dX8_compareRatios_38 : decode cX8_compareRatios 38 = .ok (.aaload, 1) := by decide +kernel
theorem dX8_compareRatios_39 : decode cX8_compareRatios 39 = .ok (.iload_n 2, 1) := by decide +kernel
theorem dX8_compareRatios_40 : decode cX8_compareRatios 40 = .ok (.laload, 1) := by decide +kernel
theorem dX8_compareRatios_41 : decode cX8_compareRatios 41 = .ok (.lload 6, 2) := by decide +kernel
theorem dX8_compareRatios_43 : decode cX8_compareRatios 43 = .ok (.lmul, 1) := by decide +kernel
theorem dX8_compareRatios_44 : decode cX8_compareRatios 44 = .ok (.lstore 9, 2) := by decide +kernel
theorem dX8_compareRatios_46 : decode cX8_compareRatios 46 = .ok (.aload_n 0, 1) := by decide +kernel
theorem dX8_compareRatios_47 : decode cX8_compareRatios 47 = .ok (.getfield 13, 3) := by decide +kernel
theorem dX8_compareRatios_50 : decode cX8_compareRatios 50 = .ok (.iload 8, 2) := by decide +kernel
theorem dX8_compareRatios_52 : decode cX8_compareRatios 52 = .ok (.aaload, 1) := by decide +kernel
theorem dX8_compareRatios_53 : decode cX8_compareRatios 53 = .ok (.iload_n 3, 1) := by decide +kernel
theorem dX8_compareRatios_54 : decode cX8_compareRatios 54 = .ok (.laload, 1) := by decide +kernel
theorem dX8_compareRatios_55 : decode cX8_compareRatios 55 = .ok (.lload 4, 2) := by decide +kernel
theorem dX8_compareRatios_57 : decode cX8_compareRatios 57 = .ok (.lmul, 1) := by decide +kernel
theorem dX8_compareRatios_58 : decode cX8_compareRatios 58 = .ok (.lstore 11, 2) := by decide +kernel
theorem dX8_compareRatios_60 : decode cX8_compareRatios 60 = .ok (.lload 9, 2) := by decide +kernel
theorem dX8_compareRatios_62 : decode cX8_compareRatios 62 = .ok (.lload 11, 2) := by decide +kernel
theorem dX8_compareRatios_64 : decode cX8_compareRatios 64 = .ok (.lcmp, 1) := by decide +kernel
theorem dX8_compareRatios_65 : decode cX8_compareRatios 65 = .ok (.ifCond .eq 17, 3) := by decide +kernel
theorem dX8_compareRatios_68 : decode cX8_compareRatios 68 = .ok (.lload 9, 2) := by decide +kernel
theorem dX8_compareRatios_70 : decode cX8_compareRatios 70 = .ok (.lload 11, 2) := by decide +kernel
theorem dX8_compareRatios_72 : decode cX8_compareRatios 72 = .ok (.lcmp, 1) := by decide +kernel
theorem dX8_compareRatios_73 : decode cX8_compareRatios 73 = .ok (.ifCond .ge 7, 3) := by decide +kernel
theorem dX8_compareRatios_76 : decode cX8_compareRatios 76 = .ok (.iconst (-1), 1) := by decide +kernel
theorem dX8_compareRatios_77 : decode cX8_compareRatios 77 = .ok (.goto 4, 3) := by decide +kernel
theorem dX8_compareRatios_80 : decode cX8_compareRatios 80 = .ok (.iconst 1, 1) := by decide +kernel
theorem dX8_compareRatios_81 : decode cX8_compareRatios 81 = .ok (.ireturn, 1) := by decide +kernel
theorem dX8_compareRatios_82 : decode cX8_compareRatios 82 = .ok (.iinc 8 1, 3) := by decide +kernel
theorem dX8_compareRatios_85 : decode cX8_compareRatios 85 = .ok (.goto (-62), 3) := by decide +kernel
theorem dX8_compareRatios_88 : decode cX8_compareRatios 88 = .ok (.iconst 0, 1) := by decide +kernel
theorem dX8_compareRatios_89 : decode cX8_compareRatios 89 = .ok (.ireturn, 1) := by decide +kernel
set_option maxRecDepth 20000 in
theorem ggX8_pivot_X8_changeLine : GoodIn wsX8_pivot wsX8_changeLine := goodIn_r _ [11, 4, 2, 12, 13, 14, 15, 16, 17, 18] (by decide +kernel) (by decide +kernel)
set_option maxRecDepth 20000 in
theorem gX8_pivot_X8_changeLine : GoodIn wsX8_pivot (wsV RX8 66 RX8 yX8_changeLine wsX8_changeLine) := goodIn_app (goodIn_of _ (by decide +kernel)) ggX8_pivot_X8_changeLine
theorem dX8_pivot_0 : decode cX8_pivot 0 = .ok (.aload_n 0, 1) := by decide +kernel
theorem dX8_pivot_1 : decode cX8_pivot 1 = .ok (.getfield 13, 3) := by decide +kernel
theorem dX8_pivot_4 : decode cX8_pivot 4 = .ok (.iload_n 1, 1) := by decide +kernel
theorem dX8_pivot_5 : decode cX8_pivot 5 = .ok (.aaload, 1) := by decide +kernel
theorem dX8_pivot_6 : decode cX8_pivot 6 = .ok (.astore_n 3, 1) := by decide +kernel
theorem dX8_pivot_7 : decode cX8_pivot 7 = .ok (.aload_n 3, 1) := by decide +kernel
theorem dX8_pivot_8 : decode cX8_pivot 8 = .ok (.iload_n 2, 1) := by decide +kernel
theorem dX8_pivot_9 : decode cX8_pivot 9 = .ok (.laload, 1) := by decide +kernel
theorem dX8_pivot_10 : decode cX8_pivot 10 = .ok (.lneg, 1) := by decide +kernel
theorem dX8_pivot_11 : decode cX8_pivot 11 = .ok (.lstore 4, 2) := by decide +kernel
theorem dX8_pivot_13 : decode cX8_pivot 13 = .ok (.lload 4, 2) := by decide +kernel
theorem dX8_pivot_15 : decode cX8_pivot 15 = .ok (.lconst 1, 1) := by decide +kernel
theorem dX8_pivot_16 : decode cX8_pivot 16 = .ok (.lcmp, 1) := by decide +kernel
theorem dX8_pivot_17 : decode cX8_pivot 17 = .ok (.ifCond .lt 12, 3) := by decide +kernel
theorem dX8_pivot_20 : decode cX8_pivot 20 = .ok (.aload_n 0, 1) := by decide +kernel
theorem dX8_pivot_21 : decode cX8_pivot 21 = .ok (.getfield 39, 3) := by decide +kernel
theorem dX8_pivot_24 : decode cX8_pivot 24 = .ok (.lconst 1, 1) := by decide +kernel
theorem dX8_pivot_25 : decode cX8_pivot 25 = .ok (.lcmp, 1) := by decide +kernel
theorem dX8_pivot_26 : decode cX8_pivot 26 = .ok (.ifCond .ge 4, 3) := by decide +kernel
theorem dX8_pivot_29 : decode cX8_pivot 29 = .ok (.return_, 1) := by decide +kernel
theorem dX8_pivot_30 : decode cX8_pivot 30 = .ok (.iconst 0, 1) := by decide +kernel
theorem dX8_pivot_31 : decode cX8_pivot 31 = .ok (.istore 6, 2) := by decide +kernel
theorem dX8_pivot_33 : decode cX8_pivot 33 = .ok (.iload 6, 2) := by decide +kernel
theorem dX8_pivot_35 : decode cX8_pivot 35 = .ok (.aload_n 0, 1) := by decide +kernel
theorem dX8_pivot_36 : decode cX8_pivot 36 = .ok (.getfield 33, 3) := by decide +kernel
theorem dX8_pivot_39 : decode cX8_pivot 39 = .ok (.if_icmp .ge 30, 3) := by decide +kernel
theorem dX8_pivot_42 : decode cX8_pivot 42 = .ok (.iload 6, 2) := by decide +kernel
theorem dX8_pivot_44 : decode cX8_pivot 44 = .ok (.iload_n 1, 1) := by decide +kernel
theorem dX8_pivot_45 : decode cX8_pivot 45 = .ok (.if_icmp .eq 18, 3) := by decide +kernel
theorem dX8_pivot_48 : decode cX8_pivot 48 = .ok (.aload_n 0, 1) := by decide +kernel
theorem dX8_pivot_49 : decode cX8_pivot 49 = .ok (.aload_n 0, 1) := by decide +kernel
theorem dX8_pivot_50 : decode cX8_pivot 50 = .ok (.getfield 13, 3) := by decide +kernel
theorem dX8_pivot_53 : decode cX8_pivot 53 = .ok (.iload 6, 2) := by decide +kernel
theorem dX8_pivot_55 : decode cX8_pivot 55 = .ok (.aaload, 1) := by decide +kernel
theorem dX8_pivot_56 : decode cX8_pivot 56 = .ok (.aload_n 3, 1) := by decide +kernel
theorem dX8_pivot_57 : decode cX8_pivot 57 = .ok (.iload_n 2, 1) := by decide +kernel
theorem dX8_pivot_58 : decode cX8_pivot 58 = .ok (.lload 4, 2) := by decide +kernel
theorem dX8_pivot_60 : decode cX8_pivot 60 = .ok (.invokevirtual 66, 3) := by decide +kernel
theorem dX8_pivot_63 : decode cX8_pivot 63 = .ok (.iinc 6 1, 3) := by decide +kernel
theorem dX8_pivot_66 : decode cX8_pivot 66 = .ok (.goto (-33), 3) := by decide +kernel
theorem dX8_pivot_69 : decode cX8_pivot 69 = .ok (.iconst 0, 1) := by decide +kernel
theorem dX8_pivot_70 : decode cX8_pivot 70 = .ok (.istore 6, 2) := by decide +kernel
theorem dX8_pivot_72 : decode cX8_pivot 72 = .ok (.iload 6, 2) := by decide +kernel
theorem dX8_pivot_74 : decode cX8_pivot 74 = .ok (.aload_n 0, 1) := by decide +kernel
theorem dX8_pivot_75 : decode cX8_pivot 75 = .ok (.getfield 36, 3) := by decide +kernel
theorem dX8_pivot_78 : decode cX8_pivot 78 = .ok (.if_icmp .gt 18, 3) := by decide +kernel
theorem dX8_pivot_81 : decode cX8_pivot 81 = .ok (.aload_n 3, 1) := by decide +kernel
theorem dX8_pivot_82 : decode cX8_pivot 82 = .ok (.iload 6, 2) := by decide +kernel
theorem dX8_pivot_84 : decode cX8_pivot 84 = .ok (.aload_n 3, 1) := by decide +kernel
theorem dX8_pivot_85 : decode cX8_pivot 85 = .ok (.iload 6, 2) := by decide +kernel
theorem dX8_pivot_87 : decode cX8_pivot 87 = .ok (.laload, 1) := by decide +kernel
theorem dX8_pivot_88 : decode cX8_pivot 88 = .ok (.lneg, 1) := by decide +kernel
theorem dX8_pivot_89 : decode cX8_pivot 89 = .ok (.lastore, 1) := by decide +kernel
theorem dX8_pivot_90 : decode cX8_pivot 90 = .ok (.iinc 6 1, 3) := by decide +kernel
theorem dX8_pivot_93 : decode cX8_pivot 93 = .ok (.goto (-21), 3) := by decide +kernel
theorem dX8_pivot_96 : decode cX8_pivot 96 = .ok (.aload_n 3, 1) := by decide +kernel
theorem dX8_pivot_97 : decode cX8_pivot 97 = .ok (.iload_n 2, 1) := by decide +kernel
theorem dX8_pivot_98 : decode cX8_pivot 98 = .ok (.aload_n 0, 1) := by decide +kernel
theorem dX8_pivot_99 : decode cX8_pivot 99 = .ok (.getfield 39, 3) := by decide +kernel
theorem dX8_pivot_102 : decode cX8_pivot 102 = .ok (.lneg, 1) := by decide +kernel
theorem dX8_pivot_103 : decode cX8_pivot 103 = .ok (.lastore, 1) := by decide +kernel
theorem dX8_pivot_104 : decode cX8_pivot 104 = .ok (.aload_n 0, 1) := by decide +kernel
theorem dX8_pivot_105 : decode cX8_pivot 105 = .ok (.lload 4, 2) := by decide +kernel
theorem dX8_pivot_107 : decode cX8_pivot 107 = .ok (.putfield 39, 3) := by decide +kernel
theorem dX8_pivot_110 : decode cX8_pivot 110 = .ok (.aload_n 0, 1) := by decide +kernel
theorem dX8_pivot_111 : decode cX8_pivot 111 = .ok (.getfield 16, 3) := by decide +kernel
theorem dX8_pivot_114 : decode cX8_pivot 114 = .ok (.iload_n 1, 1) := by decide +kernel
theorem dX8_pivot_115 : decode cX8_pivot 115 = .ok (.iaload, 1) := by decide +kernel
theorem dX8_pivot_116 : decode cX8_pivot 116 = .ok (.istore 6, 2) := by decide +kernel
theorem dX8_pivot_118 : decode cX8_pivot 118 = .ok (.aload_n 0, 1) := by decide +kernel
theorem dX8_pivot_119 : decode cX8_pivot 119 = .ok (.getfield 16, 3) := by decide +kernel
theorem dX8_pivot_122 : decode cX8_pivot 122 = .ok (.iload_n 1, 1) := by decide +kernel
theorem dX8_pivot_123 : decode cX8_pivot 123 = .ok (.aload_n 0, 1) := by decide +kernel
theorem dX8_pivot_124 : decode cX8_pivot 124 = .ok (.getfield 20, 3) := by decide +kernel
theorem dX8_pivot_127 : decode cX8_pivot 127 = .ok (.iload_n 2, 1) := by decide +kernel
theorem dX8_pivot_128 : decode cX8_pivot 128 = .ok (.iaload, 1) := by decide +kernel
theorem dX8_pivot_129 : decode cX8_pivot 129 = .ok (.iastore, 1) := by decide +kernel
theorem dX8_pivot_130 : decode cX8_pivot 130 = .ok (.aload_n 0, 1) := by decide +kernel
theorem dX8_pivot_131 : decode cX8_pivot 131 = .ok (.getfield 20, 3) := by decide +kernel
theorem dX8_pivot_134 : decode cX8_pivot 134 = .ok (.iload_n 2, 1) := by decide +kernel
theorem dX8_pivot_135 : decode cX8_pivot 135 = .ok (.iload 6, 2) := by decide +kernel
theorem dX8_pivot_137 : decode cX8_pivot 137 = .ok (.iastore, 1) := by decide +kernel
theorem dX8_pivot_138 : decode cX8_pivot 138 = .ok (.return_, 1) := by decide +kernel
theorem dX8_changeLine_0 : decode cX8_changeLine 0 = .ok (.aload_n 1, 1) := by decide +kernel
theorem dX8_changeLine_1 : decode cX8_changeLine 1 = .ok (.iload_n 3, 1) := by decide +kernel
theorem dX8_changeLine_2 : decode cX8_changeLine 2 = .ok (.laload, 1) := by decide +kernel
theorem dX8_changeLine_3 : decode cX8_changeLine 3 = .ok (.lstore 6, 2) := by decide +kernel
theorem dX8_changeLine_5 : decode cX8_changeLine 5 = .ok (.iconst 0, 1) := by decide +kernel
theorem dX8_changeLine_6 : decode cX8_changeLine 6 = .ok (.istore 8, 2) := by decide +kernel
theorem dX8_changeLine_8 : decode cX8_changeLine 8 = .ok (.iload 8, 2) := by decide +kernel
theorem dX8_changeLine_10 : decode cX8_changeLine 10 = .ok (.aload_n 0, 1) := by decide +kernel
theorem dX8_changeLine_11 : decode cX8_changeLine 11 = .ok (.getfield 36, 3) := by decide +kernel
theorem dX8_changeLine_14 : decode cX8_changeLine 14 = .ok (.if_icmp .gt 48, 3) := by decide +kernel
theorem dX8_changeLine_17 : decode cX8_changeLine 17 = .ok (.iload 8, 2) := by decide +kernel
theorem dX8_changeLine_19 : decode cX8_changeLine 19 = .ok (.iload_n 3, 1) := by decide +kernel
theorem dX8_changeLine_20 : decode cX8_changeLine 20 = .ok (.if_icmp .eq 36, 3) := by decide +kernel
theorem dX8_changeLine_23 : decode cX8_changeLine 23 = .ok (.aload_n 0, 1) := by decide +kernel
theorem dX8_changeLine_24 : decode cX8_changeLine 24 = .ok (.getfield 39, 3) := by decide +kernel
theorem dX8_changeLine_27 : decode cX8_changeLine 27 = .ok (.lconst 0, 1) := by decide +kernel
theorem dX8_changeLine_28 : decode cX8_changeLine 28 = .ok (.lcmp, 1) := by decide +kernel
theorem dX8_changeLine_29 : decode cX8_changeLine 29 = .ok (.ifCond .eq 27, 3) := by decide +kernel
theorem dX8_changeLine_32 : decode cX8_changeLine 32 = .ok (.aload_n 1, 1) := by decide +kernel
theorem dX8_changeLine_33 : decode cX8_changeLine 33 = .ok (.iload 8, 2) := by decide +kernel
theorem dX8_changeLine_35 : decode cX8_changeLine 35 = .ok (.lload 4, 2) := by decide +kernel
theorem dX8_changeLine_37 : decode cX8_changeLine 37 = .ok (.aload_n 1, 1) := by decide +kernel
theorem dX8_changeLine_38 : decode cX8_changeLine 38 = .ok (.iload 8, 2) := by decide +kernel
theorem dX8_changeLine_40 : decode cX8_changeLine 40 = .ok (.laload, 1) := by decide +kernel
theorem dX8_changeLine_41 : decode cX8_changeLine 41 = .ok (.lmul, 1) := by decide +kernel
theorem dX8_changeLine_42 : decode cX8_changeLine 42 = .ok (.lload 6, 2) := by decide +kernel
theorem dX8_changeLine_44 : decode cX8_changeLine 44 = .ok (.aload_n 2, 1) := by decide +kernel
theorem dX8_changeLine_45 : decode cX8_changeLine 45 = .ok (.iload 8, 2) := by decide +kernel
theorem dX8_changeLine_47 : decode cX8_changeLine 47 = .ok (.laload, 1) := by decide +kernel
theorem dX8_changeLine_48 : decode cX8_changeLine 48 = .ok (.lmul, 1) := by decide +kernel
theorem dX8_changeLine_49 : decode cX8_changeLine 49 = .ok (.ladd, 1) := by decide +kernel
theorem dX8_changeLine_50 : decode cX8_changeLine 50 = .ok (.aload_n 0, 1) := by decide +kernel
theorem dX8_changeLine_51 : decode cX8_changeLine 51 = .ok (.getfield 39, 3) := by decide +kernel
theorem dX8_changeLine_54 : decode cX8_changeLine 54 = .ok (.ldiv, 1) := by decide +kernel
theorem dX8_changeLine_55 : decode cX8_changeLine 55 = .ok (.lastore, 1) := by decide +kernel
theorem dX8_changeLine_56 : decode cX8_changeLine 56 = .ok (.iinc 8 1, 3) := by decide +kernel
theorem dX8_changeLine_59 : decode cX8_changeLine 59 = .ok (.goto (-51), 3) := by decide +kernel
theorem dX8_changeLine_62 : decode cX8_changeLine 62 = .ok (.return_, 1) := by decide +kernel
theorem kk_X8_lineBelowZero_0 : Cond.fieldLink RX8 29 "PaidBySigns$Table" "goals" "I" ∈ wsX8_lineBelowZero := by decide +kernel
theorem kk_X8_lineBelowZero_1 : Cond.fieldLink RX8 33 "PaidBySigns$Table" "lines" "I" ∈ wsX8_lineBelowZero := by decide +kernel
theorem kk_X8_lineBelowZero_2 : Cond.fieldLink RX8 13 "PaidBySigns$Table" "entry" "[[J" ∈ wsX8_lineBelowZero := by decide +kernel
theorem kk_X8_lineBelowZero_3 : Cond.fieldLink RX8 16 "PaidBySigns$Table" "lineName" "[I" ∈ wsX8_lineBelowZero := by decide +kernel
theorem kk_X8_columnFor_0 : Cond.fieldLink RX8 36 "PaidBySigns$Table" "columns" "I" ∈ wsX8_columnFor := by decide +kernel
theorem kk_X8_columnFor_1 : Cond.fieldLink RX8 13 "PaidBySigns$Table" "entry" "[[J" ∈ wsX8_columnFor := by decide +kernel
theorem kk_X8_compareRatios_0 : Cond.fieldLink RX8 13 "PaidBySigns$Table" "entry" "[[J" ∈ wsX8_compareRatios := by decide +kernel
theorem kk_X8_compareRatios_1 : Cond.fieldLink RX8 29 "PaidBySigns$Table" "goals" "I" ∈ wsX8_compareRatios := by decide +kernel
theorem kk_X8_columnFor_2 : Cond.fieldLink RX8 20 "PaidBySigns$Table" "columnName" "[I" ∈ wsX8_columnFor := by decide +kernel
theorem kk_X8_pivot_0 : Cond.fieldLink RX8 13 "PaidBySigns$Table" "entry" "[[J" ∈ wsX8_pivot := by decide +kernel
theorem kk_X8_pivot_1 : Cond.fieldLink RX8 39 "PaidBySigns$Table" "base" "J" ∈ wsX8_pivot := by decide +kernel
theorem kk_X8_pivot_2 : Cond.fieldLink RX8 33 "PaidBySigns$Table" "lines" "I" ∈ wsX8_pivot := by decide +kernel
theorem kk_X8_pivot_3 : Cond.fieldLink RX8 36 "PaidBySigns$Table" "columns" "I" ∈ wsX8_pivot := by decide +kernel
theorem kk_X8_pivot_4 : Cond.fieldLink RX8 16 "PaidBySigns$Table" "lineName" "[I" ∈ wsX8_pivot := by decide +kernel
theorem kk_X8_pivot_5 : Cond.fieldLink RX8 20 "PaidBySigns$Table" "columnName" "[I" ∈ wsX8_pivot := by decide +kernel
theorem kk_X8_changeLine_0 : Cond.fieldLink RX8 36 "PaidBySigns$Table" "columns" "I" ∈ wsX8_changeLine := by decide +kernel
theorem kk_X8_changeLine_1 : Cond.fieldLink RX8 39 "PaidBySigns$Table" "base" "J" ∈ wsX8_changeLine := by decide +kernel
theorem iw_X8_lineBelowZero_X8 : ∀ w ∈ wsX80, w ∈ wsX8_lineBelowZero := by decide +kernel
theorem iw_X8_columnFor_X8 : ∀ w ∈ wsX80, w ∈ wsX8_columnFor := by decide +kernel
theorem iw_X8_compareRatios_X8 : ∀ w ∈ wsX80, w ∈ wsX8_compareRatios := by decide +kernel
theorem iw_X8_pivot_X8 : ∀ w ∈ wsX80, w ∈ wsX8_pivot := by decide +kernel
theorem iw_X8_changeLine_X8 : ∀ w ∈ wsX80, w ∈ wsX8_changeLine := by decide +kernel

abbrev cX4_findCost : ByteArray := prog_6_method_2_code
def yX4_findCost : MethodName := ⟨RX4, "findCost", "(LPaidBySigns$Hire;I)Z"⟩
abbrev cX4_find : ByteArray := prog_6_method_7_code
def yX4_find : MethodName := ⟨RX4, "find", "(LPaidBySigns$Hire;IIII)Z"⟩
abbrev cX4_readWages : ByteArray := prog_6_method_15_code
def yX4_readWages : MethodName := ⟨RX4, "readWages", "()V"⟩
abbrev cX8_solve : ByteArray := prog_10_method_3_code
def yX8_solve : MethodName := ⟨RX8, "solve", "()Z"⟩
def wsX8_solve_r1 : List Cond := [Cond.constant RX8 49 (1000000), Cond.methodLink RX8 50 yX8_lineBelowZero, Cond.instanceMethod yX8_lineBelowZero, Cond.selects RX8 yX8_lineBelowZero yX8_lineBelowZero, Cond.initialized RX8, Cond.code yX8_lineBelowZero cX8_lineBelowZero 3 (some .int), Cond.fieldLink RX8 29 "PaidBySigns$Table" "goals" "I", Cond.fieldLink RX8 33 "PaidBySigns$Table" "lines" "I", Cond.fieldLink RX8 13 "PaidBySigns$Table" "entry" "[[J", Cond.fieldLink RX8 16 "PaidBySigns$Table" "lineName" "[I", Cond.methodLink RX8 54 yX8_columnFor, Cond.instanceMethod yX8_columnFor, Cond.selects RX8 yX8_columnFor yX8_columnFor, Cond.code yX8_columnFor cX8_columnFor 5 (some .int), Cond.fieldLink RX8 36 "PaidBySigns$Table" "columns" "I", Cond.fieldLink RX8 20 "PaidBySigns$Table" "columnName" "[I", Cond.methodLink RX8 62 yX8_compareRatios, Cond.instanceMethod yX8_compareRatios, Cond.selects RX8 yX8_compareRatios yX8_compareRatios, Cond.code yX8_compareRatios cX8_compareRatios 13 (some .int), Cond.methodLink RX8 58 yX8_pivot, Cond.instanceMethod yX8_pivot, Cond.selects RX8 yX8_pivot yX8_pivot, Cond.code yX8_pivot cX8_pivot 7 none]
def wsX8_solve_r2 : List Cond := [Cond.fieldLink RX8 39 "PaidBySigns$Table" "base" "J", Cond.methodLink RX8 66 yX8_changeLine, Cond.instanceMethod yX8_changeLine, Cond.selects RX8 yX8_changeLine yX8_changeLine, Cond.code yX8_changeLine cX8_changeLine 9 none]
def wsX8_solve : List Cond := .code yX8_solve cX8_solve 4 (some .boolean) :: ((wsX8_solve_r1 ++ wsX8_solve_r2) ++ wsX80)
def wsX4_readWages : List Cond := .code yX4_readWages cX4_readWages 3 none :: ([.fieldLink RX4 9 "PaidBySigns$LeastCost" "above" "[J", .constantLong RX4 145 (60), .fieldLink RX4 22 "PaidBySigns$LeastCost" "table" "LPaidBySigns$Table;", .fieldLink RX4 147 "PaidBySigns$Table" "base" "J", .fieldLink RX4 15 "PaidBySigns$LeastCost" "aboveLower" "J", .fieldLink RX4 150 "PaidBySigns$Table" "goals" "I", .fieldLink RX4 153 "PaidBySigns$Table" "lines" "I", .fieldLink RX4 156 "PaidBySigns$Table" "lineName" "[I", .fieldLink RX4 36 "PaidBySigns$LeastCost" "columns" "I", .fieldLink RX4 26 "PaidBySigns$LeastCost" "columnSign" "[I", .fieldLink RX4 132 "PaidBySigns$Table" "entry" "[[J", .methodLink RX4 139 yJ7_fill_d0a16, .static yJ7_fill_d0a16, .initialized RJ7, .code yJ7_fill_d0a16 cJ7_fill_d0a16 5 none, .methodLink RX4 128 yX4_partsOf, .instanceMethod yX4_partsOf, .selects RX4 yX4_partsOf yX4_partsOf, .initialized RX4, .code yX4_partsOf cX4_partsOf 2 (some .int), .fieldLink RX4 30 "PaidBySigns$LeastCost" "columnRate" "[I"] ++ wsX40 ++ wsX80)
def wsX4_find_r1 : List Cond := [Cond.fieldLink RX4 46 "PaidBySigns$LeastCost" "hire" "LPaidBySigns$Hire;", Cond.fieldLink RX4 50 "PaidBySigns$LeastCost" "work" "I", Cond.fieldLink RX4 53 "PaidBySigns$LeastCost" "keptSign" "I", Cond.fieldLink RX4 56 "PaidBySigns$LeastCost" "joinedSign" "I", Cond.fieldLink RX4 22 "PaidBySigns$LeastCost" "table" "LPaidBySigns$Table;", Cond.fieldLink RX4 88 "PaidBySigns$Hire" "works" "I", Cond.fieldLink RX4 40 "PaidBySigns$LeastCost" "rooms" "I", Cond.fieldLink RX4 36 "PaidBySigns$LeastCost" "columns" "I", Cond.methodLink RX4 85 yX4_listColumns, Cond.instanceMethod yX4_listColumns, Cond.selects RX4 yX4_listColumns yX4_listColumns, Cond.initialized RX4, Cond.code yX4_listColumns cX4_listColumns 2 none, Cond.fieldLink RX4 63 "PaidBySigns$Hire" "signs" "I", Cond.methodLink RX4 66 yX4_chanceOf, Cond.instanceMethod yX4_chanceOf, Cond.selects RX4 yX4_chanceOf yX4_chanceOf, Cond.code yX4_chanceOf cX4_chanceOf 3 (some .int), Cond.fieldLink RX4 112 "PaidBySigns$Hire" "chances" "[[I", Cond.methodLink RX4 116 yX4_listSteps, Cond.instanceMethod yX4_listSteps, Cond.selects RX4 yX4_listSteps yX4_listSteps, Cond.code yX4_listSteps cX4_listSteps 5 none, Cond.fieldLink RX4 79 "PaidBySigns$Hire" "least" "I"]
def wsX4_find_r2 : List Cond := [Cond.fieldLink RX4 119 "PaidBySigns$Hire" "rates" "I", Cond.fieldLink RX4 122 "PaidBySigns$Hire" "mark" "[I", Cond.fieldLink RX4 26 "PaidBySigns$LeastCost" "columnSign" "[I", Cond.fieldLink RX4 30 "PaidBySigns$LeastCost" "columnRate" "[I", Cond.fieldLink RX4 125 "PaidBySigns$Hire" "rate" "[I", Cond.fieldLink RX4 33 "PaidBySigns$LeastCost" "columnRoom" "[I", Cond.methodLink RX4 91 yX8_start, Cond.instanceMethod yX8_start, Cond.selects RX8 yX8_start yX8_start, Cond.initialized RX8, Cond.code yX8_start cX8_start 5 none, Cond.methodLink RX8 23 Lib.Math.min.name, Cond.static Lib.Math.min.name, Cond.initialized "java/lang/Math", Cond.code Lib.Math.min.name Lib.Math.min.code 2 (some .int), Cond.fieldLink RX8 29 "PaidBySigns$Table" "goals" "I", Cond.fieldLink RX8 33 "PaidBySigns$Table" "lines" "I", Cond.fieldLink RX8 36 "PaidBySigns$Table" "columns" "I", Cond.fieldLink RX8 39 "PaidBySigns$Table" "base" "J", Cond.fieldLink RX8 13 "PaidBySigns$Table" "entry" "[[J", Cond.fieldLink RX8 16 "PaidBySigns$Table" "lineName" "[I", Cond.fieldLink RX8 20 "PaidBySigns$Table" "columnName" "[I", Cond.methodLink RX8 43 yJ7_fill_d0a16, Cond.static yJ7_fill_d0a16]
def wsX4_find_r3 : List Cond := [Cond.initialized RJ7, Cond.code yJ7_fill_d0a16 cJ7_fill_d0a16 5 none, Cond.methodLink RX4 95 yX4_fillGoals, Cond.instanceMethod yX4_fillGoals, Cond.selects RX4 yX4_fillGoals yX4_fillGoals, Cond.code yX4_fillGoals cX4_fillGoals 5 none, Cond.fieldLink RX4 132 "PaidBySigns$Table" "entry" "[[J", Cond.methodLink RX4 128 yX4_partsOf, Cond.instanceMethod yX4_partsOf, Cond.selects RX4 yX4_partsOf yX4_partsOf, Cond.code yX4_partsOf cX4_partsOf 2 (some .int), Cond.methodLink RX4 99 yX4_fillLines, Cond.instanceMethod yX4_fillLines, Cond.selects RX4 yX4_fillLines yX4_fillLines, Cond.code yX4_fillLines cX4_fillLines 6 none, Cond.fieldLink RX4 70 "PaidBySigns$Hire" "whole" "I", Cond.methodLink RX4 136 yX3_lackOf, Cond.instanceMethod yX3_lackOf, Cond.selects RX3 yX3_lackOf yX3_lackOf, Cond.initialized RX3, Cond.code yX3_lackOf cX3_lackOf 3 (some .int), Cond.fieldLink RX3 15 "PaidBySigns$Hire" "costs" "[I", Cond.fieldLink RX3 42 "PaidBySigns$Hire" "otherwise" "I", Cond.fieldLink RX3 45 "PaidBySigns$Hire" "least" "I"]
def wsX4_find_r4 : List Cond := [Cond.methodLink RX3 63 yX3_feltOf, Cond.instanceMethod yX3_feltOf, Cond.selects RX3 yX3_feltOf yX3_feltOf, Cond.code yX3_feltOf cX3_feltOf 6 (some .int), Cond.fieldLink RX3 48 "PaidBySigns$Hire" "rates" "I", Cond.fieldLink RX3 26 "PaidBySigns$Hire" "mark" "[I", Cond.methodLink RX3 51 Lib.Math.min.name, Cond.fieldLink RX3 23 "PaidBySigns$Hire" "rate" "[I", Cond.methodLink RX4 102 yX4_fillRooms, Cond.instanceMethod yX4_fillRooms, Cond.selects RX4 yX4_fillRooms yX4_fillRooms, Cond.code yX4_fillRooms cX4_fillRooms 4 none, Cond.methodLink RX4 105 yX8_solve, Cond.instanceMethod yX8_solve, Cond.selects RX8 yX8_solve yX8_solve, Cond.code yX8_solve cX8_solve 4 (some .boolean), Cond.constant RX8 49 (1000000), Cond.methodLink RX8 50 yX8_lineBelowZero, Cond.instanceMethod yX8_lineBelowZero, Cond.selects RX8 yX8_lineBelowZero yX8_lineBelowZero, Cond.code yX8_lineBelowZero cX8_lineBelowZero 3 (some .int), Cond.methodLink RX8 54 yX8_columnFor, Cond.instanceMethod yX8_columnFor, Cond.selects RX8 yX8_columnFor yX8_columnFor]
def wsX4_find_r5 : List Cond := [Cond.code yX8_columnFor cX8_columnFor 5 (some .int), Cond.methodLink RX8 62 yX8_compareRatios, Cond.instanceMethod yX8_compareRatios, Cond.selects RX8 yX8_compareRatios yX8_compareRatios, Cond.code yX8_compareRatios cX8_compareRatios 13 (some .int), Cond.methodLink RX8 58 yX8_pivot, Cond.instanceMethod yX8_pivot, Cond.selects RX8 yX8_pivot yX8_pivot, Cond.code yX8_pivot cX8_pivot 7 none, Cond.methodLink RX8 66 yX8_changeLine, Cond.instanceMethod yX8_changeLine, Cond.selects RX8 yX8_changeLine yX8_changeLine, Cond.code yX8_changeLine cX8_changeLine 9 none, Cond.methodLink RX4 109 yX4_readWages, Cond.instanceMethod yX4_readWages, Cond.selects RX4 yX4_readWages yX4_readWages, Cond.code yX4_readWages cX4_readWages 3 none, Cond.fieldLink RX4 9 "PaidBySigns$LeastCost" "above" "[J", Cond.constantLong RX4 145 (60), Cond.fieldLink RX4 147 "PaidBySigns$Table" "base" "J", Cond.fieldLink RX4 15 "PaidBySigns$LeastCost" "aboveLower" "J", Cond.fieldLink RX4 150 "PaidBySigns$Table" "goals" "I", Cond.fieldLink RX4 153 "PaidBySigns$Table" "lines" "I", Cond.fieldLink RX4 156 "PaidBySigns$Table" "lineName" "[I"]
def wsX4_find_r6 : List Cond := [Cond.methodLink RX4 139 yJ7_fill_d0a16]
def wsX4_find : List Cond := .code yX4_find cX4_find 6 (some .boolean) :: ((wsX4_find_r1 ++ (wsX4_find_r2 ++ (wsX4_find_r3 ++ (wsX4_find_r4 ++ (wsX4_find_r5 ++ wsX4_find_r6))))) ++ wsX40 ++ wsX30 ++ wsX80)
def wsX4_findCost_r1 : List Cond := [Cond.methodLink RX4 59 yX4_find, Cond.instanceMethod yX4_find, Cond.selects RX4 yX4_find yX4_find, Cond.initialized RX4, Cond.code yX4_find cX4_find 6 (some .boolean), Cond.fieldLink RX4 46 "PaidBySigns$LeastCost" "hire" "LPaidBySigns$Hire;", Cond.fieldLink RX4 50 "PaidBySigns$LeastCost" "work" "I", Cond.fieldLink RX4 53 "PaidBySigns$LeastCost" "keptSign" "I", Cond.fieldLink RX4 56 "PaidBySigns$LeastCost" "joinedSign" "I", Cond.fieldLink RX4 22 "PaidBySigns$LeastCost" "table" "LPaidBySigns$Table;", Cond.fieldLink RX4 88 "PaidBySigns$Hire" "works" "I", Cond.fieldLink RX4 40 "PaidBySigns$LeastCost" "rooms" "I", Cond.fieldLink RX4 36 "PaidBySigns$LeastCost" "columns" "I", Cond.methodLink RX4 85 yX4_listColumns, Cond.instanceMethod yX4_listColumns, Cond.selects RX4 yX4_listColumns yX4_listColumns, Cond.code yX4_listColumns cX4_listColumns 2 none, Cond.fieldLink RX4 63 "PaidBySigns$Hire" "signs" "I", Cond.methodLink RX4 66 yX4_chanceOf, Cond.instanceMethod yX4_chanceOf, Cond.selects RX4 yX4_chanceOf yX4_chanceOf, Cond.code yX4_chanceOf cX4_chanceOf 3 (some .int), Cond.fieldLink RX4 112 "PaidBySigns$Hire" "chances" "[[I", Cond.methodLink RX4 116 yX4_listSteps]
def wsX4_findCost_r2 : List Cond := [Cond.instanceMethod yX4_listSteps, Cond.selects RX4 yX4_listSteps yX4_listSteps, Cond.code yX4_listSteps cX4_listSteps 5 none, Cond.fieldLink RX4 79 "PaidBySigns$Hire" "least" "I", Cond.fieldLink RX4 119 "PaidBySigns$Hire" "rates" "I", Cond.fieldLink RX4 122 "PaidBySigns$Hire" "mark" "[I", Cond.fieldLink RX4 26 "PaidBySigns$LeastCost" "columnSign" "[I", Cond.fieldLink RX4 30 "PaidBySigns$LeastCost" "columnRate" "[I", Cond.fieldLink RX4 125 "PaidBySigns$Hire" "rate" "[I", Cond.fieldLink RX4 33 "PaidBySigns$LeastCost" "columnRoom" "[I", Cond.methodLink RX4 91 yX8_start, Cond.instanceMethod yX8_start, Cond.selects RX8 yX8_start yX8_start, Cond.initialized RX8, Cond.code yX8_start cX8_start 5 none, Cond.methodLink RX8 23 Lib.Math.min.name, Cond.static Lib.Math.min.name, Cond.initialized "java/lang/Math", Cond.code Lib.Math.min.name Lib.Math.min.code 2 (some .int), Cond.fieldLink RX8 29 "PaidBySigns$Table" "goals" "I", Cond.fieldLink RX8 33 "PaidBySigns$Table" "lines" "I", Cond.fieldLink RX8 36 "PaidBySigns$Table" "columns" "I", Cond.fieldLink RX8 39 "PaidBySigns$Table" "base" "J", Cond.fieldLink RX8 13 "PaidBySigns$Table" "entry" "[[J"]
def wsX4_findCost_r3 : List Cond := [Cond.fieldLink RX8 16 "PaidBySigns$Table" "lineName" "[I", Cond.fieldLink RX8 20 "PaidBySigns$Table" "columnName" "[I", Cond.methodLink RX8 43 yJ7_fill_d0a16, Cond.static yJ7_fill_d0a16, Cond.initialized RJ7, Cond.code yJ7_fill_d0a16 cJ7_fill_d0a16 5 none, Cond.methodLink RX4 95 yX4_fillGoals, Cond.instanceMethod yX4_fillGoals, Cond.selects RX4 yX4_fillGoals yX4_fillGoals, Cond.code yX4_fillGoals cX4_fillGoals 5 none, Cond.fieldLink RX4 132 "PaidBySigns$Table" "entry" "[[J", Cond.methodLink RX4 128 yX4_partsOf, Cond.instanceMethod yX4_partsOf, Cond.selects RX4 yX4_partsOf yX4_partsOf, Cond.code yX4_partsOf cX4_partsOf 2 (some .int), Cond.methodLink RX4 99 yX4_fillLines, Cond.instanceMethod yX4_fillLines, Cond.selects RX4 yX4_fillLines yX4_fillLines, Cond.code yX4_fillLines cX4_fillLines 6 none, Cond.fieldLink RX4 70 "PaidBySigns$Hire" "whole" "I", Cond.methodLink RX4 136 yX3_lackOf, Cond.instanceMethod yX3_lackOf, Cond.selects RX3 yX3_lackOf yX3_lackOf, Cond.initialized RX3]
def wsX4_findCost_r4 : List Cond := [Cond.code yX3_lackOf cX3_lackOf 3 (some .int), Cond.fieldLink RX3 15 "PaidBySigns$Hire" "costs" "[I", Cond.fieldLink RX3 42 "PaidBySigns$Hire" "otherwise" "I", Cond.fieldLink RX3 45 "PaidBySigns$Hire" "least" "I", Cond.methodLink RX3 63 yX3_feltOf, Cond.instanceMethod yX3_feltOf, Cond.selects RX3 yX3_feltOf yX3_feltOf, Cond.code yX3_feltOf cX3_feltOf 6 (some .int), Cond.fieldLink RX3 48 "PaidBySigns$Hire" "rates" "I", Cond.fieldLink RX3 26 "PaidBySigns$Hire" "mark" "[I", Cond.methodLink RX3 51 Lib.Math.min.name, Cond.fieldLink RX3 23 "PaidBySigns$Hire" "rate" "[I", Cond.methodLink RX4 102 yX4_fillRooms, Cond.instanceMethod yX4_fillRooms, Cond.selects RX4 yX4_fillRooms yX4_fillRooms, Cond.code yX4_fillRooms cX4_fillRooms 4 none, Cond.methodLink RX4 105 yX8_solve, Cond.instanceMethod yX8_solve, Cond.selects RX8 yX8_solve yX8_solve, Cond.code yX8_solve cX8_solve 4 (some .boolean), Cond.constant RX8 49 (1000000), Cond.methodLink RX8 50 yX8_lineBelowZero, Cond.instanceMethod yX8_lineBelowZero, Cond.selects RX8 yX8_lineBelowZero yX8_lineBelowZero]
def wsX4_findCost_r5 : List Cond := [Cond.code yX8_lineBelowZero cX8_lineBelowZero 3 (some .int), Cond.methodLink RX8 54 yX8_columnFor, Cond.instanceMethod yX8_columnFor, Cond.selects RX8 yX8_columnFor yX8_columnFor, Cond.code yX8_columnFor cX8_columnFor 5 (some .int), Cond.methodLink RX8 62 yX8_compareRatios, Cond.instanceMethod yX8_compareRatios, Cond.selects RX8 yX8_compareRatios yX8_compareRatios, Cond.code yX8_compareRatios cX8_compareRatios 13 (some .int), Cond.methodLink RX8 58 yX8_pivot, Cond.instanceMethod yX8_pivot, Cond.selects RX8 yX8_pivot yX8_pivot, Cond.code yX8_pivot cX8_pivot 7 none, Cond.methodLink RX8 66 yX8_changeLine, Cond.instanceMethod yX8_changeLine, Cond.selects RX8 yX8_changeLine yX8_changeLine, Cond.code yX8_changeLine cX8_changeLine 9 none, Cond.methodLink RX4 109 yX4_readWages, Cond.instanceMethod yX4_readWages, Cond.selects RX4 yX4_readWages yX4_readWages, Cond.code yX4_readWages cX4_readWages 3 none, Cond.fieldLink RX4 9 "PaidBySigns$LeastCost" "above" "[J", Cond.constantLong RX4 145 (60), Cond.fieldLink RX4 147 "PaidBySigns$Table" "base" "J"]
def wsX4_findCost_r6 : List Cond := [Cond.fieldLink RX4 15 "PaidBySigns$LeastCost" "aboveLower" "J", Cond.fieldLink RX4 150 "PaidBySigns$Table" "goals" "I", Cond.fieldLink RX4 153 "PaidBySigns$Table" "lines" "I", Cond.fieldLink RX4 156 "PaidBySigns$Table" "lineName" "[I", Cond.methodLink RX4 139 yJ7_fill_d0a16]
def wsX4_findCost : List Cond := .code yX4_findCost cX4_findCost 3 (some .boolean) :: ((wsX4_findCost_r1 ++ (wsX4_findCost_r2 ++ (wsX4_findCost_r3 ++ (wsX4_findCost_r4 ++ (wsX4_findCost_r5 ++ wsX4_findCost_r6))))) ++ wsX40 ++ wsX30 ++ wsX80)
theorem pm_X4_findCost_r1 : ∀ w ∈ wsX4_findCost_r1, w ∈ wsX4_findCost := fun _ h => List.mem_cons_of_mem _ (List.mem_append_left _ (List.mem_append_left _ (List.mem_append_left _ (List.mem_append_left _ h))))
theorem pm_X4_findCost_r2 : ∀ w ∈ wsX4_findCost_r2, w ∈ wsX4_findCost := fun _ h => List.mem_cons_of_mem _ (List.mem_append_left _ (List.mem_append_left _ (List.mem_append_left _ (List.mem_append_right _ (List.mem_append_left _ h)))))
theorem pm_X4_findCost_r3 : ∀ w ∈ wsX4_findCost_r3, w ∈ wsX4_findCost := fun _ h => List.mem_cons_of_mem _ (List.mem_append_left _ (List.mem_append_left _ (List.mem_append_left _ (List.mem_append_right _ (List.mem_append_right _ (List.mem_append_left _ h))))))
theorem pm_X4_findCost_r4 : ∀ w ∈ wsX4_findCost_r4, w ∈ wsX4_findCost := fun _ h => List.mem_cons_of_mem _ (List.mem_append_left _ (List.mem_append_left _ (List.mem_append_left _ (List.mem_append_right _ (List.mem_append_right _ (List.mem_append_right _ (List.mem_append_left _ h)))))))
theorem pm_X4_findCost_r5 : ∀ w ∈ wsX4_findCost_r5, w ∈ wsX4_findCost := fun _ h => List.mem_cons_of_mem _ (List.mem_append_left _ (List.mem_append_left _ (List.mem_append_left _ (List.mem_append_right _ (List.mem_append_right _ (List.mem_append_right _ (List.mem_append_right _ (List.mem_append_left _ h))))))))
theorem pm_X4_findCost_r6 : ∀ w ∈ wsX4_findCost_r6, w ∈ wsX4_findCost := fun _ h => List.mem_cons_of_mem _ (List.mem_append_left _ (List.mem_append_left _ (List.mem_append_left _ (List.mem_append_right _ (List.mem_append_right _ (List.mem_append_right _ (List.mem_append_right _ (List.mem_append_right _ (h)))))))))
theorem pw_X4_findCost_X4 : ∀ w ∈ wsX40, w ∈ wsX4_findCost := fun _ h => List.mem_cons_of_mem _ (List.mem_append_left _ (List.mem_append_left _ (List.mem_append_right _ h)))
theorem pw_X4_findCost_X3 : ∀ w ∈ wsX30, w ∈ wsX4_findCost := fun _ h => List.mem_cons_of_mem _ (List.mem_append_left _ (List.mem_append_right _ h))
theorem pw_X4_findCost_X8 : ∀ w ∈ wsX80, w ∈ wsX4_findCost := fun _ h => List.mem_cons_of_mem _ (List.mem_append_right _ h)
set_option maxRecDepth 20000 in
theorem pq_X4_findCost_X4_find_r1 : ∀ w ∈ wsX4_find_r1, w ∈ wsX4_findCost := List.forall_mem_cons.mpr ⟨pm_X4_findCost_r1 _ (List.mem_of_getElem? (i := 5) rfl), List.forall_mem_cons.mpr ⟨pm_X4_findCost_r1 _ (List.mem_of_getElem? (i := 6) rfl), List.forall_mem_cons.mpr ⟨pm_X4_findCost_r1 _ (List.mem_of_getElem? (i := 7) rfl), List.forall_mem_cons.mpr ⟨pm_X4_findCost_r1 _ (List.mem_of_getElem? (i := 8) rfl), List.forall_mem_cons.mpr ⟨pm_X4_findCost_r1 _ (List.mem_of_getElem? (i := 9) rfl), List.forall_mem_cons.mpr ⟨pm_X4_findCost_r1 _ (List.mem_of_getElem? (i := 10) rfl), List.forall_mem_cons.mpr ⟨pm_X4_findCost_r1 _ (List.mem_of_getElem? (i := 11) rfl), List.forall_mem_cons.mpr ⟨pm_X4_findCost_r1 _ (List.mem_of_getElem? (i := 12) rfl), List.forall_mem_cons.mpr ⟨pm_X4_findCost_r1 _ (List.mem_of_getElem? (i := 13) rfl), List.forall_mem_cons.mpr ⟨pm_X4_findCost_r1 _ (List.mem_of_getElem? (i := 14) rfl), List.forall_mem_cons.mpr ⟨pm_X4_findCost_r1 _ (List.mem_of_getElem? (i := 15) rfl), List.forall_mem_cons.mpr ⟨pm_X4_findCost_r1 _ (List.mem_of_getElem? (i := 3) rfl), List.forall_mem_cons.mpr ⟨pm_X4_findCost_r1 _ (List.mem_of_getElem? (i := 16) rfl), List.forall_mem_cons.mpr ⟨pm_X4_findCost_r1 _ (List.mem_of_getElem? (i := 17) rfl), List.forall_mem_cons.mpr ⟨pm_X4_findCost_r1 _ (List.mem_of_getElem? (i := 18) rfl), List.forall_mem_cons.mpr ⟨pm_X4_findCost_r1 _ (List.mem_of_getElem? (i := 19) rfl), List.forall_mem_cons.mpr ⟨pm_X4_findCost_r1 _ (List.mem_of_getElem? (i := 20) rfl), List.forall_mem_cons.mpr ⟨pm_X4_findCost_r1 _ (List.mem_of_getElem? (i := 21) rfl), List.forall_mem_cons.mpr ⟨pm_X4_findCost_r1 _ (List.mem_of_getElem? (i := 22) rfl), List.forall_mem_cons.mpr ⟨pm_X4_findCost_r1 _ (List.mem_of_getElem? (i := 23) rfl), List.forall_mem_cons.mpr ⟨pm_X4_findCost_r2 _ (List.mem_of_getElem? (i := 0) rfl), List.forall_mem_cons.mpr ⟨pm_X4_findCost_r2 _ (List.mem_of_getElem? (i := 1) rfl), List.forall_mem_cons.mpr ⟨pm_X4_findCost_r2 _ (List.mem_of_getElem? (i := 2) rfl), List.forall_mem_cons.mpr ⟨pm_X4_findCost_r2 _ (List.mem_of_getElem? (i := 3) rfl), fun _ h => absurd h List.not_mem_nil⟩⟩⟩⟩⟩⟩⟩⟩⟩⟩⟩⟩⟩⟩⟩⟩⟩⟩⟩⟩⟩⟩⟩⟩
set_option maxRecDepth 20000 in
theorem pq_X4_findCost_X4_find_r2 : ∀ w ∈ wsX4_find_r2, w ∈ wsX4_findCost := List.forall_mem_cons.mpr ⟨pm_X4_findCost_r2 _ (List.mem_of_getElem? (i := 4) rfl), List.forall_mem_cons.mpr ⟨pm_X4_findCost_r2 _ (List.mem_of_getElem? (i := 5) rfl), List.forall_mem_cons.mpr ⟨pm_X4_findCost_r2 _ (List.mem_of_getElem? (i := 6) rfl), List.forall_mem_cons.mpr ⟨pm_X4_findCost_r2 _ (List.mem_of_getElem? (i := 7) rfl), List.forall_mem_cons.mpr ⟨pm_X4_findCost_r2 _ (List.mem_of_getElem? (i := 8) rfl), List.forall_mem_cons.mpr ⟨pm_X4_findCost_r2 _ (List.mem_of_getElem? (i := 9) rfl), List.forall_mem_cons.mpr ⟨pm_X4_findCost_r2 _ (List.mem_of_getElem? (i := 10) rfl), List.forall_mem_cons.mpr ⟨pm_X4_findCost_r2 _ (List.mem_of_getElem? (i := 11) rfl), List.forall_mem_cons.mpr ⟨pm_X4_findCost_r2 _ (List.mem_of_getElem? (i := 12) rfl), List.forall_mem_cons.mpr ⟨pm_X4_findCost_r2 _ (List.mem_of_getElem? (i := 13) rfl), List.forall_mem_cons.mpr ⟨pm_X4_findCost_r2 _ (List.mem_of_getElem? (i := 14) rfl), List.forall_mem_cons.mpr ⟨pm_X4_findCost_r2 _ (List.mem_of_getElem? (i := 15) rfl), List.forall_mem_cons.mpr ⟨pm_X4_findCost_r2 _ (List.mem_of_getElem? (i := 16) rfl), List.forall_mem_cons.mpr ⟨pm_X4_findCost_r2 _ (List.mem_of_getElem? (i := 17) rfl), List.forall_mem_cons.mpr ⟨pm_X4_findCost_r2 _ (List.mem_of_getElem? (i := 18) rfl), List.forall_mem_cons.mpr ⟨pm_X4_findCost_r2 _ (List.mem_of_getElem? (i := 19) rfl), List.forall_mem_cons.mpr ⟨pm_X4_findCost_r2 _ (List.mem_of_getElem? (i := 20) rfl), List.forall_mem_cons.mpr ⟨pm_X4_findCost_r2 _ (List.mem_of_getElem? (i := 21) rfl), List.forall_mem_cons.mpr ⟨pm_X4_findCost_r2 _ (List.mem_of_getElem? (i := 22) rfl), List.forall_mem_cons.mpr ⟨pm_X4_findCost_r2 _ (List.mem_of_getElem? (i := 23) rfl), List.forall_mem_cons.mpr ⟨pm_X4_findCost_r3 _ (List.mem_of_getElem? (i := 0) rfl), List.forall_mem_cons.mpr ⟨pm_X4_findCost_r3 _ (List.mem_of_getElem? (i := 1) rfl), List.forall_mem_cons.mpr ⟨pm_X4_findCost_r3 _ (List.mem_of_getElem? (i := 2) rfl), List.forall_mem_cons.mpr ⟨pm_X4_findCost_r3 _ (List.mem_of_getElem? (i := 3) rfl), fun _ h => absurd h List.not_mem_nil⟩⟩⟩⟩⟩⟩⟩⟩⟩⟩⟩⟩⟩⟩⟩⟩⟩⟩⟩⟩⟩⟩⟩⟩
set_option maxRecDepth 20000 in
theorem pq_X4_findCost_X4_find_r3 : ∀ w ∈ wsX4_find_r3, w ∈ wsX4_findCost := List.forall_mem_cons.mpr ⟨pm_X4_findCost_r3 _ (List.mem_of_getElem? (i := 4) rfl), List.forall_mem_cons.mpr ⟨pm_X4_findCost_r3 _ (List.mem_of_getElem? (i := 5) rfl), List.forall_mem_cons.mpr ⟨pm_X4_findCost_r3 _ (List.mem_of_getElem? (i := 6) rfl), List.forall_mem_cons.mpr ⟨pm_X4_findCost_r3 _ (List.mem_of_getElem? (i := 7) rfl), List.forall_mem_cons.mpr ⟨pm_X4_findCost_r3 _ (List.mem_of_getElem? (i := 8) rfl), List.forall_mem_cons.mpr ⟨pm_X4_findCost_r3 _ (List.mem_of_getElem? (i := 9) rfl), List.forall_mem_cons.mpr ⟨pm_X4_findCost_r3 _ (List.mem_of_getElem? (i := 10) rfl), List.forall_mem_cons.mpr ⟨pm_X4_findCost_r3 _ (List.mem_of_getElem? (i := 11) rfl), List.forall_mem_cons.mpr ⟨pm_X4_findCost_r3 _ (List.mem_of_getElem? (i := 12) rfl), List.forall_mem_cons.mpr ⟨pm_X4_findCost_r3 _ (List.mem_of_getElem? (i := 13) rfl), List.forall_mem_cons.mpr ⟨pm_X4_findCost_r3 _ (List.mem_of_getElem? (i := 14) rfl), List.forall_mem_cons.mpr ⟨pm_X4_findCost_r3 _ (List.mem_of_getElem? (i := 15) rfl), List.forall_mem_cons.mpr ⟨pm_X4_findCost_r3 _ (List.mem_of_getElem? (i := 16) rfl), List.forall_mem_cons.mpr ⟨pm_X4_findCost_r3 _ (List.mem_of_getElem? (i := 17) rfl), List.forall_mem_cons.mpr ⟨pm_X4_findCost_r3 _ (List.mem_of_getElem? (i := 18) rfl), List.forall_mem_cons.mpr ⟨pm_X4_findCost_r3 _ (List.mem_of_getElem? (i := 19) rfl), List.forall_mem_cons.mpr ⟨pm_X4_findCost_r3 _ (List.mem_of_getElem? (i := 20) rfl), List.forall_mem_cons.mpr ⟨pm_X4_findCost_r3 _ (List.mem_of_getElem? (i := 21) rfl), List.forall_mem_cons.mpr ⟨pm_X4_findCost_r3 _ (List.mem_of_getElem? (i := 22) rfl), List.forall_mem_cons.mpr ⟨pm_X4_findCost_r3 _ (List.mem_of_getElem? (i := 23) rfl), List.forall_mem_cons.mpr ⟨pm_X4_findCost_r4 _ (List.mem_of_getElem? (i := 0) rfl), List.forall_mem_cons.mpr ⟨pm_X4_findCost_r4 _ (List.mem_of_getElem? (i := 1) rfl), List.forall_mem_cons.mpr ⟨pm_X4_findCost_r4 _ (List.mem_of_getElem? (i := 2) rfl), List.forall_mem_cons.mpr ⟨pm_X4_findCost_r4 _ (List.mem_of_getElem? (i := 3) rfl), fun _ h => absurd h List.not_mem_nil⟩⟩⟩⟩⟩⟩⟩⟩⟩⟩⟩⟩⟩⟩⟩⟩⟩⟩⟩⟩⟩⟩⟩⟩
set_option maxRecDepth 20000 in
theorem pq_X4_findCost_X4_find_r4 : ∀ w ∈ wsX4_find_r4, w ∈ wsX4_findCost := List.forall_mem_cons.mpr ⟨pm_X4_findCost_r4 _ (List.mem_of_getElem? (i := 4) rfl), List.forall_mem_cons.mpr ⟨pm_X4_findCost_r4 _ (List.mem_of_getElem? (i := 5) rfl), List.forall_mem_cons.mpr ⟨pm_X4_findCost_r4 _ (List.mem_of_getElem? (i := 6) rfl), List.forall_mem_cons.mpr ⟨pm_X4_findCost_r4 _ (List.mem_of_getElem? (i := 7) rfl), List.forall_mem_cons.mpr ⟨pm_X4_findCost_r4 _ (List.mem_of_getElem? (i := 8) rfl), List.forall_mem_cons.mpr ⟨pm_X4_findCost_r4 _ (List.mem_of_getElem? (i := 9) rfl), List.forall_mem_cons.mpr ⟨pm_X4_findCost_r4 _ (List.mem_of_getElem? (i := 10) rfl), List.forall_mem_cons.mpr ⟨pm_X4_findCost_r4 _ (List.mem_of_getElem? (i := 11) rfl), List.forall_mem_cons.mpr ⟨pm_X4_findCost_r4 _ (List.mem_of_getElem? (i := 12) rfl), List.forall_mem_cons.mpr ⟨pm_X4_findCost_r4 _ (List.mem_of_getElem? (i := 13) rfl), List.forall_mem_cons.mpr ⟨pm_X4_findCost_r4 _ (List.mem_of_getElem? (i := 14) rfl), List.forall_mem_cons.mpr ⟨pm_X4_findCost_r4 _ (List.mem_of_getElem? (i := 15) rfl), List.forall_mem_cons.mpr ⟨pm_X4_findCost_r4 _ (List.mem_of_getElem? (i := 16) rfl), List.forall_mem_cons.mpr ⟨pm_X4_findCost_r4 _ (List.mem_of_getElem? (i := 17) rfl), List.forall_mem_cons.mpr ⟨pm_X4_findCost_r4 _ (List.mem_of_getElem? (i := 18) rfl), List.forall_mem_cons.mpr ⟨pm_X4_findCost_r4 _ (List.mem_of_getElem? (i := 19) rfl), List.forall_mem_cons.mpr ⟨pm_X4_findCost_r4 _ (List.mem_of_getElem? (i := 20) rfl), List.forall_mem_cons.mpr ⟨pm_X4_findCost_r4 _ (List.mem_of_getElem? (i := 21) rfl), List.forall_mem_cons.mpr ⟨pm_X4_findCost_r4 _ (List.mem_of_getElem? (i := 22) rfl), List.forall_mem_cons.mpr ⟨pm_X4_findCost_r4 _ (List.mem_of_getElem? (i := 23) rfl), List.forall_mem_cons.mpr ⟨pm_X4_findCost_r5 _ (List.mem_of_getElem? (i := 0) rfl), List.forall_mem_cons.mpr ⟨pm_X4_findCost_r5 _ (List.mem_of_getElem? (i := 1) rfl), List.forall_mem_cons.mpr ⟨pm_X4_findCost_r5 _ (List.mem_of_getElem? (i := 2) rfl), List.forall_mem_cons.mpr ⟨pm_X4_findCost_r5 _ (List.mem_of_getElem? (i := 3) rfl), fun _ h => absurd h List.not_mem_nil⟩⟩⟩⟩⟩⟩⟩⟩⟩⟩⟩⟩⟩⟩⟩⟩⟩⟩⟩⟩⟩⟩⟩⟩
set_option maxRecDepth 20000 in
theorem pq_X4_findCost_X4_find_r5 : ∀ w ∈ wsX4_find_r5, w ∈ wsX4_findCost := List.forall_mem_cons.mpr ⟨pm_X4_findCost_r5 _ (List.mem_of_getElem? (i := 4) rfl), List.forall_mem_cons.mpr ⟨pm_X4_findCost_r5 _ (List.mem_of_getElem? (i := 5) rfl), List.forall_mem_cons.mpr ⟨pm_X4_findCost_r5 _ (List.mem_of_getElem? (i := 6) rfl), List.forall_mem_cons.mpr ⟨pm_X4_findCost_r5 _ (List.mem_of_getElem? (i := 7) rfl), List.forall_mem_cons.mpr ⟨pm_X4_findCost_r5 _ (List.mem_of_getElem? (i := 8) rfl), List.forall_mem_cons.mpr ⟨pm_X4_findCost_r5 _ (List.mem_of_getElem? (i := 9) rfl), List.forall_mem_cons.mpr ⟨pm_X4_findCost_r5 _ (List.mem_of_getElem? (i := 10) rfl), List.forall_mem_cons.mpr ⟨pm_X4_findCost_r5 _ (List.mem_of_getElem? (i := 11) rfl), List.forall_mem_cons.mpr ⟨pm_X4_findCost_r5 _ (List.mem_of_getElem? (i := 12) rfl), List.forall_mem_cons.mpr ⟨pm_X4_findCost_r5 _ (List.mem_of_getElem? (i := 13) rfl), List.forall_mem_cons.mpr ⟨pm_X4_findCost_r5 _ (List.mem_of_getElem? (i := 14) rfl), List.forall_mem_cons.mpr ⟨pm_X4_findCost_r5 _ (List.mem_of_getElem? (i := 15) rfl), List.forall_mem_cons.mpr ⟨pm_X4_findCost_r5 _ (List.mem_of_getElem? (i := 16) rfl), List.forall_mem_cons.mpr ⟨pm_X4_findCost_r5 _ (List.mem_of_getElem? (i := 17) rfl), List.forall_mem_cons.mpr ⟨pm_X4_findCost_r5 _ (List.mem_of_getElem? (i := 18) rfl), List.forall_mem_cons.mpr ⟨pm_X4_findCost_r5 _ (List.mem_of_getElem? (i := 19) rfl), List.forall_mem_cons.mpr ⟨pm_X4_findCost_r5 _ (List.mem_of_getElem? (i := 20) rfl), List.forall_mem_cons.mpr ⟨pm_X4_findCost_r5 _ (List.mem_of_getElem? (i := 21) rfl), List.forall_mem_cons.mpr ⟨pm_X4_findCost_r5 _ (List.mem_of_getElem? (i := 22) rfl), List.forall_mem_cons.mpr ⟨pm_X4_findCost_r5 _ (List.mem_of_getElem? (i := 23) rfl), List.forall_mem_cons.mpr ⟨pm_X4_findCost_r6 _ (List.mem_of_getElem? (i := 0) rfl), List.forall_mem_cons.mpr ⟨pm_X4_findCost_r6 _ (List.mem_of_getElem? (i := 1) rfl), List.forall_mem_cons.mpr ⟨pm_X4_findCost_r6 _ (List.mem_of_getElem? (i := 2) rfl), List.forall_mem_cons.mpr ⟨pm_X4_findCost_r6 _ (List.mem_of_getElem? (i := 3) rfl), fun _ h => absurd h List.not_mem_nil⟩⟩⟩⟩⟩⟩⟩⟩⟩⟩⟩⟩⟩⟩⟩⟩⟩⟩⟩⟩⟩⟩⟩⟩
set_option maxRecDepth 20000 in
theorem pq_X4_findCost_X4_find_r6 : ∀ w ∈ wsX4_find_r6, w ∈ wsX4_findCost := List.forall_mem_cons.mpr ⟨pm_X4_findCost_r6 _ (List.mem_of_getElem? (i := 4) rfl), fun _ h => absurd h List.not_mem_nil⟩
set_option maxRecDepth 20000 in
theorem ggX4_findCost_X4_find : GoodIn wsX4_findCost wsX4_find := goodIn_sub (List.forall_mem_cons.mpr ⟨pm_X4_findCost_r1 _ (List.mem_of_getElem? (i := 4) rfl), List.forall_mem_append.mpr ⟨List.forall_mem_append.mpr ⟨List.forall_mem_append.mpr ⟨List.forall_mem_append.mpr ⟨pq_X4_findCost_X4_find_r1, List.forall_mem_append.mpr ⟨pq_X4_findCost_X4_find_r2, List.forall_mem_append.mpr ⟨pq_X4_findCost_X4_find_r3, List.forall_mem_append.mpr ⟨pq_X4_findCost_X4_find_r4, List.forall_mem_append.mpr ⟨pq_X4_findCost_X4_find_r5, pq_X4_findCost_X4_find_r6⟩⟩⟩⟩⟩, pw_X4_findCost_X4⟩, pw_X4_findCost_X3⟩, pw_X4_findCost_X8⟩⟩) (by decide +kernel)
set_option maxRecDepth 20000 in
theorem gX4_findCost_X4_find : GoodIn wsX4_findCost (wsV RX4 59 RX4 yX4_find wsX4_find) := goodIn_app (goodIn_of _ (by decide +kernel)) ggX4_findCost_X4_find
theorem dX4_findCost_0 : decode cX4_findCost 0 = .ok (.aload_n 0, 1) := by decide +kernel
theorem dX4_findCost_1 : decode cX4_findCost 1 = .ok (.aload_n 1, 1) := by decide +kernel
theorem dX4_findCost_2 : decode cX4_findCost 2 = .ok (.iload_n 2, 1) := by decide +kernel
theorem dX4_findCost_3 : decode cX4_findCost 3 = .ok (.iconst (-1), 1) := by decide +kernel
theorem dX4_findCost_4 : decode cX4_findCost 4 = .ok (.iconst (-1), 1) := by decide +kernel
theorem dX4_findCost_5 : decode cX4_findCost 5 = .ok (.iconst 1, 1) := by decide +kernel
theorem dX4_findCost_6 : decode cX4_findCost 6 = .ok (.invokevirtual 59, 3) := by decide +kernel
theorem dX4_findCost_9 : decode cX4_findCost 9 = .ok (.ireturn, 1) := by decide +kernel
theorem pm_X4_find_r1 : ∀ w ∈ wsX4_find_r1, w ∈ wsX4_find := fun _ h => List.mem_cons_of_mem _ (List.mem_append_left _ (List.mem_append_left _ (List.mem_append_left _ (List.mem_append_left _ h))))
theorem pm_X4_find_r2 : ∀ w ∈ wsX4_find_r2, w ∈ wsX4_find := fun _ h => List.mem_cons_of_mem _ (List.mem_append_left _ (List.mem_append_left _ (List.mem_append_left _ (List.mem_append_right _ (List.mem_append_left _ h)))))
theorem pm_X4_find_r3 : ∀ w ∈ wsX4_find_r3, w ∈ wsX4_find := fun _ h => List.mem_cons_of_mem _ (List.mem_append_left _ (List.mem_append_left _ (List.mem_append_left _ (List.mem_append_right _ (List.mem_append_right _ (List.mem_append_left _ h))))))
theorem pm_X4_find_r4 : ∀ w ∈ wsX4_find_r4, w ∈ wsX4_find := fun _ h => List.mem_cons_of_mem _ (List.mem_append_left _ (List.mem_append_left _ (List.mem_append_left _ (List.mem_append_right _ (List.mem_append_right _ (List.mem_append_right _ (List.mem_append_left _ h)))))))
theorem pm_X4_find_r5 : ∀ w ∈ wsX4_find_r5, w ∈ wsX4_find := fun _ h => List.mem_cons_of_mem _ (List.mem_append_left _ (List.mem_append_left _ (List.mem_append_left _ (List.mem_append_right _ (List.mem_append_right _ (List.mem_append_right _ (List.mem_append_right _ (List.mem_append_left _ h))))))))
theorem pm_X4_find_r6 : ∀ w ∈ wsX4_find_r6, w ∈ wsX4_find := fun _ h => List.mem_cons_of_mem _ (List.mem_append_left _ (List.mem_append_left _ (List.mem_append_left _ (List.mem_append_right _ (List.mem_append_right _ (List.mem_append_right _ (List.mem_append_right _ (List.mem_append_right _ (h)))))))))
theorem pw_X4_find_X4 : ∀ w ∈ wsX40, w ∈ wsX4_find := fun _ h => List.mem_cons_of_mem _ (List.mem_append_left _ (List.mem_append_left _ (List.mem_append_right _ h)))
theorem pw_X4_find_X3 : ∀ w ∈ wsX30, w ∈ wsX4_find := fun _ h => List.mem_cons_of_mem _ (List.mem_append_left _ (List.mem_append_right _ h))
theorem pw_X4_find_X8 : ∀ w ∈ wsX80, w ∈ wsX4_find := fun _ h => List.mem_cons_of_mem _ (List.mem_append_right _ h)
set_option maxRecDepth 20000 in
theorem ggX4_find_X4_listColumns : GoodIn wsX4_find wsX4_listColumns := goodIn_sub (List.forall_mem_cons.mpr ⟨pm_X4_find_r1 _ (List.mem_of_getElem? (i := 12) rfl), List.forall_mem_append.mpr ⟨List.forall_mem_append.mpr ⟨List.forall_mem_cons.mpr ⟨pm_X4_find_r1 _ (List.mem_of_getElem? (i := 7) rfl), List.forall_mem_cons.mpr ⟨pm_X4_find_r1 _ (List.mem_of_getElem? (i := 6) rfl), List.forall_mem_cons.mpr ⟨pm_X4_find_r1 _ (List.mem_of_getElem? (i := 0) rfl), List.forall_mem_cons.mpr ⟨pm_X4_find_r1 _ (List.mem_of_getElem? (i := 13) rfl), List.forall_mem_cons.mpr ⟨pm_X4_find_r1 _ (List.mem_of_getElem? (i := 1) rfl), List.forall_mem_cons.mpr ⟨pm_X4_find_r1 _ (List.mem_of_getElem? (i := 14) rfl), List.forall_mem_cons.mpr ⟨pm_X4_find_r1 _ (List.mem_of_getElem? (i := 15) rfl), List.forall_mem_cons.mpr ⟨pm_X4_find_r1 _ (List.mem_of_getElem? (i := 16) rfl), List.forall_mem_cons.mpr ⟨pm_X4_find_r1 _ (List.mem_of_getElem? (i := 11) rfl), List.forall_mem_cons.mpr ⟨pm_X4_find_r1 _ (List.mem_of_getElem? (i := 17) rfl), List.forall_mem_cons.mpr ⟨pm_X4_find_r1 _ (List.mem_of_getElem? (i := 3) rfl), List.forall_mem_cons.mpr ⟨pm_X4_find_r1 _ (List.mem_of_getElem? (i := 2) rfl), List.forall_mem_cons.mpr ⟨pm_X4_find_r1 _ (List.mem_of_getElem? (i := 18) rfl), List.forall_mem_cons.mpr ⟨pm_X4_find_r1 _ (List.mem_of_getElem? (i := 19) rfl), List.forall_mem_cons.mpr ⟨pm_X4_find_r1 _ (List.mem_of_getElem? (i := 20) rfl), List.forall_mem_cons.mpr ⟨pm_X4_find_r1 _ (List.mem_of_getElem? (i := 21) rfl), List.forall_mem_cons.mpr ⟨pm_X4_find_r1 _ (List.mem_of_getElem? (i := 22) rfl), List.forall_mem_cons.mpr ⟨pm_X4_find_r1 _ (List.mem_of_getElem? (i := 23) rfl), List.forall_mem_cons.mpr ⟨pm_X4_find_r2 _ (List.mem_of_getElem? (i := 0) rfl), List.forall_mem_cons.mpr ⟨pm_X4_find_r2 _ (List.mem_of_getElem? (i := 1) rfl), List.forall_mem_cons.mpr ⟨pm_X4_find_r2 _ (List.mem_of_getElem? (i := 2) rfl), List.forall_mem_cons.mpr ⟨pm_X4_find_r2 _ (List.mem_of_getElem? (i := 3) rfl), List.forall_mem_cons.mpr ⟨pm_X4_find_r2 _ (List.mem_of_getElem? (i := 4) rfl), List.forall_mem_cons.mpr ⟨pm_X4_find_r2 _ (List.mem_of_getElem? (i := 5) rfl), fun _ h => absurd h List.not_mem_nil⟩⟩⟩⟩⟩⟩⟩⟩⟩⟩⟩⟩⟩⟩⟩⟩⟩⟩⟩⟩⟩⟩⟩⟩, pw_X4_find_X4⟩, pw_X4_find_X3⟩⟩) (by decide +kernel)
set_option maxRecDepth 20000 in
theorem gX4_find_X4_listColumns : GoodIn wsX4_find (wsV RX4 85 RX4 yX4_listColumns wsX4_listColumns) := goodIn_app (goodIn_of _ (by decide +kernel)) ggX4_find_X4_listColumns
set_option maxRecDepth 20000 in
theorem ggX4_find_X8_start : GoodIn wsX4_find wsX8_start := goodIn_sub (List.forall_mem_cons.mpr ⟨pm_X4_find_r2 _ (List.mem_of_getElem? (i := 10) rfl), List.forall_mem_append.mpr ⟨List.forall_mem_cons.mpr ⟨pm_X4_find_r2 _ (List.mem_of_getElem? (i := 11) rfl), List.forall_mem_cons.mpr ⟨pm_X4_find_r2 _ (List.mem_of_getElem? (i := 12) rfl), List.forall_mem_cons.mpr ⟨pm_X4_find_r2 _ (List.mem_of_getElem? (i := 13) rfl), List.forall_mem_cons.mpr ⟨pm_X4_find_r2 _ (List.mem_of_getElem? (i := 14) rfl), List.forall_mem_cons.mpr ⟨pm_X4_find_r2 _ (List.mem_of_getElem? (i := 15) rfl), List.forall_mem_cons.mpr ⟨pm_X4_find_r2 _ (List.mem_of_getElem? (i := 16) rfl), List.forall_mem_cons.mpr ⟨pm_X4_find_r2 _ (List.mem_of_getElem? (i := 17) rfl), List.forall_mem_cons.mpr ⟨pm_X4_find_r2 _ (List.mem_of_getElem? (i := 18) rfl), List.forall_mem_cons.mpr ⟨pm_X4_find_r2 _ (List.mem_of_getElem? (i := 19) rfl), List.forall_mem_cons.mpr ⟨pm_X4_find_r2 _ (List.mem_of_getElem? (i := 20) rfl), List.forall_mem_cons.mpr ⟨pm_X4_find_r2 _ (List.mem_of_getElem? (i := 21) rfl), List.forall_mem_cons.mpr ⟨pm_X4_find_r2 _ (List.mem_of_getElem? (i := 22) rfl), List.forall_mem_cons.mpr ⟨pm_X4_find_r2 _ (List.mem_of_getElem? (i := 23) rfl), List.forall_mem_cons.mpr ⟨pm_X4_find_r3 _ (List.mem_of_getElem? (i := 0) rfl), List.forall_mem_cons.mpr ⟨pm_X4_find_r3 _ (List.mem_of_getElem? (i := 1) rfl), fun _ h => absurd h List.not_mem_nil⟩⟩⟩⟩⟩⟩⟩⟩⟩⟩⟩⟩⟩⟩⟩, pw_X4_find_X8⟩⟩) (by decide +kernel)
set_option maxRecDepth 20000 in
theorem gX4_find_X8_start : GoodIn wsX4_find (wsV RX4 91 RX8 yX8_start wsX8_start) := goodIn_app (goodIn_of _ (by decide +kernel)) ggX4_find_X8_start
set_option maxRecDepth 20000 in
theorem ggX4_find_X4_fillGoals : GoodIn wsX4_find wsX4_fillGoals := goodIn_sub (List.forall_mem_cons.mpr ⟨pm_X4_find_r3 _ (List.mem_of_getElem? (i := 5) rfl), List.forall_mem_append.mpr ⟨List.forall_mem_append.mpr ⟨List.forall_mem_append.mpr ⟨List.forall_mem_cons.mpr ⟨pm_X4_find_r1 _ (List.mem_of_getElem? (i := 7) rfl), List.forall_mem_cons.mpr ⟨pm_X4_find_r2 _ (List.mem_of_getElem? (i := 2) rfl), List.forall_mem_cons.mpr ⟨pm_X4_find_r1 _ (List.mem_of_getElem? (i := 4) rfl), List.forall_mem_cons.mpr ⟨pm_X4_find_r3 _ (List.mem_of_getElem? (i := 6) rfl), List.forall_mem_cons.mpr ⟨pm_X4_find_r1 _ (List.mem_of_getElem? (i := 1) rfl), List.forall_mem_cons.mpr ⟨pm_X4_find_r3 _ (List.mem_of_getElem? (i := 7) rfl), List.forall_mem_cons.mpr ⟨pm_X4_find_r3 _ (List.mem_of_getElem? (i := 8) rfl), List.forall_mem_cons.mpr ⟨pm_X4_find_r3 _ (List.mem_of_getElem? (i := 9) rfl), List.forall_mem_cons.mpr ⟨pm_X4_find_r1 _ (List.mem_of_getElem? (i := 11) rfl), List.forall_mem_cons.mpr ⟨pm_X4_find_r3 _ (List.mem_of_getElem? (i := 10) rfl), List.forall_mem_cons.mpr ⟨pm_X4_find_r2 _ (List.mem_of_getElem? (i := 3) rfl), List.forall_mem_cons.mpr ⟨pm_X4_find_r1 _ (List.mem_of_getElem? (i := 14) rfl), List.forall_mem_cons.mpr ⟨pm_X4_find_r1 _ (List.mem_of_getElem? (i := 15) rfl), List.forall_mem_cons.mpr ⟨pm_X4_find_r1 _ (List.mem_of_getElem? (i := 16) rfl), List.forall_mem_cons.mpr ⟨pm_X4_find_r1 _ (List.mem_of_getElem? (i := 17) rfl), List.forall_mem_cons.mpr ⟨pm_X4_find_r1 _ (List.mem_of_getElem? (i := 3) rfl), List.forall_mem_cons.mpr ⟨pm_X4_find_r1 _ (List.mem_of_getElem? (i := 2) rfl), List.forall_mem_cons.mpr ⟨pm_X4_find_r1 _ (List.mem_of_getElem? (i := 0) rfl), List.forall_mem_cons.mpr ⟨pm_X4_find_r1 _ (List.mem_of_getElem? (i := 18) rfl), fun _ h => absurd h List.not_mem_nil⟩⟩⟩⟩⟩⟩⟩⟩⟩⟩⟩⟩⟩⟩⟩⟩⟩⟩⟩, pw_X4_find_X4⟩, pw_X4_find_X8⟩, pw_X4_find_X3⟩⟩) (by decide +kernel)
set_option maxRecDepth 20000 in
theorem gX4_find_X4_fillGoals : GoodIn wsX4_find (wsV RX4 95 RX4 yX4_fillGoals wsX4_fillGoals) := goodIn_app (goodIn_of _ (by decide +kernel)) ggX4_find_X4_fillGoals
set_option maxRecDepth 20000 in
theorem pq_X4_find_X4_fillLines_r1 : ∀ w ∈ wsX4_fillLines_r1, w ∈ wsX4_find := List.forall_mem_cons.mpr ⟨pm_X4_find_r1 _ (List.mem_of_getElem? (i := 0) rfl), List.forall_mem_cons.mpr ⟨pm_X4_find_r1 _ (List.mem_of_getElem? (i := 5) rfl), List.forall_mem_cons.mpr ⟨pm_X4_find_r1 _ (List.mem_of_getElem? (i := 4) rfl), List.forall_mem_cons.mpr ⟨pm_X4_find_r3 _ (List.mem_of_getElem? (i := 6) rfl), List.forall_mem_cons.mpr ⟨pm_X4_find_r3 _ (List.mem_of_getElem? (i := 15) rfl), List.forall_mem_cons.mpr ⟨pm_X4_find_r1 _ (List.mem_of_getElem? (i := 1) rfl), List.forall_mem_cons.mpr ⟨pm_X4_find_r1 _ (List.mem_of_getElem? (i := 7) rfl), List.forall_mem_cons.mpr ⟨pm_X4_find_r2 _ (List.mem_of_getElem? (i := 2) rfl), List.forall_mem_cons.mpr ⟨pm_X4_find_r3 _ (List.mem_of_getElem? (i := 16) rfl), List.forall_mem_cons.mpr ⟨pm_X4_find_r3 _ (List.mem_of_getElem? (i := 17) rfl), List.forall_mem_cons.mpr ⟨pm_X4_find_r3 _ (List.mem_of_getElem? (i := 18) rfl), List.forall_mem_cons.mpr ⟨pm_X4_find_r3 _ (List.mem_of_getElem? (i := 19) rfl), List.forall_mem_cons.mpr ⟨pm_X4_find_r3 _ (List.mem_of_getElem? (i := 20) rfl), List.forall_mem_cons.mpr ⟨pm_X4_find_r3 _ (List.mem_of_getElem? (i := 21) rfl), List.forall_mem_cons.mpr ⟨pm_X4_find_r3 _ (List.mem_of_getElem? (i := 22) rfl), List.forall_mem_cons.mpr ⟨pm_X4_find_r3 _ (List.mem_of_getElem? (i := 23) rfl), List.forall_mem_cons.mpr ⟨pm_X4_find_r4 _ (List.mem_of_getElem? (i := 0) rfl), List.forall_mem_cons.mpr ⟨pm_X4_find_r4 _ (List.mem_of_getElem? (i := 1) rfl), List.forall_mem_cons.mpr ⟨pm_X4_find_r4 _ (List.mem_of_getElem? (i := 2) rfl), List.forall_mem_cons.mpr ⟨pm_X4_find_r4 _ (List.mem_of_getElem? (i := 3) rfl), List.forall_mem_cons.mpr ⟨pm_X4_find_r4 _ (List.mem_of_getElem? (i := 4) rfl), List.forall_mem_cons.mpr ⟨pm_X4_find_r4 _ (List.mem_of_getElem? (i := 5) rfl), List.forall_mem_cons.mpr ⟨pm_X4_find_r4 _ (List.mem_of_getElem? (i := 6) rfl), List.forall_mem_cons.mpr ⟨pm_X4_find_r2 _ (List.mem_of_getElem? (i := 12) rfl), fun _ h => absurd h List.not_mem_nil⟩⟩⟩⟩⟩⟩⟩⟩⟩⟩⟩⟩⟩⟩⟩⟩⟩⟩⟩⟩⟩⟩⟩⟩
set_option maxRecDepth 20000 in
theorem pq_X4_find_X4_fillLines_r2 : ∀ w ∈ wsX4_fillLines_r2, w ∈ wsX4_find := List.forall_mem_cons.mpr ⟨pm_X4_find_r2 _ (List.mem_of_getElem? (i := 13) rfl), List.forall_mem_cons.mpr ⟨pm_X4_find_r2 _ (List.mem_of_getElem? (i := 14) rfl), List.forall_mem_cons.mpr ⟨pm_X4_find_r4 _ (List.mem_of_getElem? (i := 7) rfl), List.forall_mem_cons.mpr ⟨pm_X4_find_r1 _ (List.mem_of_getElem? (i := 14) rfl), List.forall_mem_cons.mpr ⟨pm_X4_find_r1 _ (List.mem_of_getElem? (i := 15) rfl), List.forall_mem_cons.mpr ⟨pm_X4_find_r1 _ (List.mem_of_getElem? (i := 16) rfl), List.forall_mem_cons.mpr ⟨pm_X4_find_r1 _ (List.mem_of_getElem? (i := 11) rfl), List.forall_mem_cons.mpr ⟨pm_X4_find_r1 _ (List.mem_of_getElem? (i := 17) rfl), List.forall_mem_cons.mpr ⟨pm_X4_find_r1 _ (List.mem_of_getElem? (i := 3) rfl), List.forall_mem_cons.mpr ⟨pm_X4_find_r1 _ (List.mem_of_getElem? (i := 2) rfl), List.forall_mem_cons.mpr ⟨pm_X4_find_r1 _ (List.mem_of_getElem? (i := 18) rfl), fun _ h => absurd h List.not_mem_nil⟩⟩⟩⟩⟩⟩⟩⟩⟩⟩⟩
set_option maxRecDepth 20000 in
theorem ggX4_find_X4_fillLines : GoodIn wsX4_find wsX4_fillLines := goodIn_sub (List.forall_mem_cons.mpr ⟨pm_X4_find_r3 _ (List.mem_of_getElem? (i := 14) rfl), List.forall_mem_append.mpr ⟨List.forall_mem_append.mpr ⟨List.forall_mem_append.mpr ⟨List.forall_mem_append.mpr ⟨pq_X4_find_X4_fillLines_r1, pq_X4_find_X4_fillLines_r2⟩, pw_X4_find_X4⟩, pw_X4_find_X3⟩, pw_X4_find_X8⟩⟩) (by decide +kernel)
set_option maxRecDepth 20000 in
theorem gX4_find_X4_fillLines : GoodIn wsX4_find (wsV RX4 99 RX4 yX4_fillLines wsX4_fillLines) := goodIn_app (goodIn_of _ (by decide +kernel)) ggX4_find_X4_fillLines
set_option maxRecDepth 20000 in
theorem ggX4_find_X4_fillRooms : GoodIn wsX4_find wsX4_fillRooms := goodIn_sub (List.forall_mem_cons.mpr ⟨pm_X4_find_r4 _ (List.mem_of_getElem? (i := 11) rfl), List.forall_mem_append.mpr ⟨List.forall_mem_append.mpr ⟨List.forall_mem_cons.mpr ⟨pm_X4_find_r1 _ (List.mem_of_getElem? (i := 7) rfl), List.forall_mem_cons.mpr ⟨pm_X4_find_r2 _ (List.mem_of_getElem? (i := 5) rfl), List.forall_mem_cons.mpr ⟨pm_X4_find_r1 _ (List.mem_of_getElem? (i := 4) rfl), List.forall_mem_cons.mpr ⟨pm_X4_find_r3 _ (List.mem_of_getElem? (i := 6) rfl), fun _ h => absurd h List.not_mem_nil⟩⟩⟩⟩, pw_X4_find_X4⟩, pw_X4_find_X8⟩⟩) (by decide +kernel)
set_option maxRecDepth 20000 in
theorem gX4_find_X4_fillRooms : GoodIn wsX4_find (wsV RX4 102 RX4 yX4_fillRooms wsX4_fillRooms) := goodIn_app (goodIn_of _ (by decide +kernel)) ggX4_find_X4_fillRooms
set_option maxRecDepth 20000 in
theorem pq_X4_find_X8_solve_r1 : ∀ w ∈ wsX8_solve_r1, w ∈ wsX4_find := List.forall_mem_cons.mpr ⟨pm_X4_find_r4 _ (List.mem_of_getElem? (i := 16) rfl), List.forall_mem_cons.mpr ⟨pm_X4_find_r4 _ (List.mem_of_getElem? (i := 17) rfl), List.forall_mem_cons.mpr ⟨pm_X4_find_r4 _ (List.mem_of_getElem? (i := 18) rfl), List.forall_mem_cons.mpr ⟨pm_X4_find_r4 _ (List.mem_of_getElem? (i := 19) rfl), List.forall_mem_cons.mpr ⟨pm_X4_find_r2 _ (List.mem_of_getElem? (i := 9) rfl), List.forall_mem_cons.mpr ⟨pm_X4_find_r4 _ (List.mem_of_getElem? (i := 20) rfl), List.forall_mem_cons.mpr ⟨pm_X4_find_r2 _ (List.mem_of_getElem? (i := 15) rfl), List.forall_mem_cons.mpr ⟨pm_X4_find_r2 _ (List.mem_of_getElem? (i := 16) rfl), List.forall_mem_cons.mpr ⟨pm_X4_find_r2 _ (List.mem_of_getElem? (i := 19) rfl), List.forall_mem_cons.mpr ⟨pm_X4_find_r2 _ (List.mem_of_getElem? (i := 20) rfl), List.forall_mem_cons.mpr ⟨pm_X4_find_r4 _ (List.mem_of_getElem? (i := 21) rfl), List.forall_mem_cons.mpr ⟨pm_X4_find_r4 _ (List.mem_of_getElem? (i := 22) rfl), List.forall_mem_cons.mpr ⟨pm_X4_find_r4 _ (List.mem_of_getElem? (i := 23) rfl), List.forall_mem_cons.mpr ⟨pm_X4_find_r5 _ (List.mem_of_getElem? (i := 0) rfl), List.forall_mem_cons.mpr ⟨pm_X4_find_r2 _ (List.mem_of_getElem? (i := 17) rfl), List.forall_mem_cons.mpr ⟨pm_X4_find_r2 _ (List.mem_of_getElem? (i := 21) rfl), List.forall_mem_cons.mpr ⟨pm_X4_find_r5 _ (List.mem_of_getElem? (i := 1) rfl), List.forall_mem_cons.mpr ⟨pm_X4_find_r5 _ (List.mem_of_getElem? (i := 2) rfl), List.forall_mem_cons.mpr ⟨pm_X4_find_r5 _ (List.mem_of_getElem? (i := 3) rfl), List.forall_mem_cons.mpr ⟨pm_X4_find_r5 _ (List.mem_of_getElem? (i := 4) rfl), List.forall_mem_cons.mpr ⟨pm_X4_find_r5 _ (List.mem_of_getElem? (i := 5) rfl), List.forall_mem_cons.mpr ⟨pm_X4_find_r5 _ (List.mem_of_getElem? (i := 6) rfl), List.forall_mem_cons.mpr ⟨pm_X4_find_r5 _ (List.mem_of_getElem? (i := 7) rfl), List.forall_mem_cons.mpr ⟨pm_X4_find_r5 _ (List.mem_of_getElem? (i := 8) rfl), fun _ h => absurd h List.not_mem_nil⟩⟩⟩⟩⟩⟩⟩⟩⟩⟩⟩⟩⟩⟩⟩⟩⟩⟩⟩⟩⟩⟩⟩⟩
set_option maxRecDepth 20000 in
theorem pq_X4_find_X8_solve_r2 : ∀ w ∈ wsX8_solve_r2, w ∈ wsX4_find := List.forall_mem_cons.mpr ⟨pm_X4_find_r2 _ (List.mem_of_getElem? (i := 18) rfl), List.forall_mem_cons.mpr ⟨pm_X4_find_r5 _ (List.mem_of_getElem? (i := 9) rfl), List.forall_mem_cons.mpr ⟨pm_X4_find_r5 _ (List.mem_of_getElem? (i := 10) rfl), List.forall_mem_cons.mpr ⟨pm_X4_find_r5 _ (List.mem_of_getElem? (i := 11) rfl), List.forall_mem_cons.mpr ⟨pm_X4_find_r5 _ (List.mem_of_getElem? (i := 12) rfl), fun _ h => absurd h List.not_mem_nil⟩⟩⟩⟩⟩
set_option maxRecDepth 20000 in
theorem ggX4_find_X8_solve : GoodIn wsX4_find wsX8_solve := goodIn_sub (List.forall_mem_cons.mpr ⟨pm_X4_find_r4 _ (List.mem_of_getElem? (i := 15) rfl), List.forall_mem_append.mpr ⟨List.forall_mem_append.mpr ⟨pq_X4_find_X8_solve_r1, pq_X4_find_X8_solve_r2⟩, pw_X4_find_X8⟩⟩) (by decide +kernel)
set_option maxRecDepth 20000 in
theorem gX4_find_X8_solve : GoodIn wsX4_find (wsV RX4 105 RX8 yX8_solve wsX8_solve) := goodIn_app (goodIn_of _ (by decide +kernel)) ggX4_find_X8_solve
set_option maxRecDepth 20000 in
theorem ggX4_find_X4_readWages : GoodIn wsX4_find wsX4_readWages := goodIn_sub (List.forall_mem_cons.mpr ⟨pm_X4_find_r5 _ (List.mem_of_getElem? (i := 16) rfl), List.forall_mem_append.mpr ⟨List.forall_mem_append.mpr ⟨List.forall_mem_cons.mpr ⟨pm_X4_find_r5 _ (List.mem_of_getElem? (i := 17) rfl), List.forall_mem_cons.mpr ⟨pm_X4_find_r5 _ (List.mem_of_getElem? (i := 18) rfl), List.forall_mem_cons.mpr ⟨pm_X4_find_r1 _ (List.mem_of_getElem? (i := 4) rfl), List.forall_mem_cons.mpr ⟨pm_X4_find_r5 _ (List.mem_of_getElem? (i := 19) rfl), List.forall_mem_cons.mpr ⟨pm_X4_find_r5 _ (List.mem_of_getElem? (i := 20) rfl), List.forall_mem_cons.mpr ⟨pm_X4_find_r5 _ (List.mem_of_getElem? (i := 21) rfl), List.forall_mem_cons.mpr ⟨pm_X4_find_r5 _ (List.mem_of_getElem? (i := 22) rfl), List.forall_mem_cons.mpr ⟨pm_X4_find_r5 _ (List.mem_of_getElem? (i := 23) rfl), List.forall_mem_cons.mpr ⟨pm_X4_find_r1 _ (List.mem_of_getElem? (i := 7) rfl), List.forall_mem_cons.mpr ⟨pm_X4_find_r2 _ (List.mem_of_getElem? (i := 2) rfl), List.forall_mem_cons.mpr ⟨pm_X4_find_r3 _ (List.mem_of_getElem? (i := 6) rfl), List.forall_mem_cons.mpr ⟨pm_X4_find_r6 _ (List.mem_of_getElem? (i := 0) rfl), List.forall_mem_cons.mpr ⟨pm_X4_find_r2 _ (List.mem_of_getElem? (i := 23) rfl), List.forall_mem_cons.mpr ⟨pm_X4_find_r3 _ (List.mem_of_getElem? (i := 0) rfl), List.forall_mem_cons.mpr ⟨pm_X4_find_r3 _ (List.mem_of_getElem? (i := 1) rfl), List.forall_mem_cons.mpr ⟨pm_X4_find_r3 _ (List.mem_of_getElem? (i := 7) rfl), List.forall_mem_cons.mpr ⟨pm_X4_find_r3 _ (List.mem_of_getElem? (i := 8) rfl), List.forall_mem_cons.mpr ⟨pm_X4_find_r3 _ (List.mem_of_getElem? (i := 9) rfl), List.forall_mem_cons.mpr ⟨pm_X4_find_r1 _ (List.mem_of_getElem? (i := 11) rfl), List.forall_mem_cons.mpr ⟨pm_X4_find_r3 _ (List.mem_of_getElem? (i := 10) rfl), List.forall_mem_cons.mpr ⟨pm_X4_find_r2 _ (List.mem_of_getElem? (i := 3) rfl), fun _ h => absurd h List.not_mem_nil⟩⟩⟩⟩⟩⟩⟩⟩⟩⟩⟩⟩⟩⟩⟩⟩⟩⟩⟩⟩⟩, pw_X4_find_X4⟩, pw_X4_find_X8⟩⟩) (by decide +kernel)
set_option maxRecDepth 20000 in
theorem gX4_find_X4_readWages : GoodIn wsX4_find (wsV RX4 109 RX4 yX4_readWages wsX4_readWages) := goodIn_app (goodIn_of _ (by decide +kernel)) ggX4_find_X4_readWages
theorem dX4_find_0 : decode cX4_find 0 = .ok (.aload_n 0, 1) := by decide +kernel
theorem dX4_find_1 : decode cX4_find 1 = .ok (.aload_n 1, 1) := by decide +kernel
theorem dX4_find_2 : decode cX4_find 2 = .ok (.putfield 46, 3) := by decide +kernel
theorem dX4_find_5 : decode cX4_find 5 = .ok (.aload_n 0, 1) := by decide +kernel
theorem dX4_find_6 : decode cX4_find 6 = .ok (.iload_n 2, 1) := by decide +kernel
theorem dX4_find_7 : decode cX4_find 7 = .ok (.putfield 50, 3) := by decide +kernel
theorem dX4_find_10 : decode cX4_find 10 = .ok (.aload_n 0, 1) := by decide +kernel
theorem dX4_find_11 : decode cX4_find 11 = .ok (.iload_n 3, 1) := by decide +kernel
theorem dX4_find_12 : decode cX4_find 12 = .ok (.putfield 53, 3) := by decide +kernel
theorem dX4_find_15 : decode cX4_find 15 = .ok (.aload_n 0, 1) := by decide +kernel
theorem dX4_find_16 : decode cX4_find 16 = .ok (.iload 4, 2) := by decide +kernel
theorem dX4_find_18 : decode cX4_find 18 = .ok (.putfield 56, 3) := by decide +kernel
theorem dX4_find_21 : decode cX4_find 21 = .ok (.aload_n 0, 1) := by decide +kernel
theorem dX4_find_22 : decode cX4_find 22 = .ok (.invokevirtual 85, 3) := by decide +kernel
theorem dX4_find_25 : decode cX4_find 25 = .ok (.aload_n 0, 1) := by decide +kernel
theorem dX4_find_26 : decode cX4_find 26 = .ok (.getfield 22, 3) := by decide +kernel
theorem dX4_find_29 : decode cX4_find 29 = .ok (.iload 5, 2) := by decide +kernel
theorem dX4_find_31 : decode cX4_find 31 = .ok (.iload 5, 2) := by decide +kernel
theorem dX4_find_33 : decode cX4_find 33 = .ok (.aload_n 0, 1) := by decide +kernel
theorem dX4_find_34 : decode cX4_find 34 = .ok (.getfield 46, 3) := by decide +kernel
theorem dX4_find_37 : decode cX4_find 37 = .ok (.getfield 88, 3) := by decide +kernel
theorem dX4_find_40 : decode cX4_find 40 = .ok (.iadd, 1) := by decide +kernel
theorem dX4_find_41 : decode cX4_find 41 = .ok (.aload_n 0, 1) := by decide +kernel
theorem dX4_find_42 : decode cX4_find 42 = .ok (.getfield 40, 3) := by decide +kernel
theorem dX4_find_45 : decode cX4_find 45 = .ok (.iadd, 1) := by decide +kernel
theorem dX4_find_46 : decode cX4_find 46 = .ok (.aload_n 0, 1) := by decide +kernel
theorem dX4_find_47 : decode cX4_find 47 = .ok (.getfield 36, 3) := by decide +kernel
theorem dX4_find_50 : decode cX4_find 50 = .ok (.invokevirtual 91, 3) := by decide +kernel
theorem dX4_find_53 : decode cX4_find 53 = .ok (.aload_n 0, 1) := by decide +kernel
theorem dX4_find_54 : decode cX4_find 54 = .ok (.iload 5, 2) := by decide +kernel
theorem dX4_find_56 : decode cX4_find 56 = .ok (.invokevirtual 95, 3) := by decide +kernel
theorem dX4_find_59 : decode cX4_find 59 = .ok (.aload_n 0, 1) := by decide +kernel
theorem dX4_find_60 : decode cX4_find 60 = .ok (.iload 5, 2) := by decide +kernel
theorem dX4_find_62 : decode cX4_find 62 = .ok (.invokevirtual 99, 3) := by decide +kernel
theorem dX4_find_65 : decode cX4_find 65 = .ok (.aload_n 0, 1) := by decide +kernel
theorem dX4_find_66 : decode cX4_find 66 = .ok (.iload 5, 2) := by decide +kernel
theorem dX4_find_68 : decode cX4_find 68 = .ok (.aload_n 0, 1) := by decide +kernel
theorem dX4_find_69 : decode cX4_find 69 = .ok (.getfield 46, 3) := by decide +kernel
theorem dX4_find_72 : decode cX4_find 72 = .ok (.getfield 88, 3) := by decide +kernel
theorem dX4_find_75 : decode cX4_find 75 = .ok (.iadd, 1) := by decide +kernel
theorem dX4_find_76 : decode cX4_find 76 = .ok (.invokevirtual 102, 3) := by decide +kernel
theorem dX4_find_79 : decode cX4_find 79 = .ok (.aload_n 0, 1) := by decide +kernel
theorem dX4_find_80 : decode cX4_find 80 = .ok (.getfield 22, 3) := by decide +kernel
theorem dX4_find_83 : decode cX4_find 83 = .ok (.invokevirtual 105, 3) := by decide +kernel
theorem dX4_find_86 : decode cX4_find 86 = .ok (.ifCond .ne 5, 3) := by decide +kernel
theorem dX4_find_89 : decode cX4_find 89 = .ok (.iconst 0, 1) := by decide +kernel
theorem dX4_find_90 : decode cX4_find 90 = .ok (.ireturn, 1) := by decide +kernel
theorem dX4_find_91 : decode cX4_find 91 = .ok (.aload_n 0, 1) := by decide +kernel
theorem dX4_find_92 : decode cX4_find 92 = .ok (.invokevirtual 109, 3) := by decide +kernel
theorem dX4_find_95 : decode cX4_find 95 = .ok (.iconst 1, 1) := by decide +kernel
theorem dX4_find_96 : decode cX4_find 96 = .ok (.ireturn, 1) := by decide +kernel
set_option maxRecDepth 20000 in
theorem ggX4_readWages_J7_fill_d0a16 : GoodIn wsX4_readWages wsJ7_fill_d0a16 := goodIn_r _ [15] (by decide +kernel) (by decide +kernel)
set_option maxRecDepth 20000 in
theorem gX4_readWages_J7_fill_d0a16 : GoodIn wsX4_readWages (va_wsS RX4 139 yJ7_fill_d0a16 wsJ7_fill_d0a16) := goodIn_app (goodIn_of _ (by decide +kernel)) ggX4_readWages_J7_fill_d0a16
set_option maxRecDepth 20000 in
theorem ggX4_readWages_X4_partsOf : GoodIn wsX4_readWages wsX4_partsOf := goodIn_r _ [20, 21, 22, 23, 24, 25, 26, 27, 28, 29, 30, 31, 32, 33] (by decide +kernel) (by decide +kernel)
set_option maxRecDepth 20000 in
theorem gX4_readWages_X4_partsOf : GoodIn wsX4_readWages (wsV RX4 128 RX4 yX4_partsOf wsX4_partsOf) := goodIn_app (goodIn_of _ (by decide +kernel)) ggX4_readWages_X4_partsOf
theorem dX4_readWages_0 : decode cX4_readWages 0 = .ok (.aload_n 0, 1) := by decide +kernel
theorem dX4_readWages_1 : decode cX4_readWages 1 = .ok (.getfield 9, 3) := by decide +kernel
theorem dX4_readWages_4 : decode cX4_readWages 4 = .ok (.lconst 0, 1) := by decide +kernel
theorem dX4_readWages_5 : decode cX4_readWages 5 = .ok (.invokestatic 139, 3) := by decide +kernel
theorem dX4_readWages_8 : decode cX4_readWages 8 = .ok (.aload_n 0, 1) := by decide +kernel
theorem dX4_readWages_9 : decode cX4_readWages 9 = .ok (.ldc2_w 145, 3) := by decide +kernel
theorem dX4_readWages_12 : decode cX4_readWages 12 = .ok (.aload_n 0, 1) := by decide +kernel
theorem dX4_readWages_13 : decode cX4_readWages 13 = .ok (.getfield 22, 3) := by decide +kernel
theorem dX4_readWages_16 : decode cX4_readWages 16 = .ok (.getfield 147, 3) := by decide +kernel
theorem dX4_readWages_19 : decode cX4_readWages 19 = .ok (.lmul, 1) := by decide +kernel
theorem dX4_readWages_20 : decode cX4_readWages 20 = .ok (.putfield 15, 3) := by decide +kernel
theorem dX4_readWages_23 : decode cX4_readWages 23 = .ok (.aload_n 0, 1) := by decide +kernel
theorem dX4_readWages_24 : decode cX4_readWages 24 = .ok (.getfield 22, 3) := by decide +kernel
theorem dX4_readWages_27 : decode cX4_readWages 27 = .ok (.getfield 150, 3) := by decide +kernel
theorem dX4_readWages_30 : decode cX4_readWages 30 = .ok (.istore_n 1, 1) := by decide +kernel
theorem dX4_readWages_31 : decode cX4_readWages 31 = .ok (.iload_n 1, 1) := by decide +kernel
theorem dX4_readWages_32 : decode cX4_readWages 32 = .ok (.aload_n 0, 1) := by decide +kernel
theorem dX4_readWages_33 : decode cX4_readWages 33 = .ok (.getfield 22, 3) := by decide +kernel
theorem dX4_readWages_36 : decode cX4_readWages 36 = .ok (.getfield 153, 3) := by decide +kernel
theorem dX4_readWages_39 : decode cX4_readWages 39 = .ok (.if_icmp .ge 59, 3) := by decide +kernel
theorem dX4_readWages_42 : decode cX4_readWages 42 = .ok (.aload_n 0, 1) := by decide +kernel
theorem dX4_readWages_43 : decode cX4_readWages 43 = .ok (.getfield 22, 3) := by decide +kernel
theorem dX4_readWages_46 : decode cX4_readWages 46 = .ok (.getfield 156, 3) := by decide +kernel
theorem dX4_readWages_49 : decode cX4_readWages 49 = .ok (.iload_n 1, 1) := by decide +kernel
theorem dX4_readWages_50 : decode cX4_readWages 50 = .ok (.iaload, 1) := by decide +kernel
theorem dX4_readWages_51 : decode cX4_readWages 51 = .ok (.istore_n 2, 1) := by decide +kernel
theorem dX4_readWages_52 : decode cX4_readWages 52 = .ok (.iload_n 2, 1) := by decide +kernel
theorem dX4_readWages_53 : decode cX4_readWages 53 = .ok (.aload_n 0, 1) := by decide +kernel
theorem dX4_readWages_54 : decode cX4_readWages 54 = .ok (.getfield 36, 3) := by decide +kernel
theorem dX4_readWages_57 : decode cX4_readWages 57 = .ok (.if_icmp .ge 35, 3) := by decide +kernel
theorem dX4_readWages_60 : decode cX4_readWages 60 = .ok (.aload_n 0, 1) := by decide +kernel
theorem dX4_readWages_61 : decode cX4_readWages 61 = .ok (.getfield 9, 3) := by decide +kernel
theorem dX4_readWages_64 : decode cX4_readWages 64 = .ok (.aload_n 0, 1) := by decide +kernel
theorem dX4_readWages_65 : decode cX4_readWages 65 = .ok (.getfield 26, 3) := by decide +kernel
theorem dX4_readWages_68 : decode cX4_readWages 68 = .ok (.iload_n 2, 1) := by decide +kernel
theorem dX4_readWages_69 : decode cX4_readWages 69 = .ok (.iaload, 1) := by decide +kernel
theorem dX4_readWages_70 : decode cX4_readWages 70 = .ok (.dup2, 1) := by decide +kernel
theorem dX4_readWages_71 : decode cX4_readWages 71 = .ok (.laload, 1) := by decide +kernel
theorem dX4_readWages_72 : decode cX4_readWages 72 = .ok (.aload_n 0, 1) := by decide +kernel
theorem dX4_readWages_73 : decode cX4_readWages 73 = .ok (.getfield 22, 3) := by decide +kernel
theorem dX4_readWages_76 : decode cX4_readWages 76 = .ok (.getfield 132, 3) := by decide +kernel
theorem dX4_readWages_79 : decode cX4_readWages 79 = .ok (.iload_n 1, 1) := by decide +kernel
theorem dX4_readWages_80 : decode cX4_readWages 80 = .ok (.aaload, 1) := by decide +kernel
theorem dX4_readWages_81 : decode cX4_readWages 81 = .ok (.iconst 0, 1) := by decide +kernel
theorem dX4_readWages_82 : decode cX4_readWages 82 = .ok (.laload, 1) := by decide +kernel
theorem dX4_readWages_83 : decode cX4_readWages 83 = .ok (.aload_n 0, 1) := by decide +kernel
theorem dX4_readWages_84 : decode cX4_readWages 84 = .ok (.iload_n 2, 1) := by decide +kernel
theorem dX4_readWages_85 : decode cX4_readWages 85 = .ok (.invokevirtual 128, 3) := by decide +kernel
theorem dX4_readWages_88 : decode cX4_readWages 88 = .ok (.i2l, 1) := by decide +kernel
theorem dX4_readWages_89 : decode cX4_readWages 89 = .ok (.lmul, 1) := by decide +kernel
theorem dX4_readWages_90 : decode cX4_readWages 90 = .ok (.ladd, 1) := by decide +kernel
theorem dX4_readWages_91 : decode cX4_readWages 91 = .ok (.lastore, 1) := by decide +kernel
theorem dX4_readWages_92 : decode cX4_readWages 92 = .ok (.iinc 1 1, 3) := by decide +kernel
theorem dX4_readWages_95 : decode cX4_readWages 95 = .ok (.goto (-64), 3) := by decide +kernel
theorem dX4_readWages_98 : decode cX4_readWages 98 = .ok (.return_, 1) := by decide +kernel
theorem pm_X8_solve_r1 : ∀ w ∈ wsX8_solve_r1, w ∈ wsX8_solve := fun _ h => List.mem_cons_of_mem _ (List.mem_append_left _ (List.mem_append_left _ h))
theorem pm_X8_solve_r2 : ∀ w ∈ wsX8_solve_r2, w ∈ wsX8_solve := fun _ h => List.mem_cons_of_mem _ (List.mem_append_left _ (List.mem_append_right _ (h)))
theorem pw_X8_solve_X8 : ∀ w ∈ wsX80, w ∈ wsX8_solve := fun _ h => List.mem_cons_of_mem _ (List.mem_append_right _ h)
set_option maxRecDepth 20000 in
theorem ggX8_solve_X8_lineBelowZero : GoodIn wsX8_solve wsX8_lineBelowZero := goodIn_sub (List.forall_mem_cons.mpr ⟨pm_X8_solve_r1 _ (List.mem_of_getElem? (i := 5) rfl), List.forall_mem_append.mpr ⟨List.forall_mem_cons.mpr ⟨pm_X8_solve_r1 _ (List.mem_of_getElem? (i := 6) rfl), List.forall_mem_cons.mpr ⟨pm_X8_solve_r1 _ (List.mem_of_getElem? (i := 7) rfl), List.forall_mem_cons.mpr ⟨pm_X8_solve_r1 _ (List.mem_of_getElem? (i := 8) rfl), List.forall_mem_cons.mpr ⟨pm_X8_solve_r1 _ (List.mem_of_getElem? (i := 9) rfl), fun _ h => absurd h List.not_mem_nil⟩⟩⟩⟩, pw_X8_solve_X8⟩⟩) (by decide +kernel)
set_option maxRecDepth 20000 in
theorem gX8_solve_X8_lineBelowZero : GoodIn wsX8_solve (wsV RX8 50 RX8 yX8_lineBelowZero wsX8_lineBelowZero) := goodIn_app (goodIn_of _ (by decide +kernel)) ggX8_solve_X8_lineBelowZero
set_option maxRecDepth 20000 in
theorem ggX8_solve_X8_columnFor : GoodIn wsX8_solve wsX8_columnFor := goodIn_sub (List.forall_mem_cons.mpr ⟨pm_X8_solve_r1 _ (List.mem_of_getElem? (i := 13) rfl), List.forall_mem_append.mpr ⟨List.forall_mem_cons.mpr ⟨pm_X8_solve_r1 _ (List.mem_of_getElem? (i := 14) rfl), List.forall_mem_cons.mpr ⟨pm_X8_solve_r1 _ (List.mem_of_getElem? (i := 8) rfl), List.forall_mem_cons.mpr ⟨pm_X8_solve_r1 _ (List.mem_of_getElem? (i := 15) rfl), List.forall_mem_cons.mpr ⟨pm_X8_solve_r1 _ (List.mem_of_getElem? (i := 16) rfl), List.forall_mem_cons.mpr ⟨pm_X8_solve_r1 _ (List.mem_of_getElem? (i := 17) rfl), List.forall_mem_cons.mpr ⟨pm_X8_solve_r1 _ (List.mem_of_getElem? (i := 18) rfl), List.forall_mem_cons.mpr ⟨pm_X8_solve_r1 _ (List.mem_of_getElem? (i := 4) rfl), List.forall_mem_cons.mpr ⟨pm_X8_solve_r1 _ (List.mem_of_getElem? (i := 19) rfl), List.forall_mem_cons.mpr ⟨pm_X8_solve_r1 _ (List.mem_of_getElem? (i := 6) rfl), fun _ h => absurd h List.not_mem_nil⟩⟩⟩⟩⟩⟩⟩⟩⟩, pw_X8_solve_X8⟩⟩) (by decide +kernel)
set_option maxRecDepth 20000 in
theorem gX8_solve_X8_columnFor : GoodIn wsX8_solve (wsV RX8 54 RX8 yX8_columnFor wsX8_columnFor) := goodIn_app (goodIn_of _ (by decide +kernel)) ggX8_solve_X8_columnFor
set_option maxRecDepth 20000 in
theorem ggX8_solve_X8_pivot : GoodIn wsX8_solve wsX8_pivot := goodIn_sub (List.forall_mem_cons.mpr ⟨pm_X8_solve_r1 _ (List.mem_of_getElem? (i := 23) rfl), List.forall_mem_append.mpr ⟨List.forall_mem_cons.mpr ⟨pm_X8_solve_r1 _ (List.mem_of_getElem? (i := 8) rfl), List.forall_mem_cons.mpr ⟨pm_X8_solve_r2 _ (List.mem_of_getElem? (i := 0) rfl), List.forall_mem_cons.mpr ⟨pm_X8_solve_r1 _ (List.mem_of_getElem? (i := 7) rfl), List.forall_mem_cons.mpr ⟨pm_X8_solve_r1 _ (List.mem_of_getElem? (i := 14) rfl), List.forall_mem_cons.mpr ⟨pm_X8_solve_r1 _ (List.mem_of_getElem? (i := 9) rfl), List.forall_mem_cons.mpr ⟨pm_X8_solve_r1 _ (List.mem_of_getElem? (i := 15) rfl), List.forall_mem_cons.mpr ⟨pm_X8_solve_r2 _ (List.mem_of_getElem? (i := 1) rfl), List.forall_mem_cons.mpr ⟨pm_X8_solve_r2 _ (List.mem_of_getElem? (i := 2) rfl), List.forall_mem_cons.mpr ⟨pm_X8_solve_r2 _ (List.mem_of_getElem? (i := 3) rfl), List.forall_mem_cons.mpr ⟨pm_X8_solve_r1 _ (List.mem_of_getElem? (i := 4) rfl), List.forall_mem_cons.mpr ⟨pm_X8_solve_r2 _ (List.mem_of_getElem? (i := 4) rfl), fun _ h => absurd h List.not_mem_nil⟩⟩⟩⟩⟩⟩⟩⟩⟩⟩⟩, pw_X8_solve_X8⟩⟩) (by decide +kernel)
set_option maxRecDepth 20000 in
theorem gX8_solve_X8_pivot : GoodIn wsX8_solve (wsV RX8 58 RX8 yX8_pivot wsX8_pivot) := goodIn_app (goodIn_of _ (by decide +kernel)) ggX8_solve_X8_pivot
theorem dX8_solve_0 : decode cX8_solve 0 = .ok (.iconst 0, 1) := by decide +kernel
theorem dX8_solve_1 : decode cX8_solve 1 = .ok (.istore_n 1, 1) := by decide +kernel
theorem dX8_solve_2 : decode cX8_solve 2 = .ok (.iload_n 1, 1) := by decide +kernel
theorem dX8_solve_3 : decode cX8_solve 3 = .ok (.ldc 49, 2) := by decide +kernel
theorem dX8_solve_5 : decode cX8_solve 5 = .ok (.if_icmp .ge 38, 3) := by decide +kernel
theorem dX8_solve_8 : decode cX8_solve 8 = .ok (.aload_n 0, 1) := by decide +kernel
theorem dX8_solve_9 : decode cX8_solve 9 = .ok (.invokevirtual 50, 3) := by decide +kernel
theorem dX8_solve_12 : decode cX8_solve 12 = .ok (.istore_n 2, 1) := by decide +kernel
theorem dX8_solve_13 : decode cX8_solve 13 = .ok (.iload_n 2, 1) := by decide +kernel
theorem dX8_solve_14 : decode cX8_solve 14 = .ok (.ifCond .ge 5, 3) := by decide +kernel
theorem dX8_solve_17 : decode cX8_solve 17 = .ok (.iconst 1, 1) := by decide +kernel
theorem dX8_solve_18 : decode cX8_solve 18 = .ok (.ireturn, 1) := by decide +kernel
theorem dX8_solve_19 : decode cX8_solve 19 = .ok (.aload_n 0, 1) := by decide +kernel
theorem dX8_solve_20 : decode cX8_solve 20 = .ok (.iload_n 2, 1) := by decide +kernel
theorem dX8_solve_21 : decode cX8_solve 21 = .ok (.invokevirtual 54, 3) := by decide +kernel
theorem dX8_solve_24 : decode cX8_solve 24 = .ok (.istore_n 3, 1) := by decide +kernel
theorem dX8_solve_25 : decode cX8_solve 25 = .ok (.iload_n 3, 1) := by decide +kernel
theorem dX8_solve_26 : decode cX8_solve 26 = .ok (.ifCond .ge 5, 3) := by decide +kernel
theorem dX8_solve_29 : decode cX8_solve 29 = .ok (.iconst 0, 1) := by decide +kernel
theorem dX8_solve_30 : decode cX8_solve 30 = .ok (.ireturn, 1) := by decide +kernel
theorem dX8_solve_31 : decode cX8_solve 31 = .ok (.aload_n 0, 1) := by decide +kernel
theorem dX8_solve_32 : decode cX8_solve 32 = .ok (.iload_n 2, 1) := by decide +kernel
theorem dX8_solve_33 : decode cX8_solve 33 = .ok (.iload_n 3, 1) := by decide +kernel
theorem dX8_solve_34 : decode cX8_solve 34 = .ok (.invokevirtual 58, 3) := by decide +kernel
theorem dX8_solve_37 : decode cX8_solve 37 = .ok (.iinc 1 1, 3) := by decide +kernel
theorem dX8_solve_40 : decode cX8_solve 40 = .ok (.goto (-38), 3) := by decide +kernel
theorem dX8_solve_43 : decode cX8_solve 43 = .ok (.iconst 0, 1) := by decide +kernel
theorem dX8_solve_44 : decode cX8_solve 44 = .ok (.ireturn, 1) := by decide +kernel
theorem kk_X4_find_0 : Cond.fieldLink RX4 46 "PaidBySigns$LeastCost" "hire" "LPaidBySigns$Hire;" ∈ wsX4_find := pm_X4_find_r1 _ (List.mem_of_getElem? (i := 0) rfl)
theorem kk_X4_find_1 : Cond.fieldLink RX4 50 "PaidBySigns$LeastCost" "work" "I" ∈ wsX4_find := pm_X4_find_r1 _ (List.mem_of_getElem? (i := 1) rfl)
theorem kk_X4_find_2 : Cond.fieldLink RX4 53 "PaidBySigns$LeastCost" "keptSign" "I" ∈ wsX4_find := pm_X4_find_r1 _ (List.mem_of_getElem? (i := 2) rfl)
theorem kk_X4_find_3 : Cond.fieldLink RX4 56 "PaidBySigns$LeastCost" "joinedSign" "I" ∈ wsX4_find := pm_X4_find_r1 _ (List.mem_of_getElem? (i := 3) rfl)
theorem kk_X4_find_4 : Cond.fieldLink RX4 22 "PaidBySigns$LeastCost" "table" "LPaidBySigns$Table;" ∈ wsX4_find := pm_X4_find_r1 _ (List.mem_of_getElem? (i := 4) rfl)
theorem kk_X4_find_5 : Cond.fieldLink RX4 88 "PaidBySigns$Hire" "works" "I" ∈ wsX4_find := pm_X4_find_r1 _ (List.mem_of_getElem? (i := 5) rfl)
theorem kk_X4_find_6 : Cond.fieldLink RX4 40 "PaidBySigns$LeastCost" "rooms" "I" ∈ wsX4_find := pm_X4_find_r1 _ (List.mem_of_getElem? (i := 6) rfl)
theorem kk_X4_find_7 : Cond.fieldLink RX4 36 "PaidBySigns$LeastCost" "columns" "I" ∈ wsX4_find := pm_X4_find_r1 _ (List.mem_of_getElem? (i := 7) rfl)
theorem kk_X8_solve_0 : Cond.constant RX8 49 (1000000) ∈ wsX8_solve := pm_X8_solve_r1 _ (List.mem_of_getElem? (i := 0) rfl)
theorem kk_X4_readWages_0 : Cond.fieldLink RX4 9 "PaidBySigns$LeastCost" "above" "[J" ∈ wsX4_readWages := by decide +kernel
theorem kk_X4_readWages_1 : Cond.constantLong RX4 145 (60) ∈ wsX4_readWages := by decide +kernel
theorem kk_X4_readWages_2 : Cond.fieldLink RX4 22 "PaidBySigns$LeastCost" "table" "LPaidBySigns$Table;" ∈ wsX4_readWages := by decide +kernel
theorem kk_X4_readWages_3 : Cond.fieldLink RX4 147 "PaidBySigns$Table" "base" "J" ∈ wsX4_readWages := by decide +kernel
theorem kk_X4_readWages_4 : Cond.fieldLink RX4 15 "PaidBySigns$LeastCost" "aboveLower" "J" ∈ wsX4_readWages := by decide +kernel
theorem kk_X4_readWages_5 : Cond.fieldLink RX4 150 "PaidBySigns$Table" "goals" "I" ∈ wsX4_readWages := by decide +kernel
theorem kk_X4_readWages_6 : Cond.fieldLink RX4 153 "PaidBySigns$Table" "lines" "I" ∈ wsX4_readWages := by decide +kernel
theorem kk_X4_readWages_7 : Cond.fieldLink RX4 156 "PaidBySigns$Table" "lineName" "[I" ∈ wsX4_readWages := by decide +kernel
theorem kk_X4_readWages_8 : Cond.fieldLink RX4 36 "PaidBySigns$LeastCost" "columns" "I" ∈ wsX4_readWages := by decide +kernel
theorem kk_X4_readWages_9 : Cond.fieldLink RX4 26 "PaidBySigns$LeastCost" "columnSign" "[I" ∈ wsX4_readWages := by decide +kernel
theorem kk_X4_readWages_10 : Cond.fieldLink RX4 132 "PaidBySigns$Table" "entry" "[[J" ∈ wsX4_readWages := by decide +kernel
theorem iw_X4_find_X4 : ∀ w ∈ wsX40, w ∈ wsX4_find := pw_X4_find_X4
theorem iw_X4_find_X3 : ∀ w ∈ wsX30, w ∈ wsX4_find := pw_X4_find_X3
theorem iw_X4_readWages_X4 : ∀ w ∈ wsX40, w ∈ wsX4_readWages := by decide +kernel
theorem iw_X4_readWages_X8 : ∀ w ∈ wsX80, w ∈ wsX4_readWages := by decide +kernel

abbrev cX4_findWages : ByteArray := prog_6_method_3_code
def yX4_findWages : MethodName := ⟨RX4, "findWages", "(LPaidBySigns$Hire;I)Z"⟩
abbrev cX4_findMerged : ByteArray := prog_6_method_4_code
def yX4_findMerged : MethodName := ⟨RX4, "findMerged", "(LPaidBySigns$Hire;III)Z"⟩
abbrev cX4_costInto : ByteArray := prog_6_method_5_code
def yX4_costInto : MethodName := ⟨RX4, "costInto", "(LPaidBySigns$Fraction;)V"⟩
abbrev cX4_wageInto : ByteArray := prog_6_method_6_code
def yX4_wageInto : MethodName := ⟨RX4, "wageInto", "(LPaidBySigns$Fraction;I)V"⟩
def tyX5 : Nat → FieldType := fun k => match k with
  | 0 => .long
  | 1 => .long
  | 2 => .long
  | 3 => .long
  | _ => .boolean
abbrev wsX50 : List Cond := u_ws RX5 TX5 5
theorem nmX5 : ∀ a, a < 5 → ∀ b, b < 5 → a ≠ b → (TX5 a).2.1 ≠ (TX5 b).2.1 := by decide +kernel
theorem tyX5_ok : ∀ k, k < 5 → parseFieldDescriptor (TX5 k).2.2.1 = some (tyX5 k) := by decide +kernel
abbrev cX5_start : ByteArray := prog_7_method_5_code
def yX5_start : MethodName := ⟨RX5, "start", "()V"⟩
def wsX4_findWages_r1 : List Cond := [Cond.fieldLink RX4 63 "PaidBySigns$Hire" "signs" "I", Cond.methodLink RX4 59 yX4_find, Cond.instanceMethod yX4_find, Cond.selects RX4 yX4_find yX4_find, Cond.initialized RX4, Cond.code yX4_find cX4_find 6 (some .boolean), Cond.fieldLink RX4 46 "PaidBySigns$LeastCost" "hire" "LPaidBySigns$Hire;", Cond.fieldLink RX4 50 "PaidBySigns$LeastCost" "work" "I", Cond.fieldLink RX4 53 "PaidBySigns$LeastCost" "keptSign" "I", Cond.fieldLink RX4 56 "PaidBySigns$LeastCost" "joinedSign" "I", Cond.fieldLink RX4 22 "PaidBySigns$LeastCost" "table" "LPaidBySigns$Table;", Cond.fieldLink RX4 88 "PaidBySigns$Hire" "works" "I", Cond.fieldLink RX4 40 "PaidBySigns$LeastCost" "rooms" "I", Cond.fieldLink RX4 36 "PaidBySigns$LeastCost" "columns" "I", Cond.methodLink RX4 85 yX4_listColumns, Cond.instanceMethod yX4_listColumns, Cond.selects RX4 yX4_listColumns yX4_listColumns, Cond.code yX4_listColumns cX4_listColumns 2 none, Cond.methodLink RX4 66 yX4_chanceOf, Cond.instanceMethod yX4_chanceOf, Cond.selects RX4 yX4_chanceOf yX4_chanceOf, Cond.code yX4_chanceOf cX4_chanceOf 3 (some .int), Cond.fieldLink RX4 112 "PaidBySigns$Hire" "chances" "[[I", Cond.methodLink RX4 116 yX4_listSteps]
def wsX4_findWages_r2 : List Cond := [Cond.instanceMethod yX4_listSteps, Cond.selects RX4 yX4_listSteps yX4_listSteps, Cond.code yX4_listSteps cX4_listSteps 5 none, Cond.fieldLink RX4 79 "PaidBySigns$Hire" "least" "I", Cond.fieldLink RX4 119 "PaidBySigns$Hire" "rates" "I", Cond.fieldLink RX4 122 "PaidBySigns$Hire" "mark" "[I", Cond.fieldLink RX4 26 "PaidBySigns$LeastCost" "columnSign" "[I", Cond.fieldLink RX4 30 "PaidBySigns$LeastCost" "columnRate" "[I", Cond.fieldLink RX4 125 "PaidBySigns$Hire" "rate" "[I", Cond.fieldLink RX4 33 "PaidBySigns$LeastCost" "columnRoom" "[I", Cond.methodLink RX4 91 yX8_start, Cond.instanceMethod yX8_start, Cond.selects RX8 yX8_start yX8_start, Cond.initialized RX8, Cond.code yX8_start cX8_start 5 none, Cond.methodLink RX8 23 Lib.Math.min.name, Cond.static Lib.Math.min.name, Cond.initialized "java/lang/Math", Cond.code Lib.Math.min.name Lib.Math.min.code 2 (some .int), Cond.fieldLink RX8 29 "PaidBySigns$Table" "goals" "I", Cond.fieldLink RX8 33 "PaidBySigns$Table" "lines" "I", Cond.fieldLink RX8 36 "PaidBySigns$Table" "columns" "I", Cond.fieldLink RX8 39 "PaidBySigns$Table" "base" "J", Cond.fieldLink RX8 13 "PaidBySigns$Table" "entry" "[[J"]
def wsX4_findWages_r3 : List Cond := [Cond.fieldLink RX8 16 "PaidBySigns$Table" "lineName" "[I", Cond.fieldLink RX8 20 "PaidBySigns$Table" "columnName" "[I", Cond.methodLink RX8 43 yJ7_fill_d0a16, Cond.static yJ7_fill_d0a16, Cond.initialized RJ7, Cond.code yJ7_fill_d0a16 cJ7_fill_d0a16 5 none, Cond.methodLink RX4 95 yX4_fillGoals, Cond.instanceMethod yX4_fillGoals, Cond.selects RX4 yX4_fillGoals yX4_fillGoals, Cond.code yX4_fillGoals cX4_fillGoals 5 none, Cond.fieldLink RX4 132 "PaidBySigns$Table" "entry" "[[J", Cond.methodLink RX4 128 yX4_partsOf, Cond.instanceMethod yX4_partsOf, Cond.selects RX4 yX4_partsOf yX4_partsOf, Cond.code yX4_partsOf cX4_partsOf 2 (some .int), Cond.methodLink RX4 99 yX4_fillLines, Cond.instanceMethod yX4_fillLines, Cond.selects RX4 yX4_fillLines yX4_fillLines, Cond.code yX4_fillLines cX4_fillLines 6 none, Cond.fieldLink RX4 70 "PaidBySigns$Hire" "whole" "I", Cond.methodLink RX4 136 yX3_lackOf, Cond.instanceMethod yX3_lackOf, Cond.selects RX3 yX3_lackOf yX3_lackOf, Cond.initialized RX3]
def wsX4_findWages_r4 : List Cond := [Cond.code yX3_lackOf cX3_lackOf 3 (some .int), Cond.fieldLink RX3 15 "PaidBySigns$Hire" "costs" "[I", Cond.fieldLink RX3 42 "PaidBySigns$Hire" "otherwise" "I", Cond.fieldLink RX3 45 "PaidBySigns$Hire" "least" "I", Cond.methodLink RX3 63 yX3_feltOf, Cond.instanceMethod yX3_feltOf, Cond.selects RX3 yX3_feltOf yX3_feltOf, Cond.code yX3_feltOf cX3_feltOf 6 (some .int), Cond.fieldLink RX3 48 "PaidBySigns$Hire" "rates" "I", Cond.fieldLink RX3 26 "PaidBySigns$Hire" "mark" "[I", Cond.methodLink RX3 51 Lib.Math.min.name, Cond.fieldLink RX3 23 "PaidBySigns$Hire" "rate" "[I", Cond.methodLink RX4 102 yX4_fillRooms, Cond.instanceMethod yX4_fillRooms, Cond.selects RX4 yX4_fillRooms yX4_fillRooms, Cond.code yX4_fillRooms cX4_fillRooms 4 none, Cond.methodLink RX4 105 yX8_solve, Cond.instanceMethod yX8_solve, Cond.selects RX8 yX8_solve yX8_solve, Cond.code yX8_solve cX8_solve 4 (some .boolean), Cond.constant RX8 49 (1000000), Cond.methodLink RX8 50 yX8_lineBelowZero, Cond.instanceMethod yX8_lineBelowZero, Cond.selects RX8 yX8_lineBelowZero yX8_lineBelowZero]
def wsX4_findWages_r5 : List Cond := [Cond.code yX8_lineBelowZero cX8_lineBelowZero 3 (some .int), Cond.methodLink RX8 54 yX8_columnFor, Cond.instanceMethod yX8_columnFor, Cond.selects RX8 yX8_columnFor yX8_columnFor, Cond.code yX8_columnFor cX8_columnFor 5 (some .int), Cond.methodLink RX8 62 yX8_compareRatios, Cond.instanceMethod yX8_compareRatios, Cond.selects RX8 yX8_compareRatios yX8_compareRatios, Cond.code yX8_compareRatios cX8_compareRatios 13 (some .int), Cond.methodLink RX8 58 yX8_pivot, Cond.instanceMethod yX8_pivot, Cond.selects RX8 yX8_pivot yX8_pivot, Cond.code yX8_pivot cX8_pivot 7 none, Cond.methodLink RX8 66 yX8_changeLine, Cond.instanceMethod yX8_changeLine, Cond.selects RX8 yX8_changeLine yX8_changeLine, Cond.code yX8_changeLine cX8_changeLine 9 none, Cond.methodLink RX4 109 yX4_readWages, Cond.instanceMethod yX4_readWages, Cond.selects RX4 yX4_readWages yX4_readWages, Cond.code yX4_readWages cX4_readWages 3 none, Cond.fieldLink RX4 9 "PaidBySigns$LeastCost" "above" "[J", Cond.constantLong RX4 145 (60), Cond.fieldLink RX4 147 "PaidBySigns$Table" "base" "J"]
def wsX4_findWages_r6 : List Cond := [Cond.fieldLink RX4 15 "PaidBySigns$LeastCost" "aboveLower" "J", Cond.fieldLink RX4 150 "PaidBySigns$Table" "goals" "I", Cond.fieldLink RX4 153 "PaidBySigns$Table" "lines" "I", Cond.fieldLink RX4 156 "PaidBySigns$Table" "lineName" "[I", Cond.methodLink RX4 139 yJ7_fill_d0a16]
def wsX4_findWages : List Cond := .code yX4_findWages cX4_findWages 3 (some .boolean) :: ((wsX4_findWages_r1 ++ (wsX4_findWages_r2 ++ (wsX4_findWages_r3 ++ (wsX4_findWages_r4 ++ (wsX4_findWages_r5 ++ wsX4_findWages_r6))))) ++ wsX30 ++ wsX40 ++ wsX80)
def wsX4_findMerged_r1 : List Cond := [Cond.methodLink RX4 59 yX4_find, Cond.instanceMethod yX4_find, Cond.selects RX4 yX4_find yX4_find, Cond.initialized RX4, Cond.code yX4_find cX4_find 6 (some .boolean), Cond.fieldLink RX4 46 "PaidBySigns$LeastCost" "hire" "LPaidBySigns$Hire;", Cond.fieldLink RX4 50 "PaidBySigns$LeastCost" "work" "I", Cond.fieldLink RX4 53 "PaidBySigns$LeastCost" "keptSign" "I", Cond.fieldLink RX4 56 "PaidBySigns$LeastCost" "joinedSign" "I", Cond.fieldLink RX4 22 "PaidBySigns$LeastCost" "table" "LPaidBySigns$Table;", Cond.fieldLink RX4 88 "PaidBySigns$Hire" "works" "I", Cond.fieldLink RX4 40 "PaidBySigns$LeastCost" "rooms" "I", Cond.fieldLink RX4 36 "PaidBySigns$LeastCost" "columns" "I", Cond.methodLink RX4 85 yX4_listColumns, Cond.instanceMethod yX4_listColumns, Cond.selects RX4 yX4_listColumns yX4_listColumns, Cond.code yX4_listColumns cX4_listColumns 2 none, Cond.fieldLink RX4 63 "PaidBySigns$Hire" "signs" "I", Cond.methodLink RX4 66 yX4_chanceOf, Cond.instanceMethod yX4_chanceOf, Cond.selects RX4 yX4_chanceOf yX4_chanceOf, Cond.code yX4_chanceOf cX4_chanceOf 3 (some .int), Cond.fieldLink RX4 112 "PaidBySigns$Hire" "chances" "[[I", Cond.methodLink RX4 116 yX4_listSteps]
def wsX4_findMerged_r2 : List Cond := [Cond.instanceMethod yX4_listSteps, Cond.selects RX4 yX4_listSteps yX4_listSteps, Cond.code yX4_listSteps cX4_listSteps 5 none, Cond.fieldLink RX4 79 "PaidBySigns$Hire" "least" "I", Cond.fieldLink RX4 119 "PaidBySigns$Hire" "rates" "I", Cond.fieldLink RX4 122 "PaidBySigns$Hire" "mark" "[I", Cond.fieldLink RX4 26 "PaidBySigns$LeastCost" "columnSign" "[I", Cond.fieldLink RX4 30 "PaidBySigns$LeastCost" "columnRate" "[I", Cond.fieldLink RX4 125 "PaidBySigns$Hire" "rate" "[I", Cond.fieldLink RX4 33 "PaidBySigns$LeastCost" "columnRoom" "[I", Cond.methodLink RX4 91 yX8_start, Cond.instanceMethod yX8_start, Cond.selects RX8 yX8_start yX8_start, Cond.initialized RX8, Cond.code yX8_start cX8_start 5 none, Cond.methodLink RX8 23 Lib.Math.min.name, Cond.static Lib.Math.min.name, Cond.initialized "java/lang/Math", Cond.code Lib.Math.min.name Lib.Math.min.code 2 (some .int), Cond.fieldLink RX8 29 "PaidBySigns$Table" "goals" "I", Cond.fieldLink RX8 33 "PaidBySigns$Table" "lines" "I", Cond.fieldLink RX8 36 "PaidBySigns$Table" "columns" "I", Cond.fieldLink RX8 39 "PaidBySigns$Table" "base" "J", Cond.fieldLink RX8 13 "PaidBySigns$Table" "entry" "[[J"]
def wsX4_findMerged_r3 : List Cond := [Cond.fieldLink RX8 16 "PaidBySigns$Table" "lineName" "[I", Cond.fieldLink RX8 20 "PaidBySigns$Table" "columnName" "[I", Cond.methodLink RX8 43 yJ7_fill_d0a16, Cond.static yJ7_fill_d0a16, Cond.initialized RJ7, Cond.code yJ7_fill_d0a16 cJ7_fill_d0a16 5 none, Cond.methodLink RX4 95 yX4_fillGoals, Cond.instanceMethod yX4_fillGoals, Cond.selects RX4 yX4_fillGoals yX4_fillGoals, Cond.code yX4_fillGoals cX4_fillGoals 5 none, Cond.fieldLink RX4 132 "PaidBySigns$Table" "entry" "[[J", Cond.methodLink RX4 128 yX4_partsOf, Cond.instanceMethod yX4_partsOf, Cond.selects RX4 yX4_partsOf yX4_partsOf, Cond.code yX4_partsOf cX4_partsOf 2 (some .int), Cond.methodLink RX4 99 yX4_fillLines, Cond.instanceMethod yX4_fillLines, Cond.selects RX4 yX4_fillLines yX4_fillLines, Cond.code yX4_fillLines cX4_fillLines 6 none, Cond.fieldLink RX4 70 "PaidBySigns$Hire" "whole" "I", Cond.methodLink RX4 136 yX3_lackOf, Cond.instanceMethod yX3_lackOf, Cond.selects RX3 yX3_lackOf yX3_lackOf, Cond.initialized RX3]
def wsX4_findMerged_r4 : List Cond := [Cond.code yX3_lackOf cX3_lackOf 3 (some .int), Cond.fieldLink RX3 15 "PaidBySigns$Hire" "costs" "[I", Cond.fieldLink RX3 42 "PaidBySigns$Hire" "otherwise" "I", Cond.fieldLink RX3 45 "PaidBySigns$Hire" "least" "I", Cond.methodLink RX3 63 yX3_feltOf, Cond.instanceMethod yX3_feltOf, Cond.selects RX3 yX3_feltOf yX3_feltOf, Cond.code yX3_feltOf cX3_feltOf 6 (some .int), Cond.fieldLink RX3 48 "PaidBySigns$Hire" "rates" "I", Cond.fieldLink RX3 26 "PaidBySigns$Hire" "mark" "[I", Cond.methodLink RX3 51 Lib.Math.min.name, Cond.fieldLink RX3 23 "PaidBySigns$Hire" "rate" "[I", Cond.methodLink RX4 102 yX4_fillRooms, Cond.instanceMethod yX4_fillRooms, Cond.selects RX4 yX4_fillRooms yX4_fillRooms, Cond.code yX4_fillRooms cX4_fillRooms 4 none, Cond.methodLink RX4 105 yX8_solve, Cond.instanceMethod yX8_solve, Cond.selects RX8 yX8_solve yX8_solve, Cond.code yX8_solve cX8_solve 4 (some .boolean), Cond.constant RX8 49 (1000000), Cond.methodLink RX8 50 yX8_lineBelowZero, Cond.instanceMethod yX8_lineBelowZero, Cond.selects RX8 yX8_lineBelowZero yX8_lineBelowZero]
def wsX4_findMerged_r5 : List Cond := [Cond.code yX8_lineBelowZero cX8_lineBelowZero 3 (some .int), Cond.methodLink RX8 54 yX8_columnFor, Cond.instanceMethod yX8_columnFor, Cond.selects RX8 yX8_columnFor yX8_columnFor, Cond.code yX8_columnFor cX8_columnFor 5 (some .int), Cond.methodLink RX8 62 yX8_compareRatios, Cond.instanceMethod yX8_compareRatios, Cond.selects RX8 yX8_compareRatios yX8_compareRatios, Cond.code yX8_compareRatios cX8_compareRatios 13 (some .int), Cond.methodLink RX8 58 yX8_pivot, Cond.instanceMethod yX8_pivot, Cond.selects RX8 yX8_pivot yX8_pivot, Cond.code yX8_pivot cX8_pivot 7 none, Cond.methodLink RX8 66 yX8_changeLine, Cond.instanceMethod yX8_changeLine, Cond.selects RX8 yX8_changeLine yX8_changeLine, Cond.code yX8_changeLine cX8_changeLine 9 none, Cond.methodLink RX4 109 yX4_readWages, Cond.instanceMethod yX4_readWages, Cond.selects RX4 yX4_readWages yX4_readWages, Cond.code yX4_readWages cX4_readWages 3 none, Cond.fieldLink RX4 9 "PaidBySigns$LeastCost" "above" "[J", Cond.constantLong RX4 145 (60), Cond.fieldLink RX4 147 "PaidBySigns$Table" "base" "J"]
def wsX4_findMerged_r6 : List Cond := [Cond.fieldLink RX4 15 "PaidBySigns$LeastCost" "aboveLower" "J", Cond.fieldLink RX4 150 "PaidBySigns$Table" "goals" "I", Cond.fieldLink RX4 153 "PaidBySigns$Table" "lines" "I", Cond.fieldLink RX4 156 "PaidBySigns$Table" "lineName" "[I", Cond.methodLink RX4 139 yJ7_fill_d0a16]
def wsX4_findMerged : List Cond := .code yX4_findMerged cX4_findMerged 5 (some .boolean) :: ((wsX4_findMerged_r1 ++ (wsX4_findMerged_r2 ++ (wsX4_findMerged_r3 ++ (wsX4_findMerged_r4 ++ (wsX4_findMerged_r5 ++ wsX4_findMerged_r6))))) ++ wsX40 ++ wsX30 ++ wsX80)
def wsX4_costInto_r1 : List Cond := [Cond.fieldLink RX4 46 "PaidBySigns$LeastCost" "hire" "LPaidBySigns$Hire;", Cond.fieldLink RX4 63 "PaidBySigns$Hire" "signs" "I", Cond.fieldLink RX4 50 "PaidBySigns$LeastCost" "work" "I", Cond.fieldLink RX4 9 "PaidBySigns$LeastCost" "above" "[J", Cond.fieldLink RX4 70 "PaidBySigns$Hire" "whole" "I", Cond.fieldLink RX4 15 "PaidBySigns$LeastCost" "aboveLower" "J", Cond.fieldLink RX4 79 "PaidBySigns$Hire" "least" "I", Cond.methodLink RX4 66 yX4_chanceOf, Cond.instanceMethod yX4_chanceOf, Cond.selects RX4 yX4_chanceOf yX4_chanceOf, Cond.initialized RX4, Cond.code yX4_chanceOf cX4_chanceOf 3 (some .int), Cond.fieldLink RX4 56 "PaidBySigns$LeastCost" "joinedSign" "I", Cond.fieldLink RX4 53 "PaidBySigns$LeastCost" "keptSign" "I", Cond.fieldLink RX4 112 "PaidBySigns$Hire" "chances" "[[I", Cond.methodLink RX4 73 yX2_become, Cond.instanceMethod yX2_become, Cond.selects RX2 yX2_become yX2_become, Cond.initialized RX2, Cond.code yX2_become cX2_become 7 none, Cond.methodLink RX2 20 Lib.MathLoose.abs_long.x, Cond.static Lib.MathLoose.abs_long.x, Cond.initialized "java/lang/Math", Cond.code Lib.MathLoose.abs_long.x Lib.MathLoose.abs_long.code 2 (some .long)]
def wsX4_costInto_r2 : List Cond := [Cond.fieldLink RX2 11 "PaidBySigns$Fraction" "upper" "J", Cond.fieldLink RX2 17 "PaidBySigns$Fraction" "lower" "J", Cond.methodLink RX2 26 yX2_commonPart, Cond.static yX2_commonPart, Cond.code yX2_commonPart cX2_commonPart 11 (some .long), Cond.methodLink RX2 30 yX2_forget, Cond.instanceMethod yX2_forget, Cond.selects RX2 yX2_forget yX2_forget, Cond.code yX2_forget cX2_forget 1 none, Cond.constantLong RX2 9 (-2000000000), Cond.methodLink RX4 82 yX2_add, Cond.instanceMethod yX2_add, Cond.selects RX2 yX2_add yX2_add, Cond.code yX2_add cX2_add 5 none, Cond.methodLink RX2 33 yX2_become]
def wsX4_costInto : List Cond := .code yX4_costInto cX4_costInto 5 none :: ((wsX4_costInto_r1 ++ wsX4_costInto_r2) ++ wsX40 ++ wsX30 ++ wsX20)
def wsX4_wageInto : List Cond := .code yX4_wageInto cX4_wageInto 3 none :: ([.fieldLink RX4 46 "PaidBySigns$LeastCost" "hire" "LPaidBySigns$Hire;", .fieldLink RX4 79 "PaidBySigns$Hire" "least" "I", .fieldLink RX4 15 "PaidBySigns$LeastCost" "aboveLower" "J", .fieldLink RX4 9 "PaidBySigns$LeastCost" "above" "[J", .methodLink RX4 73 yX2_become, .instanceMethod yX2_become, .selects RX2 yX2_become yX2_become, .initialized RX2, .code yX2_become cX2_become 7 none, .methodLink RX2 20 Lib.MathLoose.abs_long.x, .static Lib.MathLoose.abs_long.x, .initialized "java/lang/Math", .code Lib.MathLoose.abs_long.x Lib.MathLoose.abs_long.code 2 (some .long), .fieldLink RX2 11 "PaidBySigns$Fraction" "upper" "J", .fieldLink RX2 17 "PaidBySigns$Fraction" "lower" "J", .methodLink RX2 26 yX2_commonPart, .static yX2_commonPart, .code yX2_commonPart cX2_commonPart 11 (some .long), .methodLink RX2 30 yX2_forget, .instanceMethod yX2_forget, .selects RX2 yX2_forget yX2_forget, .code yX2_forget cX2_forget 1 none, .constantLong RX2 9 (-2000000000)] ++ wsX40 ++ wsX30 ++ wsX20)
def wsX5_start : List Cond := .code yX5_start cX5_start 1 none :: ([.fieldLink RX5 47 "PaidBySigns$OneSum" "lowUpper" "J", .fieldLink RX5 43 "PaidBySigns$OneSum" "lowLower" "J", .fieldLink RX5 65 "PaidBySigns$OneSum" "capUpper" "J", .fieldLink RX5 68 "PaidBySigns$OneSum" "capLower" "J", .fieldLink RX5 71 "PaidBySigns$OneSum" "isBroken" "Z"] ++ wsX50)
theorem pm_X4_findWages_r1 : ∀ w ∈ wsX4_findWages_r1, w ∈ wsX4_findWages := fun _ h => List.mem_cons_of_mem _ (List.mem_append_left _ (List.mem_append_left _ (List.mem_append_left _ (List.mem_append_left _ h))))
theorem pm_X4_findWages_r2 : ∀ w ∈ wsX4_findWages_r2, w ∈ wsX4_findWages := fun _ h => List.mem_cons_of_mem _ (List.mem_append_left _ (List.mem_append_left _ (List.mem_append_left _ (List.mem_append_right _ (List.mem_append_left _ h)))))
theorem pm_X4_findWages_r3 : ∀ w ∈ wsX4_findWages_r3, w ∈ wsX4_findWages := fun _ h => List.mem_cons_of_mem _ (List.mem_append_left _ (List.mem_append_left _ (List.mem_append_left _ (List.mem_append_right _ (List.mem_append_right _ (List.mem_append_left _ h))))))
theorem pm_X4_findWages_r4 : ∀ w ∈ wsX4_findWages_r4, w ∈ wsX4_findWages := fun _ h => List.mem_cons_of_mem _ (List.mem_append_left _ (List.mem_append_left _ (List.mem_append_left _ (List.mem_append_right _ (List.mem_append_right _ (List.mem_append_right _ (List.mem_append_left _ h)))))))
theorem pm_X4_findWages_r5 : ∀ w ∈ wsX4_findWages_r5, w ∈ wsX4_findWages := fun _ h => List.mem_cons_of_mem _ (List.mem_append_left _ (List.mem_append_left _ (List.mem_append_left _ (List.mem_append_right _ (List.mem_append_right _ (List.mem_append_right _ (List.mem_append_right _ (List.mem_append_left _ h))))))))
theorem pm_X4_findWages_r6 : ∀ w ∈ wsX4_findWages_r6, w ∈ wsX4_findWages := fun _ h => List.mem_cons_of_mem _ (List.mem_append_left _ (List.mem_append_left _ (List.mem_append_left _ (List.mem_append_right _ (List.mem_append_right _ (List.mem_append_right _ (List.mem_append_right _ (List.mem_append_right _ (h)))))))))
theorem pw_X4_findWages_X3 : ∀ w ∈ wsX30, w ∈ wsX4_findWages := fun _ h => List.mem_cons_of_mem _ (List.mem_append_left _ (List.mem_append_left _ (List.mem_append_right _ h)))
theorem pw_X4_findWages_X4 : ∀ w ∈ wsX40, w ∈ wsX4_findWages := fun _ h => List.mem_cons_of_mem _ (List.mem_append_left _ (List.mem_append_right _ h))
theorem pw_X4_findWages_X8 : ∀ w ∈ wsX80, w ∈ wsX4_findWages := fun _ h => List.mem_cons_of_mem _ (List.mem_append_right _ h)
set_option maxRecDepth 20000 in
theorem pq_X4_findWages_X4_find_r1 : ∀ w ∈ wsX4_find_r1, w ∈ wsX4_findWages := List.forall_mem_cons.mpr ⟨pm_X4_findWages_r1 _ (List.mem_of_getElem? (i := 6) rfl), List.forall_mem_cons.mpr ⟨pm_X4_findWages_r1 _ (List.mem_of_getElem? (i := 7) rfl), List.forall_mem_cons.mpr ⟨pm_X4_findWages_r1 _ (List.mem_of_getElem? (i := 8) rfl), List.forall_mem_cons.mpr ⟨pm_X4_findWages_r1 _ (List.mem_of_getElem? (i := 9) rfl), List.forall_mem_cons.mpr ⟨pm_X4_findWages_r1 _ (List.mem_of_getElem? (i := 10) rfl), List.forall_mem_cons.mpr ⟨pm_X4_findWages_r1 _ (List.mem_of_getElem? (i := 11) rfl), List.forall_mem_cons.mpr ⟨pm_X4_findWages_r1 _ (List.mem_of_getElem? (i := 12) rfl), List.forall_mem_cons.mpr ⟨pm_X4_findWages_r1 _ (List.mem_of_getElem? (i := 13) rfl), List.forall_mem_cons.mpr ⟨pm_X4_findWages_r1 _ (List.mem_of_getElem? (i := 14) rfl), List.forall_mem_cons.mpr ⟨pm_X4_findWages_r1 _ (List.mem_of_getElem? (i := 15) rfl), List.forall_mem_cons.mpr ⟨pm_X4_findWages_r1 _ (List.mem_of_getElem? (i := 16) rfl), List.forall_mem_cons.mpr ⟨pm_X4_findWages_r1 _ (List.mem_of_getElem? (i := 4) rfl), List.forall_mem_cons.mpr ⟨pm_X4_findWages_r1 _ (List.mem_of_getElem? (i := 17) rfl), List.forall_mem_cons.mpr ⟨pm_X4_findWages_r1 _ (List.mem_of_getElem? (i := 0) rfl), List.forall_mem_cons.mpr ⟨pm_X4_findWages_r1 _ (List.mem_of_getElem? (i := 18) rfl), List.forall_mem_cons.mpr ⟨pm_X4_findWages_r1 _ (List.mem_of_getElem? (i := 19) rfl), List.forall_mem_cons.mpr ⟨pm_X4_findWages_r1 _ (List.mem_of_getElem? (i := 20) rfl), List.forall_mem_cons.mpr ⟨pm_X4_findWages_r1 _ (List.mem_of_getElem? (i := 21) rfl), List.forall_mem_cons.mpr ⟨pm_X4_findWages_r1 _ (List.mem_of_getElem? (i := 22) rfl), List.forall_mem_cons.mpr ⟨pm_X4_findWages_r1 _ (List.mem_of_getElem? (i := 23) rfl), List.forall_mem_cons.mpr ⟨pm_X4_findWages_r2 _ (List.mem_of_getElem? (i := 0) rfl), List.forall_mem_cons.mpr ⟨pm_X4_findWages_r2 _ (List.mem_of_getElem? (i := 1) rfl), List.forall_mem_cons.mpr ⟨pm_X4_findWages_r2 _ (List.mem_of_getElem? (i := 2) rfl), List.forall_mem_cons.mpr ⟨pm_X4_findWages_r2 _ (List.mem_of_getElem? (i := 3) rfl), fun _ h => absurd h List.not_mem_nil⟩⟩⟩⟩⟩⟩⟩⟩⟩⟩⟩⟩⟩⟩⟩⟩⟩⟩⟩⟩⟩⟩⟩⟩
set_option maxRecDepth 20000 in
theorem pq_X4_findWages_X4_find_r2 : ∀ w ∈ wsX4_find_r2, w ∈ wsX4_findWages := List.forall_mem_cons.mpr ⟨pm_X4_findWages_r2 _ (List.mem_of_getElem? (i := 4) rfl), List.forall_mem_cons.mpr ⟨pm_X4_findWages_r2 _ (List.mem_of_getElem? (i := 5) rfl), List.forall_mem_cons.mpr ⟨pm_X4_findWages_r2 _ (List.mem_of_getElem? (i := 6) rfl), List.forall_mem_cons.mpr ⟨pm_X4_findWages_r2 _ (List.mem_of_getElem? (i := 7) rfl), List.forall_mem_cons.mpr ⟨pm_X4_findWages_r2 _ (List.mem_of_getElem? (i := 8) rfl), List.forall_mem_cons.mpr ⟨pm_X4_findWages_r2 _ (List.mem_of_getElem? (i := 9) rfl), List.forall_mem_cons.mpr ⟨pm_X4_findWages_r2 _ (List.mem_of_getElem? (i := 10) rfl), List.forall_mem_cons.mpr ⟨pm_X4_findWages_r2 _ (List.mem_of_getElem? (i := 11) rfl), List.forall_mem_cons.mpr ⟨pm_X4_findWages_r2 _ (List.mem_of_getElem? (i := 12) rfl), List.forall_mem_cons.mpr ⟨pm_X4_findWages_r2 _ (List.mem_of_getElem? (i := 13) rfl), List.forall_mem_cons.mpr ⟨pm_X4_findWages_r2 _ (List.mem_of_getElem? (i := 14) rfl), List.forall_mem_cons.mpr ⟨pm_X4_findWages_r2 _ (List.mem_of_getElem? (i := 15) rfl), List.forall_mem_cons.mpr ⟨pm_X4_findWages_r2 _ (List.mem_of_getElem? (i := 16) rfl), List.forall_mem_cons.mpr ⟨pm_X4_findWages_r2 _ (List.mem_of_getElem? (i := 17) rfl), List.forall_mem_cons.mpr ⟨pm_X4_findWages_r2 _ (List.mem_of_getElem? (i := 18) rfl), List.forall_mem_cons.mpr ⟨pm_X4_findWages_r2 _ (List.mem_of_getElem? (i := 19) rfl), List.forall_mem_cons.mpr ⟨pm_X4_findWages_r2 _ (List.mem_of_getElem? (i := 20) rfl), List.forall_mem_cons.mpr ⟨pm_X4_findWages_r2 _ (List.mem_of_getElem? (i := 21) rfl), List.forall_mem_cons.mpr ⟨pm_X4_findWages_r2 _ (List.mem_of_getElem? (i := 22) rfl), List.forall_mem_cons.mpr ⟨pm_X4_findWages_r2 _ (List.mem_of_getElem? (i := 23) rfl), List.forall_mem_cons.mpr ⟨pm_X4_findWages_r3 _ (List.mem_of_getElem? (i := 0) rfl), List.forall_mem_cons.mpr ⟨pm_X4_findWages_r3 _ (List.mem_of_getElem? (i := 1) rfl), List.forall_mem_cons.mpr ⟨pm_X4_findWages_r3 _ (List.mem_of_getElem? (i := 2) rfl), List.forall_mem_cons.mpr ⟨pm_X4_findWages_r3 _ (List.mem_of_getElem? (i := 3) rfl), fun _ h => absurd h List.not_mem_nil⟩⟩⟩⟩⟩⟩⟩⟩⟩⟩⟩⟩⟩⟩⟩⟩⟩⟩⟩⟩⟩⟩⟩⟩
set_option maxRecDepth 20000 in
theorem pq_X4_findWages_X4_find_r3 : ∀ w ∈ wsX4_find_r3, w ∈ wsX4_findWages := List.forall_mem_cons.mpr ⟨pm_X4_findWages_r3 _ (List.mem_of_getElem? (i := 4) rfl), List.forall_mem_cons.mpr ⟨pm_X4_findWages_r3 _ (List.mem_of_getElem? (i := 5) rfl), List.forall_mem_cons.mpr ⟨pm_X4_findWages_r3 _ (List.mem_of_getElem? (i := 6) rfl), List.forall_mem_cons.mpr ⟨pm_X4_findWages_r3 _ (List.mem_of_getElem? (i := 7) rfl), List.forall_mem_cons.mpr ⟨pm_X4_findWages_r3 _ (List.mem_of_getElem? (i := 8) rfl), List.forall_mem_cons.mpr ⟨pm_X4_findWages_r3 _ (List.mem_of_getElem? (i := 9) rfl), List.forall_mem_cons.mpr ⟨pm_X4_findWages_r3 _ (List.mem_of_getElem? (i := 10) rfl), List.forall_mem_cons.mpr ⟨pm_X4_findWages_r3 _ (List.mem_of_getElem? (i := 11) rfl), List.forall_mem_cons.mpr ⟨pm_X4_findWages_r3 _ (List.mem_of_getElem? (i := 12) rfl), List.forall_mem_cons.mpr ⟨pm_X4_findWages_r3 _ (List.mem_of_getElem? (i := 13) rfl), List.forall_mem_cons.mpr ⟨pm_X4_findWages_r3 _ (List.mem_of_getElem? (i := 14) rfl), List.forall_mem_cons.mpr ⟨pm_X4_findWages_r3 _ (List.mem_of_getElem? (i := 15) rfl), List.forall_mem_cons.mpr ⟨pm_X4_findWages_r3 _ (List.mem_of_getElem? (i := 16) rfl), List.forall_mem_cons.mpr ⟨pm_X4_findWages_r3 _ (List.mem_of_getElem? (i := 17) rfl), List.forall_mem_cons.mpr ⟨pm_X4_findWages_r3 _ (List.mem_of_getElem? (i := 18) rfl), List.forall_mem_cons.mpr ⟨pm_X4_findWages_r3 _ (List.mem_of_getElem? (i := 19) rfl), List.forall_mem_cons.mpr ⟨pm_X4_findWages_r3 _ (List.mem_of_getElem? (i := 20) rfl), List.forall_mem_cons.mpr ⟨pm_X4_findWages_r3 _ (List.mem_of_getElem? (i := 21) rfl), List.forall_mem_cons.mpr ⟨pm_X4_findWages_r3 _ (List.mem_of_getElem? (i := 22) rfl), List.forall_mem_cons.mpr ⟨pm_X4_findWages_r3 _ (List.mem_of_getElem? (i := 23) rfl), List.forall_mem_cons.mpr ⟨pm_X4_findWages_r4 _ (List.mem_of_getElem? (i := 0) rfl), List.forall_mem_cons.mpr ⟨pm_X4_findWages_r4 _ (List.mem_of_getElem? (i := 1) rfl), List.forall_mem_cons.mpr ⟨pm_X4_findWages_r4 _ (List.mem_of_getElem? (i := 2) rfl), List.forall_mem_cons.mpr ⟨pm_X4_findWages_r4 _ (List.mem_of_getElem? (i := 3) rfl), fun _ h => absurd h List.not_mem_nil⟩⟩⟩⟩⟩⟩⟩⟩⟩⟩⟩⟩⟩⟩⟩⟩⟩⟩⟩⟩⟩⟩⟩⟩
set_option maxRecDepth 20000 in
theorem pq_X4_findWages_X4_find_r4 : ∀ w ∈ wsX4_find_r4, w ∈ wsX4_findWages := List.forall_mem_cons.mpr ⟨pm_X4_findWages_r4 _ (List.mem_of_getElem? (i := 4) rfl), List.forall_mem_cons.mpr ⟨pm_X4_findWages_r4 _ (List.mem_of_getElem? (i := 5) rfl), List.forall_mem_cons.mpr ⟨pm_X4_findWages_r4 _ (List.mem_of_getElem? (i := 6) rfl), List.forall_mem_cons.mpr ⟨pm_X4_findWages_r4 _ (List.mem_of_getElem? (i := 7) rfl), List.forall_mem_cons.mpr ⟨pm_X4_findWages_r4 _ (List.mem_of_getElem? (i := 8) rfl), List.forall_mem_cons.mpr ⟨pm_X4_findWages_r4 _ (List.mem_of_getElem? (i := 9) rfl), List.forall_mem_cons.mpr ⟨pm_X4_findWages_r4 _ (List.mem_of_getElem? (i := 10) rfl), List.forall_mem_cons.mpr ⟨pm_X4_findWages_r4 _ (List.mem_of_getElem? (i := 11) rfl), List.forall_mem_cons.mpr ⟨pm_X4_findWages_r4 _ (List.mem_of_getElem? (i := 12) rfl), List.forall_mem_cons.mpr ⟨pm_X4_findWages_r4 _ (List.mem_of_getElem? (i := 13) rfl), List.forall_mem_cons.mpr ⟨pm_X4_findWages_r4 _ (List.mem_of_getElem? (i := 14) rfl), List.forall_mem_cons.mpr ⟨pm_X4_findWages_r4 _ (List.mem_of_getElem? (i := 15) rfl), List.forall_mem_cons.mpr ⟨pm_X4_findWages_r4 _ (List.mem_of_getElem? (i := 16) rfl), List.forall_mem_cons.mpr ⟨pm_X4_findWages_r4 _ (List.mem_of_getElem? (i := 17) rfl), List.forall_mem_cons.mpr ⟨pm_X4_findWages_r4 _ (List.mem_of_getElem? (i := 18) rfl), List.forall_mem_cons.mpr ⟨pm_X4_findWages_r4 _ (List.mem_of_getElem? (i := 19) rfl), List.forall_mem_cons.mpr ⟨pm_X4_findWages_r4 _ (List.mem_of_getElem? (i := 20) rfl), List.forall_mem_cons.mpr ⟨pm_X4_findWages_r4 _ (List.mem_of_getElem? (i := 21) rfl), List.forall_mem_cons.mpr ⟨pm_X4_findWages_r4 _ (List.mem_of_getElem? (i := 22) rfl), List.forall_mem_cons.mpr ⟨pm_X4_findWages_r4 _ (List.mem_of_getElem? (i := 23) rfl), List.forall_mem_cons.mpr ⟨pm_X4_findWages_r5 _ (List.mem_of_getElem? (i := 0) rfl), List.forall_mem_cons.mpr ⟨pm_X4_findWages_r5 _ (List.mem_of_getElem? (i := 1) rfl), List.forall_mem_cons.mpr ⟨pm_X4_findWages_r5 _ (List.mem_of_getElem? (i := 2) rfl), List.forall_mem_cons.mpr ⟨pm_X4_findWages_r5 _ (List.mem_of_getElem? (i := 3) rfl), fun _ h => absurd h List.not_mem_nil⟩⟩⟩⟩⟩⟩⟩⟩⟩⟩⟩⟩⟩⟩⟩⟩⟩⟩⟩⟩⟩⟩⟩⟩
set_option maxRecDepth 20000 in
theorem pq_X4_findWages_X4_find_r5 : ∀ w ∈ wsX4_find_r5, w ∈ wsX4_findWages := List.forall_mem_cons.mpr ⟨pm_X4_findWages_r5 _ (List.mem_of_getElem? (i := 4) rfl), List.forall_mem_cons.mpr ⟨pm_X4_findWages_r5 _ (List.mem_of_getElem? (i := 5) rfl), List.forall_mem_cons.mpr ⟨pm_X4_findWages_r5 _ (List.mem_of_getElem? (i := 6) rfl), List.forall_mem_cons.mpr ⟨pm_X4_findWages_r5 _ (List.mem_of_getElem? (i := 7) rfl), List.forall_mem_cons.mpr ⟨pm_X4_findWages_r5 _ (List.mem_of_getElem? (i := 8) rfl), List.forall_mem_cons.mpr ⟨pm_X4_findWages_r5 _ (List.mem_of_getElem? (i := 9) rfl), List.forall_mem_cons.mpr ⟨pm_X4_findWages_r5 _ (List.mem_of_getElem? (i := 10) rfl), List.forall_mem_cons.mpr ⟨pm_X4_findWages_r5 _ (List.mem_of_getElem? (i := 11) rfl), List.forall_mem_cons.mpr ⟨pm_X4_findWages_r5 _ (List.mem_of_getElem? (i := 12) rfl), List.forall_mem_cons.mpr ⟨pm_X4_findWages_r5 _ (List.mem_of_getElem? (i := 13) rfl), List.forall_mem_cons.mpr ⟨pm_X4_findWages_r5 _ (List.mem_of_getElem? (i := 14) rfl), List.forall_mem_cons.mpr ⟨pm_X4_findWages_r5 _ (List.mem_of_getElem? (i := 15) rfl), List.forall_mem_cons.mpr ⟨pm_X4_findWages_r5 _ (List.mem_of_getElem? (i := 16) rfl), List.forall_mem_cons.mpr ⟨pm_X4_findWages_r5 _ (List.mem_of_getElem? (i := 17) rfl), List.forall_mem_cons.mpr ⟨pm_X4_findWages_r5 _ (List.mem_of_getElem? (i := 18) rfl), List.forall_mem_cons.mpr ⟨pm_X4_findWages_r5 _ (List.mem_of_getElem? (i := 19) rfl), List.forall_mem_cons.mpr ⟨pm_X4_findWages_r5 _ (List.mem_of_getElem? (i := 20) rfl), List.forall_mem_cons.mpr ⟨pm_X4_findWages_r5 _ (List.mem_of_getElem? (i := 21) rfl), List.forall_mem_cons.mpr ⟨pm_X4_findWages_r5 _ (List.mem_of_getElem? (i := 22) rfl), List.forall_mem_cons.mpr ⟨pm_X4_findWages_r5 _ (List.mem_of_getElem? (i := 23) rfl), List.forall_mem_cons.mpr ⟨pm_X4_findWages_r6 _ (List.mem_of_getElem? (i := 0) rfl), List.forall_mem_cons.mpr ⟨pm_X4_findWages_r6 _ (List.mem_of_getElem? (i := 1) rfl), List.forall_mem_cons.mpr ⟨pm_X4_findWages_r6 _ (List.mem_of_getElem? (i := 2) rfl), List.forall_mem_cons.mpr ⟨pm_X4_findWages_r6 _ (List.mem_of_getElem? (i := 3) rfl), fun _ h => absurd h List.not_mem_nil⟩⟩⟩⟩⟩⟩⟩⟩⟩⟩⟩⟩⟩⟩⟩⟩⟩⟩⟩⟩⟩⟩⟩⟩
set_option maxRecDepth 20000 in
theorem pq_X4_findWages_X4_find_r6 : ∀ w ∈ wsX4_find_r6, w ∈ wsX4_findWages := List.forall_mem_cons.mpr ⟨pm_X4_findWages_r6 _ (List.mem_of_getElem? (i := 4) rfl), fun _ h => absurd h List.not_mem_nil⟩
set_option maxRecDepth 20000 in
theorem ggX4_findWages_X4_find : GoodIn wsX4_findWages wsX4_find := goodIn_sub (List.forall_mem_cons.mpr ⟨pm_X4_findWages_r1 _ (List.mem_of_getElem? (i := 5) rfl), List.forall_mem_append.mpr ⟨List.forall_mem_append.mpr ⟨List.forall_mem_append.mpr ⟨List.forall_mem_append.mpr ⟨pq_X4_findWages_X4_find_r1, List.forall_mem_append.mpr ⟨pq_X4_findWages_X4_find_r2, List.forall_mem_append.mpr ⟨pq_X4_findWages_X4_find_r3, List.forall_mem_append.mpr ⟨pq_X4_findWages_X4_find_r4, List.forall_mem_append.mpr ⟨pq_X4_findWages_X4_find_r5, pq_X4_findWages_X4_find_r6⟩⟩⟩⟩⟩, pw_X4_findWages_X4⟩, pw_X4_findWages_X3⟩, pw_X4_findWages_X8⟩⟩) (by decide +kernel)
set_option maxRecDepth 20000 in
theorem gX4_findWages_X4_find : GoodIn wsX4_findWages (wsV RX4 59 RX4 yX4_find wsX4_find) := goodIn_app (goodIn_of _ (by decide +kernel)) ggX4_findWages_X4_find
theorem dX4_findWages_0 : decode cX4_findWages 0 = .ok (.aload_n 0, 1) := by decide +kernel
theorem dX4_findWages_1 : decode cX4_findWages 1 = .ok (.aload_n 1, 1) := by decide +kernel
theorem dX4_findWages_2 : decode cX4_findWages 2 = .ok (.iload_n 2, 1) := by decide +kernel
theorem dX4_findWages_3 : decode cX4_findWages 3 = .ok (.iconst (-1), 1) := by decide +kernel
theorem dX4_findWages_4 : decode cX4_findWages 4 = .ok (.iconst (-1), 1) := by decide +kernel
theorem dX4_findWages_5 : decode cX4_findWages 5 = .ok (.iconst 1, 1) := by decide +kernel
theorem dX4_findWages_6 : decode cX4_findWages 6 = .ok (.aload_n 1, 1) := by decide +kernel
theorem dX4_findWages_7 : decode cX4_findWages 7 = .ok (.getfield 63, 3) := by decide +kernel
theorem dX4_findWages_10 : decode cX4_findWages 10 = .ok (.iadd, 1) := by decide +kernel
theorem dX4_findWages_11 : decode cX4_findWages 11 = .ok (.invokevirtual 59, 3) := by decide +kernel
theorem dX4_findWages_14 : decode cX4_findWages 14 = .ok (.ireturn, 1) := by decide +kernel
theorem pm_X4_findMerged_r1 : ∀ w ∈ wsX4_findMerged_r1, w ∈ wsX4_findMerged := fun _ h => List.mem_cons_of_mem _ (List.mem_append_left _ (List.mem_append_left _ (List.mem_append_left _ (List.mem_append_left _ h))))
theorem pm_X4_findMerged_r2 : ∀ w ∈ wsX4_findMerged_r2, w ∈ wsX4_findMerged := fun _ h => List.mem_cons_of_mem _ (List.mem_append_left _ (List.mem_append_left _ (List.mem_append_left _ (List.mem_append_right _ (List.mem_append_left _ h)))))
theorem pm_X4_findMerged_r3 : ∀ w ∈ wsX4_findMerged_r3, w ∈ wsX4_findMerged := fun _ h => List.mem_cons_of_mem _ (List.mem_append_left _ (List.mem_append_left _ (List.mem_append_left _ (List.mem_append_right _ (List.mem_append_right _ (List.mem_append_left _ h))))))
theorem pm_X4_findMerged_r4 : ∀ w ∈ wsX4_findMerged_r4, w ∈ wsX4_findMerged := fun _ h => List.mem_cons_of_mem _ (List.mem_append_left _ (List.mem_append_left _ (List.mem_append_left _ (List.mem_append_right _ (List.mem_append_right _ (List.mem_append_right _ (List.mem_append_left _ h)))))))
theorem pm_X4_findMerged_r5 : ∀ w ∈ wsX4_findMerged_r5, w ∈ wsX4_findMerged := fun _ h => List.mem_cons_of_mem _ (List.mem_append_left _ (List.mem_append_left _ (List.mem_append_left _ (List.mem_append_right _ (List.mem_append_right _ (List.mem_append_right _ (List.mem_append_right _ (List.mem_append_left _ h))))))))
theorem pm_X4_findMerged_r6 : ∀ w ∈ wsX4_findMerged_r6, w ∈ wsX4_findMerged := fun _ h => List.mem_cons_of_mem _ (List.mem_append_left _ (List.mem_append_left _ (List.mem_append_left _ (List.mem_append_right _ (List.mem_append_right _ (List.mem_append_right _ (List.mem_append_right _ (List.mem_append_right _ (h)))))))))
theorem pw_X4_findMerged_X4 : ∀ w ∈ wsX40, w ∈ wsX4_findMerged := fun _ h => List.mem_cons_of_mem _ (List.mem_append_left _ (List.mem_append_left _ (List.mem_append_right _ h)))
theorem pw_X4_findMerged_X3 : ∀ w ∈ wsX30, w ∈ wsX4_findMerged := fun _ h => List.mem_cons_of_mem _ (List.mem_append_left _ (List.mem_append_right _ h))
theorem pw_X4_findMerged_X8 : ∀ w ∈ wsX80, w ∈ wsX4_findMerged := fun _ h => List.mem_cons_of_mem _ (List.mem_append_right _ h)
set_option maxRecDepth 20000 in
theorem pq_X4_findMerged_X4_find_r1 : ∀ w ∈ wsX4_find_r1, w ∈ wsX4_findMerged := List.forall_mem_cons.mpr ⟨pm_X4_findMerged_r1 _ (List.mem_of_getElem? (i := 5) rfl), List.forall_mem_cons.mpr ⟨pm_X4_findMerged_r1 _ (List.mem_of_getElem? (i := 6) rfl), List.forall_mem_cons.mpr ⟨pm_X4_findMerged_r1 _ (List.mem_of_getElem? (i := 7) rfl), List.forall_mem_cons.mpr ⟨pm_X4_findMerged_r1 _ (List.mem_of_getElem? (i := 8) rfl), List.forall_mem_cons.mpr ⟨pm_X4_findMerged_r1 _ (List.mem_of_getElem? (i := 9) rfl), List.forall_mem_cons.mpr ⟨pm_X4_findMerged_r1 _ (List.mem_of_getElem? (i := 10) rfl), List.forall_mem_cons.mpr ⟨pm_X4_findMerged_r1 _ (List.mem_of_getElem? (i := 11) rfl), List.forall_mem_cons.mpr ⟨pm_X4_findMerged_r1 _ (List.mem_of_getElem? (i := 12) rfl), List.forall_mem_cons.mpr ⟨pm_X4_findMerged_r1 _ (List.mem_of_getElem? (i := 13) rfl), List.forall_mem_cons.mpr ⟨pm_X4_findMerged_r1 _ (List.mem_of_getElem? (i := 14) rfl), List.forall_mem_cons.mpr ⟨pm_X4_findMerged_r1 _ (List.mem_of_getElem? (i := 15) rfl), List.forall_mem_cons.mpr ⟨pm_X4_findMerged_r1 _ (List.mem_of_getElem? (i := 3) rfl), List.forall_mem_cons.mpr ⟨pm_X4_findMerged_r1 _ (List.mem_of_getElem? (i := 16) rfl), List.forall_mem_cons.mpr ⟨pm_X4_findMerged_r1 _ (List.mem_of_getElem? (i := 17) rfl), List.forall_mem_cons.mpr ⟨pm_X4_findMerged_r1 _ (List.mem_of_getElem? (i := 18) rfl), List.forall_mem_cons.mpr ⟨pm_X4_findMerged_r1 _ (List.mem_of_getElem? (i := 19) rfl), List.forall_mem_cons.mpr ⟨pm_X4_findMerged_r1 _ (List.mem_of_getElem? (i := 20) rfl), List.forall_mem_cons.mpr ⟨pm_X4_findMerged_r1 _ (List.mem_of_getElem? (i := 21) rfl), List.forall_mem_cons.mpr ⟨pm_X4_findMerged_r1 _ (List.mem_of_getElem? (i := 22) rfl), List.forall_mem_cons.mpr ⟨pm_X4_findMerged_r1 _ (List.mem_of_getElem? (i := 23) rfl), List.forall_mem_cons.mpr ⟨pm_X4_findMerged_r2 _ (List.mem_of_getElem? (i := 0) rfl), List.forall_mem_cons.mpr ⟨pm_X4_findMerged_r2 _ (List.mem_of_getElem? (i := 1) rfl), List.forall_mem_cons.mpr ⟨pm_X4_findMerged_r2 _ (List.mem_of_getElem? (i := 2) rfl), List.forall_mem_cons.mpr ⟨pm_X4_findMerged_r2 _ (List.mem_of_getElem? (i := 3) rfl), fun _ h => absurd h List.not_mem_nil⟩⟩⟩⟩⟩⟩⟩⟩⟩⟩⟩⟩⟩⟩⟩⟩⟩⟩⟩⟩⟩⟩⟩⟩
set_option maxRecDepth 20000 in
theorem pq_X4_findMerged_X4_find_r2 : ∀ w ∈ wsX4_find_r2, w ∈ wsX4_findMerged := List.forall_mem_cons.mpr ⟨pm_X4_findMerged_r2 _ (List.mem_of_getElem? (i := 4) rfl), List.forall_mem_cons.mpr ⟨pm_X4_findMerged_r2 _ (List.mem_of_getElem? (i := 5) rfl), List.forall_mem_cons.mpr ⟨pm_X4_findMerged_r2 _ (List.mem_of_getElem? (i := 6) rfl), List.forall_mem_cons.mpr ⟨pm_X4_findMerged_r2 _ (List.mem_of_getElem? (i := 7) rfl), List.forall_mem_cons.mpr ⟨pm_X4_findMerged_r2 _ (List.mem_of_getElem? (i := 8) rfl), List.forall_mem_cons.mpr ⟨pm_X4_findMerged_r2 _ (List.mem_of_getElem? (i := 9) rfl), List.forall_mem_cons.mpr ⟨pm_X4_findMerged_r2 _ (List.mem_of_getElem? (i := 10) rfl), List.forall_mem_cons.mpr ⟨pm_X4_findMerged_r2 _ (List.mem_of_getElem? (i := 11) rfl), List.forall_mem_cons.mpr ⟨pm_X4_findMerged_r2 _ (List.mem_of_getElem? (i := 12) rfl), List.forall_mem_cons.mpr ⟨pm_X4_findMerged_r2 _ (List.mem_of_getElem? (i := 13) rfl), List.forall_mem_cons.mpr ⟨pm_X4_findMerged_r2 _ (List.mem_of_getElem? (i := 14) rfl), List.forall_mem_cons.mpr ⟨pm_X4_findMerged_r2 _ (List.mem_of_getElem? (i := 15) rfl), List.forall_mem_cons.mpr ⟨pm_X4_findMerged_r2 _ (List.mem_of_getElem? (i := 16) rfl), List.forall_mem_cons.mpr ⟨pm_X4_findMerged_r2 _ (List.mem_of_getElem? (i := 17) rfl), List.forall_mem_cons.mpr ⟨pm_X4_findMerged_r2 _ (List.mem_of_getElem? (i := 18) rfl), List.forall_mem_cons.mpr ⟨pm_X4_findMerged_r2 _ (List.mem_of_getElem? (i := 19) rfl), List.forall_mem_cons.mpr ⟨pm_X4_findMerged_r2 _ (List.mem_of_getElem? (i := 20) rfl), List.forall_mem_cons.mpr ⟨pm_X4_findMerged_r2 _ (List.mem_of_getElem? (i := 21) rfl), List.forall_mem_cons.mpr ⟨pm_X4_findMerged_r2 _ (List.mem_of_getElem? (i := 22) rfl), List.forall_mem_cons.mpr ⟨pm_X4_findMerged_r2 _ (List.mem_of_getElem? (i := 23) rfl), List.forall_mem_cons.mpr ⟨pm_X4_findMerged_r3 _ (List.mem_of_getElem? (i := 0) rfl), List.forall_mem_cons.mpr ⟨pm_X4_findMerged_r3 _ (List.mem_of_getElem? (i := 1) rfl), List.forall_mem_cons.mpr ⟨pm_X4_findMerged_r3 _ (List.mem_of_getElem? (i := 2) rfl), List.forall_mem_cons.mpr ⟨pm_X4_findMerged_r3 _ (List.mem_of_getElem? (i := 3) rfl), fun _ h => absurd h List.not_mem_nil⟩⟩⟩⟩⟩⟩⟩⟩⟩⟩⟩⟩⟩⟩⟩⟩⟩⟩⟩⟩⟩⟩⟩⟩
set_option maxRecDepth 20000 in
theorem pq_X4_findMerged_X4_find_r3 : ∀ w ∈ wsX4_find_r3, w ∈ wsX4_findMerged := List.forall_mem_cons.mpr ⟨pm_X4_findMerged_r3 _ (List.mem_of_getElem? (i := 4) rfl), List.forall_mem_cons.mpr ⟨pm_X4_findMerged_r3 _ (List.mem_of_getElem? (i := 5) rfl), List.forall_mem_cons.mpr ⟨pm_X4_findMerged_r3 _ (List.mem_of_getElem? (i := 6) rfl), List.forall_mem_cons.mpr ⟨pm_X4_findMerged_r3 _ (List.mem_of_getElem? (i := 7) rfl), List.forall_mem_cons.mpr ⟨pm_X4_findMerged_r3 _ (List.mem_of_getElem? (i := 8) rfl), List.forall_mem_cons.mpr ⟨pm_X4_findMerged_r3 _ (List.mem_of_getElem? (i := 9) rfl), List.forall_mem_cons.mpr ⟨pm_X4_findMerged_r3 _ (List.mem_of_getElem? (i := 10) rfl), List.forall_mem_cons.mpr ⟨pm_X4_findMerged_r3 _ (List.mem_of_getElem? (i := 11) rfl), List.forall_mem_cons.mpr ⟨pm_X4_findMerged_r3 _ (List.mem_of_getElem? (i := 12) rfl), List.forall_mem_cons.mpr ⟨pm_X4_findMerged_r3 _ (List.mem_of_getElem? (i := 13) rfl), List.forall_mem_cons.mpr ⟨pm_X4_findMerged_r3 _ (List.mem_of_getElem? (i := 14) rfl), List.forall_mem_cons.mpr ⟨pm_X4_findMerged_r3 _ (List.mem_of_getElem? (i := 15) rfl), List.forall_mem_cons.mpr ⟨pm_X4_findMerged_r3 _ (List.mem_of_getElem? (i := 16) rfl), List.forall_mem_cons.mpr ⟨pm_X4_findMerged_r3 _ (List.mem_of_getElem? (i := 17) rfl), List.forall_mem_cons.mpr ⟨pm_X4_findMerged_r3 _ (List.mem_of_getElem? (i := 18) rfl), List.forall_mem_cons.mpr ⟨pm_X4_findMerged_r3 _ (List.mem_of_getElem? (i := 19) rfl), List.forall_mem_cons.mpr ⟨pm_X4_findMerged_r3 _ (List.mem_of_getElem? (i := 20) rfl), List.forall_mem_cons.mpr ⟨pm_X4_findMerged_r3 _ (List.mem_of_getElem? (i := 21) rfl), List.forall_mem_cons.mpr ⟨pm_X4_findMerged_r3 _ (List.mem_of_getElem? (i := 22) rfl), List.forall_mem_cons.mpr ⟨pm_X4_findMerged_r3 _ (List.mem_of_getElem? (i := 23) rfl), List.forall_mem_cons.mpr ⟨pm_X4_findMerged_r4 _ (List.mem_of_getElem? (i := 0) rfl), List.forall_mem_cons.mpr ⟨pm_X4_findMerged_r4 _ (List.mem_of_getElem? (i := 1) rfl), List.forall_mem_cons.mpr ⟨pm_X4_findMerged_r4 _ (List.mem_of_getElem? (i := 2) rfl), List.forall_mem_cons.mpr ⟨pm_X4_findMerged_r4 _ (List.mem_of_getElem? (i := 3) rfl), fun _ h => absurd h List.not_mem_nil⟩⟩⟩⟩⟩⟩⟩⟩⟩⟩⟩⟩⟩⟩⟩⟩⟩⟩⟩⟩⟩⟩⟩⟩
set_option maxRecDepth 20000 in
theorem pq_X4_findMerged_X4_find_r4 : ∀ w ∈ wsX4_find_r4, w ∈ wsX4_findMerged := List.forall_mem_cons.mpr ⟨pm_X4_findMerged_r4 _ (List.mem_of_getElem? (i := 4) rfl), List.forall_mem_cons.mpr ⟨pm_X4_findMerged_r4 _ (List.mem_of_getElem? (i := 5) rfl), List.forall_mem_cons.mpr ⟨pm_X4_findMerged_r4 _ (List.mem_of_getElem? (i := 6) rfl), List.forall_mem_cons.mpr ⟨pm_X4_findMerged_r4 _ (List.mem_of_getElem? (i := 7) rfl), List.forall_mem_cons.mpr ⟨pm_X4_findMerged_r4 _ (List.mem_of_getElem? (i := 8) rfl), List.forall_mem_cons.mpr ⟨pm_X4_findMerged_r4 _ (List.mem_of_getElem? (i := 9) rfl), List.forall_mem_cons.mpr ⟨pm_X4_findMerged_r4 _ (List.mem_of_getElem? (i := 10) rfl), List.forall_mem_cons.mpr ⟨pm_X4_findMerged_r4 _ (List.mem_of_getElem? (i := 11) rfl), List.forall_mem_cons.mpr ⟨pm_X4_findMerged_r4 _ (List.mem_of_getElem? (i := 12) rfl), List.forall_mem_cons.mpr ⟨pm_X4_findMerged_r4 _ (List.mem_of_getElem? (i := 13) rfl), List.forall_mem_cons.mpr ⟨pm_X4_findMerged_r4 _ (List.mem_of_getElem? (i := 14) rfl), List.forall_mem_cons.mpr ⟨pm_X4_findMerged_r4 _ (List.mem_of_getElem? (i := 15) rfl), List.forall_mem_cons.mpr ⟨pm_X4_findMerged_r4 _ (List.mem_of_getElem? (i := 16) rfl), List.forall_mem_cons.mpr ⟨pm_X4_findMerged_r4 _ (List.mem_of_getElem? (i := 17) rfl), List.forall_mem_cons.mpr ⟨pm_X4_findMerged_r4 _ (List.mem_of_getElem? (i := 18) rfl), List.forall_mem_cons.mpr ⟨pm_X4_findMerged_r4 _ (List.mem_of_getElem? (i := 19) rfl), List.forall_mem_cons.mpr ⟨pm_X4_findMerged_r4 _ (List.mem_of_getElem? (i := 20) rfl), List.forall_mem_cons.mpr ⟨pm_X4_findMerged_r4 _ (List.mem_of_getElem? (i := 21) rfl), List.forall_mem_cons.mpr ⟨pm_X4_findMerged_r4 _ (List.mem_of_getElem? (i := 22) rfl), List.forall_mem_cons.mpr ⟨pm_X4_findMerged_r4 _ (List.mem_of_getElem? (i := 23) rfl), List.forall_mem_cons.mpr ⟨pm_X4_findMerged_r5 _ (List.mem_of_getElem? (i := 0) rfl), List.forall_mem_cons.mpr ⟨pm_X4_findMerged_r5 _ (List.mem_of_getElem? (i := 1) rfl), List.forall_mem_cons.mpr ⟨pm_X4_findMerged_r5 _ (List.mem_of_getElem? (i := 2) rfl), List.forall_mem_cons.mpr ⟨pm_X4_findMerged_r5 _ (List.mem_of_getElem? (i := 3) rfl), fun _ h => absurd h List.not_mem_nil⟩⟩⟩⟩⟩⟩⟩⟩⟩⟩⟩⟩⟩⟩⟩⟩⟩⟩⟩⟩⟩⟩⟩⟩
set_option maxRecDepth 20000 in
theorem pq_X4_findMerged_X4_find_r5 : ∀ w ∈ wsX4_find_r5, w ∈ wsX4_findMerged := List.forall_mem_cons.mpr ⟨pm_X4_findMerged_r5 _ (List.mem_of_getElem? (i := 4) rfl), List.forall_mem_cons.mpr ⟨pm_X4_findMerged_r5 _ (List.mem_of_getElem? (i := 5) rfl), List.forall_mem_cons.mpr ⟨pm_X4_findMerged_r5 _ (List.mem_of_getElem? (i := 6) rfl), List.forall_mem_cons.mpr ⟨pm_X4_findMerged_r5 _ (List.mem_of_getElem? (i := 7) rfl), List.forall_mem_cons.mpr ⟨pm_X4_findMerged_r5 _ (List.mem_of_getElem? (i := 8) rfl), List.forall_mem_cons.mpr ⟨pm_X4_findMerged_r5 _ (List.mem_of_getElem? (i := 9) rfl), List.forall_mem_cons.mpr ⟨pm_X4_findMerged_r5 _ (List.mem_of_getElem? (i := 10) rfl), List.forall_mem_cons.mpr ⟨pm_X4_findMerged_r5 _ (List.mem_of_getElem? (i := 11) rfl), List.forall_mem_cons.mpr ⟨pm_X4_findMerged_r5 _ (List.mem_of_getElem? (i := 12) rfl), List.forall_mem_cons.mpr ⟨pm_X4_findMerged_r5 _ (List.mem_of_getElem? (i := 13) rfl), List.forall_mem_cons.mpr ⟨pm_X4_findMerged_r5 _ (List.mem_of_getElem? (i := 14) rfl), List.forall_mem_cons.mpr ⟨pm_X4_findMerged_r5 _ (List.mem_of_getElem? (i := 15) rfl), List.forall_mem_cons.mpr ⟨pm_X4_findMerged_r5 _ (List.mem_of_getElem? (i := 16) rfl), List.forall_mem_cons.mpr ⟨pm_X4_findMerged_r5 _ (List.mem_of_getElem? (i := 17) rfl), List.forall_mem_cons.mpr ⟨pm_X4_findMerged_r5 _ (List.mem_of_getElem? (i := 18) rfl), List.forall_mem_cons.mpr ⟨pm_X4_findMerged_r5 _ (List.mem_of_getElem? (i := 19) rfl), List.forall_mem_cons.mpr ⟨pm_X4_findMerged_r5 _ (List.mem_of_getElem? (i := 20) rfl), List.forall_mem_cons.mpr ⟨pm_X4_findMerged_r5 _ (List.mem_of_getElem? (i := 21) rfl), List.forall_mem_cons.mpr ⟨pm_X4_findMerged_r5 _ (List.mem_of_getElem? (i := 22) rfl), List.forall_mem_cons.mpr ⟨pm_X4_findMerged_r5 _ (List.mem_of_getElem? (i := 23) rfl), List.forall_mem_cons.mpr ⟨pm_X4_findMerged_r6 _ (List.mem_of_getElem? (i := 0) rfl), List.forall_mem_cons.mpr ⟨pm_X4_findMerged_r6 _ (List.mem_of_getElem? (i := 1) rfl), List.forall_mem_cons.mpr ⟨pm_X4_findMerged_r6 _ (List.mem_of_getElem? (i := 2) rfl), List.forall_mem_cons.mpr ⟨pm_X4_findMerged_r6 _ (List.mem_of_getElem? (i := 3) rfl), fun _ h => absurd h List.not_mem_nil⟩⟩⟩⟩⟩⟩⟩⟩⟩⟩⟩⟩⟩⟩⟩⟩⟩⟩⟩⟩⟩⟩⟩⟩
set_option maxRecDepth 20000 in
theorem pq_X4_findMerged_X4_find_r6 : ∀ w ∈ wsX4_find_r6, w ∈ wsX4_findMerged := List.forall_mem_cons.mpr ⟨pm_X4_findMerged_r6 _ (List.mem_of_getElem? (i := 4) rfl), fun _ h => absurd h List.not_mem_nil⟩
set_option maxRecDepth 20000 in
theorem ggX4_findMerged_X4_find : GoodIn wsX4_findMerged wsX4_find := goodIn_sub (List.forall_mem_cons.mpr ⟨pm_X4_findMerged_r1 _ (List.mem_of_getElem? (i := 4) rfl), List.forall_mem_append.mpr ⟨List.forall_mem_append.mpr ⟨List.forall_mem_append.mpr ⟨List.forall_mem_append.mpr ⟨pq_X4_findMerged_X4_find_r1, List.forall_mem_append.mpr ⟨pq_X4_findMerged_X4_find_r2, List.forall_mem_append.mpr ⟨pq_X4_findMerged_X4_find_r3, List.forall_mem_append.mpr ⟨pq_X4_findMerged_X4_find_r4, List.forall_mem_append.mpr ⟨pq_X4_findMerged_X4_find_r5, pq_X4_findMerged_X4_find_r6⟩⟩⟩⟩⟩, pw_X4_findMerged_X4⟩, pw_X4_findMerged_X3⟩, pw_X4_findMerged_X8⟩⟩) (by decide +kernel)
set_option maxRecDepth 20000 in
theorem gX4_findMerged_X4_find : GoodIn wsX4_findMerged (wsV RX4 59 RX4 yX4_find wsX4_find) := goodIn_app (goodIn_of _ (by decide +kernel)) ggX4_findMerged_X4_find
theorem dX4_findMerged_0 : decode cX4_findMerged 0 = .ok (.aload_n 0, 1) := by decide +kernel
theorem dX4_findMerged_1 : decode cX4_findMerged 1 = .ok (.aload_n 1, 1) := by decide +kernel
theorem dX4_findMerged_2 : decode cX4_findMerged 2 = .ok (.iload_n 2, 1) := by decide +kernel
theorem dX4_findMerged_3 : decode cX4_findMerged 3 = .ok (.iload_n 3, 1) := by decide +kernel
theorem dX4_findMerged_4 : decode cX4_findMerged 4 = .ok (.iload 4, 2) := by decide +kernel
theorem dX4_findMerged_6 : decode cX4_findMerged 6 = .ok (.iconst 1, 1) := by decide +kernel
theorem dX4_findMerged_7 : decode cX4_findMerged 7 = .ok (.invokevirtual 59, 3) := by decide +kernel
theorem dX4_findMerged_10 : decode cX4_findMerged 10 = .ok (.ireturn, 1) := by decide +kernel
theorem pm_X4_costInto_r1 : ∀ w ∈ wsX4_costInto_r1, w ∈ wsX4_costInto := fun _ h => List.mem_cons_of_mem _ (List.mem_append_left _ (List.mem_append_left _ (List.mem_append_left _ (List.mem_append_left _ h))))
theorem pm_X4_costInto_r2 : ∀ w ∈ wsX4_costInto_r2, w ∈ wsX4_costInto := fun _ h => List.mem_cons_of_mem _ (List.mem_append_left _ (List.mem_append_left _ (List.mem_append_left _ (List.mem_append_right _ (h)))))
theorem pw_X4_costInto_X4 : ∀ w ∈ wsX40, w ∈ wsX4_costInto := fun _ h => List.mem_cons_of_mem _ (List.mem_append_left _ (List.mem_append_left _ (List.mem_append_right _ h)))
theorem pw_X4_costInto_X3 : ∀ w ∈ wsX30, w ∈ wsX4_costInto := fun _ h => List.mem_cons_of_mem _ (List.mem_append_left _ (List.mem_append_right _ h))
theorem pw_X4_costInto_X2 : ∀ w ∈ wsX20, w ∈ wsX4_costInto := fun _ h => List.mem_cons_of_mem _ (List.mem_append_right _ h)
set_option maxRecDepth 20000 in
theorem ggX4_costInto_X4_chanceOf : GoodIn wsX4_costInto wsX4_chanceOf := goodIn_sub (List.forall_mem_cons.mpr ⟨pm_X4_costInto_r1 _ (List.mem_of_getElem? (i := 11) rfl), List.forall_mem_append.mpr ⟨List.forall_mem_append.mpr ⟨List.forall_mem_cons.mpr ⟨pm_X4_costInto_r1 _ (List.mem_of_getElem? (i := 12) rfl), List.forall_mem_cons.mpr ⟨pm_X4_costInto_r1 _ (List.mem_of_getElem? (i := 13) rfl), List.forall_mem_cons.mpr ⟨pm_X4_costInto_r1 _ (List.mem_of_getElem? (i := 0) rfl), List.forall_mem_cons.mpr ⟨pm_X4_costInto_r1 _ (List.mem_of_getElem? (i := 14) rfl), fun _ h => absurd h List.not_mem_nil⟩⟩⟩⟩, pw_X4_costInto_X4⟩, pw_X4_costInto_X3⟩⟩) (by decide +kernel)
set_option maxRecDepth 20000 in
theorem gX4_costInto_X4_chanceOf : GoodIn wsX4_costInto (wsV RX4 66 RX4 yX4_chanceOf wsX4_chanceOf) := goodIn_app (goodIn_of _ (by decide +kernel)) ggX4_costInto_X4_chanceOf
set_option maxRecDepth 20000 in
theorem ggX4_costInto_X2_become : GoodIn wsX4_costInto wsX2_become := goodIn_sub (List.forall_mem_cons.mpr ⟨pm_X4_costInto_r1 _ (List.mem_of_getElem? (i := 19) rfl), List.forall_mem_append.mpr ⟨List.forall_mem_cons.mpr ⟨pm_X4_costInto_r1 _ (List.mem_of_getElem? (i := 20) rfl), List.forall_mem_cons.mpr ⟨pm_X4_costInto_r1 _ (List.mem_of_getElem? (i := 21) rfl), List.forall_mem_cons.mpr ⟨pm_X4_costInto_r1 _ (List.mem_of_getElem? (i := 22) rfl), List.forall_mem_cons.mpr ⟨pm_X4_costInto_r1 _ (List.mem_of_getElem? (i := 23) rfl), List.forall_mem_cons.mpr ⟨pm_X4_costInto_r2 _ (List.mem_of_getElem? (i := 0) rfl), List.forall_mem_cons.mpr ⟨pm_X4_costInto_r2 _ (List.mem_of_getElem? (i := 1) rfl), List.forall_mem_cons.mpr ⟨pm_X4_costInto_r2 _ (List.mem_of_getElem? (i := 2) rfl), List.forall_mem_cons.mpr ⟨pm_X4_costInto_r2 _ (List.mem_of_getElem? (i := 3) rfl), List.forall_mem_cons.mpr ⟨pm_X4_costInto_r1 _ (List.mem_of_getElem? (i := 18) rfl), List.forall_mem_cons.mpr ⟨pm_X4_costInto_r2 _ (List.mem_of_getElem? (i := 4) rfl), List.forall_mem_cons.mpr ⟨pm_X4_costInto_r2 _ (List.mem_of_getElem? (i := 5) rfl), List.forall_mem_cons.mpr ⟨pm_X4_costInto_r2 _ (List.mem_of_getElem? (i := 6) rfl), List.forall_mem_cons.mpr ⟨pm_X4_costInto_r2 _ (List.mem_of_getElem? (i := 7) rfl), List.forall_mem_cons.mpr ⟨pm_X4_costInto_r2 _ (List.mem_of_getElem? (i := 8) rfl), List.forall_mem_cons.mpr ⟨pm_X4_costInto_r2 _ (List.mem_of_getElem? (i := 9) rfl), fun _ h => absurd h List.not_mem_nil⟩⟩⟩⟩⟩⟩⟩⟩⟩⟩⟩⟩⟩⟩⟩, pw_X4_costInto_X2⟩⟩) (by decide +kernel)
set_option maxRecDepth 20000 in
theorem gX4_costInto_X2_become : GoodIn wsX4_costInto (wsV RX4 73 RX2 yX2_become wsX2_become) := goodIn_app (goodIn_of _ (by decide +kernel)) ggX4_costInto_X2_become
set_option maxRecDepth 20000 in
theorem ggX4_costInto_X2_add : GoodIn wsX4_costInto wsX2_add := goodIn_sub (List.forall_mem_cons.mpr ⟨pm_X4_costInto_r2 _ (List.mem_of_getElem? (i := 13) rfl), List.forall_mem_append.mpr ⟨List.forall_mem_cons.mpr ⟨pm_X4_costInto_r2 _ (List.mem_of_getElem? (i := 0) rfl), List.forall_mem_cons.mpr ⟨pm_X4_costInto_r2 _ (List.mem_of_getElem? (i := 1) rfl), List.forall_mem_cons.mpr ⟨pm_X4_costInto_r2 _ (List.mem_of_getElem? (i := 14) rfl), List.forall_mem_cons.mpr ⟨pm_X4_costInto_r1 _ (List.mem_of_getElem? (i := 16) rfl), List.forall_mem_cons.mpr ⟨pm_X4_costInto_r1 _ (List.mem_of_getElem? (i := 17) rfl), List.forall_mem_cons.mpr ⟨pm_X4_costInto_r1 _ (List.mem_of_getElem? (i := 18) rfl), List.forall_mem_cons.mpr ⟨pm_X4_costInto_r1 _ (List.mem_of_getElem? (i := 19) rfl), List.forall_mem_cons.mpr ⟨pm_X4_costInto_r1 _ (List.mem_of_getElem? (i := 20) rfl), List.forall_mem_cons.mpr ⟨pm_X4_costInto_r1 _ (List.mem_of_getElem? (i := 21) rfl), List.forall_mem_cons.mpr ⟨pm_X4_costInto_r1 _ (List.mem_of_getElem? (i := 22) rfl), List.forall_mem_cons.mpr ⟨pm_X4_costInto_r1 _ (List.mem_of_getElem? (i := 23) rfl), List.forall_mem_cons.mpr ⟨pm_X4_costInto_r2 _ (List.mem_of_getElem? (i := 2) rfl), List.forall_mem_cons.mpr ⟨pm_X4_costInto_r2 _ (List.mem_of_getElem? (i := 3) rfl), List.forall_mem_cons.mpr ⟨pm_X4_costInto_r2 _ (List.mem_of_getElem? (i := 4) rfl), List.forall_mem_cons.mpr ⟨pm_X4_costInto_r2 _ (List.mem_of_getElem? (i := 5) rfl), List.forall_mem_cons.mpr ⟨pm_X4_costInto_r2 _ (List.mem_of_getElem? (i := 6) rfl), List.forall_mem_cons.mpr ⟨pm_X4_costInto_r2 _ (List.mem_of_getElem? (i := 7) rfl), List.forall_mem_cons.mpr ⟨pm_X4_costInto_r2 _ (List.mem_of_getElem? (i := 8) rfl), List.forall_mem_cons.mpr ⟨pm_X4_costInto_r2 _ (List.mem_of_getElem? (i := 9) rfl), fun _ h => absurd h List.not_mem_nil⟩⟩⟩⟩⟩⟩⟩⟩⟩⟩⟩⟩⟩⟩⟩⟩⟩⟩⟩, pw_X4_costInto_X2⟩⟩) (by decide +kernel)
set_option maxRecDepth 20000 in
theorem gX4_costInto_X2_add : GoodIn wsX4_costInto (wsV RX4 82 RX2 yX2_add wsX2_add) := goodIn_app (goodIn_of _ (by decide +kernel)) ggX4_costInto_X2_add
theorem dX4_costInto_0 : decode cX4_costInto 0 = .ok (.lconst 0, 1) := by decide +kernel
theorem dX4_costInto_1 : decode cX4_costInto 1 = .ok (.lstore_n 2, 1) := by decide +kernel
theorem dX4_costInto_2 : decode cX4_costInto 2 = .ok (.iconst 0, 1) := by decide +kernel
theorem dX4_costInto_3 : decode cX4_costInto 3 = .ok (.istore 4, 2) := by decide +kernel
theorem dX4_costInto_5 : decode cX4_costInto 5 = .ok (.iload 4, 2) := by decide +kernel
theorem dX4_costInto_7 : decode cX4_costInto 7 = .ok (.aload_n 0, 1) := by decide +kernel
theorem dX4_costInto_8 : decode cX4_costInto 8 = .ok (.getfield 46, 3) := by decide +kernel
theorem dX4_costInto_11 : decode cX4_costInto 11 = .ok (.getfield 63, 3) := by decide +kernel
theorem dX4_costInto_14 : decode cX4_costInto 14 = .ok (.if_icmp .ge 31, 3) := by decide +kernel
theorem dX4_costInto_17 : decode cX4_costInto 17 = .ok (.lload_n 2, 1) := by decide +kernel
theorem dX4_costInto_18 : decode cX4_costInto 18 = .ok (.aload_n 0, 1) := by decide +kernel
theorem dX4_costInto_19 : decode cX4_costInto 19 = .ok (.aload_n 0, 1) := by decide +kernel
theorem dX4_costInto_20 : decode cX4_costInto 20 = .ok (.getfield 50, 3) := by decide +kernel
theorem dX4_costInto_23 : decode cX4_costInto 23 = .ok (.iload 4, 2) := by decide +kernel
theorem dX4_costInto_25 : decode cX4_costInto 25 = .ok (.invokevirtual 66, 3) := by decide +kernel
theorem dX4_costInto_28 : decode cX4_costInto 28 = .ok (.i2l, 1) := by decide +kernel
theorem dX4_costInto_29 : decode cX4_costInto 29 = .ok (.aload_n 0, 1) := by decide +kernel
theorem dX4_costInto_30 : decode cX4_costInto 30 = .ok (.getfield 9, 3) := by decide +kernel
theorem dX4_costInto_33 : decode cX4_costInto 33 = .ok (.iload 4, 2) := by decide +kernel
theorem dX4_costInto_35 : decode cX4_costInto 35 = .ok (.laload, 1) := by decide +kernel
theorem dX4_costInto_36 : decode cX4_costInto 36 = .ok (.lmul, 1) := by decide +kernel
theorem dX4_costInto_37 : decode cX4_costInto 37 = .ok (.ladd, 1) := by decide +kernel
theorem dX4_costInto_38 : decode cX4_costInto 38 = .ok (.lstore_n 2, 1) := by decide +kernel
theorem dX4_costInto_39 : decode cX4_costInto 39 = .ok (.iinc 4 1, 3) := by decide +kernel
theorem dX4_costInto_42 : decode cX4_costInto 42 = .ok (.goto (-37), 3) := by decide +kernel
theorem dX4_costInto_45 : decode cX4_costInto 45 = .ok (.aload_n 1, 1) := by decide +kernel
theorem dX4_costInto_46 : decode cX4_costInto 46 = .ok (.lload_n 2, 1) := by decide +kernel
theorem dX4_costInto_47 : decode cX4_costInto 47 = .ok (.aload_n 0, 1) := by decide +kernel
theorem dX4_costInto_48 : decode cX4_costInto 48 = .ok (.getfield 46, 3) := by decide +kernel
theorem dX4_costInto_51 : decode cX4_costInto 51 = .ok (.getfield 70, 3) := by decide +kernel
theorem dX4_costInto_54 : decode cX4_costInto 54 = .ok (.i2l, 1) := by decide +kernel
theorem dX4_costInto_55 : decode cX4_costInto 55 = .ok (.aload_n 0, 1) := by decide +kernel
theorem dX4_costInto_56 : decode cX4_costInto 56 = .ok (.getfield 15, 3) := by decide +kernel
theorem dX4_costInto_59 : decode cX4_costInto 59 = .ok (.lmul, 1) := by decide +kernel
theorem dX4_costInto_60 : decode cX4_costInto 60 = .ok (.invokevirtual 73, 3) := by decide +kernel
theorem dX4_costInto_63 : decode cX4_costInto 63 = .ok (.aload_n 1, 1) := by decide +kernel
theorem dX4_costInto_64 : decode cX4_costInto 64 = .ok (.aload_n 0, 1) := by decide +kernel
theorem dX4_costInto_65 : decode cX4_costInto 65 = .ok (.getfield 46, 3) := by decide +kernel
theorem dX4_costInto_68 : decode cX4_costInto 68 = .ok (.getfield 79, 3) := by decide +kernel
theorem dX4_costInto_71 : decode cX4_costInto 71 = .ok (.i2l, 1) := by decide +kernel
theorem dX4_costInto_72 : decode cX4_costInto 72 = .ok (.lconst 1, 1) := by decide +kernel
theorem dX4_costInto_73 : decode cX4_costInto 73 = .ok (.invokevirtual 82, 3) := by decide +kernel
theorem dX4_costInto_76 : decode cX4_costInto 76 = .ok (.return_, 1) := by decide +kernel
set_option maxRecDepth 20000 in
theorem ggX4_wageInto_X2_become : GoodIn wsX4_wageInto wsX2_become := goodIn_r _ [9, 10, 11, 12, 13, 14, 15, 16, 17, 8, 18, 19, 20, 21, 22, 23, 47, 48] (by decide +kernel) (by decide +kernel)
set_option maxRecDepth 20000 in
theorem gX4_wageInto_X2_become : GoodIn wsX4_wageInto (wsV RX4 73 RX2 yX2_become wsX2_become) := goodIn_app (goodIn_of _ (by decide +kernel)) ggX4_wageInto_X2_become
theorem dX4_wageInto_0 : decode cX4_wageInto 0 = .ok (.aload_n 1, 1) := by decide +kernel
theorem dX4_wageInto_1 : decode cX4_wageInto 1 = .ok (.aload_n 0, 1) := by decide +kernel
theorem dX4_wageInto_2 : decode cX4_wageInto 2 = .ok (.getfield 46, 3) := by decide +kernel
theorem dX4_wageInto_5 : decode cX4_wageInto 5 = .ok (.getfield 79, 3) := by decide +kernel
theorem dX4_wageInto_8 : decode cX4_wageInto 8 = .ok (.i2l, 1) := by decide +kernel
theorem dX4_wageInto_9 : decode cX4_wageInto 9 = .ok (.aload_n 0, 1) := by decide +kernel
theorem dX4_wageInto_10 : decode cX4_wageInto 10 = .ok (.getfield 15, 3) := by decide +kernel
theorem dX4_wageInto_13 : decode cX4_wageInto 13 = .ok (.lmul, 1) := by decide +kernel
theorem dX4_wageInto_14 : decode cX4_wageInto 14 = .ok (.aload_n 0, 1) := by decide +kernel
theorem dX4_wageInto_15 : decode cX4_wageInto 15 = .ok (.getfield 9, 3) := by decide +kernel
theorem dX4_wageInto_18 : decode cX4_wageInto 18 = .ok (.iload_n 2, 1) := by decide +kernel
theorem dX4_wageInto_19 : decode cX4_wageInto 19 = .ok (.laload, 1) := by decide +kernel
theorem dX4_wageInto_20 : decode cX4_wageInto 20 = .ok (.ladd, 1) := by decide +kernel
theorem dX4_wageInto_21 : decode cX4_wageInto 21 = .ok (.aload_n 0, 1) := by decide +kernel
theorem dX4_wageInto_22 : decode cX4_wageInto 22 = .ok (.getfield 15, 3) := by decide +kernel
theorem dX4_wageInto_25 : decode cX4_wageInto 25 = .ok (.invokevirtual 73, 3) := by decide +kernel
theorem dX4_wageInto_28 : decode cX4_wageInto 28 = .ok (.return_, 1) := by decide +kernel
theorem dX5_start_0 : decode cX5_start 0 = .ok (.aload_n 0, 1) := by decide +kernel
theorem dX5_start_1 : decode cX5_start 1 = .ok (.lconst 0, 1) := by decide +kernel
theorem dX5_start_2 : decode cX5_start 2 = .ok (.putfield 47, 3) := by decide +kernel
theorem dX5_start_5 : decode cX5_start 5 = .ok (.aload_n 0, 1) := by decide +kernel
theorem dX5_start_6 : decode cX5_start 6 = .ok (.lconst 1, 1) := by decide +kernel
theorem dX5_start_7 : decode cX5_start 7 = .ok (.putfield 43, 3) := by decide +kernel
theorem dX5_start_10 : decode cX5_start 10 = .ok (.aload_n 0, 1) := by decide +kernel
theorem dX5_start_11 : decode cX5_start 11 = .ok (.lconst 0, 1) := by decide +kernel
theorem dX5_start_12 : decode cX5_start 12 = .ok (.putfield 65, 3) := by decide +kernel
theorem dX5_start_15 : decode cX5_start 15 = .ok (.aload_n 0, 1) := by decide +kernel
theorem dX5_start_16 : decode cX5_start 16 = .ok (.lconst 0, 1) := by decide +kernel
theorem dX5_start_17 : decode cX5_start 17 = .ok (.putfield 68, 3) := by decide +kernel
theorem dX5_start_20 : decode cX5_start 20 = .ok (.aload_n 0, 1) := by decide +kernel
theorem dX5_start_21 : decode cX5_start 21 = .ok (.iconst 0, 1) := by decide +kernel
theorem dX5_start_22 : decode cX5_start 22 = .ok (.putfield 71, 3) := by decide +kernel
theorem dX5_start_25 : decode cX5_start 25 = .ok (.return_, 1) := by decide +kernel
theorem kk_X4_findWages_0 : Cond.fieldLink RX4 63 "PaidBySigns$Hire" "signs" "I" ∈ wsX4_findWages := pm_X4_findWages_r1 _ (List.mem_of_getElem? (i := 0) rfl)
theorem kk_X4_costInto_0 : Cond.fieldLink RX4 46 "PaidBySigns$LeastCost" "hire" "LPaidBySigns$Hire;" ∈ wsX4_costInto := pm_X4_costInto_r1 _ (List.mem_of_getElem? (i := 0) rfl)
theorem kk_X4_costInto_1 : Cond.fieldLink RX4 63 "PaidBySigns$Hire" "signs" "I" ∈ wsX4_costInto := pm_X4_costInto_r1 _ (List.mem_of_getElem? (i := 1) rfl)
theorem kk_X4_costInto_2 : Cond.fieldLink RX4 70 "PaidBySigns$Hire" "whole" "I" ∈ wsX4_costInto := pm_X4_costInto_r1 _ (List.mem_of_getElem? (i := 4) rfl)
theorem kk_X4_costInto_3 : Cond.fieldLink RX4 15 "PaidBySigns$LeastCost" "aboveLower" "J" ∈ wsX4_costInto := pm_X4_costInto_r1 _ (List.mem_of_getElem? (i := 5) rfl)
theorem kk_X4_costInto_4 : Cond.fieldLink RX4 79 "PaidBySigns$Hire" "least" "I" ∈ wsX4_costInto := pm_X4_costInto_r1 _ (List.mem_of_getElem? (i := 6) rfl)
theorem kk_X4_costInto_5 : Cond.fieldLink RX4 50 "PaidBySigns$LeastCost" "work" "I" ∈ wsX4_costInto := pm_X4_costInto_r1 _ (List.mem_of_getElem? (i := 2) rfl)
theorem kk_X4_costInto_6 : Cond.fieldLink RX4 9 "PaidBySigns$LeastCost" "above" "[J" ∈ wsX4_costInto := pm_X4_costInto_r1 _ (List.mem_of_getElem? (i := 3) rfl)
theorem kk_X4_wageInto_0 : Cond.fieldLink RX4 46 "PaidBySigns$LeastCost" "hire" "LPaidBySigns$Hire;" ∈ wsX4_wageInto := by decide +kernel
theorem kk_X4_wageInto_1 : Cond.fieldLink RX4 79 "PaidBySigns$Hire" "least" "I" ∈ wsX4_wageInto := by decide +kernel
theorem kk_X4_wageInto_2 : Cond.fieldLink RX4 15 "PaidBySigns$LeastCost" "aboveLower" "J" ∈ wsX4_wageInto := by decide +kernel
theorem kk_X4_wageInto_3 : Cond.fieldLink RX4 9 "PaidBySigns$LeastCost" "above" "[J" ∈ wsX4_wageInto := by decide +kernel
theorem kk_X5_start_0 : Cond.fieldLink RX5 47 "PaidBySigns$OneSum" "lowUpper" "J" ∈ wsX5_start := by decide +kernel
theorem kk_X5_start_1 : Cond.fieldLink RX5 43 "PaidBySigns$OneSum" "lowLower" "J" ∈ wsX5_start := by decide +kernel
theorem kk_X5_start_2 : Cond.fieldLink RX5 65 "PaidBySigns$OneSum" "capUpper" "J" ∈ wsX5_start := by decide +kernel
theorem kk_X5_start_3 : Cond.fieldLink RX5 68 "PaidBySigns$OneSum" "capLower" "J" ∈ wsX5_start := by decide +kernel
theorem kk_X5_start_4 : Cond.fieldLink RX5 71 "PaidBySigns$OneSum" "isBroken" "Z" ∈ wsX5_start := by decide +kernel
theorem iw_X4_findWages_X3 : ∀ w ∈ wsX30, w ∈ wsX4_findWages := pw_X4_findWages_X3
theorem iw_X4_costInto_X4 : ∀ w ∈ wsX40, w ∈ wsX4_costInto := pw_X4_costInto_X4
theorem iw_X4_costInto_X3 : ∀ w ∈ wsX30, w ∈ wsX4_costInto := pw_X4_costInto_X3
theorem iw_X4_wageInto_X4 : ∀ w ∈ wsX40, w ∈ wsX4_wageInto := by decide +kernel
theorem iw_X4_wageInto_X3 : ∀ w ∈ wsX30, w ∈ wsX4_wageInto := by decide +kernel
theorem iw_X5_start_X5 : ∀ w ∈ wsX50, w ∈ wsX5_start := by decide +kernel

abbrev cX5_settle : ByteArray := prog_7_method_2_code
def yX5_settle : MethodName := ⟨RX5, "settle", "(LPaidBySigns$Hire;IIII)Z"⟩
abbrev cX5_settleWatched : ByteArray := prog_7_method_3_code
def yX5_settleWatched : MethodName := ⟨RX5, "settleWatched", "(LPaidBySigns$Hire;II)Z"⟩
abbrev cX5_meanInto : ByteArray := prog_7_method_4_code
def yX5_meanInto : MethodName := ⟨RX5, "meanInto", "(LPaidBySigns$Fraction;LPaidBySigns$Hire;II)V"⟩
abbrev cX5_need : ByteArray := prog_7_method_6_code
def yX5_need : MethodName := ⟨RX5, "need", "(JJ)V"⟩
abbrev cX5_isMet : ByteArray := prog_7_method_7_code
def yX5_isMet : MethodName := ⟨RX5, "isMet", "()Z"⟩
def wsX5_need : List Cond := .code yX5_need cX5_need 5 none :: ([.fieldLink RX5 43 "PaidBySigns$OneSum" "lowLower" "J", .fieldLink RX5 47 "PaidBySigns$OneSum" "lowUpper" "J", .fieldLink RX5 71 "PaidBySigns$OneSum" "isBroken" "Z", .fieldLink RX5 68 "PaidBySigns$OneSum" "capLower" "J", .fieldLink RX5 65 "PaidBySigns$OneSum" "capUpper" "J"] ++ wsX50)
def wsX5_isMet : List Cond := .code yX5_isMet cX5_isMet 2 (some .boolean) :: ([.fieldLink RX5 68 "PaidBySigns$OneSum" "capLower" "J", .fieldLink RX5 47 "PaidBySigns$OneSum" "lowUpper" "J", .fieldLink RX5 65 "PaidBySigns$OneSum" "capUpper" "J", .fieldLink RX5 43 "PaidBySigns$OneSum" "lowLower" "J", .fieldLink RX5 71 "PaidBySigns$OneSum" "isBroken" "Z"] ++ wsX50)
def wsX5_settle_r1 : List Cond := [Cond.fieldLink RX5 18 "PaidBySigns$Hire" "works" "I", Cond.methodLink RX5 7 yX5_start, Cond.instanceMethod yX5_start, Cond.selects RX5 yX5_start yX5_start, Cond.initialized RX5, Cond.code yX5_start cX5_start 1 none, Cond.fieldLink RX5 47 "PaidBySigns$OneSum" "lowUpper" "J", Cond.fieldLink RX5 43 "PaidBySigns$OneSum" "lowLower" "J", Cond.fieldLink RX5 65 "PaidBySigns$OneSum" "capUpper" "J", Cond.fieldLink RX5 68 "PaidBySigns$OneSum" "capLower" "J", Cond.fieldLink RX5 71 "PaidBySigns$OneSum" "isBroken" "Z", Cond.methodLink RX5 12 yX3_chanceFrom, Cond.instanceMethod yX3_chanceFrom, Cond.selects RX3 yX3_chanceFrom yX3_chanceFrom, Cond.initialized RX3, Cond.code yX3_chanceFrom cX3_chanceFrom 5 (some .int), Cond.fieldLink RX3 32 "PaidBySigns$Hire" "signs" "I", Cond.fieldLink RX3 9 "PaidBySigns$Hire" "brings" "[I", Cond.fieldLink RX3 20 "PaidBySigns$Hire" "chances" "[[I", Cond.methodLink RX5 22 yX3_lackOf, Cond.instanceMethod yX3_lackOf, Cond.selects RX3 yX3_lackOf yX3_lackOf, Cond.code yX3_lackOf cX3_lackOf 3 (some .int), Cond.fieldLink RX3 15 "PaidBySigns$Hire" "costs" "[I"]
def wsX5_settle_r2 : List Cond := [Cond.fieldLink RX3 42 "PaidBySigns$Hire" "otherwise" "I", Cond.fieldLink RX3 45 "PaidBySigns$Hire" "least" "I", Cond.methodLink RX3 63 yX3_feltOf, Cond.instanceMethod yX3_feltOf, Cond.selects RX3 yX3_feltOf yX3_feltOf, Cond.code yX3_feltOf cX3_feltOf 6 (some .int), Cond.fieldLink RX3 48 "PaidBySigns$Hire" "rates" "I", Cond.fieldLink RX3 26 "PaidBySigns$Hire" "mark" "[I", Cond.methodLink RX3 51 Lib.Math.min.name, Cond.static Lib.Math.min.name, Cond.initialized "java/lang/Math", Cond.code Lib.Math.min.name Lib.Math.min.code 2 (some .int), Cond.fieldLink RX3 23 "PaidBySigns$Hire" "rate" "[I", Cond.methodLink RX5 25 yX5_need, Cond.instanceMethod yX5_need, Cond.selects RX5 yX5_need yX5_need, Cond.code yX5_need cX5_need 5 none, Cond.methodLink RX5 29 yX5_isMet, Cond.instanceMethod yX5_isMet, Cond.selects RX5 yX5_isMet yX5_isMet, Cond.code yX5_isMet cX5_isMet 2 (some .boolean)]
def wsX5_settle : List Cond := .code yX5_settle cX5_settle 9 (some .boolean) :: ((wsX5_settle_r1 ++ wsX5_settle_r2) ++ wsX30 ++ wsX50)
def wsX5_settleWatched_r1 : List Cond := [Cond.fieldLink RX5 18 "PaidBySigns$Hire" "works" "I", Cond.fieldLink RX5 33 "PaidBySigns$Hire" "whole" "I", Cond.methodLink RX5 7 yX5_start, Cond.instanceMethod yX5_start, Cond.selects RX5 yX5_start yX5_start, Cond.initialized RX5, Cond.code yX5_start cX5_start 1 none, Cond.fieldLink RX5 47 "PaidBySigns$OneSum" "lowUpper" "J", Cond.fieldLink RX5 43 "PaidBySigns$OneSum" "lowLower" "J", Cond.fieldLink RX5 65 "PaidBySigns$OneSum" "capUpper" "J", Cond.fieldLink RX5 68 "PaidBySigns$OneSum" "capLower" "J", Cond.fieldLink RX5 71 "PaidBySigns$OneSum" "isBroken" "Z", Cond.methodLink RX5 22 yX3_lackOf, Cond.instanceMethod yX3_lackOf, Cond.selects RX3 yX3_lackOf yX3_lackOf, Cond.initialized RX3, Cond.code yX3_lackOf cX3_lackOf 3 (some .int), Cond.fieldLink RX3 15 "PaidBySigns$Hire" "costs" "[I", Cond.fieldLink RX3 42 "PaidBySigns$Hire" "otherwise" "I", Cond.fieldLink RX3 45 "PaidBySigns$Hire" "least" "I", Cond.methodLink RX3 63 yX3_feltOf, Cond.instanceMethod yX3_feltOf, Cond.selects RX3 yX3_feltOf yX3_feltOf, Cond.code yX3_feltOf cX3_feltOf 6 (some .int)]
def wsX5_settleWatched_r2 : List Cond := [Cond.fieldLink RX3 48 "PaidBySigns$Hire" "rates" "I", Cond.fieldLink RX3 26 "PaidBySigns$Hire" "mark" "[I", Cond.methodLink RX3 51 Lib.Math.min.name, Cond.static Lib.Math.min.name, Cond.initialized "java/lang/Math", Cond.code Lib.Math.min.name Lib.Math.min.code 2 (some .int), Cond.fieldLink RX3 23 "PaidBySigns$Hire" "rate" "[I", Cond.methodLink RX5 25 yX5_need, Cond.instanceMethod yX5_need, Cond.selects RX5 yX5_need yX5_need, Cond.code yX5_need cX5_need 5 none, Cond.methodLink RX5 29 yX5_isMet, Cond.instanceMethod yX5_isMet, Cond.selects RX5 yX5_isMet yX5_isMet, Cond.code yX5_isMet cX5_isMet 2 (some .boolean)]
def wsX5_settleWatched : List Cond := .code yX5_settleWatched cX5_settleWatched 5 (some .boolean) :: ((wsX5_settleWatched_r1 ++ wsX5_settleWatched_r2) ++ wsX30 ++ wsX50)
def wsX5_meanInto_r1 : List Cond := [Cond.fieldLink RX5 36 "PaidBySigns$Hire" "least" "I", Cond.fieldLink RX5 43 "PaidBySigns$OneSum" "lowLower" "J", Cond.fieldLink RX5 47 "PaidBySigns$OneSum" "lowUpper" "J", Cond.fieldLink RX5 54 "PaidBySigns$Fraction" "upper" "J", Cond.fieldLink RX5 59 "PaidBySigns$Fraction" "lower" "J", Cond.methodLink RX5 39 yX3_feltOf, Cond.instanceMethod yX3_feltOf, Cond.selects RX3 yX3_feltOf yX3_feltOf, Cond.initialized RX3, Cond.code yX3_feltOf cX3_feltOf 6 (some .int), Cond.fieldLink RX3 48 "PaidBySigns$Hire" "rates" "I", Cond.fieldLink RX3 26 "PaidBySigns$Hire" "mark" "[I", Cond.methodLink RX3 51 Lib.Math.min.name, Cond.static Lib.Math.min.name, Cond.initialized "java/lang/Math", Cond.code Lib.Math.min.name Lib.Math.min.code 2 (some .int), Cond.fieldLink RX3 23 "PaidBySigns$Hire" "rate" "[I", Cond.methodLink RX5 50 yX3_wageOf, Cond.instanceMethod yX3_wageOf, Cond.selects RX3 yX3_wageOf yX3_wageOf, Cond.code yX3_wageOf cX3_wageOf 13 none, Cond.methodLink RX3 57 yX2_become, Cond.instanceMethod yX2_become, Cond.selects RX2 yX2_become yX2_become]
def wsX5_meanInto_r2 : List Cond := [Cond.initialized RX2, Cond.code yX2_become cX2_become 7 none, Cond.methodLink RX2 20 Lib.MathLoose.abs_long.x, Cond.static Lib.MathLoose.abs_long.x, Cond.code Lib.MathLoose.abs_long.x Lib.MathLoose.abs_long.code 2 (some .long), Cond.fieldLink RX2 11 "PaidBySigns$Fraction" "upper" "J", Cond.fieldLink RX2 17 "PaidBySigns$Fraction" "lower" "J", Cond.methodLink RX2 26 yX2_commonPart, Cond.static yX2_commonPart, Cond.code yX2_commonPart cX2_commonPart 11 (some .long), Cond.methodLink RX2 30 yX2_forget, Cond.instanceMethod yX2_forget, Cond.selects RX2 yX2_forget yX2_forget, Cond.code yX2_forget cX2_forget 1 none, Cond.constantLong RX2 9 (-2000000000), Cond.methodLink RX5 62 yX2_become]
def wsX5_meanInto : List Cond := .code yX5_meanInto cX5_meanInto 9 none :: ((wsX5_meanInto_r1 ++ wsX5_meanInto_r2) ++ wsX30 ++ wsX50 ++ wsX20)
theorem pm_X5_settle_r1 : ∀ w ∈ wsX5_settle_r1, w ∈ wsX5_settle := fun _ h => List.mem_cons_of_mem _ (List.mem_append_left _ (List.mem_append_left _ (List.mem_append_left _ h)))
theorem pm_X5_settle_r2 : ∀ w ∈ wsX5_settle_r2, w ∈ wsX5_settle := fun _ h => List.mem_cons_of_mem _ (List.mem_append_left _ (List.mem_append_left _ (List.mem_append_right _ (h))))
theorem pw_X5_settle_X3 : ∀ w ∈ wsX30, w ∈ wsX5_settle := fun _ h => List.mem_cons_of_mem _ (List.mem_append_left _ (List.mem_append_right _ h))
theorem pw_X5_settle_X5 : ∀ w ∈ wsX50, w ∈ wsX5_settle := fun _ h => List.mem_cons_of_mem _ (List.mem_append_right _ h)
set_option maxRecDepth 20000 in
theorem ggX5_settle_X5_start : GoodIn wsX5_settle wsX5_start := goodIn_sub (List.forall_mem_cons.mpr ⟨pm_X5_settle_r1 _ (List.mem_of_getElem? (i := 5) rfl), List.forall_mem_append.mpr ⟨List.forall_mem_cons.mpr ⟨pm_X5_settle_r1 _ (List.mem_of_getElem? (i := 6) rfl), List.forall_mem_cons.mpr ⟨pm_X5_settle_r1 _ (List.mem_of_getElem? (i := 7) rfl), List.forall_mem_cons.mpr ⟨pm_X5_settle_r1 _ (List.mem_of_getElem? (i := 8) rfl), List.forall_mem_cons.mpr ⟨pm_X5_settle_r1 _ (List.mem_of_getElem? (i := 9) rfl), List.forall_mem_cons.mpr ⟨pm_X5_settle_r1 _ (List.mem_of_getElem? (i := 10) rfl), fun _ h => absurd h List.not_mem_nil⟩⟩⟩⟩⟩, pw_X5_settle_X5⟩⟩) (by decide +kernel)
set_option maxRecDepth 20000 in
theorem gX5_settle_X5_start : GoodIn wsX5_settle (wsV RX5 7 RX5 yX5_start wsX5_start) := goodIn_app (goodIn_of _ (by decide +kernel)) ggX5_settle_X5_start
set_option maxRecDepth 20000 in
theorem ggX5_settle_X3_chanceFrom : GoodIn wsX5_settle wsX3_chanceFrom := goodIn_sub (List.forall_mem_cons.mpr ⟨pm_X5_settle_r1 _ (List.mem_of_getElem? (i := 15) rfl), List.forall_mem_append.mpr ⟨List.forall_mem_cons.mpr ⟨pm_X5_settle_r1 _ (List.mem_of_getElem? (i := 16) rfl), List.forall_mem_cons.mpr ⟨pm_X5_settle_r1 _ (List.mem_of_getElem? (i := 17) rfl), List.forall_mem_cons.mpr ⟨pm_X5_settle_r1 _ (List.mem_of_getElem? (i := 18) rfl), fun _ h => absurd h List.not_mem_nil⟩⟩⟩, pw_X5_settle_X3⟩⟩) (by decide +kernel)
set_option maxRecDepth 20000 in
theorem gX5_settle_X3_chanceFrom : GoodIn wsX5_settle (wsV RX5 12 RX3 yX3_chanceFrom wsX3_chanceFrom) := goodIn_app (goodIn_of _ (by decide +kernel)) ggX5_settle_X3_chanceFrom
set_option maxRecDepth 20000 in
theorem ggX5_settle_X3_lackOf : GoodIn wsX5_settle wsX3_lackOf := goodIn_sub (List.forall_mem_cons.mpr ⟨pm_X5_settle_r1 _ (List.mem_of_getElem? (i := 22) rfl), List.forall_mem_append.mpr ⟨List.forall_mem_cons.mpr ⟨pm_X5_settle_r1 _ (List.mem_of_getElem? (i := 23) rfl), List.forall_mem_cons.mpr ⟨pm_X5_settle_r2 _ (List.mem_of_getElem? (i := 0) rfl), List.forall_mem_cons.mpr ⟨pm_X5_settle_r2 _ (List.mem_of_getElem? (i := 1) rfl), List.forall_mem_cons.mpr ⟨pm_X5_settle_r2 _ (List.mem_of_getElem? (i := 2) rfl), List.forall_mem_cons.mpr ⟨pm_X5_settle_r2 _ (List.mem_of_getElem? (i := 3) rfl), List.forall_mem_cons.mpr ⟨pm_X5_settle_r2 _ (List.mem_of_getElem? (i := 4) rfl), List.forall_mem_cons.mpr ⟨pm_X5_settle_r1 _ (List.mem_of_getElem? (i := 14) rfl), List.forall_mem_cons.mpr ⟨pm_X5_settle_r2 _ (List.mem_of_getElem? (i := 5) rfl), List.forall_mem_cons.mpr ⟨pm_X5_settle_r2 _ (List.mem_of_getElem? (i := 6) rfl), List.forall_mem_cons.mpr ⟨pm_X5_settle_r2 _ (List.mem_of_getElem? (i := 7) rfl), List.forall_mem_cons.mpr ⟨pm_X5_settle_r2 _ (List.mem_of_getElem? (i := 8) rfl), List.forall_mem_cons.mpr ⟨pm_X5_settle_r2 _ (List.mem_of_getElem? (i := 9) rfl), List.forall_mem_cons.mpr ⟨pm_X5_settle_r2 _ (List.mem_of_getElem? (i := 10) rfl), List.forall_mem_cons.mpr ⟨pm_X5_settle_r2 _ (List.mem_of_getElem? (i := 11) rfl), List.forall_mem_cons.mpr ⟨pm_X5_settle_r2 _ (List.mem_of_getElem? (i := 12) rfl), fun _ h => absurd h List.not_mem_nil⟩⟩⟩⟩⟩⟩⟩⟩⟩⟩⟩⟩⟩⟩⟩, pw_X5_settle_X3⟩⟩) (by decide +kernel)
set_option maxRecDepth 20000 in
theorem gX5_settle_X3_lackOf : GoodIn wsX5_settle (wsV RX5 22 RX3 yX3_lackOf wsX3_lackOf) := goodIn_app (goodIn_of _ (by decide +kernel)) ggX5_settle_X3_lackOf
set_option maxRecDepth 20000 in
theorem ggX5_settle_X5_need : GoodIn wsX5_settle wsX5_need := goodIn_sub (List.forall_mem_cons.mpr ⟨pm_X5_settle_r2 _ (List.mem_of_getElem? (i := 16) rfl), List.forall_mem_append.mpr ⟨List.forall_mem_cons.mpr ⟨pm_X5_settle_r1 _ (List.mem_of_getElem? (i := 7) rfl), List.forall_mem_cons.mpr ⟨pm_X5_settle_r1 _ (List.mem_of_getElem? (i := 6) rfl), List.forall_mem_cons.mpr ⟨pm_X5_settle_r1 _ (List.mem_of_getElem? (i := 10) rfl), List.forall_mem_cons.mpr ⟨pm_X5_settle_r1 _ (List.mem_of_getElem? (i := 9) rfl), List.forall_mem_cons.mpr ⟨pm_X5_settle_r1 _ (List.mem_of_getElem? (i := 8) rfl), fun _ h => absurd h List.not_mem_nil⟩⟩⟩⟩⟩, pw_X5_settle_X5⟩⟩) (by decide +kernel)
set_option maxRecDepth 20000 in
theorem gX5_settle_X5_need : GoodIn wsX5_settle (wsV RX5 25 RX5 yX5_need wsX5_need) := goodIn_app (goodIn_of _ (by decide +kernel)) ggX5_settle_X5_need
set_option maxRecDepth 20000 in
theorem ggX5_settle_X5_isMet : GoodIn wsX5_settle wsX5_isMet := goodIn_sub (List.forall_mem_cons.mpr ⟨pm_X5_settle_r2 _ (List.mem_of_getElem? (i := 20) rfl), List.forall_mem_append.mpr ⟨List.forall_mem_cons.mpr ⟨pm_X5_settle_r1 _ (List.mem_of_getElem? (i := 9) rfl), List.forall_mem_cons.mpr ⟨pm_X5_settle_r1 _ (List.mem_of_getElem? (i := 6) rfl), List.forall_mem_cons.mpr ⟨pm_X5_settle_r1 _ (List.mem_of_getElem? (i := 8) rfl), List.forall_mem_cons.mpr ⟨pm_X5_settle_r1 _ (List.mem_of_getElem? (i := 7) rfl), List.forall_mem_cons.mpr ⟨pm_X5_settle_r1 _ (List.mem_of_getElem? (i := 10) rfl), fun _ h => absurd h List.not_mem_nil⟩⟩⟩⟩⟩, pw_X5_settle_X5⟩⟩) (by decide +kernel)
set_option maxRecDepth 20000 in
theorem gX5_settle_X5_isMet : GoodIn wsX5_settle (wsV RX5 29 RX5 yX5_isMet wsX5_isMet) := goodIn_app (goodIn_of _ (by decide +kernel)) ggX5_settle_X5_isMet
theorem dX5_settle_0 : decode cX5_settle 0 = .ok (.aload_n 0, 1) := by decide +kernel
theorem dX5_settle_1 : decode cX5_settle 1 = .ok (.invokevirtual 7, 3) := by decide +kernel
theorem dX5_settle_4 : decode cX5_settle 4 = .ok (.aload_n 1, 1) := by decide +kernel
theorem dX5_settle_5 : decode cX5_settle 5 = .ok (.iload_n 2, 1) := by decide +kernel
theorem dX5_settle_6 : decode cX5_settle 6 = .ok (.iload_n 3, 1) := by decide +kernel
theorem dX5_settle_7 : decode cX5_settle 7 = .ok (.invokevirtual 12, 3) := by decide +kernel
theorem dX5_settle_10 : decode cX5_settle 10 = .ok (.istore 6, 2) := by decide +kernel
theorem dX5_settle_12 : decode cX5_settle 12 = .ok (.iconst 0, 1) := by decide +kernel
theorem dX5_settle_13 : decode cX5_settle 13 = .ok (.istore 7, 2) := by decide +kernel
theorem dX5_settle_15 : decode cX5_settle 15 = .ok (.iload 7, 2) := by decide +kernel
theorem dX5_settle_17 : decode cX5_settle 17 = .ok (.aload_n 1, 1) := by decide +kernel
theorem dX5_settle_18 : decode cX5_settle 18 = .ok (.getfield 18, 3) := by decide +kernel
theorem dX5_settle_21 : decode cX5_settle 21 = .ok (.if_icmp .ge 54, 3) := by decide +kernel
theorem dX5_settle_24 : decode cX5_settle 24 = .ok (.iload 6, 2) := by decide +kernel
theorem dX5_settle_26 : decode cX5_settle 26 = .ok (.iload 7, 2) := by decide +kernel
theorem dX5_settle_28 : decode cX5_settle 28 = .ok (.iload_n 2, 1) := by decide +kernel
theorem dX5_settle_29 : decode cX5_settle 29 = .ok (.if_icmp .ne 7, 3) := by decide +kernel
theorem dX5_settle_32 : decode cX5_settle 32 = .ok (.iconst 0, 1) := by decide +kernel
theorem dX5_settle_33 : decode cX5_settle 33 = .ok (.goto 10, 3) := by decide +kernel
theorem dX5_settle_36 : decode cX5_settle 36 = .ok (.aload_n 1, 1) := by decide +kernel
theorem dX5_settle_37 : decode cX5_settle 37 = .ok (.iload 7, 2) := by decide +kernel
theorem dX5_settle_39 : decode cX5_settle 39 = .ok (.iload_n 3, 1) := by decide +kernel
theorem dX5_settle_40 : decode cX5_settle 40 = .ok (.invokevirtual 12, 3) := by decide +kernel
theorem dX5_settle_43 : decode cX5_settle 43 = .ok (.isub, 1) := by decide +kernel
theorem dX5_settle_44 : decode cX5_settle 44 = .ok (.istore 8, 2) := by decide +kernel
theorem dX5_settle_46 : decode cX5_settle 46 = .ok (.aload_n 0, 1) := by decide +kernel
theorem dX5_settle_47 : decode cX5_settle 47 = .ok (.iload 8, 2) := by decide +kernel
theorem dX5_settle_49 : decode cX5_settle 49 = .ok (.i2l, 1) := by decide +kernel
theorem dX5_settle_50 : decode cX5_settle 50 = .ok (.iload 4, 2) := by decide +kernel
theorem dX5_settle_52 : decode cX5_settle 52 = .ok (.i2l, 1) := by decide +kernel
theorem dX5_settle_53 : decode cX5_settle 53 = .ok (.lmul, 1) := by decide +kernel
theorem dX5_settle_54 : decode cX5_settle 54 = .ok (.iload 5, 2) := by decide +kernel
theorem dX5_settle_56 : decode cX5_settle 56 = .ok (.i2l, 1) := by decide +kernel
theorem dX5_settle_57 : decode cX5_settle 57 = .ok (.aload_n 1, 1) := by decide +kernel
theorem dX5_settle_58 : decode cX5_settle 58 = .ok (.iload_n 2, 1) := by decide +kernel
theorem dX5_settle_59 : decode cX5_settle 59 = .ok (.iload 7, 2) := by decide +kernel
theorem dX5_settle_61 : decode cX5_settle 61 = .ok (.invokevirtual 22, 3) := by decide +kernel
theorem dX5_settle_64 : decode cX5_settle 64 = .ok (.i2l, 1) := by decide +kernel
theorem dX5_settle_65 : decode cX5_settle 65 = .ok (.lmul, 1) := by decide +kernel
theorem dX5_settle_66 : decode cX5_settle 66 = .ok (.invokevirtual 25, 3) := by decide +kernel
theorem dX5_settle_69 : decode cX5_settle 69 = .ok (.iinc 7 1, 3) := by decide +kernel
theorem dX5_settle_72 : decode cX5_settle 72 = .ok (.goto (-57), 3) := by decide +kernel
theorem dX5_settle_75 : decode cX5_settle 75 = .ok (.aload_n 0, 1) := by decide +kernel
theorem dX5_settle_76 : decode cX5_settle 76 = .ok (.invokevirtual 29, 3) := by decide +kernel
theorem dX5_settle_79 : decode cX5_settle 79 = .ok (.ireturn, 1) := by decide +kernel
theorem pm_X5_settleWatched_r1 : ∀ w ∈ wsX5_settleWatched_r1, w ∈ wsX5_settleWatched := fun _ h => List.mem_cons_of_mem _ (List.mem_append_left _ (List.mem_append_left _ (List.mem_append_left _ h)))
theorem pm_X5_settleWatched_r2 : ∀ w ∈ wsX5_settleWatched_r2, w ∈ wsX5_settleWatched := fun _ h => List.mem_cons_of_mem _ (List.mem_append_left _ (List.mem_append_left _ (List.mem_append_right _ (h))))
theorem pw_X5_settleWatched_X3 : ∀ w ∈ wsX30, w ∈ wsX5_settleWatched := fun _ h => List.mem_cons_of_mem _ (List.mem_append_left _ (List.mem_append_right _ h))
theorem pw_X5_settleWatched_X5 : ∀ w ∈ wsX50, w ∈ wsX5_settleWatched := fun _ h => List.mem_cons_of_mem _ (List.mem_append_right _ h)
set_option maxRecDepth 20000 in
theorem ggX5_settleWatched_X5_start : GoodIn wsX5_settleWatched wsX5_start := goodIn_sub (List.forall_mem_cons.mpr ⟨pm_X5_settleWatched_r1 _ (List.mem_of_getElem? (i := 6) rfl), List.forall_mem_append.mpr ⟨List.forall_mem_cons.mpr ⟨pm_X5_settleWatched_r1 _ (List.mem_of_getElem? (i := 7) rfl), List.forall_mem_cons.mpr ⟨pm_X5_settleWatched_r1 _ (List.mem_of_getElem? (i := 8) rfl), List.forall_mem_cons.mpr ⟨pm_X5_settleWatched_r1 _ (List.mem_of_getElem? (i := 9) rfl), List.forall_mem_cons.mpr ⟨pm_X5_settleWatched_r1 _ (List.mem_of_getElem? (i := 10) rfl), List.forall_mem_cons.mpr ⟨pm_X5_settleWatched_r1 _ (List.mem_of_getElem? (i := 11) rfl), fun _ h => absurd h List.not_mem_nil⟩⟩⟩⟩⟩, pw_X5_settleWatched_X5⟩⟩) (by decide +kernel)
set_option maxRecDepth 20000 in
theorem gX5_settleWatched_X5_start : GoodIn wsX5_settleWatched (wsV RX5 7 RX5 yX5_start wsX5_start) := goodIn_app (goodIn_of _ (by decide +kernel)) ggX5_settleWatched_X5_start
set_option maxRecDepth 20000 in
theorem ggX5_settleWatched_X3_lackOf : GoodIn wsX5_settleWatched wsX3_lackOf := goodIn_sub (List.forall_mem_cons.mpr ⟨pm_X5_settleWatched_r1 _ (List.mem_of_getElem? (i := 16) rfl), List.forall_mem_append.mpr ⟨List.forall_mem_cons.mpr ⟨pm_X5_settleWatched_r1 _ (List.mem_of_getElem? (i := 17) rfl), List.forall_mem_cons.mpr ⟨pm_X5_settleWatched_r1 _ (List.mem_of_getElem? (i := 18) rfl), List.forall_mem_cons.mpr ⟨pm_X5_settleWatched_r1 _ (List.mem_of_getElem? (i := 19) rfl), List.forall_mem_cons.mpr ⟨pm_X5_settleWatched_r1 _ (List.mem_of_getElem? (i := 20) rfl), List.forall_mem_cons.mpr ⟨pm_X5_settleWatched_r1 _ (List.mem_of_getElem? (i := 21) rfl), List.forall_mem_cons.mpr ⟨pm_X5_settleWatched_r1 _ (List.mem_of_getElem? (i := 22) rfl), List.forall_mem_cons.mpr ⟨pm_X5_settleWatched_r1 _ (List.mem_of_getElem? (i := 15) rfl), List.forall_mem_cons.mpr ⟨pm_X5_settleWatched_r1 _ (List.mem_of_getElem? (i := 23) rfl), List.forall_mem_cons.mpr ⟨pm_X5_settleWatched_r2 _ (List.mem_of_getElem? (i := 0) rfl), List.forall_mem_cons.mpr ⟨pm_X5_settleWatched_r2 _ (List.mem_of_getElem? (i := 1) rfl), List.forall_mem_cons.mpr ⟨pm_X5_settleWatched_r2 _ (List.mem_of_getElem? (i := 2) rfl), List.forall_mem_cons.mpr ⟨pm_X5_settleWatched_r2 _ (List.mem_of_getElem? (i := 3) rfl), List.forall_mem_cons.mpr ⟨pm_X5_settleWatched_r2 _ (List.mem_of_getElem? (i := 4) rfl), List.forall_mem_cons.mpr ⟨pm_X5_settleWatched_r2 _ (List.mem_of_getElem? (i := 5) rfl), List.forall_mem_cons.mpr ⟨pm_X5_settleWatched_r2 _ (List.mem_of_getElem? (i := 6) rfl), fun _ h => absurd h List.not_mem_nil⟩⟩⟩⟩⟩⟩⟩⟩⟩⟩⟩⟩⟩⟩⟩, pw_X5_settleWatched_X3⟩⟩) (by decide +kernel)
set_option maxRecDepth 20000 in
theorem gX5_settleWatched_X3_lackOf : GoodIn wsX5_settleWatched (wsV RX5 22 RX3 yX3_lackOf wsX3_lackOf) := goodIn_app (goodIn_of _ (by decide +kernel)) ggX5_settleWatched_X3_lackOf
set_option maxRecDepth 20000 in
theorem ggX5_settleWatched_X5_need : GoodIn wsX5_settleWatched wsX5_need := goodIn_sub (List.forall_mem_cons.mpr ⟨pm_X5_settleWatched_r2 _ (List.mem_of_getElem? (i := 10) rfl), List.forall_mem_append.mpr ⟨List.forall_mem_cons.mpr ⟨pm_X5_settleWatched_r1 _ (List.mem_of_getElem? (i := 8) rfl), List.forall_mem_cons.mpr ⟨pm_X5_settleWatched_r1 _ (List.mem_of_getElem? (i := 7) rfl), List.forall_mem_cons.mpr ⟨pm_X5_settleWatched_r1 _ (List.mem_of_getElem? (i := 11) rfl), List.forall_mem_cons.mpr ⟨pm_X5_settleWatched_r1 _ (List.mem_of_getElem? (i := 10) rfl), List.forall_mem_cons.mpr ⟨pm_X5_settleWatched_r1 _ (List.mem_of_getElem? (i := 9) rfl), fun _ h => absurd h List.not_mem_nil⟩⟩⟩⟩⟩, pw_X5_settleWatched_X5⟩⟩) (by decide +kernel)
set_option maxRecDepth 20000 in
theorem gX5_settleWatched_X5_need : GoodIn wsX5_settleWatched (wsV RX5 25 RX5 yX5_need wsX5_need) := goodIn_app (goodIn_of _ (by decide +kernel)) ggX5_settleWatched_X5_need
set_option maxRecDepth 20000 in
theorem ggX5_settleWatched_X5_isMet : GoodIn wsX5_settleWatched wsX5_isMet := goodIn_sub (List.forall_mem_cons.mpr ⟨pm_X5_settleWatched_r2 _ (List.mem_of_getElem? (i := 14) rfl), List.forall_mem_append.mpr ⟨List.forall_mem_cons.mpr ⟨pm_X5_settleWatched_r1 _ (List.mem_of_getElem? (i := 10) rfl), List.forall_mem_cons.mpr ⟨pm_X5_settleWatched_r1 _ (List.mem_of_getElem? (i := 7) rfl), List.forall_mem_cons.mpr ⟨pm_X5_settleWatched_r1 _ (List.mem_of_getElem? (i := 9) rfl), List.forall_mem_cons.mpr ⟨pm_X5_settleWatched_r1 _ (List.mem_of_getElem? (i := 8) rfl), List.forall_mem_cons.mpr ⟨pm_X5_settleWatched_r1 _ (List.mem_of_getElem? (i := 11) rfl), fun _ h => absurd h List.not_mem_nil⟩⟩⟩⟩⟩, pw_X5_settleWatched_X5⟩⟩) (by decide +kernel)
set_option maxRecDepth 20000 in
theorem gX5_settleWatched_X5_isMet : GoodIn wsX5_settleWatched (wsV RX5 29 RX5 yX5_isMet wsX5_isMet) := goodIn_app (goodIn_of _ (by decide +kernel)) ggX5_settleWatched_X5_isMet
theorem dX5_settleWatched_0 : decode cX5_settleWatched 0 = .ok (.aload_n 0, 1) := by decide +kernel
theorem dX5_settleWatched_1 : decode cX5_settleWatched 1 = .ok (.invokevirtual 7, 3) := by decide +kernel
theorem dX5_settleWatched_4 : decode cX5_settleWatched 4 = .ok (.iconst 0, 1) := by decide +kernel
theorem dX5_settleWatched_5 : decode cX5_settleWatched 5 = .ok (.istore 4, 2) := by decide +kernel
theorem dX5_settleWatched_7 : decode cX5_settleWatched 7 = .ok (.iload 4, 2) := by decide +kernel
theorem dX5_settleWatched_9 : decode cX5_settleWatched 9 = .ok (.aload_n 1, 1) := by decide +kernel
theorem dX5_settleWatched_10 : decode cX5_settleWatched 10 = .ok (.getfield 18, 3) := by decide +kernel
theorem dX5_settleWatched_13 : decode cX5_settleWatched 13 = .ok (.if_icmp .ge 43, 3) := by decide +kernel
theorem dX5_settleWatched_16 : decode cX5_settleWatched 16 = .ok (.aload_n 0, 1) := by decide +kernel
theorem dX5_settleWatched_17 : decode cX5_settleWatched 17 = .ok (.iload 4, 2) := by decide +kernel
theorem dX5_settleWatched_19 : decode cX5_settleWatched 19 = .ok (.iload_n 2, 1) := by decide +kernel
theorem dX5_settleWatched_20 : decode cX5_settleWatched 20 = .ok (.if_icmp .ne 11, 3) := by decide +kernel
theorem dX5_settleWatched_23 : decode cX5_settleWatched 23 = .ok (.aload_n 1, 1) := by decide +kernel
theorem dX5_settleWatched_24 : decode cX5_settleWatched 24 = .ok (.getfield 33, 3) := by decide +kernel
theorem dX5_settleWatched_27 : decode cX5_settleWatched 27 = .ok (.i2l, 1) := by decide +kernel
theorem dX5_settleWatched_28 : decode cX5_settleWatched 28 = .ok (.goto 5, 3) := by decide +kernel
theorem dX5_settleWatched_31 : decode cX5_settleWatched 31 = .ok (.iload_n 3, 1) := by decide +kernel
theorem dX5_settleWatched_32 : decode cX5_settleWatched 32 = .ok (.i2l, 1) := by decide +kernel
theorem dX5_settleWatched_33 : decode cX5_settleWatched 33 = .ok (.aload_n 1, 1) := by decide +kernel
theorem dX5_settleWatched_34 : decode cX5_settleWatched 34 = .ok (.getfield 33, 3) := by decide +kernel
theorem dX5_settleWatched_37 : decode cX5_settleWatched 37 = .ok (.i2l, 1) := by decide +kernel
theorem dX5_settleWatched_38 : decode cX5_settleWatched 38 = .ok (.aload_n 1, 1) := by decide +kernel
theorem dX5_settleWatched_39 : decode cX5_settleWatched 39 = .ok (.iload_n 2, 1) := by decide +kernel
theorem dX5_settleWatched_40 : decode cX5_settleWatched 40 = .ok (.iload 4, 2) := by decide +kernel
theorem dX5_settleWatched_42 : decode cX5_settleWatched 42 = .ok (.invokevirtual 22, 3) := by decide +kernel
theorem dX5_settleWatched_45 : decode cX5_settleWatched 45 = .ok (.i2l, 1) := by decide +kernel
theorem dX5_settleWatched_46 : decode cX5_settleWatched 46 = .ok (.lmul, 1) := by decide +kernel
theorem dX5_settleWatched_47 : decode cX5_settleWatched 47 = .ok (.invokevirtual 25, 3) := by decide +kernel
theorem dX5_settleWatched_50 : decode cX5_settleWatched 50 = .ok (.iinc 4 1, 3) := by decide +kernel
theorem dX5_settleWatched_53 : decode cX5_settleWatched 53 = .ok (.goto (-46), 3) := by decide +kernel
theorem dX5_settleWatched_56 : decode cX5_settleWatched 56 = .ok (.aload_n 0, 1) := by decide +kernel
theorem dX5_settleWatched_57 : decode cX5_settleWatched 57 = .ok (.invokevirtual 29, 3) := by decide +kernel
theorem dX5_settleWatched_60 : decode cX5_settleWatched 60 = .ok (.ireturn, 1) := by decide +kernel
theorem pm_X5_meanInto_r1 : ∀ w ∈ wsX5_meanInto_r1, w ∈ wsX5_meanInto := fun _ h => List.mem_cons_of_mem _ (List.mem_append_left _ (List.mem_append_left _ (List.mem_append_left _ (List.mem_append_left _ h))))
theorem pm_X5_meanInto_r2 : ∀ w ∈ wsX5_meanInto_r2, w ∈ wsX5_meanInto := fun _ h => List.mem_cons_of_mem _ (List.mem_append_left _ (List.mem_append_left _ (List.mem_append_left _ (List.mem_append_right _ (h)))))
theorem pw_X5_meanInto_X3 : ∀ w ∈ wsX30, w ∈ wsX5_meanInto := fun _ h => List.mem_cons_of_mem _ (List.mem_append_left _ (List.mem_append_left _ (List.mem_append_right _ h)))
theorem pw_X5_meanInto_X5 : ∀ w ∈ wsX50, w ∈ wsX5_meanInto := fun _ h => List.mem_cons_of_mem _ (List.mem_append_left _ (List.mem_append_right _ h))
theorem pw_X5_meanInto_X2 : ∀ w ∈ wsX20, w ∈ wsX5_meanInto := fun _ h => List.mem_cons_of_mem _ (List.mem_append_right _ h)
set_option maxRecDepth 20000 in
theorem ggX5_meanInto_X3_feltOf : GoodIn wsX5_meanInto wsX3_feltOf := goodIn_sub (List.forall_mem_cons.mpr ⟨pm_X5_meanInto_r1 _ (List.mem_of_getElem? (i := 9) rfl), List.forall_mem_append.mpr ⟨List.forall_mem_cons.mpr ⟨pm_X5_meanInto_r1 _ (List.mem_of_getElem? (i := 10) rfl), List.forall_mem_cons.mpr ⟨pm_X5_meanInto_r1 _ (List.mem_of_getElem? (i := 11) rfl), List.forall_mem_cons.mpr ⟨pm_X5_meanInto_r1 _ (List.mem_of_getElem? (i := 12) rfl), List.forall_mem_cons.mpr ⟨pm_X5_meanInto_r1 _ (List.mem_of_getElem? (i := 13) rfl), List.forall_mem_cons.mpr ⟨pm_X5_meanInto_r1 _ (List.mem_of_getElem? (i := 14) rfl), List.forall_mem_cons.mpr ⟨pm_X5_meanInto_r1 _ (List.mem_of_getElem? (i := 15) rfl), List.forall_mem_cons.mpr ⟨pm_X5_meanInto_r1 _ (List.mem_of_getElem? (i := 16) rfl), fun _ h => absurd h List.not_mem_nil⟩⟩⟩⟩⟩⟩⟩, pw_X5_meanInto_X3⟩⟩) (by decide +kernel)
set_option maxRecDepth 20000 in
theorem gX5_meanInto_X3_feltOf : GoodIn wsX5_meanInto (wsV RX5 39 RX3 yX3_feltOf wsX3_feltOf) := goodIn_app (goodIn_of _ (by decide +kernel)) ggX5_meanInto_X3_feltOf
set_option maxRecDepth 20000 in
theorem ggX5_meanInto_X3_wageOf : GoodIn wsX5_meanInto wsX3_wageOf := goodIn_sub (List.forall_mem_cons.mpr ⟨pm_X5_meanInto_r1 _ (List.mem_of_getElem? (i := 20) rfl), List.forall_mem_append.mpr ⟨List.forall_mem_append.mpr ⟨List.forall_mem_cons.mpr ⟨pm_X5_meanInto_r1 _ (List.mem_of_getElem? (i := 10) rfl), List.forall_mem_cons.mpr ⟨pm_X5_meanInto_r1 _ (List.mem_of_getElem? (i := 16) rfl), List.forall_mem_cons.mpr ⟨pm_X5_meanInto_r1 _ (List.mem_of_getElem? (i := 11) rfl), List.forall_mem_cons.mpr ⟨pm_X5_meanInto_r1 _ (List.mem_of_getElem? (i := 21) rfl), List.forall_mem_cons.mpr ⟨pm_X5_meanInto_r1 _ (List.mem_of_getElem? (i := 22) rfl), List.forall_mem_cons.mpr ⟨pm_X5_meanInto_r1 _ (List.mem_of_getElem? (i := 23) rfl), List.forall_mem_cons.mpr ⟨pm_X5_meanInto_r2 _ (List.mem_of_getElem? (i := 0) rfl), List.forall_mem_cons.mpr ⟨pm_X5_meanInto_r2 _ (List.mem_of_getElem? (i := 1) rfl), List.forall_mem_cons.mpr ⟨pm_X5_meanInto_r2 _ (List.mem_of_getElem? (i := 2) rfl), List.forall_mem_cons.mpr ⟨pm_X5_meanInto_r2 _ (List.mem_of_getElem? (i := 3) rfl), List.forall_mem_cons.mpr ⟨pm_X5_meanInto_r1 _ (List.mem_of_getElem? (i := 14) rfl), List.forall_mem_cons.mpr ⟨pm_X5_meanInto_r2 _ (List.mem_of_getElem? (i := 4) rfl), List.forall_mem_cons.mpr ⟨pm_X5_meanInto_r2 _ (List.mem_of_getElem? (i := 5) rfl), List.forall_mem_cons.mpr ⟨pm_X5_meanInto_r2 _ (List.mem_of_getElem? (i := 6) rfl), List.forall_mem_cons.mpr ⟨pm_X5_meanInto_r2 _ (List.mem_of_getElem? (i := 7) rfl), List.forall_mem_cons.mpr ⟨pm_X5_meanInto_r2 _ (List.mem_of_getElem? (i := 8) rfl), List.forall_mem_cons.mpr ⟨pm_X5_meanInto_r2 _ (List.mem_of_getElem? (i := 9) rfl), List.forall_mem_cons.mpr ⟨pm_X5_meanInto_r2 _ (List.mem_of_getElem? (i := 10) rfl), List.forall_mem_cons.mpr ⟨pm_X5_meanInto_r2 _ (List.mem_of_getElem? (i := 11) rfl), List.forall_mem_cons.mpr ⟨pm_X5_meanInto_r2 _ (List.mem_of_getElem? (i := 12) rfl), List.forall_mem_cons.mpr ⟨pm_X5_meanInto_r2 _ (List.mem_of_getElem? (i := 13) rfl), List.forall_mem_cons.mpr ⟨pm_X5_meanInto_r2 _ (List.mem_of_getElem? (i := 14) rfl), fun _ h => absurd h List.not_mem_nil⟩⟩⟩⟩⟩⟩⟩⟩⟩⟩⟩⟩⟩⟩⟩⟩⟩⟩⟩⟩⟩⟩, pw_X5_meanInto_X3⟩, pw_X5_meanInto_X2⟩⟩) (by decide +kernel)
set_option maxRecDepth 20000 in
theorem gX5_meanInto_X3_wageOf : GoodIn wsX5_meanInto (wsV RX5 50 RX3 yX3_wageOf wsX3_wageOf) := goodIn_app (goodIn_of _ (by decide +kernel)) ggX5_meanInto_X3_wageOf
set_option maxRecDepth 20000 in
theorem ggX5_meanInto_X2_become : GoodIn wsX5_meanInto wsX2_become := goodIn_sub (List.forall_mem_cons.mpr ⟨pm_X5_meanInto_r2 _ (List.mem_of_getElem? (i := 1) rfl), List.forall_mem_append.mpr ⟨List.forall_mem_cons.mpr ⟨pm_X5_meanInto_r2 _ (List.mem_of_getElem? (i := 2) rfl), List.forall_mem_cons.mpr ⟨pm_X5_meanInto_r2 _ (List.mem_of_getElem? (i := 3) rfl), List.forall_mem_cons.mpr ⟨pm_X5_meanInto_r1 _ (List.mem_of_getElem? (i := 14) rfl), List.forall_mem_cons.mpr ⟨pm_X5_meanInto_r2 _ (List.mem_of_getElem? (i := 4) rfl), List.forall_mem_cons.mpr ⟨pm_X5_meanInto_r2 _ (List.mem_of_getElem? (i := 5) rfl), List.forall_mem_cons.mpr ⟨pm_X5_meanInto_r2 _ (List.mem_of_getElem? (i := 6) rfl), List.forall_mem_cons.mpr ⟨pm_X5_meanInto_r2 _ (List.mem_of_getElem? (i := 7) rfl), List.forall_mem_cons.mpr ⟨pm_X5_meanInto_r2 _ (List.mem_of_getElem? (i := 8) rfl), List.forall_mem_cons.mpr ⟨pm_X5_meanInto_r2 _ (List.mem_of_getElem? (i := 0) rfl), List.forall_mem_cons.mpr ⟨pm_X5_meanInto_r2 _ (List.mem_of_getElem? (i := 9) rfl), List.forall_mem_cons.mpr ⟨pm_X5_meanInto_r2 _ (List.mem_of_getElem? (i := 10) rfl), List.forall_mem_cons.mpr ⟨pm_X5_meanInto_r2 _ (List.mem_of_getElem? (i := 11) rfl), List.forall_mem_cons.mpr ⟨pm_X5_meanInto_r2 _ (List.mem_of_getElem? (i := 12) rfl), List.forall_mem_cons.mpr ⟨pm_X5_meanInto_r2 _ (List.mem_of_getElem? (i := 13) rfl), List.forall_mem_cons.mpr ⟨pm_X5_meanInto_r2 _ (List.mem_of_getElem? (i := 14) rfl), fun _ h => absurd h List.not_mem_nil⟩⟩⟩⟩⟩⟩⟩⟩⟩⟩⟩⟩⟩⟩⟩, pw_X5_meanInto_X2⟩⟩) (by decide +kernel)
set_option maxRecDepth 20000 in
theorem gX5_meanInto_X2_become : GoodIn wsX5_meanInto (wsV RX5 62 RX2 yX2_become wsX2_become) := goodIn_app (goodIn_of _ (by decide +kernel)) ggX5_meanInto_X2_become
theorem dX5_meanInto_0 : decode cX5_meanInto 0 = .ok (.aload_n 2, 1) := by decide +kernel
theorem dX5_meanInto_1 : decode cX5_meanInto 1 = .ok (.aload_n 2, 1) := by decide +kernel
theorem dX5_meanInto_2 : decode cX5_meanInto 2 = .ok (.getfield 36, 3) := by decide +kernel
theorem dX5_meanInto_5 : decode cX5_meanInto 5 = .ok (.invokevirtual 39, 3) := by decide +kernel
theorem dX5_meanInto_8 : decode cX5_meanInto 8 = .ok (.i2l, 1) := by decide +kernel
theorem dX5_meanInto_9 : decode cX5_meanInto 9 = .ok (.lstore 5, 2) := by decide +kernel
theorem dX5_meanInto_11 : decode cX5_meanInto 11 = .ok (.aload_n 2, 1) := by decide +kernel
theorem dX5_meanInto_12 : decode cX5_meanInto 12 = .ok (.lload 5, 2) := by decide +kernel
theorem dX5_meanInto_14 : decode cX5_meanInto 14 = .ok (.aload_n 0, 1) := by decide +kernel
theorem dX5_meanInto_15 : decode cX5_meanInto 15 = .ok (.getfield 43, 3) := by decide +kernel
theorem dX5_meanInto_18 : decode cX5_meanInto 18 = .ok (.lmul, 1) := by decide +kernel
theorem dX5_meanInto_19 : decode cX5_meanInto 19 = .ok (.aload_n 0, 1) := by decide +kernel
theorem dX5_meanInto_20 : decode cX5_meanInto 20 = .ok (.getfield 47, 3) := by decide +kernel
theorem dX5_meanInto_23 : decode cX5_meanInto 23 = .ok (.ladd, 1) := by decide +kernel
theorem dX5_meanInto_24 : decode cX5_meanInto 24 = .ok (.aload_n 0, 1) := by decide +kernel
theorem dX5_meanInto_25 : decode cX5_meanInto 25 = .ok (.getfield 43, 3) := by decide +kernel
theorem dX5_meanInto_28 : decode cX5_meanInto 28 = .ok (.aload_n 1, 1) := by decide +kernel
theorem dX5_meanInto_29 : decode cX5_meanInto 29 = .ok (.invokevirtual 50, 3) := by decide +kernel
theorem dX5_meanInto_32 : decode cX5_meanInto 32 = .ok (.iload_n 3, 1) := by decide +kernel
theorem dX5_meanInto_33 : decode cX5_meanInto 33 = .ok (.i2l, 1) := by decide +kernel
theorem dX5_meanInto_34 : decode cX5_meanInto 34 = .ok (.aload_n 1, 1) := by decide +kernel
theorem dX5_meanInto_35 : decode cX5_meanInto 35 = .ok (.getfield 54, 3) := by decide +kernel
theorem dX5_meanInto_38 : decode cX5_meanInto 38 = .ok (.lmul, 1) := by decide +kernel
theorem dX5_meanInto_39 : decode cX5_meanInto 39 = .ok (.iload 4, 2) := by decide +kernel
theorem dX5_meanInto_41 : decode cX5_meanInto 41 = .ok (.iload_n 3, 1) := by decide +kernel
theorem dX5_meanInto_42 : decode cX5_meanInto 42 = .ok (.isub, 1) := by decide +kernel
theorem dX5_meanInto_43 : decode cX5_meanInto 43 = .ok (.i2l, 1) := by decide +kernel
theorem dX5_meanInto_44 : decode cX5_meanInto 44 = .ok (.aload_n 2, 1) := by decide +kernel
theorem dX5_meanInto_45 : decode cX5_meanInto 45 = .ok (.getfield 36, 3) := by decide +kernel
theorem dX5_meanInto_48 : decode cX5_meanInto 48 = .ok (.i2l, 1) := by decide +kernel
theorem dX5_meanInto_49 : decode cX5_meanInto 49 = .ok (.lmul, 1) := by decide +kernel
theorem dX5_meanInto_50 : decode cX5_meanInto 50 = .ok (.aload_n 1, 1) := by decide +kernel
theorem dX5_meanInto_51 : decode cX5_meanInto 51 = .ok (.getfield 59, 3) := by decide +kernel
theorem dX5_meanInto_54 : decode cX5_meanInto 54 = .ok (.lmul, 1) := by decide +kernel
theorem dX5_meanInto_55 : decode cX5_meanInto 55 = .ok (.ladd, 1) := by decide +kernel
theorem dX5_meanInto_56 : decode cX5_meanInto 56 = .ok (.lstore 7, 2) := by decide +kernel
theorem dX5_meanInto_58 : decode cX5_meanInto 58 = .ok (.aload_n 1, 1) := by decide +kernel
theorem dX5_meanInto_59 : decode cX5_meanInto 59 = .ok (.lload 7, 2) := by decide +kernel
theorem dX5_meanInto_61 : decode cX5_meanInto 61 = .ok (.iload 4, 2) := by decide +kernel
theorem dX5_meanInto_63 : decode cX5_meanInto 63 = .ok (.i2l, 1) := by decide +kernel
theorem dX5_meanInto_64 : decode cX5_meanInto 64 = .ok (.aload_n 1, 1) := by decide +kernel
theorem dX5_meanInto_65 : decode cX5_meanInto 65 = .ok (.getfield 59, 3) := by decide +kernel
theorem dX5_meanInto_68 : decode cX5_meanInto 68 = .ok (.lmul, 1) := by decide +kernel
theorem dX5_meanInto_69 : decode cX5_meanInto 69 = .ok (.invokevirtual 62, 3) := by decide +kernel
theorem dX5_meanInto_72 : decode cX5_meanInto 72 = .ok (.return_, 1) := by decide +kernel
theorem dX5_need_0 : decode cX5_need 0 = .ok (.lload_n 1, 1) := by decide +kernel
theorem dX5_need_1 : decode cX5_need 1 = .ok (.lconst 0, 1) := by decide +kernel
theorem dX5_need_2 : decode cX5_need 2 = .ok (.lcmp, 1) := by decide +kernel
theorem dX5_need_3 : decode cX5_need 3 = .ok (.ifCond .le 29, 3) := by decide +kernel
theorem dX5_need_6 : decode cX5_need 6 = .ok (.lload_n 3, 1) := by decide +kernel
theorem dX5_need_7 : decode cX5_need 7 = .ok (.aload_n 0, 1) := by decide +kernel
theorem dX5_need_8 : decode cX5_need 8 = .ok (.getfield 43, 3) := by decide +kernel
theorem dX5_need_11 : decode cX5_need 11 = .ok (.lmul, 1) := by decide +kernel
theorem dX5_need_12 : decode cX5_need 12 = .ok (.aload_n 0, 1) := by decide +kernel
theorem dX5_need_13 : decode cX5_need 13 = .ok (.getfield 47, 3) := by decide +kernel
theorem dX5_need_16 : decode cX5_need 16 = .ok (.lload_n 1, 1) := by decide +kernel
theorem dX5_need_17 : decode cX5_need 17 = .ok (.lmul, 1) := by decide +kernel
theorem dX5_need_18 : decode cX5_need 18 = .ok (.lcmp, 1) := by decide +kernel
theorem dX5_need_19 : decode cX5_need 19 = .ok (.ifCond .le 13, 3) := by decide +kernel
theorem dX5_need_22 : decode cX5_need 22 = .ok (.aload_n 0, 1) := by decide +kernel
theorem dX5_need_23 : decode cX5_need 23 = .ok (.lload_n 3, 1) := by decide +kernel
theorem dX5_need_24 : decode cX5_need 24 = .ok (.putfield 47, 3) := by decide +kernel
theorem dX5_need_27 : decode cX5_need 27 = .ok (.aload_n 0, 1) := by decide +kernel
theorem dX5_need_28 : decode cX5_need 28 = .ok (.lload_n 1, 1) := by decide +kernel
theorem dX5_need_29 : decode cX5_need 29 = .ok (.putfield 43, 3) := by decide +kernel
theorem dX5_need_32 : decode cX5_need 32 = .ok (.lload_n 1, 1) := by decide +kernel
theorem dX5_need_33 : decode cX5_need 33 = .ok (.lconst 0, 1) := by decide +kernel
theorem dX5_need_34 : decode cX5_need 34 = .ok (.lcmp, 1) := by decide +kernel
theorem dX5_need_35 : decode cX5_need 35 = .ok (.ifCond .ne 14, 3) := by decide +kernel
theorem dX5_need_38 : decode cX5_need 38 = .ok (.lload_n 3, 1) := by decide +kernel
theorem dX5_need_39 : decode cX5_need 39 = .ok (.lconst 0, 1) := by decide +kernel
theorem dX5_need_40 : decode cX5_need 40 = .ok (.lcmp, 1) := by decide +kernel
theorem dX5_need_41 : decode cX5_need 41 = .ok (.ifCond .le 8, 3) := by decide +kernel
theorem dX5_need_44 : decode cX5_need 44 = .ok (.aload_n 0, 1) := by decide +kernel
theorem dX5_need_45 : decode cX5_need 45 = .ok (.iconst 1, 1) := by decide +kernel
theorem dX5_need_46 : decode cX5_need 46 = .ok (.putfield 71, 3) := by decide +kernel
theorem dX5_need_49 : decode cX5_need 49 = .ok (.lload_n 1, 1) := by decide +kernel
theorem dX5_need_50 : decode cX5_need 50 = .ok (.lconst 0, 1) := by decide +kernel
theorem dX5_need_51 : decode cX5_need 51 = .ok (.lcmp, 1) := by decide +kernel
theorem dX5_need_52 : decode cX5_need 52 = .ok (.ifCond .ge 40, 3) := by decide +kernel
theorem dX5_need_55 : decode cX5_need 55 = .ok (.aload_n 0, 1) := by decide +kernel
theorem dX5_need_56 : decode cX5_need 56 = .ok (.getfield 68, 3) := by decide +kernel
theorem dX5_need_59 : decode cX5_need 59 = .ok (.lconst 0, 1) := by decide +kernel
theorem dX5_need_60 : decode cX5_need 60 = .ok (.lcmp, 1) := by decide +kernel
theorem dX5_need_61 : decode cX5_need 61 = .ok (.ifCond .eq 19, 3) := by decide +kernel
theorem dX5_need_64 : decode cX5_need 64 = .ok (.lload_n 3, 1) := by decide +kernel
theorem dX5_need_65 : decode cX5_need 65 = .ok (.aload_n 0, 1) := by decide +kernel
theorem dX5_need_66 : decode cX5_need 66 = .ok (.getfield 68, 3) := by decide +kernel
theorem dX5_need_69 : decode cX5_need 69 = .ok (.lmul, 1) := by decide +kernel
theorem dX5_need_70 : decode cX5_need 70 = .ok (.aload_n 0, 1) := by decide +kernel
theorem dX5_need_71 : decode cX5_need 71 = .ok (.getfield 65, 3) := by decide +kernel
theorem dX5_need_74 : decode cX5_need 74 = .ok (.lload_n 1, 1) := by decide +kernel
theorem dX5_need_75 : decode cX5_need 75 = .ok (.lmul, 1) := by decide +kernel
theorem dX5_need_76 : decode cX5_need 76 = .ok (.lcmp, 1) := by decide +kernel
theorem dX5_need_77 : decode cX5_need 77 = .ok (.ifCond .le 15, 3) := by decide +kernel
theorem dX5_need_80 : decode cX5_need 80 = .ok (.aload_n 0, 1) := by decide +kernel
theorem dX5_need_81 : decode cX5_need 81 = .ok (.lload_n 3, 1) := by decide +kernel
theorem dX5_need_82 : decode cX5_need 82 = .ok (.lneg, 1) := by decide +kernel
theorem dX5_need_83 : decode cX5_need 83 = .ok (.putfield 65, 3) := by decide +kernel
theorem dX5_need_86 : decode cX5_need 86 = .ok (.aload_n 0, 1) := by decide +kernel
theorem dX5_need_87 : decode cX5_need 87 = .ok (.lload_n 1, 1) := by decide +kernel
theorem dX5_need_88 : decode cX5_need 88 = .ok (.lneg, 1) := by decide +kernel
theorem dX5_need_89 : decode cX5_need 89 = .ok (.putfield 68, 3) := by decide +kernel
theorem dX5_need_92 : decode cX5_need 92 = .ok (.return_, 1) := by decide +kernel
theorem dX5_isMet_0 : decode cX5_isMet 0 = .ok (.aload_n 0, 1) := by decide +kernel
theorem dX5_isMet_1 : decode cX5_isMet 1 = .ok (.getfield 68, 3) := by decide +kernel
theorem dX5_isMet_4 : decode cX5_isMet 4 = .ok (.lconst 0, 1) := by decide +kernel
theorem dX5_isMet_5 : decode cX5_isMet 5 = .ok (.lcmp, 1) := by decide +kernel
theorem dX5_isMet_6 : decode cX5_isMet 6 = .ok (.ifCond .eq 25, 3) := by decide +kernel
theorem dX5_isMet_9 : decode cX5_isMet 9 = .ok (.aload_n 0, 1) := by decide +kernel
theorem dX5_isMet_10 : decode cX5_isMet 10 = .ok (.getfield 47, 3) := by decide +kernel
theorem dX5_isMet_13 : decode cX5_isMet 13 = .ok (.aload_n 0, 1) := by decide +kernel
theorem dX5_isMet_14 : decode cX5_isMet 14 = .ok (.getfield 68, 3) := by decide +kernel
theorem dX5_isMet_17 : decode cX5_isMet 17 = .ok (.lmul, 1) := by decide +kernel
theorem dX5_isMet_18 : decode cX5_isMet 18 = .ok (.aload_n 0, 1) := by decide +kernel
theorem dX5_isMet_19 : decode cX5_isMet 19 = .ok (.getfield 65, 3) := by decide +kernel
theorem dX5_isMet_22 : decode cX5_isMet 22 = .ok (.aload_n 0, 1) := by decide +kernel
theorem dX5_isMet_23 : decode cX5_isMet 23 = .ok (.getfield 43, 3) := by decide +kernel
theorem dX5_isMet_26 : decode cX5_isMet 26 = .ok (.lmul, 1) := by decide +kernel
theorem dX5_isMet_27 : decode cX5_isMet 27 = .ok (.lcmp, 1) := by decide +kernel
theorem dX5_isMet_28 : decode cX5_isMet 28 = .ok (.ifCond .gt 7, 3) := by decide +kernel
theorem dX5_isMet_31 : decode cX5_isMet 31 = .ok (.iconst 1, 1) := by decide +kernel
theorem dX5_isMet_32 : decode cX5_isMet 32 = .ok (.goto 4, 3) := by decide +kernel
theorem dX5_isMet_35 : decode cX5_isMet 35 = .ok (.iconst 0, 1) := by decide +kernel
theorem dX5_isMet_36 : decode cX5_isMet 36 = .ok (.istore_n 1, 1) := by decide +kernel
theorem dX5_isMet_37 : decode cX5_isMet 37 = .ok (.aload_n 0, 1) := by decide +kernel
theorem dX5_isMet_38 : decode cX5_isMet 38 = .ok (.getfield 71, 3) := by decide +kernel
theorem dX5_isMet_41 : decode cX5_isMet 41 = .ok (.ifCond .ne 11, 3) := by decide +kernel
theorem dX5_isMet_44 : decode cX5_isMet 44 = .ok (.iload_n 1, 1) := by decide +kernel
theorem dX5_isMet_45 : decode cX5_isMet 45 = .ok (.ifCond .eq 7, 3) := by decide +kernel
theorem dX5_isMet_48 : decode cX5_isMet 48 = .ok (.iconst 1, 1) := by decide +kernel
theorem dX5_isMet_49 : decode cX5_isMet 49 = .ok (.goto 4, 3) := by decide +kernel
theorem dX5_isMet_52 : decode cX5_isMet 52 = .ok (.iconst 0, 1) := by decide +kernel
theorem dX5_isMet_53 : decode cX5_isMet 53 = .ok (.ireturn, 1) := by decide +kernel
theorem kk_X5_settle_0 : Cond.fieldLink RX5 18 "PaidBySigns$Hire" "works" "I" ∈ wsX5_settle := pm_X5_settle_r1 _ (List.mem_of_getElem? (i := 0) rfl)
theorem kk_X5_isMet_0 : Cond.fieldLink RX5 68 "PaidBySigns$OneSum" "capLower" "J" ∈ wsX5_isMet := by decide +kernel
theorem kk_X5_isMet_1 : Cond.fieldLink RX5 71 "PaidBySigns$OneSum" "isBroken" "Z" ∈ wsX5_isMet := by decide +kernel
theorem kk_X5_isMet_2 : Cond.fieldLink RX5 47 "PaidBySigns$OneSum" "lowUpper" "J" ∈ wsX5_isMet := by decide +kernel
theorem kk_X5_isMet_3 : Cond.fieldLink RX5 65 "PaidBySigns$OneSum" "capUpper" "J" ∈ wsX5_isMet := by decide +kernel
theorem kk_X5_isMet_4 : Cond.fieldLink RX5 43 "PaidBySigns$OneSum" "lowLower" "J" ∈ wsX5_isMet := by decide +kernel
theorem kk_X5_need_0 : Cond.fieldLink RX5 68 "PaidBySigns$OneSum" "capLower" "J" ∈ wsX5_need := by decide +kernel
theorem kk_X5_need_1 : Cond.fieldLink RX5 65 "PaidBySigns$OneSum" "capUpper" "J" ∈ wsX5_need := by decide +kernel
theorem kk_X5_need_2 : Cond.fieldLink RX5 71 "PaidBySigns$OneSum" "isBroken" "Z" ∈ wsX5_need := by decide +kernel
theorem kk_X5_need_3 : Cond.fieldLink RX5 43 "PaidBySigns$OneSum" "lowLower" "J" ∈ wsX5_need := by decide +kernel
theorem kk_X5_need_4 : Cond.fieldLink RX5 47 "PaidBySigns$OneSum" "lowUpper" "J" ∈ wsX5_need := by decide +kernel
theorem kk_X5_settleWatched_0 : Cond.fieldLink RX5 18 "PaidBySigns$Hire" "works" "I" ∈ wsX5_settleWatched := pm_X5_settleWatched_r1 _ (List.mem_of_getElem? (i := 0) rfl)
theorem kk_X5_settleWatched_1 : Cond.fieldLink RX5 33 "PaidBySigns$Hire" "whole" "I" ∈ wsX5_settleWatched := pm_X5_settleWatched_r1 _ (List.mem_of_getElem? (i := 1) rfl)
theorem kk_X5_meanInto_0 : Cond.fieldLink RX5 36 "PaidBySigns$Hire" "least" "I" ∈ wsX5_meanInto := pm_X5_meanInto_r1 _ (List.mem_of_getElem? (i := 0) rfl)
theorem kk_X5_meanInto_1 : Cond.fieldLink RX5 43 "PaidBySigns$OneSum" "lowLower" "J" ∈ wsX5_meanInto := pm_X5_meanInto_r1 _ (List.mem_of_getElem? (i := 1) rfl)
theorem kk_X5_meanInto_2 : Cond.fieldLink RX5 47 "PaidBySigns$OneSum" "lowUpper" "J" ∈ wsX5_meanInto := pm_X5_meanInto_r1 _ (List.mem_of_getElem? (i := 2) rfl)
theorem kk_X5_meanInto_3 : Cond.fieldLink RX5 54 "PaidBySigns$Fraction" "upper" "J" ∈ wsX5_meanInto := pm_X5_meanInto_r1 _ (List.mem_of_getElem? (i := 3) rfl)
theorem kk_X5_meanInto_4 : Cond.fieldLink RX5 59 "PaidBySigns$Fraction" "lower" "J" ∈ wsX5_meanInto := pm_X5_meanInto_r1 _ (List.mem_of_getElem? (i := 4) rfl)
theorem iw_X5_settle_X3 : ∀ w ∈ wsX30, w ∈ wsX5_settle := pw_X5_settle_X3
theorem iw_X5_isMet_X5 : ∀ w ∈ wsX50, w ∈ wsX5_isMet := by decide +kernel
theorem iw_X5_need_X5 : ∀ w ∈ wsX50, w ∈ wsX5_need := by decide +kernel
theorem iw_X5_settleWatched_X3 : ∀ w ∈ wsX30, w ∈ wsX5_settleWatched := pw_X5_settleWatched_X3
theorem iw_X5_meanInto_X3 : ∀ w ∈ wsX30, w ∈ wsX5_meanInto := pw_X5_meanInto_X3
theorem iw_X5_meanInto_X5 : ∀ w ∈ wsX50, w ∈ wsX5_meanInto := pw_X5_meanInto_X5
theorem iw_X5_meanInto_X2 : ∀ w ∈ wsX20, w ∈ wsX5_meanInto := pw_X5_meanInto_X2
