abbrev cX4_readWages : ByteArray := prog_6_method_15_code
def yX4_readWages : MethodName := ⟨RX4, "readWages", "()V"⟩
abbrev cX8_solve : ByteArray := prog_10_method_3_code
def yX8_solve : MethodName := ⟨RX8, "solve", "()Z"⟩
abbrev cX8_pivot : ByteArray := prog_10_method_7_code
def yX8_pivot : MethodName := ⟨RX8, "pivot", "(II)V"⟩
abbrev cX8_changeLine : ByteArray := prog_10_method_8_code
def yX8_changeLine : MethodName := ⟨RX8, "changeLine", "([J[JIJ)V"⟩
def wsX8_changeLine : List Cond := .code yX8_changeLine cX8_changeLine 9 none :: ([.fieldLink RX8 36 "PaidBySigns$Table" "columns" "I", .fieldLink RX8 39 "PaidBySigns$Table" "base" "J"] ++ wsX80)
def wsX8_pivot : List Cond := .code yX8_pivot cX8_pivot 7 none :: ([.fieldLink RX8 13 "PaidBySigns$Table" "entry" "[[J", .fieldLink RX8 39 "PaidBySigns$Table" "base" "J", .fieldLink RX8 33 "PaidBySigns$Table" "lines" "I", .fieldLink RX8 36 "PaidBySigns$Table" "columns" "I", .fieldLink RX8 16 "PaidBySigns$Table" "lineName" "[I", .fieldLink RX8 20 "PaidBySigns$Table" "columnName" "[I", .methodLink RX8 66 yX8_changeLine, .instanceMethod yX8_changeLine, .selects RX8 yX8_changeLine yX8_changeLine, .initialized RX8, .code yX8_changeLine cX8_changeLine 9 none] ++ wsX80)
def wsX8_solve_r1 : List Cond := [Cond.constant RX8 49 (1000000), Cond.methodLink RX8 50 yX8_lineBelowZero, Cond.instanceMethod yX8_lineBelowZero, Cond.selects RX8 yX8_lineBelowZero yX8_lineBelowZero, Cond.initialized RX8, Cond.code yX8_lineBelowZero cX8_lineBelowZero 3 (some .int), Cond.fieldLink RX8 29 "PaidBySigns$Table" "goals" "I", Cond.fieldLink RX8 33 "PaidBySigns$Table" "lines" "I", Cond.fieldLink RX8 13 "PaidBySigns$Table" "entry" "[[J", Cond.fieldLink RX8 16 "PaidBySigns$Table" "lineName" "[I", Cond.methodLink RX8 54 yX8_columnFor, Cond.instanceMethod yX8_columnFor, Cond.selects RX8 yX8_columnFor yX8_columnFor, Cond.code yX8_columnFor cX8_columnFor 5 (some .int), Cond.fieldLink RX8 36 "PaidBySigns$Table" "columns" "I", Cond.fieldLink RX8 20 "PaidBySigns$Table" "columnName" "[I", Cond.methodLink RX8 62 yX8_compareRatios, Cond.instanceMethod yX8_compareRatios, Cond.selects RX8 yX8_compareRatios yX8_compareRatios, Cond.code yX8_compareRatios cX8_compareRatios 13 (some .int), Cond.methodLink RX8 58 yX8_pivot, Cond.instanceMethod yX8_pivot, Cond.selects RX8 yX8_pivot yX8_pivot, Cond.code yX8_pivot cX8_pivot 7 none]
def wsX8_solve_r2 : List Cond := [Cond.fieldLink RX8 39 "PaidBySigns$Table" "base" "J", Cond.methodLink RX8 66 yX8_changeLine, Cond.instanceMethod yX8_changeLine, Cond.selects RX8 yX8_changeLine yX8_changeLine, Cond.code yX8_changeLine cX8_changeLine 9 none]
def wsX8_solve : List Cond := .code yX8_solve cX8_solve 4 (some .boolean) :: ((wsX8_solve_r1 ++ wsX8_solve_r2) ++ wsX80)
def wsX4_readWages : List Cond := .code yX4_readWages cX4_readWages 3 none :: ([.fieldLink RX4 9 "PaidBySigns$LeastCost" "above" "[J", .constantLong RX4 145 (60), .fieldLink RX4 22 "PaidBySigns$LeastCost" "table" "LPaidBySigns$Table;", .fieldLink RX4 147 "PaidBySigns$Table" "base" "J", .fieldLink RX4 15 "PaidBySigns$LeastCost" "aboveLower" "J", .fieldLink RX4 150 "PaidBySigns$Table" "goals" "I", .fieldLink RX4 153 "PaidBySigns$Table" "lines" "I", .fieldLink RX4 156 "PaidBySigns$Table" "lineName" "[I", .fieldLink RX4 36 "PaidBySigns$LeastCost" "columns" "I", .fieldLink RX4 26 "PaidBySigns$LeastCost" "columnSign" "[I", .fieldLink RX4 132 "PaidBySigns$Table" "entry" "[[J", .methodLink RX4 139 yJ7_fill_d0a16, .static yJ7_fill_d0a16, .initialized RJ7, .code yJ7_fill_d0a16 cJ7_fill_d0a16 5 none, .methodLink RX4 128 yX4_partsOf, .instanceMethod yX4_partsOf, .selects RX4 yX4_partsOf yX4_partsOf, .initialized RX4, .code yX4_partsOf cX4_partsOf 2 (some .int), .fieldLink RX4 30 "PaidBySigns$LeastCost" "columnRate" "[I"] ++ wsX40 ++ wsX80)
set_option maxRecDepth 20000 in
theorem ggX4_readWages_J7_fill_d0a16 : GoodIn wsX4_readWages wsJ7_fill_d0a16 := goodIn_r _ [15] (by decide +kernel) (by decide +kernel)
set_option maxRecDepth 20000 in
theorem gX4_readWages_J7_fill_d0a16 : GoodIn wsX4_readWages (va_wsS RX4 139 yJ7_fill_d0a16 wsJ7_fill_d0a16) := goodIn_app (goodIn_of _ (by decide +kernel)) ggX4_readWages_J7_fill_d0a16
set_option maxRecDepth 20000 in
theorem ggX4_readWages_X4_partsOf : GoodIn wsX4_readWages wsX4_partsOf := goodIn_r _ [20, 21, 22, 23, 24, 25, 26, 27, 28, 29, 30, 31, 32, 33] (by decide +kernel) (by decide +kernel)
set_option maxRecDepth 20000 in
theorem gX4_readWages_X4_partsOf : GoodIn wsX4_readWages (wsV RX4 128 RX4 yX4_partsOf wsX4_partsOf) := goodIn_app (goodIn_of _ (by decide +kernel)) ggX4_readWages_X4_partsOf
theorem dX4_readWages_0 : decode cX4_readWages 0 = .ok (.aload_n 0, 1) := by decide +kernel
theorem dX4_readWages_1 : decode cX4_readWages 1 = .ok (.getfield 9, 3) := by decide +kernel
theorem dX4_readWages_4 : decode cX4_readWages 4 = .ok (.lconst 0, 1) := by decide +kernel
theorem dX4_readWages_5 : decode cX4_readWages 5 = .ok (.invokestatic 139, 3) := by decide +kernel
theorem dX4_readWages_8 : decode cX4_readWages 8 = .ok (.aload_n 0, 1) := by decide +kernel
theorem dX4_readWages_9 : decode cX4_readWages 9 = .ok (.ldc2_w 145, 3) := by decide +kernel
theorem dX4_readWages_12 : decode cX4_readWages 12 = .ok (.aload_n 0, 1) := by decide +kernel
theorem dX4_readWages_13 : decode cX4_readWages 13 = .ok (.getfield 22, 3) := by decide +kernel
theorem dX4_readWages_16 : decode cX4_readWages 16 = .ok (.getfield 147, 3) := by decide +kernel
theorem dX4_readWages_19 : decode cX4_readWages 19 = .ok (.lmul, 1) := by decide +kernel
theorem dX4_readWages_20 : decode cX4_readWages 20 = .ok (.putfield 15, 3) := by decide +kernel
theorem dX4_readWages_23 : decode cX4_readWages 23 = .ok (.aload_n 0, 1) := by decide +kernel
theorem dX4_readWages_24 : decode cX4_readWages 24 = .ok (.getfield 22, 3) := by decide +kernel
theorem dX4_readWages_27 : decode cX4_readWages 27 = .ok (.getfield 150, 3) := by decide +kernel
theorem dX4_readWages_30 : decode cX4_readWages 30 = .ok (.istore_n 1, 1) := by decide +kernel
theorem dX4_readWages_31 : decode cX4_readWages 31 = .ok (.iload_n 1, 1) := by decide +kernel
theorem dX4_readWages_32 : decode cX4_readWages 32 = .ok (.aload_n 0, 1) := by decide +kernel
theorem dX4_readWages_33 : decode cX4_readWages 33 = .ok (.getfield 22, 3) := by decide +kernel
theorem dX4_readWages_36 : decode cX4_readWages 36 = .ok (.getfield 153, 3) := by decide +kernel
theorem dX4_readWages_39 : decode cX4_readWages 39 = .ok (.if_icmp .ge 59, 3) := by decide +kernel
theorem dX4_readWages_42 : decode cX4_readWages 42 = .ok (.aload_n 0, 1) := by decide +kernel
theorem dX4_readWages_43 : decode cX4_readWages 43 = .ok (.getfield 22, 3) := by decide +kernel
theorem dX4_readWages_46 : decode cX4_readWages 46 = .ok (.getfield 156, 3) := by decide +kernel
theorem dX4_readWages_49 : decode cX4_readWages 49 = .ok (.iload_n 1, 1) := by decide +kernel
theorem dX4_readWages_50 : decode cX4_readWages 50 = .ok (.iaload, 1) := by decide +kernel
theorem dX4_readWages_51 : decode cX4_readWages 51 = .ok (.istore_n 2, 1) := by decide +kernel
theorem dX4_readWages_52 : decode cX4_readWages 52 = .ok (.iload_n 2, 1) := by decide +kernel
theorem dX4_readWages_53 : decode cX4_readWages 53 = .ok (.aload_n 0, 1) := by decide +kernel
theorem dX4_readWages_54 : decode cX4_readWages 54 = .ok (.getfield 36, 3) := by decide +kernel
theorem dX4_readWages_57 : decode cX4_readWages 57 = .ok (.if_icmp .ge 35, 3) := by decide +kernel
theorem dX4_readWages_60 : decode cX4_readWages 60 = .ok (.aload_n 0, 1) := by decide +kernel
theorem dX4_readWages_61 : decode cX4_readWages 61 = .ok (.getfield 9, 3) := by decide +kernel
theorem dX4_readWages_64 : decode cX4_readWages 64 = .ok (.aload_n 0, 1) := by decide +kernel
theorem dX4_readWages_65 : decode cX4_readWages 65 = .ok (.getfield 26, 3) := by decide +kernel
theorem dX4_readWages_68 : decode cX4_readWages 68 = .ok (.iload_n 2, 1) := by decide +kernel
theorem dX4_readWages_69 : decode cX4_readWages 69 = .ok (.iaload, 1) := by decide +kernel
theorem dX4_readWages_70 : decode cX4_readWages 70 = .ok (.dup2, 1) := by decide +kernel
theorem dX4_readWages_71 : decode cX4_readWages 71 = .ok (.laload, 1) := by decide +kernel
theorem dX4_readWages_72 : decode cX4_readWages 72 = .ok (.aload_n 0, 1) := by decide +kernel
theorem dX4_readWages_73 : decode cX4_readWages 73 = .ok (.getfield 22, 3) := by decide +kernel
theorem dX4_readWages_76 : decode cX4_readWages 76 = .ok (.getfield 132, 3) := by decide +kernel
theorem dX4_readWages_79 : decode cX4_readWages 79 = .ok (.iload_n 1, 1) := by decide +kernel
theorem dX4_readWages_80 : decode cX4_readWages 80 = .ok (.aaload, 1) := by decide +kernel
theorem dX4_readWages_81 : decode cX4_readWages 81 = .ok (.iconst 0, 1) := by decide +kernel
theorem dX4_readWages_82 : decode cX4_readWages 82 = .ok (.laload, 1) := by decide +kernel
theorem dX4_readWages_83 : decode cX4_readWages 83 = .ok (.aload_n 0, 1) := by decide +kernel
theorem dX4_readWages_84 : decode cX4_readWages 84 = .ok (.iload_n 2, 1) := by decide +kernel
theorem dX4_readWages_85 : decode cX4_readWages 85 = .ok (.invokevirtual 128, 3) := by decide +kernel
theorem dX4_readWages_88 : decode cX4_readWages 88 = .ok (.i2l, 1) := by decide +kernel
theorem dX4_readWages_89 : decode cX4_readWages 89 = .ok (.lmul, 1) := by decide +kernel
theorem dX4_readWages_90 : decode cX4_readWages 90 = .ok (.ladd, 1) := by decide +kernel
theorem dX4_readWages_91 : decode cX4_readWages 91 = .ok (.lastore, 1) := by decide +kernel
theorem dX4_readWages_92 : decode cX4_readWages 92 = .ok (.iinc 1 1, 3) := by decide +kernel
theorem dX4_readWages_95 : decode cX4_readWages 95 = .ok (.goto (-64), 3) := by decide +kernel
theorem dX4_readWages_98 : decode cX4_readWages 98 = .ok (.return_, 1) := by decide +kernel
theorem pm_X8_solve_r1 : ∀ w ∈ wsX8_solve_r1, w ∈ wsX8_solve := fun _ h => List.mem_cons_of_mem _ (List.mem_append_left _ (List.mem_append_left _ h))
theorem pm_X8_solve_r2 : ∀ w ∈ wsX8_solve_r2, w ∈ wsX8_solve := fun _ h => List.mem_cons_of_mem _ (List.mem_append_left _ (List.mem_append_right _ (h)))
theorem pw_X8_solve_X8 : ∀ w ∈ wsX80, w ∈ wsX8_solve := fun _ h => List.mem_cons_of_mem _ (List.mem_append_right _ h)
set_option maxRecDepth 20000 in
theorem ggX8_solve_X8_lineBelowZero : GoodIn wsX8_solve wsX8_lineBelowZero := goodIn_sub (List.forall_mem_cons.mpr ⟨pm_X8_solve_r1 _ (List.mem_of_getElem? (i := 5) rfl), List.forall_mem_append.mpr ⟨List.forall_mem_cons.mpr ⟨pm_X8_solve_r1 _ (List.mem_of_getElem? (i := 6) rfl), List.forall_mem_cons.mpr ⟨pm_X8_solve_r1 _ (List.mem_of_getElem? (i := 7) rfl), List.forall_mem_cons.mpr ⟨pm_X8_solve_r1 _ (List.mem_of_getElem? (i := 8) rfl), List.forall_mem_cons.mpr ⟨pm_X8_solve_r1 _ (List.mem_of_getElem? (i := 9) rfl), fun _ h => absurd h List.not_mem_nil⟩⟩⟩⟩, pw_X8_solve_X8⟩⟩) (by decide +kernel)
set_option maxRecDepth 20000 in
theorem gX8_solve_X8_lineBelowZero : GoodIn wsX8_solve (wsV RX8 50 RX8 yX8_lineBelowZero wsX8_lineBelowZero) := goodIn_app (goodIn_of _ (by decide +kernel)) ggX8_solve_X8_lineBelowZero
set_option maxRecDepth 20000 in
theorem ggX8_solve_X8_columnFor : GoodIn wsX8_solve wsX8_columnFor := goodIn_sub (List.forall_mem_cons.mpr ⟨pm_X8_solve_r1 _ (List.mem_of_getElem? (i := 13) rfl), List.forall_mem_append.mpr ⟨List.forall_mem_cons.mpr ⟨pm_X8_solve_r1 _ (List.mem_of_getElem? (i := 14) rfl), List.forall_mem_cons.mpr ⟨pm_X8_solve_r1 _ (List.mem_of_getElem? (i := 8) rfl), List.forall_mem_cons.mpr ⟨pm_X8_solve_r1 _ (List.mem_of_getElem? (i := 15) rfl), List.forall_mem_cons.mpr ⟨pm_X8_solve_r1 _ (List.mem_of_getElem? (i := 16) rfl), List.forall_mem_cons.mpr ⟨pm_X8_solve_r1 _ (List.mem_of_getElem? (i := 17) rfl), List.forall_mem_cons.mpr ⟨pm_X8_solve_r1 _ (List.mem_of_getElem? (i := 18) rfl), List.forall_mem_cons.mpr ⟨pm_X8_solve_r1 _ (List.mem_of_getElem? (i := 4) rfl), List.forall_mem_cons.mpr ⟨pm_X8_solve_r1 _ (List.mem_of_getElem? (i := 19) rfl), List.forall_mem_cons.mpr ⟨pm_X8_solve_r1 _ (List.mem_of_getElem? (i := 6) rfl), fun _ h => absurd h List.not_mem_nil⟩⟩⟩⟩⟩⟩⟩⟩⟩, pw_X8_solve_X8⟩⟩) (by decide +kernel)
set_option maxRecDepth 20000 in
theorem gX8_solve_X8_columnFor : GoodIn wsX8_solve (wsV RX8 54 RX8 yX8_columnFor wsX8_columnFor) := goodIn_app (goodIn_of _ (by decide +kernel)) ggX8_solve_X8_columnFor
set_option maxRecDepth 20000 in
theorem ggX8_solve_X8_pivot : GoodIn wsX8_solve wsX8_pivot := goodIn_sub (List.forall_mem_cons.mpr ⟨pm_X8_solve_r1 _ (List.mem_of_getElem? (i := 23) rfl), List.forall_mem_append.mpr ⟨List.forall_mem_cons.mpr ⟨pm_X8_solve_r1 _ (List.mem_of_getElem? (i := 8) rfl), List.forall_mem_cons.mpr ⟨pm_X8_solve_r2 _ (List.mem_of_getElem? (i := 0) rfl), List.forall_mem_cons.mpr ⟨pm_X8_solve_r1 _ (List.mem_of_getElem? (i := 7) rfl), List.forall_mem_cons.mpr ⟨pm_X8_solve_r1 _ (List.mem_of_getElem? (i := 14) rfl), List.forall_mem_cons.mpr ⟨pm_X8_solve_r1 _ (List.mem_of_getElem? (i := 9) rfl), List.forall_mem_cons.mpr ⟨pm_X8_solve_r1 _ (List.mem_of_getElem? (i := 15) rfl), List.forall_mem_cons.mpr ⟨pm_X8_solve_r2 _ (List.mem_of_getElem? (i := 1) rfl), List.forall_mem_cons.mpr ⟨pm_X8_solve_r2 _ (List.mem_of_getElem? (i := 2) rfl), List.forall_mem_cons.mpr ⟨pm_X8_solve_r2 _ (List.mem_of_getElem? (i := 3) rfl), List.forall_mem_cons.mpr ⟨pm_X8_solve_r1 _ (List.mem_of_getElem? (i := 4) rfl), List.forall_mem_cons.mpr ⟨pm_X8_solve_r2 _ (List.mem_of_getElem? (i := 4) rfl), fun _ h => absurd h List.not_mem_nil⟩⟩⟩⟩⟩⟩⟩⟩⟩⟩⟩, pw_X8_solve_X8⟩⟩) (by decide +kernel)
set_option maxRecDepth 20000 in
theorem gX8_solve_X8_pivot : GoodIn wsX8_solve (wsV RX8 58 RX8 yX8_pivot wsX8_pivot) := goodIn_app (goodIn_of _ (by decide +kernel)) ggX8_solve_X8_pivot
theorem dX8_solve_0 : decode cX8_solve 0 = .ok (.iconst 0, 1) := by decide +kernel
theorem dX8_solve_1 : decode cX8_solve 1 = .ok (.istore_n 1, 1) := by decide +kernel
theorem dX8_solve_2 : decode cX8_solve 2 = .ok (.iload_n 1, 1) := by decide +kernel
theorem dX8_solve_3 : decode cX8_solve 3 = .ok (.ldc 49, 2) := by decide +kernel
theorem dX8_solve_5 : decode cX8_solve 5 = .ok (.if_icmp .ge 38, 3) := by decide +kernel
theorem dX8_solve_8 : decode cX8_solve 8 = .ok (.aload_n 0, 1) := by decide +kernel
theorem dX8_solve_9 : decode cX8_solve 9 = .ok (.invokevirtual 50, 3) := by decide +kernel
theorem dX8_solve_12 : decode cX8_solve 12 = .ok (.istore_n 2, 1) := by decide +kernel
theorem dX8_solve_13 : decode cX8_solve 13 = .ok (.iload_n 2, 1) := by decide +kernel
theorem dX8_solve_14 : decode cX8_solve 14 = .ok (.ifCond .ge 5, 3) := by decide +kernel
theorem dX8_solve_17 : decode cX8_solve 17 = .ok (.iconst 1, 1) := by decide +kernel
theorem dX8_solve_18 : decode cX8_solve 18 = .ok (.ireturn, 1) := by decide +kernel
theorem dX8_solve_19 : decode cX8_solve 19 = .ok (.aload_n 0, 1) := by decide +kernel
theorem dX8_solve_20 : decode cX8_solve 20 = .ok (.iload_n 2, 1) := by decide +kernel
theorem dX8_solve_21 : decode cX8_solve 21 = .ok (.invokevirtual 54, 3) := by decide +kernel
theorem dX8_solve_24 : decode cX8_solve 24 = .ok (.istore_n 3, 1) := by decide +kernel
theorem dX8_solve_25 : decode cX8_solve 25 = .ok (.iload_n 3, 1) := by decide +kernel
theorem dX8_solve_26 : decode cX8_solve 26 = .ok (.ifCond .ge 5, 3) := by decide +kernel
theorem dX8_solve_29 : decode cX8_solve 29 = .ok (.iconst 0, 1) := by decide +kernel
theorem dX8_solve_30 : decode cX8_solve 30 = .ok (.ireturn, 1) := by decide +kernel
theorem dX8_solve_31 : decode cX8_solve 31 = .ok (.aload_n 0, 1) := by decide +kernel
theorem dX8_solve_32 : decode cX8_solve 32 = .ok (.iload_n 2, 1) := by decide +kernel
theorem dX8_solve_33 : decode cX8_solve 33 = .ok (.iload_n 3, 1) := by decide +kernel
theorem dX8_solve_34 : decode cX8_solve 34 = .ok (.invokevirtual 58, 3) := by decide +kernel
theorem dX8_solve_37 : decode cX8_solve 37 = .ok (.iinc 1 1, 3) := by decide +kernel
theorem dX8_solve_40 : decode cX8_solve 40 = .ok (.goto (-38), 3) := by decide +kernel
theorem dX8_solve_43 : decode cX8_solve 43 = .ok (.iconst 0, 1) := by decide +kernel
theorem dX8_solve_44 : decode cX8_solve 44 = .ok (.ireturn, 1) := by decide +kernel
set_option maxRecDepth 20000 in
theorem ggX8_pivot_X8_changeLine : GoodIn wsX8_pivot wsX8_changeLine := goodIn_r _ [11, 4, 2, 12, 13, 14, 15, 16, 17, 18] (by decide +kernel) (by decide +kernel)
set_option maxRecDepth 20000 in
theorem gX8_pivot_X8_changeLine : GoodIn wsX8_pivot (wsV RX8 66 RX8 yX8_changeLine wsX8_changeLine) := goodIn_app (goodIn_of _ (by decide +kernel)) ggX8_pivot_X8_changeLine
theorem dX8_pivot_0 : decode cX8_pivot 0 = .ok (.aload_n 0, 1) := by decide +kernel
theorem dX8_pivot_1 : decode cX8_pivot 1 = .ok (.getfield 13, 3) := by decide +kernel
theorem dX8_pivot_4 : decode cX8_pivot 4 = .ok (.iload_n 1, 1) := by decide +kernel
theorem dX8_pivot_5 : decode cX8_pivot 5 = .ok (.aaload, 1) := by decide +kernel
theorem dX8_pivot_6 : decode cX8_pivot 6 = .ok (.astore_n 3, 1) := by decide +kernel
theorem dX8_pivot_7 : decode cX8_pivot 7 = .ok (.aload_n 3, 1) := by decide +kernel
theorem dX8_pivot_8 : decode cX8_pivot 8 = .ok (.iload_n 2, 1) := by decide +kernel
theorem dX8_pivot_9 : decode cX8_pivot 9 = .ok (.laload, 1) := by decide +kernel
theorem dX8_pivot_10 : decode cX8_pivot 10 = .ok (.lneg, 1) := by decide +kernel
theorem dX8_pivot_11 : decode cX8_pivot 11 = .ok (.lstore 4, 2) := by decide +kernel
theorem dX8_pivot_13 : decode cX8_pivot 13 = .ok (.lload 4, 2) := by decide +kernel
theorem dX8_pivot_15 : decode cX8_pivot 15 = .ok (.lconst 1, 1) := by decide +kernel
theorem dX8_pivot_16 : decode cX8_pivot 16 = .ok (.lcmp, 1) := by decide +kernel
theorem dX8_pivot_17 : decode cX8_pivot 17 = .ok (.ifCond .lt 12, 3) := by decide +kernel
theorem dX8_pivot_20 : decode cX8_pivot 20 = .ok (.aload_n 0, 1) := by decide +kernel
theorem dX8_pivot_21 : decode cX8_pivot 21 = .ok (.getfield 39, 3) := by decide +kernel
theorem dX8_pivot_24 : decode cX8_pivot 24 = .ok (.lconst 1, 1) := by decide +kernel
theorem dX8_pivot_25 : decode cX8_pivot 25 = .ok (.lcmp, 1) := by decide +kernel
theorem dX8_pivot_26 : decode cX8_pivot 26 = .ok (.ifCond .ge 4, 3) := by decide +kernel
theorem dX8_pivot_29 : decode cX8_pivot 29 = .ok (.return_, 1) := by decide +kernel
theorem dX8_pivot_30 : decode cX8_pivot 30 = .ok (.iconst 0, 1) := by decide +kernel
theorem dX8_pivot_31 : decode cX8_pivot 31 = .ok (.istore 6, 2) := by decide +kernel
theorem dX8_pivot_33 : decode cX8_pivot 33 = .ok (.iload 6, 2) := by decide +kernel
theorem dX8_pivot_35 : decode cX8_pivot 35 = .ok (.aload_n 0, 1) := by decide +kernel
theorem dX8_pivot_36 : decode cX8_pivot 36 = .ok (.getfield 33, 3) := by decide +kernel
theorem dX8_pivot_39 : decode cX8_pivot 39 = .ok (.if_icmp .ge 30, 3) := by decide +kernel
theorem dX8_pivot_42 : decode cX8_pivot 42 = .ok (.iload 6, 2) := by decide +kernel
theorem dX8_pivot_44 : decode cX8_pivot 44 = .ok (.iload_n 1, 1) := by decide +kernel
theorem dX8_pivot_45 : decode cX8_pivot 45 = .ok (.if_icmp .eq 18, 3) := by decide +kernel
theorem dX8_pivot_48 : decode cX8_pivot 48 = .ok (.aload_n 0, 1) := by decide +kernel
theorem dX8_pivot_49 : decode cX8_pivot 49 = .ok (.aload_n 0, 1) := by decide +kernel
theorem dX8_pivot_50 : decode cX8_pivot 50 = .ok (.getfield 13, 3) := by decide +kernel
theorem dX8_pivot_53 : decode cX8_pivot 53 = .ok (.iload 6, 2) := by decide +kernel
theorem dX8_pivot_55 : decode cX8_pivot 55 = .ok (.aaload, 1) := by decide +kernel
theorem dX8_pivot_56 : decode cX8_pivot 56 = .ok (.aload_n 3, 1) := by decide +kernel
theorem dX8_pivot_57 : decode cX8_pivot 57 = .ok (.iload_n 2, 1) := by decide +kernel
theorem dX8_pivot_58 : decode cX8_pivot 58 = .ok (.lload 4, 2) := by decide +kernel
theorem dX8_pivot_60 : decode cX8_pivot 60 = .ok (.invokevirtual 66, 3) := by decide +kernel
theorem dX8_pivot_63 : decode cX8_pivot 63 = .ok (.iinc 6 1, 3) := by decide +kernel
theorem dX8_pivot_66 : decode cX8_pivot 66 = .ok (.goto (-33), 3) := by decide +kernel
theorem dX8_pivot_69 : decode cX8_pivot 69 = .ok (.iconst 0, 1) := by decide +kernel
theorem dX8_pivot_70 : decode cX8_pivot 70 = .ok (.istore 6, 2) := by decide +kernel
theorem dX8_pivot_72 : decode cX8_pivot 72 = .ok (.iload 6, 2) := by decide +kernel
theorem dX8_pivot_74 : decode cX8_pivot 74 = .ok (.aload_n 0, 1) := by decide +kernel
theorem dX8_pivot_75 : decode cX8_pivot 75 = .ok (.getfield 36, 3) := by decide +kernel
theorem dX8_pivot_78 : decode cX8_pivot 78 = .ok (.if_icmp .gt 18, 3) := by decide +kernel
theorem dX8_pivot_81 : decode cX8_pivot 81 = .ok (.aload_n 3, 1) := by decide +kernel
theorem dX8_pivot_82 : decode cX8_pivot 82 = .ok (.iload 6, 2) := by decide +kernel
theorem dX8_pivot_84 : decode cX8_pivot 84 = .ok (.aload_n 3, 1) := by decide +kernel
theorem dX8_pivot_85 : decode cX8_pivot 85 = .ok (.iload 6, 2) := by decide +kernel
theorem dX8_pivot_87 : decode cX8_pivot 87 = .ok (.laload, 1) := by decide +kernel
theorem dX8_pivot_88 : decode cX8_pivot 88 = .ok (.lneg, 1) := by decide +kernel
theorem dX8_pivot_89 : decode cX8_pivot 89 = .ok (.lastore, 1) := by decide +kernel
theorem dX8_pivot_90 : decode cX8_pivot 90 = .ok (.iinc 6 1, 3) := by decide +kernel
theorem dX8_pivot_93 : decode cX8_pivot 93 = .ok (.goto (-21), 3) := by decide +kernel
theorem dX8_pivot_96 : decode cX8_pivot 96 = .ok (.aload_n 3, 1) := by decide +kernel
theorem dX8_pivot_97 : decode cX8_pivot 97 = .ok (.iload_n 2, 1) := by decide +kernel
theorem dX8_pivot_98 : decode cX8_pivot 98 = .ok (.aload_n 0, 1) := by decide +kernel
theorem dX8_pivot_99 : decode cX8_pivot 99 = .ok (.getfield 39, 3) := by decide +kernel
theorem dX8_pivot_102 : decode cX8_pivot 102 = .ok (.lneg, 1) := by decide +kernel
theorem dX8_pivot_103 : decode cX8_pivot 103 = .ok (.lastore, 1) := by decide +kernel
theorem dX8_pivot_104 : decode cX8_pivot 104 = .ok (.aload_n 0, 1) := by decide +kernel
theorem dX8_pivot_105 : decode cX8_pivot 105 = .ok (.lload 4, 2) := by decide +kernel
theorem dX8_pivot_107 : decode cX8_pivot 107 = .ok (.putfield 39, 3) := by decide +kernel
theorem dX8_pivot_110 : decode cX8_pivot 110 = .ok (.aload_n 0, 1) := by decide +kernel
theorem dX8_pivot_111 : decode cX8_pivot 111 = .ok (.getfield 16, 3) := by decide +kernel
theorem dX8_pivot_114 : decode cX8_pivot 114 = .ok (.iload_n 1, 1) := by decide +kernel
theorem dX8_pivot_115 : decode cX8_pivot 115 = .ok (.iaload, 1) := by decide +kernel
theorem dX8_pivot_116 : decode cX8_pivot 116 = .ok (.istore 6, 2) := by decide +kernel
theorem dX8_pivot_118 : decode cX8_pivot 118 = .ok (.aload_n 0, 1) := by decide +kernel
theorem dX8_pivot_119 : decode cX8_pivot 119 = .ok (.getfield 16, 3) := by decide +kernel
theorem dX8_pivot_122 : decode cX8_pivot 122 = .ok (.iload_n 1, 1) := by decide +kernel
theorem dX8_pivot_123 : decode cX8_pivot 123 = .ok (.aload_n 0, 1) := by decide +kernel
theorem dX8_pivot_124 : decode cX8_pivot 124 = .ok (.getfield 20, 3) := by decide +kernel
theorem dX8_pivot_127 : decode cX8_pivot 127 = .ok (.iload_n 2, 1) := by decide +kernel
theorem dX8_pivot_128 : decode cX8_pivot 128 = .ok (.iaload, 1) := by decide +kernel
theorem dX8_pivot_129 : decode cX8_pivot 129 = .ok (.iastore, 1) := by decide +kernel
theorem dX8_pivot_130 : decode cX8_pivot 130 = .ok (.aload_n 0, 1) := by decide +kernel
theorem dX8_pivot_131 : decode cX8_pivot 131 = .ok (.getfield 20, 3) := by decide +kernel
theorem dX8_pivot_134 : decode cX8_pivot 134 = .ok (.iload_n 2, 1) := by decide +kernel
theorem dX8_pivot_135 : decode cX8_pivot 135 = .ok (.iload 6, 2) := by decide +kernel
theorem dX8_pivot_137 : decode cX8_pivot 137 = .ok (.iastore, 1) := by decide +kernel
theorem dX8_pivot_138 : decode cX8_pivot 138 = .ok (.return_, 1) := by decide +kernel
theorem dX8_changeLine_0 : decode cX8_changeLine 0 = .ok (.aload_n 1, 1) := by decide +kernel
theorem dX8_changeLine_1 : decode cX8_changeLine 1 = .ok (.iload_n 3, 1) := by decide +kernel
theorem dX8_changeLine_2 : decode cX8_changeLine 2 = .ok (.laload, 1) := by decide +kernel
theorem dX8_changeLine_3 : decode cX8_changeLine 3 = .ok (.lstore 6, 2) := by decide +kernel
theorem dX8_changeLine_5 : decode cX8_changeLine 5 = .ok (.iconst 0, 1) := by decide +kernel
theorem dX8_changeLine_6 : decode cX8_changeLine 6 = .ok (.istore 8, 2) := by decide +kernel
theorem dX8_changeLine_8 : decode cX8_changeLine 8 = .ok (.iload 8, 2) := by decide +kernel
theorem dX8_changeLine_10 : decode cX8_changeLine 10 = .ok (.aload_n 0, 1) := by decide +kernel
theorem dX8_changeLine_11 : decode cX8_changeLine 11 = .ok (.getfield 36, 3) := by decide +kernel
theorem dX8_changeLine_14 : decode cX8_changeLine 14 = .ok (.if_icmp .gt 48, 3) := by decide +kernel
theorem dX8_changeLine_17 : decode cX8_changeLine 17 = .ok (.iload 8, 2) := by decide +kernel
theorem dX8_changeLine_19 : decode cX8_changeLine 19 = .ok (.iload_n 3, 1) := by decide +kernel
theorem dX8_changeLine_20 : decode cX8_changeLine 20 = .ok (.if_icmp .eq 36, 3) := by decide +kernel
theorem dX8_changeLine_23 : decode cX8_changeLine 23 = .ok (.aload_n 0, 1) := by decide +kernel
theorem dX8_changeLine_24 : decode cX8_changeLine 24 = .ok (.getfield 39, 3) := by decide +kernel
theorem dX8_changeLine_27 : decode cX8_changeLine 27 = .ok (.lconst 0, 1) := by decide +kernel
theorem dX8_changeLine_28 : decode cX8_changeLine 28 = .ok (.lcmp, 1) := by decide +kernel
theorem dX8_changeLine_29 : decode cX8_changeLine 29 = .ok (.ifCond .eq 27, 3) := by decide +kernel
theorem dX8_changeLine_32 : decode cX8_changeLine 32 = .ok (.aload_n 1, 1) := by decide +kernel
theorem dX8_changeLine_33 : decode cX8_changeLine 33 = .ok (.iload 8, 2) := by decide +kernel
theorem dX8_changeLine_35 : decode cX8_changeLine 35 = .ok (.lload 4, 2) := by decide +kernel
theorem dX8_changeLine_37 : decode cX8_changeLine 37 = .ok (.aload_n 1, 1) := by decide +kernel
theorem dX8_changeLine_38 : decode cX8_changeLine 38 = .ok (.iload 8, 2) := by decide +kernel
theorem dX8_changeLine_40 : decode cX8_changeLine 40 = .ok (.laload, 1) := by decide +kernel
theorem dX8_changeLine_41 : decode cX8_changeLine 41 = .ok (.lmul, 1) := by decide +kernel
theorem dX8_changeLine_42 : decode cX8_changeLine 42 = .ok (.lload 6, 2) := by decide +kernel
theorem dX8_changeLine_44 : decode cX8_changeLine 44 = .ok (.aload_n 2, 1) := by decide +kernel
theorem dX8_changeLine_45 : decode cX8_changeLine 45 = .ok (.iload 8, 2) := by decide +kernel
theorem dX8_changeLine_47 : decode cX8_changeLine 47 = .ok (.laload, 1) := by decide +kernel
theorem dX8_changeLine_48 : decode cX8_changeLine 48 = .ok (.lmul, 1) := by decide +kernel
theorem dX8_changeLine_49 : decode cX8_changeLine 49 = .ok (.ladd, 1) := by decide +kernel
theorem dX8_changeLine_50 : decode cX8_changeLine 50 = .ok (.aload_n 0, 1) := by decide +kernel
theorem dX8_changeLine_51 : decode cX8_changeLine 51 = .ok (.getfield 39, 3) := by decide +kernel
theorem dX8_changeLine_54 : decode cX8_changeLine 54 = .ok (.ldiv, 1) := by decide +kernel
theorem dX8_changeLine_55 : decode cX8_changeLine 55 = .ok (.lastore, 1) := by decide +kernel
theorem dX8_changeLine_56 : decode cX8_changeLine 56 = .ok (.iinc 8 1, 3) := by decide +kernel
theorem dX8_changeLine_59 : decode cX8_changeLine 59 = .ok (.goto (-51), 3) := by decide +kernel
theorem dX8_changeLine_62 : decode cX8_changeLine 62 = .ok (.return_, 1) := by decide +kernel
theorem kk_X8_solve_0 : Cond.constant RX8 49 (1000000) ∈ wsX8_solve := pm_X8_solve_r1 _ (List.mem_of_getElem? (i := 0) rfl)
theorem kk_X8_pivot_0 : Cond.fieldLink RX8 13 "PaidBySigns$Table" "entry" "[[J" ∈ wsX8_pivot := by decide +kernel
theorem kk_X8_pivot_1 : Cond.fieldLink RX8 39 "PaidBySigns$Table" "base" "J" ∈ wsX8_pivot := by decide +kernel
theorem kk_X8_pivot_2 : Cond.fieldLink RX8 33 "PaidBySigns$Table" "lines" "I" ∈ wsX8_pivot := by decide +kernel
theorem kk_X8_pivot_3 : Cond.fieldLink RX8 36 "PaidBySigns$Table" "columns" "I" ∈ wsX8_pivot := by decide +kernel
theorem kk_X8_pivot_4 : Cond.fieldLink RX8 16 "PaidBySigns$Table" "lineName" "[I" ∈ wsX8_pivot := by decide +kernel
theorem kk_X8_pivot_5 : Cond.fieldLink RX8 20 "PaidBySigns$Table" "columnName" "[I" ∈ wsX8_pivot := by decide +kernel
theorem kk_X8_changeLine_0 : Cond.fieldLink RX8 36 "PaidBySigns$Table" "columns" "I" ∈ wsX8_changeLine := by decide +kernel
theorem kk_X8_changeLine_1 : Cond.fieldLink RX8 39 "PaidBySigns$Table" "base" "J" ∈ wsX8_changeLine := by decide +kernel
theorem kk_X4_readWages_0 : Cond.fieldLink RX4 9 "PaidBySigns$LeastCost" "above" "[J" ∈ wsX4_readWages := by decide +kernel
theorem kk_X4_readWages_1 : Cond.constantLong RX4 145 (60) ∈ wsX4_readWages := by decide +kernel
theorem kk_X4_readWages_2 : Cond.fieldLink RX4 22 "PaidBySigns$LeastCost" "table" "LPaidBySigns$Table;" ∈ wsX4_readWages := by decide +kernel
theorem kk_X4_readWages_3 : Cond.fieldLink RX4 147 "PaidBySigns$Table" "base" "J" ∈ wsX4_readWages := by decide +kernel
theorem kk_X4_readWages_4 : Cond.fieldLink RX4 15 "PaidBySigns$LeastCost" "aboveLower" "J" ∈ wsX4_readWages := by decide +kernel
theorem kk_X4_readWages_5 : Cond.fieldLink RX4 150 "PaidBySigns$Table" "goals" "I" ∈ wsX4_readWages := by decide +kernel
theorem kk_X4_readWages_6 : Cond.fieldLink RX4 153 "PaidBySigns$Table" "lines" "I" ∈ wsX4_readWages := by decide +kernel
theorem kk_X4_readWages_7 : Cond.fieldLink RX4 156 "PaidBySigns$Table" "lineName" "[I" ∈ wsX4_readWages := by decide +kernel
theorem kk_X4_readWages_8 : Cond.fieldLink RX4 36 "PaidBySigns$LeastCost" "columns" "I" ∈ wsX4_readWages := by decide +kernel
theorem kk_X4_readWages_9 : Cond.fieldLink RX4 26 "PaidBySigns$LeastCost" "columnSign" "[I" ∈ wsX4_readWages := by decide +kernel
theorem kk_X4_readWages_10 : Cond.fieldLink RX4 132 "PaidBySigns$Table" "entry" "[[J" ∈ wsX4_readWages := by decide +kernel
theorem iw_X8_pivot_X8 : ∀ w ∈ wsX80, w ∈ wsX8_pivot := by decide +kernel
theorem iw_X8_changeLine_X8 : ∀ w ∈ wsX80, w ∈ wsX8_changeLine := by decide +kernel
theorem iw_X4_readWages_X4 : ∀ w ∈ wsX40, w ∈ wsX4_readWages := by decide +kernel
theorem iw_X4_readWages_X8 : ∀ w ∈ wsX80, w ∈ wsX4_readWages := by decide +kernel
