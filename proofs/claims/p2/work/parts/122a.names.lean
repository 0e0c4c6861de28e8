abbrev cX9_does : ByteArray := prog_1_method_12_code
def yX9_does : MethodName := ⟨RX9, "does", "()I"⟩
abbrev cX9_comes : ByteArray := prog_1_method_13_code
def yX9_comes : MethodName := ⟨RX9, "comes", "()I"⟩
abbrev cX9_upper : ByteArray := prog_1_method_14_code
def yX9_upper : MethodName := ⟨RX9, "upper", "()J"⟩
abbrev cX9_lower : ByteArray := prog_1_method_15_code
def yX9_lower : MethodName := ⟨RX9, "lower", "()J"⟩
abbrev cX9_make : ByteArray := prog_1_method_16_code
def yX9_make : MethodName := ⟨RX9, "make", "(I)I"⟩
def wsX9_does_r1 : List Cond := [Cond.fieldLink RX9 19 "PaidBySigns" "hire" "LPaidBySigns$Hire;", Cond.fieldLink RX9 115 "PaidBySigns$Hire" "works" "I", Cond.fieldLink RX9 23 "PaidBySigns" "hand" "[I", Cond.methodLink RX9 162 yX3_doneAt, Cond.instanceMethod yX3_doneAt, Cond.selects RX3 yX3_doneAt yX3_doneAt, Cond.initialized RX3, Cond.code yX3_doneAt cX3_doneAt 5 (some .int), Cond.fieldLink RX3 36 "PaidBySigns$Hire" "works" "I", Cond.methodLink RX3 67 yX3_worthAt, Cond.instanceMethod yX3_worthAt, Cond.selects RX3 yX3_worthAt yX3_worthAt, Cond.code yX3_worthAt cX3_worthAt 5 (some .int), Cond.fieldLink RX3 39 "PaidBySigns$Hire" "whole" "I", Cond.fieldLink RX3 15 "PaidBySigns$Hire" "costs" "[I", Cond.fieldLink RX3 32 "PaidBySigns$Hire" "signs" "I", Cond.fieldLink RX3 20 "PaidBySigns$Hire" "chances" "[[I", Cond.methodLink RX3 63 yX3_feltOf, Cond.instanceMethod yX3_feltOf, Cond.selects RX3 yX3_feltOf yX3_feltOf, Cond.code yX3_feltOf cX3_feltOf 6 (some .int), Cond.fieldLink RX3 48 "PaidBySigns$Hire" "rates" "I", Cond.fieldLink RX3 26 "PaidBySigns$Hire" "mark" "[I", Cond.methodLink RX3 51 Lib.Math.min.name]
def wsX9_does_r2 : List Cond := [Cond.static Lib.Math.min.name, Cond.initialized "java/lang/Math", Cond.code Lib.Math.min.name Lib.Math.min.code 2 (some .int), Cond.fieldLink RX3 23 "PaidBySigns$Hire" "rate" "[I", Cond.methodLink RX3 71 yJ6_compare_7cf53, Cond.static yJ6_compare_7cf53, Cond.initialized RJ6, Cond.code yJ6_compare_7cf53 cJ6_compare_7cf53 2 (some .int), Cond.methodLink RX3 76 yX3_leftAt, Cond.instanceMethod yX3_leftAt, Cond.selects RX3 yX3_leftAt yX3_leftAt, Cond.code yX3_leftAt cX3_leftAt 5 (some .int), Cond.fieldLink RX3 9 "PaidBySigns$Hire" "brings" "[I"]
def wsX9_does : List Cond := .code yX9_does cX9_does 1 (some .int) :: ((wsX9_does_r1 ++ wsX9_does_r2) ++ wsX90 ++ wsX30)
def wsX9_comes_r1 : List Cond := [Cond.fieldLink RX9 19 "PaidBySigns" "hire" "LPaidBySigns$Hire;", Cond.fieldLink RX9 115 "PaidBySigns$Hire" "works" "I", Cond.fieldLink RX9 23 "PaidBySigns" "hand" "[I", Cond.fieldLink RX9 127 "PaidBySigns$Hire" "whole" "I", Cond.fieldLink RX9 130 "PaidBySigns$Hire" "otherwise" "I", Cond.methodLink RX9 162 yX3_doneAt, Cond.instanceMethod yX3_doneAt, Cond.selects RX3 yX3_doneAt yX3_doneAt, Cond.initialized RX3, Cond.code yX3_doneAt cX3_doneAt 5 (some .int), Cond.fieldLink RX3 36 "PaidBySigns$Hire" "works" "I", Cond.methodLink RX3 67 yX3_worthAt, Cond.instanceMethod yX3_worthAt, Cond.selects RX3 yX3_worthAt yX3_worthAt, Cond.code yX3_worthAt cX3_worthAt 5 (some .int), Cond.fieldLink RX3 39 "PaidBySigns$Hire" "whole" "I", Cond.fieldLink RX3 15 "PaidBySigns$Hire" "costs" "[I", Cond.fieldLink RX3 32 "PaidBySigns$Hire" "signs" "I", Cond.fieldLink RX3 20 "PaidBySigns$Hire" "chances" "[[I", Cond.methodLink RX3 63 yX3_feltOf, Cond.instanceMethod yX3_feltOf, Cond.selects RX3 yX3_feltOf yX3_feltOf, Cond.code yX3_feltOf cX3_feltOf 6 (some .int), Cond.fieldLink RX3 48 "PaidBySigns$Hire" "rates" "I"]
def wsX9_comes_r2 : List Cond := [Cond.fieldLink RX3 26 "PaidBySigns$Hire" "mark" "[I", Cond.methodLink RX3 51 Lib.Math.min.name, Cond.static Lib.Math.min.name, Cond.initialized "java/lang/Math", Cond.code Lib.Math.min.name Lib.Math.min.code 2 (some .int), Cond.fieldLink RX3 23 "PaidBySigns$Hire" "rate" "[I", Cond.methodLink RX3 71 yJ6_compare_7cf53, Cond.static yJ6_compare_7cf53, Cond.initialized RJ6, Cond.code yJ6_compare_7cf53 cJ6_compare_7cf53 2 (some .int), Cond.methodLink RX3 76 yX3_leftAt, Cond.instanceMethod yX3_leftAt, Cond.selects RX3 yX3_leftAt yX3_leftAt, Cond.code yX3_leftAt cX3_leftAt 5 (some .int), Cond.fieldLink RX3 9 "PaidBySigns$Hire" "brings" "[I", Cond.methodLink RX9 154 yX3_worthAt]
def wsX9_comes : List Cond := .code yX9_comes cX9_comes 2 (some .int) :: ((wsX9_comes_r1 ++ wsX9_comes_r2) ++ wsX90 ++ wsX30)
def wsX9_upper : List Cond := .code yX9_upper cX9_upper 1 (some .long) :: ([.fieldLink RX9 30 "PaidBySigns" "latest" "LPaidBySigns$Fraction;", .fieldLink RX9 166 "PaidBySigns$Fraction" "upper" "J"] ++ wsX90 ++ wsX20)
def wsX9_lower : List Cond := .code yX9_lower cX9_lower 1 (some .long) :: ([.fieldLink RX9 30 "PaidBySigns" "latest" "LPaidBySigns$Fraction;", .fieldLink RX9 170 "PaidBySigns$Fraction" "lower" "J"] ++ wsX90 ++ wsX20)
def wsX9_make_r1 : List Cond := [Cond.fieldLink RX9 54 "PaidBySigns" "cheapest" "LPaidBySigns$LeastCost;", Cond.fieldLink RX9 19 "PaidBySigns" "hire" "LPaidBySigns$Hire;", Cond.fieldLink RX9 30 "PaidBySigns" "latest" "LPaidBySigns$Fraction;", Cond.fieldLink RX9 124 "PaidBySigns$Hire" "signs" "I", Cond.fieldLink RX9 34 "PaidBySigns" "trial" "LPaidBySigns$Fraction;", Cond.fieldLink RX9 40 "PaidBySigns" "wageUpper" "[J", Cond.fieldLink RX9 166 "PaidBySigns$Fraction" "upper" "J", Cond.fieldLink RX9 44 "PaidBySigns" "wageLower" "[J", Cond.fieldLink RX9 170 "PaidBySigns$Fraction" "lower" "J", Cond.fieldLink RX9 47 "PaidBySigns" "hasWages" "Z", Cond.methodLink RX9 140 yX9_isWork, Cond.instanceMethod yX9_isWork, Cond.selects RX9 yX9_isWork yX9_isWork, Cond.initialized RX9, Cond.code yX9_isWork cX9_isWork 2 (some .boolean), Cond.fieldLink RX9 115 "PaidBySigns$Hire" "works" "I", Cond.methodLink RX9 173 yX4_findWages, Cond.instanceMethod yX4_findWages, Cond.selects RX4 yX4_findWages yX4_findWages, Cond.initialized RX4, Cond.code yX4_findWages cX4_findWages 3 (some .boolean), Cond.fieldLink RX4 63 "PaidBySigns$Hire" "signs" "I", Cond.methodLink RX4 59 yX4_find, Cond.instanceMethod yX4_find]
def wsX9_make_r2 : List Cond := [Cond.selects RX4 yX4_find yX4_find, Cond.code yX4_find cX4_find 6 (some .boolean), Cond.fieldLink RX4 46 "PaidBySigns$LeastCost" "hire" "LPaidBySigns$Hire;", Cond.fieldLink RX4 50 "PaidBySigns$LeastCost" "work" "I", Cond.fieldLink RX4 53 "PaidBySigns$LeastCost" "keptSign" "I", Cond.fieldLink RX4 56 "PaidBySigns$LeastCost" "joinedSign" "I", Cond.fieldLink RX4 22 "PaidBySigns$LeastCost" "table" "LPaidBySigns$Table;", Cond.fieldLink RX4 88 "PaidBySigns$Hire" "works" "I", Cond.fieldLink RX4 40 "PaidBySigns$LeastCost" "rooms" "I", Cond.fieldLink RX4 36 "PaidBySigns$LeastCost" "columns" "I", Cond.methodLink RX4 85 yX4_listColumns, Cond.instanceMethod yX4_listColumns, Cond.selects RX4 yX4_listColumns yX4_listColumns, Cond.code yX4_listColumns cX4_listColumns 2 none, Cond.methodLink RX4 66 yX4_chanceOf, Cond.instanceMethod yX4_chanceOf, Cond.selects RX4 yX4_chanceOf yX4_chanceOf, Cond.code yX4_chanceOf cX4_chanceOf 3 (some .int), Cond.fieldLink RX4 112 "PaidBySigns$Hire" "chances" "[[I", Cond.methodLink RX4 116 yX4_listSteps, Cond.instanceMethod yX4_listSteps, Cond.selects RX4 yX4_listSteps yX4_listSteps, Cond.code yX4_listSteps cX4_listSteps 5 none, Cond.fieldLink RX4 79 "PaidBySigns$Hire" "least" "I"]
def wsX9_make_r3 : List Cond := [Cond.fieldLink RX4 119 "PaidBySigns$Hire" "rates" "I", Cond.fieldLink RX4 122 "PaidBySigns$Hire" "mark" "[I", Cond.fieldLink RX4 26 "PaidBySigns$LeastCost" "columnSign" "[I", Cond.fieldLink RX4 30 "PaidBySigns$LeastCost" "columnRate" "[I", Cond.fieldLink RX4 125 "PaidBySigns$Hire" "rate" "[I", Cond.fieldLink RX4 33 "PaidBySigns$LeastCost" "columnRoom" "[I", Cond.methodLink RX4 91 yX8_start, Cond.instanceMethod yX8_start, Cond.selects RX8 yX8_start yX8_start, Cond.initialized RX8, Cond.code yX8_start cX8_start 5 none, Cond.methodLink RX8 23 Lib.Math.min.name, Cond.static Lib.Math.min.name, Cond.initialized "java/lang/Math", Cond.code Lib.Math.min.name Lib.Math.min.code 2 (some .int), Cond.fieldLink RX8 29 "PaidBySigns$Table" "goals" "I", Cond.fieldLink RX8 33 "PaidBySigns$Table" "lines" "I", Cond.fieldLink RX8 36 "PaidBySigns$Table" "columns" "I", Cond.fieldLink RX8 39 "PaidBySigns$Table" "base" "J", Cond.fieldLink RX8 13 "PaidBySigns$Table" "entry" "[[J", Cond.fieldLink RX8 16 "PaidBySigns$Table" "lineName" "[I", Cond.fieldLink RX8 20 "PaidBySigns$Table" "columnName" "[I", Cond.methodLink RX8 43 yJ7_fill_d0a16, Cond.static yJ7_fill_d0a16]
def wsX9_make_r4 : List Cond := [Cond.initialized RJ7, Cond.code yJ7_fill_d0a16 cJ7_fill_d0a16 5 none, Cond.methodLink RX4 95 yX4_fillGoals, Cond.instanceMethod yX4_fillGoals, Cond.selects RX4 yX4_fillGoals yX4_fillGoals, Cond.code yX4_fillGoals cX4_fillGoals 5 none, Cond.fieldLink RX4 132 "PaidBySigns$Table" "entry" "[[J", Cond.methodLink RX4 128 yX4_partsOf, Cond.instanceMethod yX4_partsOf, Cond.selects RX4 yX4_partsOf yX4_partsOf, Cond.code yX4_partsOf cX4_partsOf 2 (some .int), Cond.methodLink RX4 99 yX4_fillLines, Cond.instanceMethod yX4_fillLines, Cond.selects RX4 yX4_fillLines yX4_fillLines, Cond.code yX4_fillLines cX4_fillLines 6 none, Cond.fieldLink RX4 70 "PaidBySigns$Hire" "whole" "I", Cond.methodLink RX4 136 yX3_lackOf, Cond.instanceMethod yX3_lackOf, Cond.selects RX3 yX3_lackOf yX3_lackOf, Cond.initialized RX3, Cond.code yX3_lackOf cX3_lackOf 3 (some .int), Cond.fieldLink RX3 15 "PaidBySigns$Hire" "costs" "[I", Cond.fieldLink RX3 42 "PaidBySigns$Hire" "otherwise" "I", Cond.fieldLink RX3 45 "PaidBySigns$Hire" "least" "I"]
def wsX9_make_r5 : List Cond := [Cond.methodLink RX3 63 yX3_feltOf, Cond.instanceMethod yX3_feltOf, Cond.selects RX3 yX3_feltOf yX3_feltOf, Cond.code yX3_feltOf cX3_feltOf 6 (some .int), Cond.fieldLink RX3 48 "PaidBySigns$Hire" "rates" "I", Cond.fieldLink RX3 26 "PaidBySigns$Hire" "mark" "[I", Cond.methodLink RX3 51 Lib.Math.min.name, Cond.fieldLink RX3 23 "PaidBySigns$Hire" "rate" "[I", Cond.methodLink RX4 102 yX4_fillRooms, Cond.instanceMethod yX4_fillRooms, Cond.selects RX4 yX4_fillRooms yX4_fillRooms, Cond.code yX4_fillRooms cX4_fillRooms 4 none, Cond.methodLink RX4 105 yX8_solve, Cond.instanceMethod yX8_solve, Cond.selects RX8 yX8_solve yX8_solve, Cond.code yX8_solve cX8_solve 4 (some .boolean), Cond.constant RX8 49 (1000000), Cond.methodLink RX8 50 yX8_lineBelowZero, Cond.instanceMethod yX8_lineBelowZero, Cond.selects RX8 yX8_lineBelowZero yX8_lineBelowZero, Cond.code yX8_lineBelowZero cX8_lineBelowZero 3 (some .int), Cond.methodLink RX8 54 yX8_columnFor, Cond.instanceMethod yX8_columnFor, Cond.selects RX8 yX8_columnFor yX8_columnFor]
def wsX9_make_r6 : List Cond := [Cond.code yX8_columnFor cX8_columnFor 5 (some .int), Cond.methodLink RX8 62 yX8_compareRatios, Cond.instanceMethod yX8_compareRatios, Cond.selects RX8 yX8_compareRatios yX8_compareRatios, Cond.code yX8_compareRatios cX8_compareRatios 13 (some .int), Cond.methodLink RX8 58 yX8_pivot, Cond.instanceMethod yX8_pivot, Cond.selects RX8 yX8_pivot yX8_pivot, Cond.code yX8_pivot cX8_pivot 7 none, Cond.methodLink RX8 66 yX8_changeLine, Cond.instanceMethod yX8_changeLine, Cond.selects RX8 yX8_changeLine yX8_changeLine, Cond.code yX8_changeLine cX8_changeLine 9 none, Cond.methodLink RX4 109 yX4_readWages, Cond.instanceMethod yX4_readWages, Cond.selects RX4 yX4_readWages yX4_readWages, Cond.code yX4_readWages cX4_readWages 3 none, Cond.fieldLink RX4 9 "PaidBySigns$LeastCost" "above" "[J", Cond.constantLong RX4 145 (60), Cond.fieldLink RX4 147 "PaidBySigns$Table" "base" "J", Cond.fieldLink RX4 15 "PaidBySigns$LeastCost" "aboveLower" "J", Cond.fieldLink RX4 150 "PaidBySigns$Table" "goals" "I", Cond.fieldLink RX4 153 "PaidBySigns$Table" "lines" "I", Cond.fieldLink RX4 156 "PaidBySigns$Table" "lineName" "[I"]
def wsX9_make_r7 : List Cond := [Cond.methodLink RX4 139 yJ7_fill_d0a16, Cond.methodLink RX9 177 yX4_costInto, Cond.instanceMethod yX4_costInto, Cond.selects RX4 yX4_costInto yX4_costInto, Cond.code yX4_costInto cX4_costInto 5 none, Cond.methodLink RX4 73 yX2_become, Cond.instanceMethod yX2_become, Cond.selects RX2 yX2_become yX2_become, Cond.initialized RX2, Cond.code yX2_become cX2_become 7 none, Cond.methodLink RX2 20 Lib.MathLoose.abs_long.x, Cond.static Lib.MathLoose.abs_long.x, Cond.code Lib.MathLoose.abs_long.x Lib.MathLoose.abs_long.code 2 (some .long), Cond.fieldLink RX2 11 "PaidBySigns$Fraction" "upper" "J", Cond.fieldLink RX2 17 "PaidBySigns$Fraction" "lower" "J", Cond.methodLink RX2 26 yX2_commonPart, Cond.static yX2_commonPart, Cond.code yX2_commonPart cX2_commonPart 11 (some .long), Cond.methodLink RX2 30 yX2_forget, Cond.instanceMethod yX2_forget, Cond.selects RX2 yX2_forget yX2_forget, Cond.code yX2_forget cX2_forget 1 none, Cond.constantLong RX2 9 (-2000000000), Cond.methodLink RX4 82 yX2_add]
def wsX9_make_r8 : List Cond := [Cond.instanceMethod yX2_add, Cond.selects RX2 yX2_add yX2_add, Cond.code yX2_add cX2_add 5 none, Cond.methodLink RX2 33 yX2_become, Cond.methodLink RX9 181 yX4_wageInto, Cond.instanceMethod yX4_wageInto, Cond.selects RX4 yX4_wageInto yX4_wageInto, Cond.code yX4_wageInto cX4_wageInto 3 none]
def wsX9_make : List Cond := .code yX9_make cX9_make 3 (some .int) :: ((wsX9_make_r1 ++ (wsX9_make_r2 ++ (wsX9_make_r3 ++ (wsX9_make_r4 ++ (wsX9_make_r5 ++ (wsX9_make_r6 ++ (wsX9_make_r7 ++ wsX9_make_r8))))))) ++ wsX90 ++ wsX30 ++ wsX20 ++ wsX40 ++ wsX80)
set_option maxRecDepth 20000 in
theorem ggX9_does_X3_doneAt : GoodIn wsX9_does wsX3_doneAt := goodIn_r _ [8, 9, 10, 11, 12, 7, 13, 14, 15, 16, 17, 18, 19, 20, 21, 22, 23, 24, 25, 26, 27, 28, 29, 30, 31, 32, 33, 34, 35, 36, 37, 52, 53, 54, 55, 56, 57, 58, 59, 60, 61, 62] (by decide +kernel) (by decide +kernel)
set_option maxRecDepth 20000 in
theorem gX9_does_X3_doneAt : GoodIn wsX9_does (wsV RX9 162 RX3 yX3_doneAt wsX3_doneAt) := goodIn_app (goodIn_of _ (by decide +kernel)) ggX9_does_X3_doneAt
theorem dX9_does_0 : decode cX9_does 0 = .ok (.aload_n 0, 1) := by decide +kernel
theorem dX9_does_1 : decode cX9_does 1 = .ok (.getfield 19, 3) := by decide +kernel
theorem dX9_does_4 : decode cX9_does 4 = .ok (.getfield 115, 3) := by decide +kernel
theorem dX9_does_7 : decode cX9_does 7 = .ok (.ifCond .ne 8, 3) := by decide +kernel
theorem dX9_does_10 : decode cX9_does 10 = .ok (.bipush (-4), 2) := by decide +kernel
theorem dX9_does_12 : decode cX9_does 12 = .ok (.goto 14, 3) := by decide +kernel
theorem dX9_does_15 : decode cX9_does 15 = .ok (.aload_n 0, 1) := by decide +kernel
theorem dX9_does_16 : decode cX9_does 16 = .ok (.getfield 19, 3) := by decide +kernel
theorem dX9_does_19 : decode cX9_does 19 = .ok (.aload_n 0, 1) := by decide +kernel
theorem dX9_does_20 : decode cX9_does 20 = .ok (.getfield 23, 3) := by decide +kernel
theorem dX9_does_23 : decode cX9_does 23 = .ok (.invokevirtual 162, 3) := by decide +kernel
theorem dX9_does_26 : decode cX9_does 26 = .ok (.ireturn, 1) := by decide +kernel
set_option maxRecDepth 20000 in
theorem ggX9_comes_X3_doneAt : GoodIn wsX9_comes wsX3_doneAt := goodIn_r _ [10, 11, 12, 13, 14, 9, 15, 16, 17, 18, 19, 20, 21, 22, 23, 24, 25, 26, 27, 28, 29, 30, 31, 32, 33, 34, 35, 36, 37, 38, 39, 55, 56, 57, 58, 59, 60, 61, 62, 63, 64, 65] (by decide +kernel) (by decide +kernel)
set_option maxRecDepth 20000 in
theorem gX9_comes_X3_doneAt : GoodIn wsX9_comes (wsV RX9 162 RX3 yX3_doneAt wsX3_doneAt) := goodIn_app (goodIn_of _ (by decide +kernel)) ggX9_comes_X3_doneAt
set_option maxRecDepth 20000 in
theorem ggX9_comes_X3_worthAt : GoodIn wsX9_comes wsX3_worthAt := goodIn_r _ [15, 16, 17, 18, 19, 20, 21, 22, 9, 23, 24, 25, 26, 27, 28, 29, 30, 55, 56, 57, 58, 59, 60, 61, 62, 63, 64, 65] (by decide +kernel) (by decide +kernel)
set_option maxRecDepth 20000 in
theorem gX9_comes_X3_worthAt : GoodIn wsX9_comes (wsV RX9 154 RX3 yX3_worthAt wsX3_worthAt) := goodIn_app (goodIn_of _ (by decide +kernel)) ggX9_comes_X3_worthAt
theorem dX9_comes_0 : decode cX9_comes 0 = .ok (.aload_n 0, 1) := by decide +kernel
theorem dX9_comes_1 : decode cX9_comes 1 = .ok (.getfield 19, 3) := by decide +kernel
theorem dX9_comes_4 : decode cX9_comes 4 = .ok (.getfield 115, 3) := by decide +kernel
theorem dX9_comes_7 : decode cX9_comes 7 = .ok (.ifCond .ne 6, 3) := by decide +kernel
theorem dX9_comes_10 : decode cX9_comes 10 = .ok (.bipush (-4), 2) := by decide +kernel
theorem dX9_comes_12 : decode cX9_comes 12 = .ok (.ireturn, 1) := by decide +kernel
theorem dX9_comes_13 : decode cX9_comes 13 = .ok (.aload_n 0, 1) := by decide +kernel
theorem dX9_comes_14 : decode cX9_comes 14 = .ok (.getfield 19, 3) := by decide +kernel
theorem dX9_comes_17 : decode cX9_comes 17 = .ok (.aload_n 0, 1) := by decide +kernel
theorem dX9_comes_18 : decode cX9_comes 18 = .ok (.getfield 19, 3) := by decide +kernel
theorem dX9_comes_21 : decode cX9_comes 21 = .ok (.aload_n 0, 1) := by decide +kernel
theorem dX9_comes_22 : decode cX9_comes 22 = .ok (.getfield 23, 3) := by decide +kernel
theorem dX9_comes_25 : decode cX9_comes 25 = .ok (.invokevirtual 162, 3) := by decide +kernel
theorem dX9_comes_28 : decode cX9_comes 28 = .ok (.aload_n 0, 1) := by decide +kernel
theorem dX9_comes_29 : decode cX9_comes 29 = .ok (.getfield 23, 3) := by decide +kernel
theorem dX9_comes_32 : decode cX9_comes 32 = .ok (.invokevirtual 154, 3) := by decide +kernel
theorem dX9_comes_35 : decode cX9_comes 35 = .ok (.istore_n 1, 1) := by decide +kernel
theorem dX9_comes_36 : decode cX9_comes 36 = .ok (.iload_n 1, 1) := by decide +kernel
theorem dX9_comes_37 : decode cX9_comes 37 = .ok (.aload_n 0, 1) := by decide +kernel
theorem dX9_comes_38 : decode cX9_comes 38 = .ok (.getfield 19, 3) := by decide +kernel
theorem dX9_comes_41 : decode cX9_comes 41 = .ok (.getfield 127, 3) := by decide +kernel
theorem dX9_comes_44 : decode cX9_comes 44 = .ok (.aload_n 0, 1) := by decide +kernel
theorem dX9_comes_45 : decode cX9_comes 45 = .ok (.getfield 19, 3) := by decide +kernel
theorem dX9_comes_48 : decode cX9_comes 48 = .ok (.getfield 130, 3) := by decide +kernel
theorem dX9_comes_51 : decode cX9_comes 51 = .ok (.imul, 1) := by decide +kernel
theorem dX9_comes_52 : decode cX9_comes 52 = .ok (.if_icmp .lt 7, 3) := by decide +kernel
theorem dX9_comes_55 : decode cX9_comes 55 = .ok (.iconst 1, 1) := by decide +kernel
theorem dX9_comes_56 : decode cX9_comes 56 = .ok (.goto 4, 3) := by decide +kernel
theorem dX9_comes_59 : decode cX9_comes 59 = .ok (.iconst 0, 1) := by decide +kernel
theorem dX9_comes_60 : decode cX9_comes 60 = .ok (.ireturn, 1) := by decide +kernel
theorem dX9_upper_0 : decode cX9_upper 0 = .ok (.aload_n 0, 1) := by decide +kernel
theorem dX9_upper_1 : decode cX9_upper 1 = .ok (.getfield 30, 3) := by decide +kernel
theorem dX9_upper_4 : decode cX9_upper 4 = .ok (.getfield 166, 3) := by decide +kernel
theorem dX9_upper_7 : decode cX9_upper 7 = .ok (.lreturn, 1) := by decide +kernel
theorem dX9_lower_0 : decode cX9_lower 0 = .ok (.aload_n 0, 1) := by decide +kernel
theorem dX9_lower_1 : decode cX9_lower 1 = .ok (.getfield 30, 3) := by decide +kernel
theorem dX9_lower_4 : decode cX9_lower 4 = .ok (.getfield 170, 3) := by decide +kernel
theorem dX9_lower_7 : decode cX9_lower 7 = .ok (.lreturn, 1) := by decide +kernel
set_option maxRecDepth 20000 in
theorem ggX9_make_X9_isWork : GoodIn wsX9_make wsX9_isWork := goodIn_r _ [15, 2, 16, 177, 178, 179, 180, 181, 182, 183, 184, 185, 186, 187, 188, 189, 190, 191, 192, 193, 194, 195, 196, 197, 198, 199, 200, 201] (by decide +kernel) (by decide +kernel)
set_option maxRecDepth 20000 in
theorem gX9_make_X9_isWork : GoodIn wsX9_make (wsV RX9 140 RX9 yX9_isWork wsX9_isWork) := goodIn_app (goodIn_of _ (by decide +kernel)) ggX9_make_X9_isWork
set_option maxRecDepth 20000 in
theorem ggX9_make_X4_findWages : GoodIn wsX9_make wsX4_findWages := goodIn_r _ [21, 22, 23, 24, 25, 20, 26, 27, 28, 29, 30, 31, 32, 33, 34, 35, 36, 37, 38, 39, 40, 41, 42, 43, 44, 45, 46, 47, 48, 49, 50, 51, 52, 53, 54, 55, 56, 57, 58, 59, 60, 61, 62, 63, 64, 65, 66, 67, 68, 69, 70, 71, 72, 73, 74, 75, 76, 77, 78, 79, 80, 81, 82, 83, 84, 85, 86, 87, 88, 89, 90, 91, 92, 93, 94, 95, 96, 97, 98, 99, 100, 101, 102, 103, 104, 105, 106, 107, 108, 109, 110, 111, 112, 113, 114, 115, 116, 117, 118, 119, 120, 121, 122, 123, 124, 125, 126, 127, 128, 129, 130, 131, 132, 133, 134, 135, 136, 137, 138, 139, 140, 141, 142, 143, 144, 145, 191, 192, 193, 194, 195, 196, 197, 198, 199, 200, 201, 204, 205, 206, 207, 208, 209, 210, 211, 212, 213, 214, 215, 216, 217, 218, 219, 220, 221, 222] (by decide +kernel) (by decide +kernel)
set_option maxRecDepth 20000 in
theorem gX9_make_X4_findWages : GoodIn wsX9_make (wsV RX9 173 RX4 yX4_findWages wsX4_findWages) := goodIn_app (goodIn_of _ (by decide +kernel)) ggX9_make_X4_findWages
set_option maxRecDepth 20000 in
theorem ggX9_make_X4_costInto : GoodIn wsX9_make wsX4_costInto := goodIn_r _ [149, 27, 22, 28, 138, 88, 141, 48, 39, 40, 41, 20, 42, 30, 29, 43, 150, 151, 152, 153, 154, 155, 156, 62, 157, 158, 159, 160, 161, 162, 163, 164, 165, 166, 167, 168, 169, 170, 171, 172, 204, 205, 206, 207, 208, 209, 210, 211, 212, 213, 214, 215, 191, 192, 193, 194, 195, 196, 197, 198, 199, 200, 201, 202, 203] (by decide +kernel) (by decide +kernel)
set_option maxRecDepth 20000 in
theorem gX9_make_X4_costInto : GoodIn wsX9_make (wsV RX9 177 RX4 yX4_costInto wsX4_costInto) := goodIn_app (goodIn_of _ (by decide +kernel)) ggX9_make_X4_costInto
set_option maxRecDepth 20000 in
theorem ggX9_make_X4_wageInto : GoodIn wsX9_make wsX4_wageInto := goodIn_r _ [176, 27, 48, 141, 138, 150, 151, 152, 153, 154, 155, 156, 62, 157, 158, 159, 160, 161, 162, 163, 164, 165, 166, 167, 204, 205, 206, 207, 208, 209, 210, 211, 212, 213, 214, 215, 191, 192, 193, 194, 195, 196, 197, 198, 199, 200, 201, 202, 203] (by decide +kernel) (by decide +kernel)
set_option maxRecDepth 20000 in
theorem gX9_make_X4_wageInto : GoodIn wsX9_make (wsV RX9 181 RX4 yX4_wageInto wsX4_wageInto) := goodIn_app (goodIn_of _ (by decide +kernel)) ggX9_make_X4_wageInto
theorem dX9_make_0 : decode cX9_make 0 = .ok (.aload_n 0, 1) := by decide +kernel
theorem dX9_make_1 : decode cX9_make 1 = .ok (.iload_n 1, 1) := by decide +kernel
theorem dX9_make_2 : decode cX9_make 2 = .ok (.invokevirtual 140, 3) := by decide +kernel
theorem dX9_make_5 : decode cX9_make 5 = .ok (.ifCond .ne 6, 3) := by decide +kernel
theorem dX9_make_8 : decode cX9_make 8 = .ok (.bipush (-2), 2) := by decide +kernel
theorem dX9_make_10 : decode cX9_make 10 = .ok (.ireturn, 1) := by decide +kernel
theorem dX9_make_11 : decode cX9_make 11 = .ok (.aload_n 0, 1) := by decide +kernel
theorem dX9_make_12 : decode cX9_make 12 = .ok (.getfield 54, 3) := by decide +kernel
theorem dX9_make_15 : decode cX9_make 15 = .ok (.aload_n 0, 1) := by decide +kernel
theorem dX9_make_16 : decode cX9_make 16 = .ok (.getfield 19, 3) := by decide +kernel
theorem dX9_make_19 : decode cX9_make 19 = .ok (.iload_n 1, 1) := by decide +kernel
theorem dX9_make_20 : decode cX9_make 20 = .ok (.invokevirtual 173, 3) := by decide +kernel
theorem dX9_make_23 : decode cX9_make 23 = .ok (.ifCond .ne 5, 3) := by decide +kernel
theorem dX9_make_26 : decode cX9_make 26 = .ok (.iconst (-1), 1) := by decide +kernel
theorem dX9_make_27 : decode cX9_make 27 = .ok (.ireturn, 1) := by decide +kernel
theorem dX9_make_28 : decode cX9_make 28 = .ok (.aload_n 0, 1) := by decide +kernel
theorem dX9_make_29 : decode cX9_make 29 = .ok (.getfield 54, 3) := by decide +kernel
theorem dX9_make_32 : decode cX9_make 32 = .ok (.aload_n 0, 1) := by decide +kernel
theorem dX9_make_33 : decode cX9_make 33 = .ok (.getfield 30, 3) := by decide +kernel
theorem dX9_make_36 : decode cX9_make 36 = .ok (.invokevirtual 177, 3) := by decide +kernel
theorem dX9_make_39 : decode cX9_make 39 = .ok (.iconst 0, 1) := by decide +kernel
theorem dX9_make_40 : decode cX9_make 40 = .ok (.istore_n 2, 1) := by decide +kernel
theorem dX9_make_41 : decode cX9_make 41 = .ok (.iload_n 2, 1) := by decide +kernel
theorem dX9_make_42 : decode cX9_make 42 = .ok (.aload_n 0, 1) := by decide +kernel
theorem dX9_make_43 : decode cX9_make 43 = .ok (.getfield 19, 3) := by decide +kernel
theorem dX9_make_46 : decode cX9_make 46 = .ok (.getfield 124, 3) := by decide +kernel
theorem dX9_make_49 : decode cX9_make 49 = .ok (.if_icmp .ge 47, 3) := by decide +kernel
theorem dX9_make_52 : decode cX9_make 52 = .ok (.aload_n 0, 1) := by decide +kernel
theorem dX9_make_53 : decode cX9_make 53 = .ok (.getfield 54, 3) := by decide +kernel
theorem dX9_make_56 : decode cX9_make 56 = .ok (.aload_n 0, 1) := by decide +kernel
theorem dX9_make_57 : decode cX9_make 57 = .ok (.getfield 34, 3) := by decide +kernel
theorem dX9_make_60 : decode cX9_make 60 = .ok (.iload_n 2, 1) := by decide +kernel
theorem dX9_make_61 : decode cX9_make 61 = .ok (.invokevirtual 181, 3) := by decide +kernel
theorem dX9_make_64 : decode cX9_make 64 = .ok (.aload_n 0, 1) := by decide +kernel
theorem dX9_make_65 : decode cX9_make 65 = .ok (.getfield 40, 3) := by decide +kernel
theorem dX9_make_68 : decode cX9_make 68 = .ok (.iload_n 2, 1) := by decide +kernel
theorem dX9_make_69 : decode cX9_make 69 = .ok (.aload_n 0, 1) := by decide +kernel
theorem dX9_make_70 : decode cX9_make 70 = .ok (.getfield 34, 3) := by decide +kernel
theorem dX9_make_73 : decode cX9_make 73 = .ok (.getfield 166, 3) := by decide +kernel
theorem dX9_make_76 : decode cX9_make 76 = .ok (.lastore, 1) := by decide +kernel
theorem dX9_make_77 : decode cX9_make 77 = .ok (.aload_n 0, 1) := by decide +kernel
theorem dX9_make_78 : decode cX9_make 78 = .ok (.getfield 44, 3) := by decide +kernel
theorem dX9_make_81 : decode cX9_make 81 = .ok (.iload_n 2, 1) := by decide +kernel
theorem dX9_make_82 : decode cX9_make 82 = .ok (.aload_n 0, 1) := by decide +kernel
theorem dX9_make_83 : decode cX9_make 83 = .ok (.getfield 34, 3) := by decide +kernel
theorem dX9_make_86 : decode cX9_make 86 = .ok (.getfield 170, 3) := by decide +kernel
theorem dX9_make_89 : decode cX9_make 89 = .ok (.lastore, 1) := by decide +kernel
theorem dX9_make_90 : decode cX9_make 90 = .ok (.iinc 2 1, 3) := by decide +kernel
theorem dX9_make_93 : decode cX9_make 93 = .ok (.goto (-52), 3) := by decide +kernel
theorem dX9_make_96 : decode cX9_make 96 = .ok (.aload_n 0, 1) := by decide +kernel
theorem dX9_make_97 : decode cX9_make 97 = .ok (.iconst 1, 1) := by decide +kernel
theorem dX9_make_98 : decode cX9_make 98 = .ok (.putfield 47, 3) := by decide +kernel
theorem dX9_make_101 : decode cX9_make 101 = .ok (.iconst 1, 1) := by decide +kernel
theorem dX9_make_102 : decode cX9_make 102 = .ok (.ireturn, 1) := by decide +kernel
theorem kk_X9_does_0 : Cond.fieldLink RX9 19 "PaidBySigns" "hire" "LPaidBySigns$Hire;" ∈ wsX9_does := by decide +kernel
theorem kk_X9_does_1 : Cond.fieldLink RX9 115 "PaidBySigns$Hire" "works" "I" ∈ wsX9_does := by decide +kernel
theorem kk_X9_does_2 : Cond.fieldLink RX9 23 "PaidBySigns" "hand" "[I" ∈ wsX9_does := by decide +kernel
theorem kk_X9_comes_0 : Cond.fieldLink RX9 19 "PaidBySigns" "hire" "LPaidBySigns$Hire;" ∈ wsX9_comes := by decide +kernel
theorem kk_X9_comes_1 : Cond.fieldLink RX9 115 "PaidBySigns$Hire" "works" "I" ∈ wsX9_comes := by decide +kernel
theorem kk_X9_comes_2 : Cond.fieldLink RX9 23 "PaidBySigns" "hand" "[I" ∈ wsX9_comes := by decide +kernel
theorem kk_X9_comes_3 : Cond.fieldLink RX9 127 "PaidBySigns$Hire" "whole" "I" ∈ wsX9_comes := by decide +kernel
theorem kk_X9_comes_4 : Cond.fieldLink RX9 130 "PaidBySigns$Hire" "otherwise" "I" ∈ wsX9_comes := by decide +kernel
theorem kk_X9_upper_0 : Cond.fieldLink RX9 30 "PaidBySigns" "latest" "LPaidBySigns$Fraction;" ∈ wsX9_upper := by decide +kernel
theorem kk_X9_upper_1 : Cond.fieldLink RX9 166 "PaidBySigns$Fraction" "upper" "J" ∈ wsX9_upper := by decide +kernel
theorem kk_X9_lower_0 : Cond.fieldLink RX9 30 "PaidBySigns" "latest" "LPaidBySigns$Fraction;" ∈ wsX9_lower := by decide +kernel
theorem kk_X9_lower_1 : Cond.fieldLink RX9 170 "PaidBySigns$Fraction" "lower" "J" ∈ wsX9_lower := by decide +kernel
theorem kk_X9_make_0 : Cond.fieldLink RX9 54 "PaidBySigns" "cheapest" "LPaidBySigns$LeastCost;" ∈ wsX9_make := by decide +kernel
theorem kk_X9_make_1 : Cond.fieldLink RX9 19 "PaidBySigns" "hire" "LPaidBySigns$Hire;" ∈ wsX9_make := by decide +kernel
theorem kk_X9_make_2 : Cond.fieldLink RX9 30 "PaidBySigns" "latest" "LPaidBySigns$Fraction;" ∈ wsX9_make := by decide +kernel
theorem kk_X9_make_3 : Cond.fieldLink RX9 124 "PaidBySigns$Hire" "signs" "I" ∈ wsX9_make := by decide +kernel
theorem kk_X9_make_4 : Cond.fieldLink RX9 47 "PaidBySigns" "hasWages" "Z" ∈ wsX9_make := by decide +kernel
theorem kk_X9_make_5 : Cond.fieldLink RX9 34 "PaidBySigns" "trial" "LPaidBySigns$Fraction;" ∈ wsX9_make := by decide +kernel
theorem kk_X9_make_6 : Cond.fieldLink RX9 40 "PaidBySigns" "wageUpper" "[J" ∈ wsX9_make := by decide +kernel
theorem kk_X9_make_7 : Cond.fieldLink RX9 166 "PaidBySigns$Fraction" "upper" "J" ∈ wsX9_make := by decide +kernel
theorem kk_X9_make_8 : Cond.fieldLink RX9 44 "PaidBySigns" "wageLower" "[J" ∈ wsX9_make := by decide +kernel
theorem kk_X9_make_9 : Cond.fieldLink RX9 170 "PaidBySigns$Fraction" "lower" "J" ∈ wsX9_make := by decide +kernel
theorem iw_X9_does_X9 : ∀ w ∈ wsX90, w ∈ wsX9_does := by decide +kernel
theorem iw_X9_does_X3 : ∀ w ∈ wsX30, w ∈ wsX9_does := by decide +kernel
theorem iw_X9_comes_X9 : ∀ w ∈ wsX90, w ∈ wsX9_comes := by decide +kernel
theorem iw_X9_comes_X3 : ∀ w ∈ wsX30, w ∈ wsX9_comes := by decide +kernel
theorem iw_X9_upper_X9 : ∀ w ∈ wsX90, w ∈ wsX9_upper := by decide +kernel
theorem iw_X9_upper_X2 : ∀ w ∈ wsX20, w ∈ wsX9_upper := by decide +kernel
theorem iw_X9_lower_X9 : ∀ w ∈ wsX90, w ∈ wsX9_lower := by decide +kernel
theorem iw_X9_lower_X2 : ∀ w ∈ wsX20, w ∈ wsX9_lower := by decide +kernel
theorem iw_X9_make_X9 : ∀ w ∈ wsX90, w ∈ wsX9_make := by decide +kernel
theorem iw_X9_make_X3 : ∀ w ∈ wsX30, w ∈ wsX9_make := by decide +kernel
theorem iw_X9_make_X2 : ∀ w ∈ wsX20, w ∈ wsX9_make := by decide +kernel
