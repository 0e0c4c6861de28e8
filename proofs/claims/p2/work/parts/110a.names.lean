abbrev cX4_findWages : ByteArray := prog_6_method_3_code
def yX4_findWages : MethodName := ⟨RX4, "findWages", "(LPaidBySigns$Hire;I)Z"⟩
abbrev cX4_findMerged : ByteArray := prog_6_method_4_code
def yX4_findMerged : MethodName := ⟨RX4, "findMerged", "(LPaidBySigns$Hire;III)Z"⟩
abbrev cX4_costInto : ByteArray := prog_6_method_5_code
def yX4_costInto : MethodName := ⟨RX4, "costInto", "(LPaidBySigns$Fraction;)V"⟩
abbrev cX4_wageInto : ByteArray := prog_6_method_6_code
def yX4_wageInto : MethodName := ⟨RX4, "wageInto", "(LPaidBySigns$Fraction;I)V"⟩
def tyX5 : Nat → FieldType := fun k => match k with
  | 0 => .long
  | 1 => .long
  | 2 => .long
  | 3 => .long
  | _ => .boolean
abbrev wsX50 : List Cond := u_ws RX5 TX5 5
theorem nmX5 : ∀ a, a < 5 → ∀ b, b < 5 → a ≠ b → (TX5 a).2.1 ≠ (TX5 b).2.1 := by decide +kernel
theorem tyX5_ok : ∀ k, k < 5 → parseFieldDescriptor (TX5 k).2.2.1 = some (tyX5 k) := by decide +kernel
abbrev cX5_start : ByteArray := prog_7_method_5_code
def yX5_start : MethodName := ⟨RX5, "start", "()V"⟩
def wsX4_findWages_r1 : List Cond := [Cond.fieldLink RX4 63 "PaidBySigns$Hire" "signs" "I", Cond.methodLink RX4 59 yX4_find, Cond.instanceMethod yX4_find, Cond.selects RX4 yX4_find yX4_find, Cond.initialized RX4, Cond.code yX4_find cX4_find 6 (some .boolean), Cond.fieldLink RX4 46 "PaidBySigns$LeastCost" "hire" "LPaidBySigns$Hire;", Cond.fieldLink RX4 50 "PaidBySigns$LeastCost" "work" "I", Cond.fieldLink RX4 53 "PaidBySigns$LeastCost" "keptSign" "I", Cond.fieldLink RX4 56 "PaidBySigns$LeastCost" "joinedSign" "I", Cond.fieldLink RX4 22 "PaidBySigns$LeastCost" "table" "LPaidBySigns$Table;", Cond.fieldLink RX4 88 "PaidBySigns$Hire" "works" "I", Cond.fieldLink RX4 40 "PaidBySigns$LeastCost" "rooms" "I", Cond.fieldLink RX4 36 "PaidBySigns$LeastCost" "columns" "I", Cond.methodLink RX4 85 yX4_listColumns, Cond.instanceMethod yX4_listColumns, Cond.selects RX4 yX4_listColumns yX4_listColumns, Cond.code yX4_listColumns cX4_listColumns 2 none, Cond.methodLink RX4 66 yX4_chanceOf, Cond.instanceMethod yX4_chanceOf, Cond.selects RX4 yX4_chanceOf yX4_chanceOf, Cond.code yX4_chanceOf cX4_chanceOf 3 (some .int), Cond.fieldLink RX4 112 "PaidBySigns$Hire" "chances" "[[I", Cond.methodLink RX4 116 yX4_listSteps]
def wsX4_findWages_r2 : List Cond := [Cond.instanceMethod yX4_listSteps, Cond.selects RX4 yX4_listSteps yX4_listSteps, Cond.code yX4_listSteps cX4_listSteps 5 none, Cond.fieldLink RX4 79 "PaidBySigns$Hire" "least" "I", Cond.fieldLink RX4 119 "PaidBySigns$Hire" "rates" "I", Cond.fieldLink RX4 122 "PaidBySigns$Hire" "mark" "[I", Cond.fieldLink RX4 26 "PaidBySigns$LeastCost" "columnSign" "[I", Cond.fieldLink RX4 30 "PaidBySigns$LeastCost" "columnRate" "[I", Cond.fieldLink RX4 125 "PaidBySigns$Hire" "rate" "[I", Cond.fieldLink RX4 33 "PaidBySigns$LeastCost" "columnRoom" "[I", Cond.methodLink RX4 91 yX8_start, Cond.instanceMethod yX8_start, Cond.selects RX8 yX8_start yX8_start, Cond.initialized RX8, Cond.code yX8_start cX8_start 5 none, Cond.methodLink RX8 23 Lib.Math.min.name, Cond.static Lib.Math.min.name, Cond.initialized "java/lang/Math", Cond.code Lib.Math.min.name Lib.Math.min.code 2 (some .int), Cond.fieldLink RX8 29 "PaidBySigns$Table" "goals" "I", Cond.fieldLink RX8 33 "PaidBySigns$Table" "lines" "I", Cond.fieldLink RX8 36 "PaidBySigns$Table" "columns" "I", Cond.fieldLink RX8 39 "PaidBySigns$Table" "base" "J", Cond.fieldLink RX8 13 "PaidBySigns$Table" "entry" "[[J"]
def wsX4_findWages_r3 : List Cond := [Cond.fieldLink RX8 16 "PaidBySigns$Table" "lineName" "[I", Cond.fieldLink RX8 20 "PaidBySigns$Table" "columnName" "[I", Cond.methodLink RX8 43 yJ7_fill_d0a16, Cond.static yJ7_fill_d0a16, Cond.initialized RJ7, Cond.code yJ7_fill_d0a16 cJ7_fill_d0a16 5 none, Cond.methodLink RX4 95 yX4_fillGoals, Cond.instanceMethod yX4_fillGoals, Cond.selects RX4 yX4_fillGoals yX4_fillGoals, Cond.code yX4_fillGoals cX4_fillGoals 5 none, Cond.fieldLink RX4 132 "PaidBySigns$Table" "entry" "[[J", Cond.methodLink RX4 128 yX4_partsOf, Cond.instanceMethod yX4_partsOf, Cond.selects RX4 yX4_partsOf yX4_partsOf, Cond.code yX4_partsOf cX4_partsOf 2 (some .int), Cond.methodLink RX4 99 yX4_fillLines, Cond.instanceMethod yX4_fillLines, Cond.selects RX4 yX4_fillLines yX4_fillLines, Cond.code yX4_fillLines cX4_fillLines 6 none, Cond.fieldLink RX4 70 "PaidBySigns$Hire" "whole" "I", Cond.methodLink RX4 136 yX3_lackOf, Cond.instanceMethod yX3_lackOf, Cond.selects RX3 yX3_lackOf yX3_lackOf, Cond.initialized RX3]
def wsX4_findWages_r4 : List Cond := [Cond.code yX3_lackOf cX3_lackOf 3 (some .int), Cond.fieldLink RX3 15 "PaidBySigns$Hire" "costs" "[I", Cond.fieldLink RX3 42 "PaidBySigns$Hire" "otherwise" "I", Cond.fieldLink RX3 45 "PaidBySigns$Hire" "least" "I", Cond.methodLink RX3 63 yX3_feltOf, Cond.instanceMethod yX3_feltOf, Cond.selects RX3 yX3_feltOf yX3_feltOf, Cond.code yX3_feltOf cX3_feltOf 6 (some .int), Cond.fieldLink RX3 48 "PaidBySigns$Hire" "rates" "I", Cond.fieldLink RX3 26 "PaidBySigns$Hire" "mark" "[I", Cond.methodLink RX3 51 Lib.Math.min.name, Cond.fieldLink RX3 23 "PaidBySigns$Hire" "rate" "[I", Cond.methodLink RX4 102 yX4_fillRooms, Cond.instanceMethod yX4_fillRooms, Cond.selects RX4 yX4_fillRooms yX4_fillRooms, Cond.code yX4_fillRooms cX4_fillRooms 4 none, Cond.methodLink RX4 105 yX8_solve, Cond.instanceMethod yX8_solve, Cond.selects RX8 yX8_solve yX8_solve, Cond.code yX8_solve cX8_solve 4 (some .boolean), Cond.constant RX8 49 (1000000), Cond.methodLink RX8 50 yX8_lineBelowZero, Cond.instanceMethod yX8_lineBelowZero, Cond.selects RX8 yX8_lineBelowZero yX8_lineBelowZero]
def wsX4_findWages_r5 : List Cond := [Cond.code yX8_lineBelowZero cX8_lineBelowZero 3 (some .int), Cond.methodLink RX8 54 yX8_columnFor, Cond.instanceMethod yX8_columnFor, Cond.selects RX8 yX8_columnFor yX8_columnFor, Cond.code yX8_columnFor cX8_columnFor 5 (some .int), Cond.methodLink RX8 62 yX8_compareRatios, Cond.instanceMethod yX8_compareRatios, Cond.selects RX8 yX8_compareRatios yX8_compareRatios, Cond.code yX8_compareRatios cX8_compareRatios 13 (some .int), Cond.methodLink RX8 58 yX8_pivot, Cond.instanceMethod yX8_pivot, Cond.selects RX8 yX8_pivot yX8_pivot, Cond.code yX8_pivot cX8_pivot 7 none, Cond.methodLink RX8 66 yX8_changeLine, Cond.instanceMethod yX8_changeLine, Cond.selects RX8 yX8_changeLine yX8_changeLine, Cond.code yX8_changeLine cX8_changeLine 9 none, Cond.methodLink RX4 109 yX4_readWages, Cond.instanceMethod yX4_readWages, Cond.selects RX4 yX4_readWages yX4_readWages, Cond.code yX4_readWages cX4_readWages 3 none, Cond.fieldLink RX4 9 "PaidBySigns$LeastCost" "above" "[J", Cond.constantLong RX4 145 (60), Cond.fieldLink RX4 147 "PaidBySigns$Table" "base" "J"]
def wsX4_findWages_r6 : List Cond := [Cond.fieldLink RX4 15 "PaidBySigns$LeastCost" "aboveLower" "J", Cond.fieldLink RX4 150 "PaidBySigns$Table" "goals" "I", Cond.fieldLink RX4 153 "PaidBySigns$Table" "lines" "I", Cond.fieldLink RX4 156 "PaidBySigns$Table" "lineName" "[I", Cond.methodLink RX4 139 yJ7_fill_d0a16]
def wsX4_findWages : List Cond := .code yX4_findWages cX4_findWages 3 (some .boolean) :: ((wsX4_findWages_r1 ++ (wsX4_findWages_r2 ++ (wsX4_findWages_r3 ++ (wsX4_findWages_r4 ++ (wsX4_findWages_r5 ++ wsX4_findWages_r6))))) ++ wsX30 ++ wsX40 ++ wsX80)
def wsX4_findMerged_r1 : List Cond := [Cond.methodLink RX4 59 yX4_find, Cond.instanceMethod yX4_find, Cond.selects RX4 yX4_find yX4_find, Cond.initialized RX4, Cond.code yX4_find cX4_find 6 (some .boolean), Cond.fieldLink RX4 46 "PaidBySigns$LeastCost" "hire" "LPaidBySigns$Hire;", Cond.fieldLink RX4 50 "PaidBySigns$LeastCost" "work" "I", Cond.fieldLink RX4 53 "PaidBySigns$LeastCost" "keptSign" "I", Cond.fieldLink RX4 56 "PaidBySigns$LeastCost" "joinedSign" "I", Cond.fieldLink RX4 22 "PaidBySigns$LeastCost" "table" "LPaidBySigns$Table;", Cond.fieldLink RX4 88 "PaidBySigns$Hire" "works" "I", Cond.fieldLink RX4 40 "PaidBySigns$LeastCost" "rooms" "I", Cond.fieldLink RX4 36 "PaidBySigns$LeastCost" "columns" "I", Cond.methodLink RX4 85 yX4_listColumns, Cond.instanceMethod yX4_listColumns, Cond.selects RX4 yX4_listColumns yX4_listColumns, Cond.code yX4_listColumns cX4_listColumns 2 none, Cond.fieldLink RX4 63 "PaidBySigns$Hire" "signs" "I", Cond.methodLink RX4 66 yX4_chanceOf, Cond.instanceMethod yX4_chanceOf, Cond.selects RX4 yX4_chanceOf yX4_chanceOf, Cond.code yX4_chanceOf cX4_chanceOf 3 (some .int), Cond.fieldLink RX4 112 "PaidBySigns$Hire" "chances" "[[I", Cond.methodLink RX4 116 yX4_listSteps]
def wsX4_findMerged_r2 : List Cond := [Cond.instanceMethod yX4_listSteps, Cond.selects RX4 yX4_listSteps yX4_listSteps, Cond.code yX4_listSteps cX4_listSteps 5 none, Cond.fieldLink RX4 79 "PaidBySigns$Hire" "least" "I", Cond.fieldLink RX4 119 "PaidBySigns$Hire" "rates" "I", Cond.fieldLink RX4 122 "PaidBySigns$Hire" "mark" "[I", Cond.fieldLink RX4 26 "PaidBySigns$LeastCost" "columnSign" "[I", Cond.fieldLink RX4 30 "PaidBySigns$LeastCost" "columnRate" "[I", Cond.fieldLink RX4 125 "PaidBySigns$Hire" "rate" "[I", Cond.fieldLink RX4 33 "PaidBySigns$LeastCost" "columnRoom" "[I", Cond.methodLink RX4 91 yX8_start, Cond.instanceMethod yX8_start, Cond.selects RX8 yX8_start yX8_start, Cond.initialized RX8, Cond.code yX8_start cX8_start 5 none, Cond.methodLink RX8 23 Lib.Math.min.name, Cond.static Lib.Math.min.name, Cond.initialized "java/lang/Math", Cond.code Lib.Math.min.name Lib.Math.min.code 2 (some .int), Cond.fieldLink RX8 29 "PaidBySigns$Table" "goals" "I", Cond.fieldLink RX8 33 "PaidBySigns$Table" "lines" "I", Cond.fieldLink RX8 36 "PaidBySigns$Table" "columns" "I", Cond.fieldLink RX8 39 "PaidBySigns$Table" "base" "J", Cond.fieldLink RX8 13 "PaidBySigns$Table" "entry" "[[J"]
def wsX4_findMerged_r3 : List Cond := [Cond.fieldLink RX8 16 "PaidBySigns$Table" "lineName" "[I", Cond.fieldLink RX8 20 "PaidBySigns$Table" "columnName" "[I", Cond.methodLink RX8 43 yJ7_fill_d0a16, Cond.static yJ7_fill_d0a16, Cond.initialized RJ7, Cond.code yJ7_fill_d0a16 cJ7_fill_d0a16 5 none, Cond.methodLink RX4 95 yX4_fillGoals, Cond.instanceMethod yX4_fillGoals, Cond.selects RX4 yX4_fillGoals yX4_fillGoals, Cond.code yX4_fillGoals cX4_fillGoals 5 none, Cond.fieldLink RX4 132 "PaidBySigns$Table" "entry" "[[J", Cond.methodLink RX4 128 yX4_partsOf, Cond.instanceMethod yX4_partsOf, Cond.selects RX4 yX4_partsOf yX4_partsOf, Cond.code yX4_partsOf cX4_partsOf 2 (some .int), Cond.methodLink RX4 99 yX4_fillLines, Cond.instanceMethod yX4_fillLines, Cond.selects RX4 yX4_fillLines yX4_fillLines, Cond.code yX4_fillLines cX4_fillLines 6 none, Cond.fieldLink RX4 70 "PaidBySigns$Hire" "whole" "I", Cond.methodLink RX4 136 yX3_lackOf, Cond.instanceMethod yX3_lackOf, Cond.selects RX3 yX3_lackOf yX3_lackOf, Cond.initialized RX3]
def wsX4_findMerged_r4 : List Cond := [Cond.code yX3_lackOf cX3_lackOf 3 (some .int), Cond.fieldLink RX3 15 "PaidBySigns$Hire" "costs" "[I", Cond.fieldLink RX3 42 "PaidBySigns$Hire" "otherwise" "I", Cond.fieldLink RX3 45 "PaidBySigns$Hire" "least" "I", Cond.methodLink RX3 63 yX3_feltOf, Cond.instanceMethod yX3_feltOf, Cond.selects RX3 yX3_feltOf yX3_feltOf, Cond.code yX3_feltOf cX3_feltOf 6 (some .int), Cond.fieldLink RX3 48 "PaidBySigns$Hire" "rates" "I", Cond.fieldLink RX3 26 "PaidBySigns$Hire" "mark" "[I", Cond.methodLink RX3 51 Lib.Math.min.name, Cond.fieldLink RX3 23 "PaidBySigns$Hire" "rate" "[I", Cond.methodLink RX4 102 yX4_fillRooms, Cond.instanceMethod yX4_fillRooms, Cond.selects RX4 yX4_fillRooms yX4_fillRooms, Cond.code yX4_fillRooms cX4_fillRooms 4 none, Cond.methodLink RX4 105 yX8_solve, Cond.instanceMethod yX8_solve, Cond.selects RX8 yX8_solve yX8_solve, Cond.code yX8_solve cX8_solve 4 (some .boolean), Cond.constant RX8 49 (1000000), Cond.methodLink RX8 50 yX8_lineBelowZero, Cond.instanceMethod yX8_lineBelowZero, Cond.selects RX8 yX8_lineBelowZero yX8_lineBelowZero]
def wsX4_findMerged_r5 : List Cond := [Cond.code yX8_lineBelowZero cX8_lineBelowZero 3 (some .int), Cond.methodLink RX8 54 yX8_columnFor, Cond.instanceMethod yX8_columnFor, Cond.selects RX8 yX8_columnFor yX8_columnFor, Cond.code yX8_columnFor cX8_columnFor 5 (some .int), Cond.methodLink RX8 62 yX8_compareRatios, Cond.instanceMethod yX8_compareRatios, Cond.selects RX8 yX8_compareRatios yX8_compareRatios, Cond.code yX8_compareRatios cX8_compareRatios 13 (some .int), Cond.methodLink RX8 58 yX8_pivot, Cond.instanceMethod yX8_pivot, Cond.selects RX8 yX8_pivot yX8_pivot, Cond.code yX8_pivot cX8_pivot 7 none, Cond.methodLink RX8 66 yX8_changeLine, Cond.instanceMethod yX8_changeLine, Cond.selects RX8 yX8_changeLine yX8_changeLine, Cond.code yX8_changeLine cX8_changeLine 9 none, Cond.methodLink RX4 109 yX4_readWages, Cond.instanceMethod yX4_readWages, Cond.selects RX4 yX4_readWages yX4_readWages, Cond.code yX4_readWages cX4_readWages 3 none, Cond.fieldLink RX4 9 "PaidBySigns$LeastCost" "above" "[J", Cond.constantLong RX4 145 (60), Cond.fieldLink RX4 147 "PaidBySigns$Table" "base" "J"]
def wsX4_findMerged_r6 : List Cond := [Cond.fieldLink RX4 15 "PaidBySigns$LeastCost" "aboveLower" "J", Cond.fieldLink RX4 150 "PaidBySigns$Table" "goals" "I", Cond.fieldLink RX4 153 "PaidBySigns$Table" "lines" "I", Cond.fieldLink RX4 156 "PaidBySigns$Table" "lineName" "[I", Cond.methodLink RX4 139 yJ7_fill_d0a16]
def wsX4_findMerged : List Cond := .code yX4_findMerged cX4_findMerged 5 (some .boolean) :: ((wsX4_findMerged_r1 ++ (wsX4_findMerged_r2 ++ (wsX4_findMerged_r3 ++ (wsX4_findMerged_r4 ++ (wsX4_findMerged_r5 ++ wsX4_findMerged_r6))))) ++ wsX40 ++ wsX30 ++ wsX80)
def wsX4_costInto_r1 : List Cond := [Cond.fieldLink RX4 46 "PaidBySigns$LeastCost" "hire" "LPaidBySigns$Hire;", Cond.fieldLink RX4 63 "PaidBySigns$Hire" "signs" "I", Cond.fieldLink RX4 50 "PaidBySigns$LeastCost" "work" "I", Cond.fieldLink RX4 9 "PaidBySigns$LeastCost" "above" "[J", Cond.fieldLink RX4 70 "PaidBySigns$Hire" "whole" "I", Cond.fieldLink RX4 15 "PaidBySigns$LeastCost" "aboveLower" "J", Cond.fieldLink RX4 79 "PaidBySigns$Hire" "least" "I", Cond.methodLink RX4 66 yX4_chanceOf, Cond.instanceMethod yX4_chanceOf, Cond.selects RX4 yX4_chanceOf yX4_chanceOf, Cond.initialized RX4, Cond.code yX4_chanceOf cX4_chanceOf 3 (some .int), Cond.fieldLink RX4 56 "PaidBySigns$LeastCost" "joinedSign" "I", Cond.fieldLink RX4 53 "PaidBySigns$LeastCost" "keptSign" "I", Cond.fieldLink RX4 112 "PaidBySigns$Hire" "chances" "[[I", Cond.methodLink RX4 73 yX2_become, Cond.instanceMethod yX2_become, Cond.selects RX2 yX2_become yX2_become, Cond.initialized RX2, Cond.code yX2_become cX2_become 7 none, Cond.methodLink RX2 20 Lib.MathLoose.abs_long.x, Cond.static Lib.MathLoose.abs_long.x, Cond.initialized "java/lang/Math", Cond.code Lib.MathLoose.abs_long.x Lib.MathLoose.abs_long.code 2 (some .long)]
def wsX4_costInto_r2 : List Cond := [Cond.fieldLink RX2 11 "PaidBySigns$Fraction" "upper" "J", Cond.fieldLink RX2 17 "PaidBySigns$Fraction" "lower" "J", Cond.methodLink RX2 26 yX2_commonPart, Cond.static yX2_commonPart, Cond.code yX2_commonPart cX2_commonPart 11 (some .long), Cond.methodLink RX2 30 yX2_forget, Cond.instanceMethod yX2_forget, Cond.selects RX2 yX2_forget yX2_forget, Cond.code yX2_forget cX2_forget 1 none, Cond.constantLong RX2 9 (-2000000000), Cond.methodLink RX4 82 yX2_add, Cond.instanceMethod yX2_add, Cond.selects RX2 yX2_add yX2_add, Cond.code yX2_add cX2_add 5 none, Cond.methodLink RX2 33 yX2_become]
def wsX4_costInto : List Cond := .code yX4_costInto cX4_costInto 5 none :: ((wsX4_costInto_r1 ++ wsX4_costInto_r2) ++ wsX40 ++ wsX30 ++ wsX20)
def wsX4_wageInto : List Cond := .code yX4_wageInto cX4_wageInto 3 none :: ([.fieldLink RX4 46 "PaidBySigns$LeastCost" "hire" "LPaidBySigns$Hire;", .fieldLink RX4 79 "PaidBySigns$Hire" "least" "I", .fieldLink RX4 15 "PaidBySigns$LeastCost" "aboveLower" "J", .fieldLink RX4 9 "PaidBySigns$LeastCost" "above" "[J", .methodLink RX4 73 yX2_become, .instanceMethod yX2_become, .selects RX2 yX2_become yX2_become, .initialized RX2, .code yX2_become cX2_become 7 none, .methodLink RX2 20 Lib.MathLoose.abs_long.x, .static Lib.MathLoose.abs_long.x, .initialized "java/lang/Math", .code Lib.MathLoose.abs_long.x Lib.MathLoose.abs_long.code 2 (some .long), .fieldLink RX2 11 "PaidBySigns$Fraction" "upper" "J", .fieldLink RX2 17 "PaidBySigns$Fraction" "lower" "J", .methodLink RX2 26 yX2_commonPart, .static yX2_commonPart, .code yX2_commonPart cX2_commonPart 11 (some .long), .methodLink RX2 30 yX2_forget, .instanceMethod yX2_forget, .selects RX2 yX2_forget yX2_forget, .code yX2_forget cX2_forget 1 none, .constantLong RX2 9 (-2000000000)] ++ wsX40 ++ wsX30 ++ wsX20)
def wsX5_start : List Cond := .code yX5_start cX5_start 1 none :: ([.fieldLink RX5 47 "PaidBySigns$OneSum" "lowUpper" "J", .fieldLink RX5 43 "PaidBySigns$OneSum" "lowLower" "J", .fieldLink RX5 65 "PaidBySigns$OneSum" "capUpper" "J", .fieldLink RX5 68 "PaidBySigns$OneSum" "capLower" "J", .fieldLink RX5 71 "PaidBySigns$OneSum" "isBroken" "Z"] ++ wsX50)
set_option maxRecDepth 20000 in
theorem ggX4_findWages_X4_find : GoodIn wsX4_findWages wsX4_find := goodIn_r _ [6, 7, 8, 9, 10, 11, 12, 13, 14, 15, 16, 17, 5, 18, 1, 19, 20, 21, 22, 23, 24, 25, 26, 27, 28, 29, 30, 31, 32, 33, 34, 35, 36, 37, 38, 39, 40, 41, 42, 43, 44, 45, 46, 47, 48, 49, 50, 51, 52, 53, 54, 55, 56, 57, 58, 59, 60, 61, 62, 63, 64, 65, 66, 67, 68, 69, 70, 71, 72, 73, 74, 75, 76, 77, 78, 79, 80, 81, 82, 83, 84, 85, 86, 87, 88, 89, 90, 91, 92, 93, 94, 95, 96, 97, 98, 99, 100, 101, 102, 103, 104, 105, 106, 107, 108, 109, 110, 111, 112, 113, 114, 115, 116, 117, 118, 119, 120, 121, 122, 123, 124, 125, 137, 138, 139, 140, 141, 142, 143, 144, 145, 146, 147, 148, 126, 127, 128, 129, 130, 131, 132, 133, 134, 135, 136, 149, 150, 151, 152, 153, 154, 155] (by decide +kernel) (by decide +kernel)
set_option maxRecDepth 20000 in
theorem gX4_findWages_X4_find : GoodIn wsX4_findWages (wsV RX4 59 RX4 yX4_find wsX4_find) := goodIn_app (goodIn_of _ (by decide +kernel)) ggX4_findWages_X4_find
theorem dX4_findWages_0 : decode cX4_findWages 0 = .ok (.aload_n 0, 1) := by decide +kernel
theorem dX4_findWages_1 : decode cX4_findWages 1 = .ok (.aload_n 1, 1) := by decide +kernel
theorem dX4_findWages_2 : decode cX4_findWages 2 = .ok (.iload_n 2, 1) := by decide +kernel
theorem dX4_findWages_3 : decode cX4_findWages 3 = .ok (.iconst (-1), 1) := by decide +kernel
theorem dX4_findWages_4 : decode cX4_findWages 4 = .ok (.iconst (-1), 1) := by decide +kernel
theorem dX4_findWages_5 : decode cX4_findWages 5 = .ok (.iconst 1, 1) := by decide +kernel
theorem dX4_findWages_6 : decode cX4_findWages 6 = .ok (.aload_n 1, 1) := by decide +kernel
theorem dX4_findWages_7 : decode cX4_findWages 7 = .ok (.getfield 63, 3) := by decide +kernel
theorem dX4_findWages_10 : decode cX4_findWages 10 = .ok (.iadd, 1) := by decide +kernel
theorem dX4_findWages_11 : decode cX4_findWages 11 = .ok (.invokevirtual 59, 3) := by decide +kernel
theorem dX4_findWages_14 : decode cX4_findWages 14 = .ok (.ireturn, 1) := by decide +kernel
set_option maxRecDepth 20000 in
theorem ggX4_findMerged_X4_find : GoodIn wsX4_findMerged wsX4_find := goodIn_r _ [5, 6, 7, 8, 9, 10, 11, 12, 13, 14, 15, 16, 4, 17, 18, 19, 20, 21, 22, 23, 24, 25, 26, 27, 28, 29, 30, 31, 32, 33, 34, 35, 36, 37, 38, 39, 40, 41, 42, 43, 44, 45, 46, 47, 48, 49, 50, 51, 52, 53, 54, 55, 56, 57, 58, 59, 60, 61, 62, 63, 64, 65, 66, 67, 68, 69, 70, 71, 72, 73, 74, 75, 76, 77, 78, 79, 80, 81, 82, 83, 84, 85, 86, 87, 88, 89, 90, 91, 92, 93, 94, 95, 96, 97, 98, 99, 100, 101, 102, 103, 104, 105, 106, 107, 108, 109, 110, 111, 112, 113, 114, 115, 116, 117, 118, 119, 120, 121, 122, 123, 124, 125, 126, 127, 128, 129, 130, 131, 132, 133, 134, 135, 136, 137, 138, 139, 140, 141, 142, 143, 144, 145, 146, 147, 148, 149, 150, 151, 152, 153, 154, 155] (by decide +kernel) (by decide +kernel)
set_option maxRecDepth 20000 in
theorem gX4_findMerged_X4_find : GoodIn wsX4_findMerged (wsV RX4 59 RX4 yX4_find wsX4_find) := goodIn_app (goodIn_of _ (by decide +kernel)) ggX4_findMerged_X4_find
theorem dX4_findMerged_0 : decode cX4_findMerged 0 = .ok (.aload_n 0, 1) := by decide +kernel
theorem dX4_findMerged_1 : decode cX4_findMerged 1 = .ok (.aload_n 1, 1) := by decide +kernel
theorem dX4_findMerged_2 : decode cX4_findMerged 2 = .ok (.iload_n 2, 1) := by decide +kernel
theorem dX4_findMerged_3 : decode cX4_findMerged 3 = .ok (.iload_n 3, 1) := by decide +kernel
theorem dX4_findMerged_4 : decode cX4_findMerged 4 = .ok (.iload 4, 2) := by decide +kernel
theorem dX4_findMerged_6 : decode cX4_findMerged 6 = .ok (.iconst 1, 1) := by decide +kernel
theorem dX4_findMerged_7 : decode cX4_findMerged 7 = .ok (.invokevirtual 59, 3) := by decide +kernel
theorem dX4_findMerged_10 : decode cX4_findMerged 10 = .ok (.ireturn, 1) := by decide +kernel
set_option maxRecDepth 20000 in
theorem ggX4_costInto_X4_chanceOf : GoodIn wsX4_costInto wsX4_chanceOf := goodIn_r _ [12, 13, 14, 1, 15, 40, 41, 42, 43, 44, 45, 46, 47, 48, 49, 50, 51, 52, 53, 54, 55, 56, 57, 58, 59, 60, 61, 62] (by decide +kernel) (by decide +kernel)
set_option maxRecDepth 20000 in
theorem gX4_costInto_X4_chanceOf : GoodIn wsX4_costInto (wsV RX4 66 RX4 yX4_chanceOf wsX4_chanceOf) := goodIn_app (goodIn_of _ (by decide +kernel)) ggX4_costInto_X4_chanceOf
set_option maxRecDepth 20000 in
theorem ggX4_costInto_X2_become : GoodIn wsX4_costInto wsX2_become := goodIn_r _ [20, 21, 22, 23, 24, 25, 26, 27, 28, 19, 29, 30, 31, 32, 33, 34, 63, 64] (by decide +kernel) (by decide +kernel)
set_option maxRecDepth 20000 in
theorem gX4_costInto_X2_become : GoodIn wsX4_costInto (wsV RX4 73 RX2 yX2_become wsX2_become) := goodIn_app (goodIn_of _ (by decide +kernel)) ggX4_costInto_X2_become
set_option maxRecDepth 20000 in
theorem ggX4_costInto_X2_add : GoodIn wsX4_costInto wsX2_add := goodIn_r _ [38, 25, 26, 39, 17, 18, 19, 20, 21, 22, 23, 24, 27, 28, 29, 30, 31, 32, 33, 34, 63, 64] (by decide +kernel) (by decide +kernel)
set_option maxRecDepth 20000 in
theorem gX4_costInto_X2_add : GoodIn wsX4_costInto (wsV RX4 82 RX2 yX2_add wsX2_add) := goodIn_app (goodIn_of _ (by decide +kernel)) ggX4_costInto_X2_add
theorem dX4_costInto_0 : decode cX4_costInto 0 = .ok (.lconst 0, 1) := by decide +kernel
theorem dX4_costInto_1 : decode cX4_costInto 1 = .ok (.lstore_n 2, 1) := by decide +kernel
theorem dX4_costInto_2 : decode cX4_costInto 2 = .ok (.iconst 0, 1) := by decide +kernel
theorem dX4_costInto_3 : decode cX4_costInto 3 = .ok (.istore 4, 2) := by decide +kernel
theorem dX4_costInto_5 : decode cX4_costInto 5 = .ok (.iload 4, 2) := by decide +kernel
theorem dX4_costInto_7 : decode cX4_costInto 7 = .ok (.aload_n 0, 1) := by decide +kernel
theorem dX4_costInto_8 : decode cX4_costInto 8 = .ok (.getfield 46, 3) := by decide +kernel
theorem dX4_costInto_11 : decode cX4_costInto 11 = .ok (.getfield 63, 3) := by decide +kernel
theorem dX4_costInto_14 : decode cX4_costInto 14 = .ok (.if_icmp .ge 31, 3) := by decide +kernel
theorem dX4_costInto_17 : decode cX4_costInto 17 = .ok (.lload_n 2, 1) := by decide +kernel
theorem dX4_costInto_18 : decode cX4_costInto 18 = .ok (.aload_n 0, 1) := by decide +kernel
theorem dX4_costInto_19 : decode cX4_costInto 19 = .ok (.aload_n 0, 1) := by decide +kernel
theorem dX4_costInto_20 : decode cX4_costInto 20 = .ok (.getfield 50, 3) := by decide +kernel
theorem dX4_costInto_23 : decode cX4_costInto 23 = .ok (.iload 4, 2) := by decide +kernel
theorem dX4_costInto_25 : decode cX4_costInto 25 = .ok (.invokevirtual 66, 3) := by decide +kernel
theorem dX4_costInto_28 : decode cX4_costInto 28 = .ok (.i2l, 1) := by decide +kernel
theorem dX4_costInto_29 : decode cX4_costInto 29 = .ok (.aload_n 0, 1) := by decide +kernel
theorem dX4_costInto_30 : decode cX4_costInto 30 = .ok (.getfield 9, 3) := by decide +kernel
theorem dX4_costInto_33 : decode cX4_costInto 33 = .ok (.iload 4, 2) := by decide +kernel
theorem dX4_costInto_35 : decode cX4_costInto 35 = .ok (.laload, 1) := by decide +kernel
theorem dX4_costInto_36 : decode cX4_costInto 36 = .ok (.lmul, 1) := by decide +kernel
theorem dX4_costInto_37 : decode cX4_costInto 37 = .ok (.ladd, 1) := by decide +kernel
theorem dX4_costInto_38 : decode cX4_costInto 38 = .ok (.lstore_n 2, 1) := by decide +kernel
theorem dX4_costInto_39 : decode cX4_costInto 39 = .ok (.iinc 4 1, 3) := by decide +kernel
theorem dX4_costInto_42 : decode cX4_costInto 42 = .ok (.goto (-37), 3) := by decide +kernel
theorem dX4_costInto_45 : decode cX4_costInto 45 = .ok (.aload_n 1, 1) := by decide +kernel
theorem dX4_costInto_46 : decode cX4_costInto 46 = .ok (.lload_n 2, 1) := by decide +kernel
theorem dX4_costInto_47 : decode cX4_costInto 47 = .ok (.aload_n 0, 1) := by decide +kernel
theorem dX4_costInto_48 : decode cX4_costInto 48 = .ok (.getfield 46, 3) := by decide +kernel
theorem dX4_costInto_51 : decode cX4_costInto 51 = .ok (.getfield 70, 3) := by decide +kernel
theorem dX4_costInto_54 : decode cX4_costInto 54 = .ok (.i2l, 1) := by decide +kernel
theorem dX4_costInto_55 : decode cX4_costInto 55 = .ok (.aload_n 0, 1) := by decide +kernel
theorem dX4_costInto_56 : decode cX4_costInto 56 = .ok (.getfield 15, 3) := by decide +kernel
theorem dX4_costInto_59 : decode cX4_costInto 59 = .ok (.lmul, 1) := by decide +kernel
theorem dX4_costInto_60 : decode cX4_costInto 60 = .ok (.invokevirtual 73, 3) := by decide +kernel
theorem dX4_costInto_63 : decode cX4_costInto 63 = .ok (.aload_n 1, 1) := by decide +kernel
theorem dX4_costInto_64 : decode cX4_costInto 64 = .ok (.aload_n 0, 1) := by decide +kernel
theorem dX4_costInto_65 : decode cX4_costInto 65 = .ok (.getfield 46, 3) := by decide +kernel
theorem dX4_costInto_68 : decode cX4_costInto 68 = .ok (.getfield 79, 3) := by decide +kernel
theorem dX4_costInto_71 : decode cX4_costInto 71 = .ok (.i2l, 1) := by decide +kernel
theorem dX4_costInto_72 : decode cX4_costInto 72 = .ok (.lconst 1, 1) := by decide +kernel
theorem dX4_costInto_73 : decode cX4_costInto 73 = .ok (.invokevirtual 82, 3) := by decide +kernel
theorem dX4_costInto_76 : decode cX4_costInto 76 = .ok (.return_, 1) := by decide +kernel
set_option maxRecDepth 20000 in
theorem ggX4_wageInto_X2_become : GoodIn wsX4_wageInto wsX2_become := goodIn_r _ [9, 10, 11, 12, 13, 14, 15, 16, 17, 8, 18, 19, 20, 21, 22, 23, 47, 48] (by decide +kernel) (by decide +kernel)
set_option maxRecDepth 20000 in
theorem gX4_wageInto_X2_become : GoodIn wsX4_wageInto (wsV RX4 73 RX2 yX2_become wsX2_become) := goodIn_app (goodIn_of _ (by decide +kernel)) ggX4_wageInto_X2_become
theorem dX4_wageInto_0 : decode cX4_wageInto 0 = .ok (.aload_n 1, 1) := by decide +kernel
theorem dX4_wageInto_1 : decode cX4_wageInto 1 = .ok (.aload_n 0, 1) := by decide +kernel
theorem dX4_wageInto_2 : decode cX4_wageInto 2 = .ok (.getfield 46, 3) := by decide +kernel
theorem dX4_wageInto_5 : decode cX4_wageInto 5 = .ok (.getfield 79, 3) := by decide +kernel
theorem dX4_wageInto_8 : decode cX4_wageInto 8 = .ok (.i2l, 1) := by decide +kernel
theorem dX4_wageInto_9 : decode cX4_wageInto 9 = .ok (.aload_n 0, 1) := by decide +kernel
theorem dX4_wageInto_10 : decode cX4_wageInto 10 = .ok (.getfield 15, 3) := by decide +kernel
theorem dX4_wageInto_13 : decode cX4_wageInto 13 = .ok (.lmul, 1) := by decide +kernel
theorem dX4_wageInto_14 : decode cX4_wageInto 14 = .ok (.aload_n 0, 1) := by decide +kernel
theorem dX4_wageInto_15 : decode cX4_wageInto 15 = .ok (.getfield 9, 3) := by decide +kernel
theorem dX4_wageInto_18 : decode cX4_wageInto 18 = .ok (.iload_n 2, 1) := by decide +kernel
theorem dX4_wageInto_19 : decode cX4_wageInto 19 = .ok (.laload, 1) := by decide +kernel
theorem dX4_wageInto_20 : decode cX4_wageInto 20 = .ok (.ladd, 1) := by decide +kernel
theorem dX4_wageInto_21 : decode cX4_wageInto 21 = .ok (.aload_n 0, 1) := by decide +kernel
theorem dX4_wageInto_22 : decode cX4_wageInto 22 = .ok (.getfield 15, 3) := by decide +kernel
theorem dX4_wageInto_25 : decode cX4_wageInto 25 = .ok (.invokevirtual 73, 3) := by decide +kernel
theorem dX4_wageInto_28 : decode cX4_wageInto 28 = .ok (.return_, 1) := by decide +kernel
theorem dX5_start_0 : decode cX5_start 0 = .ok (.aload_n 0, 1) := by decide +kernel
theorem dX5_start_1 : decode cX5_start 1 = .ok (.lconst 0, 1) := by decide +kernel
theorem dX5_start_2 : decode cX5_start 2 = .ok (.putfield 47, 3) := by decide +kernel
theorem dX5_start_5 : decode cX5_start 5 = .ok (.aload_n 0, 1) := by decide +kernel
theorem dX5_start_6 : decode cX5_start 6 = .ok (.lconst 1, 1) := by decide +kernel
theorem dX5_start_7 : decode cX5_start 7 = .ok (.putfield 43, 3) := by decide +kernel
theorem dX5_start_10 : decode cX5_start 10 = .ok (.aload_n 0, 1) := by decide +kernel
theorem dX5_start_11 : decode cX5_start 11 = .ok (.lconst 0, 1) := by decide +kernel
theorem dX5_start_12 : decode cX5_start 12 = .ok (.putfield 65, 3) := by decide +kernel
theorem dX5_start_15 : decode cX5_start 15 = .ok (.aload_n 0, 1) := by decide +kernel
theorem dX5_start_16 : decode cX5_start 16 = .ok (.lconst 0, 1) := by decide +kernel
theorem dX5_start_17 : decode cX5_start 17 = .ok (.putfield 68, 3) := by decide +kernel
theorem dX5_start_20 : decode cX5_start 20 = .ok (.aload_n 0, 1) := by decide +kernel
theorem dX5_start_21 : decode cX5_start 21 = .ok (.iconst 0, 1) := by decide +kernel
theorem dX5_start_22 : decode cX5_start 22 = .ok (.putfield 71, 3) := by decide +kernel
theorem dX5_start_25 : decode cX5_start 25 = .ok (.return_, 1) := by decide +kernel
theorem kk_X4_findWages_0 : Cond.fieldLink RX4 63 "PaidBySigns$Hire" "signs" "I" ∈ wsX4_findWages := by decide +kernel
theorem kk_X4_costInto_0 : Cond.fieldLink RX4 46 "PaidBySigns$LeastCost" "hire" "LPaidBySigns$Hire;" ∈ wsX4_costInto := by decide +kernel
theorem kk_X4_costInto_1 : Cond.fieldLink RX4 63 "PaidBySigns$Hire" "signs" "I" ∈ wsX4_costInto := by decide +kernel
theorem kk_X4_costInto_2 : Cond.fieldLink RX4 70 "PaidBySigns$Hire" "whole" "I" ∈ wsX4_costInto := by decide +kernel
theorem kk_X4_costInto_3 : Cond.fieldLink RX4 15 "PaidBySigns$LeastCost" "aboveLower" "J" ∈ wsX4_costInto := by decide +kernel
theorem kk_X4_costInto_4 : Cond.fieldLink RX4 79 "PaidBySigns$Hire" "least" "I" ∈ wsX4_costInto := by decide +kernel
theorem kk_X4_costInto_5 : Cond.fieldLink RX4 50 "PaidBySigns$LeastCost" "work" "I" ∈ wsX4_costInto := by decide +kernel
theorem kk_X4_costInto_6 : Cond.fieldLink RX4 9 "PaidBySigns$LeastCost" "above" "[J" ∈ wsX4_costInto := by decide +kernel
theorem kk_X4_wageInto_0 : Cond.fieldLink RX4 46 "PaidBySigns$LeastCost" "hire" "LPaidBySigns$Hire;" ∈ wsX4_wageInto := by decide +kernel
theorem kk_X4_wageInto_1 : Cond.fieldLink RX4 79 "PaidBySigns$Hire" "least" "I" ∈ wsX4_wageInto := by decide +kernel
theorem kk_X4_wageInto_2 : Cond.fieldLink RX4 15 "PaidBySigns$LeastCost" "aboveLower" "J" ∈ wsX4_wageInto := by decide +kernel
theorem kk_X4_wageInto_3 : Cond.fieldLink RX4 9 "PaidBySigns$LeastCost" "above" "[J" ∈ wsX4_wageInto := by decide +kernel
theorem kk_X5_start_0 : Cond.fieldLink RX5 47 "PaidBySigns$OneSum" "lowUpper" "J" ∈ wsX5_start := by decide +kernel
theorem kk_X5_start_1 : Cond.fieldLink RX5 43 "PaidBySigns$OneSum" "lowLower" "J" ∈ wsX5_start := by decide +kernel
theorem kk_X5_start_2 : Cond.fieldLink RX5 65 "PaidBySigns$OneSum" "capUpper" "J" ∈ wsX5_start := by decide +kernel
theorem kk_X5_start_3 : Cond.fieldLink RX5 68 "PaidBySigns$OneSum" "capLower" "J" ∈ wsX5_start := by decide +kernel
theorem kk_X5_start_4 : Cond.fieldLink RX5 71 "PaidBySigns$OneSum" "isBroken" "Z" ∈ wsX5_start := by decide +kernel
theorem iw_X4_findWages_X3 : ∀ w ∈ wsX30, w ∈ wsX4_findWages := by decide +kernel
theorem iw_X4_costInto_X4 : ∀ w ∈ wsX40, w ∈ wsX4_costInto := by decide +kernel
theorem iw_X4_costInto_X3 : ∀ w ∈ wsX30, w ∈ wsX4_costInto := by decide +kernel
theorem iw_X4_wageInto_X4 : ∀ w ∈ wsX40, w ∈ wsX4_wageInto := by decide +kernel
theorem iw_X4_wageInto_X3 : ∀ w ∈ wsX30, w ∈ wsX4_wageInto := by decide +kernel
theorem iw_X5_start_X5 : ∀ w ∈ wsX50, w ∈ wsX5_start := by decide +kernel
