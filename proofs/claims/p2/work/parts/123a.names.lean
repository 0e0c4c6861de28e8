abbrev cX9_wages : ByteArray := prog_1_method_17_code
def yX9_wages : MethodName := ⟨RX9, "wages", "(IZ)J"⟩
abbrev cX9_seen : ByteArray := prog_1_method_18_code
def yX9_seen : MethodName := ⟨RX9, "seen", "(I)I"⟩
abbrev cX9_best : ByteArray := prog_1_method_19_code
def yX9_best : MethodName := ⟨RX9, "best", "()I"⟩
abbrev cX9_isPair : ByteArray := prog_1_method_40_code
def yX9_isPair : MethodName := ⟨RX9, "isPair", "(II)Z"⟩
abbrev cX9_bestWork : ByteArray := prog_1_method_43_code
def yX9_bestWork : MethodName := ⟨RX9, "bestWork", "()I"⟩
def wsX9_wages : List Cond := .code yX9_wages cX9_wages 3 (some .long) :: ([.fieldLink RX9 47 "PaidBySigns" "hasWages" "Z", .constantLong RX9 185 (-1), .fieldLink RX9 44 "PaidBySigns" "wageLower" "[J", .fieldLink RX9 40 "PaidBySigns" "wageUpper" "[J", .methodLink RX9 144 yX9_isSign, .instanceMethod yX9_isSign, .selects RX9 yX9_isSign yX9_isSign, .initialized RX9, .code yX9_isSign cX9_isSign 2 (some .boolean), .fieldLink RX9 19 "PaidBySigns" "hire" "LPaidBySigns$Hire;", .fieldLink RX9 124 "PaidBySigns$Hire" "signs" "I"] ++ wsX90 ++ wsX30)
def wsX9_seen_r1 : List Cond := [Cond.fieldLink RX9 19 "PaidBySigns" "hire" "LPaidBySigns$Hire;", Cond.fieldLink RX9 187 "PaidBySigns$Hire" "costs" "[I", Cond.fieldLink RX9 130 "PaidBySigns$Hire" "otherwise" "I", Cond.fieldLink RX9 101 "PaidBySigns$Hire" "least" "I", Cond.fieldLink RX9 30 "PaidBySigns" "latest" "LPaidBySigns$Fraction;", Cond.methodLink RX9 140 yX9_isWork, Cond.instanceMethod yX9_isWork, Cond.selects RX9 yX9_isWork yX9_isWork, Cond.initialized RX9, Cond.code yX9_isWork cX9_isWork 2 (some .boolean), Cond.fieldLink RX9 115 "PaidBySigns$Hire" "works" "I", Cond.methodLink RX9 151 yX3_feltOf, Cond.instanceMethod yX3_feltOf, Cond.selects RX3 yX3_feltOf yX3_feltOf, Cond.initialized RX3, Cond.code yX3_feltOf cX3_feltOf 6 (some .int), Cond.fieldLink RX3 48 "PaidBySigns$Hire" "rates" "I", Cond.fieldLink RX3 26 "PaidBySigns$Hire" "mark" "[I", Cond.methodLink RX3 51 Lib.Math.min.name, Cond.static Lib.Math.min.name, Cond.initialized "java/lang/Math", Cond.code Lib.Math.min.name Lib.Math.min.code 2 (some .int), Cond.fieldLink RX3 23 "PaidBySigns$Hire" "rate" "[I", Cond.methodLink RX9 190 yX2_become]
def wsX9_seen_r2 : List Cond := [Cond.instanceMethod yX2_become, Cond.selects RX2 yX2_become yX2_become, Cond.initialized RX2, Cond.code yX2_become cX2_become 7 none, Cond.methodLink RX2 20 Lib.MathLoose.abs_long.x, Cond.static Lib.MathLoose.abs_long.x, Cond.code Lib.MathLoose.abs_long.x Lib.MathLoose.abs_long.code 2 (some .long), Cond.fieldLink RX2 11 "PaidBySigns$Fraction" "upper" "J", Cond.fieldLink RX2 17 "PaidBySigns$Fraction" "lower" "J", Cond.methodLink RX2 26 yX2_commonPart, Cond.static yX2_commonPart, Cond.code yX2_commonPart cX2_commonPart 11 (some .long), Cond.methodLink RX2 30 yX2_forget, Cond.instanceMethod yX2_forget, Cond.selects RX2 yX2_forget yX2_forget, Cond.code yX2_forget cX2_forget 1 none, Cond.constantLong RX2 9 (-2000000000), Cond.methodLink RX9 194 yX3_wageOf, Cond.instanceMethod yX3_wageOf, Cond.selects RX3 yX3_wageOf yX3_wageOf, Cond.code yX3_wageOf cX3_wageOf 13 none, Cond.methodLink RX3 57 yX2_become]
def wsX9_seen : List Cond := .code yX9_seen cX9_seen 3 (some .int) :: ((wsX9_seen_r1 ++ wsX9_seen_r2) ++ wsX90 ++ wsX30 ++ wsX20)
def wsX9_bestWork_r1 : List Cond := [Cond.fieldLink RX9 19 "PaidBySigns" "hire" "LPaidBySigns$Hire;", Cond.fieldLink RX9 115 "PaidBySigns$Hire" "works" "I", Cond.fieldLink RX9 54 "PaidBySigns" "cheapest" "LPaidBySigns$LeastCost;", Cond.fieldLink RX9 34 "PaidBySigns" "trial" "LPaidBySigns$Fraction;", Cond.fieldLink RX9 166 "PaidBySigns$Fraction" "upper" "J", Cond.fieldLink RX9 170 "PaidBySigns$Fraction" "lower" "J", Cond.fieldLink RX9 127 "PaidBySigns$Hire" "whole" "I", Cond.fieldLink RX9 37 "PaidBySigns" "champion" "LPaidBySigns$Fraction;", Cond.methodLink RX9 307 yX4_findCost, Cond.instanceMethod yX4_findCost, Cond.selects RX4 yX4_findCost yX4_findCost, Cond.initialized RX4, Cond.code yX4_findCost cX4_findCost 3 (some .boolean), Cond.methodLink RX4 59 yX4_find, Cond.instanceMethod yX4_find, Cond.selects RX4 yX4_find yX4_find, Cond.code yX4_find cX4_find 6 (some .boolean), Cond.fieldLink RX4 46 "PaidBySigns$LeastCost" "hire" "LPaidBySigns$Hire;", Cond.fieldLink RX4 50 "PaidBySigns$LeastCost" "work" "I", Cond.fieldLink RX4 53 "PaidBySigns$LeastCost" "keptSign" "I", Cond.fieldLink RX4 56 "PaidBySigns$LeastCost" "joinedSign" "I", Cond.fieldLink RX4 22 "PaidBySigns$LeastCost" "table" "LPaidBySigns$Table;", Cond.fieldLink RX4 88 "PaidBySigns$Hire" "works" "I", Cond.fieldLink RX4 40 "PaidBySigns$LeastCost" "rooms" "I"]
def wsX9_bestWork_r2 : List Cond := [Cond.fieldLink RX4 36 "PaidBySigns$LeastCost" "columns" "I", Cond.methodLink RX4 85 yX4_listColumns, Cond.instanceMethod yX4_listColumns, Cond.selects RX4 yX4_listColumns yX4_listColumns, Cond.code yX4_listColumns cX4_listColumns 2 none, Cond.fieldLink RX4 63 "PaidBySigns$Hire" "signs" "I", Cond.methodLink RX4 66 yX4_chanceOf, Cond.instanceMethod yX4_chanceOf, Cond.selects RX4 yX4_chanceOf yX4_chanceOf, Cond.code yX4_chanceOf cX4_chanceOf 3 (some .int), Cond.fieldLink RX4 112 "PaidBySigns$Hire" "chances" "[[I", Cond.methodLink RX4 116 yX4_listSteps, Cond.instanceMethod yX4_listSteps, Cond.selects RX4 yX4_listSteps yX4_listSteps, Cond.code yX4_listSteps cX4_listSteps 5 none, Cond.fieldLink RX4 79 "PaidBySigns$Hire" "least" "I", Cond.fieldLink RX4 119 "PaidBySigns$Hire" "rates" "I", Cond.fieldLink RX4 122 "PaidBySigns$Hire" "mark" "[I", Cond.fieldLink RX4 26 "PaidBySigns$LeastCost" "columnSign" "[I", Cond.fieldLink RX4 30 "PaidBySigns$LeastCost" "columnRate" "[I", Cond.fieldLink RX4 125 "PaidBySigns$Hire" "rate" "[I", Cond.fieldLink RX4 33 "PaidBySigns$LeastCost" "columnRoom" "[I", Cond.methodLink RX4 91 yX8_start, Cond.instanceMethod yX8_start]
def wsX9_bestWork_r3 : List Cond := [Cond.selects RX8 yX8_start yX8_start, Cond.initialized RX8, Cond.code yX8_start cX8_start 5 none, Cond.methodLink RX8 23 Lib.Math.min.name, Cond.static Lib.Math.min.name, Cond.initialized "java/lang/Math", Cond.code Lib.Math.min.name Lib.Math.min.code 2 (some .int), Cond.fieldLink RX8 29 "PaidBySigns$Table" "goals" "I", Cond.fieldLink RX8 33 "PaidBySigns$Table" "lines" "I", Cond.fieldLink RX8 36 "PaidBySigns$Table" "columns" "I", Cond.fieldLink RX8 39 "PaidBySigns$Table" "base" "J", Cond.fieldLink RX8 13 "PaidBySigns$Table" "entry" "[[J", Cond.fieldLink RX8 16 "PaidBySigns$Table" "lineName" "[I", Cond.fieldLink RX8 20 "PaidBySigns$Table" "columnName" "[I", Cond.methodLink RX8 43 yJ7_fill_d0a16, Cond.static yJ7_fill_d0a16, Cond.initialized RJ7, Cond.code yJ7_fill_d0a16 cJ7_fill_d0a16 5 none, Cond.methodLink RX4 95 yX4_fillGoals, Cond.instanceMethod yX4_fillGoals, Cond.selects RX4 yX4_fillGoals yX4_fillGoals, Cond.code yX4_fillGoals cX4_fillGoals 5 none, Cond.fieldLink RX4 132 "PaidBySigns$Table" "entry" "[[J", Cond.methodLink RX4 128 yX4_partsOf]
def wsX9_bestWork_r4 : List Cond := [Cond.instanceMethod yX4_partsOf, Cond.selects RX4 yX4_partsOf yX4_partsOf, Cond.code yX4_partsOf cX4_partsOf 2 (some .int), Cond.methodLink RX4 99 yX4_fillLines, Cond.instanceMethod yX4_fillLines, Cond.selects RX4 yX4_fillLines yX4_fillLines, Cond.code yX4_fillLines cX4_fillLines 6 none, Cond.fieldLink RX4 70 "PaidBySigns$Hire" "whole" "I", Cond.methodLink RX4 136 yX3_lackOf, Cond.instanceMethod yX3_lackOf, Cond.selects RX3 yX3_lackOf yX3_lackOf, Cond.initialized RX3, Cond.code yX3_lackOf cX3_lackOf 3 (some .int), Cond.fieldLink RX3 15 "PaidBySigns$Hire" "costs" "[I", Cond.fieldLink RX3 42 "PaidBySigns$Hire" "otherwise" "I", Cond.fieldLink RX3 45 "PaidBySigns$Hire" "least" "I", Cond.methodLink RX3 63 yX3_feltOf, Cond.instanceMethod yX3_feltOf, Cond.selects RX3 yX3_feltOf yX3_feltOf, Cond.code yX3_feltOf cX3_feltOf 6 (some .int), Cond.fieldLink RX3 48 "PaidBySigns$Hire" "rates" "I", Cond.fieldLink RX3 26 "PaidBySigns$Hire" "mark" "[I", Cond.methodLink RX3 51 Lib.Math.min.name, Cond.fieldLink RX3 23 "PaidBySigns$Hire" "rate" "[I"]
def wsX9_bestWork_r5 : List Cond := [Cond.methodLink RX4 102 yX4_fillRooms, Cond.instanceMethod yX4_fillRooms, Cond.selects RX4 yX4_fillRooms yX4_fillRooms, Cond.code yX4_fillRooms cX4_fillRooms 4 none, Cond.methodLink RX4 105 yX8_solve, Cond.instanceMethod yX8_solve, Cond.selects RX8 yX8_solve yX8_solve, Cond.code yX8_solve cX8_solve 4 (some .boolean), Cond.constant RX8 49 (1000000), Cond.methodLink RX8 50 yX8_lineBelowZero, Cond.instanceMethod yX8_lineBelowZero, Cond.selects RX8 yX8_lineBelowZero yX8_lineBelowZero, Cond.code yX8_lineBelowZero cX8_lineBelowZero 3 (some .int), Cond.methodLink RX8 54 yX8_columnFor, Cond.instanceMethod yX8_columnFor, Cond.selects RX8 yX8_columnFor yX8_columnFor, Cond.code yX8_columnFor cX8_columnFor 5 (some .int), Cond.methodLink RX8 62 yX8_compareRatios, Cond.instanceMethod yX8_compareRatios, Cond.selects RX8 yX8_compareRatios yX8_compareRatios, Cond.code yX8_compareRatios cX8_compareRatios 13 (some .int), Cond.methodLink RX8 58 yX8_pivot, Cond.instanceMethod yX8_pivot, Cond.selects RX8 yX8_pivot yX8_pivot]
def wsX9_bestWork_r6 : List Cond := [Cond.code yX8_pivot cX8_pivot 7 none, Cond.methodLink RX8 66 yX8_changeLine, Cond.instanceMethod yX8_changeLine, Cond.selects RX8 yX8_changeLine yX8_changeLine, Cond.code yX8_changeLine cX8_changeLine 9 none, Cond.methodLink RX4 109 yX4_readWages, Cond.instanceMethod yX4_readWages, Cond.selects RX4 yX4_readWages yX4_readWages, Cond.code yX4_readWages cX4_readWages 3 none, Cond.fieldLink RX4 9 "PaidBySigns$LeastCost" "above" "[J", Cond.constantLong RX4 145 (60), Cond.fieldLink RX4 147 "PaidBySigns$Table" "base" "J", Cond.fieldLink RX4 15 "PaidBySigns$LeastCost" "aboveLower" "J", Cond.fieldLink RX4 150 "PaidBySigns$Table" "goals" "I", Cond.fieldLink RX4 153 "PaidBySigns$Table" "lines" "I", Cond.fieldLink RX4 156 "PaidBySigns$Table" "lineName" "[I", Cond.methodLink RX4 139 yJ7_fill_d0a16, Cond.methodLink RX9 177 yX4_costInto, Cond.instanceMethod yX4_costInto, Cond.selects RX4 yX4_costInto yX4_costInto, Cond.code yX4_costInto cX4_costInto 5 none, Cond.methodLink RX4 73 yX2_become, Cond.instanceMethod yX2_become, Cond.selects RX2 yX2_become yX2_become]
def wsX9_bestWork_r7 : List Cond := [Cond.initialized RX2, Cond.code yX2_become cX2_become 7 none, Cond.methodLink RX2 20 Lib.MathLoose.abs_long.x, Cond.static Lib.MathLoose.abs_long.x, Cond.code Lib.MathLoose.abs_long.x Lib.MathLoose.abs_long.code 2 (some .long), Cond.fieldLink RX2 11 "PaidBySigns$Fraction" "upper" "J", Cond.fieldLink RX2 17 "PaidBySigns$Fraction" "lower" "J", Cond.methodLink RX2 26 yX2_commonPart, Cond.static yX2_commonPart, Cond.code yX2_commonPart cX2_commonPart 11 (some .long), Cond.methodLink RX2 30 yX2_forget, Cond.instanceMethod yX2_forget, Cond.selects RX2 yX2_forget yX2_forget, Cond.code yX2_forget cX2_forget 1 none, Cond.constantLong RX2 9 (-2000000000), Cond.methodLink RX4 82 yX2_add, Cond.instanceMethod yX2_add, Cond.selects RX2 yX2_add yX2_add, Cond.code yX2_add cX2_add 5 none, Cond.methodLink RX2 33 yX2_become, Cond.methodLink RX9 190 yX2_become, Cond.methodLink RX9 310 yX3_broughtBy, Cond.instanceMethod yX3_broughtBy, Cond.selects RX3 yX3_broughtBy yX3_broughtBy]
def wsX9_bestWork_r8 : List Cond := [Cond.code yX3_broughtBy cX3_broughtBy 4 (some .int), Cond.fieldLink RX3 32 "PaidBySigns$Hire" "signs" "I", Cond.fieldLink RX3 20 "PaidBySigns$Hire" "chances" "[[I", Cond.fieldLink RX3 9 "PaidBySigns$Hire" "brings" "[I", Cond.methodLink RX9 242 yX2_add, Cond.methodLink RX9 235 yX2_isBelow, Cond.static yX2_isBelow, Cond.code yX2_isBelow cX2_isBelow 2 (some .boolean), Cond.methodLink RX9 202 yX2_copy, Cond.instanceMethod yX2_copy, Cond.selects RX2 yX2_copy yX2_copy, Cond.code yX2_copy cX2_copy 2 none]
def wsX9_bestWork : List Cond := .code yX9_bestWork cX9_bestWork 3 (some .int) :: ((wsX9_bestWork_r1 ++ (wsX9_bestWork_r2 ++ (wsX9_bestWork_r3 ++ (wsX9_bestWork_r4 ++ (wsX9_bestWork_r5 ++ (wsX9_bestWork_r6 ++ (wsX9_bestWork_r7 ++ wsX9_bestWork_r8))))))) ++ wsX90 ++ wsX30 ++ wsX20 ++ wsX40 ++ wsX80)
def wsX9_best_r1 : List Cond := [Cond.fieldLink RX9 30 "PaidBySigns" "latest" "LPaidBySigns$Fraction;", Cond.fieldLink RX9 37 "PaidBySigns" "champion" "LPaidBySigns$Fraction;", Cond.methodLink RX9 198 yX9_bestWork, Cond.instanceMethod yX9_bestWork, Cond.selects RX9 yX9_bestWork yX9_bestWork, Cond.initialized RX9, Cond.code yX9_bestWork cX9_bestWork 3 (some .int), Cond.fieldLink RX9 19 "PaidBySigns" "hire" "LPaidBySigns$Hire;", Cond.fieldLink RX9 115 "PaidBySigns$Hire" "works" "I", Cond.fieldLink RX9 54 "PaidBySigns" "cheapest" "LPaidBySigns$LeastCost;", Cond.fieldLink RX9 34 "PaidBySigns" "trial" "LPaidBySigns$Fraction;", Cond.fieldLink RX9 166 "PaidBySigns$Fraction" "upper" "J", Cond.fieldLink RX9 170 "PaidBySigns$Fraction" "lower" "J", Cond.fieldLink RX9 127 "PaidBySigns$Hire" "whole" "I", Cond.methodLink RX9 307 yX4_findCost, Cond.instanceMethod yX4_findCost, Cond.selects RX4 yX4_findCost yX4_findCost, Cond.initialized RX4, Cond.code yX4_findCost cX4_findCost 3 (some .boolean), Cond.methodLink RX4 59 yX4_find, Cond.instanceMethod yX4_find, Cond.selects RX4 yX4_find yX4_find, Cond.code yX4_find cX4_find 6 (some .boolean), Cond.fieldLink RX4 46 "PaidBySigns$LeastCost" "hire" "LPaidBySigns$Hire;"]
def wsX9_best_r2 : List Cond := [Cond.fieldLink RX4 50 "PaidBySigns$LeastCost" "work" "I", Cond.fieldLink RX4 53 "PaidBySigns$LeastCost" "keptSign" "I", Cond.fieldLink RX4 56 "PaidBySigns$LeastCost" "joinedSign" "I", Cond.fieldLink RX4 22 "PaidBySigns$LeastCost" "table" "LPaidBySigns$Table;", Cond.fieldLink RX4 88 "PaidBySigns$Hire" "works" "I", Cond.fieldLink RX4 40 "PaidBySigns$LeastCost" "rooms" "I", Cond.fieldLink RX4 36 "PaidBySigns$LeastCost" "columns" "I", Cond.methodLink RX4 85 yX4_listColumns, Cond.instanceMethod yX4_listColumns, Cond.selects RX4 yX4_listColumns yX4_listColumns, Cond.code yX4_listColumns cX4_listColumns 2 none, Cond.fieldLink RX4 63 "PaidBySigns$Hire" "signs" "I", Cond.methodLink RX4 66 yX4_chanceOf, Cond.instanceMethod yX4_chanceOf, Cond.selects RX4 yX4_chanceOf yX4_chanceOf, Cond.code yX4_chanceOf cX4_chanceOf 3 (some .int), Cond.fieldLink RX4 112 "PaidBySigns$Hire" "chances" "[[I", Cond.methodLink RX4 116 yX4_listSteps, Cond.instanceMethod yX4_listSteps, Cond.selects RX4 yX4_listSteps yX4_listSteps, Cond.code yX4_listSteps cX4_listSteps 5 none, Cond.fieldLink RX4 79 "PaidBySigns$Hire" "least" "I", Cond.fieldLink RX4 119 "PaidBySigns$Hire" "rates" "I", Cond.fieldLink RX4 122 "PaidBySigns$Hire" "mark" "[I"]
def wsX9_best_r3 : List Cond := [Cond.fieldLink RX4 26 "PaidBySigns$LeastCost" "columnSign" "[I", Cond.fieldLink RX4 30 "PaidBySigns$LeastCost" "columnRate" "[I", Cond.fieldLink RX4 125 "PaidBySigns$Hire" "rate" "[I", Cond.fieldLink RX4 33 "PaidBySigns$LeastCost" "columnRoom" "[I", Cond.methodLink RX4 91 yX8_start, Cond.instanceMethod yX8_start, Cond.selects RX8 yX8_start yX8_start, Cond.initialized RX8, Cond.code yX8_start cX8_start 5 none, Cond.methodLink RX8 23 Lib.Math.min.name, Cond.static Lib.Math.min.name, Cond.initialized "java/lang/Math", Cond.code Lib.Math.min.name Lib.Math.min.code 2 (some .int), Cond.fieldLink RX8 29 "PaidBySigns$Table" "goals" "I", Cond.fieldLink RX8 33 "PaidBySigns$Table" "lines" "I", Cond.fieldLink RX8 36 "PaidBySigns$Table" "columns" "I", Cond.fieldLink RX8 39 "PaidBySigns$Table" "base" "J", Cond.fieldLink RX8 13 "PaidBySigns$Table" "entry" "[[J", Cond.fieldLink RX8 16 "PaidBySigns$Table" "lineName" "[I", Cond.fieldLink RX8 20 "PaidBySigns$Table" "columnName" "[I", Cond.methodLink RX8 43 yJ7_fill_d0a16, Cond.static yJ7_fill_d0a16, Cond.initialized RJ7, Cond.code yJ7_fill_d0a16 cJ7_fill_d0a16 5 none]
def wsX9_best_r4 : List Cond := [Cond.methodLink RX4 95 yX4_fillGoals, Cond.instanceMethod yX4_fillGoals, Cond.selects RX4 yX4_fillGoals yX4_fillGoals, Cond.code yX4_fillGoals cX4_fillGoals 5 none, Cond.fieldLink RX4 132 "PaidBySigns$Table" "entry" "[[J", Cond.methodLink RX4 128 yX4_partsOf, Cond.instanceMethod yX4_partsOf, Cond.selects RX4 yX4_partsOf yX4_partsOf, Cond.code yX4_partsOf cX4_partsOf 2 (some .int), Cond.methodLink RX4 99 yX4_fillLines, Cond.instanceMethod yX4_fillLines, Cond.selects RX4 yX4_fillLines yX4_fillLines, Cond.code yX4_fillLines cX4_fillLines 6 none, Cond.fieldLink RX4 70 "PaidBySigns$Hire" "whole" "I", Cond.methodLink RX4 136 yX3_lackOf, Cond.instanceMethod yX3_lackOf, Cond.selects RX3 yX3_lackOf yX3_lackOf, Cond.initialized RX3, Cond.code yX3_lackOf cX3_lackOf 3 (some .int), Cond.fieldLink RX3 15 "PaidBySigns$Hire" "costs" "[I", Cond.fieldLink RX3 42 "PaidBySigns$Hire" "otherwise" "I", Cond.fieldLink RX3 45 "PaidBySigns$Hire" "least" "I", Cond.methodLink RX3 63 yX3_feltOf, Cond.instanceMethod yX3_feltOf]
def wsX9_best_r5 : List Cond := [Cond.selects RX3 yX3_feltOf yX3_feltOf, Cond.code yX3_feltOf cX3_feltOf 6 (some .int), Cond.fieldLink RX3 48 "PaidBySigns$Hire" "rates" "I", Cond.fieldLink RX3 26 "PaidBySigns$Hire" "mark" "[I", Cond.methodLink RX3 51 Lib.Math.min.name, Cond.fieldLink RX3 23 "PaidBySigns$Hire" "rate" "[I", Cond.methodLink RX4 102 yX4_fillRooms, Cond.instanceMethod yX4_fillRooms, Cond.selects RX4 yX4_fillRooms yX4_fillRooms, Cond.code yX4_fillRooms cX4_fillRooms 4 none, Cond.methodLink RX4 105 yX8_solve, Cond.instanceMethod yX8_solve, Cond.selects RX8 yX8_solve yX8_solve, Cond.code yX8_solve cX8_solve 4 (some .boolean), Cond.constant RX8 49 (1000000), Cond.methodLink RX8 50 yX8_lineBelowZero, Cond.instanceMethod yX8_lineBelowZero, Cond.selects RX8 yX8_lineBelowZero yX8_lineBelowZero, Cond.code yX8_lineBelowZero cX8_lineBelowZero 3 (some .int), Cond.methodLink RX8 54 yX8_columnFor, Cond.instanceMethod yX8_columnFor, Cond.selects RX8 yX8_columnFor yX8_columnFor, Cond.code yX8_columnFor cX8_columnFor 5 (some .int), Cond.methodLink RX8 62 yX8_compareRatios]
def wsX9_best_r6 : List Cond := [Cond.instanceMethod yX8_compareRatios, Cond.selects RX8 yX8_compareRatios yX8_compareRatios, Cond.code yX8_compareRatios cX8_compareRatios 13 (some .int), Cond.methodLink RX8 58 yX8_pivot, Cond.instanceMethod yX8_pivot, Cond.selects RX8 yX8_pivot yX8_pivot, Cond.code yX8_pivot cX8_pivot 7 none, Cond.methodLink RX8 66 yX8_changeLine, Cond.instanceMethod yX8_changeLine, Cond.selects RX8 yX8_changeLine yX8_changeLine, Cond.code yX8_changeLine cX8_changeLine 9 none, Cond.methodLink RX4 109 yX4_readWages, Cond.instanceMethod yX4_readWages, Cond.selects RX4 yX4_readWages yX4_readWages, Cond.code yX4_readWages cX4_readWages 3 none, Cond.fieldLink RX4 9 "PaidBySigns$LeastCost" "above" "[J", Cond.constantLong RX4 145 (60), Cond.fieldLink RX4 147 "PaidBySigns$Table" "base" "J", Cond.fieldLink RX4 15 "PaidBySigns$LeastCost" "aboveLower" "J", Cond.fieldLink RX4 150 "PaidBySigns$Table" "goals" "I", Cond.fieldLink RX4 153 "PaidBySigns$Table" "lines" "I", Cond.fieldLink RX4 156 "PaidBySigns$Table" "lineName" "[I", Cond.methodLink RX4 139 yJ7_fill_d0a16, Cond.methodLink RX9 177 yX4_costInto]
def wsX9_best_r7 : List Cond := [Cond.instanceMethod yX4_costInto, Cond.selects RX4 yX4_costInto yX4_costInto, Cond.code yX4_costInto cX4_costInto 5 none, Cond.methodLink RX4 73 yX2_become, Cond.instanceMethod yX2_become, Cond.selects RX2 yX2_become yX2_become, Cond.initialized RX2, Cond.code yX2_become cX2_become 7 none, Cond.methodLink RX2 20 Lib.MathLoose.abs_long.x, Cond.static Lib.MathLoose.abs_long.x, Cond.code Lib.MathLoose.abs_long.x Lib.MathLoose.abs_long.code 2 (some .long), Cond.fieldLink RX2 11 "PaidBySigns$Fraction" "upper" "J", Cond.fieldLink RX2 17 "PaidBySigns$Fraction" "lower" "J", Cond.methodLink RX2 26 yX2_commonPart, Cond.static yX2_commonPart, Cond.code yX2_commonPart cX2_commonPart 11 (some .long), Cond.methodLink RX2 30 yX2_forget, Cond.instanceMethod yX2_forget, Cond.selects RX2 yX2_forget yX2_forget, Cond.code yX2_forget cX2_forget 1 none, Cond.constantLong RX2 9 (-2000000000), Cond.methodLink RX4 82 yX2_add, Cond.instanceMethod yX2_add, Cond.selects RX2 yX2_add yX2_add]
def wsX9_best_r8 : List Cond := [Cond.code yX2_add cX2_add 5 none, Cond.methodLink RX2 33 yX2_become, Cond.methodLink RX9 190 yX2_become, Cond.methodLink RX9 310 yX3_broughtBy, Cond.instanceMethod yX3_broughtBy, Cond.selects RX3 yX3_broughtBy yX3_broughtBy, Cond.code yX3_broughtBy cX3_broughtBy 4 (some .int), Cond.fieldLink RX3 32 "PaidBySigns$Hire" "signs" "I", Cond.fieldLink RX3 20 "PaidBySigns$Hire" "chances" "[[I", Cond.fieldLink RX3 9 "PaidBySigns$Hire" "brings" "[I", Cond.methodLink RX9 242 yX2_add, Cond.methodLink RX9 235 yX2_isBelow, Cond.static yX2_isBelow, Cond.code yX2_isBelow cX2_isBelow 2 (some .boolean), Cond.methodLink RX9 202 yX2_copy, Cond.instanceMethod yX2_copy, Cond.selects RX2 yX2_copy yX2_copy, Cond.code yX2_copy cX2_copy 2 none]
def wsX9_best : List Cond := .code yX9_best cX9_best 2 (some .int) :: ((wsX9_best_r1 ++ (wsX9_best_r2 ++ (wsX9_best_r3 ++ (wsX9_best_r4 ++ (wsX9_best_r5 ++ (wsX9_best_r6 ++ (wsX9_best_r7 ++ wsX9_best_r8))))))) ++ wsX90 ++ wsX30 ++ wsX20 ++ wsX40 ++ wsX80)
def wsX9_isPair : List Cond := .code yX9_isPair cX9_isPair 3 (some .boolean) :: ([.methodLink RX9 144 yX9_isSign, .instanceMethod yX9_isSign, .selects RX9 yX9_isSign yX9_isSign, .initialized RX9, .code yX9_isSign cX9_isSign 2 (some .boolean), .fieldLink RX9 19 "PaidBySigns" "hire" "LPaidBySigns$Hire;", .fieldLink RX9 124 "PaidBySigns$Hire" "signs" "I"] ++ wsX90 ++ wsX30)
set_option maxRecDepth 20000 in
theorem ggX9_wages_X9_isSign : GoodIn wsX9_wages wsX9_isSign := goodIn_r _ [9, 10, 11, 12, 13, 14, 15, 16, 17, 18, 19, 20, 21, 22, 23, 24, 25, 26, 27, 28, 29, 30, 31, 32, 33, 34, 35, 36] (by decide +kernel) (by decide +kernel)
set_option maxRecDepth 20000 in
theorem gX9_wages_X9_isSign : GoodIn wsX9_wages (wsV RX9 144 RX9 yX9_isSign wsX9_isSign) := goodIn_app (goodIn_of _ (by decide +kernel)) ggX9_wages_X9_isSign
theorem dX9_wages_0 : decode cX9_wages 0 = .ok (.aload_n 0, 1) := by decide +kernel
theorem dX9_wages_1 : decode cX9_wages 1 = .ok (.getfield 47, 3) := by decide +kernel
theorem dX9_wages_4 : decode cX9_wages 4 = .ok (.ifCond .eq 11, 3) := by decide +kernel
theorem dX9_wages_7 : decode cX9_wages 7 = .ok (.aload_n 0, 1) := by decide +kernel
theorem dX9_wages_8 : decode cX9_wages 8 = .ok (.iload_n 1, 1) := by decide +kernel
theorem dX9_wages_9 : decode cX9_wages 9 = .ok (.invokevirtual 144, 3) := by decide +kernel
theorem dX9_wages_12 : decode cX9_wages 12 = .ok (.ifCond .ne 7, 3) := by decide +kernel
theorem dX9_wages_15 : decode cX9_wages 15 = .ok (.ldc2_w 185, 3) := by decide +kernel
theorem dX9_wages_18 : decode cX9_wages 18 = .ok (.lreturn, 1) := by decide +kernel
theorem dX9_wages_19 : decode cX9_wages 19 = .ok (.iload_n 2, 1) := by decide +kernel
theorem dX9_wages_20 : decode cX9_wages 20 = .ok (.ifCond .eq 12, 3) := by decide +kernel
theorem dX9_wages_23 : decode cX9_wages 23 = .ok (.aload_n 0, 1) := by decide +kernel
theorem dX9_wages_24 : decode cX9_wages 24 = .ok (.getfield 44, 3) := by decide +kernel
theorem dX9_wages_27 : decode cX9_wages 27 = .ok (.iload_n 1, 1) := by decide +kernel
theorem dX9_wages_28 : decode cX9_wages 28 = .ok (.laload, 1) := by decide +kernel
theorem dX9_wages_29 : decode cX9_wages 29 = .ok (.goto 9, 3) := by decide +kernel
theorem dX9_wages_32 : decode cX9_wages 32 = .ok (.aload_n 0, 1) := by decide +kernel
theorem dX9_wages_33 : decode cX9_wages 33 = .ok (.getfield 40, 3) := by decide +kernel
theorem dX9_wages_36 : decode cX9_wages 36 = .ok (.iload_n 1, 1) := by decide +kernel
theorem dX9_wages_37 : decode cX9_wages 37 = .ok (.laload, 1) := by decide +kernel
theorem dX9_wages_38 : decode cX9_wages 38 = .ok (.lreturn, 1) := by decide +kernel
set_option maxRecDepth 20000 in
theorem ggX9_seen_X9_isWork : GoodIn wsX9_seen wsX9_isWork := goodIn_r _ [10, 1, 11, 47, 48, 49, 50, 51, 52, 53, 54, 55, 56, 57, 58, 59, 60, 61, 62, 63, 64, 65, 66, 67, 68, 69, 70, 71] (by decide +kernel) (by decide +kernel)
set_option maxRecDepth 20000 in
theorem gX9_seen_X9_isWork : GoodIn wsX9_seen (wsV RX9 140 RX9 yX9_isWork wsX9_isWork) := goodIn_app (goodIn_of _ (by decide +kernel)) ggX9_seen_X9_isWork
set_option maxRecDepth 20000 in
theorem ggX9_seen_X3_feltOf : GoodIn wsX9_seen wsX3_feltOf := goodIn_r _ [16, 17, 18, 19, 20, 21, 22, 23, 61, 62, 63, 64, 65, 66, 67, 68, 69, 70, 71] (by decide +kernel) (by decide +kernel)
set_option maxRecDepth 20000 in
theorem gX9_seen_X3_feltOf : GoodIn wsX9_seen (wsV RX9 151 RX3 yX3_feltOf wsX3_feltOf) := goodIn_app (goodIn_of _ (by decide +kernel)) ggX9_seen_X3_feltOf
set_option maxRecDepth 20000 in
theorem ggX9_seen_X2_become : GoodIn wsX9_seen wsX2_become := goodIn_r _ [28, 29, 30, 21, 31, 32, 33, 34, 35, 27, 36, 37, 38, 39, 40, 41, 72, 73] (by decide +kernel) (by decide +kernel)
set_option maxRecDepth 20000 in
theorem gX9_seen_X2_become : GoodIn wsX9_seen (wsV RX9 190 RX2 yX2_become wsX2_become) := goodIn_app (goodIn_of _ (by decide +kernel)) ggX9_seen_X2_become
set_option maxRecDepth 20000 in
theorem ggX9_seen_X3_wageOf : GoodIn wsX9_seen wsX3_wageOf := goodIn_r _ [45, 17, 23, 18, 46, 25, 26, 27, 28, 29, 30, 21, 31, 32, 33, 34, 35, 36, 37, 38, 39, 40, 41, 61, 62, 63, 64, 65, 66, 67, 68, 69, 70, 71, 72, 73] (by decide +kernel) (by decide +kernel)
set_option maxRecDepth 20000 in
theorem gX9_seen_X3_wageOf : GoodIn wsX9_seen (wsV RX9 194 RX3 yX3_wageOf wsX3_wageOf) := goodIn_app (goodIn_of _ (by decide +kernel)) ggX9_seen_X3_wageOf
theorem dX9_seen_0 : decode cX9_seen 0 = .ok (.aload_n 0, 1) := by decide +kernel
theorem dX9_seen_1 : decode cX9_seen 1 = .ok (.iload_n 1, 1) := by decide +kernel
theorem dX9_seen_2 : decode cX9_seen 2 = .ok (.invokevirtual 140, 3) := by decide +kernel
theorem dX9_seen_5 : decode cX9_seen 5 = .ok (.ifCond .ne 6, 3) := by decide +kernel
theorem dX9_seen_8 : decode cX9_seen 8 = .ok (.bipush (-2), 2) := by decide +kernel
theorem dX9_seen_10 : decode cX9_seen 10 = .ok (.ireturn, 1) := by decide +kernel
theorem dX9_seen_11 : decode cX9_seen 11 = .ok (.aload_n 0, 1) := by decide +kernel
theorem dX9_seen_12 : decode cX9_seen 12 = .ok (.getfield 19, 3) := by decide +kernel
theorem dX9_seen_15 : decode cX9_seen 15 = .ok (.getfield 187, 3) := by decide +kernel
theorem dX9_seen_18 : decode cX9_seen 18 = .ok (.iload_n 1, 1) := by decide +kernel
theorem dX9_seen_19 : decode cX9_seen 19 = .ok (.iaload, 1) := by decide +kernel
theorem dX9_seen_20 : decode cX9_seen 20 = .ok (.aload_n 0, 1) := by decide +kernel
theorem dX9_seen_21 : decode cX9_seen 21 = .ok (.getfield 19, 3) := by decide +kernel
theorem dX9_seen_24 : decode cX9_seen 24 = .ok (.getfield 130, 3) := by decide +kernel
theorem dX9_seen_27 : decode cX9_seen 27 = .ok (.iadd, 1) := by decide +kernel
theorem dX9_seen_28 : decode cX9_seen 28 = .ok (.istore_n 2, 1) := by decide +kernel
theorem dX9_seen_29 : decode cX9_seen 29 = .ok (.iload_n 2, 1) := by decide +kernel
theorem dX9_seen_30 : decode cX9_seen 30 = .ok (.aload_n 0, 1) := by decide +kernel
theorem dX9_seen_31 : decode cX9_seen 31 = .ok (.getfield 19, 3) := by decide +kernel
theorem dX9_seen_34 : decode cX9_seen 34 = .ok (.aload_n 0, 1) := by decide +kernel
theorem dX9_seen_35 : decode cX9_seen 35 = .ok (.getfield 19, 3) := by decide +kernel
theorem dX9_seen_38 : decode cX9_seen 38 = .ok (.getfield 101, 3) := by decide +kernel
theorem dX9_seen_41 : decode cX9_seen 41 = .ok (.invokevirtual 151, 3) := by decide +kernel
theorem dX9_seen_44 : decode cX9_seen 44 = .ok (.if_icmp .gt 22, 3) := by decide +kernel
theorem dX9_seen_47 : decode cX9_seen 47 = .ok (.aload_n 0, 1) := by decide +kernel
theorem dX9_seen_48 : decode cX9_seen 48 = .ok (.getfield 30, 3) := by decide +kernel
theorem dX9_seen_51 : decode cX9_seen 51 = .ok (.aload_n 0, 1) := by decide +kernel
theorem dX9_seen_52 : decode cX9_seen 52 = .ok (.getfield 19, 3) := by decide +kernel
theorem dX9_seen_55 : decode cX9_seen 55 = .ok (.getfield 101, 3) := by decide +kernel
theorem dX9_seen_58 : decode cX9_seen 58 = .ok (.i2l, 1) := by decide +kernel
theorem dX9_seen_59 : decode cX9_seen 59 = .ok (.lconst 1, 1) := by decide +kernel
theorem dX9_seen_60 : decode cX9_seen 60 = .ok (.invokevirtual 190, 3) := by decide +kernel
theorem dX9_seen_63 : decode cX9_seen 63 = .ok (.goto 17, 3) := by decide +kernel
theorem dX9_seen_66 : decode cX9_seen 66 = .ok (.aload_n 0, 1) := by decide +kernel
theorem dX9_seen_67 : decode cX9_seen 67 = .ok (.getfield 19, 3) := by decide +kernel
theorem dX9_seen_70 : decode cX9_seen 70 = .ok (.iload_n 2, 1) := by decide +kernel
theorem dX9_seen_71 : decode cX9_seen 71 = .ok (.i2l, 1) := by decide +kernel
theorem dX9_seen_72 : decode cX9_seen 72 = .ok (.lconst 1, 1) := by decide +kernel
theorem dX9_seen_73 : decode cX9_seen 73 = .ok (.aload_n 0, 1) := by decide +kernel
theorem dX9_seen_74 : decode cX9_seen 74 = .ok (.getfield 30, 3) := by decide +kernel
theorem dX9_seen_77 : decode cX9_seen 77 = .ok (.invokevirtual 194, 3) := by decide +kernel
theorem dX9_seen_80 : decode cX9_seen 80 = .ok (.iconst 1, 1) := by decide +kernel
theorem dX9_seen_81 : decode cX9_seen 81 = .ok (.ireturn, 1) := by decide +kernel
set_option maxRecDepth 20000 in
theorem ggX9_best_X9_bestWork : GoodIn wsX9_best wsX9_bestWork := goodIn_r _ [7, 8, 9, 10, 11, 12, 13, 14, 2, 15, 16, 17, 18, 19, 20, 21, 22, 23, 24, 25, 26, 27, 28, 29, 30, 31, 32, 33, 34, 35, 36, 37, 38, 39, 40, 41, 42, 43, 44, 45, 46, 47, 48, 49, 50, 51, 52, 53, 54, 55, 56, 57, 58, 59, 60, 61, 62, 63, 64, 65, 66, 67, 68, 69, 70, 71, 72, 73, 74, 75, 76, 77, 78, 79, 80, 81, 82, 83, 84, 85, 86, 87, 88, 89, 90, 91, 92, 93, 94, 95, 96, 97, 98, 99, 100, 101, 102, 103, 104, 105, 106, 107, 108, 109, 110, 111, 112, 113, 114, 115, 116, 117, 118, 119, 120, 121, 122, 123, 124, 125, 126, 127, 128, 129, 130, 131, 132, 133, 134, 135, 136, 137, 138, 139, 140, 141, 142, 143, 144, 145, 146, 147, 148, 149, 150, 151, 152, 153, 154, 155, 156, 157, 158, 159, 160, 161, 162, 163, 164, 165, 166, 167, 168, 169, 170, 171, 172, 173, 174, 175, 176, 177, 178, 179, 180, 181, 182, 183, 184, 185, 186, 187, 188, 189, 190, 191, 192, 193, 194, 195, 196, 197, 198, 199, 200, 201, 202, 203, 204, 205, 206, 207, 208, 209, 210, 211, 212, 213, 214, 215, 216, 217, 218, 219, 220, 221, 222, 223, 224, 225, 226, 227, 228, 229, 230, 231, 232] (by decide +kernel) (by decide +kernel)
set_option maxRecDepth 20000 in
theorem gX9_best_X9_bestWork : GoodIn wsX9_best (wsV RX9 198 RX9 yX9_bestWork wsX9_bestWork) := goodIn_app (goodIn_of _ (by decide +kernel)) ggX9_best_X9_bestWork
set_option maxRecDepth 20000 in
theorem ggX9_best_X2_copy : GoodIn wsX9_best wsX2_copy := goodIn_r _ [186, 156, 157, 212, 213] (by decide +kernel) (by decide +kernel)
set_option maxRecDepth 20000 in
theorem gX9_best_X2_copy : GoodIn wsX9_best (wsV RX9 202 RX2 yX2_copy wsX2_copy) := goodIn_app (goodIn_of _ (by decide +kernel)) ggX9_best_X2_copy
theorem dX9_best_0 : decode cX9_best 0 = .ok (.aload_n 0, 1) := by decide +kernel
theorem dX9_best_1 : decode cX9_best 1 = .ok (.invokevirtual 198, 3) := by decide +kernel
theorem dX9_best_4 : decode cX9_best 4 = .ok (.istore_n 1, 1) := by decide +kernel
theorem dX9_best_5 : decode cX9_best 5 = .ok (.iload_n 1, 1) := by decide +kernel
theorem dX9_best_6 : decode cX9_best 6 = .ok (.iconst (-1), 1) := by decide +kernel
theorem dX9_best_7 : decode cX9_best 7 = .ok (.if_icmp .eq 14, 3) := by decide +kernel
theorem dX9_best_10 : decode cX9_best 10 = .ok (.aload_n 0, 1) := by decide +kernel
theorem dX9_best_11 : decode cX9_best 11 = .ok (.getfield 30, 3) := by decide +kernel
theorem dX9_best_14 : decode cX9_best 14 = .ok (.aload_n 0, 1) := by decide +kernel
theorem dX9_best_15 : decode cX9_best 15 = .ok (.getfield 37, 3) := by decide +kernel
theorem dX9_best_18 : decode cX9_best 18 = .ok (.invokevirtual 202, 3) := by decide +kernel
theorem dX9_best_21 : decode cX9_best 21 = .ok (.iload_n 1, 1) := by decide +kernel
theorem dX9_best_22 : decode cX9_best 22 = .ok (.ireturn, 1) := by decide +kernel
set_option maxRecDepth 20000 in
theorem ggX9_isPair_X9_isSign : GoodIn wsX9_isPair wsX9_isSign := goodIn_r _ [5, 6, 7, 8, 9, 10, 11, 12, 13, 14, 15, 16, 17, 18, 19, 20, 21, 22, 23, 24, 25, 26, 27, 28, 29, 30, 31, 32] (by decide +kernel) (by decide +kernel)
set_option maxRecDepth 20000 in
theorem gX9_isPair_X9_isSign : GoodIn wsX9_isPair (wsV RX9 144 RX9 yX9_isSign wsX9_isSign) := goodIn_app (goodIn_of _ (by decide +kernel)) ggX9_isPair_X9_isSign
theorem dX9_isPair_0 : decode cX9_isPair 0 = .ok (.aload_n 0, 1) := by decide +kernel
theorem dX9_isPair_1 : decode cX9_isPair 1 = .ok (.iload_n 1, 1) := by decide +kernel
theorem dX9_isPair_2 : decode cX9_isPair 2 = .ok (.invokevirtual 144, 3) := by decide +kernel
theorem dX9_isPair_5 : decode cX9_isPair 5 = .ok (.ifCond .eq 20, 3) := by decide +kernel
theorem dX9_isPair_8 : decode cX9_isPair 8 = .ok (.aload_n 0, 1) := by decide +kernel
theorem dX9_isPair_9 : decode cX9_isPair 9 = .ok (.iload_n 2, 1) := by decide +kernel
theorem dX9_isPair_10 : decode cX9_isPair 10 = .ok (.invokevirtual 144, 3) := by decide +kernel
theorem dX9_isPair_13 : decode cX9_isPair 13 = .ok (.ifCond .eq 12, 3) := by decide +kernel
theorem dX9_isPair_16 : decode cX9_isPair 16 = .ok (.iload_n 1, 1) := by decide +kernel
theorem dX9_isPair_17 : decode cX9_isPair 17 = .ok (.iload_n 2, 1) := by decide +kernel
theorem dX9_isPair_18 : decode cX9_isPair 18 = .ok (.if_icmp .eq 7, 3) := by decide +kernel
theorem dX9_isPair_21 : decode cX9_isPair 21 = .ok (.iconst 1, 1) := by decide +kernel
theorem dX9_isPair_22 : decode cX9_isPair 22 = .ok (.goto 4, 3) := by decide +kernel
theorem dX9_isPair_25 : decode cX9_isPair 25 = .ok (.iconst 0, 1) := by decide +kernel
theorem dX9_isPair_26 : decode cX9_isPair 26 = .ok (.ireturn, 1) := by decide +kernel
set_option maxRecDepth 20000 in
theorem ggX9_bestWork_X4_findCost : GoodIn wsX9_bestWork wsX4_findCost := goodIn_r _ [13, 14, 15, 16, 12, 17, 18, 19, 20, 21, 22, 23, 24, 25, 26, 27, 28, 29, 30, 31, 32, 33, 34, 35, 36, 37, 38, 39, 40, 41, 42, 43, 44, 45, 46, 47, 48, 49, 50, 51, 52, 53, 54, 55, 56, 57, 58, 59, 60, 61, 62, 63, 64, 65, 66, 67, 68, 69, 70, 71, 72, 73, 74, 75, 76, 77, 78, 79, 80, 81, 82, 83, 84, 85, 86, 87, 88, 89, 90, 91, 92, 93, 94, 95, 96, 97, 98, 99, 100, 101, 102, 103, 104, 105, 106, 107, 108, 109, 110, 111, 112, 113, 114, 115, 116, 117, 118, 119, 120, 121, 122, 123, 124, 125, 126, 127, 128, 129, 130, 131, 132, 133, 134, 135, 136, 137, 208, 209, 210, 211, 212, 213, 214, 215, 216, 217, 218, 219, 195, 196, 197, 198, 199, 200, 201, 202, 203, 204, 205, 220, 221, 222, 223, 224, 225, 226] (by decide +kernel) (by decide +kernel)
set_option maxRecDepth 20000 in
theorem gX9_bestWork_X4_findCost : GoodIn wsX9_bestWork (wsV RX9 307 RX4 yX4_findCost wsX4_findCost) := goodIn_app (goodIn_of _ (by decide +kernel)) ggX9_bestWork_X4_findCost
set_option maxRecDepth 20000 in
theorem ggX9_bestWork_X4_costInto : GoodIn wsX9_bestWork wsX4_costInto := goodIn_r _ [141, 18, 30, 19, 130, 80, 133, 40, 31, 32, 33, 12, 34, 21, 20, 35, 142, 143, 144, 145, 146, 147, 148, 54, 149, 150, 151, 152, 153, 154, 155, 156, 157, 158, 159, 160, 161, 162, 163, 164, 208, 209, 210, 211, 212, 213, 214, 215, 216, 217, 218, 219, 195, 196, 197, 198, 199, 200, 201, 202, 203, 204, 205, 206, 207] (by decide +kernel) (by decide +kernel)
set_option maxRecDepth 20000 in
theorem gX9_bestWork_X4_costInto : GoodIn wsX9_bestWork (wsV RX9 177 RX4 yX4_costInto wsX4_costInto) := goodIn_app (goodIn_of _ (by decide +kernel)) ggX9_bestWork_X4_costInto
set_option maxRecDepth 20000 in
theorem ggX9_bestWork_X2_become : GoodIn wsX9_bestWork wsX2_become := goodIn_r _ [146, 147, 148, 54, 149, 150, 151, 152, 153, 145, 154, 155, 156, 157, 158, 159, 206, 207] (by decide +kernel) (by decide +kernel)
set_option maxRecDepth 20000 in
theorem gX9_bestWork_X2_become : GoodIn wsX9_bestWork (wsV RX9 190 RX2 yX2_become wsX2_become) := goodIn_app (goodIn_of _ (by decide +kernel)) ggX9_bestWork_X2_become
set_option maxRecDepth 20000 in
theorem ggX9_bestWork_X3_broughtBy : GoodIn wsX9_bestWork wsX3_broughtBy := goodIn_r _ [169, 170, 171, 172, 195, 196, 197, 198, 199, 200, 201, 202, 203, 204, 205] (by decide +kernel) (by decide +kernel)
set_option maxRecDepth 20000 in
theorem gX9_bestWork_X3_broughtBy : GoodIn wsX9_bestWork (wsV RX9 310 RX3 yX3_broughtBy wsX3_broughtBy) := goodIn_app (goodIn_of _ (by decide +kernel)) ggX9_bestWork_X3_broughtBy
set_option maxRecDepth 20000 in
theorem ggX9_bestWork_X2_add : GoodIn wsX9_bestWork wsX2_add := goodIn_r _ [163, 150, 151, 164, 143, 144, 145, 146, 147, 148, 54, 149, 152, 153, 154, 155, 156, 157, 158, 159, 206, 207] (by decide +kernel) (by decide +kernel)
set_option maxRecDepth 20000 in
theorem gX9_bestWork_X2_add : GoodIn wsX9_bestWork (wsV RX9 242 RX2 yX2_add wsX2_add) := goodIn_app (goodIn_of _ (by decide +kernel)) ggX9_bestWork_X2_add
set_option maxRecDepth 20000 in
theorem ggX9_bestWork_X2_isBelow : GoodIn wsX9_bestWork wsX2_isBelow := goodIn_r _ [176, 150, 151, 206, 207] (by decide +kernel) (by decide +kernel)
set_option maxRecDepth 20000 in
theorem gX9_bestWork_X2_isBelow : GoodIn wsX9_bestWork (va_wsS RX9 235 yX2_isBelow wsX2_isBelow) := goodIn_app (goodIn_of _ (by decide +kernel)) ggX9_bestWork_X2_isBelow
set_option maxRecDepth 20000 in
theorem ggX9_bestWork_X2_copy : GoodIn wsX9_bestWork wsX2_copy := goodIn_r _ [180, 150, 151, 206, 207] (by decide +kernel) (by decide +kernel)
set_option maxRecDepth 20000 in
theorem gX9_bestWork_X2_copy : GoodIn wsX9_bestWork (wsV RX9 202 RX2 yX2_copy wsX2_copy) := goodIn_app (goodIn_of _ (by decide +kernel)) ggX9_bestWork_X2_copy
theorem dX9_bestWork_0 : decode cX9_bestWork 0 = .ok (.iconst (-1), 1) := by decide +kernel
theorem dX9_bestWork_1 : decode cX9_bestWork 1 = .ok (.istore_n 1, 1) := by decide +kernel
theorem dX9_bestWork_2 : decode cX9_bestWork 2 = .ok (.iconst 0, 1) := by decide +kernel
theorem dX9_bestWork_3 : decode cX9_bestWork 3 = .ok (.istore_n 2, 1) := by decide +kernel
theorem dX9_bestWork_4 : decode cX9_bestWork 4 = .ok (.iload_n 2, 1) := by decide +kernel
theorem dX9_bestWork_5 : decode cX9_bestWork 5 = .ok (.aload_n 0, 1) := by decide +kernel
theorem dX9_bestWork_6 : decode cX9_bestWork 6 = .ok (.getfield 19, 3) := by decide +kernel
theorem dX9_bestWork_9 : decode cX9_bestWork 9 = .ok (.getfield 115, 3) := by decide +kernel
theorem dX9_bestWork_12 : decode cX9_bestWork 12 = .ok (.if_icmp .ge 116, 3) := by decide +kernel
theorem dX9_bestWork_15 : decode cX9_bestWork 15 = .ok (.aload_n 0, 1) := by decide +kernel
theorem dX9_bestWork_16 : decode cX9_bestWork 16 = .ok (.getfield 54, 3) := by decide +kernel
theorem dX9_bestWork_19 : decode cX9_bestWork 19 = .ok (.aload_n 0, 1) := by decide +kernel
theorem dX9_bestWork_20 : decode cX9_bestWork 20 = .ok (.getfield 19, 3) := by decide +kernel
theorem dX9_bestWork_23 : decode cX9_bestWork 23 = .ok (.iload_n 2, 1) := by decide +kernel
theorem dX9_bestWork_24 : decode cX9_bestWork 24 = .ok (.invokevirtual 307, 3) := by decide +kernel
theorem dX9_bestWork_27 : decode cX9_bestWork 27 = .ok (.ifCond .ne 6, 3) := by decide +kernel
theorem dX9_bestWork_30 : decode cX9_bestWork 30 = .ok (.goto 92, 3) := by decide +kernel
theorem dX9_bestWork_33 : decode cX9_bestWork 33 = .ok (.aload_n 0, 1) := by decide +kernel
theorem dX9_bestWork_34 : decode cX9_bestWork 34 = .ok (.getfield 54, 3) := by decide +kernel
theorem dX9_bestWork_37 : decode cX9_bestWork 37 = .ok (.aload_n 0, 1) := by decide +kernel
theorem dX9_bestWork_38 : decode cX9_bestWork 38 = .ok (.getfield 34, 3) := by decide +kernel
theorem dX9_bestWork_41 : decode cX9_bestWork 41 = .ok (.invokevirtual 177, 3) := by decide +kernel
theorem dX9_bestWork_44 : decode cX9_bestWork 44 = .ok (.aload_n 0, 1) := by decide +kernel
theorem dX9_bestWork_45 : decode cX9_bestWork 45 = .ok (.getfield 34, 3) := by decide +kernel
theorem dX9_bestWork_48 : decode cX9_bestWork 48 = .ok (.aload_n 0, 1) := by decide +kernel
theorem dX9_bestWork_49 : decode cX9_bestWork 49 = .ok (.getfield 34, 3) := by decide +kernel
theorem dX9_bestWork_52 : decode cX9_bestWork 52 = .ok (.getfield 166, 3) := by decide +kernel
theorem dX9_bestWork_55 : decode cX9_bestWork 55 = .ok (.lneg, 1) := by decide +kernel
theorem dX9_bestWork_56 : decode cX9_bestWork 56 = .ok (.aload_n 0, 1) := by decide +kernel
theorem dX9_bestWork_57 : decode cX9_bestWork 57 = .ok (.getfield 34, 3) := by decide +kernel
theorem dX9_bestWork_60 : decode cX9_bestWork 60 = .ok (.getfield 170, 3) := by decide +kernel
theorem dX9_bestWork_63 : decode cX9_bestWork 63 = .ok (.invokevirtual 190, 3) := by decide +kernel
theorem dX9_bestWork_66 : decode cX9_bestWork 66 = .ok (.aload_n 0, 1) := by decide +kernel
theorem dX9_bestWork_67 : decode cX9_bestWork 67 = .ok (.getfield 34, 3) := by decide +kernel
theorem dX9_bestWork_70 : decode cX9_bestWork 70 = .ok (.aload_n 0, 1) := by decide +kernel
theorem dX9_bestWork_71 : decode cX9_bestWork 71 = .ok (.getfield 19, 3) := by decide +kernel
theorem dX9_bestWork_74 : decode cX9_bestWork 74 = .ok (.iload_n 2, 1) := by decide +kernel
theorem dX9_bestWork_75 : decode cX9_bestWork 75 = .ok (.invokevirtual 310, 3) := by decide +kernel
theorem dX9_bestWork_78 : decode cX9_bestWork 78 = .ok (.i2l, 1) := by decide +kernel
theorem dX9_bestWork_79 : decode cX9_bestWork 79 = .ok (.aload_n 0, 1) := by decide +kernel
theorem dX9_bestWork_80 : decode cX9_bestWork 80 = .ok (.getfield 19, 3) := by decide +kernel
theorem dX9_bestWork_83 : decode cX9_bestWork 83 = .ok (.getfield 127, 3) := by decide +kernel
theorem dX9_bestWork_86 : decode cX9_bestWork 86 = .ok (.i2l, 1) := by decide +kernel
theorem dX9_bestWork_87 : decode cX9_bestWork 87 = .ok (.invokevirtual 242, 3) := by decide +kernel
theorem dX9_bestWork_90 : decode cX9_bestWork 90 = .ok (.iload_n 1, 1) := by decide +kernel
theorem dX9_bestWork_91 : decode cX9_bestWork 91 = .ok (.iconst (-1), 1) := by decide +kernel
theorem dX9_bestWork_92 : decode cX9_bestWork 92 = .ok (.if_icmp .eq 17, 3) := by decide +kernel
theorem dX9_bestWork_95 : decode cX9_bestWork 95 = .ok (.aload_n 0, 1) := by decide +kernel
theorem dX9_bestWork_96 : decode cX9_bestWork 96 = .ok (.getfield 37, 3) := by decide +kernel
theorem dX9_bestWork_99 : decode cX9_bestWork 99 = .ok (.aload_n 0, 1) := by decide +kernel
theorem dX9_bestWork_100 : decode cX9_bestWork 100 = .ok (.getfield 34, 3) := by decide +kernel
theorem dX9_bestWork_103 : decode cX9_bestWork 103 = .ok (.invokestatic 235, 3) := by decide +kernel
theorem dX9_bestWork_106 : decode cX9_bestWork 106 = .ok (.ifCond .eq 16, 3) := by decide +kernel
theorem dX9_bestWork_109 : decode cX9_bestWork 109 = .ok (.aload_n 0, 1) := by decide +kernel
theorem dX9_bestWork_110 : decode cX9_bestWork 110 = .ok (.getfield 37, 3) := by decide +kernel
theorem dX9_bestWork_113 : decode cX9_bestWork 113 = .ok (.aload_n 0, 1) := by decide +kernel
theorem dX9_bestWork_114 : decode cX9_bestWork 114 = .ok (.getfield 34, 3) := by decide +kernel
theorem dX9_bestWork_117 : decode cX9_bestWork 117 = .ok (.invokevirtual 202, 3) := by decide +kernel
theorem dX9_bestWork_120 : decode cX9_bestWork 120 = .ok (.iload_n 2, 1) := by decide +kernel
theorem dX9_bestWork_121 : decode cX9_bestWork 121 = .ok (.istore_n 1, 1) := by decide +kernel
theorem dX9_bestWork_122 : decode cX9_bestWork 122 = .ok (.iinc 2 1, 3) := by decide +kernel
theorem dX9_bestWork_125 : decode cX9_bestWork 125 = .ok (.goto (-121), 3) := by decide +kernel
theorem dX9_bestWork_128 : decode cX9_bestWork 128 = .ok (.iload_n 1, 1) := by decide +kernel
theorem dX9_bestWork_129 : decode cX9_bestWork 129 = .ok (.ireturn, 1) := by decide +kernel
theorem kk_X9_wages_0 : Cond.fieldLink RX9 47 "PaidBySigns" "hasWages" "Z" ∈ wsX9_wages := by decide +kernel
theorem kk_X9_wages_1 : Cond.constantLong RX9 185 (-1) ∈ wsX9_wages := by decide +kernel
theorem kk_X9_wages_2 : Cond.fieldLink RX9 40 "PaidBySigns" "wageUpper" "[J" ∈ wsX9_wages := by decide +kernel
theorem kk_X9_wages_3 : Cond.fieldLink RX9 44 "PaidBySigns" "wageLower" "[J" ∈ wsX9_wages := by decide +kernel
theorem kk_X9_seen_0 : Cond.fieldLink RX9 19 "PaidBySigns" "hire" "LPaidBySigns$Hire;" ∈ wsX9_seen := by decide +kernel
theorem kk_X9_seen_1 : Cond.fieldLink RX9 187 "PaidBySigns$Hire" "costs" "[I" ∈ wsX9_seen := by decide +kernel
theorem kk_X9_seen_2 : Cond.fieldLink RX9 130 "PaidBySigns$Hire" "otherwise" "I" ∈ wsX9_seen := by decide +kernel
theorem kk_X9_seen_3 : Cond.fieldLink RX9 101 "PaidBySigns$Hire" "least" "I" ∈ wsX9_seen := by decide +kernel
theorem kk_X9_seen_4 : Cond.fieldLink RX9 30 "PaidBySigns" "latest" "LPaidBySigns$Fraction;" ∈ wsX9_seen := by decide +kernel
theorem kk_X9_bestWork_0 : Cond.fieldLink RX9 19 "PaidBySigns" "hire" "LPaidBySigns$Hire;" ∈ wsX9_bestWork := by decide +kernel
theorem kk_X9_bestWork_1 : Cond.fieldLink RX9 115 "PaidBySigns$Hire" "works" "I" ∈ wsX9_bestWork := by decide +kernel
theorem kk_X9_bestWork_2 : Cond.fieldLink RX9 54 "PaidBySigns" "cheapest" "LPaidBySigns$LeastCost;" ∈ wsX9_bestWork := by decide +kernel
theorem kk_X9_bestWork_3 : Cond.fieldLink RX9 34 "PaidBySigns" "trial" "LPaidBySigns$Fraction;" ∈ wsX9_bestWork := by decide +kernel
theorem kk_X9_bestWork_4 : Cond.fieldLink RX9 166 "PaidBySigns$Fraction" "upper" "J" ∈ wsX9_bestWork := by decide +kernel
theorem kk_X9_bestWork_5 : Cond.fieldLink RX9 170 "PaidBySigns$Fraction" "lower" "J" ∈ wsX9_bestWork := by decide +kernel
theorem kk_X9_bestWork_6 : Cond.fieldLink RX9 127 "PaidBySigns$Hire" "whole" "I" ∈ wsX9_bestWork := by decide +kernel
theorem kk_X9_bestWork_7 : Cond.fieldLink RX9 37 "PaidBySigns" "champion" "LPaidBySigns$Fraction;" ∈ wsX9_bestWork := by decide +kernel
theorem kk_X9_best_0 : Cond.fieldLink RX9 30 "PaidBySigns" "latest" "LPaidBySigns$Fraction;" ∈ wsX9_best := by decide +kernel
theorem kk_X9_best_1 : Cond.fieldLink RX9 37 "PaidBySigns" "champion" "LPaidBySigns$Fraction;" ∈ wsX9_best := by decide +kernel
theorem iw_X9_wages_X9 : ∀ w ∈ wsX90, w ∈ wsX9_wages := by decide +kernel
theorem iw_X9_seen_X9 : ∀ w ∈ wsX90, w ∈ wsX9_seen := by decide +kernel
theorem iw_X9_seen_X3 : ∀ w ∈ wsX30, w ∈ wsX9_seen := by decide +kernel
theorem iw_X9_bestWork_X9 : ∀ w ∈ wsX90, w ∈ wsX9_bestWork := by decide +kernel
theorem iw_X9_bestWork_X3 : ∀ w ∈ wsX30, w ∈ wsX9_bestWork := by decide +kernel
theorem iw_X9_bestWork_X2 : ∀ w ∈ wsX20, w ∈ wsX9_bestWork := by decide +kernel
theorem iw_X9_best_X9 : ∀ w ∈ wsX90, w ∈ wsX9_best := by decide +kernel
