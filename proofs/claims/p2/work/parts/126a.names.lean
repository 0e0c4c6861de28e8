abbrev cX9_edge : ByteArray := prog_1_method_30_code
def yX9_edge : MethodName := ⟨RX9, "edge", "(III)I"⟩
abbrev cX9_ratio : ByteArray := prog_1_method_31_code
def yX9_ratio : MethodName := ⟨RX9, "ratio", "(II)I"⟩
abbrev cX9_rises : ByteArray := prog_1_method_32_code
def yX9_rises : MethodName := ⟨RX9, "rises", "(I)I"⟩
abbrev cX9_see : ByteArray := prog_1_method_33_code
def yX9_see : MethodName := ⟨RX9, "see", "(II)I"⟩
abbrev cX9_right : ByteArray := prog_1_method_34_code
def yX9_right : MethodName := ⟨RX9, "right", "(III)I"⟩
def wsX9_edge_r1 : List Cond := [Cond.fieldLink RX9 19 "PaidBySigns" "hire" "LPaidBySigns$Hire;", Cond.fieldLink RX9 147 "PaidBySigns$Hire" "chances" "[[I", Cond.fieldLink RX9 127 "PaidBySigns$Hire" "whole" "I", Cond.methodLink RX9 264 Lib.Math.min.name, Cond.static Lib.Math.min.name, Cond.initialized "java/lang/Math", Cond.code Lib.Math.min.name Lib.Math.min.code 2 (some .int), Cond.methodLink RX9 140 yX9_isWork, Cond.instanceMethod yX9_isWork, Cond.selects RX9 yX9_isWork yX9_isWork, Cond.initialized RX9, Cond.code yX9_isWork cX9_isWork 2 (some .boolean), Cond.fieldLink RX9 115 "PaidBySigns$Hire" "works" "I", Cond.methodLink RX9 205 yX9_isPair, Cond.instanceMethod yX9_isPair, Cond.selects RX9 yX9_isPair yX9_isPair, Cond.code yX9_isPair cX9_isPair 3 (some .boolean), Cond.methodLink RX9 144 yX9_isSign, Cond.instanceMethod yX9_isSign, Cond.selects RX9 yX9_isSign yX9_isSign, Cond.code yX9_isSign cX9_isSign 2 (some .boolean), Cond.fieldLink RX9 124 "PaidBySigns$Hire" "signs" "I", Cond.methodLink RX9 198 yX9_bestWork, Cond.instanceMethod yX9_bestWork]
def wsX9_edge_r2 : List Cond := [Cond.selects RX9 yX9_bestWork yX9_bestWork, Cond.code yX9_bestWork cX9_bestWork 3 (some .int), Cond.fieldLink RX9 54 "PaidBySigns" "cheapest" "LPaidBySigns$LeastCost;", Cond.fieldLink RX9 34 "PaidBySigns" "trial" "LPaidBySigns$Fraction;", Cond.fieldLink RX9 166 "PaidBySigns$Fraction" "upper" "J", Cond.fieldLink RX9 170 "PaidBySigns$Fraction" "lower" "J", Cond.fieldLink RX9 37 "PaidBySigns" "champion" "LPaidBySigns$Fraction;", Cond.methodLink RX9 307 yX4_findCost, Cond.instanceMethod yX4_findCost, Cond.selects RX4 yX4_findCost yX4_findCost, Cond.initialized RX4, Cond.code yX4_findCost cX4_findCost 3 (some .boolean), Cond.methodLink RX4 59 yX4_find, Cond.instanceMethod yX4_find, Cond.selects RX4 yX4_find yX4_find, Cond.code yX4_find cX4_find 6 (some .boolean), Cond.fieldLink RX4 46 "PaidBySigns$LeastCost" "hire" "LPaidBySigns$Hire;", Cond.fieldLink RX4 50 "PaidBySigns$LeastCost" "work" "I", Cond.fieldLink RX4 53 "PaidBySigns$LeastCost" "keptSign" "I", Cond.fieldLink RX4 56 "PaidBySigns$LeastCost" "joinedSign" "I", Cond.fieldLink RX4 22 "PaidBySigns$LeastCost" "table" "LPaidBySigns$Table;", Cond.fieldLink RX4 88 "PaidBySigns$Hire" "works" "I", Cond.fieldLink RX4 40 "PaidBySigns$LeastCost" "rooms" "I", Cond.fieldLink RX4 36 "PaidBySigns$LeastCost" "columns" "I"]
def wsX9_edge_r3 : List Cond := [Cond.methodLink RX4 85 yX4_listColumns, Cond.instanceMethod yX4_listColumns, Cond.selects RX4 yX4_listColumns yX4_listColumns, Cond.code yX4_listColumns cX4_listColumns 2 none, Cond.fieldLink RX4 63 "PaidBySigns$Hire" "signs" "I", Cond.methodLink RX4 66 yX4_chanceOf, Cond.instanceMethod yX4_chanceOf, Cond.selects RX4 yX4_chanceOf yX4_chanceOf, Cond.code yX4_chanceOf cX4_chanceOf 3 (some .int), Cond.fieldLink RX4 112 "PaidBySigns$Hire" "chances" "[[I", Cond.methodLink RX4 116 yX4_listSteps, Cond.instanceMethod yX4_listSteps, Cond.selects RX4 yX4_listSteps yX4_listSteps, Cond.code yX4_listSteps cX4_listSteps 5 none, Cond.fieldLink RX4 79 "PaidBySigns$Hire" "least" "I", Cond.fieldLink RX4 119 "PaidBySigns$Hire" "rates" "I", Cond.fieldLink RX4 122 "PaidBySigns$Hire" "mark" "[I", Cond.fieldLink RX4 26 "PaidBySigns$LeastCost" "columnSign" "[I", Cond.fieldLink RX4 30 "PaidBySigns$LeastCost" "columnRate" "[I", Cond.fieldLink RX4 125 "PaidBySigns$Hire" "rate" "[I", Cond.fieldLink RX4 33 "PaidBySigns$LeastCost" "columnRoom" "[I", Cond.methodLink RX4 91 yX8_start, Cond.instanceMethod yX8_start, Cond.selects RX8 yX8_start yX8_start]
def wsX9_edge_r4 : List Cond := [Cond.initialized RX8, Cond.code yX8_start cX8_start 5 none, Cond.methodLink RX8 23 Lib.Math.min.name, Cond.fieldLink RX8 29 "PaidBySigns$Table" "goals" "I", Cond.fieldLink RX8 33 "PaidBySigns$Table" "lines" "I", Cond.fieldLink RX8 36 "PaidBySigns$Table" "columns" "I", Cond.fieldLink RX8 39 "PaidBySigns$Table" "base" "J", Cond.fieldLink RX8 13 "PaidBySigns$Table" "entry" "[[J", Cond.fieldLink RX8 16 "PaidBySigns$Table" "lineName" "[I", Cond.fieldLink RX8 20 "PaidBySigns$Table" "columnName" "[I", Cond.methodLink RX8 43 yJ7_fill_d0a16, Cond.static yJ7_fill_d0a16, Cond.initialized RJ7, Cond.code yJ7_fill_d0a16 cJ7_fill_d0a16 5 none, Cond.methodLink RX4 95 yX4_fillGoals, Cond.instanceMethod yX4_fillGoals, Cond.selects RX4 yX4_fillGoals yX4_fillGoals, Cond.code yX4_fillGoals cX4_fillGoals 5 none, Cond.fieldLink RX4 132 "PaidBySigns$Table" "entry" "[[J", Cond.methodLink RX4 128 yX4_partsOf, Cond.instanceMethod yX4_partsOf, Cond.selects RX4 yX4_partsOf yX4_partsOf, Cond.code yX4_partsOf cX4_partsOf 2 (some .int), Cond.methodLink RX4 99 yX4_fillLines]
def wsX9_edge_r5 : List Cond := [Cond.instanceMethod yX4_fillLines, Cond.selects RX4 yX4_fillLines yX4_fillLines, Cond.code yX4_fillLines cX4_fillLines 6 none, Cond.fieldLink RX4 70 "PaidBySigns$Hire" "whole" "I", Cond.methodLink RX4 136 yX3_lackOf, Cond.instanceMethod yX3_lackOf, Cond.selects RX3 yX3_lackOf yX3_lackOf, Cond.initialized RX3, Cond.code yX3_lackOf cX3_lackOf 3 (some .int), Cond.fieldLink RX3 15 "PaidBySigns$Hire" "costs" "[I", Cond.fieldLink RX3 42 "PaidBySigns$Hire" "otherwise" "I", Cond.fieldLink RX3 45 "PaidBySigns$Hire" "least" "I", Cond.methodLink RX3 63 yX3_feltOf, Cond.instanceMethod yX3_feltOf, Cond.selects RX3 yX3_feltOf yX3_feltOf, Cond.code yX3_feltOf cX3_feltOf 6 (some .int), Cond.fieldLink RX3 48 "PaidBySigns$Hire" "rates" "I", Cond.fieldLink RX3 26 "PaidBySigns$Hire" "mark" "[I", Cond.methodLink RX3 51 Lib.Math.min.name, Cond.fieldLink RX3 23 "PaidBySigns$Hire" "rate" "[I", Cond.methodLink RX4 102 yX4_fillRooms, Cond.instanceMethod yX4_fillRooms, Cond.selects RX4 yX4_fillRooms yX4_fillRooms, Cond.code yX4_fillRooms cX4_fillRooms 4 none]
def wsX9_edge_r6 : List Cond := [Cond.methodLink RX4 105 yX8_solve, Cond.instanceMethod yX8_solve, Cond.selects RX8 yX8_solve yX8_solve, Cond.code yX8_solve cX8_solve 4 (some .boolean), Cond.constant RX8 49 (1000000), Cond.methodLink RX8 50 yX8_lineBelowZero, Cond.instanceMethod yX8_lineBelowZero, Cond.selects RX8 yX8_lineBelowZero yX8_lineBelowZero, Cond.code yX8_lineBelowZero cX8_lineBelowZero 3 (some .int), Cond.methodLink RX8 54 yX8_columnFor, Cond.instanceMethod yX8_columnFor, Cond.selects RX8 yX8_columnFor yX8_columnFor, Cond.code yX8_columnFor cX8_columnFor 5 (some .int), Cond.methodLink RX8 62 yX8_compareRatios, Cond.instanceMethod yX8_compareRatios, Cond.selects RX8 yX8_compareRatios yX8_compareRatios, Cond.code yX8_compareRatios cX8_compareRatios 13 (some .int), Cond.methodLink RX8 58 yX8_pivot, Cond.instanceMethod yX8_pivot, Cond.selects RX8 yX8_pivot yX8_pivot, Cond.code yX8_pivot cX8_pivot 7 none, Cond.methodLink RX8 66 yX8_changeLine, Cond.instanceMethod yX8_changeLine, Cond.selects RX8 yX8_changeLine yX8_changeLine]
def wsX9_edge_r7 : List Cond := [Cond.code yX8_changeLine cX8_changeLine 9 none, Cond.methodLink RX4 109 yX4_readWages, Cond.instanceMethod yX4_readWages, Cond.selects RX4 yX4_readWages yX4_readWages, Cond.code yX4_readWages cX4_readWages 3 none, Cond.fieldLink RX4 9 "PaidBySigns$LeastCost" "above" "[J", Cond.constantLong RX4 145 (60), Cond.fieldLink RX4 147 "PaidBySigns$Table" "base" "J", Cond.fieldLink RX4 15 "PaidBySigns$LeastCost" "aboveLower" "J", Cond.fieldLink RX4 150 "PaidBySigns$Table" "goals" "I", Cond.fieldLink RX4 153 "PaidBySigns$Table" "lines" "I", Cond.fieldLink RX4 156 "PaidBySigns$Table" "lineName" "[I", Cond.methodLink RX4 139 yJ7_fill_d0a16, Cond.methodLink RX9 177 yX4_costInto, Cond.instanceMethod yX4_costInto, Cond.selects RX4 yX4_costInto yX4_costInto, Cond.code yX4_costInto cX4_costInto 5 none, Cond.methodLink RX4 73 yX2_become, Cond.instanceMethod yX2_become, Cond.selects RX2 yX2_become yX2_become, Cond.initialized RX2, Cond.code yX2_become cX2_become 7 none, Cond.methodLink RX2 20 Lib.MathLoose.abs_long.x, Cond.static Lib.MathLoose.abs_long.x]
def wsX9_edge_r8 : List Cond := [Cond.code Lib.MathLoose.abs_long.x Lib.MathLoose.abs_long.code 2 (some .long), Cond.fieldLink RX2 11 "PaidBySigns$Fraction" "upper" "J", Cond.fieldLink RX2 17 "PaidBySigns$Fraction" "lower" "J", Cond.methodLink RX2 26 yX2_commonPart, Cond.static yX2_commonPart, Cond.code yX2_commonPart cX2_commonPart 11 (some .long), Cond.methodLink RX2 30 yX2_forget, Cond.instanceMethod yX2_forget, Cond.selects RX2 yX2_forget yX2_forget, Cond.code yX2_forget cX2_forget 1 none, Cond.constantLong RX2 9 (-2000000000), Cond.methodLink RX4 82 yX2_add, Cond.instanceMethod yX2_add, Cond.selects RX2 yX2_add yX2_add, Cond.code yX2_add cX2_add 5 none, Cond.methodLink RX2 33 yX2_become, Cond.methodLink RX9 190 yX2_become, Cond.methodLink RX9 310 yX3_broughtBy, Cond.instanceMethod yX3_broughtBy, Cond.selects RX3 yX3_broughtBy yX3_broughtBy, Cond.code yX3_broughtBy cX3_broughtBy 4 (some .int), Cond.fieldLink RX3 32 "PaidBySigns$Hire" "signs" "I", Cond.fieldLink RX3 20 "PaidBySigns$Hire" "chances" "[[I", Cond.fieldLink RX3 9 "PaidBySigns$Hire" "brings" "[I"]
def wsX9_edge_r9 : List Cond := [Cond.methodLink RX9 242 yX2_add, Cond.methodLink RX9 235 yX2_isBelow, Cond.static yX2_isBelow, Cond.code yX2_isBelow cX2_isBelow 2 (some .boolean), Cond.methodLink RX9 202 yX2_copy, Cond.instanceMethod yX2_copy, Cond.selects RX2 yX2_copy yX2_copy, Cond.code yX2_copy cX2_copy 2 none]
def wsX9_edge : List Cond := .code yX9_edge cX9_edge 11 (some .int) :: ((wsX9_edge_r1 ++ (wsX9_edge_r2 ++ (wsX9_edge_r3 ++ (wsX9_edge_r4 ++ (wsX9_edge_r5 ++ (wsX9_edge_r6 ++ (wsX9_edge_r7 ++ (wsX9_edge_r8 ++ wsX9_edge_r9)))))))) ++ wsX90 ++ wsX30 ++ wsX20 ++ wsX40 ++ wsX80)
def wsX9_ratio : List Cond := .code yX9_ratio cX9_ratio 8 (some .int) :: ([.fieldLink RX9 19 "PaidBySigns" "hire" "LPaidBySigns$Hire;", .fieldLink RX9 124 "PaidBySigns$Hire" "signs" "I", .fieldLink RX9 269 "PaidBySigns$Hire" "brings" "[I", .fieldLink RX9 147 "PaidBySigns$Hire" "chances" "[[I", .methodLink RX9 140 yX9_isWork, .instanceMethod yX9_isWork, .selects RX9 yX9_isWork yX9_isWork, .initialized RX9, .code yX9_isWork cX9_isWork 2 (some .boolean), .fieldLink RX9 115 "PaidBySigns$Hire" "works" "I"] ++ wsX90 ++ wsX30)
def wsX9_rises_r1 : List Cond := [Cond.fieldLink RX9 54 "PaidBySigns" "cheapest" "LPaidBySigns$LeastCost;", Cond.fieldLink RX9 19 "PaidBySigns" "hire" "LPaidBySigns$Hire;", Cond.fieldLink RX9 124 "PaidBySigns$Hire" "signs" "I", Cond.fieldLink RX9 269 "PaidBySigns$Hire" "brings" "[I", Cond.fieldLink RX9 272 "PaidBySigns$LeastCost" "above" "[J", Cond.methodLink RX9 140 yX9_isWork, Cond.instanceMethod yX9_isWork, Cond.selects RX9 yX9_isWork yX9_isWork, Cond.initialized RX9, Cond.code yX9_isWork cX9_isWork 2 (some .boolean), Cond.fieldLink RX9 115 "PaidBySigns$Hire" "works" "I", Cond.methodLink RX9 173 yX4_findWages, Cond.instanceMethod yX4_findWages, Cond.selects RX4 yX4_findWages yX4_findWages, Cond.initialized RX4, Cond.code yX4_findWages cX4_findWages 3 (some .boolean), Cond.fieldLink RX4 63 "PaidBySigns$Hire" "signs" "I", Cond.methodLink RX4 59 yX4_find, Cond.instanceMethod yX4_find, Cond.selects RX4 yX4_find yX4_find, Cond.code yX4_find cX4_find 6 (some .boolean), Cond.fieldLink RX4 46 "PaidBySigns$LeastCost" "hire" "LPaidBySigns$Hire;", Cond.fieldLink RX4 50 "PaidBySigns$LeastCost" "work" "I", Cond.fieldLink RX4 53 "PaidBySigns$LeastCost" "keptSign" "I"]
def wsX9_rises_r2 : List Cond := [Cond.fieldLink RX4 56 "PaidBySigns$LeastCost" "joinedSign" "I", Cond.fieldLink RX4 22 "PaidBySigns$LeastCost" "table" "LPaidBySigns$Table;", Cond.fieldLink RX4 88 "PaidBySigns$Hire" "works" "I", Cond.fieldLink RX4 40 "PaidBySigns$LeastCost" "rooms" "I", Cond.fieldLink RX4 36 "PaidBySigns$LeastCost" "columns" "I", Cond.methodLink RX4 85 yX4_listColumns, Cond.instanceMethod yX4_listColumns, Cond.selects RX4 yX4_listColumns yX4_listColumns, Cond.code yX4_listColumns cX4_listColumns 2 none, Cond.methodLink RX4 66 yX4_chanceOf, Cond.instanceMethod yX4_chanceOf, Cond.selects RX4 yX4_chanceOf yX4_chanceOf, Cond.code yX4_chanceOf cX4_chanceOf 3 (some .int), Cond.fieldLink RX4 112 "PaidBySigns$Hire" "chances" "[[I", Cond.methodLink RX4 116 yX4_listSteps, Cond.instanceMethod yX4_listSteps, Cond.selects RX4 yX4_listSteps yX4_listSteps, Cond.code yX4_listSteps cX4_listSteps 5 none, Cond.fieldLink RX4 79 "PaidBySigns$Hire" "least" "I", Cond.fieldLink RX4 119 "PaidBySigns$Hire" "rates" "I", Cond.fieldLink RX4 122 "PaidBySigns$Hire" "mark" "[I", Cond.fieldLink RX4 26 "PaidBySigns$LeastCost" "columnSign" "[I", Cond.fieldLink RX4 30 "PaidBySigns$LeastCost" "columnRate" "[I", Cond.fieldLink RX4 125 "PaidBySigns$Hire" "rate" "[I"]
def wsX9_rises_r3 : List Cond := [Cond.fieldLink RX4 33 "PaidBySigns$LeastCost" "columnRoom" "[I", Cond.methodLink RX4 91 yX8_start, Cond.instanceMethod yX8_start, Cond.selects RX8 yX8_start yX8_start, Cond.initialized RX8, Cond.code yX8_start cX8_start 5 none, Cond.methodLink RX8 23 Lib.Math.min.name, Cond.static Lib.Math.min.name, Cond.initialized "java/lang/Math", Cond.code Lib.Math.min.name Lib.Math.min.code 2 (some .int), Cond.fieldLink RX8 29 "PaidBySigns$Table" "goals" "I", Cond.fieldLink RX8 33 "PaidBySigns$Table" "lines" "I", Cond.fieldLink RX8 36 "PaidBySigns$Table" "columns" "I", Cond.fieldLink RX8 39 "PaidBySigns$Table" "base" "J", Cond.fieldLink RX8 13 "PaidBySigns$Table" "entry" "[[J", Cond.fieldLink RX8 16 "PaidBySigns$Table" "lineName" "[I", Cond.fieldLink RX8 20 "PaidBySigns$Table" "columnName" "[I", Cond.methodLink RX8 43 yJ7_fill_d0a16, Cond.static yJ7_fill_d0a16, Cond.initialized RJ7, Cond.code yJ7_fill_d0a16 cJ7_fill_d0a16 5 none, Cond.methodLink RX4 95 yX4_fillGoals, Cond.instanceMethod yX4_fillGoals, Cond.selects RX4 yX4_fillGoals yX4_fillGoals]
def wsX9_rises_r4 : List Cond := [Cond.code yX4_fillGoals cX4_fillGoals 5 none, Cond.fieldLink RX4 132 "PaidBySigns$Table" "entry" "[[J", Cond.methodLink RX4 128 yX4_partsOf, Cond.instanceMethod yX4_partsOf, Cond.selects RX4 yX4_partsOf yX4_partsOf, Cond.code yX4_partsOf cX4_partsOf 2 (some .int), Cond.methodLink RX4 99 yX4_fillLines, Cond.instanceMethod yX4_fillLines, Cond.selects RX4 yX4_fillLines yX4_fillLines, Cond.code yX4_fillLines cX4_fillLines 6 none, Cond.fieldLink RX4 70 "PaidBySigns$Hire" "whole" "I", Cond.methodLink RX4 136 yX3_lackOf, Cond.instanceMethod yX3_lackOf, Cond.selects RX3 yX3_lackOf yX3_lackOf, Cond.initialized RX3, Cond.code yX3_lackOf cX3_lackOf 3 (some .int), Cond.fieldLink RX3 15 "PaidBySigns$Hire" "costs" "[I", Cond.fieldLink RX3 42 "PaidBySigns$Hire" "otherwise" "I", Cond.fieldLink RX3 45 "PaidBySigns$Hire" "least" "I", Cond.methodLink RX3 63 yX3_feltOf, Cond.instanceMethod yX3_feltOf, Cond.selects RX3 yX3_feltOf yX3_feltOf, Cond.code yX3_feltOf cX3_feltOf 6 (some .int), Cond.fieldLink RX3 48 "PaidBySigns$Hire" "rates" "I"]
def wsX9_rises_r5 : List Cond := [Cond.fieldLink RX3 26 "PaidBySigns$Hire" "mark" "[I", Cond.methodLink RX3 51 Lib.Math.min.name, Cond.fieldLink RX3 23 "PaidBySigns$Hire" "rate" "[I", Cond.methodLink RX4 102 yX4_fillRooms, Cond.instanceMethod yX4_fillRooms, Cond.selects RX4 yX4_fillRooms yX4_fillRooms, Cond.code yX4_fillRooms cX4_fillRooms 4 none, Cond.methodLink RX4 105 yX8_solve, Cond.instanceMethod yX8_solve, Cond.selects RX8 yX8_solve yX8_solve, Cond.code yX8_solve cX8_solve 4 (some .boolean), Cond.constant RX8 49 (1000000), Cond.methodLink RX8 50 yX8_lineBelowZero, Cond.instanceMethod yX8_lineBelowZero, Cond.selects RX8 yX8_lineBelowZero yX8_lineBelowZero, Cond.code yX8_lineBelowZero cX8_lineBelowZero 3 (some .int), Cond.methodLink RX8 54 yX8_columnFor, Cond.instanceMethod yX8_columnFor, Cond.selects RX8 yX8_columnFor yX8_columnFor, Cond.code yX8_columnFor cX8_columnFor 5 (some .int), Cond.methodLink RX8 62 yX8_compareRatios, Cond.instanceMethod yX8_compareRatios, Cond.selects RX8 yX8_compareRatios yX8_compareRatios, Cond.code yX8_compareRatios cX8_compareRatios 13 (some .int)]
def wsX9_rises_r6 : List Cond := [Cond.methodLink RX8 58 yX8_pivot, Cond.instanceMethod yX8_pivot, Cond.selects RX8 yX8_pivot yX8_pivot, Cond.code yX8_pivot cX8_pivot 7 none, Cond.methodLink RX8 66 yX8_changeLine, Cond.instanceMethod yX8_changeLine, Cond.selects RX8 yX8_changeLine yX8_changeLine, Cond.code yX8_changeLine cX8_changeLine 9 none, Cond.methodLink RX4 109 yX4_readWages, Cond.instanceMethod yX4_readWages, Cond.selects RX4 yX4_readWages yX4_readWages, Cond.code yX4_readWages cX4_readWages 3 none, Cond.fieldLink RX4 9 "PaidBySigns$LeastCost" "above" "[J", Cond.constantLong RX4 145 (60), Cond.fieldLink RX4 147 "PaidBySigns$Table" "base" "J", Cond.fieldLink RX4 15 "PaidBySigns$LeastCost" "aboveLower" "J", Cond.fieldLink RX4 150 "PaidBySigns$Table" "goals" "I", Cond.fieldLink RX4 153 "PaidBySigns$Table" "lines" "I", Cond.fieldLink RX4 156 "PaidBySigns$Table" "lineName" "[I", Cond.methodLink RX4 139 yJ7_fill_d0a16]
def wsX9_rises : List Cond := .code yX9_rises cX9_rises 4 (some .int) :: ((wsX9_rises_r1 ++ (wsX9_rises_r2 ++ (wsX9_rises_r3 ++ (wsX9_rises_r4 ++ (wsX9_rises_r5 ++ wsX9_rises_r6))))) ++ wsX90 ++ wsX30 ++ wsX40 ++ wsX80)
def wsX9_see : List Cond := .code yX9_see cX9_see 3 (some .int) :: ([.fieldLink RX9 82 "PaidBySigns" "diary" "LPaidBySigns$Diary;", .fieldLink RX9 278 "PaidBySigns$Diary" "seen" "I", .methodLink RX9 275 yX1_canTell, .instanceMethod yX1_canTell, .selects RX1 yX1_canTell yX1_canTell, .initialized RX1, .code yX1_canTell cX1_canTell 2 (some .boolean), .fieldLink RX1 18 "PaidBySigns$Diary" "latestStep" "I", .methodLink RX9 144 yX9_isSign, .instanceMethod yX9_isSign, .selects RX9 yX9_isSign yX9_isSign, .initialized RX9, .code yX9_isSign cX9_isSign 2 (some .boolean), .fieldLink RX9 19 "PaidBySigns" "hire" "LPaidBySigns$Hire;", .fieldLink RX9 124 "PaidBySigns$Hire" "signs" "I", .methodLink RX9 281 yX1_write, .instanceMethod yX1_write, .selects RX1 yX1_write yX1_write, .code yX1_write cX1_write 3 (some .int), .fieldLink RX1 9 "PaidBySigns$Diary" "seen" "I", .fieldLink RX1 21 "PaidBySigns$Diary" "seenStep" "[I", .fieldLink RX1 25 "PaidBySigns$Diary" "seenSign" "[I", .fieldLink RX1 28 "PaidBySigns$Diary" "timesRight" "[I"] ++ wsX90 ++ wsX10 ++ wsX30)
def wsX9_right_r1 : List Cond := [Cond.fieldLink RX9 82 "PaidBySigns" "diary" "LPaidBySigns$Diary;", Cond.fieldLink RX9 287 "PaidBySigns$Diary" "rights" "I", Cond.methodLink RX9 275 yX1_canTell, Cond.instanceMethod yX1_canTell, Cond.selects RX1 yX1_canTell yX1_canTell, Cond.initialized RX1, Cond.code yX1_canTell cX1_canTell 2 (some .boolean), Cond.fieldLink RX1 18 "PaidBySigns$Diary" "latestStep" "I", Cond.methodLink RX9 284 yX1_canCorrect, Cond.instanceMethod yX1_canCorrect, Cond.selects RX1 yX1_canCorrect yX1_canCorrect, Cond.code yX1_canCorrect cX1_canCorrect 3 (some .boolean), Cond.fieldLink RX1 9 "PaidBySigns$Diary" "seen" "I", Cond.fieldLink RX1 21 "PaidBySigns$Diary" "seenStep" "[I", Cond.methodLink RX9 144 yX9_isSign, Cond.instanceMethod yX9_isSign, Cond.selects RX9 yX9_isSign yX9_isSign, Cond.initialized RX9, Cond.code yX9_isSign cX9_isSign 2 (some .boolean), Cond.fieldLink RX9 19 "PaidBySigns" "hire" "LPaidBySigns$Hire;", Cond.fieldLink RX9 124 "PaidBySigns$Hire" "signs" "I", Cond.methodLink RX9 290 yX1_correct, Cond.instanceMethod yX1_correct, Cond.selects RX1 yX1_correct yX1_correct]
def wsX9_right_r2 : List Cond := [Cond.code yX1_correct cX1_correct 4 (some .int), Cond.fieldLink RX1 15 "PaidBySigns$Diary" "rights" "I", Cond.fieldLink RX1 31 "PaidBySigns$Diary" "rightStep" "[I", Cond.fieldLink RX1 34 "PaidBySigns$Diary" "rightOf" "[I", Cond.fieldLink RX1 37 "PaidBySigns$Diary" "rightSign" "[I", Cond.fieldLink RX1 28 "PaidBySigns$Diary" "timesRight" "[I"]
def wsX9_right : List Cond := .code yX9_right cX9_right 4 (some .int) :: ((wsX9_right_r1 ++ wsX9_right_r2) ++ wsX90 ++ wsX10 ++ wsX30)
set_option maxRecDepth 20000 in
theorem ggX9_edge_X9_isWork : GoodIn wsX9_edge wsX9_isWork := goodIn_r _ [12, 1, 13, 201, 202, 203, 204, 205, 206, 207, 208, 209, 210, 211, 212, 213, 214, 215, 216, 217, 218, 219, 220, 221, 222, 223, 224, 225] (by decide +kernel) (by decide +kernel)
set_option maxRecDepth 20000 in
theorem gX9_edge_X9_isWork : GoodIn wsX9_edge (wsV RX9 140 RX9 yX9_isWork wsX9_isWork) := goodIn_app (goodIn_of _ (by decide +kernel)) ggX9_edge_X9_isWork
set_option maxRecDepth 20000 in
theorem ggX9_edge_X9_isPair : GoodIn wsX9_edge wsX9_isPair := goodIn_r _ [17, 18, 19, 20, 11, 21, 1, 22, 201, 202, 203, 204, 205, 206, 207, 208, 209, 210, 211, 212, 213, 214, 215, 216, 217, 218, 219, 220, 221, 222, 223, 224, 225] (by decide +kernel) (by decide +kernel)
set_option maxRecDepth 20000 in
theorem gX9_edge_X9_isPair : GoodIn wsX9_edge (wsV RX9 205 RX9 yX9_isPair wsX9_isPair) := goodIn_app (goodIn_of _ (by decide +kernel)) ggX9_edge_X9_isPair
set_option maxRecDepth 20000 in
theorem ggX9_edge_X9_bestWork : GoodIn wsX9_edge wsX9_bestWork := goodIn_r _ [26, 1, 13, 27, 28, 29, 30, 3, 31, 32, 33, 34, 35, 36, 37, 38, 39, 40, 41, 42, 43, 44, 45, 46, 47, 48, 49, 50, 51, 52, 53, 54, 55, 56, 57, 58, 59, 60, 61, 62, 63, 64, 65, 66, 67, 68, 69, 70, 71, 72, 73, 74, 75, 5, 6, 7, 76, 77, 78, 79, 80, 81, 82, 83, 84, 85, 86, 87, 88, 89, 90, 91, 92, 93, 94, 95, 96, 97, 98, 99, 100, 101, 102, 103, 104, 105, 106, 107, 108, 109, 110, 111, 112, 113, 114, 115, 116, 117, 118, 119, 120, 121, 122, 123, 124, 125, 126, 127, 128, 129, 130, 131, 132, 133, 134, 135, 136, 137, 138, 139, 140, 141, 142, 143, 144, 145, 146, 147, 148, 149, 150, 151, 152, 153, 154, 155, 156, 157, 158, 159, 160, 161, 162, 163, 164, 165, 166, 167, 168, 169, 170, 171, 172, 173, 174, 175, 176, 177, 178, 179, 180, 181, 182, 183, 184, 185, 186, 187, 188, 189, 190, 191, 192, 193, 194, 195, 196, 197, 198, 199, 200, 201, 202, 203, 204, 205, 206, 207, 208, 209, 210, 211, 212, 213, 214, 215, 216, 217, 218, 219, 220, 221, 222, 223, 224, 225, 226, 227, 228, 229, 230, 231, 232, 233, 234, 235, 236, 237, 238, 239, 240, 241, 242, 243, 244, 245, 246] (by decide +kernel) (by decide +kernel)
set_option maxRecDepth 20000 in
theorem gX9_edge_X9_bestWork : GoodIn wsX9_edge (wsV RX9 198 RX9 yX9_bestWork wsX9_bestWork) := goodIn_app (goodIn_of _ (by decide +kernel)) ggX9_edge_X9_bestWork
theorem dX9_edge_0 : decode cX9_edge 0 = .ok (.aload_n 0, 1) := by decide +kernel
theorem dX9_edge_1 : decode cX9_edge 1 = .ok (.iload_n 1, 1) := by decide +kernel
theorem dX9_edge_2 : decode cX9_edge 2 = .ok (.invokevirtual 140, 3) := by decide +kernel
theorem dX9_edge_5 : decode cX9_edge 5 = .ok (.ifCond .eq 12, 3) := by decide +kernel
theorem dX9_edge_8 : decode cX9_edge 8 = .ok (.aload_n 0, 1) := by decide +kernel
theorem dX9_edge_9 : decode cX9_edge 9 = .ok (.iload_n 2, 1) := by decide +kernel
theorem dX9_edge_10 : decode cX9_edge 10 = .ok (.iload_n 3, 1) := by decide +kernel
theorem dX9_edge_11 : decode cX9_edge 11 = .ok (.invokevirtual 205, 3) := by decide +kernel
theorem dX9_edge_14 : decode cX9_edge 14 = .ok (.ifCond .ne 6, 3) := by decide +kernel
theorem dX9_edge_17 : decode cX9_edge 17 = .ok (.bipush (-2), 2) := by decide +kernel
theorem dX9_edge_19 : decode cX9_edge 19 = .ok (.ireturn, 1) := by decide +kernel
theorem dX9_edge_20 : decode cX9_edge 20 = .ok (.aload_n 0, 1) := by decide +kernel
theorem dX9_edge_21 : decode cX9_edge 21 = .ok (.getfield 19, 3) := by decide +kernel
theorem dX9_edge_24 : decode cX9_edge 24 = .ok (.getfield 147, 3) := by decide +kernel
theorem dX9_edge_27 : decode cX9_edge 27 = .ok (.iload_n 1, 1) := by decide +kernel
theorem dX9_edge_28 : decode cX9_edge 28 = .ok (.aaload, 1) := by decide +kernel
theorem dX9_edge_29 : decode cX9_edge 29 = .ok (.astore 4, 2) := by decide +kernel
theorem dX9_edge_31 : decode cX9_edge 31 = .ok (.aload 4, 2) := by decide +kernel
theorem dX9_edge_33 : decode cX9_edge 33 = .ok (.iload_n 2, 1) := by decide +kernel
theorem dX9_edge_34 : decode cX9_edge 34 = .ok (.iaload, 1) := by decide +kernel
theorem dX9_edge_35 : decode cX9_edge 35 = .ok (.istore 5, 2) := by decide +kernel
theorem dX9_edge_37 : decode cX9_edge 37 = .ok (.aload 4, 2) := by decide +kernel
theorem dX9_edge_39 : decode cX9_edge 39 = .ok (.iload_n 3, 1) := by decide +kernel
theorem dX9_edge_40 : decode cX9_edge 40 = .ok (.iaload, 1) := by decide +kernel
theorem dX9_edge_41 : decode cX9_edge 41 = .ok (.istore 6, 2) := by decide +kernel
theorem dX9_edge_43 : decode cX9_edge 43 = .ok (.iload 5, 2) := by decide +kernel
theorem dX9_edge_45 : decode cX9_edge 45 = .ok (.aload_n 0, 1) := by decide +kernel
theorem dX9_edge_46 : decode cX9_edge 46 = .ok (.getfield 19, 3) := by decide +kernel
theorem dX9_edge_49 : decode cX9_edge 49 = .ok (.getfield 127, 3) := by decide +kernel
theorem dX9_edge_52 : decode cX9_edge 52 = .ok (.iload 6, 2) := by decide +kernel
theorem dX9_edge_54 : decode cX9_edge 54 = .ok (.isub, 1) := by decide +kernel
theorem dX9_edge_55 : decode cX9_edge 55 = .ok (.invokestatic 264, 3) := by decide +kernel
theorem dX9_edge_58 : decode cX9_edge 58 = .ok (.istore 7, 2) := by decide +kernel
theorem dX9_edge_60 : decode cX9_edge 60 = .ok (.aload_n 0, 1) := by decide +kernel
theorem dX9_edge_61 : decode cX9_edge 61 = .ok (.invokevirtual 198, 3) := by decide +kernel
theorem dX9_edge_64 : decode cX9_edge 64 = .ok (.istore 8, 2) := by decide +kernel
theorem dX9_edge_66 : decode cX9_edge 66 = .ok (.iconst (-1), 1) := by decide +kernel
theorem dX9_edge_67 : decode cX9_edge 67 = .ok (.istore 9, 2) := by decide +kernel
theorem dX9_edge_69 : decode cX9_edge 69 = .ok (.iconst 1, 1) := by decide +kernel
theorem dX9_edge_70 : decode cX9_edge 70 = .ok (.istore 10, 2) := by decide +kernel
theorem dX9_edge_72 : decode cX9_edge 72 = .ok (.iload 10, 2) := by decide +kernel
theorem dX9_edge_74 : decode cX9_edge 74 = .ok (.iload 7, 2) := by decide +kernel
theorem dX9_edge_76 : decode cX9_edge 76 = .ok (.if_icmp .gt 46, 3) := by decide +kernel
theorem dX9_edge_79 : decode cX9_edge 79 = .ok (.iload 9, 2) := by decide +kernel
theorem dX9_edge_81 : decode cX9_edge 81 = .ok (.iconst (-1), 1) := by decide +kernel
theorem dX9_edge_82 : decode cX9_edge 82 = .ok (.if_icmp .ne 40, 3) := by decide +kernel
theorem dX9_edge_85 : decode cX9_edge 85 = .ok (.aload 4, 2) := by decide +kernel
theorem dX9_edge_87 : decode cX9_edge 87 = .ok (.iload_n 2, 1) := by decide +kernel
theorem dX9_edge_88 : decode cX9_edge 88 = .ok (.iload 5, 2) := by decide +kernel
theorem dX9_edge_90 : decode cX9_edge 90 = .ok (.iload 10, 2) := by decide +kernel
theorem dX9_edge_92 : decode cX9_edge 92 = .ok (.isub, 1) := by decide +kernel
theorem dX9_edge_93 : decode cX9_edge 93 = .ok (.iastore, 1) := by decide +kernel
theorem dX9_edge_94 : decode cX9_edge 94 = .ok (.aload 4, 2) := by decide +kernel
theorem dX9_edge_96 : decode cX9_edge 96 = .ok (.iload_n 3, 1) := by decide +kernel
theorem dX9_edge_97 : decode cX9_edge 97 = .ok (.iload 6, 2) := by decide +kernel
theorem dX9_edge_99 : decode cX9_edge 99 = .ok (.iload 10, 2) := by decide +kernel
theorem dX9_edge_101 : decode cX9_edge 101 = .ok (.iadd, 1) := by decide +kernel
theorem dX9_edge_102 : decode cX9_edge 102 = .ok (.iastore, 1) := by decide +kernel
theorem dX9_edge_103 : decode cX9_edge 103 = .ok (.aload_n 0, 1) := by decide +kernel
theorem dX9_edge_104 : decode cX9_edge 104 = .ok (.invokevirtual 198, 3) := by decide +kernel
theorem dX9_edge_107 : decode cX9_edge 107 = .ok (.iload 8, 2) := by decide +kernel
theorem dX9_edge_109 : decode cX9_edge 109 = .ok (.if_icmp .eq 7, 3) := by decide +kernel
theorem dX9_edge_112 : decode cX9_edge 112 = .ok (.iload 10, 2) := by decide +kernel
theorem dX9_edge_114 : decode cX9_edge 114 = .ok (.istore 9, 2) := by decide +kernel
theorem dX9_edge_116 : decode cX9_edge 116 = .ok (.iinc 10 1, 3) := by decide +kernel
theorem dX9_edge_119 : decode cX9_edge 119 = .ok (.goto (-47), 3) := by decide +kernel
theorem dX9_edge_122 : decode cX9_edge 122 = .ok (.aload 4, 2) := by decide +kernel
theorem dX9_edge_124 : decode cX9_edge 124 = .ok (.iload_n 2, 1) := by decide +kernel
theorem dX9_edge_125 : decode cX9_edge 125 = .ok (.iload 5, 2) := by decide +kernel
theorem dX9_edge_127 : decode cX9_edge 127 = .ok (.iastore, 1) := by decide +kernel
theorem dX9_edge_128 : decode cX9_edge 128 = .ok (.aload 4, 2) := by decide +kernel
theorem dX9_edge_130 : decode cX9_edge 130 = .ok (.iload_n 3, 1) := by decide +kernel
theorem dX9_edge_131 : decode cX9_edge 131 = .ok (.iload 6, 2) := by decide +kernel
theorem dX9_edge_133 : decode cX9_edge 133 = .ok (.iastore, 1) := by decide +kernel
theorem dX9_edge_134 : decode cX9_edge 134 = .ok (.iload 9, 2) := by decide +kernel
theorem dX9_edge_136 : decode cX9_edge 136 = .ok (.ireturn, 1) := by decide +kernel
set_option maxRecDepth 20000 in
theorem ggX9_ratio_X9_isWork : GoodIn wsX9_ratio wsX9_isWork := goodIn_r _ [9, 1, 10, 11, 12, 13, 14, 15, 16, 17, 18, 19, 20, 21, 22, 23, 24, 25, 26, 27, 28, 29, 30, 31, 32, 33, 34, 35] (by decide +kernel) (by decide +kernel)
set_option maxRecDepth 20000 in
theorem gX9_ratio_X9_isWork : GoodIn wsX9_ratio (wsV RX9 140 RX9 yX9_isWork wsX9_isWork) := goodIn_app (goodIn_of _ (by decide +kernel)) ggX9_ratio_X9_isWork
theorem dX9_ratio_0 : decode cX9_ratio 0 = .ok (.aload_n 0, 1) := by decide +kernel
theorem dX9_ratio_1 : decode cX9_ratio 1 = .ok (.iload_n 1, 1) := by decide +kernel
theorem dX9_ratio_2 : decode cX9_ratio 2 = .ok (.invokevirtual 140, 3) := by decide +kernel
theorem dX9_ratio_5 : decode cX9_ratio 5 = .ok (.ifCond .eq 11, 3) := by decide +kernel
theorem dX9_ratio_8 : decode cX9_ratio 8 = .ok (.aload_n 0, 1) := by decide +kernel
theorem dX9_ratio_9 : decode cX9_ratio 9 = .ok (.iload_n 2, 1) := by decide +kernel
theorem dX9_ratio_10 : decode cX9_ratio 10 = .ok (.invokevirtual 140, 3) := by decide +kernel
theorem dX9_ratio_13 : decode cX9_ratio 13 = .ok (.ifCond .ne 6, 3) := by decide +kernel
theorem dX9_ratio_16 : decode cX9_ratio 16 = .ok (.bipush (-2), 2) := by decide +kernel
theorem dX9_ratio_18 : decode cX9_ratio 18 = .ok (.ireturn, 1) := by decide +kernel
theorem dX9_ratio_19 : decode cX9_ratio 19 = .ok (.iconst 0, 1) := by decide +kernel
theorem dX9_ratio_20 : decode cX9_ratio 20 = .ok (.istore_n 3, 1) := by decide +kernel
theorem dX9_ratio_21 : decode cX9_ratio 21 = .ok (.iload_n 3, 1) := by decide +kernel
theorem dX9_ratio_22 : decode cX9_ratio 22 = .ok (.aload_n 0, 1) := by decide +kernel
theorem dX9_ratio_23 : decode cX9_ratio 23 = .ok (.getfield 19, 3) := by decide +kernel
theorem dX9_ratio_26 : decode cX9_ratio 26 = .ok (.getfield 124, 3) := by decide +kernel
theorem dX9_ratio_29 : decode cX9_ratio 29 = .ok (.if_icmp .ge 125, 3) := by decide +kernel
theorem dX9_ratio_32 : decode cX9_ratio 32 = .ok (.iconst 0, 1) := by decide +kernel
theorem dX9_ratio_33 : decode cX9_ratio 33 = .ok (.istore 4, 2) := by decide +kernel
theorem dX9_ratio_35 : decode cX9_ratio 35 = .ok (.iload 4, 2) := by decide +kernel
theorem dX9_ratio_37 : decode cX9_ratio 37 = .ok (.aload_n 0, 1) := by decide +kernel
theorem dX9_ratio_38 : decode cX9_ratio 38 = .ok (.getfield 19, 3) := by decide +kernel
theorem dX9_ratio_41 : decode cX9_ratio 41 = .ok (.getfield 124, 3) := by decide +kernel
theorem dX9_ratio_44 : decode cX9_ratio 44 = .ok (.if_icmp .ge 104, 3) := by decide +kernel
theorem dX9_ratio_47 : decode cX9_ratio 47 = .ok (.aload_n 0, 1) := by decide +kernel
theorem dX9_ratio_48 : decode cX9_ratio 48 = .ok (.getfield 19, 3) := by decide +kernel
theorem dX9_ratio_51 : decode cX9_ratio 51 = .ok (.getfield 269, 3) := by decide +kernel
theorem dX9_ratio_54 : decode cX9_ratio 54 = .ok (.iload 4, 2) := by decide +kernel
theorem dX9_ratio_56 : decode cX9_ratio 56 = .ok (.iaload, 1) := by decide +kernel
theorem dX9_ratio_57 : decode cX9_ratio 57 = .ok (.aload_n 0, 1) := by decide +kernel
theorem dX9_ratio_58 : decode cX9_ratio 58 = .ok (.getfield 19, 3) := by decide +kernel
theorem dX9_ratio_61 : decode cX9_ratio 61 = .ok (.getfield 269, 3) := by decide +kernel
theorem dX9_ratio_64 : decode cX9_ratio 64 = .ok (.iload_n 3, 1) := by decide +kernel
theorem dX9_ratio_65 : decode cX9_ratio 65 = .ok (.iaload, 1) := by decide +kernel
theorem dX9_ratio_66 : decode cX9_ratio 66 = .ok (.if_icmp .le 7, 3) := by decide +kernel
theorem dX9_ratio_69 : decode cX9_ratio 69 = .ok (.iconst 1, 1) := by decide +kernel
theorem dX9_ratio_70 : decode cX9_ratio 70 = .ok (.goto 4, 3) := by decide +kernel
theorem dX9_ratio_73 : decode cX9_ratio 73 = .ok (.iconst 0, 1) := by decide +kernel
theorem dX9_ratio_74 : decode cX9_ratio 74 = .ok (.istore 5, 2) := by decide +kernel
theorem dX9_ratio_76 : decode cX9_ratio 76 = .ok (.aload_n 0, 1) := by decide +kernel
theorem dX9_ratio_77 : decode cX9_ratio 77 = .ok (.getfield 19, 3) := by decide +kernel
theorem dX9_ratio_80 : decode cX9_ratio 80 = .ok (.getfield 147, 3) := by decide +kernel
theorem dX9_ratio_83 : decode cX9_ratio 83 = .ok (.iload_n 1, 1) := by decide +kernel
theorem dX9_ratio_84 : decode cX9_ratio 84 = .ok (.aaload, 1) := by decide +kernel
theorem dX9_ratio_85 : decode cX9_ratio 85 = .ok (.iload 4, 2) := by decide +kernel
theorem dX9_ratio_87 : decode cX9_ratio 87 = .ok (.iaload, 1) := by decide +kernel
theorem dX9_ratio_88 : decode cX9_ratio 88 = .ok (.aload_n 0, 1) := by decide +kernel
theorem dX9_ratio_89 : decode cX9_ratio 89 = .ok (.getfield 19, 3) := by decide +kernel
theorem dX9_ratio_92 : decode cX9_ratio 92 = .ok (.getfield 147, 3) := by decide +kernel
theorem dX9_ratio_95 : decode cX9_ratio 95 = .ok (.iload_n 2, 1) := by decide +kernel
theorem dX9_ratio_96 : decode cX9_ratio 96 = .ok (.aaload, 1) := by decide +kernel
theorem dX9_ratio_97 : decode cX9_ratio 97 = .ok (.iload_n 3, 1) := by decide +kernel
theorem dX9_ratio_98 : decode cX9_ratio 98 = .ok (.iaload, 1) := by decide +kernel
theorem dX9_ratio_99 : decode cX9_ratio 99 = .ok (.imul, 1) := by decide +kernel
theorem dX9_ratio_100 : decode cX9_ratio 100 = .ok (.istore 6, 2) := by decide +kernel
theorem dX9_ratio_102 : decode cX9_ratio 102 = .ok (.aload_n 0, 1) := by decide +kernel
theorem dX9_ratio_103 : decode cX9_ratio 103 = .ok (.getfield 19, 3) := by decide +kernel
theorem dX9_ratio_106 : decode cX9_ratio 106 = .ok (.getfield 147, 3) := by decide +kernel
theorem dX9_ratio_109 : decode cX9_ratio 109 = .ok (.iload_n 1, 1) := by decide +kernel
theorem dX9_ratio_110 : decode cX9_ratio 110 = .ok (.aaload, 1) := by decide +kernel
theorem dX9_ratio_111 : decode cX9_ratio 111 = .ok (.iload_n 3, 1) := by decide +kernel
theorem dX9_ratio_112 : decode cX9_ratio 112 = .ok (.iaload, 1) := by decide +kernel
theorem dX9_ratio_113 : decode cX9_ratio 113 = .ok (.aload_n 0, 1) := by decide +kernel
theorem dX9_ratio_114 : decode cX9_ratio 114 = .ok (.getfield 19, 3) := by decide +kernel
theorem dX9_ratio_117 : decode cX9_ratio 117 = .ok (.getfield 147, 3) := by decide +kernel
theorem dX9_ratio_120 : decode cX9_ratio 120 = .ok (.iload_n 2, 1) := by decide +kernel
theorem dX9_ratio_121 : decode cX9_ratio 121 = .ok (.aaload, 1) := by decide +kernel
theorem dX9_ratio_122 : decode cX9_ratio 122 = .ok (.iload 4, 2) := by decide +kernel
theorem dX9_ratio_124 : decode cX9_ratio 124 = .ok (.iaload, 1) := by decide +kernel
theorem dX9_ratio_125 : decode cX9_ratio 125 = .ok (.imul, 1) := by decide +kernel
theorem dX9_ratio_126 : decode cX9_ratio 126 = .ok (.istore 7, 2) := by decide +kernel
theorem dX9_ratio_128 : decode cX9_ratio 128 = .ok (.iload 5, 2) := by decide +kernel
theorem dX9_ratio_130 : decode cX9_ratio 130 = .ok (.ifCond .eq 12, 3) := by decide +kernel
theorem dX9_ratio_133 : decode cX9_ratio 133 = .ok (.iload 6, 2) := by decide +kernel
theorem dX9_ratio_135 : decode cX9_ratio 135 = .ok (.iload 7, 2) := by decide +kernel
theorem dX9_ratio_137 : decode cX9_ratio 137 = .ok (.if_icmp .ge 5, 3) := by decide +kernel
theorem dX9_ratio_140 : decode cX9_ratio 140 = .ok (.iconst 0, 1) := by decide +kernel
theorem dX9_ratio_141 : decode cX9_ratio 141 = .ok (.ireturn, 1) := by decide +kernel
theorem dX9_ratio_142 : decode cX9_ratio 142 = .ok (.iinc 4 1, 3) := by decide +kernel
theorem dX9_ratio_145 : decode cX9_ratio 145 = .ok (.goto (-110), 3) := by decide +kernel
theorem dX9_ratio_148 : decode cX9_ratio 148 = .ok (.iinc 3 1, 3) := by decide +kernel
theorem dX9_ratio_151 : decode cX9_ratio 151 = .ok (.goto (-130), 3) := by decide +kernel
theorem dX9_ratio_154 : decode cX9_ratio 154 = .ok (.iconst 1, 1) := by decide +kernel
theorem dX9_ratio_155 : decode cX9_ratio 155 = .ok (.ireturn, 1) := by decide +kernel
set_option maxRecDepth 20000 in
theorem ggX9_rises_X9_isWork : GoodIn wsX9_rises wsX9_isWork := goodIn_r _ [10, 2, 11, 141, 142, 143, 144, 145, 146, 147, 148, 149, 150, 151, 152, 153, 154, 155, 156, 157, 158, 159, 160, 161, 162, 163, 164, 165] (by decide +kernel) (by decide +kernel)
set_option maxRecDepth 20000 in
theorem gX9_rises_X9_isWork : GoodIn wsX9_rises (wsV RX9 140 RX9 yX9_isWork wsX9_isWork) := goodIn_app (goodIn_of _ (by decide +kernel)) ggX9_rises_X9_isWork
set_option maxRecDepth 20000 in
theorem ggX9_rises_X4_findWages : GoodIn wsX9_rises wsX4_findWages := goodIn_r _ [16, 17, 18, 19, 20, 15, 21, 22, 23, 24, 25, 26, 27, 28, 29, 30, 31, 32, 33, 34, 35, 36, 37, 38, 39, 40, 41, 42, 43, 44, 45, 46, 47, 48, 49, 50, 51, 52, 53, 54, 55, 56, 57, 58, 59, 60, 61, 62, 63, 64, 65, 66, 67, 68, 69, 70, 71, 72, 73, 74, 75, 76, 77, 78, 79, 80, 81, 82, 83, 84, 85, 86, 87, 88, 89, 90, 91, 92, 93, 94, 95, 96, 97, 98, 99, 100, 101, 102, 103, 104, 105, 106, 107, 108, 109, 110, 111, 112, 113, 114, 115, 116, 117, 118, 119, 120, 121, 122, 123, 124, 125, 126, 127, 128, 129, 130, 131, 132, 133, 134, 135, 136, 137, 138, 139, 140, 155, 156, 157, 158, 159, 160, 161, 162, 163, 164, 165, 166, 167, 168, 169, 170, 171, 172, 173, 174, 175, 176, 177, 178, 179, 180, 181, 182, 183, 184] (by decide +kernel) (by decide +kernel)
set_option maxRecDepth 20000 in
theorem gX9_rises_X4_findWages : GoodIn wsX9_rises (wsV RX9 173 RX4 yX4_findWages wsX4_findWages) := goodIn_app (goodIn_of _ (by decide +kernel)) ggX9_rises_X4_findWages
theorem dX9_rises_0 : decode cX9_rises 0 = .ok (.aload_n 0, 1) := by decide +kernel
theorem dX9_rises_1 : decode cX9_rises 1 = .ok (.iload_n 1, 1) := by decide +kernel
theorem dX9_rises_2 : decode cX9_rises 2 = .ok (.invokevirtual 140, 3) := by decide +kernel
theorem dX9_rises_5 : decode cX9_rises 5 = .ok (.ifCond .ne 6, 3) := by decide +kernel
theorem dX9_rises_8 : decode cX9_rises 8 = .ok (.bipush (-2), 2) := by decide +kernel
theorem dX9_rises_10 : decode cX9_rises 10 = .ok (.ireturn, 1) := by decide +kernel
theorem dX9_rises_11 : decode cX9_rises 11 = .ok (.aload_n 0, 1) := by decide +kernel
theorem dX9_rises_12 : decode cX9_rises 12 = .ok (.getfield 54, 3) := by decide +kernel
theorem dX9_rises_15 : decode cX9_rises 15 = .ok (.aload_n 0, 1) := by decide +kernel
theorem dX9_rises_16 : decode cX9_rises 16 = .ok (.getfield 19, 3) := by decide +kernel
theorem dX9_rises_19 : decode cX9_rises 19 = .ok (.iload_n 1, 1) := by decide +kernel
theorem dX9_rises_20 : decode cX9_rises 20 = .ok (.invokevirtual 173, 3) := by decide +kernel
theorem dX9_rises_23 : decode cX9_rises 23 = .ok (.ifCond .ne 5, 3) := by decide +kernel
theorem dX9_rises_26 : decode cX9_rises 26 = .ok (.iconst (-1), 1) := by decide +kernel
theorem dX9_rises_27 : decode cX9_rises 27 = .ok (.ireturn, 1) := by decide +kernel
theorem dX9_rises_28 : decode cX9_rises 28 = .ok (.iconst 0, 1) := by decide +kernel
theorem dX9_rises_29 : decode cX9_rises 29 = .ok (.istore_n 2, 1) := by decide +kernel
theorem dX9_rises_30 : decode cX9_rises 30 = .ok (.iload_n 2, 1) := by decide +kernel
theorem dX9_rises_31 : decode cX9_rises 31 = .ok (.aload_n 0, 1) := by decide +kernel
theorem dX9_rises_32 : decode cX9_rises 32 = .ok (.getfield 19, 3) := by decide +kernel
theorem dX9_rises_35 : decode cX9_rises 35 = .ok (.getfield 124, 3) := by decide +kernel
theorem dX9_rises_38 : decode cX9_rises 38 = .ok (.if_icmp .ge 73, 3) := by decide +kernel
theorem dX9_rises_41 : decode cX9_rises 41 = .ok (.iconst 0, 1) := by decide +kernel
theorem dX9_rises_42 : decode cX9_rises 42 = .ok (.istore_n 3, 1) := by decide +kernel
theorem dX9_rises_43 : decode cX9_rises 43 = .ok (.iload_n 3, 1) := by decide +kernel
theorem dX9_rises_44 : decode cX9_rises 44 = .ok (.aload_n 0, 1) := by decide +kernel
theorem dX9_rises_45 : decode cX9_rises 45 = .ok (.getfield 19, 3) := by decide +kernel
theorem dX9_rises_48 : decode cX9_rises 48 = .ok (.getfield 124, 3) := by decide +kernel
theorem dX9_rises_51 : decode cX9_rises 51 = .ok (.if_icmp .ge 54, 3) := by decide +kernel
theorem dX9_rises_54 : decode cX9_rises 54 = .ok (.aload_n 0, 1) := by decide +kernel
theorem dX9_rises_55 : decode cX9_rises 55 = .ok (.getfield 19, 3) := by decide +kernel
theorem dX9_rises_58 : decode cX9_rises 58 = .ok (.getfield 269, 3) := by decide +kernel
theorem dX9_rises_61 : decode cX9_rises 61 = .ok (.iload_n 3, 1) := by decide +kernel
theorem dX9_rises_62 : decode cX9_rises 62 = .ok (.iaload, 1) := by decide +kernel
theorem dX9_rises_63 : decode cX9_rises 63 = .ok (.aload_n 0, 1) := by decide +kernel
theorem dX9_rises_64 : decode cX9_rises 64 = .ok (.getfield 19, 3) := by decide +kernel
theorem dX9_rises_67 : decode cX9_rises 67 = .ok (.getfield 269, 3) := by decide +kernel
theorem dX9_rises_70 : decode cX9_rises 70 = .ok (.iload_n 2, 1) := by decide +kernel
theorem dX9_rises_71 : decode cX9_rises 71 = .ok (.iaload, 1) := by decide +kernel
theorem dX9_rises_72 : decode cX9_rises 72 = .ok (.if_icmp .le 27, 3) := by decide +kernel
theorem dX9_rises_75 : decode cX9_rises 75 = .ok (.aload_n 0, 1) := by decide +kernel
theorem dX9_rises_76 : decode cX9_rises 76 = .ok (.getfield 54, 3) := by decide +kernel
theorem dX9_rises_79 : decode cX9_rises 79 = .ok (.getfield 272, 3) := by decide +kernel
theorem dX9_rises_82 : decode cX9_rises 82 = .ok (.iload_n 3, 1) := by decide +kernel
theorem dX9_rises_83 : decode cX9_rises 83 = .ok (.laload, 1) := by decide +kernel
theorem dX9_rises_84 : decode cX9_rises 84 = .ok (.aload_n 0, 1) := by decide +kernel
theorem dX9_rises_85 : decode cX9_rises 85 = .ok (.getfield 54, 3) := by decide +kernel
theorem dX9_rises_88 : decode cX9_rises 88 = .ok (.getfield 272, 3) := by decide +kernel
theorem dX9_rises_91 : decode cX9_rises 91 = .ok (.iload_n 2, 1) := by decide +kernel
theorem dX9_rises_92 : decode cX9_rises 92 = .ok (.laload, 1) := by decide +kernel
theorem dX9_rises_93 : decode cX9_rises 93 = .ok (.lcmp, 1) := by decide +kernel
theorem dX9_rises_94 : decode cX9_rises 94 = .ok (.ifCond .ge 5, 3) := by decide +kernel
theorem dX9_rises_97 : decode cX9_rises 97 = .ok (.iconst 0, 1) := by decide +kernel
theorem dX9_rises_98 : decode cX9_rises 98 = .ok (.ireturn, 1) := by decide +kernel
theorem dX9_rises_99 : decode cX9_rises 99 = .ok (.iinc 3 1, 3) := by decide +kernel
theorem dX9_rises_102 : decode cX9_rises 102 = .ok (.goto (-59), 3) := by decide +kernel
theorem dX9_rises_105 : decode cX9_rises 105 = .ok (.iinc 2 1, 3) := by decide +kernel
theorem dX9_rises_108 : decode cX9_rises 108 = .ok (.goto (-78), 3) := by decide +kernel
theorem dX9_rises_111 : decode cX9_rises 111 = .ok (.iconst 1, 1) := by decide +kernel
theorem dX9_rises_112 : decode cX9_rises 112 = .ok (.ireturn, 1) := by decide +kernel
set_option maxRecDepth 20000 in
theorem ggX9_see_X1_canTell : GoodIn wsX9_see wsX1_canTell := goodIn_r _ [7, 8, 38, 39, 40, 41, 42, 43, 44, 45, 46] (by decide +kernel) (by decide +kernel)
set_option maxRecDepth 20000 in
theorem gX9_see_X1_canTell : GoodIn wsX9_see (wsV RX9 275 RX1 yX1_canTell wsX1_canTell) := goodIn_app (goodIn_of _ (by decide +kernel)) ggX9_see_X1_canTell
set_option maxRecDepth 20000 in
theorem ggX9_see_X9_isSign : GoodIn wsX9_see wsX9_isSign := goodIn_r _ [13, 14, 15, 24, 25, 26, 27, 28, 29, 30, 31, 32, 33, 34, 35, 36, 37, 47, 48, 49, 50, 51, 52, 53, 54, 55, 56, 57] (by decide +kernel) (by decide +kernel)
set_option maxRecDepth 20000 in
theorem gX9_see_X9_isSign : GoodIn wsX9_see (wsV RX9 144 RX9 yX9_isSign wsX9_isSign) := goodIn_app (goodIn_of _ (by decide +kernel)) ggX9_see_X9_isSign
set_option maxRecDepth 20000 in
theorem ggX9_see_X1_write : GoodIn wsX9_see wsX1_write := goodIn_r _ [19, 20, 8, 21, 22, 23, 38, 39, 40, 41, 42, 43, 44, 45, 46] (by decide +kernel) (by decide +kernel)
set_option maxRecDepth 20000 in
theorem gX9_see_X1_write : GoodIn wsX9_see (wsV RX9 281 RX1 yX1_write wsX1_write) := goodIn_app (goodIn_of _ (by decide +kernel)) ggX9_see_X1_write
theorem dX9_see_0 : decode cX9_see 0 = .ok (.aload_n 0, 1) := by decide +kernel
theorem dX9_see_1 : decode cX9_see 1 = .ok (.getfield 82, 3) := by decide +kernel
theorem dX9_see_4 : decode cX9_see 4 = .ok (.iload_n 1, 1) := by decide +kernel
theorem dX9_see_5 : decode cX9_see 5 = .ok (.invokevirtual 275, 3) := by decide +kernel
theorem dX9_see_8 : decode cX9_see 8 = .ok (.ifCond .eq 11, 3) := by decide +kernel
theorem dX9_see_11 : decode cX9_see 11 = .ok (.aload_n 0, 1) := by decide +kernel
theorem dX9_see_12 : decode cX9_see 12 = .ok (.iload_n 2, 1) := by decide +kernel
theorem dX9_see_13 : decode cX9_see 13 = .ok (.invokevirtual 144, 3) := by decide +kernel
theorem dX9_see_16 : decode cX9_see 16 = .ok (.ifCond .ne 6, 3) := by decide +kernel
theorem dX9_see_19 : decode cX9_see 19 = .ok (.bipush (-2), 2) := by decide +kernel
theorem dX9_see_21 : decode cX9_see 21 = .ok (.ireturn, 1) := by decide +kernel
theorem dX9_see_22 : decode cX9_see 22 = .ok (.aload_n 0, 1) := by decide +kernel
theorem dX9_see_23 : decode cX9_see 23 = .ok (.getfield 82, 3) := by decide +kernel
theorem dX9_see_26 : decode cX9_see 26 = .ok (.getfield 278, 3) := by decide +kernel
theorem dX9_see_29 : decode cX9_see 29 = .ok (.bipush 8, 2) := by decide +kernel
theorem dX9_see_31 : decode cX9_see 31 = .ok (.if_icmp .lt 8, 3) := by decide +kernel
theorem dX9_see_34 : decode cX9_see 34 = .ok (.bipush (-3), 2) := by decide +kernel
theorem dX9_see_36 : decode cX9_see 36 = .ok (.goto 12, 3) := by decide +kernel
theorem dX9_see_39 : decode cX9_see 39 = .ok (.aload_n 0, 1) := by decide +kernel
theorem dX9_see_40 : decode cX9_see 40 = .ok (.getfield 82, 3) := by decide +kernel
theorem dX9_see_43 : decode cX9_see 43 = .ok (.iload_n 1, 1) := by decide +kernel
theorem dX9_see_44 : decode cX9_see 44 = .ok (.iload_n 2, 1) := by decide +kernel
theorem dX9_see_45 : decode cX9_see 45 = .ok (.invokevirtual 281, 3) := by decide +kernel
theorem dX9_see_48 : decode cX9_see 48 = .ok (.ireturn, 1) := by decide +kernel
set_option maxRecDepth 20000 in
theorem ggX9_right_X1_canTell : GoodIn wsX9_right wsX1_canTell := goodIn_r _ [7, 8, 45, 46, 47, 48, 49, 50, 51, 52, 53] (by decide +kernel) (by decide +kernel)
set_option maxRecDepth 20000 in
theorem gX9_right_X1_canTell : GoodIn wsX9_right (wsV RX9 275 RX1 yX1_canTell wsX1_canTell) := goodIn_app (goodIn_of _ (by decide +kernel)) ggX9_right_X1_canTell
set_option maxRecDepth 20000 in
theorem ggX9_right_X1_canCorrect : GoodIn wsX9_right wsX1_canCorrect := goodIn_r _ [12, 13, 14, 45, 46, 47, 48, 49, 50, 51, 52, 53] (by decide +kernel) (by decide +kernel)
set_option maxRecDepth 20000 in
theorem gX9_right_X1_canCorrect : GoodIn wsX9_right (wsV RX9 284 RX1 yX1_canCorrect wsX1_canCorrect) := goodIn_app (goodIn_of _ (by decide +kernel)) ggX9_right_X1_canCorrect
set_option maxRecDepth 20000 in
theorem ggX9_right_X9_isSign : GoodIn wsX9_right wsX9_isSign := goodIn_r _ [19, 20, 21, 31, 32, 33, 34, 35, 36, 37, 38, 39, 40, 41, 42, 43, 44, 54, 55, 56, 57, 58, 59, 60, 61, 62, 63, 64] (by decide +kernel) (by decide +kernel)
set_option maxRecDepth 20000 in
theorem gX9_right_X9_isSign : GoodIn wsX9_right (wsV RX9 144 RX9 yX9_isSign wsX9_isSign) := goodIn_app (goodIn_of _ (by decide +kernel)) ggX9_right_X9_isSign
set_option maxRecDepth 20000 in
theorem ggX9_right_X1_correct : GoodIn wsX9_right wsX1_correct := goodIn_r _ [25, 26, 8, 27, 28, 29, 30, 45, 46, 47, 48, 49, 50, 51, 52, 53] (by decide +kernel) (by decide +kernel)
set_option maxRecDepth 20000 in
theorem gX9_right_X1_correct : GoodIn wsX9_right (wsV RX9 290 RX1 yX1_correct wsX1_correct) := goodIn_app (goodIn_of _ (by decide +kernel)) ggX9_right_X1_correct
theorem dX9_right_0 : decode cX9_right 0 = .ok (.aload_n 0, 1) := by decide +kernel
theorem dX9_right_1 : decode cX9_right 1 = .ok (.getfield 82, 3) := by decide +kernel
theorem dX9_right_4 : decode cX9_right 4 = .ok (.iload_n 1, 1) := by decide +kernel
theorem dX9_right_5 : decode cX9_right 5 = .ok (.invokevirtual 275, 3) := by decide +kernel
theorem dX9_right_8 : decode cX9_right 8 = .ok (.ifCond .eq 23, 3) := by decide +kernel
theorem dX9_right_11 : decode cX9_right 11 = .ok (.aload_n 0, 1) := by decide +kernel
theorem dX9_right_12 : decode cX9_right 12 = .ok (.getfield 82, 3) := by decide +kernel
theorem dX9_right_15 : decode cX9_right 15 = .ok (.iload_n 1, 1) := by decide +kernel
theorem dX9_right_16 : decode cX9_right 16 = .ok (.iload_n 2, 1) := by decide +kernel
theorem dX9_right_17 : decode cX9_right 17 = .ok (.invokevirtual 284, 3) := by decide +kernel
theorem dX9_right_20 : decode cX9_right 20 = .ok (.ifCond .eq 11, 3) := by decide +kernel
theorem dX9_right_23 : decode cX9_right 23 = .ok (.aload_n 0, 1) := by decide +kernel
theorem dX9_right_24 : decode cX9_right 24 = .ok (.iload_n 3, 1) := by decide +kernel
theorem dX9_right_25 : decode cX9_right 25 = .ok (.invokevirtual 144, 3) := by decide +kernel
theorem dX9_right_28 : decode cX9_right 28 = .ok (.ifCond .ne 6, 3) := by decide +kernel
theorem dX9_right_31 : decode cX9_right 31 = .ok (.bipush (-2), 2) := by decide +kernel
theorem dX9_right_33 : decode cX9_right 33 = .ok (.ireturn, 1) := by decide +kernel
theorem dX9_right_34 : decode cX9_right 34 = .ok (.aload_n 0, 1) := by decide +kernel
theorem dX9_right_35 : decode cX9_right 35 = .ok (.getfield 82, 3) := by decide +kernel
theorem dX9_right_38 : decode cX9_right 38 = .ok (.getfield 287, 3) := by decide +kernel
theorem dX9_right_41 : decode cX9_right 41 = .ok (.bipush 20, 2) := by decide +kernel
theorem dX9_right_43 : decode cX9_right 43 = .ok (.if_icmp .lt 8, 3) := by decide +kernel
theorem dX9_right_46 : decode cX9_right 46 = .ok (.bipush (-3), 2) := by decide +kernel
theorem dX9_right_48 : decode cX9_right 48 = .ok (.goto 13, 3) := by decide +kernel
theorem dX9_right_51 : decode cX9_right 51 = .ok (.aload_n 0, 1) := by decide +kernel
theorem dX9_right_52 : decode cX9_right 52 = .ok (.getfield 82, 3) := by decide +kernel
theorem dX9_right_55 : decode cX9_right 55 = .ok (.iload_n 1, 1) := by decide +kernel
theorem dX9_right_56 : decode cX9_right 56 = .ok (.iload_n 2, 1) := by decide +kernel
theorem dX9_right_57 : decode cX9_right 57 = .ok (.iload_n 3, 1) := by decide +kernel
theorem dX9_right_58 : decode cX9_right 58 = .ok (.invokevirtual 290, 3) := by decide +kernel
theorem dX9_right_61 : decode cX9_right 61 = .ok (.ireturn, 1) := by decide +kernel
theorem kk_X9_edge_0 : Cond.fieldLink RX9 19 "PaidBySigns" "hire" "LPaidBySigns$Hire;" ∈ wsX9_edge := by decide +kernel
theorem kk_X9_edge_1 : Cond.fieldLink RX9 147 "PaidBySigns$Hire" "chances" "[[I" ∈ wsX9_edge := by decide +kernel
theorem kk_X9_edge_2 : Cond.fieldLink RX9 127 "PaidBySigns$Hire" "whole" "I" ∈ wsX9_edge := by decide +kernel
theorem kk_X9_edge_3 : Cond.methodLink RX9 264 Lib.Math.min.name ∈ wsX9_edge := by decide +kernel
theorem kk_X9_edge_4 : Cond.static Lib.Math.min.name ∈ wsX9_edge := by decide +kernel
theorem kk_X9_edge_5 : Cond.initialized "java/lang/Math" ∈ wsX9_edge := by decide +kernel
theorem kk_X9_edge_6 : Cond.code Lib.Math.min.name Lib.Math.min.code 2 (some .int) ∈ wsX9_edge := by decide +kernel
theorem kk_X9_ratio_0 : Cond.fieldLink RX9 19 "PaidBySigns" "hire" "LPaidBySigns$Hire;" ∈ wsX9_ratio := by decide +kernel
theorem kk_X9_ratio_1 : Cond.fieldLink RX9 124 "PaidBySigns$Hire" "signs" "I" ∈ wsX9_ratio := by decide +kernel
theorem kk_X9_ratio_2 : Cond.fieldLink RX9 269 "PaidBySigns$Hire" "brings" "[I" ∈ wsX9_ratio := by decide +kernel
theorem kk_X9_ratio_3 : Cond.fieldLink RX9 147 "PaidBySigns$Hire" "chances" "[[I" ∈ wsX9_ratio := by decide +kernel
theorem kk_X9_rises_0 : Cond.fieldLink RX9 54 "PaidBySigns" "cheapest" "LPaidBySigns$LeastCost;" ∈ wsX9_rises := by decide +kernel
theorem kk_X9_rises_1 : Cond.fieldLink RX9 19 "PaidBySigns" "hire" "LPaidBySigns$Hire;" ∈ wsX9_rises := by decide +kernel
theorem kk_X9_rises_2 : Cond.fieldLink RX9 124 "PaidBySigns$Hire" "signs" "I" ∈ wsX9_rises := by decide +kernel
theorem kk_X9_rises_3 : Cond.fieldLink RX9 269 "PaidBySigns$Hire" "brings" "[I" ∈ wsX9_rises := by decide +kernel
theorem kk_X9_rises_4 : Cond.fieldLink RX9 272 "PaidBySigns$LeastCost" "above" "[J" ∈ wsX9_rises := by decide +kernel
theorem kk_X9_see_0 : Cond.fieldLink RX9 82 "PaidBySigns" "diary" "LPaidBySigns$Diary;" ∈ wsX9_see := by decide +kernel
theorem kk_X9_see_1 : Cond.fieldLink RX9 278 "PaidBySigns$Diary" "seen" "I" ∈ wsX9_see := by decide +kernel
theorem kk_X9_right_0 : Cond.fieldLink RX9 82 "PaidBySigns" "diary" "LPaidBySigns$Diary;" ∈ wsX9_right := by decide +kernel
theorem kk_X9_right_1 : Cond.fieldLink RX9 287 "PaidBySigns$Diary" "rights" "I" ∈ wsX9_right := by decide +kernel
theorem iw_X9_edge_X9 : ∀ w ∈ wsX90, w ∈ wsX9_edge := by decide +kernel
theorem iw_X9_edge_X3 : ∀ w ∈ wsX30, w ∈ wsX9_edge := by decide +kernel
theorem iw_X9_ratio_X9 : ∀ w ∈ wsX90, w ∈ wsX9_ratio := by decide +kernel
theorem iw_X9_ratio_X3 : ∀ w ∈ wsX30, w ∈ wsX9_ratio := by decide +kernel
theorem iw_X9_rises_X9 : ∀ w ∈ wsX90, w ∈ wsX9_rises := by decide +kernel
theorem iw_X9_rises_X3 : ∀ w ∈ wsX30, w ∈ wsX9_rises := by decide +kernel
theorem iw_X9_rises_X4 : ∀ w ∈ wsX40, w ∈ wsX9_rises := by decide +kernel
theorem iw_X9_see_X9 : ∀ w ∈ wsX90, w ∈ wsX9_see := by decide +kernel
theorem iw_X9_see_X1 : ∀ w ∈ wsX10, w ∈ wsX9_see := by decide +kernel
theorem iw_X9_right_X9 : ∀ w ∈ wsX90, w ∈ wsX9_right := by decide +kernel
theorem iw_X9_right_X1 : ∀ w ∈ wsX10, w ∈ wsX9_right := by decide +kernel
