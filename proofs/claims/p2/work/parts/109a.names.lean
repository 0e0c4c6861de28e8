abbrev cX4_findCost : ByteArray := prog_6_method_2_code
def yX4_findCost : MethodName := ⟨RX4, "findCost", "(LPaidBySigns$Hire;I)Z"⟩
abbrev cX4_find : ByteArray := prog_6_method_7_code
def yX4_find : MethodName := ⟨RX4, "find", "(LPaidBySigns$Hire;IIII)Z"⟩
abbrev cX4_readWages : ByteArray := prog_6_method_15_code
def yX4_readWages : MethodName := ⟨RX4, "readWages", "()V"⟩
abbrev cX8_solve : ByteArray := prog_10_method_3_code
def yX8_solve : MethodName := ⟨RX8, "solve", "()Z"⟩
def wsX8_solve_r1 : List Cond := [Cond.constant RX8 49 (1000000), Cond.methodLink RX8 50 yX8_lineBelowZero, Cond.instanceMethod yX8_lineBelowZero, Cond.selects RX8 yX8_lineBelowZero yX8_lineBelowZero, Cond.initialized RX8, Cond.code yX8_lineBelowZero cX8_lineBelowZero 3 (some .int), Cond.fieldLink RX8 29 "PaidBySigns$Table" "goals" "I", Cond.fieldLink RX8 33 "PaidBySigns$Table" "lines" "I", Cond.fieldLink RX8 13 "PaidBySigns$Table" "entry" "[[J", Cond.fieldLink RX8 16 "PaidBySigns$Table" "lineName" "[I", Cond.methodLink RX8 54 yX8_columnFor, Cond.instanceMethod yX8_columnFor, Cond.selects RX8 yX8_columnFor yX8_columnFor, Cond.code yX8_columnFor cX8_columnFor 5 (some .int), Cond.fieldLink RX8 36 "PaidBySigns$Table" "columns" "I", Cond.fieldLink RX8 20 "PaidBySigns$Table" "columnName" "[I", Cond.methodLink RX8 62 yX8_compareRatios, Cond.instanceMethod yX8_compareRatios, Cond.selects RX8 yX8_compareRatios yX8_compareRatios, Cond.code yX8_compareRatios cX8_compareRatios 13 (some .int), Cond.methodLink RX8 58 yX8_pivot, Cond.instanceMethod yX8_pivot, Cond.selects RX8 yX8_pivot yX8_pivot, Cond.code yX8_pivot cX8_pivot 7 none]
def wsX8_solve_r2 : List Cond := [Cond.fieldLink RX8 39 "PaidBySigns$Table" "base" "J", Cond.methodLink RX8 66 yX8_changeLine, Cond.instanceMethod yX8_changeLine, Cond.selects RX8 yX8_changeLine yX8_changeLine, Cond.code yX8_changeLine cX8_changeLine 9 none]
def wsX8_solve : List Cond := .code yX8_solve cX8_solve 4 (some .boolean) :: ((wsX8_solve_r1 ++ wsX8_solve_r2) ++ wsX80)
def wsX4_readWages : List Cond := .code yX4_readWages cX4_readWages 3 none :: ([.fieldLink RX4 9 "PaidBySigns$LeastCost" "above" "[J", .constantLong RX4 145 (60), .fieldLink RX4 22 "PaidBySigns$LeastCost" "table" "LPaidBySigns$Table;", .fieldLink RX4 147 "PaidBySigns$Table" "base" "J", .fieldLink RX4 15 "PaidBySigns$LeastCost" "aboveLower" "J", .fieldLink RX4 150 "PaidBySigns$Table" "goals" "I", .fieldLink RX4 153 "PaidBySigns$Table" "lines" "I", .fieldLink RX4 156 "PaidBySigns$Table" "lineName" "[I", .fieldLink RX4 36 "PaidBySigns$LeastCost" "columns" "I", .fieldLink RX4 26 "PaidBySigns$LeastCost" "columnSign" "[I", .fieldLink RX4 132 "PaidBySigns$Table" "entry" "[[J", .methodLink RX4 139 yJ7_fill_d0a16, .static yJ7_fill_d0a16, .initialized RJ7, .code yJ7_fill_d0a16 cJ7_fill_d0a16 5 none, .methodLink RX4 128 yX4_partsOf, .instanceMethod yX4_partsOf, .selects RX4 yX4_partsOf yX4_partsOf, .initialized RX4, .code yX4_partsOf cX4_partsOf 2 (some .int), .fieldLink RX4 30 "PaidBySigns$LeastCost" "columnRate" "[I"] ++ wsX40 ++ wsX80)
def wsX4_find_r1 : List Cond := [Cond.fieldLink RX4 46 "PaidBySigns$LeastCost" "hire" "LPaidBySigns$Hire;", Cond.fieldLink RX4 50 "PaidBySigns$LeastCost" "work" "I", Cond.fieldLink RX4 53 "PaidBySigns$LeastCost" "keptSign" "I", Cond.fieldLink RX4 56 "PaidBySigns$LeastCost" "joinedSign" "I", Cond.fieldLink RX4 22 "PaidBySigns$LeastCost" "table" "LPaidBySigns$Table;", Cond.fieldLink RX4 88 "PaidBySigns$Hire" "works" "I", Cond.fieldLink RX4 40 "PaidBySigns$LeastCost" "rooms" "I", Cond.fieldLink RX4 36 "PaidBySigns$LeastCost" "columns" "I", Cond.methodLink RX4 85 yX4_listColumns, Cond.instanceMethod yX4_listColumns, Cond.selects RX4 yX4_listColumns yX4_listColumns, Cond.initialized RX4, Cond.code yX4_listColumns cX4_listColumns 2 none, Cond.fieldLink RX4 63 "PaidBySigns$Hire" "signs" "I", Cond.methodLink RX4 66 yX4_chanceOf, Cond.instanceMethod yX4_chanceOf, Cond.selects RX4 yX4_chanceOf yX4_chanceOf, Cond.code yX4_chanceOf cX4_chanceOf 3 (some .int), Cond.fieldLink RX4 112 "PaidBySigns$Hire" "chances" "[[I", Cond.methodLink RX4 116 yX4_listSteps, Cond.instanceMethod yX4_listSteps, Cond.selects RX4 yX4_listSteps yX4_listSteps, Cond.code yX4_listSteps cX4_listSteps 5 none, Cond.fieldLink RX4 79 "PaidBySigns$Hire" "least" "I"]
def wsX4_find_r2 : List Cond := [Cond.fieldLink RX4 119 "PaidBySigns$Hire" "rates" "I", Cond.fieldLink RX4 122 "PaidBySigns$Hire" "mark" "[I", Cond.fieldLink RX4 26 "PaidBySigns$LeastCost" "columnSign" "[I", Cond.fieldLink RX4 30 "PaidBySigns$LeastCost" "columnRate" "[I", Cond.fieldLink RX4 125 "PaidBySigns$Hire" "rate" "[I", Cond.fieldLink RX4 33 "PaidBySigns$LeastCost" "columnRoom" "[I", Cond.methodLink RX4 91 yX8_start, Cond.instanceMethod yX8_start, Cond.selects RX8 yX8_start yX8_start, Cond.initialized RX8, Cond.code yX8_start cX8_start 5 none, Cond.methodLink RX8 23 Lib.Math.min.name, Cond.static Lib.Math.min.name, Cond.initialized "java/lang/Math", Cond.code Lib.Math.min.name Lib.Math.min.code 2 (some .int), Cond.fieldLink RX8 29 "PaidBySigns$Table" "goals" "I", Cond.fieldLink RX8 33 "PaidBySigns$Table" "lines" "I", Cond.fieldLink RX8 36 "PaidBySigns$Table" "columns" "I", Cond.fieldLink RX8 39 "PaidBySigns$Table" "base" "J", Cond.fieldLink RX8 13 "PaidBySigns$Table" "entry" "[[J", Cond.fieldLink RX8 16 "PaidBySigns$Table" "lineName" "[I", Cond.fieldLink RX8 20 "PaidBySigns$Table" "columnName" "[I", Cond.methodLink RX8 43 yJ7_fill_d0a16, Cond.static yJ7_fill_d0a16]
def wsX4_find_r3 : List Cond := [Cond.initialized RJ7, Cond.code yJ7_fill_d0a16 cJ7_fill_d0a16 5 none, Cond.methodLink RX4 95 yX4_fillGoals, Cond.instanceMethod yX4_fillGoals, Cond.selects RX4 yX4_fillGoals yX4_fillGoals, Cond.code yX4_fillGoals cX4_fillGoals 5 none, Cond.fieldLink RX4 132 "PaidBySigns$Table" "entry" "[[J", Cond.methodLink RX4 128 yX4_partsOf, Cond.instanceMethod yX4_partsOf, Cond.selects RX4 yX4_partsOf yX4_partsOf, Cond.code yX4_partsOf cX4_partsOf 2 (some .int), Cond.methodLink RX4 99 yX4_fillLines, Cond.instanceMethod yX4_fillLines, Cond.selects RX4 yX4_fillLines yX4_fillLines, Cond.code yX4_fillLines cX4_fillLines 6 none, Cond.fieldLink RX4 70 "PaidBySigns$Hire" "whole" "I", Cond.methodLink RX4 136 yX3_lackOf, Cond.instanceMethod yX3_lackOf, Cond.selects RX3 yX3_lackOf yX3_lackOf, Cond.initialized RX3, Cond.code yX3_lackOf cX3_lackOf 3 (some .int), Cond.fieldLink RX3 15 "PaidBySigns$Hire" "costs" "[I", Cond.fieldLink RX3 42 "PaidBySigns$Hire" "otherwise" "I", Cond.fieldLink RX3 45 "PaidBySigns$Hire" "least" "I"]
def wsX4_find_r4 : List Cond := [Cond.methodLink RX3 63 yX3_feltOf, Cond.instanceMethod yX3_feltOf, Cond.selects RX3 yX3_feltOf yX3_feltOf, Cond.code yX3_feltOf cX3_feltOf 6 (some .int), Cond.fieldLink RX3 48 "PaidBySigns$Hire" "rates" "I", Cond.fieldLink RX3 26 "PaidBySigns$Hire" "mark" "[I", Cond.methodLink RX3 51 Lib.Math.min.name, Cond.fieldLink RX3 23 "PaidBySigns$Hire" "rate" "[I", Cond.methodLink RX4 102 yX4_fillRooms, Cond.instanceMethod yX4_fillRooms, Cond.selects RX4 yX4_fillRooms yX4_fillRooms, Cond.code yX4_fillRooms cX4_fillRooms 4 none, Cond.methodLink RX4 105 yX8_solve, Cond.instanceMethod yX8_solve, Cond.selects RX8 yX8_solve yX8_solve, Cond.code yX8_solve cX8_solve 4 (some .boolean), Cond.constant RX8 49 (1000000), Cond.methodLink RX8 50 yX8_lineBelowZero, Cond.instanceMethod yX8_lineBelowZero, Cond.selects RX8 yX8_lineBelowZero yX8_lineBelowZero, Cond.code yX8_lineBelowZero cX8_lineBelowZero 3 (some .int), Cond.methodLink RX8 54 yX8_columnFor, Cond.instanceMethod yX8_columnFor, Cond.selects RX8 yX8_columnFor yX8_columnFor]
def wsX4_find_r5 : List Cond := [Cond.code yX8_columnFor cX8_columnFor 5 (some .int), Cond.methodLink RX8 62 yX8_compareRatios, Cond.instanceMethod yX8_compareRatios, Cond.selects RX8 yX8_compareRatios yX8_compareRatios, Cond.code yX8_compareRatios cX8_compareRatios 13 (some .int), Cond.methodLink RX8 58 yX8_pivot, Cond.instanceMethod yX8_pivot, Cond.selects RX8 yX8_pivot yX8_pivot, Cond.code yX8_pivot cX8_pivot 7 none, Cond.methodLink RX8 66 yX8_changeLine, Cond.instanceMethod yX8_changeLine, Cond.selects RX8 yX8_changeLine yX8_changeLine, Cond.code yX8_changeLine cX8_changeLine 9 none, Cond.methodLink RX4 109 yX4_readWages, Cond.instanceMethod yX4_readWages, Cond.selects RX4 yX4_readWages yX4_readWages, Cond.code yX4_readWages cX4_readWages 3 none, Cond.fieldLink RX4 9 "PaidBySigns$LeastCost" "above" "[J", Cond.constantLong RX4 145 (60), Cond.fieldLink RX4 147 "PaidBySigns$Table" "base" "J", Cond.fieldLink RX4 15 "PaidBySigns$LeastCost" "aboveLower" "J", Cond.fieldLink RX4 150 "PaidBySigns$Table" "goals" "I", Cond.fieldLink RX4 153 "PaidBySigns$Table" "lines" "I", Cond.fieldLink RX4 156 "PaidBySigns$Table" "lineName" "[I"]
def wsX4_find_r6 : List Cond := [Cond.methodLink RX4 139 yJ7_fill_d0a16]
def wsX4_find : List Cond := .code yX4_find cX4_find 6 (some .boolean) :: ((wsX4_find_r1 ++ (wsX4_find_r2 ++ (wsX4_find_r3 ++ (wsX4_find_r4 ++ (wsX4_find_r5 ++ wsX4_find_r6))))) ++ wsX40 ++ wsX30 ++ wsX80)
def wsX4_findCost_r1 : List Cond := [Cond.methodLink RX4 59 yX4_find, Cond.instanceMethod yX4_find, Cond.selects RX4 yX4_find yX4_find, Cond.initialized RX4, Cond.code yX4_find cX4_find 6 (some .boolean), Cond.fieldLink RX4 46 "PaidBySigns$LeastCost" "hire" "LPaidBySigns$Hire;", Cond.fieldLink RX4 50 "PaidBySigns$LeastCost" "work" "I", Cond.fieldLink RX4 53 "PaidBySigns$LeastCost" "keptSign" "I", Cond.fieldLink RX4 56 "PaidBySigns$LeastCost" "joinedSign" "I", Cond.fieldLink RX4 22 "PaidBySigns$LeastCost" "table" "LPaidBySigns$Table;", Cond.fieldLink RX4 88 "PaidBySigns$Hire" "works" "I", Cond.fieldLink RX4 40 "PaidBySigns$LeastCost" "rooms" "I", Cond.fieldLink RX4 36 "PaidBySigns$LeastCost" "columns" "I", Cond.methodLink RX4 85 yX4_listColumns, Cond.instanceMethod yX4_listColumns, Cond.selects RX4 yX4_listColumns yX4_listColumns, Cond.code yX4_listColumns cX4_listColumns 2 none, Cond.fieldLink RX4 63 "PaidBySigns$Hire" "signs" "I", Cond.methodLink RX4 66 yX4_chanceOf, Cond.instanceMethod yX4_chanceOf, Cond.selects RX4 yX4_chanceOf yX4_chanceOf, Cond.code yX4_chanceOf cX4_chanceOf 3 (some .int), Cond.fieldLink RX4 112 "PaidBySigns$Hire" "chances" "[[I", Cond.methodLink RX4 116 yX4_listSteps]
def wsX4_findCost_r2 : List Cond := [Cond.instanceMethod yX4_listSteps, Cond.selects RX4 yX4_listSteps yX4_listSteps, Cond.code yX4_listSteps cX4_listSteps 5 none, Cond.fieldLink RX4 79 "PaidBySigns$Hire" "least" "I", Cond.fieldLink RX4 119 "PaidBySigns$Hire" "rates" "I", Cond.fieldLink RX4 122 "PaidBySigns$Hire" "mark" "[I", Cond.fieldLink RX4 26 "PaidBySigns$LeastCost" "columnSign" "[I", Cond.fieldLink RX4 30 "PaidBySigns$LeastCost" "columnRate" "[I", Cond.fieldLink RX4 125 "PaidBySigns$Hire" "rate" "[I", Cond.fieldLink RX4 33 "PaidBySigns$LeastCost" "columnRoom" "[I", Cond.methodLink RX4 91 yX8_start, Cond.instanceMethod yX8_start, Cond.selects RX8 yX8_start yX8_start, Cond.initialized RX8, Cond.code yX8_start cX8_start 5 none, Cond.methodLink RX8 23 Lib.Math.min.name, Cond.static Lib.Math.min.name, Cond.initialized "java/lang/Math", Cond.code Lib.Math.min.name Lib.Math.min.code 2 (some .int), Cond.fieldLink RX8 29 "PaidBySigns$Table" "goals" "I", Cond.fieldLink RX8 33 "PaidBySigns$Table" "lines" "I", Cond.fieldLink RX8 36 "PaidBySigns$Table" "columns" "I", Cond.fieldLink RX8 39 "PaidBySigns$Table" "base" "J", Cond.fieldLink RX8 13 "PaidBySigns$Table" "entry" "[[J"]
def wsX4_findCost_r3 : List Cond := [Cond.fieldLink RX8 16 "PaidBySigns$Table" "lineName" "[I", Cond.fieldLink RX8 20 "PaidBySigns$Table" "columnName" "[I", Cond.methodLink RX8 43 yJ7_fill_d0a16, Cond.static yJ7_fill_d0a16, Cond.initialized RJ7, Cond.code yJ7_fill_d0a16 cJ7_fill_d0a16 5 none, Cond.methodLink RX4 95 yX4_fillGoals, Cond.instanceMethod yX4_fillGoals, Cond.selects RX4 yX4_fillGoals yX4_fillGoals, Cond.code yX4_fillGoals cX4_fillGoals 5 none, Cond.fieldLink RX4 132 "PaidBySigns$Table" "entry" "[[J", Cond.methodLink RX4 128 yX4_partsOf, Cond.instanceMethod yX4_partsOf, Cond.selects RX4 yX4_partsOf yX4_partsOf, Cond.code yX4_partsOf cX4_partsOf 2 (some .int), Cond.methodLink RX4 99 yX4_fillLines, Cond.instanceMethod yX4_fillLines, Cond.selects RX4 yX4_fillLines yX4_fillLines, Cond.code yX4_fillLines cX4_fillLines 6 none, Cond.fieldLink RX4 70 "PaidBySigns$Hire" "whole" "I", Cond.methodLink RX4 136 yX3_lackOf, Cond.instanceMethod yX3_lackOf, Cond.selects RX3 yX3_lackOf yX3_lackOf, Cond.initialized RX3]
def wsX4_findCost_r4 : List Cond := [Cond.code yX3_lackOf cX3_lackOf 3 (some .int), Cond.fieldLink RX3 15 "PaidBySigns$Hire" "costs" "[I", Cond.fieldLink RX3 42 "PaidBySigns$Hire" "otherwise" "I", Cond.fieldLink RX3 45 "PaidBySigns$Hire" "least" "I", Cond.methodLink RX3 63 yX3_feltOf, Cond.instanceMethod yX3_feltOf, Cond.selects RX3 yX3_feltOf yX3_feltOf, Cond.code yX3_feltOf cX3_feltOf 6 (some .int), Cond.fieldLink RX3 48 "PaidBySigns$Hire" "rates" "I", Cond.fieldLink RX3 26 "PaidBySigns$Hire" "mark" "[I", Cond.methodLink RX3 51 Lib.Math.min.name, Cond.fieldLink RX3 23 "PaidBySigns$Hire" "rate" "[I", Cond.methodLink RX4 102 yX4_fillRooms, Cond.instanceMethod yX4_fillRooms, Cond.selects RX4 yX4_fillRooms yX4_fillRooms, Cond.code yX4_fillRooms cX4_fillRooms 4 none, Cond.methodLink RX4 105 yX8_solve, Cond.instanceMethod yX8_solve, Cond.selects RX8 yX8_solve yX8_solve, Cond.code yX8_solve cX8_solve 4 (some .boolean), Cond.constant RX8 49 (1000000), Cond.methodLink RX8 50 yX8_lineBelowZero, Cond.instanceMethod yX8_lineBelowZero, Cond.selects RX8 yX8_lineBelowZero yX8_lineBelowZero]
def wsX4_findCost_r5 : List Cond := [Cond.code yX8_lineBelowZero cX8_lineBelowZero 3 (some .int), Cond.methodLink RX8 54 yX8_columnFor, Cond.instanceMethod yX8_columnFor, Cond.selects RX8 yX8_columnFor yX8_columnFor, Cond.code yX8_columnFor cX8_columnFor 5 (some .int), Cond.methodLink RX8 62 yX8_compareRatios, Cond.instanceMethod yX8_compareRatios, Cond.selects RX8 yX8_compareRatios yX8_compareRatios, Cond.code yX8_compareRatios cX8_compareRatios 13 (some .int), Cond.methodLink RX8 58 yX8_pivot, Cond.instanceMethod yX8_pivot, Cond.selects RX8 yX8_pivot yX8_pivot, Cond.code yX8_pivot cX8_pivot 7 none, Cond.methodLink RX8 66 yX8_changeLine, Cond.instanceMethod yX8_changeLine, Cond.selects RX8 yX8_changeLine yX8_changeLine, Cond.code yX8_changeLine cX8_changeLine 9 none, Cond.methodLink RX4 109 yX4_readWages, Cond.instanceMethod yX4_readWages, Cond.selects RX4 yX4_readWages yX4_readWages, Cond.code yX4_readWages cX4_readWages 3 none, Cond.fieldLink RX4 9 "PaidBySigns$LeastCost" "above" "[J", Cond.constantLong RX4 145 (60), Cond.fieldLink RX4 147 "PaidBySigns$Table" "base" "J"]
def wsX4_findCost_r6 : List Cond := [Cond.fieldLink RX4 15 "PaidBySigns$LeastCost" "aboveLower" "J", Cond.fieldLink RX4 150 "PaidBySigns$Table" "goals" "I", Cond.fieldLink RX4 153 "PaidBySigns$Table" "lines" "I", Cond.fieldLink RX4 156 "PaidBySigns$Table" "lineName" "[I", Cond.methodLink RX4 139 yJ7_fill_d0a16]
def wsX4_findCost : List Cond := .code yX4_findCost cX4_findCost 3 (some .boolean) :: ((wsX4_findCost_r1 ++ (wsX4_findCost_r2 ++ (wsX4_findCost_r3 ++ (wsX4_findCost_r4 ++ (wsX4_findCost_r5 ++ wsX4_findCost_r6))))) ++ wsX40 ++ wsX30 ++ wsX80)
set_option maxRecDepth 20000 in
theorem ggX4_findCost_X4_find : GoodIn wsX4_findCost wsX4_find := goodIn_r _ [5, 6, 7, 8, 9, 10, 11, 12, 13, 14, 15, 16, 4, 17, 18, 19, 20, 21, 22, 23, 24, 25, 26, 27, 28, 29, 30, 31, 32, 33, 34, 35, 36, 37, 38, 39, 40, 41, 42, 43, 44, 45, 46, 47, 48, 49, 50, 51, 52, 53, 54, 55, 56, 57, 58, 59, 60, 61, 62, 63, 64, 65, 66, 67, 68, 69, 70, 71, 72, 73, 74, 75, 76, 77, 78, 79, 80, 81, 82, 83, 84, 85, 86, 87, 88, 89, 90, 91, 92, 93, 94, 95, 96, 97, 98, 99, 100, 101, 102, 103, 104, 105, 106, 107, 108, 109, 110, 111, 112, 113, 114, 115, 116, 117, 118, 119, 120, 121, 122, 123, 124, 125, 126, 127, 128, 129, 130, 131, 132, 133, 134, 135, 136, 137, 138, 139, 140, 141, 142, 143, 144, 145, 146, 147, 148, 149, 150, 151, 152, 153, 154, 155] (by decide +kernel) (by decide +kernel)
set_option maxRecDepth 20000 in
theorem gX4_findCost_X4_find : GoodIn wsX4_findCost (wsV RX4 59 RX4 yX4_find wsX4_find) := goodIn_app (goodIn_of _ (by decide +kernel)) ggX4_findCost_X4_find
theorem dX4_findCost_0 : decode cX4_findCost 0 = .ok (.aload_n 0, 1) := by decide +kernel
theorem dX4_findCost_1 : decode cX4_findCost 1 = .ok (.aload_n 1, 1) := by decide +kernel
theorem dX4_findCost_2 : decode cX4_findCost 2 = .ok (.iload_n 2, 1) := by decide +kernel
theorem dX4_findCost_3 : decode cX4_findCost 3 = .ok (.iconst (-1), 1) := by decide +kernel
theorem dX4_findCost_4 : decode cX4_findCost 4 = .ok (.iconst (-1), 1) := by decide +kernel
theorem dX4_findCost_5 : decode cX4_findCost 5 = .ok (.iconst 1, 1) := by decide +kernel
theorem dX4_findCost_6 : decode cX4_findCost 6 = .ok (.invokevirtual 59, 3) := by decide +kernel
theorem dX4_findCost_9 : decode cX4_findCost 9 = .ok (.ireturn, 1) := by decide +kernel
set_option maxRecDepth 20000 in
theorem ggX4_find_X4_listColumns : GoodIn wsX4_find wsX4_listColumns := goodIn_r _ [13, 8, 7, 1, 14, 2, 15, 16, 17, 12, 18, 4, 3, 19, 20, 21, 22, 23, 24, 25, 26, 27, 28, 29, 30, 122, 123, 124, 125, 126, 127, 128, 129, 130, 131, 132, 133, 134, 135, 136, 137, 138, 139, 140, 141, 142, 143, 144] (by decide +kernel) (by decide +kernel)
set_option maxRecDepth 20000 in
theorem gX4_find_X4_listColumns : GoodIn wsX4_find (wsV RX4 85 RX4 yX4_listColumns wsX4_listColumns) := goodIn_app (goodIn_of _ (by decide +kernel)) ggX4_find_X4_listColumns
set_option maxRecDepth 20000 in
theorem ggX4_find_X8_start : GoodIn wsX4_find wsX8_start := goodIn_r _ [35, 36, 37, 38, 39, 40, 41, 42, 43, 44, 45, 46, 47, 48, 49, 50, 145, 146, 147, 148, 149, 150, 151] (by decide +kernel) (by decide +kernel)
set_option maxRecDepth 20000 in
theorem gX4_find_X8_start : GoodIn wsX4_find (wsV RX4 91 RX8 yX8_start wsX8_start) := goodIn_app (goodIn_of _ (by decide +kernel)) ggX4_find_X8_start
set_option maxRecDepth 20000 in
theorem ggX4_find_X4_fillGoals : GoodIn wsX4_find wsX4_fillGoals := goodIn_r _ [54, 8, 27, 5, 55, 2, 56, 57, 58, 12, 59, 28, 15, 16, 17, 18, 4, 3, 1, 19, 122, 123, 124, 125, 126, 127, 128, 129, 130, 131, 132, 133, 145, 146, 147, 148, 149, 150, 151, 134, 135, 136, 137, 138, 139, 140, 141, 142, 143, 144] (by decide +kernel) (by decide +kernel)
set_option maxRecDepth 20000 in
theorem gX4_find_X4_fillGoals : GoodIn wsX4_find (wsV RX4 95 RX4 yX4_fillGoals wsX4_fillGoals) := goodIn_app (goodIn_of _ (by decide +kernel)) ggX4_find_X4_fillGoals
set_option maxRecDepth 20000 in
theorem ggX4_find_X4_fillLines : GoodIn wsX4_find wsX4_fillLines := goodIn_r _ [63, 1, 6, 5, 55, 64, 2, 8, 27, 65, 66, 67, 68, 69, 70, 71, 72, 73, 74, 75, 76, 77, 78, 79, 37, 38, 39, 80, 15, 16, 17, 12, 18, 4, 3, 19, 122, 123, 124, 125, 126, 127, 128, 129, 130, 131, 132, 133, 134, 135, 136, 137, 138, 139, 140, 141, 142, 143, 144, 145, 146, 147, 148, 149, 150, 151] (by decide +kernel) (by decide +kernel)
set_option maxRecDepth 20000 in
theorem gX4_find_X4_fillLines : GoodIn wsX4_find (wsV RX4 99 RX4 yX4_fillLines wsX4_fillLines) := goodIn_app (goodIn_of _ (by decide +kernel)) ggX4_find_X4_fillLines
set_option maxRecDepth 20000 in
theorem ggX4_find_X4_fillRooms : GoodIn wsX4_find wsX4_fillRooms := goodIn_r _ [84, 8, 30, 5, 55, 122, 123, 124, 125, 126, 127, 128, 129, 130, 131, 132, 133, 145, 146, 147, 148, 149, 150, 151] (by decide +kernel) (by decide +kernel)
set_option maxRecDepth 20000 in
theorem gX4_find_X4_fillRooms : GoodIn wsX4_find (wsV RX4 102 RX4 yX4_fillRooms wsX4_fillRooms) := goodIn_app (goodIn_of _ (by decide +kernel)) ggX4_find_X4_fillRooms
set_option maxRecDepth 20000 in
theorem ggX4_find_X8_solve : GoodIn wsX4_find wsX8_solve := goodIn_r _ [88, 89, 90, 91, 92, 34, 93, 40, 41, 44, 45, 94, 95, 96, 97, 42, 46, 98, 99, 100, 101, 102, 103, 104, 105, 43, 106, 107, 108, 109, 145, 146, 147, 148, 149, 150, 151] (by decide +kernel) (by decide +kernel)
set_option maxRecDepth 20000 in
theorem gX4_find_X8_solve : GoodIn wsX4_find (wsV RX4 105 RX8 yX8_solve wsX8_solve) := goodIn_app (goodIn_of _ (by decide +kernel)) ggX4_find_X8_solve
set_option maxRecDepth 20000 in
theorem ggX4_find_X4_readWages : GoodIn wsX4_find wsX4_readWages := goodIn_r _ [113, 114, 115, 5, 116, 117, 118, 119, 120, 8, 27, 55, 121, 48, 49, 50, 56, 57, 58, 12, 59, 28, 122, 123, 124, 125, 126, 127, 128, 129, 130, 131, 132, 133, 145, 146, 147, 148, 149, 150, 151] (by decide +kernel) (by decide +kernel)
set_option maxRecDepth 20000 in
theorem gX4_find_X4_readWages : GoodIn wsX4_find (wsV RX4 109 RX4 yX4_readWages wsX4_readWages) := goodIn_app (goodIn_of _ (by decide +kernel)) ggX4_find_X4_readWages
theorem dX4_find_0 : decode cX4_find 0 = .ok (.aload_n 0, 1) := by decide +kernel
theorem dX4_find_1 : decode cX4_find 1 = .ok (.aload_n 1, 1) := by decide +kernel
theorem dX4_find_2 : decode cX4_find 2 = .ok (.putfield 46, 3) := by decide +kernel
theorem dX4_find_5 : decode cX4_find 5 = .ok (.aload_n 0, 1) := by decide +kernel
theorem dX4_find_6 : decode cX4_find 6 = .ok (.iload_n 2, 1) := by decide +kernel
theorem dX4_find_7 : decode cX4_find 7 = .ok (.putfield 50, 3) := by decide +kernel
theorem dX4_find_10 : decode cX4_find 10 = .ok (.aload_n 0, 1) := by decide +kernel
theorem dX4_find_11 : decode cX4_find 11 = .ok (.iload_n 3, 1) := by decide +kernel
theorem dX4_find_12 : decode cX4_find 12 = .ok (.putfield 53, 3) := by decide +kernel
theorem dX4_find_15 : decode cX4_find 15 = .ok (.aload_n 0, 1) := by decide +kernel
theorem dX4_find_16 : decode cX4_find 16 = .ok (.iload 4, 2) := by decide +kernel
theorem dX4_find_18 : decode cX4_find 18 = .ok (.putfield 56, 3) := by decide +kernel
theorem dX4_find_21 : decode cX4_find 21 = .ok (.aload_n 0, 1) := by decide +kernel
theorem dX4_find_22 : decode cX4_find 22 = .ok (.invokevirtual 85, 3) := by decide +kernel
theorem dX4_find_25 : decode cX4_find 25 = .ok (.aload_n 0, 1) := by decide +kernel
theorem dX4_find_26 : decode cX4_find 26 = .ok (.getfield 22, 3) := by decide +kernel
theorem dX4_find_29 : decode cX4_find 29 = .ok (.iload 5, 2) := by decide +kernel
theorem dX4_find_31 : decode cX4_find 31 = .ok (.iload 5, 2) := by decide +kernel
theorem dX4_find_33 : decode cX4_find 33 = .ok (.aload_n 0, 1) := by decide +kernel
theorem dX4_find_34 : decode cX4_find 34 = .ok (.getfield 46, 3) := by decide +kernel
theorem dX4_find_37 : decode cX4_find 37 = .ok (.getfield 88, 3) := by decide +kernel
theorem dX4_find_40 : decode cX4_find 40 = .ok (.iadd, 1) := by decide +kernel
theorem dX4_find_41 : decode cX4_find 41 = .ok (.aload_n 0, 1) := by decide +kernel
theorem dX4_find_42 : decode cX4_find 42 = .ok (.getfield 40, 3) := by decide +kernel
theorem dX4_find_45 : decode cX4_find 45 = .ok (.iadd, 1) := by decide +kernel
theorem dX4_find_46 : decode cX4_find 46 = .ok (.aload_n 0, 1) := by decide +kernel
theorem dX4_find_47 : decode cX4_find 47 = .ok (.getfield 36, 3) := by decide +kernel
theorem dX4_find_50 : decode cX4_find 50 = .ok (.invokevirtual 91, 3) := by decide +kernel
theorem dX4_find_53 : decode cX4_find 53 = .ok (.aload_n 0, 1) := by decide +kernel
theorem dX4_find_54 : decode cX4_find 54 = .ok (.iload 5, 2) := by decide +kernel
theorem dX4_find_56 : decode cX4_find 56 = .ok (.invokevirtual 95, 3) := by decide +kernel
theorem dX4_find_59 : decode cX4_find 59 = .ok (.aload_n 0, 1) := by decide +kernel
theorem dX4_find_60 : decode cX4_find 60 = .ok (.iload 5, 2) := by decide +kernel
theorem dX4_find_62 : decode cX4_find 62 = .ok (.invokevirtual 99, 3) := by decide +kernel
theorem dX4_find_65 : decode cX4_find 65 = .ok (.aload_n 0, 1) := by decide +kernel
theorem dX4_find_66 : decode cX4_find 66 = .ok (.iload 5, 2) := by decide +kernel
theorem dX4_find_68 : decode cX4_find 68 = .ok (.aload_n 0, 1) := by decide +kernel
theorem dX4_find_69 : decode cX4_find 69 = .ok (.getfield 46, 3) := by decide +kernel
theorem dX4_find_72 : decode cX4_find 72 = .ok (.getfield 88, 3) := by decide +kernel
theorem dX4_find_75 : decode cX4_find 75 = .ok (.iadd, 1) := by decide +kernel
theorem dX4_find_76 : decode cX4_find 76 = .ok (.invokevirtual 102, 3) := by decide +kernel
theorem dX4_find_79 : decode cX4_find 79 = .ok (.aload_n 0, 1) := by decide +kernel
theorem dX4_find_80 : decode cX4_find 80 = .ok (.getfield 22, 3) := by decide +kernel
theorem dX4_find_83 : decode cX4_find 83 = .ok (.invokevirtual 105, 3) := by decide +kernel
theorem dX4_find_86 : decode cX4_find 86 = .ok (.ifCond .ne 5, 3) := by decide +kernel
theorem dX4_find_89 : decode cX4_find 89 = .ok (.iconst 0, 1) := by decide +kernel
theorem dX4_find_90 : decode cX4_find 90 = .ok (.ireturn, 1) := by decide +kernel
theorem dX4_find_91 : decode cX4_find 91 = .ok (.aload_n 0, 1) := by decide +kernel
theorem dX4_find_92 : decode cX4_find 92 = .ok (.invokevirtual 109, 3) := by decide +kernel
theorem dX4_find_95 : decode cX4_find 95 = .ok (.iconst 1, 1) := by decide +kernel
theorem dX4_find_96 : decode cX4_find 96 = .ok (.ireturn, 1) := by decide +kernel
set_option maxRecDepth 20000 in
theorem ggX4_readWages_J7_fill_d0a16 : GoodIn wsX4_readWages wsJ7_fill_d0a16 := goodIn_r _ [15] (by decide +kernel) (by decide +kernel)
set_option maxRecDepth 20000 in
theorem gX4_readWages_J7_fill_d0a16 : GoodIn wsX4_readWages (va_wsS RX4 139 yJ7_fill_d0a16 wsJ7_fill_d0a16) := goodIn_app (goodIn_of _ (by decide +kernel)) ggX4_readWages_J7_fill_d0a16
set_option maxRecDepth 20000 in
theorem ggX4_readWages_X4_partsOf : GoodIn wsX4_readWages wsX4_partsOf := goodIn_r _ [20, 21, 22, 23, 24, 25, 26, 27, 28, 29, 30, 31, 32, 33] (by decide +kernel) (by decide +kernel)
set_option maxRecDepth 20000 in
theorem gX4_readWages_X4_partsOf : GoodIn wsX4_readWages (wsV RX4 128 RX4 yX4_partsOf wsX4_partsOf) := goodIn_app (goodIn_of _ (by decide +kernel)) ggX4_readWages_X4_partsOf
theorem dX4_readWages_0 : decode cX4_readWages 0 = .ok (.aload_n 0, 1) := by decide +kernel
theorem dX4_readWages_1 : decode cX4_readWages 1 = .ok (.getfield 9, 3) := by decide +kernel
theorem dX4_readWages_4 : decode cX4_readWages 4 = .ok (.lconst 0, 1) := by decide +kernel
theorem dX4_readWages_5 : decode cX4_readWages 5 = .ok (.invokestatic 139, 3) := by decide +kernel
theorem dX4_readWages_8 : decode cX4_readWages 8 = .ok (.aload_n 0, 1) := by decide +kernel
theorem dX4_readWages_9 : decode cX4_readWages 9 = .ok (.ldc2_w 145, 3) := by decide +kernel
theorem dX4_readWages_12 : decode cX4_readWages 12 = .ok (.aload_n 0, 1) := by decide +kernel
theorem dX4_readWages_13 : decode cX4_readWages 13 = .ok (.getfield 22, 3) := by decide +kernel
theorem dX4_readWages_16 : decode cX4_readWages 16 = .ok (.getfield 147, 3) := by decide +kernel
theorem dX4_readWages_19 : decode cX4_readWages 19 = .ok (.lmul, 1) := by decide +kernel
theorem dX4_readWages_20 : decode cX4_readWages 20 = .ok (.putfield 15, 3) := by decide +kernel
theorem dX4_readWages_23 : decode cX4_readWages 23 = .ok (.aload_n 0, 1) := by decide +kernel
theorem dX4_readWages_24 : decode cX4_readWages 24 = .ok (.getfield 22, 3) := by decide +kernel
theorem dX4_readWages_27 : decode cX4_readWages 27 = .ok (.getfield 150, 3) := by decide +kernel
theorem dX4_readWages_30 : decode cX4_readWages 30 = .ok (.istore_n 1, 1) := by decide +kernel
theorem dX4_readWages_31 : decode cX4_readWages 31 = .ok (.iload_n 1, 1) := by decide +kernel
theorem dX4_readWages_32 : decode cX4_readWages 32 = .ok (.aload_n 0, 1) := by decide +kernel
theorem dX4_readWages_33 : decode cX4_readWages 33 = .ok (.getfield 22, 3) := by decide +kernel
theorem dX4_readWages_36 : decode cX4_readWages 36 = .ok (.getfield 153, 3) := by decide +kernel
theorem dX4_readWages_39 : decode cX4_readWages 39 = .ok (.if_icmp .ge 59, 3) := by decide +kernel
theorem dX4_readWages_42 : decode cX4_readWages 42 = .ok (.aload_n 0, 1) := by decide +kernel
theorem dX4_readWages_43 : decode cX4_readWages 43 = .ok (.getfield 22, 3) := by decide +kernel
theorem dX4_readWages_46 : decode cX4_readWages 46 = .ok (.getfield 156, 3) := by decide +kernel
theorem dX4_readWages_49 : decode cX4_readWages 49 = .ok (.iload_n 1, 1) := by decide +kernel
theorem dX4_readWages_50 : decode cX4_readWages 50 = .ok (.iaload, 1) := by decide +kernel
theorem dX4_readWages_51 : decode cX4_readWages 51 = .ok (.istore_n 2, 1) := by decide +kernel
theorem dX4_readWages_52 : decode cX4_readWages 52 = .ok (.iload_n 2, 1) := by decide +kernel
theorem dX4_readWages_53 : decode cX4_readWages 53 = .ok (.aload_n 0, 1) := by decide +kernel
theorem dX4_readWages_54 : decode cX4_readWages 54 = .ok (.getfield 36, 3) := by decide +kernel
theorem dX4_readWages_57 : decode cX4_readWages 57 = .ok (.if_icmp .ge 35, 3) := by decide +kernel
theorem dX4_readWages_60 : decode cX4_readWages 60 = .ok (.aload_n 0, 1) := by decide +kernel
theorem dX4_readWages_61 : decode cX4_readWages 61 = .ok (.getfield 9, 3) := by decide +kernel
theorem dX4_readWages_64 : decode cX4_readWages 64 = .ok (.aload_n 0, 1) := by decide +kernel
theorem dX4_readWages_65 : decode cX4_readWages 65 = .ok (.getfield 26, 3) := by decide +kernel
theorem dX4_readWages_68 : decode cX4_readWages 68 = .ok (.iload_n 2, 1) := by decide +kernel
theorem dX4_readWages_69 : decode cX4_readWages 69 = .ok (.iaload, 1) := by decide +kernel
theorem dX4_readWages_70 : decode cX4_readWages 70 = .ok (.dup2, 1) := by decide +kernel
theorem dX4_readWages_71 : decode cX4_readWages 71 = .ok (.laload, 1) := by decide +kernel
theorem dX4_readWages_72 : decode cX4_readWages 72 = .ok (.aload_n 0, 1) := by decide +kernel
theorem dX4_readWages_73 : decode cX4_readWages 73 = .ok (.getfield 22, 3) := by decide +kernel
theorem dX4_readWages_76 : decode cX4_readWages 76 = .ok (.getfield 132, 3) := by decide +kernel
theorem dX4_readWages_79 : decode cX4_readWages 79 = .ok (.iload_n 1, 1) := by decide +kernel
theorem dX4_readWages_80 : decode cX4_readWages 80 = .ok (.aaload, 1) := by decide +kernel
theorem dX4_readWages_81 : decode cX4_readWages 81 = .ok (.iconst 0, 1) := by decide +kernel
theorem dX4_readWages_82 : decode cX4_readWages 82 = .ok (.laload, 1) := by decide +kernel
theorem dX4_readWages_83 : decode cX4_readWages 83 = .ok (.aload_n 0, 1) := by decide +kernel
theorem dX4_readWages_84 : decode cX4_readWages 84 = .ok (.iload_n 2, 1) := by decide +kernel
theorem dX4_readWages_85 : decode cX4_readWages 85 = .ok (.invokevirtual 128, 3) := by decide +kernel
theorem dX4_readWages_88 : decode cX4_readWages 88 = .ok (.i2l, 1) := by decide +kernel
theorem dX4_readWages_89 : decode cX4_readWages 89 = .ok (.lmul, 1) := by decide +kernel
theorem dX4_readWages_90 : decode cX4_readWages 90 = .ok (.ladd, 1) := by decide +kernel
theorem dX4_readWages_91 : decode cX4_readWages 91 = .ok (.lastore, 1) := by decide +kernel
theorem dX4_readWages_92 : decode cX4_readWages 92 = .ok (.iinc 1 1, 3) := by decide +kernel
theorem dX4_readWages_95 : decode cX4_readWages 95 = .ok (.goto (-64), 3) := by decide +kernel
theorem dX4_readWages_98 : decode cX4_readWages 98 = .ok (.return_, 1) := by decide +kernel
set_option maxRecDepth 20000 in
theorem ggX8_solve_X8_lineBelowZero : GoodIn wsX8_solve wsX8_lineBelowZero := goodIn_r _ [6, 7, 8, 9, 10, 30, 31, 32, 33, 34, 35, 36] (by decide +kernel) (by decide +kernel)
set_option maxRecDepth 20000 in
theorem gX8_solve_X8_lineBelowZero : GoodIn wsX8_solve (wsV RX8 50 RX8 yX8_lineBelowZero wsX8_lineBelowZero) := goodIn_app (goodIn_of _ (by decide +kernel)) ggX8_solve_X8_lineBelowZero
set_option maxRecDepth 20000 in
theorem ggX8_solve_X8_columnFor : GoodIn wsX8_solve wsX8_columnFor := goodIn_r _ [14, 15, 9, 16, 17, 18, 19, 5, 20, 7, 30, 31, 32, 33, 34, 35, 36] (by decide +kernel) (by decide +kernel)
set_option maxRecDepth 20000 in
theorem gX8_solve_X8_columnFor : GoodIn wsX8_solve (wsV RX8 54 RX8 yX8_columnFor wsX8_columnFor) := goodIn_app (goodIn_of _ (by decide +kernel)) ggX8_solve_X8_columnFor
set_option maxRecDepth 20000 in
theorem ggX8_solve_X8_pivot : GoodIn wsX8_solve wsX8_pivot := goodIn_r _ [24, 9, 25, 8, 15, 10, 16, 26, 27, 28, 5, 29, 30, 31, 32, 33, 34, 35, 36] (by decide +kernel) (by decide +kernel)
set_option maxRecDepth 20000 in
theorem gX8_solve_X8_pivot : GoodIn wsX8_solve (wsV RX8 58 RX8 yX8_pivot wsX8_pivot) := goodIn_app (goodIn_of _ (by decide +kernel)) ggX8_solve_X8_pivot
theorem dX8_solve_0 : decode cX8_solve 0 = .ok (.iconst 0, 1) := by decide +kernel
theorem dX8_solve_1 : decode cX8_solve 1 = .ok (.istore_n 1, 1) := by decide +kernel
theorem dX8_solve_2 : decode cX8_solve 2 = .ok (.iload_n 1, 1) := by decide +kernel
theorem dX8_solve_3 : decode cX8_solve 3 = .ok (.ldc 49, 2) := by decide +kernel
theorem dX8_solve_5 : decode cX8_solve 5 = .ok (.if_icmp .ge 38, 3) := by decide +kernel
theorem dX8_solve_8 : decode cX8_solve 8 = .ok (.aload_n 0, 1) := by decide +kernel
theorem dX8_solve_9 : decode cX8_solve 9 = .ok (.invokevirtual 50, 3) := by decide +kernel
theorem dX8_solve_12 : decode cX8_solve 12 = .ok (.istore_n 2, 1) := by decide +kernel
theorem dX8_solve_13 : decode cX8_solve 13 = .ok (.iload_n 2, 1) := by decide +kernel
theorem dX8_solve_14 : decode cX8_solve 14 = .ok (.ifCond .ge 5, 3) := by decide +kernel
theorem dX8_solve_17 : decode cX8_solve 17 = .ok (.iconst 1, 1) := by decide +kernel
theorem dX8_solve_18 : decode cX8_solve 18 = .ok (.ireturn, 1) := by decide +kernel
theorem dX8_solve_19 : decode cX8_solve 19 = .ok (.aload_n 0, 1) := by decide +kernel
theorem dX8_solve_20 : decode cX8_solve 20 = .ok (.iload_n 2, 1) := by decide +kernel
theorem dX8_solve_21 : decode cX8_solve 21 = .ok (.invokevirtual 54, 3) := by decide +kernel
theorem dX8_solve_24 : decode cX8_solve 24 = .ok (.istore_n 3, 1) := by decide +kernel
theorem dX8_solve_25 : decode cX8_solve 25 = .ok (.iload_n 3, 1) := by decide +kernel
theorem dX8_solve_26 : decode cX8_solve 26 = .ok (.ifCond .ge 5, 3) := by decide +kernel
theorem dX8_solve_29 : decode cX8_solve 29 = .ok (.iconst 0, 1) := by decide +kernel
theorem dX8_solve_30 : decode cX8_solve 30 = .ok (.ireturn, 1) := by decide +kernel
theorem dX8_solve_31 : decode cX8_solve 31 = .ok (.aload_n 0, 1) := by decide +kernel
theorem dX8_solve_32 : decode cX8_solve 32 = .ok (.iload_n 2, 1) := by decide +kernel
theorem dX8_solve_33 : decode cX8_solve 33 = .ok (.iload_n 3, 1) := by decide +kernel
theorem dX8_solve_34 : decode cX8_solve 34 = .ok (.invokevirtual 58, 3) := by decide +kernel
theorem dX8_solve_37 : decode cX8_solve 37 = .ok (.iinc 1 1, 3) := by decide +kernel
theorem dX8_solve_40 : decode cX8_solve 40 = .ok (.goto (-38), 3) := by decide +kernel
theorem dX8_solve_43 : decode cX8_solve 43 = .ok (.iconst 0, 1) := by decide +kernel
theorem dX8_solve_44 : decode cX8_solve 44 = .ok (.ireturn, 1) := by decide +kernel
theorem kk_X4_find_0 : Cond.fieldLink RX4 46 "PaidBySigns$LeastCost" "hire" "LPaidBySigns$Hire;" ∈ wsX4_find := by decide +kernel
theorem kk_X4_find_1 : Cond.fieldLink RX4 50 "PaidBySigns$LeastCost" "work" "I" ∈ wsX4_find := by decide +kernel
theorem kk_X4_find_2 : Cond.fieldLink RX4 53 "PaidBySigns$LeastCost" "keptSign" "I" ∈ wsX4_find := by decide +kernel
theorem kk_X4_find_3 : Cond.fieldLink RX4 56 "PaidBySigns$LeastCost" "joinedSign" "I" ∈ wsX4_find := by decide +kernel
theorem kk_X4_find_4 : Cond.fieldLink RX4 22 "PaidBySigns$LeastCost" "table" "LPaidBySigns$Table;" ∈ wsX4_find := by decide +kernel
theorem kk_X4_find_5 : Cond.fieldLink RX4 88 "PaidBySigns$Hire" "works" "I" ∈ wsX4_find := by decide +kernel
theorem kk_X4_find_6 : Cond.fieldLink RX4 40 "PaidBySigns$LeastCost" "rooms" "I" ∈ wsX4_find := by decide +kernel
theorem kk_X4_find_7 : Cond.fieldLink RX4 36 "PaidBySigns$LeastCost" "columns" "I" ∈ wsX4_find := by decide +kernel
theorem kk_X8_solve_0 : Cond.constant RX8 49 (1000000) ∈ wsX8_solve := by decide +kernel
theorem kk_X4_readWages_0 : Cond.fieldLink RX4 9 "PaidBySigns$LeastCost" "above" "[J" ∈ wsX4_readWages := by decide +kernel
theorem kk_X4_readWages_1 : Cond.constantLong RX4 145 (60) ∈ wsX4_readWages := by decide +kernel
theorem kk_X4_readWages_2 : Cond.fieldLink RX4 22 "PaidBySigns$LeastCost" "table" "LPaidBySigns$Table;" ∈ wsX4_readWages := by decide +kernel
theorem kk_X4_readWages_3 : Cond.fieldLink RX4 147 "PaidBySigns$Table" "base" "J" ∈ wsX4_readWages := by decide +kernel
theorem kk_X4_readWages_4 : Cond.fieldLink RX4 15 "PaidBySigns$LeastCost" "aboveLower" "J" ∈ wsX4_readWages := by decide +kernel
theorem kk_X4_readWages_5 : Cond.fieldLink RX4 150 "PaidBySigns$Table" "goals" "I" ∈ wsX4_readWages := by decide +kernel
theorem kk_X4_readWages_6 : Cond.fieldLink RX4 153 "PaidBySigns$Table" "lines" "I" ∈ wsX4_readWages := by decide +kernel
theorem kk_X4_readWages_7 : Cond.fieldLink RX4 156 "PaidBySigns$Table" "lineName" "[I" ∈ wsX4_readWages := by decide +kernel
theorem kk_X4_readWages_8 : Cond.fieldLink RX4 36 "PaidBySigns$LeastCost" "columns" "I" ∈ wsX4_readWages := by decide +kernel
theorem kk_X4_readWages_9 : Cond.fieldLink RX4 26 "PaidBySigns$LeastCost" "columnSign" "[I" ∈ wsX4_readWages := by decide +kernel
theorem kk_X4_readWages_10 : Cond.fieldLink RX4 132 "PaidBySigns$Table" "entry" "[[J" ∈ wsX4_readWages := by decide +kernel
theorem iw_X4_find_X4 : ∀ w ∈ wsX40, w ∈ wsX4_find := by decide +kernel
theorem iw_X4_find_X3 : ∀ w ∈ wsX30, w ∈ wsX4_find := by decide +kernel
theorem iw_X4_readWages_X4 : ∀ w ∈ wsX40, w ∈ wsX4_readWages := by decide +kernel
theorem iw_X4_readWages_X8 : ∀ w ∈ wsX80, w ∈ wsX4_readWages := by decide +kernel
