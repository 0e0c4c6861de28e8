abbrev cX9_merged : ByteArray := prog_1_method_20_code
def yX9_merged : MethodName := ⟨RX9, "merged", "(III)I"⟩
abbrev cX9_coins : ByteArray := prog_1_method_21_code
def yX9_coins : MethodName := ⟨RX9, "coins", "(II)I"⟩
abbrev cX9_bar : ByteArray := prog_1_method_22_code
def yX9_bar : MethodName := ⟨RX9, "bar", "(I)I"⟩
abbrev cX9_crew : ByteArray := prog_1_method_23_code
def yX9_crew : MethodName := ⟨RX9, "crew", "(II)I"⟩
abbrev cX9_watch : ByteArray := prog_1_method_24_code
def yX9_watch : MethodName := ⟨RX9, "watch", "(II)I"⟩
def wsX9_merged_r1 : List Cond := [Cond.fieldLink RX9 54 "PaidBySigns" "cheapest" "LPaidBySigns$LeastCost;", Cond.fieldLink RX9 19 "PaidBySigns" "hire" "LPaidBySigns$Hire;", Cond.fieldLink RX9 30 "PaidBySigns" "latest" "LPaidBySigns$Fraction;", Cond.methodLink RX9 140 yX9_isWork, Cond.instanceMethod yX9_isWork, Cond.selects RX9 yX9_isWork yX9_isWork, Cond.initialized RX9, Cond.code yX9_isWork cX9_isWork 2 (some .boolean), Cond.fieldLink RX9 115 "PaidBySigns$Hire" "works" "I", Cond.methodLink RX9 205 yX9_isPair, Cond.instanceMethod yX9_isPair, Cond.selects RX9 yX9_isPair yX9_isPair, Cond.code yX9_isPair cX9_isPair 3 (some .boolean), Cond.methodLink RX9 144 yX9_isSign, Cond.instanceMethod yX9_isSign, Cond.selects RX9 yX9_isSign yX9_isSign, Cond.code yX9_isSign cX9_isSign 2 (some .boolean), Cond.fieldLink RX9 124 "PaidBySigns$Hire" "signs" "I", Cond.methodLink RX9 209 yX4_findMerged, Cond.instanceMethod yX4_findMerged, Cond.selects RX4 yX4_findMerged yX4_findMerged, Cond.initialized RX4, Cond.code yX4_findMerged cX4_findMerged 5 (some .boolean), Cond.methodLink RX4 59 yX4_find]
def wsX9_merged_r2 : List Cond := [Cond.instanceMethod yX4_find, Cond.selects RX4 yX4_find yX4_find, Cond.code yX4_find cX4_find 6 (some .boolean), Cond.fieldLink RX4 46 "PaidBySigns$LeastCost" "hire" "LPaidBySigns$Hire;", Cond.fieldLink RX4 50 "PaidBySigns$LeastCost" "work" "I", Cond.fieldLink RX4 53 "PaidBySigns$LeastCost" "keptSign" "I", Cond.fieldLink RX4 56 "PaidBySigns$LeastCost" "joinedSign" "I", Cond.fieldLink RX4 22 "PaidBySigns$LeastCost" "table" "LPaidBySigns$Table;", Cond.fieldLink RX4 88 "PaidBySigns$Hire" "works" "I", Cond.fieldLink RX4 40 "PaidBySigns$LeastCost" "rooms" "I", Cond.fieldLink RX4 36 "PaidBySigns$LeastCost" "columns" "I", Cond.methodLink RX4 85 yX4_listColumns, Cond.instanceMethod yX4_listColumns, Cond.selects RX4 yX4_listColumns yX4_listColumns, Cond.code yX4_listColumns cX4_listColumns 2 none, Cond.fieldLink RX4 63 "PaidBySigns$Hire" "signs" "I", Cond.methodLink RX4 66 yX4_chanceOf, Cond.instanceMethod yX4_chanceOf, Cond.selects RX4 yX4_chanceOf yX4_chanceOf, Cond.code yX4_chanceOf cX4_chanceOf 3 (some .int), Cond.fieldLink RX4 112 "PaidBySigns$Hire" "chances" "[[I", Cond.methodLink RX4 116 yX4_listSteps, Cond.instanceMethod yX4_listSteps, Cond.selects RX4 yX4_listSteps yX4_listSteps]
def wsX9_merged_r3 : List Cond := [Cond.code yX4_listSteps cX4_listSteps 5 none, Cond.fieldLink RX4 79 "PaidBySigns$Hire" "least" "I", Cond.fieldLink RX4 119 "PaidBySigns$Hire" "rates" "I", Cond.fieldLink RX4 122 "PaidBySigns$Hire" "mark" "[I", Cond.fieldLink RX4 26 "PaidBySigns$LeastCost" "columnSign" "[I", Cond.fieldLink RX4 30 "PaidBySigns$LeastCost" "columnRate" "[I", Cond.fieldLink RX4 125 "PaidBySigns$Hire" "rate" "[I", Cond.fieldLink RX4 33 "PaidBySigns$LeastCost" "columnRoom" "[I", Cond.methodLink RX4 91 yX8_start, Cond.instanceMethod yX8_start, Cond.selects RX8 yX8_start yX8_start, Cond.initialized RX8, Cond.code yX8_start cX8_start 5 none, Cond.methodLink RX8 23 Lib.Math.min.name, Cond.static Lib.Math.min.name, Cond.initialized "java/lang/Math", Cond.code Lib.Math.min.name Lib.Math.min.code 2 (some .int), Cond.fieldLink RX8 29 "PaidBySigns$Table" "goals" "I", Cond.fieldLink RX8 33 "PaidBySigns$Table" "lines" "I", Cond.fieldLink RX8 36 "PaidBySigns$Table" "columns" "I", Cond.fieldLink RX8 39 "PaidBySigns$Table" "base" "J", Cond.fieldLink RX8 13 "PaidBySigns$Table" "entry" "[[J", Cond.fieldLink RX8 16 "PaidBySigns$Table" "lineName" "[I", Cond.fieldLink RX8 20 "PaidBySigns$Table" "columnName" "[I"]
def wsX9_merged_r4 : List Cond := [Cond.methodLink RX8 43 yJ7_fill_d0a16, Cond.static yJ7_fill_d0a16, Cond.initialized RJ7, Cond.code yJ7_fill_d0a16 cJ7_fill_d0a16 5 none, Cond.methodLink RX4 95 yX4_fillGoals, Cond.instanceMethod yX4_fillGoals, Cond.selects RX4 yX4_fillGoals yX4_fillGoals, Cond.code yX4_fillGoals cX4_fillGoals 5 none, Cond.fieldLink RX4 132 "PaidBySigns$Table" "entry" "[[J", Cond.methodLink RX4 128 yX4_partsOf, Cond.instanceMethod yX4_partsOf, Cond.selects RX4 yX4_partsOf yX4_partsOf, Cond.code yX4_partsOf cX4_partsOf 2 (some .int), Cond.methodLink RX4 99 yX4_fillLines, Cond.instanceMethod yX4_fillLines, Cond.selects RX4 yX4_fillLines yX4_fillLines, Cond.code yX4_fillLines cX4_fillLines 6 none, Cond.fieldLink RX4 70 "PaidBySigns$Hire" "whole" "I", Cond.methodLink RX4 136 yX3_lackOf, Cond.instanceMethod yX3_lackOf, Cond.selects RX3 yX3_lackOf yX3_lackOf, Cond.initialized RX3, Cond.code yX3_lackOf cX3_lackOf 3 (some .int), Cond.fieldLink RX3 15 "PaidBySigns$Hire" "costs" "[I"]
def wsX9_merged_r5 : List Cond := [Cond.fieldLink RX3 42 "PaidBySigns$Hire" "otherwise" "I", Cond.fieldLink RX3 45 "PaidBySigns$Hire" "least" "I", Cond.methodLink RX3 63 yX3_feltOf, Cond.instanceMethod yX3_feltOf, Cond.selects RX3 yX3_feltOf yX3_feltOf, Cond.code yX3_feltOf cX3_feltOf 6 (some .int), Cond.fieldLink RX3 48 "PaidBySigns$Hire" "rates" "I", Cond.fieldLink RX3 26 "PaidBySigns$Hire" "mark" "[I", Cond.methodLink RX3 51 Lib.Math.min.name, Cond.fieldLink RX3 23 "PaidBySigns$Hire" "rate" "[I", Cond.methodLink RX4 102 yX4_fillRooms, Cond.instanceMethod yX4_fillRooms, Cond.selects RX4 yX4_fillRooms yX4_fillRooms, Cond.code yX4_fillRooms cX4_fillRooms 4 none, Cond.methodLink RX4 105 yX8_solve, Cond.instanceMethod yX8_solve, Cond.selects RX8 yX8_solve yX8_solve, Cond.code yX8_solve cX8_solve 4 (some .boolean), Cond.constant RX8 49 (1000000), Cond.methodLink RX8 50 yX8_lineBelowZero, Cond.instanceMethod yX8_lineBelowZero, Cond.selects RX8 yX8_lineBelowZero yX8_lineBelowZero, Cond.code yX8_lineBelowZero cX8_lineBelowZero 3 (some .int), Cond.methodLink RX8 54 yX8_columnFor]
def wsX9_merged_r6 : List Cond := [Cond.instanceMethod yX8_columnFor, Cond.selects RX8 yX8_columnFor yX8_columnFor, Cond.code yX8_columnFor cX8_columnFor 5 (some .int), Cond.methodLink RX8 62 yX8_compareRatios, Cond.instanceMethod yX8_compareRatios, Cond.selects RX8 yX8_compareRatios yX8_compareRatios, Cond.code yX8_compareRatios cX8_compareRatios 13 (some .int), Cond.methodLink RX8 58 yX8_pivot, Cond.instanceMethod yX8_pivot, Cond.selects RX8 yX8_pivot yX8_pivot, Cond.code yX8_pivot cX8_pivot 7 none, Cond.methodLink RX8 66 yX8_changeLine, Cond.instanceMethod yX8_changeLine, Cond.selects RX8 yX8_changeLine yX8_changeLine, Cond.code yX8_changeLine cX8_changeLine 9 none, Cond.methodLink RX4 109 yX4_readWages, Cond.instanceMethod yX4_readWages, Cond.selects RX4 yX4_readWages yX4_readWages, Cond.code yX4_readWages cX4_readWages 3 none, Cond.fieldLink RX4 9 "PaidBySigns$LeastCost" "above" "[J", Cond.constantLong RX4 145 (60), Cond.fieldLink RX4 147 "PaidBySigns$Table" "base" "J", Cond.fieldLink RX4 15 "PaidBySigns$LeastCost" "aboveLower" "J", Cond.fieldLink RX4 150 "PaidBySigns$Table" "goals" "I"]
def wsX9_merged_r7 : List Cond := [Cond.fieldLink RX4 153 "PaidBySigns$Table" "lines" "I", Cond.fieldLink RX4 156 "PaidBySigns$Table" "lineName" "[I", Cond.methodLink RX4 139 yJ7_fill_d0a16, Cond.methodLink RX9 177 yX4_costInto, Cond.instanceMethod yX4_costInto, Cond.selects RX4 yX4_costInto yX4_costInto, Cond.code yX4_costInto cX4_costInto 5 none, Cond.methodLink RX4 73 yX2_become, Cond.instanceMethod yX2_become, Cond.selects RX2 yX2_become yX2_become, Cond.initialized RX2, Cond.code yX2_become cX2_become 7 none, Cond.methodLink RX2 20 Lib.MathLoose.abs_long.x, Cond.static Lib.MathLoose.abs_long.x, Cond.code Lib.MathLoose.abs_long.x Lib.MathLoose.abs_long.code 2 (some .long), Cond.fieldLink RX2 11 "PaidBySigns$Fraction" "upper" "J", Cond.fieldLink RX2 17 "PaidBySigns$Fraction" "lower" "J", Cond.methodLink RX2 26 yX2_commonPart, Cond.static yX2_commonPart, Cond.code yX2_commonPart cX2_commonPart 11 (some .long), Cond.methodLink RX2 30 yX2_forget, Cond.instanceMethod yX2_forget, Cond.selects RX2 yX2_forget yX2_forget, Cond.code yX2_forget cX2_forget 1 none]
def wsX9_merged_r8 : List Cond := [Cond.constantLong RX2 9 (-2000000000), Cond.methodLink RX4 82 yX2_add, Cond.instanceMethod yX2_add, Cond.selects RX2 yX2_add yX2_add, Cond.code yX2_add cX2_add 5 none, Cond.methodLink RX2 33 yX2_become]
def wsX9_merged : List Cond := .code yX9_merged cX9_merged 4 (some .int) :: ((wsX9_merged_r1 ++ (wsX9_merged_r2 ++ (wsX9_merged_r3 ++ (wsX9_merged_r4 ++ (wsX9_merged_r5 ++ (wsX9_merged_r6 ++ (wsX9_merged_r7 ++ wsX9_merged_r8))))))) ++ wsX90 ++ wsX30 ++ wsX40 ++ wsX80 ++ wsX20)
def wsX9_coins_r1 : List Cond := [Cond.fieldLink RX9 68 "PaidBySigns" "coinSearch" "LPaidBySigns$CoinSearch;", Cond.fieldLink RX9 19 "PaidBySigns" "hire" "LPaidBySigns$Hire;", Cond.fieldLink RX9 30 "PaidBySigns" "latest" "LPaidBySigns$Fraction;", Cond.fieldLink RX9 217 "PaidBySigns$CoinSearch" "bestCost" "I", Cond.fieldLink RX9 127 "PaidBySigns$Hire" "whole" "I", Cond.fieldLink RX9 101 "PaidBySigns$Hire" "least" "I", Cond.fieldLink RX9 124 "PaidBySigns$Hire" "signs" "I", Cond.fieldLink RX9 40 "PaidBySigns" "wageUpper" "[J", Cond.fieldLink RX9 220 "PaidBySigns$CoinSearch" "chosen" "[I", Cond.fieldLink RX9 44 "PaidBySigns" "wageLower" "[J", Cond.fieldLink RX9 47 "PaidBySigns" "hasWages" "Z", Cond.methodLink RX9 140 yX9_isWork, Cond.instanceMethod yX9_isWork, Cond.selects RX9 yX9_isWork yX9_isWork, Cond.initialized RX9, Cond.code yX9_isWork cX9_isWork 2 (some .boolean), Cond.fieldLink RX9 115 "PaidBySigns$Hire" "works" "I", Cond.methodLink RX9 213 yX0_find, Cond.instanceMethod yX0_find, Cond.selects RX0 yX0_find yX0_find, Cond.initialized RX0, Cond.code yX0_find cX0_find 5 (some .boolean), Cond.fieldLink RX0 40 "PaidBySigns$Hire" "signs" "I", Cond.fieldLink RX0 45 "PaidBySigns$CoinSearch" "signs" "I"]
def wsX9_coins_r2 : List Cond := [Cond.fieldLink RX0 46 "PaidBySigns$Hire" "works" "I", Cond.fieldLink RX0 49 "PaidBySigns$CoinSearch" "lines" "I", Cond.methodLink RX0 52 Lib.Math.min.name, Cond.static Lib.Math.min.name, Cond.initialized "java/lang/Math", Cond.code Lib.Math.min.name Lib.Math.min.code 2 (some .int), Cond.fieldLink RX0 58 "PaidBySigns$CoinSearch" "most" "I", Cond.constant RX0 15 (1000000), Cond.fieldLink RX0 16 "PaidBySigns$CoinSearch" "bestCost" "I", Cond.fieldLink RX0 23 "PaidBySigns$CoinSearch" "own" "[I", Cond.fieldLink RX0 69 "PaidBySigns$Hire" "chances" "[[I", Cond.methodLink RX0 61 yX0_fillFelt, Cond.instanceMethod yX0_fillFelt, Cond.selects RX0 yX0_fillFelt yX0_fillFelt, Cond.code yX0_fillFelt cX0_fillFelt 4 none, Cond.fieldLink RX0 76 "PaidBySigns$Hire" "least" "I", Cond.fieldLink RX0 20 "PaidBySigns$CoinSearch" "felt" "[I", Cond.methodLink RX0 79 yX3_feltOf, Cond.instanceMethod yX3_feltOf, Cond.selects RX3 yX3_feltOf yX3_feltOf, Cond.initialized RX3, Cond.code yX3_feltOf cX3_feltOf 6 (some .int), Cond.fieldLink RX3 48 "PaidBySigns$Hire" "rates" "I", Cond.fieldLink RX3 26 "PaidBySigns$Hire" "mark" "[I"]
def wsX9_coins_r3 : List Cond := [Cond.methodLink RX3 51 Lib.Math.min.name, Cond.fieldLink RX3 23 "PaidBySigns$Hire" "rate" "[I", Cond.methodLink RX0 65 yX0_fillLine, Cond.instanceMethod yX0_fillLine, Cond.selects RX0 yX0_fillLine yX0_fillLine, Cond.code yX0_fillLine cX0_fillLine 5 none, Cond.fieldLink RX0 34 "PaidBySigns$CoinSearch" "left" "[[I", Cond.fieldLink RX0 83 "PaidBySigns$Hire" "whole" "I", Cond.fieldLink RX0 31 "PaidBySigns$CoinSearch" "rest" "[[I", Cond.fieldLink RX0 28 "PaidBySigns$CoinSearch" "share" "[[I", Cond.methodLink RX0 89 Lib.Math.max.name, Cond.static Lib.Math.max.name, Cond.code Lib.Math.max.name Lib.Math.max.code 2 (some .int), Cond.methodLink RX0 86 yX3_lackOf, Cond.instanceMethod yX3_lackOf, Cond.selects RX3 yX3_lackOf yX3_lackOf, Cond.code yX3_lackOf cX3_lackOf 3 (some .int), Cond.fieldLink RX3 15 "PaidBySigns$Hire" "costs" "[I", Cond.fieldLink RX3 42 "PaidBySigns$Hire" "otherwise" "I", Cond.fieldLink RX3 45 "PaidBySigns$Hire" "least" "I", Cond.methodLink RX3 63 yX3_feltOf, Cond.methodLink RX0 72 yX0_place, Cond.instanceMethod yX0_place, Cond.selects RX0 yX0_place yX0_place]
def wsX9_coins_r4 : List Cond := [Cond.code yX0_place cX0_place 7 none, Cond.fieldLink RX0 37 "PaidBySigns$CoinSearch" "tried" "[I", Cond.fieldLink RX0 9 "PaidBySigns$CoinSearch" "chosen" "[I", Cond.methodLink RX0 92 arraycopyName, Cond.native arraycopyName, Cond.static arraycopyName, Cond.initialized "java/lang/System", Cond.methodLink RX0 98 yX0_lastCoin, Cond.instanceMethod yX0_lastCoin, Cond.selects RX0 yX0_lastCoin yX0_lastCoin, Cond.code yX0_lastCoin cX0_lastCoin 4 (some .int), Cond.methodLink RX0 108 yX0_isShort, Cond.instanceMethod yX0_isShort, Cond.selects RX0 yX0_isShort yX0_isShort, Cond.code yX0_isShort cX0_isShort 4 (some .boolean), Cond.methodLink RX0 101 yX0_firstCoin, Cond.instanceMethod yX0_firstCoin, Cond.selects RX0 yX0_firstCoin yX0_firstCoin, Cond.code yX0_firstCoin cX0_firstCoin 4 (some .int), Cond.methodLink RX0 104 yX0_canBeCheaper, Cond.instanceMethod yX0_canBeCheaper, Cond.selects RX0 yX0_canBeCheaper yX0_canBeCheaper, Cond.code yX0_canBeCheaper cX0_canBeCheaper 9 (some .boolean), Cond.methodLink RX9 190 yX2_become]
def wsX9_coins_r5 : List Cond := [Cond.instanceMethod yX2_become, Cond.selects RX2 yX2_become yX2_become, Cond.initialized RX2, Cond.code yX2_become cX2_become 7 none, Cond.methodLink RX2 20 Lib.MathLoose.abs_long.x, Cond.static Lib.MathLoose.abs_long.x, Cond.code Lib.MathLoose.abs_long.x Lib.MathLoose.abs_long.code 2 (some .long), Cond.fieldLink RX2 11 "PaidBySigns$Fraction" "upper" "J", Cond.fieldLink RX2 17 "PaidBySigns$Fraction" "lower" "J", Cond.methodLink RX2 26 yX2_commonPart, Cond.static yX2_commonPart, Cond.code yX2_commonPart cX2_commonPart 11 (some .long), Cond.methodLink RX2 30 yX2_forget, Cond.instanceMethod yX2_forget, Cond.selects RX2 yX2_forget yX2_forget, Cond.code yX2_forget cX2_forget 1 none, Cond.constantLong RX2 9 (-2000000000)]
def wsX9_coins : List Cond := .code yX9_coins cX9_coins 4 (some .int) :: ((wsX9_coins_r1 ++ (wsX9_coins_r2 ++ (wsX9_coins_r3 ++ (wsX9_coins_r4 ++ wsX9_coins_r5)))) ++ wsX90 ++ wsX00 ++ wsX30 ++ wsX20)
def wsX9_bar_r1 : List Cond := [Cond.fieldLink RX9 19 "PaidBySigns" "hire" "LPaidBySigns$Hire;", Cond.fieldLink RX9 124 "PaidBySigns$Hire" "signs" "I", Cond.fieldLink RX9 61 "PaidBySigns" "oneSum" "LPaidBySigns$OneSum;", Cond.fieldLink RX9 127 "PaidBySigns$Hire" "whole" "I", Cond.fieldLink RX9 34 "PaidBySigns" "trial" "LPaidBySigns$Fraction;", Cond.fieldLink RX9 37 "PaidBySigns" "champion" "LPaidBySigns$Fraction;", Cond.fieldLink RX9 30 "PaidBySigns" "latest" "LPaidBySigns$Fraction;", Cond.methodLink RX9 140 yX9_isWork, Cond.instanceMethod yX9_isWork, Cond.selects RX9 yX9_isWork yX9_isWork, Cond.initialized RX9, Cond.code yX9_isWork cX9_isWork 2 (some .boolean), Cond.fieldLink RX9 115 "PaidBySigns$Hire" "works" "I", Cond.methodLink RX9 223 yX5_settle, Cond.instanceMethod yX5_settle, Cond.selects RX5 yX5_settle yX5_settle, Cond.initialized RX5, Cond.code yX5_settle cX5_settle 9 (some .boolean), Cond.fieldLink RX5 18 "PaidBySigns$Hire" "works" "I", Cond.methodLink RX5 7 yX5_start, Cond.instanceMethod yX5_start, Cond.selects RX5 yX5_start yX5_start, Cond.code yX5_start cX5_start 1 none, Cond.fieldLink RX5 47 "PaidBySigns$OneSum" "lowUpper" "J"]
def wsX9_bar_r2 : List Cond := [Cond.fieldLink RX5 43 "PaidBySigns$OneSum" "lowLower" "J", Cond.fieldLink RX5 65 "PaidBySigns$OneSum" "capUpper" "J", Cond.fieldLink RX5 68 "PaidBySigns$OneSum" "capLower" "J", Cond.fieldLink RX5 71 "PaidBySigns$OneSum" "isBroken" "Z", Cond.methodLink RX5 12 yX3_chanceFrom, Cond.instanceMethod yX3_chanceFrom, Cond.selects RX3 yX3_chanceFrom yX3_chanceFrom, Cond.initialized RX3, Cond.code yX3_chanceFrom cX3_chanceFrom 5 (some .int), Cond.fieldLink RX3 32 "PaidBySigns$Hire" "signs" "I", Cond.fieldLink RX3 9 "PaidBySigns$Hire" "brings" "[I", Cond.fieldLink RX3 20 "PaidBySigns$Hire" "chances" "[[I", Cond.methodLink RX5 22 yX3_lackOf, Cond.instanceMethod yX3_lackOf, Cond.selects RX3 yX3_lackOf yX3_lackOf, Cond.code yX3_lackOf cX3_lackOf 3 (some .int), Cond.fieldLink RX3 15 "PaidBySigns$Hire" "costs" "[I", Cond.fieldLink RX3 42 "PaidBySigns$Hire" "otherwise" "I", Cond.fieldLink RX3 45 "PaidBySigns$Hire" "least" "I", Cond.methodLink RX3 63 yX3_feltOf, Cond.instanceMethod yX3_feltOf, Cond.selects RX3 yX3_feltOf yX3_feltOf, Cond.code yX3_feltOf cX3_feltOf 6 (some .int), Cond.fieldLink RX3 48 "PaidBySigns$Hire" "rates" "I"]
def wsX9_bar_r3 : List Cond := [Cond.fieldLink RX3 26 "PaidBySigns$Hire" "mark" "[I", Cond.methodLink RX3 51 Lib.Math.min.name, Cond.static Lib.Math.min.name, Cond.initialized "java/lang/Math", Cond.code Lib.Math.min.name Lib.Math.min.code 2 (some .int), Cond.fieldLink RX3 23 "PaidBySigns$Hire" "rate" "[I", Cond.methodLink RX5 25 yX5_need, Cond.instanceMethod yX5_need, Cond.selects RX5 yX5_need yX5_need, Cond.code yX5_need cX5_need 5 none, Cond.methodLink RX5 29 yX5_isMet, Cond.instanceMethod yX5_isMet, Cond.selects RX5 yX5_isMet yX5_isMet, Cond.code yX5_isMet cX5_isMet 2 (some .boolean), Cond.methodLink RX9 227 yX3_chanceFrom, Cond.methodLink RX9 231 yX5_meanInto, Cond.instanceMethod yX5_meanInto, Cond.selects RX5 yX5_meanInto yX5_meanInto, Cond.code yX5_meanInto cX5_meanInto 9 none, Cond.fieldLink RX5 36 "PaidBySigns$Hire" "least" "I", Cond.fieldLink RX5 54 "PaidBySigns$Fraction" "upper" "J", Cond.fieldLink RX5 59 "PaidBySigns$Fraction" "lower" "J", Cond.methodLink RX5 39 yX3_feltOf, Cond.methodLink RX5 50 yX3_wageOf]
def wsX9_bar_r4 : List Cond := [Cond.instanceMethod yX3_wageOf, Cond.selects RX3 yX3_wageOf yX3_wageOf, Cond.code yX3_wageOf cX3_wageOf 13 none, Cond.methodLink RX3 57 yX2_become, Cond.instanceMethod yX2_become, Cond.selects RX2 yX2_become yX2_become, Cond.initialized RX2, Cond.code yX2_become cX2_become 7 none, Cond.methodLink RX2 20 Lib.MathLoose.abs_long.x, Cond.static Lib.MathLoose.abs_long.x, Cond.code Lib.MathLoose.abs_long.x Lib.MathLoose.abs_long.code 2 (some .long), Cond.fieldLink RX2 11 "PaidBySigns$Fraction" "upper" "J", Cond.fieldLink RX2 17 "PaidBySigns$Fraction" "lower" "J", Cond.methodLink RX2 26 yX2_commonPart, Cond.static yX2_commonPart, Cond.code yX2_commonPart cX2_commonPart 11 (some .long), Cond.methodLink RX2 30 yX2_forget, Cond.instanceMethod yX2_forget, Cond.selects RX2 yX2_forget yX2_forget, Cond.code yX2_forget cX2_forget 1 none, Cond.constantLong RX2 9 (-2000000000), Cond.methodLink RX5 62 yX2_become, Cond.methodLink RX9 235 yX2_isBelow, Cond.static yX2_isBelow]
def wsX9_bar_r5 : List Cond := [Cond.code yX2_isBelow cX2_isBelow 2 (some .boolean), Cond.methodLink RX9 202 yX2_copy, Cond.instanceMethod yX2_copy, Cond.selects RX2 yX2_copy yX2_copy, Cond.code yX2_copy cX2_copy 2 none]
def wsX9_bar : List Cond := .code yX9_bar cX9_bar 4 (some .int) :: ((wsX9_bar_r1 ++ (wsX9_bar_r2 ++ (wsX9_bar_r3 ++ (wsX9_bar_r4 ++ wsX9_bar_r5)))) ++ wsX90 ++ wsX30 ++ wsX50 ++ wsX20)
def wsX9_crew_r1 : List Cond := [Cond.fieldLink RX9 19 "PaidBySigns" "hire" "LPaidBySigns$Hire;", Cond.fieldLink RX9 127 "PaidBySigns$Hire" "whole" "I", Cond.fieldLink RX9 61 "PaidBySigns" "oneSum" "LPaidBySigns$OneSum;", Cond.fieldLink RX9 30 "PaidBySigns" "latest" "LPaidBySigns$Fraction;", Cond.methodLink RX9 140 yX9_isWork, Cond.instanceMethod yX9_isWork, Cond.selects RX9 yX9_isWork yX9_isWork, Cond.initialized RX9, Cond.code yX9_isWork cX9_isWork 2 (some .boolean), Cond.fieldLink RX9 115 "PaidBySigns$Hire" "works" "I", Cond.methodLink RX9 144 yX9_isSign, Cond.instanceMethod yX9_isSign, Cond.selects RX9 yX9_isSign yX9_isSign, Cond.code yX9_isSign cX9_isSign 2 (some .boolean), Cond.fieldLink RX9 124 "PaidBySigns$Hire" "signs" "I", Cond.methodLink RX9 227 yX3_chanceFrom, Cond.instanceMethod yX3_chanceFrom, Cond.selects RX3 yX3_chanceFrom yX3_chanceFrom, Cond.initialized RX3, Cond.code yX3_chanceFrom cX3_chanceFrom 5 (some .int), Cond.fieldLink RX3 32 "PaidBySigns$Hire" "signs" "I", Cond.fieldLink RX3 9 "PaidBySigns$Hire" "brings" "[I", Cond.fieldLink RX3 20 "PaidBySigns$Hire" "chances" "[[I", Cond.methodLink RX9 223 yX5_settle]
def wsX9_crew_r2 : List Cond := [Cond.instanceMethod yX5_settle, Cond.selects RX5 yX5_settle yX5_settle, Cond.initialized RX5, Cond.code yX5_settle cX5_settle 9 (some .boolean), Cond.fieldLink RX5 18 "PaidBySigns$Hire" "works" "I", Cond.methodLink RX5 7 yX5_start, Cond.instanceMethod yX5_start, Cond.selects RX5 yX5_start yX5_start, Cond.code yX5_start cX5_start 1 none, Cond.fieldLink RX5 47 "PaidBySigns$OneSum" "lowUpper" "J", Cond.fieldLink RX5 43 "PaidBySigns$OneSum" "lowLower" "J", Cond.fieldLink RX5 65 "PaidBySigns$OneSum" "capUpper" "J", Cond.fieldLink RX5 68 "PaidBySigns$OneSum" "capLower" "J", Cond.fieldLink RX5 71 "PaidBySigns$OneSum" "isBroken" "Z", Cond.methodLink RX5 12 yX3_chanceFrom, Cond.methodLink RX5 22 yX3_lackOf, Cond.instanceMethod yX3_lackOf, Cond.selects RX3 yX3_lackOf yX3_lackOf, Cond.code yX3_lackOf cX3_lackOf 3 (some .int), Cond.fieldLink RX3 15 "PaidBySigns$Hire" "costs" "[I", Cond.fieldLink RX3 42 "PaidBySigns$Hire" "otherwise" "I", Cond.fieldLink RX3 45 "PaidBySigns$Hire" "least" "I", Cond.methodLink RX3 63 yX3_feltOf, Cond.instanceMethod yX3_feltOf]
def wsX9_crew_r3 : List Cond := [Cond.selects RX3 yX3_feltOf yX3_feltOf, Cond.code yX3_feltOf cX3_feltOf 6 (some .int), Cond.fieldLink RX3 48 "PaidBySigns$Hire" "rates" "I", Cond.fieldLink RX3 26 "PaidBySigns$Hire" "mark" "[I", Cond.methodLink RX3 51 Lib.Math.min.name, Cond.static Lib.Math.min.name, Cond.initialized "java/lang/Math", Cond.code Lib.Math.min.name Lib.Math.min.code 2 (some .int), Cond.fieldLink RX3 23 "PaidBySigns$Hire" "rate" "[I", Cond.methodLink RX5 25 yX5_need, Cond.instanceMethod yX5_need, Cond.selects RX5 yX5_need yX5_need, Cond.code yX5_need cX5_need 5 none, Cond.methodLink RX5 29 yX5_isMet, Cond.instanceMethod yX5_isMet, Cond.selects RX5 yX5_isMet yX5_isMet, Cond.code yX5_isMet cX5_isMet 2 (some .boolean), Cond.methodLink RX9 231 yX5_meanInto, Cond.instanceMethod yX5_meanInto, Cond.selects RX5 yX5_meanInto yX5_meanInto, Cond.code yX5_meanInto cX5_meanInto 9 none, Cond.fieldLink RX5 36 "PaidBySigns$Hire" "least" "I", Cond.fieldLink RX5 54 "PaidBySigns$Fraction" "upper" "J", Cond.fieldLink RX5 59 "PaidBySigns$Fraction" "lower" "J"]
def wsX9_crew_r4 : List Cond := [Cond.methodLink RX5 39 yX3_feltOf, Cond.methodLink RX5 50 yX3_wageOf, Cond.instanceMethod yX3_wageOf, Cond.selects RX3 yX3_wageOf yX3_wageOf, Cond.code yX3_wageOf cX3_wageOf 13 none, Cond.methodLink RX3 57 yX2_become, Cond.instanceMethod yX2_become, Cond.selects RX2 yX2_become yX2_become, Cond.initialized RX2, Cond.code yX2_become cX2_become 7 none, Cond.methodLink RX2 20 Lib.MathLoose.abs_long.x, Cond.static Lib.MathLoose.abs_long.x, Cond.code Lib.MathLoose.abs_long.x Lib.MathLoose.abs_long.code 2 (some .long), Cond.fieldLink RX2 11 "PaidBySigns$Fraction" "upper" "J", Cond.fieldLink RX2 17 "PaidBySigns$Fraction" "lower" "J", Cond.methodLink RX2 26 yX2_commonPart, Cond.static yX2_commonPart, Cond.code yX2_commonPart cX2_commonPart 11 (some .long), Cond.methodLink RX2 30 yX2_forget, Cond.instanceMethod yX2_forget, Cond.selects RX2 yX2_forget yX2_forget, Cond.code yX2_forget cX2_forget 1 none, Cond.constantLong RX2 9 (-2000000000), Cond.methodLink RX5 62 yX2_become]
def wsX9_crew : List Cond := .code yX9_crew cX9_crew 5 (some .int) :: ((wsX9_crew_r1 ++ (wsX9_crew_r2 ++ (wsX9_crew_r3 ++ wsX9_crew_r4))) ++ wsX90 ++ wsX30 ++ wsX50 ++ wsX20)
def wsX9_watch_r1 : List Cond := [Cond.fieldLink RX9 19 "PaidBySigns" "hire" "LPaidBySigns$Hire;", Cond.fieldLink RX9 127 "PaidBySigns$Hire" "whole" "I", Cond.fieldLink RX9 61 "PaidBySigns" "oneSum" "LPaidBySigns$OneSum;", Cond.fieldLink RX9 34 "PaidBySigns" "trial" "LPaidBySigns$Fraction;", Cond.fieldLink RX9 37 "PaidBySigns" "champion" "LPaidBySigns$Fraction;", Cond.fieldLink RX9 30 "PaidBySigns" "latest" "LPaidBySigns$Fraction;", Cond.methodLink RX9 140 yX9_isWork, Cond.instanceMethod yX9_isWork, Cond.selects RX9 yX9_isWork yX9_isWork, Cond.initialized RX9, Cond.code yX9_isWork cX9_isWork 2 (some .boolean), Cond.fieldLink RX9 115 "PaidBySigns$Hire" "works" "I", Cond.methodLink RX9 239 yX5_settleWatched, Cond.instanceMethod yX5_settleWatched, Cond.selects RX5 yX5_settleWatched yX5_settleWatched, Cond.initialized RX5, Cond.code yX5_settleWatched cX5_settleWatched 5 (some .boolean), Cond.fieldLink RX5 18 "PaidBySigns$Hire" "works" "I", Cond.fieldLink RX5 33 "PaidBySigns$Hire" "whole" "I", Cond.methodLink RX5 7 yX5_start, Cond.instanceMethod yX5_start, Cond.selects RX5 yX5_start yX5_start, Cond.code yX5_start cX5_start 1 none, Cond.fieldLink RX5 47 "PaidBySigns$OneSum" "lowUpper" "J"]
def wsX9_watch_r2 : List Cond := [Cond.fieldLink RX5 43 "PaidBySigns$OneSum" "lowLower" "J", Cond.fieldLink RX5 65 "PaidBySigns$OneSum" "capUpper" "J", Cond.fieldLink RX5 68 "PaidBySigns$OneSum" "capLower" "J", Cond.fieldLink RX5 71 "PaidBySigns$OneSum" "isBroken" "Z", Cond.methodLink RX5 22 yX3_lackOf, Cond.instanceMethod yX3_lackOf, Cond.selects RX3 yX3_lackOf yX3_lackOf, Cond.initialized RX3, Cond.code yX3_lackOf cX3_lackOf 3 (some .int), Cond.fieldLink RX3 15 "PaidBySigns$Hire" "costs" "[I", Cond.fieldLink RX3 42 "PaidBySigns$Hire" "otherwise" "I", Cond.fieldLink RX3 45 "PaidBySigns$Hire" "least" "I", Cond.methodLink RX3 63 yX3_feltOf, Cond.instanceMethod yX3_feltOf, Cond.selects RX3 yX3_feltOf yX3_feltOf, Cond.code yX3_feltOf cX3_feltOf 6 (some .int), Cond.fieldLink RX3 48 "PaidBySigns$Hire" "rates" "I", Cond.fieldLink RX3 26 "PaidBySigns$Hire" "mark" "[I", Cond.methodLink RX3 51 Lib.Math.min.name, Cond.static Lib.Math.min.name, Cond.initialized "java/lang/Math", Cond.code Lib.Math.min.name Lib.Math.min.code 2 (some .int), Cond.fieldLink RX3 23 "PaidBySigns$Hire" "rate" "[I", Cond.methodLink RX5 25 yX5_need]
def wsX9_watch_r3 : List Cond := [Cond.instanceMethod yX5_need, Cond.selects RX5 yX5_need yX5_need, Cond.code yX5_need cX5_need 5 none, Cond.methodLink RX5 29 yX5_isMet, Cond.instanceMethod yX5_isMet, Cond.selects RX5 yX5_isMet yX5_isMet, Cond.code yX5_isMet cX5_isMet 2 (some .boolean), Cond.methodLink RX9 231 yX5_meanInto, Cond.instanceMethod yX5_meanInto, Cond.selects RX5 yX5_meanInto yX5_meanInto, Cond.code yX5_meanInto cX5_meanInto 9 none, Cond.fieldLink RX5 36 "PaidBySigns$Hire" "least" "I", Cond.fieldLink RX5 54 "PaidBySigns$Fraction" "upper" "J", Cond.fieldLink RX5 59 "PaidBySigns$Fraction" "lower" "J", Cond.methodLink RX5 39 yX3_feltOf, Cond.methodLink RX5 50 yX3_wageOf, Cond.instanceMethod yX3_wageOf, Cond.selects RX3 yX3_wageOf yX3_wageOf, Cond.code yX3_wageOf cX3_wageOf 13 none, Cond.methodLink RX3 57 yX2_become, Cond.instanceMethod yX2_become, Cond.selects RX2 yX2_become yX2_become, Cond.initialized RX2, Cond.code yX2_become cX2_become 7 none]
def wsX9_watch_r4 : List Cond := [Cond.methodLink RX2 20 Lib.MathLoose.abs_long.x, Cond.static Lib.MathLoose.abs_long.x, Cond.code Lib.MathLoose.abs_long.x Lib.MathLoose.abs_long.code 2 (some .long), Cond.fieldLink RX2 11 "PaidBySigns$Fraction" "upper" "J", Cond.fieldLink RX2 17 "PaidBySigns$Fraction" "lower" "J", Cond.methodLink RX2 26 yX2_commonPart, Cond.static yX2_commonPart, Cond.code yX2_commonPart cX2_commonPart 11 (some .long), Cond.methodLink RX2 30 yX2_forget, Cond.instanceMethod yX2_forget, Cond.selects RX2 yX2_forget yX2_forget, Cond.code yX2_forget cX2_forget 1 none, Cond.constantLong RX2 9 (-2000000000), Cond.methodLink RX5 62 yX2_become, Cond.methodLink RX9 242 yX2_add, Cond.instanceMethod yX2_add, Cond.selects RX2 yX2_add yX2_add, Cond.code yX2_add cX2_add 5 none, Cond.methodLink RX2 33 yX2_become, Cond.methodLink RX9 235 yX2_isBelow, Cond.static yX2_isBelow, Cond.code yX2_isBelow cX2_isBelow 2 (some .boolean), Cond.methodLink RX9 202 yX2_copy, Cond.instanceMethod yX2_copy]
def wsX9_watch_r5 : List Cond := [Cond.selects RX2 yX2_copy yX2_copy, Cond.code yX2_copy cX2_copy 2 none]
def wsX9_watch : List Cond := .code yX9_watch cX9_watch 5 (some .int) :: ((wsX9_watch_r1 ++ (wsX9_watch_r2 ++ (wsX9_watch_r3 ++ (wsX9_watch_r4 ++ wsX9_watch_r5)))) ++ wsX90 ++ wsX30 ++ wsX50 ++ wsX20)
set_option maxRecDepth 20000 in
theorem ggX9_merged_X9_isWork : GoodIn wsX9_merged wsX9_isWork := goodIn_r _ [8, 2, 9, 175, 176, 177, 178, 179, 180, 181, 182, 183, 184, 185, 186, 187, 188, 189, 190, 191, 192, 193, 194, 195, 196, 197, 198, 199] (by decide +kernel) (by decide +kernel)
set_option maxRecDepth 20000 in
theorem gX9_merged_X9_isWork : GoodIn wsX9_merged (wsV RX9 140 RX9 yX9_isWork wsX9_isWork) := goodIn_app (goodIn_of _ (by decide +kernel)) ggX9_merged_X9_isWork
set_option maxRecDepth 20000 in
theorem ggX9_merged_X9_isPair : GoodIn wsX9_merged wsX9_isPair := goodIn_r _ [13, 14, 15, 16, 7, 17, 2, 18, 175, 176, 177, 178, 179, 180, 181, 182, 183, 184, 185, 186, 187, 188, 189, 190, 191, 192, 193, 194, 195, 196, 197, 198, 199] (by decide +kernel) (by decide +kernel)
set_option maxRecDepth 20000 in
theorem gX9_merged_X9_isPair : GoodIn wsX9_merged (wsV RX9 205 RX9 yX9_isPair wsX9_isPair) := goodIn_app (goodIn_of _ (by decide +kernel)) ggX9_merged_X9_isPair
set_option maxRecDepth 20000 in
theorem ggX9_merged_X4_findMerged : GoodIn wsX9_merged wsX4_findMerged := goodIn_r _ [23, 24, 25, 26, 22, 27, 28, 29, 30, 31, 32, 33, 34, 35, 36, 37, 38, 39, 40, 41, 42, 43, 44, 45, 46, 47, 48, 49, 50, 51, 52, 53, 54, 55, 56, 57, 58, 59, 60, 61, 62, 63, 64, 65, 66, 67, 68, 69, 70, 71, 72, 73, 74, 75, 76, 77, 78, 79, 80, 81, 82, 83, 84, 85, 86, 87, 88, 89, 90, 91, 92, 93, 94, 95, 96, 97, 98, 99, 100, 101, 102, 103, 104, 105, 106, 107, 108, 109, 110, 111, 112, 113, 114, 115, 116, 117, 118, 119, 120, 121, 122, 123, 124, 125, 126, 127, 128, 129, 130, 131, 132, 133, 134, 135, 136, 137, 138, 139, 140, 141, 142, 143, 144, 145, 146, 147, 200, 201, 202, 203, 204, 205, 206, 207, 208, 209, 210, 211, 189, 190, 191, 192, 193, 194, 195, 196, 197, 198, 199, 212, 213, 214, 215, 216, 217, 218] (by decide +kernel) (by decide +kernel)
set_option maxRecDepth 20000 in
theorem gX9_merged_X4_findMerged : GoodIn wsX9_merged (wsV RX9 209 RX4 yX4_findMerged wsX4_findMerged) := goodIn_app (goodIn_of _ (by decide +kernel)) ggX9_merged_X4_findMerged
set_option maxRecDepth 20000 in
theorem ggX9_merged_X4_costInto : GoodIn wsX9_merged wsX4_costInto := goodIn_r _ [151, 28, 40, 29, 140, 90, 143, 50, 41, 42, 43, 22, 44, 31, 30, 45, 152, 153, 154, 155, 156, 157, 158, 64, 159, 160, 161, 162, 163, 164, 165, 166, 167, 168, 169, 170, 171, 172, 173, 174, 200, 201, 202, 203, 204, 205, 206, 207, 208, 209, 210, 211, 189, 190, 191, 192, 193, 194, 195, 196, 197, 198, 199, 219, 220] (by decide +kernel) (by decide +kernel)
set_option maxRecDepth 20000 in
theorem gX9_merged_X4_costInto : GoodIn wsX9_merged (wsV RX9 177 RX4 yX4_costInto wsX4_costInto) := goodIn_app (goodIn_of _ (by decide +kernel)) ggX9_merged_X4_costInto
theorem dX9_merged_0 : decode cX9_merged 0 = .ok (.aload_n 0, 1) := by decide +kernel
theorem dX9_merged_1 : decode cX9_merged 1 = .ok (.iload_n 1, 1) := by decide +kernel
theorem dX9_merged_2 : decode cX9_merged 2 = .ok (.invokevirtual 140, 3) := by decide +kernel
theorem dX9_merged_5 : decode cX9_merged 5 = .ok (.ifCond .eq 12, 3) := by decide +kernel
theorem dX9_merged_8 : decode cX9_merged 8 = .ok (.aload_n 0, 1) := by decide +kernel
theorem dX9_merged_9 : decode cX9_merged 9 = .ok (.iload_n 2, 1) := by decide +kernel
theorem dX9_merged_10 : decode cX9_merged 10 = .ok (.iload_n 3, 1) := by decide +kernel
theorem dX9_merged_11 : decode cX9_merged 11 = .ok (.invokevirtual 205, 3) := by decide +kernel
theorem dX9_merged_14 : decode cX9_merged 14 = .ok (.ifCond .ne 6, 3) := by decide +kernel
theorem dX9_merged_17 : decode cX9_merged 17 = .ok (.bipush (-2), 2) := by decide +kernel
theorem dX9_merged_19 : decode cX9_merged 19 = .ok (.ireturn, 1) := by decide +kernel
theorem dX9_merged_20 : decode cX9_merged 20 = .ok (.aload_n 0, 1) := by decide +kernel
theorem dX9_merged_21 : decode cX9_merged 21 = .ok (.getfield 54, 3) := by decide +kernel
theorem dX9_merged_24 : decode cX9_merged 24 = .ok (.aload_n 0, 1) := by decide +kernel
theorem dX9_merged_25 : decode cX9_merged 25 = .ok (.getfield 19, 3) := by decide +kernel
theorem dX9_merged_28 : decode cX9_merged 28 = .ok (.iload_n 1, 1) := by decide +kernel
theorem dX9_merged_29 : decode cX9_merged 29 = .ok (.iload_n 2, 1) := by decide +kernel
theorem dX9_merged_30 : decode cX9_merged 30 = .ok (.iload_n 3, 1) := by decide +kernel
theorem dX9_merged_31 : decode cX9_merged 31 = .ok (.invokevirtual 209, 3) := by decide +kernel
theorem dX9_merged_34 : decode cX9_merged 34 = .ok (.ifCond .ne 5, 3) := by decide +kernel
theorem dX9_merged_37 : decode cX9_merged 37 = .ok (.iconst (-1), 1) := by decide +kernel
theorem dX9_merged_38 : decode cX9_merged 38 = .ok (.ireturn, 1) := by decide +kernel
theorem dX9_merged_39 : decode cX9_merged 39 = .ok (.aload_n 0, 1) := by decide +kernel
theorem dX9_merged_40 : decode cX9_merged 40 = .ok (.getfield 54, 3) := by decide +kernel
theorem dX9_merged_43 : decode cX9_merged 43 = .ok (.aload_n 0, 1) := by decide +kernel
theorem dX9_merged_44 : decode cX9_merged 44 = .ok (.getfield 30, 3) := by decide +kernel
theorem dX9_merged_47 : decode cX9_merged 47 = .ok (.invokevirtual 177, 3) := by decide +kernel
theorem dX9_merged_50 : decode cX9_merged 50 = .ok (.iconst 1, 1) := by decide +kernel
theorem dX9_merged_51 : decode cX9_merged 51 = .ok (.ireturn, 1) := by decide +kernel
set_option maxRecDepth 20000 in
theorem ggX9_coins_X9_isWork : GoodIn wsX9_coins wsX9_isWork := goodIn_r _ [16, 2, 17, 114, 115, 116, 117, 118, 119, 120, 121, 122, 123, 124, 125, 126, 127, 139, 140, 141, 142, 143, 144, 145, 146, 147, 148, 149] (by decide +kernel) (by decide +kernel)
set_option maxRecDepth 20000 in
theorem gX9_coins_X9_isWork : GoodIn wsX9_coins (wsV RX9 140 RX9 yX9_isWork wsX9_isWork) := goodIn_app (goodIn_of _ (by decide +kernel)) ggX9_coins_X9_isWork
set_option maxRecDepth 20000 in
theorem ggX9_coins_X0_find : GoodIn wsX9_coins wsX0_find := goodIn_r _ [22, 23, 24, 25, 26, 27, 28, 29, 30, 31, 32, 33, 34, 35, 36, 37, 38, 21, 39, 40, 41, 42, 43, 44, 45, 46, 47, 48, 49, 50, 51, 52, 53, 54, 55, 56, 57, 58, 59, 60, 61, 62, 63, 64, 65, 66, 67, 68, 69, 70, 71, 72, 73, 74, 75, 76, 77, 78, 79, 80, 81, 82, 83, 84, 85, 86, 87, 88, 89, 90, 91, 92, 93, 94, 95, 139, 140, 141, 142, 143, 144, 145, 146, 147, 148, 149, 128, 129, 130, 131, 132, 133, 134, 135, 136, 137, 138] (by decide +kernel) (by decide +kernel)
set_option maxRecDepth 20000 in
theorem gX9_coins_X0_find : GoodIn wsX9_coins (wsV RX9 213 RX0 yX0_find wsX0_find) := goodIn_app (goodIn_of _ (by decide +kernel)) ggX9_coins_X0_find
set_option maxRecDepth 20000 in
theorem ggX9_coins_X2_become : GoodIn wsX9_coins wsX2_become := goodIn_r _ [100, 101, 102, 29, 103, 104, 105, 106, 107, 99, 108, 109, 110, 111, 112, 113, 150, 151] (by decide +kernel) (by decide +kernel)
set_option maxRecDepth 20000 in
theorem gX9_coins_X2_become : GoodIn wsX9_coins (wsV RX9 190 RX2 yX2_become wsX2_become) := goodIn_app (goodIn_of _ (by decide +kernel)) ggX9_coins_X2_become
theorem dX9_coins_0 : decode cX9_coins 0 = .ok (.aload_n 0, 1) := by decide +kernel
theorem dX9_coins_1 : decode cX9_coins 1 = .ok (.iload_n 1, 1) := by decide +kernel
theorem dX9_coins_2 : decode cX9_coins 2 = .ok (.invokevirtual 140, 3) := by decide +kernel
theorem dX9_coins_5 : decode cX9_coins 5 = .ok (.ifCond .eq 13, 3) := by decide +kernel
theorem dX9_coins_8 : decode cX9_coins 8 = .ok (.iload_n 2, 1) := by decide +kernel
theorem dX9_coins_9 : decode cX9_coins 9 = .ok (.ifCond .lt 9, 3) := by decide +kernel
theorem dX9_coins_12 : decode cX9_coins 12 = .ok (.iload_n 2, 1) := by decide +kernel
theorem dX9_coins_13 : decode cX9_coins 13 = .ok (.bipush 20, 2) := by decide +kernel
theorem dX9_coins_15 : decode cX9_coins 15 = .ok (.if_icmp .le 6, 3) := by decide +kernel
theorem dX9_coins_18 : decode cX9_coins 18 = .ok (.bipush (-2), 2) := by decide +kernel
theorem dX9_coins_20 : decode cX9_coins 20 = .ok (.ireturn, 1) := by decide +kernel
theorem dX9_coins_21 : decode cX9_coins 21 = .ok (.aload_n 0, 1) := by decide +kernel
theorem dX9_coins_22 : decode cX9_coins 22 = .ok (.getfield 68, 3) := by decide +kernel
theorem dX9_coins_25 : decode cX9_coins 25 = .ok (.aload_n 0, 1) := by decide +kernel
theorem dX9_coins_26 : decode cX9_coins 26 = .ok (.getfield 19, 3) := by decide +kernel
theorem dX9_coins_29 : decode cX9_coins 29 = .ok (.iload_n 1, 1) := by decide +kernel
theorem dX9_coins_30 : decode cX9_coins 30 = .ok (.iload_n 2, 1) := by decide +kernel
theorem dX9_coins_31 : decode cX9_coins 31 = .ok (.invokevirtual 213, 3) := by decide +kernel
theorem dX9_coins_34 : decode cX9_coins 34 = .ok (.ifCond .ne 5, 3) := by decide +kernel
theorem dX9_coins_37 : decode cX9_coins 37 = .ok (.iconst (-1), 1) := by decide +kernel
theorem dX9_coins_38 : decode cX9_coins 38 = .ok (.ireturn, 1) := by decide +kernel
theorem dX9_coins_39 : decode cX9_coins 39 = .ok (.aload_n 0, 1) := by decide +kernel
theorem dX9_coins_40 : decode cX9_coins 40 = .ok (.getfield 30, 3) := by decide +kernel
theorem dX9_coins_43 : decode cX9_coins 43 = .ok (.aload_n 0, 1) := by decide +kernel
theorem dX9_coins_44 : decode cX9_coins 44 = .ok (.getfield 68, 3) := by decide +kernel
theorem dX9_coins_47 : decode cX9_coins 47 = .ok (.getfield 217, 3) := by decide +kernel
theorem dX9_coins_50 : decode cX9_coins 50 = .ok (.i2l, 1) := by decide +kernel
theorem dX9_coins_51 : decode cX9_coins 51 = .ok (.aload_n 0, 1) := by decide +kernel
theorem dX9_coins_52 : decode cX9_coins 52 = .ok (.getfield 19, 3) := by decide +kernel
theorem dX9_coins_55 : decode cX9_coins 55 = .ok (.getfield 127, 3) := by decide +kernel
theorem dX9_coins_58 : decode cX9_coins 58 = .ok (.i2l, 1) := by decide +kernel
theorem dX9_coins_59 : decode cX9_coins 59 = .ok (.aload_n 0, 1) := by decide +kernel
theorem dX9_coins_60 : decode cX9_coins 60 = .ok (.getfield 19, 3) := by decide +kernel
theorem dX9_coins_63 : decode cX9_coins 63 = .ok (.getfield 101, 3) := by decide +kernel
theorem dX9_coins_66 : decode cX9_coins 66 = .ok (.i2l, 1) := by decide +kernel
theorem dX9_coins_67 : decode cX9_coins 67 = .ok (.lmul, 1) := by decide +kernel
theorem dX9_coins_68 : decode cX9_coins 68 = .ok (.ladd, 1) := by decide +kernel
theorem dX9_coins_69 : decode cX9_coins 69 = .ok (.aload_n 0, 1) := by decide +kernel
theorem dX9_coins_70 : decode cX9_coins 70 = .ok (.getfield 19, 3) := by decide +kernel
theorem dX9_coins_73 : decode cX9_coins 73 = .ok (.getfield 127, 3) := by decide +kernel
theorem dX9_coins_76 : decode cX9_coins 76 = .ok (.i2l, 1) := by decide +kernel
theorem dX9_coins_77 : decode cX9_coins 77 = .ok (.invokevirtual 190, 3) := by decide +kernel
theorem dX9_coins_80 : decode cX9_coins 80 = .ok (.iconst 0, 1) := by decide +kernel
theorem dX9_coins_81 : decode cX9_coins 81 = .ok (.istore_n 3, 1) := by decide +kernel
theorem dX9_coins_82 : decode cX9_coins 82 = .ok (.iload_n 3, 1) := by decide +kernel
theorem dX9_coins_83 : decode cX9_coins 83 = .ok (.aload_n 0, 1) := by decide +kernel
theorem dX9_coins_84 : decode cX9_coins 84 = .ok (.getfield 19, 3) := by decide +kernel
theorem dX9_coins_87 : decode cX9_coins 87 = .ok (.getfield 124, 3) := by decide +kernel
theorem dX9_coins_90 : decode cX9_coins 90 = .ok (.if_icmp .ge 40, 3) := by decide +kernel
theorem dX9_coins_93 : decode cX9_coins 93 = .ok (.aload_n 0, 1) := by decide +kernel
theorem dX9_coins_94 : decode cX9_coins 94 = .ok (.getfield 40, 3) := by decide +kernel
theorem dX9_coins_97 : decode cX9_coins 97 = .ok (.iload_n 3, 1) := by decide +kernel
theorem dX9_coins_98 : decode cX9_coins 98 = .ok (.aload_n 0, 1) := by decide +kernel
theorem dX9_coins_99 : decode cX9_coins 99 = .ok (.getfield 19, 3) := by decide +kernel
theorem dX9_coins_102 : decode cX9_coins 102 = .ok (.getfield 101, 3) := by decide +kernel
theorem dX9_coins_105 : decode cX9_coins 105 = .ok (.aload_n 0, 1) := by decide +kernel
theorem dX9_coins_106 : decode cX9_coins 106 = .ok (.getfield 68, 3) := by decide +kernel
theorem dX9_coins_109 : decode cX9_coins 109 = .ok (.getfield 220, 3) := by decide +kernel
theorem dX9_coins_112 : decode cX9_coins 112 = .ok (.iload_n 3, 1) := by decide +kernel
theorem dX9_coins_113 : decode cX9_coins 113 = .ok (.iaload, 1) := by decide +kernel
theorem dX9_coins_114 : decode cX9_coins 114 = .ok (.iadd, 1) := by decide +kernel
theorem dX9_coins_115 : decode cX9_coins 115 = .ok (.i2l, 1) := by decide +kernel
theorem dX9_coins_116 : decode cX9_coins 116 = .ok (.lastore, 1) := by decide +kernel
theorem dX9_coins_117 : decode cX9_coins 117 = .ok (.aload_n 0, 1) := by decide +kernel
theorem dX9_coins_118 : decode cX9_coins 118 = .ok (.getfield 44, 3) := by decide +kernel
theorem dX9_coins_121 : decode cX9_coins 121 = .ok (.iload_n 3, 1) := by decide +kernel
theorem dX9_coins_122 : decode cX9_coins 122 = .ok (.lconst 1, 1) := by decide +kernel
theorem dX9_coins_123 : decode cX9_coins 123 = .ok (.lastore, 1) := by decide +kernel
theorem dX9_coins_124 : decode cX9_coins 124 = .ok (.iinc 3 1, 3) := by decide +kernel
theorem dX9_coins_127 : decode cX9_coins 127 = .ok (.goto (-45), 3) := by decide +kernel
theorem dX9_coins_130 : decode cX9_coins 130 = .ok (.aload_n 0, 1) := by decide +kernel
theorem dX9_coins_131 : decode cX9_coins 131 = .ok (.iconst 1, 1) := by decide +kernel
theorem dX9_coins_132 : decode cX9_coins 132 = .ok (.putfield 47, 3) := by decide +kernel
theorem dX9_coins_135 : decode cX9_coins 135 = .ok (.iconst 1, 1) := by decide +kernel
theorem dX9_coins_136 : decode cX9_coins 136 = .ok (.ireturn, 1) := by decide +kernel
set_option maxRecDepth 20000 in
theorem ggX9_bar_X9_isWork : GoodIn wsX9_bar wsX9_isWork := goodIn_r _ [12, 1, 13, 102, 103, 104, 105, 106, 107, 108, 109, 110, 111, 112, 113, 114, 115, 116, 117, 118, 119, 120, 121, 122, 123, 124, 125, 126] (by decide +kernel) (by decide +kernel)
set_option maxRecDepth 20000 in
theorem gX9_bar_X9_isWork : GoodIn wsX9_bar (wsV RX9 140 RX9 yX9_isWork wsX9_isWork) := goodIn_app (goodIn_of _ (by decide +kernel)) ggX9_bar_X9_isWork
set_option maxRecDepth 20000 in
theorem ggX9_bar_X5_settle : GoodIn wsX9_bar wsX5_settle := goodIn_r _ [18, 19, 20, 21, 22, 17, 23, 24, 25, 26, 27, 28, 29, 30, 31, 32, 33, 34, 35, 36, 37, 38, 39, 40, 41, 42, 43, 44, 45, 46, 47, 48, 49, 50, 51, 52, 53, 54, 55, 56, 57, 58, 59, 60, 61, 62, 116, 117, 118, 119, 120, 121, 122, 123, 124, 125, 126, 127, 128, 129, 130, 131] (by decide +kernel) (by decide +kernel)
set_option maxRecDepth 20000 in
theorem gX9_bar_X5_settle : GoodIn wsX9_bar (wsV RX9 223 RX5 yX5_settle wsX5_settle) := goodIn_app (goodIn_of _ (by decide +kernel)) ggX9_bar_X5_settle
set_option maxRecDepth 20000 in
theorem ggX9_bar_X3_chanceFrom : GoodIn wsX9_bar wsX3_chanceFrom := goodIn_r _ [33, 34, 35, 36, 116, 117, 118, 119, 120, 121, 122, 123, 124, 125, 126] (by decide +kernel) (by decide +kernel)
set_option maxRecDepth 20000 in
theorem gX9_bar_X3_chanceFrom : GoodIn wsX9_bar (wsV RX9 227 RX3 yX3_chanceFrom wsX3_chanceFrom) := goodIn_app (goodIn_of _ (by decide +kernel)) ggX9_bar_X3_chanceFrom
set_option maxRecDepth 20000 in
theorem ggX9_bar_X5_meanInto : GoodIn wsX9_bar wsX5_meanInto := goodIn_r _ [67, 68, 25, 24, 69, 70, 71, 45, 46, 32, 47, 48, 49, 50, 51, 52, 53, 54, 72, 73, 74, 75, 76, 77, 78, 79, 80, 81, 82, 83, 84, 85, 86, 87, 88, 89, 90, 91, 92, 93, 94, 116, 117, 118, 119, 120, 121, 122, 123, 124, 125, 126, 127, 128, 129, 130, 131, 132, 133] (by decide +kernel) (by decide +kernel)
set_option maxRecDepth 20000 in
theorem gX9_bar_X5_meanInto : GoodIn wsX9_bar (wsV RX9 231 RX5 yX5_meanInto wsX5_meanInto) := goodIn_app (goodIn_of _ (by decide +kernel)) ggX9_bar_X5_meanInto
set_option maxRecDepth 20000 in
theorem ggX9_bar_X2_isBelow : GoodIn wsX9_bar wsX2_isBelow := goodIn_r _ [97, 84, 85, 132, 133] (by decide +kernel) (by decide +kernel)
set_option maxRecDepth 20000 in
theorem gX9_bar_X2_isBelow : GoodIn wsX9_bar (va_wsS RX9 235 yX2_isBelow wsX2_isBelow) := goodIn_app (goodIn_of _ (by decide +kernel)) ggX9_bar_X2_isBelow
set_option maxRecDepth 20000 in
theorem ggX9_bar_X2_copy : GoodIn wsX9_bar wsX2_copy := goodIn_r _ [101, 84, 85, 132, 133] (by decide +kernel) (by decide +kernel)
set_option maxRecDepth 20000 in
theorem gX9_bar_X2_copy : GoodIn wsX9_bar (wsV RX9 202 RX2 yX2_copy wsX2_copy) := goodIn_app (goodIn_of _ (by decide +kernel)) ggX9_bar_X2_copy
theorem dX9_bar_0 : decode cX9_bar 0 = .ok (.aload_n 0, 1) := by decide +kernel
theorem dX9_bar_1 : decode cX9_bar 1 = .ok (.iload_n 1, 1) := by decide +kernel
theorem dX9_bar_2 : decode cX9_bar 2 = .ok (.invokevirtual 140, 3) := by decide +kernel
theorem dX9_bar_5 : decode cX9_bar 5 = .ok (.ifCond .ne 6, 3) := by decide +kernel
theorem dX9_bar_8 : decode cX9_bar 8 = .ok (.bipush (-2), 2) := by decide +kernel
theorem dX9_bar_10 : decode cX9_bar 10 = .ok (.ireturn, 1) := by decide +kernel
theorem dX9_bar_11 : decode cX9_bar 11 = .ok (.iconst (-1), 1) := by decide +kernel
theorem dX9_bar_12 : decode cX9_bar 12 = .ok (.istore_n 2, 1) := by decide +kernel
theorem dX9_bar_13 : decode cX9_bar 13 = .ok (.iconst 0, 1) := by decide +kernel
theorem dX9_bar_14 : decode cX9_bar 14 = .ok (.istore_n 3, 1) := by decide +kernel
theorem dX9_bar_15 : decode cX9_bar 15 = .ok (.iload_n 3, 1) := by decide +kernel
theorem dX9_bar_16 : decode cX9_bar 16 = .ok (.aload_n 0, 1) := by decide +kernel
theorem dX9_bar_17 : decode cX9_bar 17 = .ok (.getfield 19, 3) := by decide +kernel
theorem dX9_bar_20 : decode cX9_bar 20 = .ok (.getfield 124, 3) := by decide +kernel
theorem dX9_bar_23 : decode cX9_bar 23 = .ok (.if_icmp .ge 99, 3) := by decide +kernel
theorem dX9_bar_26 : decode cX9_bar 26 = .ok (.aload_n 0, 1) := by decide +kernel
theorem dX9_bar_27 : decode cX9_bar 27 = .ok (.getfield 61, 3) := by decide +kernel
theorem dX9_bar_30 : decode cX9_bar 30 = .ok (.aload_n 0, 1) := by decide +kernel
theorem dX9_bar_31 : decode cX9_bar 31 = .ok (.getfield 19, 3) := by decide +kernel
theorem dX9_bar_34 : decode cX9_bar 34 = .ok (.iload_n 1, 1) := by decide +kernel
theorem dX9_bar_35 : decode cX9_bar 35 = .ok (.iload_n 3, 1) := by decide +kernel
theorem dX9_bar_36 : decode cX9_bar 36 = .ok (.iconst 1, 1) := by decide +kernel
theorem dX9_bar_37 : decode cX9_bar 37 = .ok (.aload_n 0, 1) := by decide +kernel
theorem dX9_bar_38 : decode cX9_bar 38 = .ok (.getfield 19, 3) := by decide +kernel
theorem dX9_bar_41 : decode cX9_bar 41 = .ok (.getfield 127, 3) := by decide +kernel
theorem dX9_bar_44 : decode cX9_bar 44 = .ok (.invokevirtual 223, 3) := by decide +kernel
theorem dX9_bar_47 : decode cX9_bar 47 = .ok (.ifCond .ne 6, 3) := by decide +kernel
theorem dX9_bar_50 : decode cX9_bar 50 = .ok (.goto 66, 3) := by decide +kernel
theorem dX9_bar_53 : decode cX9_bar 53 = .ok (.aload_n 0, 1) := by decide +kernel
theorem dX9_bar_54 : decode cX9_bar 54 = .ok (.getfield 61, 3) := by decide +kernel
theorem dX9_bar_57 : decode cX9_bar 57 = .ok (.aload_n 0, 1) := by decide +kernel
theorem dX9_bar_58 : decode cX9_bar 58 = .ok (.getfield 34, 3) := by decide +kernel
theorem dX9_bar_61 : decode cX9_bar 61 = .ok (.aload_n 0, 1) := by decide +kernel
theorem dX9_bar_62 : decode cX9_bar 62 = .ok (.getfield 19, 3) := by decide +kernel
theorem dX9_bar_65 : decode cX9_bar 65 = .ok (.aload_n 0, 1) := by decide +kernel
theorem dX9_bar_66 : decode cX9_bar 66 = .ok (.getfield 19, 3) := by decide +kernel
theorem dX9_bar_69 : decode cX9_bar 69 = .ok (.iload_n 1, 1) := by decide +kernel
theorem dX9_bar_70 : decode cX9_bar 70 = .ok (.iload_n 3, 1) := by decide +kernel
theorem dX9_bar_71 : decode cX9_bar 71 = .ok (.invokevirtual 227, 3) := by decide +kernel
theorem dX9_bar_74 : decode cX9_bar 74 = .ok (.aload_n 0, 1) := by decide +kernel
theorem dX9_bar_75 : decode cX9_bar 75 = .ok (.getfield 19, 3) := by decide +kernel
theorem dX9_bar_78 : decode cX9_bar 78 = .ok (.getfield 127, 3) := by decide +kernel
theorem dX9_bar_81 : decode cX9_bar 81 = .ok (.invokevirtual 231, 3) := by decide +kernel
theorem dX9_bar_84 : decode cX9_bar 84 = .ok (.iload_n 2, 1) := by decide +kernel
theorem dX9_bar_85 : decode cX9_bar 85 = .ok (.iconst (-1), 1) := by decide +kernel
theorem dX9_bar_86 : decode cX9_bar 86 = .ok (.if_icmp .eq 17, 3) := by decide +kernel
theorem dX9_bar_89 : decode cX9_bar 89 = .ok (.aload_n 0, 1) := by decide +kernel
theorem dX9_bar_90 : decode cX9_bar 90 = .ok (.getfield 34, 3) := by decide +kernel
theorem dX9_bar_93 : decode cX9_bar 93 = .ok (.aload_n 0, 1) := by decide +kernel
theorem dX9_bar_94 : decode cX9_bar 94 = .ok (.getfield 37, 3) := by decide +kernel
theorem dX9_bar_97 : decode cX9_bar 97 = .ok (.invokestatic 235, 3) := by decide +kernel
theorem dX9_bar_100 : decode cX9_bar 100 = .ok (.ifCond .eq 16, 3) := by decide +kernel
theorem dX9_bar_103 : decode cX9_bar 103 = .ok (.aload_n 0, 1) := by decide +kernel
theorem dX9_bar_104 : decode cX9_bar 104 = .ok (.getfield 37, 3) := by decide +kernel
theorem dX9_bar_107 : decode cX9_bar 107 = .ok (.aload_n 0, 1) := by decide +kernel
theorem dX9_bar_108 : decode cX9_bar 108 = .ok (.getfield 34, 3) := by decide +kernel
theorem dX9_bar_111 : decode cX9_bar 111 = .ok (.invokevirtual 202, 3) := by decide +kernel
theorem dX9_bar_114 : decode cX9_bar 114 = .ok (.iload_n 3, 1) := by decide +kernel
theorem dX9_bar_115 : decode cX9_bar 115 = .ok (.istore_n 2, 1) := by decide +kernel
theorem dX9_bar_116 : decode cX9_bar 116 = .ok (.iinc 3 1, 3) := by decide +kernel
theorem dX9_bar_119 : decode cX9_bar 119 = .ok (.goto (-104), 3) := by decide +kernel
theorem dX9_bar_122 : decode cX9_bar 122 = .ok (.iload_n 2, 1) := by decide +kernel
theorem dX9_bar_123 : decode cX9_bar 123 = .ok (.iconst (-1), 1) := by decide +kernel
theorem dX9_bar_124 : decode cX9_bar 124 = .ok (.if_icmp .eq 14, 3) := by decide +kernel
theorem dX9_bar_127 : decode cX9_bar 127 = .ok (.aload_n 0, 1) := by decide +kernel
theorem dX9_bar_128 : decode cX9_bar 128 = .ok (.getfield 30, 3) := by decide +kernel
theorem dX9_bar_131 : decode cX9_bar 131 = .ok (.aload_n 0, 1) := by decide +kernel
theorem dX9_bar_132 : decode cX9_bar 132 = .ok (.getfield 37, 3) := by decide +kernel
theorem dX9_bar_135 : decode cX9_bar 135 = .ok (.invokevirtual 202, 3) := by decide +kernel
theorem dX9_bar_138 : decode cX9_bar 138 = .ok (.iload_n 2, 1) := by decide +kernel
theorem dX9_bar_139 : decode cX9_bar 139 = .ok (.ireturn, 1) := by decide +kernel
set_option maxRecDepth 20000 in
theorem ggX9_crew_X9_isWork : GoodIn wsX9_crew wsX9_isWork := goodIn_r _ [9, 1, 10, 97, 98, 99, 100, 101, 102, 103, 104, 105, 106, 107, 108, 109, 110, 111, 112, 113, 114, 115, 116, 117, 118, 119, 120, 121] (by decide +kernel) (by decide +kernel)
set_option maxRecDepth 20000 in
theorem gX9_crew_X9_isWork : GoodIn wsX9_crew (wsV RX9 140 RX9 yX9_isWork wsX9_isWork) := goodIn_app (goodIn_of _ (by decide +kernel)) ggX9_crew_X9_isWork
set_option maxRecDepth 20000 in
theorem ggX9_crew_X9_isSign : GoodIn wsX9_crew wsX9_isSign := goodIn_r _ [14, 1, 15, 97, 98, 99, 100, 101, 102, 103, 104, 105, 106, 107, 108, 109, 110, 111, 112, 113, 114, 115, 116, 117, 118, 119, 120, 121] (by decide +kernel) (by decide +kernel)
set_option maxRecDepth 20000 in
theorem gX9_crew_X9_isSign : GoodIn wsX9_crew (wsV RX9 144 RX9 yX9_isSign wsX9_isSign) := goodIn_app (goodIn_of _ (by decide +kernel)) ggX9_crew_X9_isSign
set_option maxRecDepth 20000 in
theorem ggX9_crew_X3_chanceFrom : GoodIn wsX9_crew wsX3_chanceFrom := goodIn_r _ [20, 21, 22, 23, 111, 112, 113, 114, 115, 116, 117, 118, 119, 120, 121] (by decide +kernel) (by decide +kernel)
set_option maxRecDepth 20000 in
theorem gX9_crew_X3_chanceFrom : GoodIn wsX9_crew (wsV RX9 227 RX3 yX3_chanceFrom wsX3_chanceFrom) := goodIn_app (goodIn_of _ (by decide +kernel)) ggX9_crew_X3_chanceFrom
set_option maxRecDepth 20000 in
theorem ggX9_crew_X5_settle : GoodIn wsX9_crew wsX5_settle := goodIn_r _ [28, 29, 30, 31, 32, 27, 33, 34, 35, 36, 37, 38, 39, 17, 18, 19, 20, 21, 22, 23, 40, 41, 42, 43, 44, 45, 46, 47, 48, 49, 50, 51, 52, 53, 54, 55, 56, 57, 58, 59, 60, 61, 62, 63, 64, 65, 111, 112, 113, 114, 115, 116, 117, 118, 119, 120, 121, 122, 123, 124, 125, 126] (by decide +kernel) (by decide +kernel)
set_option maxRecDepth 20000 in
theorem gX9_crew_X5_settle : GoodIn wsX9_crew (wsV RX9 223 RX5 yX5_settle wsX5_settle) := goodIn_app (goodIn_of _ (by decide +kernel)) ggX9_crew_X5_settle
set_option maxRecDepth 20000 in
theorem ggX9_crew_X5_meanInto : GoodIn wsX9_crew wsX5_meanInto := goodIn_r _ [69, 70, 35, 34, 71, 72, 73, 48, 49, 19, 50, 51, 52, 53, 54, 55, 56, 57, 74, 75, 76, 77, 78, 79, 80, 81, 82, 83, 84, 85, 86, 87, 88, 89, 90, 91, 92, 93, 94, 95, 96, 111, 112, 113, 114, 115, 116, 117, 118, 119, 120, 121, 122, 123, 124, 125, 126, 127, 128] (by decide +kernel) (by decide +kernel)
set_option maxRecDepth 20000 in
theorem gX9_crew_X5_meanInto : GoodIn wsX9_crew (wsV RX9 231 RX5 yX5_meanInto wsX5_meanInto) := goodIn_app (goodIn_of _ (by decide +kernel)) ggX9_crew_X5_meanInto
theorem dX9_crew_0 : decode cX9_crew 0 = .ok (.aload_n 0, 1) := by decide +kernel
theorem dX9_crew_1 : decode cX9_crew 1 = .ok (.iload_n 1, 1) := by decide +kernel
theorem dX9_crew_2 : decode cX9_crew 2 = .ok (.invokevirtual 140, 3) := by decide +kernel
theorem dX9_crew_5 : decode cX9_crew 5 = .ok (.ifCond .eq 11, 3) := by decide +kernel
theorem dX9_crew_8 : decode cX9_crew 8 = .ok (.aload_n 0, 1) := by decide +kernel
theorem dX9_crew_9 : decode cX9_crew 9 = .ok (.iload_n 2, 1) := by decide +kernel
theorem dX9_crew_10 : decode cX9_crew 10 = .ok (.invokevirtual 144, 3) := by decide +kernel
theorem dX9_crew_13 : decode cX9_crew 13 = .ok (.ifCond .ne 6, 3) := by decide +kernel
theorem dX9_crew_16 : decode cX9_crew 16 = .ok (.bipush (-2), 2) := by decide +kernel
theorem dX9_crew_18 : decode cX9_crew 18 = .ok (.ireturn, 1) := by decide +kernel
theorem dX9_crew_19 : decode cX9_crew 19 = .ok (.aload_n 0, 1) := by decide +kernel
theorem dX9_crew_20 : decode cX9_crew 20 = .ok (.getfield 19, 3) := by decide +kernel
theorem dX9_crew_23 : decode cX9_crew 23 = .ok (.iload_n 1, 1) := by decide +kernel
theorem dX9_crew_24 : decode cX9_crew 24 = .ok (.iload_n 2, 1) := by decide +kernel
theorem dX9_crew_25 : decode cX9_crew 25 = .ok (.invokevirtual 227, 3) := by decide +kernel
theorem dX9_crew_28 : decode cX9_crew 28 = .ok (.istore_n 3, 1) := by decide +kernel
theorem dX9_crew_29 : decode cX9_crew 29 = .ok (.aload_n 0, 1) := by decide +kernel
theorem dX9_crew_30 : decode cX9_crew 30 = .ok (.getfield 19, 3) := by decide +kernel
theorem dX9_crew_33 : decode cX9_crew 33 = .ok (.getfield 127, 3) := by decide +kernel
theorem dX9_crew_36 : decode cX9_crew 36 = .ok (.aload_n 0, 1) := by decide +kernel
theorem dX9_crew_37 : decode cX9_crew 37 = .ok (.getfield 19, 3) := by decide +kernel
theorem dX9_crew_40 : decode cX9_crew 40 = .ok (.getfield 127, 3) := by decide +kernel
theorem dX9_crew_43 : decode cX9_crew 43 = .ok (.imul, 1) := by decide +kernel
theorem dX9_crew_44 : decode cX9_crew 44 = .ok (.istore 4, 2) := by decide +kernel
theorem dX9_crew_46 : decode cX9_crew 46 = .ok (.aload_n 0, 1) := by decide +kernel
theorem dX9_crew_47 : decode cX9_crew 47 = .ok (.getfield 61, 3) := by decide +kernel
theorem dX9_crew_50 : decode cX9_crew 50 = .ok (.aload_n 0, 1) := by decide +kernel
theorem dX9_crew_51 : decode cX9_crew 51 = .ok (.getfield 19, 3) := by decide +kernel
theorem dX9_crew_54 : decode cX9_crew 54 = .ok (.iload_n 1, 1) := by decide +kernel
theorem dX9_crew_55 : decode cX9_crew 55 = .ok (.iload_n 2, 1) := by decide +kernel
theorem dX9_crew_56 : decode cX9_crew 56 = .ok (.iload_n 3, 1) := by decide +kernel
theorem dX9_crew_57 : decode cX9_crew 57 = .ok (.iload 4, 2) := by decide +kernel
theorem dX9_crew_59 : decode cX9_crew 59 = .ok (.invokevirtual 223, 3) := by decide +kernel
theorem dX9_crew_62 : decode cX9_crew 62 = .ok (.ifCond .ne 5, 3) := by decide +kernel
theorem dX9_crew_65 : decode cX9_crew 65 = .ok (.iconst (-1), 1) := by decide +kernel
theorem dX9_crew_66 : decode cX9_crew 66 = .ok (.ireturn, 1) := by decide +kernel
theorem dX9_crew_67 : decode cX9_crew 67 = .ok (.aload_n 0, 1) := by decide +kernel
theorem dX9_crew_68 : decode cX9_crew 68 = .ok (.getfield 61, 3) := by decide +kernel
theorem dX9_crew_71 : decode cX9_crew 71 = .ok (.aload_n 0, 1) := by decide +kernel
theorem dX9_crew_72 : decode cX9_crew 72 = .ok (.getfield 30, 3) := by decide +kernel
theorem dX9_crew_75 : decode cX9_crew 75 = .ok (.aload_n 0, 1) := by decide +kernel
theorem dX9_crew_76 : decode cX9_crew 76 = .ok (.getfield 19, 3) := by decide +kernel
theorem dX9_crew_79 : decode cX9_crew 79 = .ok (.iload_n 3, 1) := by decide +kernel
theorem dX9_crew_80 : decode cX9_crew 80 = .ok (.iload_n 3, 1) := by decide +kernel
theorem dX9_crew_81 : decode cX9_crew 81 = .ok (.imul, 1) := by decide +kernel
theorem dX9_crew_82 : decode cX9_crew 82 = .ok (.iload 4, 2) := by decide +kernel
theorem dX9_crew_84 : decode cX9_crew 84 = .ok (.invokevirtual 231, 3) := by decide +kernel
theorem dX9_crew_87 : decode cX9_crew 87 = .ok (.iconst 1, 1) := by decide +kernel
theorem dX9_crew_88 : decode cX9_crew 88 = .ok (.ireturn, 1) := by decide +kernel
set_option maxRecDepth 20000 in
theorem ggX9_watch_X9_isWork : GoodIn wsX9_watch wsX9_isWork := goodIn_r _ [11, 1, 12, 99, 100, 101, 102, 103, 104, 105, 106, 107, 108, 109, 110, 111, 112, 113, 114, 115, 116, 117, 118, 119, 120, 121, 122, 123] (by decide +kernel) (by decide +kernel)
set_option maxRecDepth 20000 in
theorem gX9_watch_X9_isWork : GoodIn wsX9_watch (wsV RX9 140 RX9 yX9_isWork wsX9_isWork) := goodIn_app (goodIn_of _ (by decide +kernel)) ggX9_watch_X9_isWork
set_option maxRecDepth 20000 in
theorem ggX9_watch_X5_settleWatched : GoodIn wsX9_watch wsX5_settleWatched := goodIn_r _ [17, 18, 19, 20, 21, 22, 16, 23, 24, 25, 26, 27, 28, 29, 30, 31, 32, 33, 34, 35, 36, 37, 38, 39, 40, 41, 42, 43, 44, 45, 46, 47, 48, 49, 50, 51, 52, 53, 54, 55, 113, 114, 115, 116, 117, 118, 119, 120, 121, 122, 123, 124, 125, 126, 127, 128] (by decide +kernel) (by decide +kernel)
set_option maxRecDepth 20000 in
theorem gX9_watch_X5_settleWatched : GoodIn wsX9_watch (wsV RX9 239 RX5 yX5_settleWatched wsX5_settleWatched) := goodIn_app (goodIn_of _ (by decide +kernel)) ggX9_watch_X5_settleWatched
set_option maxRecDepth 20000 in
theorem ggX9_watch_X5_meanInto : GoodIn wsX9_watch wsX5_meanInto := goodIn_r _ [59, 60, 25, 24, 61, 62, 63, 38, 39, 32, 40, 41, 42, 43, 44, 45, 46, 47, 64, 65, 66, 67, 68, 69, 70, 71, 72, 73, 74, 75, 76, 77, 78, 79, 80, 81, 82, 83, 84, 85, 86, 113, 114, 115, 116, 117, 118, 119, 120, 121, 122, 123, 124, 125, 126, 127, 128, 129, 130] (by decide +kernel) (by decide +kernel)
set_option maxRecDepth 20000 in
theorem gX9_watch_X5_meanInto : GoodIn wsX9_watch (wsV RX9 231 RX5 yX5_meanInto wsX5_meanInto) := goodIn_app (goodIn_of _ (by decide +kernel)) ggX9_watch_X5_meanInto
set_option maxRecDepth 20000 in
theorem ggX9_watch_X2_add : GoodIn wsX9_watch wsX2_add := goodIn_r _ [90, 76, 77, 91, 69, 70, 71, 72, 73, 74, 45, 75, 78, 79, 80, 81, 82, 83, 84, 85, 129, 130] (by decide +kernel) (by decide +kernel)
set_option maxRecDepth 20000 in
theorem gX9_watch_X2_add : GoodIn wsX9_watch (wsV RX9 242 RX2 yX2_add wsX2_add) := goodIn_app (goodIn_of _ (by decide +kernel)) ggX9_watch_X2_add
set_option maxRecDepth 20000 in
theorem ggX9_watch_X2_isBelow : GoodIn wsX9_watch wsX2_isBelow := goodIn_r _ [94, 76, 77, 129, 130] (by decide +kernel) (by decide +kernel)
set_option maxRecDepth 20000 in
theorem gX9_watch_X2_isBelow : GoodIn wsX9_watch (va_wsS RX9 235 yX2_isBelow wsX2_isBelow) := goodIn_app (goodIn_of _ (by decide +kernel)) ggX9_watch_X2_isBelow
set_option maxRecDepth 20000 in
theorem ggX9_watch_X2_copy : GoodIn wsX9_watch wsX2_copy := goodIn_r _ [98, 76, 77, 129, 130] (by decide +kernel) (by decide +kernel)
set_option maxRecDepth 20000 in
theorem gX9_watch_X2_copy : GoodIn wsX9_watch (wsV RX9 202 RX2 yX2_copy wsX2_copy) := goodIn_app (goodIn_of _ (by decide +kernel)) ggX9_watch_X2_copy
theorem dX9_watch_0 : decode cX9_watch 0 = .ok (.aload_n 0, 1) := by decide +kernel
theorem dX9_watch_1 : decode cX9_watch 1 = .ok (.iload_n 1, 1) := by decide +kernel
theorem dX9_watch_2 : decode cX9_watch 2 = .ok (.invokevirtual 140, 3) := by decide +kernel
theorem dX9_watch_5 : decode cX9_watch 5 = .ok (.ifCond .eq 14, 3) := by decide +kernel
theorem dX9_watch_8 : decode cX9_watch 8 = .ok (.iload_n 2, 1) := by decide +kernel
theorem dX9_watch_9 : decode cX9_watch 9 = .ok (.ifCond .lt 10, 3) := by decide +kernel
theorem dX9_watch_12 : decode cX9_watch 12 = .ok (.iload_n 2, 1) := by decide +kernel
theorem dX9_watch_13 : decode cX9_watch 13 = .ok (.sipush 9999, 3) := by decide +kernel
theorem dX9_watch_16 : decode cX9_watch 16 = .ok (.if_icmp .le 6, 3) := by decide +kernel
theorem dX9_watch_19 : decode cX9_watch 19 = .ok (.bipush (-2), 2) := by decide +kernel
theorem dX9_watch_21 : decode cX9_watch 21 = .ok (.ireturn, 1) := by decide +kernel
theorem dX9_watch_22 : decode cX9_watch 22 = .ok (.iconst (-1), 1) := by decide +kernel
theorem dX9_watch_23 : decode cX9_watch 23 = .ok (.istore_n 3, 1) := by decide +kernel
theorem dX9_watch_24 : decode cX9_watch 24 = .ok (.iconst 0, 1) := by decide +kernel
theorem dX9_watch_25 : decode cX9_watch 25 = .ok (.istore 4, 2) := by decide +kernel
theorem dX9_watch_27 : decode cX9_watch 27 = .ok (.iload 4, 2) := by decide +kernel
theorem dX9_watch_29 : decode cX9_watch 29 = .ok (.aload_n 0, 1) := by decide +kernel
theorem dX9_watch_30 : decode cX9_watch 30 = .ok (.getfield 19, 3) := by decide +kernel
theorem dX9_watch_33 : decode cX9_watch 33 = .ok (.getfield 127, 3) := by decide +kernel
theorem dX9_watch_36 : decode cX9_watch 36 = .ok (.if_icmp .gt 112, 3) := by decide +kernel
theorem dX9_watch_39 : decode cX9_watch 39 = .ok (.aload_n 0, 1) := by decide +kernel
theorem dX9_watch_40 : decode cX9_watch 40 = .ok (.getfield 61, 3) := by decide +kernel
theorem dX9_watch_43 : decode cX9_watch 43 = .ok (.aload_n 0, 1) := by decide +kernel
theorem dX9_watch_44 : decode cX9_watch 44 = .ok (.getfield 19, 3) := by decide +kernel
theorem dX9_watch_47 : decode cX9_watch 47 = .ok (.iload_n 1, 1) := by decide +kernel
theorem dX9_watch_48 : decode cX9_watch 48 = .ok (.iload 4, 2) := by decide +kernel
theorem dX9_watch_50 : decode cX9_watch 50 = .ok (.invokevirtual 239, 3) := by decide +kernel
theorem dX9_watch_53 : decode cX9_watch 53 = .ok (.ifCond .ne 6, 3) := by decide +kernel
theorem dX9_watch_56 : decode cX9_watch 56 = .ok (.goto 86, 3) := by decide +kernel
theorem dX9_watch_59 : decode cX9_watch 59 = .ok (.aload_n 0, 1) := by decide +kernel
theorem dX9_watch_60 : decode cX9_watch 60 = .ok (.getfield 61, 3) := by decide +kernel
theorem dX9_watch_63 : decode cX9_watch 63 = .ok (.aload_n 0, 1) := by decide +kernel
theorem dX9_watch_64 : decode cX9_watch 64 = .ok (.getfield 34, 3) := by decide +kernel
theorem dX9_watch_67 : decode cX9_watch 67 = .ok (.aload_n 0, 1) := by decide +kernel
theorem dX9_watch_68 : decode cX9_watch 68 = .ok (.getfield 19, 3) := by decide +kernel
theorem dX9_watch_71 : decode cX9_watch 71 = .ok (.aload_n 0, 1) := by decide +kernel
theorem dX9_watch_72 : decode cX9_watch 72 = .ok (.getfield 19, 3) := by decide +kernel
theorem dX9_watch_75 : decode cX9_watch 75 = .ok (.getfield 127, 3) := by decide +kernel
theorem dX9_watch_78 : decode cX9_watch 78 = .ok (.aload_n 0, 1) := by decide +kernel
theorem dX9_watch_79 : decode cX9_watch 79 = .ok (.getfield 19, 3) := by decide +kernel
theorem dX9_watch_82 : decode cX9_watch 82 = .ok (.getfield 127, 3) := by decide +kernel
theorem dX9_watch_85 : decode cX9_watch 85 = .ok (.invokevirtual 231, 3) := by decide +kernel
theorem dX9_watch_88 : decode cX9_watch 88 = .ok (.aload_n 0, 1) := by decide +kernel
theorem dX9_watch_89 : decode cX9_watch 89 = .ok (.getfield 34, 3) := by decide +kernel
theorem dX9_watch_92 : decode cX9_watch 92 = .ok (.iload 4, 2) := by decide +kernel
theorem dX9_watch_94 : decode cX9_watch 94 = .ok (.i2l, 1) := by decide +kernel
theorem dX9_watch_95 : decode cX9_watch 95 = .ok (.iload_n 2, 1) := by decide +kernel
theorem dX9_watch_96 : decode cX9_watch 96 = .ok (.i2l, 1) := by decide +kernel
theorem dX9_watch_97 : decode cX9_watch 97 = .ok (.lmul, 1) := by decide +kernel
theorem dX9_watch_98 : decode cX9_watch 98 = .ok (.aload_n 0, 1) := by decide +kernel
theorem dX9_watch_99 : decode cX9_watch 99 = .ok (.getfield 19, 3) := by decide +kernel
theorem dX9_watch_102 : decode cX9_watch 102 = .ok (.getfield 127, 3) := by decide +kernel
theorem dX9_watch_105 : decode cX9_watch 105 = .ok (.i2l, 1) := by decide +kernel
theorem dX9_watch_106 : decode cX9_watch 106 = .ok (.invokevirtual 242, 3) := by decide +kernel
theorem dX9_watch_109 : decode cX9_watch 109 = .ok (.iload_n 3, 1) := by decide +kernel
theorem dX9_watch_110 : decode cX9_watch 110 = .ok (.iconst (-1), 1) := by decide +kernel
theorem dX9_watch_111 : decode cX9_watch 111 = .ok (.if_icmp .eq 17, 3) := by decide +kernel
theorem dX9_watch_114 : decode cX9_watch 114 = .ok (.aload_n 0, 1) := by decide +kernel
theorem dX9_watch_115 : decode cX9_watch 115 = .ok (.getfield 34, 3) := by decide +kernel
theorem dX9_watch_118 : decode cX9_watch 118 = .ok (.aload_n 0, 1) := by decide +kernel
theorem dX9_watch_119 : decode cX9_watch 119 = .ok (.getfield 37, 3) := by decide +kernel
theorem dX9_watch_122 : decode cX9_watch 122 = .ok (.invokestatic 235, 3) := by decide +kernel
theorem dX9_watch_125 : decode cX9_watch 125 = .ok (.ifCond .eq 17, 3) := by decide +kernel
theorem dX9_watch_128 : decode cX9_watch 128 = .ok (.aload_n 0, 1) := by decide +kernel
theorem dX9_watch_129 : decode cX9_watch 129 = .ok (.getfield 37, 3) := by decide +kernel
theorem dX9_watch_132 : decode cX9_watch 132 = .ok (.aload_n 0, 1) := by decide +kernel
theorem dX9_watch_133 : decode cX9_watch 133 = .ok (.getfield 34, 3) := by decide +kernel
theorem dX9_watch_136 : decode cX9_watch 136 = .ok (.invokevirtual 202, 3) := by decide +kernel
theorem dX9_watch_139 : decode cX9_watch 139 = .ok (.iload 4, 2) := by decide +kernel
theorem dX9_watch_141 : decode cX9_watch 141 = .ok (.istore_n 3, 1) := by decide +kernel
theorem dX9_watch_142 : decode cX9_watch 142 = .ok (.iinc 4 1, 3) := by decide +kernel
theorem dX9_watch_145 : decode cX9_watch 145 = .ok (.goto (-118), 3) := by decide +kernel
theorem dX9_watch_148 : decode cX9_watch 148 = .ok (.iload_n 3, 1) := by decide +kernel
theorem dX9_watch_149 : decode cX9_watch 149 = .ok (.iconst (-1), 1) := by decide +kernel
theorem dX9_watch_150 : decode cX9_watch 150 = .ok (.if_icmp .eq 14, 3) := by decide +kernel
theorem dX9_watch_153 : decode cX9_watch 153 = .ok (.aload_n 0, 1) := by decide +kernel
theorem dX9_watch_154 : decode cX9_watch 154 = .ok (.getfield 30, 3) := by decide +kernel
theorem dX9_watch_157 : decode cX9_watch 157 = .ok (.aload_n 0, 1) := by decide +kernel
theorem dX9_watch_158 : decode cX9_watch 158 = .ok (.getfield 37, 3) := by decide +kernel
theorem dX9_watch_161 : decode cX9_watch 161 = .ok (.invokevirtual 202, 3) := by decide +kernel
theorem dX9_watch_164 : decode cX9_watch 164 = .ok (.iload_n 3, 1) := by decide +kernel
theorem dX9_watch_165 : decode cX9_watch 165 = .ok (.ireturn, 1) := by decide +kernel
theorem kk_X9_merged_0 : Cond.fieldLink RX9 54 "PaidBySigns" "cheapest" "LPaidBySigns$LeastCost;" ∈ wsX9_merged := by decide +kernel
theorem kk_X9_merged_1 : Cond.fieldLink RX9 19 "PaidBySigns" "hire" "LPaidBySigns$Hire;" ∈ wsX9_merged := by decide +kernel
theorem kk_X9_merged_2 : Cond.fieldLink RX9 30 "PaidBySigns" "latest" "LPaidBySigns$Fraction;" ∈ wsX9_merged := by decide +kernel
theorem kk_X9_coins_0 : Cond.fieldLink RX9 68 "PaidBySigns" "coinSearch" "LPaidBySigns$CoinSearch;" ∈ wsX9_coins := by decide +kernel
theorem kk_X9_coins_1 : Cond.fieldLink RX9 19 "PaidBySigns" "hire" "LPaidBySigns$Hire;" ∈ wsX9_coins := by decide +kernel
theorem kk_X9_coins_2 : Cond.fieldLink RX9 30 "PaidBySigns" "latest" "LPaidBySigns$Fraction;" ∈ wsX9_coins := by decide +kernel
theorem kk_X9_coins_3 : Cond.fieldLink RX9 217 "PaidBySigns$CoinSearch" "bestCost" "I" ∈ wsX9_coins := by decide +kernel
theorem kk_X9_coins_4 : Cond.fieldLink RX9 127 "PaidBySigns$Hire" "whole" "I" ∈ wsX9_coins := by decide +kernel
theorem kk_X9_coins_5 : Cond.fieldLink RX9 101 "PaidBySigns$Hire" "least" "I" ∈ wsX9_coins := by decide +kernel
theorem kk_X9_coins_6 : Cond.fieldLink RX9 124 "PaidBySigns$Hire" "signs" "I" ∈ wsX9_coins := by decide +kernel
theorem kk_X9_coins_7 : Cond.fieldLink RX9 47 "PaidBySigns" "hasWages" "Z" ∈ wsX9_coins := by decide +kernel
theorem kk_X9_coins_8 : Cond.fieldLink RX9 40 "PaidBySigns" "wageUpper" "[J" ∈ wsX9_coins := by decide +kernel
theorem kk_X9_coins_9 : Cond.fieldLink RX9 220 "PaidBySigns$CoinSearch" "chosen" "[I" ∈ wsX9_coins := by decide +kernel
theorem kk_X9_coins_10 : Cond.fieldLink RX9 44 "PaidBySigns" "wageLower" "[J" ∈ wsX9_coins := by decide +kernel
theorem kk_X9_bar_0 : Cond.fieldLink RX9 19 "PaidBySigns" "hire" "LPaidBySigns$Hire;" ∈ wsX9_bar := by decide +kernel
theorem kk_X9_bar_1 : Cond.fieldLink RX9 124 "PaidBySigns$Hire" "signs" "I" ∈ wsX9_bar := by decide +kernel
theorem kk_X9_bar_2 : Cond.fieldLink RX9 61 "PaidBySigns" "oneSum" "LPaidBySigns$OneSum;" ∈ wsX9_bar := by decide +kernel
theorem kk_X9_bar_3 : Cond.fieldLink RX9 127 "PaidBySigns$Hire" "whole" "I" ∈ wsX9_bar := by decide +kernel
theorem kk_X9_bar_4 : Cond.fieldLink RX9 34 "PaidBySigns" "trial" "LPaidBySigns$Fraction;" ∈ wsX9_bar := by decide +kernel
theorem kk_X9_bar_5 : Cond.fieldLink RX9 37 "PaidBySigns" "champion" "LPaidBySigns$Fraction;" ∈ wsX9_bar := by decide +kernel
theorem kk_X9_bar_6 : Cond.fieldLink RX9 30 "PaidBySigns" "latest" "LPaidBySigns$Fraction;" ∈ wsX9_bar := by decide +kernel
theorem kk_X9_crew_0 : Cond.fieldLink RX9 19 "PaidBySigns" "hire" "LPaidBySigns$Hire;" ∈ wsX9_crew := by decide +kernel
theorem kk_X9_crew_1 : Cond.fieldLink RX9 127 "PaidBySigns$Hire" "whole" "I" ∈ wsX9_crew := by decide +kernel
theorem kk_X9_crew_2 : Cond.fieldLink RX9 61 "PaidBySigns" "oneSum" "LPaidBySigns$OneSum;" ∈ wsX9_crew := by decide +kernel
theorem kk_X9_crew_3 : Cond.fieldLink RX9 30 "PaidBySigns" "latest" "LPaidBySigns$Fraction;" ∈ wsX9_crew := by decide +kernel
theorem kk_X9_watch_0 : Cond.fieldLink RX9 19 "PaidBySigns" "hire" "LPaidBySigns$Hire;" ∈ wsX9_watch := by decide +kernel
theorem kk_X9_watch_1 : Cond.fieldLink RX9 127 "PaidBySigns$Hire" "whole" "I" ∈ wsX9_watch := by decide +kernel
theorem kk_X9_watch_2 : Cond.fieldLink RX9 61 "PaidBySigns" "oneSum" "LPaidBySigns$OneSum;" ∈ wsX9_watch := by decide +kernel
theorem kk_X9_watch_3 : Cond.fieldLink RX9 34 "PaidBySigns" "trial" "LPaidBySigns$Fraction;" ∈ wsX9_watch := by decide +kernel
theorem kk_X9_watch_4 : Cond.fieldLink RX9 37 "PaidBySigns" "champion" "LPaidBySigns$Fraction;" ∈ wsX9_watch := by decide +kernel
theorem kk_X9_watch_5 : Cond.fieldLink RX9 30 "PaidBySigns" "latest" "LPaidBySigns$Fraction;" ∈ wsX9_watch := by decide +kernel
theorem iw_X9_merged_X9 : ∀ w ∈ wsX90, w ∈ wsX9_merged := by decide +kernel
theorem iw_X9_coins_X9 : ∀ w ∈ wsX90, w ∈ wsX9_coins := by decide +kernel
theorem iw_X9_coins_X0 : ∀ w ∈ wsX00, w ∈ wsX9_coins := by decide +kernel
theorem iw_X9_coins_X3 : ∀ w ∈ wsX30, w ∈ wsX9_coins := by decide +kernel
theorem iw_X9_bar_X9 : ∀ w ∈ wsX90, w ∈ wsX9_bar := by decide +kernel
theorem iw_X9_bar_X3 : ∀ w ∈ wsX30, w ∈ wsX9_bar := by decide +kernel
theorem iw_X9_crew_X9 : ∀ w ∈ wsX90, w ∈ wsX9_crew := by decide +kernel
theorem iw_X9_crew_X3 : ∀ w ∈ wsX30, w ∈ wsX9_crew := by decide +kernel
theorem iw_X9_watch_X9 : ∀ w ∈ wsX90, w ∈ wsX9_watch := by decide +kernel
theorem iw_X9_watch_X3 : ∀ w ∈ wsX30, w ∈ wsX9_watch := by decide +kernel
