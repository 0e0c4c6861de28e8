abbrev cX9_merged : ByteArray := prog_1_method_20_code
def yX9_merged : MethodName := ⟨RX9, "merged", "(III)I"⟩
abbrev cX9_coins : ByteArray := prog_1_method_21_code
def yX9_coins : MethodName := ⟨RX9, "coins", "(II)I"⟩
abbrev cX9_bar : ByteArray := prog_1_method_22_code
def yX9_bar : MethodName := ⟨RX9, "bar", "(I)I"⟩
abbrev cX9_crew : ByteArray := prog_1_method_23_code
def yX9_crew : MethodName := ⟨RX9, "crew", "(II)I"⟩
abbrev cX9_watch : ByteArray := prog_1_method_24_code
def yX9_watch : MethodName := ⟨RX9, "watch", "(II)I"⟩
def wsX9_merged_r1 : List Cond := [Cond.fieldLink RX9 54 "PaidBySigns" "cheapest" "LPaidBySigns$LeastCost;", Cond.fieldLink RX9 19 "PaidBySigns" "hire" "LPaidBySigns$Hire;", Cond.fieldLink RX9 30 "PaidBySigns" "latest" "LPaidBySigns$Fraction;", Cond.methodLink RX9 140 yX9_isWork, Cond.instanceMethod yX9_isWork, Cond.selects RX9 yX9_isWork yX9_isWork, Cond.initialized RX9, Cond.code yX9_isWork cX9_isWork 2 (some .boolean), Cond.fieldLink RX9 115 "PaidBySigns$Hire" "works" "I", Cond.methodLink RX9 205 yX9_isPair, Cond.instanceMethod yX9_isPair, Cond.selects RX9 yX9_isPair yX9_isPair, Cond.code yX9_isPair cX9_isPair 3 (some .boolean), Cond.methodLink RX9 144 yX9_isSign, Cond.instanceMethod yX9_isSign, Cond.selects RX9 yX9_isSign yX9_isSign, Cond.code yX9_isSign cX9_isSign 2 (some .boolean), Cond.fieldLink RX9 124 "PaidBySigns$Hire" "signs" "I", Cond.methodLink RX9 209 yX4_findMerged, Cond.instanceMethod yX4_findMerged, Cond.selects RX4 yX4_findMerged yX4_findMerged, Cond.initialized RX4, Cond.code yX4_findMerged cX4_findMerged 5 (some .boolean), Cond.methodLink RX4 59 yX4_find]
def wsX9_merged_r2 : List Cond := [Cond.instanceMethod yX4_find, Cond.selects RX4 yX4_find yX4_find, Cond.code yX4_find cX4_find 6 (some .boolean), Cond.fieldLink RX4 46 "PaidBySigns$LeastCost" "hire" "LPaidBySigns$Hire;", Cond.fieldLink RX4 50 "PaidBySigns$LeastCost" "work" "I", Cond.fieldLink RX4 53 "PaidBySigns$LeastCost" "keptSign" "I", Cond.fieldLink RX4 56 "PaidBySigns$LeastCost" "joinedSign" "I", Cond.fieldLink RX4 22 "PaidBySigns$LeastCost" "table" "LPaidBySigns$Table;", Cond.fieldLink RX4 88 "PaidBySigns$Hire" "works" "I", Cond.fieldLink RX4 40 "PaidBySigns$LeastCost" "rooms" "I", Cond.fieldLink RX4 36 "PaidBySigns$LeastCost" "columns" "I", Cond.methodLink RX4 85 yX4_listColumns, Cond.instanceMethod yX4_listColumns, Cond.selects RX4 yX4_listColumns yX4_listColumns, Cond.code yX4_listColumns cX4_listColumns 2 none, Cond.fieldLink RX4 63 "PaidBySigns$Hire" "signs" "I", Cond.methodLink RX4 66 yX4_chanceOf, Cond.instanceMethod yX4_chanceOf, Cond.selects RX4 yX4_chanceOf yX4_chanceOf, Cond.code yX4_chanceOf cX4_chanceOf 3 (some .int), Cond.fieldLink RX4 112 "PaidBySigns$Hire" "chances" "[[I", Cond.methodLink RX4 116 yX4_listSteps, Cond.instanceMethod yX4_listSteps, Cond.selects RX4 yX4_listSteps yX4_listSteps]
def wsX9_merged_r3 : List Cond := [Cond.code yX4_listSteps cX4_listSteps 5 none, Cond.fieldLink RX4 79 "PaidBySigns$Hire" "least" "I", Cond.fieldLink RX4 119 "PaidBySigns$Hire" "rates" "I", Cond.fieldLink RX4 122 "PaidBySigns$Hire" "mark" "[I", Cond.fieldLink RX4 26 "PaidBySigns$LeastCost" "columnSign" "[I", Cond.fieldLink RX4 30 "PaidBySigns$LeastCost" "columnRate" "[I", Cond.fieldLink RX4 125 "PaidBySigns$Hire" "rate" "[I", Cond.fieldLink RX4 33 "PaidBySigns$LeastCost" "columnRoom" "[I", Cond.methodLink RX4 91 yX8_start, Cond.instanceMethod yX8_start, Cond.selects RX8 yX8_start yX8_start, Cond.initialized RX8, Cond.code yX8_start cX8_start 5 none, Cond.methodLink RX8 23 Lib.Math.min.name, Cond.static Lib.Math.min.name, Cond.initialized "java/lang/Math", Cond.code Lib.Math.min.name Lib.Math.min.code 2 (some .int), Cond.fieldLink RX8 29 "PaidBySigns$Table" "goals" "I", Cond.fieldLink RX8 33 "PaidBySigns$Table" "lines" "I", Cond.fieldLink RX8 36 "PaidBySigns$Table" "columns" "I", Cond.fieldLink RX8 39 "PaidBySigns$Table" "base" "J", Cond.fieldLink RX8 13 "PaidBySigns$Table" "entry" "[[J", Cond.fieldLink RX8 16 "PaidBySigns$Table" "lineName" "[I", Cond.fieldLink RX8 20 "PaidBySigns$Table" "columnName" "[I"]
def wsX9_merged_r4 : List Cond := [Cond.methodLink RX8 43 yJ7_fill_d0a16, Cond.static yJ7_fill_d0a16, Cond.initialized RJ7, Cond.code yJ7_fill_d0a16 cJ7_fill_d0a16 5 none, Cond.methodLink RX4 95 yX4_fillGoals, Cond.instanceMethod yX4_fillGoals, Cond.selects RX4 yX4_fillGoals yX4_fillGoals, Cond.code yX4_fillGoals cX4_fillGoals 5 none, Cond.fieldLink RX4 132 "PaidBySigns$Table" "entry" "[[J", Cond.methodLink RX4 128 yX4_partsOf, Cond.instanceMethod yX4_partsOf, Cond.selects RX4 yX4_partsOf yX4_partsOf, Cond.code yX4_partsOf cX4_partsOf 2 (some .int), Cond.methodLink RX4 99 yX4_fillLines, Cond.instanceMethod yX4_fillLines, Cond.selects RX4 yX4_fillLines yX4_fillLines, Cond.code yX4_fillLines cX4_fillLines 6 none, Cond.fieldLink RX4 70 "PaidBySigns$Hire" "whole" "I", Cond.methodLink RX4 136 yX3_lackOf, Cond.instanceMethod yX3_lackOf, Cond.selects RX3 yX3_lackOf yX3_lackOf, Cond.initialized RX3, Cond.code yX3_lackOf cX3_lackOf 3 (some .int), Cond.fieldLink RX3 15 "PaidBySigns$Hire" "costs" "[I"]
def wsX9_merged_r5 : List Cond := [Cond.fieldLink RX3 42 "PaidBySigns$Hire" "otherwise" "I", Cond.fieldLink RX3 45 "PaidBySigns$Hire" "least" "I", Cond.methodLink RX3 63 yX3_feltOf, Cond.instanceMethod yX3_feltOf, Cond.selects RX3 yX3_feltOf yX3_feltOf, Cond.code yX3_feltOf cX3_feltOf 6 (some .int), Cond.fieldLink RX3 48 "PaidBySigns$Hire" "rates" "I", Cond.fieldLink RX3 26 "PaidBySigns$Hire" "mark" "[I", Cond.methodLink RX3 51 Lib.Math.min.name, Cond.fieldLink RX3 23 "PaidBySigns$Hire" "rate" "[I", Cond.methodLink RX4 102 yX4_fillRooms, Cond.instanceMethod yX4_fillRooms, Cond.selects RX4 yX4_fillRooms yX4_fillRooms, Cond.code yX4_fillRooms cX4_fillRooms 4 none, Cond.methodLink RX4 105 yX8_solve, Cond.instanceMethod yX8_solve, Cond.selects RX8 yX8_solve yX8_solve, Cond.code yX8_solve cX8_solve 4 (some .boolean), Cond.constant RX8 49 (1000000), Cond.methodLink RX8 50 yX8_lineBelowZero, Cond.instanceMethod yX8_lineBelowZero, Cond.selects RX8 yX8_lineBelowZero yX8_lineBelowZero, Cond.code yX8_lineBelowZero cX8_lineBelowZero 3 (some .int), Cond.methodLink RX8 54 yX8_columnFor]
def wsX9_merged_r6 : List Cond := [Cond.instanceMethod yX8_columnFor, Cond.selects RX8 yX8_columnFor yX8_columnFor, Cond.code yX8_columnFor cX8_columnFor 5 (some .int), Cond.methodLink RX8 62 yX8_compareRatios, Cond.instanceMethod yX8_compareRatios, Cond.selects RX8 yX8_compareRatios yX8_compareRatios, Cond.code yX8_compareRatios cX8_compareRatios 13 (some .int), Cond.methodLink RX8 58 yX8_pivot, Cond.instanceMethod yX8_pivot, Cond.selects RX8 yX8_pivot yX8_pivot, Cond.code yX8_pivot cX8_pivot 7 none, Cond.methodLink RX8 66 yX8_changeLine, Cond.instanceMethod yX8_changeLine, Cond.selects RX8 yX8_changeLine yX8_changeLine, Cond.code yX8_changeLine cX8_changeLine 9 none, Cond.methodLink RX4 109 yX4_readWages, Cond.instanceMethod yX4_readWages, Cond.selects RX4 yX4_readWages yX4_readWages, Cond.code yX4_readWages cX4_readWages 3 none, Cond.fieldLink RX4 9 "PaidBySigns$LeastCost" "above" "[J", Cond.constantLong RX4 145 (60), Cond.fieldLink RX4 147 "PaidBySigns$Table" "base" "J", Cond.fieldLink RX4 15 "PaidBySigns$LeastCost" "aboveLower" "J", Cond.fieldLink RX4 150 "PaidBySigns$Table" "goals" "I"]
def wsX9_merged_r7 : List Cond := [Cond.fieldLink RX4 153 "PaidBySigns$Table" "lines" "I", Cond.fieldLink RX4 156 "PaidBySigns$Table" "lineName" "[I", Cond.methodLink RX4 139 yJ7_fill_d0a16, Cond.methodLink RX9 177 yX4_costInto, Cond.instanceMethod yX4_costInto, Cond.selects RX4 yX4_costInto yX4_costInto, Cond.code yX4_costInto cX4_costInto 5 none, Cond.methodLink RX4 73 yX2_become, Cond.instanceMethod yX2_become, Cond.selects RX2 yX2_become yX2_become, Cond.initialized RX2, Cond.code yX2_become cX2_become 7 none, Cond.methodLink RX2 20 Lib.MathLoose.abs_long.x, Cond.static Lib.MathLoose.abs_long.x, Cond.code Lib.MathLoose.abs_long.x Lib.MathLoose.abs_long.code 2 (some .long), Cond.fieldLink RX2 11 "PaidBySigns$Fraction" "upper" "J", Cond.fieldLink RX2 17 "PaidBySigns$Fraction" "lower" "J", Cond.methodLink RX2 26 yX2_commonPart, Cond.static yX2_commonPart, Cond.code yX2_commonPart cX2_commonPart 11 (some .long), Cond.methodLink RX2 30 yX2_forget, Cond.instanceMethod yX2_forget, Cond.selects RX2 yX2_forget yX2_forget, Cond.code yX2_forget cX2_forget 1 none]
def wsX9_merged_r8 : List Cond := [Cond.constantLong RX2 9 (-2000000000), Cond.methodLink RX4 82 yX2_add, Cond.instanceMethod yX2_add, Cond.selects RX2 yX2_add yX2_add, Cond.code yX2_add cX2_add 5 none, Cond.methodLink RX2 33 yX2_become]
def wsX9_merged : List Cond := .code yX9_merged cX9_merged 4 (some .int) :: ((wsX9_merged_r1 ++ (wsX9_merged_r2 ++ (wsX9_merged_r3 ++ (wsX9_merged_r4 ++ (wsX9_merged_r5 ++ (wsX9_merged_r6 ++ (wsX9_merged_r7 ++ wsX9_merged_r8))))))) ++ wsX90 ++ wsX30 ++ wsX40 ++ wsX80 ++ wsX20)
def wsX9_coins_r1 : List Cond := [Cond.fieldLink RX9 68 "PaidBySigns" "coinSearch" "LPaidBySigns$CoinSearch;", Cond.fieldLink RX9 19 "PaidBySigns" "hire" "LPaidBySigns$Hire;", Cond.fieldLink RX9 30 "PaidBySigns" "latest" "LPaidBySigns$Fraction;", Cond.fieldLink RX9 217 "PaidBySigns$CoinSearch" "bestCost" "I", Cond.fieldLink RX9 127 "PaidBySigns$Hire" "whole" "I", Cond.fieldLink RX9 101 "PaidBySigns$Hire" "least" "I", Cond.fieldLink RX9 124 "PaidBySigns$Hire" "signs" "I", Cond.fieldLink RX9 40 "PaidBySigns" "wageUpper" "[J", Cond.fieldLink RX9 220 "PaidBySigns$CoinSearch" "chosen" "[I", Cond.fieldLink RX9 44 "PaidBySigns" "wageLower" "[J", Cond.fieldLink RX9 47 "PaidBySigns" "hasWages" "Z", Cond.methodLink RX9 140 yX9_isWork, Cond.instanceMethod yX9_isWork, Cond.selects RX9 yX9_isWork yX9_isWork, Cond.initialized RX9, Cond.code yX9_isWork cX9_isWork 2 (some .boolean), Cond.fieldLink RX9 115 "PaidBySigns$Hire" "works" "I", Cond.methodLink RX9 213 yX0_find, Cond.instanceMethod yX0_find, Cond.selects RX0 yX0_find yX0_find, Cond.initialized RX0, Cond.code yX0_find cX0_find 5 (some .boolean), Cond.fieldLink RX0 40 "PaidBySigns$Hire" "signs" "I", Cond.fieldLink RX0 45 "PaidBySigns$CoinSearch" "signs" "I"]
def wsX9_coins_r2 : List Cond := [Cond.fieldLink RX0 46 "PaidBySigns$Hire" "works" "I", Cond.fieldLink RX0 49 "PaidBySigns$CoinSearch" "lines" "I", Cond.methodLink RX0 52 Lib.Math.min.name, Cond.static Lib.Math.min.name, Cond.initialized "java/lang/Math", Cond.code Lib.Math.min.name Lib.Math.min.code 2 (some .int), Cond.fieldLink RX0 58 "PaidBySigns$CoinSearch" "most" "I", Cond.constant RX0 15 (1000000), Cond.fieldLink RX0 16 "PaidBySigns$CoinSearch" "bestCost" "I", Cond.fieldLink RX0 23 "PaidBySigns$CoinSearch" "own" "[I", Cond.fieldLink RX0 69 "PaidBySigns$Hire" "chances" "[[I", Cond.methodLink RX0 61 yX0_fillFelt, Cond.instanceMethod yX0_fillFelt, Cond.selects RX0 yX0_fillFelt yX0_fillFelt, Cond.code yX0_fillFelt cX0_fillFelt 4 none, Cond.fieldLink RX0 76 "PaidBySigns$Hire" "least" "I", Cond.fieldLink RX0 20 "PaidBySigns$CoinSearch" "felt" "[I", Cond.methodLink RX0 79 yX3_feltOf, Cond.instanceMethod yX3_feltOf, Cond.selects RX3 yX3_feltOf yX3_feltOf, Cond.initialized RX3, Cond.code yX3_feltOf cX3_feltOf 6 (some .int), Cond.fieldLink RX3 48 "PaidBySigns$Hire" "rates" "I", Cond.fieldLink RX3 26 "PaidBySigns$Hire" "mark" "[I"]
def wsX9_coins_r3 : List Cond := [Cond.methodLink RX3 51 Lib.Math.min.name, Cond.fieldLink RX3 23 "PaidBySigns$Hire" "rate" "[I", Cond.methodLink RX0 65 yX0_fillLine, Cond.instanceMethod yX0_fillLine, Cond.selects RX0 yX0_fillLine yX0_fillLine, Cond.code yX0_fillLine cX0_fillLine 5 none, Cond.fieldLink RX0 34 "PaidBySigns$CoinSearch" "left" "[[I", Cond.fieldLink RX0 83 "PaidBySigns$Hire" "whole" "I", Cond.fieldLink RX0 31 "PaidBySigns$CoinSearch" "rest" "[[I", Cond.fieldLink RX0 28 "PaidBySigns$CoinSearch" "share" "[[I", Cond.methodLink RX0 89 Lib.Math.max.name, Cond.static Lib.Math.max.name, Cond.code Lib.Math.max.name Lib.Math.max.code 2 (some .int), Cond.methodLink RX0 86 yX3_lackOf, Cond.instanceMethod yX3_lackOf, Cond.selects RX3 yX3_lackOf yX3_lackOf, Cond.code yX3_lackOf cX3_lackOf 3 (some .int), Cond.fieldLink RX3 15 "PaidBySigns$Hire" "costs" "[I", Cond.fieldLink RX3 42 "PaidBySigns$Hire" "otherwise" "I", Cond.fieldLink RX3 45 "PaidBySigns$Hire" "least" "I", Cond.methodLink RX3 63 yX3_feltOf, Cond.methodLink RX0 72 yX0_place, Cond.instanceMethod yX0_place, Cond.selects RX0 yX0_place yX0_place]
def wsX9_coins_r4 : List Cond := [Cond.code yX0_place cX0_place 7 none, Cond.fieldLink RX0 37 "PaidBySigns$CoinSearch" "tried" "[I", Cond.fieldLink RX0 9 "PaidBySigns$CoinSearch" "chosen" "[I", Cond.methodLink RX0 92 arraycopyName, Cond.native arraycopyName, Cond.static arraycopyName, Cond.initialized "java/lang/System", Cond.methodLink RX0 98 yX0_lastCoin, Cond.instanceMethod yX0_lastCoin, Cond.selects RX0 yX0_lastCoin yX0_lastCoin, Cond.code yX0_lastCoin cX0_lastCoin 4 (some .int), Cond.methodLink RX0 108 yX0_isShort, Cond.instanceMethod yX0_isShort, Cond.selects RX0 yX0_isShort yX0_isShort, Cond.code yX0_isShort cX0_isShort 4 (some .boolean), Cond.methodLink RX0 101 yX0_firstCoin, Cond.instanceMethod yX0_firstCoin, Cond.selects RX0 yX0_firstCoin yX0_firstCoin, Cond.code yX0_firstCoin cX0_firstCoin 4 (some .int), Cond.methodLink RX0 104 yX0_canBeCheaper, Cond.instanceMethod yX0_canBeCheaper, Cond.selects RX0 yX0_canBeCheaper yX0_canBeCheaper, Cond.code yX0_canBeCheaper cX0_canBeCheaper 9 (some .boolean), Cond.methodLink RX9 190 yX2_become]
def wsX9_coins_r5 : List Cond := [Cond.instanceMethod yX2_become, Cond.selects RX2 yX2_become yX2_become, Cond.initialized RX2, Cond.code yX2_become cX2_become 7 none, Cond.methodLink RX2 20 Lib.MathLoose.abs_long.x, Cond.static Lib.MathLoose.abs_long.x, Cond.code Lib.MathLoose.abs_long.x Lib.MathLoose.abs_long.code 2 (some .long), Cond.fieldLink RX2 11 "PaidBySigns$Fraction" "upper" "J", Cond.fieldLink RX2 17 "PaidBySigns$Fraction" "lower" "J", Cond.methodLink RX2 26 yX2_commonPart, Cond.static yX2_commonPart, Cond.code yX2_commonPart cX2_commonPart 11 (some .long), Cond.methodLink RX2 30 yX2_forget, Cond.instanceMethod yX2_forget, Cond.selects RX2 yX2_forget yX2_forget, Cond.code yX2_forget cX2_forget 1 none, Cond.constantLong RX2 9 (-2000000000)]
def wsX9_coins : List Cond := .code yX9_coins cX9_coins 4 (some .int) :: ((wsX9_coins_r1 ++ (wsX9_coins_r2 ++ (wsX9_coins_r3 ++ (wsX9_coins_r4 ++ wsX9_coins_r5)))) ++ wsX90 ++ wsX00 ++ wsX30 ++ wsX20)
def wsX9_bar_r1 : List Cond := [Cond.fieldLink RX9 19 "PaidBySigns" "hire" "LPaidBySigns$Hire;", Cond.fieldLink RX9 124 "PaidBySigns$Hire" "signs" "I", Cond.fieldLink RX9 61 "PaidBySigns" "oneSum" "LPaidBySigns$OneSum;", Cond.fieldLink RX9 127 "PaidBySigns$Hire" "whole" "I", Cond.fieldLink RX9 34 "PaidBySigns" "trial" "LPaidBySigns$Fraction;", Cond.fieldLink RX9 37 "PaidBySigns" "champion" "LPaidBySigns$Fraction;", Cond.fieldLink RX9 30 "PaidBySigns" "latest" "LPaidBySigns$Fraction;", Cond.methodLink RX9 140 yX9_isWork, Cond.instanceMethod yX9_isWork, Cond.selects RX9 yX9_isWork yX9_isWork, Cond.initialized RX9, Cond.code yX9_isWork cX9_isWork 2 (some .boolean), Cond.fieldLink RX9 115 "PaidBySigns$Hire" "works" "I", Cond.methodLink RX9 223 yX5_settle, Cond.instanceMethod yX5_settle, Cond.selects RX5 yX5_settle yX5_settle, Cond.initialized RX5, Cond.code yX5_settle cX5_settle 9 (some .boolean), Cond.fieldLink RX5 18 "PaidBySigns$Hire" "works" "I", Cond.methodLink RX5 7 yX5_start, Cond.instanceMethod yX5_start, Cond.selects RX5 yX5_start yX5_start, Cond.code yX5_start cX5_start 1 none, Cond.fieldLink RX5 47 "PaidBySigns$OneSum" "lowUpper" "J"]
def wsX9_bar_r2 : List Cond := [Cond.fieldLink RX5 43 "PaidBySigns$OneSum" "lowLower" "J", Cond.fieldLink RX5 65 "PaidBySigns$OneSum" "capUpper" "J", Cond.fieldLink RX5 68 "PaidBySigns$OneSum" "capLower" "J", Cond.fieldLink RX5 71 "PaidBySigns$OneSum" "isBroken" "Z", Cond.methodLink RX5 12 yX3_chanceFrom, Cond.instanceMethod yX3_chanceFrom, Cond.selects RX3 yX3_chanceFrom yX3_chanceFrom, Cond.initialized RX3, Cond.code yX3_chanceFrom cX3_chanceFrom 5 (some .int), Cond.fieldLink RX3 32 "PaidBySigns$Hire" "signs" "I", Cond.fieldLink RX3 9 "PaidBySigns$Hire" "brings" "[I", Cond.fieldLink RX3 20 "PaidBySigns$Hire" "chances" "[[I", Cond.methodLink RX5 22 yX3_lackOf, Cond.instanceMethod yX3_lackOf, Cond.selects RX3 yX3_lackOf yX3_lackOf, Cond.code yX3_lackOf cX3_lackOf 3 (some .int), Cond.fieldLink RX3 15 "PaidBySigns$Hire" "costs" "[I", Cond.fieldLink RX3 42 "PaidBySigns$Hire" "otherwise" "I", Cond.fieldLink RX3 45 "PaidBySigns$Hire" "least" "I", Cond.methodLink RX3 63 yX3_feltOf, Cond.instanceMethod yX3_feltOf, Cond.selects RX3 yX3_feltOf yX3_feltOf, Cond.code yX3_feltOf cX3_feltOf 6 (some .int), Cond.fieldLink RX3 48 "PaidBySigns$Hire" "rates" "I"]
def wsX9_bar_r3 : List Cond := [Cond.fieldLink RX3 26 "PaidBySigns$Hire" "mark" "[I", Cond.methodLink RX3 51 Lib.Math.min.name, Cond.static Lib.Math.min.name, Cond.initialized "java/lang/Math", Cond.code Lib.Math.min.name Lib.Math.min.code 2 (some .int), Cond.fieldLink RX3 23 "PaidBySigns$Hire" "rate" "[I", Cond.methodLink RX5 25 yX5_need, Cond.instanceMethod yX5_need, Cond.selects RX5 yX5_need yX5_need, Cond.code yX5_need cX5_need 5 none, Cond.methodLink RX5 29 yX5_isMet, Cond.instanceMethod yX5_isMet, Cond.selects RX5 yX5_isMet yX5_isMet, Cond.code yX5_isMet cX5_isMet 2 (some .boolean), Cond.methodLink RX9 227 yX3_chanceFrom, Cond.methodLink RX9 231 yX5_meanInto, Cond.instanceMethod yX5_meanInto, Cond.selects RX5 yX5_meanInto yX5_meanInto, Cond.code yX5_meanInto cX5_meanInto 9 none, Cond.fieldLink RX5 36 "PaidBySigns$Hire" "least" "I", Cond.fieldLink RX5 54 "PaidBySigns$Fraction" "upper" "J", Cond.fieldLink RX5 59 "PaidBySigns$Fraction" "lower" "J", Cond.methodLink RX5 39 yX3_feltOf, Cond.methodLink RX5 50 yX3_wageOf]
def wsX9_bar_r4 : List Cond := [Cond.instanceMethod yX3_wageOf, Cond.selects RX3 yX3_wageOf yX3_wageOf, Cond.code yX3_wageOf cX3_wageOf 13 none, Cond.methodLink RX3 57 yX2_become, Cond.instanceMethod yX2_become, Cond.selects RX2 yX2_become yX2_become, Cond.initialized RX2, Cond.code yX2_become cX2_become 7 none, Cond.methodLink RX2 20 Lib.MathLoose.abs_long.x, Cond.static Lib.MathLoose.abs_long.x, Cond.code Lib.MathLoose.abs_long.x Lib.MathLoose.abs_long.code 2 (some .long), Cond.fieldLink RX2 11 "PaidBySigns$Fraction" "upper" "J", Cond.fieldLink RX2 17 "PaidBySigns$Fraction" "lower" "J", Cond.methodLink RX2 26 yX2_commonPart, Cond.static yX2_commonPart, Cond.code yX2_commonPart cX2_commonPart 11 (some .long), Cond.methodLink RX2 30 yX2_forget, Cond.instanceMethod yX2_forget, Cond.selects RX2 yX2_forget yX2_forget, Cond.code yX2_forget cX2_forget 1 none, Cond.constantLong RX2 9 (-2000000000), Cond.methodLink RX5 62 yX2_become, Cond.methodLink RX9 235 yX2_isBelow, Cond.static yX2_isBelow]
def wsX9_bar_r5 : List Cond := [Cond.code yX2_isBelow cX2_isBelow 2 (some .boolean), Cond.methodLink RX9 202 yX2_copy, Cond.instanceMethod yX2_copy, Cond.selects RX2 yX2_copy yX2_copy, Cond.code yX2_copy cX2_copy 2 none]
def wsX9_bar : List Cond := .code yX9_bar cX9_bar 4 (some .int) :: ((wsX9_bar_r1 ++ (wsX9_bar_r2 ++ (wsX9_bar_r3 ++ (wsX9_bar_r4 ++ wsX9_bar_r5)))) ++ wsX90 ++ wsX30 ++ wsX50 ++ wsX20)
def wsX9_crew_r1 : List Cond := [Cond.fieldLink RX9 19 "PaidBySigns" "hire" "LPaidBySigns$Hire;", Cond.fieldLink RX9 127 "PaidBySigns$Hire" "whole" "I", Cond.fieldLink RX9 61 "PaidBySigns" "oneSum" "LPaidBySigns$OneSum;", Cond.fieldLink RX9 30 "PaidBySigns" "latest" "LPaidBySigns$Fraction;", Cond.methodLink RX9 140 yX9_isWork, Cond.instanceMethod yX9_isWork, Cond.selects RX9 yX9_isWork yX9_isWork, Cond.initialized RX9, Cond.code yX9_isWork cX9_isWork 2 (some .boolean), Cond.fieldLink RX9 115 "PaidBySigns$Hire" "works" "I", Cond.methodLink RX9 144 yX9_isSign, Cond.instanceMethod yX9_isSign, Cond.selects RX9 yX9_isSign yX9_isSign, Cond.code yX9_isSign cX9_isSign 2 (some .boolean), Cond.fieldLink RX9 124 "PaidBySigns$Hire" "signs" "I", Cond.methodLink RX9 227 yX3_chanceFrom, Cond.instanceMethod yX3_chanceFrom, Cond.selects RX3 yX3_chanceFrom yX3_chanceFrom, Cond.initialized RX3, Cond.code yX3_chanceFrom cX3_chanceFrom 5 (some .int), Cond.fieldLink RX3 32 "PaidBySigns$Hire" "signs" "I", Cond.fieldLink RX3 9 "PaidBySigns$Hire" "brings" "[I", Cond.fieldLink RX3 20 "PaidBySigns$Hire" "chances" "[[I", Cond.methodLink RX9 223 yX5_settle]
def wsX9_crew_r2 : List Cond := [Cond.instanceMethod yX5_settle, Cond.selects RX5 yX5_settle yX5_settle, Cond.initialized RX5, Cond.code yX5_settle cX5_settle 9 (some .boolean), Cond.fieldLink RX5 18 "PaidBySigns$Hire" "works" "I", Cond.methodLink RX5 7 yX5_start, Cond.instanceMethod yX5_start, Cond.selects RX5 yX5_start yX5_start, Cond.code yX5_start cX5_start 1 none, Cond.fieldLink RX5 47 "PaidBySigns$OneSum" "lowUpper" "J", Cond.fieldLink RX5 43 "PaidBySigns$OneSum" "lowLower" "J", Cond.fieldLink RX5 65 "PaidBySigns$OneSum" "capUpper" "J", Cond.fieldLink RX5 68 "PaidBySigns$OneSum" "capLower" "J", Cond.fieldLink RX5 71 "PaidBySigns$OneSum" "isBroken" "Z", Cond.methodLink RX5 12 yX3_chanceFrom, Cond.methodLink RX5 22 yX3_lackOf, Cond.instanceMethod yX3_lackOf, Cond.selects RX3 yX3_lackOf yX3_lackOf, Cond.code yX3_lackOf cX3_lackOf 3 (some .int), Cond.fieldLink RX3 15 "PaidBySigns$Hire" "costs" "[I", Cond.fieldLink RX3 42 "PaidBySigns$Hire" "otherwise" "I", Cond.fieldLink RX3 45 "PaidBySigns$Hire" "least" "I", Cond.methodLink RX3 63 yX3_feltOf, Cond.instanceMethod yX3_feltOf]
def wsX9_crew_r3 : List Cond := [Cond.selects RX3 yX3_feltOf yX3_feltOf, Cond.code yX3_feltOf cX3_feltOf 6 (some .int), Cond.fieldLink RX3 48 "PaidBySigns$Hire" "rates" "I", Cond.fieldLink RX3 26 "PaidBySigns$Hire" "mark" "[I", Cond.methodLink RX3 51 Lib.Math.min.name, Cond.static Lib.Math.min.name, Cond.initialized "java/lang/Math", Cond.code Lib.Math.min.name Lib.Math.min.code 2 (some .int), Cond.fieldLink RX3 23 "PaidBySigns$Hire" "rate" "[I", Cond.methodLink RX5 25 yX5_need, Cond.instanceMethod yX5_need, Cond.selects RX5 yX5_need yX5_need, Cond.code yX5_need cX5_need 5 none, Cond.methodLink RX5 29 yX5_isMet, Cond.instanceMethod yX5_isMet, Cond.selects RX5 yX5_isMet yX5_isMet, Cond.code yX5_isMet cX5_isMet 2 (some .boolean), Cond.methodLink RX9 231 yX5_meanInto, Cond.instanceMethod yX5_meanInto, Cond.selects RX5 yX5_meanInto yX5_meanInto, Cond.code yX5_meanInto cX5_meanInto 9 none, Cond.fieldLink RX5 36 "PaidBySigns$Hire" "least" "I", Cond.fieldLink RX5 54 "PaidBySigns$Fraction" "upper" "J", Cond.fieldLink RX5 59 "PaidBySigns$Fraction" "lower" "J"]
def wsX9_crew_r4 : List Cond := [Cond.methodLink RX5 39 yX3_feltOf, Cond.methodLink RX5 50 yX3_wageOf, Cond.instanceMethod yX3_wageOf, Cond.selects RX3 yX3_wageOf yX3_wageOf, Cond.code yX3_wageOf cX3_wageOf 13 none, Cond.methodLink RX3 57 yX2_become, Cond.instanceMethod yX2_become, Cond.selects RX2 yX2_become yX2_become, Cond.initialized RX2, Cond.code yX2_become cX2_become 7 none, Cond.methodLink RX2 20 Lib.MathLoose.abs_long.x, Cond.static Lib.MathLoose.abs_long.x, Cond.code Lib.MathLoose.abs_long.x Lib.MathLoose.abs_long.code 2 (some .long), Cond.fieldLink RX2 11 "PaidBySigns$Fraction" "upper" "J", Cond.fieldLink RX2 17 "PaidBySigns$Fraction" "lower" "J", Cond.methodLink RX2 26 yX2_commonPart, Cond.static yX2_commonPart, Cond.code yX2_commonPart cX2_commonPart 11 (some .long), Cond.methodLink RX2 30 yX2_forget, Cond.instanceMethod yX2_forget, Cond.selects RX2 yX2_forget yX2_forget, Cond.code yX2_forget cX2_forget 1 none, Cond.constantLong RX2 9 (-2000000000), Cond.methodLink RX5 62 yX2_become]
def wsX9_crew : List Cond := .code yX9_crew cX9_crew 5 (some .int) :: ((wsX9_crew_r1 ++ (wsX9_crew_r2 ++ (wsX9_crew_r3 ++ wsX9_crew_r4))) ++ wsX90 ++ wsX30 ++ wsX50 ++ wsX20)
def wsX9_watch_r1 : List Cond := [Cond.fieldLink RX9 19 "PaidBySigns" "hire" "LPaidBySigns$Hire;", Cond.fieldLink RX9 127 "PaidBySigns$Hire" "whole" "I", Cond.fieldLink RX9 61 "PaidBySigns" "oneSum" "LPaidBySigns$OneSum;", Cond.fieldLink RX9 34 "PaidBySigns" "trial" "LPaidBySigns$Fraction;", Cond.fieldLink RX9 37 "PaidBySigns" "champion" "LPaidBySigns$Fraction;", Cond.fieldLink RX9 30 "PaidBySigns" "latest" "LPaidBySigns$Fraction;", Cond.methodLink RX9 140 yX9_isWork, Cond.instanceMethod yX9_isWork, Cond.selects RX9 yX9_isWork yX9_isWork, Cond.initialized RX9, Cond.code yX9_isWork cX9_isWork 2 (some .boolean), Cond.fieldLink RX9 115 "PaidBySigns$Hire" "works" "I", Cond.methodLink RX9 239 yX5_settleWatched, Cond.instanceMethod yX5_settleWatched, Cond.selects RX5 yX5_settleWatched yX5_settleWatched, Cond.initialized RX5, Cond.code yX5_settleWatched cX5_settleWatched 5 (some .boolean), Cond.fieldLink RX5 18 "PaidBySigns$Hire" "works" "I", Cond.fieldLink RX5 33 "PaidBySigns$Hire" "whole" "I", Cond.methodLink RX5 7 yX5_start, Cond.instanceMethod yX5_start, Cond.selects RX5 yX5_start yX5_start, Cond.code yX5_start cX5_start 1 none, Cond.fieldLink RX5 47 "PaidBySigns$OneSum" "lowUpper" "J"]
def wsX9_watch_r2 : List Cond := [Cond.fieldLink RX5 43 "PaidBySigns$OneSum" "lowLower" "J", Cond.fieldLink RX5 65 "PaidBySigns$OneSum" "capUpper" "J", Cond.fieldLink RX5 68 "PaidBySigns$OneSum" "capLower" "J", Cond.fieldLink RX5 71 "PaidBySigns$OneSum" "isBroken" "Z", Cond.methodLink RX5 22 yX3_lackOf, Cond.instanceMethod yX3_lackOf, Cond.selects RX3 yX3_lackOf yX3_lackOf, Cond.initialized RX3, Cond.code yX3_lackOf cX3_lackOf 3 (some .int), Cond.fieldLink RX3 15 "PaidBySigns$Hire" "costs" "[I", Cond.fieldLink RX3 42 "PaidBySigns$Hire" "otherwise" "I", Cond.fieldLink RX3 45 "PaidBySigns$Hire" "least" "I", Cond.methodLink RX3 63 yX3_feltOf, Cond.instanceMethod yX3_feltOf, Cond.selects RX3 yX3_feltOf yX3_feltOf, Cond.code yX3_feltOf cX3_feltOf 6 (some .int), Cond.fieldLink RX3 48 "PaidBySigns$Hire" "rates" "I", Cond.fieldLink RX3 26 "PaidBySigns$Hire" "mark" "[I", Cond.methodLink RX3 51 Lib.Math.min.name, Cond.static Lib.Math.min.name, Cond.initialized "java/lang/Math", Cond.code Lib.Math.min.name Lib.Math.min.code 2 (some .int), Cond.fieldLink RX3 23 "PaidBySigns$Hire" "rate" "[I", Cond.methodLink RX5 25 yX5_need]
def wsX9_watch_r3 : List Cond := [Cond.instanceMethod yX5_need, Cond.selects RX5 yX5_need yX5_need, Cond.code yX5_need cX5_need 5 none, Cond.methodLink RX5 29 yX5_isMet, Cond.instanceMethod yX5_isMet, Cond.selects RX5 yX5_isMet yX5_isMet, Cond.code yX5_isMet cX5_isMet 2 (some .boolean), Cond.methodLink RX9 231 yX5_meanInto, Cond.instanceMethod yX5_meanInto, Cond.selects RX5 yX5_meanInto yX5_meanInto, Cond.code yX5_meanInto cX5_meanInto 9 none, Cond.fieldLink RX5 36 "PaidBySigns$Hire" "least" "I", Cond.fieldLink RX5 54 "PaidBySigns$Fraction" "upper" "J", Cond.fieldLink RX5 59 "PaidBySigns$Fraction" "lower" "J", Cond.methodLink RX5 39 yX3_feltOf, Cond.methodLink RX5 50 yX3_wageOf, Cond.instanceMethod yX3_wageOf, Cond.selects RX3 yX3_wageOf yX3_wageOf, Cond.code yX3_wageOf cX3_wageOf 13 none, Cond.methodLink RX3 57 yX2_become, Cond.instanceMethod yX2_become, Cond.selects RX2 yX2_become yX2_become, Cond.initialized RX2, Cond.code yX2_become cX2_become 7 none]
def wsX9_watch_r4 : List Cond := [Cond.methodLink RX2 20 Lib.MathLoose.abs_long.x, Cond.static Lib.MathLoose.abs_long.x, Cond.code Lib.MathLoose.abs_long.x Lib.MathLoose.abs_long.code 2 (some .long), Cond.fieldLink RX2 11 "PaidBySigns$Fraction" "upper" "J", Cond.fieldLink RX2 17 "PaidBySigns$Fraction" "lower" "J", Cond.methodLink RX2 26 yX2_commonPart, Cond.static yX2_commonPart, Cond.code yX2_commonPart cX2_commonPart 11 (some .long), Cond.methodLink RX2 30 yX2_forget, Cond.instanceMethod yX2_forget, Cond.selects RX2 yX2_forget yX2_forget, Cond.code yX2_forget cX2_forget 1 none, Cond.constantLong RX2 9 (-2000000000), Cond.methodLink RX5 62 yX2_become, Cond.methodLink RX9 242 yX2_add, Cond.instanceMethod yX2_add, Cond.selects RX2 yX2_add yX2_add, Cond.code yX2_add cX2_add 5 none, Cond.methodLink RX2 33 yX2_become, Cond.methodLink RX9 235 yX2_isBelow, Cond.static yX2_isBelow, Cond.code yX2_isBelow cX2_isBelow 2 (some .boolean), Cond.methodLink RX9 202 yX2_copy, Cond.instanceMethod yX2_copy]
def wsX9_watch_r5 : List Cond := [Cond.selects RX2 yX2_copy yX2_copy, Cond.code yX2_copy cX2_copy 2 none]
def wsX9_watch : List Cond := .code yX9_watch cX9_watch 5 (some .int) :: ((wsX9_watch_r1 ++ (wsX9_watch_r2 ++ (wsX9_watch_r3 ++ (wsX9_watch_r4 ++ wsX9_watch_r5)))) ++ wsX90 ++ wsX30 ++ wsX50 ++ wsX20)
theorem pm_X9_merged_r1 : ∀ w ∈ wsX9_merged_r1, w ∈ wsX9_merged := fun _ h => List.mem_cons_of_mem _ (List.mem_append_left _ (List.mem_append_left _ (List.mem_append_left _ (List.mem_append_left _ (List.mem_append_left _ (List.mem_append_left _ h))))))
theorem pm_X9_merged_r2 : ∀ w ∈ wsX9_merged_r2, w ∈ wsX9_merged := fun _ h => List.mem_cons_of_mem _ (List.mem_append_left _ (List.mem_append_left _ (List.mem_append_left _ (List.mem_append_left _ (List.mem_append_left _ (List.mem_append_right _ (List.mem_append_left _ h)))))))
theorem pm_X9_merged_r3 : ∀ w ∈ wsX9_merged_r3, w ∈ wsX9_merged := fun _ h => List.mem_cons_of_mem _ (List.mem_append_left _ (List.mem_append_left _ (List.mem_append_left _ (List.mem_append_left _ (List.mem_append_left _ (List.mem_append_right _ (List.mem_append_right _ (List.mem_append_left _ h))))))))
theorem pm_X9_merged_r4 : ∀ w ∈ wsX9_merged_r4, w ∈ wsX9_merged := fun _ h => List.mem_cons_of_mem _ (List.mem_append_left _ (List.mem_append_left _ (List.mem_append_left _ (List.mem_append_left _ (List.mem_append_left _ (List.mem_append_right _ (List.mem_append_right _ (List.mem_append_right _ (List.mem_append_left _ h)))))))))
theorem pm_X9_merged_r5 : ∀ w ∈ wsX9_merged_r5, w ∈ wsX9_merged := fun _ h => List.mem_cons_of_mem _ (List.mem_append_left _ (List.mem_append_left _ (List.mem_append_left _ (List.mem_append_left _ (List.mem_append_left _ (List.mem_append_right _ (List.mem_append_right _ (List.mem_append_right _ (List.mem_append_right _ (List.mem_append_left _ h))))))))))
theorem pm_X9_merged_r6 : ∀ w ∈ wsX9_merged_r6, w ∈ wsX9_merged := fun _ h => List.mem_cons_of_mem _ (List.mem_append_left _ (List.mem_append_left _ (List.mem_append_left _ (List.mem_append_left _ (List.mem_append_left _ (List.mem_append_right _ (List.mem_append_right _ (List.mem_append_right _ (List.mem_append_right _ (List.mem_append_right _ (List.mem_append_left _ h)))))))))))
theorem pm_X9_merged_r7 : ∀ w ∈ wsX9_merged_r7, w ∈ wsX9_merged := fun _ h => List.mem_cons_of_mem _ (List.mem_append_left _ (List.mem_append_left _ (List.mem_append_left _ (List.mem_append_left _ (List.mem_append_left _ (List.mem_append_right _ (List.mem_append_right _ (List.mem_append_right _ (List.mem_append_right _ (List.mem_append_right _ (List.mem_append_right _ (List.mem_append_left _ h))))))))))))
theorem pm_X9_merged_r8 : ∀ w ∈ wsX9_merged_r8, w ∈ wsX9_merged := fun _ h => List.mem_cons_of_mem _ (List.mem_append_left _ (List.mem_append_left _ (List.mem_append_left _ (List.mem_append_left _ (List.mem_append_left _ (List.mem_append_right _ (List.mem_append_right _ (List.mem_append_right _ (List.mem_append_right _ (List.mem_append_right _ (List.mem_append_right _ (List.mem_append_right _ (h)))))))))))))
theorem pw_X9_merged_X9 : ∀ w ∈ wsX90, w ∈ wsX9_merged := fun _ h => List.mem_cons_of_mem _ (List.mem_append_left _ (List.mem_append_left _ (List.mem_append_left _ (List.mem_append_left _ (List.mem_append_right _ h)))))
theorem pw_X9_merged_X3 : ∀ w ∈ wsX30, w ∈ wsX9_merged := fun _ h => List.mem_cons_of_mem _ (List.mem_append_left _ (List.mem_append_left _ (List.mem_append_left _ (List.mem_append_right _ h))))
theorem pw_X9_merged_X4 : ∀ w ∈ wsX40, w ∈ wsX9_merged := fun _ h => List.mem_cons_of_mem _ (List.mem_append_left _ (List.mem_append_left _ (List.mem_append_right _ h)))
theorem pw_X9_merged_X8 : ∀ w ∈ wsX80, w ∈ wsX9_merged := fun _ h => List.mem_cons_of_mem _ (List.mem_append_left _ (List.mem_append_right _ h))
theorem pw_X9_merged_X2 : ∀ w ∈ wsX20, w ∈ wsX9_merged := fun _ h => List.mem_cons_of_mem _ (List.mem_append_right _ h)
set_option maxRecDepth 20000 in
theorem ggX9_merged_X9_isWork : GoodIn wsX9_merged wsX9_isWork := goodIn_sub (List.forall_mem_cons.mpr ⟨pm_X9_merged_r1 _ (List.mem_of_getElem? (i := 7) rfl), List.forall_mem_append.mpr ⟨List.forall_mem_append.mpr ⟨List.forall_mem_cons.mpr ⟨pm_X9_merged_r1 _ (List.mem_of_getElem? (i := 1) rfl), List.forall_mem_cons.mpr ⟨pm_X9_merged_r1 _ (List.mem_of_getElem? (i := 8) rfl), fun _ h => absurd h List.not_mem_nil⟩⟩, pw_X9_merged_X9⟩, pw_X9_merged_X3⟩⟩) (by decide +kernel)
set_option maxRecDepth 20000 in
theorem gX9_merged_X9_isWork : GoodIn wsX9_merged (wsV RX9 140 RX9 yX9_isWork wsX9_isWork) := goodIn_app (goodIn_of _ (by decide +kernel)) ggX9_merged_X9_isWork
set_option maxRecDepth 20000 in
theorem ggX9_merged_X9_isPair : GoodIn wsX9_merged wsX9_isPair := goodIn_sub (List.forall_mem_cons.mpr ⟨pm_X9_merged_r1 _ (List.mem_of_getElem? (i := 12) rfl), List.forall_mem_append.mpr ⟨List.forall_mem_append.mpr ⟨List.forall_mem_cons.mpr ⟨pm_X9_merged_r1 _ (List.mem_of_getElem? (i := 13) rfl), List.forall_mem_cons.mpr ⟨pm_X9_merged_r1 _ (List.mem_of_getElem? (i := 14) rfl), List.forall_mem_cons.mpr ⟨pm_X9_merged_r1 _ (List.mem_of_getElem? (i := 15) rfl), List.forall_mem_cons.mpr ⟨pm_X9_merged_r1 _ (List.mem_of_getElem? (i := 6) rfl), List.forall_mem_cons.mpr ⟨pm_X9_merged_r1 _ (List.mem_of_getElem? (i := 16) rfl), List.forall_mem_cons.mpr ⟨pm_X9_merged_r1 _ (List.mem_of_getElem? (i := 1) rfl), List.forall_mem_cons.mpr ⟨pm_X9_merged_r1 _ (List.mem_of_getElem? (i := 17) rfl), fun _ h => absurd h List.not_mem_nil⟩⟩⟩⟩⟩⟩⟩, pw_X9_merged_X9⟩, pw_X9_merged_X3⟩⟩) (by decide +kernel)
set_option maxRecDepth 20000 in
theorem gX9_merged_X9_isPair : GoodIn wsX9_merged (wsV RX9 205 RX9 yX9_isPair wsX9_isPair) := goodIn_app (goodIn_of _ (by decide +kernel)) ggX9_merged_X9_isPair
set_option maxRecDepth 20000 in
theorem pq_X9_merged_X4_findMerged_r1 : ∀ w ∈ wsX4_findMerged_r1, w ∈ wsX9_merged := List.forall_mem_cons.mpr ⟨pm_X9_merged_r1 _ (List.mem_of_getElem? (i := 23) rfl), List.forall_mem_cons.mpr ⟨pm_X9_merged_r2 _ (List.mem_of_getElem? (i := 0) rfl), List.forall_mem_cons.mpr ⟨pm_X9_merged_r2 _ (List.mem_of_getElem? (i := 1) rfl), List.forall_mem_cons.mpr ⟨pm_X9_merged_r1 _ (List.mem_of_getElem? (i := 21) rfl), List.forall_mem_cons.mpr ⟨pm_X9_merged_r2 _ (List.mem_of_getElem? (i := 2) rfl), List.forall_mem_cons.mpr ⟨pm_X9_merged_r2 _ (List.mem_of_getElem? (i := 3) rfl), List.forall_mem_cons.mpr ⟨pm_X9_merged_r2 _ (List.mem_of_getElem? (i := 4) rfl), List.forall_mem_cons.mpr ⟨pm_X9_merged_r2 _ (List.mem_of_getElem? (i := 5) rfl), List.forall_mem_cons.mpr ⟨pm_X9_merged_r2 _ (List.mem_of_getElem? (i := 6) rfl), List.forall_mem_cons.mpr ⟨pm_X9_merged_r2 _ (List.mem_of_getElem? (i := 7) rfl), List.forall_mem_cons.mpr ⟨pm_X9_merged_r2 _ (List.mem_of_getElem? (i := 8) rfl), List.forall_mem_cons.mpr ⟨pm_X9_merged_r2 _ (List.mem_of_getElem? (i := 9) rfl), List.forall_mem_cons.mpr ⟨pm_X9_merged_r2 _ (List.mem_of_getElem? (i := 10) rfl), List.forall_mem_cons.mpr ⟨pm_X9_merged_r2 _ (List.mem_of_getElem? (i := 11) rfl), List.forall_mem_cons.mpr ⟨pm_X9_merged_r2 _ (List.mem_of_getElem? (i := 12) rfl), List.forall_mem_cons.mpr ⟨pm_X9_merged_r2 _ (List.mem_of_getElem? (i := 13) rfl), List.forall_mem_cons.mpr ⟨pm_X9_merged_r2 _ (List.mem_of_getElem? (i := 14) rfl), List.forall_mem_cons.mpr ⟨pm_X9_merged_r2 _ (List.mem_of_getElem? (i := 15) rfl), List.forall_mem_cons.mpr ⟨pm_X9_merged_r2 _ (List.mem_of_getElem? (i := 16) rfl), List.forall_mem_cons.mpr ⟨pm_X9_merged_r2 _ (List.mem_of_getElem? (i := 17) rfl), List.forall_mem_cons.mpr ⟨pm_X9_merged_r2 _ (List.mem_of_getElem? (i := 18) rfl), List.forall_mem_cons.mpr ⟨pm_X9_merged_r2 _ (List.mem_of_getElem? (i := 19) rfl), List.forall_mem_cons.mpr ⟨pm_X9_merged_r2 _ (List.mem_of_getElem? (i := 20) rfl), List.forall_mem_cons.mpr ⟨pm_X9_merged_r2 _ (List.mem_of_getElem? (i := 21) rfl), fun _ h => absurd h List.not_mem_nil⟩⟩⟩⟩⟩⟩⟩⟩⟩⟩⟩⟩⟩⟩⟩⟩⟩⟩⟩⟩⟩⟩⟩⟩
set_option maxRecDepth 20000 in
theorem pq_X9_merged_X4_findMerged_r2 : ∀ w ∈ wsX4_findMerged_r2, w ∈ wsX9_merged := List.forall_mem_cons.mpr ⟨pm_X9_merged_r2 _ (List.mem_of_getElem? (i := 22) rfl), List.forall_mem_cons.mpr ⟨pm_X9_merged_r2 _ (List.mem_of_getElem? (i := 23) rfl), List.forall_mem_cons.mpr ⟨pm_X9_merged_r3 _ (List.mem_of_getElem? (i := 0) rfl), List.forall_mem_cons.mpr ⟨pm_X9_merged_r3 _ (List.mem_of_getElem? (i := 1) rfl), List.forall_mem_cons.mpr ⟨pm_X9_merged_r3 _ (List.mem_of_getElem? (i := 2) rfl), List.forall_mem_cons.mpr ⟨pm_X9_merged_r3 _ (List.mem_of_getElem? (i := 3) rfl), List.forall_mem_cons.mpr ⟨pm_X9_merged_r3 _ (List.mem_of_getElem? (i := 4) rfl), List.forall_mem_cons.mpr ⟨pm_X9_merged_r3 _ (List.mem_of_getElem? (i := 5) rfl), List.forall_mem_cons.mpr ⟨pm_X9_merged_r3 _ (List.mem_of_getElem? (i := 6) rfl), List.forall_mem_cons.mpr ⟨pm_X9_merged_r3 _ (List.mem_of_getElem? (i := 7) rfl), List.forall_mem_cons.mpr ⟨pm_X9_merged_r3 _ (List.mem_of_getElem? (i := 8) rfl), List.forall_mem_cons.mpr ⟨pm_X9_merged_r3 _ (List.mem_of_getElem? (i := 9) rfl), List.forall_mem_cons.mpr ⟨pm_X9_merged_r3 _ (List.mem_of_getElem? (i := 10) rfl), List.forall_mem_cons.mpr ⟨pm_X9_merged_r3 _ (List.mem_of_getElem? (i := 11) rfl), List.forall_mem_cons.mpr ⟨pm_X9_merged_r3 _ (List.mem_of_getElem? (i := 12) rfl), List.forall_mem_cons.mpr ⟨pm_X9_merged_r3 _ (List.mem_of_getElem? (i := 13) rfl), List.forall_mem_cons.mpr ⟨pm_X9_merged_r3 _ (List.mem_of_getElem? (i := 14) rfl), List.forall_mem_cons.mpr ⟨pm_X9_merged_r3 _ (List.mem_of_getElem? (i := 15) rfl), List.forall_mem_cons.mpr ⟨pm_X9_merged_r3 _ (List.mem_of_getElem? (i := 16) rfl), List.forall_mem_cons.mpr ⟨pm_X9_merged_r3 _ (List.mem_of_getElem? (i := 17) rfl), List.forall_mem_cons.mpr ⟨pm_X9_merged_r3 _ (List.mem_of_getElem? (i := 18) rfl), List.forall_mem_cons.mpr ⟨pm_X9_merged_r3 _ (List.mem_of_getElem? (i := 19) rfl), List.forall_mem_cons.mpr ⟨pm_X9_merged_r3 _ (List.mem_of_getElem? (i := 20) rfl), List.forall_mem_cons.mpr ⟨pm_X9_merged_r3 _ (List.mem_of_getElem? (i := 21) rfl), fun _ h => absurd h List.not_mem_nil⟩⟩⟩⟩⟩⟩⟩⟩⟩⟩⟩⟩⟩⟩⟩⟩⟩⟩⟩⟩⟩⟩⟩⟩
set_option maxRecDepth 20000 in
theorem pq_X9_merged_X4_findMerged_r3 : ∀ w ∈ wsX4_findMerged_r3, w ∈ wsX9_merged := List.forall_mem_cons.mpr ⟨pm_X9_merged_r3 _ (List.mem_of_getElem? (i := 22) rfl), List.forall_mem_cons.mpr ⟨pm_X9_merged_r3 _ (List.mem_of_getElem? (i := 23) rfl), List.forall_mem_cons.mpr ⟨pm_X9_merged_r4 _ (List.mem_of_getElem? (i := 0) rfl), List.forall_mem_cons.mpr ⟨pm_X9_merged_r4 _ (List.mem_of_getElem? (i := 1) rfl), List.forall_mem_cons.mpr ⟨pm_X9_merged_r4 _ (List.mem_of_getElem? (i := 2) rfl), List.forall_mem_cons.mpr ⟨pm_X9_merged_r4 _ (List.mem_of_getElem? (i := 3) rfl), List.forall_mem_cons.mpr ⟨pm_X9_merged_r4 _ (List.mem_of_getElem? (i := 4) rfl), List.forall_mem_cons.mpr ⟨pm_X9_merged_r4 _ (List.mem_of_getElem? (i := 5) rfl), List.forall_mem_cons.mpr ⟨pm_X9_merged_r4 _ (List.mem_of_getElem? (i := 6) rfl), List.forall_mem_cons.mpr ⟨pm_X9_merged_r4 _ (List.mem_of_getElem? (i := 7) rfl), List.forall_mem_cons.mpr ⟨pm_X9_merged_r4 _ (List.mem_of_getElem? (i := 8) rfl), List.forall_mem_cons.mpr ⟨pm_X9_merged_r4 _ (List.mem_of_getElem? (i := 9) rfl), List.forall_mem_cons.mpr ⟨pm_X9_merged_r4 _ (List.mem_of_getElem? (i := 10) rfl), List.forall_mem_cons.mpr ⟨pm_X9_merged_r4 _ (List.mem_of_getElem? (i := 11) rfl), List.forall_mem_cons.mpr ⟨pm_X9_merged_r4 _ (List.mem_of_getElem? (i := 12) rfl), List.forall_mem_cons.mpr ⟨pm_X9_merged_r4 _ (List.mem_of_getElem? (i := 13) rfl), List.forall_mem_cons.mpr ⟨pm_X9_merged_r4 _ (List.mem_of_getElem? (i := 14) rfl), List.forall_mem_cons.mpr ⟨pm_X9_merged_r4 _ (List.mem_of_getElem? (i := 15) rfl), List.forall_mem_cons.mpr ⟨pm_X9_merged_r4 _ (List.mem_of_getElem? (i := 16) rfl), List.forall_mem_cons.mpr ⟨pm_X9_merged_r4 _ (List.mem_of_getElem? (i := 17) rfl), List.forall_mem_cons.mpr ⟨pm_X9_merged_r4 _ (List.mem_of_getElem? (i := 18) rfl), List.forall_mem_cons.mpr ⟨pm_X9_merged_r4 _ (List.mem_of_getElem? (i := 19) rfl), List.forall_mem_cons.mpr ⟨pm_X9_merged_r4 _ (List.mem_of_getElem? (i := 20) rfl), List.forall_mem_cons.mpr ⟨pm_X9_merged_r4 _ (List.mem_of_getElem? (i := 21) rfl), fun _ h => absurd h List.not_mem_nil⟩⟩⟩⟩⟩⟩⟩⟩⟩⟩⟩⟩⟩⟩⟩⟩⟩⟩⟩⟩⟩⟩⟩⟩
set_option maxRecDepth 20000 in
theorem pq_X9_merged_X4_findMerged_r4 : ∀ w ∈ wsX4_findMerged_r4, w ∈ wsX9_merged := List.forall_mem_cons.mpr ⟨pm_X9_merged_r4 _ (List.mem_of_getElem? (i := 22) rfl), List.forall_mem_cons.mpr ⟨pm_X9_merged_r4 _ (List.mem_of_getElem? (i := 23) rfl), List.forall_mem_cons.mpr ⟨pm_X9_merged_r5 _ (List.mem_of_getElem? (i := 0) rfl), List.forall_mem_cons.mpr ⟨pm_X9_merged_r5 _ (List.mem_of_getElem? (i := 1) rfl), List.forall_mem_cons.mpr ⟨pm_X9_merged_r5 _ (List.mem_of_getElem? (i := 2) rfl), List.forall_mem_cons.mpr ⟨pm_X9_merged_r5 _ (List.mem_of_getElem? (i := 3) rfl), List.forall_mem_cons.mpr ⟨pm_X9_merged_r5 _ (List.mem_of_getElem? (i := 4) rfl), List.forall_mem_cons.mpr ⟨pm_X9_merged_r5 _ (List.mem_of_getElem? (i := 5) rfl), List.forall_mem_cons.mpr ⟨pm_X9_merged_r5 _ (List.mem_of_getElem? (i := 6) rfl), List.forall_mem_cons.mpr ⟨pm_X9_merged_r5 _ (List.mem_of_getElem? (i := 7) rfl), List.forall_mem_cons.mpr ⟨pm_X9_merged_r5 _ (List.mem_of_getElem? (i := 8) rfl), List.forall_mem_cons.mpr ⟨pm_X9_merged_r5 _ (List.mem_of_getElem? (i := 9) rfl), List.forall_mem_cons.mpr ⟨pm_X9_merged_r5 _ (List.mem_of_getElem? (i := 10) rfl), List.forall_mem_cons.mpr ⟨pm_X9_merged_r5 _ (List.mem_of_getElem? (i := 11) rfl), List.forall_mem_cons.mpr ⟨pm_X9_merged_r5 _ (List.mem_of_getElem? (i := 12) rfl), List.forall_mem_cons.mpr ⟨pm_X9_merged_r5 _ (List.mem_of_getElem? (i := 13) rfl), List.forall_mem_cons.mpr ⟨pm_X9_merged_r5 _ (List.mem_of_getElem? (i := 14) rfl), List.forall_mem_cons.mpr ⟨pm_X9_merged_r5 _ (List.mem_of_getElem? (i := 15) rfl), List.forall_mem_cons.mpr ⟨pm_X9_merged_r5 _ (List.mem_of_getElem? (i := 16) rfl), List.forall_mem_cons.mpr ⟨pm_X9_merged_r5 _ (List.mem_of_getElem? (i := 17) rfl), List.forall_mem_cons.mpr ⟨pm_X9_merged_r5 _ (List.mem_of_getElem? (i := 18) rfl), List.forall_mem_cons.mpr ⟨pm_X9_merged_r5 _ (List.mem_of_getElem? (i := 19) rfl), List.forall_mem_cons.mpr ⟨pm_X9_merged_r5 _ (List.mem_of_getElem? (i := 20) rfl), List.forall_mem_cons.mpr ⟨pm_X9_merged_r5 _ (List.mem_of_getElem? (i := 21) rfl), fun _ h => absurd h List.not_mem_nil⟩⟩⟩⟩⟩⟩⟩⟩⟩⟩⟩⟩⟩⟩⟩⟩⟩⟩⟩⟩⟩⟩⟩⟩
set_option maxRecDepth 20000 in
theorem pq_X9_merged_X4_findMerged_r5 : ∀ w ∈ wsX4_findMerged_r5, w ∈ wsX9_merged := List.forall_mem_cons.mpr ⟨pm_X9_merged_r5 _ (List.mem_of_getElem? (i := 22) rfl), List.forall_mem_cons.mpr ⟨pm_X9_merged_r5 _ (List.mem_of_getElem? (i := 23) rfl), List.forall_mem_cons.mpr ⟨pm_X9_merged_r6 _ (List.mem_of_getElem? (i := 0) rfl), List.forall_mem_cons.mpr ⟨pm_X9_merged_r6 _ (List.mem_of_getElem? (i := 1) rfl), List.forall_mem_cons.mpr ⟨pm_X9_merged_r6 _ (List.mem_of_getElem? (i := 2) rfl), List.forall_mem_cons.mpr ⟨pm_X9_merged_r6 _ (List.mem_of_getElem? (i := 3) rfl), List.forall_mem_cons.mpr ⟨pm_X9_merged_r6 _ (List.mem_of_getElem? (i := 4) rfl), List.forall_mem_cons.mpr ⟨pm_X9_merged_r6 _ (List.mem_of_getElem? (i := 5) rfl), List.forall_mem_cons.mpr ⟨pm_X9_merged_r6 _ (List.mem_of_getElem? (i := 6) rfl), List.forall_mem_cons.mpr ⟨pm_X9_merged_r6 _ (List.mem_of_getElem? (i := 7) rfl), List.forall_mem_cons.mpr ⟨pm_X9_merged_r6 _ (List.mem_of_getElem? (i := 8) rfl), List.forall_mem_cons.mpr ⟨pm_X9_merged_r6 _ (List.mem_of_getElem? (i := 9) rfl), List.forall_mem_cons.mpr ⟨pm_X9_merged_r6 _ (List.mem_of_getElem? (i := 10) rfl), List.forall_mem_cons.mpr ⟨pm_X9_merged_r6 _ (List.mem_of_getElem? (i := 11) rfl), List.forall_mem_cons.mpr ⟨pm_X9_merged_r6 _ (List.mem_of_getElem? (i := 12) rfl), List.forall_mem_cons.mpr ⟨pm_X9_merged_r6 _ (List.mem_of_getElem? (i := 13) rfl), List.forall_mem_cons.mpr ⟨pm_X9_merged_r6 _ (List.mem_of_getElem? (i := 14) rfl), List.forall_mem_cons.mpr ⟨pm_X9_merged_r6 _ (List.mem_of_getElem? (i := 15) rfl), List.forall_mem_cons.mpr ⟨pm_X9_merged_r6 _ (List.mem_of_getElem? (i := 16) rfl), List.forall_mem_cons.mpr ⟨pm_X9_merged_r6 _ (List.mem_of_getElem? (i := 17) rfl), List.forall_mem_cons.mpr ⟨pm_X9_merged_r6 _ (List.mem_of_getElem? (i := 18) rfl), List.forall_mem_cons.mpr ⟨pm_X9_merged_r6 _ (List.mem_of_getElem? (i := 19) rfl), List.forall_mem_cons.mpr ⟨pm_X9_merged_r6 _ (List.mem_of_getElem? (i := 20) rfl), List.forall_mem_cons.mpr ⟨pm_X9_merged_r6 _ (List.mem_of_getElem? (i := 21) rfl), fun _ h => absurd h List.not_mem_nil⟩⟩⟩⟩⟩⟩⟩⟩⟩⟩⟩⟩⟩⟩⟩⟩⟩⟩⟩⟩⟩⟩⟩⟩
set_option maxRecDepth 20000 in
theorem pq_X9_merged_X4_findMerged_r6 : ∀ w ∈ wsX4_findMerged_r6, w ∈ wsX9_merged := List.forall_mem_cons.mpr ⟨pm_X9_merged_r6 _ (List.mem_of_getElem? (i := 22) rfl), List.forall_mem_cons.mpr ⟨pm_X9_merged_r6 _ (List.mem_of_getElem? (i := 23) rfl), List.forall_mem_cons.mpr ⟨pm_X9_merged_r7 _ (List.mem_of_getElem? (i := 0) rfl), List.forall_mem_cons.mpr ⟨pm_X9_merged_r7 _ (List.mem_of_getElem? (i := 1) rfl), List.forall_mem_cons.mpr ⟨pm_X9_merged_r7 _ (List.mem_of_getElem? (i := 2) rfl), fun _ h => absurd h List.not_mem_nil⟩⟩⟩⟩⟩
set_option maxRecDepth 20000 in
theorem ggX9_merged_X4_findMerged : GoodIn wsX9_merged wsX4_findMerged := goodIn_sub (List.forall_mem_cons.mpr ⟨pm_X9_merged_r1 _ (List.mem_of_getElem? (i := 22) rfl), List.forall_mem_append.mpr ⟨List.forall_mem_append.mpr ⟨List.forall_mem_append.mpr ⟨List.forall_mem_append.mpr ⟨pq_X9_merged_X4_findMerged_r1, List.forall_mem_append.mpr ⟨pq_X9_merged_X4_findMerged_r2, List.forall_mem_append.mpr ⟨pq_X9_merged_X4_findMerged_r3, List.forall_mem_append.mpr ⟨pq_X9_merged_X4_findMerged_r4, List.forall_mem_append.mpr ⟨pq_X9_merged_X4_findMerged_r5, pq_X9_merged_X4_findMerged_r6⟩⟩⟩⟩⟩, pw_X9_merged_X4⟩, pw_X9_merged_X3⟩, pw_X9_merged_X8⟩⟩) (by decide +kernel)
set_option maxRecDepth 20000 in
theorem gX9_merged_X4_findMerged : GoodIn wsX9_merged (wsV RX9 209 RX4 yX4_findMerged wsX4_findMerged) := goodIn_app (goodIn_of _ (by decide +kernel)) ggX9_merged_X4_findMerged
set_option maxRecDepth 20000 in
theorem pq_X9_merged_X4_costInto_r1 : ∀ w ∈ wsX4_costInto_r1, w ∈ wsX9_merged := List.forall_mem_cons.mpr ⟨pm_X9_merged_r2 _ (List.mem_of_getElem? (i := 3) rfl), List.forall_mem_cons.mpr ⟨pm_X9_merged_r2 _ (List.mem_of_getElem? (i := 15) rfl), List.forall_mem_cons.mpr ⟨pm_X9_merged_r2 _ (List.mem_of_getElem? (i := 4) rfl), List.forall_mem_cons.mpr ⟨pm_X9_merged_r6 _ (List.mem_of_getElem? (i := 19) rfl), List.forall_mem_cons.mpr ⟨pm_X9_merged_r4 _ (List.mem_of_getElem? (i := 17) rfl), List.forall_mem_cons.mpr ⟨pm_X9_merged_r6 _ (List.mem_of_getElem? (i := 22) rfl), List.forall_mem_cons.mpr ⟨pm_X9_merged_r3 _ (List.mem_of_getElem? (i := 1) rfl), List.forall_mem_cons.mpr ⟨pm_X9_merged_r2 _ (List.mem_of_getElem? (i := 16) rfl), List.forall_mem_cons.mpr ⟨pm_X9_merged_r2 _ (List.mem_of_getElem? (i := 17) rfl), List.forall_mem_cons.mpr ⟨pm_X9_merged_r2 _ (List.mem_of_getElem? (i := 18) rfl), List.forall_mem_cons.mpr ⟨pm_X9_merged_r1 _ (List.mem_of_getElem? (i := 21) rfl), List.forall_mem_cons.mpr ⟨pm_X9_merged_r2 _ (List.mem_of_getElem? (i := 19) rfl), List.forall_mem_cons.mpr ⟨pm_X9_merged_r2 _ (List.mem_of_getElem? (i := 6) rfl), List.forall_mem_cons.mpr ⟨pm_X9_merged_r2 _ (List.mem_of_getElem? (i := 5) rfl), List.forall_mem_cons.mpr ⟨pm_X9_merged_r2 _ (List.mem_of_getElem? (i := 20) rfl), List.forall_mem_cons.mpr ⟨pm_X9_merged_r7 _ (List.mem_of_getElem? (i := 7) rfl), List.forall_mem_cons.mpr ⟨pm_X9_merged_r7 _ (List.mem_of_getElem? (i := 8) rfl), List.forall_mem_cons.mpr ⟨pm_X9_merged_r7 _ (List.mem_of_getElem? (i := 9) rfl), List.forall_mem_cons.mpr ⟨pm_X9_merged_r7 _ (List.mem_of_getElem? (i := 10) rfl), List.forall_mem_cons.mpr ⟨pm_X9_merged_r7 _ (List.mem_of_getElem? (i := 11) rfl), List.forall_mem_cons.mpr ⟨pm_X9_merged_r7 _ (List.mem_of_getElem? (i := 12) rfl), List.forall_mem_cons.mpr ⟨pm_X9_merged_r7 _ (List.mem_of_getElem? (i := 13) rfl), List.forall_mem_cons.mpr ⟨pm_X9_merged_r3 _ (List.mem_of_getElem? (i := 15) rfl), List.forall_mem_cons.mpr ⟨pm_X9_merged_r7 _ (List.mem_of_getElem? (i := 14) rfl), fun _ h => absurd h List.not_mem_nil⟩⟩⟩⟩⟩⟩⟩⟩⟩⟩⟩⟩⟩⟩⟩⟩⟩⟩⟩⟩⟩⟩⟩⟩
set_option maxRecDepth 20000 in
theorem pq_X9_merged_X4_costInto_r2 : ∀ w ∈ wsX4_costInto_r2, w ∈ wsX9_merged := List.forall_mem_cons.mpr ⟨pm_X9_merged_r7 _ (List.mem_of_getElem? (i := 15) rfl), List.forall_mem_cons.mpr ⟨pm_X9_merged_r7 _ (List.mem_of_getElem? (i := 16) rfl), List.forall_mem_cons.mpr ⟨pm_X9_merged_r7 _ (List.mem_of_getElem? (i := 17) rfl), List.forall_mem_cons.mpr ⟨pm_X9_merged_r7 _ (List.mem_of_getElem? (i := 18) rfl), List.forall_mem_cons.mpr ⟨pm_X9_merged_r7 _ (List.mem_of_getElem? (i := 19) rfl), List.forall_mem_cons.mpr ⟨pm_X9_merged_r7 _ (List.mem_of_getElem? (i := 20) rfl), List.forall_mem_cons.mpr ⟨pm_X9_merged_r7 _ (List.mem_of_getElem? (i := 21) rfl), List.forall_mem_cons.mpr ⟨pm_X9_merged_r7 _ (List.mem_of_getElem? (i := 22) rfl), List.forall_mem_cons.mpr ⟨pm_X9_merged_r7 _ (List.mem_of_getElem? (i := 23) rfl), List.forall_mem_cons.mpr ⟨pm_X9_merged_r8 _ (List.mem_of_getElem? (i := 0) rfl), List.forall_mem_cons.mpr ⟨pm_X9_merged_r8 _ (List.mem_of_getElem? (i := 1) rfl), List.forall_mem_cons.mpr ⟨pm_X9_merged_r8 _ (List.mem_of_getElem? (i := 2) rfl), List.forall_mem_cons.mpr ⟨pm_X9_merged_r8 _ (List.mem_of_getElem? (i := 3) rfl), List.forall_mem_cons.mpr ⟨pm_X9_merged_r8 _ (List.mem_of_getElem? (i := 4) rfl), List.forall_mem_cons.mpr ⟨pm_X9_merged_r8 _ (List.mem_of_getElem? (i := 5) rfl), fun _ h => absurd h List.not_mem_nil⟩⟩⟩⟩⟩⟩⟩⟩⟩⟩⟩⟩⟩⟩⟩
set_option maxRecDepth 20000 in
theorem ggX9_merged_X4_costInto : GoodIn wsX9_merged wsX4_costInto := goodIn_sub (List.forall_mem_cons.mpr ⟨pm_X9_merged_r7 _ (List.mem_of_getElem? (i := 6) rfl), List.forall_mem_append.mpr ⟨List.forall_mem_append.mpr ⟨List.forall_mem_append.mpr ⟨List.forall_mem_append.mpr ⟨pq_X9_merged_X4_costInto_r1, pq_X9_merged_X4_costInto_r2⟩, pw_X9_merged_X4⟩, pw_X9_merged_X3⟩, pw_X9_merged_X2⟩⟩) (by decide +kernel)
set_option maxRecDepth 20000 in
theorem gX9_merged_X4_costInto : GoodIn wsX9_merged (wsV RX9 177 RX4 yX4_costInto wsX4_costInto) := goodIn_app (goodIn_of _ (by decide +kernel)) ggX9_merged_X4_costInto
theorem dX9_merged_0 : decode cX9_merged 0 = .ok (.aload_n 0, 1) := by decide +kernel
theorem dX9_merged_1 : decode cX9_merged 1 = .ok (.iload_n 1, 1) := by decide +kernel
theorem dX9_merged_2 : decode cX9_merged 2 = .ok (.invokevirtual 140, 3) := by decide +kernel
theorem dX9_merged_5 : decode cX9_merged 5 = .ok (.ifCond .eq 12, 3) := by decide +kernel
theorem dX9_merged_8 : decode cX9_merged 8 = .ok (.aload_n 0, 1) := by decide +kernel
theorem dX9_merged_9 : decode cX9_merged 9 = .ok (.iload_n 2, 1) := by decide +kernel
theorem dX9_merged_10 : decode cX9_merged 10 = .ok (.iload_n 3, 1) := by decide +kernel
theorem dX9_merged_11 : decode cX9_merged 11 = .ok (.invokevirtual 205, 3) := by decide +kernel
theorem dX9_merged_14 : decode cX9_merged 14 = .ok (.ifCond .ne 6, 3) := by decide +kernel
theorem dX9_merged_17 : decode cX9_merged 17 = .ok (.bipush (-2), 2) := by decide +kernel
theorem dX9_merged_19 : decode cX9_merged 19 = .ok (.ireturn, 1) := by decide +kernel
theorem dX9_merged_20 : decode cX9_merged 20 = .ok (.aload_n 0, 1) := by decide +kernel
theorem dX9_merged_21 : decode cX9_merged 21 = .ok (.getfield 54, 3) := by decide +kernel
theorem dX9_merged_24 : decode cX9_merged 24 = .ok (.aload_n 0, 1) := by decide +kernel
theorem dX9_merged_25 : decode cX9_merged 25 = .ok (.getfield 19, 3) := by decide +kernel
theorem dX9_merged_28 : decode cX9_merged 28 = .ok (.iload_n 1, 1) := by decide +kernel
theorem dX9_merged_29 : decode cX9_merged 29 = .ok (.iload_n 2, 1) := by decide +kernel
theorem dX9_merged_30 : decode cX9_merged 30 = .ok (.iload_n 3, 1) := by decide +kernel
theorem dX9_merged_31 : decode cX9_merged 31 = .ok (.invokevirtual 209, 3) := by decide +kernel
theorem dX9_merged_34 : decode cX9_merged 34 = .ok (.ifCond .ne 5, 3) := by decide +kernel
theorem dX9_merged_37 : decode cX9_merged 37 = .ok (.iconst (-1), 1) := by decide +kernel
theorem dX9_merged_38 : decode cX9_merged 38 = .ok (.ireturn, 1) := by decide +kernel
theorem dX9_merged_39 : decode cX9_merged 39 = .ok (.aload_n 0, 1) := by decide +kernel
theorem dX9_merged_40 : decode cX9_merged 40 = .ok (.getfield 54, 3) := by decide +kernel
theorem dX9_merged_43 : decode cX9_merged 43 = .ok (.aload_n 0, 1) := by decide +kernel
theorem dX9_merged_44 : decode cX9_merged 44 = .ok (.getfield 30, 3) := by decide +kernel
theorem dX9_merged_47 : decode cX9_merged 47 = .ok (.invokevirtual 177, 3) := by decide +kernel
theorem dX9_merged_50 : decode cX9_merged 50 = .ok (.iconst 1, 1) := by decide +kernel
theorem dX9_merged_51 : decode cX9_merged 51 = .ok (.ireturn, 1) := by decide +kernel
theorem pm_X9_coins_r1 : ∀ w ∈ wsX9_coins_r1, w ∈ wsX9_coins := fun _ h => List.mem_cons_of_mem _ (List.mem_append_left _ (List.mem_append_left _ (List.mem_append_left _ (List.mem_append_left _ (List.mem_append_left _ h)))))
theorem pm_X9_coins_r2 : ∀ w ∈ wsX9_coins_r2, w ∈ wsX9_coins := fun _ h => List.mem_cons_of_mem _ (List.mem_append_left _ (List.mem_append_left _ (List.mem_append_left _ (List.mem_append_left _ (List.mem_append_right _ (List.mem_append_left _ h))))))
theorem pm_X9_coins_r3 : ∀ w ∈ wsX9_coins_r3, w ∈ wsX9_coins := fun _ h => List.mem_cons_of_mem _ (List.mem_append_left _ (List.mem_append_left _ (List.mem_append_left _ (List.mem_append_left _ (List.mem_append_right _ (List.mem_append_right _ (List.mem_append_left _ h)))))))
theorem pm_X9_coins_r4 : ∀ w ∈ wsX9_coins_r4, w ∈ wsX9_coins := fun _ h => List.mem_cons_of_mem _ (List.mem_append_left _ (List.mem_append_left _ (List.mem_append_left _ (List.mem_append_left _ (List.mem_append_right _ (List.mem_append_right _ (List.mem_append_right _ (List.mem_append_left _ h))))))))
theorem pm_X9_coins_r5 : ∀ w ∈ wsX9_coins_r5, w ∈ wsX9_coins := fun _ h => List.mem_cons_of_mem _ (List.mem_append_left _ (List.mem_append_left _ (List.mem_append_left _ (List.mem_append_left _ (List.mem_append_right _ (List.mem_append_right _ (List.mem_append_right _ (List.mem_append_right _ (h)))))))))
theorem pw_X9_coins_X9 : ∀ w ∈ wsX90, w ∈ wsX9_coins := fun _ h => List.mem_cons_of_mem _ (List.mem_append_left _ (List.mem_append_left _ (List.mem_append_left _ (List.mem_append_right _ h))))
theorem pw_X9_coins_X0 : ∀ w ∈ wsX00, w ∈ wsX9_coins := fun _ h => List.mem_cons_of_mem _ (List.mem_append_left _ (List.mem_append_left _ (List.mem_append_right _ h)))
theorem pw_X9_coins_X3 : ∀ w ∈ wsX30, w ∈ wsX9_coins := fun _ h => List.mem_cons_of_mem _ (List.mem_append_left _ (List.mem_append_right _ h))
theorem pw_X9_coins_X2 : ∀ w ∈ wsX20, w ∈ wsX9_coins := fun _ h => List.mem_cons_of_mem _ (List.mem_append_right _ h)
set_option maxRecDepth 20000 in
theorem ggX9_coins_X9_isWork : GoodIn wsX9_coins wsX9_isWork := goodIn_sub (List.forall_mem_cons.mpr ⟨pm_X9_coins_r1 _ (List.mem_of_getElem? (i := 15) rfl), List.forall_mem_append.mpr ⟨List.forall_mem_append.mpr ⟨List.forall_mem_cons.mpr ⟨pm_X9_coins_r1 _ (List.mem_of_getElem? (i := 1) rfl), List.forall_mem_cons.mpr ⟨pm_X9_coins_r1 _ (List.mem_of_getElem? (i := 16) rfl), fun _ h => absurd h List.not_mem_nil⟩⟩, pw_X9_coins_X9⟩, pw_X9_coins_X3⟩⟩) (by decide +kernel)
set_option maxRecDepth 20000 in
theorem gX9_coins_X9_isWork : GoodIn wsX9_coins (wsV RX9 140 RX9 yX9_isWork wsX9_isWork) := goodIn_app (goodIn_of _ (by decide +kernel)) ggX9_coins_X9_isWork
set_option maxRecDepth 20000 in
theorem pq_X9_coins_X0_find_r1 : ∀ w ∈ wsX0_find_r1, w ∈ wsX9_coins := List.forall_mem_cons.mpr ⟨pm_X9_coins_r1 _ (List.mem_of_getElem? (i := 22) rfl), List.forall_mem_cons.mpr ⟨pm_X9_coins_r1 _ (List.mem_of_getElem? (i := 23) rfl), List.forall_mem_cons.mpr ⟨pm_X9_coins_r2 _ (List.mem_of_getElem? (i := 0) rfl), List.forall_mem_cons.mpr ⟨pm_X9_coins_r2 _ (List.mem_of_getElem? (i := 1) rfl), List.forall_mem_cons.mpr ⟨pm_X9_coins_r2 _ (List.mem_of_getElem? (i := 2) rfl), List.forall_mem_cons.mpr ⟨pm_X9_coins_r2 _ (List.mem_of_getElem? (i := 3) rfl), List.forall_mem_cons.mpr ⟨pm_X9_coins_r2 _ (List.mem_of_getElem? (i := 4) rfl), List.forall_mem_cons.mpr ⟨pm_X9_coins_r2 _ (List.mem_of_getElem? (i := 5) rfl), List.forall_mem_cons.mpr ⟨pm_X9_coins_r2 _ (List.mem_of_getElem? (i := 6) rfl), List.forall_mem_cons.mpr ⟨pm_X9_coins_r2 _ (List.mem_of_getElem? (i := 7) rfl), List.forall_mem_cons.mpr ⟨pm_X9_coins_r2 _ (List.mem_of_getElem? (i := 8) rfl), List.forall_mem_cons.mpr ⟨pm_X9_coins_r2 _ (List.mem_of_getElem? (i := 9) rfl), List.forall_mem_cons.mpr ⟨pm_X9_coins_r2 _ (List.mem_of_getElem? (i := 10) rfl), List.forall_mem_cons.mpr ⟨pm_X9_coins_r2 _ (List.mem_of_getElem? (i := 11) rfl), List.forall_mem_cons.mpr ⟨pm_X9_coins_r2 _ (List.mem_of_getElem? (i := 12) rfl), List.forall_mem_cons.mpr ⟨pm_X9_coins_r2 _ (List.mem_of_getElem? (i := 13) rfl), List.forall_mem_cons.mpr ⟨pm_X9_coins_r1 _ (List.mem_of_getElem? (i := 20) rfl), List.forall_mem_cons.mpr ⟨pm_X9_coins_r2 _ (List.mem_of_getElem? (i := 14) rfl), List.forall_mem_cons.mpr ⟨pm_X9_coins_r2 _ (List.mem_of_getElem? (i := 15) rfl), List.forall_mem_cons.mpr ⟨pm_X9_coins_r2 _ (List.mem_of_getElem? (i := 16) rfl), List.forall_mem_cons.mpr ⟨pm_X9_coins_r2 _ (List.mem_of_getElem? (i := 17) rfl), List.forall_mem_cons.mpr ⟨pm_X9_coins_r2 _ (List.mem_of_getElem? (i := 18) rfl), List.forall_mem_cons.mpr ⟨pm_X9_coins_r2 _ (List.mem_of_getElem? (i := 19) rfl), List.forall_mem_cons.mpr ⟨pm_X9_coins_r2 _ (List.mem_of_getElem? (i := 20) rfl), fun _ h => absurd h List.not_mem_nil⟩⟩⟩⟩⟩⟩⟩⟩⟩⟩⟩⟩⟩⟩⟩⟩⟩⟩⟩⟩⟩⟩⟩⟩
set_option maxRecDepth 20000 in
theorem pq_X9_coins_X0_find_r2 : ∀ w ∈ wsX0_find_r2, w ∈ wsX9_coins := List.forall_mem_cons.mpr ⟨pm_X9_coins_r2 _ (List.mem_of_getElem? (i := 21) rfl), List.forall_mem_cons.mpr ⟨pm_X9_coins_r2 _ (List.mem_of_getElem? (i := 22) rfl), List.forall_mem_cons.mpr ⟨pm_X9_coins_r2 _ (List.mem_of_getElem? (i := 23) rfl), List.forall_mem_cons.mpr ⟨pm_X9_coins_r3 _ (List.mem_of_getElem? (i := 0) rfl), List.forall_mem_cons.mpr ⟨pm_X9_coins_r3 _ (List.mem_of_getElem? (i := 1) rfl), List.forall_mem_cons.mpr ⟨pm_X9_coins_r3 _ (List.mem_of_getElem? (i := 2) rfl), List.forall_mem_cons.mpr ⟨pm_X9_coins_r3 _ (List.mem_of_getElem? (i := 3) rfl), List.forall_mem_cons.mpr ⟨pm_X9_coins_r3 _ (List.mem_of_getElem? (i := 4) rfl), List.forall_mem_cons.mpr ⟨pm_X9_coins_r3 _ (List.mem_of_getElem? (i := 5) rfl), List.forall_mem_cons.mpr ⟨pm_X9_coins_r3 _ (List.mem_of_getElem? (i := 6) rfl), List.forall_mem_cons.mpr ⟨pm_X9_coins_r3 _ (List.mem_of_getElem? (i := 7) rfl), List.forall_mem_cons.mpr ⟨pm_X9_coins_r3 _ (List.mem_of_getElem? (i := 8) rfl), List.forall_mem_cons.mpr ⟨pm_X9_coins_r3 _ (List.mem_of_getElem? (i := 9) rfl), List.forall_mem_cons.mpr ⟨pm_X9_coins_r3 _ (List.mem_of_getElem? (i := 10) rfl), List.forall_mem_cons.mpr ⟨pm_X9_coins_r3 _ (List.mem_of_getElem? (i := 11) rfl), List.forall_mem_cons.mpr ⟨pm_X9_coins_r3 _ (List.mem_of_getElem? (i := 12) rfl), List.forall_mem_cons.mpr ⟨pm_X9_coins_r3 _ (List.mem_of_getElem? (i := 13) rfl), List.forall_mem_cons.mpr ⟨pm_X9_coins_r3 _ (List.mem_of_getElem? (i := 14) rfl), List.forall_mem_cons.mpr ⟨pm_X9_coins_r3 _ (List.mem_of_getElem? (i := 15) rfl), List.forall_mem_cons.mpr ⟨pm_X9_coins_r3 _ (List.mem_of_getElem? (i := 16) rfl), List.forall_mem_cons.mpr ⟨pm_X9_coins_r3 _ (List.mem_of_getElem? (i := 17) rfl), List.forall_mem_cons.mpr ⟨pm_X9_coins_r3 _ (List.mem_of_getElem? (i := 18) rfl), List.forall_mem_cons.mpr ⟨pm_X9_coins_r3 _ (List.mem_of_getElem? (i := 19) rfl), List.forall_mem_cons.mpr ⟨pm_X9_coins_r3 _ (List.mem_of_getElem? (i := 20) rfl), fun _ h => absurd h List.not_mem_nil⟩⟩⟩⟩⟩⟩⟩⟩⟩⟩⟩⟩⟩⟩⟩⟩⟩⟩⟩⟩⟩⟩⟩⟩
set_option maxRecDepth 20000 in
theorem pq_X9_coins_X0_find_r3 : ∀ w ∈ wsX0_find_r3, w ∈ wsX9_coins := List.forall_mem_cons.mpr ⟨pm_X9_coins_r3 _ (List.mem_of_getElem? (i := 21) rfl), List.forall_mem_cons.mpr ⟨pm_X9_coins_r3 _ (List.mem_of_getElem? (i := 22) rfl), List.forall_mem_cons.mpr ⟨pm_X9_coins_r3 _ (List.mem_of_getElem? (i := 23) rfl), List.forall_mem_cons.mpr ⟨pm_X9_coins_r4 _ (List.mem_of_getElem? (i := 0) rfl), List.forall_mem_cons.mpr ⟨pm_X9_coins_r4 _ (List.mem_of_getElem? (i := 1) rfl), List.forall_mem_cons.mpr ⟨pm_X9_coins_r4 _ (List.mem_of_getElem? (i := 2) rfl), List.forall_mem_cons.mpr ⟨pm_X9_coins_r4 _ (List.mem_of_getElem? (i := 3) rfl), List.forall_mem_cons.mpr ⟨pm_X9_coins_r4 _ (List.mem_of_getElem? (i := 4) rfl), List.forall_mem_cons.mpr ⟨pm_X9_coins_r4 _ (List.mem_of_getElem? (i := 5) rfl), List.forall_mem_cons.mpr ⟨pm_X9_coins_r4 _ (List.mem_of_getElem? (i := 6) rfl), List.forall_mem_cons.mpr ⟨pm_X9_coins_r4 _ (List.mem_of_getElem? (i := 7) rfl), List.forall_mem_cons.mpr ⟨pm_X9_coins_r4 _ (List.mem_of_getElem? (i := 8) rfl), List.forall_mem_cons.mpr ⟨pm_X9_coins_r4 _ (List.mem_of_getElem? (i := 9) rfl), List.forall_mem_cons.mpr ⟨pm_X9_coins_r4 _ (List.mem_of_getElem? (i := 10) rfl), List.forall_mem_cons.mpr ⟨pm_X9_coins_r4 _ (List.mem_of_getElem? (i := 11) rfl), List.forall_mem_cons.mpr ⟨pm_X9_coins_r4 _ (List.mem_of_getElem? (i := 12) rfl), List.forall_mem_cons.mpr ⟨pm_X9_coins_r4 _ (List.mem_of_getElem? (i := 13) rfl), List.forall_mem_cons.mpr ⟨pm_X9_coins_r4 _ (List.mem_of_getElem? (i := 14) rfl), List.forall_mem_cons.mpr ⟨pm_X9_coins_r4 _ (List.mem_of_getElem? (i := 15) rfl), List.forall_mem_cons.mpr ⟨pm_X9_coins_r4 _ (List.mem_of_getElem? (i := 16) rfl), List.forall_mem_cons.mpr ⟨pm_X9_coins_r4 _ (List.mem_of_getElem? (i := 17) rfl), List.forall_mem_cons.mpr ⟨pm_X9_coins_r4 _ (List.mem_of_getElem? (i := 18) rfl), List.forall_mem_cons.mpr ⟨pm_X9_coins_r4 _ (List.mem_of_getElem? (i := 19) rfl), List.forall_mem_cons.mpr ⟨pm_X9_coins_r4 _ (List.mem_of_getElem? (i := 20) rfl), fun _ h => absurd h List.not_mem_nil⟩⟩⟩⟩⟩⟩⟩⟩⟩⟩⟩⟩⟩⟩⟩⟩⟩⟩⟩⟩⟩⟩⟩⟩
set_option maxRecDepth 20000 in
theorem pq_X9_coins_X0_find_r4 : ∀ w ∈ wsX0_find_r4, w ∈ wsX9_coins := List.forall_mem_cons.mpr ⟨pm_X9_coins_r4 _ (List.mem_of_getElem? (i := 21) rfl), List.forall_mem_cons.mpr ⟨pm_X9_coins_r4 _ (List.mem_of_getElem? (i := 22) rfl), fun _ h => absurd h List.not_mem_nil⟩⟩
set_option maxRecDepth 20000 in
theorem ggX9_coins_X0_find : GoodIn wsX9_coins wsX0_find := goodIn_sub (List.forall_mem_cons.mpr ⟨pm_X9_coins_r1 _ (List.mem_of_getElem? (i := 21) rfl), List.forall_mem_append.mpr ⟨List.forall_mem_append.mpr ⟨List.forall_mem_append.mpr ⟨pq_X9_coins_X0_find_r1, List.forall_mem_append.mpr ⟨pq_X9_coins_X0_find_r2, List.forall_mem_append.mpr ⟨pq_X9_coins_X0_find_r3, pq_X9_coins_X0_find_r4⟩⟩⟩, pw_X9_coins_X3⟩, pw_X9_coins_X0⟩⟩) (by decide +kernel)
set_option maxRecDepth 20000 in
theorem gX9_coins_X0_find : GoodIn wsX9_coins (wsV RX9 213 RX0 yX0_find wsX0_find) := goodIn_app (goodIn_of _ (by decide +kernel)) ggX9_coins_X0_find
set_option maxRecDepth 20000 in
theorem ggX9_coins_X2_become : GoodIn wsX9_coins wsX2_become := goodIn_sub (List.forall_mem_cons.mpr ⟨pm_X9_coins_r5 _ (List.mem_of_getElem? (i := 3) rfl), List.forall_mem_append.mpr ⟨List.forall_mem_cons.mpr ⟨pm_X9_coins_r5 _ (List.mem_of_getElem? (i := 4) rfl), List.forall_mem_cons.mpr ⟨pm_X9_coins_r5 _ (List.mem_of_getElem? (i := 5) rfl), List.forall_mem_cons.mpr ⟨pm_X9_coins_r2 _ (List.mem_of_getElem? (i := 4) rfl), List.forall_mem_cons.mpr ⟨pm_X9_coins_r5 _ (List.mem_of_getElem? (i := 6) rfl), List.forall_mem_cons.mpr ⟨pm_X9_coins_r5 _ (List.mem_of_getElem? (i := 7) rfl), List.forall_mem_cons.mpr ⟨pm_X9_coins_r5 _ (List.mem_of_getElem? (i := 8) rfl), List.forall_mem_cons.mpr ⟨pm_X9_coins_r5 _ (List.mem_of_getElem? (i := 9) rfl), List.forall_mem_cons.mpr ⟨pm_X9_coins_r5 _ (List.mem_of_getElem? (i := 10) rfl), List.forall_mem_cons.mpr ⟨pm_X9_coins_r5 _ (List.mem_of_getElem? (i := 2) rfl), List.forall_mem_cons.mpr ⟨pm_X9_coins_r5 _ (List.mem_of_getElem? (i := 11) rfl), List.forall_mem_cons.mpr ⟨pm_X9_coins_r5 _ (List.mem_of_getElem? (i := 12) rfl), List.forall_mem_cons.mpr ⟨pm_X9_coins_r5 _ (List.mem_of_getElem? (i := 13) rfl), List.forall_mem_cons.mpr ⟨pm_X9_coins_r5 _ (List.mem_of_getElem? (i := 14) rfl), List.forall_mem_cons.mpr ⟨pm_X9_coins_r5 _ (List.mem_of_getElem? (i := 15) rfl), List.forall_mem_cons.mpr ⟨pm_X9_coins_r5 _ (List.mem_of_getElem? (i := 16) rfl), fun _ h => absurd h List.not_mem_nil⟩⟩⟩⟩⟩⟩⟩⟩⟩⟩⟩⟩⟩⟩⟩, pw_X9_coins_X2⟩⟩) (by decide +kernel)
set_option maxRecDepth 20000 in
theorem gX9_coins_X2_become : GoodIn wsX9_coins (wsV RX9 190 RX2 yX2_become wsX2_become) := goodIn_app (goodIn_of _ (by decide +kernel)) ggX9_coins_X2_become
theorem dX9_coins_0 : decode cX9_coins 0 = .ok (.aload_n 0, 1) := by decide +kernel
theorem dX9_coins_1 : decode cX9_coins 1 = .ok (.iload_n 1, 1) := by decide +kernel
theorem dX9_coins_2 : decode cX9_coins 2 = .ok (.invokevirtual 140, 3) := by decide +kernel
theorem dX9_coins_5 : decode cX9_coins 5 = .ok (.ifCond .eq 13, 3) := by decide +kernel
theorem dX9_coins_8 : decode cX9_coins 8 = .ok (.iload_n 2, 1) := by decide +kernel
theorem dX9_coins_9 : decode cX9_coins 9 = .ok (.ifCond .lt 9, 3) := by decide +kernel
theorem dX9_coins_12 : decode cX9_coins 12 = .ok (.iload_n 2, 1) := by decide +kernel
theorem dX9_coins_13 : decode cX9_coins 13 = .ok (.bipush 20, 2) := by decide +kernel
theorem dX9_coins_15 : decode cX9_coins 15 = .ok (.if_icmp .le 6, 3) := by decide +kernel
theorem dX9_coins_18 : decode cX9_coins 18 = .ok (.bipush (-2), 2) := by decide +kernel
theorem dX9_coins_20 : decode cX9_coins 20 = .ok (.ireturn, 1) := by decide +kernel
theorem dX9_coins_21 : decode cX9_coins 21 = .ok (.aload_n 0, 1) := by decide +kernel
theorem dX9_coins_22 : decode cX9_coins 22 = .ok (.getfield 68, 3) := by decide +kernel
theorem dX9_coins_25 : decode cX9_coins 25 = .ok (.aload_n 0, 1) := by decide +kernel
theorem dX9_coins_26 : decode cX9_coins 26 = .ok (.getfield 19, 3) := by decide +kernel
theorem dX9_coins_29 : decode cX9_coins 29 = .ok (.iload_n 1, 1) := by decide +kernel
theorem dX9_coins_30 : decode cX9_coins 30 = .ok (.iload_n 2, 1) := by decide +kernel
theorem dX9_coins_31 : decode cX9_coins 31 = .ok (.invokevirtual 213, 3) := by decide +kernel
theorem dX9_coins_34 : decode cX9_coins 34 = .ok (.ifCond .ne 5, 3) := by decide +kernel
theorem dX9_coins_37 : decode cX9_coins 37 = .ok (.iconst (-1), 1) := by decide +kernel
theorem dX9_coins_38 : decode cX9_coins 38 = .ok (.ireturn, 1) := by decide +kernel
theorem dX9_coins_39 : decode cX9_coins 39 = .ok (.aload_n 0, 1) := by decide +kernel
theorem dX9_coins_40 : decode cX9_coins 40 = .ok (.getfield 30, 3) := by decide +kernel
theorem dX9_coins_43 : decode cX9_coins 43 = .ok (.aload_n 0, 1) := by decide +kernel
theorem dX9_coins_44 : decode cX9_coins 44 = .ok (.getfield 68, 3) := by decide +kernel
theorem dX9_coins_47 : decode cX9_coins 47 = .ok (.getfield 217, 3) := by decide +kernel
theorem dX9_coins_50 : decode cX9_coins 50 = .ok (.i2l, 1) := by decide +kernel
theorem dX9_coins_51 : decode cX9_coins 51 = .ok (.aload_n 0, 1) := by decide +kernel
theorem dX9_coins_52 : decode cX9_coins 52 = .ok (.getfield 19, 3) := by decide +kernel
theorem dX9_coins_55 : decode cX9_coins 55 = .ok (.getfield 127, 3) := by decide +kernel
theorem dX9_coins_58 : decode cX9_coins 58 = .ok (.i2l, 1) := by decide +kernel
theorem dX9_coins_59 : decode cX9_coins 59 = .ok (.aload_n 0, 1) := by decide +kernel
theorem dX9_coins_60 : decode cX9_coins 60 = .ok (.getfield 19, 3) := by decide +kernel
theorem dX9_coins_63 : decode cX9_coins 63 = .ok (.getfield 101, 3) := by decide +kernel
theorem dX9_coins_66 : decode cX9_coins 66 = .ok (.i2l, 1) := by decide +kernel
theorem dX9_coins_67 : decode cX9_coins 67 = .ok (.lmul, 1) := by decide +kernel
theorem dX9_coins_68 : decode cX9_coins 68 = .ok (.ladd, 1) := by decide +kernel
theorem dX9_coins_69 : decode cX9_coins 69 = .ok (.aload_n 0, 1) := by decide +kernel
theorem dX9_coins_70 : decode cX9_coins 70 = .ok (.getfield 19, 3) := by decide +kernel
theorem dX9_coins_73 : decode cX9_coins 73 = .ok (.getfield 127, 3) := by decide +kernel
theorem dX9_coins_76 : decode cX9_coins 76 = .ok (.i2l, 1) := by decide +kernel
theorem dX9_coins_77 : decode cX9_coins 77 = .ok (.invokevirtual 190, 3) := by decide +kernel
theorem dX9_coins_80 : decode cX9_coins 80 = .ok (.iconst 0, 1) := by decide +kernel
theorem dX9_coins_81 : decode cX9_coins 81 = .ok (.istore_n 3, 1) := by decide +kernel
theorem dX9_coins_82 : decode cX9_coins 82 = .ok (.iload_n 3, 1) := by decide +kernel
theorem dX9_coins_83 : decode cX9_coins 83 = .ok (.aload_n 0, 1) := by decide +kernel
theorem dX9_coins_84 : decode cX9_coins 84 = .ok (.getfield 19, 3) := by decide +kernel
theorem dX9_coins_87 : decode cX9_coins 87 = .ok (.getfield 124, 3) := by decide +kernel
theorem dX9_coins_90 : decode cX9_coins 90 = .ok (.if_icmp .ge 40, 3) := by decide +kernel
theorem dX9_coins_93 : decode cX9_coins 93 = .ok (.aload_n 0, 1) := by decide +kernel
theorem dX9_coins_94 : decode cX9_coins 94 = .ok (.getfield 40, 3) := by decide +kernel
theorem dX9_coins_97 : decode cX9_coins 97 = .ok (.iload_n 3, 1) := by decide +kernel
theorem dX9_coins_98 : decode cX9_coins 98 = .ok (.aload_n 0, 1) := by decide +kernel
theorem dX9_coins_99 : decode cX9_coins 99 = .ok (.getfield 19, 3) := by decide +kernel
theorem dX9_coins_102 : decode cX9_coins 102 = .ok (.getfield 101, 3) := by decide +kernel
theorem dX9_coins_105 : decode cX9_coins 105 = .ok (.aload_n 0, 1) := by decide +kernel
theorem dX9_coins_106 : decode cX9_coins 106 = .ok (.getfield 68, 3) := by decide +kernel
theorem dX9_coins_109 : decode cX9_coins 109 = .ok (.getfield 220, 3) := by decide +kernel
theorem dX9_coins_112 : decode cX9_coins 112 = .ok (.iload_n 3, 1) := by decide +kernel
theorem dX9_coins_113 : decode cX9_coins 113 = .ok (.iaload, 1) := by decide +kernel
theorem dX9_coins_114 : decode cX9_coins 114 = .ok (.iadd, 1) := by decide +kernel
theorem dX9_coins_115 : decode cX9_coins 115 = .ok (.i2l, 1) := by decide +kernel
theorem dX9_coins_116 : decode cX9_coins 116 = .ok (.lastore, 1) := by decide +kernel
theorem dX9_coins_117 : decode cX9_coins 117 = .ok (.aload_n 0, 1) := by decide +kernel
theorem dX9_coins_118 : decode cX9_coins 118 = .ok (.getfield 44, 3) := by decide +kernel
theorem dX9_coins_121 : decode cX9_coins 121 = .ok (.iload_n 3, 1) := by decide +kernel
theorem dX9_coins_122 : decode cX9_coins 122 = .ok (.lconst 1, 1) := by decide +kernel
theorem dX9_coins_123 : decode cX9_coins 123 = .ok (.lastore, 1) := by decide +kernel
theorem dX9_coins_124 : decode cX9_coins 124 = .ok (.iinc 3 1, 3) := by decide +kernel
theorem dX9_coins_127 : decode cX9_coins 127 = .ok (.goto (-45), 3) := by decide +kernel
theorem dX9_coins_130 : decode cX9_coins 130 = .ok (.aload_n 0, 1) := by decide +kernel
theorem dX9_coins_131 : decode cX9_coins 131 = .ok (.iconst 1, 1) := by decide +kernel
theorem dX9_coins_132 : decode cX9_coins 132 = .ok (.putfield 47, 3) := by decide +kernel
theorem dX9_coins_135 : decode cX9_coins 135 = .ok (.iconst 1, 1) := by decide +kernel
theorem dX9_coins_136 : decode cX9_coins 136 = .ok (.ireturn, 1) := by decide +kernel
theorem pm_X9_bar_r1 : ∀ w ∈ wsX9_bar_r1, w ∈ wsX9_bar := fun _ h => List.mem_cons_of_mem _ (List.mem_append_left _ (List.mem_append_left _ (List.mem_append_left _ (List.mem_append_left _ (List.mem_append_left _ h)))))
theorem pm_X9_bar_r2 : ∀ w ∈ wsX9_bar_r2, w ∈ wsX9_bar := fun _ h => List.mem_cons_of_mem _ (List.mem_append_left _ (List.mem_append_left _ (List.mem_append_left _ (List.mem_append_left _ (List.mem_append_right _ (List.mem_append_left _ h))))))
theorem pm_X9_bar_r3 : ∀ w ∈ wsX9_bar_r3, w ∈ wsX9_bar := fun _ h => List.mem_cons_of_mem _ (List.mem_append_left _ (List.mem_append_left _ (List.mem_append_left _ (List.mem_append_left _ (List.mem_append_right _ (List.mem_append_right _ (List.mem_append_left _ h)))))))
theorem pm_X9_bar_r4 : ∀ w ∈ wsX9_bar_r4, w ∈ wsX9_bar := fun _ h => List.mem_cons_of_mem _ (List.mem_append_left _ (List.mem_append_left _ (List.mem_append_left _ (List.mem_append_left _ (List.mem_append_right _ (List.mem_append_right _ (List.mem_append_right _ (List.mem_append_left _ h))))))))
theorem pm_X9_bar_r5 : ∀ w ∈ wsX9_bar_r5, w ∈ wsX9_bar := fun _ h => List.mem_cons_of_mem _ (List.mem_append_left _ (List.mem_append_left _ (List.mem_append_left _ (List.mem_append_left _ (List.mem_append_right _ (List.mem_append_right _ (List.mem_append_right _ (List.mem_append_right _ (h)))))))))
theorem pw_X9_bar_X9 : ∀ w ∈ wsX90, w ∈ wsX9_bar := fun _ h => List.mem_cons_of_mem _ (List.mem_append_left _ (List.mem_append_left _ (List.mem_append_left _ (List.mem_append_right _ h))))
theorem pw_X9_bar_X3 : ∀ w ∈ wsX30, w ∈ wsX9_bar := fun _ h => List.mem_cons_of_mem _ (List.mem_append_left _ (List.mem_append_left _ (List.mem_append_right _ h)))
theorem pw_X9_bar_X5 : ∀ w ∈ wsX50, w ∈ wsX9_bar := fun _ h => List.mem_cons_of_mem _ (List.mem_append_left _ (List.mem_append_right _ h))
theorem pw_X9_bar_X2 : ∀ w ∈ wsX20, w ∈ wsX9_bar := fun _ h => List.mem_cons_of_mem _ (List.mem_append_right _ h)
set_option maxRecDepth 20000 in
theorem ggX9_bar_X9_isWork : GoodIn wsX9_bar wsX9_isWork := goodIn_sub (List.forall_mem_cons.mpr ⟨pm_X9_bar_r1 _ (List.mem_of_getElem? (i := 11) rfl), List.forall_mem_append.mpr ⟨List.forall_mem_append.mpr ⟨List.forall_mem_cons.mpr ⟨pm_X9_bar_r1 _ (List.mem_of_getElem? (i := 0) rfl), List.forall_mem_cons.mpr ⟨pm_X9_bar_r1 _ (List.mem_of_getElem? (i := 12) rfl), fun _ h => absurd h List.not_mem_nil⟩⟩, pw_X9_bar_X9⟩, pw_X9_bar_X3⟩⟩) (by decide +kernel)
set_option maxRecDepth 20000 in
theorem gX9_bar_X9_isWork : GoodIn wsX9_bar (wsV RX9 140 RX9 yX9_isWork wsX9_isWork) := goodIn_app (goodIn_of _ (by decide +kernel)) ggX9_bar_X9_isWork
set_option maxRecDepth 20000 in
theorem pq_X9_bar_X5_settle_r1 : ∀ w ∈ wsX5_settle_r1, w ∈ wsX9_bar := List.forall_mem_cons.mpr ⟨pm_X9_bar_r1 _ (List.mem_of_getElem? (i := 18) rfl), List.forall_mem_cons.mpr ⟨pm_X9_bar_r1 _ (List.mem_of_getElem? (i := 19) rfl), List.forall_mem_cons.mpr ⟨pm_X9_bar_r1 _ (List.mem_of_getElem? (i := 20) rfl), List.forall_mem_cons.mpr ⟨pm_X9_bar_r1 _ (List.mem_of_getElem? (i := 21) rfl), List.forall_mem_cons.mpr ⟨pm_X9_bar_r1 _ (List.mem_of_getElem? (i := 16) rfl), List.forall_mem_cons.mpr ⟨pm_X9_bar_r1 _ (List.mem_of_getElem? (i := 22) rfl), List.forall_mem_cons.mpr ⟨pm_X9_bar_r1 _ (List.mem_of_getElem? (i := 23) rfl), List.forall_mem_cons.mpr ⟨pm_X9_bar_r2 _ (List.mem_of_getElem? (i := 0) rfl), List.forall_mem_cons.mpr ⟨pm_X9_bar_r2 _ (List.mem_of_getElem? (i := 1) rfl), List.forall_mem_cons.mpr ⟨pm_X9_bar_r2 _ (List.mem_of_getElem? (i := 2) rfl), List.forall_mem_cons.mpr ⟨pm_X9_bar_r2 _ (List.mem_of_getElem? (i := 3) rfl), List.forall_mem_cons.mpr ⟨pm_X9_bar_r2 _ (List.mem_of_getElem? (i := 4) rfl), List.forall_mem_cons.mpr ⟨pm_X9_bar_r2 _ (List.mem_of_getElem? (i := 5) rfl), List.forall_mem_cons.mpr ⟨pm_X9_bar_r2 _ (List.mem_of_getElem? (i := 6) rfl), List.forall_mem_cons.mpr ⟨pm_X9_bar_r2 _ (List.mem_of_getElem? (i := 7) rfl), List.forall_mem_cons.mpr ⟨pm_X9_bar_r2 _ (List.mem_of_getElem? (i := 8) rfl), List.forall_mem_cons.mpr ⟨pm_X9_bar_r2 _ (List.mem_of_getElem? (i := 9) rfl), List.forall_mem_cons.mpr ⟨pm_X9_bar_r2 _ (List.mem_of_getElem? (i := 10) rfl), List.forall_mem_cons.mpr ⟨pm_X9_bar_r2 _ (List.mem_of_getElem? (i := 11) rfl), List.forall_mem_cons.mpr ⟨pm_X9_bar_r2 _ (List.mem_of_getElem? (i := 12) rfl), List.forall_mem_cons.mpr ⟨pm_X9_bar_r2 _ (List.mem_of_getElem? (i := 13) rfl), List.forall_mem_cons.mpr ⟨pm_X9_bar_r2 _ (List.mem_of_getElem? (i := 14) rfl), List.forall_mem_cons.mpr ⟨pm_X9_bar_r2 _ (List.mem_of_getElem? (i := 15) rfl), List.forall_mem_cons.mpr ⟨pm_X9_bar_r2 _ (List.mem_of_getElem? (i := 16) rfl), fun _ h => absurd h List.not_mem_nil⟩⟩⟩⟩⟩⟩⟩⟩⟩⟩⟩⟩⟩⟩⟩⟩⟩⟩⟩⟩⟩⟩⟩⟩
set_option maxRecDepth 20000 in
theorem pq_X9_bar_X5_settle_r2 : ∀ w ∈ wsX5_settle_r2, w ∈ wsX9_bar := List.forall_mem_cons.mpr ⟨pm_X9_bar_r2 _ (List.mem_of_getElem? (i := 17) rfl), List.forall_mem_cons.mpr ⟨pm_X9_bar_r2 _ (List.mem_of_getElem? (i := 18) rfl), List.forall_mem_cons.mpr ⟨pm_X9_bar_r2 _ (List.mem_of_getElem? (i := 19) rfl), List.forall_mem_cons.mpr ⟨pm_X9_bar_r2 _ (List.mem_of_getElem? (i := 20) rfl), List.forall_mem_cons.mpr ⟨pm_X9_bar_r2 _ (List.mem_of_getElem? (i := 21) rfl), List.forall_mem_cons.mpr ⟨pm_X9_bar_r2 _ (List.mem_of_getElem? (i := 22) rfl), List.forall_mem_cons.mpr ⟨pm_X9_bar_r2 _ (List.mem_of_getElem? (i := 23) rfl), List.forall_mem_cons.mpr ⟨pm_X9_bar_r3 _ (List.mem_of_getElem? (i := 0) rfl), List.forall_mem_cons.mpr ⟨pm_X9_bar_r3 _ (List.mem_of_getElem? (i := 1) rfl), List.forall_mem_cons.mpr ⟨pm_X9_bar_r3 _ (List.mem_of_getElem? (i := 2) rfl), List.forall_mem_cons.mpr ⟨pm_X9_bar_r3 _ (List.mem_of_getElem? (i := 3) rfl), List.forall_mem_cons.mpr ⟨pm_X9_bar_r3 _ (List.mem_of_getElem? (i := 4) rfl), List.forall_mem_cons.mpr ⟨pm_X9_bar_r3 _ (List.mem_of_getElem? (i := 5) rfl), List.forall_mem_cons.mpr ⟨pm_X9_bar_r3 _ (List.mem_of_getElem? (i := 6) rfl), List.forall_mem_cons.mpr ⟨pm_X9_bar_r3 _ (List.mem_of_getElem? (i := 7) rfl), List.forall_mem_cons.mpr ⟨pm_X9_bar_r3 _ (List.mem_of_getElem? (i := 8) rfl), List.forall_mem_cons.mpr ⟨pm_X9_bar_r3 _ (List.mem_of_getElem? (i := 9) rfl), List.forall_mem_cons.mpr ⟨pm_X9_bar_r3 _ (List.mem_of_getElem? (i := 10) rfl), List.forall_mem_cons.mpr ⟨pm_X9_bar_r3 _ (List.mem_of_getElem? (i := 11) rfl), List.forall_mem_cons.mpr ⟨pm_X9_bar_r3 _ (List.mem_of_getElem? (i := 12) rfl), List.forall_mem_cons.mpr ⟨pm_X9_bar_r3 _ (List.mem_of_getElem? (i := 13) rfl), fun _ h => absurd h List.not_mem_nil⟩⟩⟩⟩⟩⟩⟩⟩⟩⟩⟩⟩⟩⟩⟩⟩⟩⟩⟩⟩⟩
set_option maxRecDepth 20000 in
theorem ggX9_bar_X5_settle : GoodIn wsX9_bar wsX5_settle := goodIn_sub (List.forall_mem_cons.mpr ⟨pm_X9_bar_r1 _ (List.mem_of_getElem? (i := 17) rfl), List.forall_mem_append.mpr ⟨List.forall_mem_append.mpr ⟨List.forall_mem_append.mpr ⟨pq_X9_bar_X5_settle_r1, pq_X9_bar_X5_settle_r2⟩, pw_X9_bar_X3⟩, pw_X9_bar_X5⟩⟩) (by decide +kernel)
set_option maxRecDepth 20000 in
theorem gX9_bar_X5_settle : GoodIn wsX9_bar (wsV RX9 223 RX5 yX5_settle wsX5_settle) := goodIn_app (goodIn_of _ (by decide +kernel)) ggX9_bar_X5_settle
set_option maxRecDepth 20000 in
theorem ggX9_bar_X3_chanceFrom : GoodIn wsX9_bar wsX3_chanceFrom := goodIn_sub (List.forall_mem_cons.mpr ⟨pm_X9_bar_r2 _ (List.mem_of_getElem? (i := 8) rfl), List.forall_mem_append.mpr ⟨List.forall_mem_cons.mpr ⟨pm_X9_bar_r2 _ (List.mem_of_getElem? (i := 9) rfl), List.forall_mem_cons.mpr ⟨pm_X9_bar_r2 _ (List.mem_of_getElem? (i := 10) rfl), List.forall_mem_cons.mpr ⟨pm_X9_bar_r2 _ (List.mem_of_getElem? (i := 11) rfl), fun _ h => absurd h List.not_mem_nil⟩⟩⟩, pw_X9_bar_X3⟩⟩) (by decide +kernel)
set_option maxRecDepth 20000 in
theorem gX9_bar_X3_chanceFrom : GoodIn wsX9_bar (wsV RX9 227 RX3 yX3_chanceFrom wsX3_chanceFrom) := goodIn_app (goodIn_of _ (by decide +kernel)) ggX9_bar_X3_chanceFrom
set_option maxRecDepth 20000 in
theorem pq_X9_bar_X5_meanInto_r1 : ∀ w ∈ wsX5_meanInto_r1, w ∈ wsX9_bar := List.forall_mem_cons.mpr ⟨pm_X9_bar_r3 _ (List.mem_of_getElem? (i := 19) rfl), List.forall_mem_cons.mpr ⟨pm_X9_bar_r2 _ (List.mem_of_getElem? (i := 0) rfl), List.forall_mem_cons.mpr ⟨pm_X9_bar_r1 _ (List.mem_of_getElem? (i := 23) rfl), List.forall_mem_cons.mpr ⟨pm_X9_bar_r3 _ (List.mem_of_getElem? (i := 20) rfl), List.forall_mem_cons.mpr ⟨pm_X9_bar_r3 _ (List.mem_of_getElem? (i := 21) rfl), List.forall_mem_cons.mpr ⟨pm_X9_bar_r3 _ (List.mem_of_getElem? (i := 22) rfl), List.forall_mem_cons.mpr ⟨pm_X9_bar_r2 _ (List.mem_of_getElem? (i := 20) rfl), List.forall_mem_cons.mpr ⟨pm_X9_bar_r2 _ (List.mem_of_getElem? (i := 21) rfl), List.forall_mem_cons.mpr ⟨pm_X9_bar_r2 _ (List.mem_of_getElem? (i := 7) rfl), List.forall_mem_cons.mpr ⟨pm_X9_bar_r2 _ (List.mem_of_getElem? (i := 22) rfl), List.forall_mem_cons.mpr ⟨pm_X9_bar_r2 _ (List.mem_of_getElem? (i := 23) rfl), List.forall_mem_cons.mpr ⟨pm_X9_bar_r3 _ (List.mem_of_getElem? (i := 0) rfl), List.forall_mem_cons.mpr ⟨pm_X9_bar_r3 _ (List.mem_of_getElem? (i := 1) rfl), List.forall_mem_cons.mpr ⟨pm_X9_bar_r3 _ (List.mem_of_getElem? (i := 2) rfl), List.forall_mem_cons.mpr ⟨pm_X9_bar_r3 _ (List.mem_of_getElem? (i := 3) rfl), List.forall_mem_cons.mpr ⟨pm_X9_bar_r3 _ (List.mem_of_getElem? (i := 4) rfl), List.forall_mem_cons.mpr ⟨pm_X9_bar_r3 _ (List.mem_of_getElem? (i := 5) rfl), List.forall_mem_cons.mpr ⟨pm_X9_bar_r3 _ (List.mem_of_getElem? (i := 23) rfl), List.forall_mem_cons.mpr ⟨pm_X9_bar_r4 _ (List.mem_of_getElem? (i := 0) rfl), List.forall_mem_cons.mpr ⟨pm_X9_bar_r4 _ (List.mem_of_getElem? (i := 1) rfl), List.forall_mem_cons.mpr ⟨pm_X9_bar_r4 _ (List.mem_of_getElem? (i := 2) rfl), List.forall_mem_cons.mpr ⟨pm_X9_bar_r4 _ (List.mem_of_getElem? (i := 3) rfl), List.forall_mem_cons.mpr ⟨pm_X9_bar_r4 _ (List.mem_of_getElem? (i := 4) rfl), List.forall_mem_cons.mpr ⟨pm_X9_bar_r4 _ (List.mem_of_getElem? (i := 5) rfl), fun _ h => absurd h List.not_mem_nil⟩⟩⟩⟩⟩⟩⟩⟩⟩⟩⟩⟩⟩⟩⟩⟩⟩⟩⟩⟩⟩⟩⟩⟩
set_option maxRecDepth 20000 in
theorem pq_X9_bar_X5_meanInto_r2 : ∀ w ∈ wsX5_meanInto_r2, w ∈ wsX9_bar := List.forall_mem_cons.mpr ⟨pm_X9_bar_r4 _ (List.mem_of_getElem? (i := 6) rfl), List.forall_mem_cons.mpr ⟨pm_X9_bar_r4 _ (List.mem_of_getElem? (i := 7) rfl), List.forall_mem_cons.mpr ⟨pm_X9_bar_r4 _ (List.mem_of_getElem? (i := 8) rfl), List.forall_mem_cons.mpr ⟨pm_X9_bar_r4 _ (List.mem_of_getElem? (i := 9) rfl), List.forall_mem_cons.mpr ⟨pm_X9_bar_r4 _ (List.mem_of_getElem? (i := 10) rfl), List.forall_mem_cons.mpr ⟨pm_X9_bar_r4 _ (List.mem_of_getElem? (i := 11) rfl), List.forall_mem_cons.mpr ⟨pm_X9_bar_r4 _ (List.mem_of_getElem? (i := 12) rfl), List.forall_mem_cons.mpr ⟨pm_X9_bar_r4 _ (List.mem_of_getElem? (i := 13) rfl), List.forall_mem_cons.mpr ⟨pm_X9_bar_r4 _ (List.mem_of_getElem? (i := 14) rfl), List.forall_mem_cons.mpr ⟨pm_X9_bar_r4 _ (List.mem_of_getElem? (i := 15) rfl), List.forall_mem_cons.mpr ⟨pm_X9_bar_r4 _ (List.mem_of_getElem? (i := 16) rfl), List.forall_mem_cons.mpr ⟨pm_X9_bar_r4 _ (List.mem_of_getElem? (i := 17) rfl), List.forall_mem_cons.mpr ⟨pm_X9_bar_r4 _ (List.mem_of_getElem? (i := 18) rfl), List.forall_mem_cons.mpr ⟨pm_X9_bar_r4 _ (List.mem_of_getElem? (i := 19) rfl), List.forall_mem_cons.mpr ⟨pm_X9_bar_r4 _ (List.mem_of_getElem? (i := 20) rfl), List.forall_mem_cons.mpr ⟨pm_X9_bar_r4 _ (List.mem_of_getElem? (i := 21) rfl), fun _ h => absurd h List.not_mem_nil⟩⟩⟩⟩⟩⟩⟩⟩⟩⟩⟩⟩⟩⟩⟩⟩
set_option maxRecDepth 20000 in
theorem ggX9_bar_X5_meanInto : GoodIn wsX9_bar wsX5_meanInto := goodIn_sub (List.forall_mem_cons.mpr ⟨pm_X9_bar_r3 _ (List.mem_of_getElem? (i := 18) rfl), List.forall_mem_append.mpr ⟨List.forall_mem_append.mpr ⟨List.forall_mem_append.mpr ⟨List.forall_mem_append.mpr ⟨pq_X9_bar_X5_meanInto_r1, pq_X9_bar_X5_meanInto_r2⟩, pw_X9_bar_X3⟩, pw_X9_bar_X5⟩, pw_X9_bar_X2⟩⟩) (by decide +kernel)
set_option maxRecDepth 20000 in
theorem gX9_bar_X5_meanInto : GoodIn wsX9_bar (wsV RX9 231 RX5 yX5_meanInto wsX5_meanInto) := goodIn_app (goodIn_of _ (by decide +kernel)) ggX9_bar_X5_meanInto
set_option maxRecDepth 20000 in
theorem ggX9_bar_X2_isBelow : GoodIn wsX9_bar wsX2_isBelow := goodIn_sub (List.forall_mem_cons.mpr ⟨pm_X9_bar_r5 _ (List.mem_of_getElem? (i := 0) rfl), List.forall_mem_append.mpr ⟨List.forall_mem_cons.mpr ⟨pm_X9_bar_r4 _ (List.mem_of_getElem? (i := 11) rfl), List.forall_mem_cons.mpr ⟨pm_X9_bar_r4 _ (List.mem_of_getElem? (i := 12) rfl), fun _ h => absurd h List.not_mem_nil⟩⟩, pw_X9_bar_X2⟩⟩) (by decide +kernel)
set_option maxRecDepth 20000 in
theorem gX9_bar_X2_isBelow : GoodIn wsX9_bar (va_wsS RX9 235 yX2_isBelow wsX2_isBelow) := goodIn_app (goodIn_of _ (by decide +kernel)) ggX9_bar_X2_isBelow
set_option maxRecDepth 20000 in
theorem ggX9_bar_X2_copy : GoodIn wsX9_bar wsX2_copy := goodIn_sub (List.forall_mem_cons.mpr ⟨pm_X9_bar_r5 _ (List.mem_of_getElem? (i := 4) rfl), List.forall_mem_append.mpr ⟨List.forall_mem_cons.mpr ⟨pm_X9_bar_r4 _ (List.mem_of_getElem? (i := 11) rfl), List.forall_mem_cons.mpr ⟨pm_X9_bar_r4 _ (List.mem_of_getElem? (i := 12) rfl), fun _ h => absurd h List.not_mem_nil⟩⟩, pw_X9_bar_X2⟩⟩) (by decide +kernel)
set_option maxRecDepth 20000 in
theorem gX9_bar_X2_copy : GoodIn wsX9_bar (wsV RX9 202 RX2 yX2_copy wsX2_copy) := goodIn_app (goodIn_of _ (by decide +kernel)) ggX9_bar_X2_copy
theorem dX9_bar_0 : decode cX9_bar 0 = .ok (.aload_n 0, 1) := by decide +kernel
theorem dX9_bar_1 : decode cX9_bar 1 = .ok (.iload_n 1, 1) := by decide +kernel
theorem dX9_bar_2 : decode cX9_bar 2 = .ok (.invokevirtual 140, 3) := by decide +kernel
theorem dX9_bar_5 : decode cX9_bar 5 = .ok (.ifCond .ne 6, 3) := by decide +kernel
theorem dX9_bar_8 : decode cX9_bar 8 = .ok (.bipush (-2), 2) := by decide +kernel
theorem dX9_bar_10 : decode cX9_bar 10 = .ok (.ireturn, 1) := by decide +kernel
theorem dX9_bar_11 : decode cX9_bar 11 = .ok (.iconst (-1), 1) := by decide +kernel
theorem dX9_bar_12 : decode cX9_bar 12 = .ok (.istore_n 2, 1) := by decide +kernel
theorem dX9_bar_13 : decode cX9_bar 13 = .ok (.iconst 0, 1) := by decide +kernel
theorem dX9_bar_14 : decode cX9_bar 14 = .ok (.istore_n 3, 1) := by decide +kernel
theorem dX9_bar_15 : decode cX9_bar 15 = .ok (.iload_n 3, 1) := by decide +kernel
theorem dX9_bar_16 : decode cX9_bar 16 = .ok (.aload_n 0, 1) := by decide +kernel
theorem dX9_bar_17 : decode cX9_bar 17 = .ok (.getfield 19, 3) := by decide +kernel
theorem dX9_bar_20 : decode cX9_bar 20 = .ok (.getfield 124, 3) := by decide +kernel
theorem dX9_bar_23 : decode cX9_bar 23 = .ok (.if_icmp .ge 99, 3) := by decide +kernel
theorem dX9_bar_26 : decode cX9_bar 26 = .ok (.aload_n 0, 1) := by decide +kernel
theorem dX9_bar_27 : decode cX9_bar 27 = .ok (.getfield 61, 3) := by decide +kernel
theorem dX9_bar_30 : decode cX9_bar 30 = .ok (.aload_n 0, 1) := by decide +kernel
theorem dX9_bar_31 : decode cX9_bar 31 = .ok (.getfield 19, 3) := by decide +kernel
theorem dX9_bar_34 : decode cX9_bar 34 = .ok (.iload_n 1, 1) := by decide +kernel
theorem dX9_bar_35 : decode cX9_bar 35 = .ok (.iload_n 3, 1) := by decide +kernel
theorem dX9_bar_36 : decode cX9_bar 36 = .ok (.iconst 1, 1) := by decide +kernel
theorem dX9_bar_37 : decode cX9_bar 37 = .ok (.aload_n 0, 1) := by decide +kernel
theorem dX9_bar_38 : decode cX9_bar 38 = .ok (.getfield 19, 3) := by decide +kernel
theorem dX9_bar_41 : decode cX9_bar 41 = .ok (.getfield 127, 3) := by decide +kernel
theorem dX9_bar_44 : decode cX9_bar 44 = .ok (.invokevirtual 223, 3) := by decide +kernel
theorem dX9_bar_47 : decode cX9_bar 47 = .ok (.ifCond .ne 6, 3) := by decide +kernel
theorem dX9_bar_50 : decode cX9_bar 50 = .ok (.goto 66, 3) := by decide +kernel
theorem dX9_bar_53 : decode cX9_bar 53 = .ok (.aload_n 0, 1) := by decide +kernel
theorem dX9_bar_54 : decode cX9_bar 54 = .ok (.getfield 61, 3) := by decide +kernel
theorem dX9_bar_57 : decode cX9_bar 57 = .ok (.aload_n 0, 1) := by decide +kernel
theorem dX9_bar_58 : decode cX9_bar 58 = .ok (.getfield 34, 3) := by decide +kernel
theorem dX9_bar_61 : decode cX9_bar 61 = .ok (.aload_n 0, 1) := by decide +kernel
theorem dX9_bar_62 : decode cX9_bar 62 = .ok (.getfield 19, 3) := by decide +kernel
theorem dX9_bar_65 : decode cX9_bar 65 = .ok (.aload_n 0, 1) := by decide +kernel
theorem dX9_bar_66 : decode cX9_bar 66 = .ok (.getfield 19, 3) := by decide +kernel
theorem dX9_bar_69 : decode cX9_bar 69 = .ok (.iload_n 1, 1) := by decide +kernel
theorem dX9_bar_70 : decode cX9_bar 70 = .ok (.iload_n 3, 1) := by decide +kernel
theorem dX9_bar_71 : decode cX9_bar 71 = .ok (.invokevirtual 227, 3) := by decide +kernel
theorem dX9_bar_74 : decode cX9_bar 74 = .ok (.aload_n 0, 1) := by decide +kernel
theorem dX9_bar_75 : decode cX9_bar 75 = .ok (.getfield 19, 3) := by decide +kernel
theorem dX9_bar_78 : decode cX9_bar 78 = .ok (.getfield 127, 3) := by decide +kernel
theorem dX9_bar_81 : decode cX9_bar 81 = .ok (.invokevirtual 231, 3) := by decide +kernel
theorem dX9_bar_84 : decode cX9_bar 84 = .ok (.iload_n 2, 1) := by decide +kernel
theorem dX9_bar_85 : decode cX9_bar 85 = .ok (.iconst (-1), 1) := by decide +kernel
theorem dX9_bar_86 : decode cX9_bar 86 = .ok (.if_icmp .eq 17, 3) := by decide +kernel
theorem dX9_bar_89 : decode cX9_bar 89 = .ok (.aload_n 0, 1) := by decide +kernel
theorem dX9_bar_90 : decode cX9_bar 90 = .ok (.getfield 34, 3) := by decide +kernel
theorem dX9_bar_93 : decode cX9_bar 93 = .ok (.aload_n 0, 1) := by decide +kernel
theorem dX9_bar_94 : decode cX9_bar 94 = .ok (.getfield 37, 3) := by decide +kernel
theorem dX9_bar_97 : decode cX9_bar 97 = .ok (.invokestatic 235, 3) := by decide +kernel
theorem dX9_bar_100 : decode cX9_bar 100 = .ok (.ifCond .eq 16, 3) := by decide +kernel
theorem dX9_bar_103 : decode cX9_bar 103 = .ok (.aload_n 0, 1) := by decide +kernel
theorem dX9_bar_104 : decode cX9_bar 104 = .ok (.getfield 37, 3) := by decide +kernel
theorem dX9_bar_107 : decode cX9_bar 107 = .ok (.aload_n 0, 1) := by decide +kernel
theorem dX9_bar_108 : decode cX9_bar 108 = .ok (.getfield 34, 3) := by decide +kernel
theorem dX9_bar_111 : decode cX9_bar 111 = .ok (.invokevirtual 202, 3) := by decide +kernel
theorem dX9_bar_114 : decode cX9_bar 114 = .ok (.iload_n 3, 1) := by decide +kernel
theorem dX9_bar_115 : decode cX9_bar 115 = .ok (.istore_n 2, 1) := by decide +kernel
theorem dX9_bar_116 : decode cX9_bar 116 = .ok (.iinc 3 1, 3) := by decide +kernel
theorem dX9_bar_119 : decode cX9_bar 119 = .ok (.goto (-104), 3) := by decide +kernel
theorem dX9_bar_122 : decode cX9_bar 122 = .ok (.iload_n 2, 1) := by decide +kernel
theorem dX9_bar_123 : decode cX9_bar 123 = .ok (.iconst (-1), 1) := by decide +kernel
theorem dX9_bar_124 : decode cX9_bar 124 = .ok (.if_icmp .eq 14, 3) := by decide +kernel
theorem dX9_bar_127 : decode cX9_bar 127 = .ok (.aload_n 0, 1) := by decide +kernel
theorem dX9_bar_128 : decode cX9_bar 128 = .ok (.getfield 30, 3) := by decide +kernel
theorem dX9_bar_131 : decode cX9_bar 131 = .ok (.aload_n 0, 1) := by decide +kernel
theorem dX9_bar_132 : decode cX9_bar 132 = .ok (.getfield 37, 3) := by decide +kernel
theorem dX9_bar_135 : decode cX9_bar 135 = .ok (.invokevirtual 202, 3) := by decide +kernel
theorem dX9_bar_138 : decode cX9_bar 138 = .ok (.iload_n 2, 1) := by decide +kernel
theorem dX9_bar_139 : decode cX9_bar 139 = .ok (.ireturn, 1) := by decide +kernel
theorem pm_X9_crew_r1 : ∀ w ∈ wsX9_crew_r1, w ∈ wsX9_crew := fun _ h => List.mem_cons_of_mem _ (List.mem_append_left _ (List.mem_append_left _ (List.mem_append_left _ (List.mem_append_left _ (List.mem_append_left _ h)))))
theorem pm_X9_crew_r2 : ∀ w ∈ wsX9_crew_r2, w ∈ wsX9_crew := fun _ h => List.mem_cons_of_mem _ (List.mem_append_left _ (List.mem_append_left _ (List.mem_append_left _ (List.mem_append_left _ (List.mem_append_right _ (List.mem_append_left _ h))))))
theorem pm_X9_crew_r3 : ∀ w ∈ wsX9_crew_r3, w ∈ wsX9_crew := fun _ h => List.mem_cons_of_mem _ (List.mem_append_left _ (List.mem_append_left _ (List.mem_append_left _ (List.mem_append_left _ (List.mem_append_right _ (List.mem_append_right _ (List.mem_append_left _ h)))))))
theorem pm_X9_crew_r4 : ∀ w ∈ wsX9_crew_r4, w ∈ wsX9_crew := fun _ h => List.mem_cons_of_mem _ (List.mem_append_left _ (List.mem_append_left _ (List.mem_append_left _ (List.mem_append_left _ (List.mem_append_right _ (List.mem_append_right _ (List.mem_append_right _ (h))))))))
theorem pw_X9_crew_X9 : ∀ w ∈ wsX90, w ∈ wsX9_crew := fun _ h => List.mem_cons_of_mem _ (List.mem_append_left _ (List.mem_append_left _ (List.mem_append_left _ (List.mem_append_right _ h))))
theorem pw_X9_crew_X3 : ∀ w ∈ wsX30, w ∈ wsX9_crew := fun _ h => List.mem_cons_of_mem _ (List.mem_append_left _ (List.mem_append_left _ (List.mem_append_right _ h)))
theorem pw_X9_crew_X5 : ∀ w ∈ wsX50, w ∈ wsX9_crew := fun _ h => List.mem_cons_of_mem _ (List.mem_append_left _ (List.mem_append_right _ h))
theorem pw_X9_crew_X2 : ∀ w ∈ wsX20, w ∈ wsX9_crew := fun _ h => List.mem_cons_of_mem _ (List.mem_append_right _ h)
set_option maxRecDepth 20000 in
theorem ggX9_crew_X9_isWork : GoodIn wsX9_crew wsX9_isWork := goodIn_sub (List.forall_mem_cons.mpr ⟨pm_X9_crew_r1 _ (List.mem_of_getElem? (i := 8) rfl), List.forall_mem_append.mpr ⟨List.forall_mem_append.mpr ⟨List.forall_mem_cons.mpr ⟨pm_X9_crew_r1 _ (List.mem_of_getElem? (i := 0) rfl), List.forall_mem_cons.mpr ⟨pm_X9_crew_r1 _ (List.mem_of_getElem? (i := 9) rfl), fun _ h => absurd h List.not_mem_nil⟩⟩, pw_X9_crew_X9⟩, pw_X9_crew_X3⟩⟩) (by decide +kernel)
set_option maxRecDepth 20000 in
theorem gX9_crew_X9_isWork : GoodIn wsX9_crew (wsV RX9 140 RX9 yX9_isWork wsX9_isWork) := goodIn_app (goodIn_of _ (by decide +kernel)) ggX9_crew_X9_isWork
set_option maxRecDepth 20000 in
theorem ggX9_crew_X9_isSign : GoodIn wsX9_crew wsX9_isSign := goodIn_sub (List.forall_mem_cons.mpr ⟨pm_X9_crew_r1 _ (List.mem_of_getElem? (i := 13) rfl), List.forall_mem_append.mpr ⟨List.forall_mem_append.mpr ⟨List.forall_mem_cons.mpr ⟨pm_X9_crew_r1 _ (List.mem_of_getElem? (i := 0) rfl), List.forall_mem_cons.mpr ⟨pm_X9_crew_r1 _ (List.mem_of_getElem? (i := 14) rfl), fun _ h => absurd h List.not_mem_nil⟩⟩, pw_X9_crew_X9⟩, pw_X9_crew_X3⟩⟩) (by decide +kernel)
set_option maxRecDepth 20000 in
theorem gX9_crew_X9_isSign : GoodIn wsX9_crew (wsV RX9 144 RX9 yX9_isSign wsX9_isSign) := goodIn_app (goodIn_of _ (by decide +kernel)) ggX9_crew_X9_isSign
set_option maxRecDepth 20000 in
theorem ggX9_crew_X3_chanceFrom : GoodIn wsX9_crew wsX3_chanceFrom := goodIn_sub (List.forall_mem_cons.mpr ⟨pm_X9_crew_r1 _ (List.mem_of_getElem? (i := 19) rfl), List.forall_mem_append.mpr ⟨List.forall_mem_cons.mpr ⟨pm_X9_crew_r1 _ (List.mem_of_getElem? (i := 20) rfl), List.forall_mem_cons.mpr ⟨pm_X9_crew_r1 _ (List.mem_of_getElem? (i := 21) rfl), List.forall_mem_cons.mpr ⟨pm_X9_crew_r1 _ (List.mem_of_getElem? (i := 22) rfl), fun _ h => absurd h List.not_mem_nil⟩⟩⟩, pw_X9_crew_X3⟩⟩) (by decide +kernel)
set_option maxRecDepth 20000 in
theorem gX9_crew_X3_chanceFrom : GoodIn wsX9_crew (wsV RX9 227 RX3 yX3_chanceFrom wsX3_chanceFrom) := goodIn_app (goodIn_of _ (by decide +kernel)) ggX9_crew_X3_chanceFrom
set_option maxRecDepth 20000 in
theorem pq_X9_crew_X5_settle_r1 : ∀ w ∈ wsX5_settle_r1, w ∈ wsX9_crew := List.forall_mem_cons.mpr ⟨pm_X9_crew_r2 _ (List.mem_of_getElem? (i := 4) rfl), List.forall_mem_cons.mpr ⟨pm_X9_crew_r2 _ (List.mem_of_getElem? (i := 5) rfl), List.forall_mem_cons.mpr ⟨pm_X9_crew_r2 _ (List.mem_of_getElem? (i := 6) rfl), List.forall_mem_cons.mpr ⟨pm_X9_crew_r2 _ (List.mem_of_getElem? (i := 7) rfl), List.forall_mem_cons.mpr ⟨pm_X9_crew_r2 _ (List.mem_of_getElem? (i := 2) rfl), List.forall_mem_cons.mpr ⟨pm_X9_crew_r2 _ (List.mem_of_getElem? (i := 8) rfl), List.forall_mem_cons.mpr ⟨pm_X9_crew_r2 _ (List.mem_of_getElem? (i := 9) rfl), List.forall_mem_cons.mpr ⟨pm_X9_crew_r2 _ (List.mem_of_getElem? (i := 10) rfl), List.forall_mem_cons.mpr ⟨pm_X9_crew_r2 _ (List.mem_of_getElem? (i := 11) rfl), List.forall_mem_cons.mpr ⟨pm_X9_crew_r2 _ (List.mem_of_getElem? (i := 12) rfl), List.forall_mem_cons.mpr ⟨pm_X9_crew_r2 _ (List.mem_of_getElem? (i := 13) rfl), List.forall_mem_cons.mpr ⟨pm_X9_crew_r2 _ (List.mem_of_getElem? (i := 14) rfl), List.forall_mem_cons.mpr ⟨pm_X9_crew_r1 _ (List.mem_of_getElem? (i := 16) rfl), List.forall_mem_cons.mpr ⟨pm_X9_crew_r1 _ (List.mem_of_getElem? (i := 17) rfl), List.forall_mem_cons.mpr ⟨pm_X9_crew_r1 _ (List.mem_of_getElem? (i := 18) rfl), List.forall_mem_cons.mpr ⟨pm_X9_crew_r1 _ (List.mem_of_getElem? (i := 19) rfl), List.forall_mem_cons.mpr ⟨pm_X9_crew_r1 _ (List.mem_of_getElem? (i := 20) rfl), List.forall_mem_cons.mpr ⟨pm_X9_crew_r1 _ (List.mem_of_getElem? (i := 21) rfl), List.forall_mem_cons.mpr ⟨pm_X9_crew_r1 _ (List.mem_of_getElem? (i := 22) rfl), List.forall_mem_cons.mpr ⟨pm_X9_crew_r2 _ (List.mem_of_getElem? (i := 15) rfl), List.forall_mem_cons.mpr ⟨pm_X9_crew_r2 _ (List.mem_of_getElem? (i := 16) rfl), List.forall_mem_cons.mpr ⟨pm_X9_crew_r2 _ (List.mem_of_getElem? (i := 17) rfl), List.forall_mem_cons.mpr ⟨pm_X9_crew_r2 _ (List.mem_of_getElem? (i := 18) rfl), List.forall_mem_cons.mpr ⟨pm_X9_crew_r2 _ (List.mem_of_getElem? (i := 19) rfl), fun _ h => absurd h List.not_mem_nil⟩⟩⟩⟩⟩⟩⟩⟩⟩⟩⟩⟩⟩⟩⟩⟩⟩⟩⟩⟩⟩⟩⟩⟩
set_option maxRecDepth 20000 in
theorem pq_X9_crew_X5_settle_r2 : ∀ w ∈ wsX5_settle_r2, w ∈ wsX9_crew := List.forall_mem_cons.mpr ⟨pm_X9_crew_r2 _ (List.mem_of_getElem? (i := 20) rfl), List.forall_mem_cons.mpr ⟨pm_X9_crew_r2 _ (List.mem_of_getElem? (i := 21) rfl), List.forall_mem_cons.mpr ⟨pm_X9_crew_r2 _ (List.mem_of_getElem? (i := 22) rfl), List.forall_mem_cons.mpr ⟨pm_X9_crew_r2 _ (List.mem_of_getElem? (i := 23) rfl), List.forall_mem_cons.mpr ⟨pm_X9_crew_r3 _ (List.mem_of_getElem? (i := 0) rfl), List.forall_mem_cons.mpr ⟨pm_X9_crew_r3 _ (List.mem_of_getElem? (i := 1) rfl), List.forall_mem_cons.mpr ⟨pm_X9_crew_r3 _ (List.mem_of_getElem? (i := 2) rfl), List.forall_mem_cons.mpr ⟨pm_X9_crew_r3 _ (List.mem_of_getElem? (i := 3) rfl), List.forall_mem_cons.mpr ⟨pm_X9_crew_r3 _ (List.mem_of_getElem? (i := 4) rfl), List.forall_mem_cons.mpr ⟨pm_X9_crew_r3 _ (List.mem_of_getElem? (i := 5) rfl), List.forall_mem_cons.mpr ⟨pm_X9_crew_r3 _ (List.mem_of_getElem? (i := 6) rfl), List.forall_mem_cons.mpr ⟨pm_X9_crew_r3 _ (List.mem_of_getElem? (i := 7) rfl), List.forall_mem_cons.mpr ⟨pm_X9_crew_r3 _ (List.mem_of_getElem? (i := 8) rfl), List.forall_mem_cons.mpr ⟨pm_X9_crew_r3 _ (List.mem_of_getElem? (i := 9) rfl), List.forall_mem_cons.mpr ⟨pm_X9_crew_r3 _ (List.mem_of_getElem? (i := 10) rfl), List.forall_mem_cons.mpr ⟨pm_X9_crew_r3 _ (List.mem_of_getElem? (i := 11) rfl), List.forall_mem_cons.mpr ⟨pm_X9_crew_r3 _ (List.mem_of_getElem? (i := 12) rfl), List.forall_mem_cons.mpr ⟨pm_X9_crew_r3 _ (List.mem_of_getElem? (i := 13) rfl), List.forall_mem_cons.mpr ⟨pm_X9_crew_r3 _ (List.mem_of_getElem? (i := 14) rfl), List.forall_mem_cons.mpr ⟨pm_X9_crew_r3 _ (List.mem_of_getElem? (i := 15) rfl), List.forall_mem_cons.mpr ⟨pm_X9_crew_r3 _ (List.mem_of_getElem? (i := 16) rfl), fun _ h => absurd h List.not_mem_nil⟩⟩⟩⟩⟩⟩⟩⟩⟩⟩⟩⟩⟩⟩⟩⟩⟩⟩⟩⟩⟩
set_option maxRecDepth 20000 in
theorem ggX9_crew_X5_settle : GoodIn wsX9_crew wsX5_settle := goodIn_sub (List.forall_mem_cons.mpr ⟨pm_X9_crew_r2 _ (List.mem_of_getElem? (i := 3) rfl), List.forall_mem_append.mpr ⟨List.forall_mem_append.mpr ⟨List.forall_mem_append.mpr ⟨pq_X9_crew_X5_settle_r1, pq_X9_crew_X5_settle_r2⟩, pw_X9_crew_X3⟩, pw_X9_crew_X5⟩⟩) (by decide +kernel)
set_option maxRecDepth 20000 in
theorem gX9_crew_X5_settle : GoodIn wsX9_crew (wsV RX9 223 RX5 yX5_settle wsX5_settle) := goodIn_app (goodIn_of _ (by decide +kernel)) ggX9_crew_X5_settle
set_option maxRecDepth 20000 in
theorem pq_X9_crew_X5_meanInto_r1 : ∀ w ∈ wsX5_meanInto_r1, w ∈ wsX9_crew := List.forall_mem_cons.mpr ⟨pm_X9_crew_r3 _ (List.mem_of_getElem? (i := 21) rfl), List.forall_mem_cons.mpr ⟨pm_X9_crew_r2 _ (List.mem_of_getElem? (i := 10) rfl), List.forall_mem_cons.mpr ⟨pm_X9_crew_r2 _ (List.mem_of_getElem? (i := 9) rfl), List.forall_mem_cons.mpr ⟨pm_X9_crew_r3 _ (List.mem_of_getElem? (i := 22) rfl), List.forall_mem_cons.mpr ⟨pm_X9_crew_r3 _ (List.mem_of_getElem? (i := 23) rfl), List.forall_mem_cons.mpr ⟨pm_X9_crew_r4 _ (List.mem_of_getElem? (i := 0) rfl), List.forall_mem_cons.mpr ⟨pm_X9_crew_r2 _ (List.mem_of_getElem? (i := 23) rfl), List.forall_mem_cons.mpr ⟨pm_X9_crew_r3 _ (List.mem_of_getElem? (i := 0) rfl), List.forall_mem_cons.mpr ⟨pm_X9_crew_r1 _ (List.mem_of_getElem? (i := 18) rfl), List.forall_mem_cons.mpr ⟨pm_X9_crew_r3 _ (List.mem_of_getElem? (i := 1) rfl), List.forall_mem_cons.mpr ⟨pm_X9_crew_r3 _ (List.mem_of_getElem? (i := 2) rfl), List.forall_mem_cons.mpr ⟨pm_X9_crew_r3 _ (List.mem_of_getElem? (i := 3) rfl), List.forall_mem_cons.mpr ⟨pm_X9_crew_r3 _ (List.mem_of_getElem? (i := 4) rfl), List.forall_mem_cons.mpr ⟨pm_X9_crew_r3 _ (List.mem_of_getElem? (i := 5) rfl), List.forall_mem_cons.mpr ⟨pm_X9_crew_r3 _ (List.mem_of_getElem? (i := 6) rfl), List.forall_mem_cons.mpr ⟨pm_X9_crew_r3 _ (List.mem_of_getElem? (i := 7) rfl), List.forall_mem_cons.mpr ⟨pm_X9_crew_r3 _ (List.mem_of_getElem? (i := 8) rfl), List.forall_mem_cons.mpr ⟨pm_X9_crew_r4 _ (List.mem_of_getElem? (i := 1) rfl), List.forall_mem_cons.mpr ⟨pm_X9_crew_r4 _ (List.mem_of_getElem? (i := 2) rfl), List.forall_mem_cons.mpr ⟨pm_X9_crew_r4 _ (List.mem_of_getElem? (i := 3) rfl), List.forall_mem_cons.mpr ⟨pm_X9_crew_r4 _ (List.mem_of_getElem? (i := 4) rfl), List.forall_mem_cons.mpr ⟨pm_X9_crew_r4 _ (List.mem_of_getElem? (i := 5) rfl), List.forall_mem_cons.mpr ⟨pm_X9_crew_r4 _ (List.mem_of_getElem? (i := 6) rfl), List.forall_mem_cons.mpr ⟨pm_X9_crew_r4 _ (List.mem_of_getElem? (i := 7) rfl), fun _ h => absurd h List.not_mem_nil⟩⟩⟩⟩⟩⟩⟩⟩⟩⟩⟩⟩⟩⟩⟩⟩⟩⟩⟩⟩⟩⟩⟩⟩
set_option maxRecDepth 20000 in
theorem pq_X9_crew_X5_meanInto_r2 : ∀ w ∈ wsX5_meanInto_r2, w ∈ wsX9_crew := List.forall_mem_cons.mpr ⟨pm_X9_crew_r4 _ (List.mem_of_getElem? (i := 8) rfl), List.forall_mem_cons.mpr ⟨pm_X9_crew_r4 _ (List.mem_of_getElem? (i := 9) rfl), List.forall_mem_cons.mpr ⟨pm_X9_crew_r4 _ (List.mem_of_getElem? (i := 10) rfl), List.forall_mem_cons.mpr ⟨pm_X9_crew_r4 _ (List.mem_of_getElem? (i := 11) rfl), List.forall_mem_cons.mpr ⟨pm_X9_crew_r4 _ (List.mem_of_getElem? (i := 12) rfl), List.forall_mem_cons.mpr ⟨pm_X9_crew_r4 _ (List.mem_of_getElem? (i := 13) rfl), List.forall_mem_cons.mpr ⟨pm_X9_crew_r4 _ (List.mem_of_getElem? (i := 14) rfl), List.forall_mem_cons.mpr ⟨pm_X9_crew_r4 _ (List.mem_of_getElem? (i := 15) rfl), List.forall_mem_cons.mpr ⟨pm_X9_crew_r4 _ (List.mem_of_getElem? (i := 16) rfl), List.forall_mem_cons.mpr ⟨pm_X9_crew_r4 _ (List.mem_of_getElem? (i := 17) rfl), List.forall_mem_cons.mpr ⟨pm_X9_crew_r4 _ (List.mem_of_getElem? (i := 18) rfl), List.forall_mem_cons.mpr ⟨pm_X9_crew_r4 _ (List.mem_of_getElem? (i := 19) rfl), List.forall_mem_cons.mpr ⟨pm_X9_crew_r4 _ (List.mem_of_getElem? (i := 20) rfl), List.forall_mem_cons.mpr ⟨pm_X9_crew_r4 _ (List.mem_of_getElem? (i := 21) rfl), List.forall_mem_cons.mpr ⟨pm_X9_crew_r4 _ (List.mem_of_getElem? (i := 22) rfl), List.forall_mem_cons.mpr ⟨pm_X9_crew_r4 _ (List.mem_of_getElem? (i := 23) rfl), fun _ h => absurd h List.not_mem_nil⟩⟩⟩⟩⟩⟩⟩⟩⟩⟩⟩⟩⟩⟩⟩⟩
set_option maxRecDepth 20000 in
theorem ggX9_crew_X5_meanInto : GoodIn wsX9_crew wsX5_meanInto := goodIn_sub (List.forall_mem_cons.mpr ⟨pm_X9_crew_r3 _ (List.mem_of_getElem? (i := 20) rfl), List.forall_mem_append.mpr ⟨List.forall_mem_append.mpr ⟨List.forall_mem_append.mpr ⟨List.forall_mem_append.mpr ⟨pq_X9_crew_X5_meanInto_r1, pq_X9_crew_X5_meanInto_r2⟩, pw_X9_crew_X3⟩, pw_X9_crew_X5⟩, pw_X9_crew_X2⟩⟩) (by decide +kernel)
set_option maxRecDepth 20000 in
theorem gX9_crew_X5_meanInto : GoodIn wsX9_crew (wsV RX9 231 RX5 yX5_meanInto wsX5_meanInto) := goodIn_app (goodIn_of _ (by decide +kernel)) ggX9_crew_X5_meanInto
theorem dX9_crew_0 : decode cX9_crew 0 = .ok (.aload_n 0, 1) := by decide +kernel
theorem dX9_crew_1 : decode cX9_crew 1 = .ok (.iload_n 1, 1) := by decide +kernel
theorem dX9_crew_2 : decode cX9_crew 2 = .ok (.invokevirtual 140, 3) := by decide +kernel
theorem dX9_crew_5 : decode cX9_crew 5 = .ok (.ifCond .eq 11, 3) := by decide +kernel
theorem dX9_crew_8 : decode cX9_crew 8 = .ok (.aload_n 0, 1) := by decide +kernel
theorem dX9_crew_9 : decode cX9_crew 9 = .ok (.iload_n 2, 1) := by decide +kernel
theorem dX9_crew_10 : decode cX9_crew 10 = .ok (.invokevirtual 144, 3) := by decide +kernel
theorem dX9_crew_13 : decode cX9_crew 13 = .ok (.ifCond .ne 6, 3) := by decide +kernel
theorem dX9_crew_16 : decode cX9_crew 16 = .ok (.bipush (-2), 2) := by decide +kernel
theorem dX9_crew_18 : decode cX9_crew 18 = .ok (.ireturn, 1) := by decide +kernel
theorem dX9_crew_19 : decode cX9_crew 19 = .ok (.aload_n 0, 1) := by decide +kernel
theorem dX9_crew_20 : decode cX9_crew 20 = .ok (.getfield 19, 3) := by decide +kernel
theorem dX9_crew_23 : decode cX9_crew 23 = .ok (.iload_n 1, 1) := by decide +kernel
theorem dX9_crew_24 : decode cX9_crew 24 = .ok (.iload_n 2, 1) := by decide +kernel
theorem dX9_crew_25 : decode cX9_crew 25 = .ok (.invokevirtual 227, 3) := by decide +kernel
theorem dX9_crew_28 : decode cX9_crew 28 = .ok (.istore_n 3, 1) := by decide +kernel
theorem dX9_crew_29 : decode cX9_crew 29 = .ok (.aload_n 0, 1) := by decide +kernel
theorem dX9_crew_30 : decode cX9_crew 30 = .ok (.getfield 19, 3) := by decide +kernel
theorem dX9_crew_33 : decode cX9_crew 33 = .ok (.getfield 127, 3) := by decide +kernel
theorem dX9_crew_36 : decode cX9_crew 36 = .ok (.aload_n 0, 1) := by decide +kernel
theorem dX9_crew_37 : decode cX9_crew 37 = .ok (.getfield 19, 3) := by decide +kernel
theorem dX9_crew_40 : decode cX9_crew 40 = .ok (.getfield 127, 3) := by decide +kernel
theorem dX9_crew_43 : decode cX9_crew 43 = .ok (.imul, 1) := by decide +kernel
theorem dX9_crew_44 : decode cX9_crew 44 = .ok (.istore 4, 2) := by decide +kernel
theorem dX9_crew_46 : decode cX9_crew 46 = .ok (.aload_n 0, 1) := by decide +kernel
theorem dX9_crew_47 : decode cX9_crew 47 = .ok (.getfield 61, 3) := by decide +kernel
theorem dX9_crew_50 : decode cX9_crew 50 = .ok (.aload_n 0, 1) := by decide +kernel
theorem dX9_crew_51 : decode cX9_crew 51 = .ok (.getfield 19, 3) := by decide +kernel
theorem dX9_crew_54 : decode cX9_crew 54 = .ok (.iload_n 1, 1) := by decide +kernel
theorem dX9_crew_55 : decode cX9_crew 55 = .ok (.iload_n 2, 1) := by decide +kernel
theorem dX9_crew_56 : decode cX9_crew 56 = .ok (.iload_n 3, 1) := by decide +kernel
theorem dX9_crew_57 : decode cX9_crew 57 = .ok (.iload 4, 2) := by decide +kernel
theorem dX9_crew_59 : decode cX9_crew 59 = .ok (.invokevirtual 223, 3) := by decide +kernel
theorem dX9_crew_62 : decode cX9_crew 62 = .ok (.ifCond .ne 5, 3) := by decide +kernel
theorem dX9_crew_65 : decode cX9_crew 65 = .ok (.iconst (-1), 1) := by decide +kernel
theorem dX9_crew_66 : decode cX9_crew 66 = .ok (.ireturn, 1) := by decide +kernel
theorem dX9_crew_67 : decode cX9_crew 67 = .ok (.aload_n 0, 1) := by decide +kernel
theorem dX9_crew_68 : decode cX9_crew 68 = .ok (.getfield 61, 3) := by decide +kernel
theorem dX9_crew_71 : decode cX9_crew 71 = .ok (.aload_n 0, 1) := by decide +kernel
theorem dX9_crew_72 : decode cX9_crew 72 = .ok (.getfield 30, 3) := by decide +kernel
theorem dX9_crew_75 : decode cX9_crew 75 = .ok (.aload_n 0, 1) := by decide +kernel
theorem dX9_crew_76 : decode cX9_crew 76 = .ok (.getfield 19, 3) := by decide +kernel
theorem dX9_crew_79 : decode cX9_crew 79 = .ok (.iload_n 3, 1) := by decide +kernel
theorem dX9_crew_80 : decode cX9_crew 80 = .ok (.iload_n 3, 1) := by decide +kernel
theorem dX9_crew_81 : decode cX9_crew 81 = .ok (.imul, 1) := by decide +kernel
theorem dX9_crew_82 : decode cX9_crew 82 = .ok (.iload 4, 2) := by decide +kernel
theorem dX9_crew_84 : decode cX9_crew 84 = .ok (.invokevirtual 231, 3) := by decide +kernel
theorem dX9_crew_87 : decode cX9_crew 87 = .ok (.iconst 1, 1) := by decide +kernel
theorem dX9_crew_88 : decode cX9_crew 88 = .ok (.ireturn, 1) := by decide +kernel
theorem pm_X9_watch_r1 : ∀ w ∈ wsX9_watch_r1, w ∈ wsX9_watch := fun _ h => List.mem_cons_of_mem _ (List.mem_append_left _ (List.mem_append_left _ (List.mem_append_left _ (List.mem_append_left _ (List.mem_append_left _ h)))))
theorem pm_X9_watch_r2 : ∀ w ∈ wsX9_watch_r2, w ∈ wsX9_watch := fun _ h => List.mem_cons_of_mem _ (List.mem_append_left _ (List.mem_append_left _ (List.mem_append_left _ (List.mem_append_left _ (List.mem_append_right _ (List.mem_append_left _ h))))))
theorem pm_X9_watch_r3 : ∀ w ∈ wsX9_watch_r3, w ∈ wsX9_watch := fun _ h => List.mem_cons_of_mem _ (List.mem_append_left _ (List.mem_append_left _ (List.mem_append_left _ (List.mem_append_left _ (List.mem_append_right _ (List.mem_append_right _ (List.mem_append_left _ h)))))))
theorem pm_X9_watch_r4 : ∀ w ∈ wsX9_watch_r4, w ∈ wsX9_watch := fun _ h => List.mem_cons_of_mem _ (List.mem_append_left _ (List.mem_append_left _ (List.mem_append_left _ (List.mem_append_left _ (List.mem_append_right _ (List.mem_append_right _ (List.mem_append_right _ (List.mem_append_left _ h))))))))
theorem pm_X9_watch_r5 : ∀ w ∈ wsX9_watch_r5, w ∈ wsX9_watch := fun _ h => List.mem_cons_of_mem _ (List.mem_append_left _ (List.mem_append_left _ (List.mem_append_left _ (List.mem_append_left _ (List.mem_append_right _ (List.mem_append_right _ (List.mem_append_right _ (List.mem_append_right _ (h)))))))))
theorem pw_X9_watch_X9 : ∀ w ∈ wsX90, w ∈ wsX9_watch := fun _ h => List.mem_cons_of_mem _ (List.mem_append_left _ (List.mem_append_left _ (List.mem_append_left _ (List.mem_append_right _ h))))
theorem pw_X9_watch_X3 : ∀ w ∈ wsX30, w ∈ wsX9_watch := fun _ h => List.mem_cons_of_mem _ (List.mem_append_left _ (List.mem_append_left _ (List.mem_append_right _ h)))
theorem pw_X9_watch_X5 : ∀ w ∈ wsX50, w ∈ wsX9_watch := fun _ h => List.mem_cons_of_mem _ (List.mem_append_left _ (List.mem_append_right _ h))
theorem pw_X9_watch_X2 : ∀ w ∈ wsX20, w ∈ wsX9_watch := fun _ h => List.mem_cons_of_mem _ (List.mem_append_right _ h)
set_option maxRecDepth 20000 in
theorem ggX9_watch_X9_isWork : GoodIn wsX9_watch wsX9_isWork := goodIn_sub (List.forall_mem_cons.mpr ⟨pm_X9_watch_r1 _ (List.mem_of_getElem? (i := 10) rfl), List.forall_mem_append.mpr ⟨List.forall_mem_append.mpr ⟨List.forall_mem_cons.mpr ⟨pm_X9_watch_r1 _ (List.mem_of_getElem? (i := 0) rfl), List.forall_mem_cons.mpr ⟨pm_X9_watch_r1 _ (List.mem_of_getElem? (i := 11) rfl), fun _ h => absurd h List.not_mem_nil⟩⟩, pw_X9_watch_X9⟩, pw_X9_watch_X3⟩⟩) (by decide +kernel)
set_option maxRecDepth 20000 in
theorem gX9_watch_X9_isWork : GoodIn wsX9_watch (wsV RX9 140 RX9 yX9_isWork wsX9_isWork) := goodIn_app (goodIn_of _ (by decide +kernel)) ggX9_watch_X9_isWork
set_option maxRecDepth 20000 in
theorem pq_X9_watch_X5_settleWatched_r1 : ∀ w ∈ wsX5_settleWatched_r1, w ∈ wsX9_watch := List.forall_mem_cons.mpr ⟨pm_X9_watch_r1 _ (List.mem_of_getElem? (i := 17) rfl), List.forall_mem_cons.mpr ⟨pm_X9_watch_r1 _ (List.mem_of_getElem? (i := 18) rfl), List.forall_mem_cons.mpr ⟨pm_X9_watch_r1 _ (List.mem_of_getElem? (i := 19) rfl), List.forall_mem_cons.mpr ⟨pm_X9_watch_r1 _ (List.mem_of_getElem? (i := 20) rfl), List.forall_mem_cons.mpr ⟨pm_X9_watch_r1 _ (List.mem_of_getElem? (i := 21) rfl), List.forall_mem_cons.mpr ⟨pm_X9_watch_r1 _ (List.mem_of_getElem? (i := 15) rfl), List.forall_mem_cons.mpr ⟨pm_X9_watch_r1 _ (List.mem_of_getElem? (i := 22) rfl), List.forall_mem_cons.mpr ⟨pm_X9_watch_r1 _ (List.mem_of_getElem? (i := 23) rfl), List.forall_mem_cons.mpr ⟨pm_X9_watch_r2 _ (List.mem_of_getElem? (i := 0) rfl), List.forall_mem_cons.mpr ⟨pm_X9_watch_r2 _ (List.mem_of_getElem? (i := 1) rfl), List.forall_mem_cons.mpr ⟨pm_X9_watch_r2 _ (List.mem_of_getElem? (i := 2) rfl), List.forall_mem_cons.mpr ⟨pm_X9_watch_r2 _ (List.mem_of_getElem? (i := 3) rfl), List.forall_mem_cons.mpr ⟨pm_X9_watch_r2 _ (List.mem_of_getElem? (i := 4) rfl), List.forall_mem_cons.mpr ⟨pm_X9_watch_r2 _ (List.mem_of_getElem? (i := 5) rfl), List.forall_mem_cons.mpr ⟨pm_X9_watch_r2 _ (List.mem_of_getElem? (i := 6) rfl), List.forall_mem_cons.mpr ⟨pm_X9_watch_r2 _ (List.mem_of_getElem? (i := 7) rfl), List.forall_mem_cons.mpr ⟨pm_X9_watch_r2 _ (List.mem_of_getElem? (i := 8) rfl), List.forall_mem_cons.mpr ⟨pm_X9_watch_r2 _ (List.mem_of_getElem? (i := 9) rfl), List.forall_mem_cons.mpr ⟨pm_X9_watch_r2 _ (List.mem_of_getElem? (i := 10) rfl), List.forall_mem_cons.mpr ⟨pm_X9_watch_r2 _ (List.mem_of_getElem? (i := 11) rfl), List.forall_mem_cons.mpr ⟨pm_X9_watch_r2 _ (List.mem_of_getElem? (i := 12) rfl), List.forall_mem_cons.mpr ⟨pm_X9_watch_r2 _ (List.mem_of_getElem? (i := 13) rfl), List.forall_mem_cons.mpr ⟨pm_X9_watch_r2 _ (List.mem_of_getElem? (i := 14) rfl), List.forall_mem_cons.mpr ⟨pm_X9_watch_r2 _ (List.mem_of_getElem? (i := 15) rfl), fun _ h => absurd h List.not_mem_nil⟩⟩⟩⟩⟩⟩⟩⟩⟩⟩⟩⟩⟩⟩⟩⟩⟩⟩⟩⟩⟩⟩⟩⟩
set_option maxRecDepth 20000 in
theorem pq_X9_watch_X5_settleWatched_r2 : ∀ w ∈ wsX5_settleWatched_r2, w ∈ wsX9_watch := List.forall_mem_cons.mpr ⟨pm_X9_watch_r2 _ (List.mem_of_getElem? (i := 16) rfl), List.forall_mem_cons.mpr ⟨pm_X9_watch_r2 _ (List.mem_of_getElem? (i := 17) rfl), List.forall_mem_cons.mpr ⟨pm_X9_watch_r2 _ (List.mem_of_getElem? (i := 18) rfl), List.forall_mem_cons.mpr ⟨pm_X9_watch_r2 _ (List.mem_of_getElem? (i := 19) rfl), List.forall_mem_cons.mpr ⟨pm_X9_watch_r2 _ (List.mem_of_getElem? (i := 20) rfl), List.forall_mem_cons.mpr ⟨pm_X9_watch_r2 _ (List.mem_of_getElem? (i := 21) rfl), List.forall_mem_cons.mpr ⟨pm_X9_watch_r2 _ (List.mem_of_getElem? (i := 22) rfl), List.forall_mem_cons.mpr ⟨pm_X9_watch_r2 _ (List.mem_of_getElem? (i := 23) rfl), List.forall_mem_cons.mpr ⟨pm_X9_watch_r3 _ (List.mem_of_getElem? (i := 0) rfl), List.forall_mem_cons.mpr ⟨pm_X9_watch_r3 _ (List.mem_of_getElem? (i := 1) rfl), List.forall_mem_cons.mpr ⟨pm_X9_watch_r3 _ (List.mem_of_getElem? (i := 2) rfl), List.forall_mem_cons.mpr ⟨pm_X9_watch_r3 _ (List.mem_of_getElem? (i := 3) rfl), List.forall_mem_cons.mpr ⟨pm_X9_watch_r3 _ (List.mem_of_getElem? (i := 4) rfl), List.forall_mem_cons.mpr ⟨pm_X9_watch_r3 _ (List.mem_of_getElem? (i := 5) rfl), List.forall_mem_cons.mpr ⟨pm_X9_watch_r3 _ (List.mem_of_getElem? (i := 6) rfl), fun _ h => absurd h List.not_mem_nil⟩⟩⟩⟩⟩⟩⟩⟩⟩⟩⟩⟩⟩⟩⟩
set_option maxRecDepth 20000 in
theorem ggX9_watch_X5_settleWatched : GoodIn wsX9_watch wsX5_settleWatched := goodIn_sub (List.forall_mem_cons.mpr ⟨pm_X9_watch_r1 _ (List.mem_of_getElem? (i := 16) rfl), List.forall_mem_append.mpr ⟨List.forall_mem_append.mpr ⟨List.forall_mem_append.mpr ⟨pq_X9_watch_X5_settleWatched_r1, pq_X9_watch_X5_settleWatched_r2⟩, pw_X9_watch_X3⟩, pw_X9_watch_X5⟩⟩) (by decide +kernel)
set_option maxRecDepth 20000 in
theorem gX9_watch_X5_settleWatched : GoodIn wsX9_watch (wsV RX9 239 RX5 yX5_settleWatched wsX5_settleWatched) := goodIn_app (goodIn_of _ (by decide +kernel)) ggX9_watch_X5_settleWatched
set_option maxRecDepth 20000 in
theorem pq_X9_watch_X5_meanInto_r1 : ∀ w ∈ wsX5_meanInto_r1, w ∈ wsX9_watch := List.forall_mem_cons.mpr ⟨pm_X9_watch_r3 _ (List.mem_of_getElem? (i := 11) rfl), List.forall_mem_cons.mpr ⟨pm_X9_watch_r2 _ (List.mem_of_getElem? (i := 0) rfl), List.forall_mem_cons.mpr ⟨pm_X9_watch_r1 _ (List.mem_of_getElem? (i := 23) rfl), List.forall_mem_cons.mpr ⟨pm_X9_watch_r3 _ (List.mem_of_getElem? (i := 12) rfl), List.forall_mem_cons.mpr ⟨pm_X9_watch_r3 _ (List.mem_of_getElem? (i := 13) rfl), List.forall_mem_cons.mpr ⟨pm_X9_watch_r3 _ (List.mem_of_getElem? (i := 14) rfl), List.forall_mem_cons.mpr ⟨pm_X9_watch_r2 _ (List.mem_of_getElem? (i := 13) rfl), List.forall_mem_cons.mpr ⟨pm_X9_watch_r2 _ (List.mem_of_getElem? (i := 14) rfl), List.forall_mem_cons.mpr ⟨pm_X9_watch_r2 _ (List.mem_of_getElem? (i := 7) rfl), List.forall_mem_cons.mpr ⟨pm_X9_watch_r2 _ (List.mem_of_getElem? (i := 15) rfl), List.forall_mem_cons.mpr ⟨pm_X9_watch_r2 _ (List.mem_of_getElem? (i := 16) rfl), List.forall_mem_cons.mpr ⟨pm_X9_watch_r2 _ (List.mem_of_getElem? (i := 17) rfl), List.forall_mem_cons.mpr ⟨pm_X9_watch_r2 _ (List.mem_of_getElem? (i := 18) rfl), List.forall_mem_cons.mpr ⟨pm_X9_watch_r2 _ (List.mem_of_getElem? (i := 19) rfl), List.forall_mem_cons.mpr ⟨pm_X9_watch_r2 _ (List.mem_of_getElem? (i := 20) rfl), List.forall_mem_cons.mpr ⟨pm_X9_watch_r2 _ (List.mem_of_getElem? (i := 21) rfl), List.forall_mem_cons.mpr ⟨pm_X9_watch_r2 _ (List.mem_of_getElem? (i := 22) rfl), List.forall_mem_cons.mpr ⟨pm_X9_watch_r3 _ (List.mem_of_getElem? (i := 15) rfl), List.forall_mem_cons.mpr ⟨pm_X9_watch_r3 _ (List.mem_of_getElem? (i := 16) rfl), List.forall_mem_cons.mpr ⟨pm_X9_watch_r3 _ (List.mem_of_getElem? (i := 17) rfl), List.forall_mem_cons.mpr ⟨pm_X9_watch_r3 _ (List.mem_of_getElem? (i := 18) rfl), List.forall_mem_cons.mpr ⟨pm_X9_watch_r3 _ (List.mem_of_getElem? (i := 19) rfl), List.forall_mem_cons.mpr ⟨pm_X9_watch_r3 _ (List.mem_of_getElem? (i := 20) rfl), List.forall_mem_cons.mpr ⟨pm_X9_watch_r3 _ (List.mem_of_getElem? (i := 21) rfl), fun _ h => absurd h List.not_mem_nil⟩⟩⟩⟩⟩⟩⟩⟩⟩⟩⟩⟩⟩⟩⟩⟩⟩⟩⟩⟩⟩⟩⟩⟩
set_option maxRecDepth 20000 in
theorem pq_X9_watch_X5_meanInto_r2 : ∀ w ∈ wsX5_meanInto_r2, w ∈ wsX9_watch := List.forall_mem_cons.mpr ⟨pm_X9_watch_r3 _ (List.mem_of_getElem? (i := 22) rfl), List.forall_mem_cons.mpr ⟨pm_X9_watch_r3 _ (List.mem_of_getElem? (i := 23) rfl), List.forall_mem_cons.mpr ⟨pm_X9_watch_r4 _ (List.mem_of_getElem? (i := 0) rfl), List.forall_mem_cons.mpr ⟨pm_X9_watch_r4 _ (List.mem_of_getElem? (i := 1) rfl), List.forall_mem_cons.mpr ⟨pm_X9_watch_r4 _ (List.mem_of_getElem? (i := 2) rfl), List.forall_mem_cons.mpr ⟨pm_X9_watch_r4 _ (List.mem_of_getElem? (i := 3) rfl), List.forall_mem_cons.mpr ⟨pm_X9_watch_r4 _ (List.mem_of_getElem? (i := 4) rfl), List.forall_mem_cons.mpr ⟨pm_X9_watch_r4 _ (List.mem_of_getElem? (i := 5) rfl), List.forall_mem_cons.mpr ⟨pm_X9_watch_r4 _ (List.mem_of_getElem? (i := 6) rfl), List.forall_mem_cons.mpr ⟨pm_X9_watch_r4 _ (List.mem_of_getElem? (i := 7) rfl), List.forall_mem_cons.mpr ⟨pm_X9_watch_r4 _ (List.mem_of_getElem? (i := 8) rfl), List.forall_mem_cons.mpr ⟨pm_X9_watch_r4 _ (List.mem_of_getElem? (i := 9) rfl), List.forall_mem_cons.mpr ⟨pm_X9_watch_r4 _ (List.mem_of_getElem? (i := 10) rfl), List.forall_mem_cons.mpr ⟨pm_X9_watch_r4 _ (List.mem_of_getElem? (i := 11) rfl), List.forall_mem_cons.mpr ⟨pm_X9_watch_r4 _ (List.mem_of_getElem? (i := 12) rfl), List.forall_mem_cons.mpr ⟨pm_X9_watch_r4 _ (List.mem_of_getElem? (i := 13) rfl), fun _ h => absurd h List.not_mem_nil⟩⟩⟩⟩⟩⟩⟩⟩⟩⟩⟩⟩⟩⟩⟩⟩
set_option maxRecDepth 20000 in
theorem ggX9_watch_X5_meanInto : GoodIn wsX9_watch wsX5_meanInto := goodIn_sub (List.forall_mem_cons.mpr ⟨pm_X9_watch_r3 _ (List.mem_of_getElem? (i := 10) rfl), List.forall_mem_append.mpr ⟨List.forall_mem_append.mpr ⟨List.forall_mem_append.mpr ⟨List.forall_mem_append.mpr ⟨pq_X9_watch_X5_meanInto_r1, pq_X9_watch_X5_meanInto_r2⟩, pw_X9_watch_X3⟩, pw_X9_watch_X5⟩, pw_X9_watch_X2⟩⟩) (by decide +kernel)
set_option maxRecDepth 20000 in
theorem gX9_watch_X5_meanInto : GoodIn wsX9_watch (wsV RX9 231 RX5 yX5_meanInto wsX5_meanInto) := goodIn_app (goodIn_of _ (by decide +kernel)) ggX9_watch_X5_meanInto
set_option maxRecDepth 20000 in
theorem ggX9_watch_X2_add : GoodIn wsX9_watch wsX2_add := goodIn_sub (List.forall_mem_cons.mpr ⟨pm_X9_watch_r4 _ (List.mem_of_getElem? (i := 17) rfl), List.forall_mem_append.mpr ⟨List.forall_mem_cons.mpr ⟨pm_X9_watch_r4 _ (List.mem_of_getElem? (i := 3) rfl), List.forall_mem_cons.mpr ⟨pm_X9_watch_r4 _ (List.mem_of_getElem? (i := 4) rfl), List.forall_mem_cons.mpr ⟨pm_X9_watch_r4 _ (List.mem_of_getElem? (i := 18) rfl), List.forall_mem_cons.mpr ⟨pm_X9_watch_r3 _ (List.mem_of_getElem? (i := 20) rfl), List.forall_mem_cons.mpr ⟨pm_X9_watch_r3 _ (List.mem_of_getElem? (i := 21) rfl), List.forall_mem_cons.mpr ⟨pm_X9_watch_r3 _ (List.mem_of_getElem? (i := 22) rfl), List.forall_mem_cons.mpr ⟨pm_X9_watch_r3 _ (List.mem_of_getElem? (i := 23) rfl), List.forall_mem_cons.mpr ⟨pm_X9_watch_r4 _ (List.mem_of_getElem? (i := 0) rfl), List.forall_mem_cons.mpr ⟨pm_X9_watch_r4 _ (List.mem_of_getElem? (i := 1) rfl), List.forall_mem_cons.mpr ⟨pm_X9_watch_r2 _ (List.mem_of_getElem? (i := 20) rfl), List.forall_mem_cons.mpr ⟨pm_X9_watch_r4 _ (List.mem_of_getElem? (i := 2) rfl), List.forall_mem_cons.mpr ⟨pm_X9_watch_r4 _ (List.mem_of_getElem? (i := 5) rfl), List.forall_mem_cons.mpr ⟨pm_X9_watch_r4 _ (List.mem_of_getElem? (i := 6) rfl), List.forall_mem_cons.mpr ⟨pm_X9_watch_r4 _ (List.mem_of_getElem? (i := 7) rfl), List.forall_mem_cons.mpr ⟨pm_X9_watch_r4 _ (List.mem_of_getElem? (i := 8) rfl), List.forall_mem_cons.mpr ⟨pm_X9_watch_r4 _ (List.mem_of_getElem? (i := 9) rfl), List.forall_mem_cons.mpr ⟨pm_X9_watch_r4 _ (List.mem_of_getElem? (i := 10) rfl), List.forall_mem_cons.mpr ⟨pm_X9_watch_r4 _ (List.mem_of_getElem? (i := 11) rfl), List.forall_mem_cons.mpr ⟨pm_X9_watch_r4 _ (List.mem_of_getElem? (i := 12) rfl), fun _ h => absurd h List.not_mem_nil⟩⟩⟩⟩⟩⟩⟩⟩⟩⟩⟩⟩⟩⟩⟩⟩⟩⟩⟩, pw_X9_watch_X2⟩⟩) (by decide +kernel)
set_option maxRecDepth 20000 in
theorem gX9_watch_X2_add : GoodIn wsX9_watch (wsV RX9 242 RX2 yX2_add wsX2_add) := goodIn_app (goodIn_of _ (by decide +kernel)) ggX9_watch_X2_add
set_option maxRecDepth 20000 in
theorem ggX9_watch_X2_isBelow : GoodIn wsX9_watch wsX2_isBelow := goodIn_sub (List.forall_mem_cons.mpr ⟨pm_X9_watch_r4 _ (List.mem_of_getElem? (i := 21) rfl), List.forall_mem_append.mpr ⟨List.forall_mem_cons.mpr ⟨pm_X9_watch_r4 _ (List.mem_of_getElem? (i := 3) rfl), List.forall_mem_cons.mpr ⟨pm_X9_watch_r4 _ (List.mem_of_getElem? (i := 4) rfl), fun _ h => absurd h List.not_mem_nil⟩⟩, pw_X9_watch_X2⟩⟩) (by decide +kernel)
set_option maxRecDepth 20000 in
theorem gX9_watch_X2_isBelow : GoodIn wsX9_watch (va_wsS RX9 235 yX2_isBelow wsX2_isBelow) := goodIn_app (goodIn_of _ (by decide +kernel)) ggX9_watch_X2_isBelow
set_option maxRecDepth 20000 in
theorem ggX9_watch_X2_copy : GoodIn wsX9_watch wsX2_copy := goodIn_sub (List.forall_mem_cons.mpr ⟨pm_X9_watch_r5 _ (List.mem_of_getElem? (i := 1) rfl), List.forall_mem_append.mpr ⟨List.forall_mem_cons.mpr ⟨pm_X9_watch_r4 _ (List.mem_of_getElem? (i := 3) rfl), List.forall_mem_cons.mpr ⟨pm_X9_watch_r4 _ (List.mem_of_getElem? (i := 4) rfl), fun _ h => absurd h List.not_mem_nil⟩⟩, pw_X9_watch_X2⟩⟩) (by decide +kernel)
set_option maxRecDepth 20000 in
theorem gX9_watch_X2_copy : GoodIn wsX9_watch (wsV RX9 202 RX2 yX2_copy wsX2_copy) := goodIn_app (goodIn_of _ (by decide +kernel)) ggX9_watch_X2_copy
theorem dX9_watch_0 : decode cX9_watch 0 = .ok (.aload_n 0, 1) := by decide +kernel
theorem dX9_watch_1 : decode cX9_watch 1 = .ok (.iload_n 1, 1) := by decide +kernel
theorem dX9_watch_2 : decode cX9_watch 2 = .ok (.invokevirtual 140, 3) := by decide +kernel
theorem dX9_watch_5 : decode cX9_watch 5 = .ok (.ifCond .eq 14, 3) := by decide +kernel
theorem dX9_watch_8 : decode cX9_watch 8 = .ok (.iload_n 2, 1) := by decide +kernel
theorem dX9_watch_9 : decode cX9_watch 9 = .ok (.ifCond .lt 10, 3) := by decide +kernel
theorem dX9_watch_12 : decode cX9_watch 12 = .ok (.iload_n 2, 1) := by decide +kernel
theorem dX9_watch_13 : decode cX9_watch 13 = .ok (.sipush 9999, 3) := by decide +kernel
theorem dX9_watch_16 : decode cX9_watch 16 = .ok (.if_icmp .le 6, 3) := by decide +kernel
theorem dX9_watch_19 : decode cX9_watch 19 = .ok (.bipush (-2), 2) := by decide +kernel
theorem dX9_watch_21 : decode cX9_watch 21 = .ok (.ireturn, 1) := by decide +kernel
theorem dX9_watch_22 : decode cX9_watch 22 = .ok (.iconst (-1), 1) := by decide +kernel
theorem dX9_watch_23 : decode cX9_watch 23 = .ok (.istore_n 3, 1) := by decide +kernel
theorem dX9_watch_24 : decode cX9_watch 24 = .ok (.iconst 0, 1) := by decide +kernel
theorem dX9_watch_25 : decode cX9_watch 25 = .ok (.istore 4, 2) := by decide +kernel
theorem dX9_watch_27 : decode cX9_watch 27 = .ok (.iload 4, 2) := by decide +kernel
theorem dX9_watch_29 : decode cX9_watch 29 = .ok (.aload_n 0, 1) := by decide +kernel
theorem dX9_watch_30 : decode cX9_watch 30 = .ok (.getfield 19, 3) := by decide +kernel
theorem dX9_watch_33 : decode cX9_watch 33 = .ok (.getfield 127, 3) := by decide +kernel
theorem dX9_watch_36 : decode cX9_watch 36 = .ok (.if_icmp .gt 112, 3) := by decide +kernel
theorem dX9_watch_39 : decode cX9_watch 39 = .ok (.aload_n 0, 1) := by decide +kernel
theorem dX9_watch_40 : decode cX9_watch 40 = .ok (.getfield 61, 3) := by decide +kernel
theorem dX9_watch_43 : decode cX9_watch 43 = .ok (.aload_n 0, 1) := by decide +kernel
theorem dX9_watch_44 : decode cX9_watch 44 = .ok (.getfield 19, 3) := by decide +kernel
theorem dX9_watch_47 : decode cX9_watch 47 = .ok (.iload_n 1, 1) := by decide +kernel
theorem dX9_watch_48 : decode cX9_watch 48 = .ok (.iload 4, 2) := by decide +kernel
theorem dX9_watch_50 : decode cX9_watch 50 = .ok (.invokevirtual 239, 3) := by decide +kernel
theorem dX9_watch_53 : decode cX9_watch 53 = .ok (.ifCond .ne 6, 3) := by decide +kernel
theorem dX9_watch_56 : decode cX9_watch 56 = .ok (.goto 86, 3) := by decide +kernel
theorem dX9_watch_59 : decode cX9_watch 59 = .ok (.aload_n 0, 1) := by decide +kernel
theorem dX9_watch_60 : decode cX9_watch 60 = .ok (.getfield 61, 3) := by decide +kernel
theorem dX9_watch_63 : decode cX9_watch 63 = .ok (.aload_n 0, 1) := by decide +kernel
theorem dX9_watch_64 : decode cX9_watch 64 = .ok (.getfield 34, 3) := by decide +kernel
theorem dX9_watch_67 : decode cX9_watch 67 = .ok (.aload_n 0, 1) := by decide +kernel
theorem dX9_watch_68 : decode cX9_watch 68 = .ok (.getfield 19, 3) := by decide +kernel
theorem dX9_watch_71 : decode cX9_watch 71 = .ok (.aload_n 0, 1) := by decide +kernel
theorem dX9_watch_72 : decode cX9_watch 72 = .ok (.getfield 19, 3) := by decide +kernel
theorem dX9_watch_75 : decode cX9_watch 75 = .ok (.getfield 127, 3) := by decide +kernel
theorem dX9_watch_78 : decode cX9_watch 78 = .ok (.aload_n 0, 1) := by decide +kernel
theorem dX9_watch_79 : decode cX9_watch 79 = .ok (.getfield 19, 3) := by decide +kernel
theorem dX9_watch_82 : decode cX9_watch 82 = .ok (.getfield 127, 3) := by decide +kernel
theorem dX9_watch_85 : decode cX9_watch 85 = .ok (.invokevirtual 231, 3) := by decide +kernel
theorem dX9_watch_88 : decode cX9_watch 88 = .ok (.aload_n 0, 1) := by decide +kernel
theorem dX9_watch_89 : decode cX9_watch 89 = .ok (.getfield 34, 3) := by decide +kernel
theorem dX9_watch_92 : decode cX9_watch 92 = .ok (.iload 4, 2) := by decide +kernel
theorem dX9_watch_94 : decode cX9_watch 94 = .ok (.i2l, 1) := by decide +kernel
theorem dX9_watch_95 : decode cX9_watch 95 = .ok (.iload_n 2, 1) := by decide +kernel
theorem dX9_watch_96 : decode cX9_watch 96 = .ok (.i2l, 1) := by decide +kernel
theorem dX9_watch_97 : decode cX9_watch 97 = .ok (.lmul, 1) := by decide +kernel
theorem dX9_watch_98 : decode cX9_watch 98 = .ok (.aload_n 0, 1) := by decide +kernel
theorem dX9_watch_99 : decode cX9_watch 99 = .ok (.getfield 19, 3) := by decide +kernel
theorem dX9_watch_102 : decode cX9_watch 102 = .ok (.getfield 127, 3) := by decide +kernel
theorem dX9_watch_105 : decode cX9_watch 105 = .ok (.i2l, 1) := by decide +kernel
theorem dX9_watch_106 : decode cX9_watch 106 = .ok (.invokevirtual 242, 3) := by decide +kernel
theorem dX9_watch_109 : decode cX9_watch 109 = .ok (.iload_n 3, 1) := by decide +kernel
theorem dX9_watch_110 : decode cX9_watch 110 = .ok (.iconst (-1), 1) := by decide +kernel
theorem dX9_watch_111 : decode cX9_watch 111 = .ok (.if_icmp .eq 17, 3) := by decide +kernel
theorem dX9_watch_114 : decode cX9_watch 114 = .ok (.aload_n 0, 1) := by decide +kernel
theorem dX9_watch_115 : decode cX9_watch 115 = .ok (.getfield 34, 3) := by decide +kernel
theorem dX9_watch_118 : decode cX9_watch 118 = .ok (.aload_n 0, 1) := by decide +kernel
theorem dX9_watch_119 : decode cX9_watch 119 = .ok (.getfield 37, 3) := by decide +kernel
theorem dX9_watch_122 : decode cX9_watch 122 = .ok (.invokestatic 235, 3) := by decide +kernel
theorem dX9_watch_125 : decode cX9_watch 125 = .ok (.ifCond .eq 17, 3) := by decide +kernel
theorem dX9_watch_128 : decode cX9_watch 128 = .ok (.aload_n 0, 1) := by decide +kernel
theorem dX9_watch_129 : decode cX9_watch 129 = .ok (.getfield 37, 3) := by decide +kernel
theorem dX9_watch_132 : decode cX9_watch 132 = .ok (.aload_n 0, 1) := by decide +kernel
theorem dX9_watch_133 : decode cX9_watch 133 = .ok (.getfield 34, 3) := by decide +kernel
theorem dX9_watch_136 : decode cX9_watch 136 = .ok (.invokevirtual 202, 3) := by decide +kernel
theorem dX9_watch_139 : decode cX9_watch 139 = .ok (.iload 4, 2) := by decide +kernel
theorem dX9_watch_141 : decode cX9_watch 141 = .ok (.istore_n 3, 1) := by decide +kernel
theorem dX9_watch_142 : decode cX9_watch 142 = .ok (.iinc 4 1, 3) := by decide +kernel
theorem dX9_watch_145 : decode cX9_watch 145 = .ok (.goto (-118), 3) := by decide +kernel
theorem dX9_watch_148 : decode cX9_watch 148 = .ok (.iload_n 3, 1) := by decide +kernel
theorem dX9_watch_149 : decode cX9_watch 149 = .ok (.iconst (-1), 1) := by decide +kernel
theorem dX9_watch_150 : decode cX9_watch 150 = .ok (.if_icmp .eq 14, 3) := by decide +kernel
theorem dX9_watch_153 : decode cX9_watch 153 = .ok (.aload_n 0, 1) := by decide +kernel
theorem dX9_watch_154 : decode cX9_watch 154 = .ok (.getfield 30, 3) := by decide +kernel
theorem dX9_watch_157 : decode cX9_watch 157 = .ok (.aload_n 0, 1) := by decide +kernel
theorem dX9_watch_158 : decode cX9_watch 158 = .ok (.getfield 37, 3) := by decide +kernel
theorem dX9_watch_161 : decode cX9_watch 161 = .ok (.invokevirtual 202, 3) := by decide +kernel
theorem dX9_watch_164 : decode cX9_watch 164 = .ok (.iload_n 3, 1) := by decide +kernel
theorem dX9_watch_165 : decode cX9_watch 165 = .ok (.ireturn, 1) := by decide +kernel
theorem kk_X9_merged_0 : Cond.fieldLink RX9 54 "PaidBySigns" "cheapest" "LPaidBySigns$LeastCost;" ∈ wsX9_merged := pm_X9_merged_r1 _ (List.mem_of_getElem? (i := 0) rfl)
theorem kk_X9_merged_1 : Cond.fieldLink RX9 19 "PaidBySigns" "hire" "LPaidBySigns$Hire;" ∈ wsX9_merged := pm_X9_merged_r1 _ (List.mem_of_getElem? (i := 1) rfl)
theorem kk_X9_merged_2 : Cond.fieldLink RX9 30 "PaidBySigns" "latest" "LPaidBySigns$Fraction;" ∈ wsX9_merged := pm_X9_merged_r1 _ (List.mem_of_getElem? (i := 2) rfl)
theorem kk_X9_coins_0 : Cond.fieldLink RX9 68 "PaidBySigns" "coinSearch" "LPaidBySigns$CoinSearch;" ∈ wsX9_coins := pm_X9_coins_r1 _ (List.mem_of_getElem? (i := 0) rfl)
theorem kk_X9_coins_1 : Cond.fieldLink RX9 19 "PaidBySigns" "hire" "LPaidBySigns$Hire;" ∈ wsX9_coins := pm_X9_coins_r1 _ (List.mem_of_getElem? (i := 1) rfl)
theorem kk_X9_coins_2 : Cond.fieldLink RX9 30 "PaidBySigns" "latest" "LPaidBySigns$Fraction;" ∈ wsX9_coins := pm_X9_coins_r1 _ (List.mem_of_getElem? (i := 2) rfl)
theorem kk_X9_coins_3 : Cond.fieldLink RX9 217 "PaidBySigns$CoinSearch" "bestCost" "I" ∈ wsX9_coins := pm_X9_coins_r1 _ (List.mem_of_getElem? (i := 3) rfl)
theorem kk_X9_coins_4 : Cond.fieldLink RX9 127 "PaidBySigns$Hire" "whole" "I" ∈ wsX9_coins := pm_X9_coins_r1 _ (List.mem_of_getElem? (i := 4) rfl)
theorem kk_X9_coins_5 : Cond.fieldLink RX9 101 "PaidBySigns$Hire" "least" "I" ∈ wsX9_coins := pm_X9_coins_r1 _ (List.mem_of_getElem? (i := 5) rfl)
theorem kk_X9_coins_6 : Cond.fieldLink RX9 124 "PaidBySigns$Hire" "signs" "I" ∈ wsX9_coins := pm_X9_coins_r1 _ (List.mem_of_getElem? (i := 6) rfl)
theorem kk_X9_coins_7 : Cond.fieldLink RX9 47 "PaidBySigns" "hasWages" "Z" ∈ wsX9_coins := pm_X9_coins_r1 _ (List.mem_of_getElem? (i := 10) rfl)
theorem kk_X9_coins_8 : Cond.fieldLink RX9 40 "PaidBySigns" "wageUpper" "[J" ∈ wsX9_coins := pm_X9_coins_r1 _ (List.mem_of_getElem? (i := 7) rfl)
theorem kk_X9_coins_9 : Cond.fieldLink RX9 220 "PaidBySigns$CoinSearch" "chosen" "[I" ∈ wsX9_coins := pm_X9_coins_r1 _ (List.mem_of_getElem? (i := 8) rfl)
theorem kk_X9_coins_10 : Cond.fieldLink RX9 44 "PaidBySigns" "wageLower" "[J" ∈ wsX9_coins := pm_X9_coins_r1 _ (List.mem_of_getElem? (i := 9) rfl)
theorem kk_X9_bar_0 : Cond.fieldLink RX9 19 "PaidBySigns" "hire" "LPaidBySigns$Hire;" ∈ wsX9_bar := pm_X9_bar_r1 _ (List.mem_of_getElem? (i := 0) rfl)
theorem kk_X9_bar_1 : Cond.fieldLink RX9 124 "PaidBySigns$Hire" "signs" "I" ∈ wsX9_bar := pm_X9_bar_r1 _ (List.mem_of_getElem? (i := 1) rfl)
theorem kk_X9_bar_2 : Cond.fieldLink RX9 61 "PaidBySigns" "oneSum" "LPaidBySigns$OneSum;" ∈ wsX9_bar := pm_X9_bar_r1 _ (List.mem_of_getElem? (i := 2) rfl)
theorem kk_X9_bar_3 : Cond.fieldLink RX9 127 "PaidBySigns$Hire" "whole" "I" ∈ wsX9_bar := pm_X9_bar_r1 _ (List.mem_of_getElem? (i := 3) rfl)
theorem kk_X9_bar_4 : Cond.fieldLink RX9 34 "PaidBySigns" "trial" "LPaidBySigns$Fraction;" ∈ wsX9_bar := pm_X9_bar_r1 _ (List.mem_of_getElem? (i := 4) rfl)
theorem kk_X9_bar_5 : Cond.fieldLink RX9 37 "PaidBySigns" "champion" "LPaidBySigns$Fraction;" ∈ wsX9_bar := pm_X9_bar_r1 _ (List.mem_of_getElem? (i := 5) rfl)
theorem kk_X9_bar_6 : Cond.fieldLink RX9 30 "PaidBySigns" "latest" "LPaidBySigns$Fraction;" ∈ wsX9_bar := pm_X9_bar_r1 _ (List.mem_of_getElem? (i := 6) rfl)
theorem kk_X9_crew_0 : Cond.fieldLink RX9 19 "PaidBySigns" "hire" "LPaidBySigns$Hire;" ∈ wsX9_crew := pm_X9_crew_r1 _ (List.mem_of_getElem? (i := 0) rfl)
theorem kk_X9_crew_1 : Cond.fieldLink RX9 127 "PaidBySigns$Hire" "whole" "I" ∈ wsX9_crew := pm_X9_crew_r1 _ (List.mem_of_getElem? (i := 1) rfl)
theorem kk_X9_crew_2 : Cond.fieldLink RX9 61 "PaidBySigns" "oneSum" "LPaidBySigns$OneSum;" ∈ wsX9_crew := pm_X9_crew_r1 _ (List.mem_of_getElem? (i := 2) rfl)
theorem kk_X9_crew_3 : Cond.fieldLink RX9 30 "PaidBySigns" "latest" "LPaidBySigns$Fraction;" ∈ wsX9_crew := pm_X9_crew_r1 _ (List.mem_of_getElem? (i := 3) rfl)
theorem kk_X9_watch_0 : Cond.fieldLink RX9 19 "PaidBySigns" "hire" "LPaidBySigns$Hire;" ∈ wsX9_watch := pm_X9_watch_r1 _ (List.mem_of_getElem? (i := 0) rfl)
theorem kk_X9_watch_1 : Cond.fieldLink RX9 127 "PaidBySigns$Hire" "whole" "I" ∈ wsX9_watch := pm_X9_watch_r1 _ (List.mem_of_getElem? (i := 1) rfl)
theorem kk_X9_watch_2 : Cond.fieldLink RX9 61 "PaidBySigns" "oneSum" "LPaidBySigns$OneSum;" ∈ wsX9_watch := pm_X9_watch_r1 _ (List.mem_of_getElem? (i := 2) rfl)
theorem kk_X9_watch_3 : Cond.fieldLink RX9 34 "PaidBySigns" "trial" "LPaidBySigns$Fraction;" ∈ wsX9_watch := pm_X9_watch_r1 _ (List.mem_of_getElem? (i := 3) rfl)
theorem kk_X9_watch_4 : Cond.fieldLink RX9 37 "PaidBySigns" "champion" "LPaidBySigns$Fraction;" ∈ wsX9_watch := pm_X9_watch_r1 _ (List.mem_of_getElem? (i := 4) rfl)
theorem kk_X9_watch_5 : Cond.fieldLink RX9 30 "PaidBySigns" "latest" "LPaidBySigns$Fraction;" ∈ wsX9_watch := pm_X9_watch_r1 _ (List.mem_of_getElem? (i := 5) rfl)
theorem iw_X9_merged_X9 : ∀ w ∈ wsX90, w ∈ wsX9_merged := pw_X9_merged_X9
theorem iw_X9_coins_X9 : ∀ w ∈ wsX90, w ∈ wsX9_coins := pw_X9_coins_X9
theorem iw_X9_coins_X0 : ∀ w ∈ wsX00, w ∈ wsX9_coins := pw_X9_coins_X0
theorem iw_X9_coins_X3 : ∀ w ∈ wsX30, w ∈ wsX9_coins := pw_X9_coins_X3
theorem iw_X9_bar_X9 : ∀ w ∈ wsX90, w ∈ wsX9_bar := pw_X9_bar_X9
theorem iw_X9_bar_X3 : ∀ w ∈ wsX30, w ∈ wsX9_bar := pw_X9_bar_X3
theorem iw_X9_crew_X9 : ∀ w ∈ wsX90, w ∈ wsX9_crew := pw_X9_crew_X9
theorem iw_X9_crew_X3 : ∀ w ∈ wsX30, w ∈ wsX9_crew := pw_X9_crew_X3
theorem iw_X9_watch_X9 : ∀ w ∈ wsX90, w ∈ wsX9_watch := pw_X9_watch_X9
theorem iw_X9_watch_X3 : ∀ w ∈ wsX30, w ∈ wsX9_watch := pw_X9_watch_X3

abbrev cX9_press : ByteArray := prog_1_method_25_code
def yX9_press : MethodName := ⟨RX9, "press", "(II)I"⟩
abbrev cX9_by : ByteArray := prog_1_method_26_code
def yX9_by : MethodName := ⟨RX9, "by", "(I)I"⟩
abbrev cX9_proves : ByteArray := prog_1_method_27_code
def yX9_proves : MethodName := ⟨RX9, "proves", "(I)I"⟩
abbrev cX9_mix : ByteArray := prog_1_method_28_code
def yX9_mix : MethodName := ⟨RX9, "mix", "(II)I"⟩
abbrev cX9_same : ByteArray := prog_1_method_29_code
def yX9_same : MethodName := ⟨RX9, "same", "(I)I"⟩
def wsX9_press : List Cond := .code yX9_press cX9_press 3 (some .int) :: ([.fieldLink RX9 75 "PaidBySigns" "proofs" "LPaidBySigns$Proofs;", .methodLink RX9 140 yX9_isWork, .instanceMethod yX9_isWork, .selects RX9 yX9_isWork yX9_isWork, .initialized RX9, .code yX9_isWork cX9_isWork 2 (some .boolean), .fieldLink RX9 19 "PaidBySigns" "hire" "LPaidBySigns$Hire;", .fieldLink RX9 115 "PaidBySigns$Hire" "works" "I", .methodLink RX9 245 yX6_changeElse, .instanceMethod yX6_changeElse, .selects RX6 yX6_changeElse yX6_changeElse, .initialized RX6, .code yX6_changeElse cX6_changeElse 3 (some .int), .fieldLink RX6 19 "PaidBySigns$Proofs" "pressOfElse" "I", .methodLink RX9 248 yX6_changePress, .instanceMethod yX6_changePress, .selects RX6 yX6_changePress yX6_changePress, .code yX6_changePress cX6_changePress 4 (some .int), .fieldLink RX6 15 "PaidBySigns$Proofs" "press" "[I"] ++ wsX90 ++ wsX30 ++ wsX60)
def wsX9_by : List Cond := .code yX9_by cX9_by 3 (some .int) :: ([.fieldLink RX9 75 "PaidBySigns" "proofs" "LPaidBySigns$Proofs;", .fieldLink RX9 251 "PaidBySigns$Proofs" "lowerNumber" "I"] ++ wsX90 ++ wsX60)
def wsX9_proves_r1 : List Cond := [Cond.fieldLink RX9 75 "PaidBySigns" "proofs" "LPaidBySigns$Proofs;", Cond.fieldLink RX9 30 "PaidBySigns" "latest" "LPaidBySigns$Fraction;", Cond.fieldLink RX9 19 "PaidBySigns" "hire" "LPaidBySigns$Hire;", Cond.methodLink RX9 140 yX9_isWork, Cond.instanceMethod yX9_isWork, Cond.selects RX9 yX9_isWork yX9_isWork, Cond.initialized RX9, Cond.code yX9_isWork cX9_isWork 2 (some .boolean), Cond.fieldLink RX9 115 "PaidBySigns$Hire" "works" "I", Cond.methodLink RX9 254 yX6_boundInto, Cond.instanceMethod yX6_boundInto, Cond.selects RX6 yX6_boundInto yX6_boundInto, Cond.initialized RX6, Cond.code yX6_boundInto cX6_boundInto 11 (some .boolean), Cond.fieldLink RX6 19 "PaidBySigns$Proofs" "pressOfElse" "I", Cond.fieldLink RX6 31 "PaidBySigns$Hire" "costs" "[I", Cond.fieldLink RX6 36 "PaidBySigns$Hire" "otherwise" "I", Cond.fieldLink RX6 39 "PaidBySigns$Hire" "works" "I", Cond.fieldLink RX6 15 "PaidBySigns$Proofs" "press" "[I", Cond.fieldLink RX6 42 "PaidBySigns$Hire" "whole" "I", Cond.fieldLink RX6 45 "PaidBySigns$Hire" "signs" "I", Cond.fieldLink RX6 48 "PaidBySigns$Hire" "chances" "[[I", Cond.fieldLink RX6 9 "PaidBySigns$Proofs" "lowerNumber" "I", Cond.fieldLink RX6 56 "PaidBySigns$Hire" "rate" "[I"]
def wsX9_proves_r2 : List Cond := [Cond.fieldLink RX6 59 "PaidBySigns$Hire" "rates" "I", Cond.methodLink RX6 52 yX6_pressedAt, Cond.instanceMethod yX6_pressedAt, Cond.selects RX6 yX6_pressedAt yX6_pressedAt, Cond.code yX6_pressedAt cX6_pressedAt 7 (some .long), Cond.methodLink RX6 62 yX6_leastOf, Cond.static yX6_leastOf, Cond.code yX6_leastOf cX6_leastOf 9 (some .long), Cond.fieldLink RX6 72 "PaidBySigns$Hire" "least" "I", Cond.fieldLink RX6 79 "PaidBySigns$Hire" "mark" "[I", Cond.methodLink RX6 82 Lib.MathLoose.min_long.x, Cond.static Lib.MathLoose.min_long.x, Cond.initialized "java/lang/Math", Cond.code Lib.MathLoose.min_long.x Lib.MathLoose.min_long.code 4 (some .long), Cond.methodLink RX6 75 yX3_feltOf, Cond.instanceMethod yX3_feltOf, Cond.selects RX3 yX3_feltOf yX3_feltOf, Cond.initialized RX3, Cond.code yX3_feltOf cX3_feltOf 6 (some .int), Cond.fieldLink RX3 48 "PaidBySigns$Hire" "rates" "I", Cond.fieldLink RX3 26 "PaidBySigns$Hire" "mark" "[I", Cond.methodLink RX3 51 Lib.Math.min.name, Cond.static Lib.Math.min.name, Cond.code Lib.Math.min.name Lib.Math.min.code 2 (some .int)]
def wsX9_proves_r3 : List Cond := [Cond.fieldLink RX3 23 "PaidBySigns$Hire" "rate" "[I", Cond.methodLink RX6 66 yX2_become, Cond.instanceMethod yX2_become, Cond.selects RX2 yX2_become yX2_become, Cond.initialized RX2, Cond.code yX2_become cX2_become 7 none, Cond.methodLink RX2 20 Lib.MathLoose.abs_long.x, Cond.static Lib.MathLoose.abs_long.x, Cond.code Lib.MathLoose.abs_long.x Lib.MathLoose.abs_long.code 2 (some .long), Cond.fieldLink RX2 11 "PaidBySigns$Fraction" "upper" "J", Cond.fieldLink RX2 17 "PaidBySigns$Fraction" "lower" "J", Cond.methodLink RX2 26 yX2_commonPart, Cond.static yX2_commonPart, Cond.code yX2_commonPart cX2_commonPart 11 (some .long), Cond.methodLink RX2 30 yX2_forget, Cond.instanceMethod yX2_forget, Cond.selects RX2 yX2_forget yX2_forget, Cond.code yX2_forget cX2_forget 1 none, Cond.constantLong RX2 9 (-2000000000)]
def wsX9_proves : List Cond := .code yX9_proves cX9_proves 2 (some .int) :: ((wsX9_proves_r1 ++ (wsX9_proves_r2 ++ wsX9_proves_r3)) ++ wsX90 ++ wsX30 ++ wsX60 ++ wsX20)
def wsX9_mix : List Cond := .code yX9_mix cX9_mix 3 (some .int) :: ([.fieldLink RX9 75 "PaidBySigns" "proofs" "LPaidBySigns$Proofs;", .methodLink RX9 140 yX9_isWork, .instanceMethod yX9_isWork, .selects RX9 yX9_isWork yX9_isWork, .initialized RX9, .code yX9_isWork cX9_isWork 2 (some .boolean), .fieldLink RX9 19 "PaidBySigns" "hire" "LPaidBySigns$Hire;", .fieldLink RX9 115 "PaidBySigns$Hire" "works" "I", .methodLink RX9 258 yX6_changeMix, .instanceMethod yX6_changeMix, .selects RX6 yX6_changeMix yX6_changeMix, .initialized RX6, .code yX6_changeMix cX6_changeMix 4 (some .int), .fieldLink RX6 22 "PaidBySigns$Proofs" "mixed" "[I"] ++ wsX90 ++ wsX30 ++ wsX60)
def wsX9_same : List Cond := .code yX9_same cX9_same 2 (some .int) :: ([.fieldLink RX9 75 "PaidBySigns" "proofs" "LPaidBySigns$Proofs;", .fieldLink RX9 19 "PaidBySigns" "hire" "LPaidBySigns$Hire;", .methodLink RX9 140 yX9_isWork, .instanceMethod yX9_isWork, .selects RX9 yX9_isWork yX9_isWork, .initialized RX9, .code yX9_isWork cX9_isWork 2 (some .boolean), .fieldLink RX9 115 "PaidBySigns$Hire" "works" "I", .methodLink RX9 261 yX6_isRuledOut, .instanceMethod yX6_isRuledOut, .selects RX6 yX6_isRuledOut yX6_isRuledOut, .initialized RX6, .code yX6_isRuledOut cX6_isRuledOut 6 (some .boolean), .fieldLink RX6 39 "PaidBySigns$Hire" "works" "I", .fieldLink RX6 22 "PaidBySigns$Proofs" "mixed" "[I", .fieldLink RX6 31 "PaidBySigns$Hire" "costs" "[I", .fieldLink RX6 45 "PaidBySigns$Hire" "signs" "I", .fieldLink RX6 48 "PaidBySigns$Hire" "chances" "[[I", .methodLink RX6 88 yX6_mixedChance, .instanceMethod yX6_mixedChance, .selects RX6 yX6_mixedChance yX6_mixedChance, .code yX6_mixedChance cX6_mixedChance 6 (some .int)] ++ wsX90 ++ wsX30 ++ wsX60)
set_option maxRecDepth 20000 in
theorem ggX9_press_X9_isWork : GoodIn wsX9_press wsX9_isWork := goodIn_r _ [6, 7, 8, 20, 21, 22, 23, 24, 25, 26, 27, 28, 29, 30, 31, 32, 33, 34, 35, 36, 37, 38, 39, 40, 41, 42, 43, 44] (by decide +kernel) (by decide +kernel)
set_option maxRecDepth 20000 in
theorem gX9_press_X9_isWork : GoodIn wsX9_press (wsV RX9 140 RX9 yX9_isWork wsX9_isWork) := goodIn_app (goodIn_of _ (by decide +kernel)) ggX9_press_X9_isWork
set_option maxRecDepth 20000 in
theorem ggX9_press_X6_changeElse : GoodIn wsX9_press wsX6_changeElse := goodIn_r _ [13, 14, 45, 46, 47, 48] (by decide +kernel) (by decide +kernel)
set_option maxRecDepth 20000 in
theorem gX9_press_X6_changeElse : GoodIn wsX9_press (wsV RX9 245 RX6 yX6_changeElse wsX6_changeElse) := goodIn_app (goodIn_of _ (by decide +kernel)) ggX9_press_X6_changeElse
set_option maxRecDepth 20000 in
theorem ggX9_press_X6_changePress : GoodIn wsX9_press wsX6_changePress := goodIn_r _ [18, 19, 45, 46, 47, 48] (by decide +kernel) (by decide +kernel)
set_option maxRecDepth 20000 in
theorem gX9_press_X6_changePress : GoodIn wsX9_press (wsV RX9 248 RX6 yX6_changePress wsX6_changePress) := goodIn_app (goodIn_of _ (by decide +kernel)) ggX9_press_X6_changePress
theorem dX9_press_0 : decode cX9_press 0 = .ok (.iload_n 1, 1) := by decide +kernel
theorem dX9_press_1 : decode cX9_press 1 = .ok (.iconst (-1), 1) := by decide +kernel
theorem dX9_press_2 : decode cX9_press 2 = .ok (.if_icmp .eq 11, 3) := by decide +kernel
theorem dX9_press_5 : decode cX9_press 5 = .ok (.aload_n 0, 1) := by decide +kernel
theorem dX9_press_6 : decode cX9_press 6 = .ok (.iload_n 1, 1) := by decide +kernel
theorem dX9_press_7 : decode cX9_press 7 = .ok (.invokevirtual 140, 3) := by decide +kernel
theorem dX9_press_10 : decode cX9_press 10 = .ok (.ifCond .eq 14, 3) := by decide +kernel
theorem dX9_press_13 : decode cX9_press 13 = .ok (.iload_n 2, 1) := by decide +kernel
theorem dX9_press_14 : decode cX9_press 14 = .ok (.ifCond .lt 10, 3) := by decide +kernel
theorem dX9_press_17 : decode cX9_press 17 = .ok (.iload_n 2, 1) := by decide +kernel
theorem dX9_press_18 : decode cX9_press 18 = .ok (.sipush 9999, 3) := by decide +kernel
theorem dX9_press_21 : decode cX9_press 21 = .ok (.if_icmp .le 6, 3) := by decide +kernel
theorem dX9_press_24 : decode cX9_press 24 = .ok (.bipush (-2), 2) := by decide +kernel
theorem dX9_press_26 : decode cX9_press 26 = .ok (.ireturn, 1) := by decide +kernel
theorem dX9_press_27 : decode cX9_press 27 = .ok (.iload_n 1, 1) := by decide +kernel
theorem dX9_press_28 : decode cX9_press 28 = .ok (.iconst (-1), 1) := by decide +kernel
theorem dX9_press_29 : decode cX9_press 29 = .ok (.if_icmp .ne 14, 3) := by decide +kernel
theorem dX9_press_32 : decode cX9_press 32 = .ok (.aload_n 0, 1) := by decide +kernel
theorem dX9_press_33 : decode cX9_press 33 = .ok (.getfield 75, 3) := by decide +kernel
theorem dX9_press_36 : decode cX9_press 36 = .ok (.iload_n 2, 1) := by decide +kernel
theorem dX9_press_37 : decode cX9_press 37 = .ok (.invokevirtual 245, 3) := by decide +kernel
theorem dX9_press_40 : decode cX9_press 40 = .ok (.goto 12, 3) := by decide +kernel
theorem dX9_press_43 : decode cX9_press 43 = .ok (.aload_n 0, 1) := by decide +kernel
theorem dX9_press_44 : decode cX9_press 44 = .ok (.getfield 75, 3) := by decide +kernel
theorem dX9_press_47 : decode cX9_press 47 = .ok (.iload_n 1, 1) := by decide +kernel
theorem dX9_press_48 : decode cX9_press 48 = .ok (.iload_n 2, 1) := by decide +kernel
theorem dX9_press_49 : decode cX9_press 49 = .ok (.invokevirtual 248, 3) := by decide +kernel
theorem dX9_press_52 : decode cX9_press 52 = .ok (.ireturn, 1) := by decide +kernel
theorem dX9_by_0 : decode cX9_by 0 = .ok (.iload_n 1, 1) := by decide +kernel
theorem dX9_by_1 : decode cX9_by 1 = .ok (.iconst 1, 1) := by decide +kernel
theorem dX9_by_2 : decode cX9_by 2 = .ok (.if_icmp .lt 10, 3) := by decide +kernel
theorem dX9_by_5 : decode cX9_by 5 = .ok (.iload_n 1, 1) := by decide +kernel
theorem dX9_by_6 : decode cX9_by 6 = .ok (.sipush 9999, 3) := by decide +kernel
theorem dX9_by_9 : decode cX9_by 9 = .ok (.if_icmp .le 6, 3) := by decide +kernel
theorem dX9_by_12 : decode cX9_by 12 = .ok (.bipush (-2), 2) := by decide +kernel
theorem dX9_by_14 : decode cX9_by 14 = .ok (.ireturn, 1) := by decide +kernel
theorem dX9_by_15 : decode cX9_by 15 = .ok (.aload_n 0, 1) := by decide +kernel
theorem dX9_by_16 : decode cX9_by 16 = .ok (.getfield 75, 3) := by decide +kernel
theorem dX9_by_19 : decode cX9_by 19 = .ok (.getfield 251, 3) := by decide +kernel
theorem dX9_by_22 : decode cX9_by 22 = .ok (.istore_n 2, 1) := by decide +kernel
theorem dX9_by_23 : decode cX9_by 23 = .ok (.aload_n 0, 1) := by decide +kernel
theorem dX9_by_24 : decode cX9_by 24 = .ok (.getfield 75, 3) := by decide +kernel
theorem dX9_by_27 : decode cX9_by 27 = .ok (.iload_n 1, 1) := by decide +kernel
theorem dX9_by_28 : decode cX9_by 28 = .ok (.putfield 251, 3) := by decide +kernel
theorem dX9_by_31 : decode cX9_by 31 = .ok (.iload_n 2, 1) := by decide +kernel
theorem dX9_by_32 : decode cX9_by 32 = .ok (.ireturn, 1) := by decide +kernel
theorem pm_X9_proves_r1 : ∀ w ∈ wsX9_proves_r1, w ∈ wsX9_proves := fun _ h => List.mem_cons_of_mem _ (List.mem_append_left _ (List.mem_append_left _ (List.mem_append_left _ (List.mem_append_left _ (List.mem_append_left _ h)))))
theorem pm_X9_proves_r2 : ∀ w ∈ wsX9_proves_r2, w ∈ wsX9_proves := fun _ h => List.mem_cons_of_mem _ (List.mem_append_left _ (List.mem_append_left _ (List.mem_append_left _ (List.mem_append_left _ (List.mem_append_right _ (List.mem_append_left _ h))))))
theorem pm_X9_proves_r3 : ∀ w ∈ wsX9_proves_r3, w ∈ wsX9_proves := fun _ h => List.mem_cons_of_mem _ (List.mem_append_left _ (List.mem_append_left _ (List.mem_append_left _ (List.mem_append_left _ (List.mem_append_right _ (List.mem_append_right _ (h)))))))
theorem pw_X9_proves_X9 : ∀ w ∈ wsX90, w ∈ wsX9_proves := fun _ h => List.mem_cons_of_mem _ (List.mem_append_left _ (List.mem_append_left _ (List.mem_append_left _ (List.mem_append_right _ h))))
theorem pw_X9_proves_X3 : ∀ w ∈ wsX30, w ∈ wsX9_proves := fun _ h => List.mem_cons_of_mem _ (List.mem_append_left _ (List.mem_append_left _ (List.mem_append_right _ h)))
theorem pw_X9_proves_X6 : ∀ w ∈ wsX60, w ∈ wsX9_proves := fun _ h => List.mem_cons_of_mem _ (List.mem_append_left _ (List.mem_append_right _ h))
theorem pw_X9_proves_X2 : ∀ w ∈ wsX20, w ∈ wsX9_proves := fun _ h => List.mem_cons_of_mem _ (List.mem_append_right _ h)
set_option maxRecDepth 20000 in
theorem ggX9_proves_X9_isWork : GoodIn wsX9_proves wsX9_isWork := goodIn_sub (List.forall_mem_cons.mpr ⟨pm_X9_proves_r1 _ (List.mem_of_getElem? (i := 7) rfl), List.forall_mem_append.mpr ⟨List.forall_mem_append.mpr ⟨List.forall_mem_cons.mpr ⟨pm_X9_proves_r1 _ (List.mem_of_getElem? (i := 2) rfl), List.forall_mem_cons.mpr ⟨pm_X9_proves_r1 _ (List.mem_of_getElem? (i := 8) rfl), fun _ h => absurd h List.not_mem_nil⟩⟩, pw_X9_proves_X9⟩, pw_X9_proves_X3⟩⟩) (by decide +kernel)
set_option maxRecDepth 20000 in
theorem gX9_proves_X9_isWork : GoodIn wsX9_proves (wsV RX9 140 RX9 yX9_isWork wsX9_isWork) := goodIn_app (goodIn_of _ (by decide +kernel)) ggX9_proves_X9_isWork
set_option maxRecDepth 20000 in
theorem pq_X9_proves_X6_boundInto_r1 : ∀ w ∈ wsX6_boundInto_r1, w ∈ wsX9_proves := List.forall_mem_cons.mpr ⟨pm_X9_proves_r1 _ (List.mem_of_getElem? (i := 14) rfl), List.forall_mem_cons.mpr ⟨pm_X9_proves_r1 _ (List.mem_of_getElem? (i := 15) rfl), List.forall_mem_cons.mpr ⟨pm_X9_proves_r1 _ (List.mem_of_getElem? (i := 16) rfl), List.forall_mem_cons.mpr ⟨pm_X9_proves_r1 _ (List.mem_of_getElem? (i := 17) rfl), List.forall_mem_cons.mpr ⟨pm_X9_proves_r1 _ (List.mem_of_getElem? (i := 18) rfl), List.forall_mem_cons.mpr ⟨pm_X9_proves_r1 _ (List.mem_of_getElem? (i := 19) rfl), List.forall_mem_cons.mpr ⟨pm_X9_proves_r1 _ (List.mem_of_getElem? (i := 20) rfl), List.forall_mem_cons.mpr ⟨pm_X9_proves_r1 _ (List.mem_of_getElem? (i := 21) rfl), List.forall_mem_cons.mpr ⟨pm_X9_proves_r1 _ (List.mem_of_getElem? (i := 22) rfl), List.forall_mem_cons.mpr ⟨pm_X9_proves_r1 _ (List.mem_of_getElem? (i := 23) rfl), List.forall_mem_cons.mpr ⟨pm_X9_proves_r2 _ (List.mem_of_getElem? (i := 0) rfl), List.forall_mem_cons.mpr ⟨pm_X9_proves_r2 _ (List.mem_of_getElem? (i := 1) rfl), List.forall_mem_cons.mpr ⟨pm_X9_proves_r2 _ (List.mem_of_getElem? (i := 2) rfl), List.forall_mem_cons.mpr ⟨pm_X9_proves_r2 _ (List.mem_of_getElem? (i := 3) rfl), List.forall_mem_cons.mpr ⟨pm_X9_proves_r1 _ (List.mem_of_getElem? (i := 12) rfl), List.forall_mem_cons.mpr ⟨pm_X9_proves_r2 _ (List.mem_of_getElem? (i := 4) rfl), List.forall_mem_cons.mpr ⟨pm_X9_proves_r2 _ (List.mem_of_getElem? (i := 5) rfl), List.forall_mem_cons.mpr ⟨pm_X9_proves_r2 _ (List.mem_of_getElem? (i := 6) rfl), List.forall_mem_cons.mpr ⟨pm_X9_proves_r2 _ (List.mem_of_getElem? (i := 7) rfl), List.forall_mem_cons.mpr ⟨pm_X9_proves_r2 _ (List.mem_of_getElem? (i := 8) rfl), List.forall_mem_cons.mpr ⟨pm_X9_proves_r2 _ (List.mem_of_getElem? (i := 9) rfl), List.forall_mem_cons.mpr ⟨pm_X9_proves_r2 _ (List.mem_of_getElem? (i := 10) rfl), List.forall_mem_cons.mpr ⟨pm_X9_proves_r2 _ (List.mem_of_getElem? (i := 11) rfl), List.forall_mem_cons.mpr ⟨pm_X9_proves_r2 _ (List.mem_of_getElem? (i := 12) rfl), fun _ h => absurd h List.not_mem_nil⟩⟩⟩⟩⟩⟩⟩⟩⟩⟩⟩⟩⟩⟩⟩⟩⟩⟩⟩⟩⟩⟩⟩⟩
set_option maxRecDepth 20000 in
theorem pq_X9_proves_X6_boundInto_r2 : ∀ w ∈ wsX6_boundInto_r2, w ∈ wsX9_proves := List.forall_mem_cons.mpr ⟨pm_X9_proves_r2 _ (List.mem_of_getElem? (i := 13) rfl), List.forall_mem_cons.mpr ⟨pm_X9_proves_r2 _ (List.mem_of_getElem? (i := 14) rfl), List.forall_mem_cons.mpr ⟨pm_X9_proves_r2 _ (List.mem_of_getElem? (i := 15) rfl), List.forall_mem_cons.mpr ⟨pm_X9_proves_r2 _ (List.mem_of_getElem? (i := 16) rfl), List.forall_mem_cons.mpr ⟨pm_X9_proves_r2 _ (List.mem_of_getElem? (i := 17) rfl), List.forall_mem_cons.mpr ⟨pm_X9_proves_r2 _ (List.mem_of_getElem? (i := 18) rfl), List.forall_mem_cons.mpr ⟨pm_X9_proves_r2 _ (List.mem_of_getElem? (i := 19) rfl), List.forall_mem_cons.mpr ⟨pm_X9_proves_r2 _ (List.mem_of_getElem? (i := 20) rfl), List.forall_mem_cons.mpr ⟨pm_X9_proves_r2 _ (List.mem_of_getElem? (i := 21) rfl), List.forall_mem_cons.mpr ⟨pm_X9_proves_r2 _ (List.mem_of_getElem? (i := 22) rfl), List.forall_mem_cons.mpr ⟨pm_X9_proves_r2 _ (List.mem_of_getElem? (i := 23) rfl), List.forall_mem_cons.mpr ⟨pm_X9_proves_r3 _ (List.mem_of_getElem? (i := 0) rfl), List.forall_mem_cons.mpr ⟨pm_X9_proves_r3 _ (List.mem_of_getElem? (i := 1) rfl), List.forall_mem_cons.mpr ⟨pm_X9_proves_r3 _ (List.mem_of_getElem? (i := 2) rfl), List.forall_mem_cons.mpr ⟨pm_X9_proves_r3 _ (List.mem_of_getElem? (i := 3) rfl), List.forall_mem_cons.mpr ⟨pm_X9_proves_r3 _ (List.mem_of_getElem? (i := 4) rfl), List.forall_mem_cons.mpr ⟨pm_X9_proves_r3 _ (List.mem_of_getElem? (i := 5) rfl), List.forall_mem_cons.mpr ⟨pm_X9_proves_r3 _ (List.mem_of_getElem? (i := 6) rfl), List.forall_mem_cons.mpr ⟨pm_X9_proves_r3 _ (List.mem_of_getElem? (i := 7) rfl), List.forall_mem_cons.mpr ⟨pm_X9_proves_r3 _ (List.mem_of_getElem? (i := 8) rfl), List.forall_mem_cons.mpr ⟨pm_X9_proves_r3 _ (List.mem_of_getElem? (i := 9) rfl), List.forall_mem_cons.mpr ⟨pm_X9_proves_r3 _ (List.mem_of_getElem? (i := 10) rfl), List.forall_mem_cons.mpr ⟨pm_X9_proves_r3 _ (List.mem_of_getElem? (i := 11) rfl), List.forall_mem_cons.mpr ⟨pm_X9_proves_r3 _ (List.mem_of_getElem? (i := 12) rfl), fun _ h => absurd h List.not_mem_nil⟩⟩⟩⟩⟩⟩⟩⟩⟩⟩⟩⟩⟩⟩⟩⟩⟩⟩⟩⟩⟩⟩⟩⟩
set_option maxRecDepth 20000 in
theorem pq_X9_proves_X6_boundInto_r3 : ∀ w ∈ wsX6_boundInto_r3, w ∈ wsX9_proves := List.forall_mem_cons.mpr ⟨pm_X9_proves_r3 _ (List.mem_of_getElem? (i := 13) rfl), List.forall_mem_cons.mpr ⟨pm_X9_proves_r3 _ (List.mem_of_getElem? (i := 14) rfl), List.forall_mem_cons.mpr ⟨pm_X9_proves_r3 _ (List.mem_of_getElem? (i := 15) rfl), List.forall_mem_cons.mpr ⟨pm_X9_proves_r3 _ (List.mem_of_getElem? (i := 16) rfl), List.forall_mem_cons.mpr ⟨pm_X9_proves_r3 _ (List.mem_of_getElem? (i := 17) rfl), List.forall_mem_cons.mpr ⟨pm_X9_proves_r3 _ (List.mem_of_getElem? (i := 18) rfl), fun _ h => absurd h List.not_mem_nil⟩⟩⟩⟩⟩⟩
set_option maxRecDepth 20000 in
theorem ggX9_proves_X6_boundInto : GoodIn wsX9_proves wsX6_boundInto := goodIn_sub (List.forall_mem_cons.mpr ⟨pm_X9_proves_r1 _ (List.mem_of_getElem? (i := 13) rfl), List.forall_mem_append.mpr ⟨List.forall_mem_append.mpr ⟨List.forall_mem_append.mpr ⟨List.forall_mem_append.mpr ⟨pq_X9_proves_X6_boundInto_r1, List.forall_mem_append.mpr ⟨pq_X9_proves_X6_boundInto_r2, pq_X9_proves_X6_boundInto_r3⟩⟩, pw_X9_proves_X6⟩, pw_X9_proves_X3⟩, pw_X9_proves_X2⟩⟩) (by decide +kernel)
set_option maxRecDepth 20000 in
theorem gX9_proves_X6_boundInto : GoodIn wsX9_proves (wsV RX9 254 RX6 yX6_boundInto wsX6_boundInto) := goodIn_app (goodIn_of _ (by decide +kernel)) ggX9_proves_X6_boundInto
theorem dX9_proves_0 : decode cX9_proves 0 = .ok (.aload_n 0, 1) := by decide +kernel
theorem dX9_proves_1 : decode cX9_proves 1 = .ok (.iload_n 1, 1) := by decide +kernel
theorem dX9_proves_2 : decode cX9_proves 2 = .ok (.invokevirtual 140, 3) := by decide +kernel
theorem dX9_proves_5 : decode cX9_proves 5 = .ok (.ifCond .ne 6, 3) := by decide +kernel
theorem dX9_proves_8 : decode cX9_proves 8 = .ok (.bipush (-2), 2) := by decide +kernel
theorem dX9_proves_10 : decode cX9_proves 10 = .ok (.ireturn, 1) := by decide +kernel
theorem dX9_proves_11 : decode cX9_proves 11 = .ok (.aload_n 0, 1) := by decide +kernel
theorem dX9_proves_12 : decode cX9_proves 12 = .ok (.getfield 75, 3) := by decide +kernel
theorem dX9_proves_15 : decode cX9_proves 15 = .ok (.aload_n 0, 1) := by decide +kernel
theorem dX9_proves_16 : decode cX9_proves 16 = .ok (.getfield 30, 3) := by decide +kernel
theorem dX9_proves_19 : decode cX9_proves 19 = .ok (.aload_n 0, 1) := by decide +kernel
theorem dX9_proves_20 : decode cX9_proves 20 = .ok (.getfield 19, 3) := by decide +kernel
theorem dX9_proves_23 : decode cX9_proves 23 = .ok (.iload_n 1, 1) := by decide +kernel
theorem dX9_proves_24 : decode cX9_proves 24 = .ok (.invokevirtual 254, 3) := by decide +kernel
theorem dX9_proves_27 : decode cX9_proves 27 = .ok (.ifCond .eq 7, 3) := by decide +kernel
theorem dX9_proves_30 : decode cX9_proves 30 = .ok (.iconst 1, 1) := by decide +kernel
theorem dX9_proves_31 : decode cX9_proves 31 = .ok (.goto 4, 3) := by decide +kernel
theorem dX9_proves_34 : decode cX9_proves 34 = .ok (.iconst (-1), 1) := by decide +kernel
theorem dX9_proves_35 : decode cX9_proves 35 = .ok (.ireturn, 1) := by decide +kernel
set_option maxRecDepth 20000 in
theorem ggX9_mix_X9_isWork : GoodIn wsX9_mix wsX9_isWork := goodIn_r _ [6, 7, 8, 15, 16, 17, 18, 19, 20, 21, 22, 23, 24, 25, 26, 27, 28, 29, 30, 31, 32, 33, 34, 35, 36, 37, 38, 39] (by decide +kernel) (by decide +kernel)
set_option maxRecDepth 20000 in
theorem gX9_mix_X9_isWork : GoodIn wsX9_mix (wsV RX9 140 RX9 yX9_isWork wsX9_isWork) := goodIn_app (goodIn_of _ (by decide +kernel)) ggX9_mix_X9_isWork
set_option maxRecDepth 20000 in
theorem ggX9_mix_X6_changeMix : GoodIn wsX9_mix wsX6_changeMix := goodIn_r _ [13, 14, 40, 41, 42, 43] (by decide +kernel) (by decide +kernel)
set_option maxRecDepth 20000 in
theorem gX9_mix_X6_changeMix : GoodIn wsX9_mix (wsV RX9 258 RX6 yX6_changeMix wsX6_changeMix) := goodIn_app (goodIn_of _ (by decide +kernel)) ggX9_mix_X6_changeMix
theorem dX9_mix_0 : decode cX9_mix 0 = .ok (.aload_n 0, 1) := by decide +kernel
theorem dX9_mix_1 : decode cX9_mix 1 = .ok (.iload_n 1, 1) := by decide +kernel
theorem dX9_mix_2 : decode cX9_mix 2 = .ok (.invokevirtual 140, 3) := by decide +kernel
theorem dX9_mix_5 : decode cX9_mix 5 = .ok (.ifCond .eq 14, 3) := by decide +kernel
theorem dX9_mix_8 : decode cX9_mix 8 = .ok (.iload_n 2, 1) := by decide +kernel
theorem dX9_mix_9 : decode cX9_mix 9 = .ok (.ifCond .lt 10, 3) := by decide +kernel
theorem dX9_mix_12 : decode cX9_mix 12 = .ok (.iload_n 2, 1) := by decide +kernel
theorem dX9_mix_13 : decode cX9_mix 13 = .ok (.sipush 1000, 3) := by decide +kernel
theorem dX9_mix_16 : decode cX9_mix 16 = .ok (.if_icmp .le 8, 3) := by decide +kernel
theorem dX9_mix_19 : decode cX9_mix 19 = .ok (.bipush (-2), 2) := by decide +kernel
theorem dX9_mix_21 : decode cX9_mix 21 = .ok (.goto 12, 3) := by decide +kernel
theorem dX9_mix_24 : decode cX9_mix 24 = .ok (.aload_n 0, 1) := by decide +kernel
theorem dX9_mix_25 : decode cX9_mix 25 = .ok (.getfield 75, 3) := by decide +kernel
theorem dX9_mix_28 : decode cX9_mix 28 = .ok (.iload_n 1, 1) := by decide +kernel
theorem dX9_mix_29 : decode cX9_mix 29 = .ok (.iload_n 2, 1) := by decide +kernel
theorem dX9_mix_30 : decode cX9_mix 30 = .ok (.invokevirtual 258, 3) := by decide +kernel
theorem dX9_mix_33 : decode cX9_mix 33 = .ok (.ireturn, 1) := by decide +kernel
set_option maxRecDepth 20000 in
theorem ggX9_same_X9_isWork : GoodIn wsX9_same wsX9_isWork := goodIn_r _ [7, 2, 8, 23, 24, 25, 26, 27, 28, 29, 30, 31, 32, 33, 34, 35, 36, 37, 38, 39, 40, 41, 42, 43, 44, 45, 46, 47] (by decide +kernel) (by decide +kernel)
set_option maxRecDepth 20000 in
theorem gX9_same_X9_isWork : GoodIn wsX9_same (wsV RX9 140 RX9 yX9_isWork wsX9_isWork) := goodIn_app (goodIn_of _ (by decide +kernel)) ggX9_same_X9_isWork
set_option maxRecDepth 20000 in
theorem ggX9_same_X6_isRuledOut : GoodIn wsX9_same wsX6_isRuledOut := goodIn_r _ [13, 14, 15, 16, 17, 18, 19, 20, 21, 12, 22, 37, 38, 39, 40, 41, 42, 43, 44, 45, 46, 47, 48, 49, 50, 51] (by decide +kernel) (by decide +kernel)
set_option maxRecDepth 20000 in
theorem gX9_same_X6_isRuledOut : GoodIn wsX9_same (wsV RX9 261 RX6 yX6_isRuledOut wsX6_isRuledOut) := goodIn_app (goodIn_of _ (by decide +kernel)) ggX9_same_X6_isRuledOut
theorem dX9_same_0 : decode cX9_same 0 = .ok (.aload_n 0, 1) := by decide +kernel
theorem dX9_same_1 : decode cX9_same 1 = .ok (.iload_n 1, 1) := by decide +kernel
theorem dX9_same_2 : decode cX9_same 2 = .ok (.invokevirtual 140, 3) := by decide +kernel
theorem dX9_same_5 : decode cX9_same 5 = .ok (.ifCond .ne 6, 3) := by decide +kernel
theorem dX9_same_8 : decode cX9_same 8 = .ok (.bipush (-2), 2) := by decide +kernel
theorem dX9_same_10 : decode cX9_same 10 = .ok (.ireturn, 1) := by decide +kernel
theorem dX9_same_11 : decode cX9_same 11 = .ok (.aload_n 0, 1) := by decide +kernel
theorem dX9_same_12 : decode cX9_same 12 = .ok (.getfield 75, 3) := by decide +kernel
theorem dX9_same_15 : decode cX9_same 15 = .ok (.aload_n 0, 1) := by decide +kernel
theorem dX9_same_16 : decode cX9_same 16 = .ok (.getfield 19, 3) := by decide +kernel
theorem dX9_same_19 : decode cX9_same 19 = .ok (.iload_n 1, 1) := by decide +kernel
theorem dX9_same_20 : decode cX9_same 20 = .ok (.invokevirtual 261, 3) := by decide +kernel
theorem dX9_same_23 : decode cX9_same 23 = .ok (.ifCond .eq 7, 3) := by decide +kernel
theorem dX9_same_26 : decode cX9_same 26 = .ok (.iconst 1, 1) := by decide +kernel
theorem dX9_same_27 : decode cX9_same 27 = .ok (.goto 4, 3) := by decide +kernel
theorem dX9_same_30 : decode cX9_same 30 = .ok (.iconst 0, 1) := by decide +kernel
theorem dX9_same_31 : decode cX9_same 31 = .ok (.ireturn, 1) := by decide +kernel
theorem kk_X9_press_0 : Cond.fieldLink RX9 75 "PaidBySigns" "proofs" "LPaidBySigns$Proofs;" ∈ wsX9_press := by decide +kernel
theorem kk_X9_by_0 : Cond.fieldLink RX9 75 "PaidBySigns" "proofs" "LPaidBySigns$Proofs;" ∈ wsX9_by := by decide +kernel
theorem kk_X9_by_1 : Cond.fieldLink RX9 251 "PaidBySigns$Proofs" "lowerNumber" "I" ∈ wsX9_by := by decide +kernel
theorem kk_X9_proves_0 : Cond.fieldLink RX9 75 "PaidBySigns" "proofs" "LPaidBySigns$Proofs;" ∈ wsX9_proves := pm_X9_proves_r1 _ (List.mem_of_getElem? (i := 0) rfl)
theorem kk_X9_proves_1 : Cond.fieldLink RX9 30 "PaidBySigns" "latest" "LPaidBySigns$Fraction;" ∈ wsX9_proves := pm_X9_proves_r1 _ (List.mem_of_getElem? (i := 1) rfl)
theorem kk_X9_proves_2 : Cond.fieldLink RX9 19 "PaidBySigns" "hire" "LPaidBySigns$Hire;" ∈ wsX9_proves := pm_X9_proves_r1 _ (List.mem_of_getElem? (i := 2) rfl)
theorem kk_X9_mix_0 : Cond.fieldLink RX9 75 "PaidBySigns" "proofs" "LPaidBySigns$Proofs;" ∈ wsX9_mix := by decide +kernel
theorem kk_X9_same_0 : Cond.fieldLink RX9 75 "PaidBySigns" "proofs" "LPaidBySigns$Proofs;" ∈ wsX9_same := by decide +kernel
theorem kk_X9_same_1 : Cond.fieldLink RX9 19 "PaidBySigns" "hire" "LPaidBySigns$Hire;" ∈ wsX9_same := by decide +kernel
theorem iw_X9_press_X9 : ∀ w ∈ wsX90, w ∈ wsX9_press := by decide +kernel
theorem iw_X9_by_X9 : ∀ w ∈ wsX90, w ∈ wsX9_by := by decide +kernel
theorem iw_X9_by_X6 : ∀ w ∈ wsX60, w ∈ wsX9_by := by decide +kernel
theorem iw_X9_proves_X9 : ∀ w ∈ wsX90, w ∈ wsX9_proves := pw_X9_proves_X9
theorem iw_X9_mix_X9 : ∀ w ∈ wsX90, w ∈ wsX9_mix := by decide +kernel
theorem iw_X9_same_X9 : ∀ w ∈ wsX90, w ∈ wsX9_same := by decide +kernel

abbrev cX9_edge : ByteArray := prog_1_method_30_code
def yX9_edge : MethodName := ⟨RX9, "edge", "(III)I"⟩
abbrev cX9_ratio : ByteArray := prog_1_method_31_code
def yX9_ratio : MethodName := ⟨RX9, "ratio", "(II)I"⟩
abbrev cX9_rises : ByteArray := prog_1_method_32_code
def yX9_rises : MethodName := ⟨RX9, "rises", "(I)I"⟩
abbrev cX9_see : ByteArray := prog_1_method_33_code
def yX9_see : MethodName := ⟨RX9, "see", "(II)I"⟩
abbrev cX9_right : ByteArray := prog_1_method_34_code
def yX9_right : MethodName := ⟨RX9, "right", "(III)I"⟩
def wsX9_edge_r1 : List Cond := [Cond.fieldLink RX9 19 "PaidBySigns" "hire" "LPaidBySigns$Hire;", Cond.fieldLink RX9 147 "PaidBySigns$Hire" "chances" "[[I", Cond.fieldLink RX9 127 "PaidBySigns$Hire" "whole" "I", Cond.methodLink RX9 264 Lib.Math.min.name, Cond.static Lib.Math.min.name, Cond.initialized "java/lang/Math", Cond.code Lib.Math.min.name Lib.Math.min.code 2 (some .int), Cond.methodLink RX9 140 yX9_isWork, Cond.instanceMethod yX9_isWork, Cond.selects RX9 yX9_isWork yX9_isWork, Cond.initialized RX9, Cond.code yX9_isWork cX9_isWork 2 (some .boolean), Cond.fieldLink RX9 115 "PaidBySigns$Hire" "works" "I", Cond.methodLink RX9 205 yX9_isPair, Cond.instanceMethod yX9_isPair, Cond.selects RX9 yX9_isPair yX9_isPair, Cond.code yX9_isPair cX9_isPair 3 (some .boolean), Cond.methodLink RX9 144 yX9_isSign, Cond.instanceMethod yX9_isSign, Cond.selects RX9 yX9_isSign yX9_isSign, Cond.code yX9_isSign cX9_isSign 2 (some .boolean), Cond.fieldLink RX9 124 "PaidBySigns$Hire" "signs" "I", Cond.methodLink RX9 198 yX9_bestWork, Cond.instanceMethod yX9_bestWork]
def wsX9_edge_r2 : List Cond := [Cond.selects RX9 yX9_bestWork yX9_bestWork, Cond.code yX9_bestWork cX9_bestWork 3 (some .int), Cond.fieldLink RX9 54 "PaidBySigns" "cheapest" "LPaidBySigns$LeastCost;", Cond.fieldLink RX9 34 "PaidBySigns" "trial" "LPaidBySigns$Fraction;", Cond.fieldLink RX9 166 "PaidBySigns$Fraction" "upper" "J", Cond.fieldLink RX9 170 "PaidBySigns$Fraction" "lower" "J", Cond.fieldLink RX9 37 "PaidBySigns" "champion" "LPaidBySigns$Fraction;", Cond.methodLink RX9 307 yX4_findCost, Cond.instanceMethod yX4_findCost, Cond.selects RX4 yX4_findCost yX4_findCost, Cond.initialized RX4, Cond.code yX4_findCost cX4_findCost 3 (some .boolean), Cond.methodLink RX4 59 yX4_find, Cond.instanceMethod yX4_find, Cond.selects RX4 yX4_find yX4_find, Cond.code yX4_find cX4_find 6 (some .boolean), Cond.fieldLink RX4 46 "PaidBySigns$LeastCost" "hire" "LPaidBySigns$Hire;", Cond.fieldLink RX4 50 "PaidBySigns$LeastCost" "work" "I", Cond.fieldLink RX4 53 "PaidBySigns$LeastCost" "keptSign" "I", Cond.fieldLink RX4 56 "PaidBySigns$LeastCost" "joinedSign" "I", Cond.fieldLink RX4 22 "PaidBySigns$LeastCost" "table" "LPaidBySigns$Table;", Cond.fieldLink RX4 88 "PaidBySigns$Hire" "works" "I", Cond.fieldLink RX4 40 "PaidBySigns$LeastCost" "rooms" "I", Cond.fieldLink RX4 36 "PaidBySigns$LeastCost" "columns" "I"]
def wsX9_edge_r3 : List Cond := [Cond.methodLink RX4 85 yX4_listColumns, Cond.instanceMethod yX4_listColumns, Cond.selects RX4 yX4_listColumns yX4_listColumns, Cond.code yX4_listColumns cX4_listColumns 2 none, Cond.fieldLink RX4 63 "PaidBySigns$Hire" "signs" "I", Cond.methodLink RX4 66 yX4_chanceOf, Cond.instanceMethod yX4_chanceOf, Cond.selects RX4 yX4_chanceOf yX4_chanceOf, Cond.code yX4_chanceOf cX4_chanceOf 3 (some .int), Cond.fieldLink RX4 112 "PaidBySigns$Hire" "chances" "[[I", Cond.methodLink RX4 116 yX4_listSteps, Cond.instanceMethod yX4_listSteps, Cond.selects RX4 yX4_listSteps yX4_listSteps, Cond.code yX4_listSteps cX4_listSteps 5 none, Cond.fieldLink RX4 79 "PaidBySigns$Hire" "least" "I", Cond.fieldLink RX4 119 "PaidBySigns$Hire" "rates" "I", Cond.fieldLink RX4 122 "PaidBySigns$Hire" "mark" "[I", Cond.fieldLink RX4 26 "PaidBySigns$LeastCost" "columnSign" "[I", Cond.fieldLink RX4 30 "PaidBySigns$LeastCost" "columnRate" "[I", Cond.fieldLink RX4 125 "PaidBySigns$Hire" "rate" "[I", Cond.fieldLink RX4 33 "PaidBySigns$LeastCost" "columnRoom" "[I", Cond.methodLink RX4 91 yX8_start, Cond.instanceMethod yX8_start, Cond.selects RX8 yX8_start yX8_start]
def wsX9_edge_r4 : List Cond := [Cond.initialized RX8, Cond.code yX8_start cX8_start 5 none, Cond.methodLink RX8 23 Lib.Math.min.name, Cond.fieldLink RX8 29 "PaidBySigns$Table" "goals" "I", Cond.fieldLink RX8 33 "PaidBySigns$Table" "lines" "I", Cond.fieldLink RX8 36 "PaidBySigns$Table" "columns" "I", Cond.fieldLink RX8 39 "PaidBySigns$Table" "base" "J", Cond.fieldLink RX8 13 "PaidBySigns$Table" "entry" "[[J", Cond.fieldLink RX8 16 "PaidBySigns$Table" "lineName" "[I", Cond.fieldLink RX8 20 "PaidBySigns$Table" "columnName" "[I", Cond.methodLink RX8 43 yJ7_fill_d0a16, Cond.static yJ7_fill_d0a16, Cond.initialized RJ7, Cond.code yJ7_fill_d0a16 cJ7_fill_d0a16 5 none, Cond.methodLink RX4 95 yX4_fillGoals, Cond.instanceMethod yX4_fillGoals, Cond.selects RX4 yX4_fillGoals yX4_fillGoals, Cond.code yX4_fillGoals cX4_fillGoals 5 none, Cond.fieldLink RX4 132 "PaidBySigns$Table" "entry" "[[J", Cond.methodLink RX4 128 yX4_partsOf, Cond.instanceMethod yX4_partsOf, Cond.selects RX4 yX4_partsOf yX4_partsOf, Cond.code yX4_partsOf cX4_partsOf 2 (some .int), Cond.methodLink RX4 99 yX4_fillLines]
def wsX9_edge_r5 : List Cond := [Cond.instanceMethod yX4_fillLines, Cond.selects RX4 yX4_fillLines yX4_fillLines, Cond.code yX4_fillLines cX4_fillLines 6 none, Cond.fieldLink RX4 70 "PaidBySigns$Hire" "whole" "I", Cond.methodLink RX4 136 yX3_lackOf, Cond.instanceMethod yX3_lackOf, Cond.selects RX3 yX3_lackOf yX3_lackOf, Cond.initialized RX3, Cond.code yX3_lackOf cX3_lackOf 3 (some .int), Cond.fieldLink RX3 15 "PaidBySigns$Hire" "costs" "[I", Cond.fieldLink RX3 42 "PaidBySigns$Hire" "otherwise" "I", Cond.fieldLink RX3 45 "PaidBySigns$Hire" "least" "I", Cond.methodLink RX3 63 yX3_feltOf, Cond.instanceMethod yX3_feltOf, Cond.selects RX3 yX3_feltOf yX3_feltOf, Cond.code yX3_feltOf cX3_feltOf 6 (some .int), Cond.fieldLink RX3 48 "PaidBySigns$Hire" "rates" "I", Cond.fieldLink RX3 26 "PaidBySigns$Hire" "mark" "[I", Cond.methodLink RX3 51 Lib.Math.min.name, Cond.fieldLink RX3 23 "PaidBySigns$Hire" "rate" "[I", Cond.methodLink RX4 102 yX4_fillRooms, Cond.instanceMethod yX4_fillRooms, Cond.selects RX4 yX4_fillRooms yX4_fillRooms, Cond.code yX4_fillRooms cX4_fillRooms 4 none]
def wsX9_edge_r6 : List Cond := [Cond.methodLink RX4 105 yX8_solve, Cond.instanceMethod yX8_solve, Cond.selects RX8 yX8_solve yX8_solve, Cond.code yX8_solve cX8_solve 4 (some .boolean), Cond.constant RX8 49 (1000000), Cond.methodLink RX8 50 yX8_lineBelowZero, Cond.instanceMethod yX8_lineBelowZero, Cond.selects RX8 yX8_lineBelowZero yX8_lineBelowZero, Cond.code yX8_lineBelowZero cX8_lineBelowZero 3 (some .int), Cond.methodLink RX8 54 yX8_columnFor, Cond.instanceMethod yX8_columnFor, Cond.selects RX8 yX8_columnFor yX8_columnFor, Cond.code yX8_columnFor cX8_columnFor 5 (some .int), Cond.methodLink RX8 62 yX8_compareRatios, Cond.instanceMethod yX8_compareRatios, Cond.selects RX8 yX8_compareRatios yX8_compareRatios, Cond.code yX8_compareRatios cX8_compareRatios 13 (some .int), Cond.methodLink RX8 58 yX8_pivot, Cond.instanceMethod yX8_pivot, Cond.selects RX8 yX8_pivot yX8_pivot, Cond.code yX8_pivot cX8_pivot 7 none, Cond.methodLink RX8 66 yX8_changeLine, Cond.instanceMethod yX8_changeLine, Cond.selects RX8 yX8_changeLine yX8_changeLine]
def wsX9_edge_r7 : List Cond := [Cond.code yX8_changeLine cX8_changeLine 9 none, Cond.methodLink RX4 109 yX4_readWages, Cond.instanceMethod yX4_readWages, Cond.selects RX4 yX4_readWages yX4_readWages, Cond.code yX4_readWages cX4_readWages 3 none, Cond.fieldLink RX4 9 "PaidBySigns$LeastCost" "above" "[J", Cond.constantLong RX4 145 (60), Cond.fieldLink RX4 147 "PaidBySigns$Table" "base" "J", Cond.fieldLink RX4 15 "PaidBySigns$LeastCost" "aboveLower" "J", Cond.fieldLink RX4 150 "PaidBySigns$Table" "goals" "I", Cond.fieldLink RX4 153 "PaidBySigns$Table" "lines" "I", Cond.fieldLink RX4 156 "PaidBySigns$Table" "lineName" "[I", Cond.methodLink RX4 139 yJ7_fill_d0a16, Cond.methodLink RX9 177 yX4_costInto, Cond.instanceMethod yX4_costInto, Cond.selects RX4 yX4_costInto yX4_costInto, Cond.code yX4_costInto cX4_costInto 5 none, Cond.methodLink RX4 73 yX2_become, Cond.instanceMethod yX2_become, Cond.selects RX2 yX2_become yX2_become, Cond.initialized RX2, Cond.code yX2_become cX2_become 7 none, Cond.methodLink RX2 20 Lib.MathLoose.abs_long.x, Cond.static Lib.MathLoose.abs_long.x]
def wsX9_edge_r8 : List Cond := [Cond.code Lib.MathLoose.abs_long.x Lib.MathLoose.abs_long.code 2 (some .long), Cond.fieldLink RX2 11 "PaidBySigns$Fraction" "upper" "J", Cond.fieldLink RX2 17 "PaidBySigns$Fraction" "lower" "J", Cond.methodLink RX2 26 yX2_commonPart, Cond.static yX2_commonPart, Cond.code yX2_commonPart cX2_commonPart 11 (some .long), Cond.methodLink RX2 30 yX2_forget, Cond.instanceMethod yX2_forget, Cond.selects RX2 yX2_forget yX2_forget, Cond.code yX2_forget cX2_forget 1 none, Cond.constantLong RX2 9 (-2000000000), Cond.methodLink RX4 82 yX2_add, Cond.instanceMethod yX2_add, Cond.selects RX2 yX2_add yX2_add, Cond.code yX2_add cX2_add 5 none, Cond.methodLink RX2 33 yX2_become, Cond.methodLink RX9 190 yX2_become, Cond.methodLink RX9 310 yX3_broughtBy, Cond.instanceMethod yX3_broughtBy, Cond.selects RX3 yX3_broughtBy yX3_broughtBy, Cond.code yX3_broughtBy cX3_broughtBy 4 (some .int), Cond.fieldLink RX3 32 "PaidBySigns$Hire" "signs" "I", Cond.fieldLink RX3 20 "PaidBySigns$Hire" "chances" "[[I", Cond.fieldLink RX3 9 "PaidBySigns$Hire" "brings" "[I"]
def wsX9_edge_r9 : List Cond := [Cond.methodLink RX9 242 yX2_add, Cond.methodLink RX9 235 yX2_isBelow, Cond.static yX2_isBelow, Cond.code yX2_isBelow cX2_isBelow 2 (some .boolean), Cond.methodLink RX9 202 yX2_copy, Cond.instanceMethod yX2_copy, Cond.selects RX2 yX2_copy yX2_copy, Cond.code yX2_copy cX2_copy 2 none]
def wsX9_edge : List Cond := .code yX9_edge cX9_edge 11 (some .int) :: ((wsX9_edge_r1 ++ (wsX9_edge_r2 ++ (wsX9_edge_r3 ++ (wsX9_edge_r4 ++ (wsX9_edge_r5 ++ (wsX9_edge_r6 ++ (wsX9_edge_r7 ++ (wsX9_edge_r8 ++ wsX9_edge_r9)))))))) ++ wsX90 ++ wsX30 ++ wsX20 ++ wsX40 ++ wsX80)
def wsX9_ratio : List Cond := .code yX9_ratio cX9_ratio 8 (some .int) :: ([.fieldLink RX9 19 "PaidBySigns" "hire" "LPaidBySigns$Hire;", .fieldLink RX9 124 "PaidBySigns$Hire" "signs" "I", .fieldLink RX9 269 "PaidBySigns$Hire" "brings" "[I", .fieldLink RX9 147 "PaidBySigns$Hire" "chances" "[[I", .methodLink RX9 140 yX9_isWork, .instanceMethod yX9_isWork, .selects RX9 yX9_isWork yX9_isWork, .initialized RX9, .code yX9_isWork cX9_isWork 2 (some .boolean), .fieldLink RX9 115 "PaidBySigns$Hire" "works" "I"] ++ wsX90 ++ wsX30)
def wsX9_rises_r1 : List Cond := [Cond.fieldLink RX9 54 "PaidBySigns" "cheapest" "LPaidBySigns$LeastCost;", Cond.fieldLink RX9 19 "PaidBySigns" "hire" "LPaidBySigns$Hire;", Cond.fieldLink RX9 124 "PaidBySigns$Hire" "signs" "I", Cond.fieldLink RX9 269 "PaidBySigns$Hire" "brings" "[I", Cond.fieldLink RX9 272 "PaidBySigns$LeastCost" "above" "[J", Cond.methodLink RX9 140 yX9_isWork, Cond.instanceMethod yX9_isWork, Cond.selects RX9 yX9_isWork yX9_isWork, Cond.initialized RX9, Cond.code yX9_isWork cX9_isWork 2 (some .boolean), Cond.fieldLink RX9 115 "PaidBySigns$Hire" "works" "I", Cond.methodLink RX9 173 yX4_findWages, Cond.instanceMethod yX4_findWages, Cond.selects RX4 yX4_findWages yX4_findWages, Cond.initialized RX4, Cond.code yX4_findWages cX4_findWages 3 (some .boolean), Cond.fieldLink RX4 63 "PaidBySigns$Hire" "signs" "I", Cond.methodLink RX4 59 yX4_find, Cond.instanceMethod yX4_find, Cond.selects RX4 yX4_find yX4_find, Cond.code yX4_find cX4_find 6 (some .boolean), Cond.fieldLink RX4 46 "PaidBySigns$LeastCost" "hire" "LPaidBySigns$Hire;", Cond.fieldLink RX4 50 "PaidBySigns$LeastCost" "work" "I", Cond.fieldLink RX4 53 "PaidBySigns$LeastCost" "keptSign" "I"]
def wsX9_rises_r2 : List Cond := [Cond.fieldLink RX4 56 "PaidBySigns$LeastCost" "joinedSign" "I", Cond.fieldLink RX4 22 "PaidBySigns$LeastCost" "table" "LPaidBySigns$Table;", Cond.fieldLink RX4 88 "PaidBySigns$Hire" "works" "I", Cond.fieldLink RX4 40 "PaidBySigns$LeastCost" "rooms" "I", Cond.fieldLink RX4 36 "PaidBySigns$LeastCost" "columns" "I", Cond.methodLink RX4 85 yX4_listColumns, Cond.instanceMethod yX4_listColumns, Cond.selects RX4 yX4_listColumns yX4_listColumns, Cond.code yX4_listColumns cX4_listColumns 2 none, Cond.methodLink RX4 66 yX4_chanceOf, Cond.instanceMethod yX4_chanceOf, Cond.selects RX4 yX4_chanceOf yX4_chanceOf, Cond.code yX4_chanceOf cX4_chanceOf 3 (some .int), Cond.fieldLink RX4 112 "PaidBySigns$Hire" "chances" "[[I", Cond.methodLink RX4 116 yX4_listSteps, Cond.instanceMethod yX4_listSteps, Cond.selects RX4 yX4_listSteps yX4_listSteps, Cond.code yX4_listSteps cX4_listSteps 5 none, Cond.fieldLink RX4 79 "PaidBySigns$Hire" "least" "I", Cond.fieldLink RX4 119 "PaidBySigns$Hire" "rates" "I", Cond.fieldLink RX4 122 "PaidBySigns$Hire" "mark" "[I", Cond.fieldLink RX4 26 "PaidBySigns$LeastCost" "columnSign" "[I", Cond.fieldLink RX4 30 "PaidBySigns$LeastCost" "columnRate" "[I", Cond.fieldLink RX4 125 "PaidBySigns$Hire" "rate" "[I"]
def wsX9_rises_r3 : List Cond := [Cond.fieldLink RX4 33 "PaidBySigns$LeastCost" "columnRoom" "[I", Cond.methodLink RX4 91 yX8_start, Cond.instanceMethod yX8_start, Cond.selects RX8 yX8_start yX8_start, Cond.initialized RX8, Cond.code yX8_start cX8_start 5 none, Cond.methodLink RX8 23 Lib.Math.min.name, Cond.static Lib.Math.min.name, Cond.initialized "java/lang/Math", Cond.code Lib.Math.min.name Lib.Math.min.code 2 (some .int), Cond.fieldLink RX8 29 "PaidBySigns$Table" "goals" "I", Cond.fieldLink RX8 33 "PaidBySigns$Table" "lines" "I", Cond.fieldLink RX8 36 "PaidBySigns$Table" "columns" "I", Cond.fieldLink RX8 39 "PaidBySigns$Table" "base" "J", Cond.fieldLink RX8 13 "PaidBySigns$Table" "entry" "[[J", Cond.fieldLink RX8 16 "PaidBySigns$Table" "lineName" "[I", Cond.fieldLink RX8 20 "PaidBySigns$Table" "columnName" "[I", Cond.methodLink RX8 43 yJ7_fill_d0a16, Cond.static yJ7_fill_d0a16, Cond.initialized RJ7, Cond.code yJ7_fill_d0a16 cJ7_fill_d0a16 5 none, Cond.methodLink RX4 95 yX4_fillGoals, Cond.instanceMethod yX4_fillGoals, Cond.selects RX4 yX4_fillGoals yX4_fillGoals]
def wsX9_rises_r4 : List Cond := [Cond.code yX4_fillGoals cX4_fillGoals 5 none, Cond.fieldLink RX4 132 "PaidBySigns$Table" "entry" "[[J", Cond.methodLink RX4 128 yX4_partsOf, Cond.instanceMethod yX4_partsOf, Cond.selects RX4 yX4_partsOf yX4_partsOf, Cond.code yX4_partsOf cX4_partsOf 2 (some .int), Cond.methodLink RX4 99 yX4_fillLines, Cond.instanceMethod yX4_fillLines, Cond.selects RX4 yX4_fillLines yX4_fillLines, Cond.code yX4_fillLines cX4_fillLines 6 none, Cond.fieldLink RX4 70 "PaidBySigns$Hire" "whole" "I", Cond.methodLink RX4 136 yX3_lackOf, Cond.instanceMethod yX3_lackOf, Cond.selects RX3 yX3_lackOf yX3_lackOf, Cond.initialized RX3, Cond.code yX3_lackOf cX3_lackOf 3 (some .int), Cond.fieldLink RX3 15 "PaidBySigns$Hire" "costs" "[I", Cond.fieldLink RX3 42 "PaidBySigns$Hire" "otherwise" "I", Cond.fieldLink RX3 45 "PaidBySigns$Hire" "least" "I", Cond.methodLink RX3 63 yX3_feltOf, Cond.instanceMethod yX3_feltOf, Cond.selects RX3 yX3_feltOf yX3_feltOf, Cond.code yX3_feltOf cX3_feltOf 6 (some .int), Cond.fieldLink RX3 48 "PaidBySigns$Hire" "rates" "I"]
def wsX9_rises_r5 : List Cond := [Cond.fieldLink RX3 26 "PaidBySigns$Hire" "mark" "[I", Cond.methodLink RX3 51 Lib.Math.min.name, Cond.fieldLink RX3 23 "PaidBySigns$Hire" "rate" "[I", Cond.methodLink RX4 102 yX4_fillRooms, Cond.instanceMethod yX4_fillRooms, Cond.selects RX4 yX4_fillRooms yX4_fillRooms, Cond.code yX4_fillRooms cX4_fillRooms 4 none, Cond.methodLink RX4 105 yX8_solve, Cond.instanceMethod yX8_solve, Cond.selects RX8 yX8_solve yX8_solve, Cond.code yX8_solve cX8_solve 4 (some .boolean), Cond.constant RX8 49 (1000000), Cond.methodLink RX8 50 yX8_lineBelowZero, Cond.instanceMethod yX8_lineBelowZero, Cond.selects RX8 yX8_lineBelowZero yX8_lineBelowZero, Cond.code yX8_lineBelowZero cX8_lineBelowZero 3 (some .int), Cond.methodLink RX8 54 yX8_columnFor, Cond.instanceMethod yX8_columnFor, Cond.selects RX8 yX8_columnFor yX8_columnFor, Cond.code yX8_columnFor cX8_columnFor 5 (some .int), Cond.methodLink RX8 62 yX8_compareRatios, Cond.instanceMethod yX8_compareRatios, Cond.selects RX8 yX8_compareRatios yX8_compareRatios, Cond.code yX8_compareRatios cX8_compareRatios 13 (some .int)]
def wsX9_rises_r6 : List Cond := [Cond.methodLink RX8 58 yX8_pivot, Cond.instanceMethod yX8_pivot, Cond.selects RX8 yX8_pivot yX8_pivot, Cond.code yX8_pivot cX8_pivot 7 none, Cond.methodLink RX8 66 yX8_changeLine, Cond.instanceMethod yX8_changeLine, Cond.selects RX8 yX8_changeLine yX8_changeLine, Cond.code yX8_changeLine cX8_changeLine 9 none, Cond.methodLink RX4 109 yX4_readWages, Cond.instanceMethod yX4_readWages, Cond.selects RX4 yX4_readWages yX4_readWages, Cond.code yX4_readWages cX4_readWages 3 none, Cond.fieldLink RX4 9 "PaidBySigns$LeastCost" "above" "[J", Cond.constantLong RX4 145 (60), Cond.fieldLink RX4 147 "PaidBySigns$Table" "base" "J", Cond.fieldLink RX4 15 "PaidBySigns$LeastCost" "aboveLower" "J", Cond.fieldLink RX4 150 "PaidBySigns$Table" "goals" "I", Cond.fieldLink RX4 153 "PaidBySigns$Table" "lines" "I", Cond.fieldLink RX4 156 "PaidBySigns$Table" "lineName" "[I", Cond.methodLink RX4 139 yJ7_fill_d0a16]
def wsX9_rises : List Cond := .code yX9_rises cX9_rises 4 (some .int) :: ((wsX9_rises_r1 ++ (wsX9_rises_r2 ++ (wsX9_rises_r3 ++ (wsX9_rises_r4 ++ (wsX9_rises_r5 ++ wsX9_rises_r6))))) ++ wsX90 ++ wsX30 ++ wsX40 ++ wsX80)
def wsX9_see : List Cond := .code yX9_see cX9_see 3 (some .int) :: ([.fieldLink RX9 82 "PaidBySigns" "diary" "LPaidBySigns$Diary;", .fieldLink RX9 278 "PaidBySigns$Diary" "seen" "I", .methodLink RX9 275 yX1_canTell, .instanceMethod yX1_canTell, .selects RX1 yX1_canTell yX1_canTell, .initialized RX1, .code yX1_canTell cX1_canTell 2 (some .boolean), .fieldLink RX1 18 "PaidBySigns$Diary" "latestStep" "I", .methodLink RX9 144 yX9_isSign, .instanceMethod yX9_isSign, .selects RX9 yX9_isSign yX9_isSign, .initialized RX9, .code yX9_isSign cX9_isSign 2 (some .boolean), .fieldLink RX9 19 "PaidBySigns" "hire" "LPaidBySigns$Hire;", .fieldLink RX9 124 "PaidBySigns$Hire" "signs" "I", .methodLink RX9 281 yX1_write, .instanceMethod yX1_write, .selects RX1 yX1_write yX1_write, .code yX1_write cX1_write 3 (some .int), .fieldLink RX1 9 "PaidBySigns$Diary" "seen" "I", .fieldLink RX1 21 "PaidBySigns$Diary" "seenStep" "[I", .fieldLink RX1 25 "PaidBySigns$Diary" "seenSign" "[I", .fieldLink RX1 28 "PaidBySigns$Diary" "timesRight" "[I"] ++ wsX90 ++ wsX10 ++ wsX30)
def wsX9_right_r1 : List Cond := [Cond.fieldLink RX9 82 "PaidBySigns" "diary" "LPaidBySigns$Diary;", Cond.fieldLink RX9 287 "PaidBySigns$Diary" "rights" "I", Cond.methodLink RX9 275 yX1_canTell, Cond.instanceMethod yX1_canTell, Cond.selects RX1 yX1_canTell yX1_canTell, Cond.initialized RX1, Cond.code yX1_canTell cX1_canTell 2 (some .boolean), Cond.fieldLink RX1 18 "PaidBySigns$Diary" "latestStep" "I", Cond.methodLink RX9 284 yX1_canCorrect, Cond.instanceMethod yX1_canCorrect, Cond.selects RX1 yX1_canCorrect yX1_canCorrect, Cond.code yX1_canCorrect cX1_canCorrect 3 (some .boolean), Cond.fieldLink RX1 9 "PaidBySigns$Diary" "seen" "I", Cond.fieldLink RX1 21 "PaidBySigns$Diary" "seenStep" "[I", Cond.methodLink RX9 144 yX9_isSign, Cond.instanceMethod yX9_isSign, Cond.selects RX9 yX9_isSign yX9_isSign, Cond.initialized RX9, Cond.code yX9_isSign cX9_isSign 2 (some .boolean), Cond.fieldLink RX9 19 "PaidBySigns" "hire" "LPaidBySigns$Hire;", Cond.fieldLink RX9 124 "PaidBySigns$Hire" "signs" "I", Cond.methodLink RX9 290 yX1_correct, Cond.instanceMethod yX1_correct, Cond.selects RX1 yX1_correct yX1_correct]
def wsX9_right_r2 : List Cond := [Cond.code yX1_correct cX1_correct 4 (some .int), Cond.fieldLink RX1 15 "PaidBySigns$Diary" "rights" "I", Cond.fieldLink RX1 31 "PaidBySigns$Diary" "rightStep" "[I", Cond.fieldLink RX1 34 "PaidBySigns$Diary" "rightOf" "[I", Cond.fieldLink RX1 37 "PaidBySigns$Diary" "rightSign" "[I", Cond.fieldLink RX1 28 "PaidBySigns$Diary" "timesRight" "[I"]
def wsX9_right : List Cond := .code yX9_right cX9_right 4 (some .int) :: ((wsX9_right_r1 ++ wsX9_right_r2) ++ wsX90 ++ wsX10 ++ wsX30)
theorem pm_X9_edge_r1 : ∀ w ∈ wsX9_edge_r1, w ∈ wsX9_edge := fun _ h => List.mem_cons_of_mem _ (List.mem_append_left _ (List.mem_append_left _ (List.mem_append_left _ (List.mem_append_left _ (List.mem_append_left _ (List.mem_append_left _ h))))))
theorem pm_X9_edge_r2 : ∀ w ∈ wsX9_edge_r2, w ∈ wsX9_edge := fun _ h => List.mem_cons_of_mem _ (List.mem_append_left _ (List.mem_append_left _ (List.mem_append_left _ (List.mem_append_left _ (List.mem_append_left _ (List.mem_append_right _ (List.mem_append_left _ h)))))))
theorem pm_X9_edge_r3 : ∀ w ∈ wsX9_edge_r3, w ∈ wsX9_edge := fun _ h => List.mem_cons_of_mem _ (List.mem_append_left _ (List.mem_append_left _ (List.mem_append_left _ (List.mem_append_left _ (List.mem_append_left _ (List.mem_append_right _ (List.mem_append_right _ (List.mem_append_left _ h))))))))
theorem pm_X9_edge_r4 : ∀ w ∈ wsX9_edge_r4, w ∈ wsX9_edge := fun _ h => List.mem_cons_of_mem _ (List.mem_append_left _ (List.mem_append_left _ (List.mem_append_left _ (List.mem_append_left _ (List.mem_append_left _ (List.mem_append_right _ (List.mem_append_right _ (List.mem_append_right _ (List.mem_append_left _ h)))))))))
theorem pm_X9_edge_r5 : ∀ w ∈ wsX9_edge_r5, w ∈ wsX9_edge := fun _ h => List.mem_cons_of_mem _ (List.mem_append_left _ (List.mem_append_left _ (List.mem_append_left _ (List.mem_append_left _ (List.mem_append_left _ (List.mem_append_right _ (List.mem_append_right _ (List.mem_append_right _ (List.mem_append_right _ (List.mem_append_left _ h))))))))))
theorem pm_X9_edge_r6 : ∀ w ∈ wsX9_edge_r6, w ∈ wsX9_edge := fun _ h => List.mem_cons_of_mem _ (List.mem_append_left _ (List.mem_append_left _ (List.mem_append_left _ (List.mem_append_left _ (List.mem_append_left _ (List.mem_append_right _ (List.mem_append_right _ (List.mem_append_right _ (List.mem_append_right _ (List.mem_append_right _ (List.mem_append_left _ h)))))))))))
theorem pm_X9_edge_r7 : ∀ w ∈ wsX9_edge_r7, w ∈ wsX9_edge := fun _ h => List.mem_cons_of_mem _ (List.mem_append_left _ (List.mem_append_left _ (List.mem_append_left _ (List.mem_append_left _ (List.mem_append_left _ (List.mem_append_right _ (List.mem_append_right _ (List.mem_append_right _ (List.mem_append_right _ (List.mem_append_right _ (List.mem_append_right _ (List.mem_append_left _ h))))))))))))
theorem pm_X9_edge_r8 : ∀ w ∈ wsX9_edge_r8, w ∈ wsX9_edge := fun _ h => List.mem_cons_of_mem _ (List.mem_append_left _ (List.mem_append_left _ (List.mem_append_left _ (List.mem_append_left _ (List.mem_append_left _ (List.mem_append_right _ (List.mem_append_right _ (List.mem_append_right _ (List.mem_append_right _ (List.mem_append_right _ (List.mem_append_right _ (List.mem_append_right _ (List.mem_append_left _ h)))))))))))))
theorem pm_X9_edge_r9 : ∀ w ∈ wsX9_edge_r9, w ∈ wsX9_edge := fun _ h => List.mem_cons_of_mem _ (List.mem_append_left _ (List.mem_append_left _ (List.mem_append_left _ (List.mem_append_left _ (List.mem_append_left _ (List.mem_append_right _ (List.mem_append_right _ (List.mem_append_right _ (List.mem_append_right _ (List.mem_append_right _ (List.mem_append_right _ (List.mem_append_right _ (List.mem_append_right _ (h))))))))))))))
theorem pw_X9_edge_X9 : ∀ w ∈ wsX90, w ∈ wsX9_edge := fun _ h => List.mem_cons_of_mem _ (List.mem_append_left _ (List.mem_append_left _ (List.mem_append_left _ (List.mem_append_left _ (List.mem_append_right _ h)))))
theorem pw_X9_edge_X3 : ∀ w ∈ wsX30, w ∈ wsX9_edge := fun _ h => List.mem_cons_of_mem _ (List.mem_append_left _ (List.mem_append_left _ (List.mem_append_left _ (List.mem_append_right _ h))))
theorem pw_X9_edge_X2 : ∀ w ∈ wsX20, w ∈ wsX9_edge := fun _ h => List.mem_cons_of_mem _ (List.mem_append_left _ (List.mem_append_left _ (List.mem_append_right _ h)))
theorem pw_X9_edge_X4 : ∀ w ∈ wsX40, w ∈ wsX9_edge := fun _ h => List.mem_cons_of_mem _ (List.mem_append_left _ (List.mem_append_right _ h))
theorem pw_X9_edge_X8 : ∀ w ∈ wsX80, w ∈ wsX9_edge := fun _ h => List.mem_cons_of_mem _ (List.mem_append_right _ h)
set_option maxRecDepth 20000 in
theorem ggX9_edge_X9_isWork : GoodIn wsX9_edge wsX9_isWork := goodIn_sub (List.forall_mem_cons.mpr ⟨pm_X9_edge_r1 _ (List.mem_of_getElem? (i := 11) rfl), List.forall_mem_append.mpr ⟨List.forall_mem_append.mpr ⟨List.forall_mem_cons.mpr ⟨pm_X9_edge_r1 _ (List.mem_of_getElem? (i := 0) rfl), List.forall_mem_cons.mpr ⟨pm_X9_edge_r1 _ (List.mem_of_getElem? (i := 12) rfl), fun _ h => absurd h List.not_mem_nil⟩⟩, pw_X9_edge_X9⟩, pw_X9_edge_X3⟩⟩) (by decide +kernel)
set_option maxRecDepth 20000 in
theorem gX9_edge_X9_isWork : GoodIn wsX9_edge (wsV RX9 140 RX9 yX9_isWork wsX9_isWork) := goodIn_app (goodIn_of _ (by decide +kernel)) ggX9_edge_X9_isWork
set_option maxRecDepth 20000 in
theorem ggX9_edge_X9_isPair : GoodIn wsX9_edge wsX9_isPair := goodIn_sub (List.forall_mem_cons.mpr ⟨pm_X9_edge_r1 _ (List.mem_of_getElem? (i := 16) rfl), List.forall_mem_append.mpr ⟨List.forall_mem_append.mpr ⟨List.forall_mem_cons.mpr ⟨pm_X9_edge_r1 _ (List.mem_of_getElem? (i := 17) rfl), List.forall_mem_cons.mpr ⟨pm_X9_edge_r1 _ (List.mem_of_getElem? (i := 18) rfl), List.forall_mem_cons.mpr ⟨pm_X9_edge_r1 _ (List.mem_of_getElem? (i := 19) rfl), List.forall_mem_cons.mpr ⟨pm_X9_edge_r1 _ (List.mem_of_getElem? (i := 10) rfl), List.forall_mem_cons.mpr ⟨pm_X9_edge_r1 _ (List.mem_of_getElem? (i := 20) rfl), List.forall_mem_cons.mpr ⟨pm_X9_edge_r1 _ (List.mem_of_getElem? (i := 0) rfl), List.forall_mem_cons.mpr ⟨pm_X9_edge_r1 _ (List.mem_of_getElem? (i := 21) rfl), fun _ h => absurd h List.not_mem_nil⟩⟩⟩⟩⟩⟩⟩, pw_X9_edge_X9⟩, pw_X9_edge_X3⟩⟩) (by decide +kernel)
set_option maxRecDepth 20000 in
theorem gX9_edge_X9_isPair : GoodIn wsX9_edge (wsV RX9 205 RX9 yX9_isPair wsX9_isPair) := goodIn_app (goodIn_of _ (by decide +kernel)) ggX9_edge_X9_isPair
set_option maxRecDepth 20000 in
theorem pq_X9_edge_X9_bestWork_r1 : ∀ w ∈ wsX9_bestWork_r1, w ∈ wsX9_edge := List.forall_mem_cons.mpr ⟨pm_X9_edge_r1 _ (List.mem_of_getElem? (i := 0) rfl), List.forall_mem_cons.mpr ⟨pm_X9_edge_r1 _ (List.mem_of_getElem? (i := 12) rfl), List.forall_mem_cons.mpr ⟨pm_X9_edge_r2 _ (List.mem_of_getElem? (i := 2) rfl), List.forall_mem_cons.mpr ⟨pm_X9_edge_r2 _ (List.mem_of_getElem? (i := 3) rfl), List.forall_mem_cons.mpr ⟨pm_X9_edge_r2 _ (List.mem_of_getElem? (i := 4) rfl), List.forall_mem_cons.mpr ⟨pm_X9_edge_r2 _ (List.mem_of_getElem? (i := 5) rfl), List.forall_mem_cons.mpr ⟨pm_X9_edge_r1 _ (List.mem_of_getElem? (i := 2) rfl), List.forall_mem_cons.mpr ⟨pm_X9_edge_r2 _ (List.mem_of_getElem? (i := 6) rfl), List.forall_mem_cons.mpr ⟨pm_X9_edge_r2 _ (List.mem_of_getElem? (i := 7) rfl), List.forall_mem_cons.mpr ⟨pm_X9_edge_r2 _ (List.mem_of_getElem? (i := 8) rfl), List.forall_mem_cons.mpr ⟨pm_X9_edge_r2 _ (List.mem_of_getElem? (i := 9) rfl), List.forall_mem_cons.mpr ⟨pm_X9_edge_r2 _ (List.mem_of_getElem? (i := 10) rfl), List.forall_mem_cons.mpr ⟨pm_X9_edge_r2 _ (List.mem_of_getElem? (i := 11) rfl), List.forall_mem_cons.mpr ⟨pm_X9_edge_r2 _ (List.mem_of_getElem? (i := 12) rfl), List.forall_mem_cons.mpr ⟨pm_X9_edge_r2 _ (List.mem_of_getElem? (i := 13) rfl), List.forall_mem_cons.mpr ⟨pm_X9_edge_r2 _ (List.mem_of_getElem? (i := 14) rfl), List.forall_mem_cons.mpr ⟨pm_X9_edge_r2 _ (List.mem_of_getElem? (i := 15) rfl), List.forall_mem_cons.mpr ⟨pm_X9_edge_r2 _ (List.mem_of_getElem? (i := 16) rfl), List.forall_mem_cons.mpr ⟨pm_X9_edge_r2 _ (List.mem_of_getElem? (i := 17) rfl), List.forall_mem_cons.mpr ⟨pm_X9_edge_r2 _ (List.mem_of_getElem? (i := 18) rfl), List.forall_mem_cons.mpr ⟨pm_X9_edge_r2 _ (List.mem_of_getElem? (i := 19) rfl), List.forall_mem_cons.mpr ⟨pm_X9_edge_r2 _ (List.mem_of_getElem? (i := 20) rfl), List.forall_mem_cons.mpr ⟨pm_X9_edge_r2 _ (List.mem_of_getElem? (i := 21) rfl), List.forall_mem_cons.mpr ⟨pm_X9_edge_r2 _ (List.mem_of_getElem? (i := 22) rfl), fun _ h => absurd h List.not_mem_nil⟩⟩⟩⟩⟩⟩⟩⟩⟩⟩⟩⟩⟩⟩⟩⟩⟩⟩⟩⟩⟩⟩⟩⟩
set_option maxRecDepth 20000 in
theorem pq_X9_edge_X9_bestWork_r2 : ∀ w ∈ wsX9_bestWork_r2, w ∈ wsX9_edge := List.forall_mem_cons.mpr ⟨pm_X9_edge_r2 _ (List.mem_of_getElem? (i := 23) rfl), List.forall_mem_cons.mpr ⟨pm_X9_edge_r3 _ (List.mem_of_getElem? (i := 0) rfl), List.forall_mem_cons.mpr ⟨pm_X9_edge_r3 _ (List.mem_of_getElem? (i := 1) rfl), List.forall_mem_cons.mpr ⟨pm_X9_edge_r3 _ (List.mem_of_getElem? (i := 2) rfl), List.forall_mem_cons.mpr ⟨pm_X9_edge_r3 _ (List.mem_of_getElem? (i := 3) rfl), List.forall_mem_cons.mpr ⟨pm_X9_edge_r3 _ (List.mem_of_getElem? (i := 4) rfl), List.forall_mem_cons.mpr ⟨pm_X9_edge_r3 _ (List.mem_of_getElem? (i := 5) rfl), List.forall_mem_cons.mpr ⟨pm_X9_edge_r3 _ (List.mem_of_getElem? (i := 6) rfl), List.forall_mem_cons.mpr ⟨pm_X9_edge_r3 _ (List.mem_of_getElem? (i := 7) rfl), List.forall_mem_cons.mpr ⟨pm_X9_edge_r3 _ (List.mem_of_getElem? (i := 8) rfl), List.forall_mem_cons.mpr ⟨pm_X9_edge_r3 _ (List.mem_of_getElem? (i := 9) rfl), List.forall_mem_cons.mpr ⟨pm_X9_edge_r3 _ (List.mem_of_getElem? (i := 10) rfl), List.forall_mem_cons.mpr ⟨pm_X9_edge_r3 _ (List.mem_of_getElem? (i := 11) rfl), List.forall_mem_cons.mpr ⟨pm_X9_edge_r3 _ (List.mem_of_getElem? (i := 12) rfl), List.forall_mem_cons.mpr ⟨pm_X9_edge_r3 _ (List.mem_of_getElem? (i := 13) rfl), List.forall_mem_cons.mpr ⟨pm_X9_edge_r3 _ (List.mem_of_getElem? (i := 14) rfl), List.forall_mem_cons.mpr ⟨pm_X9_edge_r3 _ (List.mem_of_getElem? (i := 15) rfl), List.forall_mem_cons.mpr ⟨pm_X9_edge_r3 _ (List.mem_of_getElem? (i := 16) rfl), List.forall_mem_cons.mpr ⟨pm_X9_edge_r3 _ (List.mem_of_getElem? (i := 17) rfl), List.forall_mem_cons.mpr ⟨pm_X9_edge_r3 _ (List.mem_of_getElem? (i := 18) rfl), List.forall_mem_cons.mpr ⟨pm_X9_edge_r3 _ (List.mem_of_getElem? (i := 19) rfl), List.forall_mem_cons.mpr ⟨pm_X9_edge_r3 _ (List.mem_of_getElem? (i := 20) rfl), List.forall_mem_cons.mpr ⟨pm_X9_edge_r3 _ (List.mem_of_getElem? (i := 21) rfl), List.forall_mem_cons.mpr ⟨pm_X9_edge_r3 _ (List.mem_of_getElem? (i := 22) rfl), fun _ h => absurd h List.not_mem_nil⟩⟩⟩⟩⟩⟩⟩⟩⟩⟩⟩⟩⟩⟩⟩⟩⟩⟩⟩⟩⟩⟩⟩⟩
set_option maxRecDepth 20000 in
theorem pq_X9_edge_X9_bestWork_r3 : ∀ w ∈ wsX9_bestWork_r3, w ∈ wsX9_edge := List.forall_mem_cons.mpr ⟨pm_X9_edge_r3 _ (List.mem_of_getElem? (i := 23) rfl), List.forall_mem_cons.mpr ⟨pm_X9_edge_r4 _ (List.mem_of_getElem? (i := 0) rfl), List.forall_mem_cons.mpr ⟨pm_X9_edge_r4 _ (List.mem_of_getElem? (i := 1) rfl), List.forall_mem_cons.mpr ⟨pm_X9_edge_r4 _ (List.mem_of_getElem? (i := 2) rfl), List.forall_mem_cons.mpr ⟨pm_X9_edge_r1 _ (List.mem_of_getElem? (i := 4) rfl), List.forall_mem_cons.mpr ⟨pm_X9_edge_r1 _ (List.mem_of_getElem? (i := 5) rfl), List.forall_mem_cons.mpr ⟨pm_X9_edge_r1 _ (List.mem_of_getElem? (i := 6) rfl), List.forall_mem_cons.mpr ⟨pm_X9_edge_r4 _ (List.mem_of_getElem? (i := 3) rfl), List.forall_mem_cons.mpr ⟨pm_X9_edge_r4 _ (List.mem_of_getElem? (i := 4) rfl), List.forall_mem_cons.mpr ⟨pm_X9_edge_r4 _ (List.mem_of_getElem? (i := 5) rfl), List.forall_mem_cons.mpr ⟨pm_X9_edge_r4 _ (List.mem_of_getElem? (i := 6) rfl), List.forall_mem_cons.mpr ⟨pm_X9_edge_r4 _ (List.mem_of_getElem? (i := 7) rfl), List.forall_mem_cons.mpr ⟨pm_X9_edge_r4 _ (List.mem_of_getElem? (i := 8) rfl), List.forall_mem_cons.mpr ⟨pm_X9_edge_r4 _ (List.mem_of_getElem? (i := 9) rfl), List.forall_mem_cons.mpr ⟨pm_X9_edge_r4 _ (List.mem_of_getElem? (i := 10) rfl), List.forall_mem_cons.mpr ⟨pm_X9_edge_r4 _ (List.mem_of_getElem? (i := 11) rfl), List.forall_mem_cons.mpr ⟨pm_X9_edge_r4 _ (List.mem_of_getElem? (i := 12) rfl), List.forall_mem_cons.mpr ⟨pm_X9_edge_r4 _ (List.mem_of_getElem? (i := 13) rfl), List.forall_mem_cons.mpr ⟨pm_X9_edge_r4 _ (List.mem_of_getElem? (i := 14) rfl), List.forall_mem_cons.mpr ⟨pm_X9_edge_r4 _ (List.mem_of_getElem? (i := 15) rfl), List.forall_mem_cons.mpr ⟨pm_X9_edge_r4 _ (List.mem_of_getElem? (i := 16) rfl), List.forall_mem_cons.mpr ⟨pm_X9_edge_r4 _ (List.mem_of_getElem? (i := 17) rfl), List.forall_mem_cons.mpr ⟨pm_X9_edge_r4 _ (List.mem_of_getElem? (i := 18) rfl), List.forall_mem_cons.mpr ⟨pm_X9_edge_r4 _ (List.mem_of_getElem? (i := 19) rfl), fun _ h => absurd h List.not_mem_nil⟩⟩⟩⟩⟩⟩⟩⟩⟩⟩⟩⟩⟩⟩⟩⟩⟩⟩⟩⟩⟩⟩⟩⟩
set_option maxRecDepth 20000 in
theorem pq_X9_edge_X9_bestWork_r4 : ∀ w ∈ wsX9_bestWork_r4, w ∈ wsX9_edge := List.forall_mem_cons.mpr ⟨pm_X9_edge_r4 _ (List.mem_of_getElem? (i := 20) rfl), List.forall_mem_cons.mpr ⟨pm_X9_edge_r4 _ (List.mem_of_getElem? (i := 21) rfl), List.forall_mem_cons.mpr ⟨pm_X9_edge_r4 _ (List.mem_of_getElem? (i := 22) rfl), List.forall_mem_cons.mpr ⟨pm_X9_edge_r4 _ (List.mem_of_getElem? (i := 23) rfl), List.forall_mem_cons.mpr ⟨pm_X9_edge_r5 _ (List.mem_of_getElem? (i := 0) rfl), List.forall_mem_cons.mpr ⟨pm_X9_edge_r5 _ (List.mem_of_getElem? (i := 1) rfl), List.forall_mem_cons.mpr ⟨pm_X9_edge_r5 _ (List.mem_of_getElem? (i := 2) rfl), List.forall_mem_cons.mpr ⟨pm_X9_edge_r5 _ (List.mem_of_getElem? (i := 3) rfl), List.forall_mem_cons.mpr ⟨pm_X9_edge_r5 _ (List.mem_of_getElem? (i := 4) rfl), List.forall_mem_cons.mpr ⟨pm_X9_edge_r5 _ (List.mem_of_getElem? (i := 5) rfl), List.forall_mem_cons.mpr ⟨pm_X9_edge_r5 _ (List.mem_of_getElem? (i := 6) rfl), List.forall_mem_cons.mpr ⟨pm_X9_edge_r5 _ (List.mem_of_getElem? (i := 7) rfl), List.forall_mem_cons.mpr ⟨pm_X9_edge_r5 _ (List.mem_of_getElem? (i := 8) rfl), List.forall_mem_cons.mpr ⟨pm_X9_edge_r5 _ (List.mem_of_getElem? (i := 9) rfl), List.forall_mem_cons.mpr ⟨pm_X9_edge_r5 _ (List.mem_of_getElem? (i := 10) rfl), List.forall_mem_cons.mpr ⟨pm_X9_edge_r5 _ (List.mem_of_getElem? (i := 11) rfl), List.forall_mem_cons.mpr ⟨pm_X9_edge_r5 _ (List.mem_of_getElem? (i := 12) rfl), List.forall_mem_cons.mpr ⟨pm_X9_edge_r5 _ (List.mem_of_getElem? (i := 13) rfl), List.forall_mem_cons.mpr ⟨pm_X9_edge_r5 _ (List.mem_of_getElem? (i := 14) rfl), List.forall_mem_cons.mpr ⟨pm_X9_edge_r5 _ (List.mem_of_getElem? (i := 15) rfl), List.forall_mem_cons.mpr ⟨pm_X9_edge_r5 _ (List.mem_of_getElem? (i := 16) rfl), List.forall_mem_cons.mpr ⟨pm_X9_edge_r5 _ (List.mem_of_getElem? (i := 17) rfl), List.forall_mem_cons.mpr ⟨pm_X9_edge_r5 _ (List.mem_of_getElem? (i := 18) rfl), List.forall_mem_cons.mpr ⟨pm_X9_edge_r5 _ (List.mem_of_getElem? (i := 19) rfl), fun _ h => absurd h List.not_mem_nil⟩⟩⟩⟩⟩⟩⟩⟩⟩⟩⟩⟩⟩⟩⟩⟩⟩⟩⟩⟩⟩⟩⟩⟩
set_option maxRecDepth 20000 in
theorem pq_X9_edge_X9_bestWork_r5 : ∀ w ∈ wsX9_bestWork_r5, w ∈ wsX9_edge := List.forall_mem_cons.mpr ⟨pm_X9_edge_r5 _ (List.mem_of_getElem? (i := 20) rfl), List.forall_mem_cons.mpr ⟨pm_X9_edge_r5 _ (List.mem_of_getElem? (i := 21) rfl), List.forall_mem_cons.mpr ⟨pm_X9_edge_r5 _ (List.mem_of_getElem? (i := 22) rfl), List.forall_mem_cons.mpr ⟨pm_X9_edge_r5 _ (List.mem_of_getElem? (i := 23) rfl), List.forall_mem_cons.mpr ⟨pm_X9_edge_r6 _ (List.mem_of_getElem? (i := 0) rfl), List.forall_mem_cons.mpr ⟨pm_X9_edge_r6 _ (List.mem_of_getElem? (i := 1) rfl), List.forall_mem_cons.mpr ⟨pm_X9_edge_r6 _ (List.mem_of_getElem? (i := 2) rfl), List.forall_mem_cons.mpr ⟨pm_X9_edge_r6 _ (List.mem_of_getElem? (i := 3) rfl), List.forall_mem_cons.mpr ⟨pm_X9_edge_r6 _ (List.mem_of_getElem? (i := 4) rfl), List.forall_mem_cons.mpr ⟨pm_X9_edge_r6 _ (List.mem_of_getElem? (i := 5) rfl), List.forall_mem_cons.mpr ⟨pm_X9_edge_r6 _ (List.mem_of_getElem? (i := 6) rfl), List.forall_mem_cons.mpr ⟨pm_X9_edge_r6 _ (List.mem_of_getElem? (i := 7) rfl), List.forall_mem_cons.mpr ⟨pm_X9_edge_r6 _ (List.mem_of_getElem? (i := 8) rfl), List.forall_mem_cons.mpr ⟨pm_X9_edge_r6 _ (List.mem_of_getElem? (i := 9) rfl), List.forall_mem_cons.mpr ⟨pm_X9_edge_r6 _ (List.mem_of_getElem? (i := 10) rfl), List.forall_mem_cons.mpr ⟨pm_X9_edge_r6 _ (List.mem_of_getElem? (i := 11) rfl), List.forall_mem_cons.mpr ⟨pm_X9_edge_r6 _ (List.mem_of_getElem? (i := 12) rfl), List.forall_mem_cons.mpr ⟨pm_X9_edge_r6 _ (List.mem_of_getElem? (i := 13) rfl), List.forall_mem_cons.mpr ⟨pm_X9_edge_r6 _ (List.mem_of_getElem? (i := 14) rfl), List.forall_mem_cons.mpr ⟨pm_X9_edge_r6 _ (List.mem_of_getElem? (i := 15) rfl), List.forall_mem_cons.mpr ⟨pm_X9_edge_r6 _ (List.mem_of_getElem? (i := 16) rfl), List.forall_mem_cons.mpr ⟨pm_X9_edge_r6 _ (List.mem_of_getElem? (i := 17) rfl), List.forall_mem_cons.mpr ⟨pm_X9_edge_r6 _ (List.mem_of_getElem? (i := 18) rfl), List.forall_mem_cons.mpr ⟨pm_X9_edge_r6 _ (List.mem_of_getElem? (i := 19) rfl), fun _ h => absurd h List.not_mem_nil⟩⟩⟩⟩⟩⟩⟩⟩⟩⟩⟩⟩⟩⟩⟩⟩⟩⟩⟩⟩⟩⟩⟩⟩
set_option maxRecDepth 20000 in
theorem pq_X9_edge_X9_bestWork_r6 : ∀ w ∈ wsX9_bestWork_r6, w ∈ wsX9_edge := List.forall_mem_cons.mpr ⟨pm_X9_edge_r6 _ (List.mem_of_getElem? (i := 20) rfl), List.forall_mem_cons.mpr ⟨pm_X9_edge_r6 _ (List.mem_of_getElem? (i := 21) rfl), List.forall_mem_cons.mpr ⟨pm_X9_edge_r6 _ (List.mem_of_getElem? (i := 22) rfl), List.forall_mem_cons.mpr ⟨pm_X9_edge_r6 _ (List.mem_of_getElem? (i := 23) rfl), List.forall_mem_cons.mpr ⟨pm_X9_edge_r7 _ (List.mem_of_getElem? (i := 0) rfl), List.forall_mem_cons.mpr ⟨pm_X9_edge_r7 _ (List.mem_of_getElem? (i := 1) rfl), List.forall_mem_cons.mpr ⟨pm_X9_edge_r7 _ (List.mem_of_getElem? (i := 2) rfl), List.forall_mem_cons.mpr ⟨pm_X9_edge_r7 _ (List.mem_of_getElem? (i := 3) rfl), List.forall_mem_cons.mpr ⟨pm_X9_edge_r7 _ (List.mem_of_getElem? (i := 4) rfl), List.forall_mem_cons.mpr ⟨pm_X9_edge_r7 _ (List.mem_of_getElem? (i := 5) rfl), List.forall_mem_cons.mpr ⟨pm_X9_edge_r7 _ (List.mem_of_getElem? (i := 6) rfl), List.forall_mem_cons.mpr ⟨pm_X9_edge_r7 _ (List.mem_of_getElem? (i := 7) rfl), List.forall_mem_cons.mpr ⟨pm_X9_edge_r7 _ (List.mem_of_getElem? (i := 8) rfl), List.forall_mem_cons.mpr ⟨pm_X9_edge_r7 _ (List.mem_of_getElem? (i := 9) rfl), List.forall_mem_cons.mpr ⟨pm_X9_edge_r7 _ (List.mem_of_getElem? (i := 10) rfl), List.forall_mem_cons.mpr ⟨pm_X9_edge_r7 _ (List.mem_of_getElem? (i := 11) rfl), List.forall_mem_cons.mpr ⟨pm_X9_edge_r7 _ (List.mem_of_getElem? (i := 12) rfl), List.forall_mem_cons.mpr ⟨pm_X9_edge_r7 _ (List.mem_of_getElem? (i := 13) rfl), List.forall_mem_cons.mpr ⟨pm_X9_edge_r7 _ (List.mem_of_getElem? (i := 14) rfl), List.forall_mem_cons.mpr ⟨pm_X9_edge_r7 _ (List.mem_of_getElem? (i := 15) rfl), List.forall_mem_cons.mpr ⟨pm_X9_edge_r7 _ (List.mem_of_getElem? (i := 16) rfl), List.forall_mem_cons.mpr ⟨pm_X9_edge_r7 _ (List.mem_of_getElem? (i := 17) rfl), List.forall_mem_cons.mpr ⟨pm_X9_edge_r7 _ (List.mem_of_getElem? (i := 18) rfl), List.forall_mem_cons.mpr ⟨pm_X9_edge_r7 _ (List.mem_of_getElem? (i := 19) rfl), fun _ h => absurd h List.not_mem_nil⟩⟩⟩⟩⟩⟩⟩⟩⟩⟩⟩⟩⟩⟩⟩⟩⟩⟩⟩⟩⟩⟩⟩⟩
set_option maxRecDepth 20000 in
theorem pq_X9_edge_X9_bestWork_r7 : ∀ w ∈ wsX9_bestWork_r7, w ∈ wsX9_edge := List.forall_mem_cons.mpr ⟨pm_X9_edge_r7 _ (List.mem_of_getElem? (i := 20) rfl), List.forall_mem_cons.mpr ⟨pm_X9_edge_r7 _ (List.mem_of_getElem? (i := 21) rfl), List.forall_mem_cons.mpr ⟨pm_X9_edge_r7 _ (List.mem_of_getElem? (i := 22) rfl), List.forall_mem_cons.mpr ⟨pm_X9_edge_r7 _ (List.mem_of_getElem? (i := 23) rfl), List.forall_mem_cons.mpr ⟨pm_X9_edge_r8 _ (List.mem_of_getElem? (i := 0) rfl), List.forall_mem_cons.mpr ⟨pm_X9_edge_r8 _ (List.mem_of_getElem? (i := 1) rfl), List.forall_mem_cons.mpr ⟨pm_X9_edge_r8 _ (List.mem_of_getElem? (i := 2) rfl), List.forall_mem_cons.mpr ⟨pm_X9_edge_r8 _ (List.mem_of_getElem? (i := 3) rfl), List.forall_mem_cons.mpr ⟨pm_X9_edge_r8 _ (List.mem_of_getElem? (i := 4) rfl), List.forall_mem_cons.mpr ⟨pm_X9_edge_r8 _ (List.mem_of_getElem? (i := 5) rfl), List.forall_mem_cons.mpr ⟨pm_X9_edge_r8 _ (List.mem_of_getElem? (i := 6) rfl), List.forall_mem_cons.mpr ⟨pm_X9_edge_r8 _ (List.mem_of_getElem? (i := 7) rfl), List.forall_mem_cons.mpr ⟨pm_X9_edge_r8 _ (List.mem_of_getElem? (i := 8) rfl), List.forall_mem_cons.mpr ⟨pm_X9_edge_r8 _ (List.mem_of_getElem? (i := 9) rfl), List.forall_mem_cons.mpr ⟨pm_X9_edge_r8 _ (List.mem_of_getElem? (i := 10) rfl), List.forall_mem_cons.mpr ⟨pm_X9_edge_r8 _ (List.mem_of_getElem? (i := 11) rfl), List.forall_mem_cons.mpr ⟨pm_X9_edge_r8 _ (List.mem_of_getElem? (i := 12) rfl), List.forall_mem_cons.mpr ⟨pm_X9_edge_r8 _ (List.mem_of_getElem? (i := 13) rfl), List.forall_mem_cons.mpr ⟨pm_X9_edge_r8 _ (List.mem_of_getElem? (i := 14) rfl), List.forall_mem_cons.mpr ⟨pm_X9_edge_r8 _ (List.mem_of_getElem? (i := 15) rfl), List.forall_mem_cons.mpr ⟨pm_X9_edge_r8 _ (List.mem_of_getElem? (i := 16) rfl), List.forall_mem_cons.mpr ⟨pm_X9_edge_r8 _ (List.mem_of_getElem? (i := 17) rfl), List.forall_mem_cons.mpr ⟨pm_X9_edge_r8 _ (List.mem_of_getElem? (i := 18) rfl), List.forall_mem_cons.mpr ⟨pm_X9_edge_r8 _ (List.mem_of_getElem? (i := 19) rfl), fun _ h => absurd h List.not_mem_nil⟩⟩⟩⟩⟩⟩⟩⟩⟩⟩⟩⟩⟩⟩⟩⟩⟩⟩⟩⟩⟩⟩⟩⟩
set_option maxRecDepth 20000 in
theorem pq_X9_edge_X9_bestWork_r8 : ∀ w ∈ wsX9_bestWork_r8, w ∈ wsX9_edge := List.forall_mem_cons.mpr ⟨pm_X9_edge_r8 _ (List.mem_of_getElem? (i := 20) rfl), List.forall_mem_cons.mpr ⟨pm_X9_edge_r8 _ (List.mem_of_getElem? (i := 21) rfl), List.forall_mem_cons.mpr ⟨pm_X9_edge_r8 _ (List.mem_of_getElem? (i := 22) rfl), List.forall_mem_cons.mpr ⟨pm_X9_edge_r8 _ (List.mem_of_getElem? (i := 23) rfl), List.forall_mem_cons.mpr ⟨pm_X9_edge_r9 _ (List.mem_of_getElem? (i := 0) rfl), List.forall_mem_cons.mpr ⟨pm_X9_edge_r9 _ (List.mem_of_getElem? (i := 1) rfl), List.forall_mem_cons.mpr ⟨pm_X9_edge_r9 _ (List.mem_of_getElem? (i := 2) rfl), List.forall_mem_cons.mpr ⟨pm_X9_edge_r9 _ (List.mem_of_getElem? (i := 3) rfl), List.forall_mem_cons.mpr ⟨pm_X9_edge_r9 _ (List.mem_of_getElem? (i := 4) rfl), List.forall_mem_cons.mpr ⟨pm_X9_edge_r9 _ (List.mem_of_getElem? (i := 5) rfl), List.forall_mem_cons.mpr ⟨pm_X9_edge_r9 _ (List.mem_of_getElem? (i := 6) rfl), List.forall_mem_cons.mpr ⟨pm_X9_edge_r9 _ (List.mem_of_getElem? (i := 7) rfl), fun _ h => absurd h List.not_mem_nil⟩⟩⟩⟩⟩⟩⟩⟩⟩⟩⟩⟩
set_option maxRecDepth 20000 in
theorem ggX9_edge_X9_bestWork : GoodIn wsX9_edge wsX9_bestWork := goodIn_sub (List.forall_mem_cons.mpr ⟨pm_X9_edge_r2 _ (List.mem_of_getElem? (i := 1) rfl), List.forall_mem_append.mpr ⟨List.forall_mem_append.mpr ⟨List.forall_mem_append.mpr ⟨List.forall_mem_append.mpr ⟨List.forall_mem_append.mpr ⟨List.forall_mem_append.mpr ⟨pq_X9_edge_X9_bestWork_r1, List.forall_mem_append.mpr ⟨pq_X9_edge_X9_bestWork_r2, List.forall_mem_append.mpr ⟨pq_X9_edge_X9_bestWork_r3, List.forall_mem_append.mpr ⟨pq_X9_edge_X9_bestWork_r4, List.forall_mem_append.mpr ⟨pq_X9_edge_X9_bestWork_r5, List.forall_mem_append.mpr ⟨pq_X9_edge_X9_bestWork_r6, List.forall_mem_append.mpr ⟨pq_X9_edge_X9_bestWork_r7, pq_X9_edge_X9_bestWork_r8⟩⟩⟩⟩⟩⟩⟩, pw_X9_edge_X9⟩, pw_X9_edge_X3⟩, pw_X9_edge_X2⟩, pw_X9_edge_X4⟩, pw_X9_edge_X8⟩⟩) (by decide +kernel)
set_option maxRecDepth 20000 in
theorem gX9_edge_X9_bestWork : GoodIn wsX9_edge (wsV RX9 198 RX9 yX9_bestWork wsX9_bestWork) := goodIn_app (goodIn_of _ (by decide +kernel)) ggX9_edge_X9_bestWork
theorem dX9_edge_0 : decode cX9_edge 0 = .ok (.aload_n 0, 1) := by decide +kernel
theorem dX9_edge_1 : decode cX9_edge 1 = .ok (.iload_n 1, 1) := by decide +kernel
theorem dX9_edge_2 : decode cX9_edge 2 = .ok (.invokevirtual 140, 3) := by decide +kernel
theorem dX9_edge_5 : decode cX9_edge 5 = .ok (.ifCond .eq 12, 3) := by decide +kernel
theorem dX9_edge_8 : decode cX9_edge 8 = .ok (.aload_n 0, 1) := by decide +kernel
theorem dX9_edge_9 : decode cX9_edge 9 = .ok (.iload_n 2, 1) := by decide +kernel
theorem dX9_edge_10 : decode cX9_edge 10 = .ok (.iload_n 3, 1) := by decide +kernel
theorem dX9_edge_11 : decode cX9_edge 11 = .ok (.invokevirtual 205, 3) := by decide +kernel
theorem dX9_edge_14 : decode cX9_edge 14 = .ok (.ifCond .ne 6, 3) := by decide +kernel
theorem dX9_edge_17 : decode cX9_edge 17 = .ok (.bipush (-2), 2) := by decide +kernel
theorem dX9_edge_19 : decode cX9_edge 19 = .ok (.ireturn, 1) := by decide +kernel
theorem dX9_edge_20 : decode cX9_edge 20 = .ok (.aload_n 0, 1) := by decide +kernel
theorem dX9_edge_21 : decode cX9_edge 21 = .ok (.getfield 19, 3) := by decide +kernel
theorem dX9_edge_24 : decode cX9_edge 24 = .ok (.getfield 147, 3) := by decide +kernel
theorem dX9_edge_27 : decode cX9_edge 27 = .ok (.iload_n 1, 1) := by decide +kernel
theorem dX9_edge_28 : decode cX9_edge 28 = .ok (.aaload, 1) := by decide +kernel
theorem dX9_edge_29 : decode cX9_edge 29 = .ok (.astore 4, 2) := by decide +kernel
theorem dX9_edge_31 : decode cX9_edge 31 = .ok (.aload 4, 2) := by decide +kernel
theorem dX9_edge_33 : decode cX9_edge 33 = .ok (.iload_n 2, 1) := by decide +kernel
theorem dX9_edge_34 : decode cX9_edge 34 = .ok (.iaload, 1) := by decide +kernel
theorem dX9_edge_35 : decode cX9_edge 35 = .ok (.istore 5, 2) := by decide +kernel
theorem dX9_edge_37 : decode cX9_edge 37 = .ok (.aload 4, 2) := by decide +kernel
theorem dX9_edge_39 : decode cX9_edge 39 = .ok (.iload_n 3, 1) := by decide +kernel
theorem dX9_edge_40 : decode cX9_edge 40 = .ok (.iaload, 1) := by decide +kernel
theorem dX9_edge_41 : decode cX9_edge 41 = .ok (.istore 6, 2) := by decide +kernel
theorem dX9_edge_43 : decode cX9_edge 43 = .ok (.iload 5, 2) := by decide +kernel
theorem dX9_edge_45 : decode cX9_edge 45 = .ok (.aload_n 0, 1) := by decide +kernel
theorem dX9_edge_46 : decode cX9_edge 46 = .ok (.getfield 19, 3) := by decide +kernel
theorem dX9_edge_49 : decode cX9_edge 49 = .ok (.getfield 127, 3) := by decide +kernel
theorem dX9_edge_52 : decode cX9_edge 52 = .ok (.iload 6, 2) := by decide +kernel
theorem dX9_edge_54 : decode cX9_edge 54 = .ok (.isub, 1) := by decide +kernel
theorem dX9_edge_55 : decode cX9_edge 55 = .ok (.invokestatic 264, 3) := by decide +kernel
theorem dX9_edge_58 : decode cX9_edge 58 = .ok (.istore 7, 2) := by decide +kernel
theorem dX9_edge_60 : decode cX9_edge 60 = .ok (.aload_n 0, 1) := by decide +kernel
theorem dX9_edge_61 : decode cX9_edge 61 = .ok (.invokevirtual 198, 3) := by decide +kernel
theorem dX9_edge_64 : decode cX9_edge 64 = .ok (.istore 8, 2) := by decide +kernel
theorem dX9_edge_66 : decode cX9_edge 66 = .ok (.iconst (-1), 1) := by decide +kernel
theorem dX9_edge_67 : decode cX9_edge 67 = .ok (.istore 9, 2) := by decide +kernel
theorem dX9_edge_69 : decode cX9_edge 69 = .ok (.iconst 1, 1) := by decide +kernel
theorem dX9_edge_70 : decode cX9_edge 70 = .ok (.istore 10, 2) := by decide +kernel
theorem dX9_edge_72 : decode cX9_edge 72 = .ok (.iload 10, 2) := by decide +kernel
theorem dX9_edge_74 : decode cX9_edge 74 = .ok (.iload 7, 2) := by decide +kernel
theorem dX9_edge_76 : decode cX9_edge 76 = .ok (.if_icmp .gt 46, 3) := by decide +kernel
theorem dX9_edge_79 : decode cX9_edge 79 = .ok (.iload 9, 2) := by decide +kernel
theorem dX9_edge_81 : decode cX9_edge 81 = .ok (.iconst (-1), 1) := by decide +kernel
theorem dX9_edge_82 : decode cX9_edge 82 = .ok (.if_icmp .ne 40, 3) := by decide +kernel
theorem dX9_edge_85 : decode cX9_edge 85 = .ok (.aload 4, 2) := by decide +kernel
theorem dX9_edge_87 : decode cX9_edge 87 = .ok (.iload_n 2, 1) := by decide +kernel
theorem dX9_edge_88 : decode cX9_edge 88 = .ok (.iload 5, 2) := by decide +kernel
theorem dX9_edge_90 : decode cX9_edge 90 = .ok (.iload 10, 2) := by decide +kernel
theorem dX9_edge_92 : decode cX9_edge 92 = .ok (.isub, 1) := by decide +kernel
theorem dX9_edge_93 : decode cX9_edge 93 = .ok (.iastore, 1) := by decide +kernel
theorem dX9_edge_94 : decode cX9_edge 94 = .ok (.aload 4, 2) := by decide +kernel
theorem dX9_edge_96 : decode cX9_edge 96 = .ok (.iload_n 3, 1) := by decide +kernel
theorem dX9_edge_97 : decode cX9_edge 97 = .ok (.iload 6, 2) := by decide +kernel
theorem dX9_edge_99 : decode cX9_edge 99 = .ok (.iload 10, 2) := by decide +kernel
theorem dX9_edge_101 : decode cX9_edge 101 = .ok (.iadd, 1) := by decide +kernel
theorem dX9_edge_102 : decode cX9_edge 102 = .ok (.iastore, 1) := by decide +kernel
theorem dX9_edge_103 : decode cX9_edge 103 = .ok (.aload_n 0, 1) := by decide +kernel
theorem dX9_edge_104 : decode cX9_edge 104 = .ok (.invokevirtual 198, 3) := by decide +kernel
theorem dX9_edge_107 : decode cX9_edge 107 = .ok (.iload 8, 2) := by decide +kernel
theorem dX9_edge_109 : decode cX9_edge 109 = .ok (.if_icmp .eq 7, 3) := by decide +kernel
theorem dX9_edge_112 : decode cX9_edge 112 = .ok (.iload 10, 2) := by decide +kernel
theorem dX9_edge_114 : decode cX9_edge 114 = .ok (.istore 9, 2) := by decide +kernel
theorem dX9_edge_116 : decode cX9_edge 116 = .ok (.iinc 10 1, 3) := by decide +kernel
theorem dX9_edge_119 : decode cX9_edge 119 = .ok (.goto (-47), 3) := by decide +kernel
theorem dX9_edge_122 : decode cX9_edge 122 = .ok (.aload 4, 2) := by decide +kernel
theorem dX9_edge_124 : decode cX9_edge 124 = .ok (.iload_n 2, 1) := by decide +kernel
theorem dX9_edge_125 : decode cX9_edge 125 = .ok (.iload 5, 2) := by decide +kernel
theorem dX9_edge_127 : decode cX9_edge 127 = .ok (.iastore, 1) := by decide +kernel
theorem dX9_edge_128 : decode cX9_edge 128 = .ok (.aload 4, 2) := by decide +kernel
theorem dX9_edge_130 : decode cX9_edge 130 = .ok (.iload_n 3, 1) := by decide +kernel
theorem dX9_edge_131 : decode cX9_edge 131 = .ok (.iload 6, 2) := by decide +kernel
theorem dX9_edge_133 : decode cX9_edge 133 = .ok (.iastore, 1) := by decide +kernel
theorem dX9_edge_134 : decode cX9_edge 134 = .ok (.iload 9, 2) := by decide +kernel
theorem dX9_edge_136 : decode cX9_edge 136 = .ok (.ireturn, 1) := by decide +kernel
set_option maxRecDepth 20000 in
theorem ggX9_ratio_X9_isWork : GoodIn wsX9_ratio wsX9_isWork := goodIn_r _ [9, 1, 10, 11, 12, 13, 14, 15, 16, 17, 18, 19, 20, 21, 22, 23, 24, 25, 26, 27, 28, 29, 30, 31, 32, 33, 34, 35] (by decide +kernel) (by decide +kernel)
set_option maxRecDepth 20000 in
theorem gX9_ratio_X9_isWork : GoodIn wsX9_ratio (wsV RX9 140 RX9 yX9_isWork wsX9_isWork) := goodIn_app (goodIn_of _ (by decide +kernel)) ggX9_ratio_X9_isWork
theorem dX9_ratio_0 : decode cX9_ratio 0 = .ok (.aload_n 0, 1) := by decide +kernel
theorem dX9_ratio_1 : decode cX9_ratio 1 = .ok (.iload_n 1, 1) := by decide +kernel
theorem dX9_ratio_2 : decode cX9_ratio 2 = .ok (.invokevirtual 140, 3) := by decide +kernel
theorem dX9_ratio_5 : decode cX9_ratio 5 = .ok (.ifCond .eq 11, 3) := by decide +kernel
theorem dX9_ratio_8 : decode cX9_ratio 8 = .ok (.aload_n 0, 1) := by decide +kernel
theorem dX9_ratio_9 : decode cX9_ratio 9 = .ok (.iload_n 2, 1) := by decide +kernel
theorem dX9_ratio_10 : decode cX9_ratio 10 = .ok (.invokevirtual 140, 3) := by decide +kernel
theorem dX9_ratio_13 : decode cX9_ratio 13 = .ok (.ifCond .ne 6, 3) := by decide +kernel
theorem dX9_ratio_16 : decode cX9_ratio 16 = .ok (.bipush (-2), 2) := by decide +kernel
theorem dX9_ratio_18 : decode cX9_ratio 18 = .ok (.ireturn, 1) := by decide +kernel
theorem dX9_ratio_19 : decode cX9_ratio 19 = .ok (.iconst 0, 1) := by decide +kernel
theorem dX9_ratio_20 : decode cX9_ratio 20 = .ok (.istore_n 3, 1) := by decide +kernel
theorem dX9_ratio_21 : decode cX9_ratio 21 = .ok (.iload_n 3, 1) := by decide +kernel
theorem dX9_ratio_22 : decode cX9_ratio 22 = .ok (.aload_n 0, 1) := by decide +kernel
theorem dX9_ratio_23 : decode cX9_ratio 23 = .ok (.getfield 19, 3) := by decide +kernel
theorem dX9_ratio_26 : decode cX9_ratio 26 = .ok (.getfield 124, 3) := by decide +kernel
theorem dX9_ratio_29 : decode cX9_ratio 29 = .ok (.if_icmp .ge 125, 3) := by decide +kernel
theorem dX9_ratio_32 : decode cX9_ratio 32 = .ok (.iconst 0, 1) := by decide +kernel
theorem dX9_ratio_33 : decode cX9_ratio 33 = .ok (.istore 4, 2) := by decide +kernel
theorem dX9_ratio_35 : decode cX9_ratio 35 = .ok (.iload 4, 2) := by decide +kernel
theorem dX9_ratio_37 : decode cX9_ratio 37 = .ok (.aload_n 0, 1) := by decide +kernel
theorem dX9_ratio_38 : decode cX9_ratio 38 = .ok (.getfield 19, 3) := by decide +kernel
theorem dX9_ratio_41 : decode cX9_ratio 41 = .ok (.getfield 124, 3) := by decide +kernel
theorem dX9_ratio_44 : decode cX9_ratio 44 = .ok (.if_icmp .ge 104, 3) := by decide +kernel
theorem dX9_ratio_47 : decode cX9_ratio 47 = .ok (.aload_n 0, 1) := by decide +kernel
theorem dX9_ratio_48 : decode cX9_ratio 48 = .ok (.getfield 19, 3) := by decide +kernel
theorem dX9_ratio_51 : decode cX9_ratio 51 = .ok (.getfield 269, 3) := by decide +kernel
theorem dX9_ratio_54 : decode cX9_ratio 54 = .ok (.iload 4, 2) := by decide +kernel
theorem dX9_ratio_56 : decode cX9_ratio 56 = .ok (.iaload, 1) := by decide +kernel
theorem dX9_ratio_57 : decode cX9_ratio 57 = .ok (.aload_n 0, 1) := by decide +kernel
theorem dX9_ratio_58 : decode cX9_ratio 58 = .ok (.getfield 19, 3) := by decide +kernel
theorem dX9_ratio_61 : decode cX9_ratio 61 = .ok (.getfield 269, 3) := by decide +kernel
theorem dX9_ratio_64 : decode cX9_ratio 64 = .ok (.iload_n 3, 1) := by decide +kernel
theorem dX9_ratio_65 : decode cX9_ratio 65 = .ok (.iaload, 1) := by decide +kernel
theorem dX9_ratio_66 : decode cX9_ratio 66 = .ok (.if_icmp .le 7, 3) := by decide +kernel
theorem dX9_ratio_69 : decode cX9_ratio 69 = .ok (.iconst 1, 1) := by decide +kernel
theorem dX9_ratio_70 : decode cX9_ratio 70 = .ok (.goto 4, 3) := by decide +kernel
theorem dX9_ratio_73 : decode cX9_ratio 73 = .ok (.iconst 0, 1) := by decide +kernel
theorem dX9_ratio_74 : decode cX9_ratio 74 = .ok (.istore 5, 2) := by decide +kernel
theorem dX9_ratio_76 : decode cX9_ratio 76 = .ok (.aload_n 0, 1) := by decide +kernel
theorem dX9_ratio_77 : decode cX9_ratio 77 = .ok (.getfield 19, 3) := by decide +kernel
theorem dX9_ratio_80 : decode cX9_ratio 80 = .ok (.getfield 147, 3) := by decide +kernel
theorem dX9_ratio_83 : decode cX9_ratio 83 = .ok (.iload_n 1, 1) := by decide +kernel
theorem dX9_ratio_84 : decode cX9_ratio 84 = .ok (.aaload, 1) := by decide +kernel
theorem dX9_ratio_85 : decode cX9_ratio 85 = .ok (.iload 4, 2) := by decide +kernel
theorem dX9_ratio_87 : decode cX9_ratio 87 = .ok (.iaload, 1) := by decide +kernel
theorem dX9_ratio_88 : decode cX9_ratio 88 = .ok (.aload_n 0, 1) := by decide +kernel
theorem dX9_ratio_89 : decode cX9_ratio 89 = .ok (.getfield 19, 3) := by decide +kernel
theorem dX9_ratio_92 : decode cX9_ratio 92 = .ok (.getfield 147, 3) := by decide +kernel
theorem dX9_ratio_95 : decode cX9_ratio 95 = .ok (.iload_n 2, 1) := by decide +kernel
theorem dX9_ratio_96 : decode cX9_ratio 96 = .ok (.aaload, 1) := by decide +kernel
theorem dX9_ratio_97 : decode cX9_ratio 97 = .ok (.iload_n 3, 1) := by decide +kernel
theorem dX9_ratio_98 : decode cX9_ratio 98 = .ok (.iaload, 1) := by decide +kernel
theorem dX9_ratio_99 : decode cX9_ratio 99 = .ok (.imul, 1) := by decide +kernel
theorem dX9_ratio_100 : decode cX9_ratio 100 = .ok (.istore 6, 2) := by decide +kernel
theorem dX9_ratio_102 : decode cX9_ratio 102 = .ok (.aload_n 0, 1) := by decide +kernel
theorem dX9_ratio_103 : decode cX9_ratio 103 = .ok (.getfield 19, 3) := by decide +kernel
theorem dX9_ratio_106 : decode cX9_ratio 106 = .ok (.getfield 147, 3) := by decide +kernel
theorem dX9_ratio_109 : decode cX9_ratio 109 = .ok (.iload_n 1, 1) := by decide +kernel
theorem dX9_ratio_110 : decode cX9_ratio 110 = .ok (.aaload, 1) := by decide +kernel
theorem dX9_ratio_111 : decode cX9_ratio 111 = .ok (.iload_n 3, 1) := by decide +kernel
theorem dX9_ratio_112 : decode cX9_ratio 112 = .ok (.iaload, 1) := by decide +kernel
theorem dX9_ratio_113 : decode cX9_ratio 113 = .ok (.aload_n 0, 1) := by decide +kernel
theorem dX9_ratio_114 : decode cX9_ratio 114 = .ok (.getfield 19, 3) := by decide +kernel
theorem dX9_ratio_117 : decode cX9_ratio 117 = .ok (.getfield 147, 3) := by decide +kernel
theorem dX9_ratio_120 : decode cX9_ratio 120 = .ok (.iload_n 2, 1) := by decide +kernel
theorem dX9_ratio_121 : decode cX9_ratio 121 = .ok (.aaload, 1) := by decide +kernel
theorem dX9_ratio_122 : decode cX9_ratio 122 = .ok (.iload 4, 2) := by decide +kernel
theorem dX9_ratio_124 : decode cX9_ratio 124 = .ok (.iaload, 1) := by decide +kernel
theorem dX9_ratio_125 : decode cX9_ratio 125 = .ok (.imul, 1) := by decide +kernel
theorem dX9_ratio_126 : decode cX9_ratio 126 = .ok (.istore 7, 2) := by decide +kernel
theorem dX9_ratio_128 : decode cX9_ratio 128 = .ok (.iload 5, 2) := by decide +kernel
theorem dX9_ratio_130 : decode cX9_ratio 130 = .ok (.ifCond .eq 12, 3) := by decide +kernel
theorem dX9_ratio_133 : decode cX9_ratio 133 = .ok (.iload 6, 2) := by decide +kernel
theorem dX9_ratio_135 : decode cX9_ratio 135 = .ok (.iload 7, 2) := by decide +kernel
theorem dX9_ratio_137 : decode cX9_ratio 137 = .ok (.if_icmp .ge 5, 3) := by decide +kernel
theorem dX9_ratio_140 : decode cX9_ratio 140 = .ok (.iconst 0, 1) := by decide +kernel
theorem dX9_ratio_141 : decode cX9_ratio 141 = .ok (.ireturn, 1) := by decide +kernel
theorem dX9_ratio_142 : decode cX9_ratio 142 = .ok (.iinc 4 1, 3) := by decide +kernel
theorem dX9_ratio_145 : decode cX9_ratio 145 = .ok (.goto (-110), 3) := by decide +kernel
theorem dX9_ratio_148 : decode cX9_ratio 148 = .ok (.iinc 3 1, 3) := by decide +kernel
theorem dX9_ratio_151 : decode cX9_ratio 151 = .ok (.goto (-130), 3) := by decide +kernel
theorem dX9_ratio_154 : decode cX9_ratio 154 = .ok (.iconst 1, 1) := by decide +kernel
theorem dX9_ratio_155 : decode cX9_ratio 155 = .ok (.ireturn, 1) := by decide +kernel
theorem pm_X9_rises_r1 : ∀ w ∈ wsX9_rises_r1, w ∈ wsX9_rises := fun _ h => List.mem_cons_of_mem _ (List.mem_append_left _ (List.mem_append_left _ (List.mem_append_left _ (List.mem_append_left _ (List.mem_append_left _ h)))))
theorem pm_X9_rises_r2 : ∀ w ∈ wsX9_rises_r2, w ∈ wsX9_rises := fun _ h => List.mem_cons_of_mem _ (List.mem_append_left _ (List.mem_append_left _ (List.mem_append_left _ (List.mem_append_left _ (List.mem_append_right _ (List.mem_append_left _ h))))))
theorem pm_X9_rises_r3 : ∀ w ∈ wsX9_rises_r3, w ∈ wsX9_rises := fun _ h => List.mem_cons_of_mem _ (List.mem_append_left _ (List.mem_append_left _ (List.mem_append_left _ (List.mem_append_left _ (List.mem_append_right _ (List.mem_append_right _ (List.mem_append_left _ h)))))))
theorem pm_X9_rises_r4 : ∀ w ∈ wsX9_rises_r4, w ∈ wsX9_rises := fun _ h => List.mem_cons_of_mem _ (List.mem_append_left _ (List.mem_append_left _ (List.mem_append_left _ (List.mem_append_left _ (List.mem_append_right _ (List.mem_append_right _ (List.mem_append_right _ (List.mem_append_left _ h))))))))
theorem pm_X9_rises_r5 : ∀ w ∈ wsX9_rises_r5, w ∈ wsX9_rises := fun _ h => List.mem_cons_of_mem _ (List.mem_append_left _ (List.mem_append_left _ (List.mem_append_left _ (List.mem_append_left _ (List.mem_append_right _ (List.mem_append_right _ (List.mem_append_right _ (List.mem_append_right _ (List.mem_append_left _ h)))))))))
theorem pm_X9_rises_r6 : ∀ w ∈ wsX9_rises_r6, w ∈ wsX9_rises := fun _ h => List.mem_cons_of_mem _ (List.mem_append_left _ (List.mem_append_left _ (List.mem_append_left _ (List.mem_append_left _ (List.mem_append_right _ (List.mem_append_right _ (List.mem_append_right _ (List.mem_append_right _ (List.mem_append_right _ (h))))))))))
theorem pw_X9_rises_X9 : ∀ w ∈ wsX90, w ∈ wsX9_rises := fun _ h => List.mem_cons_of_mem _ (List.mem_append_left _ (List.mem_append_left _ (List.mem_append_left _ (List.mem_append_right _ h))))
theorem pw_X9_rises_X3 : ∀ w ∈ wsX30, w ∈ wsX9_rises := fun _ h => List.mem_cons_of_mem _ (List.mem_append_left _ (List.mem_append_left _ (List.mem_append_right _ h)))
theorem pw_X9_rises_X4 : ∀ w ∈ wsX40, w ∈ wsX9_rises := fun _ h => List.mem_cons_of_mem _ (List.mem_append_left _ (List.mem_append_right _ h))
theorem pw_X9_rises_X8 : ∀ w ∈ wsX80, w ∈ wsX9_rises := fun _ h => List.mem_cons_of_mem _ (List.mem_append_right _ h)
set_option maxRecDepth 20000 in
theorem ggX9_rises_X9_isWork : GoodIn wsX9_rises wsX9_isWork := goodIn_sub (List.forall_mem_cons.mpr ⟨pm_X9_rises_r1 _ (List.mem_of_getElem? (i := 9) rfl), List.forall_mem_append.mpr ⟨List.forall_mem_append.mpr ⟨List.forall_mem_cons.mpr ⟨pm_X9_rises_r1 _ (List.mem_of_getElem? (i := 1) rfl), List.forall_mem_cons.mpr ⟨pm_X9_rises_r1 _ (List.mem_of_getElem? (i := 10) rfl), fun _ h => absurd h List.not_mem_nil⟩⟩, pw_X9_rises_X9⟩, pw_X9_rises_X3⟩⟩) (by decide +kernel)
set_option maxRecDepth 20000 in
theorem gX9_rises_X9_isWork : GoodIn wsX9_rises (wsV RX9 140 RX9 yX9_isWork wsX9_isWork) := goodIn_app (goodIn_of _ (by decide +kernel)) ggX9_rises_X9_isWork
set_option maxRecDepth 20000 in
theorem pq_X9_rises_X4_findWages_r1 : ∀ w ∈ wsX4_findWages_r1, w ∈ wsX9_rises := List.forall_mem_cons.mpr ⟨pm_X9_rises_r1 _ (List.mem_of_getElem? (i := 16) rfl), List.forall_mem_cons.mpr ⟨pm_X9_rises_r1 _ (List.mem_of_getElem? (i := 17) rfl), List.forall_mem_cons.mpr ⟨pm_X9_rises_r1 _ (List.mem_of_getElem? (i := 18) rfl), List.forall_mem_cons.mpr ⟨pm_X9_rises_r1 _ (List.mem_of_getElem? (i := 19) rfl), List.forall_mem_cons.mpr ⟨pm_X9_rises_r1 _ (List.mem_of_getElem? (i := 14) rfl), List.forall_mem_cons.mpr ⟨pm_X9_rises_r1 _ (List.mem_of_getElem? (i := 20) rfl), List.forall_mem_cons.mpr ⟨pm_X9_rises_r1 _ (List.mem_of_getElem? (i := 21) rfl), List.forall_mem_cons.mpr ⟨pm_X9_rises_r1 _ (List.mem_of_getElem? (i := 22) rfl), List.forall_mem_cons.mpr ⟨pm_X9_rises_r1 _ (List.mem_of_getElem? (i := 23) rfl), List.forall_mem_cons.mpr ⟨pm_X9_rises_r2 _ (List.mem_of_getElem? (i := 0) rfl), List.forall_mem_cons.mpr ⟨pm_X9_rises_r2 _ (List.mem_of_getElem? (i := 1) rfl), List.forall_mem_cons.mpr ⟨pm_X9_rises_r2 _ (List.mem_of_getElem? (i := 2) rfl), List.forall_mem_cons.mpr ⟨pm_X9_rises_r2 _ (List.mem_of_getElem? (i := 3) rfl), List.forall_mem_cons.mpr ⟨pm_X9_rises_r2 _ (List.mem_of_getElem? (i := 4) rfl), List.forall_mem_cons.mpr ⟨pm_X9_rises_r2 _ (List.mem_of_getElem? (i := 5) rfl), List.forall_mem_cons.mpr ⟨pm_X9_rises_r2 _ (List.mem_of_getElem? (i := 6) rfl), List.forall_mem_cons.mpr ⟨pm_X9_rises_r2 _ (List.mem_of_getElem? (i := 7) rfl), List.forall_mem_cons.mpr ⟨pm_X9_rises_r2 _ (List.mem_of_getElem? (i := 8) rfl), List.forall_mem_cons.mpr ⟨pm_X9_rises_r2 _ (List.mem_of_getElem? (i := 9) rfl), List.forall_mem_cons.mpr ⟨pm_X9_rises_r2 _ (List.mem_of_getElem? (i := 10) rfl), List.forall_mem_cons.mpr ⟨pm_X9_rises_r2 _ (List.mem_of_getElem? (i := 11) rfl), List.forall_mem_cons.mpr ⟨pm_X9_rises_r2 _ (List.mem_of_getElem? (i := 12) rfl), List.forall_mem_cons.mpr ⟨pm_X9_rises_r2 _ (List.mem_of_getElem? (i := 13) rfl), List.forall_mem_cons.mpr ⟨pm_X9_rises_r2 _ (List.mem_of_getElem? (i := 14) rfl), fun _ h => absurd h List.not_mem_nil⟩⟩⟩⟩⟩⟩⟩⟩⟩⟩⟩⟩⟩⟩⟩⟩⟩⟩⟩⟩⟩⟩⟩⟩
set_option maxRecDepth 20000 in
theorem pq_X9_rises_X4_findWages_r2 : ∀ w ∈ wsX4_findWages_r2, w ∈ wsX9_rises := List.forall_mem_cons.mpr ⟨pm_X9_rises_r2 _ (List.mem_of_getElem? (i := 15) rfl), List.forall_mem_cons.mpr ⟨pm_X9_rises_r2 _ (List.mem_of_getElem? (i := 16) rfl), List.forall_mem_cons.mpr ⟨pm_X9_rises_r2 _ (List.mem_of_getElem? (i := 17) rfl), List.forall_mem_cons.mpr ⟨pm_X9_rises_r2 _ (List.mem_of_getElem? (i := 18) rfl), List.forall_mem_cons.mpr ⟨pm_X9_rises_r2 _ (List.mem_of_getElem? (i := 19) rfl), List.forall_mem_cons.mpr ⟨pm_X9_rises_r2 _ (List.mem_of_getElem? (i := 20) rfl), List.forall_mem_cons.mpr ⟨pm_X9_rises_r2 _ (List.mem_of_getElem? (i := 21) rfl), List.forall_mem_cons.mpr ⟨pm_X9_rises_r2 _ (List.mem_of_getElem? (i := 22) rfl), List.forall_mem_cons.mpr ⟨pm_X9_rises_r2 _ (List.mem_of_getElem? (i := 23) rfl), List.forall_mem_cons.mpr ⟨pm_X9_rises_r3 _ (List.mem_of_getElem? (i := 0) rfl), List.forall_mem_cons.mpr ⟨pm_X9_rises_r3 _ (List.mem_of_getElem? (i := 1) rfl), List.forall_mem_cons.mpr ⟨pm_X9_rises_r3 _ (List.mem_of_getElem? (i := 2) rfl), List.forall_mem_cons.mpr ⟨pm_X9_rises_r3 _ (List.mem_of_getElem? (i := 3) rfl), List.forall_mem_cons.mpr ⟨pm_X9_rises_r3 _ (List.mem_of_getElem? (i := 4) rfl), List.forall_mem_cons.mpr ⟨pm_X9_rises_r3 _ (List.mem_of_getElem? (i := 5) rfl), List.forall_mem_cons.mpr ⟨pm_X9_rises_r3 _ (List.mem_of_getElem? (i := 6) rfl), List.forall_mem_cons.mpr ⟨pm_X9_rises_r3 _ (List.mem_of_getElem? (i := 7) rfl), List.forall_mem_cons.mpr ⟨pm_X9_rises_r3 _ (List.mem_of_getElem? (i := 8) rfl), List.forall_mem_cons.mpr ⟨pm_X9_rises_r3 _ (List.mem_of_getElem? (i := 9) rfl), List.forall_mem_cons.mpr ⟨pm_X9_rises_r3 _ (List.mem_of_getElem? (i := 10) rfl), List.forall_mem_cons.mpr ⟨pm_X9_rises_r3 _ (List.mem_of_getElem? (i := 11) rfl), List.forall_mem_cons.mpr ⟨pm_X9_rises_r3 _ (List.mem_of_getElem? (i := 12) rfl), List.forall_mem_cons.mpr ⟨pm_X9_rises_r3 _ (List.mem_of_getElem? (i := 13) rfl), List.forall_mem_cons.mpr ⟨pm_X9_rises_r3 _ (List.mem_of_getElem? (i := 14) rfl), fun _ h => absurd h List.not_mem_nil⟩⟩⟩⟩⟩⟩⟩⟩⟩⟩⟩⟩⟩⟩⟩⟩⟩⟩⟩⟩⟩⟩⟩⟩
set_option maxRecDepth 20000 in
theorem pq_X9_rises_X4_findWages_r3 : ∀ w ∈ wsX4_findWages_r3, w ∈ wsX9_rises := List.forall_mem_cons.mpr ⟨pm_X9_rises_r3 _ (List.mem_of_getElem? (i := 15) rfl), List.forall_mem_cons.mpr ⟨pm_X9_rises_r3 _ (List.mem_of_getElem? (i := 16) rfl), List.forall_mem_cons.mpr ⟨pm_X9_rises_r3 _ (List.mem_of_getElem? (i := 17) rfl), List.forall_mem_cons.mpr ⟨pm_X9_rises_r3 _ (List.mem_of_getElem? (i := 18) rfl), List.forall_mem_cons.mpr ⟨pm_X9_rises_r3 _ (List.mem_of_getElem? (i := 19) rfl), List.forall_mem_cons.mpr ⟨pm_X9_rises_r3 _ (List.mem_of_getElem? (i := 20) rfl), List.forall_mem_cons.mpr ⟨pm_X9_rises_r3 _ (List.mem_of_getElem? (i := 21) rfl), List.forall_mem_cons.mpr ⟨pm_X9_rises_r3 _ (List.mem_of_getElem? (i := 22) rfl), List.forall_mem_cons.mpr ⟨pm_X9_rises_r3 _ (List.mem_of_getElem? (i := 23) rfl), List.forall_mem_cons.mpr ⟨pm_X9_rises_r4 _ (List.mem_of_getElem? (i := 0) rfl), List.forall_mem_cons.mpr ⟨pm_X9_rises_r4 _ (List.mem_of_getElem? (i := 1) rfl), List.forall_mem_cons.mpr ⟨pm_X9_rises_r4 _ (List.mem_of_getElem? (i := 2) rfl), List.forall_mem_cons.mpr ⟨pm_X9_rises_r4 _ (List.mem_of_getElem? (i := 3) rfl), List.forall_mem_cons.mpr ⟨pm_X9_rises_r4 _ (List.mem_of_getElem? (i := 4) rfl), List.forall_mem_cons.mpr ⟨pm_X9_rises_r4 _ (List.mem_of_getElem? (i := 5) rfl), List.forall_mem_cons.mpr ⟨pm_X9_rises_r4 _ (List.mem_of_getElem? (i := 6) rfl), List.forall_mem_cons.mpr ⟨pm_X9_rises_r4 _ (List.mem_of_getElem? (i := 7) rfl), List.forall_mem_cons.mpr ⟨pm_X9_rises_r4 _ (List.mem_of_getElem? (i := 8) rfl), List.forall_mem_cons.mpr ⟨pm_X9_rises_r4 _ (List.mem_of_getElem? (i := 9) rfl), List.forall_mem_cons.mpr ⟨pm_X9_rises_r4 _ (List.mem_of_getElem? (i := 10) rfl), List.forall_mem_cons.mpr ⟨pm_X9_rises_r4 _ (List.mem_of_getElem? (i := 11) rfl), List.forall_mem_cons.mpr ⟨pm_X9_rises_r4 _ (List.mem_of_getElem? (i := 12) rfl), List.forall_mem_cons.mpr ⟨pm_X9_rises_r4 _ (List.mem_of_getElem? (i := 13) rfl), List.forall_mem_cons.mpr ⟨pm_X9_rises_r4 _ (List.mem_of_getElem? (i := 14) rfl), fun _ h => absurd h List.not_mem_nil⟩⟩⟩⟩⟩⟩⟩⟩⟩⟩⟩⟩⟩⟩⟩⟩⟩⟩⟩⟩⟩⟩⟩⟩
set_option maxRecDepth 20000 in
theorem pq_X9_rises_X4_findWages_r4 : ∀ w ∈ wsX4_findWages_r4, w ∈ wsX9_rises := List.forall_mem_cons.mpr ⟨pm_X9_rises_r4 _ (List.mem_of_getElem? (i := 15) rfl), List.forall_mem_cons.mpr ⟨pm_X9_rises_r4 _ (List.mem_of_getElem? (i := 16) rfl), List.forall_mem_cons.mpr ⟨pm_X9_rises_r4 _ (List.mem_of_getElem? (i := 17) rfl), List.forall_mem_cons.mpr ⟨pm_X9_rises_r4 _ (List.mem_of_getElem? (i := 18) rfl), List.forall_mem_cons.mpr ⟨pm_X9_rises_r4 _ (List.mem_of_getElem? (i := 19) rfl), List.forall_mem_cons.mpr ⟨pm_X9_rises_r4 _ (List.mem_of_getElem? (i := 20) rfl), List.forall_mem_cons.mpr ⟨pm_X9_rises_r4 _ (List.mem_of_getElem? (i := 21) rfl), List.forall_mem_cons.mpr ⟨pm_X9_rises_r4 _ (List.mem_of_getElem? (i := 22) rfl), List.forall_mem_cons.mpr ⟨pm_X9_rises_r4 _ (List.mem_of_getElem? (i := 23) rfl), List.forall_mem_cons.mpr ⟨pm_X9_rises_r5 _ (List.mem_of_getElem? (i := 0) rfl), List.forall_mem_cons.mpr ⟨pm_X9_rises_r5 _ (List.mem_of_getElem? (i := 1) rfl), List.forall_mem_cons.mpr ⟨pm_X9_rises_r5 _ (List.mem_of_getElem? (i := 2) rfl), List.forall_mem_cons.mpr ⟨pm_X9_rises_r5 _ (List.mem_of_getElem? (i := 3) rfl), List.forall_mem_cons.mpr ⟨pm_X9_rises_r5 _ (List.mem_of_getElem? (i := 4) rfl), List.forall_mem_cons.mpr ⟨pm_X9_rises_r5 _ (List.mem_of_getElem? (i := 5) rfl), List.forall_mem_cons.mpr ⟨pm_X9_rises_r5 _ (List.mem_of_getElem? (i := 6) rfl), List.forall_mem_cons.mpr ⟨pm_X9_rises_r5 _ (List.mem_of_getElem? (i := 7) rfl), List.forall_mem_cons.mpr ⟨pm_X9_rises_r5 _ (List.mem_of_getElem? (i := 8) rfl), List.forall_mem_cons.mpr ⟨pm_X9_rises_r5 _ (List.mem_of_getElem? (i := 9) rfl), List.forall_mem_cons.mpr ⟨pm_X9_rises_r5 _ (List.mem_of_getElem? (i := 10) rfl), List.forall_mem_cons.mpr ⟨pm_X9_rises_r5 _ (List.mem_of_getElem? (i := 11) rfl), List.forall_mem_cons.mpr ⟨pm_X9_rises_r5 _ (List.mem_of_getElem? (i := 12) rfl), List.forall_mem_cons.mpr ⟨pm_X9_rises_r5 _ (List.mem_of_getElem? (i := 13) rfl), List.forall_mem_cons.mpr ⟨pm_X9_rises_r5 _ (List.mem_of_getElem? (i := 14) rfl), fun _ h => absurd h List.not_mem_nil⟩⟩⟩⟩⟩⟩⟩⟩⟩⟩⟩⟩⟩⟩⟩⟩⟩⟩⟩⟩⟩⟩⟩⟩
set_option maxRecDepth 20000 in
theorem pq_X9_rises_X4_findWages_r5 : ∀ w ∈ wsX4_findWages_r5, w ∈ wsX9_rises := List.forall_mem_cons.mpr ⟨pm_X9_rises_r5 _ (List.mem_of_getElem? (i := 15) rfl), List.forall_mem_cons.mpr ⟨pm_X9_rises_r5 _ (List.mem_of_getElem? (i := 16) rfl), List.forall_mem_cons.mpr ⟨pm_X9_rises_r5 _ (List.mem_of_getElem? (i := 17) rfl), List.forall_mem_cons.mpr ⟨pm_X9_rises_r5 _ (List.mem_of_getElem? (i := 18) rfl), List.forall_mem_cons.mpr ⟨pm_X9_rises_r5 _ (List.mem_of_getElem? (i := 19) rfl), List.forall_mem_cons.mpr ⟨pm_X9_rises_r5 _ (List.mem_of_getElem? (i := 20) rfl), List.forall_mem_cons.mpr ⟨pm_X9_rises_r5 _ (List.mem_of_getElem? (i := 21) rfl), List.forall_mem_cons.mpr ⟨pm_X9_rises_r5 _ (List.mem_of_getElem? (i := 22) rfl), List.forall_mem_cons.mpr ⟨pm_X9_rises_r5 _ (List.mem_of_getElem? (i := 23) rfl), List.forall_mem_cons.mpr ⟨pm_X9_rises_r6 _ (List.mem_of_getElem? (i := 0) rfl), List.forall_mem_cons.mpr ⟨pm_X9_rises_r6 _ (List.mem_of_getElem? (i := 1) rfl), List.forall_mem_cons.mpr ⟨pm_X9_rises_r6 _ (List.mem_of_getElem? (i := 2) rfl), List.forall_mem_cons.mpr ⟨pm_X9_rises_r6 _ (List.mem_of_getElem? (i := 3) rfl), List.forall_mem_cons.mpr ⟨pm_X9_rises_r6 _ (List.mem_of_getElem? (i := 4) rfl), List.forall_mem_cons.mpr ⟨pm_X9_rises_r6 _ (List.mem_of_getElem? (i := 5) rfl), List.forall_mem_cons.mpr ⟨pm_X9_rises_r6 _ (List.mem_of_getElem? (i := 6) rfl), List.forall_mem_cons.mpr ⟨pm_X9_rises_r6 _ (List.mem_of_getElem? (i := 7) rfl), List.forall_mem_cons.mpr ⟨pm_X9_rises_r6 _ (List.mem_of_getElem? (i := 8) rfl), List.forall_mem_cons.mpr ⟨pm_X9_rises_r6 _ (List.mem_of_getElem? (i := 9) rfl), List.forall_mem_cons.mpr ⟨pm_X9_rises_r6 _ (List.mem_of_getElem? (i := 10) rfl), List.forall_mem_cons.mpr ⟨pm_X9_rises_r6 _ (List.mem_of_getElem? (i := 11) rfl), List.forall_mem_cons.mpr ⟨pm_X9_rises_r6 _ (List.mem_of_getElem? (i := 12) rfl), List.forall_mem_cons.mpr ⟨pm_X9_rises_r6 _ (List.mem_of_getElem? (i := 13) rfl), List.forall_mem_cons.mpr ⟨pm_X9_rises_r6 _ (List.mem_of_getElem? (i := 14) rfl), fun _ h => absurd h List.not_mem_nil⟩⟩⟩⟩⟩⟩⟩⟩⟩⟩⟩⟩⟩⟩⟩⟩⟩⟩⟩⟩⟩⟩⟩⟩
set_option maxRecDepth 20000 in
theorem pq_X9_rises_X4_findWages_r6 : ∀ w ∈ wsX4_findWages_r6, w ∈ wsX9_rises := List.forall_mem_cons.mpr ⟨pm_X9_rises_r6 _ (List.mem_of_getElem? (i := 15) rfl), List.forall_mem_cons.mpr ⟨pm_X9_rises_r6 _ (List.mem_of_getElem? (i := 16) rfl), List.forall_mem_cons.mpr ⟨pm_X9_rises_r6 _ (List.mem_of_getElem? (i := 17) rfl), List.forall_mem_cons.mpr ⟨pm_X9_rises_r6 _ (List.mem_of_getElem? (i := 18) rfl), List.forall_mem_cons.mpr ⟨pm_X9_rises_r6 _ (List.mem_of_getElem? (i := 19) rfl), fun _ h => absurd h List.not_mem_nil⟩⟩⟩⟩⟩
set_option maxRecDepth 20000 in
theorem ggX9_rises_X4_findWages : GoodIn wsX9_rises wsX4_findWages := goodIn_sub (List.forall_mem_cons.mpr ⟨pm_X9_rises_r1 _ (List.mem_of_getElem? (i := 15) rfl), List.forall_mem_append.mpr ⟨List.forall_mem_append.mpr ⟨List.forall_mem_append.mpr ⟨List.forall_mem_append.mpr ⟨pq_X9_rises_X4_findWages_r1, List.forall_mem_append.mpr ⟨pq_X9_rises_X4_findWages_r2, List.forall_mem_append.mpr ⟨pq_X9_rises_X4_findWages_r3, List.forall_mem_append.mpr ⟨pq_X9_rises_X4_findWages_r4, List.forall_mem_append.mpr ⟨pq_X9_rises_X4_findWages_r5, pq_X9_rises_X4_findWages_r6⟩⟩⟩⟩⟩, pw_X9_rises_X3⟩, pw_X9_rises_X4⟩, pw_X9_rises_X8⟩⟩) (by decide +kernel)
set_option maxRecDepth 20000 in
theorem gX9_rises_X4_findWages : GoodIn wsX9_rises (wsV RX9 173 RX4 yX4_findWages wsX4_findWages) := goodIn_app (goodIn_of _ (by decide +kernel)) ggX9_rises_X4_findWages
theorem dX9_rises_0 : decode cX9_rises 0 = .ok (.aload_n 0, 1) := by decide +kernel
theorem dX9_rises_1 : decode cX9_rises 1 = .ok (.iload_n 1, 1) := by decide +kernel
theorem dX9_rises_2 : decode cX9_rises 2 = .ok (.invokevirtual 140, 3) := by decide +kernel
theorem dX9_rises_5 : decode cX9_rises 5 = .ok (.ifCond .ne 6, 3) := by decide +kernel
theorem dX9_rises_8 : decode cX9_rises 8 = .ok (.bipush (-2), 2) := by decide +kernel
theorem dX9_rises_10 : decode cX9_rises 10 = .ok (.ireturn, 1) := by decide +kernel
theorem dX9_rises_11 : decode cX9_rises 11 = .ok (.aload_n 0, 1) := by decide +kernel
theorem dX9_rises_12 : decode cX9_rises 12 = .ok (.getfield 54, 3) := by decide +kernel
theorem dX9_rises_15 : decode cX9_rises 15 = .ok (.aload_n 0, 1) := by decide +kernel
theorem dX9_rises_16 : decode cX9_rises 16 = .ok (.getfield 19, 3) := by decide +kernel
theorem dX9_rises_19 : decode cX9_rises 19 = .ok (.iload_n 1, 1) := by decide +kernel
theorem dX9_rises_20 : decode cX9_rises 20 = .ok (.invokevirtual 173, 3) := by decide +kernel
theorem dX9_rises_23 : decode cX9_rises 23 = .ok (.ifCond .ne 5, 3) := by decide +kernel
theorem dX9_rises_26 : decode cX9_rises 26 = .ok (.iconst (-1), 1) := by decide +kernel
theorem dX9_rises_27 : decode cX9_rises 27 = .ok (.ireturn, 1) := by decide +kernel
theorem dX9_rises_28 : decode cX9_rises 28 = .ok (.iconst 0, 1) := by decide +kernel
theorem dX9_rises_29 : decode cX9_rises 29 = .ok (.istore_n 2, 1) := by decide +kernel
theorem dX9_rises_30 : decode cX9_rises 30 = .ok (.iload_n 2, 1) := by decide +kernel
theorem dX9_rises_31 : decode cX9_rises 31 = .ok (.aload_n 0, 1) := by decide +kernel
theorem dX9_rises_32 : decode cX9_rises 32 = .ok (.getfield 19, 3) := by decide +kernel
theorem dX9_rises_35 : decode cX9_rises 35 = .ok (.getfield 124, 3) := by decide +kernel
theorem dX9_rises_38 : decode cX9_rises 38 = .ok (.if_icmp .ge 73, 3) := by decide +kernel
theorem dX9_rises_41 : decode cX9_rises 41 = .ok (.iconst 0, 1) := by decide +kernel
theorem dX9_rises_42 : decode cX9_rises 42 = .ok (.istore_n 3, 1) := by decide +kernel
theorem dX9_rises_43 : decode cX9_rises 43 = .ok (.iload_n 3, 1) := by decide +kernel
theorem dX9_rises_44 : decode cX9_rises 44 = .ok (.aload_n 0, 1) := by decide +kernel
theorem dX9_rises_45 : decode cX9_rises 45 = .ok (.getfield 19, 3) := by decide +kernel
theorem dX9_rises_48 : decode cX9_rises 48 = .ok (.getfield 124, 3) := by decide +kernel
theorem dX9_rises_51 : decode cX9_rises 51 = .ok (.if_icmp .ge 54, 3) := by decide +kernel
theorem dX9_rises_54 : decode cX9_rises 54 = .ok (.aload_n 0, 1) := by decide +kernel
theorem dX9_rises_55 : decode cX9_rises 55 = .ok (.getfield 19, 3) := by decide +kernel
theorem dX9_rises_58 : decode cX9_rises 58 = .ok (.getfield 269, 3) := by decide +kernel
theorem dX9_rises_61 : decode cX9_rises 61 = .ok (.iload_n 3, 1) := by decide +kernel
theorem dX9_rises_62 : decode cX9_rises 62 = .ok (.iaload, 1) := by decide +kernel
theorem dX9_rises_63 : decode cX9_rises 63 = .ok (.aload_n 0, 1) := by decide +kernel
theorem dX9_rises_64 : decode cX9_rises 64 = .ok (.getfield 19, 3) := by decide +kernel
theorem dX9_rises_67 : decode cX9_rises 67 = .ok (.getfield 269, 3) := by decide +kernel
theorem dX9_rises_70 : decode cX9_rises 70 = .ok (.iload_n 2, 1) := by decide +kernel
theorem dX9_rises_71 : decode cX9_rises 71 = .ok (.iaload, 1) := by decide +kernel
theorem dX9_rises_72 : decode cX9_rises 72 = .ok (.if_icmp .le 27, 3) := by decide +kernel
theorem dX9_rises_75 : decode cX9_rises 75 = .ok (.aload_n 0, 1) := by decide +kernel
theorem dX9_rises_76 : decode cX9_rises 76 = .ok (.getfield 54, 3) := by decide +kernel
theorem dX9_rises_79 : decode cX9_rises 79 = .ok (.getfield 272, 3) := by decide +kernel
theorem dX9_rises_82 : decode cX9_rises 82 = .ok (.iload_n 3, 1) := by decide +kernel
theorem dX9_rises_83 : decode cX9_rises 83 = .ok (.laload, 1) := by decide +kernel
theorem dX9_rises_84 : decode cX9_rises 84 = .ok (.aload_n 0, 1) := by decide +kernel
theorem dX9_rises_85 : decode cX9_rises 85 = .ok (.getfield 54, 3) := by decide +kernel
theorem dX9_rises_88 : decode cX9_rises 88 = .ok (.getfield 272, 3) := by decide +kernel
theorem dX9_rises_91 : decode cX9_rises 91 = .ok (.iload_n 2, 1) := by decide +kernel
theorem dX9_rises_92 : decode cX9_rises 92 = .ok (.laload, 1) := by decide +kernel
theorem dX9_rises_93 : decode cX9_rises 93 = .ok (.lcmp, 1) := by decide +kernel
theorem dX9_rises_94 : decode cX9_rises 94 = .ok (.ifCond .ge 5, 3) := by decide +kernel
theorem dX9_rises_97 : decode cX9_rises 97 = .ok (.iconst 0, 1) := by decide +kernel
theorem dX9_rises_98 : decode cX9_rises 98 = .ok (.ireturn, 1) := by decide +kernel
theorem dX9_rises_99 : decode cX9_rises 99 = .ok (.iinc 3 1, 3) := by decide +kernel
theorem dX9_rises_102 : decode cX9_rises 102 = .ok (.goto (-59), 3) := by decide +kernel
theorem dX9_rises_105 : decode cX9_rises 105 = .ok (.iinc 2 1, 3) := by decide +kernel
theorem dX9_rises_108 : decode cX9_rises 108 = .ok (.goto (-78), 3) := by decide +kernel
theorem dX9_rises_111 : decode cX9_rises 111 = .ok (.iconst 1, 1) := by decide +kernel
theorem dX9_rises_112 : decode cX9_rises 112 = .ok (.ireturn, 1) := by decide +kernel
set_option maxRecDepth 20000 in
theorem ggX9_see_X1_canTell : GoodIn wsX9_see wsX1_canTell := goodIn_r _ [7, 8, 38, 39, 40, 41, 42, 43, 44, 45, 46] (by decide +kernel) (by decide +kernel)
set_option maxRecDepth 20000 in
theorem gX9_see_X1_canTell : GoodIn wsX9_see (wsV RX9 275 RX1 yX1_canTell wsX1_canTell) := goodIn_app (goodIn_of _ (by decide +kernel)) ggX9_see_X1_canTell
set_option maxRecDepth 20000 in
theorem ggX9_see_X9_isSign : GoodIn wsX9_see wsX9_isSign := goodIn_r _ [13, 14, 15, 24, 25, 26, 27, 28, 29, 30, 31, 32, 33, 34, 35, 36, 37, 47, 48, 49, 50, 51, 52, 53, 54, 55, 56, 57] (by decide +kernel) (by decide +kernel)
set_option maxRecDepth 20000 in
theorem gX9_see_X9_isSign : GoodIn wsX9_see (wsV RX9 144 RX9 yX9_isSign wsX9_isSign) := goodIn_app (goodIn_of _ (by decide +kernel)) ggX9_see_X9_isSign
set_option maxRecDepth 20000 in
theorem ggX9_see_X1_write : GoodIn wsX9_see wsX1_write := goodIn_r _ [19, 20, 8, 21, 22, 23, 38, 39, 40, 41, 42, 43, 44, 45, 46] (by decide +kernel) (by decide +kernel)
set_option maxRecDepth 20000 in
theorem gX9_see_X1_write : GoodIn wsX9_see (wsV RX9 281 RX1 yX1_write wsX1_write) := goodIn_app (goodIn_of _ (by decide +kernel)) ggX9_see_X1_write
theorem dX9_see_0 : decode cX9_see 0 = .ok (.aload_n 0, 1) := by decide +kernel
theorem dX9_see_1 : decode cX9_see 1 = .ok (.getfield 82, 3) := by decide +kernel
theorem dX9_see_4 : decode cX9_see 4 = .ok (.iload_n 1, 1) := by decide +kernel
theorem dX9_see_5 : decode cX9_see 5 = .ok (.invokevirtual 275, 3) := by decide +kernel
theorem dX9_see_8 : decode cX9_see 8 = .ok (.ifCond .eq 11, 3) := by decide +kernel
theorem dX9_see_11 : decode cX9_see 11 = .ok (.aload_n 0, 1) := by decide +kernel
theorem dX9_see_12 : decode cX9_see 12 = .ok (.iload_n 2, 1) := by decide +kernel
theorem dX9_see_13 : decode cX9_see 13 = .ok (.invokevirtual 144, 3) := by decide +kernel
theorem dX9_see_16 : decode cX9_see 16 = .ok (.ifCond .ne 6, 3) := by decide +kernel
theorem dX9_see_19 : decode cX9_see 19 = .ok (.bipush (-2), 2) := by decide +kernel
theorem dX9_see_21 : decode cX9_see 21 = .ok (.ireturn, 1) := by decide +kernel
theorem dX9_see_22 : decode cX9_see 22 = .ok (.aload_n 0, 1) := by decide +kernel
theorem dX9_see_23 : decode cX9_see 23 = .ok (.getfield 82, 3) := by decide +kernel
theorem dX9_see_26 : decode cX9_see 26 = .ok (.getfield 278, 3) := by decide +kernel
theorem dX9_see_29 : decode cX9_see 29 = .ok (.bipush 8, 2) := by decide +kernel
theorem dX9_see_31 : decode cX9_see 31 = .ok (.if_icmp .lt 8, 3) := by decide +kernel
theorem dX9_see_34 : decode cX9_see 34 = .ok (.bipush (-3), 2) := by decide +kernel
theorem dX9_see_36 : decode cX9_see 36 = .ok (.goto 12, 3) := by decide +kernel
theorem dX9_see_39 : decode cX9_see 39 = .ok (.aload_n 0, 1) := by decide +kernel
theorem dX9_see_40 : decode cX9_see 40 = .ok (.getfield 82, 3) := by decide +kernel
theorem dX9_see_43 : decode cX9_see 43 = .ok (.iload_n 1, 1) := by decide +kernel
theorem dX9_see_44 : decode cX9_see 44 = .ok (.iload_n 2, 1) := by decide +kernel
theorem dX9_see_45 : decode cX9_see 45 = .ok (.invokevirtual 281, 3) := by decide +kernel
theorem dX9_see_48 : decode cX9_see 48 = .ok (.ireturn, 1) := by decide +kernel
theorem pm_X9_right_r1 : ∀ w ∈ wsX9_right_r1, w ∈ wsX9_right := fun _ h => List.mem_cons_of_mem _ (List.mem_append_left _ (List.mem_append_left _ (List.mem_append_left _ (List.mem_append_left _ h))))
theorem pm_X9_right_r2 : ∀ w ∈ wsX9_right_r2, w ∈ wsX9_right := fun _ h => List.mem_cons_of_mem _ (List.mem_append_left _ (List.mem_append_left _ (List.mem_append_left _ (List.mem_append_right _ (h)))))
theorem pw_X9_right_X9 : ∀ w ∈ wsX90, w ∈ wsX9_right := fun _ h => List.mem_cons_of_mem _ (List.mem_append_left _ (List.mem_append_left _ (List.mem_append_right _ h)))
theorem pw_X9_right_X1 : ∀ w ∈ wsX10, w ∈ wsX9_right := fun _ h => List.mem_cons_of_mem _ (List.mem_append_left _ (List.mem_append_right _ h))
theorem pw_X9_right_X3 : ∀ w ∈ wsX30, w ∈ wsX9_right := fun _ h => List.mem_cons_of_mem _ (List.mem_append_right _ h)
set_option maxRecDepth 20000 in
theorem ggX9_right_X1_canTell : GoodIn wsX9_right wsX1_canTell := goodIn_sub (List.forall_mem_cons.mpr ⟨pm_X9_right_r1 _ (List.mem_of_getElem? (i := 6) rfl), List.forall_mem_append.mpr ⟨List.forall_mem_cons.mpr ⟨pm_X9_right_r1 _ (List.mem_of_getElem? (i := 7) rfl), fun _ h => absurd h List.not_mem_nil⟩, pw_X9_right_X1⟩⟩) (by decide +kernel)
set_option maxRecDepth 20000 in
theorem gX9_right_X1_canTell : GoodIn wsX9_right (wsV RX9 275 RX1 yX1_canTell wsX1_canTell) := goodIn_app (goodIn_of _ (by decide +kernel)) ggX9_right_X1_canTell
set_option maxRecDepth 20000 in
theorem ggX9_right_X1_canCorrect : GoodIn wsX9_right wsX1_canCorrect := goodIn_sub (List.forall_mem_cons.mpr ⟨pm_X9_right_r1 _ (List.mem_of_getElem? (i := 11) rfl), List.forall_mem_append.mpr ⟨List.forall_mem_cons.mpr ⟨pm_X9_right_r1 _ (List.mem_of_getElem? (i := 12) rfl), List.forall_mem_cons.mpr ⟨pm_X9_right_r1 _ (List.mem_of_getElem? (i := 13) rfl), fun _ h => absurd h List.not_mem_nil⟩⟩, pw_X9_right_X1⟩⟩) (by decide +kernel)
set_option maxRecDepth 20000 in
theorem gX9_right_X1_canCorrect : GoodIn wsX9_right (wsV RX9 284 RX1 yX1_canCorrect wsX1_canCorrect) := goodIn_app (goodIn_of _ (by decide +kernel)) ggX9_right_X1_canCorrect
set_option maxRecDepth 20000 in
theorem ggX9_right_X9_isSign : GoodIn wsX9_right wsX9_isSign := goodIn_sub (List.forall_mem_cons.mpr ⟨pm_X9_right_r1 _ (List.mem_of_getElem? (i := 18) rfl), List.forall_mem_append.mpr ⟨List.forall_mem_append.mpr ⟨List.forall_mem_cons.mpr ⟨pm_X9_right_r1 _ (List.mem_of_getElem? (i := 19) rfl), List.forall_mem_cons.mpr ⟨pm_X9_right_r1 _ (List.mem_of_getElem? (i := 20) rfl), fun _ h => absurd h List.not_mem_nil⟩⟩, pw_X9_right_X9⟩, pw_X9_right_X3⟩⟩) (by decide +kernel)
set_option maxRecDepth 20000 in
theorem gX9_right_X9_isSign : GoodIn wsX9_right (wsV RX9 144 RX9 yX9_isSign wsX9_isSign) := goodIn_app (goodIn_of _ (by decide +kernel)) ggX9_right_X9_isSign
set_option maxRecDepth 20000 in
theorem ggX9_right_X1_correct : GoodIn wsX9_right wsX1_correct := goodIn_sub (List.forall_mem_cons.mpr ⟨pm_X9_right_r2 _ (List.mem_of_getElem? (i := 0) rfl), List.forall_mem_append.mpr ⟨List.forall_mem_cons.mpr ⟨pm_X9_right_r2 _ (List.mem_of_getElem? (i := 1) rfl), List.forall_mem_cons.mpr ⟨pm_X9_right_r1 _ (List.mem_of_getElem? (i := 7) rfl), List.forall_mem_cons.mpr ⟨pm_X9_right_r2 _ (List.mem_of_getElem? (i := 2) rfl), List.forall_mem_cons.mpr ⟨pm_X9_right_r2 _ (List.mem_of_getElem? (i := 3) rfl), List.forall_mem_cons.mpr ⟨pm_X9_right_r2 _ (List.mem_of_getElem? (i := 4) rfl), List.forall_mem_cons.mpr ⟨pm_X9_right_r2 _ (List.mem_of_getElem? (i := 5) rfl), fun _ h => absurd h List.not_mem_nil⟩⟩⟩⟩⟩⟩, pw_X9_right_X1⟩⟩) (by decide +kernel)
set_option maxRecDepth 20000 in
theorem gX9_right_X1_correct : GoodIn wsX9_right (wsV RX9 290 RX1 yX1_correct wsX1_correct) := goodIn_app (goodIn_of _ (by decide +kernel)) ggX9_right_X1_correct
theorem dX9_right_0 : decode cX9_right 0 = .ok (.aload_n 0, 1) := by decide +kernel
theorem dX9_right_1 : decode cX9_right 1 = .ok (.getfield 82, 3) := by decide +kernel
theorem dX9_right_4 : decode cX9_right 4 = .ok (.iload_n 1, 1) := by decide +kernel
theorem dX9_right_5 : decode cX9_right 5 = .ok (.invokevirtual 275, 3) := by decide +kernel
theorem dX9_right_8 : decode cX9_right 8 = .ok (.ifCond .eq 23, 3) := by decide +kernel
theorem dX9_right_11 : decode cX9_right 11 = .ok (.aload_n 0, 1) := by decide +kernel
theorem dX9_right_12 : decode cX9_right 12 = .ok (.getfield 82, 3) := by decide +kernel
theorem dX9_right_15 : decode cX9_right 15 = .ok (.iload_n 1, 1) := by decide +kernel
theorem dX9_right_16 : decode cX9_right 16 = .ok (.iload_n 2, 1) := by decide +kernel
theorem dX9_right_17 : decode cX9_right 17 = .ok (.invokevirtual 284, 3) := by decide +kernel
theorem dX9_right_20 : decode cX9_right 20 = .ok (.ifCond .eq 11, 3) := by decide +kernel
theorem dX9_right_23 : decode cX9_right 23 = .ok (.aload_n 0, 1) := by decide +kernel
theorem dX9_right_24 : decode cX9_right 24 = .ok (.iload_n 3, 1) := by decide +kernel
theorem dX9_right_25 : decode cX9_right 25 = .ok (.invokevirtual 144, 3) := by decide +kernel
theorem dX9_right_28 : decode cX9_right 28 = .ok (.ifCond .ne 6, 3) := by decide +kernel
theorem dX9_right_31 : decode cX9_right 31 = .ok (.bipush (-2), 2) := by decide +kernel
theorem dX9_right_33 : decode cX9_right 33 = .ok (.ireturn, 1) := by decide +kernel
theorem dX9_right_34 : decode cX9_right 34 = .ok (.aload_n 0, 1) := by decide +kernel
theorem dX9_right_35 : decode cX9_right 35 = .ok (.getfield 82, 3) := by decide +kernel
theorem dX9_right_38 : decode cX9_right 38 = .ok (.getfield 287, 3) := by decide +kernel
theorem dX9_right_41 : decode cX9_right 41 = .ok (.bipush 20, 2) := by decide +kernel
theorem dX9_right_43 : decode cX9_right 43 = .ok (.if_icmp .lt 8, 3) := by decide +kernel
theorem dX9_right_46 : decode cX9_right 46 = .ok (.bipush (-3), 2) := by decide +kernel
theorem dX9_right_48 : decode cX9_right 48 = .ok (.goto 13, 3) := by decide +kernel
theorem dX9_right_51 : decode cX9_right 51 = .ok (.aload_n 0, 1) := by decide +kernel
theorem dX9_right_52 : decode cX9_right 52 = .ok (.getfield 82, 3) := by decide +kernel
theorem dX9_right_55 : decode cX9_right 55 = .ok (.iload_n 1, 1) := by decide +kernel
theorem dX9_right_56 : decode cX9_right 56 = .ok (.iload_n 2, 1) := by decide +kernel
theorem dX9_right_57 : decode cX9_right 57 = .ok (.iload_n 3, 1) := by decide +kernel
theorem dX9_right_58 : decode cX9_right 58 = .ok (.invokevirtual 290, 3) := by decide +kernel
theorem dX9_right_61 : decode cX9_right 61 = .ok (.ireturn, 1) := by decide +kernel
theorem kk_X9_edge_0 : Cond.fieldLink RX9 19 "PaidBySigns" "hire" "LPaidBySigns$Hire;" ∈ wsX9_edge := pm_X9_edge_r1 _ (List.mem_of_getElem? (i := 0) rfl)
theorem kk_X9_edge_1 : Cond.fieldLink RX9 147 "PaidBySigns$Hire" "chances" "[[I" ∈ wsX9_edge := pm_X9_edge_r1 _ (List.mem_of_getElem? (i := 1) rfl)
theorem kk_X9_edge_2 : Cond.fieldLink RX9 127 "PaidBySigns$Hire" "whole" "I" ∈ wsX9_edge := pm_X9_edge_r1 _ (List.mem_of_getElem? (i := 2) rfl)
theorem kk_X9_edge_3 : Cond.methodLink RX9 264 Lib.Math.min.name ∈ wsX9_edge := pm_X9_edge_r1 _ (List.mem_of_getElem? (i := 3) rfl)
theorem kk_X9_edge_4 : Cond.static Lib.Math.min.name ∈ wsX9_edge := pm_X9_edge_r1 _ (List.mem_of_getElem? (i := 4) rfl)
theorem kk_X9_edge_5 : Cond.initialized "java/lang/Math" ∈ wsX9_edge := pm_X9_edge_r1 _ (List.mem_of_getElem? (i := 5) rfl)
theorem kk_X9_edge_6 : Cond.code Lib.Math.min.name Lib.Math.min.code 2 (some .int) ∈ wsX9_edge := pm_X9_edge_r1 _ (List.mem_of_getElem? (i := 6) rfl)
theorem kk_X9_ratio_0 : Cond.fieldLink RX9 19 "PaidBySigns" "hire" "LPaidBySigns$Hire;" ∈ wsX9_ratio := by decide +kernel
theorem kk_X9_ratio_1 : Cond.fieldLink RX9 124 "PaidBySigns$Hire" "signs" "I" ∈ wsX9_ratio := by decide +kernel
theorem kk_X9_ratio_2 : Cond.fieldLink RX9 269 "PaidBySigns$Hire" "brings" "[I" ∈ wsX9_ratio := by decide +kernel
theorem kk_X9_ratio_3 : Cond.fieldLink RX9 147 "PaidBySigns$Hire" "chances" "[[I" ∈ wsX9_ratio := by decide +kernel
theorem kk_X9_rises_0 : Cond.fieldLink RX9 54 "PaidBySigns" "cheapest" "LPaidBySigns$LeastCost;" ∈ wsX9_rises := pm_X9_rises_r1 _ (List.mem_of_getElem? (i := 0) rfl)
theorem kk_X9_rises_1 : Cond.fieldLink RX9 19 "PaidBySigns" "hire" "LPaidBySigns$Hire;" ∈ wsX9_rises := pm_X9_rises_r1 _ (List.mem_of_getElem? (i := 1) rfl)
theorem kk_X9_rises_2 : Cond.fieldLink RX9 124 "PaidBySigns$Hire" "signs" "I" ∈ wsX9_rises := pm_X9_rises_r1 _ (List.mem_of_getElem? (i := 2) rfl)
theorem kk_X9_rises_3 : Cond.fieldLink RX9 269 "PaidBySigns$Hire" "brings" "[I" ∈ wsX9_rises := pm_X9_rises_r1 _ (List.mem_of_getElem? (i := 3) rfl)
theorem kk_X9_rises_4 : Cond.fieldLink RX9 272 "PaidBySigns$LeastCost" "above" "[J" ∈ wsX9_rises := pm_X9_rises_r1 _ (List.mem_of_getElem? (i := 4) rfl)
theorem kk_X9_see_0 : Cond.fieldLink RX9 82 "PaidBySigns" "diary" "LPaidBySigns$Diary;" ∈ wsX9_see := by decide +kernel
theorem kk_X9_see_1 : Cond.fieldLink RX9 278 "PaidBySigns$Diary" "seen" "I" ∈ wsX9_see := by decide +kernel
theorem kk_X9_right_0 : Cond.fieldLink RX9 82 "PaidBySigns" "diary" "LPaidBySigns$Diary;" ∈ wsX9_right := pm_X9_right_r1 _ (List.mem_of_getElem? (i := 0) rfl)
theorem kk_X9_right_1 : Cond.fieldLink RX9 287 "PaidBySigns$Diary" "rights" "I" ∈ wsX9_right := pm_X9_right_r1 _ (List.mem_of_getElem? (i := 1) rfl)
theorem iw_X9_edge_X9 : ∀ w ∈ wsX90, w ∈ wsX9_edge := pw_X9_edge_X9
theorem iw_X9_edge_X3 : ∀ w ∈ wsX30, w ∈ wsX9_edge := pw_X9_edge_X3
theorem iw_X9_ratio_X9 : ∀ w ∈ wsX90, w ∈ wsX9_ratio := by decide +kernel
theorem iw_X9_ratio_X3 : ∀ w ∈ wsX30, w ∈ wsX9_ratio := by decide +kernel
theorem iw_X9_rises_X9 : ∀ w ∈ wsX90, w ∈ wsX9_rises := pw_X9_rises_X9
theorem iw_X9_rises_X3 : ∀ w ∈ wsX30, w ∈ wsX9_rises := pw_X9_rises_X3
theorem iw_X9_rises_X4 : ∀ w ∈ wsX40, w ∈ wsX9_rises := pw_X9_rises_X4
theorem iw_X9_see_X9 : ∀ w ∈ wsX90, w ∈ wsX9_see := by decide +kernel
theorem iw_X9_see_X1 : ∀ w ∈ wsX10, w ∈ wsX9_see := by decide +kernel
theorem iw_X9_right_X9 : ∀ w ∈ wsX90, w ∈ wsX9_right := pw_X9_right_X9
theorem iw_X9_right_X1 : ∀ w ∈ wsX10, w ∈ wsX9_right := pw_X9_right_X1

abbrev cX9_odds : ByteArray := prog_1_method_35_code
def yX9_odds : MethodName := ⟨RX9, "odds", "(II)I"⟩
abbrev cX9_guess : ByteArray := prog_1_method_36_code
def yX9_guess : MethodName := ⟨RX9, "guess", "(I)I"⟩
abbrev cX9_count : ByteArray := prog_1_method_37_code
def yX9_count : MethodName := ⟨RX9, "count", "(I)I"⟩
abbrev cX9_isStep : ByteArray := prog_1_method_42_code
def yX9_isStep : MethodName := ⟨RX9, "isStep", "(I)Z"⟩
def wsX9_isStep : List Cond := .code yX9_isStep cX9_isStep 1 (some .boolean) :: ([])
def wsX9_odds_r1 : List Cond := [Cond.fieldLink RX9 19 "PaidBySigns" "hire" "LPaidBySigns$Hire;", Cond.fieldLink RX9 115 "PaidBySigns$Hire" "works" "I", Cond.fieldLink RX9 82 "PaidBySigns" "diary" "LPaidBySigns$Diary;", Cond.fieldLink RX9 30 "PaidBySigns" "latest" "LPaidBySigns$Fraction;", Cond.methodLink RX9 140 yX9_isWork, Cond.instanceMethod yX9_isWork, Cond.selects RX9 yX9_isWork yX9_isWork, Cond.initialized RX9, Cond.code yX9_isWork cX9_isWork 2 (some .boolean), Cond.methodLink RX9 294 yX9_isStep, Cond.static yX9_isStep, Cond.code yX9_isStep cX9_isStep 1 (some .boolean), Cond.methodLink RX9 297 yX1_productOf, Cond.instanceMethod yX1_productOf, Cond.selects RX1 yX1_productOf yX1_productOf, Cond.initialized RX1, Cond.code yX1_productOf cX1_productOf 7 (some .long), Cond.fieldLink RX1 9 "PaidBySigns$Diary" "seen" "I", Cond.fieldLink RX1 21 "PaidBySigns$Diary" "seenStep" "[I", Cond.fieldLink RX1 40 "PaidBySigns$Hire" "chances" "[[I", Cond.methodLink RX1 46 yX1_signKnown, Cond.instanceMethod yX1_signKnown, Cond.selects RX1 yX1_signKnown yX1_signKnown, Cond.code yX1_signKnown cX1_signKnown 5 (some .int)]
def wsX9_odds_r2 : List Cond := [Cond.fieldLink RX1 25 "PaidBySigns$Diary" "seenSign" "[I", Cond.fieldLink RX1 15 "PaidBySigns$Diary" "rights" "I", Cond.fieldLink RX1 34 "PaidBySigns$Diary" "rightOf" "[I", Cond.fieldLink RX1 31 "PaidBySigns$Diary" "rightStep" "[I", Cond.fieldLink RX1 37 "PaidBySigns$Diary" "rightSign" "[I", Cond.methodLink RX9 190 yX2_become, Cond.instanceMethod yX2_become, Cond.selects RX2 yX2_become yX2_become, Cond.initialized RX2, Cond.code yX2_become cX2_become 7 none, Cond.methodLink RX2 20 Lib.MathLoose.abs_long.x, Cond.static Lib.MathLoose.abs_long.x, Cond.initialized "java/lang/Math", Cond.code Lib.MathLoose.abs_long.x Lib.MathLoose.abs_long.code 2 (some .long), Cond.fieldLink RX2 11 "PaidBySigns$Fraction" "upper" "J", Cond.fieldLink RX2 17 "PaidBySigns$Fraction" "lower" "J", Cond.methodLink RX2 26 yX2_commonPart, Cond.static yX2_commonPart, Cond.code yX2_commonPart cX2_commonPart 11 (some .long), Cond.methodLink RX2 30 yX2_forget, Cond.instanceMethod yX2_forget, Cond.selects RX2 yX2_forget yX2_forget, Cond.code yX2_forget cX2_forget 1 none, Cond.constantLong RX2 9 (-2000000000)]
def wsX9_odds : List Cond := .code yX9_odds cX9_odds 6 (some .int) :: ((wsX9_odds_r1 ++ wsX9_odds_r2) ++ wsX90 ++ wsX30 ++ wsX10 ++ wsX20)
def wsX9_guess : List Cond := .code yX9_guess cX9_guess 8 (some .int) :: ([.fieldLink RX9 19 "PaidBySigns" "hire" "LPaidBySigns$Hire;", .fieldLink RX9 115 "PaidBySigns$Hire" "works" "I", .fieldLink RX9 82 "PaidBySigns" "diary" "LPaidBySigns$Diary;", .methodLink RX9 294 yX9_isStep, .static yX9_isStep, .initialized RX9, .code yX9_isStep cX9_isStep 1 (some .boolean), .methodLink RX9 297 yX1_productOf, .instanceMethod yX1_productOf, .selects RX1 yX1_productOf yX1_productOf, .initialized RX1, .code yX1_productOf cX1_productOf 7 (some .long), .fieldLink RX1 9 "PaidBySigns$Diary" "seen" "I", .fieldLink RX1 21 "PaidBySigns$Diary" "seenStep" "[I", .fieldLink RX1 40 "PaidBySigns$Hire" "chances" "[[I", .methodLink RX1 46 yX1_signKnown, .instanceMethod yX1_signKnown, .selects RX1 yX1_signKnown yX1_signKnown, .code yX1_signKnown cX1_signKnown 5 (some .int), .fieldLink RX1 25 "PaidBySigns$Diary" "seenSign" "[I", .fieldLink RX1 15 "PaidBySigns$Diary" "rights" "I", .fieldLink RX1 34 "PaidBySigns$Diary" "rightOf" "[I", .fieldLink RX1 31 "PaidBySigns$Diary" "rightStep" "[I", .fieldLink RX1 37 "PaidBySigns$Diary" "rightSign" "[I"] ++ wsX90 ++ wsX30 ++ wsX10)
def wsX9_count : List Cond := .code yX9_count cX9_count 2 (some .int) :: ([.fieldLink RX9 82 "PaidBySigns" "diary" "LPaidBySigns$Diary;", .fieldLink RX9 278 "PaidBySigns$Diary" "seen" "I", .fieldLink RX9 287 "PaidBySigns$Diary" "rights" "I", .fieldLink RX9 75 "PaidBySigns" "proofs" "LPaidBySigns$Proofs;", .fieldLink RX9 251 "PaidBySigns$Proofs" "lowerNumber" "I", .fieldLink RX9 10 "PaidBySigns" "reader" "LPaidBySigns$Reader;", .fieldLink RX9 86 "PaidBySigns$Reader" "length" "I"] ++ wsX90 ++ wsX10 ++ wsX60 ++ wsX70)
theorem pm_X9_odds_r1 : ∀ w ∈ wsX9_odds_r1, w ∈ wsX9_odds := fun _ h => List.mem_cons_of_mem _ (List.mem_append_left _ (List.mem_append_left _ (List.mem_append_left _ (List.mem_append_left _ (List.mem_append_left _ h)))))
theorem pm_X9_odds_r2 : ∀ w ∈ wsX9_odds_r2, w ∈ wsX9_odds := fun _ h => List.mem_cons_of_mem _ (List.mem_append_left _ (List.mem_append_left _ (List.mem_append_left _ (List.mem_append_left _ (List.mem_append_right _ (h))))))
theorem pw_X9_odds_X9 : ∀ w ∈ wsX90, w ∈ wsX9_odds := fun _ h => List.mem_cons_of_mem _ (List.mem_append_left _ (List.mem_append_left _ (List.mem_append_left _ (List.mem_append_right _ h))))
theorem pw_X9_odds_X3 : ∀ w ∈ wsX30, w ∈ wsX9_odds := fun _ h => List.mem_cons_of_mem _ (List.mem_append_left _ (List.mem_append_left _ (List.mem_append_right _ h)))
theorem pw_X9_odds_X1 : ∀ w ∈ wsX10, w ∈ wsX9_odds := fun _ h => List.mem_cons_of_mem _ (List.mem_append_left _ (List.mem_append_right _ h))
theorem pw_X9_odds_X2 : ∀ w ∈ wsX20, w ∈ wsX9_odds := fun _ h => List.mem_cons_of_mem _ (List.mem_append_right _ h)
set_option maxRecDepth 20000 in
theorem ggX9_odds_X9_isWork : GoodIn wsX9_odds wsX9_isWork := goodIn_sub (List.forall_mem_cons.mpr ⟨pm_X9_odds_r1 _ (List.mem_of_getElem? (i := 8) rfl), List.forall_mem_append.mpr ⟨List.forall_mem_append.mpr ⟨List.forall_mem_cons.mpr ⟨pm_X9_odds_r1 _ (List.mem_of_getElem? (i := 0) rfl), List.forall_mem_cons.mpr ⟨pm_X9_odds_r1 _ (List.mem_of_getElem? (i := 1) rfl), fun _ h => absurd h List.not_mem_nil⟩⟩, pw_X9_odds_X9⟩, pw_X9_odds_X3⟩⟩) (by decide +kernel)
set_option maxRecDepth 20000 in
theorem gX9_odds_X9_isWork : GoodIn wsX9_odds (wsV RX9 140 RX9 yX9_isWork wsX9_isWork) := goodIn_app (goodIn_of _ (by decide +kernel)) ggX9_odds_X9_isWork
set_option maxRecDepth 20000 in
theorem ggX9_odds_X9_isStep : GoodIn wsX9_odds wsX9_isStep := goodIn_sub (List.forall_mem_cons.mpr ⟨pm_X9_odds_r1 _ (List.mem_of_getElem? (i := 11) rfl), fun _ h => absurd h List.not_mem_nil⟩) (by decide +kernel)
set_option maxRecDepth 20000 in
theorem gX9_odds_X9_isStep : GoodIn wsX9_odds (va_wsS RX9 294 yX9_isStep wsX9_isStep) := goodIn_app (goodIn_of _ (by decide +kernel)) ggX9_odds_X9_isStep
set_option maxRecDepth 20000 in
theorem ggX9_odds_X1_productOf : GoodIn wsX9_odds wsX1_productOf := goodIn_sub (List.forall_mem_cons.mpr ⟨pm_X9_odds_r1 _ (List.mem_of_getElem? (i := 16) rfl), List.forall_mem_append.mpr ⟨List.forall_mem_append.mpr ⟨List.forall_mem_cons.mpr ⟨pm_X9_odds_r1 _ (List.mem_of_getElem? (i := 17) rfl), List.forall_mem_cons.mpr ⟨pm_X9_odds_r1 _ (List.mem_of_getElem? (i := 18) rfl), List.forall_mem_cons.mpr ⟨pm_X9_odds_r1 _ (List.mem_of_getElem? (i := 19) rfl), List.forall_mem_cons.mpr ⟨pm_X9_odds_r1 _ (List.mem_of_getElem? (i := 20) rfl), List.forall_mem_cons.mpr ⟨pm_X9_odds_r1 _ (List.mem_of_getElem? (i := 21) rfl), List.forall_mem_cons.mpr ⟨pm_X9_odds_r1 _ (List.mem_of_getElem? (i := 22) rfl), List.forall_mem_cons.mpr ⟨pm_X9_odds_r1 _ (List.mem_of_getElem? (i := 15) rfl), List.forall_mem_cons.mpr ⟨pm_X9_odds_r1 _ (List.mem_of_getElem? (i := 23) rfl), List.forall_mem_cons.mpr ⟨pm_X9_odds_r2 _ (List.mem_of_getElem? (i := 0) rfl), List.forall_mem_cons.mpr ⟨pm_X9_odds_r2 _ (List.mem_of_getElem? (i := 1) rfl), List.forall_mem_cons.mpr ⟨pm_X9_odds_r2 _ (List.mem_of_getElem? (i := 2) rfl), List.forall_mem_cons.mpr ⟨pm_X9_odds_r2 _ (List.mem_of_getElem? (i := 3) rfl), List.forall_mem_cons.mpr ⟨pm_X9_odds_r2 _ (List.mem_of_getElem? (i := 4) rfl), fun _ h => absurd h List.not_mem_nil⟩⟩⟩⟩⟩⟩⟩⟩⟩⟩⟩⟩⟩, pw_X9_odds_X1⟩, pw_X9_odds_X3⟩⟩) (by decide +kernel)
set_option maxRecDepth 20000 in
theorem gX9_odds_X1_productOf : GoodIn wsX9_odds (wsV RX9 297 RX1 yX1_productOf wsX1_productOf) := goodIn_app (goodIn_of _ (by decide +kernel)) ggX9_odds_X1_productOf
set_option maxRecDepth 20000 in
theorem ggX9_odds_X2_become : GoodIn wsX9_odds wsX2_become := goodIn_sub (List.forall_mem_cons.mpr ⟨pm_X9_odds_r2 _ (List.mem_of_getElem? (i := 9) rfl), List.forall_mem_append.mpr ⟨List.forall_mem_cons.mpr ⟨pm_X9_odds_r2 _ (List.mem_of_getElem? (i := 10) rfl), List.forall_mem_cons.mpr ⟨pm_X9_odds_r2 _ (List.mem_of_getElem? (i := 11) rfl), List.forall_mem_cons.mpr ⟨pm_X9_odds_r2 _ (List.mem_of_getElem? (i := 12) rfl), List.forall_mem_cons.mpr ⟨pm_X9_odds_r2 _ (List.mem_of_getElem? (i := 13) rfl), List.forall_mem_cons.mpr ⟨pm_X9_odds_r2 _ (List.mem_of_getElem? (i := 14) rfl), List.forall_mem_cons.mpr ⟨pm_X9_odds_r2 _ (List.mem_of_getElem? (i := 15) rfl), List.forall_mem_cons.mpr ⟨pm_X9_odds_r2 _ (List.mem_of_getElem? (i := 16) rfl), List.forall_mem_cons.mpr ⟨pm_X9_odds_r2 _ (List.mem_of_getElem? (i := 17) rfl), List.forall_mem_cons.mpr ⟨pm_X9_odds_r2 _ (List.mem_of_getElem? (i := 8) rfl), List.forall_mem_cons.mpr ⟨pm_X9_odds_r2 _ (List.mem_of_getElem? (i := 18) rfl), List.forall_mem_cons.mpr ⟨pm_X9_odds_r2 _ (List.mem_of_getElem? (i := 19) rfl), List.forall_mem_cons.mpr ⟨pm_X9_odds_r2 _ (List.mem_of_getElem? (i := 20) rfl), List.forall_mem_cons.mpr ⟨pm_X9_odds_r2 _ (List.mem_of_getElem? (i := 21) rfl), List.forall_mem_cons.mpr ⟨pm_X9_odds_r2 _ (List.mem_of_getElem? (i := 22) rfl), List.forall_mem_cons.mpr ⟨pm_X9_odds_r2 _ (List.mem_of_getElem? (i := 23) rfl), fun _ h => absurd h List.not_mem_nil⟩⟩⟩⟩⟩⟩⟩⟩⟩⟩⟩⟩⟩⟩⟩, pw_X9_odds_X2⟩⟩) (by decide +kernel)
set_option maxRecDepth 20000 in
theorem gX9_odds_X2_become : GoodIn wsX9_odds (wsV RX9 190 RX2 yX2_become wsX2_become) := goodIn_app (goodIn_of _ (by decide +kernel)) ggX9_odds_X2_become
theorem dX9_odds_0 : decode cX9_odds 0 = .ok (.aload_n 0, 1) := by decide +kernel
theorem dX9_odds_1 : decode cX9_odds 1 = .ok (.iload_n 1, 1) := by decide +kernel
theorem dX9_odds_2 : decode cX9_odds 2 = .ok (.invokevirtual 140, 3) := by decide +kernel
theorem dX9_odds_5 : decode cX9_odds 5 = .ok (.ifCond .eq 10, 3) := by decide +kernel
theorem dX9_odds_8 : decode cX9_odds 8 = .ok (.iload_n 2, 1) := by decide +kernel
theorem dX9_odds_9 : decode cX9_odds 9 = .ok (.invokestatic 294, 3) := by decide +kernel
theorem dX9_odds_12 : decode cX9_odds 12 = .ok (.ifCond .ne 6, 3) := by decide +kernel
theorem dX9_odds_15 : decode cX9_odds 15 = .ok (.bipush (-2), 2) := by decide +kernel
theorem dX9_odds_17 : decode cX9_odds 17 = .ok (.ireturn, 1) := by decide +kernel
theorem dX9_odds_18 : decode cX9_odds 18 = .ok (.lconst 0, 1) := by decide +kernel
theorem dX9_odds_19 : decode cX9_odds 19 = .ok (.lstore_n 3, 1) := by decide +kernel
theorem dX9_odds_20 : decode cX9_odds 20 = .ok (.iconst 0, 1) := by decide +kernel
theorem dX9_odds_21 : decode cX9_odds 21 = .ok (.istore 5, 2) := by decide +kernel
theorem dX9_odds_23 : decode cX9_odds 23 = .ok (.iload 5, 2) := by decide +kernel
theorem dX9_odds_25 : decode cX9_odds 25 = .ok (.aload_n 0, 1) := by decide +kernel
theorem dX9_odds_26 : decode cX9_odds 26 = .ok (.getfield 19, 3) := by decide +kernel
theorem dX9_odds_29 : decode cX9_odds 29 = .ok (.getfield 115, 3) := by decide +kernel
theorem dX9_odds_32 : decode cX9_odds 32 = .ok (.if_icmp .ge 26, 3) := by decide +kernel
theorem dX9_odds_35 : decode cX9_odds 35 = .ok (.lload_n 3, 1) := by decide +kernel
theorem dX9_odds_36 : decode cX9_odds 36 = .ok (.aload_n 0, 1) := by decide +kernel
theorem dX9_odds_37 : decode cX9_odds 37 = .ok (.getfield 82, 3) := by decide +kernel
theorem dX9_odds_40 : decode cX9_odds 40 = .ok (.aload_n 0, 1) := by decide +kernel
theorem dX9_odds_41 : decode cX9_odds 41 = .ok (.getfield 19, 3) := by decide +kernel
theorem dX9_odds_44 : decode cX9_odds 44 = .ok (.iload 5, 2) := by decide +kernel
theorem dX9_odds_46 : decode cX9_odds 46 = .ok (.iload_n 2, 1) := by decide +kernel
theorem dX9_odds_47 : decode cX9_odds 47 = .ok (.invokevirtual 297, 3) := by decide +kernel
theorem dX9_odds_50 : decode cX9_odds 50 = .ok (.ladd, 1) := by decide +kernel
theorem dX9_odds_51 : decode cX9_odds 51 = .ok (.lstore_n 3, 1) := by decide +kernel
theorem dX9_odds_52 : decode cX9_odds 52 = .ok (.iinc 5 1, 3) := by decide +kernel
theorem dX9_odds_55 : decode cX9_odds 55 = .ok (.goto (-32), 3) := by decide +kernel
theorem dX9_odds_58 : decode cX9_odds 58 = .ok (.lload_n 3, 1) := by decide +kernel
theorem dX9_odds_59 : decode cX9_odds 59 = .ok (.lconst 0, 1) := by decide +kernel
theorem dX9_odds_60 : decode cX9_odds 60 = .ok (.lcmp, 1) := by decide +kernel
theorem dX9_odds_61 : decode cX9_odds 61 = .ok (.ifCond .ne 5, 3) := by decide +kernel
theorem dX9_odds_64 : decode cX9_odds 64 = .ok (.iconst (-1), 1) := by decide +kernel
theorem dX9_odds_65 : decode cX9_odds 65 = .ok (.ireturn, 1) := by decide +kernel
theorem dX9_odds_66 : decode cX9_odds 66 = .ok (.aload_n 0, 1) := by decide +kernel
theorem dX9_odds_67 : decode cX9_odds 67 = .ok (.getfield 30, 3) := by decide +kernel
theorem dX9_odds_70 : decode cX9_odds 70 = .ok (.aload_n 0, 1) := by decide +kernel
theorem dX9_odds_71 : decode cX9_odds 71 = .ok (.getfield 82, 3) := by decide +kernel
theorem dX9_odds_74 : decode cX9_odds 74 = .ok (.aload_n 0, 1) := by decide +kernel
theorem dX9_odds_75 : decode cX9_odds 75 = .ok (.getfield 19, 3) := by decide +kernel
theorem dX9_odds_78 : decode cX9_odds 78 = .ok (.iload_n 1, 1) := by decide +kernel
theorem dX9_odds_79 : decode cX9_odds 79 = .ok (.iload_n 2, 1) := by decide +kernel
theorem dX9_odds_80 : decode cX9_odds 80 = .ok (.invokevirtual 297, 3) := by decide +kernel
theorem dX9_odds_83 : decode cX9_odds 83 = .ok (.lload_n 3, 1) := by decide +kernel
theorem dX9_odds_84 : decode cX9_odds 84 = .ok (.invokevirtual 190, 3) := by decide +kernel
theorem dX9_odds_87 : decode cX9_odds 87 = .ok (.iconst 1, 1) := by decide +kernel
theorem dX9_odds_88 : decode cX9_odds 88 = .ok (.ireturn, 1) := by decide +kernel
set_option maxRecDepth 20000 in
theorem ggX9_guess_X9_isStep : GoodIn wsX9_guess wsX9_isStep := goodIn_r _ [7] (by decide +kernel) (by decide +kernel)
set_option maxRecDepth 20000 in
theorem gX9_guess_X9_isStep : GoodIn wsX9_guess (va_wsS RX9 294 yX9_isStep wsX9_isStep) := goodIn_app (goodIn_of _ (by decide +kernel)) ggX9_guess_X9_isStep
set_option maxRecDepth 20000 in
theorem ggX9_guess_X1_productOf : GoodIn wsX9_guess wsX1_productOf := goodIn_r _ [12, 13, 14, 15, 16, 17, 18, 11, 19, 20, 21, 22, 23, 24, 50, 51, 52, 53, 54, 55, 56, 57, 58, 39, 40, 41, 42, 43, 44, 45, 46, 47, 48, 49] (by decide +kernel) (by decide +kernel)
set_option maxRecDepth 20000 in
theorem gX9_guess_X1_productOf : GoodIn wsX9_guess (wsV RX9 297 RX1 yX1_productOf wsX1_productOf) := goodIn_app (goodIn_of _ (by decide +kernel)) ggX9_guess_X1_productOf
theorem dX9_guess_0 : decode cX9_guess 0 = .ok (.iload_n 1, 1) := by decide +kernel
theorem dX9_guess_1 : decode cX9_guess 1 = .ok (.invokestatic 294, 3) := by decide +kernel
theorem dX9_guess_4 : decode cX9_guess 4 = .ok (.ifCond .ne 6, 3) := by decide +kernel
theorem dX9_guess_7 : decode cX9_guess 7 = .ok (.bipush (-2), 2) := by decide +kernel
theorem dX9_guess_9 : decode cX9_guess 9 = .ok (.ireturn, 1) := by decide +kernel
theorem dX9_guess_10 : decode cX9_guess 10 = .ok (.aload_n 0, 1) := by decide +kernel
theorem dX9_guess_11 : decode cX9_guess 11 = .ok (.getfield 19, 3) := by decide +kernel
theorem dX9_guess_14 : decode cX9_guess 14 = .ok (.getfield 115, 3) := by decide +kernel
theorem dX9_guess_17 : decode cX9_guess 17 = .ok (.ifCond .ne 6, 3) := by decide +kernel
theorem dX9_guess_20 : decode cX9_guess 20 = .ok (.bipush (-4), 2) := by decide +kernel
theorem dX9_guess_22 : decode cX9_guess 22 = .ok (.ireturn, 1) := by decide +kernel
theorem dX9_guess_23 : decode cX9_guess 23 = .ok (.iconst (-1), 1) := by decide +kernel
theorem dX9_guess_24 : decode cX9_guess 24 = .ok (.istore_n 2, 1) := by decide +kernel
theorem dX9_guess_25 : decode cX9_guess 25 = .ok (.lconst 0, 1) := by decide +kernel
theorem dX9_guess_26 : decode cX9_guess 26 = .ok (.lstore_n 3, 1) := by decide +kernel
theorem dX9_guess_27 : decode cX9_guess 27 = .ok (.iconst 0, 1) := by decide +kernel
theorem dX9_guess_28 : decode cX9_guess 28 = .ok (.istore 5, 2) := by decide +kernel
theorem dX9_guess_30 : decode cX9_guess 30 = .ok (.iload 5, 2) := by decide +kernel
theorem dX9_guess_32 : decode cX9_guess 32 = .ok (.aload_n 0, 1) := by decide +kernel
theorem dX9_guess_33 : decode cX9_guess 33 = .ok (.getfield 19, 3) := by decide +kernel
theorem dX9_guess_36 : decode cX9_guess 36 = .ok (.getfield 115, 3) := by decide +kernel
theorem dX9_guess_39 : decode cX9_guess 39 = .ok (.if_icmp .ge 38, 3) := by decide +kernel
theorem dX9_guess_42 : decode cX9_guess 42 = .ok (.aload_n 0, 1) := by decide +kernel
theorem dX9_guess_43 : decode cX9_guess 43 = .ok (.getfield 82, 3) := by decide +kernel
theorem dX9_guess_46 : decode cX9_guess 46 = .ok (.aload_n 0, 1) := by decide +kernel
theorem dX9_guess_47 : decode cX9_guess 47 = .ok (.getfield 19, 3) := by decide +kernel
theorem dX9_guess_50 : decode cX9_guess 50 = .ok (.iload 5, 2) := by decide +kernel
theorem dX9_guess_52 : decode cX9_guess 52 = .ok (.iload_n 1, 1) := by decide +kernel
theorem dX9_guess_53 : decode cX9_guess 53 = .ok (.invokevirtual 297, 3) := by decide +kernel
theorem dX9_guess_56 : decode cX9_guess 56 = .ok (.lstore 6, 2) := by decide +kernel
theorem dX9_guess_58 : decode cX9_guess 58 = .ok (.lload 6, 2) := by decide +kernel
theorem dX9_guess_60 : decode cX9_guess 60 = .ok (.lload_n 3, 1) := by decide +kernel
theorem dX9_guess_61 : decode cX9_guess 61 = .ok (.lcmp, 1) := by decide +kernel
theorem dX9_guess_62 : decode cX9_guess 62 = .ok (.ifCond .le 9, 3) := by decide +kernel
theorem dX9_guess_65 : decode cX9_guess 65 = .ok (.lload 6, 2) := by decide +kernel
theorem dX9_guess_67 : decode cX9_guess 67 = .ok (.lstore_n 3, 1) := by decide +kernel
theorem dX9_guess_68 : decode cX9_guess 68 = .ok (.iload 5, 2) := by decide +kernel
theorem dX9_guess_70 : decode cX9_guess 70 = .ok (.istore_n 2, 1) := by decide +kernel
theorem dX9_guess_71 : decode cX9_guess 71 = .ok (.iinc 5 1, 3) := by decide +kernel
theorem dX9_guess_74 : decode cX9_guess 74 = .ok (.goto (-44), 3) := by decide +kernel
theorem dX9_guess_77 : decode cX9_guess 77 = .ok (.iload_n 2, 1) := by decide +kernel
theorem dX9_guess_78 : decode cX9_guess 78 = .ok (.ireturn, 1) := by decide +kernel
theorem dX9_count_0 : decode cX9_count 0 = .ok (.iload_n 1, 1) := by decide +kernel
theorem dX9_count_1 : decode cX9_count 1 = .ok (.tableswitch 63 0 3 #[31, 39, 47, 55], 31) := by decide +kernel
theorem dX9_count_32 : decode cX9_count 32 = .ok (.aload_n 0, 1) := by decide +kernel
theorem dX9_count_33 : decode cX9_count 33 = .ok (.getfield 82, 3) := by decide +kernel
theorem dX9_count_36 : decode cX9_count 36 = .ok (.getfield 278, 3) := by decide +kernel
theorem dX9_count_39 : decode cX9_count 39 = .ok (.ireturn, 1) := by decide +kernel
theorem dX9_count_40 : decode cX9_count 40 = .ok (.aload_n 0, 1) := by decide +kernel
theorem dX9_count_41 : decode cX9_count 41 = .ok (.getfield 82, 3) := by decide +kernel
theorem dX9_count_44 : decode cX9_count 44 = .ok (.getfield 287, 3) := by decide +kernel
theorem dX9_count_47 : decode cX9_count 47 = .ok (.ireturn, 1) := by decide +kernel
theorem dX9_count_48 : decode cX9_count 48 = .ok (.aload_n 0, 1) := by decide +kernel
theorem dX9_count_49 : decode cX9_count 49 = .ok (.getfield 75, 3) := by decide +kernel
theorem dX9_count_52 : decode cX9_count 52 = .ok (.getfield 251, 3) := by decide +kernel
theorem dX9_count_55 : decode cX9_count 55 = .ok (.ireturn, 1) := by decide +kernel
theorem dX9_count_56 : decode cX9_count 56 = .ok (.aload_n 0, 1) := by decide +kernel
theorem dX9_count_57 : decode cX9_count 57 = .ok (.getfield 10, 3) := by decide +kernel
theorem dX9_count_60 : decode cX9_count 60 = .ok (.getfield 86, 3) := by decide +kernel
theorem dX9_count_63 : decode cX9_count 63 = .ok (.ireturn, 1) := by decide +kernel
theorem dX9_count_64 : decode cX9_count 64 = .ok (.iconst (-1), 1) := by decide +kernel
theorem dX9_count_65 : decode cX9_count 65 = .ok (.ireturn, 1) := by decide +kernel
theorem dX9_isStep_0 : decode cX9_isStep 0 = .ok (.iload_n 0, 1) := by decide +kernel
theorem dX9_isStep_1 : decode cX9_isStep 1 = .ok (.ifCond .lt 14, 3) := by decide +kernel
theorem dX9_isStep_4 : decode cX9_isStep 4 = .ok (.iload_n 0, 1) := by decide +kernel
theorem dX9_isStep_5 : decode cX9_isStep 5 = .ok (.sipush 999, 3) := by decide +kernel
theorem dX9_isStep_8 : decode cX9_isStep 8 = .ok (.if_icmp .gt 7, 3) := by decide +kernel
theorem dX9_isStep_11 : decode cX9_isStep 11 = .ok (.iconst 1, 1) := by decide +kernel
theorem dX9_isStep_12 : decode cX9_isStep 12 = .ok (.goto 4, 3) := by decide +kernel
theorem dX9_isStep_15 : decode cX9_isStep 15 = .ok (.iconst 0, 1) := by decide +kernel
theorem dX9_isStep_16 : decode cX9_isStep 16 = .ok (.ireturn, 1) := by decide +kernel
theorem kk_X9_odds_0 : Cond.fieldLink RX9 19 "PaidBySigns" "hire" "LPaidBySigns$Hire;" ∈ wsX9_odds := pm_X9_odds_r1 _ (List.mem_of_getElem? (i := 0) rfl)
theorem kk_X9_odds_1 : Cond.fieldLink RX9 115 "PaidBySigns$Hire" "works" "I" ∈ wsX9_odds := pm_X9_odds_r1 _ (List.mem_of_getElem? (i := 1) rfl)
theorem kk_X9_odds_2 : Cond.fieldLink RX9 82 "PaidBySigns" "diary" "LPaidBySigns$Diary;" ∈ wsX9_odds := pm_X9_odds_r1 _ (List.mem_of_getElem? (i := 2) rfl)
theorem kk_X9_odds_3 : Cond.fieldLink RX9 30 "PaidBySigns" "latest" "LPaidBySigns$Fraction;" ∈ wsX9_odds := pm_X9_odds_r1 _ (List.mem_of_getElem? (i := 3) rfl)
theorem kk_X9_guess_0 : Cond.fieldLink RX9 19 "PaidBySigns" "hire" "LPaidBySigns$Hire;" ∈ wsX9_guess := by decide +kernel
theorem kk_X9_guess_1 : Cond.fieldLink RX9 115 "PaidBySigns$Hire" "works" "I" ∈ wsX9_guess := by decide +kernel
theorem kk_X9_guess_2 : Cond.fieldLink RX9 82 "PaidBySigns" "diary" "LPaidBySigns$Diary;" ∈ wsX9_guess := by decide +kernel
theorem kk_X9_count_0 : Cond.fieldLink RX9 82 "PaidBySigns" "diary" "LPaidBySigns$Diary;" ∈ wsX9_count := by decide +kernel
theorem kk_X9_count_1 : Cond.fieldLink RX9 278 "PaidBySigns$Diary" "seen" "I" ∈ wsX9_count := by decide +kernel
theorem kk_X9_count_2 : Cond.fieldLink RX9 287 "PaidBySigns$Diary" "rights" "I" ∈ wsX9_count := by decide +kernel
theorem kk_X9_count_3 : Cond.fieldLink RX9 75 "PaidBySigns" "proofs" "LPaidBySigns$Proofs;" ∈ wsX9_count := by decide +kernel
theorem kk_X9_count_4 : Cond.fieldLink RX9 251 "PaidBySigns$Proofs" "lowerNumber" "I" ∈ wsX9_count := by decide +kernel
theorem kk_X9_count_5 : Cond.fieldLink RX9 10 "PaidBySigns" "reader" "LPaidBySigns$Reader;" ∈ wsX9_count := by decide +kernel
theorem kk_X9_count_6 : Cond.fieldLink RX9 86 "PaidBySigns$Reader" "length" "I" ∈ wsX9_count := by decide +kernel
theorem iw_X9_odds_X9 : ∀ w ∈ wsX90, w ∈ wsX9_odds := pw_X9_odds_X9
theorem iw_X9_odds_X3 : ∀ w ∈ wsX30, w ∈ wsX9_odds := pw_X9_odds_X3
theorem iw_X9_guess_X9 : ∀ w ∈ wsX90, w ∈ wsX9_guess := by decide +kernel
theorem iw_X9_guess_X3 : ∀ w ∈ wsX30, w ∈ wsX9_guess := by decide +kernel
theorem iw_X9_count_X9 : ∀ w ∈ wsX90, w ∈ wsX9_count := by decide +kernel
theorem iw_X9_count_X1 : ∀ w ∈ wsX10, w ∈ wsX9_count := by decide +kernel
theorem iw_X9_count_X6 : ∀ w ∈ wsX60, w ∈ wsX9_count := by decide +kernel
theorem iw_X9_count_X7 : ∀ w ∈ wsX70, w ∈ wsX9_count := by decide +kernel
